theorem dX12_init_0 : decode cX12_init 0 = .ok (.aload_n 0, 1) := by decide +kernel
theorem dX12_init_1 : decode cX12_init 1 = .ok (.invokespecial 3, 3) := by decide +kernel
theorem dX12_init_4 : decode cX12_init 4 = .ok (.aload_n 0, 1) := by decide +kernel
theorem dX12_init_5 : decode cX12_init 5 = .ok (.sipush 240, 3) := by decide +kernel
theorem dX12_init_8 : decode cX12_init 8 = .ok (.newarray .byte, 2) := by decide +kernel
theorem dX12_init_10 : decode cX12_init 10 = .ok (.putfield 9, 3) := by decide +kernel
theorem dX12_init_13 : decode cX12_init 13 = .ok (.aload_n 0, 1) := by decide +kernel
theorem dX12_init_14 : decode cX12_init 14 = .ok (.sipush 960, 3) := by decide +kernel
theorem dX12_init_17 : decode cX12_init 17 = .ok (.newarray .byte, 2) := by decide +kernel
theorem dX12_init_19 : decode cX12_init 19 = .ok (.putfield 13, 3) := by decide +kernel
theorem dX12_init_22 : decode cX12_init 22 = .ok (.aload_n 0, 1) := by decide +kernel
theorem dX12_init_23 : decode cX12_init 23 = .ok (.iconst 4, 1) := by decide +kernel
theorem dX12_init_24 : decode cX12_init 24 = .ok (.newarray .int, 2) := by decide +kernel
theorem dX12_init_26 : decode cX12_init 26 = .ok (.putfield 16, 3) := by decide +kernel
theorem dX12_init_29 : decode cX12_init 29 = .ok (.aload_n 0, 1) := by decide +kernel
theorem dX12_init_30 : decode cX12_init 30 = .ok (.sipush 128, 3) := by decide +kernel
theorem dX12_init_33 : decode cX12_init 33 = .ok (.newarray .int, 2) := by decide +kernel
theorem dX12_init_35 : decode cX12_init 35 = .ok (.putfield 20, 3) := by decide +kernel
theorem dX12_init_38 : decode cX12_init 38 = .ok (.aload_n 0, 1) := by decide +kernel
theorem dX12_init_39 : decode cX12_init 39 = .ok (.aload_n 0, 1) := by decide +kernel
theorem dX12_init_40 : decode cX12_init 40 = .ok (.getfield 9, 3) := by decide +kernel
theorem dX12_init_43 : decode cX12_init 43 = .ok (.putfield 23, 3) := by decide +kernel
theorem dX12_init_46 : decode cX12_init 46 = .ok (.aload_n 0, 1) := by decide +kernel
theorem dX12_init_47 : decode cX12_init 47 = .ok (.ldc 26, 2) := by decide +kernel
theorem dX12_init_49 : decode cX12_init 49 = .ok (.putfield 28, 3) := by decide +kernel
theorem dX12_init_52 : decode cX12_init 52 = .ok (.aload_n 0, 1) := by decide +kernel
theorem dX12_init_53 : decode cX12_init 53 = .ok (.ldc 32, 2) := by decide +kernel
theorem dX12_init_55 : decode cX12_init 55 = .ok (.putfield 34, 3) := by decide +kernel
theorem dX12_init_58 : decode cX12_init 58 = .ok (.aload_n 0, 1) := by decide +kernel
theorem dX12_init_59 : decode cX12_init 59 = .ok (.iconst 3, 1) := by decide +kernel
theorem dX12_init_60 : decode cX12_init 60 = .ok (.newarray .int, 2) := by decide +kernel
theorem dX12_init_62 : decode cX12_init 62 = .ok (.putfield 37, 3) := by decide +kernel
theorem dX12_init_65 : decode cX12_init 65 = .ok (.aload_n 0, 1) := by decide +kernel
theorem dX12_init_66 : decode cX12_init 66 = .ok (.iconst 3, 1) := by decide +kernel
theorem dX12_init_67 : decode cX12_init 67 = .ok (.newarray .int, 2) := by decide +kernel
theorem dX12_init_69 : decode cX12_init 69 = .ok (.putfield 40, 3) := by decide +kernel
theorem dX12_init_72 : decode cX12_init 72 = .ok (.aload_n 0, 1) := by decide +kernel
theorem dX12_init_73 : decode cX12_init 73 = .ok (.bipush 12, 2) := by decide +kernel
theorem dX12_init_75 : decode cX12_init 75 = .ok (.newarray .int, 2) := by decide +kernel
theorem dX12_init_77 : decode cX12_init 77 = .ok (.putfield 43, 3) := by decide +kernel
theorem dX12_init_80 : decode cX12_init 80 = .ok (.aload_n 0, 1) := by decide +kernel
theorem dX12_init_81 : decode cX12_init 81 = .ok (.bipush 12, 2) := by decide +kernel
theorem dX12_init_83 : decode cX12_init 83 = .ok (.newarray .int, 2) := by decide +kernel
theorem dX12_init_85 : decode cX12_init 85 = .ok (.putfield 46, 3) := by decide +kernel
theorem dX12_init_88 : decode cX12_init 88 = .ok (.aload_n 0, 1) := by decide +kernel
theorem dX12_init_89 : decode cX12_init 89 = .ok (.bipush 18, 2) := by decide +kernel
theorem dX12_init_91 : decode cX12_init 91 = .ok (.newarray .int, 2) := by decide +kernel
theorem dX12_init_93 : decode cX12_init 93 = .ok (.putfield 49, 3) := by decide +kernel
theorem dX12_init_96 : decode cX12_init 96 = .ok (.aload_n 0, 1) := by decide +kernel
theorem dX12_init_97 : decode cX12_init 97 = .ok (.bipush 18, 2) := by decide +kernel
theorem dX12_init_99 : decode cX12_init 99 = .ok (.newarray .int, 2) := by decide +kernel
theorem dX12_init_101 : decode cX12_init 101 = .ok (.putfield 52, 3) := by decide +kernel
theorem dX12_init_104 : decode cX12_init 104 = .ok (.aload_n 0, 1) := by decide +kernel
theorem dX12_init_105 : decode cX12_init 105 = .ok (.sipush 300, 3) := by decide +kernel
theorem dX12_init_108 : decode cX12_init 108 = .ok (.newarray .int, 2) := by decide +kernel
theorem dX12_init_110 : decode cX12_init 110 = .ok (.putfield 55, 3) := by decide +kernel
theorem dX12_init_113 : decode cX12_init 113 = .ok (.aload_n 0, 1) := by decide +kernel
theorem dX12_init_114 : decode cX12_init 114 = .ok (.iconst 5, 1) := by decide +kernel
theorem dX12_init_115 : decode cX12_init 115 = .ok (.newarray .int, 2) := by decide +kernel
theorem dX12_init_117 : decode cX12_init 117 = .ok (.putfield 58, 3) := by decide +kernel
theorem dX12_init_120 : decode cX12_init 120 = .ok (.aload_n 0, 1) := by decide +kernel
theorem dX12_init_121 : decode cX12_init 121 = .ok (.sipush 417, 3) := by decide +kernel
theorem dX12_init_124 : decode cX12_init 124 = .ok (.newarray .int, 2) := by decide +kernel
theorem dX12_init_126 : decode cX12_init 126 = .ok (.putfield 61, 3) := by decide +kernel
theorem dX12_init_129 : decode cX12_init 129 = .ok (.aload_n 0, 1) := by decide +kernel
theorem dX12_init_130 : decode cX12_init 130 = .ok (.sipush 236, 3) := by decide +kernel
theorem dX12_init_133 : decode cX12_init 133 = .ok (.newarray .int, 2) := by decide +kernel
theorem dX12_init_135 : decode cX12_init 135 = .ok (.putfield 64, 3) := by decide +kernel
theorem dX12_init_138 : decode cX12_init 138 = .ok (.aload_n 0, 1) := by decide +kernel
theorem dX12_init_139 : decode cX12_init 139 = .ok (.iconst 5, 1) := by decide +kernel
theorem dX12_init_140 : decode cX12_init 140 = .ok (.newarray .int, 2) := by decide +kernel
theorem dX12_init_142 : decode cX12_init 142 = .ok (.putfield 67, 3) := by decide +kernel
theorem dX12_init_145 : decode cX12_init 145 = .ok (.aload_n 0, 1) := by decide +kernel
theorem dX12_init_146 : decode cX12_init 146 = .ok (.iconst (-1), 1) := by decide +kernel
theorem dX12_init_147 : decode cX12_init 147 = .ok (.putfield 70, 3) := by decide +kernel
theorem dX12_init_150 : decode cX12_init 150 = .ok (.aload_n 0, 1) := by decide +kernel
theorem dX12_init_151 : decode cX12_init 151 = .ok (.iconst 2, 1) := by decide +kernel
theorem dX12_init_152 : decode cX12_init 152 = .ok (.putfield 74, 3) := by decide +kernel
theorem dX12_init_155 : decode cX12_init 155 = .ok (.aload_n 0, 1) := by decide +kernel
theorem dX12_init_156 : decode cX12_init 156 = .ok (.sipush 8191, 3) := by decide +kernel
theorem dX12_init_159 : decode cX12_init 159 = .ok (.newarray .long, 2) := by decide +kernel
theorem dX12_init_161 : decode cX12_init 161 = .ok (.putfield 77, 3) := by decide +kernel
theorem dX12_init_164 : decode cX12_init 164 = .ok (.aload_n 0, 1) := by decide +kernel
theorem dX12_init_165 : decode cX12_init 165 = .ok (.sipush 8191, 3) := by decide +kernel
theorem dX12_init_168 : decode cX12_init 168 = .ok (.newarray .int, 2) := by decide +kernel
theorem dX12_init_170 : decode cX12_init 170 = .ok (.putfield 81, 3) := by decide +kernel
theorem dX12_init_173 : decode cX12_init 173 = .ok (.aload_n 0, 1) := by decide +kernel
theorem dX12_init_174 : decode cX12_init 174 = .ok (.sipush 16680, 3) := by decide +kernel
theorem dX12_init_177 : decode cX12_init 177 = .ok (.newarray .int, 2) := by decide +kernel
theorem dX12_init_179 : decode cX12_init 179 = .ok (.putfield 84, 3) := by decide +kernel
theorem dX12_init_182 : decode cX12_init 182 = .ok (.aload_n 0, 1) := by decide +kernel
theorem dX12_init_183 : decode cX12_init 183 = .ok (.sipush 732, 3) := by decide +kernel
theorem dX12_init_186 : decode cX12_init 186 = .ok (.newarray .int, 2) := by decide +kernel
theorem dX12_init_188 : decode cX12_init 188 = .ok (.putfield 87, 3) := by decide +kernel
theorem dX12_init_191 : decode cX12_init 191 = .ok (.aload_n 0, 1) := by decide +kernel
theorem dX12_init_192 : decode cX12_init 192 = .ok (.bipush 30, 2) := by decide +kernel
theorem dX12_init_194 : decode cX12_init 194 = .ok (.newarray .int, 2) := by decide +kernel
theorem dX12_init_196 : decode cX12_init 196 = .ok (.putfield 90, 3) := by decide +kernel
theorem dX12_init_199 : decode cX12_init 199 = .ok (.aload_n 0, 1) := by decide +kernel
theorem dX12_init_200 : decode cX12_init 200 = .ok (.sipush 366, 3) := by decide +kernel
theorem dX12_init_203 : decode cX12_init 203 = .ok (.newarray .int, 2) := by decide +kernel
theorem dX12_init_205 : decode cX12_init 205 = .ok (.putfield 93, 3) := by decide +kernel
theorem dX12_init_208 : decode cX12_init 208 = .ok (.aload_n 0, 1) := by decide +kernel
theorem dX12_init_209 : decode cX12_init 209 = .ok (.bipush 6, 2) := by decide +kernel
theorem dX12_init_211 : decode cX12_init 211 = .ok (.newarray .boolean, 2) := by decide +kernel
theorem dX12_init_213 : decode cX12_init 213 = .ok (.putfield 96, 3) := by decide +kernel
theorem dX12_init_216 : decode cX12_init 216 = .ok (.aload_n 0, 1) := by decide +kernel
theorem dX12_init_217 : decode cX12_init 217 = .ok (.bipush 72, 2) := by decide +kernel
theorem dX12_init_219 : decode cX12_init 219 = .ok (.newarray .int, 2) := by decide +kernel
theorem dX12_init_221 : decode cX12_init 221 = .ok (.putfield 100, 3) := by decide +kernel
theorem dX12_init_224 : decode cX12_init 224 = .ok (.aload_n 0, 1) := by decide +kernel
theorem dX12_init_225 : decode cX12_init 225 = .ok (.bipush 30, 2) := by decide +kernel
theorem dX12_init_227 : decode cX12_init 227 = .ok (.newarray .int, 2) := by decide +kernel
theorem dX12_init_229 : decode cX12_init 229 = .ok (.putfield 103, 3) := by decide +kernel
theorem dX12_init_232 : decode cX12_init 232 = .ok (.aload_n 0, 1) := by decide +kernel
theorem dX12_init_233 : decode cX12_init 233 = .ok (.sipush 417, 3) := by decide +kernel
theorem dX12_init_236 : decode cX12_init 236 = .ok (.newarray .int, 2) := by decide +kernel
theorem dX12_init_238 : decode cX12_init 238 = .ok (.putfield 106, 3) := by decide +kernel
theorem dX12_init_241 : decode cX12_init 241 = .ok (.return_, 1) := by decide +kernel
theorem dX12_thrown_0 : decode cX12_thrown 0 = .ok (.aload_n 0, 1) := by decide +kernel
theorem dX12_thrown_1 : decode cX12_thrown 1 = .ok (.getfield 109, 3) := by decide +kernel
theorem dX12_thrown_4 : decode cX12_thrown 4 = .ok (.ireturn, 1) := by decide +kernel
theorem dX12_isIn_0 : decode cX12_isIn 0 = .ok (.lload_n 0, 1) := by decide +kernel
theorem dX12_isIn_1 : decode cX12_isIn 1 = .ok (.lload_n 2, 1) := by decide +kernel
theorem dX12_isIn_2 : decode cX12_isIn 2 = .ok (.lcmp, 1) := by decide +kernel
theorem dX12_isIn_3 : decode cX12_isIn 3 = .ok (.ifCond .lt 14, 3) := by decide +kernel
theorem dX12_isIn_6 : decode cX12_isIn 6 = .ok (.lload_n 0, 1) := by decide +kernel
theorem dX12_isIn_7 : decode cX12_isIn 7 = .ok (.lload 4, 2) := by decide +kernel
theorem dX12_isIn_9 : decode cX12_isIn 9 = .ok (.lcmp, 1) := by decide +kernel
theorem dX12_isIn_10 : decode cX12_isIn 10 = .ok (.ifCond .gt 7, 3) := by decide +kernel
theorem dX12_isIn_13 : decode cX12_isIn 13 = .ok (.iconst 1, 1) := by decide +kernel
theorem dX12_isIn_14 : decode cX12_isIn 14 = .ok (.goto 4, 3) := by decide +kernel
theorem dX12_isIn_17 : decode cX12_isIn 17 = .ok (.iconst 0, 1) := by decide +kernel
theorem dX12_isIn_18 : decode cX12_isIn 18 = .ok (.ireturn, 1) := by decide +kernel
theorem dX12_has_0 : decode cX12_has 0 = .ok (.iload_n 0, 1) := by decide +kernel
theorem dX12_has_1 : decode cX12_has 1 = .ok (.iload_n 1, 1) := by decide +kernel
theorem dX12_has_2 : decode cX12_has 2 = .ok (.ishr, 1) := by decide +kernel
theorem dX12_has_3 : decode cX12_has 3 = .ok (.iconst 1, 1) := by decide +kernel
theorem dX12_has_4 : decode cX12_has 4 = .ok (.iand, 1) := by decide +kernel
theorem dX12_has_5 : decode cX12_has 5 = .ok (.iconst 1, 1) := by decide +kernel
theorem dX12_has_6 : decode cX12_has 6 = .ok (.if_icmp .ne 7, 3) := by decide +kernel
theorem dX12_has_9 : decode cX12_has 9 = .ok (.iconst 1, 1) := by decide +kernel
theorem dX12_has_10 : decode cX12_has 10 = .ok (.goto 4, 3) := by decide +kernel
theorem dX12_has_13 : decode cX12_has 13 = .ok (.iconst 0, 1) := by decide +kernel
theorem dX12_has_14 : decode cX12_has 14 = .ok (.ireturn, 1) := by decide +kernel
theorem dX12_isAmong_0 : decode cX12_isAmong 0 = .ok (.iconst 0, 1) := by decide +kernel
theorem dX12_isAmong_1 : decode cX12_isAmong 1 = .ok (.istore_n 2, 1) := by decide +kernel
theorem dX12_isAmong_2 : decode cX12_isAmong 2 = .ok (.iload_n 2, 1) := by decide +kernel
theorem dX12_isAmong_3 : decode cX12_isAmong 3 = .ok (.aload_n 0, 1) := by decide +kernel
theorem dX12_isAmong_4 : decode cX12_isAmong 4 = .ok (.invokevirtual 112, 3) := by decide +kernel
theorem dX12_isAmong_7 : decode cX12_isAmong 7 = .ok (.if_icmp .ge 20, 3) := by decide +kernel
theorem dX12_isAmong_10 : decode cX12_isAmong 10 = .ok (.aload_n 0, 1) := by decide +kernel
theorem dX12_isAmong_11 : decode cX12_isAmong 11 = .ok (.iload_n 2, 1) := by decide +kernel
theorem dX12_isAmong_12 : decode cX12_isAmong 12 = .ok (.invokevirtual 118, 3) := by decide +kernel
theorem dX12_isAmong_15 : decode cX12_isAmong 15 = .ok (.iload_n 1, 1) := by decide +kernel
theorem dX12_isAmong_16 : decode cX12_isAmong 16 = .ok (.if_icmp .ne 5, 3) := by decide +kernel
theorem dX12_isAmong_19 : decode cX12_isAmong 19 = .ok (.iconst 1, 1) := by decide +kernel
theorem dX12_isAmong_20 : decode cX12_isAmong 20 = .ok (.ireturn, 1) := by decide +kernel
theorem dX12_isAmong_21 : decode cX12_isAmong 21 = .ok (.iinc 2 1, 3) := by decide +kernel
theorem dX12_isAmong_24 : decode cX12_isAmong 24 = .ok (.goto (-22), 3) := by decide +kernel
theorem dX12_isAmong_27 : decode cX12_isAmong 27 = .ok (.iconst 0, 1) := by decide +kernel
theorem dX12_isAmong_28 : decode cX12_isAmong 28 = .ok (.ireturn, 1) := by decide +kernel
theorem dX12_bytesIn_0 : decode cX12_bytesIn 0 = .ok (.iconst 0, 1) := by decide +kernel
theorem dX12_bytesIn_1 : decode cX12_bytesIn 1 = .ok (.istore_n 1, 1) := by decide +kernel
theorem dX12_bytesIn_2 : decode cX12_bytesIn 2 = .ok (.bipush 24, 2) := by decide +kernel
theorem dX12_bytesIn_4 : decode cX12_bytesIn 4 = .ok (.istore_n 2, 1) := by decide +kernel
theorem dX12_bytesIn_5 : decode cX12_bytesIn 5 = .ok (.iload_n 2, 1) := by decide +kernel
theorem dX12_bytesIn_6 : decode cX12_bytesIn 6 = .ok (.ifCond .lt 27, 3) := by decide +kernel
theorem dX12_bytesIn_9 : decode cX12_bytesIn 9 = .ok (.iload_n 1, 1) := by decide +kernel
theorem dX12_bytesIn_10 : decode cX12_bytesIn 10 = .ok (.iload_n 0, 1) := by decide +kernel
theorem dX12_bytesIn_11 : decode cX12_bytesIn 11 = .ok (.iload_n 2, 1) := by decide +kernel
theorem dX12_bytesIn_12 : decode cX12_bytesIn 12 = .ok (.ishr, 1) := by decide +kernel
theorem dX12_bytesIn_13 : decode cX12_bytesIn 13 = .ok (.sipush 255, 3) := by decide +kernel
theorem dX12_bytesIn_16 : decode cX12_bytesIn 16 = .ok (.iand, 1) := by decide +kernel
theorem dX12_bytesIn_17 : decode cX12_bytesIn 17 = .ok (.ifCond .eq 7, 3) := by decide +kernel
theorem dX12_bytesIn_20 : decode cX12_bytesIn 20 = .ok (.iconst 1, 1) := by decide +kernel
theorem dX12_bytesIn_21 : decode cX12_bytesIn 21 = .ok (.goto 4, 3) := by decide +kernel
theorem dX12_bytesIn_24 : decode cX12_bytesIn 24 = .ok (.iconst 0, 1) := by decide +kernel
theorem dX12_bytesIn_25 : decode cX12_bytesIn 25 = .ok (.iadd, 1) := by decide +kernel
theorem dX12_bytesIn_26 : decode cX12_bytesIn 26 = .ok (.istore_n 1, 1) := by decide +kernel
theorem dX12_bytesIn_27 : decode cX12_bytesIn 27 = .ok (.iinc 2 (-8), 3) := by decide +kernel
theorem dX12_bytesIn_30 : decode cX12_bytesIn 30 = .ok (.goto (-25), 3) := by decide +kernel
theorem dX12_bytesIn_33 : decode cX12_bytesIn 33 = .ok (.iload_n 1, 1) := by decide +kernel
theorem dX12_bytesIn_34 : decode cX12_bytesIn 34 = .ok (.ireturn, 1) := by decide +kernel
theorem dX12_put_0 : decode cX12_put 0 = .ok (.bipush 24, 2) := by decide +kernel
theorem dX12_put_2 : decode cX12_put 2 = .ok (.istore_n 2, 1) := by decide +kernel
theorem dX12_put_3 : decode cX12_put 3 = .ok (.iload_n 2, 1) := by decide +kernel
theorem dX12_put_4 : decode cX12_put 4 = .ok (.ifCond .lt 45, 3) := by decide +kernel
theorem dX12_put_7 : decode cX12_put 7 = .ok (.iload_n 1, 1) := by decide +kernel
theorem dX12_put_8 : decode cX12_put 8 = .ok (.iload_n 2, 1) := by decide +kernel
theorem dX12_put_9 : decode cX12_put 9 = .ok (.ishr, 1) := by decide +kernel
theorem dX12_put_10 : decode cX12_put 10 = .ok (.sipush 255, 3) := by decide +kernel
theorem dX12_put_13 : decode cX12_put 13 = .ok (.iand, 1) := by decide +kernel
theorem dX12_put_14 : decode cX12_put 14 = .ok (.ifCond .ne 6, 3) := by decide +kernel
theorem dX12_put_17 : decode cX12_put 17 = .ok (.goto 26, 3) := by decide +kernel
theorem dX12_put_20 : decode cX12_put 20 = .ok (.aload_n 0, 1) := by decide +kernel
theorem dX12_put_21 : decode cX12_put 21 = .ok (.getfield 9, 3) := by decide +kernel
theorem dX12_put_24 : decode cX12_put 24 = .ok (.aload_n 0, 1) := by decide +kernel
theorem dX12_put_25 : decode cX12_put 25 = .ok (.getfield 122, 3) := by decide +kernel
theorem dX12_put_28 : decode cX12_put 28 = .ok (.iload_n 1, 1) := by decide +kernel
theorem dX12_put_29 : decode cX12_put 29 = .ok (.iload_n 2, 1) := by decide +kernel
theorem dX12_put_30 : decode cX12_put 30 = .ok (.ishr, 1) := by decide +kernel
theorem dX12_put_31 : decode cX12_put 31 = .ok (.i2b, 1) := by decide +kernel
theorem dX12_put_32 : decode cX12_put 32 = .ok (.bastore, 1) := by decide +kernel
theorem dX12_put_33 : decode cX12_put 33 = .ok (.aload_n 0, 1) := by decide +kernel
theorem dX12_put_34 : decode cX12_put 34 = .ok (.dup, 1) := by decide +kernel
theorem dX12_put_35 : decode cX12_put 35 = .ok (.getfield 122, 3) := by decide +kernel
theorem dX12_put_38 : decode cX12_put 38 = .ok (.iconst 1, 1) := by decide +kernel
theorem dX12_put_39 : decode cX12_put 39 = .ok (.iadd, 1) := by decide +kernel
theorem dX12_put_40 : decode cX12_put 40 = .ok (.putfield 122, 3) := by decide +kernel
theorem dX12_put_43 : decode cX12_put 43 = .ok (.iinc 2 (-8), 3) := by decide +kernel
theorem dX12_put_46 : decode cX12_put 46 = .ok (.goto (-43), 3) := by decide +kernel
theorem dX12_put_49 : decode cX12_put 49 = .ok (.return_, 1) := by decide +kernel
theorem dX12_feed_0 : decode cX12_feed 0 = .ok (.aload_n 0, 1) := by decide +kernel
theorem dX12_feed_1 : decode cX12_feed 1 = .ok (.iconst 0, 1) := by decide +kernel
theorem dX12_feed_2 : decode cX12_feed 2 = .ok (.putfield 109, 3) := by decide +kernel
theorem dX12_feed_5 : decode cX12_feed 5 = .ok (.aload_n 0, 1) := by decide +kernel
theorem dX12_feed_6 : decode cX12_feed 6 = .ok (.getfield 122, 3) := by decide +kernel
theorem dX12_feed_9 : decode cX12_feed 9 = .ok (.iload_n 1, 1) := by decide +kernel
theorem dX12_feed_10 : decode cX12_feed 10 = .ok (.invokestatic 124, 3) := by decide +kernel
theorem dX12_feed_13 : decode cX12_feed 13 = .ok (.iadd, 1) := by decide +kernel
theorem dX12_feed_14 : decode cX12_feed 14 = .ok (.iload_n 2, 1) := by decide +kernel
theorem dX12_feed_15 : decode cX12_feed 15 = .ok (.invokestatic 124, 3) := by decide +kernel
theorem dX12_feed_18 : decode cX12_feed 18 = .ok (.iadd, 1) := by decide +kernel
theorem dX12_feed_19 : decode cX12_feed 19 = .ok (.iload_n 3, 1) := by decide +kernel
theorem dX12_feed_20 : decode cX12_feed 20 = .ok (.invokestatic 124, 3) := by decide +kernel
theorem dX12_feed_23 : decode cX12_feed 23 = .ok (.iadd, 1) := by decide +kernel
theorem dX12_feed_24 : decode cX12_feed 24 = .ok (.iload 4, 2) := by decide +kernel
theorem dX12_feed_26 : decode cX12_feed 26 = .ok (.invokestatic 124, 3) := by decide +kernel
theorem dX12_feed_29 : decode cX12_feed 29 = .ok (.iadd, 1) := by decide +kernel
theorem dX12_feed_30 : decode cX12_feed 30 = .ok (.iload 5, 2) := by decide +kernel
theorem dX12_feed_32 : decode cX12_feed 32 = .ok (.invokestatic 124, 3) := by decide +kernel
theorem dX12_feed_35 : decode cX12_feed 35 = .ok (.iadd, 1) := by decide +kernel
theorem dX12_feed_36 : decode cX12_feed 36 = .ok (.sipush 240, 3) := by decide +kernel
theorem dX12_feed_39 : decode cX12_feed 39 = .ok (.if_icmp .le 5, 3) := by decide +kernel
theorem dX12_feed_42 : decode cX12_feed 42 = .ok (.iconst (-1), 1) := by decide +kernel
theorem dX12_feed_43 : decode cX12_feed 43 = .ok (.ireturn, 1) := by decide +kernel
theorem dX12_feed_44 : decode cX12_feed 44 = .ok (.aload_n 0, 1) := by decide +kernel
theorem dX12_feed_45 : decode cX12_feed 45 = .ok (.iload_n 1, 1) := by decide +kernel
theorem dX12_feed_46 : decode cX12_feed 46 = .ok (.invokevirtual 128, 3) := by decide +kernel
theorem dX12_feed_49 : decode cX12_feed 49 = .ok (.aload_n 0, 1) := by decide +kernel
theorem dX12_feed_50 : decode cX12_feed 50 = .ok (.iload_n 2, 1) := by decide +kernel
theorem dX12_feed_51 : decode cX12_feed 51 = .ok (.invokevirtual 128, 3) := by decide +kernel
theorem dX12_feed_54 : decode cX12_feed 54 = .ok (.aload_n 0, 1) := by decide +kernel
theorem dX12_feed_55 : decode cX12_feed 55 = .ok (.iload_n 3, 1) := by decide +kernel
theorem dX12_feed_56 : decode cX12_feed 56 = .ok (.invokevirtual 128, 3) := by decide +kernel
theorem dX12_feed_59 : decode cX12_feed 59 = .ok (.aload_n 0, 1) := by decide +kernel
theorem dX12_feed_60 : decode cX12_feed 60 = .ok (.iload 4, 2) := by decide +kernel
theorem dX12_feed_62 : decode cX12_feed 62 = .ok (.invokevirtual 128, 3) := by decide +kernel
theorem dX12_feed_65 : decode cX12_feed 65 = .ok (.aload_n 0, 1) := by decide +kernel
theorem dX12_feed_66 : decode cX12_feed 66 = .ok (.iload 5, 2) := by decide +kernel
theorem dX12_feed_68 : decode cX12_feed 68 = .ok (.invokevirtual 128, 3) := by decide +kernel
theorem dX12_feed_71 : decode cX12_feed 71 = .ok (.aload_n 0, 1) := by decide +kernel
theorem dX12_feed_72 : decode cX12_feed 72 = .ok (.getfield 122, 3) := by decide +kernel
theorem dX12_feed_75 : decode cX12_feed 75 = .ok (.ireturn, 1) := by decide +kernel
theorem dX12_end_0 : decode cX12_end 0 = .ok (.aload_n 0, 1) := by decide +kernel
theorem dX12_end_1 : decode cX12_end 1 = .ok (.iconst 0, 1) := by decide +kernel
theorem dX12_end_2 : decode cX12_end 2 = .ok (.putfield 109, 3) := by decide +kernel
theorem dX12_end_5 : decode cX12_end 5 = .ok (.iload_n 1, 1) := by decide +kernel
theorem dX12_end_6 : decode cX12_end 6 = .ok (.ifCond .lt 11, 3) := by decide +kernel
theorem dX12_end_9 : decode cX12_end 9 = .ok (.iload_n 1, 1) := by decide +kernel
theorem dX12_end_10 : decode cX12_end 10 = .ok (.aload_n 0, 1) := by decide +kernel
theorem dX12_end_11 : decode cX12_end 11 = .ok (.getfield 122, 3) := by decide +kernel
theorem dX12_end_14 : decode cX12_end 14 = .ok (.if_icmp .le 5, 3) := by decide +kernel
theorem dX12_end_17 : decode cX12_end 17 = .ok (.iconst 0, 1) := by decide +kernel
theorem dX12_end_18 : decode cX12_end 18 = .ok (.ireturn, 1) := by decide +kernel
theorem dX12_end_19 : decode cX12_end 19 = .ok (.aload_n 0, 1) := by decide +kernel
theorem dX12_end_20 : decode cX12_end 20 = .ok (.iload_n 1, 1) := by decide +kernel
theorem dX12_end_21 : decode cX12_end 21 = .ok (.putfield 122, 3) := by decide +kernel
theorem dX12_end_24 : decode cX12_end 24 = .ok (.iconst 1, 1) := by decide +kernel
theorem dX12_end_25 : decode cX12_end 25 = .ok (.ireturn, 1) := by decide +kernel
theorem dX12_look_0 : decode cX12_look 0 = .ok (.aload_n 0, 1) := by decide +kernel
theorem dX12_look_1 : decode cX12_look 1 = .ok (.getfield 132, 3) := by decide +kernel
theorem dX12_look_4 : decode cX12_look 4 = .ok (.aload_n 0, 1) := by decide +kernel
theorem dX12_look_5 : decode cX12_look 5 = .ok (.getfield 135, 3) := by decide +kernel
theorem dX12_look_8 : decode cX12_look 8 = .ok (.if_icmp .ge 35, 3) := by decide +kernel
theorem dX12_look_11 : decode cX12_look 11 = .ok (.aload_n 0, 1) := by decide +kernel
theorem dX12_look_12 : decode cX12_look 12 = .ok (.getfield 23, 3) := by decide +kernel
theorem dX12_look_15 : decode cX12_look 15 = .ok (.aload_n 0, 1) := by decide +kernel
theorem dX12_look_16 : decode cX12_look 16 = .ok (.getfield 138, 3) := by decide +kernel
theorem dX12_look_19 : decode cX12_look 19 = .ok (.aload_n 0, 1) := by decide +kernel
theorem dX12_look_20 : decode cX12_look 20 = .ok (.getfield 132, 3) := by decide +kernel
theorem dX12_look_23 : decode cX12_look 23 = .ok (.iadd, 1) := by decide +kernel
theorem dX12_look_24 : decode cX12_look 24 = .ok (.baload, 1) := by decide +kernel
theorem dX12_look_25 : decode cX12_look 25 = .ok (.bipush 32, 2) := by decide +kernel
theorem dX12_look_27 : decode cX12_look 27 = .ok (.if_icmp .ne 16, 3) := by decide +kernel
theorem dX12_look_30 : decode cX12_look 30 = .ok (.aload_n 0, 1) := by decide +kernel
theorem dX12_look_31 : decode cX12_look 31 = .ok (.dup, 1) := by decide +kernel
theorem dX12_look_32 : decode cX12_look 32 = .ok (.getfield 132, 3) := by decide +kernel
theorem dX12_look_35 : decode cX12_look 35 = .ok (.iconst 1, 1) := by decide +kernel
theorem dX12_look_36 : decode cX12_look 36 = .ok (.iadd, 1) := by decide +kernel
theorem dX12_look_37 : decode cX12_look 37 = .ok (.putfield 132, 3) := by decide +kernel
theorem dX12_look_40 : decode cX12_look 40 = .ok (.goto (-40), 3) := by decide +kernel
theorem dX12_look_43 : decode cX12_look 43 = .ok (.aload_n 0, 1) := by decide +kernel
theorem dX12_look_44 : decode cX12_look 44 = .ok (.getfield 132, 3) := by decide +kernel
theorem dX12_look_47 : decode cX12_look 47 = .ok (.aload_n 0, 1) := by decide +kernel
theorem dX12_look_48 : decode cX12_look 48 = .ok (.getfield 135, 3) := by decide +kernel
theorem dX12_look_51 : decode cX12_look 51 = .ok (.if_icmp .ge 24, 3) := by decide +kernel
theorem dX12_look_54 : decode cX12_look 54 = .ok (.aload_n 0, 1) := by decide +kernel
theorem dX12_look_55 : decode cX12_look 55 = .ok (.getfield 23, 3) := by decide +kernel
theorem dX12_look_58 : decode cX12_look 58 = .ok (.aload_n 0, 1) := by decide +kernel
theorem dX12_look_59 : decode cX12_look 59 = .ok (.getfield 138, 3) := by decide +kernel
theorem dX12_look_62 : decode cX12_look 62 = .ok (.aload_n 0, 1) := by decide +kernel
theorem dX12_look_63 : decode cX12_look 63 = .ok (.getfield 132, 3) := by decide +kernel
theorem dX12_look_66 : decode cX12_look 66 = .ok (.iadd, 1) := by decide +kernel
theorem dX12_look_67 : decode cX12_look 67 = .ok (.baload, 1) := by decide +kernel
theorem dX12_look_68 : decode cX12_look 68 = .ok (.sipush 255, 3) := by decide +kernel
theorem dX12_look_71 : decode cX12_look 71 = .ok (.iand, 1) := by decide +kernel
theorem dX12_look_72 : decode cX12_look 72 = .ok (.goto 4, 3) := by decide +kernel
theorem dX12_look_75 : decode cX12_look 75 = .ok (.iconst (-1), 1) := by decide +kernel
theorem dX12_look_76 : decode cX12_look 76 = .ok (.ireturn, 1) := by decide +kernel
theorem dX12_fails_0 : decode cX12_fails 0 = .ok (.aload_n 0, 1) := by decide +kernel
theorem dX12_fails_1 : decode cX12_fails 1 = .ok (.getfield 141, 3) := by decide +kernel
theorem dX12_fails_4 : decode cX12_fails 4 = .ok (.iconst (-1), 1) := by decide +kernel
theorem dX12_fails_5 : decode cX12_fails 5 = .ok (.if_icmp .ne 11, 3) := by decide +kernel
theorem dX12_fails_8 : decode cX12_fails 8 = .ok (.aload_n 0, 1) := by decide +kernel
theorem dX12_fails_9 : decode cX12_fails 9 = .ok (.aload_n 0, 1) := by decide +kernel
theorem dX12_fails_10 : decode cX12_fails 10 = .ok (.getfield 132, 3) := by decide +kernel
theorem dX12_fails_13 : decode cX12_fails 13 = .ok (.putfield 141, 3) := by decide +kernel
theorem dX12_fails_16 : decode cX12_fails 16 = .ok (.iconst 0, 1) := by decide +kernel
theorem dX12_fails_17 : decode cX12_fails 17 = .ok (.ireturn, 1) := by decide +kernel
theorem dX12_goesIn_0 : decode cX12_goesIn 0 = .ok (.aload_n 0, 1) := by decide +kernel
theorem dX12_goesIn_1 : decode cX12_goesIn 1 = .ok (.getfield 144, 3) := by decide +kernel
theorem dX12_goesIn_4 : decode cX12_goesIn 4 = .ok (.bipush 6, 2) := by decide +kernel
theorem dX12_goesIn_6 : decode cX12_goesIn 6 = .ok (.if_icmp .ne 8, 3) := by decide +kernel
theorem dX12_goesIn_9 : decode cX12_goesIn 9 = .ok (.aload_n 0, 1) := by decide +kernel
theorem dX12_goesIn_10 : decode cX12_goesIn 10 = .ok (.invokevirtual 147, 3) := by decide +kernel
theorem dX12_goesIn_13 : decode cX12_goesIn 13 = .ok (.ireturn, 1) := by decide +kernel
theorem dX12_goesIn_14 : decode cX12_goesIn 14 = .ok (.aload_n 0, 1) := by decide +kernel
theorem dX12_goesIn_15 : decode cX12_goesIn 15 = .ok (.dup, 1) := by decide +kernel
theorem dX12_goesIn_16 : decode cX12_goesIn 16 = .ok (.getfield 144, 3) := by decide +kernel
theorem dX12_goesIn_19 : decode cX12_goesIn 19 = .ok (.iconst 1, 1) := by decide +kernel
theorem dX12_goesIn_20 : decode cX12_goesIn 20 = .ok (.iadd, 1) := by decide +kernel
theorem dX12_goesIn_21 : decode cX12_goesIn 21 = .ok (.putfield 144, 3) := by decide +kernel
theorem dX12_goesIn_24 : decode cX12_goesIn 24 = .ok (.aload_n 0, 1) := by decide +kernel
theorem dX12_goesIn_25 : decode cX12_goesIn 25 = .ok (.dup, 1) := by decide +kernel
theorem dX12_goesIn_26 : decode cX12_goesIn 26 = .ok (.getfield 132, 3) := by decide +kernel
theorem dX12_goesIn_29 : decode cX12_goesIn 29 = .ok (.iconst 1, 1) := by decide +kernel
theorem dX12_goesIn_30 : decode cX12_goesIn 30 = .ok (.iadd, 1) := by decide +kernel
theorem dX12_goesIn_31 : decode cX12_goesIn 31 = .ok (.putfield 132, 3) := by decide +kernel
theorem dX12_goesIn_34 : decode cX12_goesIn 34 = .ok (.iconst 1, 1) := by decide +kernel
theorem dX12_goesIn_35 : decode cX12_goesIn 35 = .ok (.ireturn, 1) := by decide +kernel
theorem dX12_takes_0 : decode cX12_takes 0 = .ok (.aload_n 0, 1) := by decide +kernel
theorem dX12_takes_1 : decode cX12_takes 1 = .ok (.getfield 141, 3) := by decide +kernel
theorem dX12_takes_4 : decode cX12_takes 4 = .ok (.iconst (-1), 1) := by decide +kernel
theorem dX12_takes_5 : decode cX12_takes 5 = .ok (.if_icmp .ne 11, 3) := by decide +kernel
theorem dX12_takes_8 : decode cX12_takes 8 = .ok (.aload_n 0, 1) := by decide +kernel
theorem dX12_takes_9 : decode cX12_takes 9 = .ok (.invokevirtual 151, 3) := by decide +kernel
theorem dX12_takes_12 : decode cX12_takes 12 = .ok (.iload_n 1, 1) := by decide +kernel
theorem dX12_takes_13 : decode cX12_takes 13 = .ok (.if_icmp .eq 8, 3) := by decide +kernel
theorem dX12_takes_16 : decode cX12_takes 16 = .ok (.aload_n 0, 1) := by decide +kernel
theorem dX12_takes_17 : decode cX12_takes 17 = .ok (.invokevirtual 147, 3) := by decide +kernel
theorem dX12_takes_20 : decode cX12_takes 20 = .ok (.ireturn, 1) := by decide +kernel
theorem dX12_takes_21 : decode cX12_takes 21 = .ok (.aload_n 0, 1) := by decide +kernel
theorem dX12_takes_22 : decode cX12_takes 22 = .ok (.dup, 1) := by decide +kernel
theorem dX12_takes_23 : decode cX12_takes 23 = .ok (.getfield 132, 3) := by decide +kernel
theorem dX12_takes_26 : decode cX12_takes 26 = .ok (.iconst 1, 1) := by decide +kernel
theorem dX12_takes_27 : decode cX12_takes 27 = .ok (.iadd, 1) := by decide +kernel
theorem dX12_takes_28 : decode cX12_takes 28 = .ok (.putfield 132, 3) := by decide +kernel
theorem dX12_takes_31 : decode cX12_takes 31 = .ok (.iconst 1, 1) := by decide +kernel
theorem dX12_takes_32 : decode cX12_takes 32 = .ok (.ireturn, 1) := by decide +kernel
theorem dX12_isDigit_0 : decode cX12_isDigit 0 = .ok (.aload_n 0, 1) := by decide +kernel
theorem dX12_isDigit_1 : decode cX12_isDigit 1 = .ok (.getfield 132, 3) := by decide +kernel
theorem dX12_isDigit_4 : decode cX12_isDigit 4 = .ok (.aload_n 0, 1) := by decide +kernel
theorem dX12_isDigit_5 : decode cX12_isDigit 5 = .ok (.getfield 135, 3) := by decide +kernel
theorem dX12_isDigit_8 : decode cX12_isDigit 8 = .ok (.if_icmp .ge 45, 3) := by decide +kernel
theorem dX12_isDigit_11 : decode cX12_isDigit 11 = .ok (.aload_n 0, 1) := by decide +kernel
theorem dX12_isDigit_12 : decode cX12_isDigit 12 = .ok (.getfield 23, 3) := by decide +kernel
theorem dX12_isDigit_15 : decode cX12_isDigit 15 = .ok (.aload_n 0, 1) := by decide +kernel
theorem dX12_isDigit_16 : decode cX12_isDigit 16 = .ok (.getfield 138, 3) := by decide +kernel
theorem dX12_isDigit_19 : decode cX12_isDigit 19 = .ok (.aload_n 0, 1) := by decide +kernel
theorem dX12_isDigit_20 : decode cX12_isDigit 20 = .ok (.getfield 132, 3) := by decide +kernel
theorem dX12_isDigit_23 : decode cX12_isDigit 23 = .ok (.iadd, 1) := by decide +kernel
theorem dX12_isDigit_24 : decode cX12_isDigit 24 = .ok (.baload, 1) := by decide +kernel
theorem dX12_isDigit_25 : decode cX12_isDigit 25 = .ok (.bipush 48, 2) := by decide +kernel
theorem dX12_isDigit_27 : decode cX12_isDigit 27 = .ok (.if_icmp .lt 26, 3) := by decide +kernel
theorem dX12_isDigit_30 : decode cX12_isDigit 30 = .ok (.aload_n 0, 1) := by decide +kernel
theorem dX12_isDigit_31 : decode cX12_isDigit 31 = .ok (.getfield 23, 3) := by decide +kernel
theorem dX12_isDigit_34 : decode cX12_isDigit 34 = .ok (.aload_n 0, 1) := by decide +kernel
theorem dX12_isDigit_35 : decode cX12_isDigit 35 = .ok (.getfield 138, 3) := by decide +kernel
theorem dX12_isDigit_38 : decode cX12_isDigit 38 = .ok (.aload_n 0, 1) := by decide +kernel
theorem dX12_isDigit_39 : decode cX12_isDigit 39 = .ok (.getfield 132, 3) := by decide +kernel
theorem dX12_isDigit_42 : decode cX12_isDigit 42 = .ok (.iadd, 1) := by decide +kernel
theorem dX12_isDigit_43 : decode cX12_isDigit 43 = .ok (.baload, 1) := by decide +kernel
theorem dX12_isDigit_44 : decode cX12_isDigit 44 = .ok (.bipush 57, 2) := by decide +kernel
theorem dX12_isDigit_46 : decode cX12_isDigit 46 = .ok (.if_icmp .gt 7, 3) := by decide +kernel
theorem dX12_isDigit_49 : decode cX12_isDigit 49 = .ok (.iconst 1, 1) := by decide +kernel
theorem dX12_isDigit_50 : decode cX12_isDigit 50 = .ok (.goto 4, 3) := by decide +kernel
theorem dX12_isDigit_53 : decode cX12_isDigit 53 = .ok (.iconst 0, 1) := by decide +kernel
theorem dX12_isDigit_54 : decode cX12_isDigit 54 = .ok (.ireturn, 1) := by decide +kernel
theorem dX12_within_0 : decode cX12_within 0 = .ok (.ldc2_w 154, 3) := by decide +kernel
theorem dX12_within_3 : decode cX12_within 3 = .ok (.ldc2_w 156, 3) := by decide +kernel
theorem dX12_within_6 : decode cX12_within 6 = .ok (.lload_n 0, 1) := by decide +kernel
theorem dX12_within_7 : decode cX12_within 7 = .ok (.invokestatic 158, 3) := by decide +kernel
theorem dX12_within_10 : decode cX12_within 10 = .ok (.invokestatic 164, 3) := by decide +kernel
theorem dX12_within_13 : decode cX12_within 13 = .ok (.l2i, 1) := by decide +kernel
theorem dX12_within_14 : decode cX12_within 14 = .ok (.ireturn, 1) := by decide +kernel
theorem dX12_atom_0 : decode cX12_atom 0 = .ok (.aload_n 0, 1) := by decide +kernel
theorem dX12_atom_1 : decode cX12_atom 1 = .ok (.invokevirtual 151, 3) := by decide +kernel
theorem dX12_atom_4 : decode cX12_atom 4 = .ok (.istore_n 1, 1) := by decide +kernel
theorem dX12_atom_5 : decode cX12_atom 5 = .ok (.ldc 32, 2) := by decide +kernel
theorem dX12_atom_7 : decode cX12_atom 7 = .ok (.iload_n 1, 1) := by decide +kernel
theorem dX12_atom_8 : decode cX12_atom 8 = .ok (.invokestatic 167, 3) := by decide +kernel
theorem dX12_atom_11 : decode cX12_atom 11 = .ok (.ifCond .eq 20, 3) := by decide +kernel
theorem dX12_atom_14 : decode cX12_atom 14 = .ok (.aload_n 0, 1) := by decide +kernel
theorem dX12_atom_15 : decode cX12_atom 15 = .ok (.dup, 1) := by decide +kernel
theorem dX12_atom_16 : decode cX12_atom 16 = .ok (.getfield 132, 3) := by decide +kernel
theorem dX12_atom_19 : decode cX12_atom 19 = .ok (.iconst 1, 1) := by decide +kernel
theorem dX12_atom_20 : decode cX12_atom 20 = .ok (.iadd, 1) := by decide +kernel
theorem dX12_atom_21 : decode cX12_atom 21 = .ok (.putfield 132, 3) := by decide +kernel
theorem dX12_atom_24 : decode cX12_atom 24 = .ok (.aload_n 0, 1) := by decide +kernel
theorem dX12_atom_25 : decode cX12_atom 25 = .ok (.getfield 20, 3) := by decide +kernel
theorem dX12_atom_28 : decode cX12_atom 28 = .ok (.iload_n 1, 1) := by decide +kernel
theorem dX12_atom_29 : decode cX12_atom 29 = .ok (.iaload, 1) := by decide +kernel
theorem dX12_atom_30 : decode cX12_atom 30 = .ok (.ireturn, 1) := by decide +kernel
theorem dX12_atom_31 : decode cX12_atom 31 = .ok (.iload_n 1, 1) := by decide +kernel
theorem dX12_atom_32 : decode cX12_atom 32 = .ok (.bipush 91, 2) := by decide +kernel
theorem dX12_atom_34 : decode cX12_atom 34 = .ok (.if_icmp .ne 40, 3) := by decide +kernel
theorem dX12_atom_37 : decode cX12_atom 37 = .ok (.aload_n 0, 1) := by decide +kernel
theorem dX12_atom_38 : decode cX12_atom 38 = .ok (.invokevirtual 171, 3) := by decide +kernel
theorem dX12_atom_41 : decode cX12_atom 41 = .ok (.ifCond .ne 5, 3) := by decide +kernel
theorem dX12_atom_44 : decode cX12_atom 44 = .ok (.iconst 0, 1) := by decide +kernel
theorem dX12_atom_45 : decode cX12_atom 45 = .ok (.ireturn, 1) := by decide +kernel
theorem dX12_atom_46 : decode cX12_atom 46 = .ok (.aload_n 0, 1) := by decide +kernel
theorem dX12_atom_47 : decode cX12_atom 47 = .ok (.invokevirtual 174, 3) := by decide +kernel
theorem dX12_atom_50 : decode cX12_atom 50 = .ok (.istore_n 2, 1) := by decide +kernel
theorem dX12_atom_51 : decode cX12_atom 51 = .ok (.aload_n 0, 1) := by decide +kernel
theorem dX12_atom_52 : decode cX12_atom 52 = .ok (.bipush 93, 2) := by decide +kernel
theorem dX12_atom_54 : decode cX12_atom 54 = .ok (.invokevirtual 177, 3) := by decide +kernel
theorem dX12_atom_57 : decode cX12_atom 57 = .ok (.ifCond .ne 5, 3) := by decide +kernel
theorem dX12_atom_60 : decode cX12_atom 60 = .ok (.iconst 0, 1) := by decide +kernel
theorem dX12_atom_61 : decode cX12_atom 61 = .ok (.ireturn, 1) := by decide +kernel
theorem dX12_atom_62 : decode cX12_atom 62 = .ok (.aload_n 0, 1) := by decide +kernel
theorem dX12_atom_63 : decode cX12_atom 63 = .ok (.dup, 1) := by decide +kernel
theorem dX12_atom_64 : decode cX12_atom 64 = .ok (.getfield 144, 3) := by decide +kernel
theorem dX12_atom_67 : decode cX12_atom 67 = .ok (.iconst 1, 1) := by decide +kernel
theorem dX12_atom_68 : decode cX12_atom 68 = .ok (.isub, 1) := by decide +kernel
theorem dX12_atom_69 : decode cX12_atom 69 = .ok (.putfield 144, 3) := by decide +kernel
theorem dX12_atom_72 : decode cX12_atom 72 = .ok (.iload_n 2, 1) := by decide +kernel
theorem dX12_atom_73 : decode cX12_atom 73 = .ok (.ireturn, 1) := by decide +kernel
theorem dX12_atom_74 : decode cX12_atom 74 = .ok (.aload_n 0, 1) := by decide +kernel
theorem dX12_atom_75 : decode cX12_atom 75 = .ok (.invokevirtual 181, 3) := by decide +kernel
theorem dX12_atom_78 : decode cX12_atom 78 = .ok (.ifCond .ne 8, 3) := by decide +kernel
theorem dX12_atom_81 : decode cX12_atom 81 = .ok (.aload_n 0, 1) := by decide +kernel
theorem dX12_atom_82 : decode cX12_atom 82 = .ok (.invokevirtual 147, 3) := by decide +kernel
theorem dX12_atom_85 : decode cX12_atom 85 = .ok (.pop, 1) := by decide +kernel
theorem dX12_atom_86 : decode cX12_atom 86 = .ok (.iconst 0, 1) := by decide +kernel
theorem dX12_atom_87 : decode cX12_atom 87 = .ok (.istore_n 2, 1) := by decide +kernel
theorem dX12_atom_88 : decode cX12_atom 88 = .ok (.iconst 0, 1) := by decide +kernel
theorem dX12_atom_89 : decode cX12_atom 89 = .ok (.istore_n 3, 1) := by decide +kernel
theorem dX12_atom_90 : decode cX12_atom 90 = .ok (.aload_n 0, 1) := by decide +kernel
theorem dX12_atom_91 : decode cX12_atom 91 = .ok (.invokevirtual 181, 3) := by decide +kernel
theorem dX12_atom_94 : decode cX12_atom 94 = .ok (.ifCond .eq 62, 3) := by decide +kernel
theorem dX12_atom_97 : decode cX12_atom 97 = .ok (.aload_n 0, 1) := by decide +kernel
theorem dX12_atom_98 : decode cX12_atom 98 = .ok (.getfield 141, 3) := by decide +kernel
theorem dX12_atom_101 : decode cX12_atom 101 = .ok (.iconst (-1), 1) := by decide +kernel
theorem dX12_atom_102 : decode cX12_atom 102 = .ok (.if_icmp .ne 54, 3) := by decide +kernel
theorem dX12_atom_105 : decode cX12_atom 105 = .ok (.iload_n 3, 1) := by decide +kernel
theorem dX12_atom_106 : decode cX12_atom 106 = .ok (.iconst 4, 1) := by decide +kernel
theorem dX12_atom_107 : decode cX12_atom 107 = .ok (.if_icmp .ne 10, 3) := by decide +kernel
theorem dX12_atom_110 : decode cX12_atom 110 = .ok (.aload_n 0, 1) := by decide +kernel
theorem dX12_atom_111 : decode cX12_atom 111 = .ok (.invokevirtual 147, 3) := by decide +kernel
theorem dX12_atom_114 : decode cX12_atom 114 = .ok (.pop, 1) := by decide +kernel
theorem dX12_atom_115 : decode cX12_atom 115 = .ok (.iconst 0, 1) := by decide +kernel
theorem dX12_atom_116 : decode cX12_atom 116 = .ok (.ireturn, 1) := by decide +kernel
theorem dX12_atom_117 : decode cX12_atom 117 = .ok (.bipush 10, 2) := by decide +kernel
theorem dX12_atom_119 : decode cX12_atom 119 = .ok (.iload_n 2, 1) := by decide +kernel
theorem dX12_atom_120 : decode cX12_atom 120 = .ok (.imul, 1) := by decide +kernel
theorem dX12_atom_121 : decode cX12_atom 121 = .ok (.aload_n 0, 1) := by decide +kernel
theorem dX12_atom_122 : decode cX12_atom 122 = .ok (.getfield 23, 3) := by decide +kernel
theorem dX12_atom_125 : decode cX12_atom 125 = .ok (.aload_n 0, 1) := by decide +kernel
theorem dX12_atom_126 : decode cX12_atom 126 = .ok (.getfield 138, 3) := by decide +kernel
theorem dX12_atom_129 : decode cX12_atom 129 = .ok (.aload_n 0, 1) := by decide +kernel
theorem dX12_atom_130 : decode cX12_atom 130 = .ok (.getfield 132, 3) := by decide +kernel
theorem dX12_atom_133 : decode cX12_atom 133 = .ok (.iadd, 1) := by decide +kernel
theorem dX12_atom_134 : decode cX12_atom 134 = .ok (.baload, 1) := by decide +kernel
theorem dX12_atom_135 : decode cX12_atom 135 = .ok (.iadd, 1) := by decide +kernel
theorem dX12_atom_136 : decode cX12_atom 136 = .ok (.bipush 48, 2) := by decide +kernel
theorem dX12_atom_138 : decode cX12_atom 138 = .ok (.isub, 1) := by decide +kernel
theorem dX12_atom_139 : decode cX12_atom 139 = .ok (.istore_n 2, 1) := by decide +kernel
theorem dX12_atom_140 : decode cX12_atom 140 = .ok (.aload_n 0, 1) := by decide +kernel
theorem dX12_atom_141 : decode cX12_atom 141 = .ok (.dup, 1) := by decide +kernel
theorem dX12_atom_142 : decode cX12_atom 142 = .ok (.getfield 132, 3) := by decide +kernel
theorem dX12_atom_145 : decode cX12_atom 145 = .ok (.iconst 1, 1) := by decide +kernel
theorem dX12_atom_146 : decode cX12_atom 146 = .ok (.iadd, 1) := by decide +kernel
theorem dX12_atom_147 : decode cX12_atom 147 = .ok (.putfield 132, 3) := by decide +kernel
theorem dX12_atom_150 : decode cX12_atom 150 = .ok (.iinc 3 1, 3) := by decide +kernel
theorem dX12_atom_153 : decode cX12_atom 153 = .ok (.goto (-63), 3) := by decide +kernel
theorem dX12_atom_156 : decode cX12_atom 156 = .ok (.iload_n 2, 1) := by decide +kernel
theorem dX12_atom_157 : decode cX12_atom 157 = .ok (.ireturn, 1) := by decide +kernel
theorem dX12_term_0 : decode cX12_term 0 = .ok (.aload_n 0, 1) := by decide +kernel
theorem dX12_term_1 : decode cX12_term 1 = .ok (.invokevirtual 184, 3) := by decide +kernel
theorem dX12_term_4 : decode cX12_term 4 = .ok (.istore_n 1, 1) := by decide +kernel
theorem dX12_term_5 : decode cX12_term 5 = .ok (.aload_n 0, 1) := by decide +kernel
theorem dX12_term_6 : decode cX12_term 6 = .ok (.getfield 141, 3) := by decide +kernel
theorem dX12_term_9 : decode cX12_term 9 = .ok (.iconst (-1), 1) := by decide +kernel
theorem dX12_term_10 : decode cX12_term 10 = .ok (.if_icmp .ne 84, 3) := by decide +kernel
theorem dX12_term_13 : decode cX12_term 13 = .ok (.aload_n 0, 1) := by decide +kernel
theorem dX12_term_14 : decode cX12_term 14 = .ok (.invokevirtual 151, 3) := by decide +kernel
theorem dX12_term_17 : decode cX12_term 17 = .ok (.bipush 42, 2) := by decide +kernel
theorem dX12_term_19 : decode cX12_term 19 = .ok (.if_icmp .eq 12, 3) := by decide +kernel
theorem dX12_term_22 : decode cX12_term 22 = .ok (.aload_n 0, 1) := by decide +kernel
theorem dX12_term_23 : decode cX12_term 23 = .ok (.invokevirtual 151, 3) := by decide +kernel
theorem dX12_term_26 : decode cX12_term 26 = .ok (.bipush 47, 2) := by decide +kernel
theorem dX12_term_28 : decode cX12_term 28 = .ok (.if_icmp .ne 66, 3) := by decide +kernel
theorem dX12_term_31 : decode cX12_term 31 = .ok (.aload_n 0, 1) := by decide +kernel
theorem dX12_term_32 : decode cX12_term 32 = .ok (.invokevirtual 151, 3) := by decide +kernel
theorem dX12_term_35 : decode cX12_term 35 = .ok (.bipush 42, 2) := by decide +kernel
theorem dX12_term_37 : decode cX12_term 37 = .ok (.if_icmp .ne 7, 3) := by decide +kernel
theorem dX12_term_40 : decode cX12_term 40 = .ok (.iconst 1, 1) := by decide +kernel
theorem dX12_term_41 : decode cX12_term 41 = .ok (.goto 4, 3) := by decide +kernel
theorem dX12_term_44 : decode cX12_term 44 = .ok (.iconst 0, 1) := by decide +kernel
theorem dX12_term_45 : decode cX12_term 45 = .ok (.istore_n 2, 1) := by decide +kernel
theorem dX12_term_46 : decode cX12_term 46 = .ok (.aload_n 0, 1) := by decide +kernel
theorem dX12_term_47 : decode cX12_term 47 = .ok (.dup, 1) := by decide +kernel
theorem dX12_term_48 : decode cX12_term 48 = .ok (.getfield 132, 3) := by decide +kernel
theorem dX12_term_51 : decode cX12_term 51 = .ok (.iconst 1, 1) := by decide +kernel
theorem dX12_term_52 : decode cX12_term 52 = .ok (.iadd, 1) := by decide +kernel
theorem dX12_term_53 : decode cX12_term 53 = .ok (.putfield 132, 3) := by decide +kernel
theorem dX12_term_56 : decode cX12_term 56 = .ok (.aload_n 0, 1) := by decide +kernel
theorem dX12_term_57 : decode cX12_term 57 = .ok (.invokevirtual 184, 3) := by decide +kernel
theorem dX12_term_60 : decode cX12_term 60 = .ok (.i2l, 1) := by decide +kernel
theorem dX12_term_61 : decode cX12_term 61 = .ok (.lstore_n 3, 1) := by decide +kernel
theorem dX12_term_62 : decode cX12_term 62 = .ok (.iload_n 2, 1) := by decide +kernel
theorem dX12_term_63 : decode cX12_term 63 = .ok (.ifCond .eq 10, 3) := by decide +kernel
theorem dX12_term_66 : decode cX12_term 66 = .ok (.iload_n 1, 1) := by decide +kernel
theorem dX12_term_67 : decode cX12_term 67 = .ok (.i2l, 1) := by decide +kernel
theorem dX12_term_68 : decode cX12_term 68 = .ok (.lload_n 3, 1) := by decide +kernel
theorem dX12_term_69 : decode cX12_term 69 = .ok (.lmul, 1) := by decide +kernel
theorem dX12_term_70 : decode cX12_term 70 = .ok (.goto 17, 3) := by decide +kernel
theorem dX12_term_73 : decode cX12_term 73 = .ok (.lload_n 3, 1) := by decide +kernel
theorem dX12_term_74 : decode cX12_term 74 = .ok (.lconst 0, 1) := by decide +kernel
theorem dX12_term_75 : decode cX12_term 75 = .ok (.lcmp, 1) := by decide +kernel
theorem dX12_term_76 : decode cX12_term 76 = .ok (.ifCond .ne 7, 3) := by decide +kernel
theorem dX12_term_79 : decode cX12_term 79 = .ok (.lconst 0, 1) := by decide +kernel
theorem dX12_term_80 : decode cX12_term 80 = .ok (.goto 7, 3) := by decide +kernel
theorem dX12_term_83 : decode cX12_term 83 = .ok (.iload_n 1, 1) := by decide +kernel
theorem dX12_term_84 : decode cX12_term 84 = .ok (.i2l, 1) := by decide +kernel
theorem dX12_term_85 : decode cX12_term 85 = .ok (.lload_n 3, 1) := by decide +kernel
theorem dX12_term_86 : decode cX12_term 86 = .ok (.ldiv, 1) := by decide +kernel
theorem dX12_term_87 : decode cX12_term 87 = .ok (.invokestatic 187, 3) := by decide +kernel
theorem dX12_term_90 : decode cX12_term 90 = .ok (.istore_n 1, 1) := by decide +kernel
theorem dX12_term_91 : decode cX12_term 91 = .ok (.goto (-86), 3) := by decide +kernel
theorem dX12_term_94 : decode cX12_term 94 = .ok (.iload_n 1, 1) := by decide +kernel
theorem dX12_term_95 : decode cX12_term 95 = .ok (.ireturn, 1) := by decide +kernel
theorem dX12_sum_0 : decode cX12_sum 0 = .ok (.aload_n 0, 1) := by decide +kernel
theorem dX12_sum_1 : decode cX12_sum 1 = .ok (.invokevirtual 191, 3) := by decide +kernel
theorem dX12_sum_4 : decode cX12_sum 4 = .ok (.istore_n 1, 1) := by decide +kernel
theorem dX12_sum_5 : decode cX12_sum 5 = .ok (.aload_n 0, 1) := by decide +kernel
theorem dX12_sum_6 : decode cX12_sum 6 = .ok (.getfield 141, 3) := by decide +kernel
theorem dX12_sum_9 : decode cX12_sum 9 = .ok (.iconst (-1), 1) := by decide +kernel
theorem dX12_sum_10 : decode cX12_sum 10 = .ok (.if_icmp .ne 74, 3) := by decide +kernel
theorem dX12_sum_13 : decode cX12_sum 13 = .ok (.aload_n 0, 1) := by decide +kernel
theorem dX12_sum_14 : decode cX12_sum 14 = .ok (.invokevirtual 151, 3) := by decide +kernel
theorem dX12_sum_17 : decode cX12_sum 17 = .ok (.bipush 43, 2) := by decide +kernel
theorem dX12_sum_19 : decode cX12_sum 19 = .ok (.if_icmp .eq 12, 3) := by decide +kernel
theorem dX12_sum_22 : decode cX12_sum 22 = .ok (.aload_n 0, 1) := by decide +kernel
theorem dX12_sum_23 : decode cX12_sum 23 = .ok (.invokevirtual 151, 3) := by decide +kernel
theorem dX12_sum_26 : decode cX12_sum 26 = .ok (.bipush 45, 2) := by decide +kernel
theorem dX12_sum_28 : decode cX12_sum 28 = .ok (.if_icmp .ne 56, 3) := by decide +kernel
theorem dX12_sum_31 : decode cX12_sum 31 = .ok (.aload_n 0, 1) := by decide +kernel
theorem dX12_sum_32 : decode cX12_sum 32 = .ok (.invokevirtual 151, 3) := by decide +kernel
theorem dX12_sum_35 : decode cX12_sum 35 = .ok (.bipush 43, 2) := by decide +kernel
theorem dX12_sum_37 : decode cX12_sum 37 = .ok (.if_icmp .ne 7, 3) := by decide +kernel
theorem dX12_sum_40 : decode cX12_sum 40 = .ok (.iconst 1, 1) := by decide +kernel
theorem dX12_sum_41 : decode cX12_sum 41 = .ok (.goto 4, 3) := by decide +kernel
theorem dX12_sum_44 : decode cX12_sum 44 = .ok (.iconst 0, 1) := by decide +kernel
theorem dX12_sum_45 : decode cX12_sum 45 = .ok (.istore_n 2, 1) := by decide +kernel
theorem dX12_sum_46 : decode cX12_sum 46 = .ok (.aload_n 0, 1) := by decide +kernel
theorem dX12_sum_47 : decode cX12_sum 47 = .ok (.dup, 1) := by decide +kernel
theorem dX12_sum_48 : decode cX12_sum 48 = .ok (.getfield 132, 3) := by decide +kernel
theorem dX12_sum_51 : decode cX12_sum 51 = .ok (.iconst 1, 1) := by decide +kernel
theorem dX12_sum_52 : decode cX12_sum 52 = .ok (.iadd, 1) := by decide +kernel
theorem dX12_sum_53 : decode cX12_sum 53 = .ok (.putfield 132, 3) := by decide +kernel
theorem dX12_sum_56 : decode cX12_sum 56 = .ok (.aload_n 0, 1) := by decide +kernel
theorem dX12_sum_57 : decode cX12_sum 57 = .ok (.invokevirtual 191, 3) := by decide +kernel
theorem dX12_sum_60 : decode cX12_sum 60 = .ok (.i2l, 1) := by decide +kernel
theorem dX12_sum_61 : decode cX12_sum 61 = .ok (.lstore_n 3, 1) := by decide +kernel
theorem dX12_sum_62 : decode cX12_sum 62 = .ok (.iload_n 2, 1) := by decide +kernel
theorem dX12_sum_63 : decode cX12_sum 63 = .ok (.ifCond .eq 10, 3) := by decide +kernel
theorem dX12_sum_66 : decode cX12_sum 66 = .ok (.iload_n 1, 1) := by decide +kernel
theorem dX12_sum_67 : decode cX12_sum 67 = .ok (.i2l, 1) := by decide +kernel
theorem dX12_sum_68 : decode cX12_sum 68 = .ok (.lload_n 3, 1) := by decide +kernel
theorem dX12_sum_69 : decode cX12_sum 69 = .ok (.ladd, 1) := by decide +kernel
theorem dX12_sum_70 : decode cX12_sum 70 = .ok (.goto 7, 3) := by decide +kernel
theorem dX12_sum_73 : decode cX12_sum 73 = .ok (.iload_n 1, 1) := by decide +kernel
theorem dX12_sum_74 : decode cX12_sum 74 = .ok (.i2l, 1) := by decide +kernel
theorem dX12_sum_75 : decode cX12_sum 75 = .ok (.lload_n 3, 1) := by decide +kernel
theorem dX12_sum_76 : decode cX12_sum 76 = .ok (.lsub, 1) := by decide +kernel
theorem dX12_sum_77 : decode cX12_sum 77 = .ok (.invokestatic 187, 3) := by decide +kernel
theorem dX12_sum_80 : decode cX12_sum 80 = .ok (.istore_n 1, 1) := by decide +kernel
theorem dX12_sum_81 : decode cX12_sum 81 = .ok (.goto (-76), 3) := by decide +kernel
theorem dX12_sum_84 : decode cX12_sum 84 = .ok (.iload_n 1, 1) := by decide +kernel
theorem dX12_sum_85 : decode cX12_sum 85 = .ok (.ireturn, 1) := by decide +kernel
theorem dX12_isSign_0 : decode cX12_isSign 0 = .ok (.iload_n 0, 1) := by decide +kernel
theorem dX12_isSign_1 : decode cX12_isSign 1 = .ok (.bipush 61, 2) := by decide +kernel
theorem dX12_isSign_3 : decode cX12_isSign 3 = .ok (.if_icmp .eq 15, 3) := by decide +kernel
theorem dX12_isSign_6 : decode cX12_isSign 6 = .ok (.iload_n 0, 1) := by decide +kernel
theorem dX12_isSign_7 : decode cX12_isSign 7 = .ok (.bipush 60, 2) := by decide +kernel
theorem dX12_isSign_9 : decode cX12_isSign 9 = .ok (.if_icmp .eq 9, 3) := by decide +kernel
theorem dX12_isSign_12 : decode cX12_isSign 12 = .ok (.iload_n 0, 1) := by decide +kernel
theorem dX12_isSign_13 : decode cX12_isSign 13 = .ok (.bipush 62, 2) := by decide +kernel
theorem dX12_isSign_15 : decode cX12_isSign 15 = .ok (.if_icmp .ne 7, 3) := by decide +kernel
theorem dX12_isSign_18 : decode cX12_isSign 18 = .ok (.iconst 1, 1) := by decide +kernel
theorem dX12_isSign_19 : decode cX12_isSign 19 = .ok (.goto 4, 3) := by decide +kernel
theorem dX12_isSign_22 : decode cX12_isSign 22 = .ok (.iconst 0, 1) := by decide +kernel
theorem dX12_isSign_23 : decode cX12_isSign 23 = .ok (.ireturn, 1) := by decide +kernel
theorem dX12_compares_0 : decode cX12_compares 0 = .ok (.iload_n 1, 1) := by decide +kernel
theorem dX12_compares_1 : decode cX12_compares 1 = .ok (.ifCond .eq 7, 3) := by decide +kernel
theorem dX12_compares_4 : decode cX12_compares 4 = .ok (.iload_n 2, 1) := by decide +kernel
theorem dX12_compares_5 : decode cX12_compares 5 = .ok (.goto 7, 3) := by decide +kernel
theorem dX12_compares_8 : decode cX12_compares 8 = .ok (.aload_n 0, 1) := by decide +kernel
theorem dX12_compares_9 : decode cX12_compares 9 = .ok (.invokevirtual 174, 3) := by decide +kernel
theorem dX12_compares_12 : decode cX12_compares 12 = .ok (.istore_n 3, 1) := by decide +kernel
theorem dX12_compares_13 : decode cX12_compares 13 = .ok (.aload_n 0, 1) := by decide +kernel
theorem dX12_compares_14 : decode cX12_compares 14 = .ok (.getfield 141, 3) := by decide +kernel
theorem dX12_compares_17 : decode cX12_compares 17 = .ok (.iconst (-1), 1) := by decide +kernel
theorem dX12_compares_18 : decode cX12_compares 18 = .ok (.if_icmp .eq 5, 3) := by decide +kernel
theorem dX12_compares_21 : decode cX12_compares 21 = .ok (.iconst 0, 1) := by decide +kernel
theorem dX12_compares_22 : decode cX12_compares 22 = .ok (.ireturn, 1) := by decide +kernel
theorem dX12_compares_23 : decode cX12_compares 23 = .ok (.aload_n 0, 1) := by decide +kernel
theorem dX12_compares_24 : decode cX12_compares 24 = .ok (.invokevirtual 151, 3) := by decide +kernel
theorem dX12_compares_27 : decode cX12_compares 27 = .ok (.istore 4, 2) := by decide +kernel
theorem dX12_compares_29 : decode cX12_compares 29 = .ok (.iload 4, 2) := by decide +kernel
theorem dX12_compares_31 : decode cX12_compares 31 = .ok (.invokestatic 194, 3) := by decide +kernel
theorem dX12_compares_34 : decode cX12_compares 34 = .ok (.ifCond .ne 8, 3) := by decide +kernel
theorem dX12_compares_37 : decode cX12_compares 37 = .ok (.aload_n 0, 1) := by decide +kernel
theorem dX12_compares_38 : decode cX12_compares 38 = .ok (.invokevirtual 147, 3) := by decide +kernel
theorem dX12_compares_41 : decode cX12_compares 41 = .ok (.ireturn, 1) := by decide +kernel
theorem dX12_compares_42 : decode cX12_compares 42 = .ok (.aload_n 0, 1) := by decide +kernel
theorem dX12_compares_43 : decode cX12_compares 43 = .ok (.dup, 1) := by decide +kernel
theorem dX12_compares_44 : decode cX12_compares 44 = .ok (.getfield 132, 3) := by decide +kernel
theorem dX12_compares_47 : decode cX12_compares 47 = .ok (.iconst 1, 1) := by decide +kernel
theorem dX12_compares_48 : decode cX12_compares 48 = .ok (.iadd, 1) := by decide +kernel
theorem dX12_compares_49 : decode cX12_compares 49 = .ok (.putfield 132, 3) := by decide +kernel
theorem dX12_compares_52 : decode cX12_compares 52 = .ok (.aload_n 0, 1) := by decide +kernel
theorem dX12_compares_53 : decode cX12_compares 53 = .ok (.invokevirtual 174, 3) := by decide +kernel
theorem dX12_compares_56 : decode cX12_compares 56 = .ok (.istore 5, 2) := by decide +kernel
theorem dX12_compares_58 : decode cX12_compares 58 = .ok (.iload 4, 2) := by decide +kernel
theorem dX12_compares_60 : decode cX12_compares 60 = .ok (.bipush 61, 2) := by decide +kernel
theorem dX12_compares_62 : decode cX12_compares 62 = .ok (.if_icmp .ne 17, 3) := by decide +kernel
theorem dX12_compares_65 : decode cX12_compares 65 = .ok (.iload_n 3, 1) := by decide +kernel
theorem dX12_compares_66 : decode cX12_compares 66 = .ok (.iload 5, 2) := by decide +kernel
theorem dX12_compares_68 : decode cX12_compares 68 = .ok (.if_icmp .ne 7, 3) := by decide +kernel
theorem dX12_compares_71 : decode cX12_compares 71 = .ok (.iconst 1, 1) := by decide +kernel
theorem dX12_compares_72 : decode cX12_compares 72 = .ok (.goto 39, 3) := by decide +kernel
theorem dX12_compares_75 : decode cX12_compares 75 = .ok (.iconst 0, 1) := by decide +kernel
theorem dX12_compares_76 : decode cX12_compares 76 = .ok (.goto 35, 3) := by decide +kernel
theorem dX12_compares_79 : decode cX12_compares 79 = .ok (.iload 4, 2) := by decide +kernel
theorem dX12_compares_81 : decode cX12_compares 81 = .ok (.bipush 60, 2) := by decide +kernel
theorem dX12_compares_83 : decode cX12_compares 83 = .ok (.if_icmp .ne 17, 3) := by decide +kernel
theorem dX12_compares_86 : decode cX12_compares 86 = .ok (.iload_n 3, 1) := by decide +kernel
theorem dX12_compares_87 : decode cX12_compares 87 = .ok (.iload 5, 2) := by decide +kernel
theorem dX12_compares_89 : decode cX12_compares 89 = .ok (.if_icmp .ge 7, 3) := by decide +kernel
theorem dX12_compares_92 : decode cX12_compares 92 = .ok (.iconst 1, 1) := by decide +kernel
theorem dX12_compares_93 : decode cX12_compares 93 = .ok (.goto 18, 3) := by decide +kernel
theorem dX12_compares_96 : decode cX12_compares 96 = .ok (.iconst 0, 1) := by decide +kernel
theorem dX12_compares_97 : decode cX12_compares 97 = .ok (.goto 14, 3) := by decide +kernel
theorem dX12_compares_100 : decode cX12_compares 100 = .ok (.iload_n 3, 1) := by decide +kernel
theorem dX12_compares_101 : decode cX12_compares 101 = .ok (.iload 5, 2) := by decide +kernel
theorem dX12_compares_103 : decode cX12_compares 103 = .ok (.if_icmp .le 7, 3) := by decide +kernel
theorem dX12_compares_106 : decode cX12_compares 106 = .ok (.iconst 1, 1) := by decide +kernel
theorem dX12_compares_107 : decode cX12_compares 107 = .ok (.goto 4, 3) := by decide +kernel
theorem dX12_compares_110 : decode cX12_compares 110 = .ok (.iconst 0, 1) := by decide +kernel
theorem dX12_compares_111 : decode cX12_compares 111 = .ok (.ireturn, 1) := by decide +kernel
theorem dX12_unit_0 : decode cX12_unit 0 = .ok (.aload_n 0, 1) := by decide +kernel
theorem dX12_unit_1 : decode cX12_unit 1 = .ok (.invokevirtual 151, 3) := by decide +kernel
theorem dX12_unit_4 : decode cX12_unit 4 = .ok (.istore_n 1, 1) := by decide +kernel
theorem dX12_unit_5 : decode cX12_unit 5 = .ok (.iload_n 1, 1) := by decide +kernel
theorem dX12_unit_6 : decode cX12_unit 6 = .ok (.bipush 33, 2) := by decide +kernel
theorem dX12_unit_8 : decode cX12_unit 8 = .ok (.if_icmp .ne 37, 3) := by decide +kernel
theorem dX12_unit_11 : decode cX12_unit 11 = .ok (.aload_n 0, 1) := by decide +kernel
theorem dX12_unit_12 : decode cX12_unit 12 = .ok (.invokevirtual 171, 3) := by decide +kernel
theorem dX12_unit_15 : decode cX12_unit 15 = .ok (.ifCond .ne 5, 3) := by decide +kernel
theorem dX12_unit_18 : decode cX12_unit 18 = .ok (.iconst 0, 1) := by decide +kernel
theorem dX12_unit_19 : decode cX12_unit 19 = .ok (.ireturn, 1) := by decide +kernel
theorem dX12_unit_20 : decode cX12_unit 20 = .ok (.aload_n 0, 1) := by decide +kernel
theorem dX12_unit_21 : decode cX12_unit 21 = .ok (.invokevirtual 197, 3) := by decide +kernel
theorem dX12_unit_24 : decode cX12_unit 24 = .ok (.istore_n 2, 1) := by decide +kernel
theorem dX12_unit_25 : decode cX12_unit 25 = .ok (.aload_n 0, 1) := by decide +kernel
theorem dX12_unit_26 : decode cX12_unit 26 = .ok (.dup, 1) := by decide +kernel
theorem dX12_unit_27 : decode cX12_unit 27 = .ok (.getfield 144, 3) := by decide +kernel
theorem dX12_unit_30 : decode cX12_unit 30 = .ok (.iconst 1, 1) := by decide +kernel
theorem dX12_unit_31 : decode cX12_unit 31 = .ok (.isub, 1) := by decide +kernel
theorem dX12_unit_32 : decode cX12_unit 32 = .ok (.putfield 144, 3) := by decide +kernel
theorem dX12_unit_35 : decode cX12_unit 35 = .ok (.iload_n 2, 1) := by decide +kernel
theorem dX12_unit_36 : decode cX12_unit 36 = .ok (.ifCond .ne 7, 3) := by decide +kernel
theorem dX12_unit_39 : decode cX12_unit 39 = .ok (.iconst 1, 1) := by decide +kernel
theorem dX12_unit_40 : decode cX12_unit 40 = .ok (.goto 4, 3) := by decide +kernel
theorem dX12_unit_43 : decode cX12_unit 43 = .ok (.iconst 0, 1) := by decide +kernel
theorem dX12_unit_44 : decode cX12_unit 44 = .ok (.ireturn, 1) := by decide +kernel
theorem dX12_unit_45 : decode cX12_unit 45 = .ok (.iload_n 1, 1) := by decide +kernel
theorem dX12_unit_46 : decode cX12_unit 46 = .ok (.bipush 40, 2) := by decide +kernel
theorem dX12_unit_48 : decode cX12_unit 48 = .ok (.if_icmp .ne 42, 3) := by decide +kernel
theorem dX12_unit_51 : decode cX12_unit 51 = .ok (.aload_n 0, 1) := by decide +kernel
theorem dX12_unit_52 : decode cX12_unit 52 = .ok (.invokevirtual 171, 3) := by decide +kernel
theorem dX12_unit_55 : decode cX12_unit 55 = .ok (.ifCond .ne 5, 3) := by decide +kernel
theorem dX12_unit_58 : decode cX12_unit 58 = .ok (.iconst 0, 1) := by decide +kernel
theorem dX12_unit_59 : decode cX12_unit 59 = .ok (.ireturn, 1) := by decide +kernel
theorem dX12_unit_60 : decode cX12_unit 60 = .ok (.aload_n 0, 1) := by decide +kernel
theorem dX12_unit_61 : decode cX12_unit 61 = .ok (.iconst 0, 1) := by decide +kernel
theorem dX12_unit_62 : decode cX12_unit 62 = .ok (.iconst 0, 1) := by decide +kernel
theorem dX12_unit_63 : decode cX12_unit 63 = .ok (.invokevirtual 200, 3) := by decide +kernel
theorem dX12_unit_66 : decode cX12_unit 66 = .ok (.istore_n 2, 1) := by decide +kernel
theorem dX12_unit_67 : decode cX12_unit 67 = .ok (.aload_n 0, 1) := by decide +kernel
theorem dX12_unit_68 : decode cX12_unit 68 = .ok (.bipush 41, 2) := by decide +kernel
theorem dX12_unit_70 : decode cX12_unit 70 = .ok (.invokevirtual 177, 3) := by decide +kernel
theorem dX12_unit_73 : decode cX12_unit 73 = .ok (.ifCond .ne 5, 3) := by decide +kernel
theorem dX12_unit_76 : decode cX12_unit 76 = .ok (.iconst 0, 1) := by decide +kernel
theorem dX12_unit_77 : decode cX12_unit 77 = .ok (.ireturn, 1) := by decide +kernel
theorem dX12_unit_78 : decode cX12_unit 78 = .ok (.aload_n 0, 1) := by decide +kernel
theorem dX12_unit_79 : decode cX12_unit 79 = .ok (.dup, 1) := by decide +kernel
theorem dX12_unit_80 : decode cX12_unit 80 = .ok (.getfield 144, 3) := by decide +kernel
theorem dX12_unit_83 : decode cX12_unit 83 = .ok (.iconst 1, 1) := by decide +kernel
theorem dX12_unit_84 : decode cX12_unit 84 = .ok (.isub, 1) := by decide +kernel
theorem dX12_unit_85 : decode cX12_unit 85 = .ok (.putfield 144, 3) := by decide +kernel
theorem dX12_unit_88 : decode cX12_unit 88 = .ok (.iload_n 2, 1) := by decide +kernel
theorem dX12_unit_89 : decode cX12_unit 89 = .ok (.ireturn, 1) := by decide +kernel
theorem dX12_unit_90 : decode cX12_unit 90 = .ok (.aload_n 0, 1) := by decide +kernel
theorem dX12_unit_91 : decode cX12_unit 91 = .ok (.iconst 0, 1) := by decide +kernel
theorem dX12_unit_92 : decode cX12_unit 92 = .ok (.iconst 0, 1) := by decide +kernel
theorem dX12_unit_93 : decode cX12_unit 93 = .ok (.invokevirtual 204, 3) := by decide +kernel
theorem dX12_unit_96 : decode cX12_unit 96 = .ok (.ireturn, 1) := by decide +kernel
theorem dX12_part_0 : decode cX12_part 0 = .ok (.iload_n 1, 1) := by decide +kernel
theorem dX12_part_1 : decode cX12_part 1 = .ok (.ifCond .eq 12, 3) := by decide +kernel
theorem dX12_part_4 : decode cX12_part 4 = .ok (.aload_n 0, 1) := by decide +kernel
theorem dX12_part_5 : decode cX12_part 5 = .ok (.iconst 1, 1) := by decide +kernel
theorem dX12_part_6 : decode cX12_part 6 = .ok (.iload_n 2, 1) := by decide +kernel
theorem dX12_part_7 : decode cX12_part 7 = .ok (.invokevirtual 204, 3) := by decide +kernel
theorem dX12_part_10 : decode cX12_part 10 = .ok (.goto 7, 3) := by decide +kernel
theorem dX12_part_13 : decode cX12_part 13 = .ok (.aload_n 0, 1) := by decide +kernel
theorem dX12_part_14 : decode cX12_part 14 = .ok (.invokevirtual 197, 3) := by decide +kernel
theorem dX12_part_17 : decode cX12_part 17 = .ok (.istore_n 3, 1) := by decide +kernel
theorem dX12_part_18 : decode cX12_part 18 = .ok (.aload_n 0, 1) := by decide +kernel
theorem dX12_part_19 : decode cX12_part 19 = .ok (.getfield 141, 3) := by decide +kernel
theorem dX12_part_22 : decode cX12_part 22 = .ok (.iconst (-1), 1) := by decide +kernel
theorem dX12_part_23 : decode cX12_part 23 = .ok (.if_icmp .ne 46, 3) := by decide +kernel
theorem dX12_part_26 : decode cX12_part 26 = .ok (.aload_n 0, 1) := by decide +kernel
theorem dX12_part_27 : decode cX12_part 27 = .ok (.invokevirtual 151, 3) := by decide +kernel
theorem dX12_part_30 : decode cX12_part 30 = .ok (.bipush 38, 2) := by decide +kernel
theorem dX12_part_32 : decode cX12_part 32 = .ok (.if_icmp .ne 37, 3) := by decide +kernel
theorem dX12_part_35 : decode cX12_part 35 = .ok (.aload_n 0, 1) := by decide +kernel
theorem dX12_part_36 : decode cX12_part 36 = .ok (.dup, 1) := by decide +kernel
theorem dX12_part_37 : decode cX12_part 37 = .ok (.getfield 132, 3) := by decide +kernel
theorem dX12_part_40 : decode cX12_part 40 = .ok (.iconst 1, 1) := by decide +kernel
theorem dX12_part_41 : decode cX12_part 41 = .ok (.iadd, 1) := by decide +kernel
theorem dX12_part_42 : decode cX12_part 42 = .ok (.putfield 132, 3) := by decide +kernel
theorem dX12_part_45 : decode cX12_part 45 = .ok (.aload_n 0, 1) := by decide +kernel
theorem dX12_part_46 : decode cX12_part 46 = .ok (.invokevirtual 197, 3) := by decide +kernel
theorem dX12_part_49 : decode cX12_part 49 = .ok (.istore 4, 2) := by decide +kernel
theorem dX12_part_51 : decode cX12_part 51 = .ok (.iload_n 3, 1) := by decide +kernel
theorem dX12_part_52 : decode cX12_part 52 = .ok (.ifCond .eq 12, 3) := by decide +kernel
theorem dX12_part_55 : decode cX12_part 55 = .ok (.iload 4, 2) := by decide +kernel
theorem dX12_part_57 : decode cX12_part 57 = .ok (.ifCond .eq 7, 3) := by decide +kernel
theorem dX12_part_60 : decode cX12_part 60 = .ok (.iconst 1, 1) := by decide +kernel
theorem dX12_part_61 : decode cX12_part 61 = .ok (.goto 4, 3) := by decide +kernel
theorem dX12_part_64 : decode cX12_part 64 = .ok (.iconst 0, 1) := by decide +kernel
theorem dX12_part_65 : decode cX12_part 65 = .ok (.istore_n 3, 1) := by decide +kernel
theorem dX12_part_66 : decode cX12_part 66 = .ok (.goto (-48), 3) := by decide +kernel
theorem dX12_part_69 : decode cX12_part 69 = .ok (.iload_n 3, 1) := by decide +kernel
theorem dX12_part_70 : decode cX12_part 70 = .ok (.ireturn, 1) := by decide +kernel
theorem dX12_condition_0 : decode cX12_condition 0 = .ok (.aload_n 0, 1) := by decide +kernel
theorem dX12_condition_1 : decode cX12_condition 1 = .ok (.iload_n 1, 1) := by decide +kernel
theorem dX12_condition_2 : decode cX12_condition 2 = .ok (.iload_n 2, 1) := by decide +kernel
theorem dX12_condition_3 : decode cX12_condition 3 = .ok (.invokevirtual 207, 3) := by decide +kernel
theorem dX12_condition_6 : decode cX12_condition 6 = .ok (.istore_n 3, 1) := by decide +kernel
theorem dX12_condition_7 : decode cX12_condition 7 = .ok (.aload_n 0, 1) := by decide +kernel
theorem dX12_condition_8 : decode cX12_condition 8 = .ok (.getfield 141, 3) := by decide +kernel
theorem dX12_condition_11 : decode cX12_condition 11 = .ok (.iconst (-1), 1) := by decide +kernel
theorem dX12_condition_12 : decode cX12_condition 12 = .ok (.if_icmp .ne 48, 3) := by decide +kernel
theorem dX12_condition_15 : decode cX12_condition 15 = .ok (.aload_n 0, 1) := by decide +kernel
theorem dX12_condition_16 : decode cX12_condition 16 = .ok (.invokevirtual 151, 3) := by decide +kernel
theorem dX12_condition_19 : decode cX12_condition 19 = .ok (.bipush 124, 2) := by decide +kernel
theorem dX12_condition_21 : decode cX12_condition 21 = .ok (.if_icmp .ne 39, 3) := by decide +kernel
theorem dX12_condition_24 : decode cX12_condition 24 = .ok (.aload_n 0, 1) := by decide +kernel
theorem dX12_condition_25 : decode cX12_condition 25 = .ok (.dup, 1) := by decide +kernel
theorem dX12_condition_26 : decode cX12_condition 26 = .ok (.getfield 132, 3) := by decide +kernel
theorem dX12_condition_29 : decode cX12_condition 29 = .ok (.iconst 1, 1) := by decide +kernel
theorem dX12_condition_30 : decode cX12_condition 30 = .ok (.iadd, 1) := by decide +kernel
theorem dX12_condition_31 : decode cX12_condition 31 = .ok (.putfield 132, 3) := by decide +kernel
theorem dX12_condition_34 : decode cX12_condition 34 = .ok (.aload_n 0, 1) := by decide +kernel
theorem dX12_condition_35 : decode cX12_condition 35 = .ok (.iconst 0, 1) := by decide +kernel
theorem dX12_condition_36 : decode cX12_condition 36 = .ok (.iconst 0, 1) := by decide +kernel
theorem dX12_condition_37 : decode cX12_condition 37 = .ok (.invokevirtual 207, 3) := by decide +kernel
theorem dX12_condition_40 : decode cX12_condition 40 = .ok (.istore 4, 2) := by decide +kernel
theorem dX12_condition_42 : decode cX12_condition 42 = .ok (.iload_n 3, 1) := by decide +kernel
theorem dX12_condition_43 : decode cX12_condition 43 = .ok (.ifCond .ne 8, 3) := by decide +kernel
theorem dX12_condition_46 : decode cX12_condition 46 = .ok (.iload 4, 2) := by decide +kernel
theorem dX12_condition_48 : decode cX12_condition 48 = .ok (.ifCond .eq 7, 3) := by decide +kernel
theorem dX12_condition_51 : decode cX12_condition 51 = .ok (.iconst 1, 1) := by decide +kernel
theorem dX12_condition_52 : decode cX12_condition 52 = .ok (.goto 4, 3) := by decide +kernel
theorem dX12_condition_55 : decode cX12_condition 55 = .ok (.iconst 0, 1) := by decide +kernel
theorem dX12_condition_56 : decode cX12_condition 56 = .ok (.istore_n 3, 1) := by decide +kernel
theorem dX12_condition_57 : decode cX12_condition 57 = .ok (.goto (-50), 3) := by decide +kernel
theorem dX12_condition_60 : decode cX12_condition 60 = .ok (.iload_n 3, 1) := by decide +kernel
theorem dX12_condition_61 : decode cX12_condition 61 = .ok (.ireturn, 1) := by decide +kernel
theorem dX12_clause_0 : decode cX12_clause 0 = .ok (.aload_n 0, 1) := by decide +kernel
theorem dX12_clause_1 : decode cX12_clause 1 = .ok (.invokevirtual 151, 3) := by decide +kernel
theorem dX12_clause_4 : decode cX12_clause 4 = .ok (.istore_n 1, 1) := by decide +kernel
theorem dX12_clause_5 : decode cX12_clause 5 = .ok (.ldc 26, 2) := by decide +kernel
theorem dX12_clause_7 : decode cX12_clause 7 = .ok (.iload_n 1, 1) := by decide +kernel
theorem dX12_clause_8 : decode cX12_clause 8 = .ok (.invokestatic 167, 3) := by decide +kernel
theorem dX12_clause_11 : decode cX12_clause 11 = .ok (.ifCond .ne 9, 3) := by decide +kernel
theorem dX12_clause_14 : decode cX12_clause 14 = .ok (.aload_n 0, 1) := by decide +kernel
theorem dX12_clause_15 : decode cX12_clause 15 = .ok (.invokevirtual 147, 3) := by decide +kernel
theorem dX12_clause_18 : decode cX12_clause 18 = .ok (.pop, 1) := by decide +kernel
theorem dX12_clause_19 : decode cX12_clause 19 = .ok (.return_, 1) := by decide +kernel
theorem dX12_clause_20 : decode cX12_clause 20 = .ok (.aload_n 0, 1) := by decide +kernel
theorem dX12_clause_21 : decode cX12_clause 21 = .ok (.dup, 1) := by decide +kernel
theorem dX12_clause_22 : decode cX12_clause 22 = .ok (.getfield 132, 3) := by decide +kernel
theorem dX12_clause_25 : decode cX12_clause 25 = .ok (.iconst 1, 1) := by decide +kernel
theorem dX12_clause_26 : decode cX12_clause 26 = .ok (.iadd, 1) := by decide +kernel
theorem dX12_clause_27 : decode cX12_clause 27 = .ok (.putfield 132, 3) := by decide +kernel
theorem dX12_clause_30 : decode cX12_clause 30 = .ok (.aload_n 0, 1) := by decide +kernel
theorem dX12_clause_31 : decode cX12_clause 31 = .ok (.bipush 58, 2) := by decide +kernel
theorem dX12_clause_33 : decode cX12_clause 33 = .ok (.invokevirtual 177, 3) := by decide +kernel
theorem dX12_clause_36 : decode cX12_clause 36 = .ok (.ifCond .ne 4, 3) := by decide +kernel
theorem dX12_clause_39 : decode cX12_clause 39 = .ok (.return_, 1) := by decide +kernel
theorem dX12_clause_40 : decode cX12_clause 40 = .ok (.iconst 1, 1) := by decide +kernel
theorem dX12_clause_41 : decode cX12_clause 41 = .ok (.istore_n 2, 1) := by decide +kernel
theorem dX12_clause_42 : decode cX12_clause 42 = .ok (.iconst 0, 1) := by decide +kernel
theorem dX12_clause_43 : decode cX12_clause 43 = .ok (.istore_n 3, 1) := by decide +kernel
theorem dX12_clause_44 : decode cX12_clause 44 = .ok (.aload_n 0, 1) := by decide +kernel
theorem dX12_clause_45 : decode cX12_clause 45 = .ok (.invokevirtual 151, 3) := by decide +kernel
theorem dX12_clause_48 : decode cX12_clause 48 = .ok (.istore 4, 2) := by decide +kernel
theorem dX12_clause_50 : decode cX12_clause 50 = .ok (.iload 4, 2) := by decide +kernel
theorem dX12_clause_52 : decode cX12_clause 52 = .ok (.bipush 33, 2) := by decide +kernel
theorem dX12_clause_54 : decode cX12_clause 54 = .ok (.if_icmp .eq 10, 3) := by decide +kernel
theorem dX12_clause_57 : decode cX12_clause 57 = .ok (.iload 4, 2) := by decide +kernel
theorem dX12_clause_59 : decode cX12_clause 59 = .ok (.bipush 40, 2) := by decide +kernel
theorem dX12_clause_61 : decode cX12_clause 61 = .ok (.if_icmp .ne 28, 3) := by decide +kernel
theorem dX12_clause_64 : decode cX12_clause 64 = .ok (.aload_n 0, 1) := by decide +kernel
theorem dX12_clause_65 : decode cX12_clause 65 = .ok (.iconst 0, 1) := by decide +kernel
theorem dX12_clause_66 : decode cX12_clause 66 = .ok (.iconst 0, 1) := by decide +kernel
theorem dX12_clause_67 : decode cX12_clause 67 = .ok (.invokevirtual 200, 3) := by decide +kernel
theorem dX12_clause_70 : decode cX12_clause 70 = .ok (.istore_n 2, 1) := by decide +kernel
theorem dX12_clause_71 : decode cX12_clause 71 = .ok (.aload_n 0, 1) := by decide +kernel
theorem dX12_clause_72 : decode cX12_clause 72 = .ok (.bipush 63, 2) := by decide +kernel
theorem dX12_clause_74 : decode cX12_clause 74 = .ok (.invokevirtual 177, 3) := by decide +kernel
theorem dX12_clause_77 : decode cX12_clause 77 = .ok (.ifCond .ne 4, 3) := by decide +kernel
theorem dX12_clause_80 : decode cX12_clause 80 = .ok (.return_, 1) := by decide +kernel
theorem dX12_clause_81 : decode cX12_clause 81 = .ok (.aload_n 0, 1) := by decide +kernel
theorem dX12_clause_82 : decode cX12_clause 82 = .ok (.invokevirtual 174, 3) := by decide +kernel
theorem dX12_clause_85 : decode cX12_clause 85 = .ok (.istore_n 3, 1) := by decide +kernel
theorem dX12_clause_86 : decode cX12_clause 86 = .ok (.goto 48, 3) := by decide +kernel
theorem dX12_clause_89 : decode cX12_clause 89 = .ok (.aload_n 0, 1) := by decide +kernel
theorem dX12_clause_90 : decode cX12_clause 90 = .ok (.invokevirtual 174, 3) := by decide +kernel
theorem dX12_clause_93 : decode cX12_clause 93 = .ok (.istore_n 3, 1) := by decide +kernel
theorem dX12_clause_94 : decode cX12_clause 94 = .ok (.aload_n 0, 1) := by decide +kernel
theorem dX12_clause_95 : decode cX12_clause 95 = .ok (.getfield 141, 3) := by decide +kernel
theorem dX12_clause_98 : decode cX12_clause 98 = .ok (.iconst (-1), 1) := by decide +kernel
theorem dX12_clause_99 : decode cX12_clause 99 = .ok (.if_icmp .ne 35, 3) := by decide +kernel
theorem dX12_clause_102 : decode cX12_clause 102 = .ok (.aload_n 0, 1) := by decide +kernel
theorem dX12_clause_103 : decode cX12_clause 103 = .ok (.invokevirtual 151, 3) := by decide +kernel
theorem dX12_clause_106 : decode cX12_clause 106 = .ok (.invokestatic 194, 3) := by decide +kernel
theorem dX12_clause_109 : decode cX12_clause 109 = .ok (.ifCond .eq 25, 3) := by decide +kernel
theorem dX12_clause_112 : decode cX12_clause 112 = .ok (.aload_n 0, 1) := by decide +kernel
theorem dX12_clause_113 : decode cX12_clause 113 = .ok (.iconst 1, 1) := by decide +kernel
theorem dX12_clause_114 : decode cX12_clause 114 = .ok (.iload_n 3, 1) := by decide +kernel
theorem dX12_clause_115 : decode cX12_clause 115 = .ok (.invokevirtual 200, 3) := by decide +kernel
theorem dX12_clause_118 : decode cX12_clause 118 = .ok (.istore_n 2, 1) := by decide +kernel
theorem dX12_clause_119 : decode cX12_clause 119 = .ok (.aload_n 0, 1) := by decide +kernel
theorem dX12_clause_120 : decode cX12_clause 120 = .ok (.bipush 63, 2) := by decide +kernel
theorem dX12_clause_122 : decode cX12_clause 122 = .ok (.invokevirtual 177, 3) := by decide +kernel
theorem dX12_clause_125 : decode cX12_clause 125 = .ok (.ifCond .ne 4, 3) := by decide +kernel
theorem dX12_clause_128 : decode cX12_clause 128 = .ok (.return_, 1) := by decide +kernel
theorem dX12_clause_129 : decode cX12_clause 129 = .ok (.aload_n 0, 1) := by decide +kernel
theorem dX12_clause_130 : decode cX12_clause 130 = .ok (.invokevirtual 174, 3) := by decide +kernel
theorem dX12_clause_133 : decode cX12_clause 133 = .ok (.istore_n 3, 1) := by decide +kernel
theorem dX12_clause_134 : decode cX12_clause 134 = .ok (.aload_n 0, 1) := by decide +kernel
theorem dX12_clause_135 : decode cX12_clause 135 = .ok (.getfield 141, 3) := by decide +kernel
theorem dX12_clause_138 : decode cX12_clause 138 = .ok (.iconst (-1), 1) := by decide +kernel
theorem dX12_clause_139 : decode cX12_clause 139 = .ok (.if_icmp .ne 22, 3) := by decide +kernel
theorem dX12_clause_142 : decode cX12_clause 142 = .ok (.aload_n 0, 1) := by decide +kernel
theorem dX12_clause_143 : decode cX12_clause 143 = .ok (.getfield 210, 3) := by decide +kernel
theorem dX12_clause_146 : decode cX12_clause 146 = .ok (.ifCond .ne 15, 3) := by decide +kernel
theorem dX12_clause_149 : decode cX12_clause 149 = .ok (.iload_n 1, 1) := by decide +kernel
theorem dX12_clause_150 : decode cX12_clause 150 = .ok (.aload_n 0, 1) := by decide +kernel
theorem dX12_clause_151 : decode cX12_clause 151 = .ok (.getfield 214, 3) := by decide +kernel
theorem dX12_clause_154 : decode cX12_clause 154 = .ok (.if_icmp .ne 7, 3) := by decide +kernel
theorem dX12_clause_157 : decode cX12_clause 157 = .ok (.iload_n 2, 1) := by decide +kernel
theorem dX12_clause_158 : decode cX12_clause 158 = .ok (.ifCond .ne 4, 3) := by decide +kernel
theorem dX12_clause_161 : decode cX12_clause 161 = .ok (.return_, 1) := by decide +kernel
theorem dX12_clause_162 : decode cX12_clause 162 = .ok (.aload_n 0, 1) := by decide +kernel
theorem dX12_clause_163 : decode cX12_clause 163 = .ok (.iconst 1, 1) := by decide +kernel
theorem dX12_clause_164 : decode cX12_clause 164 = .ok (.putfield 210, 3) := by decide +kernel
theorem dX12_clause_167 : decode cX12_clause 167 = .ok (.aload_n 0, 1) := by decide +kernel
theorem dX12_clause_168 : decode cX12_clause 168 = .ok (.iload_n 3, 1) := by decide +kernel
theorem dX12_clause_169 : decode cX12_clause 169 = .ok (.putfield 217, 3) := by decide +kernel
theorem dX12_clause_172 : decode cX12_clause 172 = .ok (.return_, 1) := by decide +kernel
theorem dX12_starts_0 : decode cX12_starts 0 = .ok (.aload_n 0, 1) := by decide +kernel
theorem dX12_starts_1 : decode cX12_starts 1 = .ok (.aload_n 1, 1) := by decide +kernel
theorem dX12_starts_2 : decode cX12_starts 2 = .ok (.putfield 23, 3) := by decide +kernel
theorem dX12_starts_5 : decode cX12_starts 5 = .ok (.aload_n 0, 1) := by decide +kernel
theorem dX12_starts_6 : decode cX12_starts 6 = .ok (.iload_n 2, 1) := by decide +kernel
theorem dX12_starts_7 : decode cX12_starts 7 = .ok (.putfield 138, 3) := by decide +kernel
theorem dX12_starts_10 : decode cX12_starts 10 = .ok (.aload_n 0, 1) := by decide +kernel
theorem dX12_starts_11 : decode cX12_starts 11 = .ok (.iload_n 3, 1) := by decide +kernel
theorem dX12_starts_12 : decode cX12_starts 12 = .ok (.putfield 135, 3) := by decide +kernel
theorem dX12_starts_15 : decode cX12_starts 15 = .ok (.aload_n 0, 1) := by decide +kernel
theorem dX12_starts_16 : decode cX12_starts 16 = .ok (.iconst 0, 1) := by decide +kernel
theorem dX12_starts_17 : decode cX12_starts 17 = .ok (.putfield 132, 3) := by decide +kernel
theorem dX12_starts_20 : decode cX12_starts 20 = .ok (.aload_n 0, 1) := by decide +kernel
theorem dX12_starts_21 : decode cX12_starts 21 = .ok (.iconst (-1), 1) := by decide +kernel
theorem dX12_starts_22 : decode cX12_starts 22 = .ok (.putfield 141, 3) := by decide +kernel
theorem dX12_starts_25 : decode cX12_starts 25 = .ok (.return_, 1) := by decide +kernel
theorem dX12_goThrough_0 : decode cX12_goThrough 0 = .ok (.aload_n 0, 1) := by decide +kernel
theorem dX12_goThrough_1 : decode cX12_goThrough 1 = .ok (.aload_n 1, 1) := by decide +kernel
theorem dX12_goThrough_2 : decode cX12_goThrough 2 = .ok (.iload_n 2, 1) := by decide +kernel
theorem dX12_goThrough_3 : decode cX12_goThrough 3 = .ok (.iload_n 3, 1) := by decide +kernel
theorem dX12_goThrough_4 : decode cX12_goThrough 4 = .ok (.invokevirtual 220, 3) := by decide +kernel
theorem dX12_goThrough_7 : decode cX12_goThrough 7 = .ok (.aload_n 0, 1) := by decide +kernel
theorem dX12_goThrough_8 : decode cX12_goThrough 8 = .ok (.bipush 121, 2) := by decide +kernel
theorem dX12_goThrough_10 : decode cX12_goThrough 10 = .ok (.putfield 214, 3) := by decide +kernel
theorem dX12_goThrough_13 : decode cX12_goThrough 13 = .ok (.aload_n 0, 1) := by decide +kernel
theorem dX12_goThrough_14 : decode cX12_goThrough 14 = .ok (.iconst 0, 1) := by decide +kernel
theorem dX12_goThrough_15 : decode cX12_goThrough 15 = .ok (.putfield 144, 3) := by decide +kernel
theorem dX12_goThrough_18 : decode cX12_goThrough 18 = .ok (.aload_n 0, 1) := by decide +kernel
theorem dX12_goThrough_19 : decode cX12_goThrough 19 = .ok (.iconst 0, 1) := by decide +kernel
theorem dX12_goThrough_20 : decode cX12_goThrough 20 = .ok (.putfield 210, 3) := by decide +kernel
theorem dX12_goThrough_23 : decode cX12_goThrough 23 = .ok (.aload_n 0, 1) := by decide +kernel
theorem dX12_goThrough_24 : decode cX12_goThrough 24 = .ok (.iconst 0, 1) := by decide +kernel
theorem dX12_goThrough_25 : decode cX12_goThrough 25 = .ok (.putfield 217, 3) := by decide +kernel
theorem dX12_goThrough_28 : decode cX12_goThrough 28 = .ok (.aload_n 0, 1) := by decide +kernel
theorem dX12_goThrough_29 : decode cX12_goThrough 29 = .ok (.invokevirtual 224, 3) := by decide +kernel
theorem dX12_goThrough_32 : decode cX12_goThrough 32 = .ok (.aload_n 0, 1) := by decide +kernel
theorem dX12_goThrough_33 : decode cX12_goThrough 33 = .ok (.getfield 141, 3) := by decide +kernel
theorem dX12_goThrough_36 : decode cX12_goThrough 36 = .ok (.iconst (-1), 1) := by decide +kernel
theorem dX12_goThrough_37 : decode cX12_goThrough 37 = .ok (.if_icmp .ne 29, 3) := by decide +kernel
theorem dX12_goThrough_40 : decode cX12_goThrough 40 = .ok (.aload_n 0, 1) := by decide +kernel
theorem dX12_goThrough_41 : decode cX12_goThrough 41 = .ok (.invokevirtual 151, 3) := by decide +kernel
theorem dX12_goThrough_44 : decode cX12_goThrough 44 = .ok (.bipush 59, 2) := by decide +kernel
theorem dX12_goThrough_46 : decode cX12_goThrough 46 = .ok (.if_icmp .ne 20, 3) := by decide +kernel
theorem dX12_goThrough_49 : decode cX12_goThrough 49 = .ok (.aload_n 0, 1) := by decide +kernel
theorem dX12_goThrough_50 : decode cX12_goThrough 50 = .ok (.dup, 1) := by decide +kernel
theorem dX12_goThrough_51 : decode cX12_goThrough 51 = .ok (.getfield 132, 3) := by decide +kernel
theorem dX12_goThrough_54 : decode cX12_goThrough 54 = .ok (.iconst 1, 1) := by decide +kernel
theorem dX12_goThrough_55 : decode cX12_goThrough 55 = .ok (.iadd, 1) := by decide +kernel
theorem dX12_goThrough_56 : decode cX12_goThrough 56 = .ok (.putfield 132, 3) := by decide +kernel
theorem dX12_goThrough_59 : decode cX12_goThrough 59 = .ok (.aload_n 0, 1) := by decide +kernel
theorem dX12_goThrough_60 : decode cX12_goThrough 60 = .ok (.invokevirtual 224, 3) := by decide +kernel
theorem dX12_goThrough_63 : decode cX12_goThrough 63 = .ok (.goto (-31), 3) := by decide +kernel
theorem dX12_goThrough_66 : decode cX12_goThrough 66 = .ok (.aload_n 0, 1) := by decide +kernel
theorem dX12_goThrough_67 : decode cX12_goThrough 67 = .ok (.getfield 141, 3) := by decide +kernel
theorem dX12_goThrough_70 : decode cX12_goThrough 70 = .ok (.iconst (-1), 1) := by decide +kernel
theorem dX12_goThrough_71 : decode cX12_goThrough 71 = .ok (.if_icmp .ne 16, 3) := by decide +kernel
theorem dX12_goThrough_74 : decode cX12_goThrough 74 = .ok (.aload_n 0, 1) := by decide +kernel
theorem dX12_goThrough_75 : decode cX12_goThrough 75 = .ok (.invokevirtual 151, 3) := by decide +kernel
theorem dX12_goThrough_78 : decode cX12_goThrough 78 = .ok (.iconst (-1), 1) := by decide +kernel
theorem dX12_goThrough_79 : decode cX12_goThrough 79 = .ok (.if_icmp .eq 8, 3) := by decide +kernel
theorem dX12_goThrough_82 : decode cX12_goThrough 82 = .ok (.aload_n 0, 1) := by decide +kernel
theorem dX12_goThrough_83 : decode cX12_goThrough 83 = .ok (.invokevirtual 147, 3) := by decide +kernel
theorem dX12_goThrough_86 : decode cX12_goThrough 86 = .ok (.pop, 1) := by decide +kernel
theorem dX12_goThrough_87 : decode cX12_goThrough 87 = .ok (.return_, 1) := by decide +kernel
theorem dX12_here_0 : decode cX12_here 0 = .ok (.aload_n 0, 1) := by decide +kernel
theorem dX12_here_1 : decode cX12_here 1 = .ok (.getfield 132, 3) := by decide +kernel
theorem dX12_here_4 : decode cX12_here 4 = .ok (.aload_n 0, 1) := by decide +kernel
theorem dX12_here_5 : decode cX12_here 5 = .ok (.getfield 135, 3) := by decide +kernel
theorem dX12_here_8 : decode cX12_here 8 = .ok (.if_icmp .ge 24, 3) := by decide +kernel
theorem dX12_here_11 : decode cX12_here 11 = .ok (.aload_n 0, 1) := by decide +kernel
theorem dX12_here_12 : decode cX12_here 12 = .ok (.getfield 23, 3) := by decide +kernel
theorem dX12_here_15 : decode cX12_here 15 = .ok (.aload_n 0, 1) := by decide +kernel
theorem dX12_here_16 : decode cX12_here 16 = .ok (.getfield 138, 3) := by decide +kernel
theorem dX12_here_19 : decode cX12_here 19 = .ok (.aload_n 0, 1) := by decide +kernel
theorem dX12_here_20 : decode cX12_here 20 = .ok (.getfield 132, 3) := by decide +kernel
theorem dX12_here_23 : decode cX12_here 23 = .ok (.iadd, 1) := by decide +kernel
theorem dX12_here_24 : decode cX12_here 24 = .ok (.baload, 1) := by decide +kernel
theorem dX12_here_25 : decode cX12_here 25 = .ok (.sipush 255, 3) := by decide +kernel
theorem dX12_here_28 : decode cX12_here 28 = .ok (.iand, 1) := by decide +kernel
theorem dX12_here_29 : decode cX12_here 29 = .ok (.goto 4, 3) := by decide +kernel
theorem dX12_here_32 : decode cX12_here 32 = .ok (.iconst (-1), 1) := by decide +kernel
theorem dX12_here_33 : decode cX12_here 33 = .ok (.ireturn, 1) := by decide +kernel
theorem dX12_spotOf_0 : decode cX12_spotOf 0 = .ok (.iconst 0, 1) := by decide +kernel
theorem dX12_spotOf_1 : decode cX12_spotOf 1 = .ok (.istore_n 2, 1) := by decide +kernel
theorem dX12_spotOf_2 : decode cX12_spotOf 2 = .ok (.iload_n 2, 1) := by decide +kernel
theorem dX12_spotOf_3 : decode cX12_spotOf 3 = .ok (.aload_n 0, 1) := by decide +kernel
theorem dX12_spotOf_4 : decode cX12_spotOf 4 = .ok (.invokevirtual 112, 3) := by decide +kernel
theorem dX12_spotOf_7 : decode cX12_spotOf 7 = .ok (.if_icmp .ge 20, 3) := by decide +kernel
theorem dX12_spotOf_10 : decode cX12_spotOf 10 = .ok (.aload_n 0, 1) := by decide +kernel
theorem dX12_spotOf_11 : decode cX12_spotOf 11 = .ok (.iload_n 2, 1) := by decide +kernel
theorem dX12_spotOf_12 : decode cX12_spotOf 12 = .ok (.invokevirtual 118, 3) := by decide +kernel
theorem dX12_spotOf_15 : decode cX12_spotOf 15 = .ok (.iload_n 1, 1) := by decide +kernel
theorem dX12_spotOf_16 : decode cX12_spotOf 16 = .ok (.if_icmp .ne 5, 3) := by decide +kernel
theorem dX12_spotOf_19 : decode cX12_spotOf 19 = .ok (.iload_n 2, 1) := by decide +kernel
theorem dX12_spotOf_20 : decode cX12_spotOf 20 = .ok (.ireturn, 1) := by decide +kernel
theorem dX12_spotOf_21 : decode cX12_spotOf 21 = .ok (.iinc 2 1, 3) := by decide +kernel
theorem dX12_spotOf_24 : decode cX12_spotOf 24 = .ok (.goto (-22), 3) := by decide +kernel
theorem dX12_spotOf_27 : decode cX12_spotOf 27 = .ok (.iconst (-1), 1) := by decide +kernel
theorem dX12_spotOf_28 : decode cX12_spotOf 28 = .ok (.ireturn, 1) := by decide +kernel
theorem dX12_number_0 : decode cX12_number 0 = .ok (.aload_n 0, 1) := by decide +kernel
theorem dX12_number_1 : decode cX12_number 1 = .ok (.invokevirtual 151, 3) := by decide +kernel
theorem dX12_number_4 : decode cX12_number 4 = .ok (.istore_n 3, 1) := by decide +kernel
theorem dX12_number_5 : decode cX12_number 5 = .ok (.aload_n 0, 1) := by decide +kernel
theorem dX12_number_6 : decode cX12_number 6 = .ok (.invokevirtual 181, 3) := by decide +kernel
theorem dX12_number_9 : decode cX12_number 9 = .ok (.ifCond .ne 10, 3) := by decide +kernel
theorem dX12_number_12 : decode cX12_number 12 = .ok (.aload_n 0, 1) := by decide +kernel
theorem dX12_number_13 : decode cX12_number 13 = .ok (.invokevirtual 147, 3) := by decide +kernel
theorem dX12_number_16 : decode cX12_number 16 = .ok (.pop, 1) := by decide +kernel
theorem dX12_number_17 : decode cX12_number 17 = .ok (.iconst 0, 1) := by decide +kernel
theorem dX12_number_18 : decode cX12_number 18 = .ok (.ireturn, 1) := by decide +kernel
theorem dX12_number_19 : decode cX12_number 19 = .ok (.iload_n 3, 1) := by decide +kernel
theorem dX12_number_20 : decode cX12_number 20 = .ok (.bipush 48, 2) := by decide +kernel
theorem dX12_number_22 : decode cX12_number 22 = .ok (.isub, 1) := by decide +kernel
theorem dX12_number_23 : decode cX12_number 23 = .ok (.istore 4, 2) := by decide +kernel
theorem dX12_number_25 : decode cX12_number 25 = .ok (.aload_n 0, 1) := by decide +kernel
theorem dX12_number_26 : decode cX12_number 26 = .ok (.dup, 1) := by decide +kernel
theorem dX12_number_27 : decode cX12_number 27 = .ok (.getfield 132, 3) := by decide +kernel
theorem dX12_number_30 : decode cX12_number 30 = .ok (.iconst 1, 1) := by decide +kernel
theorem dX12_number_31 : decode cX12_number 31 = .ok (.iadd, 1) := by decide +kernel
theorem dX12_number_32 : decode cX12_number 32 = .ok (.putfield 132, 3) := by decide +kernel
theorem dX12_number_35 : decode cX12_number 35 = .ok (.aload_n 0, 1) := by decide +kernel
theorem dX12_number_36 : decode cX12_number 36 = .ok (.invokevirtual 181, 3) := by decide +kernel
theorem dX12_number_39 : decode cX12_number 39 = .ok (.ifCond .eq 28, 3) := by decide +kernel
theorem dX12_number_42 : decode cX12_number 42 = .ok (.bipush 10, 2) := by decide +kernel
theorem dX12_number_44 : decode cX12_number 44 = .ok (.iload 4, 2) := by decide +kernel
theorem dX12_number_46 : decode cX12_number 46 = .ok (.imul, 1) := by decide +kernel
theorem dX12_number_47 : decode cX12_number 47 = .ok (.aload_n 0, 1) := by decide +kernel
theorem dX12_number_48 : decode cX12_number 48 = .ok (.invokevirtual 227, 3) := by decide +kernel
theorem dX12_number_51 : decode cX12_number 51 = .ok (.iadd, 1) := by decide +kernel
theorem dX12_number_52 : decode cX12_number 52 = .ok (.bipush 48, 2) := by decide +kernel
theorem dX12_number_54 : decode cX12_number 54 = .ok (.isub, 1) := by decide +kernel
theorem dX12_number_55 : decode cX12_number 55 = .ok (.istore 4, 2) := by decide +kernel
theorem dX12_number_57 : decode cX12_number 57 = .ok (.aload_n 0, 1) := by decide +kernel
theorem dX12_number_58 : decode cX12_number 58 = .ok (.dup, 1) := by decide +kernel
theorem dX12_number_59 : decode cX12_number 59 = .ok (.getfield 132, 3) := by decide +kernel
theorem dX12_number_62 : decode cX12_number 62 = .ok (.iconst 1, 1) := by decide +kernel
theorem dX12_number_63 : decode cX12_number 63 = .ok (.iadd, 1) := by decide +kernel
theorem dX12_number_64 : decode cX12_number 64 = .ok (.putfield 132, 3) := by decide +kernel
theorem dX12_number_67 : decode cX12_number 67 = .ok (.aload_n 0, 1) := by decide +kernel
theorem dX12_number_68 : decode cX12_number 68 = .ok (.invokevirtual 181, 3) := by decide +kernel
theorem dX12_number_71 : decode cX12_number 71 = .ok (.ifCond .eq 10, 3) := by decide +kernel
theorem dX12_number_74 : decode cX12_number 74 = .ok (.aload_n 0, 1) := by decide +kernel
theorem dX12_number_75 : decode cX12_number 75 = .ok (.invokevirtual 147, 3) := by decide +kernel
theorem dX12_number_78 : decode cX12_number 78 = .ok (.pop, 1) := by decide +kernel
theorem dX12_number_79 : decode cX12_number 79 = .ok (.iconst 0, 1) := by decide +kernel
theorem dX12_number_80 : decode cX12_number 80 = .ok (.ireturn, 1) := by decide +kernel
theorem dX12_number_81 : decode cX12_number 81 = .ok (.iload 4, 2) := by decide +kernel
theorem dX12_number_83 : decode cX12_number 83 = .ok (.i2l, 1) := by decide +kernel
theorem dX12_number_84 : decode cX12_number 84 = .ok (.iload_n 1, 1) := by decide +kernel
theorem dX12_number_85 : decode cX12_number 85 = .ok (.i2l, 1) := by decide +kernel
theorem dX12_number_86 : decode cX12_number 86 = .ok (.iload_n 2, 1) := by decide +kernel
theorem dX12_number_87 : decode cX12_number 87 = .ok (.i2l, 1) := by decide +kernel
theorem dX12_number_88 : decode cX12_number 88 = .ok (.invokestatic 230, 3) := by decide +kernel
theorem dX12_number_91 : decode cX12_number 91 = .ok (.ifCond .ne 18, 3) := by decide +kernel
theorem dX12_number_94 : decode cX12_number 94 = .ok (.aload_n 0, 1) := by decide +kernel
theorem dX12_number_95 : decode cX12_number 95 = .ok (.dup, 1) := by decide +kernel
theorem dX12_number_96 : decode cX12_number 96 = .ok (.getfield 132, 3) := by decide +kernel
theorem dX12_number_99 : decode cX12_number 99 = .ok (.iconst 1, 1) := by decide +kernel
theorem dX12_number_100 : decode cX12_number 100 = .ok (.isub, 1) := by decide +kernel
theorem dX12_number_101 : decode cX12_number 101 = .ok (.putfield 132, 3) := by decide +kernel
theorem dX12_number_104 : decode cX12_number 104 = .ok (.aload_n 0, 1) := by decide +kernel
theorem dX12_number_105 : decode cX12_number 105 = .ok (.invokevirtual 147, 3) := by decide +kernel
theorem dX12_number_108 : decode cX12_number 108 = .ok (.pop, 1) := by decide +kernel
theorem dX12_number_109 : decode cX12_number 109 = .ok (.iload 4, 2) := by decide +kernel
theorem dX12_number_111 : decode cX12_number 111 = .ok (.ireturn, 1) := by decide +kernel
theorem dX12_mostOf_0 : decode cX12_mostOf 0 = .ok (.iload_n 0, 1) := by decide +kernel
theorem dX12_mostOf_1 : decode cX12_mostOf 1 = .ok (.bipush 115, 2) := by decide +kernel
theorem dX12_mostOf_3 : decode cX12_mostOf 3 = .ok (.if_icmp .ne 25, 3) := by decide +kernel
theorem dX12_mostOf_6 : decode cX12_mostOf 6 = .ok (.iload_n 1, 1) := by decide +kernel
theorem dX12_mostOf_7 : decode cX12_mostOf 7 = .ok (.ifCond .ne 8, 3) := by decide +kernel
theorem dX12_mostOf_10 : decode cX12_mostOf 10 = .ok (.bipush 30, 2) := by decide +kernel
theorem dX12_mostOf_12 : decode cX12_mostOf 12 = .ok (.goto 15, 3) := by decide +kernel
theorem dX12_mostOf_15 : decode cX12_mostOf 15 = .ok (.iload_n 1, 1) := by decide +kernel
theorem dX12_mostOf_16 : decode cX12_mostOf 16 = .ok (.iconst 1, 1) := by decide +kernel
theorem dX12_mostOf_17 : decode cX12_mostOf 17 = .ok (.if_icmp .ne 8, 3) := by decide +kernel
theorem dX12_mostOf_20 : decode cX12_mostOf 20 = .ok (.bipush 99, 2) := by decide +kernel
theorem dX12_mostOf_22 : decode cX12_mostOf 22 = .ok (.goto 5, 3) := by decide +kernel
theorem dX12_mostOf_25 : decode cX12_mostOf 25 = .ok (.bipush 9, 2) := by decide +kernel
theorem dX12_mostOf_27 : decode cX12_mostOf 27 = .ok (.ireturn, 1) := by decide +kernel
theorem dX12_mostOf_28 : decode cX12_mostOf 28 = .ok (.iload_n 0, 1) := by decide +kernel
theorem dX12_mostOf_29 : decode cX12_mostOf 29 = .ok (.bipush 107, 2) := by decide +kernel
theorem dX12_mostOf_31 : decode cX12_mostOf 31 = .ok (.if_icmp .ne 15, 3) := by decide +kernel
theorem dX12_mostOf_34 : decode cX12_mostOf 34 = .ok (.iload_n 1, 1) := by decide +kernel
theorem dX12_mostOf_35 : decode cX12_mostOf 35 = .ok (.ifCond .ne 8, 3) := by decide +kernel
theorem dX12_mostOf_38 : decode cX12_mostOf 38 = .ok (.bipush 9, 2) := by decide +kernel
theorem dX12_mostOf_40 : decode cX12_mostOf 40 = .ok (.goto 5, 3) := by decide +kernel
theorem dX12_mostOf_43 : decode cX12_mostOf 43 = .ok (.bipush 30, 2) := by decide +kernel
theorem dX12_mostOf_45 : decode cX12_mostOf 45 = .ok (.ireturn, 1) := by decide +kernel
theorem dX12_mostOf_46 : decode cX12_mostOf 46 = .ok (.iload_n 1, 1) := by decide +kernel
theorem dX12_mostOf_47 : decode cX12_mostOf 47 = .ok (.ifCond .ne 7, 3) := by decide +kernel
theorem dX12_mostOf_50 : decode cX12_mostOf 50 = .ok (.iconst 5, 1) := by decide +kernel
theorem dX12_mostOf_51 : decode cX12_mostOf 51 = .ok (.goto 14, 3) := by decide +kernel
theorem dX12_mostOf_54 : decode cX12_mostOf 54 = .ok (.iload_n 1, 1) := by decide +kernel
theorem dX12_mostOf_55 : decode cX12_mostOf 55 = .ok (.iconst 1, 1) := by decide +kernel
theorem dX12_mostOf_56 : decode cX12_mostOf 56 = .ok (.if_icmp .ne 8, 3) := by decide +kernel
theorem dX12_mostOf_59 : decode cX12_mostOf 59 = .ok (.bipush 9, 2) := by decide +kernel
theorem dX12_mostOf_61 : decode cX12_mostOf 61 = .ok (.goto 4, 3) := by decide +kernel
theorem dX12_mostOf_64 : decode cX12_mostOf 64 = .ok (.iconst 1, 1) := by decide +kernel
theorem dX12_mostOf_65 : decode cX12_mostOf 65 = .ok (.ireturn, 1) := by decide +kernel
theorem dX12_usual_0 : decode cX12_usual 0 = .ok (.iload_n 0, 1) := by decide +kernel
theorem dX12_usual_1 : decode cX12_usual 1 = .ok (.bipush 115, 2) := by decide +kernel
theorem dX12_usual_3 : decode cX12_usual 3 = .ok (.if_icmp .ne 24, 3) := by decide +kernel
theorem dX12_usual_6 : decode cX12_usual 6 = .ok (.iload_n 1, 1) := by decide +kernel
theorem dX12_usual_7 : decode cX12_usual 7 = .ok (.ifCond .ne 8, 3) := by decide +kernel
theorem dX12_usual_10 : decode cX12_usual 10 = .ok (.bipush 8, 2) := by decide +kernel
theorem dX12_usual_12 : decode cX12_usual 12 = .ok (.goto 14, 3) := by decide +kernel
theorem dX12_usual_15 : decode cX12_usual 15 = .ok (.iload_n 1, 1) := by decide +kernel
theorem dX12_usual_16 : decode cX12_usual 16 = .ok (.iconst 1, 1) := by decide +kernel
theorem dX12_usual_17 : decode cX12_usual 17 = .ok (.if_icmp .ne 8, 3) := by decide +kernel
theorem dX12_usual_20 : decode cX12_usual 20 = .ok (.bipush 20, 2) := by decide +kernel
theorem dX12_usual_22 : decode cX12_usual 22 = .ok (.goto 4, 3) := by decide +kernel
theorem dX12_usual_25 : decode cX12_usual 25 = .ok (.iconst 0, 1) := by decide +kernel
theorem dX12_usual_26 : decode cX12_usual 26 = .ok (.ireturn, 1) := by decide +kernel
theorem dX12_usual_27 : decode cX12_usual 27 = .ok (.iload_n 0, 1) := by decide +kernel
theorem dX12_usual_28 : decode cX12_usual 28 = .ok (.bipush 107, 2) := by decide +kernel
theorem dX12_usual_30 : decode cX12_usual 30 = .ok (.if_icmp .ne 13, 3) := by decide +kernel
theorem dX12_usual_33 : decode cX12_usual 33 = .ok (.iload_n 1, 1) := by decide +kernel
theorem dX12_usual_34 : decode cX12_usual 34 = .ok (.ifCond .ne 7, 3) := by decide +kernel
theorem dX12_usual_37 : decode cX12_usual 37 = .ok (.iconst 3, 1) := by decide +kernel
theorem dX12_usual_38 : decode cX12_usual 38 = .ok (.goto 4, 3) := by decide +kernel
theorem dX12_usual_41 : decode cX12_usual 41 = .ok (.iconst 4, 1) := by decide +kernel
theorem dX12_usual_42 : decode cX12_usual 42 = .ok (.ireturn, 1) := by decide +kernel
theorem dX12_usual_43 : decode cX12_usual 43 = .ok (.iload_n 1, 1) := by decide +kernel
theorem dX12_usual_44 : decode cX12_usual 44 = .ok (.iconst 1, 1) := by decide +kernel
theorem dX12_usual_45 : decode cX12_usual 45 = .ok (.if_icmp .ne 7, 3) := by decide +kernel
theorem dX12_usual_48 : decode cX12_usual 48 = .ok (.iconst 2, 1) := by decide +kernel
theorem dX12_usual_49 : decode cX12_usual 49 = .ok (.goto 4, 3) := by decide +kernel
theorem dX12_usual_52 : decode cX12_usual 52 = .ok (.iconst 0, 1) := by decide +kernel
theorem dX12_usual_53 : decode cX12_usual 53 = .ok (.ireturn, 1) := by decide +kernel
theorem dX12_readItems_0 : decode cX12_readItems 0 = .ok (.iconst 0, 1) := by decide +kernel
theorem dX12_readItems_1 : decode cX12_readItems 1 = .ok (.istore 5, 2) := by decide +kernel
theorem dX12_readItems_3 : decode cX12_readItems 3 = .ok (.iload 5, 2) := by decide +kernel
theorem dX12_readItems_5 : decode cX12_readItems 5 = .ok (.aload 4, 2) := by decide +kernel
theorem dX12_readItems_7 : decode cX12_readItems 7 = .ok (.invokevirtual 112, 3) := by decide +kernel
theorem dX12_readItems_10 : decode cX12_readItems 10 = .ok (.if_icmp .ge 21, 3) := by decide +kernel
theorem dX12_readItems_13 : decode cX12_readItems 13 = .ok (.aload_n 2, 1) := by decide +kernel
theorem dX12_readItems_14 : decode cX12_readItems 14 = .ok (.iload_n 3, 1) := by decide +kernel
theorem dX12_readItems_15 : decode cX12_readItems 15 = .ok (.iload 5, 2) := by decide +kernel
theorem dX12_readItems_17 : decode cX12_readItems 17 = .ok (.iadd, 1) := by decide +kernel
theorem dX12_readItems_18 : decode cX12_readItems 18 = .ok (.iload_n 1, 1) := by decide +kernel
theorem dX12_readItems_19 : decode cX12_readItems 19 = .ok (.iload 5, 2) := by decide +kernel
theorem dX12_readItems_21 : decode cX12_readItems 21 = .ok (.invokestatic 234, 3) := by decide +kernel
theorem dX12_readItems_24 : decode cX12_readItems 24 = .ok (.iastore, 1) := by decide +kernel
theorem dX12_readItems_25 : decode cX12_readItems 25 = .ok (.iinc 5 1, 3) := by decide +kernel
theorem dX12_readItems_28 : decode cX12_readItems 28 = .ok (.goto (-25), 3) := by decide +kernel
theorem dX12_readItems_31 : decode cX12_readItems 31 = .ok (.iconst 0, 1) := by decide +kernel
theorem dX12_readItems_32 : decode cX12_readItems 32 = .ok (.istore 5, 2) := by decide +kernel
theorem dX12_readItems_34 : decode cX12_readItems 34 = .ok (.aload 4, 2) := by decide +kernel
theorem dX12_readItems_36 : decode cX12_readItems 36 = .ok (.aload_n 0, 1) := by decide +kernel
theorem dX12_readItems_37 : decode cX12_readItems 37 = .ok (.invokevirtual 151, 3) := by decide +kernel
theorem dX12_readItems_40 : decode cX12_readItems 40 = .ok (.invokestatic 238, 3) := by decide +kernel
theorem dX12_readItems_43 : decode cX12_readItems 43 = .ok (.istore 6, 2) := by decide +kernel
theorem dX12_readItems_45 : decode cX12_readItems 45 = .ok (.iload 6, 2) := by decide +kernel
theorem dX12_readItems_47 : decode cX12_readItems 47 = .ok (.iconst (-1), 1) := by decide +kernel
theorem dX12_readItems_48 : decode cX12_readItems 48 = .ok (.if_icmp .eq 100, 3) := by decide +kernel
theorem dX12_readItems_51 : decode cX12_readItems 51 = .ok (.aload_n 0, 1) := by decide +kernel
theorem dX12_readItems_52 : decode cX12_readItems 52 = .ok (.getfield 141, 3) := by decide +kernel
theorem dX12_readItems_55 : decode cX12_readItems 55 = .ok (.iconst (-1), 1) := by decide +kernel
theorem dX12_readItems_56 : decode cX12_readItems 56 = .ok (.if_icmp .ne 92, 3) := by decide +kernel
theorem dX12_readItems_59 : decode cX12_readItems 59 = .ok (.iload 5, 2) := by decide +kernel
theorem dX12_readItems_61 : decode cX12_readItems 61 = .ok (.iload 6, 2) := by decide +kernel
theorem dX12_readItems_63 : decode cX12_readItems 63 = .ok (.invokestatic 242, 3) := by decide +kernel
theorem dX12_readItems_66 : decode cX12_readItems 66 = .ok (.ifCond .eq 9, 3) := by decide +kernel
theorem dX12_readItems_69 : decode cX12_readItems 69 = .ok (.aload_n 0, 1) := by decide +kernel
theorem dX12_readItems_70 : decode cX12_readItems 70 = .ok (.invokevirtual 147, 3) := by decide +kernel
theorem dX12_readItems_73 : decode cX12_readItems 73 = .ok (.pop, 1) := by decide +kernel
theorem dX12_readItems_74 : decode cX12_readItems 74 = .ok (.return_, 1) := by decide +kernel
theorem dX12_readItems_75 : decode cX12_readItems 75 = .ok (.iload 5, 2) := by decide +kernel
theorem dX12_readItems_77 : decode cX12_readItems 77 = .ok (.iconst 1, 1) := by decide +kernel
theorem dX12_readItems_78 : decode cX12_readItems 78 = .ok (.iload 6, 2) := by decide +kernel
theorem dX12_readItems_80 : decode cX12_readItems 80 = .ok (.ishl, 1) := by decide +kernel
theorem dX12_readItems_81 : decode cX12_readItems 81 = .ok (.ior, 1) := by decide +kernel
theorem dX12_readItems_82 : decode cX12_readItems 82 = .ok (.istore 5, 2) := by decide +kernel
theorem dX12_readItems_84 : decode cX12_readItems 84 = .ok (.aload_n 0, 1) := by decide +kernel
theorem dX12_readItems_85 : decode cX12_readItems 85 = .ok (.dup, 1) := by decide +kernel
theorem dX12_readItems_86 : decode cX12_readItems 86 = .ok (.getfield 132, 3) := by decide +kernel
theorem dX12_readItems_89 : decode cX12_readItems 89 = .ok (.iconst 1, 1) := by decide +kernel
theorem dX12_readItems_90 : decode cX12_readItems 90 = .ok (.iadd, 1) := by decide +kernel
theorem dX12_readItems_91 : decode cX12_readItems 91 = .ok (.putfield 132, 3) := by decide +kernel
theorem dX12_readItems_94 : decode cX12_readItems 94 = .ok (.aload_n 2, 1) := by decide +kernel
theorem dX12_readItems_95 : decode cX12_readItems 95 = .ok (.iload_n 3, 1) := by decide +kernel
theorem dX12_readItems_96 : decode cX12_readItems 96 = .ok (.iload 6, 2) := by decide +kernel
theorem dX12_readItems_98 : decode cX12_readItems 98 = .ok (.iadd, 1) := by decide +kernel
theorem dX12_readItems_99 : decode cX12_readItems 99 = .ok (.aload_n 0, 1) := by decide +kernel
theorem dX12_readItems_100 : decode cX12_readItems 100 = .ok (.iload_n 1, 1) := by decide +kernel
theorem dX12_readItems_101 : decode cX12_readItems 101 = .ok (.bipush 115, 2) := by decide +kernel
theorem dX12_readItems_103 : decode cX12_readItems 103 = .ok (.if_icmp .ne 12, 3) := by decide +kernel
theorem dX12_readItems_106 : decode cX12_readItems 106 = .ok (.iload 6, 2) := by decide +kernel
theorem dX12_readItems_108 : decode cX12_readItems 108 = .ok (.ifCond .ne 7, 3) := by decide +kernel
theorem dX12_readItems_111 : decode cX12_readItems 111 = .ok (.iconst 2, 1) := by decide +kernel
theorem dX12_readItems_112 : decode cX12_readItems 112 = .ok (.goto 4, 3) := by decide +kernel
theorem dX12_readItems_115 : decode cX12_readItems 115 = .ok (.iconst 0, 1) := by decide +kernel
theorem dX12_readItems_116 : decode cX12_readItems 116 = .ok (.iload_n 1, 1) := by decide +kernel
theorem dX12_readItems_117 : decode cX12_readItems 117 = .ok (.iload 6, 2) := by decide +kernel
theorem dX12_readItems_119 : decode cX12_readItems 119 = .ok (.invokestatic 246, 3) := by decide +kernel
theorem dX12_readItems_122 : decode cX12_readItems 122 = .ok (.invokevirtual 249, 3) := by decide +kernel
theorem dX12_readItems_125 : decode cX12_readItems 125 = .ok (.iastore, 1) := by decide +kernel
theorem dX12_readItems_126 : decode cX12_readItems 126 = .ok (.aload_n 0, 1) := by decide +kernel
theorem dX12_readItems_127 : decode cX12_readItems 127 = .ok (.getfield 141, 3) := by decide +kernel
theorem dX12_readItems_130 : decode cX12_readItems 130 = .ok (.iconst (-1), 1) := by decide +kernel
theorem dX12_readItems_131 : decode cX12_readItems 131 = .ok (.if_icmp .ne (-86), 3) := by decide +kernel
theorem dX12_readItems_134 : decode cX12_readItems 134 = .ok (.aload 4, 2) := by decide +kernel
theorem dX12_readItems_136 : decode cX12_readItems 136 = .ok (.aload_n 0, 1) := by decide +kernel
theorem dX12_readItems_137 : decode cX12_readItems 137 = .ok (.invokevirtual 151, 3) := by decide +kernel
theorem dX12_readItems_140 : decode cX12_readItems 140 = .ok (.invokestatic 238, 3) := by decide +kernel
theorem dX12_readItems_143 : decode cX12_readItems 143 = .ok (.istore 6, 2) := by decide +kernel
theorem dX12_readItems_145 : decode cX12_readItems 145 = .ok (.goto (-100), 3) := by decide +kernel
theorem dX12_readItems_148 : decode cX12_readItems 148 = .ok (.return_, 1) := by decide +kernel
theorem dX12_readClause_0 : decode cX12_readClause 0 = .ok (.aload_n 0, 1) := by decide +kernel
theorem dX12_readClause_1 : decode cX12_readClause 1 = .ok (.invokevirtual 151, 3) := by decide +kernel
theorem dX12_readClause_4 : decode cX12_readClause 4 = .ok (.istore_n 1, 1) := by decide +kernel
theorem dX12_readClause_5 : decode cX12_readClause 5 = .ok (.iload_n 1, 1) := by decide +kernel
theorem dX12_readClause_6 : decode cX12_readClause 6 = .ok (.bipush 115, 2) := by decide +kernel
theorem dX12_readClause_8 : decode cX12_readClause 8 = .ok (.if_icmp .ne 10, 3) := by decide +kernel
theorem dX12_readClause_11 : decode cX12_readClause 11 = .ok (.aload_n 0, 1) := by decide +kernel
theorem dX12_readClause_12 : decode cX12_readClause 12 = .ok (.getfield 252, 3) := by decide +kernel
theorem dX12_readClause_15 : decode cX12_readClause 15 = .ok (.ifCond .eq 33, 3) := by decide +kernel
theorem dX12_readClause_18 : decode cX12_readClause 18 = .ok (.iload_n 1, 1) := by decide +kernel
theorem dX12_readClause_19 : decode cX12_readClause 19 = .ok (.bipush 107, 2) := by decide +kernel
theorem dX12_readClause_21 : decode cX12_readClause 21 = .ok (.if_icmp .ne 12, 3) := by decide +kernel
theorem dX12_readClause_24 : decode cX12_readClause 24 = .ok (.aload_n 0, 1) := by decide +kernel
theorem dX12_readClause_25 : decode cX12_readClause 25 = .ok (.getfield 255, 3) := by decide +kernel
theorem dX12_readClause_28 : decode cX12_readClause 28 = .ok (.bipush 6, 2) := by decide +kernel
theorem dX12_readClause_30 : decode cX12_readClause 30 = .ok (.if_icmp .lt 18, 3) := by decide +kernel
theorem dX12_readClause_33 : decode cX12_readClause 33 = .ok (.iload_n 1, 1) := by decide +kernel
theorem dX12_readClause_34 : decode cX12_readClause 34 = .ok (.bipush 112, 2) := by decide +kernel
theorem dX12_readClause_36 : decode cX12_readClause 36 = .ok (.if_icmp .ne 16, 3) := by decide +kernel
theorem dX12_readClause_39 : decode cX12_readClause 39 = .ok (.aload_n 0, 1) := by decide +kernel
theorem dX12_readClause_40 : decode cX12_readClause 40 = .ok (.getfield 258, 3) := by decide +kernel
theorem dX12_readClause_43 : decode cX12_readClause 43 = .ok (.bipush 6, 2) := by decide +kernel
theorem dX12_readClause_45 : decode cX12_readClause 45 = .ok (.if_icmp .ge 7, 3) := by decide +kernel
theorem dX12_readClause_48 : decode cX12_readClause 48 = .ok (.iconst 1, 1) := by decide +kernel
theorem dX12_readClause_49 : decode cX12_readClause 49 = .ok (.goto 4, 3) := by decide +kernel
theorem dX12_readClause_52 : decode cX12_readClause 52 = .ok (.iconst 0, 1) := by decide +kernel
theorem dX12_readClause_53 : decode cX12_readClause 53 = .ok (.istore_n 2, 1) := by decide +kernel
theorem dX12_readClause_54 : decode cX12_readClause 54 = .ok (.iload_n 2, 1) := by decide +kernel
theorem dX12_readClause_55 : decode cX12_readClause 55 = .ok (.ifCond .ne 9, 3) := by decide +kernel
theorem dX12_readClause_58 : decode cX12_readClause 58 = .ok (.aload_n 0, 1) := by decide +kernel
theorem dX12_readClause_59 : decode cX12_readClause 59 = .ok (.invokevirtual 147, 3) := by decide +kernel
theorem dX12_readClause_62 : decode cX12_readClause 62 = .ok (.pop, 1) := by decide +kernel
theorem dX12_readClause_63 : decode cX12_readClause 63 = .ok (.return_, 1) := by decide +kernel
theorem dX12_readClause_64 : decode cX12_readClause 64 = .ok (.aload_n 0, 1) := by decide +kernel
theorem dX12_readClause_65 : decode cX12_readClause 65 = .ok (.dup, 1) := by decide +kernel
theorem dX12_readClause_66 : decode cX12_readClause 66 = .ok (.getfield 132, 3) := by decide +kernel
theorem dX12_readClause_69 : decode cX12_readClause 69 = .ok (.iconst 1, 1) := by decide +kernel
theorem dX12_readClause_70 : decode cX12_readClause 70 = .ok (.iadd, 1) := by decide +kernel
theorem dX12_readClause_71 : decode cX12_readClause 71 = .ok (.putfield 132, 3) := by decide +kernel
theorem dX12_readClause_74 : decode cX12_readClause 74 = .ok (.iload_n 1, 1) := by decide +kernel
theorem dX12_readClause_75 : decode cX12_readClause 75 = .ok (.bipush 115, 2) := by decide +kernel
theorem dX12_readClause_77 : decode cX12_readClause 77 = .ok (.if_icmp .ne 24, 3) := by decide +kernel
theorem dX12_readClause_80 : decode cX12_readClause 80 = .ok (.aload_n 0, 1) := by decide +kernel
theorem dX12_readClause_81 : decode cX12_readClause 81 = .ok (.iconst 1, 1) := by decide +kernel
theorem dX12_readClause_82 : decode cX12_readClause 82 = .ok (.putfield 252, 3) := by decide +kernel
theorem dX12_readClause_85 : decode cX12_readClause 85 = .ok (.aload_n 0, 1) := by decide +kernel
theorem dX12_readClause_86 : decode cX12_readClause 86 = .ok (.iload_n 1, 1) := by decide +kernel
theorem dX12_readClause_87 : decode cX12_readClause 87 = .ok (.aload_n 0, 1) := by decide +kernel
theorem dX12_readClause_88 : decode cX12_readClause 88 = .ok (.getfield 40, 3) := by decide +kernel
theorem dX12_readClause_91 : decode cX12_readClause 91 = .ok (.iconst 0, 1) := by decide +kernel
theorem dX12_readClause_92 : decode cX12_readClause 92 = .ok (.ldc_w 261, 3) := by decide +kernel
theorem dX12_readClause_95 : decode cX12_readClause 95 = .ok (.invokevirtual 263, 3) := by decide +kernel
theorem dX12_readClause_98 : decode cX12_readClause 98 = .ok (.goto 72, 3) := by decide +kernel
theorem dX12_readClause_101 : decode cX12_readClause 101 = .ok (.iload_n 1, 1) := by decide +kernel
theorem dX12_readClause_102 : decode cX12_readClause 102 = .ok (.bipush 107, 2) := by decide +kernel
theorem dX12_readClause_104 : decode cX12_readClause 104 = .ok (.if_icmp .ne 36, 3) := by decide +kernel
theorem dX12_readClause_107 : decode cX12_readClause 107 = .ok (.aload_n 0, 1) := by decide +kernel
theorem dX12_readClause_108 : decode cX12_readClause 108 = .ok (.dup, 1) := by decide +kernel
theorem dX12_readClause_109 : decode cX12_readClause 109 = .ok (.getfield 255, 3) := by decide +kernel
theorem dX12_readClause_112 : decode cX12_readClause 112 = .ok (.iconst 1, 1) := by decide +kernel
theorem dX12_readClause_113 : decode cX12_readClause 113 = .ok (.iadd, 1) := by decide +kernel
theorem dX12_readClause_114 : decode cX12_readClause 114 = .ok (.putfield 255, 3) := by decide +kernel
theorem dX12_readClause_117 : decode cX12_readClause 117 = .ok (.aload_n 0, 1) := by decide +kernel
theorem dX12_readClause_118 : decode cX12_readClause 118 = .ok (.iload_n 1, 1) := by decide +kernel
theorem dX12_readClause_119 : decode cX12_readClause 119 = .ok (.aload_n 0, 1) := by decide +kernel
theorem dX12_readClause_120 : decode cX12_readClause 120 = .ok (.getfield 46, 3) := by decide +kernel
theorem dX12_readClause_123 : decode cX12_readClause 123 = .ok (.iconst 2, 1) := by decide +kernel
theorem dX12_readClause_124 : decode cX12_readClause 124 = .ok (.aload_n 0, 1) := by decide +kernel
theorem dX12_readClause_125 : decode cX12_readClause 125 = .ok (.getfield 255, 3) := by decide +kernel
theorem dX12_readClause_128 : decode cX12_readClause 128 = .ok (.iconst 1, 1) := by decide +kernel
theorem dX12_readClause_129 : decode cX12_readClause 129 = .ok (.isub, 1) := by decide +kernel
theorem dX12_readClause_130 : decode cX12_readClause 130 = .ok (.imul, 1) := by decide +kernel
theorem dX12_readClause_131 : decode cX12_readClause 131 = .ok (.ldc_w 267, 3) := by decide +kernel
theorem dX12_readClause_134 : decode cX12_readClause 134 = .ok (.invokevirtual 263, 3) := by decide +kernel
theorem dX12_readClause_137 : decode cX12_readClause 137 = .ok (.goto 33, 3) := by decide +kernel
theorem dX12_readClause_140 : decode cX12_readClause 140 = .ok (.aload_n 0, 1) := by decide +kernel
theorem dX12_readClause_141 : decode cX12_readClause 141 = .ok (.dup, 1) := by decide +kernel
theorem dX12_readClause_142 : decode cX12_readClause 142 = .ok (.getfield 258, 3) := by decide +kernel
theorem dX12_readClause_145 : decode cX12_readClause 145 = .ok (.iconst 1, 1) := by decide +kernel
theorem dX12_readClause_146 : decode cX12_readClause 146 = .ok (.iadd, 1) := by decide +kernel
theorem dX12_readClause_147 : decode cX12_readClause 147 = .ok (.putfield 258, 3) := by decide +kernel
theorem dX12_readClause_150 : decode cX12_readClause 150 = .ok (.aload_n 0, 1) := by decide +kernel
theorem dX12_readClause_151 : decode cX12_readClause 151 = .ok (.iload_n 1, 1) := by decide +kernel
theorem dX12_readClause_152 : decode cX12_readClause 152 = .ok (.aload_n 0, 1) := by decide +kernel
theorem dX12_readClause_153 : decode cX12_readClause 153 = .ok (.getfield 52, 3) := by decide +kernel
theorem dX12_readClause_156 : decode cX12_readClause 156 = .ok (.iconst 3, 1) := by decide +kernel
theorem dX12_readClause_157 : decode cX12_readClause 157 = .ok (.aload_n 0, 1) := by decide +kernel
theorem dX12_readClause_158 : decode cX12_readClause 158 = .ok (.getfield 258, 3) := by decide +kernel
theorem dX12_readClause_161 : decode cX12_readClause 161 = .ok (.iconst 1, 1) := by decide +kernel
theorem dX12_readClause_162 : decode cX12_readClause 162 = .ok (.isub, 1) := by decide +kernel
theorem dX12_readClause_163 : decode cX12_readClause 163 = .ok (.imul, 1) := by decide +kernel
theorem dX12_readClause_164 : decode cX12_readClause 164 = .ok (.ldc_w 269, 3) := by decide +kernel
theorem dX12_readClause_167 : decode cX12_readClause 167 = .ok (.invokevirtual 263, 3) := by decide +kernel
theorem dX12_readClause_170 : decode cX12_readClause 170 = .ok (.return_, 1) := by decide +kernel
theorem dX12_isWhole_0 : decode cX12_isWhole 0 = .ok (.iconst 0, 1) := by decide +kernel
theorem dX12_isWhole_1 : decode cX12_isWhole 1 = .ok (.istore_n 1, 1) := by decide +kernel
theorem dX12_isWhole_2 : decode cX12_isWhole 2 = .ok (.iload_n 1, 1) := by decide +kernel
theorem dX12_isWhole_3 : decode cX12_isWhole 3 = .ok (.aload_n 0, 1) := by decide +kernel
theorem dX12_isWhole_4 : decode cX12_isWhole 4 = .ok (.getfield 258, 3) := by decide +kernel
theorem dX12_isWhole_7 : decode cX12_isWhole 7 = .ok (.if_icmp .ge 26, 3) := by decide +kernel
theorem dX12_isWhole_10 : decode cX12_isWhole 10 = .ok (.aload_n 0, 1) := by decide +kernel
theorem dX12_isWhole_11 : decode cX12_isWhole 11 = .ok (.getfield 52, 3) := by decide +kernel
theorem dX12_isWhole_14 : decode cX12_isWhole 14 = .ok (.iconst 3, 1) := by decide +kernel
theorem dX12_isWhole_15 : decode cX12_isWhole 15 = .ok (.iload_n 1, 1) := by decide +kernel
theorem dX12_isWhole_16 : decode cX12_isWhole 16 = .ok (.imul, 1) := by decide +kernel
theorem dX12_isWhole_17 : decode cX12_isWhole 17 = .ok (.iaload, 1) := by decide +kernel
theorem dX12_isWhole_18 : decode cX12_isWhole 18 = .ok (.aload_n 0, 1) := by decide +kernel
theorem dX12_isWhole_19 : decode cX12_isWhole 19 = .ok (.getfield 255, 3) := by decide +kernel
theorem dX12_isWhole_22 : decode cX12_isWhole 22 = .ok (.if_icmp .lt 5, 3) := by decide +kernel
theorem dX12_isWhole_25 : decode cX12_isWhole 25 = .ok (.iconst 0, 1) := by decide +kernel
theorem dX12_isWhole_26 : decode cX12_isWhole 26 = .ok (.ireturn, 1) := by decide +kernel
theorem dX12_isWhole_27 : decode cX12_isWhole 27 = .ok (.iinc 1 1, 3) := by decide +kernel
theorem dX12_isWhole_30 : decode cX12_isWhole 30 = .ok (.goto (-28), 3) := by decide +kernel
theorem dX12_isWhole_33 : decode cX12_isWhole 33 = .ok (.aload_n 0, 1) := by decide +kernel
theorem dX12_isWhole_34 : decode cX12_isWhole 34 = .ok (.getfield 255, 3) := by decide +kernel
theorem dX12_isWhole_37 : decode cX12_isWhole 37 = .ok (.ifCond .le 15, 3) := by decide +kernel
theorem dX12_isWhole_40 : decode cX12_isWhole 40 = .ok (.aload_n 0, 1) := by decide +kernel
theorem dX12_isWhole_41 : decode cX12_isWhole 41 = .ok (.getfield 258, 3) := by decide +kernel
theorem dX12_isWhole_44 : decode cX12_isWhole 44 = .ok (.iconst 1, 1) := by decide +kernel
theorem dX12_isWhole_45 : decode cX12_isWhole 45 = .ok (.if_icmp .le 7, 3) := by decide +kernel
theorem dX12_isWhole_48 : decode cX12_isWhole 48 = .ok (.iconst 1, 1) := by decide +kernel
theorem dX12_isWhole_49 : decode cX12_isWhole 49 = .ok (.goto 4, 3) := by decide +kernel
theorem dX12_isWhole_52 : decode cX12_isWhole 52 = .ok (.iconst 0, 1) := by decide +kernel
theorem dX12_isWhole_53 : decode cX12_isWhole 53 = .ok (.ireturn, 1) := by decide +kernel
theorem dX12_readPort_0 : decode cX12_readPort 0 = .ok (.aload_n 0, 1) := by decide +kernel
theorem dX12_readPort_1 : decode cX12_readPort 1 = .ok (.aload_n 0, 1) := by decide +kernel
theorem dX12_readPort_2 : decode cX12_readPort 2 = .ok (.getfield 9, 3) := by decide +kernel
theorem dX12_readPort_5 : decode cX12_readPort 5 = .ok (.iconst 0, 1) := by decide +kernel
theorem dX12_readPort_6 : decode cX12_readPort 6 = .ok (.aload_n 0, 1) := by decide +kernel
theorem dX12_readPort_7 : decode cX12_readPort 7 = .ok (.getfield 122, 3) := by decide +kernel
theorem dX12_readPort_10 : decode cX12_readPort 10 = .ok (.invokevirtual 220, 3) := by decide +kernel
theorem dX12_readPort_13 : decode cX12_readPort 13 = .ok (.aload_n 0, 1) := by decide +kernel
theorem dX12_readPort_14 : decode cX12_readPort 14 = .ok (.iconst 0, 1) := by decide +kernel
theorem dX12_readPort_15 : decode cX12_readPort 15 = .ok (.putfield 255, 3) := by decide +kernel
theorem dX12_readPort_18 : decode cX12_readPort 18 = .ok (.aload_n 0, 1) := by decide +kernel
theorem dX12_readPort_19 : decode cX12_readPort 19 = .ok (.iconst 0, 1) := by decide +kernel
theorem dX12_readPort_20 : decode cX12_readPort 20 = .ok (.putfield 258, 3) := by decide +kernel
theorem dX12_readPort_23 : decode cX12_readPort 23 = .ok (.aload_n 0, 1) := by decide +kernel
theorem dX12_readPort_24 : decode cX12_readPort 24 = .ok (.iconst 0, 1) := by decide +kernel
theorem dX12_readPort_25 : decode cX12_readPort 25 = .ok (.putfield 252, 3) := by decide +kernel
theorem dX12_readPort_28 : decode cX12_readPort 28 = .ok (.iconst 0, 1) := by decide +kernel
theorem dX12_readPort_29 : decode cX12_readPort 29 = .ok (.istore_n 1, 1) := by decide +kernel
theorem dX12_readPort_30 : decode cX12_readPort 30 = .ok (.iload_n 1, 1) := by decide +kernel
theorem dX12_readPort_31 : decode cX12_readPort 31 = .ok (.iconst 3, 1) := by decide +kernel
theorem dX12_readPort_32 : decode cX12_readPort 32 = .ok (.if_icmp .ge 21, 3) := by decide +kernel
theorem dX12_readPort_35 : decode cX12_readPort 35 = .ok (.aload_n 0, 1) := by decide +kernel
theorem dX12_readPort_36 : decode cX12_readPort 36 = .ok (.getfield 40, 3) := by decide +kernel
theorem dX12_readPort_39 : decode cX12_readPort 39 = .ok (.iload_n 1, 1) := by decide +kernel
theorem dX12_readPort_40 : decode cX12_readPort 40 = .ok (.bipush 115, 2) := by decide +kernel
theorem dX12_readPort_42 : decode cX12_readPort 42 = .ok (.iload_n 1, 1) := by decide +kernel
theorem dX12_readPort_43 : decode cX12_readPort 43 = .ok (.invokestatic 234, 3) := by decide +kernel
theorem dX12_readPort_46 : decode cX12_readPort 46 = .ok (.iastore, 1) := by decide +kernel
theorem dX12_readPort_47 : decode cX12_readPort 47 = .ok (.iinc 1 1, 3) := by decide +kernel
theorem dX12_readPort_50 : decode cX12_readPort 50 = .ok (.goto (-20), 3) := by decide +kernel
theorem dX12_readPort_53 : decode cX12_readPort 53 = .ok (.iconst 1, 1) := by decide +kernel
theorem dX12_readPort_54 : decode cX12_readPort 54 = .ok (.istore_n 1, 1) := by decide +kernel
theorem dX12_readPort_55 : decode cX12_readPort 55 = .ok (.iload_n 1, 1) := by decide +kernel
theorem dX12_readPort_56 : decode cX12_readPort 56 = .ok (.ifCond .eq 55, 3) := by decide +kernel
theorem dX12_readPort_59 : decode cX12_readPort 59 = .ok (.aload_n 0, 1) := by decide +kernel
theorem dX12_readPort_60 : decode cX12_readPort 60 = .ok (.getfield 141, 3) := by decide +kernel
theorem dX12_readPort_63 : decode cX12_readPort 63 = .ok (.iconst (-1), 1) := by decide +kernel
theorem dX12_readPort_64 : decode cX12_readPort 64 = .ok (.if_icmp .ne 47, 3) := by decide +kernel
theorem dX12_readPort_67 : decode cX12_readPort 67 = .ok (.aload_n 0, 1) := by decide +kernel
theorem dX12_readPort_68 : decode cX12_readPort 68 = .ok (.invokevirtual 271, 3) := by decide +kernel
theorem dX12_readPort_71 : decode cX12_readPort 71 = .ok (.aload_n 0, 1) := by decide +kernel
theorem dX12_readPort_72 : decode cX12_readPort 72 = .ok (.getfield 141, 3) := by decide +kernel
theorem dX12_readPort_75 : decode cX12_readPort 75 = .ok (.iconst (-1), 1) := by decide +kernel
theorem dX12_readPort_76 : decode cX12_readPort 76 = .ok (.if_icmp .ne 16, 3) := by decide +kernel
theorem dX12_readPort_79 : decode cX12_readPort 79 = .ok (.aload_n 0, 1) := by decide +kernel
theorem dX12_readPort_80 : decode cX12_readPort 80 = .ok (.invokevirtual 151, 3) := by decide +kernel
theorem dX12_readPort_83 : decode cX12_readPort 83 = .ok (.bipush 59, 2) := by decide +kernel
theorem dX12_readPort_85 : decode cX12_readPort 85 = .ok (.if_icmp .ne 7, 3) := by decide +kernel
theorem dX12_readPort_88 : decode cX12_readPort 88 = .ok (.iconst 1, 1) := by decide +kernel
theorem dX12_readPort_89 : decode cX12_readPort 89 = .ok (.goto 4, 3) := by decide +kernel
theorem dX12_readPort_92 : decode cX12_readPort 92 = .ok (.iconst 0, 1) := by decide +kernel
theorem dX12_readPort_93 : decode cX12_readPort 93 = .ok (.istore_n 1, 1) := by decide +kernel
theorem dX12_readPort_94 : decode cX12_readPort 94 = .ok (.iload_n 1, 1) := by decide +kernel
theorem dX12_readPort_95 : decode cX12_readPort 95 = .ok (.ifCond .eq (-40), 3) := by decide +kernel
theorem dX12_readPort_98 : decode cX12_readPort 98 = .ok (.aload_n 0, 1) := by decide +kernel
theorem dX12_readPort_99 : decode cX12_readPort 99 = .ok (.dup, 1) := by decide +kernel
theorem dX12_readPort_100 : decode cX12_readPort 100 = .ok (.getfield 132, 3) := by decide +kernel
theorem dX12_readPort_103 : decode cX12_readPort 103 = .ok (.iconst 1, 1) := by decide +kernel
theorem dX12_readPort_104 : decode cX12_readPort 104 = .ok (.iadd, 1) := by decide +kernel
theorem dX12_readPort_105 : decode cX12_readPort 105 = .ok (.putfield 132, 3) := by decide +kernel
theorem dX12_readPort_108 : decode cX12_readPort 108 = .ok (.goto (-53), 3) := by decide +kernel
theorem dX12_readPort_111 : decode cX12_readPort 111 = .ok (.aload_n 0, 1) := by decide +kernel
theorem dX12_readPort_112 : decode cX12_readPort 112 = .ok (.getfield 141, 3) := by decide +kernel
theorem dX12_readPort_115 : decode cX12_readPort 115 = .ok (.iconst (-1), 1) := by decide +kernel
theorem dX12_readPort_116 : decode cX12_readPort 116 = .ok (.if_icmp .ne 23, 3) := by decide +kernel
theorem dX12_readPort_119 : decode cX12_readPort 119 = .ok (.aload_n 0, 1) := by decide +kernel
theorem dX12_readPort_120 : decode cX12_readPort 120 = .ok (.invokevirtual 151, 3) := by decide +kernel
theorem dX12_readPort_123 : decode cX12_readPort 123 = .ok (.iconst (-1), 1) := by decide +kernel
theorem dX12_readPort_124 : decode cX12_readPort 124 = .ok (.if_icmp .ne 10, 3) := by decide +kernel
theorem dX12_readPort_127 : decode cX12_readPort 127 = .ok (.aload_n 0, 1) := by decide +kernel
theorem dX12_readPort_128 : decode cX12_readPort 128 = .ok (.invokevirtual 274, 3) := by decide +kernel
theorem dX12_readPort_131 : decode cX12_readPort 131 = .ok (.ifCond .ne 8, 3) := by decide +kernel
theorem dX12_readPort_134 : decode cX12_readPort 134 = .ok (.aload_n 0, 1) := by decide +kernel
theorem dX12_readPort_135 : decode cX12_readPort 135 = .ok (.invokevirtual 147, 3) := by decide +kernel
theorem dX12_readPort_138 : decode cX12_readPort 138 = .ok (.pop, 1) := by decide +kernel
theorem dX12_readPort_139 : decode cX12_readPort 139 = .ok (.return_, 1) := by decide +kernel
theorem dX12_digit_0 : decode cX12_digit 0 = .ok (.aload_n 0, 1) := by decide +kernel
theorem dX12_digit_1 : decode cX12_digit 1 = .ok (.invokevirtual 151, 3) := by decide +kernel
theorem dX12_digit_4 : decode cX12_digit 4 = .ok (.istore_n 1, 1) := by decide +kernel
theorem dX12_digit_5 : decode cX12_digit 5 = .ok (.aload_n 0, 1) := by decide +kernel
theorem dX12_digit_6 : decode cX12_digit 6 = .ok (.invokevirtual 181, 3) := by decide +kernel
theorem dX12_digit_9 : decode cX12_digit 9 = .ok (.ifCond .ne 10, 3) := by decide +kernel
theorem dX12_digit_12 : decode cX12_digit 12 = .ok (.aload_n 0, 1) := by decide +kernel
theorem dX12_digit_13 : decode cX12_digit 13 = .ok (.invokevirtual 147, 3) := by decide +kernel
theorem dX12_digit_16 : decode cX12_digit 16 = .ok (.pop, 1) := by decide +kernel
theorem dX12_digit_17 : decode cX12_digit 17 = .ok (.iconst 0, 1) := by decide +kernel
theorem dX12_digit_18 : decode cX12_digit 18 = .ok (.ireturn, 1) := by decide +kernel
theorem dX12_digit_19 : decode cX12_digit 19 = .ok (.aload_n 0, 1) := by decide +kernel
theorem dX12_digit_20 : decode cX12_digit 20 = .ok (.dup, 1) := by decide +kernel
theorem dX12_digit_21 : decode cX12_digit 21 = .ok (.getfield 132, 3) := by decide +kernel
theorem dX12_digit_24 : decode cX12_digit 24 = .ok (.iconst 1, 1) := by decide +kernel
theorem dX12_digit_25 : decode cX12_digit 25 = .ok (.iadd, 1) := by decide +kernel
theorem dX12_digit_26 : decode cX12_digit 26 = .ok (.putfield 132, 3) := by decide +kernel
theorem dX12_digit_29 : decode cX12_digit 29 = .ok (.iload_n 1, 1) := by decide +kernel
theorem dX12_digit_30 : decode cX12_digit 30 = .ok (.bipush 48, 2) := by decide +kernel
theorem dX12_digit_32 : decode cX12_digit 32 = .ok (.isub, 1) := by decide +kernel
theorem dX12_digit_33 : decode cX12_digit 33 = .ok (.ireturn, 1) := by decide +kernel
theorem dX12_readStep_0 : decode cX12_readStep 0 = .ok (.ldc_w 277, 3) := by decide +kernel
theorem dX12_readStep_3 : decode cX12_readStep 3 = .ok (.aload_n 0, 1) := by decide +kernel
theorem dX12_readStep_4 : decode cX12_readStep 4 = .ok (.invokevirtual 151, 3) := by decide +kernel
theorem dX12_readStep_7 : decode cX12_readStep 7 = .ok (.invokestatic 238, 3) := by decide +kernel
theorem dX12_readStep_10 : decode cX12_readStep 10 = .ok (.istore_n 2, 1) := by decide +kernel
theorem dX12_readStep_11 : decode cX12_readStep 11 = .ok (.iload_n 2, 1) := by decide +kernel
theorem dX12_readStep_12 : decode cX12_readStep 12 = .ok (.iconst (-1), 1) := by decide +kernel
theorem dX12_readStep_13 : decode cX12_readStep 13 = .ok (.if_icmp .ne 9, 3) := by decide +kernel
theorem dX12_readStep_16 : decode cX12_readStep 16 = .ok (.aload_n 0, 1) := by decide +kernel
theorem dX12_readStep_17 : decode cX12_readStep 17 = .ok (.invokevirtual 147, 3) := by decide +kernel
theorem dX12_readStep_20 : decode cX12_readStep 20 = .ok (.pop, 1) := by decide +kernel
theorem dX12_readStep_21 : decode cX12_readStep 21 = .ok (.return_, 1) := by decide +kernel
theorem dX12_readStep_22 : decode cX12_readStep 22 = .ok (.aload_n 0, 1) := by decide +kernel
theorem dX12_readStep_23 : decode cX12_readStep 23 = .ok (.dup, 1) := by decide +kernel
theorem dX12_readStep_24 : decode cX12_readStep 24 = .ok (.getfield 132, 3) := by decide +kernel
theorem dX12_readStep_27 : decode cX12_readStep 27 = .ok (.iconst 1, 1) := by decide +kernel
theorem dX12_readStep_28 : decode cX12_readStep 28 = .ok (.iadd, 1) := by decide +kernel
theorem dX12_readStep_29 : decode cX12_readStep 29 = .ok (.putfield 132, 3) := by decide +kernel
theorem dX12_readStep_32 : decode cX12_readStep 32 = .ok (.aload_n 0, 1) := by decide +kernel
theorem dX12_readStep_33 : decode cX12_readStep 33 = .ok (.getfield 55, 3) := by decide +kernel
theorem dX12_readStep_36 : decode cX12_readStep 36 = .ok (.iload_n 1, 1) := by decide +kernel
theorem dX12_readStep_37 : decode cX12_readStep 37 = .ok (.iload_n 2, 1) := by decide +kernel
theorem dX12_readStep_38 : decode cX12_readStep 38 = .ok (.iastore, 1) := by decide +kernel
theorem dX12_readStep_39 : decode cX12_readStep 39 = .ok (.aload_n 0, 1) := by decide +kernel
theorem dX12_readStep_40 : decode cX12_readStep 40 = .ok (.getfield 55, 3) := by decide +kernel
theorem dX12_readStep_43 : decode cX12_readStep 43 = .ok (.iload_n 1, 1) := by decide +kernel
theorem dX12_readStep_44 : decode cX12_readStep 44 = .ok (.iconst 1, 1) := by decide +kernel
theorem dX12_readStep_45 : decode cX12_readStep 45 = .ok (.iadd, 1) := by decide +kernel
theorem dX12_readStep_46 : decode cX12_readStep 46 = .ok (.iconst (-1), 1) := by decide +kernel
theorem dX12_readStep_47 : decode cX12_readStep 47 = .ok (.iastore, 1) := by decide +kernel
theorem dX12_readStep_48 : decode cX12_readStep 48 = .ok (.aload_n 0, 1) := by decide +kernel
theorem dX12_readStep_49 : decode cX12_readStep 49 = .ok (.getfield 55, 3) := by decide +kernel
theorem dX12_readStep_52 : decode cX12_readStep 52 = .ok (.iload_n 1, 1) := by decide +kernel
theorem dX12_readStep_53 : decode cX12_readStep 53 = .ok (.iconst 2, 1) := by decide +kernel
theorem dX12_readStep_54 : decode cX12_readStep 54 = .ok (.iadd, 1) := by decide +kernel
theorem dX12_readStep_55 : decode cX12_readStep 55 = .ok (.iconst (-1), 1) := by decide +kernel
theorem dX12_readStep_56 : decode cX12_readStep 56 = .ok (.iastore, 1) := by decide +kernel
theorem dX12_readStep_57 : decode cX12_readStep 57 = .ok (.iload_n 2, 1) := by decide +kernel
theorem dX12_readStep_58 : decode cX12_readStep 58 = .ok (.ifCond .eq 8, 3) := by decide +kernel
theorem dX12_readStep_61 : decode cX12_readStep 61 = .ok (.iload_n 2, 1) := by decide +kernel
theorem dX12_readStep_62 : decode cX12_readStep 62 = .ok (.iconst 4, 1) := by decide +kernel
theorem dX12_readStep_63 : decode cX12_readStep 63 = .ok (.if_icmp .ne 4, 3) := by decide +kernel
theorem dX12_readStep_66 : decode cX12_readStep 66 = .ok (.return_, 1) := by decide +kernel
theorem dX12_readStep_67 : decode cX12_readStep 67 = .ok (.aload_n 0, 1) := by decide +kernel
theorem dX12_readStep_68 : decode cX12_readStep 68 = .ok (.getfield 55, 3) := by decide +kernel
theorem dX12_readStep_71 : decode cX12_readStep 71 = .ok (.iload_n 1, 1) := by decide +kernel
theorem dX12_readStep_72 : decode cX12_readStep 72 = .ok (.iconst 1, 1) := by decide +kernel
theorem dX12_readStep_73 : decode cX12_readStep 73 = .ok (.iadd, 1) := by decide +kernel
theorem dX12_readStep_74 : decode cX12_readStep 74 = .ok (.aload_n 0, 1) := by decide +kernel
theorem dX12_readStep_75 : decode cX12_readStep 75 = .ok (.invokevirtual 279, 3) := by decide +kernel
theorem dX12_readStep_78 : decode cX12_readStep 78 = .ok (.iastore, 1) := by decide +kernel
theorem dX12_readStep_79 : decode cX12_readStep 79 = .ok (.aload_n 0, 1) := by decide +kernel
theorem dX12_readStep_80 : decode cX12_readStep 80 = .ok (.getfield 141, 3) := by decide +kernel
theorem dX12_readStep_83 : decode cX12_readStep 83 = .ok (.iconst (-1), 1) := by decide +kernel
theorem dX12_readStep_84 : decode cX12_readStep 84 = .ok (.if_icmp .ne 20, 3) := by decide +kernel
theorem dX12_readStep_87 : decode cX12_readStep 87 = .ok (.iload_n 2, 1) := by decide +kernel
theorem dX12_readStep_88 : decode cX12_readStep 88 = .ok (.iconst 1, 1) := by decide +kernel
theorem dX12_readStep_89 : decode cX12_readStep 89 = .ok (.if_icmp .ne 15, 3) := by decide +kernel
theorem dX12_readStep_92 : decode cX12_readStep 92 = .ok (.aload_n 0, 1) := by decide +kernel
theorem dX12_readStep_93 : decode cX12_readStep 93 = .ok (.getfield 55, 3) := by decide +kernel
theorem dX12_readStep_96 : decode cX12_readStep 96 = .ok (.iload_n 1, 1) := by decide +kernel
theorem dX12_readStep_97 : decode cX12_readStep 97 = .ok (.iconst 2, 1) := by decide +kernel
theorem dX12_readStep_98 : decode cX12_readStep 98 = .ok (.iadd, 1) := by decide +kernel
theorem dX12_readStep_99 : decode cX12_readStep 99 = .ok (.aload_n 0, 1) := by decide +kernel
theorem dX12_readStep_100 : decode cX12_readStep 100 = .ok (.invokevirtual 279, 3) := by decide +kernel
theorem dX12_readStep_103 : decode cX12_readStep 103 = .ok (.iastore, 1) := by decide +kernel
theorem dX12_readStep_104 : decode cX12_readStep 104 = .ok (.return_, 1) := by decide +kernel
theorem dX12_readPlan_0 : decode cX12_readPlan 0 = .ok (.aload_n 0, 1) := by decide +kernel
theorem dX12_readPlan_1 : decode cX12_readPlan 1 = .ok (.aload_n 0, 1) := by decide +kernel
theorem dX12_readPlan_2 : decode cX12_readPlan 2 = .ok (.getfield 9, 3) := by decide +kernel
theorem dX12_readPlan_5 : decode cX12_readPlan 5 = .ok (.iconst 0, 1) := by decide +kernel
theorem dX12_readPlan_6 : decode cX12_readPlan 6 = .ok (.aload_n 0, 1) := by decide +kernel
theorem dX12_readPlan_7 : decode cX12_readPlan 7 = .ok (.getfield 122, 3) := by decide +kernel
theorem dX12_readPlan_10 : decode cX12_readPlan 10 = .ok (.invokevirtual 220, 3) := by decide +kernel
theorem dX12_readPlan_13 : decode cX12_readPlan 13 = .ok (.iconst 0, 1) := by decide +kernel
theorem dX12_readPlan_14 : decode cX12_readPlan 14 = .ok (.istore_n 1, 1) := by decide +kernel
theorem dX12_readPlan_15 : decode cX12_readPlan 15 = .ok (.iconst 1, 1) := by decide +kernel
theorem dX12_readPlan_16 : decode cX12_readPlan 16 = .ok (.istore_n 2, 1) := by decide +kernel
theorem dX12_readPlan_17 : decode cX12_readPlan 17 = .ok (.iload_n 2, 1) := by decide +kernel
theorem dX12_readPlan_18 : decode cX12_readPlan 18 = .ok (.ifCond .eq 73, 3) := by decide +kernel
theorem dX12_readPlan_21 : decode cX12_readPlan 21 = .ok (.aload_n 0, 1) := by decide +kernel
theorem dX12_readPlan_22 : decode cX12_readPlan 22 = .ok (.iconst 3, 1) := by decide +kernel
theorem dX12_readPlan_23 : decode cX12_readPlan 23 = .ok (.bipush 80, 2) := by decide +kernel
theorem dX12_readPlan_25 : decode cX12_readPlan 25 = .ok (.iload_n 1, 1) := by decide +kernel
theorem dX12_readPlan_26 : decode cX12_readPlan 26 = .ok (.iadd, 1) := by decide +kernel
theorem dX12_readPlan_27 : decode cX12_readPlan 27 = .ok (.imul, 1) := by decide +kernel
theorem dX12_readPlan_28 : decode cX12_readPlan 28 = .ok (.invokevirtual 282, 3) := by decide +kernel
theorem dX12_readPlan_31 : decode cX12_readPlan 31 = .ok (.aload_n 0, 1) := by decide +kernel
theorem dX12_readPlan_32 : decode cX12_readPlan 32 = .ok (.getfield 141, 3) := by decide +kernel
theorem dX12_readPlan_35 : decode cX12_readPlan 35 = .ok (.iconst (-1), 1) := by decide +kernel
theorem dX12_readPlan_36 : decode cX12_readPlan 36 = .ok (.if_icmp .eq 4, 3) := by decide +kernel
theorem dX12_readPlan_39 : decode cX12_readPlan 39 = .ok (.return_, 1) := by decide +kernel
theorem dX12_readPlan_40 : decode cX12_readPlan 40 = .ok (.iinc 1 1, 3) := by decide +kernel
theorem dX12_readPlan_43 : decode cX12_readPlan 43 = .ok (.aload_n 0, 1) := by decide +kernel
theorem dX12_readPlan_44 : decode cX12_readPlan 44 = .ok (.invokevirtual 151, 3) := by decide +kernel
theorem dX12_readPlan_47 : decode cX12_readPlan 47 = .ok (.bipush 59, 2) := by decide +kernel
theorem dX12_readPlan_49 : decode cX12_readPlan 49 = .ok (.if_icmp .ne 7, 3) := by decide +kernel
theorem dX12_readPlan_52 : decode cX12_readPlan 52 = .ok (.iconst 1, 1) := by decide +kernel
theorem dX12_readPlan_53 : decode cX12_readPlan 53 = .ok (.goto 4, 3) := by decide +kernel
theorem dX12_readPlan_56 : decode cX12_readPlan 56 = .ok (.iconst 0, 1) := by decide +kernel
theorem dX12_readPlan_57 : decode cX12_readPlan 57 = .ok (.istore_n 2, 1) := by decide +kernel
theorem dX12_readPlan_58 : decode cX12_readPlan 58 = .ok (.iload_n 2, 1) := by decide +kernel
theorem dX12_readPlan_59 : decode cX12_readPlan 59 = .ok (.ifCond .eq 15, 3) := by decide +kernel
theorem dX12_readPlan_62 : decode cX12_readPlan 62 = .ok (.iload_n 1, 1) := by decide +kernel
theorem dX12_readPlan_63 : decode cX12_readPlan 63 = .ok (.bipush 20, 2) := by decide +kernel
theorem dX12_readPlan_65 : decode cX12_readPlan 65 = .ok (.if_icmp .ne 9, 3) := by decide +kernel
theorem dX12_readPlan_68 : decode cX12_readPlan 68 = .ok (.aload_n 0, 1) := by decide +kernel
theorem dX12_readPlan_69 : decode cX12_readPlan 69 = .ok (.invokevirtual 147, 3) := by decide +kernel
theorem dX12_readPlan_72 : decode cX12_readPlan 72 = .ok (.pop, 1) := by decide +kernel
theorem dX12_readPlan_73 : decode cX12_readPlan 73 = .ok (.return_, 1) := by decide +kernel
theorem dX12_readPlan_74 : decode cX12_readPlan 74 = .ok (.iload_n 2, 1) := by decide +kernel
theorem dX12_readPlan_75 : decode cX12_readPlan 75 = .ok (.ifCond .eq (-58), 3) := by decide +kernel
theorem dX12_readPlan_78 : decode cX12_readPlan 78 = .ok (.aload_n 0, 1) := by decide +kernel
theorem dX12_readPlan_79 : decode cX12_readPlan 79 = .ok (.dup, 1) := by decide +kernel
theorem dX12_readPlan_80 : decode cX12_readPlan 80 = .ok (.getfield 132, 3) := by decide +kernel
theorem dX12_readPlan_83 : decode cX12_readPlan 83 = .ok (.iconst 1, 1) := by decide +kernel
theorem dX12_readPlan_84 : decode cX12_readPlan 84 = .ok (.iadd, 1) := by decide +kernel
theorem dX12_readPlan_85 : decode cX12_readPlan 85 = .ok (.putfield 132, 3) := by decide +kernel
theorem dX12_readPlan_88 : decode cX12_readPlan 88 = .ok (.goto (-71), 3) := by decide +kernel
theorem dX12_readPlan_91 : decode cX12_readPlan 91 = .ok (.aload_n 0, 1) := by decide +kernel
theorem dX12_readPlan_92 : decode cX12_readPlan 92 = .ok (.getfield 58, 3) := by decide +kernel
theorem dX12_readPlan_95 : decode cX12_readPlan 95 = .ok (.iconst 4, 1) := by decide +kernel
theorem dX12_readPlan_96 : decode cX12_readPlan 96 = .ok (.iload_n 1, 1) := by decide +kernel
theorem dX12_readPlan_97 : decode cX12_readPlan 97 = .ok (.iastore, 1) := by decide +kernel
theorem dX12_readPlan_98 : decode cX12_readPlan 98 = .ok (.aload_n 0, 1) := by decide +kernel
theorem dX12_readPlan_99 : decode cX12_readPlan 99 = .ok (.invokevirtual 151, 3) := by decide +kernel
theorem dX12_readPlan_102 : decode cX12_readPlan 102 = .ok (.iconst (-1), 1) := by decide +kernel
theorem dX12_readPlan_103 : decode cX12_readPlan 103 = .ok (.if_icmp .eq 8, 3) := by decide +kernel
theorem dX12_readPlan_106 : decode cX12_readPlan 106 = .ok (.aload_n 0, 1) := by decide +kernel
theorem dX12_readPlan_107 : decode cX12_readPlan 107 = .ok (.invokevirtual 147, 3) := by decide +kernel
theorem dX12_readPlan_110 : decode cX12_readPlan 110 = .ok (.pop, 1) := by decide +kernel
theorem dX12_readPlan_111 : decode cX12_readPlan 111 = .ok (.return_, 1) := by decide +kernel
theorem dX12_fault_0 : decode cX12_fault 0 = .ok (.aload_n 0, 1) := by decide +kernel
theorem dX12_fault_1 : decode cX12_fault 1 = .ok (.iconst 0, 1) := by decide +kernel
theorem dX12_fault_2 : decode cX12_fault 2 = .ok (.putfield 109, 3) := by decide +kernel
theorem dX12_fault_5 : decode cX12_fault 5 = .ok (.iload_n 1, 1) := by decide +kernel
theorem dX12_fault_6 : decode cX12_fault 6 = .ok (.i2l, 1) := by decide +kernel
theorem dX12_fault_7 : decode cX12_fault 7 = .ok (.lconst 0, 1) := by decide +kernel
theorem dX12_fault_8 : decode cX12_fault 8 = .ok (.ldc2_w 285, 3) := by decide +kernel
theorem dX12_fault_11 : decode cX12_fault 11 = .ok (.invokestatic 230, 3) := by decide +kernel
theorem dX12_fault_14 : decode cX12_fault 14 = .ok (.ifCond .ne 6, 3) := by decide +kernel
theorem dX12_fault_17 : decode cX12_fault 17 = .ok (.bipush (-2), 2) := by decide +kernel
theorem dX12_fault_19 : decode cX12_fault 19 = .ok (.ireturn, 1) := by decide +kernel
theorem dX12_fault_20 : decode cX12_fault 20 = .ok (.iload_n 1, 1) := by decide +kernel
theorem dX12_fault_21 : decode cX12_fault 21 = .ok (.ifCond .ne 7, 3) := by decide +kernel
theorem dX12_fault_24 : decode cX12_fault 24 = .ok (.aload_n 0, 1) := by decide +kernel
theorem dX12_fault_25 : decode cX12_fault 25 = .ok (.invokevirtual 287, 3) := by decide +kernel
theorem dX12_fault_28 : decode cX12_fault 28 = .ok (.iload_n 1, 1) := by decide +kernel
theorem dX12_fault_29 : decode cX12_fault 29 = .ok (.iconst 1, 1) := by decide +kernel
theorem dX12_fault_30 : decode cX12_fault 30 = .ok (.if_icmp .ne 16, 3) := by decide +kernel
theorem dX12_fault_33 : decode cX12_fault 33 = .ok (.aload_n 0, 1) := by decide +kernel
theorem dX12_fault_34 : decode cX12_fault 34 = .ok (.aload_n 0, 1) := by decide +kernel
theorem dX12_fault_35 : decode cX12_fault 35 = .ok (.getfield 9, 3) := by decide +kernel
theorem dX12_fault_38 : decode cX12_fault 38 = .ok (.iconst 0, 1) := by decide +kernel
theorem dX12_fault_39 : decode cX12_fault 39 = .ok (.aload_n 0, 1) := by decide +kernel
theorem dX12_fault_40 : decode cX12_fault 40 = .ok (.getfield 122, 3) := by decide +kernel
theorem dX12_fault_43 : decode cX12_fault 43 = .ok (.invokevirtual 290, 3) := by decide +kernel
theorem dX12_fault_46 : decode cX12_fault 46 = .ok (.iload_n 1, 1) := by decide +kernel
theorem dX12_fault_47 : decode cX12_fault 47 = .ok (.iconst 2, 1) := by decide +kernel
theorem dX12_fault_48 : decode cX12_fault 48 = .ok (.if_icmp .ne 7, 3) := by decide +kernel
theorem dX12_fault_51 : decode cX12_fault 51 = .ok (.aload_n 0, 1) := by decide +kernel
theorem dX12_fault_52 : decode cX12_fault 52 = .ok (.invokevirtual 293, 3) := by decide +kernel
theorem dX12_fault_55 : decode cX12_fault 55 = .ok (.aload_n 0, 1) := by decide +kernel
theorem dX12_fault_56 : decode cX12_fault 56 = .ok (.getfield 141, 3) := by decide +kernel
theorem dX12_fault_59 : decode cX12_fault 59 = .ok (.ireturn, 1) := by decide +kernel
theorem dX12_text_0 : decode cX12_text 0 = .ok (.aload_n 0, 1) := by decide +kernel
theorem dX12_text_1 : decode cX12_text 1 = .ok (.iconst 0, 1) := by decide +kernel
theorem dX12_text_2 : decode cX12_text 2 = .ok (.putfield 109, 3) := by decide +kernel
theorem dX12_text_5 : decode cX12_text 5 = .ok (.iload_n 1, 1) := by decide +kernel
theorem dX12_text_6 : decode cX12_text 6 = .ok (.i2l, 1) := by decide +kernel
theorem dX12_text_7 : decode cX12_text 7 = .ok (.lconst 0, 1) := by decide +kernel
theorem dX12_text_8 : decode cX12_text 8 = .ok (.ldc2_w 285, 3) := by decide +kernel
theorem dX12_text_11 : decode cX12_text 11 = .ok (.invokestatic 230, 3) := by decide +kernel
theorem dX12_text_14 : decode cX12_text 14 = .ok (.ifCond .eq 38, 3) := by decide +kernel
theorem dX12_text_17 : decode cX12_text 17 = .ok (.iload_n 1, 1) := by decide +kernel
theorem dX12_text_18 : decode cX12_text 18 = .ok (.iconst 1, 1) := by decide +kernel
theorem dX12_text_19 : decode cX12_text 19 = .ok (.if_icmp .ne 11, 3) := by decide +kernel
theorem dX12_text_22 : decode cX12_text 22 = .ok (.aload_n 0, 1) := by decide +kernel
theorem dX12_text_23 : decode cX12_text 23 = .ok (.getfield 296, 3) := by decide +kernel
theorem dX12_text_26 : decode cX12_text 26 = .ok (.iconst 4, 1) := by decide +kernel
theorem dX12_text_27 : decode cX12_text 27 = .ok (.if_icmp .eq 25, 3) := by decide +kernel
theorem dX12_text_30 : decode cX12_text 30 = .ok (.iload_n 1, 1) := by decide +kernel
theorem dX12_text_31 : decode cX12_text 31 = .ok (.iconst 2, 1) := by decide +kernel
theorem dX12_text_32 : decode cX12_text 32 = .ok (.if_icmp .ne 11, 3) := by decide +kernel
theorem dX12_text_35 : decode cX12_text 35 = .ok (.aload_n 0, 1) := by decide +kernel
theorem dX12_text_36 : decode cX12_text 36 = .ok (.getfield 299, 3) := by decide +kernel
theorem dX12_text_39 : decode cX12_text 39 = .ok (.iconst 4, 1) := by decide +kernel
theorem dX12_text_40 : decode cX12_text 40 = .ok (.if_icmp .eq 12, 3) := by decide +kernel
theorem dX12_text_43 : decode cX12_text 43 = .ok (.aload_n 0, 1) := by decide +kernel
theorem dX12_text_44 : decode cX12_text 44 = .ok (.iload_n 1, 1) := by decide +kernel
theorem dX12_text_45 : decode cX12_text 45 = .ok (.invokevirtual 302, 3) := by decide +kernel
theorem dX12_text_48 : decode cX12_text 48 = .ok (.iconst (-1), 1) := by decide +kernel
theorem dX12_text_49 : decode cX12_text 49 = .ok (.if_icmp .eq 5, 3) := by decide +kernel
theorem dX12_text_52 : decode cX12_text 52 = .ok (.iconst (-1), 1) := by decide +kernel
theorem dX12_text_53 : decode cX12_text 53 = .ok (.ireturn, 1) := by decide +kernel
theorem dX12_text_54 : decode cX12_text 54 = .ok (.aload_n 0, 1) := by decide +kernel
theorem dX12_text_55 : decode cX12_text 55 = .ok (.getfield 122, 3) := by decide +kernel
theorem dX12_text_58 : decode cX12_text 58 = .ok (.istore_n 2, 1) := by decide +kernel
theorem dX12_text_59 : decode cX12_text 59 = .ok (.aload_n 0, 1) := by decide +kernel
theorem dX12_text_60 : decode cX12_text 60 = .ok (.iconst 0, 1) := by decide +kernel
theorem dX12_text_61 : decode cX12_text 61 = .ok (.putfield 122, 3) := by decide +kernel
theorem dX12_text_64 : decode cX12_text 64 = .ok (.iload_n 1, 1) := by decide +kernel
theorem dX12_text_65 : decode cX12_text 65 = .ok (.iconst 1, 1) := by decide +kernel
theorem dX12_text_66 : decode cX12_text 66 = .ok (.if_icmp .ne 64, 3) := by decide +kernel
theorem dX12_text_69 : decode cX12_text 69 = .ok (.iconst 0, 1) := by decide +kernel
theorem dX12_text_70 : decode cX12_text 70 = .ok (.istore_n 3, 1) := by decide +kernel
theorem dX12_text_71 : decode cX12_text 71 = .ok (.iload_n 3, 1) := by decide +kernel
theorem dX12_text_72 : decode cX12_text 72 = .ok (.iload_n 2, 1) := by decide +kernel
theorem dX12_text_73 : decode cX12_text 73 = .ok (.if_icmp .ge 30, 3) := by decide +kernel
theorem dX12_text_76 : decode cX12_text 76 = .ok (.aload_n 0, 1) := by decide +kernel
theorem dX12_text_77 : decode cX12_text 77 = .ok (.getfield 13, 3) := by decide +kernel
theorem dX12_text_80 : decode cX12_text 80 = .ok (.sipush 240, 3) := by decide +kernel
theorem dX12_text_83 : decode cX12_text 83 = .ok (.aload_n 0, 1) := by decide +kernel
theorem dX12_text_84 : decode cX12_text 84 = .ok (.getfield 296, 3) := by decide +kernel
theorem dX12_text_87 : decode cX12_text 87 = .ok (.imul, 1) := by decide +kernel
theorem dX12_text_88 : decode cX12_text 88 = .ok (.iload_n 3, 1) := by decide +kernel
theorem dX12_text_89 : decode cX12_text 89 = .ok (.iadd, 1) := by decide +kernel
theorem dX12_text_90 : decode cX12_text 90 = .ok (.aload_n 0, 1) := by decide +kernel
theorem dX12_text_91 : decode cX12_text 91 = .ok (.getfield 9, 3) := by decide +kernel
theorem dX12_text_94 : decode cX12_text 94 = .ok (.iload_n 3, 1) := by decide +kernel
theorem dX12_text_95 : decode cX12_text 95 = .ok (.baload, 1) := by decide +kernel
theorem dX12_text_96 : decode cX12_text 96 = .ok (.bastore, 1) := by decide +kernel
theorem dX12_text_97 : decode cX12_text 97 = .ok (.iinc 3 1, 3) := by decide +kernel
theorem dX12_text_100 : decode cX12_text 100 = .ok (.goto (-29), 3) := by decide +kernel
theorem dX12_text_103 : decode cX12_text 103 = .ok (.aload_n 0, 1) := by decide +kernel
theorem dX12_text_104 : decode cX12_text 104 = .ok (.getfield 16, 3) := by decide +kernel
theorem dX12_text_107 : decode cX12_text 107 = .ok (.aload_n 0, 1) := by decide +kernel
theorem dX12_text_108 : decode cX12_text 108 = .ok (.getfield 296, 3) := by decide +kernel
theorem dX12_text_111 : decode cX12_text 111 = .ok (.iload_n 2, 1) := by decide +kernel
theorem dX12_text_112 : decode cX12_text 112 = .ok (.iastore, 1) := by decide +kernel
theorem dX12_text_113 : decode cX12_text 113 = .ok (.aload_n 0, 1) := by decide +kernel
theorem dX12_text_114 : decode cX12_text 114 = .ok (.dup, 1) := by decide +kernel
theorem dX12_text_115 : decode cX12_text 115 = .ok (.getfield 296, 3) := by decide +kernel
theorem dX12_text_118 : decode cX12_text 118 = .ok (.iconst 1, 1) := by decide +kernel
theorem dX12_text_119 : decode cX12_text 119 = .ok (.iadd, 1) := by decide +kernel
theorem dX12_text_120 : decode cX12_text 120 = .ok (.putfield 296, 3) := by decide +kernel
theorem dX12_text_123 : decode cX12_text 123 = .ok (.aload_n 0, 1) := by decide +kernel
theorem dX12_text_124 : decode cX12_text 124 = .ok (.getfield 296, 3) := by decide +kernel
theorem dX12_text_127 : decode cX12_text 127 = .ok (.iconst 1, 1) := by decide +kernel
theorem dX12_text_128 : decode cX12_text 128 = .ok (.isub, 1) := by decide +kernel
theorem dX12_text_129 : decode cX12_text 129 = .ok (.ireturn, 1) := by decide +kernel
theorem dX12_text_130 : decode cX12_text 130 = .ok (.iload_n 1, 1) := by decide +kernel
theorem dX12_text_131 : decode cX12_text 131 = .ok (.iconst 2, 1) := by decide +kernel
theorem dX12_text_132 : decode cX12_text 132 = .ok (.if_icmp .ne 73, 3) := by decide +kernel
theorem dX12_text_135 : decode cX12_text 135 = .ok (.iconst 0, 1) := by decide +kernel
theorem dX12_text_136 : decode cX12_text 136 = .ok (.istore_n 3, 1) := by decide +kernel
theorem dX12_text_137 : decode cX12_text 137 = .ok (.iload_n 3, 1) := by decide +kernel
theorem dX12_text_138 : decode cX12_text 138 = .ok (.bipush 60, 2) := by decide +kernel
theorem dX12_text_140 : decode cX12_text 140 = .ok (.if_icmp .ge 33, 3) := by decide +kernel
theorem dX12_text_143 : decode cX12_text 143 = .ok (.aload_n 0, 1) := by decide +kernel
theorem dX12_text_144 : decode cX12_text 144 = .ok (.getfield 55, 3) := by decide +kernel
theorem dX12_text_147 : decode cX12_text 147 = .ok (.bipush 60, 2) := by decide +kernel
theorem dX12_text_149 : decode cX12_text 149 = .ok (.aload_n 0, 1) := by decide +kernel
theorem dX12_text_150 : decode cX12_text 150 = .ok (.getfield 299, 3) := by decide +kernel
theorem dX12_text_153 : decode cX12_text 153 = .ok (.imul, 1) := by decide +kernel
theorem dX12_text_154 : decode cX12_text 154 = .ok (.iload_n 3, 1) := by decide +kernel
theorem dX12_text_155 : decode cX12_text 155 = .ok (.iadd, 1) := by decide +kernel
theorem dX12_text_156 : decode cX12_text 156 = .ok (.aload_n 0, 1) := by decide +kernel
theorem dX12_text_157 : decode cX12_text 157 = .ok (.getfield 55, 3) := by decide +kernel
theorem dX12_text_160 : decode cX12_text 160 = .ok (.sipush 240, 3) := by decide +kernel
theorem dX12_text_163 : decode cX12_text 163 = .ok (.iload_n 3, 1) := by decide +kernel
theorem dX12_text_164 : decode cX12_text 164 = .ok (.iadd, 1) := by decide +kernel
theorem dX12_text_165 : decode cX12_text 165 = .ok (.iaload, 1) := by decide +kernel
theorem dX12_text_166 : decode cX12_text 166 = .ok (.iastore, 1) := by decide +kernel
theorem dX12_text_167 : decode cX12_text 167 = .ok (.iinc 3 1, 3) := by decide +kernel
theorem dX12_text_170 : decode cX12_text 170 = .ok (.goto (-33), 3) := by decide +kernel
theorem dX12_text_173 : decode cX12_text 173 = .ok (.aload_n 0, 1) := by decide +kernel
theorem dX12_text_174 : decode cX12_text 174 = .ok (.getfield 58, 3) := by decide +kernel
theorem dX12_text_177 : decode cX12_text 177 = .ok (.aload_n 0, 1) := by decide +kernel
theorem dX12_text_178 : decode cX12_text 178 = .ok (.getfield 299, 3) := by decide +kernel
theorem dX12_text_181 : decode cX12_text 181 = .ok (.aload_n 0, 1) := by decide +kernel
theorem dX12_text_182 : decode cX12_text 182 = .ok (.getfield 58, 3) := by decide +kernel
theorem dX12_text_185 : decode cX12_text 185 = .ok (.iconst 4, 1) := by decide +kernel
theorem dX12_text_186 : decode cX12_text 186 = .ok (.iaload, 1) := by decide +kernel
theorem dX12_text_187 : decode cX12_text 187 = .ok (.iastore, 1) := by decide +kernel
theorem dX12_text_188 : decode cX12_text 188 = .ok (.aload_n 0, 1) := by decide +kernel
theorem dX12_text_189 : decode cX12_text 189 = .ok (.dup, 1) := by decide +kernel
theorem dX12_text_190 : decode cX12_text 190 = .ok (.getfield 299, 3) := by decide +kernel
theorem dX12_text_193 : decode cX12_text 193 = .ok (.iconst 1, 1) := by decide +kernel
theorem dX12_text_194 : decode cX12_text 194 = .ok (.iadd, 1) := by decide +kernel
theorem dX12_text_195 : decode cX12_text 195 = .ok (.putfield 299, 3) := by decide +kernel
theorem dX12_text_198 : decode cX12_text 198 = .ok (.aload_n 0, 1) := by decide +kernel
theorem dX12_text_199 : decode cX12_text 199 = .ok (.getfield 299, 3) := by decide +kernel
theorem dX12_text_202 : decode cX12_text 202 = .ok (.iconst 1, 1) := by decide +kernel
theorem dX12_text_203 : decode cX12_text 203 = .ok (.isub, 1) := by decide +kernel
theorem dX12_text_204 : decode cX12_text 204 = .ok (.ireturn, 1) := by decide +kernel
theorem dX12_text_205 : decode cX12_text 205 = .ok (.aload_n 0, 1) := by decide +kernel
theorem dX12_text_206 : decode cX12_text 206 = .ok (.aload_n 0, 1) := by decide +kernel
theorem dX12_text_207 : decode cX12_text 207 = .ok (.getfield 255, 3) := by decide +kernel
theorem dX12_text_210 : decode cX12_text 210 = .ok (.putfield 304, 3) := by decide +kernel
theorem dX12_text_213 : decode cX12_text 213 = .ok (.aload_n 0, 1) := by decide +kernel
theorem dX12_text_214 : decode cX12_text 214 = .ok (.aload_n 0, 1) := by decide +kernel
theorem dX12_text_215 : decode cX12_text 215 = .ok (.getfield 258, 3) := by decide +kernel
theorem dX12_text_218 : decode cX12_text 218 = .ok (.putfield 307, 3) := by decide +kernel
theorem dX12_text_221 : decode cX12_text 221 = .ok (.iconst 0, 1) := by decide +kernel
theorem dX12_text_222 : decode cX12_text 222 = .ok (.istore_n 3, 1) := by decide +kernel
theorem dX12_text_223 : decode cX12_text 223 = .ok (.iload_n 3, 1) := by decide +kernel
theorem dX12_text_224 : decode cX12_text 224 = .ok (.iconst 3, 1) := by decide +kernel
theorem dX12_text_225 : decode cX12_text 225 = .ok (.if_icmp .ge 21, 3) := by decide +kernel
theorem dX12_text_228 : decode cX12_text 228 = .ok (.aload_n 0, 1) := by decide +kernel
theorem dX12_text_229 : decode cX12_text 229 = .ok (.getfield 37, 3) := by decide +kernel
theorem dX12_text_232 : decode cX12_text 232 = .ok (.iload_n 3, 1) := by decide +kernel
theorem dX12_text_233 : decode cX12_text 233 = .ok (.aload_n 0, 1) := by decide +kernel
theorem dX12_text_234 : decode cX12_text 234 = .ok (.getfield 40, 3) := by decide +kernel
theorem dX12_text_237 : decode cX12_text 237 = .ok (.iload_n 3, 1) := by decide +kernel
theorem dX12_text_238 : decode cX12_text 238 = .ok (.iaload, 1) := by decide +kernel
theorem dX12_text_239 : decode cX12_text 239 = .ok (.iastore, 1) := by decide +kernel
theorem dX12_text_240 : decode cX12_text 240 = .ok (.iinc 3 1, 3) := by decide +kernel
theorem dX12_text_243 : decode cX12_text 243 = .ok (.goto (-20), 3) := by decide +kernel
theorem dX12_text_246 : decode cX12_text 246 = .ok (.iconst 0, 1) := by decide +kernel
theorem dX12_text_247 : decode cX12_text 247 = .ok (.istore_n 3, 1) := by decide +kernel
theorem dX12_text_248 : decode cX12_text 248 = .ok (.iload_n 3, 1) := by decide +kernel
theorem dX12_text_249 : decode cX12_text 249 = .ok (.bipush 12, 2) := by decide +kernel
theorem dX12_text_251 : decode cX12_text 251 = .ok (.if_icmp .ge 21, 3) := by decide +kernel
theorem dX12_text_254 : decode cX12_text 254 = .ok (.aload_n 0, 1) := by decide +kernel
theorem dX12_text_255 : decode cX12_text 255 = .ok (.getfield 43, 3) := by decide +kernel
theorem dX12_text_258 : decode cX12_text 258 = .ok (.iload_n 3, 1) := by decide +kernel
theorem dX12_text_259 : decode cX12_text 259 = .ok (.aload_n 0, 1) := by decide +kernel
theorem dX12_text_260 : decode cX12_text 260 = .ok (.getfield 46, 3) := by decide +kernel
theorem dX12_text_263 : decode cX12_text 263 = .ok (.iload_n 3, 1) := by decide +kernel
theorem dX12_text_264 : decode cX12_text 264 = .ok (.iaload, 1) := by decide +kernel
theorem dX12_text_265 : decode cX12_text 265 = .ok (.iastore, 1) := by decide +kernel
theorem dX12_text_266 : decode cX12_text 266 = .ok (.iinc 3 1, 3) := by decide +kernel
theorem dX12_text_269 : decode cX12_text 269 = .ok (.goto (-21), 3) := by decide +kernel
theorem dX12_text_272 : decode cX12_text 272 = .ok (.iconst 0, 1) := by decide +kernel
theorem dX12_text_273 : decode cX12_text 273 = .ok (.istore_n 3, 1) := by decide +kernel
theorem dX12_text_274 : decode cX12_text 274 = .ok (.iload_n 3, 1) := by decide +kernel
theorem dX12_text_275 : decode cX12_text 275 = .ok (.bipush 18, 2) := by decide +kernel
theorem dX12_text_277 : decode cX12_text 277 = .ok (.if_icmp .ge 21, 3) := by decide +kernel
theorem dX12_text_280 : decode cX12_text 280 = .ok (.aload_n 0, 1) := by decide +kernel
theorem dX12_text_281 : decode cX12_text 281 = .ok (.getfield 49, 3) := by decide +kernel
theorem dX12_text_284 : decode cX12_text 284 = .ok (.iload_n 3, 1) := by decide +kernel
theorem dX12_text_285 : decode cX12_text 285 = .ok (.aload_n 0, 1) := by decide +kernel
theorem dX12_text_286 : decode cX12_text 286 = .ok (.getfield 52, 3) := by decide +kernel
theorem dX12_text_289 : decode cX12_text 289 = .ok (.iload_n 3, 1) := by decide +kernel
theorem dX12_text_290 : decode cX12_text 290 = .ok (.iaload, 1) := by decide +kernel
theorem dX12_text_291 : decode cX12_text 291 = .ok (.iastore, 1) := by decide +kernel
theorem dX12_text_292 : decode cX12_text 292 = .ok (.iinc 3 1, 3) := by decide +kernel
theorem dX12_text_295 : decode cX12_text 295 = .ok (.goto (-21), 3) := by decide +kernel
theorem dX12_text_298 : decode cX12_text 298 = .ok (.aload_n 0, 1) := by decide +kernel
theorem dX12_text_299 : decode cX12_text 299 = .ok (.aload_n 0, 1) := by decide +kernel
theorem dX12_text_300 : decode cX12_text 300 = .ok (.getfield 61, 3) := by decide +kernel
theorem dX12_text_303 : decode cX12_text 303 = .ok (.invokevirtual 310, 3) := by decide +kernel
theorem dX12_text_306 : decode cX12_text 306 = .ok (.aload_n 0, 1) := by decide +kernel
theorem dX12_text_307 : decode cX12_text 307 = .ok (.iconst 0, 1) := by decide +kernel
theorem dX12_text_308 : decode cX12_text 308 = .ok (.putfield 314, 3) := by decide +kernel
theorem dX12_text_311 : decode cX12_text 311 = .ok (.aload_n 0, 1) := by decide +kernel
theorem dX12_text_312 : decode cX12_text 312 = .ok (.iconst 0, 1) := by decide +kernel
theorem dX12_text_313 : decode cX12_text 313 = .ok (.putfield 317, 3) := by decide +kernel
theorem dX12_text_316 : decode cX12_text 316 = .ok (.aload_n 0, 1) := by decide +kernel
theorem dX12_text_317 : decode cX12_text 317 = .ok (.iconst 0, 1) := by decide +kernel
theorem dX12_text_318 : decode cX12_text 318 = .ok (.putfield 320, 3) := by decide +kernel
theorem dX12_text_321 : decode cX12_text 321 = .ok (.aload_n 0, 1) := by decide +kernel
theorem dX12_text_322 : decode cX12_text 322 = .ok (.getfield 307, 3) := by decide +kernel
theorem dX12_text_325 : decode cX12_text 325 = .ok (.ireturn, 1) := by decide +kernel
theorem dX12_lays_0 : decode cX12_lays 0 = .ok (.iconst 0, 1) := by decide +kernel
theorem dX12_lays_1 : decode cX12_lays 1 = .ok (.istore_n 2, 1) := by decide +kernel
theorem dX12_lays_2 : decode cX12_lays 2 = .ok (.iload_n 2, 1) := by decide +kernel
theorem dX12_lays_3 : decode cX12_lays 3 = .ok (.aload_n 1, 1) := by decide +kernel
theorem dX12_lays_4 : decode cX12_lays 4 = .ok (.arraylength, 1) := by decide +kernel
theorem dX12_lays_5 : decode cX12_lays 5 = .ok (.if_icmp .ge 13, 3) := by decide +kernel
theorem dX12_lays_8 : decode cX12_lays 8 = .ok (.aload_n 1, 1) := by decide +kernel
theorem dX12_lays_9 : decode cX12_lays 9 = .ok (.iload_n 2, 1) := by decide +kernel
theorem dX12_lays_10 : decode cX12_lays 10 = .ok (.iconst 0, 1) := by decide +kernel
theorem dX12_lays_11 : decode cX12_lays 11 = .ok (.iastore, 1) := by decide +kernel
theorem dX12_lays_12 : decode cX12_lays 12 = .ok (.iinc 2 1, 3) := by decide +kernel
theorem dX12_lays_15 : decode cX12_lays 15 = .ok (.goto (-13), 3) := by decide +kernel
theorem dX12_lays_18 : decode cX12_lays 18 = .ok (.iconst 0, 1) := by decide +kernel
theorem dX12_lays_19 : decode cX12_lays 19 = .ok (.istore_n 2, 1) := by decide +kernel
theorem dX12_lays_20 : decode cX12_lays 20 = .ok (.iload_n 2, 1) := by decide +kernel
theorem dX12_lays_21 : decode cX12_lays 21 = .ok (.aload_n 0, 1) := by decide +kernel
theorem dX12_lays_22 : decode cX12_lays 22 = .ok (.getfield 307, 3) := by decide +kernel
theorem dX12_lays_25 : decode cX12_lays 25 = .ok (.if_icmp .ge 39, 3) := by decide +kernel
theorem dX12_lays_28 : decode cX12_lays 28 = .ok (.aload_n 1, 1) := by decide +kernel
theorem dX12_lays_29 : decode cX12_lays 29 = .ok (.iload_n 2, 1) := by decide +kernel
theorem dX12_lays_30 : decode cX12_lays 30 = .ok (.aload_n 0, 1) := by decide +kernel
theorem dX12_lays_31 : decode cX12_lays 31 = .ok (.getfield 49, 3) := by decide +kernel
theorem dX12_lays_34 : decode cX12_lays 34 = .ok (.iconst 3, 1) := by decide +kernel
theorem dX12_lays_35 : decode cX12_lays 35 = .ok (.iload_n 2, 1) := by decide +kernel
theorem dX12_lays_36 : decode cX12_lays 36 = .ok (.imul, 1) := by decide +kernel
theorem dX12_lays_37 : decode cX12_lays 37 = .ok (.iaload, 1) := by decide +kernel
theorem dX12_lays_38 : decode cX12_lays 38 = .ok (.iastore, 1) := by decide +kernel
theorem dX12_lays_39 : decode cX12_lays 39 = .ok (.aload_n 1, 1) := by decide +kernel
theorem dX12_lays_40 : decode cX12_lays 40 = .ok (.bipush 18, 2) := by decide +kernel
theorem dX12_lays_42 : decode cX12_lays 42 = .ok (.dup2, 1) := by decide +kernel
theorem dX12_lays_43 : decode cX12_lays 43 = .ok (.iaload, 1) := by decide +kernel
theorem dX12_lays_44 : decode cX12_lays 44 = .ok (.aload_n 0, 1) := by decide +kernel
theorem dX12_lays_45 : decode cX12_lays 45 = .ok (.getfield 49, 3) := by decide +kernel
theorem dX12_lays_48 : decode cX12_lays 48 = .ok (.iconst 3, 1) := by decide +kernel
theorem dX12_lays_49 : decode cX12_lays 49 = .ok (.iload_n 2, 1) := by decide +kernel
theorem dX12_lays_50 : decode cX12_lays 50 = .ok (.imul, 1) := by decide +kernel
theorem dX12_lays_51 : decode cX12_lays 51 = .ok (.iconst 2, 1) := by decide +kernel
theorem dX12_lays_52 : decode cX12_lays 52 = .ok (.iadd, 1) := by decide +kernel
theorem dX12_lays_53 : decode cX12_lays 53 = .ok (.iaload, 1) := by decide +kernel
theorem dX12_lays_54 : decode cX12_lays 54 = .ok (.iload_n 2, 1) := by decide +kernel
theorem dX12_lays_55 : decode cX12_lays 55 = .ok (.ishl, 1) := by decide +kernel
theorem dX12_lays_56 : decode cX12_lays 56 = .ok (.ior, 1) := by decide +kernel
theorem dX12_lays_57 : decode cX12_lays 57 = .ok (.iastore, 1) := by decide +kernel
theorem dX12_lays_58 : decode cX12_lays 58 = .ok (.iinc 2 1, 3) := by decide +kernel
theorem dX12_lays_61 : decode cX12_lays 61 = .ok (.goto (-41), 3) := by decide +kernel
theorem dX12_lays_64 : decode cX12_lays 64 = .ok (.aload_n 1, 1) := by decide +kernel
theorem dX12_lays_65 : decode cX12_lays 65 = .ok (.bipush 19, 2) := by decide +kernel
theorem dX12_lays_67 : decode cX12_lays 67 = .ok (.aload_n 0, 1) := by decide +kernel
theorem dX12_lays_68 : decode cX12_lays 68 = .ok (.getfield 37, 3) := by decide +kernel
theorem dX12_lays_71 : decode cX12_lays 71 = .ok (.iconst 2, 1) := by decide +kernel
theorem dX12_lays_72 : decode cX12_lays 72 = .ok (.iaload, 1) := by decide +kernel
theorem dX12_lays_73 : decode cX12_lays 73 = .ok (.iastore, 1) := by decide +kernel
theorem dX12_lays_74 : decode cX12_lays 74 = .ok (.aload_n 1, 1) := by decide +kernel
theorem dX12_lays_75 : decode cX12_lays 75 = .ok (.bipush 22, 2) := by decide +kernel
theorem dX12_lays_77 : decode cX12_lays 77 = .ok (.aload_n 0, 1) := by decide +kernel
theorem dX12_lays_78 : decode cX12_lays 78 = .ok (.getfield 37, 3) := by decide +kernel
theorem dX12_lays_81 : decode cX12_lays 81 = .ok (.iconst 1, 1) := by decide +kernel
theorem dX12_lays_82 : decode cX12_lays 82 = .ok (.iaload, 1) := by decide +kernel
theorem dX12_lays_83 : decode cX12_lays 83 = .ok (.iastore, 1) := by decide +kernel
theorem dX12_lays_84 : decode cX12_lays 84 = .ok (.aload_n 1, 1) := by decide +kernel
theorem dX12_lays_85 : decode cX12_lays 85 = .ok (.bipush 23, 2) := by decide +kernel
theorem dX12_lays_87 : decode cX12_lays 87 = .ok (.iconst (-1), 1) := by decide +kernel
theorem dX12_lays_88 : decode cX12_lays 88 = .ok (.iastore, 1) := by decide +kernel
theorem dX12_lays_89 : decode cX12_lays 89 = .ok (.return_, 1) := by decide +kernel
theorem dX12_copy_0 : decode cX12_copy 0 = .ok (.iconst 0, 1) := by decide +kernel
theorem dX12_copy_1 : decode cX12_copy 1 = .ok (.istore_n 2, 1) := by decide +kernel
theorem dX12_copy_2 : decode cX12_copy 2 = .ok (.iload_n 2, 1) := by decide +kernel
theorem dX12_copy_3 : decode cX12_copy 3 = .ok (.sipush 236, 3) := by decide +kernel
theorem dX12_copy_6 : decode cX12_copy 6 = .ok (.if_icmp .ge 15, 3) := by decide +kernel
theorem dX12_copy_9 : decode cX12_copy 9 = .ok (.aload_n 1, 1) := by decide +kernel
theorem dX12_copy_10 : decode cX12_copy 10 = .ok (.iload_n 2, 1) := by decide +kernel
theorem dX12_copy_11 : decode cX12_copy 11 = .ok (.aload_n 0, 1) := by decide +kernel
theorem dX12_copy_12 : decode cX12_copy 12 = .ok (.iload_n 2, 1) := by decide +kernel
theorem dX12_copy_13 : decode cX12_copy 13 = .ok (.iaload, 1) := by decide +kernel
theorem dX12_copy_14 : decode cX12_copy 14 = .ok (.iastore, 1) := by decide +kernel
theorem dX12_copy_15 : decode cX12_copy 15 = .ok (.iinc 2 1, 3) := by decide +kernel
theorem dX12_copy_18 : decode cX12_copy 18 = .ok (.goto (-16), 3) := by decide +kernel
theorem dX12_copy_21 : decode cX12_copy 21 = .ok (.return_, 1) := by decide +kernel
theorem dX12_isPerson_0 : decode cX12_isPerson 0 = .ok (.iload_n 1, 1) := by decide +kernel
theorem dX12_isPerson_1 : decode cX12_isPerson 1 = .ok (.ifCond .lt 15, 3) := by decide +kernel
theorem dX12_isPerson_4 : decode cX12_isPerson 4 = .ok (.iload_n 1, 1) := by decide +kernel
theorem dX12_isPerson_5 : decode cX12_isPerson 5 = .ok (.aload_n 0, 1) := by decide +kernel
theorem dX12_isPerson_6 : decode cX12_isPerson 6 = .ok (.getfield 307, 3) := by decide +kernel
theorem dX12_isPerson_9 : decode cX12_isPerson 9 = .ok (.if_icmp .ge 7, 3) := by decide +kernel
theorem dX12_isPerson_12 : decode cX12_isPerson 12 = .ok (.iconst 1, 1) := by decide +kernel
theorem dX12_isPerson_13 : decode cX12_isPerson 13 = .ok (.goto 4, 3) := by decide +kernel
theorem dX12_isPerson_16 : decode cX12_isPerson 16 = .ok (.iconst 0, 1) := by decide +kernel
theorem dX12_isPerson_17 : decode cX12_isPerson 17 = .ok (.ireturn, 1) := by decide +kernel
theorem dX12_isKind_0 : decode cX12_isKind 0 = .ok (.iload_n 1, 1) := by decide +kernel
theorem dX12_isKind_1 : decode cX12_isKind 1 = .ok (.ifCond .lt 15, 3) := by decide +kernel
theorem dX12_isKind_4 : decode cX12_isKind 4 = .ok (.iload_n 1, 1) := by decide +kernel
theorem dX12_isKind_5 : decode cX12_isKind 5 = .ok (.aload_n 0, 1) := by decide +kernel
theorem dX12_isKind_6 : decode cX12_isKind 6 = .ok (.getfield 304, 3) := by decide +kernel
theorem dX12_isKind_9 : decode cX12_isKind 9 = .ok (.if_icmp .ge 7, 3) := by decide +kernel
theorem dX12_isKind_12 : decode cX12_isKind 12 = .ok (.iconst 1, 1) := by decide +kernel
theorem dX12_isKind_13 : decode cX12_isKind 13 = .ok (.goto 4, 3) := by decide +kernel
theorem dX12_isKind_16 : decode cX12_isKind 16 = .ok (.iconst 0, 1) := by decide +kernel
theorem dX12_isKind_17 : decode cX12_isKind 17 = .ok (.ireturn, 1) := by decide +kernel
theorem dX12_up_0 : decode cX12_up 0 = .ok (.iconst 1, 1) := by decide +kernel
theorem dX12_up_1 : decode cX12_up 1 = .ok (.aload_n 0, 1) := by decide +kernel
theorem dX12_up_2 : decode cX12_up 2 = .ok (.getfield 307, 3) := by decide +kernel
theorem dX12_up_5 : decode cX12_up 5 = .ok (.ishl, 1) := by decide +kernel
theorem dX12_up_6 : decode cX12_up 6 = .ok (.iconst 1, 1) := by decide +kernel
theorem dX12_up_7 : decode cX12_up 7 = .ok (.isub, 1) := by decide +kernel
theorem dX12_up_8 : decode cX12_up 8 = .ok (.aload_n 1, 1) := by decide +kernel
theorem dX12_up_9 : decode cX12_up 9 = .ok (.bipush 18, 2) := by decide +kernel
theorem dX12_up_11 : decode cX12_up 11 = .ok (.iaload, 1) := by decide +kernel
theorem dX12_up_12 : decode cX12_up 12 = .ok (.iconst (-1), 1) := by decide +kernel
theorem dX12_up_13 : decode cX12_up 13 = .ok (.ixor, 1) := by decide +kernel
theorem dX12_up_14 : decode cX12_up 14 = .ok (.iand, 1) := by decide +kernel
theorem dX12_up_15 : decode cX12_up 15 = .ok (.ireturn, 1) := by decide +kernel
theorem dX12_worthOf_0 : decode cX12_worthOf 0 = .ok (.lconst 1, 1) := by decide +kernel
theorem dX12_worthOf_1 : decode cX12_worthOf 1 = .ok (.aload_n 0, 1) := by decide +kernel
theorem dX12_worthOf_2 : decode cX12_worthOf 2 = .ok (.getfield 70, 3) := by decide +kernel
theorem dX12_worthOf_5 : decode cX12_worthOf 5 = .ok (.i2l, 1) := by decide +kernel
theorem dX12_worthOf_6 : decode cX12_worthOf 6 = .ok (.ladd, 1) := by decide +kernel
theorem dX12_worthOf_7 : decode cX12_worthOf 7 = .ok (.lstore 6, 2) := by decide +kernel
theorem dX12_worthOf_9 : decode cX12_worthOf 9 = .ok (.ldc2_w 323, 3) := by decide +kernel
theorem dX12_worthOf_12 : decode cX12_worthOf 12 = .ok (.lload 6, 2) := by decide +kernel
theorem dX12_worthOf_14 : decode cX12_worthOf 14 = .ok (.lmul, 1) := by decide +kernel
theorem dX12_worthOf_15 : decode cX12_worthOf 15 = .ok (.iload_n 1, 1) := by decide +kernel
theorem dX12_worthOf_16 : decode cX12_worthOf 16 = .ok (.i2l, 1) := by decide +kernel
theorem dX12_worthOf_17 : decode cX12_worthOf 17 = .ok (.ladd, 1) := by decide +kernel
theorem dX12_worthOf_18 : decode cX12_worthOf 18 = .ok (.lstore 6, 2) := by decide +kernel
theorem dX12_worthOf_20 : decode cX12_worthOf 20 = .ok (.ldc2_w 325, 3) := by decide +kernel
theorem dX12_worthOf_23 : decode cX12_worthOf 23 = .ok (.lload 6, 2) := by decide +kernel
theorem dX12_worthOf_25 : decode cX12_worthOf 25 = .ok (.lmul, 1) := by decide +kernel
theorem dX12_worthOf_26 : decode cX12_worthOf 26 = .ok (.aload_n 0, 1) := by decide +kernel
theorem dX12_worthOf_27 : decode cX12_worthOf 27 = .ok (.getfield 37, 3) := by decide +kernel
theorem dX12_worthOf_30 : decode cX12_worthOf 30 = .ok (.iconst 0, 1) := by decide +kernel
theorem dX12_worthOf_31 : decode cX12_worthOf 31 = .ok (.iaload, 1) := by decide +kernel
theorem dX12_worthOf_32 : decode cX12_worthOf 32 = .ok (.i2l, 1) := by decide +kernel
theorem dX12_worthOf_33 : decode cX12_worthOf 33 = .ok (.ladd, 1) := by decide +kernel
theorem dX12_worthOf_34 : decode cX12_worthOf 34 = .ok (.lstore 6, 2) := by decide +kernel
theorem dX12_worthOf_36 : decode cX12_worthOf 36 = .ok (.ldc2_w 327, 3) := by decide +kernel
theorem dX12_worthOf_39 : decode cX12_worthOf 39 = .ok (.lload 6, 2) := by decide +kernel
theorem dX12_worthOf_41 : decode cX12_worthOf 41 = .ok (.lmul, 1) := by decide +kernel
theorem dX12_worthOf_42 : decode cX12_worthOf 42 = .ok (.iload_n 2, 1) := by decide +kernel
theorem dX12_worthOf_43 : decode cX12_worthOf 43 = .ok (.i2l, 1) := by decide +kernel
theorem dX12_worthOf_44 : decode cX12_worthOf 44 = .ok (.ladd, 1) := by decide +kernel
theorem dX12_worthOf_45 : decode cX12_worthOf 45 = .ok (.lstore 6, 2) := by decide +kernel
theorem dX12_worthOf_47 : decode cX12_worthOf 47 = .ok (.ldc2_w 329, 3) := by decide +kernel
theorem dX12_worthOf_50 : decode cX12_worthOf 50 = .ok (.lload 6, 2) := by decide +kernel
theorem dX12_worthOf_52 : decode cX12_worthOf 52 = .ok (.lmul, 1) := by decide +kernel
theorem dX12_worthOf_53 : decode cX12_worthOf 53 = .ok (.iload_n 3, 1) := by decide +kernel
theorem dX12_worthOf_54 : decode cX12_worthOf 54 = .ok (.i2l, 1) := by decide +kernel
theorem dX12_worthOf_55 : decode cX12_worthOf 55 = .ok (.ladd, 1) := by decide +kernel
theorem dX12_worthOf_56 : decode cX12_worthOf 56 = .ok (.lstore 6, 2) := by decide +kernel
theorem dX12_worthOf_58 : decode cX12_worthOf 58 = .ok (.ldc2_w 331, 3) := by decide +kernel
theorem dX12_worthOf_61 : decode cX12_worthOf 61 = .ok (.lload 6, 2) := by decide +kernel
theorem dX12_worthOf_63 : decode cX12_worthOf 63 = .ok (.lmul, 1) := by decide +kernel
theorem dX12_worthOf_64 : decode cX12_worthOf 64 = .ok (.iload 4, 2) := by decide +kernel
theorem dX12_worthOf_66 : decode cX12_worthOf 66 = .ok (.i2l, 1) := by decide +kernel
theorem dX12_worthOf_67 : decode cX12_worthOf 67 = .ok (.ladd, 1) := by decide +kernel
theorem dX12_worthOf_68 : decode cX12_worthOf 68 = .ok (.lstore 6, 2) := by decide +kernel
theorem dX12_worthOf_70 : decode cX12_worthOf 70 = .ok (.ldc2_w 329, 3) := by decide +kernel
theorem dX12_worthOf_73 : decode cX12_worthOf 73 = .ok (.lload 6, 2) := by decide +kernel
theorem dX12_worthOf_75 : decode cX12_worthOf 75 = .ok (.lmul, 1) := by decide +kernel
theorem dX12_worthOf_76 : decode cX12_worthOf 76 = .ok (.iload 5, 2) := by decide +kernel
theorem dX12_worthOf_78 : decode cX12_worthOf 78 = .ok (.i2l, 1) := by decide +kernel
theorem dX12_worthOf_79 : decode cX12_worthOf 79 = .ok (.ladd, 1) := by decide +kernel
theorem dX12_worthOf_80 : decode cX12_worthOf 80 = .ok (.lstore 6, 2) := by decide +kernel
theorem dX12_worthOf_82 : decode cX12_worthOf 82 = .ok (.lload 6, 2) := by decide +kernel
theorem dX12_worthOf_84 : decode cX12_worthOf 84 = .ok (.ldc2_w 333, 3) := by decide +kernel
theorem dX12_worthOf_87 : decode cX12_worthOf 87 = .ok (.lrem, 1) := by decide +kernel
theorem dX12_worthOf_88 : decode cX12_worthOf 88 = .ok (.l2i, 1) := by decide +kernel
theorem dX12_worthOf_89 : decode cX12_worthOf 89 = .ok (.istore 8, 2) := by decide +kernel
theorem dX12_worthOf_91 : decode cX12_worthOf 91 = .ok (.aload_n 0, 1) := by decide +kernel
theorem dX12_worthOf_92 : decode cX12_worthOf 92 = .ok (.getfield 77, 3) := by decide +kernel
theorem dX12_worthOf_95 : decode cX12_worthOf 95 = .ok (.iload 8, 2) := by decide +kernel
theorem dX12_worthOf_97 : decode cX12_worthOf 97 = .ok (.laload, 1) := by decide +kernel
theorem dX12_worthOf_98 : decode cX12_worthOf 98 = .ok (.lload 6, 2) := by decide +kernel
theorem dX12_worthOf_100 : decode cX12_worthOf 100 = .ok (.lcmp, 1) := by decide +kernel
theorem dX12_worthOf_101 : decode cX12_worthOf 101 = .ok (.ifCond .ne 11, 3) := by decide +kernel
theorem dX12_worthOf_104 : decode cX12_worthOf 104 = .ok (.aload_n 0, 1) := by decide +kernel
theorem dX12_worthOf_105 : decode cX12_worthOf 105 = .ok (.getfield 81, 3) := by decide +kernel
theorem dX12_worthOf_108 : decode cX12_worthOf 108 = .ok (.iload 8, 2) := by decide +kernel
theorem dX12_worthOf_110 : decode cX12_worthOf 110 = .ok (.iaload, 1) := by decide +kernel
theorem dX12_worthOf_111 : decode cX12_worthOf 111 = .ok (.ireturn, 1) := by decide +kernel
theorem dX12_worthOf_112 : decode cX12_worthOf 112 = .ok (.aload_n 0, 1) := by decide +kernel
theorem dX12_worthOf_113 : decode cX12_worthOf 113 = .ok (.getfield 20, 3) := by decide +kernel
theorem dX12_worthOf_116 : decode cX12_worthOf 116 = .ok (.bipush 105, 2) := by decide +kernel
theorem dX12_worthOf_118 : decode cX12_worthOf 118 = .ok (.iload_n 1, 1) := by decide +kernel
theorem dX12_worthOf_119 : decode cX12_worthOf 119 = .ok (.iastore, 1) := by decide +kernel
theorem dX12_worthOf_120 : decode cX12_worthOf 120 = .ok (.aload_n 0, 1) := by decide +kernel
theorem dX12_worthOf_121 : decode cX12_worthOf 121 = .ok (.getfield 20, 3) := by decide +kernel
theorem dX12_worthOf_124 : decode cX12_worthOf 124 = .ok (.bipush 100, 2) := by decide +kernel
theorem dX12_worthOf_126 : decode cX12_worthOf 126 = .ok (.aload_n 0, 1) := by decide +kernel
theorem dX12_worthOf_127 : decode cX12_worthOf 127 = .ok (.getfield 37, 3) := by decide +kernel
theorem dX12_worthOf_130 : decode cX12_worthOf 130 = .ok (.iconst 0, 1) := by decide +kernel
theorem dX12_worthOf_131 : decode cX12_worthOf 131 = .ok (.iaload, 1) := by decide +kernel
theorem dX12_worthOf_132 : decode cX12_worthOf 132 = .ok (.iastore, 1) := by decide +kernel
theorem dX12_worthOf_133 : decode cX12_worthOf 133 = .ok (.aload_n 0, 1) := by decide +kernel
theorem dX12_worthOf_134 : decode cX12_worthOf 134 = .ok (.getfield 20, 3) := by decide +kernel
theorem dX12_worthOf_137 : decode cX12_worthOf 137 = .ok (.bipush 102, 2) := by decide +kernel
theorem dX12_worthOf_139 : decode cX12_worthOf 139 = .ok (.iload_n 2, 1) := by decide +kernel
theorem dX12_worthOf_140 : decode cX12_worthOf 140 = .ok (.iastore, 1) := by decide +kernel
theorem dX12_worthOf_141 : decode cX12_worthOf 141 = .ok (.aload_n 0, 1) := by decide +kernel
theorem dX12_worthOf_142 : decode cX12_worthOf 142 = .ok (.getfield 20, 3) := by decide +kernel
theorem dX12_worthOf_145 : decode cX12_worthOf 145 = .ok (.bipush 117, 2) := by decide +kernel
theorem dX12_worthOf_147 : decode cX12_worthOf 147 = .ok (.iload_n 3, 1) := by decide +kernel
theorem dX12_worthOf_148 : decode cX12_worthOf 148 = .ok (.iastore, 1) := by decide +kernel
theorem dX12_worthOf_149 : decode cX12_worthOf 149 = .ok (.aload_n 0, 1) := by decide +kernel
theorem dX12_worthOf_150 : decode cX12_worthOf 150 = .ok (.getfield 20, 3) := by decide +kernel
theorem dX12_worthOf_153 : decode cX12_worthOf 153 = .ok (.bipush 121, 2) := by decide +kernel
theorem dX12_worthOf_155 : decode cX12_worthOf 155 = .ok (.iload 4, 2) := by decide +kernel
theorem dX12_worthOf_157 : decode cX12_worthOf 157 = .ok (.iastore, 1) := by decide +kernel
theorem dX12_worthOf_158 : decode cX12_worthOf 158 = .ok (.aload_n 0, 1) := by decide +kernel
theorem dX12_worthOf_159 : decode cX12_worthOf 159 = .ok (.getfield 20, 3) := by decide +kernel
theorem dX12_worthOf_162 : decode cX12_worthOf 162 = .ok (.bipush 114, 2) := by decide +kernel
theorem dX12_worthOf_164 : decode cX12_worthOf 164 = .ok (.iload 5, 2) := by decide +kernel
theorem dX12_worthOf_166 : decode cX12_worthOf 166 = .ok (.iastore, 1) := by decide +kernel
theorem dX12_worthOf_167 : decode cX12_worthOf 167 = .ok (.aload_n 0, 1) := by decide +kernel
theorem dX12_worthOf_168 : decode cX12_worthOf 168 = .ok (.aload_n 0, 1) := by decide +kernel
theorem dX12_worthOf_169 : decode cX12_worthOf 169 = .ok (.getfield 13, 3) := by decide +kernel
theorem dX12_worthOf_172 : decode cX12_worthOf 172 = .ok (.sipush 240, 3) := by decide +kernel
theorem dX12_worthOf_175 : decode cX12_worthOf 175 = .ok (.aload_n 0, 1) := by decide +kernel
theorem dX12_worthOf_176 : decode cX12_worthOf 176 = .ok (.getfield 70, 3) := by decide +kernel
theorem dX12_worthOf_179 : decode cX12_worthOf 179 = .ok (.imul, 1) := by decide +kernel
theorem dX12_worthOf_180 : decode cX12_worthOf 180 = .ok (.aload_n 0, 1) := by decide +kernel
theorem dX12_worthOf_181 : decode cX12_worthOf 181 = .ok (.getfield 16, 3) := by decide +kernel
theorem dX12_worthOf_184 : decode cX12_worthOf 184 = .ok (.aload_n 0, 1) := by decide +kernel
theorem dX12_worthOf_185 : decode cX12_worthOf 185 = .ok (.getfield 70, 3) := by decide +kernel
theorem dX12_worthOf_188 : decode cX12_worthOf 188 = .ok (.iaload, 1) := by decide +kernel
theorem dX12_worthOf_189 : decode cX12_worthOf 189 = .ok (.invokevirtual 290, 3) := by decide +kernel
theorem dX12_worthOf_192 : decode cX12_worthOf 192 = .ok (.aload_n 0, 1) := by decide +kernel
theorem dX12_worthOf_193 : decode cX12_worthOf 193 = .ok (.getfield 77, 3) := by decide +kernel
theorem dX12_worthOf_196 : decode cX12_worthOf 196 = .ok (.iload 8, 2) := by decide +kernel
theorem dX12_worthOf_198 : decode cX12_worthOf 198 = .ok (.lload 6, 2) := by decide +kernel
theorem dX12_worthOf_200 : decode cX12_worthOf 200 = .ok (.lastore, 1) := by decide +kernel
theorem dX12_worthOf_201 : decode cX12_worthOf 201 = .ok (.aload_n 0, 1) := by decide +kernel
theorem dX12_worthOf_202 : decode cX12_worthOf 202 = .ok (.getfield 81, 3) := by decide +kernel
theorem dX12_worthOf_205 : decode cX12_worthOf 205 = .ok (.iload 8, 2) := by decide +kernel
theorem dX12_worthOf_207 : decode cX12_worthOf 207 = .ok (.aload_n 0, 1) := by decide +kernel
theorem dX12_worthOf_208 : decode cX12_worthOf 208 = .ok (.getfield 217, 3) := by decide +kernel
theorem dX12_worthOf_211 : decode cX12_worthOf 211 = .ok (.iastore, 1) := by decide +kernel
theorem dX12_worthOf_212 : decode cX12_worthOf 212 = .ok (.aload_n 0, 1) := by decide +kernel
theorem dX12_worthOf_213 : decode cX12_worthOf 213 = .ok (.getfield 217, 3) := by decide +kernel
theorem dX12_worthOf_216 : decode cX12_worthOf 216 = .ok (.ireturn, 1) := by decide +kernel
theorem dX12_plainLight_0 : decode cX12_plainLight 0 = .ok (.iconst 2, 1) := by decide +kernel
theorem dX12_plainLight_1 : decode cX12_plainLight 1 = .ok (.iload_n 2, 1) := by decide +kernel
theorem dX12_plainLight_2 : decode cX12_plainLight 2 = .ok (.aload_n 0, 1) := by decide +kernel
theorem dX12_plainLight_3 : decode cX12_plainLight 3 = .ok (.getfield 37, 3) := by decide +kernel
theorem dX12_plainLight_6 : decode cX12_plainLight 6 = .ok (.iconst 0, 1) := by decide +kernel
theorem dX12_plainLight_7 : decode cX12_plainLight 7 = .ok (.iaload, 1) := by decide +kernel
theorem dX12_plainLight_8 : decode cX12_plainLight 8 = .ok (.iconst 2, 1) := by decide +kernel
theorem dX12_plainLight_9 : decode cX12_plainLight 9 = .ok (.idiv, 1) := by decide +kernel
theorem dX12_plainLight_10 : decode cX12_plainLight 10 = .ok (.isub, 1) := by decide +kernel
theorem dX12_plainLight_11 : decode cX12_plainLight 11 = .ok (.invokestatic 335, 3) := by decide +kernel
theorem dX12_plainLight_14 : decode cX12_plainLight 14 = .ok (.imul, 1) := by decide +kernel
theorem dX12_plainLight_15 : decode cX12_plainLight 15 = .ok (.iconst 4, 1) := by decide +kernel
theorem dX12_plainLight_16 : decode cX12_plainLight 16 = .ok (.iadd, 1) := by decide +kernel
theorem dX12_plainLight_17 : decode cX12_plainLight 17 = .ok (.iload_n 3, 1) := by decide +kernel
theorem dX12_plainLight_18 : decode cX12_plainLight 18 = .ok (.isub, 1) := by decide +kernel
theorem dX12_plainLight_19 : decode cX12_plainLight 19 = .ok (.istore 4, 2) := by decide +kernel
theorem dX12_plainLight_21 : decode cX12_plainLight 21 = .ok (.aload_n 0, 1) := by decide +kernel
theorem dX12_plainLight_22 : decode cX12_plainLight 22 = .ok (.getfield 70, 3) := by decide +kernel
theorem dX12_plainLight_25 : decode cX12_plainLight 25 = .ok (.iconst (-1), 1) := by decide +kernel
theorem dX12_plainLight_26 : decode cX12_plainLight 26 = .ok (.if_icmp .eq 47, 3) := by decide +kernel
theorem dX12_plainLight_29 : decode cX12_plainLight 29 = .ok (.aload_n 0, 1) := by decide +kernel
theorem dX12_plainLight_30 : decode cX12_plainLight 30 = .ok (.iload_n 2, 1) := by decide +kernel
theorem dX12_plainLight_31 : decode cX12_plainLight 31 = .ok (.iload_n 3, 1) := by decide +kernel
theorem dX12_plainLight_32 : decode cX12_plainLight 32 = .ok (.aload_n 0, 1) := by decide +kernel
theorem dX12_plainLight_33 : decode cX12_plainLight 33 = .ok (.aload_n 1, 1) := by decide +kernel
theorem dX12_plainLight_34 : decode cX12_plainLight 34 = .ok (.invokevirtual 338, 3) := by decide +kernel
theorem dX12_plainLight_37 : decode cX12_plainLight 37 = .ok (.invokestatic 342, 3) := by decide +kernel
theorem dX12_plainLight_40 : decode cX12_plainLight 40 = .ok (.aload_n 1, 1) := by decide +kernel
theorem dX12_plainLight_41 : decode cX12_plainLight 41 = .ok (.bipush 24, 2) := by decide +kernel
theorem dX12_plainLight_43 : decode cX12_plainLight 43 = .ok (.iaload, 1) := by decide +kernel
theorem dX12_plainLight_44 : decode cX12_plainLight 44 = .ok (.bipush 100, 2) := by decide +kernel
theorem dX12_plainLight_46 : decode cX12_plainLight 46 = .ok (.irem, 1) := by decide +kernel
theorem dX12_plainLight_47 : decode cX12_plainLight 47 = .ok (.aload_n 1, 1) := by decide +kernel
theorem dX12_plainLight_48 : decode cX12_plainLight 48 = .ok (.bipush 23, 2) := by decide +kernel
theorem dX12_plainLight_50 : decode cX12_plainLight 50 = .ok (.iaload, 1) := by decide +kernel
theorem dX12_plainLight_51 : decode cX12_plainLight 51 = .ok (.iconst (-1), 1) := by decide +kernel
theorem dX12_plainLight_52 : decode cX12_plainLight 52 = .ok (.if_icmp .ne 7, 3) := by decide +kernel
theorem dX12_plainLight_55 : decode cX12_plainLight 55 = .ok (.iconst 0, 1) := by decide +kernel
theorem dX12_plainLight_56 : decode cX12_plainLight 56 = .ok (.goto 12, 3) := by decide +kernel
theorem dX12_plainLight_59 : decode cX12_plainLight 59 = .ok (.aload_n 1, 1) := by decide +kernel
theorem dX12_plainLight_60 : decode cX12_plainLight 60 = .ok (.bipush 12, 2) := by decide +kernel
theorem dX12_plainLight_62 : decode cX12_plainLight 62 = .ok (.aload_n 1, 1) := by decide +kernel
theorem dX12_plainLight_63 : decode cX12_plainLight 63 = .ok (.bipush 23, 2) := by decide +kernel
theorem dX12_plainLight_65 : decode cX12_plainLight 65 = .ok (.iaload, 1) := by decide +kernel
theorem dX12_plainLight_66 : decode cX12_plainLight 66 = .ok (.iadd, 1) := by decide +kernel
theorem dX12_plainLight_67 : decode cX12_plainLight 67 = .ok (.iaload, 1) := by decide +kernel
theorem dX12_plainLight_68 : decode cX12_plainLight 68 = .ok (.invokevirtual 347, 3) := by decide +kernel
theorem dX12_plainLight_71 : decode cX12_plainLight 71 = .ok (.istore 4, 2) := by decide +kernel
theorem dX12_plainLight_73 : decode cX12_plainLight 73 = .ok (.iconst 0, 1) := by decide +kernel
theorem dX12_plainLight_74 : decode cX12_plainLight 74 = .ok (.bipush 99, 2) := by decide +kernel
theorem dX12_plainLight_76 : decode cX12_plainLight 76 = .ok (.iload 4, 2) := by decide +kernel
theorem dX12_plainLight_78 : decode cX12_plainLight 78 = .ok (.invokestatic 351, 3) := by decide +kernel
theorem dX12_plainLight_81 : decode cX12_plainLight 81 = .ok (.invokestatic 353, 3) := by decide +kernel
theorem dX12_plainLight_84 : decode cX12_plainLight 84 = .ok (.ireturn, 1) := by decide +kernel
theorem dX12_lightBy_0 : decode cX12_lightBy 0 = .ok (.aload_n 0, 1) := by decide +kernel
theorem dX12_lightBy_1 : decode cX12_lightBy 1 = .ok (.aload_n 1, 1) := by decide +kernel
theorem dX12_lightBy_2 : decode cX12_lightBy 2 = .ok (.iload_n 2, 1) := by decide +kernel
theorem dX12_lightBy_3 : decode cX12_lightBy 3 = .ok (.iload_n 3, 1) := by decide +kernel
theorem dX12_lightBy_4 : decode cX12_lightBy 4 = .ok (.invokevirtual 355, 3) := by decide +kernel
theorem dX12_lightBy_7 : decode cX12_lightBy 7 = .ok (.istore 4, 2) := by decide +kernel
theorem dX12_lightBy_9 : decode cX12_lightBy 9 = .ok (.iload_n 2, 1) := by decide +kernel
theorem dX12_lightBy_10 : decode cX12_lightBy 10 = .ok (.aload_n 1, 1) := by decide +kernel
theorem dX12_lightBy_11 : decode cX12_lightBy 11 = .ok (.bipush 25, 2) := by decide +kernel
theorem dX12_lightBy_13 : decode cX12_lightBy 13 = .ok (.iaload, 1) := by decide +kernel
theorem dX12_lightBy_14 : decode cX12_lightBy 14 = .ok (.if_icmp .le 6, 3) := by decide +kernel
theorem dX12_lightBy_17 : decode cX12_lightBy 17 = .ok (.iload 4, 2) := by decide +kernel
theorem dX12_lightBy_19 : decode cX12_lightBy 19 = .ok (.ireturn, 1) := by decide +kernel
theorem dX12_lightBy_20 : decode cX12_lightBy 20 = .ok (.aload_n 1, 1) := by decide +kernel
theorem dX12_lightBy_21 : decode cX12_lightBy 21 = .ok (.bipush 20, 2) := by decide +kernel
theorem dX12_lightBy_23 : decode cX12_lightBy 23 = .ok (.iaload, 1) := by decide +kernel
theorem dX12_lightBy_24 : decode cX12_lightBy 24 = .ok (.iconst 1, 1) := by decide +kernel
theorem dX12_lightBy_25 : decode cX12_lightBy 25 = .ok (.if_icmp .ne 7, 3) := by decide +kernel
theorem dX12_lightBy_28 : decode cX12_lightBy 28 = .ok (.iconst 0, 1) := by decide +kernel
theorem dX12_lightBy_29 : decode cX12_lightBy 29 = .ok (.goto 17, 3) := by decide +kernel
theorem dX12_lightBy_32 : decode cX12_lightBy 32 = .ok (.bipush 99, 2) := by decide +kernel
theorem dX12_lightBy_34 : decode cX12_lightBy 34 = .ok (.iload 4, 2) := by decide +kernel
theorem dX12_lightBy_36 : decode cX12_lightBy 36 = .ok (.iconst 2, 1) := by decide +kernel
theorem dX12_lightBy_37 : decode cX12_lightBy 37 = .ok (.aload_n 1, 1) := by decide +kernel
theorem dX12_lightBy_38 : decode cX12_lightBy 38 = .ok (.bipush 21, 2) := by decide +kernel
theorem dX12_lightBy_40 : decode cX12_lightBy 40 = .ok (.iaload, 1) := by decide +kernel
theorem dX12_lightBy_41 : decode cX12_lightBy 41 = .ok (.imul, 1) := by decide +kernel
theorem dX12_lightBy_42 : decode cX12_lightBy 42 = .ok (.iadd, 1) := by decide +kernel
theorem dX12_lightBy_43 : decode cX12_lightBy 43 = .ok (.invokestatic 351, 3) := by decide +kernel
theorem dX12_lightBy_46 : decode cX12_lightBy 46 = .ok (.ireturn, 1) := by decide +kernel
theorem dX12_lightOf_0 : decode cX12_lightOf 0 = .ok (.iload_n 2, 1) := by decide +kernel
theorem dX12_lightOf_1 : decode cX12_lightOf 1 = .ok (.aload_n 1, 1) := by decide +kernel
theorem dX12_lightOf_2 : decode cX12_lightOf 2 = .ok (.bipush 25, 2) := by decide +kernel
theorem dX12_lightOf_4 : decode cX12_lightOf 4 = .ok (.iaload, 1) := by decide +kernel
theorem dX12_lightOf_5 : decode cX12_lightOf 5 = .ok (.if_icmp .ge 12, 3) := by decide +kernel
theorem dX12_lightOf_8 : decode cX12_lightOf 8 = .ok (.aload_n 1, 1) := by decide +kernel
theorem dX12_lightOf_9 : decode cX12_lightOf 9 = .ok (.bipush 26, 2) := by decide +kernel
theorem dX12_lightOf_11 : decode cX12_lightOf 11 = .ok (.iload_n 2, 1) := by decide +kernel
theorem dX12_lightOf_12 : decode cX12_lightOf 12 = .ok (.iadd, 1) := by decide +kernel
theorem dX12_lightOf_13 : decode cX12_lightOf 13 = .ok (.iaload, 1) := by decide +kernel
theorem dX12_lightOf_14 : decode cX12_lightOf 14 = .ok (.goto 13, 3) := by decide +kernel
theorem dX12_lightOf_17 : decode cX12_lightOf 17 = .ok (.aload_n 0, 1) := by decide +kernel
theorem dX12_lightOf_18 : decode cX12_lightOf 18 = .ok (.aload_n 1, 1) := by decide +kernel
theorem dX12_lightOf_19 : decode cX12_lightOf 19 = .ok (.iload_n 2, 1) := by decide +kernel
theorem dX12_lightOf_20 : decode cX12_lightOf 20 = .ok (.aload_n 1, 1) := by decide +kernel
theorem dX12_lightOf_21 : decode cX12_lightOf 21 = .ok (.bipush 19, 2) := by decide +kernel
theorem dX12_lightOf_23 : decode cX12_lightOf 23 = .ok (.iaload, 1) := by decide +kernel
theorem dX12_lightOf_24 : decode cX12_lightOf 24 = .ok (.invokevirtual 359, 3) := by decide +kernel
theorem dX12_lightOf_27 : decode cX12_lightOf 27 = .ok (.ireturn, 1) := by decide +kernel
theorem dX12_endsYear_0 : decode cX12_endsYear 0 = .ok (.aload_n 0, 1) := by decide +kernel
theorem dX12_endsYear_1 : decode cX12_endsYear 1 = .ok (.iconst 0, 1) := by decide +kernel
theorem dX12_endsYear_2 : decode cX12_endsYear 2 = .ok (.putfield 362, 3) := by decide +kernel
theorem dX12_endsYear_5 : decode cX12_endsYear 5 = .ok (.iconst 1, 1) := by decide +kernel
theorem dX12_endsYear_6 : decode cX12_endsYear 6 = .ok (.istore_n 2, 1) := by decide +kernel
theorem dX12_endsYear_7 : decode cX12_endsYear 7 = .ok (.iload_n 2, 1) := by decide +kernel
theorem dX12_endsYear_8 : decode cX12_endsYear 8 = .ok (.aload_n 0, 1) := by decide +kernel
theorem dX12_endsYear_9 : decode cX12_endsYear 9 = .ok (.getfield 37, 3) := by decide +kernel
theorem dX12_endsYear_12 : decode cX12_endsYear 12 = .ok (.iconst 0, 1) := by decide +kernel
theorem dX12_endsYear_13 : decode cX12_endsYear 13 = .ok (.iaload, 1) := by decide +kernel
theorem dX12_endsYear_14 : decode cX12_endsYear 14 = .ok (.if_icmp .ge 39, 3) := by decide +kernel
theorem dX12_endsYear_17 : decode cX12_endsYear 17 = .ok (.aload_n 0, 1) := by decide +kernel
theorem dX12_endsYear_18 : decode cX12_endsYear 18 = .ok (.aload_n 1, 1) := by decide +kernel
theorem dX12_endsYear_19 : decode cX12_endsYear 19 = .ok (.bipush 26, 2) := by decide +kernel
theorem dX12_endsYear_21 : decode cX12_endsYear 21 = .ok (.iload_n 2, 1) := by decide +kernel
theorem dX12_endsYear_22 : decode cX12_endsYear 22 = .ok (.iadd, 1) := by decide +kernel
theorem dX12_endsYear_23 : decode cX12_endsYear 23 = .ok (.iaload, 1) := by decide +kernel
theorem dX12_endsYear_24 : decode cX12_endsYear 24 = .ok (.aload_n 1, 1) := by decide +kernel
theorem dX12_endsYear_25 : decode cX12_endsYear 25 = .ok (.bipush 26, 2) := by decide +kernel
theorem dX12_endsYear_27 : decode cX12_endsYear 27 = .ok (.aload_n 0, 1) := by decide +kernel
theorem dX12_endsYear_28 : decode cX12_endsYear 28 = .ok (.getfield 362, 3) := by decide +kernel
theorem dX12_endsYear_31 : decode cX12_endsYear 31 = .ok (.iadd, 1) := by decide +kernel
theorem dX12_endsYear_32 : decode cX12_endsYear 32 = .ok (.iaload, 1) := by decide +kernel
theorem dX12_endsYear_33 : decode cX12_endsYear 33 = .ok (.if_icmp .ge 7, 3) := by decide +kernel
theorem dX12_endsYear_36 : decode cX12_endsYear 36 = .ok (.iload_n 2, 1) := by decide +kernel
theorem dX12_endsYear_37 : decode cX12_endsYear 37 = .ok (.goto 7, 3) := by decide +kernel
theorem dX12_endsYear_40 : decode cX12_endsYear 40 = .ok (.aload_n 0, 1) := by decide +kernel
theorem dX12_endsYear_41 : decode cX12_endsYear 41 = .ok (.getfield 362, 3) := by decide +kernel
theorem dX12_endsYear_44 : decode cX12_endsYear 44 = .ok (.putfield 362, 3) := by decide +kernel
theorem dX12_endsYear_47 : decode cX12_endsYear 47 = .ok (.iinc 2 1, 3) := by decide +kernel
theorem dX12_endsYear_50 : decode cX12_endsYear 50 = .ok (.goto (-43), 3) := by decide +kernel
theorem dX12_endsYear_53 : decode cX12_endsYear 53 = .ok (.iconst (-1), 1) := by decide +kernel
theorem dX12_endsYear_54 : decode cX12_endsYear 54 = .ok (.istore_n 2, 1) := by decide +kernel
theorem dX12_endsYear_55 : decode cX12_endsYear 55 = .ok (.iconst 0, 1) := by decide +kernel
theorem dX12_endsYear_56 : decode cX12_endsYear 56 = .ok (.istore_n 3, 1) := by decide +kernel
theorem dX12_endsYear_57 : decode cX12_endsYear 57 = .ok (.iload_n 3, 1) := by decide +kernel
theorem dX12_endsYear_58 : decode cX12_endsYear 58 = .ok (.aload_n 0, 1) := by decide +kernel
theorem dX12_endsYear_59 : decode cX12_endsYear 59 = .ok (.getfield 304, 3) := by decide +kernel
theorem dX12_endsYear_62 : decode cX12_endsYear 62 = .ok (.if_icmp .ge 63, 3) := by decide +kernel
theorem dX12_endsYear_65 : decode cX12_endsYear 65 = .ok (.aload_n 1, 1) := by decide +kernel
theorem dX12_endsYear_66 : decode cX12_endsYear 66 = .ok (.bipush 12, 2) := by decide +kernel
theorem dX12_endsYear_68 : decode cX12_endsYear 68 = .ok (.iload_n 3, 1) := by decide +kernel
theorem dX12_endsYear_69 : decode cX12_endsYear 69 = .ok (.iadd, 1) := by decide +kernel
theorem dX12_endsYear_70 : decode cX12_endsYear 70 = .ok (.aload_n 1, 1) := by decide +kernel
theorem dX12_endsYear_71 : decode cX12_endsYear 71 = .ok (.bipush 56, 2) := by decide +kernel
theorem dX12_endsYear_73 : decode cX12_endsYear 73 = .ok (.bipush 6, 2) := by decide +kernel
theorem dX12_endsYear_75 : decode cX12_endsYear 75 = .ok (.aload_n 0, 1) := by decide +kernel
theorem dX12_endsYear_76 : decode cX12_endsYear 76 = .ok (.getfield 362, 3) := by decide +kernel
theorem dX12_endsYear_79 : decode cX12_endsYear 79 = .ok (.imul, 1) := by decide +kernel
theorem dX12_endsYear_80 : decode cX12_endsYear 80 = .ok (.iadd, 1) := by decide +kernel
theorem dX12_endsYear_81 : decode cX12_endsYear 81 = .ok (.iload_n 3, 1) := by decide +kernel
theorem dX12_endsYear_82 : decode cX12_endsYear 82 = .ok (.iadd, 1) := by decide +kernel
theorem dX12_endsYear_83 : decode cX12_endsYear 83 = .ok (.iaload, 1) := by decide +kernel
theorem dX12_endsYear_84 : decode cX12_endsYear 84 = .ok (.invokestatic 342, 3) := by decide +kernel
theorem dX12_endsYear_87 : decode cX12_endsYear 87 = .ok (.iastore, 1) := by decide +kernel
theorem dX12_endsYear_88 : decode cX12_endsYear 88 = .ok (.aload_n 1, 1) := by decide +kernel
theorem dX12_endsYear_89 : decode cX12_endsYear 89 = .ok (.bipush 12, 2) := by decide +kernel
theorem dX12_endsYear_91 : decode cX12_endsYear 91 = .ok (.iload_n 3, 1) := by decide +kernel
theorem dX12_endsYear_92 : decode cX12_endsYear 92 = .ok (.iadd, 1) := by decide +kernel
theorem dX12_endsYear_93 : decode cX12_endsYear 93 = .ok (.iaload, 1) := by decide +kernel
theorem dX12_endsYear_94 : decode cX12_endsYear 94 = .ok (.ifCond .le 25, 3) := by decide +kernel
theorem dX12_endsYear_97 : decode cX12_endsYear 97 = .ok (.iload_n 2, 1) := by decide +kernel
theorem dX12_endsYear_98 : decode cX12_endsYear 98 = .ok (.iconst (-1), 1) := by decide +kernel
theorem dX12_endsYear_99 : decode cX12_endsYear 99 = .ok (.if_icmp .eq 18, 3) := by decide +kernel
theorem dX12_endsYear_102 : decode cX12_endsYear 102 = .ok (.aload_n 1, 1) := by decide +kernel
theorem dX12_endsYear_103 : decode cX12_endsYear 103 = .ok (.bipush 12, 2) := by decide +kernel
theorem dX12_endsYear_105 : decode cX12_endsYear 105 = .ok (.iload_n 3, 1) := by decide +kernel
theorem dX12_endsYear_106 : decode cX12_endsYear 106 = .ok (.iadd, 1) := by decide +kernel
theorem dX12_endsYear_107 : decode cX12_endsYear 107 = .ok (.iaload, 1) := by decide +kernel
theorem dX12_endsYear_108 : decode cX12_endsYear 108 = .ok (.aload_n 1, 1) := by decide +kernel
theorem dX12_endsYear_109 : decode cX12_endsYear 109 = .ok (.bipush 12, 2) := by decide +kernel
theorem dX12_endsYear_111 : decode cX12_endsYear 111 = .ok (.iload_n 2, 1) := by decide +kernel
theorem dX12_endsYear_112 : decode cX12_endsYear 112 = .ok (.iadd, 1) := by decide +kernel
theorem dX12_endsYear_113 : decode cX12_endsYear 113 = .ok (.iaload, 1) := by decide +kernel
theorem dX12_endsYear_114 : decode cX12_endsYear 114 = .ok (.if_icmp .le 5, 3) := by decide +kernel
theorem dX12_endsYear_117 : decode cX12_endsYear 117 = .ok (.iload_n 3, 1) := by decide +kernel
theorem dX12_endsYear_118 : decode cX12_endsYear 118 = .ok (.istore_n 2, 1) := by decide +kernel
theorem dX12_endsYear_119 : decode cX12_endsYear 119 = .ok (.iinc 3 1, 3) := by decide +kernel
theorem dX12_endsYear_122 : decode cX12_endsYear 122 = .ok (.goto (-65), 3) := by decide +kernel
theorem dX12_endsYear_125 : decode cX12_endsYear 125 = .ok (.aload_n 1, 1) := by decide +kernel
theorem dX12_endsYear_126 : decode cX12_endsYear 126 = .ok (.bipush 23, 2) := by decide +kernel
theorem dX12_endsYear_128 : decode cX12_endsYear 128 = .ok (.iload_n 2, 1) := by decide +kernel
theorem dX12_endsYear_129 : decode cX12_endsYear 129 = .ok (.iastore, 1) := by decide +kernel
theorem dX12_endsYear_130 : decode cX12_endsYear 130 = .ok (.iconst 0, 1) := by decide +kernel
theorem dX12_endsYear_131 : decode cX12_endsYear 131 = .ok (.istore_n 3, 1) := by decide +kernel
theorem dX12_endsYear_132 : decode cX12_endsYear 132 = .ok (.iload_n 3, 1) := by decide +kernel
theorem dX12_endsYear_133 : decode cX12_endsYear 133 = .ok (.aload_n 0, 1) := by decide +kernel
theorem dX12_endsYear_134 : decode cX12_endsYear 134 = .ok (.getfield 307, 3) := by decide +kernel
theorem dX12_endsYear_137 : decode cX12_endsYear 137 = .ok (.if_icmp .ge 37, 3) := by decide +kernel
theorem dX12_endsYear_140 : decode cX12_endsYear 140 = .ok (.iload_n 2, 1) := by decide +kernel
theorem dX12_endsYear_141 : decode cX12_endsYear 141 = .ok (.iconst (-1), 1) := by decide +kernel
theorem dX12_endsYear_142 : decode cX12_endsYear 142 = .ok (.if_icmp .eq 32, 3) := by decide +kernel
theorem dX12_endsYear_145 : decode cX12_endsYear 145 = .ok (.aload_n 0, 1) := by decide +kernel
theorem dX12_endsYear_146 : decode cX12_endsYear 146 = .ok (.getfield 49, 3) := by decide +kernel
theorem dX12_endsYear_149 : decode cX12_endsYear 149 = .ok (.iconst 3, 1) := by decide +kernel
theorem dX12_endsYear_150 : decode cX12_endsYear 150 = .ok (.iload_n 3, 1) := by decide +kernel
theorem dX12_endsYear_151 : decode cX12_endsYear 151 = .ok (.imul, 1) := by decide +kernel
theorem dX12_endsYear_152 : decode cX12_endsYear 152 = .ok (.iconst 1, 1) := by decide +kernel
theorem dX12_endsYear_153 : decode cX12_endsYear 153 = .ok (.iadd, 1) := by decide +kernel
theorem dX12_endsYear_154 : decode cX12_endsYear 154 = .ok (.iaload, 1) := by decide +kernel
theorem dX12_endsYear_155 : decode cX12_endsYear 155 = .ok (.aload_n 1, 1) := by decide +kernel
theorem dX12_endsYear_156 : decode cX12_endsYear 156 = .ok (.bipush 12, 2) := by decide +kernel
theorem dX12_endsYear_158 : decode cX12_endsYear 158 = .ok (.iload_n 2, 1) := by decide +kernel
theorem dX12_endsYear_159 : decode cX12_endsYear 159 = .ok (.iadd, 1) := by decide +kernel
theorem dX12_endsYear_160 : decode cX12_endsYear 160 = .ok (.iaload, 1) := by decide +kernel
theorem dX12_endsYear_161 : decode cX12_endsYear 161 = .ok (.if_icmp .gt 7, 3) := by decide +kernel
theorem dX12_endsYear_164 : decode cX12_endsYear 164 = .ok (.aload_n 1, 1) := by decide +kernel
theorem dX12_endsYear_165 : decode cX12_endsYear 165 = .ok (.iload_n 3, 1) := by decide +kernel
theorem dX12_endsYear_166 : decode cX12_endsYear 166 = .ok (.iload_n 2, 1) := by decide +kernel
theorem dX12_endsYear_167 : decode cX12_endsYear 167 = .ok (.iastore, 1) := by decide +kernel
theorem dX12_endsYear_168 : decode cX12_endsYear 168 = .ok (.iinc 3 1, 3) := by decide +kernel
theorem dX12_endsYear_171 : decode cX12_endsYear 171 = .ok (.goto (-39), 3) := by decide +kernel
theorem dX12_endsYear_174 : decode cX12_endsYear 174 = .ok (.aload_n 1, 1) := by decide +kernel
theorem dX12_endsYear_175 : decode cX12_endsYear 175 = .ok (.bipush 24, 2) := by decide +kernel
theorem dX12_endsYear_177 : decode cX12_endsYear 177 = .ok (.dup2, 1) := by decide +kernel
theorem dX12_endsYear_178 : decode cX12_endsYear 178 = .ok (.iaload, 1) := by decide +kernel
theorem dX12_endsYear_179 : decode cX12_endsYear 179 = .ok (.iconst 1, 1) := by decide +kernel
theorem dX12_endsYear_180 : decode cX12_endsYear 180 = .ok (.iadd, 1) := by decide +kernel
theorem dX12_endsYear_181 : decode cX12_endsYear 181 = .ok (.iastore, 1) := by decide +kernel
theorem dX12_endsYear_182 : decode cX12_endsYear 182 = .ok (.aload_n 1, 1) := by decide +kernel
theorem dX12_endsYear_183 : decode cX12_endsYear 183 = .ok (.bipush 25, 2) := by decide +kernel
theorem dX12_endsYear_185 : decode cX12_endsYear 185 = .ok (.iconst 0, 1) := by decide +kernel
theorem dX12_endsYear_186 : decode cX12_endsYear 186 = .ok (.iastore, 1) := by decide +kernel
theorem dX12_endsYear_187 : decode cX12_endsYear 187 = .ok (.return_, 1) := by decide +kernel
theorem dX12_passes_0 : decode cX12_passes 0 = .ok (.aload_n 1, 1) := by decide +kernel
theorem dX12_passes_1 : decode cX12_passes 1 = .ok (.bipush 25, 2) := by decide +kernel
theorem dX12_passes_3 : decode cX12_passes 3 = .ok (.iaload, 1) := by decide +kernel
theorem dX12_passes_4 : decode cX12_passes 4 = .ok (.istore_n 2, 1) := by decide +kernel
theorem dX12_passes_5 : decode cX12_passes 5 = .ok (.aload_n 0, 1) := by decide +kernel
theorem dX12_passes_6 : decode cX12_passes 6 = .ok (.aload_n 1, 1) := by decide +kernel
theorem dX12_passes_7 : decode cX12_passes 7 = .ok (.iload_n 2, 1) := by decide +kernel
theorem dX12_passes_8 : decode cX12_passes 8 = .ok (.invokevirtual 365, 3) := by decide +kernel
theorem dX12_passes_11 : decode cX12_passes 11 = .ok (.istore_n 3, 1) := by decide +kernel
theorem dX12_passes_12 : decode cX12_passes 12 = .ok (.aload_n 1, 1) := by decide +kernel
theorem dX12_passes_13 : decode cX12_passes 13 = .ok (.bipush 26, 2) := by decide +kernel
theorem dX12_passes_15 : decode cX12_passes 15 = .ok (.iload_n 2, 1) := by decide +kernel
theorem dX12_passes_16 : decode cX12_passes 16 = .ok (.iadd, 1) := by decide +kernel
theorem dX12_passes_17 : decode cX12_passes 17 = .ok (.iload_n 3, 1) := by decide +kernel
theorem dX12_passes_18 : decode cX12_passes 18 = .ok (.iastore, 1) := by decide +kernel
theorem dX12_passes_19 : decode cX12_passes 19 = .ok (.iconst 0, 1) := by decide +kernel
theorem dX12_passes_20 : decode cX12_passes 20 = .ok (.istore 4, 2) := by decide +kernel
theorem dX12_passes_22 : decode cX12_passes 22 = .ok (.iload 4, 2) := by decide +kernel
theorem dX12_passes_24 : decode cX12_passes 24 = .ok (.bipush 6, 2) := by decide +kernel
theorem dX12_passes_26 : decode cX12_passes 26 = .ok (.if_icmp .ge 22, 3) := by decide +kernel
theorem dX12_passes_29 : decode cX12_passes 29 = .ok (.aload_n 1, 1) := by decide +kernel
theorem dX12_passes_30 : decode cX12_passes 30 = .ok (.bipush 56, 2) := by decide +kernel
theorem dX12_passes_32 : decode cX12_passes 32 = .ok (.bipush 6, 2) := by decide +kernel
theorem dX12_passes_34 : decode cX12_passes 34 = .ok (.iload_n 2, 1) := by decide +kernel
theorem dX12_passes_35 : decode cX12_passes 35 = .ok (.imul, 1) := by decide +kernel
theorem dX12_passes_36 : decode cX12_passes 36 = .ok (.iadd, 1) := by decide +kernel
theorem dX12_passes_37 : decode cX12_passes 37 = .ok (.iload 4, 2) := by decide +kernel
theorem dX12_passes_39 : decode cX12_passes 39 = .ok (.iadd, 1) := by decide +kernel
theorem dX12_passes_40 : decode cX12_passes 40 = .ok (.iconst 0, 1) := by decide +kernel
theorem dX12_passes_41 : decode cX12_passes 41 = .ok (.iastore, 1) := by decide +kernel
theorem dX12_passes_42 : decode cX12_passes 42 = .ok (.iinc 4 1, 3) := by decide +kernel
theorem dX12_passes_45 : decode cX12_passes 45 = .ok (.goto (-23), 3) := by decide +kernel
theorem dX12_passes_48 : decode cX12_passes 48 = .ok (.iconst 0, 1) := by decide +kernel
theorem dX12_passes_49 : decode cX12_passes 49 = .ok (.istore 4, 2) := by decide +kernel
theorem dX12_passes_51 : decode cX12_passes 51 = .ok (.iload 4, 2) := by decide +kernel
theorem dX12_passes_53 : decode cX12_passes 53 = .ok (.aload_n 0, 1) := by decide +kernel
theorem dX12_passes_54 : decode cX12_passes 54 = .ok (.getfield 307, 3) := by decide +kernel
theorem dX12_passes_57 : decode cX12_passes 57 = .ok (.if_icmp .ge 126, 3) := by decide +kernel
theorem dX12_passes_60 : decode cX12_passes 60 = .ok (.aload_n 1, 1) := by decide +kernel
theorem dX12_passes_61 : decode cX12_passes 61 = .ok (.bipush 18, 2) := by decide +kernel
theorem dX12_passes_63 : decode cX12_passes 63 = .ok (.iaload, 1) := by decide +kernel
theorem dX12_passes_64 : decode cX12_passes 64 = .ok (.iload 4, 2) := by decide +kernel
theorem dX12_passes_66 : decode cX12_passes 66 = .ok (.invokestatic 242, 3) := by decide +kernel
theorem dX12_passes_69 : decode cX12_passes 69 = .ok (.ifCond .eq 6, 3) := by decide +kernel
theorem dX12_passes_72 : decode cX12_passes 72 = .ok (.goto 105, 3) := by decide +kernel
theorem dX12_passes_75 : decode cX12_passes 75 = .ok (.aload_n 1, 1) := by decide +kernel
theorem dX12_passes_76 : decode cX12_passes 76 = .ok (.iload 4, 2) := by decide +kernel
theorem dX12_passes_78 : decode cX12_passes 78 = .ok (.iaload, 1) := by decide +kernel
theorem dX12_passes_79 : decode cX12_passes 79 = .ok (.istore 5, 2) := by decide +kernel
theorem dX12_passes_81 : decode cX12_passes 81 = .ok (.aload_n 1, 1) := by decide +kernel
theorem dX12_passes_82 : decode cX12_passes 82 = .ok (.bipush 56, 2) := by decide +kernel
theorem dX12_passes_84 : decode cX12_passes 84 = .ok (.bipush 6, 2) := by decide +kernel
theorem dX12_passes_86 : decode cX12_passes 86 = .ok (.iload_n 2, 1) := by decide +kernel
theorem dX12_passes_87 : decode cX12_passes 87 = .ok (.imul, 1) := by decide +kernel
theorem dX12_passes_88 : decode cX12_passes 88 = .ok (.iadd, 1) := by decide +kernel
theorem dX12_passes_89 : decode cX12_passes 89 = .ok (.iload 5, 2) := by decide +kernel
theorem dX12_passes_91 : decode cX12_passes 91 = .ok (.iadd, 1) := by decide +kernel
theorem dX12_passes_92 : decode cX12_passes 92 = .ok (.dup2, 1) := by decide +kernel
theorem dX12_passes_93 : decode cX12_passes 93 = .ok (.iaload, 1) := by decide +kernel
theorem dX12_passes_94 : decode cX12_passes 94 = .ok (.iconst 1, 1) := by decide +kernel
theorem dX12_passes_95 : decode cX12_passes 95 = .ok (.iload 4, 2) := by decide +kernel
theorem dX12_passes_97 : decode cX12_passes 97 = .ok (.ishl, 1) := by decide +kernel
theorem dX12_passes_98 : decode cX12_passes 98 = .ok (.ior, 1) := by decide +kernel
theorem dX12_passes_99 : decode cX12_passes 99 = .ok (.iastore, 1) := by decide +kernel
theorem dX12_passes_100 : decode cX12_passes 100 = .ok (.iload_n 3, 1) := by decide +kernel
theorem dX12_passes_101 : decode cX12_passes 101 = .ok (.aload_n 0, 1) := by decide +kernel
theorem dX12_passes_102 : decode cX12_passes 102 = .ok (.getfield 43, 3) := by decide +kernel
theorem dX12_passes_105 : decode cX12_passes 105 = .ok (.iconst 2, 1) := by decide +kernel
theorem dX12_passes_106 : decode cX12_passes 106 = .ok (.iload 5, 2) := by decide +kernel
theorem dX12_passes_108 : decode cX12_passes 108 = .ok (.imul, 1) := by decide +kernel
theorem dX12_passes_109 : decode cX12_passes 109 = .ok (.iconst 1, 1) := by decide +kernel
theorem dX12_passes_110 : decode cX12_passes 110 = .ok (.iadd, 1) := by decide +kernel
theorem dX12_passes_111 : decode cX12_passes 111 = .ok (.iaload, 1) := by decide +kernel
theorem dX12_passes_112 : decode cX12_passes 112 = .ok (.if_icmp .ge 6, 3) := by decide +kernel
theorem dX12_passes_115 : decode cX12_passes 115 = .ok (.goto 62, 3) := by decide +kernel
theorem dX12_passes_118 : decode cX12_passes 118 = .ok (.aload_n 0, 1) := by decide +kernel
theorem dX12_passes_119 : decode cX12_passes 119 = .ok (.getfield 43, 3) := by decide +kernel
theorem dX12_passes_122 : decode cX12_passes 122 = .ok (.iconst 2, 1) := by decide +kernel
theorem dX12_passes_123 : decode cX12_passes 123 = .ok (.iload 5, 2) := by decide +kernel
theorem dX12_passes_125 : decode cX12_passes 125 = .ok (.imul, 1) := by decide +kernel
theorem dX12_passes_126 : decode cX12_passes 126 = .ok (.iaload, 1) := by decide +kernel
theorem dX12_passes_127 : decode cX12_passes 127 = .ok (.aload_n 1, 1) := by decide +kernel
theorem dX12_passes_128 : decode cX12_passes 128 = .ok (.bipush 12, 2) := by decide +kernel
theorem dX12_passes_130 : decode cX12_passes 130 = .ok (.iload 5, 2) := by decide +kernel
theorem dX12_passes_132 : decode cX12_passes 132 = .ok (.iadd, 1) := by decide +kernel
theorem dX12_passes_133 : decode cX12_passes 133 = .ok (.iaload, 1) := by decide +kernel
theorem dX12_passes_134 : decode cX12_passes 134 = .ok (.iadd, 1) := by decide +kernel
theorem dX12_passes_135 : decode cX12_passes 135 = .ok (.istore 6, 2) := by decide +kernel
theorem dX12_passes_137 : decode cX12_passes 137 = .ok (.aload_n 1, 1) := by decide +kernel
theorem dX12_passes_138 : decode cX12_passes 138 = .ok (.bipush 6, 2) := by decide +kernel
theorem dX12_passes_140 : decode cX12_passes 140 = .ok (.iload 4, 2) := by decide +kernel
theorem dX12_passes_142 : decode cX12_passes 142 = .ok (.iadd, 1) := by decide +kernel
theorem dX12_passes_143 : decode cX12_passes 143 = .ok (.sipush 9999, 3) := by decide +kernel
theorem dX12_passes_146 : decode cX12_passes 146 = .ok (.aload_n 1, 1) := by decide +kernel
theorem dX12_passes_147 : decode cX12_passes 147 = .ok (.bipush 6, 2) := by decide +kernel
theorem dX12_passes_149 : decode cX12_passes 149 = .ok (.iload 4, 2) := by decide +kernel
theorem dX12_passes_151 : decode cX12_passes 151 = .ok (.iadd, 1) := by decide +kernel
theorem dX12_passes_152 : decode cX12_passes 152 = .ok (.iaload, 1) := by decide +kernel
theorem dX12_passes_153 : decode cX12_passes 153 = .ok (.iload 6, 2) := by decide +kernel
theorem dX12_passes_155 : decode cX12_passes 155 = .ok (.iadd, 1) := by decide +kernel
theorem dX12_passes_156 : decode cX12_passes 156 = .ok (.invokestatic 351, 3) := by decide +kernel
theorem dX12_passes_159 : decode cX12_passes 159 = .ok (.iastore, 1) := by decide +kernel
theorem dX12_passes_160 : decode cX12_passes 160 = .ok (.aload_n 1, 1) := by decide +kernel
theorem dX12_passes_161 : decode cX12_passes 161 = .ok (.bipush 22, 2) := by decide +kernel
theorem dX12_passes_163 : decode cX12_passes 163 = .ok (.sipush 999, 3) := by decide +kernel
theorem dX12_passes_166 : decode cX12_passes 166 = .ok (.aload_n 1, 1) := by decide +kernel
theorem dX12_passes_167 : decode cX12_passes 167 = .ok (.bipush 22, 2) := by decide +kernel
theorem dX12_passes_169 : decode cX12_passes 169 = .ok (.iaload, 1) := by decide +kernel
theorem dX12_passes_170 : decode cX12_passes 170 = .ok (.iload 6, 2) := by decide +kernel
theorem dX12_passes_172 : decode cX12_passes 172 = .ok (.iadd, 1) := by decide +kernel
theorem dX12_passes_173 : decode cX12_passes 173 = .ok (.invokestatic 351, 3) := by decide +kernel
theorem dX12_passes_176 : decode cX12_passes 176 = .ok (.iastore, 1) := by decide +kernel
theorem dX12_passes_177 : decode cX12_passes 177 = .ok (.iinc 4 1, 3) := by decide +kernel
theorem dX12_passes_180 : decode cX12_passes 180 = .ok (.goto (-129), 3) := by decide +kernel
theorem dX12_passes_183 : decode cX12_passes 183 = .ok (.aload_n 1, 1) := by decide +kernel
theorem dX12_passes_184 : decode cX12_passes 184 = .ok (.bipush 20, 2) := by decide +kernel
theorem dX12_passes_186 : decode cX12_passes 186 = .ok (.iconst 0, 1) := by decide +kernel
theorem dX12_passes_187 : decode cX12_passes 187 = .ok (.iastore, 1) := by decide +kernel
theorem dX12_passes_188 : decode cX12_passes 188 = .ok (.aload_n 1, 1) := by decide +kernel
theorem dX12_passes_189 : decode cX12_passes 189 = .ok (.bipush 21, 2) := by decide +kernel
theorem dX12_passes_191 : decode cX12_passes 191 = .ok (.iconst 0, 1) := by decide +kernel
theorem dX12_passes_192 : decode cX12_passes 192 = .ok (.iastore, 1) := by decide +kernel
theorem dX12_passes_193 : decode cX12_passes 193 = .ok (.aload_n 1, 1) := by decide +kernel
theorem dX12_passes_194 : decode cX12_passes 194 = .ok (.bipush 25, 2) := by decide +kernel
theorem dX12_passes_196 : decode cX12_passes 196 = .ok (.dup2, 1) := by decide +kernel
theorem dX12_passes_197 : decode cX12_passes 197 = .ok (.iaload, 1) := by decide +kernel
theorem dX12_passes_198 : decode cX12_passes 198 = .ok (.iconst 1, 1) := by decide +kernel
theorem dX12_passes_199 : decode cX12_passes 199 = .ok (.iadd, 1) := by decide +kernel
theorem dX12_passes_200 : decode cX12_passes 200 = .ok (.iastore, 1) := by decide +kernel
theorem dX12_passes_201 : decode cX12_passes 201 = .ok (.aload_n 1, 1) := by decide +kernel
theorem dX12_passes_202 : decode cX12_passes 202 = .ok (.bipush 25, 2) := by decide +kernel
theorem dX12_passes_204 : decode cX12_passes 204 = .ok (.iaload, 1) := by decide +kernel
theorem dX12_passes_205 : decode cX12_passes 205 = .ok (.aload_n 0, 1) := by decide +kernel
theorem dX12_passes_206 : decode cX12_passes 206 = .ok (.getfield 37, 3) := by decide +kernel
theorem dX12_passes_209 : decode cX12_passes 209 = .ok (.iconst 0, 1) := by decide +kernel
theorem dX12_passes_210 : decode cX12_passes 210 = .ok (.iaload, 1) := by decide +kernel
theorem dX12_passes_211 : decode cX12_passes 211 = .ok (.if_icmp .ne 8, 3) := by decide +kernel
theorem dX12_passes_214 : decode cX12_passes 214 = .ok (.aload_n 0, 1) := by decide +kernel
theorem dX12_passes_215 : decode cX12_passes 215 = .ok (.aload_n 1, 1) := by decide +kernel
theorem dX12_passes_216 : decode cX12_passes 216 = .ok (.invokevirtual 369, 3) := by decide +kernel
theorem dX12_passes_219 : decode cX12_passes 219 = .ok (.iload_n 3, 1) := by decide +kernel
theorem dX12_passes_220 : decode cX12_passes 220 = .ok (.ireturn, 1) := by decide +kernel
theorem dX12_canPass_0 : decode cX12_canPass 0 = .ok (.aload_n 1, 1) := by decide +kernel
theorem dX12_canPass_1 : decode cX12_canPass 1 = .ok (.bipush 24, 2) := by decide +kernel
theorem dX12_canPass_3 : decode cX12_canPass 3 = .ok (.iaload, 1) := by decide +kernel
theorem dX12_canPass_4 : decode cX12_canPass 4 = .ok (.sipush 999, 3) := by decide +kernel
theorem dX12_canPass_7 : decode cX12_canPass 7 = .ok (.if_icmp .lt 18, 3) := by decide +kernel
theorem dX12_canPass_10 : decode cX12_canPass 10 = .ok (.aload_n 1, 1) := by decide +kernel
theorem dX12_canPass_11 : decode cX12_canPass 11 = .ok (.bipush 25, 2) := by decide +kernel
theorem dX12_canPass_13 : decode cX12_canPass 13 = .ok (.iaload, 1) := by decide +kernel
theorem dX12_canPass_14 : decode cX12_canPass 14 = .ok (.aload_n 0, 1) := by decide +kernel
theorem dX12_canPass_15 : decode cX12_canPass 15 = .ok (.getfield 37, 3) := by decide +kernel
theorem dX12_canPass_18 : decode cX12_canPass 18 = .ok (.iconst 0, 1) := by decide +kernel
theorem dX12_canPass_19 : decode cX12_canPass 19 = .ok (.iaload, 1) := by decide +kernel
theorem dX12_canPass_20 : decode cX12_canPass 20 = .ok (.iconst 1, 1) := by decide +kernel
theorem dX12_canPass_21 : decode cX12_canPass 21 = .ok (.isub, 1) := by decide +kernel
theorem dX12_canPass_22 : decode cX12_canPass 22 = .ok (.if_icmp .ge 7, 3) := by decide +kernel
theorem dX12_canPass_25 : decode cX12_canPass 25 = .ok (.iconst 1, 1) := by decide +kernel
theorem dX12_canPass_26 : decode cX12_canPass 26 = .ok (.goto 4, 3) := by decide +kernel
theorem dX12_canPass_29 : decode cX12_canPass 29 = .ok (.iconst 0, 1) := by decide +kernel
theorem dX12_canPass_30 : decode cX12_canPass 30 = .ok (.ireturn, 1) := by decide +kernel
theorem dX12_goNow_0 : decode cX12_goNow 0 = .ok (.aload_n 0, 1) := by decide +kernel
theorem dX12_goNow_1 : decode cX12_goNow 1 = .ok (.aload_n 0, 1) := by decide +kernel
theorem dX12_goNow_2 : decode cX12_goNow 2 = .ok (.getfield 61, 3) := by decide +kernel
theorem dX12_goNow_5 : decode cX12_goNow 5 = .ok (.invokevirtual 372, 3) := by decide +kernel
theorem dX12_goNow_8 : decode cX12_goNow 8 = .ok (.istore_n 1, 1) := by decide +kernel
theorem dX12_goNow_9 : decode cX12_goNow 9 = .ok (.aload_n 0, 1) := by decide +kernel
theorem dX12_goNow_10 : decode cX12_goNow 10 = .ok (.getfield 61, 3) := by decide +kernel
theorem dX12_goNow_13 : decode cX12_goNow 13 = .ok (.bipush 25, 2) := by decide +kernel
theorem dX12_goNow_15 : decode cX12_goNow 15 = .ok (.iaload, 1) := by decide +kernel
theorem dX12_goNow_16 : decode cX12_goNow 16 = .ok (.ifCond .le 5, 3) := by decide +kernel
theorem dX12_goNow_19 : decode cX12_goNow 19 = .ok (.iload_n 1, 1) := by decide +kernel
theorem dX12_goNow_20 : decode cX12_goNow 20 = .ok (.ireturn, 1) := by decide +kernel
theorem dX12_goNow_21 : decode cX12_goNow 21 = .ok (.aload_n 0, 1) := by decide +kernel
theorem dX12_goNow_22 : decode cX12_goNow 22 = .ok (.getfield 61, 3) := by decide +kernel
theorem dX12_goNow_25 : decode cX12_goNow 25 = .ok (.sipush 236, 3) := by decide +kernel
theorem dX12_goNow_28 : decode cX12_goNow 28 = .ok (.iaload, 1) := by decide +kernel
theorem dX12_goNow_29 : decode cX12_goNow 29 = .ok (.bipush 60, 2) := by decide +kernel
theorem dX12_goNow_31 : decode cX12_goNow 31 = .ok (.if_icmp .ne 52, 3) := by decide +kernel
theorem dX12_goNow_34 : decode cX12_goNow 34 = .ok (.iconst 1, 1) := by decide +kernel
theorem dX12_goNow_35 : decode cX12_goNow 35 = .ok (.istore_n 2, 1) := by decide +kernel
theorem dX12_goNow_36 : decode cX12_goNow 36 = .ok (.iload_n 2, 1) := by decide +kernel
theorem dX12_goNow_37 : decode cX12_goNow 37 = .ok (.sipush 177, 3) := by decide +kernel
theorem dX12_goNow_40 : decode cX12_goNow 40 = .ok (.if_icmp .gt 31, 3) := by decide +kernel
theorem dX12_goNow_43 : decode cX12_goNow 43 = .ok (.aload_n 0, 1) := by decide +kernel
theorem dX12_goNow_44 : decode cX12_goNow 44 = .ok (.getfield 61, 3) := by decide +kernel
theorem dX12_goNow_47 : decode cX12_goNow 47 = .ok (.sipush 236, 3) := by decide +kernel
theorem dX12_goNow_50 : decode cX12_goNow 50 = .ok (.iload_n 2, 1) := by decide +kernel
theorem dX12_goNow_51 : decode cX12_goNow 51 = .ok (.iadd, 1) := by decide +kernel
theorem dX12_goNow_52 : decode cX12_goNow 52 = .ok (.aload_n 0, 1) := by decide +kernel
theorem dX12_goNow_53 : decode cX12_goNow 53 = .ok (.getfield 61, 3) := by decide +kernel
theorem dX12_goNow_56 : decode cX12_goNow 56 = .ok (.sipush 236, 3) := by decide +kernel
theorem dX12_goNow_59 : decode cX12_goNow 59 = .ok (.iload_n 2, 1) := by decide +kernel
theorem dX12_goNow_60 : decode cX12_goNow 60 = .ok (.iadd, 1) := by decide +kernel
theorem dX12_goNow_61 : decode cX12_goNow 61 = .ok (.iconst 3, 1) := by decide +kernel
theorem dX12_goNow_62 : decode cX12_goNow 62 = .ok (.iadd, 1) := by decide +kernel
theorem dX12_goNow_63 : decode cX12_goNow 63 = .ok (.iaload, 1) := by decide +kernel
theorem dX12_goNow_64 : decode cX12_goNow 64 = .ok (.iastore, 1) := by decide +kernel
theorem dX12_goNow_65 : decode cX12_goNow 65 = .ok (.iinc 2 1, 3) := by decide +kernel
theorem dX12_goNow_68 : decode cX12_goNow 68 = .ok (.goto (-32), 3) := by decide +kernel
theorem dX12_goNow_71 : decode cX12_goNow 71 = .ok (.aload_n 0, 1) := by decide +kernel
theorem dX12_goNow_72 : decode cX12_goNow 72 = .ok (.getfield 61, 3) := by decide +kernel
theorem dX12_goNow_75 : decode cX12_goNow 75 = .ok (.sipush 236, 3) := by decide +kernel
theorem dX12_goNow_78 : decode cX12_goNow 78 = .ok (.dup2, 1) := by decide +kernel
theorem dX12_goNow_79 : decode cX12_goNow 79 = .ok (.iaload, 1) := by decide +kernel
theorem dX12_goNow_80 : decode cX12_goNow 80 = .ok (.iconst 1, 1) := by decide +kernel
theorem dX12_goNow_81 : decode cX12_goNow 81 = .ok (.isub, 1) := by decide +kernel
theorem dX12_goNow_82 : decode cX12_goNow 82 = .ok (.iastore, 1) := by decide +kernel
theorem dX12_goNow_83 : decode cX12_goNow 83 = .ok (.sipush 237, 3) := by decide +kernel
theorem dX12_goNow_86 : decode cX12_goNow 86 = .ok (.iconst 3, 1) := by decide +kernel
theorem dX12_goNow_87 : decode cX12_goNow 87 = .ok (.aload_n 0, 1) := by decide +kernel
theorem dX12_goNow_88 : decode cX12_goNow 88 = .ok (.getfield 61, 3) := by decide +kernel
theorem dX12_goNow_91 : decode cX12_goNow 91 = .ok (.sipush 236, 3) := by decide +kernel
theorem dX12_goNow_94 : decode cX12_goNow 94 = .ok (.iaload, 1) := by decide +kernel
theorem dX12_goNow_95 : decode cX12_goNow 95 = .ok (.imul, 1) := by decide +kernel
theorem dX12_goNow_96 : decode cX12_goNow 96 = .ok (.iadd, 1) := by decide +kernel
theorem dX12_goNow_97 : decode cX12_goNow 97 = .ok (.istore_n 2, 1) := by decide +kernel
theorem dX12_goNow_98 : decode cX12_goNow 98 = .ok (.aload_n 0, 1) := by decide +kernel
theorem dX12_goNow_99 : decode cX12_goNow 99 = .ok (.getfield 61, 3) := by decide +kernel
theorem dX12_goNow_102 : decode cX12_goNow 102 = .ok (.iload_n 2, 1) := by decide +kernel
theorem dX12_goNow_103 : decode cX12_goNow 103 = .ok (.aload_n 0, 1) := by decide +kernel
theorem dX12_goNow_104 : decode cX12_goNow 104 = .ok (.getfield 362, 3) := by decide +kernel
theorem dX12_goNow_107 : decode cX12_goNow 107 = .ok (.iastore, 1) := by decide +kernel
theorem dX12_goNow_108 : decode cX12_goNow 108 = .ok (.aload_n 0, 1) := by decide +kernel
theorem dX12_goNow_109 : decode cX12_goNow 109 = .ok (.getfield 61, 3) := by decide +kernel
theorem dX12_goNow_112 : decode cX12_goNow 112 = .ok (.iload_n 2, 1) := by decide +kernel
theorem dX12_goNow_113 : decode cX12_goNow 113 = .ok (.iconst 1, 1) := by decide +kernel
theorem dX12_goNow_114 : decode cX12_goNow 114 = .ok (.iadd, 1) := by decide +kernel
theorem dX12_goNow_115 : decode cX12_goNow 115 = .ok (.aload_n 0, 1) := by decide +kernel
theorem dX12_goNow_116 : decode cX12_goNow 116 = .ok (.getfield 61, 3) := by decide +kernel
theorem dX12_goNow_119 : decode cX12_goNow 119 = .ok (.bipush 26, 2) := by decide +kernel
theorem dX12_goNow_121 : decode cX12_goNow 121 = .ok (.aload_n 0, 1) := by decide +kernel
theorem dX12_goNow_122 : decode cX12_goNow 122 = .ok (.getfield 362, 3) := by decide +kernel
theorem dX12_goNow_125 : decode cX12_goNow 125 = .ok (.iadd, 1) := by decide +kernel
theorem dX12_goNow_126 : decode cX12_goNow 126 = .ok (.iaload, 1) := by decide +kernel
theorem dX12_goNow_127 : decode cX12_goNow 127 = .ok (.iastore, 1) := by decide +kernel
theorem dX12_goNow_128 : decode cX12_goNow 128 = .ok (.aload_n 0, 1) := by decide +kernel
theorem dX12_goNow_129 : decode cX12_goNow 129 = .ok (.getfield 61, 3) := by decide +kernel
theorem dX12_goNow_132 : decode cX12_goNow 132 = .ok (.iload_n 2, 1) := by decide +kernel
theorem dX12_goNow_133 : decode cX12_goNow 133 = .ok (.iconst 2, 1) := by decide +kernel
theorem dX12_goNow_134 : decode cX12_goNow 134 = .ok (.iadd, 1) := by decide +kernel
theorem dX12_goNow_135 : decode cX12_goNow 135 = .ok (.aload_n 0, 1) := by decide +kernel
theorem dX12_goNow_136 : decode cX12_goNow 136 = .ok (.getfield 61, 3) := by decide +kernel
theorem dX12_goNow_139 : decode cX12_goNow 139 = .ok (.bipush 23, 2) := by decide +kernel
theorem dX12_goNow_141 : decode cX12_goNow 141 = .ok (.iaload, 1) := by decide +kernel
theorem dX12_goNow_142 : decode cX12_goNow 142 = .ok (.iastore, 1) := by decide +kernel
theorem dX12_goNow_143 : decode cX12_goNow 143 = .ok (.aload_n 0, 1) := by decide +kernel
theorem dX12_goNow_144 : decode cX12_goNow 144 = .ok (.getfield 61, 3) := by decide +kernel
theorem dX12_goNow_147 : decode cX12_goNow 147 = .ok (.sipush 236, 3) := by decide +kernel
theorem dX12_goNow_150 : decode cX12_goNow 150 = .ok (.dup2, 1) := by decide +kernel
theorem dX12_goNow_151 : decode cX12_goNow 151 = .ok (.iaload, 1) := by decide +kernel
theorem dX12_goNow_152 : decode cX12_goNow 152 = .ok (.iconst 1, 1) := by decide +kernel
theorem dX12_goNow_153 : decode cX12_goNow 153 = .ok (.iadd, 1) := by decide +kernel
theorem dX12_goNow_154 : decode cX12_goNow 154 = .ok (.iastore, 1) := by decide +kernel
theorem dX12_goNow_155 : decode cX12_goNow 155 = .ok (.iload_n 1, 1) := by decide +kernel
theorem dX12_goNow_156 : decode cX12_goNow 156 = .ok (.ireturn, 1) := by decide +kernel
theorem dX12_party_0 : decode cX12_party 0 = .ok (.iconst 0, 1) := by decide +kernel
theorem dX12_party_1 : decode cX12_party 1 = .ok (.istore_n 2, 1) := by decide +kernel
theorem dX12_party_2 : decode cX12_party 2 = .ok (.iconst 0, 1) := by decide +kernel
theorem dX12_party_3 : decode cX12_party 3 = .ok (.istore_n 3, 1) := by decide +kernel
theorem dX12_party_4 : decode cX12_party 4 = .ok (.iload_n 3, 1) := by decide +kernel
theorem dX12_party_5 : decode cX12_party 5 = .ok (.aload_n 0, 1) := by decide +kernel
theorem dX12_party_6 : decode cX12_party 6 = .ok (.getfield 307, 3) := by decide +kernel
theorem dX12_party_9 : decode cX12_party 9 = .ok (.if_icmp .ge 29, 3) := by decide +kernel
theorem dX12_party_12 : decode cX12_party 12 = .ok (.iload_n 2, 1) := by decide +kernel
theorem dX12_party_13 : decode cX12_party 13 = .ok (.aload_n 0, 1) := by decide +kernel
theorem dX12_party_14 : decode cX12_party 14 = .ok (.getfield 61, 3) := by decide +kernel
theorem dX12_party_17 : decode cX12_party 17 = .ok (.iload_n 3, 1) := by decide +kernel
theorem dX12_party_18 : decode cX12_party 18 = .ok (.iaload, 1) := by decide +kernel
theorem dX12_party_19 : decode cX12_party 19 = .ok (.iload_n 1, 1) := by decide +kernel
theorem dX12_party_20 : decode cX12_party 20 = .ok (.if_icmp .ne 9, 3) := by decide +kernel
theorem dX12_party_23 : decode cX12_party 23 = .ok (.iconst 1, 1) := by decide +kernel
theorem dX12_party_24 : decode cX12_party 24 = .ok (.iload_n 3, 1) := by decide +kernel
theorem dX12_party_25 : decode cX12_party 25 = .ok (.ishl, 1) := by decide +kernel
theorem dX12_party_26 : decode cX12_party 26 = .ok (.goto 4, 3) := by decide +kernel
theorem dX12_party_29 : decode cX12_party 29 = .ok (.iconst 0, 1) := by decide +kernel
theorem dX12_party_30 : decode cX12_party 30 = .ok (.ior, 1) := by decide +kernel
theorem dX12_party_31 : decode cX12_party 31 = .ok (.istore_n 2, 1) := by decide +kernel
theorem dX12_party_32 : decode cX12_party 32 = .ok (.iinc 3 1, 3) := by decide +kernel
theorem dX12_party_35 : decode cX12_party 35 = .ok (.goto (-31), 3) := by decide +kernel
theorem dX12_party_38 : decode cX12_party 38 = .ok (.iload_n 2, 1) := by decide +kernel
theorem dX12_party_39 : decode cX12_party 39 = .ok (.ireturn, 1) := by decide +kernel
theorem dX12_kind_0 : decode cX12_kind 0 = .ok (.aload_n 0, 1) := by decide +kernel
theorem dX12_kind_1 : decode cX12_kind 1 = .ok (.iconst 0, 1) := by decide +kernel
theorem dX12_kind_2 : decode cX12_kind 2 = .ok (.putfield 109, 3) := by decide +kernel
theorem dX12_kind_5 : decode cX12_kind 5 = .ok (.aload_n 0, 1) := by decide +kernel
theorem dX12_kind_6 : decode cX12_kind 6 = .ok (.iload_n 1, 1) := by decide +kernel
theorem dX12_kind_7 : decode cX12_kind 7 = .ok (.invokevirtual 375, 3) := by decide +kernel
theorem dX12_kind_10 : decode cX12_kind 10 = .ok (.ifCond .eq 15, 3) := by decide +kernel
theorem dX12_kind_13 : decode cX12_kind 13 = .ok (.iload_n 2, 1) := by decide +kernel
theorem dX12_kind_14 : decode cX12_kind 14 = .ok (.i2l, 1) := by decide +kernel
theorem dX12_kind_15 : decode cX12_kind 15 = .ok (.lconst 0, 1) := by decide +kernel
theorem dX12_kind_16 : decode cX12_kind 16 = .ok (.ldc2_w 378, 3) := by decide +kernel
theorem dX12_kind_19 : decode cX12_kind 19 = .ok (.invokestatic 230, 3) := by decide +kernel
theorem dX12_kind_22 : decode cX12_kind 22 = .ok (.ifCond .ne 7, 3) := by decide +kernel
theorem dX12_kind_25 : decode cX12_kind 25 = .ok (.ldc_w 380, 3) := by decide +kernel
theorem dX12_kind_28 : decode cX12_kind 28 = .ok (.ireturn, 1) := by decide +kernel
theorem dX12_kind_29 : decode cX12_kind 29 = .ok (.iload_n 2, 1) := by decide +kernel
theorem dX12_kind_30 : decode cX12_kind 30 = .ok (.iconst 2, 1) := by decide +kernel
theorem dX12_kind_31 : decode cX12_kind 31 = .ok (.if_icmp .ge 16, 3) := by decide +kernel
theorem dX12_kind_34 : decode cX12_kind 34 = .ok (.aload_n 0, 1) := by decide +kernel
theorem dX12_kind_35 : decode cX12_kind 35 = .ok (.getfield 43, 3) := by decide +kernel
theorem dX12_kind_38 : decode cX12_kind 38 = .ok (.iconst 2, 1) := by decide +kernel
theorem dX12_kind_39 : decode cX12_kind 39 = .ok (.iload_n 1, 1) := by decide +kernel
theorem dX12_kind_40 : decode cX12_kind 40 = .ok (.imul, 1) := by decide +kernel
theorem dX12_kind_41 : decode cX12_kind 41 = .ok (.iload_n 2, 1) := by decide +kernel
theorem dX12_kind_42 : decode cX12_kind 42 = .ok (.iadd, 1) := by decide +kernel
theorem dX12_kind_43 : decode cX12_kind 43 = .ok (.iaload, 1) := by decide +kernel
theorem dX12_kind_44 : decode cX12_kind 44 = .ok (.goto 25, 3) := by decide +kernel
theorem dX12_kind_47 : decode cX12_kind 47 = .ok (.iload_n 2, 1) := by decide +kernel
theorem dX12_kind_48 : decode cX12_kind 48 = .ok (.iconst 2, 1) := by decide +kernel
theorem dX12_kind_49 : decode cX12_kind 49 = .ok (.if_icmp .ne 15, 3) := by decide +kernel
theorem dX12_kind_52 : decode cX12_kind 52 = .ok (.aload_n 0, 1) := by decide +kernel
theorem dX12_kind_53 : decode cX12_kind 53 = .ok (.getfield 61, 3) := by decide +kernel
theorem dX12_kind_56 : decode cX12_kind 56 = .ok (.bipush 12, 2) := by decide +kernel
theorem dX12_kind_58 : decode cX12_kind 58 = .ok (.iload_n 1, 1) := by decide +kernel
theorem dX12_kind_59 : decode cX12_kind 59 = .ok (.iadd, 1) := by decide +kernel
theorem dX12_kind_60 : decode cX12_kind 60 = .ok (.iaload, 1) := by decide +kernel
theorem dX12_kind_61 : decode cX12_kind 61 = .ok (.goto 8, 3) := by decide +kernel
theorem dX12_kind_64 : decode cX12_kind 64 = .ok (.aload_n 0, 1) := by decide +kernel
theorem dX12_kind_65 : decode cX12_kind 65 = .ok (.iload_n 1, 1) := by decide +kernel
theorem dX12_kind_66 : decode cX12_kind 66 = .ok (.invokevirtual 381, 3) := by decide +kernel
theorem dX12_kind_69 : decode cX12_kind 69 = .ok (.ireturn, 1) := by decide +kernel
theorem dX12_person_0 : decode cX12_person 0 = .ok (.aload_n 0, 1) := by decide +kernel
theorem dX12_person_1 : decode cX12_person 1 = .ok (.aload_n 0, 1) := by decide +kernel
theorem dX12_person_2 : decode cX12_person 2 = .ok (.iload_n 1, 1) := by decide +kernel
theorem dX12_person_3 : decode cX12_person 3 = .ok (.invokevirtual 384, 3) := by decide +kernel
theorem dX12_person_6 : decode cX12_person 6 = .ok (.ifCond .eq 19, 3) := by decide +kernel
theorem dX12_person_9 : decode cX12_person 9 = .ok (.iload_n 2, 1) := by decide +kernel
theorem dX12_person_10 : decode cX12_person 10 = .ok (.i2l, 1) := by decide +kernel
theorem dX12_person_11 : decode cX12_person 11 = .ok (.lconst 0, 1) := by decide +kernel
theorem dX12_person_12 : decode cX12_person 12 = .ok (.ldc2_w 378, 3) := by decide +kernel
theorem dX12_person_15 : decode cX12_person 15 = .ok (.invokestatic 230, 3) := by decide +kernel
theorem dX12_person_18 : decode cX12_person 18 = .ok (.ifCond .eq 7, 3) := by decide +kernel
theorem dX12_person_21 : decode cX12_person 21 = .ok (.iconst 0, 1) := by decide +kernel
theorem dX12_person_22 : decode cX12_person 22 = .ok (.goto 4, 3) := by decide +kernel
theorem dX12_person_25 : decode cX12_person 25 = .ok (.iconst 1, 1) := by decide +kernel
theorem dX12_person_26 : decode cX12_person 26 = .ok (.putfield 109, 3) := by decide +kernel
theorem dX12_person_29 : decode cX12_person 29 = .ok (.aload_n 0, 1) := by decide +kernel
theorem dX12_person_30 : decode cX12_person 30 = .ok (.getfield 109, 3) := by decide +kernel
theorem dX12_person_33 : decode cX12_person 33 = .ok (.ifCond .le 5, 3) := by decide +kernel
theorem dX12_person_36 : decode cX12_person 36 = .ok (.iconst 0, 1) := by decide +kernel
theorem dX12_person_37 : decode cX12_person 37 = .ok (.ireturn, 1) := by decide +kernel
theorem dX12_person_38 : decode cX12_person 38 = .ok (.iload_n 2, 1) := by decide +kernel
theorem dX12_person_39 : decode cX12_person 39 = .ok (.tableswitch 55 0 2 #[25, 32, 43], 25) := by decide +kernel
theorem dX12_person_64 : decode cX12_person 64 = .ok (.aload_n 0, 1) := by decide +kernel
theorem dX12_person_65 : decode cX12_person 65 = .ok (.getfield 61, 3) := by decide +kernel
theorem dX12_person_68 : decode cX12_person 68 = .ok (.iload_n 1, 1) := by decide +kernel
theorem dX12_person_69 : decode cX12_person 69 = .ok (.iaload, 1) := by decide +kernel
theorem dX12_person_70 : decode cX12_person 70 = .ok (.ireturn, 1) := by decide +kernel
theorem dX12_person_71 : decode cX12_person 71 = .ok (.aload_n 0, 1) := by decide +kernel
theorem dX12_person_72 : decode cX12_person 72 = .ok (.getfield 49, 3) := by decide +kernel
theorem dX12_person_75 : decode cX12_person 75 = .ok (.iconst 3, 1) := by decide +kernel
theorem dX12_person_76 : decode cX12_person 76 = .ok (.iload_n 1, 1) := by decide +kernel
theorem dX12_person_77 : decode cX12_person 77 = .ok (.imul, 1) := by decide +kernel
theorem dX12_person_78 : decode cX12_person 78 = .ok (.iconst 1, 1) := by decide +kernel
theorem dX12_person_79 : decode cX12_person 79 = .ok (.iadd, 1) := by decide +kernel
theorem dX12_person_80 : decode cX12_person 80 = .ok (.iaload, 1) := by decide +kernel
theorem dX12_person_81 : decode cX12_person 81 = .ok (.ireturn, 1) := by decide +kernel
theorem dX12_person_82 : decode cX12_person 82 = .ok (.aload_n 0, 1) := by decide +kernel
theorem dX12_person_83 : decode cX12_person 83 = .ok (.getfield 61, 3) := by decide +kernel
theorem dX12_person_86 : decode cX12_person 86 = .ok (.bipush 18, 2) := by decide +kernel
theorem dX12_person_88 : decode cX12_person 88 = .ok (.iaload, 1) := by decide +kernel
theorem dX12_person_89 : decode cX12_person 89 = .ok (.iload_n 1, 1) := by decide +kernel
theorem dX12_person_90 : decode cX12_person 90 = .ok (.ishr, 1) := by decide +kernel
theorem dX12_person_91 : decode cX12_person 91 = .ok (.iconst 1, 1) := by decide +kernel
theorem dX12_person_92 : decode cX12_person 92 = .ok (.iand, 1) := by decide +kernel
theorem dX12_person_93 : decode cX12_person 93 = .ok (.ireturn, 1) := by decide +kernel
theorem dX12_person_94 : decode cX12_person 94 = .ok (.aload_n 0, 1) := by decide +kernel
theorem dX12_person_95 : decode cX12_person 95 = .ok (.getfield 61, 3) := by decide +kernel
theorem dX12_person_98 : decode cX12_person 98 = .ok (.bipush 6, 2) := by decide +kernel
theorem dX12_person_100 : decode cX12_person 100 = .ok (.iload_n 1, 1) := by decide +kernel
theorem dX12_person_101 : decode cX12_person 101 = .ok (.iadd, 1) := by decide +kernel
theorem dX12_person_102 : decode cX12_person 102 = .ok (.iaload, 1) := by decide +kernel
theorem dX12_person_103 : decode cX12_person 103 = .ok (.ireturn, 1) := by decide +kernel
theorem dX12_law_0 : decode cX12_law 0 = .ok (.aload_n 0, 1) := by decide +kernel
theorem dX12_law_1 : decode cX12_law 1 = .ok (.iconst 0, 1) := by decide +kernel
theorem dX12_law_2 : decode cX12_law 2 = .ok (.putfield 109, 3) := by decide +kernel
theorem dX12_law_5 : decode cX12_law 5 = .ok (.iload_n 1, 1) := by decide +kernel
theorem dX12_law_6 : decode cX12_law 6 = .ok (.iconst (-1), 1) := by decide +kernel
theorem dX12_law_7 : decode cX12_law 7 = .ok (.if_icmp .eq 21, 3) := by decide +kernel
theorem dX12_law_10 : decode cX12_law 10 = .ok (.iload_n 1, 1) := by decide +kernel
theorem dX12_law_11 : decode cX12_law 11 = .ok (.i2l, 1) := by decide +kernel
theorem dX12_law_12 : decode cX12_law 12 = .ok (.lconst 0, 1) := by decide +kernel
theorem dX12_law_13 : decode cX12_law 13 = .ok (.aload_n 0, 1) := by decide +kernel
theorem dX12_law_14 : decode cX12_law 14 = .ok (.getfield 296, 3) := by decide +kernel
theorem dX12_law_17 : decode cX12_law 17 = .ok (.iconst 1, 1) := by decide +kernel
theorem dX12_law_18 : decode cX12_law 18 = .ok (.isub, 1) := by decide +kernel
theorem dX12_law_19 : decode cX12_law 19 = .ok (.i2l, 1) := by decide +kernel
theorem dX12_law_20 : decode cX12_law 20 = .ok (.invokestatic 230, 3) := by decide +kernel
theorem dX12_law_23 : decode cX12_law 23 = .ok (.ifCond .ne 5, 3) := by decide +kernel
theorem dX12_law_26 : decode cX12_law 26 = .ok (.iconst 0, 1) := by decide +kernel
theorem dX12_law_27 : decode cX12_law 27 = .ok (.ireturn, 1) := by decide +kernel
theorem dX12_law_28 : decode cX12_law 28 = .ok (.aload_n 0, 1) := by decide +kernel
theorem dX12_law_29 : decode cX12_law 29 = .ok (.iload_n 1, 1) := by decide +kernel
theorem dX12_law_30 : decode cX12_law 30 = .ok (.putfield 70, 3) := by decide +kernel
theorem dX12_law_33 : decode cX12_law 33 = .ok (.iconst 1, 1) := by decide +kernel
theorem dX12_law_34 : decode cX12_law 34 = .ok (.ireturn, 1) := by decide +kernel
theorem dX12_whim_0 : decode cX12_whim 0 = .ok (.aload_n 0, 1) := by decide +kernel
theorem dX12_whim_1 : decode cX12_whim 1 = .ok (.iconst 0, 1) := by decide +kernel
theorem dX12_whim_2 : decode cX12_whim 2 = .ok (.putfield 109, 3) := by decide +kernel
theorem dX12_whim_5 : decode cX12_whim 5 = .ok (.iload_n 1, 1) := by decide +kernel
theorem dX12_whim_6 : decode cX12_whim 6 = .ok (.i2l, 1) := by decide +kernel
theorem dX12_whim_7 : decode cX12_whim 7 = .ok (.lconst 0, 1) := by decide +kernel
theorem dX12_whim_8 : decode cX12_whim 8 = .ok (.ldc2_w 387, 3) := by decide +kernel
theorem dX12_whim_11 : decode cX12_whim 11 = .ok (.invokestatic 230, 3) := by decide +kernel
theorem dX12_whim_14 : decode cX12_whim 14 = .ok (.ifCond .eq 11, 3) := by decide +kernel
theorem dX12_whim_17 : decode cX12_whim 17 = .ok (.iload_n 1, 1) := by decide +kernel
theorem dX12_whim_18 : decode cX12_whim 18 = .ok (.aload_n 0, 1) := by decide +kernel
theorem dX12_whim_19 : decode cX12_whim 19 = .ok (.getfield 74, 3) := by decide +kernel
theorem dX12_whim_22 : decode cX12_whim 22 = .ok (.if_icmp .ne 5, 3) := by decide +kernel
theorem dX12_whim_25 : decode cX12_whim 25 = .ok (.iconst 0, 1) := by decide +kernel
theorem dX12_whim_26 : decode cX12_whim 26 = .ok (.ireturn, 1) := by decide +kernel
theorem dX12_whim_27 : decode cX12_whim 27 = .ok (.aload_n 0, 1) := by decide +kernel
theorem dX12_whim_28 : decode cX12_whim 28 = .ok (.iload_n 1, 1) := by decide +kernel
theorem dX12_whim_29 : decode cX12_whim 29 = .ok (.putfield 74, 3) := by decide +kernel
theorem dX12_whim_32 : decode cX12_whim 32 = .ok (.iconst 1, 1) := by decide +kernel
theorem dX12_whim_33 : decode cX12_whim 33 = .ok (.ireturn, 1) := by decide +kernel
theorem dX12_remember_0 : decode cX12_remember 0 = .ok (.aload_n 0, 1) := by decide +kernel
theorem dX12_remember_1 : decode cX12_remember 1 = .ok (.getfield 317, 3) := by decide +kernel
theorem dX12_remember_4 : decode cX12_remember 4 = .ok (.bipush 40, 2) := by decide +kernel
theorem dX12_remember_6 : decode cX12_remember 6 = .ok (.if_icmp .ne 44, 3) := by decide +kernel
theorem dX12_remember_9 : decode cX12_remember 9 = .ok (.iconst 0, 1) := by decide +kernel
theorem dX12_remember_10 : decode cX12_remember 10 = .ok (.istore_n 1, 1) := by decide +kernel
theorem dX12_remember_11 : decode cX12_remember 11 = .ok (.iload_n 1, 1) := by decide +kernel
theorem dX12_remember_12 : decode cX12_remember 12 = .ok (.sipush 16263, 3) := by decide +kernel
theorem dX12_remember_15 : decode cX12_remember 15 = .ok (.if_icmp .ge 25, 3) := by decide +kernel
theorem dX12_remember_18 : decode cX12_remember 18 = .ok (.aload_n 0, 1) := by decide +kernel
theorem dX12_remember_19 : decode cX12_remember 19 = .ok (.getfield 84, 3) := by decide +kernel
theorem dX12_remember_22 : decode cX12_remember 22 = .ok (.iload_n 1, 1) := by decide +kernel
theorem dX12_remember_23 : decode cX12_remember 23 = .ok (.aload_n 0, 1) := by decide +kernel
theorem dX12_remember_24 : decode cX12_remember 24 = .ok (.getfield 84, 3) := by decide +kernel
theorem dX12_remember_27 : decode cX12_remember 27 = .ok (.iload_n 1, 1) := by decide +kernel
theorem dX12_remember_28 : decode cX12_remember 28 = .ok (.sipush 417, 3) := by decide +kernel
theorem dX12_remember_31 : decode cX12_remember 31 = .ok (.iadd, 1) := by decide +kernel
theorem dX12_remember_32 : decode cX12_remember 32 = .ok (.iaload, 1) := by decide +kernel
theorem dX12_remember_33 : decode cX12_remember 33 = .ok (.iastore, 1) := by decide +kernel
theorem dX12_remember_34 : decode cX12_remember 34 = .ok (.iinc 1 1, 3) := by decide +kernel
theorem dX12_remember_37 : decode cX12_remember 37 = .ok (.goto (-26), 3) := by decide +kernel
theorem dX12_remember_40 : decode cX12_remember 40 = .ok (.aload_n 0, 1) := by decide +kernel
theorem dX12_remember_41 : decode cX12_remember 41 = .ok (.dup, 1) := by decide +kernel
theorem dX12_remember_42 : decode cX12_remember 42 = .ok (.getfield 317, 3) := by decide +kernel
theorem dX12_remember_45 : decode cX12_remember 45 = .ok (.iconst 1, 1) := by decide +kernel
theorem dX12_remember_46 : decode cX12_remember 46 = .ok (.isub, 1) := by decide +kernel
theorem dX12_remember_47 : decode cX12_remember 47 = .ok (.putfield 317, 3) := by decide +kernel
theorem dX12_remember_50 : decode cX12_remember 50 = .ok (.iconst 0, 1) := by decide +kernel
theorem dX12_remember_51 : decode cX12_remember 51 = .ok (.istore_n 1, 1) := by decide +kernel
theorem dX12_remember_52 : decode cX12_remember 52 = .ok (.iload_n 1, 1) := by decide +kernel
theorem dX12_remember_53 : decode cX12_remember 53 = .ok (.sipush 417, 3) := by decide +kernel
theorem dX12_remember_56 : decode cX12_remember 56 = .ok (.if_icmp .ge 30, 3) := by decide +kernel
theorem dX12_remember_59 : decode cX12_remember 59 = .ok (.aload_n 0, 1) := by decide +kernel
theorem dX12_remember_60 : decode cX12_remember 60 = .ok (.getfield 84, 3) := by decide +kernel
theorem dX12_remember_63 : decode cX12_remember 63 = .ok (.sipush 417, 3) := by decide +kernel
theorem dX12_remember_66 : decode cX12_remember 66 = .ok (.aload_n 0, 1) := by decide +kernel
theorem dX12_remember_67 : decode cX12_remember 67 = .ok (.getfield 317, 3) := by decide +kernel
theorem dX12_remember_70 : decode cX12_remember 70 = .ok (.imul, 1) := by decide +kernel
theorem dX12_remember_71 : decode cX12_remember 71 = .ok (.iload_n 1, 1) := by decide +kernel
theorem dX12_remember_72 : decode cX12_remember 72 = .ok (.iadd, 1) := by decide +kernel
theorem dX12_remember_73 : decode cX12_remember 73 = .ok (.aload_n 0, 1) := by decide +kernel
theorem dX12_remember_74 : decode cX12_remember 74 = .ok (.getfield 61, 3) := by decide +kernel
theorem dX12_remember_77 : decode cX12_remember 77 = .ok (.iload_n 1, 1) := by decide +kernel
theorem dX12_remember_78 : decode cX12_remember 78 = .ok (.iaload, 1) := by decide +kernel
theorem dX12_remember_79 : decode cX12_remember 79 = .ok (.iastore, 1) := by decide +kernel
theorem dX12_remember_80 : decode cX12_remember 80 = .ok (.iinc 1 1, 3) := by decide +kernel
theorem dX12_remember_83 : decode cX12_remember 83 = .ok (.goto (-31), 3) := by decide +kernel
theorem dX12_remember_86 : decode cX12_remember 86 = .ok (.aload_n 0, 1) := by decide +kernel
theorem dX12_remember_87 : decode cX12_remember 87 = .ok (.dup, 1) := by decide +kernel
theorem dX12_remember_88 : decode cX12_remember 88 = .ok (.getfield 317, 3) := by decide +kernel
theorem dX12_remember_91 : decode cX12_remember 91 = .ok (.iconst 1, 1) := by decide +kernel
theorem dX12_remember_92 : decode cX12_remember 92 = .ok (.iadd, 1) := by decide +kernel
theorem dX12_remember_93 : decode cX12_remember 93 = .ok (.putfield 317, 3) := by decide +kernel
theorem dX12_remember_96 : decode cX12_remember 96 = .ok (.return_, 1) := by decide +kernel
theorem dX12_refused_0 : decode cX12_refused 0 = .ok (.aload_n 0, 1) := by decide +kernel
theorem dX12_refused_1 : decode cX12_refused 1 = .ok (.getfield 67, 3) := by decide +kernel
theorem dX12_refused_4 : decode cX12_refused 4 = .ok (.iload_n 1, 1) := by decide +kernel
theorem dX12_refused_5 : decode cX12_refused 5 = .ok (.dup2, 1) := by decide +kernel
theorem dX12_refused_6 : decode cX12_refused 6 = .ok (.iaload, 1) := by decide +kernel
theorem dX12_refused_7 : decode cX12_refused 7 = .ok (.iconst 1, 1) := by decide +kernel
theorem dX12_refused_8 : decode cX12_refused 8 = .ok (.iadd, 1) := by decide +kernel
theorem dX12_refused_9 : decode cX12_refused 9 = .ok (.iastore, 1) := by decide +kernel
theorem dX12_refused_10 : decode cX12_refused 10 = .ok (.iconst (-1), 1) := by decide +kernel
theorem dX12_refused_11 : decode cX12_refused 11 = .ok (.ireturn, 1) := by decide +kernel
theorem dX12_pass_0 : decode cX12_pass 0 = .ok (.aload_n 0, 1) := by decide +kernel
theorem dX12_pass_1 : decode cX12_pass 1 = .ok (.iconst 0, 1) := by decide +kernel
theorem dX12_pass_2 : decode cX12_pass 2 = .ok (.putfield 109, 3) := by decide +kernel
theorem dX12_pass_5 : decode cX12_pass 5 = .ok (.aload_n 0, 1) := by decide +kernel
theorem dX12_pass_6 : decode cX12_pass 6 = .ok (.getfield 307, 3) := by decide +kernel
theorem dX12_pass_9 : decode cX12_pass 9 = .ok (.ifCond .ne 9, 3) := by decide +kernel
theorem dX12_pass_12 : decode cX12_pass 12 = .ok (.aload_n 0, 1) := by decide +kernel
theorem dX12_pass_13 : decode cX12_pass 13 = .ok (.iconst 0, 1) := by decide +kernel
theorem dX12_pass_14 : decode cX12_pass 14 = .ok (.invokevirtual 389, 3) := by decide +kernel
theorem dX12_pass_17 : decode cX12_pass 17 = .ok (.ireturn, 1) := by decide +kernel
theorem dX12_pass_18 : decode cX12_pass 18 = .ok (.aload_n 0, 1) := by decide +kernel
theorem dX12_pass_19 : decode cX12_pass 19 = .ok (.aload_n 0, 1) := by decide +kernel
theorem dX12_pass_20 : decode cX12_pass 20 = .ok (.getfield 61, 3) := by decide +kernel
theorem dX12_pass_23 : decode cX12_pass 23 = .ok (.invokevirtual 392, 3) := by decide +kernel
theorem dX12_pass_26 : decode cX12_pass 26 = .ok (.ifCond .ne 9, 3) := by decide +kernel
theorem dX12_pass_29 : decode cX12_pass 29 = .ok (.aload_n 0, 1) := by decide +kernel
theorem dX12_pass_30 : decode cX12_pass 30 = .ok (.iconst 4, 1) := by decide +kernel
theorem dX12_pass_31 : decode cX12_pass 31 = .ok (.invokevirtual 389, 3) := by decide +kernel
theorem dX12_pass_34 : decode cX12_pass 34 = .ok (.ireturn, 1) := by decide +kernel
theorem dX12_pass_35 : decode cX12_pass 35 = .ok (.aload_n 0, 1) := by decide +kernel
theorem dX12_pass_36 : decode cX12_pass 36 = .ok (.invokevirtual 396, 3) := by decide +kernel
theorem dX12_pass_39 : decode cX12_pass 39 = .ok (.aload_n 0, 1) := by decide +kernel
theorem dX12_pass_40 : decode cX12_pass 40 = .ok (.invokevirtual 399, 3) := by decide +kernel
theorem dX12_pass_43 : decode cX12_pass 43 = .ok (.ireturn, 1) := by decide +kernel
theorem dX12_stopsHabit_0 : decode cX12_stopsHabit 0 = .ok (.aload_n 0, 1) := by decide +kernel
theorem dX12_stopsHabit_1 : decode cX12_stopsHabit 1 = .ok (.iload_n 2, 1) := by decide +kernel
theorem dX12_stopsHabit_2 : decode cX12_stopsHabit 2 = .ok (.invokevirtual 384, 3) := by decide +kernel
theorem dX12_stopsHabit_5 : decode cX12_stopsHabit 5 = .ok (.ifCond .eq 11, 3) := by decide +kernel
theorem dX12_stopsHabit_8 : decode cX12_stopsHabit 8 = .ok (.aload_n 0, 1) := by decide +kernel
theorem dX12_stopsHabit_9 : decode cX12_stopsHabit 9 = .ok (.iload_n 3, 1) := by decide +kernel
theorem dX12_stopsHabit_10 : decode cX12_stopsHabit 10 = .ok (.invokevirtual 375, 3) := by decide +kernel
theorem dX12_stopsHabit_13 : decode cX12_stopsHabit 13 = .ok (.ifCond .ne 5, 3) := by decide +kernel
theorem dX12_stopsHabit_16 : decode cX12_stopsHabit 16 = .ok (.iconst 0, 1) := by decide +kernel
theorem dX12_stopsHabit_17 : decode cX12_stopsHabit 17 = .ok (.ireturn, 1) := by decide +kernel
theorem dX12_stopsHabit_18 : decode cX12_stopsHabit 18 = .ok (.aload_n 1, 1) := by decide +kernel
theorem dX12_stopsHabit_19 : decode cX12_stopsHabit 19 = .ok (.iload_n 2, 1) := by decide +kernel
theorem dX12_stopsHabit_20 : decode cX12_stopsHabit 20 = .ok (.iaload, 1) := by decide +kernel
theorem dX12_stopsHabit_21 : decode cX12_stopsHabit 21 = .ok (.iload_n 3, 1) := by decide +kernel
theorem dX12_stopsHabit_22 : decode cX12_stopsHabit 22 = .ok (.if_icmp .ne 7, 3) := by decide +kernel
theorem dX12_stopsHabit_25 : decode cX12_stopsHabit 25 = .ok (.iconst 2, 1) := by decide +kernel
theorem dX12_stopsHabit_26 : decode cX12_stopsHabit 26 = .ok (.goto 16, 3) := by decide +kernel
theorem dX12_stopsHabit_29 : decode cX12_stopsHabit 29 = .ok (.aload_n 1, 1) := by decide +kernel
theorem dX12_stopsHabit_30 : decode cX12_stopsHabit 30 = .ok (.bipush 22, 2) := by decide +kernel
theorem dX12_stopsHabit_32 : decode cX12_stopsHabit 32 = .ok (.iaload, 1) := by decide +kernel
theorem dX12_stopsHabit_33 : decode cX12_stopsHabit 33 = .ok (.iconst 1, 1) := by decide +kernel
theorem dX12_stopsHabit_34 : decode cX12_stopsHabit 34 = .ok (.if_icmp .ge 7, 3) := by decide +kernel
theorem dX12_stopsHabit_37 : decode cX12_stopsHabit 37 = .ok (.iconst 3, 1) := by decide +kernel
theorem dX12_stopsHabit_38 : decode cX12_stopsHabit 38 = .ok (.goto 4, 3) := by decide +kernel
theorem dX12_stopsHabit_41 : decode cX12_stopsHabit 41 = .ok (.iconst (-1), 1) := by decide +kernel
theorem dX12_stopsHabit_42 : decode cX12_stopsHabit 42 = .ok (.ireturn, 1) := by decide +kernel
theorem dX12_habit_0 : decode cX12_habit 0 = .ok (.aload_n 0, 1) := by decide +kernel
theorem dX12_habit_1 : decode cX12_habit 1 = .ok (.iconst 0, 1) := by decide +kernel
theorem dX12_habit_2 : decode cX12_habit 2 = .ok (.putfield 109, 3) := by decide +kernel
theorem dX12_habit_5 : decode cX12_habit 5 = .ok (.aload_n 0, 1) := by decide +kernel
theorem dX12_habit_6 : decode cX12_habit 6 = .ok (.aload_n 0, 1) := by decide +kernel
theorem dX12_habit_7 : decode cX12_habit 7 = .ok (.getfield 61, 3) := by decide +kernel
theorem dX12_habit_10 : decode cX12_habit 10 = .ok (.iload_n 1, 1) := by decide +kernel
theorem dX12_habit_11 : decode cX12_habit 11 = .ok (.iload_n 2, 1) := by decide +kernel
theorem dX12_habit_12 : decode cX12_habit 12 = .ok (.invokevirtual 402, 3) := by decide +kernel
theorem dX12_habit_15 : decode cX12_habit 15 = .ok (.istore_n 3, 1) := by decide +kernel
theorem dX12_habit_16 : decode cX12_habit 16 = .ok (.iload_n 3, 1) := by decide +kernel
theorem dX12_habit_17 : decode cX12_habit 17 = .ok (.iconst (-1), 1) := by decide +kernel
theorem dX12_habit_18 : decode cX12_habit 18 = .ok (.if_icmp .eq 9, 3) := by decide +kernel
theorem dX12_habit_21 : decode cX12_habit 21 = .ok (.aload_n 0, 1) := by decide +kernel
theorem dX12_habit_22 : decode cX12_habit 22 = .ok (.iload_n 3, 1) := by decide +kernel
theorem dX12_habit_23 : decode cX12_habit 23 = .ok (.invokevirtual 389, 3) := by decide +kernel
theorem dX12_habit_26 : decode cX12_habit 26 = .ok (.ireturn, 1) := by decide +kernel
theorem dX12_habit_27 : decode cX12_habit 27 = .ok (.aload_n 0, 1) := by decide +kernel
theorem dX12_habit_28 : decode cX12_habit 28 = .ok (.invokevirtual 396, 3) := by decide +kernel
theorem dX12_habit_31 : decode cX12_habit 31 = .ok (.aload_n 0, 1) := by decide +kernel
theorem dX12_habit_32 : decode cX12_habit 32 = .ok (.getfield 61, 3) := by decide +kernel
theorem dX12_habit_35 : decode cX12_habit 35 = .ok (.iload_n 1, 1) := by decide +kernel
theorem dX12_habit_36 : decode cX12_habit 36 = .ok (.iaload, 1) := by decide +kernel
theorem dX12_habit_37 : decode cX12_habit 37 = .ok (.istore 4, 2) := by decide +kernel
theorem dX12_habit_39 : decode cX12_habit 39 = .ok (.aload_n 0, 1) := by decide +kernel
theorem dX12_habit_40 : decode cX12_habit 40 = .ok (.getfield 61, 3) := by decide +kernel
theorem dX12_habit_43 : decode cX12_habit 43 = .ok (.bipush 22, 2) := by decide +kernel
theorem dX12_habit_45 : decode cX12_habit 45 = .ok (.dup2, 1) := by decide +kernel
theorem dX12_habit_46 : decode cX12_habit 46 = .ok (.iaload, 1) := by decide +kernel
theorem dX12_habit_47 : decode cX12_habit 47 = .ok (.iconst 1, 1) := by decide +kernel
theorem dX12_habit_48 : decode cX12_habit 48 = .ok (.isub, 1) := by decide +kernel
theorem dX12_habit_49 : decode cX12_habit 49 = .ok (.iastore, 1) := by decide +kernel
theorem dX12_habit_50 : decode cX12_habit 50 = .ok (.aload_n 0, 1) := by decide +kernel
theorem dX12_habit_51 : decode cX12_habit 51 = .ok (.getfield 61, 3) := by decide +kernel
theorem dX12_habit_54 : decode cX12_habit 54 = .ok (.iload_n 1, 1) := by decide +kernel
theorem dX12_habit_55 : decode cX12_habit 55 = .ok (.iload_n 2, 1) := by decide +kernel
theorem dX12_habit_56 : decode cX12_habit 56 = .ok (.iastore, 1) := by decide +kernel
theorem dX12_habit_57 : decode cX12_habit 57 = .ok (.iload 4, 2) := by decide +kernel
theorem dX12_habit_59 : decode cX12_habit 59 = .ok (.ireturn, 1) := by decide +kernel
theorem dX12_bed_0 : decode cX12_bed 0 = .ok (.aload_n 0, 1) := by decide +kernel
theorem dX12_bed_1 : decode cX12_bed 1 = .ok (.iconst 0, 1) := by decide +kernel
theorem dX12_bed_2 : decode cX12_bed 2 = .ok (.putfield 109, 3) := by decide +kernel
theorem dX12_bed_5 : decode cX12_bed 5 = .ok (.aload_n 0, 1) := by decide +kernel
theorem dX12_bed_6 : decode cX12_bed 6 = .ok (.iload_n 1, 1) := by decide +kernel
theorem dX12_bed_7 : decode cX12_bed 7 = .ok (.invokevirtual 384, 3) := by decide +kernel
theorem dX12_bed_10 : decode cX12_bed 10 = .ok (.ifCond .ne 9, 3) := by decide +kernel
theorem dX12_bed_13 : decode cX12_bed 13 = .ok (.aload_n 0, 1) := by decide +kernel
theorem dX12_bed_14 : decode cX12_bed 14 = .ok (.iconst 0, 1) := by decide +kernel
theorem dX12_bed_15 : decode cX12_bed 15 = .ok (.invokevirtual 389, 3) := by decide +kernel
theorem dX12_bed_18 : decode cX12_bed 18 = .ok (.ireturn, 1) := by decide +kernel
theorem dX12_bed_19 : decode cX12_bed 19 = .ok (.aload_n 0, 1) := by decide +kernel
theorem dX12_bed_20 : decode cX12_bed 20 = .ok (.invokevirtual 396, 3) := by decide +kernel
theorem dX12_bed_23 : decode cX12_bed 23 = .ok (.aload_n 0, 1) := by decide +kernel
theorem dX12_bed_24 : decode cX12_bed 24 = .ok (.getfield 61, 3) := by decide +kernel
theorem dX12_bed_27 : decode cX12_bed 27 = .ok (.bipush 18, 2) := by decide +kernel
theorem dX12_bed_29 : decode cX12_bed 29 = .ok (.dup2, 1) := by decide +kernel
theorem dX12_bed_30 : decode cX12_bed 30 = .ok (.iaload, 1) := by decide +kernel
theorem dX12_bed_31 : decode cX12_bed 31 = .ok (.iconst 1, 1) := by decide +kernel
theorem dX12_bed_32 : decode cX12_bed 32 = .ok (.iload_n 1, 1) := by decide +kernel
theorem dX12_bed_33 : decode cX12_bed 33 = .ok (.ishl, 1) := by decide +kernel
theorem dX12_bed_34 : decode cX12_bed 34 = .ok (.ixor, 1) := by decide +kernel
theorem dX12_bed_35 : decode cX12_bed 35 = .ok (.iastore, 1) := by decide +kernel
theorem dX12_bed_36 : decode cX12_bed 36 = .ok (.aload_n 0, 1) := by decide +kernel
theorem dX12_bed_37 : decode cX12_bed 37 = .ok (.getfield 61, 3) := by decide +kernel
theorem dX12_bed_40 : decode cX12_bed 40 = .ok (.bipush 18, 2) := by decide +kernel
theorem dX12_bed_42 : decode cX12_bed 42 = .ok (.iaload, 1) := by decide +kernel
theorem dX12_bed_43 : decode cX12_bed 43 = .ok (.iload_n 1, 1) := by decide +kernel
theorem dX12_bed_44 : decode cX12_bed 44 = .ok (.ishr, 1) := by decide +kernel
theorem dX12_bed_45 : decode cX12_bed 45 = .ok (.iconst 1, 1) := by decide +kernel
theorem dX12_bed_46 : decode cX12_bed 46 = .ok (.iand, 1) := by decide +kernel
theorem dX12_bed_47 : decode cX12_bed 47 = .ok (.ireturn, 1) := by decide +kernel
theorem dX12_stopsFog_0 : decode cX12_stopsFog 0 = .ok (.aload_n 0, 1) := by decide +kernel
theorem dX12_stopsFog_1 : decode cX12_stopsFog 1 = .ok (.getfield 307, 3) := by decide +kernel
theorem dX12_stopsFog_4 : decode cX12_stopsFog 4 = .ok (.ifCond .ne 5, 3) := by decide +kernel
theorem dX12_stopsFog_7 : decode cX12_stopsFog 7 = .ok (.iconst 0, 1) := by decide +kernel
theorem dX12_stopsFog_8 : decode cX12_stopsFog 8 = .ok (.ireturn, 1) := by decide +kernel
theorem dX12_stopsFog_9 : decode cX12_stopsFog 9 = .ok (.iload_n 2, 1) := by decide +kernel
theorem dX12_stopsFog_10 : decode cX12_stopsFog 10 = .ok (.i2l, 1) := by decide +kernel
theorem dX12_stopsFog_11 : decode cX12_stopsFog 11 = .ok (.lconst 0, 1) := by decide +kernel
theorem dX12_stopsFog_12 : decode cX12_stopsFog 12 = .ok (.ldc2_w 387, 3) := by decide +kernel
theorem dX12_stopsFog_15 : decode cX12_stopsFog 15 = .ok (.invokestatic 230, 3) := by decide +kernel
theorem dX12_stopsFog_18 : decode cX12_stopsFog 18 = .ok (.ifCond .ne 7, 3) := by decide +kernel
theorem dX12_stopsFog_21 : decode cX12_stopsFog 21 = .ok (.iconst 1, 1) := by decide +kernel
theorem dX12_stopsFog_22 : decode cX12_stopsFog 22 = .ok (.goto 16, 3) := by decide +kernel
theorem dX12_stopsFog_25 : decode cX12_stopsFog 25 = .ok (.iload_n 2, 1) := by decide +kernel
theorem dX12_stopsFog_26 : decode cX12_stopsFog 26 = .ok (.aload_n 1, 1) := by decide +kernel
theorem dX12_stopsFog_27 : decode cX12_stopsFog 27 = .ok (.bipush 19, 2) := by decide +kernel
theorem dX12_stopsFog_29 : decode cX12_stopsFog 29 = .ok (.iaload, 1) := by decide +kernel
theorem dX12_stopsFog_30 : decode cX12_stopsFog 30 = .ok (.if_icmp .ne 7, 3) := by decide +kernel
theorem dX12_stopsFog_33 : decode cX12_stopsFog 33 = .ok (.iconst 2, 1) := by decide +kernel
theorem dX12_stopsFog_34 : decode cX12_stopsFog 34 = .ok (.goto 4, 3) := by decide +kernel
theorem dX12_stopsFog_37 : decode cX12_stopsFog 37 = .ok (.iconst (-1), 1) := by decide +kernel
theorem dX12_stopsFog_38 : decode cX12_stopsFog 38 = .ok (.ireturn, 1) := by decide +kernel
theorem dX12_fog_0 : decode cX12_fog 0 = .ok (.aload_n 0, 1) := by decide +kernel
theorem dX12_fog_1 : decode cX12_fog 1 = .ok (.iconst 0, 1) := by decide +kernel
theorem dX12_fog_2 : decode cX12_fog 2 = .ok (.putfield 109, 3) := by decide +kernel
theorem dX12_fog_5 : decode cX12_fog 5 = .ok (.aload_n 0, 1) := by decide +kernel
theorem dX12_fog_6 : decode cX12_fog 6 = .ok (.aload_n 0, 1) := by decide +kernel
theorem dX12_fog_7 : decode cX12_fog 7 = .ok (.getfield 61, 3) := by decide +kernel
theorem dX12_fog_10 : decode cX12_fog 10 = .ok (.iload_n 1, 1) := by decide +kernel
theorem dX12_fog_11 : decode cX12_fog 11 = .ok (.invokevirtual 405, 3) := by decide +kernel
theorem dX12_fog_14 : decode cX12_fog 14 = .ok (.istore_n 2, 1) := by decide +kernel
theorem dX12_fog_15 : decode cX12_fog 15 = .ok (.iload_n 2, 1) := by decide +kernel
theorem dX12_fog_16 : decode cX12_fog 16 = .ok (.iconst (-1), 1) := by decide +kernel
theorem dX12_fog_17 : decode cX12_fog 17 = .ok (.if_icmp .eq 9, 3) := by decide +kernel
theorem dX12_fog_20 : decode cX12_fog 20 = .ok (.aload_n 0, 1) := by decide +kernel
theorem dX12_fog_21 : decode cX12_fog 21 = .ok (.iload_n 2, 1) := by decide +kernel
theorem dX12_fog_22 : decode cX12_fog 22 = .ok (.invokevirtual 389, 3) := by decide +kernel
theorem dX12_fog_25 : decode cX12_fog 25 = .ok (.ireturn, 1) := by decide +kernel
theorem dX12_fog_26 : decode cX12_fog 26 = .ok (.aload_n 0, 1) := by decide +kernel
theorem dX12_fog_27 : decode cX12_fog 27 = .ok (.invokevirtual 396, 3) := by decide +kernel
theorem dX12_fog_30 : decode cX12_fog 30 = .ok (.aload_n 0, 1) := by decide +kernel
theorem dX12_fog_31 : decode cX12_fog 31 = .ok (.getfield 61, 3) := by decide +kernel
theorem dX12_fog_34 : decode cX12_fog 34 = .ok (.bipush 19, 2) := by decide +kernel
theorem dX12_fog_36 : decode cX12_fog 36 = .ok (.iaload, 1) := by decide +kernel
theorem dX12_fog_37 : decode cX12_fog 37 = .ok (.istore_n 3, 1) := by decide +kernel
theorem dX12_fog_38 : decode cX12_fog 38 = .ok (.aload_n 0, 1) := by decide +kernel
theorem dX12_fog_39 : decode cX12_fog 39 = .ok (.getfield 61, 3) := by decide +kernel
theorem dX12_fog_42 : decode cX12_fog 42 = .ok (.bipush 19, 2) := by decide +kernel
theorem dX12_fog_44 : decode cX12_fog 44 = .ok (.iload_n 1, 1) := by decide +kernel
theorem dX12_fog_45 : decode cX12_fog 45 = .ok (.iastore, 1) := by decide +kernel
theorem dX12_fog_46 : decode cX12_fog 46 = .ok (.iload_n 3, 1) := by decide +kernel
theorem dX12_fog_47 : decode cX12_fog 47 = .ok (.ireturn, 1) := by decide +kernel
theorem dX12_stopsEclipse_0 : decode cX12_stopsEclipse 0 = .ok (.aload_n 0, 1) := by decide +kernel
theorem dX12_stopsEclipse_1 : decode cX12_stopsEclipse 1 = .ok (.getfield 307, 3) := by decide +kernel
theorem dX12_stopsEclipse_4 : decode cX12_stopsEclipse 4 = .ok (.ifCond .ne 5, 3) := by decide +kernel
theorem dX12_stopsEclipse_7 : decode cX12_stopsEclipse 7 = .ok (.iconst 0, 1) := by decide +kernel
theorem dX12_stopsEclipse_8 : decode cX12_stopsEclipse 8 = .ok (.ireturn, 1) := by decide +kernel
theorem dX12_stopsEclipse_9 : decode cX12_stopsEclipse 9 = .ok (.aload_n 1, 1) := by decide +kernel
theorem dX12_stopsEclipse_10 : decode cX12_stopsEclipse 10 = .ok (.bipush 20, 2) := by decide +kernel
theorem dX12_stopsEclipse_12 : decode cX12_stopsEclipse 12 = .ok (.iaload, 1) := by decide +kernel
theorem dX12_stopsEclipse_13 : decode cX12_stopsEclipse 13 = .ok (.iconst 1, 1) := by decide +kernel
theorem dX12_stopsEclipse_14 : decode cX12_stopsEclipse 14 = .ok (.if_icmp .ne 7, 3) := by decide +kernel
theorem dX12_stopsEclipse_17 : decode cX12_stopsEclipse 17 = .ok (.iconst 2, 1) := by decide +kernel
theorem dX12_stopsEclipse_18 : decode cX12_stopsEclipse 18 = .ok (.goto 17, 3) := by decide +kernel
theorem dX12_stopsEclipse_21 : decode cX12_stopsEclipse 21 = .ok (.aload_n 1, 1) := by decide +kernel
theorem dX12_stopsEclipse_22 : decode cX12_stopsEclipse 22 = .ok (.bipush 22, 2) := by decide +kernel
theorem dX12_stopsEclipse_24 : decode cX12_stopsEclipse 24 = .ok (.iaload, 1) := by decide +kernel
theorem dX12_stopsEclipse_25 : decode cX12_stopsEclipse 25 = .ok (.bipush 10, 2) := by decide +kernel
theorem dX12_stopsEclipse_27 : decode cX12_stopsEclipse 27 = .ok (.if_icmp .ge 7, 3) := by decide +kernel
theorem dX12_stopsEclipse_30 : decode cX12_stopsEclipse 30 = .ok (.iconst 3, 1) := by decide +kernel
theorem dX12_stopsEclipse_31 : decode cX12_stopsEclipse 31 = .ok (.goto 4, 3) := by decide +kernel
theorem dX12_stopsEclipse_34 : decode cX12_stopsEclipse 34 = .ok (.iconst (-1), 1) := by decide +kernel
theorem dX12_stopsEclipse_35 : decode cX12_stopsEclipse 35 = .ok (.ireturn, 1) := by decide +kernel
theorem dX12_eclipse_0 : decode cX12_eclipse 0 = .ok (.aload_n 0, 1) := by decide +kernel
theorem dX12_eclipse_1 : decode cX12_eclipse 1 = .ok (.iconst 0, 1) := by decide +kernel
theorem dX12_eclipse_2 : decode cX12_eclipse 2 = .ok (.putfield 109, 3) := by decide +kernel
theorem dX12_eclipse_5 : decode cX12_eclipse 5 = .ok (.aload_n 0, 1) := by decide +kernel
theorem dX12_eclipse_6 : decode cX12_eclipse 6 = .ok (.aload_n 0, 1) := by decide +kernel
theorem dX12_eclipse_7 : decode cX12_eclipse 7 = .ok (.getfield 61, 3) := by decide +kernel
theorem dX12_eclipse_10 : decode cX12_eclipse 10 = .ok (.invokevirtual 408, 3) := by decide +kernel
theorem dX12_eclipse_13 : decode cX12_eclipse 13 = .ok (.istore_n 1, 1) := by decide +kernel
theorem dX12_eclipse_14 : decode cX12_eclipse 14 = .ok (.iload_n 1, 1) := by decide +kernel
theorem dX12_eclipse_15 : decode cX12_eclipse 15 = .ok (.iconst (-1), 1) := by decide +kernel
theorem dX12_eclipse_16 : decode cX12_eclipse 16 = .ok (.if_icmp .eq 9, 3) := by decide +kernel
theorem dX12_eclipse_19 : decode cX12_eclipse 19 = .ok (.aload_n 0, 1) := by decide +kernel
theorem dX12_eclipse_20 : decode cX12_eclipse 20 = .ok (.iload_n 1, 1) := by decide +kernel
theorem dX12_eclipse_21 : decode cX12_eclipse 21 = .ok (.invokevirtual 389, 3) := by decide +kernel
theorem dX12_eclipse_24 : decode cX12_eclipse 24 = .ok (.ireturn, 1) := by decide +kernel
theorem dX12_eclipse_25 : decode cX12_eclipse 25 = .ok (.aload_n 0, 1) := by decide +kernel
theorem dX12_eclipse_26 : decode cX12_eclipse 26 = .ok (.invokevirtual 396, 3) := by decide +kernel
theorem dX12_eclipse_29 : decode cX12_eclipse 29 = .ok (.aload_n 0, 1) := by decide +kernel
theorem dX12_eclipse_30 : decode cX12_eclipse 30 = .ok (.getfield 61, 3) := by decide +kernel
theorem dX12_eclipse_33 : decode cX12_eclipse 33 = .ok (.bipush 20, 2) := by decide +kernel
theorem dX12_eclipse_35 : decode cX12_eclipse 35 = .ok (.iconst 1, 1) := by decide +kernel
theorem dX12_eclipse_36 : decode cX12_eclipse 36 = .ok (.iastore, 1) := by decide +kernel
theorem dX12_eclipse_37 : decode cX12_eclipse 37 = .ok (.aload_n 0, 1) := by decide +kernel
theorem dX12_eclipse_38 : decode cX12_eclipse 38 = .ok (.getfield 61, 3) := by decide +kernel
theorem dX12_eclipse_41 : decode cX12_eclipse 41 = .ok (.bipush 22, 2) := by decide +kernel
theorem dX12_eclipse_43 : decode cX12_eclipse 43 = .ok (.dup2, 1) := by decide +kernel
theorem dX12_eclipse_44 : decode cX12_eclipse 44 = .ok (.iaload, 1) := by decide +kernel
theorem dX12_eclipse_45 : decode cX12_eclipse 45 = .ok (.bipush 10, 2) := by decide +kernel
theorem dX12_eclipse_47 : decode cX12_eclipse 47 = .ok (.isub, 1) := by decide +kernel
theorem dX12_eclipse_48 : decode cX12_eclipse 48 = .ok (.iastore, 1) := by decide +kernel
theorem dX12_eclipse_49 : decode cX12_eclipse 49 = .ok (.aload_n 0, 1) := by decide +kernel
theorem dX12_eclipse_50 : decode cX12_eclipse 50 = .ok (.getfield 61, 3) := by decide +kernel
theorem dX12_eclipse_53 : decode cX12_eclipse 53 = .ok (.bipush 22, 2) := by decide +kernel
theorem dX12_eclipse_55 : decode cX12_eclipse 55 = .ok (.iaload, 1) := by decide +kernel
theorem dX12_eclipse_56 : decode cX12_eclipse 56 = .ok (.ireturn, 1) := by decide +kernel
theorem dX12_stopsCandles_0 : decode cX12_stopsCandles 0 = .ok (.aload_n 0, 1) := by decide +kernel
theorem dX12_stopsCandles_1 : decode cX12_stopsCandles 1 = .ok (.getfield 307, 3) := by decide +kernel
theorem dX12_stopsCandles_4 : decode cX12_stopsCandles 4 = .ok (.ifCond .ne 5, 3) := by decide +kernel
theorem dX12_stopsCandles_7 : decode cX12_stopsCandles 7 = .ok (.iconst 0, 1) := by decide +kernel
theorem dX12_stopsCandles_8 : decode cX12_stopsCandles 8 = .ok (.ireturn, 1) := by decide +kernel
theorem dX12_stopsCandles_9 : decode cX12_stopsCandles 9 = .ok (.iload_n 2, 1) := by decide +kernel
theorem dX12_stopsCandles_10 : decode cX12_stopsCandles 10 = .ok (.i2l, 1) := by decide +kernel
theorem dX12_stopsCandles_11 : decode cX12_stopsCandles 11 = .ok (.lconst 1, 1) := by decide +kernel
theorem dX12_stopsCandles_12 : decode cX12_stopsCandles 12 = .ok (.ldc2_w 387, 3) := by decide +kernel
theorem dX12_stopsCandles_15 : decode cX12_stopsCandles 15 = .ok (.invokestatic 230, 3) := by decide +kernel
theorem dX12_stopsCandles_18 : decode cX12_stopsCandles 18 = .ok (.ifCond .ne 7, 3) := by decide +kernel
theorem dX12_stopsCandles_21 : decode cX12_stopsCandles 21 = .ok (.iconst 1, 1) := by decide +kernel
theorem dX12_stopsCandles_22 : decode cX12_stopsCandles 22 = .ok (.goto 27, 3) := by decide +kernel
theorem dX12_stopsCandles_25 : decode cX12_stopsCandles 25 = .ok (.aload_n 1, 1) := by decide +kernel
theorem dX12_stopsCandles_26 : decode cX12_stopsCandles 26 = .ok (.bipush 22, 2) := by decide +kernel
theorem dX12_stopsCandles_28 : decode cX12_stopsCandles 28 = .ok (.iaload, 1) := by decide +kernel
theorem dX12_stopsCandles_29 : decode cX12_stopsCandles 29 = .ok (.iload_n 2, 1) := by decide +kernel
theorem dX12_stopsCandles_30 : decode cX12_stopsCandles 30 = .ok (.if_icmp .lt 14, 3) := by decide +kernel
theorem dX12_stopsCandles_33 : decode cX12_stopsCandles 33 = .ok (.aload_n 1, 1) := by decide +kernel
theorem dX12_stopsCandles_34 : decode cX12_stopsCandles 34 = .ok (.bipush 21, 2) := by decide +kernel
theorem dX12_stopsCandles_36 : decode cX12_stopsCandles 36 = .ok (.iaload, 1) := by decide +kernel
theorem dX12_stopsCandles_37 : decode cX12_stopsCandles 37 = .ok (.iload_n 2, 1) := by decide +kernel
theorem dX12_stopsCandles_38 : decode cX12_stopsCandles 38 = .ok (.iadd, 1) := by decide +kernel
theorem dX12_stopsCandles_39 : decode cX12_stopsCandles 39 = .ok (.bipush 20, 2) := by decide +kernel
theorem dX12_stopsCandles_41 : decode cX12_stopsCandles 41 = .ok (.if_icmp .le 7, 3) := by decide +kernel
theorem dX12_stopsCandles_44 : decode cX12_stopsCandles 44 = .ok (.iconst 3, 1) := by decide +kernel
theorem dX12_stopsCandles_45 : decode cX12_stopsCandles 45 = .ok (.goto 4, 3) := by decide +kernel
theorem dX12_stopsCandles_48 : decode cX12_stopsCandles 48 = .ok (.iconst (-1), 1) := by decide +kernel
theorem dX12_stopsCandles_49 : decode cX12_stopsCandles 49 = .ok (.ireturn, 1) := by decide +kernel
theorem dX12_candles_0 : decode cX12_candles 0 = .ok (.aload_n 0, 1) := by decide +kernel
theorem dX12_candles_1 : decode cX12_candles 1 = .ok (.iconst 0, 1) := by decide +kernel
theorem dX12_candles_2 : decode cX12_candles 2 = .ok (.putfield 109, 3) := by decide +kernel
theorem dX12_candles_5 : decode cX12_candles 5 = .ok (.aload_n 0, 1) := by decide +kernel
theorem dX12_candles_6 : decode cX12_candles 6 = .ok (.aload_n 0, 1) := by decide +kernel
theorem dX12_candles_7 : decode cX12_candles 7 = .ok (.getfield 61, 3) := by decide +kernel
theorem dX12_candles_10 : decode cX12_candles 10 = .ok (.iload_n 1, 1) := by decide +kernel
theorem dX12_candles_11 : decode cX12_candles 11 = .ok (.invokevirtual 411, 3) := by decide +kernel
theorem dX12_candles_14 : decode cX12_candles 14 = .ok (.istore_n 2, 1) := by decide +kernel
theorem dX12_candles_15 : decode cX12_candles 15 = .ok (.iload_n 2, 1) := by decide +kernel
theorem dX12_candles_16 : decode cX12_candles 16 = .ok (.iconst (-1), 1) := by decide +kernel
theorem dX12_candles_17 : decode cX12_candles 17 = .ok (.if_icmp .eq 9, 3) := by decide +kernel
theorem dX12_candles_20 : decode cX12_candles 20 = .ok (.aload_n 0, 1) := by decide +kernel
theorem dX12_candles_21 : decode cX12_candles 21 = .ok (.iload_n 2, 1) := by decide +kernel
theorem dX12_candles_22 : decode cX12_candles 22 = .ok (.invokevirtual 389, 3) := by decide +kernel
theorem dX12_candles_25 : decode cX12_candles 25 = .ok (.ireturn, 1) := by decide +kernel
theorem dX12_candles_26 : decode cX12_candles 26 = .ok (.aload_n 0, 1) := by decide +kernel
theorem dX12_candles_27 : decode cX12_candles 27 = .ok (.invokevirtual 396, 3) := by decide +kernel
theorem dX12_candles_30 : decode cX12_candles 30 = .ok (.aload_n 0, 1) := by decide +kernel
theorem dX12_candles_31 : decode cX12_candles 31 = .ok (.getfield 61, 3) := by decide +kernel
theorem dX12_candles_34 : decode cX12_candles 34 = .ok (.bipush 21, 2) := by decide +kernel
theorem dX12_candles_36 : decode cX12_candles 36 = .ok (.dup2, 1) := by decide +kernel
theorem dX12_candles_37 : decode cX12_candles 37 = .ok (.iaload, 1) := by decide +kernel
theorem dX12_candles_38 : decode cX12_candles 38 = .ok (.iload_n 1, 1) := by decide +kernel
theorem dX12_candles_39 : decode cX12_candles 39 = .ok (.iadd, 1) := by decide +kernel
theorem dX12_candles_40 : decode cX12_candles 40 = .ok (.iastore, 1) := by decide +kernel
theorem dX12_candles_41 : decode cX12_candles 41 = .ok (.aload_n 0, 1) := by decide +kernel
theorem dX12_candles_42 : decode cX12_candles 42 = .ok (.getfield 61, 3) := by decide +kernel
theorem dX12_candles_45 : decode cX12_candles 45 = .ok (.bipush 22, 2) := by decide +kernel
theorem dX12_candles_47 : decode cX12_candles 47 = .ok (.dup2, 1) := by decide +kernel
theorem dX12_candles_48 : decode cX12_candles 48 = .ok (.iaload, 1) := by decide +kernel
theorem dX12_candles_49 : decode cX12_candles 49 = .ok (.iload_n 1, 1) := by decide +kernel
theorem dX12_candles_50 : decode cX12_candles 50 = .ok (.isub, 1) := by decide +kernel
theorem dX12_candles_51 : decode cX12_candles 51 = .ok (.iastore, 1) := by decide +kernel
theorem dX12_candles_52 : decode cX12_candles 52 = .ok (.aload_n 0, 1) := by decide +kernel
theorem dX12_candles_53 : decode cX12_candles 53 = .ok (.getfield 61, 3) := by decide +kernel
theorem dX12_candles_56 : decode cX12_candles 56 = .ok (.bipush 21, 2) := by decide +kernel
theorem dX12_candles_58 : decode cX12_candles 58 = .ok (.iaload, 1) := by decide +kernel
theorem dX12_candles_59 : decode cX12_candles 59 = .ok (.ireturn, 1) := by decide +kernel
theorem dX12_give_0 : decode cX12_give 0 = .ok (.aload_n 0, 1) := by decide +kernel
theorem dX12_give_1 : decode cX12_give 1 = .ok (.iconst 0, 1) := by decide +kernel
theorem dX12_give_2 : decode cX12_give 2 = .ok (.putfield 109, 3) := by decide +kernel
theorem dX12_give_5 : decode cX12_give 5 = .ok (.aload_n 0, 1) := by decide +kernel
theorem dX12_give_6 : decode cX12_give 6 = .ok (.getfield 307, 3) := by decide +kernel
theorem dX12_give_9 : decode cX12_give 9 = .ok (.ifCond .ne 9, 3) := by decide +kernel
theorem dX12_give_12 : decode cX12_give 12 = .ok (.aload_n 0, 1) := by decide +kernel
theorem dX12_give_13 : decode cX12_give 13 = .ok (.iconst 0, 1) := by decide +kernel
theorem dX12_give_14 : decode cX12_give 14 = .ok (.invokevirtual 389, 3) := by decide +kernel
theorem dX12_give_17 : decode cX12_give 17 = .ok (.ireturn, 1) := by decide +kernel
theorem dX12_give_18 : decode cX12_give 18 = .ok (.iload_n 1, 1) := by decide +kernel
theorem dX12_give_19 : decode cX12_give 19 = .ok (.i2l, 1) := by decide +kernel
theorem dX12_give_20 : decode cX12_give 20 = .ok (.lconst 1, 1) := by decide +kernel
theorem dX12_give_21 : decode cX12_give 21 = .ok (.ldc2_w 414, 3) := by decide +kernel
theorem dX12_give_24 : decode cX12_give 24 = .ok (.invokestatic 230, 3) := by decide +kernel
theorem dX12_give_27 : decode cX12_give 27 = .ok (.ifCond .ne 9, 3) := by decide +kernel
theorem dX12_give_30 : decode cX12_give 30 = .ok (.aload_n 0, 1) := by decide +kernel
theorem dX12_give_31 : decode cX12_give 31 = .ok (.iconst 1, 1) := by decide +kernel
theorem dX12_give_32 : decode cX12_give 32 = .ok (.invokevirtual 389, 3) := by decide +kernel
theorem dX12_give_35 : decode cX12_give 35 = .ok (.ireturn, 1) := by decide +kernel
theorem dX12_give_36 : decode cX12_give 36 = .ok (.aload_n 0, 1) := by decide +kernel
theorem dX12_give_37 : decode cX12_give 37 = .ok (.getfield 61, 3) := by decide +kernel
theorem dX12_give_40 : decode cX12_give 40 = .ok (.bipush 22, 2) := by decide +kernel
theorem dX12_give_42 : decode cX12_give 42 = .ok (.iaload, 1) := by decide +kernel
theorem dX12_give_43 : decode cX12_give 43 = .ok (.iload_n 1, 1) := by decide +kernel
theorem dX12_give_44 : decode cX12_give 44 = .ok (.iadd, 1) := by decide +kernel
theorem dX12_give_45 : decode cX12_give 45 = .ok (.sipush 999, 3) := by decide +kernel
theorem dX12_give_48 : decode cX12_give 48 = .ok (.if_icmp .le 9, 3) := by decide +kernel
theorem dX12_give_51 : decode cX12_give 51 = .ok (.aload_n 0, 1) := by decide +kernel
theorem dX12_give_52 : decode cX12_give 52 = .ok (.iconst 3, 1) := by decide +kernel
theorem dX12_give_53 : decode cX12_give 53 = .ok (.invokevirtual 389, 3) := by decide +kernel
theorem dX12_give_56 : decode cX12_give 56 = .ok (.ireturn, 1) := by decide +kernel
theorem dX12_give_57 : decode cX12_give 57 = .ok (.aload_n 0, 1) := by decide +kernel
theorem dX12_give_58 : decode cX12_give 58 = .ok (.invokevirtual 396, 3) := by decide +kernel
theorem dX12_give_61 : decode cX12_give 61 = .ok (.aload_n 0, 1) := by decide +kernel
theorem dX12_give_62 : decode cX12_give 62 = .ok (.getfield 61, 3) := by decide +kernel
theorem dX12_give_65 : decode cX12_give 65 = .ok (.bipush 22, 2) := by decide +kernel
theorem dX12_give_67 : decode cX12_give 67 = .ok (.dup2, 1) := by decide +kernel
theorem dX12_give_68 : decode cX12_give 68 = .ok (.iaload, 1) := by decide +kernel
theorem dX12_give_69 : decode cX12_give 69 = .ok (.iload_n 1, 1) := by decide +kernel
theorem dX12_give_70 : decode cX12_give 70 = .ok (.iadd, 1) := by decide +kernel
theorem dX12_give_71 : decode cX12_give 71 = .ok (.iastore, 1) := by decide +kernel
theorem dX12_give_72 : decode cX12_give 72 = .ok (.aload_n 0, 1) := by decide +kernel
theorem dX12_give_73 : decode cX12_give 73 = .ok (.getfield 61, 3) := by decide +kernel
theorem dX12_give_76 : decode cX12_give 76 = .ok (.bipush 22, 2) := by decide +kernel
theorem dX12_give_78 : decode cX12_give 78 = .ok (.iaload, 1) := by decide +kernel
theorem dX12_give_79 : decode cX12_give 79 = .ok (.ireturn, 1) := by decide +kernel
theorem dX12_draw_0 : decode cX12_draw 0 = .ok (.aload_n 0, 1) := by decide +kernel
theorem dX12_draw_1 : decode cX12_draw 1 = .ok (.aload_n 0, 1) := by decide +kernel
theorem dX12_draw_2 : decode cX12_draw 2 = .ok (.getfield 416, 3) := by decide +kernel
theorem dX12_draw_5 : decode cX12_draw 5 = .ok (.ldc2_w 420, 3) := by decide +kernel
theorem dX12_draw_8 : decode cX12_draw 8 = .ok (.lmul, 1) := by decide +kernel
theorem dX12_draw_9 : decode cX12_draw 9 = .ok (.ldc2_w 422, 3) := by decide +kernel
theorem dX12_draw_12 : decode cX12_draw 12 = .ok (.ladd, 1) := by decide +kernel
theorem dX12_draw_13 : decode cX12_draw 13 = .ok (.putfield 416, 3) := by decide +kernel
theorem dX12_draw_16 : decode cX12_draw 16 = .ok (.aload_n 0, 1) := by decide +kernel
theorem dX12_draw_17 : decode cX12_draw 17 = .ok (.getfield 416, 3) := by decide +kernel
theorem dX12_draw_20 : decode cX12_draw 20 = .ok (.bipush 33, 2) := by decide +kernel
theorem dX12_draw_22 : decode cX12_draw 22 = .ok (.lushr, 1) := by decide +kernel
theorem dX12_draw_23 : decode cX12_draw 23 = .ok (.iload_n 1, 1) := by decide +kernel
theorem dX12_draw_24 : decode cX12_draw 24 = .ok (.i2l, 1) := by decide +kernel
theorem dX12_draw_25 : decode cX12_draw 25 = .ok (.lrem, 1) := by decide +kernel
theorem dX12_draw_26 : decode cX12_draw 26 = .ok (.l2i, 1) := by decide +kernel
theorem dX12_draw_27 : decode cX12_draw 27 = .ok (.ireturn, 1) := by decide +kernel
theorem dX12_years_0 : decode cX12_years 0 = .ok (.aload_n 0, 1) := by decide +kernel
theorem dX12_years_1 : decode cX12_years 1 = .ok (.iconst 0, 1) := by decide +kernel
theorem dX12_years_2 : decode cX12_years 2 = .ok (.putfield 109, 3) := by decide +kernel
theorem dX12_years_5 : decode cX12_years 5 = .ok (.aload_n 0, 1) := by decide +kernel
theorem dX12_years_6 : decode cX12_years 6 = .ok (.getfield 307, 3) := by decide +kernel
theorem dX12_years_9 : decode cX12_years 9 = .ok (.ifCond .eq 52, 3) := by decide +kernel
theorem dX12_years_12 : decode cX12_years 12 = .ok (.iload_n 1, 1) := by decide +kernel
theorem dX12_years_13 : decode cX12_years 13 = .ok (.i2l, 1) := by decide +kernel
theorem dX12_years_14 : decode cX12_years 14 = .ok (.lconst 1, 1) := by decide +kernel
theorem dX12_years_15 : decode cX12_years 15 = .ok (.ldc2_w 424, 3) := by decide +kernel
theorem dX12_years_18 : decode cX12_years 18 = .ok (.invokestatic 230, 3) := by decide +kernel
theorem dX12_years_21 : decode cX12_years 21 = .ok (.ifCond .eq 40, 3) := by decide +kernel
theorem dX12_years_24 : decode cX12_years 24 = .ok (.aload_n 0, 1) := by decide +kernel
theorem dX12_years_25 : decode cX12_years 25 = .ok (.getfield 37, 3) := by decide +kernel
theorem dX12_years_28 : decode cX12_years 28 = .ok (.iconst 0, 1) := by decide +kernel
theorem dX12_years_29 : decode cX12_years 29 = .ok (.iaload, 1) := by decide +kernel
theorem dX12_years_30 : decode cX12_years 30 = .ok (.aload_n 0, 1) := by decide +kernel
theorem dX12_years_31 : decode cX12_years 31 = .ok (.getfield 61, 3) := by decide +kernel
theorem dX12_years_34 : decode cX12_years 34 = .ok (.bipush 24, 2) := by decide +kernel
theorem dX12_years_36 : decode cX12_years 36 = .ok (.iaload, 1) := by decide +kernel
theorem dX12_years_37 : decode cX12_years 37 = .ok (.imul, 1) := by decide +kernel
theorem dX12_years_38 : decode cX12_years 38 = .ok (.aload_n 0, 1) := by decide +kernel
theorem dX12_years_39 : decode cX12_years 39 = .ok (.getfield 61, 3) := by decide +kernel
theorem dX12_years_42 : decode cX12_years 42 = .ok (.bipush 25, 2) := by decide +kernel
theorem dX12_years_44 : decode cX12_years 44 = .ok (.iaload, 1) := by decide +kernel
theorem dX12_years_45 : decode cX12_years 45 = .ok (.iadd, 1) := by decide +kernel
theorem dX12_years_46 : decode cX12_years 46 = .ok (.iload_n 1, 1) := by decide +kernel
theorem dX12_years_47 : decode cX12_years 47 = .ok (.iadd, 1) := by decide +kernel
theorem dX12_years_48 : decode cX12_years 48 = .ok (.aload_n 0, 1) := by decide +kernel
theorem dX12_years_49 : decode cX12_years 49 = .ok (.getfield 37, 3) := by decide +kernel
theorem dX12_years_52 : decode cX12_years 52 = .ok (.iconst 0, 1) := by decide +kernel
theorem dX12_years_53 : decode cX12_years 53 = .ok (.iaload, 1) := by decide +kernel
theorem dX12_years_54 : decode cX12_years 54 = .ok (.sipush 1000, 3) := by decide +kernel
theorem dX12_years_57 : decode cX12_years 57 = .ok (.imul, 1) := by decide +kernel
theorem dX12_years_58 : decode cX12_years 58 = .ok (.if_icmp .lt 5, 3) := by decide +kernel
theorem dX12_years_61 : decode cX12_years 61 = .ok (.iconst (-1), 1) := by decide +kernel
theorem dX12_years_62 : decode cX12_years 62 = .ok (.ireturn, 1) := by decide +kernel
theorem dX12_years_63 : decode cX12_years 63 = .ok (.aload_n 0, 1) := by decide +kernel
theorem dX12_years_64 : decode cX12_years 64 = .ok (.lload_n 2, 1) := by decide +kernel
theorem dX12_years_65 : decode cX12_years 65 = .ok (.putfield 416, 3) := by decide +kernel
theorem dX12_years_68 : decode cX12_years 68 = .ok (.iconst 0, 1) := by decide +kernel
theorem dX12_years_69 : decode cX12_years 69 = .ok (.istore 4, 2) := by decide +kernel
theorem dX12_years_71 : decode cX12_years 71 = .ok (.iload 4, 2) := by decide +kernel
theorem dX12_years_73 : decode cX12_years 73 = .ok (.iload_n 1, 1) := by decide +kernel
theorem dX12_years_74 : decode cX12_years 74 = .ok (.if_icmp .ge 88, 3) := by decide +kernel
theorem dX12_years_77 : decode cX12_years 77 = .ok (.aload_n 0, 1) := by decide +kernel
theorem dX12_years_78 : decode cX12_years 78 = .ok (.invokevirtual 396, 3) := by decide +kernel
theorem dX12_years_81 : decode cX12_years 81 = .ok (.aload_n 0, 1) := by decide +kernel
theorem dX12_years_82 : decode cX12_years 82 = .ok (.getfield 61, 3) := by decide +kernel
theorem dX12_years_85 : decode cX12_years 85 = .ok (.bipush 19, 2) := by decide +kernel
theorem dX12_years_87 : decode cX12_years 87 = .ok (.aload_n 0, 1) := by decide +kernel
theorem dX12_years_88 : decode cX12_years 88 = .ok (.bipush 10, 2) := by decide +kernel
theorem dX12_years_90 : decode cX12_years 90 = .ok (.invokevirtual 426, 3) := by decide +kernel
theorem dX12_years_93 : decode cX12_years 93 = .ok (.iastore, 1) := by decide +kernel
theorem dX12_years_94 : decode cX12_years 94 = .ok (.aload_n 0, 1) := by decide +kernel
theorem dX12_years_95 : decode cX12_years 95 = .ok (.bipush 10, 2) := by decide +kernel
theorem dX12_years_97 : decode cX12_years 97 = .ok (.invokevirtual 426, 3) := by decide +kernel
theorem dX12_years_100 : decode cX12_years 100 = .ok (.aload_n 0, 1) := by decide +kernel
theorem dX12_years_101 : decode cX12_years 101 = .ok (.getfield 74, 3) := by decide +kernel
theorem dX12_years_104 : decode cX12_years 104 = .ok (.if_icmp .ge 28, 3) := by decide +kernel
theorem dX12_years_107 : decode cX12_years 107 = .ok (.aload_n 0, 1) := by decide +kernel
theorem dX12_years_108 : decode cX12_years 108 = .ok (.aload_n 0, 1) := by decide +kernel
theorem dX12_years_109 : decode cX12_years 109 = .ok (.getfield 307, 3) := by decide +kernel
theorem dX12_years_112 : decode cX12_years 112 = .ok (.invokevirtual 426, 3) := by decide +kernel
theorem dX12_years_115 : decode cX12_years 115 = .ok (.istore 5, 2) := by decide +kernel
theorem dX12_years_117 : decode cX12_years 117 = .ok (.aload_n 0, 1) := by decide +kernel
theorem dX12_years_118 : decode cX12_years 118 = .ok (.getfield 61, 3) := by decide +kernel
theorem dX12_years_121 : decode cX12_years 121 = .ok (.iload 5, 2) := by decide +kernel
theorem dX12_years_123 : decode cX12_years 123 = .ok (.aload_n 0, 1) := by decide +kernel
theorem dX12_years_124 : decode cX12_years 124 = .ok (.aload_n 0, 1) := by decide +kernel
theorem dX12_years_125 : decode cX12_years 125 = .ok (.getfield 304, 3) := by decide +kernel
theorem dX12_years_128 : decode cX12_years 128 = .ok (.invokevirtual 426, 3) := by decide +kernel
theorem dX12_years_131 : decode cX12_years 131 = .ok (.iastore, 1) := by decide +kernel
theorem dX12_years_132 : decode cX12_years 132 = .ok (.aload_n 0, 1) := by decide +kernel
theorem dX12_years_133 : decode cX12_years 133 = .ok (.bipush 100, 2) := by decide +kernel
theorem dX12_years_135 : decode cX12_years 135 = .ok (.invokevirtual 426, 3) := by decide +kernel
theorem dX12_years_138 : decode cX12_years 138 = .ok (.iconst 3, 1) := by decide +kernel
theorem dX12_years_139 : decode cX12_years 139 = .ok (.if_icmp .ge 11, 3) := by decide +kernel
theorem dX12_years_142 : decode cX12_years 142 = .ok (.aload_n 0, 1) := by decide +kernel
theorem dX12_years_143 : decode cX12_years 143 = .ok (.getfield 61, 3) := by decide +kernel
theorem dX12_years_146 : decode cX12_years 146 = .ok (.bipush 20, 2) := by decide +kernel
theorem dX12_years_148 : decode cX12_years 148 = .ok (.iconst 1, 1) := by decide +kernel
theorem dX12_years_149 : decode cX12_years 149 = .ok (.iastore, 1) := by decide +kernel
theorem dX12_years_150 : decode cX12_years 150 = .ok (.aload_n 0, 1) := by decide +kernel
theorem dX12_years_151 : decode cX12_years 151 = .ok (.invokevirtual 399, 3) := by decide +kernel
theorem dX12_years_154 : decode cX12_years 154 = .ok (.istore 5, 2) := by decide +kernel
theorem dX12_years_156 : decode cX12_years 156 = .ok (.iinc 4 1, 3) := by decide +kernel
theorem dX12_years_159 : decode cX12_years 159 = .ok (.goto (-88), 3) := by decide +kernel
theorem dX12_years_162 : decode cX12_years 162 = .ok (.aload_n 0, 1) := by decide +kernel
theorem dX12_years_163 : decode cX12_years 163 = .ok (.getfield 61, 3) := by decide +kernel
theorem dX12_years_166 : decode cX12_years 166 = .ok (.bipush 25, 2) := by decide +kernel
theorem dX12_years_168 : decode cX12_years 168 = .ok (.iaload, 1) := by decide +kernel
theorem dX12_years_169 : decode cX12_years 169 = .ok (.ireturn, 1) := by decide +kernel
theorem dX12_status_0 : decode cX12_status 0 = .ok (.aload_n 0, 1) := by decide +kernel
theorem dX12_status_1 : decode cX12_status 1 = .ok (.iconst 0, 1) := by decide +kernel
theorem dX12_status_2 : decode cX12_status 2 = .ok (.putfield 109, 3) := by decide +kernel
theorem dX12_status_5 : decode cX12_status 5 = .ok (.iload_n 1, 1) := by decide +kernel
theorem dX12_status_6 : decode cX12_status 6 = .ok (.i2l, 1) := by decide +kernel
theorem dX12_status_7 : decode cX12_status 7 = .ok (.lconst 0, 1) := by decide +kernel
theorem dX12_status_8 : decode cX12_status 8 = .ok (.ldc2_w 429, 3) := by decide +kernel
theorem dX12_status_11 : decode cX12_status 11 = .ok (.invokestatic 230, 3) := by decide +kernel
theorem dX12_status_14 : decode cX12_status 14 = .ok (.ifCond .eq 12, 3) := by decide +kernel
theorem dX12_status_17 : decode cX12_status 17 = .ok (.aload_n 0, 1) := by decide +kernel
theorem dX12_status_18 : decode cX12_status 18 = .ok (.getfield 67, 3) := by decide +kernel
theorem dX12_status_21 : decode cX12_status 21 = .ok (.iload_n 1, 1) := by decide +kernel
theorem dX12_status_22 : decode cX12_status 22 = .ok (.iaload, 1) := by decide +kernel
theorem dX12_status_23 : decode cX12_status 23 = .ok (.goto 4, 3) := by decide +kernel
theorem dX12_status_26 : decode cX12_status 26 = .ok (.iconst (-1), 1) := by decide +kernel
theorem dX12_status_27 : decode cX12_status 27 = .ok (.ireturn, 1) := by decide +kernel
theorem dX12_undo_0 : decode cX12_undo 0 = .ok (.aload_n 0, 1) := by decide +kernel
theorem dX12_undo_1 : decode cX12_undo 1 = .ok (.iconst 0, 1) := by decide +kernel
theorem dX12_undo_2 : decode cX12_undo 2 = .ok (.putfield 109, 3) := by decide +kernel
theorem dX12_undo_5 : decode cX12_undo 5 = .ok (.aload_n 0, 1) := by decide +kernel
theorem dX12_undo_6 : decode cX12_undo 6 = .ok (.getfield 317, 3) := by decide +kernel
theorem dX12_undo_9 : decode cX12_undo 9 = .ok (.ifCond .ne 5, 3) := by decide +kernel
theorem dX12_undo_12 : decode cX12_undo 12 = .ok (.iconst (-1), 1) := by decide +kernel
theorem dX12_undo_13 : decode cX12_undo 13 = .ok (.ireturn, 1) := by decide +kernel
theorem dX12_undo_14 : decode cX12_undo 14 = .ok (.aload_n 0, 1) := by decide +kernel
theorem dX12_undo_15 : decode cX12_undo 15 = .ok (.dup, 1) := by decide +kernel
theorem dX12_undo_16 : decode cX12_undo 16 = .ok (.getfield 317, 3) := by decide +kernel
theorem dX12_undo_19 : decode cX12_undo 19 = .ok (.iconst 1, 1) := by decide +kernel
theorem dX12_undo_20 : decode cX12_undo 20 = .ok (.isub, 1) := by decide +kernel
theorem dX12_undo_21 : decode cX12_undo 21 = .ok (.putfield 317, 3) := by decide +kernel
theorem dX12_undo_24 : decode cX12_undo 24 = .ok (.iconst 0, 1) := by decide +kernel
theorem dX12_undo_25 : decode cX12_undo 25 = .ok (.istore_n 1, 1) := by decide +kernel
theorem dX12_undo_26 : decode cX12_undo 26 = .ok (.iload_n 1, 1) := by decide +kernel
theorem dX12_undo_27 : decode cX12_undo 27 = .ok (.sipush 417, 3) := by decide +kernel
theorem dX12_undo_30 : decode cX12_undo 30 = .ok (.if_icmp .ge 30, 3) := by decide +kernel
theorem dX12_undo_33 : decode cX12_undo 33 = .ok (.aload_n 0, 1) := by decide +kernel
theorem dX12_undo_34 : decode cX12_undo 34 = .ok (.getfield 61, 3) := by decide +kernel
theorem dX12_undo_37 : decode cX12_undo 37 = .ok (.iload_n 1, 1) := by decide +kernel
theorem dX12_undo_38 : decode cX12_undo 38 = .ok (.aload_n 0, 1) := by decide +kernel
theorem dX12_undo_39 : decode cX12_undo 39 = .ok (.getfield 84, 3) := by decide +kernel
theorem dX12_undo_42 : decode cX12_undo 42 = .ok (.sipush 417, 3) := by decide +kernel
theorem dX12_undo_45 : decode cX12_undo 45 = .ok (.aload_n 0, 1) := by decide +kernel
theorem dX12_undo_46 : decode cX12_undo 46 = .ok (.getfield 317, 3) := by decide +kernel
theorem dX12_undo_49 : decode cX12_undo 49 = .ok (.imul, 1) := by decide +kernel
theorem dX12_undo_50 : decode cX12_undo 50 = .ok (.iload_n 1, 1) := by decide +kernel
theorem dX12_undo_51 : decode cX12_undo 51 = .ok (.iadd, 1) := by decide +kernel
theorem dX12_undo_52 : decode cX12_undo 52 = .ok (.iaload, 1) := by decide +kernel
theorem dX12_undo_53 : decode cX12_undo 53 = .ok (.iastore, 1) := by decide +kernel
theorem dX12_undo_54 : decode cX12_undo 54 = .ok (.iinc 1 1, 3) := by decide +kernel
theorem dX12_undo_57 : decode cX12_undo 57 = .ok (.goto (-31), 3) := by decide +kernel
theorem dX12_undo_60 : decode cX12_undo 60 = .ok (.aload_n 0, 1) := by decide +kernel
theorem dX12_undo_61 : decode cX12_undo 61 = .ok (.getfield 317, 3) := by decide +kernel
theorem dX12_undo_64 : decode cX12_undo 64 = .ok (.ireturn, 1) := by decide +kernel
theorem dX12_log_0 : decode cX12_log 0 = .ok (.aload_n 0, 1) := by decide +kernel
theorem dX12_log_1 : decode cX12_log 1 = .ok (.iconst 0, 1) := by decide +kernel
theorem dX12_log_2 : decode cX12_log 2 = .ok (.putfield 109, 3) := by decide +kernel
theorem dX12_log_5 : decode cX12_log 5 = .ok (.iload_n 1, 1) := by decide +kernel
theorem dX12_log_6 : decode cX12_log 6 = .ok (.i2l, 1) := by decide +kernel
theorem dX12_log_7 : decode cX12_log 7 = .ok (.lconst 0, 1) := by decide +kernel
theorem dX12_log_8 : decode cX12_log 8 = .ok (.aload_n 0, 1) := by decide +kernel
theorem dX12_log_9 : decode cX12_log 9 = .ok (.getfield 61, 3) := by decide +kernel
theorem dX12_log_12 : decode cX12_log 12 = .ok (.sipush 236, 3) := by decide +kernel
theorem dX12_log_15 : decode cX12_log 15 = .ok (.iaload, 1) := by decide +kernel
theorem dX12_log_16 : decode cX12_log 16 = .ok (.iconst 1, 1) := by decide +kernel
theorem dX12_log_17 : decode cX12_log 17 = .ok (.isub, 1) := by decide +kernel
theorem dX12_log_18 : decode cX12_log 18 = .ok (.i2l, 1) := by decide +kernel
theorem dX12_log_19 : decode cX12_log 19 = .ok (.invokestatic 230, 3) := by decide +kernel
theorem dX12_log_22 : decode cX12_log 22 = .ok (.ifCond .eq 43, 3) := by decide +kernel
theorem dX12_log_25 : decode cX12_log 25 = .ok (.iload_n 2, 1) := by decide +kernel
theorem dX12_log_26 : decode cX12_log 26 = .ok (.i2l, 1) := by decide +kernel
theorem dX12_log_27 : decode cX12_log 27 = .ok (.lconst 0, 1) := by decide +kernel
theorem dX12_log_28 : decode cX12_log 28 = .ok (.ldc2_w 285, 3) := by decide +kernel
theorem dX12_log_31 : decode cX12_log 31 = .ok (.invokestatic 230, 3) := by decide +kernel
theorem dX12_log_34 : decode cX12_log 34 = .ok (.ifCond .eq 31, 3) := by decide +kernel
theorem dX12_log_37 : decode cX12_log 37 = .ok (.aload_n 0, 1) := by decide +kernel
theorem dX12_log_38 : decode cX12_log 38 = .ok (.getfield 61, 3) := by decide +kernel
theorem dX12_log_41 : decode cX12_log 41 = .ok (.sipush 237, 3) := by decide +kernel
theorem dX12_log_44 : decode cX12_log 44 = .ok (.iconst 3, 1) := by decide +kernel
theorem dX12_log_45 : decode cX12_log 45 = .ok (.aload_n 0, 1) := by decide +kernel
theorem dX12_log_46 : decode cX12_log 46 = .ok (.getfield 61, 3) := by decide +kernel
theorem dX12_log_49 : decode cX12_log 49 = .ok (.sipush 236, 3) := by decide +kernel
theorem dX12_log_52 : decode cX12_log 52 = .ok (.iaload, 1) := by decide +kernel
theorem dX12_log_53 : decode cX12_log 53 = .ok (.iconst 1, 1) := by decide +kernel
theorem dX12_log_54 : decode cX12_log 54 = .ok (.isub, 1) := by decide +kernel
theorem dX12_log_55 : decode cX12_log 55 = .ok (.iload_n 1, 1) := by decide +kernel
theorem dX12_log_56 : decode cX12_log 56 = .ok (.isub, 1) := by decide +kernel
theorem dX12_log_57 : decode cX12_log 57 = .ok (.imul, 1) := by decide +kernel
theorem dX12_log_58 : decode cX12_log 58 = .ok (.iadd, 1) := by decide +kernel
theorem dX12_log_59 : decode cX12_log 59 = .ok (.iload_n 2, 1) := by decide +kernel
theorem dX12_log_60 : decode cX12_log 60 = .ok (.iadd, 1) := by decide +kernel
theorem dX12_log_61 : decode cX12_log 61 = .ok (.iaload, 1) := by decide +kernel
theorem dX12_log_62 : decode cX12_log 62 = .ok (.goto 6, 3) := by decide +kernel
theorem dX12_log_65 : decode cX12_log 65 = .ok (.ldc_w 380, 3) := by decide +kernel
theorem dX12_log_68 : decode cX12_log 68 = .ok (.ireturn, 1) := by decide +kernel
theorem dX12_isPlan_0 : decode cX12_isPlan 0 = .ok (.iload_n 1, 1) := by decide +kernel
theorem dX12_isPlan_1 : decode cX12_isPlan 1 = .ok (.ifCond .lt 15, 3) := by decide +kernel
theorem dX12_isPlan_4 : decode cX12_isPlan 4 = .ok (.iload_n 1, 1) := by decide +kernel
theorem dX12_isPlan_5 : decode cX12_isPlan 5 = .ok (.aload_n 0, 1) := by decide +kernel
theorem dX12_isPlan_6 : decode cX12_isPlan 6 = .ok (.getfield 299, 3) := by decide +kernel
theorem dX12_isPlan_9 : decode cX12_isPlan 9 = .ok (.if_icmp .ge 7, 3) := by decide +kernel
theorem dX12_isPlan_12 : decode cX12_isPlan 12 = .ok (.iconst 1, 1) := by decide +kernel
theorem dX12_isPlan_13 : decode cX12_isPlan 13 = .ok (.goto 4, 3) := by decide +kernel
theorem dX12_isPlan_16 : decode cX12_isPlan 16 = .ok (.iconst 0, 1) := by decide +kernel
theorem dX12_isPlan_17 : decode cX12_isPlan 17 = .ok (.ireturn, 1) := by decide +kernel
theorem dX12_step_0 : decode cX12_step 0 = .ok (.aload_n 0, 1) := by decide +kernel
theorem dX12_step_1 : decode cX12_step 1 = .ok (.iconst 0, 1) := by decide +kernel
theorem dX12_step_2 : decode cX12_step 2 = .ok (.putfield 109, 3) := by decide +kernel
theorem dX12_step_5 : decode cX12_step 5 = .ok (.aload_n 0, 1) := by decide +kernel
theorem dX12_step_6 : decode cX12_step 6 = .ok (.iload_n 1, 1) := by decide +kernel
theorem dX12_step_7 : decode cX12_step 7 = .ok (.invokevirtual 431, 3) := by decide +kernel
theorem dX12_step_10 : decode cX12_step 10 = .ok (.ifCond .eq 51, 3) := by decide +kernel
theorem dX12_step_13 : decode cX12_step 13 = .ok (.iload_n 2, 1) := by decide +kernel
theorem dX12_step_14 : decode cX12_step 14 = .ok (.i2l, 1) := by decide +kernel
theorem dX12_step_15 : decode cX12_step 15 = .ok (.lconst 0, 1) := by decide +kernel
theorem dX12_step_16 : decode cX12_step 16 = .ok (.aload_n 0, 1) := by decide +kernel
theorem dX12_step_17 : decode cX12_step 17 = .ok (.getfield 58, 3) := by decide +kernel
theorem dX12_step_20 : decode cX12_step 20 = .ok (.iload_n 1, 1) := by decide +kernel
theorem dX12_step_21 : decode cX12_step 21 = .ok (.iaload, 1) := by decide +kernel
theorem dX12_step_22 : decode cX12_step 22 = .ok (.iconst 1, 1) := by decide +kernel
theorem dX12_step_23 : decode cX12_step 23 = .ok (.isub, 1) := by decide +kernel
theorem dX12_step_24 : decode cX12_step 24 = .ok (.i2l, 1) := by decide +kernel
theorem dX12_step_25 : decode cX12_step 25 = .ok (.invokestatic 230, 3) := by decide +kernel
theorem dX12_step_28 : decode cX12_step 28 = .ok (.ifCond .eq 33, 3) := by decide +kernel
theorem dX12_step_31 : decode cX12_step 31 = .ok (.iload_n 3, 1) := by decide +kernel
theorem dX12_step_32 : decode cX12_step 32 = .ok (.i2l, 1) := by decide +kernel
theorem dX12_step_33 : decode cX12_step 33 = .ok (.lconst 0, 1) := by decide +kernel
theorem dX12_step_34 : decode cX12_step 34 = .ok (.ldc2_w 285, 3) := by decide +kernel
theorem dX12_step_37 : decode cX12_step 37 = .ok (.invokestatic 230, 3) := by decide +kernel
theorem dX12_step_40 : decode cX12_step 40 = .ok (.ifCond .eq 21, 3) := by decide +kernel
theorem dX12_step_43 : decode cX12_step 43 = .ok (.aload_n 0, 1) := by decide +kernel
theorem dX12_step_44 : decode cX12_step 44 = .ok (.getfield 55, 3) := by decide +kernel
theorem dX12_step_47 : decode cX12_step 47 = .ok (.iconst 3, 1) := by decide +kernel
theorem dX12_step_48 : decode cX12_step 48 = .ok (.bipush 20, 2) := by decide +kernel
theorem dX12_step_50 : decode cX12_step 50 = .ok (.iload_n 1, 1) := by decide +kernel
theorem dX12_step_51 : decode cX12_step 51 = .ok (.imul, 1) := by decide +kernel
theorem dX12_step_52 : decode cX12_step 52 = .ok (.iload_n 2, 1) := by decide +kernel
theorem dX12_step_53 : decode cX12_step 53 = .ok (.iadd, 1) := by decide +kernel
theorem dX12_step_54 : decode cX12_step 54 = .ok (.imul, 1) := by decide +kernel
theorem dX12_step_55 : decode cX12_step 55 = .ok (.iload_n 3, 1) := by decide +kernel
theorem dX12_step_56 : decode cX12_step 56 = .ok (.iadd, 1) := by decide +kernel
theorem dX12_step_57 : decode cX12_step 57 = .ok (.iaload, 1) := by decide +kernel
theorem dX12_step_58 : decode cX12_step 58 = .ok (.goto 6, 3) := by decide +kernel
theorem dX12_step_61 : decode cX12_step 61 = .ok (.ldc_w 380, 3) := by decide +kernel
theorem dX12_step_64 : decode cX12_step 64 = .ok (.ireturn, 1) := by decide +kernel
theorem dX12_canStep_0 : decode cX12_canStep 0 = .ok (.aload_n 0, 1) := by decide +kernel
theorem dX12_canStep_1 : decode cX12_canStep 1 = .ok (.getfield 55, 3) := by decide +kernel
theorem dX12_canStep_4 : decode cX12_canStep 4 = .ok (.iload_n 2, 1) := by decide +kernel
theorem dX12_canStep_5 : decode cX12_canStep 5 = .ok (.iconst 1, 1) := by decide +kernel
theorem dX12_canStep_6 : decode cX12_canStep 6 = .ok (.iadd, 1) := by decide +kernel
theorem dX12_canStep_7 : decode cX12_canStep 7 = .ok (.iaload, 1) := by decide +kernel
theorem dX12_canStep_8 : decode cX12_canStep 8 = .ok (.istore_n 3, 1) := by decide +kernel
theorem dX12_canStep_9 : decode cX12_canStep 9 = .ok (.aload_n 0, 1) := by decide +kernel
theorem dX12_canStep_10 : decode cX12_canStep 10 = .ok (.getfield 55, 3) := by decide +kernel
theorem dX12_canStep_13 : decode cX12_canStep 13 = .ok (.iload_n 2, 1) := by decide +kernel
theorem dX12_canStep_14 : decode cX12_canStep 14 = .ok (.iaload, 1) := by decide +kernel
theorem dX12_canStep_15 : decode cX12_canStep 15 = .ok (.tableswitch 100 0 4 #[33, 39, 63, 69, 85], 33) := by decide +kernel
theorem dX12_canStep_48 : decode cX12_canStep 48 = .ok (.aload_n 0, 1) := by decide +kernel
theorem dX12_canStep_49 : decode cX12_canStep 49 = .ok (.aload_n 1, 1) := by decide +kernel
theorem dX12_canStep_50 : decode cX12_canStep 50 = .ok (.invokevirtual 392, 3) := by decide +kernel
theorem dX12_canStep_53 : decode cX12_canStep 53 = .ok (.ireturn, 1) := by decide +kernel
theorem dX12_canStep_54 : decode cX12_canStep 54 = .ok (.aload_n 0, 1) := by decide +kernel
theorem dX12_canStep_55 : decode cX12_canStep 55 = .ok (.aload_n 1, 1) := by decide +kernel
theorem dX12_canStep_56 : decode cX12_canStep 56 = .ok (.iload_n 3, 1) := by decide +kernel
theorem dX12_canStep_57 : decode cX12_canStep 57 = .ok (.aload_n 0, 1) := by decide +kernel
theorem dX12_canStep_58 : decode cX12_canStep 58 = .ok (.getfield 55, 3) := by decide +kernel
theorem dX12_canStep_61 : decode cX12_canStep 61 = .ok (.iload_n 2, 1) := by decide +kernel
theorem dX12_canStep_62 : decode cX12_canStep 62 = .ok (.iconst 2, 1) := by decide +kernel
theorem dX12_canStep_63 : decode cX12_canStep 63 = .ok (.iadd, 1) := by decide +kernel
theorem dX12_canStep_64 : decode cX12_canStep 64 = .ok (.iaload, 1) := by decide +kernel
theorem dX12_canStep_65 : decode cX12_canStep 65 = .ok (.invokevirtual 402, 3) := by decide +kernel
theorem dX12_canStep_68 : decode cX12_canStep 68 = .ok (.iconst (-1), 1) := by decide +kernel
theorem dX12_canStep_69 : decode cX12_canStep 69 = .ok (.if_icmp .ne 7, 3) := by decide +kernel
theorem dX12_canStep_72 : decode cX12_canStep 72 = .ok (.iconst 1, 1) := by decide +kernel
theorem dX12_canStep_73 : decode cX12_canStep 73 = .ok (.goto 4, 3) := by decide +kernel
theorem dX12_canStep_76 : decode cX12_canStep 76 = .ok (.iconst 0, 1) := by decide +kernel
theorem dX12_canStep_77 : decode cX12_canStep 77 = .ok (.ireturn, 1) := by decide +kernel
theorem dX12_canStep_78 : decode cX12_canStep 78 = .ok (.aload_n 0, 1) := by decide +kernel
theorem dX12_canStep_79 : decode cX12_canStep 79 = .ok (.iload_n 3, 1) := by decide +kernel
theorem dX12_canStep_80 : decode cX12_canStep 80 = .ok (.invokevirtual 384, 3) := by decide +kernel
theorem dX12_canStep_83 : decode cX12_canStep 83 = .ok (.ireturn, 1) := by decide +kernel
theorem dX12_canStep_84 : decode cX12_canStep 84 = .ok (.aload_n 0, 1) := by decide +kernel
theorem dX12_canStep_85 : decode cX12_canStep 85 = .ok (.aload_n 1, 1) := by decide +kernel
theorem dX12_canStep_86 : decode cX12_canStep 86 = .ok (.iload_n 3, 1) := by decide +kernel
theorem dX12_canStep_87 : decode cX12_canStep 87 = .ok (.invokevirtual 405, 3) := by decide +kernel
theorem dX12_canStep_90 : decode cX12_canStep 90 = .ok (.iconst (-1), 1) := by decide +kernel
theorem dX12_canStep_91 : decode cX12_canStep 91 = .ok (.if_icmp .ne 7, 3) := by decide +kernel
theorem dX12_canStep_94 : decode cX12_canStep 94 = .ok (.iconst 1, 1) := by decide +kernel
theorem dX12_canStep_95 : decode cX12_canStep 95 = .ok (.goto 4, 3) := by decide +kernel
theorem dX12_canStep_98 : decode cX12_canStep 98 = .ok (.iconst 0, 1) := by decide +kernel
theorem dX12_canStep_99 : decode cX12_canStep 99 = .ok (.ireturn, 1) := by decide +kernel
theorem dX12_canStep_100 : decode cX12_canStep 100 = .ok (.aload_n 0, 1) := by decide +kernel
theorem dX12_canStep_101 : decode cX12_canStep 101 = .ok (.aload_n 1, 1) := by decide +kernel
theorem dX12_canStep_102 : decode cX12_canStep 102 = .ok (.invokevirtual 408, 3) := by decide +kernel
theorem dX12_canStep_105 : decode cX12_canStep 105 = .ok (.iconst (-1), 1) := by decide +kernel
theorem dX12_canStep_106 : decode cX12_canStep 106 = .ok (.if_icmp .ne 7, 3) := by decide +kernel
theorem dX12_canStep_109 : decode cX12_canStep 109 = .ok (.iconst 1, 1) := by decide +kernel
theorem dX12_canStep_110 : decode cX12_canStep 110 = .ok (.goto 4, 3) := by decide +kernel
theorem dX12_canStep_113 : decode cX12_canStep 113 = .ok (.iconst 0, 1) := by decide +kernel
theorem dX12_canStep_114 : decode cX12_canStep 114 = .ok (.ireturn, 1) := by decide +kernel
theorem dX12_canStep_115 : decode cX12_canStep 115 = .ok (.aload_n 0, 1) := by decide +kernel
theorem dX12_canStep_116 : decode cX12_canStep 116 = .ok (.aload_n 1, 1) := by decide +kernel
theorem dX12_canStep_117 : decode cX12_canStep 117 = .ok (.iload_n 3, 1) := by decide +kernel
theorem dX12_canStep_118 : decode cX12_canStep 118 = .ok (.invokevirtual 411, 3) := by decide +kernel
theorem dX12_canStep_121 : decode cX12_canStep 121 = .ok (.iconst (-1), 1) := by decide +kernel
theorem dX12_canStep_122 : decode cX12_canStep 122 = .ok (.if_icmp .ne 7, 3) := by decide +kernel
theorem dX12_canStep_125 : decode cX12_canStep 125 = .ok (.iconst 1, 1) := by decide +kernel
theorem dX12_canStep_126 : decode cX12_canStep 126 = .ok (.goto 4, 3) := by decide +kernel
theorem dX12_canStep_129 : decode cX12_canStep 129 = .ok (.iconst 0, 1) := by decide +kernel
theorem dX12_canStep_130 : decode cX12_canStep 130 = .ok (.ireturn, 1) := by decide +kernel
theorem dX12_goStep_0 : decode cX12_goStep 0 = .ok (.aload_n 0, 1) := by decide +kernel
theorem dX12_goStep_1 : decode cX12_goStep 1 = .ok (.getfield 55, 3) := by decide +kernel
theorem dX12_goStep_4 : decode cX12_goStep 4 = .ok (.iload_n 2, 1) := by decide +kernel
theorem dX12_goStep_5 : decode cX12_goStep 5 = .ok (.iconst 1, 1) := by decide +kernel
theorem dX12_goStep_6 : decode cX12_goStep 6 = .ok (.iadd, 1) := by decide +kernel
theorem dX12_goStep_7 : decode cX12_goStep 7 = .ok (.iaload, 1) := by decide +kernel
theorem dX12_goStep_8 : decode cX12_goStep 8 = .ok (.istore_n 3, 1) := by decide +kernel
theorem dX12_goStep_9 : decode cX12_goStep 9 = .ok (.aload_n 0, 1) := by decide +kernel
theorem dX12_goStep_10 : decode cX12_goStep 10 = .ok (.getfield 55, 3) := by decide +kernel
theorem dX12_goStep_13 : decode cX12_goStep 13 = .ok (.iload_n 2, 1) := by decide +kernel
theorem dX12_goStep_14 : decode cX12_goStep 14 = .ok (.iaload, 1) := by decide +kernel
theorem dX12_goStep_15 : decode cX12_goStep 15 = .ok (.iconst 1, 1) := by decide +kernel
theorem dX12_goStep_16 : decode cX12_goStep 16 = .ok (.if_icmp .ne 22, 3) := by decide +kernel
theorem dX12_goStep_19 : decode cX12_goStep 19 = .ok (.aload_n 1, 1) := by decide +kernel
theorem dX12_goStep_20 : decode cX12_goStep 20 = .ok (.bipush 22, 2) := by decide +kernel
theorem dX12_goStep_22 : decode cX12_goStep 22 = .ok (.dup2, 1) := by decide +kernel
theorem dX12_goStep_23 : decode cX12_goStep 23 = .ok (.iaload, 1) := by decide +kernel
theorem dX12_goStep_24 : decode cX12_goStep 24 = .ok (.iconst 1, 1) := by decide +kernel
theorem dX12_goStep_25 : decode cX12_goStep 25 = .ok (.isub, 1) := by decide +kernel
theorem dX12_goStep_26 : decode cX12_goStep 26 = .ok (.iastore, 1) := by decide +kernel
theorem dX12_goStep_27 : decode cX12_goStep 27 = .ok (.aload_n 1, 1) := by decide +kernel
theorem dX12_goStep_28 : decode cX12_goStep 28 = .ok (.iload_n 3, 1) := by decide +kernel
theorem dX12_goStep_29 : decode cX12_goStep 29 = .ok (.aload_n 0, 1) := by decide +kernel
theorem dX12_goStep_30 : decode cX12_goStep 30 = .ok (.getfield 55, 3) := by decide +kernel
theorem dX12_goStep_33 : decode cX12_goStep 33 = .ok (.iload_n 2, 1) := by decide +kernel
theorem dX12_goStep_34 : decode cX12_goStep 34 = .ok (.iconst 2, 1) := by decide +kernel
theorem dX12_goStep_35 : decode cX12_goStep 35 = .ok (.iadd, 1) := by decide +kernel
theorem dX12_goStep_36 : decode cX12_goStep 36 = .ok (.iaload, 1) := by decide +kernel
theorem dX12_goStep_37 : decode cX12_goStep 37 = .ok (.iastore, 1) := by decide +kernel
theorem dX12_goStep_38 : decode cX12_goStep 38 = .ok (.aload_n 0, 1) := by decide +kernel
theorem dX12_goStep_39 : decode cX12_goStep 39 = .ok (.getfield 55, 3) := by decide +kernel
theorem dX12_goStep_42 : decode cX12_goStep 42 = .ok (.iload_n 2, 1) := by decide +kernel
theorem dX12_goStep_43 : decode cX12_goStep 43 = .ok (.iaload, 1) := by decide +kernel
theorem dX12_goStep_44 : decode cX12_goStep 44 = .ok (.iconst 2, 1) := by decide +kernel
theorem dX12_goStep_45 : decode cX12_goStep 45 = .ok (.if_icmp .ne 13, 3) := by decide +kernel
theorem dX12_goStep_48 : decode cX12_goStep 48 = .ok (.aload_n 1, 1) := by decide +kernel
theorem dX12_goStep_49 : decode cX12_goStep 49 = .ok (.bipush 18, 2) := by decide +kernel
theorem dX12_goStep_51 : decode cX12_goStep 51 = .ok (.dup2, 1) := by decide +kernel
theorem dX12_goStep_52 : decode cX12_goStep 52 = .ok (.iaload, 1) := by decide +kernel
theorem dX12_goStep_53 : decode cX12_goStep 53 = .ok (.iconst 1, 1) := by decide +kernel
theorem dX12_goStep_54 : decode cX12_goStep 54 = .ok (.iload_n 3, 1) := by decide +kernel
theorem dX12_goStep_55 : decode cX12_goStep 55 = .ok (.ishl, 1) := by decide +kernel
theorem dX12_goStep_56 : decode cX12_goStep 56 = .ok (.ixor, 1) := by decide +kernel
theorem dX12_goStep_57 : decode cX12_goStep 57 = .ok (.iastore, 1) := by decide +kernel
theorem dX12_goStep_58 : decode cX12_goStep 58 = .ok (.aload_n 0, 1) := by decide +kernel
theorem dX12_goStep_59 : decode cX12_goStep 59 = .ok (.getfield 55, 3) := by decide +kernel
theorem dX12_goStep_62 : decode cX12_goStep 62 = .ok (.iload_n 2, 1) := by decide +kernel
theorem dX12_goStep_63 : decode cX12_goStep 63 = .ok (.iaload, 1) := by decide +kernel
theorem dX12_goStep_64 : decode cX12_goStep 64 = .ok (.iconst 3, 1) := by decide +kernel
theorem dX12_goStep_65 : decode cX12_goStep 65 = .ok (.if_icmp .ne 8, 3) := by decide +kernel
theorem dX12_goStep_68 : decode cX12_goStep 68 = .ok (.aload_n 1, 1) := by decide +kernel
theorem dX12_goStep_69 : decode cX12_goStep 69 = .ok (.bipush 19, 2) := by decide +kernel
theorem dX12_goStep_71 : decode cX12_goStep 71 = .ok (.iload_n 3, 1) := by decide +kernel
theorem dX12_goStep_72 : decode cX12_goStep 72 = .ok (.iastore, 1) := by decide +kernel
theorem dX12_goStep_73 : decode cX12_goStep 73 = .ok (.aload_n 0, 1) := by decide +kernel
theorem dX12_goStep_74 : decode cX12_goStep 74 = .ok (.getfield 55, 3) := by decide +kernel
theorem dX12_goStep_77 : decode cX12_goStep 77 = .ok (.iload_n 2, 1) := by decide +kernel
theorem dX12_goStep_78 : decode cX12_goStep 78 = .ok (.iaload, 1) := by decide +kernel
theorem dX12_goStep_79 : decode cX12_goStep 79 = .ok (.iconst 4, 1) := by decide +kernel
theorem dX12_goStep_80 : decode cX12_goStep 80 = .ok (.if_icmp .ne 17, 3) := by decide +kernel
theorem dX12_goStep_83 : decode cX12_goStep 83 = .ok (.aload_n 1, 1) := by decide +kernel
theorem dX12_goStep_84 : decode cX12_goStep 84 = .ok (.bipush 20, 2) := by decide +kernel
theorem dX12_goStep_86 : decode cX12_goStep 86 = .ok (.iconst 1, 1) := by decide +kernel
theorem dX12_goStep_87 : decode cX12_goStep 87 = .ok (.iastore, 1) := by decide +kernel
theorem dX12_goStep_88 : decode cX12_goStep 88 = .ok (.aload_n 1, 1) := by decide +kernel
theorem dX12_goStep_89 : decode cX12_goStep 89 = .ok (.bipush 22, 2) := by decide +kernel
theorem dX12_goStep_91 : decode cX12_goStep 91 = .ok (.dup2, 1) := by decide +kernel
theorem dX12_goStep_92 : decode cX12_goStep 92 = .ok (.iaload, 1) := by decide +kernel
theorem dX12_goStep_93 : decode cX12_goStep 93 = .ok (.bipush 10, 2) := by decide +kernel
theorem dX12_goStep_95 : decode cX12_goStep 95 = .ok (.isub, 1) := by decide +kernel
theorem dX12_goStep_96 : decode cX12_goStep 96 = .ok (.iastore, 1) := by decide +kernel
theorem dX12_goStep_97 : decode cX12_goStep 97 = .ok (.aload_n 0, 1) := by decide +kernel
theorem dX12_goStep_98 : decode cX12_goStep 98 = .ok (.getfield 55, 3) := by decide +kernel
theorem dX12_goStep_101 : decode cX12_goStep 101 = .ok (.iload_n 2, 1) := by decide +kernel
theorem dX12_goStep_102 : decode cX12_goStep 102 = .ok (.iaload, 1) := by decide +kernel
theorem dX12_goStep_103 : decode cX12_goStep 103 = .ok (.iconst 5, 1) := by decide +kernel
theorem dX12_goStep_104 : decode cX12_goStep 104 = .ok (.if_icmp .ne 19, 3) := by decide +kernel
theorem dX12_goStep_107 : decode cX12_goStep 107 = .ok (.aload_n 1, 1) := by decide +kernel
theorem dX12_goStep_108 : decode cX12_goStep 108 = .ok (.bipush 21, 2) := by decide +kernel
theorem dX12_goStep_110 : decode cX12_goStep 110 = .ok (.dup2, 1) := by decide +kernel
theorem dX12_goStep_111 : decode cX12_goStep 111 = .ok (.iaload, 1) := by decide +kernel
theorem dX12_goStep_112 : decode cX12_goStep 112 = .ok (.iload_n 3, 1) := by decide +kernel
theorem dX12_goStep_113 : decode cX12_goStep 113 = .ok (.iadd, 1) := by decide +kernel
theorem dX12_goStep_114 : decode cX12_goStep 114 = .ok (.iastore, 1) := by decide +kernel
theorem dX12_goStep_115 : decode cX12_goStep 115 = .ok (.aload_n 1, 1) := by decide +kernel
theorem dX12_goStep_116 : decode cX12_goStep 116 = .ok (.bipush 22, 2) := by decide +kernel
theorem dX12_goStep_118 : decode cX12_goStep 118 = .ok (.dup2, 1) := by decide +kernel
theorem dX12_goStep_119 : decode cX12_goStep 119 = .ok (.iaload, 1) := by decide +kernel
theorem dX12_goStep_120 : decode cX12_goStep 120 = .ok (.iload_n 3, 1) := by decide +kernel
theorem dX12_goStep_121 : decode cX12_goStep 121 = .ok (.isub, 1) := by decide +kernel
theorem dX12_goStep_122 : decode cX12_goStep 122 = .ok (.iastore, 1) := by decide +kernel
theorem dX12_goStep_123 : decode cX12_goStep 123 = .ok (.return_, 1) := by decide +kernel
theorem dX12_run_0 : decode cX12_run 0 = .ok (.aload_n 0, 1) := by decide +kernel
theorem dX12_run_1 : decode cX12_run 1 = .ok (.iconst 0, 1) := by decide +kernel
theorem dX12_run_2 : decode cX12_run 2 = .ok (.putfield 109, 3) := by decide +kernel
theorem dX12_run_5 : decode cX12_run 5 = .ok (.aload_n 0, 1) := by decide +kernel
theorem dX12_run_6 : decode cX12_run 6 = .ok (.iload_n 1, 1) := by decide +kernel
theorem dX12_run_7 : decode cX12_run 7 = .ok (.invokevirtual 431, 3) := by decide +kernel
theorem dX12_run_10 : decode cX12_run 10 = .ok (.ifCond .eq 20, 3) := by decide +kernel
theorem dX12_run_13 : decode cX12_run 13 = .ok (.aload_n 0, 1) := by decide +kernel
theorem dX12_run_14 : decode cX12_run 14 = .ok (.getfield 307, 3) := by decide +kernel
theorem dX12_run_17 : decode cX12_run 17 = .ok (.ifCond .eq 13, 3) := by decide +kernel
theorem dX12_run_20 : decode cX12_run 20 = .ok (.iload_n 2, 1) := by decide +kernel
theorem dX12_run_21 : decode cX12_run 21 = .ok (.i2l, 1) := by decide +kernel
theorem dX12_run_22 : decode cX12_run 22 = .ok (.lconst 0, 1) := by decide +kernel
theorem dX12_run_23 : decode cX12_run 23 = .ok (.lconst 1, 1) := by decide +kernel
theorem dX12_run_24 : decode cX12_run 24 = .ok (.invokestatic 230, 3) := by decide +kernel
theorem dX12_run_27 : decode cX12_run 27 = .ok (.ifCond .ne 7, 3) := by decide +kernel
theorem dX12_run_30 : decode cX12_run 30 = .ok (.ldc_w 380, 3) := by decide +kernel
theorem dX12_run_33 : decode cX12_run 33 = .ok (.ireturn, 1) := by decide +kernel
theorem dX12_run_34 : decode cX12_run 34 = .ok (.aload_n 0, 1) := by decide +kernel
theorem dX12_run_35 : decode cX12_run 35 = .ok (.getfield 61, 3) := by decide +kernel
theorem dX12_run_38 : decode cX12_run 38 = .ok (.aload_n 0, 1) := by decide +kernel
theorem dX12_run_39 : decode cX12_run 39 = .ok (.getfield 64, 3) := by decide +kernel
theorem dX12_run_42 : decode cX12_run 42 = .ok (.invokestatic 434, 3) := by decide +kernel
theorem dX12_run_45 : decode cX12_run 45 = .ok (.iconst 0, 1) := by decide +kernel
theorem dX12_run_46 : decode cX12_run 46 = .ok (.istore_n 3, 1) := by decide +kernel
theorem dX12_run_47 : decode cX12_run 47 = .ok (.iconst 0, 1) := by decide +kernel
theorem dX12_run_48 : decode cX12_run 48 = .ok (.istore 4, 2) := by decide +kernel
theorem dX12_run_50 : decode cX12_run 50 = .ok (.iload_n 3, 1) := by decide +kernel
theorem dX12_run_51 : decode cX12_run 51 = .ok (.aload_n 0, 1) := by decide +kernel
theorem dX12_run_52 : decode cX12_run 52 = .ok (.getfield 58, 3) := by decide +kernel
theorem dX12_run_55 : decode cX12_run 55 = .ok (.iload_n 1, 1) := by decide +kernel
theorem dX12_run_56 : decode cX12_run 56 = .ok (.iaload, 1) := by decide +kernel
theorem dX12_run_57 : decode cX12_run 57 = .ok (.if_icmp .ge 73, 3) := by decide +kernel
theorem dX12_run_60 : decode cX12_run 60 = .ok (.aload_n 0, 1) := by decide +kernel
theorem dX12_run_61 : decode cX12_run 61 = .ok (.aload_n 0, 1) := by decide +kernel
theorem dX12_run_62 : decode cX12_run 62 = .ok (.getfield 64, 3) := by decide +kernel
theorem dX12_run_65 : decode cX12_run 65 = .ok (.iconst 3, 1) := by decide +kernel
theorem dX12_run_66 : decode cX12_run 66 = .ok (.bipush 20, 2) := by decide +kernel
theorem dX12_run_68 : decode cX12_run 68 = .ok (.iload_n 1, 1) := by decide +kernel
theorem dX12_run_69 : decode cX12_run 69 = .ok (.imul, 1) := by decide +kernel
theorem dX12_run_70 : decode cX12_run 70 = .ok (.iload_n 3, 1) := by decide +kernel
theorem dX12_run_71 : decode cX12_run 71 = .ok (.iadd, 1) := by decide +kernel
theorem dX12_run_72 : decode cX12_run 72 = .ok (.imul, 1) := by decide +kernel
theorem dX12_run_73 : decode cX12_run 73 = .ok (.invokevirtual 438, 3) := by decide +kernel
theorem dX12_run_76 : decode cX12_run 76 = .ok (.ifCond .eq 54, 3) := by decide +kernel
theorem dX12_run_79 : decode cX12_run 79 = .ok (.aload_n 0, 1) := by decide +kernel
theorem dX12_run_80 : decode cX12_run 80 = .ok (.getfield 55, 3) := by decide +kernel
theorem dX12_run_83 : decode cX12_run 83 = .ok (.iconst 3, 1) := by decide +kernel
theorem dX12_run_84 : decode cX12_run 84 = .ok (.bipush 20, 2) := by decide +kernel
theorem dX12_run_86 : decode cX12_run 86 = .ok (.iload_n 1, 1) := by decide +kernel
theorem dX12_run_87 : decode cX12_run 87 = .ok (.imul, 1) := by decide +kernel
theorem dX12_run_88 : decode cX12_run 88 = .ok (.iload_n 3, 1) := by decide +kernel
theorem dX12_run_89 : decode cX12_run 89 = .ok (.iadd, 1) := by decide +kernel
theorem dX12_run_90 : decode cX12_run 90 = .ok (.imul, 1) := by decide +kernel
theorem dX12_run_91 : decode cX12_run 91 = .ok (.iaload, 1) := by decide +kernel
theorem dX12_run_92 : decode cX12_run 92 = .ok (.ifCond .ne 16, 3) := by decide +kernel
theorem dX12_run_95 : decode cX12_run 95 = .ok (.aload_n 0, 1) := by decide +kernel
theorem dX12_run_96 : decode cX12_run 96 = .ok (.aload_n 0, 1) := by decide +kernel
theorem dX12_run_97 : decode cX12_run 97 = .ok (.getfield 64, 3) := by decide +kernel
theorem dX12_run_100 : decode cX12_run 100 = .ok (.invokevirtual 372, 3) := by decide +kernel
theorem dX12_run_103 : decode cX12_run 103 = .ok (.istore 4, 2) := by decide +kernel
theorem dX12_run_105 : decode cX12_run 105 = .ok (.goto 19, 3) := by decide +kernel
theorem dX12_run_108 : decode cX12_run 108 = .ok (.aload_n 0, 1) := by decide +kernel
theorem dX12_run_109 : decode cX12_run 109 = .ok (.aload_n 0, 1) := by decide +kernel
theorem dX12_run_110 : decode cX12_run 110 = .ok (.getfield 64, 3) := by decide +kernel
theorem dX12_run_113 : decode cX12_run 113 = .ok (.iconst 3, 1) := by decide +kernel
theorem dX12_run_114 : decode cX12_run 114 = .ok (.bipush 20, 2) := by decide +kernel
theorem dX12_run_116 : decode cX12_run 116 = .ok (.iload_n 1, 1) := by decide +kernel
theorem dX12_run_117 : decode cX12_run 117 = .ok (.imul, 1) := by decide +kernel
theorem dX12_run_118 : decode cX12_run 118 = .ok (.iload_n 3, 1) := by decide +kernel
theorem dX12_run_119 : decode cX12_run 119 = .ok (.iadd, 1) := by decide +kernel
theorem dX12_run_120 : decode cX12_run 120 = .ok (.imul, 1) := by decide +kernel
theorem dX12_run_121 : decode cX12_run 121 = .ok (.invokevirtual 442, 3) := by decide +kernel
theorem dX12_run_124 : decode cX12_run 124 = .ok (.iinc 3 1, 3) := by decide +kernel
theorem dX12_run_127 : decode cX12_run 127 = .ok (.goto (-77), 3) := by decide +kernel
theorem dX12_run_130 : decode cX12_run 130 = .ok (.iload_n 2, 1) := by decide +kernel
theorem dX12_run_131 : decode cX12_run 131 = .ok (.iconst 1, 1) := by decide +kernel
theorem dX12_run_132 : decode cX12_run 132 = .ok (.if_icmp .ne 19, 3) := by decide +kernel
theorem dX12_run_135 : decode cX12_run 135 = .ok (.aload_n 0, 1) := by decide +kernel
theorem dX12_run_136 : decode cX12_run 136 = .ok (.getfield 64, 3) := by decide +kernel
theorem dX12_run_139 : decode cX12_run 139 = .ok (.bipush 22, 2) := by decide +kernel
theorem dX12_run_141 : decode cX12_run 141 = .ok (.iaload, 1) := by decide +kernel
theorem dX12_run_142 : decode cX12_run 142 = .ok (.aload_n 0, 1) := by decide +kernel
theorem dX12_run_143 : decode cX12_run 143 = .ok (.getfield 61, 3) := by decide +kernel
theorem dX12_run_146 : decode cX12_run 146 = .ok (.bipush 22, 2) := by decide +kernel
theorem dX12_run_148 : decode cX12_run 148 = .ok (.iaload, 1) := by decide +kernel
theorem dX12_run_149 : decode cX12_run 149 = .ok (.isub, 1) := by decide +kernel
theorem dX12_run_150 : decode cX12_run 150 = .ok (.ireturn, 1) := by decide +kernel
theorem dX12_run_151 : decode cX12_run 151 = .ok (.iload_n 3, 1) := by decide +kernel
theorem dX12_run_152 : decode cX12_run 152 = .ok (.aload_n 0, 1) := by decide +kernel
theorem dX12_run_153 : decode cX12_run 153 = .ok (.getfield 58, 3) := by decide +kernel
theorem dX12_run_156 : decode cX12_run 156 = .ok (.iload_n 1, 1) := by decide +kernel
theorem dX12_run_157 : decode cX12_run 157 = .ok (.iaload, 1) := by decide +kernel
theorem dX12_run_158 : decode cX12_run 158 = .ok (.if_icmp .ne 7, 3) := by decide +kernel
theorem dX12_run_161 : decode cX12_run 161 = .ok (.iconst (-1), 1) := by decide +kernel
theorem dX12_run_162 : decode cX12_run 162 = .ok (.goto 4, 3) := by decide +kernel
theorem dX12_run_165 : decode cX12_run 165 = .ok (.iload_n 3, 1) := by decide +kernel
theorem dX12_run_166 : decode cX12_run 166 = .ok (.ireturn, 1) := by decide +kernel
theorem dX12_perform_0 : decode cX12_perform 0 = .ok (.aload_n 0, 1) := by decide +kernel
theorem dX12_perform_1 : decode cX12_perform 1 = .ok (.iconst 0, 1) := by decide +kernel
theorem dX12_perform_2 : decode cX12_perform 2 = .ok (.putfield 109, 3) := by decide +kernel
theorem dX12_perform_5 : decode cX12_perform 5 = .ok (.aload_n 0, 1) := by decide +kernel
theorem dX12_perform_6 : decode cX12_perform 6 = .ok (.iload_n 1, 1) := by decide +kernel
theorem dX12_perform_7 : decode cX12_perform 7 = .ok (.invokevirtual 431, 3) := by decide +kernel
theorem dX12_perform_10 : decode cX12_perform 10 = .ok (.ifCond .eq 10, 3) := by decide +kernel
theorem dX12_perform_13 : decode cX12_perform 13 = .ok (.aload_n 0, 1) := by decide +kernel
theorem dX12_perform_14 : decode cX12_perform 14 = .ok (.getfield 307, 3) := by decide +kernel
theorem dX12_perform_17 : decode cX12_perform 17 = .ok (.ifCond .ne 5, 3) := by decide +kernel
theorem dX12_perform_20 : decode cX12_perform 20 = .ok (.iconst (-1), 1) := by decide +kernel
theorem dX12_perform_21 : decode cX12_perform 21 = .ok (.ireturn, 1) := by decide +kernel
theorem dX12_perform_22 : decode cX12_perform 22 = .ok (.iconst 0, 1) := by decide +kernel
theorem dX12_perform_23 : decode cX12_perform 23 = .ok (.istore_n 2, 1) := by decide +kernel
theorem dX12_perform_24 : decode cX12_perform 24 = .ok (.iconst 0, 1) := by decide +kernel
theorem dX12_perform_25 : decode cX12_perform 25 = .ok (.istore_n 3, 1) := by decide +kernel
theorem dX12_perform_26 : decode cX12_perform 26 = .ok (.iload_n 2, 1) := by decide +kernel
theorem dX12_perform_27 : decode cX12_perform 27 = .ok (.aload_n 0, 1) := by decide +kernel
theorem dX12_perform_28 : decode cX12_perform 28 = .ok (.getfield 58, 3) := by decide +kernel
theorem dX12_perform_31 : decode cX12_perform 31 = .ok (.iload_n 1, 1) := by decide +kernel
theorem dX12_perform_32 : decode cX12_perform 32 = .ok (.iaload, 1) := by decide +kernel
theorem dX12_perform_33 : decode cX12_perform 33 = .ok (.if_icmp .ge 72, 3) := by decide +kernel
theorem dX12_perform_36 : decode cX12_perform 36 = .ok (.aload_n 0, 1) := by decide +kernel
theorem dX12_perform_37 : decode cX12_perform 37 = .ok (.aload_n 0, 1) := by decide +kernel
theorem dX12_perform_38 : decode cX12_perform 38 = .ok (.getfield 61, 3) := by decide +kernel
theorem dX12_perform_41 : decode cX12_perform 41 = .ok (.iconst 3, 1) := by decide +kernel
theorem dX12_perform_42 : decode cX12_perform 42 = .ok (.bipush 20, 2) := by decide +kernel
theorem dX12_perform_44 : decode cX12_perform 44 = .ok (.iload_n 1, 1) := by decide +kernel
theorem dX12_perform_45 : decode cX12_perform 45 = .ok (.imul, 1) := by decide +kernel
theorem dX12_perform_46 : decode cX12_perform 46 = .ok (.iload_n 2, 1) := by decide +kernel
theorem dX12_perform_47 : decode cX12_perform 47 = .ok (.iadd, 1) := by decide +kernel
theorem dX12_perform_48 : decode cX12_perform 48 = .ok (.imul, 1) := by decide +kernel
theorem dX12_perform_49 : decode cX12_perform 49 = .ok (.invokevirtual 438, 3) := by decide +kernel
theorem dX12_perform_52 : decode cX12_perform 52 = .ok (.ifCond .eq 53, 3) := by decide +kernel
theorem dX12_perform_55 : decode cX12_perform 55 = .ok (.aload_n 0, 1) := by decide +kernel
theorem dX12_perform_56 : decode cX12_perform 56 = .ok (.invokevirtual 396, 3) := by decide +kernel
theorem dX12_perform_59 : decode cX12_perform 59 = .ok (.aload_n 0, 1) := by decide +kernel
theorem dX12_perform_60 : decode cX12_perform 60 = .ok (.getfield 55, 3) := by decide +kernel
theorem dX12_perform_63 : decode cX12_perform 63 = .ok (.iconst 3, 1) := by decide +kernel
theorem dX12_perform_64 : decode cX12_perform 64 = .ok (.bipush 20, 2) := by decide +kernel
theorem dX12_perform_66 : decode cX12_perform 66 = .ok (.iload_n 1, 1) := by decide +kernel
theorem dX12_perform_67 : decode cX12_perform 67 = .ok (.imul, 1) := by decide +kernel
theorem dX12_perform_68 : decode cX12_perform 68 = .ok (.iload_n 2, 1) := by decide +kernel
theorem dX12_perform_69 : decode cX12_perform 69 = .ok (.iadd, 1) := by decide +kernel
theorem dX12_perform_70 : decode cX12_perform 70 = .ok (.imul, 1) := by decide +kernel
theorem dX12_perform_71 : decode cX12_perform 71 = .ok (.iaload, 1) := by decide +kernel
theorem dX12_perform_72 : decode cX12_perform 72 = .ok (.ifCond .ne 11, 3) := by decide +kernel
theorem dX12_perform_75 : decode cX12_perform 75 = .ok (.aload_n 0, 1) := by decide +kernel
theorem dX12_perform_76 : decode cX12_perform 76 = .ok (.invokevirtual 399, 3) := by decide +kernel
theorem dX12_perform_79 : decode cX12_perform 79 = .ok (.istore_n 3, 1) := by decide +kernel
theorem dX12_perform_80 : decode cX12_perform 80 = .ok (.goto 19, 3) := by decide +kernel
theorem dX12_perform_83 : decode cX12_perform 83 = .ok (.aload_n 0, 1) := by decide +kernel
theorem dX12_perform_84 : decode cX12_perform 84 = .ok (.aload_n 0, 1) := by decide +kernel
theorem dX12_perform_85 : decode cX12_perform 85 = .ok (.getfield 61, 3) := by decide +kernel
theorem dX12_perform_88 : decode cX12_perform 88 = .ok (.iconst 3, 1) := by decide +kernel
theorem dX12_perform_89 : decode cX12_perform 89 = .ok (.bipush 20, 2) := by decide +kernel
theorem dX12_perform_91 : decode cX12_perform 91 = .ok (.iload_n 1, 1) := by decide +kernel
theorem dX12_perform_92 : decode cX12_perform 92 = .ok (.imul, 1) := by decide +kernel
theorem dX12_perform_93 : decode cX12_perform 93 = .ok (.iload_n 2, 1) := by decide +kernel
theorem dX12_perform_94 : decode cX12_perform 94 = .ok (.iadd, 1) := by decide +kernel
theorem dX12_perform_95 : decode cX12_perform 95 = .ok (.imul, 1) := by decide +kernel
theorem dX12_perform_96 : decode cX12_perform 96 = .ok (.invokevirtual 442, 3) := by decide +kernel
theorem dX12_perform_99 : decode cX12_perform 99 = .ok (.iinc 2 1, 3) := by decide +kernel
theorem dX12_perform_102 : decode cX12_perform 102 = .ok (.goto (-76), 3) := by decide +kernel
theorem dX12_perform_105 : decode cX12_perform 105 = .ok (.iload_n 2, 1) := by decide +kernel
theorem dX12_perform_106 : decode cX12_perform 106 = .ok (.ireturn, 1) := by decide +kernel
theorem dX12_light_0 : decode cX12_light 0 = .ok (.aload_n 0, 1) := by decide +kernel
theorem dX12_light_1 : decode cX12_light 1 = .ok (.iconst 0, 1) := by decide +kernel
theorem dX12_light_2 : decode cX12_light 2 = .ok (.putfield 109, 3) := by decide +kernel
theorem dX12_light_5 : decode cX12_light 5 = .ok (.iload_n 1, 1) := by decide +kernel
theorem dX12_light_6 : decode cX12_light 6 = .ok (.i2l, 1) := by decide +kernel
theorem dX12_light_7 : decode cX12_light 7 = .ok (.lconst 0, 1) := by decide +kernel
theorem dX12_light_8 : decode cX12_light 8 = .ok (.aload_n 0, 1) := by decide +kernel
theorem dX12_light_9 : decode cX12_light 9 = .ok (.getfield 37, 3) := by decide +kernel
theorem dX12_light_12 : decode cX12_light 12 = .ok (.iconst 0, 1) := by decide +kernel
theorem dX12_light_13 : decode cX12_light 13 = .ok (.iaload, 1) := by decide +kernel
theorem dX12_light_14 : decode cX12_light 14 = .ok (.iconst 1, 1) := by decide +kernel
theorem dX12_light_15 : decode cX12_light 15 = .ok (.isub, 1) := by decide +kernel
theorem dX12_light_16 : decode cX12_light 16 = .ok (.i2l, 1) := by decide +kernel
theorem dX12_light_17 : decode cX12_light 17 = .ok (.invokestatic 230, 3) := by decide +kernel
theorem dX12_light_20 : decode cX12_light 20 = .ok (.ifCond .eq 22, 3) := by decide +kernel
theorem dX12_light_23 : decode cX12_light 23 = .ok (.aload_n 0, 1) := by decide +kernel
theorem dX12_light_24 : decode cX12_light 24 = .ok (.getfield 307, 3) := by decide +kernel
theorem dX12_light_27 : decode cX12_light 27 = .ok (.ifCond .le 15, 3) := by decide +kernel
theorem dX12_light_30 : decode cX12_light 30 = .ok (.aload_n 0, 1) := by decide +kernel
theorem dX12_light_31 : decode cX12_light 31 = .ok (.aload_n 0, 1) := by decide +kernel
theorem dX12_light_32 : decode cX12_light 32 = .ok (.getfield 61, 3) := by decide +kernel
theorem dX12_light_35 : decode cX12_light 35 = .ok (.iload_n 1, 1) := by decide +kernel
theorem dX12_light_36 : decode cX12_light 36 = .ok (.invokevirtual 365, 3) := by decide +kernel
theorem dX12_light_39 : decode cX12_light 39 = .ok (.goto 4, 3) := by decide +kernel
theorem dX12_light_42 : decode cX12_light 42 = .ok (.iconst (-1), 1) := by decide +kernel
theorem dX12_light_43 : decode cX12_light 43 = .ok (.ireturn, 1) := by decide +kernel
theorem dX12_darkest_0 : decode cX12_darkest 0 = .ok (.iconst 0, 1) := by decide +kernel
theorem dX12_darkest_1 : decode cX12_darkest 1 = .ok (.istore_n 1, 1) := by decide +kernel
theorem dX12_darkest_2 : decode cX12_darkest 2 = .ok (.iconst 1, 1) := by decide +kernel
theorem dX12_darkest_3 : decode cX12_darkest 3 = .ok (.istore_n 2, 1) := by decide +kernel
theorem dX12_darkest_4 : decode cX12_darkest 4 = .ok (.iload_n 2, 1) := by decide +kernel
theorem dX12_darkest_5 : decode cX12_darkest 5 = .ok (.aload_n 0, 1) := by decide +kernel
theorem dX12_darkest_6 : decode cX12_darkest 6 = .ok (.getfield 37, 3) := by decide +kernel
theorem dX12_darkest_9 : decode cX12_darkest 9 = .ok (.iconst 0, 1) := by decide +kernel
theorem dX12_darkest_10 : decode cX12_darkest 10 = .ok (.iaload, 1) := by decide +kernel
theorem dX12_darkest_11 : decode cX12_darkest 11 = .ok (.if_icmp .ge 36, 3) := by decide +kernel
theorem dX12_darkest_14 : decode cX12_darkest 14 = .ok (.aload_n 0, 1) := by decide +kernel
theorem dX12_darkest_15 : decode cX12_darkest 15 = .ok (.aload_n 0, 1) := by decide +kernel
theorem dX12_darkest_16 : decode cX12_darkest 16 = .ok (.getfield 61, 3) := by decide +kernel
theorem dX12_darkest_19 : decode cX12_darkest 19 = .ok (.iload_n 2, 1) := by decide +kernel
theorem dX12_darkest_20 : decode cX12_darkest 20 = .ok (.invokevirtual 365, 3) := by decide +kernel
theorem dX12_darkest_23 : decode cX12_darkest 23 = .ok (.aload_n 0, 1) := by decide +kernel
theorem dX12_darkest_24 : decode cX12_darkest 24 = .ok (.aload_n 0, 1) := by decide +kernel
theorem dX12_darkest_25 : decode cX12_darkest 25 = .ok (.getfield 61, 3) := by decide +kernel
theorem dX12_darkest_28 : decode cX12_darkest 28 = .ok (.iload_n 1, 1) := by decide +kernel
theorem dX12_darkest_29 : decode cX12_darkest 29 = .ok (.invokevirtual 365, 3) := by decide +kernel
theorem dX12_darkest_32 : decode cX12_darkest 32 = .ok (.if_icmp .ge 7, 3) := by decide +kernel
theorem dX12_darkest_35 : decode cX12_darkest 35 = .ok (.iload_n 2, 1) := by decide +kernel
theorem dX12_darkest_36 : decode cX12_darkest 36 = .ok (.goto 4, 3) := by decide +kernel
theorem dX12_darkest_39 : decode cX12_darkest 39 = .ok (.iload_n 1, 1) := by decide +kernel
theorem dX12_darkest_40 : decode cX12_darkest 40 = .ok (.istore_n 1, 1) := by decide +kernel
theorem dX12_darkest_41 : decode cX12_darkest 41 = .ok (.iinc 2 1, 3) := by decide +kernel
theorem dX12_darkest_44 : decode cX12_darkest 44 = .ok (.goto (-40), 3) := by decide +kernel
theorem dX12_darkest_47 : decode cX12_darkest 47 = .ok (.iload_n 1, 1) := by decide +kernel
theorem dX12_darkest_48 : decode cX12_darkest 48 = .ok (.ireturn, 1) := by decide +kernel
theorem dX12_coming_0 : decode cX12_coming 0 = .ok (.aload_n 0, 1) := by decide +kernel
theorem dX12_coming_1 : decode cX12_coming 1 = .ok (.iconst 0, 1) := by decide +kernel
theorem dX12_coming_2 : decode cX12_coming 2 = .ok (.putfield 109, 3) := by decide +kernel
theorem dX12_coming_5 : decode cX12_coming 5 = .ok (.aload_n 0, 1) := by decide +kernel
theorem dX12_coming_6 : decode cX12_coming 6 = .ok (.getfield 307, 3) := by decide +kernel
theorem dX12_coming_9 : decode cX12_coming 9 = .ok (.ifCond .eq 13, 3) := by decide +kernel
theorem dX12_coming_12 : decode cX12_coming 12 = .ok (.iload_n 1, 1) := by decide +kernel
theorem dX12_coming_13 : decode cX12_coming 13 = .ok (.i2l, 1) := by decide +kernel
theorem dX12_coming_14 : decode cX12_coming 14 = .ok (.lconst 0, 1) := by decide +kernel
theorem dX12_coming_15 : decode cX12_coming 15 = .ok (.lconst 1, 1) := by decide +kernel
theorem dX12_coming_16 : decode cX12_coming 16 = .ok (.invokestatic 230, 3) := by decide +kernel
theorem dX12_coming_19 : decode cX12_coming 19 = .ok (.ifCond .ne 5, 3) := by decide +kernel
theorem dX12_coming_22 : decode cX12_coming 22 = .ok (.iconst (-1), 1) := by decide +kernel
theorem dX12_coming_23 : decode cX12_coming 23 = .ok (.ireturn, 1) := by decide +kernel
theorem dX12_coming_24 : decode cX12_coming 24 = .ok (.iload_n 1, 1) := by decide +kernel
theorem dX12_coming_25 : decode cX12_coming 25 = .ok (.ifCond .ne 10, 3) := by decide +kernel
theorem dX12_coming_28 : decode cX12_coming 28 = .ok (.aload_n 0, 1) := by decide +kernel
theorem dX12_coming_29 : decode cX12_coming 29 = .ok (.invokevirtual 446, 3) := by decide +kernel
theorem dX12_coming_32 : decode cX12_coming 32 = .ok (.goto 15, 3) := by decide +kernel
theorem dX12_coming_35 : decode cX12_coming 35 = .ok (.aload_n 0, 1) := by decide +kernel
theorem dX12_coming_36 : decode cX12_coming 36 = .ok (.aload_n 0, 1) := by decide +kernel
theorem dX12_coming_37 : decode cX12_coming 37 = .ok (.getfield 61, 3) := by decide +kernel
theorem dX12_coming_40 : decode cX12_coming 40 = .ok (.aload_n 0, 1) := by decide +kernel
theorem dX12_coming_41 : decode cX12_coming 41 = .ok (.invokevirtual 446, 3) := by decide +kernel
theorem dX12_coming_44 : decode cX12_coming 44 = .ok (.invokevirtual 365, 3) := by decide +kernel
theorem dX12_coming_47 : decode cX12_coming 47 = .ok (.ireturn, 1) := by decide +kernel
theorem dX12_may_0 : decode cX12_may 0 = .ok (.aload_n 0, 1) := by decide +kernel
theorem dX12_may_1 : decode cX12_may 1 = .ok (.iconst 0, 1) := by decide +kernel
theorem dX12_may_2 : decode cX12_may 2 = .ok (.putfield 109, 3) := by decide +kernel
theorem dX12_may_5 : decode cX12_may 5 = .ok (.aload_n 0, 1) := by decide +kernel
theorem dX12_may_6 : decode cX12_may 6 = .ok (.getfield 307, 3) := by decide +kernel
theorem dX12_may_9 : decode cX12_may 9 = .ok (.ifCond .eq 15, 3) := by decide +kernel
theorem dX12_may_12 : decode cX12_may 12 = .ok (.iload_n 1, 1) := by decide +kernel
theorem dX12_may_13 : decode cX12_may 13 = .ok (.i2l, 1) := by decide +kernel
theorem dX12_may_14 : decode cX12_may 14 = .ok (.lconst 0, 1) := by decide +kernel
theorem dX12_may_15 : decode cX12_may 15 = .ok (.ldc2_w 449, 3) := by decide +kernel
theorem dX12_may_18 : decode cX12_may 18 = .ok (.invokestatic 230, 3) := by decide +kernel
theorem dX12_may_21 : decode cX12_may 21 = .ok (.ifCond .ne 5, 3) := by decide +kernel
theorem dX12_may_24 : decode cX12_may 24 = .ok (.iconst (-1), 1) := by decide +kernel
theorem dX12_may_25 : decode cX12_may 25 = .ok (.ireturn, 1) := by decide +kernel
theorem dX12_may_26 : decode cX12_may 26 = .ok (.aload_n 0, 1) := by decide +kernel
theorem dX12_may_27 : decode cX12_may 27 = .ok (.aload_n 0, 1) := by decide +kernel
theorem dX12_may_28 : decode cX12_may 28 = .ok (.getfield 61, 3) := by decide +kernel
theorem dX12_may_31 : decode cX12_may 31 = .ok (.aload_n 0, 1) := by decide +kernel
theorem dX12_may_32 : decode cX12_may 32 = .ok (.invokevirtual 446, 3) := by decide +kernel
theorem dX12_may_35 : decode cX12_may 35 = .ok (.invokevirtual 365, 3) := by decide +kernel
theorem dX12_may_38 : decode cX12_may 38 = .ok (.istore_n 2, 1) := by decide +kernel
theorem dX12_may_39 : decode cX12_may 39 = .ok (.iconst 0, 1) := by decide +kernel
theorem dX12_may_40 : decode cX12_may 40 = .ok (.istore_n 3, 1) := by decide +kernel
theorem dX12_may_41 : decode cX12_may 41 = .ok (.iconst 0, 1) := by decide +kernel
theorem dX12_may_42 : decode cX12_may 42 = .ok (.istore 4, 2) := by decide +kernel
theorem dX12_may_44 : decode cX12_may 44 = .ok (.iload 4, 2) := by decide +kernel
theorem dX12_may_46 : decode cX12_may 46 = .ok (.aload_n 0, 1) := by decide +kernel
theorem dX12_may_47 : decode cX12_may 47 = .ok (.getfield 37, 3) := by decide +kernel
theorem dX12_may_50 : decode cX12_may 50 = .ok (.iconst 0, 1) := by decide +kernel
theorem dX12_may_51 : decode cX12_may 51 = .ok (.iaload, 1) := by decide +kernel
theorem dX12_may_52 : decode cX12_may 52 = .ok (.if_icmp .ge 38, 3) := by decide +kernel
theorem dX12_may_55 : decode cX12_may 55 = .ok (.iload_n 3, 1) := by decide +kernel
theorem dX12_may_56 : decode cX12_may 56 = .ok (.aload_n 0, 1) := by decide +kernel
theorem dX12_may_57 : decode cX12_may 57 = .ok (.aload_n 0, 1) := by decide +kernel
theorem dX12_may_58 : decode cX12_may 58 = .ok (.getfield 61, 3) := by decide +kernel
theorem dX12_may_61 : decode cX12_may 61 = .ok (.iload 4, 2) := by decide +kernel
theorem dX12_may_63 : decode cX12_may 63 = .ok (.invokevirtual 365, 3) := by decide +kernel
theorem dX12_may_66 : decode cX12_may 66 = .ok (.iload_n 2, 1) := by decide +kernel
theorem dX12_may_67 : decode cX12_may 67 = .ok (.iconst 2, 1) := by decide +kernel
theorem dX12_may_68 : decode cX12_may 68 = .ok (.iload_n 1, 1) := by decide +kernel
theorem dX12_may_69 : decode cX12_may 69 = .ok (.imul, 1) := by decide +kernel
theorem dX12_may_70 : decode cX12_may 70 = .ok (.iadd, 1) := by decide +kernel
theorem dX12_may_71 : decode cX12_may 71 = .ok (.if_icmp .gt 10, 3) := by decide +kernel
theorem dX12_may_74 : decode cX12_may 74 = .ok (.iconst 1, 1) := by decide +kernel
theorem dX12_may_75 : decode cX12_may 75 = .ok (.iload 4, 2) := by decide +kernel
theorem dX12_may_77 : decode cX12_may 77 = .ok (.ishl, 1) := by decide +kernel
theorem dX12_may_78 : decode cX12_may 78 = .ok (.goto 4, 3) := by decide +kernel
theorem dX12_may_81 : decode cX12_may 81 = .ok (.iconst 0, 1) := by decide +kernel
theorem dX12_may_82 : decode cX12_may 82 = .ok (.ior, 1) := by decide +kernel
theorem dX12_may_83 : decode cX12_may 83 = .ok (.istore_n 3, 1) := by decide +kernel
theorem dX12_may_84 : decode cX12_may 84 = .ok (.iinc 4 1, 3) := by decide +kernel
theorem dX12_may_87 : decode cX12_may 87 = .ok (.goto (-43), 3) := by decide +kernel
theorem dX12_may_90 : decode cX12_may 90 = .ok (.iload_n 3, 1) := by decide +kernel
theorem dX12_may_91 : decode cX12_may 91 = .ok (.ireturn, 1) := by decide +kernel
theorem dX12_goYear_0 : decode cX12_goYear 0 = .ok (.aload_n 0, 1) := by decide +kernel
theorem dX12_goYear_1 : decode cX12_goYear 1 = .ok (.aload_n 0, 1) := by decide +kernel
theorem dX12_goYear_2 : decode cX12_goYear 2 = .ok (.getfield 64, 3) := by decide +kernel
theorem dX12_goYear_5 : decode cX12_goYear 5 = .ok (.invokevirtual 372, 3) := by decide +kernel
theorem dX12_goYear_8 : decode cX12_goYear 8 = .ok (.istore_n 1, 1) := by decide +kernel
theorem dX12_goYear_9 : decode cX12_goYear 9 = .ok (.aload_n 0, 1) := by decide +kernel
theorem dX12_goYear_10 : decode cX12_goYear 10 = .ok (.getfield 64, 3) := by decide +kernel
theorem dX12_goYear_13 : decode cX12_goYear 13 = .ok (.bipush 25, 2) := by decide +kernel
theorem dX12_goYear_15 : decode cX12_goYear 15 = .ok (.iaload, 1) := by decide +kernel
theorem dX12_goYear_16 : decode cX12_goYear 16 = .ok (.ifCond .le 15, 3) := by decide +kernel
theorem dX12_goYear_19 : decode cX12_goYear 19 = .ok (.aload_n 0, 1) := by decide +kernel
theorem dX12_goYear_20 : decode cX12_goYear 20 = .ok (.aload_n 0, 1) := by decide +kernel
theorem dX12_goYear_21 : decode cX12_goYear 21 = .ok (.getfield 64, 3) := by decide +kernel
theorem dX12_goYear_24 : decode cX12_goYear 24 = .ok (.invokevirtual 372, 3) := by decide +kernel
theorem dX12_goYear_27 : decode cX12_goYear 27 = .ok (.istore_n 1, 1) := by decide +kernel
theorem dX12_goYear_28 : decode cX12_goYear 28 = .ok (.goto (-19), 3) := by decide +kernel
theorem dX12_goYear_31 : decode cX12_goYear 31 = .ok (.return_, 1) := by decide +kernel
theorem dX12_governs_0 : decode cX12_governs 0 = .ok (.aload_n 0, 1) := by decide +kernel
theorem dX12_governs_1 : decode cX12_governs 1 = .ok (.iconst 0, 1) := by decide +kernel
theorem dX12_governs_2 : decode cX12_governs 2 = .ok (.putfield 109, 3) := by decide +kernel
theorem dX12_governs_5 : decode cX12_governs 5 = .ok (.aload_n 0, 1) := by decide +kernel
theorem dX12_governs_6 : decode cX12_governs 6 = .ok (.getfield 307, 3) := by decide +kernel
theorem dX12_governs_9 : decode cX12_governs 9 = .ok (.ifCond .eq 15, 3) := by decide +kernel
theorem dX12_governs_12 : decode cX12_governs 12 = .ok (.iload_n 1, 1) := by decide +kernel
theorem dX12_governs_13 : decode cX12_governs 13 = .ok (.i2l, 1) := by decide +kernel
theorem dX12_governs_14 : decode cX12_governs 14 = .ok (.lconst 0, 1) := by decide +kernel
theorem dX12_governs_15 : decode cX12_governs 15 = .ok (.ldc2_w 424, 3) := by decide +kernel
theorem dX12_governs_18 : decode cX12_governs 18 = .ok (.invokestatic 230, 3) := by decide +kernel
theorem dX12_governs_21 : decode cX12_governs 21 = .ok (.ifCond .ne 7, 3) := by decide +kernel
theorem dX12_governs_24 : decode cX12_governs 24 = .ok (.ldc_w 380, 3) := by decide +kernel
theorem dX12_governs_27 : decode cX12_governs 27 = .ok (.ireturn, 1) := by decide +kernel
theorem dX12_governs_28 : decode cX12_governs 28 = .ok (.aload_n 0, 1) := by decide +kernel
theorem dX12_governs_29 : decode cX12_governs 29 = .ok (.getfield 61, 3) := by decide +kernel
theorem dX12_governs_32 : decode cX12_governs 32 = .ok (.aload_n 0, 1) := by decide +kernel
theorem dX12_governs_33 : decode cX12_governs 33 = .ok (.getfield 64, 3) := by decide +kernel
theorem dX12_governs_36 : decode cX12_governs 36 = .ok (.invokestatic 434, 3) := by decide +kernel
theorem dX12_governs_39 : decode cX12_governs 39 = .ok (.iconst 0, 1) := by decide +kernel
theorem dX12_governs_40 : decode cX12_governs 40 = .ok (.istore_n 2, 1) := by decide +kernel
theorem dX12_governs_41 : decode cX12_governs 41 = .ok (.iload_n 2, 1) := by decide +kernel
theorem dX12_governs_42 : decode cX12_governs 42 = .ok (.iload_n 1, 1) := by decide +kernel
theorem dX12_governs_43 : decode cX12_governs 43 = .ok (.if_icmp .ge 13, 3) := by decide +kernel
theorem dX12_governs_46 : decode cX12_governs 46 = .ok (.aload_n 0, 1) := by decide +kernel
theorem dX12_governs_47 : decode cX12_governs 47 = .ok (.invokevirtual 451, 3) := by decide +kernel
theorem dX12_governs_50 : decode cX12_governs 50 = .ok (.iinc 2 1, 3) := by decide +kernel
theorem dX12_governs_53 : decode cX12_governs 53 = .ok (.goto (-12), 3) := by decide +kernel
theorem dX12_governs_56 : decode cX12_governs 56 = .ok (.aload_n 0, 1) := by decide +kernel
theorem dX12_governs_57 : decode cX12_governs 57 = .ok (.getfield 64, 3) := by decide +kernel
theorem dX12_governs_60 : decode cX12_governs 60 = .ok (.bipush 23, 2) := by decide +kernel
theorem dX12_governs_62 : decode cX12_governs 62 = .ok (.iaload, 1) := by decide +kernel
theorem dX12_governs_63 : decode cX12_governs 63 = .ok (.ireturn, 1) := by decide +kernel
theorem dX12_round_0 : decode cX12_round 0 = .ok (.aload_n 0, 1) := by decide +kernel
theorem dX12_round_1 : decode cX12_round 1 = .ok (.iconst 0, 1) := by decide +kernel
theorem dX12_round_2 : decode cX12_round 2 = .ok (.putfield 109, 3) := by decide +kernel
theorem dX12_round_5 : decode cX12_round 5 = .ok (.aload_n 0, 1) := by decide +kernel
theorem dX12_round_6 : decode cX12_round 6 = .ok (.getfield 307, 3) := by decide +kernel
theorem dX12_round_9 : decode cX12_round 9 = .ok (.ifCond .eq 13, 3) := by decide +kernel
theorem dX12_round_12 : decode cX12_round 12 = .ok (.iload_n 1, 1) := by decide +kernel
theorem dX12_round_13 : decode cX12_round 13 = .ok (.i2l, 1) := by decide +kernel
theorem dX12_round_14 : decode cX12_round 14 = .ok (.lconst 0, 1) := by decide +kernel
theorem dX12_round_15 : decode cX12_round 15 = .ok (.lconst 1, 1) := by decide +kernel
theorem dX12_round_16 : decode cX12_round 16 = .ok (.invokestatic 230, 3) := by decide +kernel
theorem dX12_round_19 : decode cX12_round 19 = .ok (.ifCond .ne 5, 3) := by decide +kernel
theorem dX12_round_22 : decode cX12_round 22 = .ok (.iconst (-1), 1) := by decide +kernel
theorem dX12_round_23 : decode cX12_round 23 = .ok (.ireturn, 1) := by decide +kernel
theorem dX12_round_24 : decode cX12_round 24 = .ok (.aload_n 0, 1) := by decide +kernel
theorem dX12_round_25 : decode cX12_round 25 = .ok (.getfield 61, 3) := by decide +kernel
theorem dX12_round_28 : decode cX12_round 28 = .ok (.aload_n 0, 1) := by decide +kernel
theorem dX12_round_29 : decode cX12_round 29 = .ok (.getfield 64, 3) := by decide +kernel
theorem dX12_round_32 : decode cX12_round 32 = .ok (.invokestatic 434, 3) := by decide +kernel
theorem dX12_round_35 : decode cX12_round 35 = .ok (.iconst 1, 1) := by decide +kernel
theorem dX12_round_36 : decode cX12_round 36 = .ok (.istore_n 2, 1) := by decide +kernel
theorem dX12_round_37 : decode cX12_round 37 = .ok (.iload_n 2, 1) := by decide +kernel
theorem dX12_round_38 : decode cX12_round 38 = .ok (.bipush 60, 2) := by decide +kernel
theorem dX12_round_40 : decode cX12_round 40 = .ok (.if_icmp .gt 178, 3) := by decide +kernel
theorem dX12_round_43 : decode cX12_round 43 = .ok (.aload_n 0, 1) := by decide +kernel
theorem dX12_round_44 : decode cX12_round 44 = .ok (.invokevirtual 451, 3) := by decide +kernel
theorem dX12_round_47 : decode cX12_round 47 = .ok (.iload_n 2, 1) := by decide +kernel
theorem dX12_round_48 : decode cX12_round 48 = .ok (.bipush 12, 2) := by decide +kernel
theorem dX12_round_50 : decode cX12_round 50 = .ok (.imul, 1) := by decide +kernel
theorem dX12_round_51 : decode cX12_round 51 = .ok (.istore_n 3, 1) := by decide +kernel
theorem dX12_round_52 : decode cX12_round 52 = .ok (.iconst 0, 1) := by decide +kernel
theorem dX12_round_53 : decode cX12_round 53 = .ok (.istore 4, 2) := by decide +kernel
theorem dX12_round_55 : decode cX12_round 55 = .ok (.iload 4, 2) := by decide +kernel
theorem dX12_round_57 : decode cX12_round 57 = .ok (.bipush 6, 2) := by decide +kernel
theorem dX12_round_59 : decode cX12_round 59 = .ok (.if_icmp .ge 25, 3) := by decide +kernel
theorem dX12_round_62 : decode cX12_round 62 = .ok (.aload_n 0, 1) := by decide +kernel
theorem dX12_round_63 : decode cX12_round 63 = .ok (.getfield 87, 3) := by decide +kernel
theorem dX12_round_66 : decode cX12_round 66 = .ok (.iload_n 3, 1) := by decide +kernel
theorem dX12_round_67 : decode cX12_round 67 = .ok (.iload 4, 2) := by decide +kernel
theorem dX12_round_69 : decode cX12_round 69 = .ok (.iadd, 1) := by decide +kernel
theorem dX12_round_70 : decode cX12_round 70 = .ok (.aload_n 0, 1) := by decide +kernel
theorem dX12_round_71 : decode cX12_round 71 = .ok (.getfield 64, 3) := by decide +kernel
theorem dX12_round_74 : decode cX12_round 74 = .ok (.iload 4, 2) := by decide +kernel
theorem dX12_round_76 : decode cX12_round 76 = .ok (.iaload, 1) := by decide +kernel
theorem dX12_round_77 : decode cX12_round 77 = .ok (.iastore, 1) := by decide +kernel
theorem dX12_round_78 : decode cX12_round 78 = .ok (.iinc 4 1, 3) := by decide +kernel
theorem dX12_round_81 : decode cX12_round 81 = .ok (.goto (-26), 3) := by decide +kernel
theorem dX12_round_84 : decode cX12_round 84 = .ok (.iconst 0, 1) := by decide +kernel
theorem dX12_round_85 : decode cX12_round 85 = .ok (.istore 4, 2) := by decide +kernel
theorem dX12_round_87 : decode cX12_round 87 = .ok (.iload 4, 2) := by decide +kernel
theorem dX12_round_89 : decode cX12_round 89 = .ok (.bipush 6, 2) := by decide +kernel
theorem dX12_round_91 : decode cX12_round 91 = .ok (.if_icmp .ge 31, 3) := by decide +kernel
theorem dX12_round_94 : decode cX12_round 94 = .ok (.aload_n 0, 1) := by decide +kernel
theorem dX12_round_95 : decode cX12_round 95 = .ok (.getfield 87, 3) := by decide +kernel
theorem dX12_round_98 : decode cX12_round 98 = .ok (.iload_n 3, 1) := by decide +kernel
theorem dX12_round_99 : decode cX12_round 99 = .ok (.bipush 6, 2) := by decide +kernel
theorem dX12_round_101 : decode cX12_round 101 = .ok (.iadd, 1) := by decide +kernel
theorem dX12_round_102 : decode cX12_round 102 = .ok (.iload 4, 2) := by decide +kernel
theorem dX12_round_104 : decode cX12_round 104 = .ok (.iadd, 1) := by decide +kernel
theorem dX12_round_105 : decode cX12_round 105 = .ok (.aload_n 0, 1) := by decide +kernel
theorem dX12_round_106 : decode cX12_round 106 = .ok (.getfield 64, 3) := by decide +kernel
theorem dX12_round_109 : decode cX12_round 109 = .ok (.bipush 12, 2) := by decide +kernel
theorem dX12_round_111 : decode cX12_round 111 = .ok (.iload 4, 2) := by decide +kernel
theorem dX12_round_113 : decode cX12_round 113 = .ok (.iadd, 1) := by decide +kernel
theorem dX12_round_114 : decode cX12_round 114 = .ok (.iaload, 1) := by decide +kernel
theorem dX12_round_115 : decode cX12_round 115 = .ok (.iastore, 1) := by decide +kernel
theorem dX12_round_116 : decode cX12_round 116 = .ok (.iinc 4 1, 3) := by decide +kernel
theorem dX12_round_119 : decode cX12_round 119 = .ok (.goto (-32), 3) := by decide +kernel
theorem dX12_round_122 : decode cX12_round 122 = .ok (.iconst 1, 1) := by decide +kernel
theorem dX12_round_123 : decode cX12_round 123 = .ok (.istore 4, 2) := by decide +kernel
theorem dX12_round_125 : decode cX12_round 125 = .ok (.iload 4, 2) := by decide +kernel
theorem dX12_round_127 : decode cX12_round 127 = .ok (.iload_n 2, 1) := by decide +kernel
theorem dX12_round_128 : decode cX12_round 128 = .ok (.if_icmp .ge 84, 3) := by decide +kernel
theorem dX12_round_131 : decode cX12_round 131 = .ok (.iconst 1, 1) := by decide +kernel
theorem dX12_round_132 : decode cX12_round 132 = .ok (.istore 5, 2) := by decide +kernel
theorem dX12_round_134 : decode cX12_round 134 = .ok (.iconst 0, 1) := by decide +kernel
theorem dX12_round_135 : decode cX12_round 135 = .ok (.istore 6, 2) := by decide +kernel
theorem dX12_round_137 : decode cX12_round 137 = .ok (.iload 6, 2) := by decide +kernel
theorem dX12_round_139 : decode cX12_round 139 = .ok (.bipush 12, 2) := by decide +kernel
theorem dX12_round_141 : decode cX12_round 141 = .ok (.if_icmp .ge 46, 3) := by decide +kernel
theorem dX12_round_144 : decode cX12_round 144 = .ok (.iload 5, 2) := by decide +kernel
theorem dX12_round_146 : decode cX12_round 146 = .ok (.ifCond .eq 41, 3) := by decide +kernel
theorem dX12_round_149 : decode cX12_round 149 = .ok (.aload_n 0, 1) := by decide +kernel
theorem dX12_round_150 : decode cX12_round 150 = .ok (.getfield 87, 3) := by decide +kernel
theorem dX12_round_153 : decode cX12_round 153 = .ok (.iload 4, 2) := by decide +kernel
theorem dX12_round_155 : decode cX12_round 155 = .ok (.bipush 12, 2) := by decide +kernel
theorem dX12_round_157 : decode cX12_round 157 = .ok (.imul, 1) := by decide +kernel
theorem dX12_round_158 : decode cX12_round 158 = .ok (.iload 6, 2) := by decide +kernel
theorem dX12_round_160 : decode cX12_round 160 = .ok (.iadd, 1) := by decide +kernel
theorem dX12_round_161 : decode cX12_round 161 = .ok (.iaload, 1) := by decide +kernel
theorem dX12_round_162 : decode cX12_round 162 = .ok (.aload_n 0, 1) := by decide +kernel
theorem dX12_round_163 : decode cX12_round 163 = .ok (.getfield 87, 3) := by decide +kernel
theorem dX12_round_166 : decode cX12_round 166 = .ok (.iload_n 3, 1) := by decide +kernel
theorem dX12_round_167 : decode cX12_round 167 = .ok (.iload 6, 2) := by decide +kernel
theorem dX12_round_169 : decode cX12_round 169 = .ok (.iadd, 1) := by decide +kernel
theorem dX12_round_170 : decode cX12_round 170 = .ok (.iaload, 1) := by decide +kernel
theorem dX12_round_171 : decode cX12_round 171 = .ok (.if_icmp .ne 7, 3) := by decide +kernel
theorem dX12_round_174 : decode cX12_round 174 = .ok (.iconst 1, 1) := by decide +kernel
theorem dX12_round_175 : decode cX12_round 175 = .ok (.goto 4, 3) := by decide +kernel
theorem dX12_round_178 : decode cX12_round 178 = .ok (.iconst 0, 1) := by decide +kernel
theorem dX12_round_179 : decode cX12_round 179 = .ok (.istore 5, 2) := by decide +kernel
theorem dX12_round_181 : decode cX12_round 181 = .ok (.iinc 6 1, 3) := by decide +kernel
theorem dX12_round_184 : decode cX12_round 184 = .ok (.goto (-47), 3) := by decide +kernel
theorem dX12_round_187 : decode cX12_round 187 = .ok (.iload 5, 2) := by decide +kernel
theorem dX12_round_189 : decode cX12_round 189 = .ok (.ifCond .eq 17, 3) := by decide +kernel
theorem dX12_round_192 : decode cX12_round 192 = .ok (.iload_n 1, 1) := by decide +kernel
theorem dX12_round_193 : decode cX12_round 193 = .ok (.ifCond .ne 8, 3) := by decide +kernel
theorem dX12_round_196 : decode cX12_round 196 = .ok (.iload 4, 2) := by decide +kernel
theorem dX12_round_198 : decode cX12_round 198 = .ok (.goto 7, 3) := by decide +kernel
theorem dX12_round_201 : decode cX12_round 201 = .ok (.iload_n 2, 1) := by decide +kernel
theorem dX12_round_202 : decode cX12_round 202 = .ok (.iload 4, 2) := by decide +kernel
theorem dX12_round_204 : decode cX12_round 204 = .ok (.isub, 1) := by decide +kernel
theorem dX12_round_205 : decode cX12_round 205 = .ok (.ireturn, 1) := by decide +kernel
theorem dX12_round_206 : decode cX12_round 206 = .ok (.iinc 4 1, 3) := by decide +kernel
theorem dX12_round_209 : decode cX12_round 209 = .ok (.goto (-84), 3) := by decide +kernel
theorem dX12_round_212 : decode cX12_round 212 = .ok (.iinc 2 1, 3) := by decide +kernel
theorem dX12_round_215 : decode cX12_round 215 = .ok (.goto (-178), 3) := by decide +kernel
theorem dX12_round_218 : decode cX12_round 218 = .ok (.iconst (-1), 1) := by decide +kernel
theorem dX12_round_219 : decode cX12_round 219 = .ok (.ireturn, 1) := by decide +kernel
theorem dX12_soughtBy_0 : decode cX12_soughtBy 0 = .ok (.iconst (-1), 1) := by decide +kernel
theorem dX12_soughtBy_1 : decode cX12_soughtBy 1 = .ok (.istore 4, 2) := by decide +kernel
theorem dX12_soughtBy_3 : decode cX12_soughtBy 3 = .ok (.iconst 0, 1) := by decide +kernel
theorem dX12_soughtBy_4 : decode cX12_soughtBy 4 = .ok (.istore 5, 2) := by decide +kernel
theorem dX12_soughtBy_6 : decode cX12_soughtBy 6 = .ok (.iload 5, 2) := by decide +kernel
theorem dX12_soughtBy_8 : decode cX12_soughtBy 8 = .ok (.iconst 1, 1) := by decide +kernel
theorem dX12_soughtBy_9 : decode cX12_soughtBy 9 = .ok (.aload_n 0, 1) := by decide +kernel
theorem dX12_soughtBy_10 : decode cX12_soughtBy 10 = .ok (.getfield 307, 3) := by decide +kernel
theorem dX12_soughtBy_13 : decode cX12_soughtBy 13 = .ok (.ishl, 1) := by decide +kernel
theorem dX12_soughtBy_14 : decode cX12_soughtBy 14 = .ok (.if_icmp .ge 126, 3) := by decide +kernel
theorem dX12_soughtBy_17 : decode cX12_soughtBy 17 = .ok (.iload 5, 2) := by decide +kernel
theorem dX12_soughtBy_19 : decode cX12_soughtBy 19 = .ok (.iload_n 2, 1) := by decide +kernel
theorem dX12_soughtBy_20 : decode cX12_soughtBy 20 = .ok (.iconst (-1), 1) := by decide +kernel
theorem dX12_soughtBy_21 : decode cX12_soughtBy 21 = .ok (.ixor, 1) := by decide +kernel
theorem dX12_soughtBy_22 : decode cX12_soughtBy 22 = .ok (.iand, 1) := by decide +kernel
theorem dX12_soughtBy_23 : decode cX12_soughtBy 23 = .ok (.ifCond .ne 111, 3) := by decide +kernel
theorem dX12_soughtBy_26 : decode cX12_soughtBy 26 = .ok (.iload 4, 2) := by decide +kernel
theorem dX12_soughtBy_28 : decode cX12_soughtBy 28 = .ok (.iconst (-1), 1) := by decide +kernel
theorem dX12_soughtBy_29 : decode cX12_soughtBy 29 = .ok (.if_icmp .eq 19, 3) := by decide +kernel
theorem dX12_soughtBy_32 : decode cX12_soughtBy 32 = .ok (.iload 5, 2) := by decide +kernel
theorem dX12_soughtBy_34 : decode cX12_soughtBy 34 = .ok (.invokestatic 342, 3) := by decide +kernel
theorem dX12_soughtBy_37 : decode cX12_soughtBy 37 = .ok (.iload 4, 2) := by decide +kernel
theorem dX12_soughtBy_39 : decode cX12_soughtBy 39 = .ok (.invokestatic 342, 3) := by decide +kernel
theorem dX12_soughtBy_42 : decode cX12_soughtBy 42 = .ok (.if_icmp .lt 6, 3) := by decide +kernel
theorem dX12_soughtBy_45 : decode cX12_soughtBy 45 = .ok (.goto 89, 3) := by decide +kernel
theorem dX12_soughtBy_48 : decode cX12_soughtBy 48 = .ok (.aload_n 0, 1) := by decide +kernel
theorem dX12_soughtBy_49 : decode cX12_soughtBy 49 = .ok (.getfield 61, 3) := by decide +kernel
theorem dX12_soughtBy_52 : decode cX12_soughtBy 52 = .ok (.aload_n 0, 1) := by decide +kernel
theorem dX12_soughtBy_53 : decode cX12_soughtBy 53 = .ok (.getfield 64, 3) := by decide +kernel
theorem dX12_soughtBy_56 : decode cX12_soughtBy 56 = .ok (.invokestatic 434, 3) := by decide +kernel
theorem dX12_soughtBy_59 : decode cX12_soughtBy 59 = .ok (.iload_n 3, 1) := by decide +kernel
theorem dX12_soughtBy_60 : decode cX12_soughtBy 60 = .ok (.ifCond .eq 15, 3) := by decide +kernel
theorem dX12_soughtBy_63 : decode cX12_soughtBy 63 = .ok (.aload_n 0, 1) := by decide +kernel
theorem dX12_soughtBy_64 : decode cX12_soughtBy 64 = .ok (.getfield 64, 3) := by decide +kernel
theorem dX12_soughtBy_67 : decode cX12_soughtBy 67 = .ok (.bipush 18, 2) := by decide +kernel
theorem dX12_soughtBy_69 : decode cX12_soughtBy 69 = .ok (.dup2, 1) := by decide +kernel
theorem dX12_soughtBy_70 : decode cX12_soughtBy 70 = .ok (.iaload, 1) := by decide +kernel
theorem dX12_soughtBy_71 : decode cX12_soughtBy 71 = .ok (.iload 5, 2) := by decide +kernel
theorem dX12_soughtBy_73 : decode cX12_soughtBy 73 = .ok (.ior, 1) := by decide +kernel
theorem dX12_soughtBy_74 : decode cX12_soughtBy 74 = .ok (.iastore, 1) := by decide +kernel
theorem dX12_soughtBy_75 : decode cX12_soughtBy 75 = .ok (.iconst 0, 1) := by decide +kernel
theorem dX12_soughtBy_76 : decode cX12_soughtBy 76 = .ok (.istore 6, 2) := by decide +kernel
theorem dX12_soughtBy_78 : decode cX12_soughtBy 78 = .ok (.iload 6, 2) := by decide +kernel
theorem dX12_soughtBy_80 : decode cX12_soughtBy 80 = .ok (.aload_n 0, 1) := by decide +kernel
theorem dX12_soughtBy_81 : decode cX12_soughtBy 81 = .ok (.getfield 307, 3) := by decide +kernel
theorem dX12_soughtBy_84 : decode cX12_soughtBy 84 = .ok (.if_icmp .ge 31, 3) := by decide +kernel
theorem dX12_soughtBy_87 : decode cX12_soughtBy 87 = .ok (.iload_n 3, 1) := by decide +kernel
theorem dX12_soughtBy_88 : decode cX12_soughtBy 88 = .ok (.ifCond .ne 21, 3) := by decide +kernel
theorem dX12_soughtBy_91 : decode cX12_soughtBy 91 = .ok (.iload 5, 2) := by decide +kernel
theorem dX12_soughtBy_93 : decode cX12_soughtBy 93 = .ok (.iload 6, 2) := by decide +kernel
theorem dX12_soughtBy_95 : decode cX12_soughtBy 95 = .ok (.invokestatic 242, 3) := by decide +kernel
theorem dX12_soughtBy_98 : decode cX12_soughtBy 98 = .ok (.ifCond .eq 11, 3) := by decide +kernel
theorem dX12_soughtBy_101 : decode cX12_soughtBy 101 = .ok (.aload_n 0, 1) := by decide +kernel
theorem dX12_soughtBy_102 : decode cX12_soughtBy 102 = .ok (.getfield 64, 3) := by decide +kernel
theorem dX12_soughtBy_105 : decode cX12_soughtBy 105 = .ok (.iload 6, 2) := by decide +kernel
theorem dX12_soughtBy_107 : decode cX12_soughtBy 107 = .ok (.iload_n 1, 1) := by decide +kernel
theorem dX12_soughtBy_108 : decode cX12_soughtBy 108 = .ok (.iastore, 1) := by decide +kernel
theorem dX12_soughtBy_109 : decode cX12_soughtBy 109 = .ok (.iinc 6 1, 3) := by decide +kernel
theorem dX12_soughtBy_112 : decode cX12_soughtBy 112 = .ok (.goto (-34), 3) := by decide +kernel
theorem dX12_soughtBy_115 : decode cX12_soughtBy 115 = .ok (.aload_n 0, 1) := by decide +kernel
theorem dX12_soughtBy_116 : decode cX12_soughtBy 116 = .ok (.invokevirtual 451, 3) := by decide +kernel
theorem dX12_soughtBy_119 : decode cX12_soughtBy 119 = .ok (.aload_n 0, 1) := by decide +kernel
theorem dX12_soughtBy_120 : decode cX12_soughtBy 120 = .ok (.getfield 64, 3) := by decide +kernel
theorem dX12_soughtBy_123 : decode cX12_soughtBy 123 = .ok (.bipush 23, 2) := by decide +kernel
theorem dX12_soughtBy_125 : decode cX12_soughtBy 125 = .ok (.iaload, 1) := by decide +kernel
theorem dX12_soughtBy_126 : decode cX12_soughtBy 126 = .ok (.iload_n 1, 1) := by decide +kernel
theorem dX12_soughtBy_127 : decode cX12_soughtBy 127 = .ok (.if_icmp .ne 7, 3) := by decide +kernel
theorem dX12_soughtBy_130 : decode cX12_soughtBy 130 = .ok (.iload 5, 2) := by decide +kernel
theorem dX12_soughtBy_132 : decode cX12_soughtBy 132 = .ok (.istore 4, 2) := by decide +kernel
theorem dX12_soughtBy_134 : decode cX12_soughtBy 134 = .ok (.iinc 5 1, 3) := by decide +kernel
theorem dX12_soughtBy_137 : decode cX12_soughtBy 137 = .ok (.goto (-131), 3) := by decide +kernel
theorem dX12_soughtBy_140 : decode cX12_soughtBy 140 = .ok (.iload 4, 2) := by decide +kernel
theorem dX12_soughtBy_142 : decode cX12_soughtBy 142 = .ok (.ireturn, 1) := by decide +kernel
theorem dX12_swings_0 : decode cX12_swings 0 = .ok (.aload_n 0, 1) := by decide +kernel
theorem dX12_swings_1 : decode cX12_swings 1 = .ok (.iconst 0, 1) := by decide +kernel
theorem dX12_swings_2 : decode cX12_swings 2 = .ok (.putfield 109, 3) := by decide +kernel
theorem dX12_swings_5 : decode cX12_swings 5 = .ok (.aload_n 0, 1) := by decide +kernel
theorem dX12_swings_6 : decode cX12_swings 6 = .ok (.iload_n 1, 1) := by decide +kernel
theorem dX12_swings_7 : decode cX12_swings 7 = .ok (.invokevirtual 375, 3) := by decide +kernel
theorem dX12_swings_10 : decode cX12_swings 10 = .ok (.ifCond .eq 20, 3) := by decide +kernel
theorem dX12_swings_13 : decode cX12_swings 13 = .ok (.aload_n 0, 1) := by decide +kernel
theorem dX12_swings_14 : decode cX12_swings 14 = .ok (.iload_n 1, 1) := by decide +kernel
theorem dX12_swings_15 : decode cX12_swings 15 = .ok (.iconst 1, 1) := by decide +kernel
theorem dX12_swings_16 : decode cX12_swings 16 = .ok (.aload_n 0, 1) := by decide +kernel
theorem dX12_swings_17 : decode cX12_swings 17 = .ok (.getfield 307, 3) := by decide +kernel
theorem dX12_swings_20 : decode cX12_swings 20 = .ok (.ishl, 1) := by decide +kernel
theorem dX12_swings_21 : decode cX12_swings 21 = .ok (.iconst 1, 1) := by decide +kernel
theorem dX12_swings_22 : decode cX12_swings 22 = .ok (.isub, 1) := by decide +kernel
theorem dX12_swings_23 : decode cX12_swings 23 = .ok (.iconst 0, 1) := by decide +kernel
theorem dX12_swings_24 : decode cX12_swings 24 = .ok (.invokevirtual 454, 3) := by decide +kernel
theorem dX12_swings_27 : decode cX12_swings 27 = .ok (.goto 4, 3) := by decide +kernel
theorem dX12_swings_30 : decode cX12_swings 30 = .ok (.iconst (-1), 1) := by decide +kernel
theorem dX12_swings_31 : decode cX12_swings 31 = .ok (.ireturn, 1) := by decide +kernel
theorem dX12_bedding_0 : decode cX12_bedding 0 = .ok (.aload_n 0, 1) := by decide +kernel
theorem dX12_bedding_1 : decode cX12_bedding 1 = .ok (.iconst 0, 1) := by decide +kernel
theorem dX12_bedding_2 : decode cX12_bedding 2 = .ok (.putfield 109, 3) := by decide +kernel
theorem dX12_bedding_5 : decode cX12_bedding 5 = .ok (.aload_n 0, 1) := by decide +kernel
theorem dX12_bedding_6 : decode cX12_bedding 6 = .ok (.iload_n 1, 1) := by decide +kernel
theorem dX12_bedding_7 : decode cX12_bedding 7 = .ok (.invokevirtual 375, 3) := by decide +kernel
theorem dX12_bedding_10 : decode cX12_bedding 10 = .ok (.ifCond .eq 20, 3) := by decide +kernel
theorem dX12_bedding_13 : decode cX12_bedding 13 = .ok (.aload_n 0, 1) := by decide +kernel
theorem dX12_bedding_14 : decode cX12_bedding 14 = .ok (.iload_n 1, 1) := by decide +kernel
theorem dX12_bedding_15 : decode cX12_bedding 15 = .ok (.aload_n 0, 1) := by decide +kernel
theorem dX12_bedding_16 : decode cX12_bedding 16 = .ok (.aload_n 0, 1) := by decide +kernel
theorem dX12_bedding_17 : decode cX12_bedding 17 = .ok (.getfield 61, 3) := by decide +kernel
theorem dX12_bedding_20 : decode cX12_bedding 20 = .ok (.invokevirtual 338, 3) := by decide +kernel
theorem dX12_bedding_23 : decode cX12_bedding 23 = .ok (.iconst 1, 1) := by decide +kernel
theorem dX12_bedding_24 : decode cX12_bedding 24 = .ok (.invokevirtual 454, 3) := by decide +kernel
theorem dX12_bedding_27 : decode cX12_bedding 27 = .ok (.goto 4, 3) := by decide +kernel
theorem dX12_bedding_30 : decode cX12_bedding 30 = .ok (.iconst (-1), 1) := by decide +kernel
theorem dX12_bedding_31 : decode cX12_bedding 31 = .ok (.ireturn, 1) := by decide +kernel
theorem dX12_coins_0 : decode cX12_coins 0 = .ok (.aload_n 0, 1) := by decide +kernel
theorem dX12_coins_1 : decode cX12_coins 1 = .ok (.iconst 0, 1) := by decide +kernel
theorem dX12_coins_2 : decode cX12_coins 2 = .ok (.putfield 109, 3) := by decide +kernel
theorem dX12_coins_5 : decode cX12_coins 5 = .ok (.aload_n 0, 1) := by decide +kernel
theorem dX12_coins_6 : decode cX12_coins 6 = .ok (.getfield 307, 3) := by decide +kernel
theorem dX12_coins_9 : decode cX12_coins 9 = .ok (.ifCond .eq 15, 3) := by decide +kernel
theorem dX12_coins_12 : decode cX12_coins 12 = .ok (.iload_n 1, 1) := by decide +kernel
theorem dX12_coins_13 : decode cX12_coins 13 = .ok (.i2l, 1) := by decide +kernel
theorem dX12_coins_14 : decode cX12_coins 14 = .ok (.lconst 0, 1) := by decide +kernel
theorem dX12_coins_15 : decode cX12_coins 15 = .ok (.ldc2_w 458, 3) := by decide +kernel
theorem dX12_coins_18 : decode cX12_coins 18 = .ok (.invokestatic 230, 3) := by decide +kernel
theorem dX12_coins_21 : decode cX12_coins 21 = .ok (.ifCond .ne 5, 3) := by decide +kernel
theorem dX12_coins_24 : decode cX12_coins 24 = .ok (.iconst (-1), 1) := by decide +kernel
theorem dX12_coins_25 : decode cX12_coins 25 = .ok (.ireturn, 1) := by decide +kernel
theorem dX12_coins_26 : decode cX12_coins 26 = .ok (.aload_n 0, 1) := by decide +kernel
theorem dX12_coins_27 : decode cX12_coins 27 = .ok (.getfield 61, 3) := by decide +kernel
theorem dX12_coins_30 : decode cX12_coins 30 = .ok (.aload_n 0, 1) := by decide +kernel
theorem dX12_coins_31 : decode cX12_coins 31 = .ok (.getfield 64, 3) := by decide +kernel
theorem dX12_coins_34 : decode cX12_coins 34 = .ok (.invokestatic 434, 3) := by decide +kernel
theorem dX12_coins_37 : decode cX12_coins 37 = .ok (.iconst 0, 1) := by decide +kernel
theorem dX12_coins_38 : decode cX12_coins 38 = .ok (.istore_n 2, 1) := by decide +kernel
theorem dX12_coins_39 : decode cX12_coins 39 = .ok (.iconst 0, 1) := by decide +kernel
theorem dX12_coins_40 : decode cX12_coins 40 = .ok (.istore_n 3, 1) := by decide +kernel
theorem dX12_coins_41 : decode cX12_coins 41 = .ok (.iload_n 3, 1) := by decide +kernel
theorem dX12_coins_42 : decode cX12_coins 42 = .ok (.iload_n 1, 1) := by decide +kernel
theorem dX12_coins_43 : decode cX12_coins 43 = .ok (.if_icmp .ge 18, 3) := by decide +kernel
theorem dX12_coins_46 : decode cX12_coins 46 = .ok (.aload_n 0, 1) := by decide +kernel
theorem dX12_coins_47 : decode cX12_coins 47 = .ok (.aload_n 0, 1) := by decide +kernel
theorem dX12_coins_48 : decode cX12_coins 48 = .ok (.getfield 64, 3) := by decide +kernel
theorem dX12_coins_51 : decode cX12_coins 51 = .ok (.invokevirtual 372, 3) := by decide +kernel
theorem dX12_coins_54 : decode cX12_coins 54 = .ok (.istore_n 2, 1) := by decide +kernel
theorem dX12_coins_55 : decode cX12_coins 55 = .ok (.iinc 3 1, 3) := by decide +kernel
theorem dX12_coins_58 : decode cX12_coins 58 = .ok (.goto (-17), 3) := by decide +kernel
theorem dX12_coins_61 : decode cX12_coins 61 = .ok (.aload_n 0, 1) := by decide +kernel
theorem dX12_coins_62 : decode cX12_coins 62 = .ok (.getfield 64, 3) := by decide +kernel
theorem dX12_coins_65 : decode cX12_coins 65 = .ok (.bipush 22, 2) := by decide +kernel
theorem dX12_coins_67 : decode cX12_coins 67 = .ok (.iaload, 1) := by decide +kernel
theorem dX12_coins_68 : decode cX12_coins 68 = .ok (.ireturn, 1) := by decide +kernel
theorem dX12_seen_0 : decode cX12_seen 0 = .ok (.aload_n 0, 1) := by decide +kernel
theorem dX12_seen_1 : decode cX12_seen 1 = .ok (.iconst 0, 1) := by decide +kernel
theorem dX12_seen_2 : decode cX12_seen 2 = .ok (.putfield 109, 3) := by decide +kernel
theorem dX12_seen_5 : decode cX12_seen 5 = .ok (.aload_n 0, 1) := by decide +kernel
theorem dX12_seen_6 : decode cX12_seen 6 = .ok (.getfield 307, 3) := by decide +kernel
theorem dX12_seen_9 : decode cX12_seen 9 = .ok (.ifCond .eq 36, 3) := by decide +kernel
theorem dX12_seen_12 : decode cX12_seen 12 = .ok (.iload_n 1, 1) := by decide +kernel
theorem dX12_seen_13 : decode cX12_seen 13 = .ok (.i2l, 1) := by decide +kernel
theorem dX12_seen_14 : decode cX12_seen 14 = .ok (.lconst 1, 1) := by decide +kernel
theorem dX12_seen_15 : decode cX12_seen 15 = .ok (.ldc2_w 424, 3) := by decide +kernel
theorem dX12_seen_18 : decode cX12_seen 18 = .ok (.invokestatic 230, 3) := by decide +kernel
theorem dX12_seen_21 : decode cX12_seen 21 = .ok (.ifCond .eq 24, 3) := by decide +kernel
theorem dX12_seen_24 : decode cX12_seen 24 = .ok (.iload_n 2, 1) := by decide +kernel
theorem dX12_seen_25 : decode cX12_seen 25 = .ok (.i2l, 1) := by decide +kernel
theorem dX12_seen_26 : decode cX12_seen 26 = .ok (.lconst 0, 1) := by decide +kernel
theorem dX12_seen_27 : decode cX12_seen 27 = .ok (.ldc2_w 460, 3) := by decide +kernel
theorem dX12_seen_30 : decode cX12_seen 30 = .ok (.invokestatic 230, 3) := by decide +kernel
theorem dX12_seen_33 : decode cX12_seen 33 = .ok (.ifCond .eq 12, 3) := by decide +kernel
theorem dX12_seen_36 : decode cX12_seen 36 = .ok (.aload_n 0, 1) := by decide +kernel
theorem dX12_seen_37 : decode cX12_seen 37 = .ok (.getfield 314, 3) := by decide +kernel
theorem dX12_seen_40 : decode cX12_seen 40 = .ok (.bipush 10, 2) := by decide +kernel
theorem dX12_seen_42 : decode cX12_seen 42 = .ok (.if_icmp .ne 5, 3) := by decide +kernel
theorem dX12_seen_45 : decode cX12_seen 45 = .ok (.iconst (-1), 1) := by decide +kernel
theorem dX12_seen_46 : decode cX12_seen 46 = .ok (.ireturn, 1) := by decide +kernel
theorem dX12_seen_47 : decode cX12_seen 47 = .ok (.aload_n 0, 1) := by decide +kernel
theorem dX12_seen_48 : decode cX12_seen 48 = .ok (.getfield 90, 3) := by decide +kernel
theorem dX12_seen_51 : decode cX12_seen 51 = .ok (.iconst 3, 1) := by decide +kernel
theorem dX12_seen_52 : decode cX12_seen 52 = .ok (.aload_n 0, 1) := by decide +kernel
theorem dX12_seen_53 : decode cX12_seen 53 = .ok (.getfield 314, 3) := by decide +kernel
theorem dX12_seen_56 : decode cX12_seen 56 = .ok (.imul, 1) := by decide +kernel
theorem dX12_seen_57 : decode cX12_seen 57 = .ok (.iload_n 1, 1) := by decide +kernel
theorem dX12_seen_58 : decode cX12_seen 58 = .ok (.iastore, 1) := by decide +kernel
theorem dX12_seen_59 : decode cX12_seen 59 = .ok (.aload_n 0, 1) := by decide +kernel
theorem dX12_seen_60 : decode cX12_seen 60 = .ok (.getfield 90, 3) := by decide +kernel
theorem dX12_seen_63 : decode cX12_seen 63 = .ok (.iconst 3, 1) := by decide +kernel
theorem dX12_seen_64 : decode cX12_seen 64 = .ok (.aload_n 0, 1) := by decide +kernel
theorem dX12_seen_65 : decode cX12_seen 65 = .ok (.getfield 314, 3) := by decide +kernel
theorem dX12_seen_68 : decode cX12_seen 68 = .ok (.imul, 1) := by decide +kernel
theorem dX12_seen_69 : decode cX12_seen 69 = .ok (.iconst 1, 1) := by decide +kernel
theorem dX12_seen_70 : decode cX12_seen 70 = .ok (.iadd, 1) := by decide +kernel
theorem dX12_seen_71 : decode cX12_seen 71 = .ok (.iload_n 2, 1) := by decide +kernel
theorem dX12_seen_72 : decode cX12_seen 72 = .ok (.iastore, 1) := by decide +kernel
theorem dX12_seen_73 : decode cX12_seen 73 = .ok (.aload_n 0, 1) := by decide +kernel
theorem dX12_seen_74 : decode cX12_seen 74 = .ok (.getfield 90, 3) := by decide +kernel
theorem dX12_seen_77 : decode cX12_seen 77 = .ok (.iconst 3, 1) := by decide +kernel
theorem dX12_seen_78 : decode cX12_seen 78 = .ok (.aload_n 0, 1) := by decide +kernel
theorem dX12_seen_79 : decode cX12_seen 79 = .ok (.getfield 314, 3) := by decide +kernel
theorem dX12_seen_82 : decode cX12_seen 82 = .ok (.imul, 1) := by decide +kernel
theorem dX12_seen_83 : decode cX12_seen 83 = .ok (.iconst 2, 1) := by decide +kernel
theorem dX12_seen_84 : decode cX12_seen 84 = .ok (.iadd, 1) := by decide +kernel
theorem dX12_seen_85 : decode cX12_seen 85 = .ok (.iload_n 3, 1) := by decide +kernel
theorem dX12_seen_86 : decode cX12_seen 86 = .ok (.ifCond .eq 7, 3) := by decide +kernel
theorem dX12_seen_89 : decode cX12_seen 89 = .ok (.iconst 1, 1) := by decide +kernel
theorem dX12_seen_90 : decode cX12_seen 90 = .ok (.goto 4, 3) := by decide +kernel
theorem dX12_seen_93 : decode cX12_seen 93 = .ok (.iconst 0, 1) := by decide +kernel
theorem dX12_seen_94 : decode cX12_seen 94 = .ok (.iastore, 1) := by decide +kernel
theorem dX12_seen_95 : decode cX12_seen 95 = .ok (.aload_n 0, 1) := by decide +kernel
theorem dX12_seen_96 : decode cX12_seen 96 = .ok (.dup, 1) := by decide +kernel
theorem dX12_seen_97 : decode cX12_seen 97 = .ok (.getfield 314, 3) := by decide +kernel
theorem dX12_seen_100 : decode cX12_seen 100 = .ok (.iconst 1, 1) := by decide +kernel
theorem dX12_seen_101 : decode cX12_seen 101 = .ok (.iadd, 1) := by decide +kernel
theorem dX12_seen_102 : decode cX12_seen 102 = .ok (.putfield 314, 3) := by decide +kernel
theorem dX12_seen_105 : decode cX12_seen 105 = .ok (.aload_n 0, 1) := by decide +kernel
theorem dX12_seen_106 : decode cX12_seen 106 = .ok (.getfield 314, 3) := by decide +kernel
theorem dX12_seen_109 : decode cX12_seen 109 = .ok (.ireturn, 1) := by decide +kernel
theorem dX12_laysHabits_0 : decode cX12_laysHabits 0 = .ok (.iconst 0, 1) := by decide +kernel
theorem dX12_laysHabits_1 : decode cX12_laysHabits 1 = .ok (.istore_n 2, 1) := by decide +kernel
theorem dX12_laysHabits_2 : decode cX12_laysHabits 2 = .ok (.iconst 0, 1) := by decide +kernel
theorem dX12_laysHabits_3 : decode cX12_laysHabits 3 = .ok (.istore_n 3, 1) := by decide +kernel
theorem dX12_laysHabits_4 : decode cX12_laysHabits 4 = .ok (.iconst 0, 1) := by decide +kernel
theorem dX12_laysHabits_5 : decode cX12_laysHabits 5 = .ok (.istore 4, 2) := by decide +kernel
theorem dX12_laysHabits_7 : decode cX12_laysHabits 7 = .ok (.iload 4, 2) := by decide +kernel
theorem dX12_laysHabits_9 : decode cX12_laysHabits 9 = .ok (.aload_n 0, 1) := by decide +kernel
theorem dX12_laysHabits_10 : decode cX12_laysHabits 10 = .ok (.getfield 304, 3) := by decide +kernel
theorem dX12_laysHabits_13 : decode cX12_laysHabits 13 = .ok (.if_icmp .ge 194, 3) := by decide +kernel
theorem dX12_laysHabits_16 : decode cX12_laysHabits 16 = .ok (.aload_n 0, 1) := by decide +kernel
theorem dX12_laysHabits_17 : decode cX12_laysHabits 17 = .ok (.aload_n 0, 1) := by decide +kernel
theorem dX12_laysHabits_18 : decode cX12_laysHabits 18 = .ok (.getfield 64, 3) := by decide +kernel
theorem dX12_laysHabits_21 : decode cX12_laysHabits 21 = .ok (.invokevirtual 310, 3) := by decide +kernel
theorem dX12_laysHabits_24 : decode cX12_laysHabits 24 = .ok (.aload_n 0, 1) := by decide +kernel
theorem dX12_laysHabits_25 : decode cX12_laysHabits 25 = .ok (.getfield 64, 3) := by decide +kernel
theorem dX12_laysHabits_28 : decode cX12_laysHabits 28 = .ok (.iload_n 1, 1) := by decide +kernel
theorem dX12_laysHabits_29 : decode cX12_laysHabits 29 = .ok (.iload 4, 2) := by decide +kernel
theorem dX12_laysHabits_31 : decode cX12_laysHabits 31 = .ok (.iastore, 1) := by decide +kernel
theorem dX12_laysHabits_32 : decode cX12_laysHabits 32 = .ok (.iconst 1, 1) := by decide +kernel
theorem dX12_laysHabits_33 : decode cX12_laysHabits 33 = .ok (.istore 5, 2) := by decide +kernel
theorem dX12_laysHabits_35 : decode cX12_laysHabits 35 = .ok (.iload 5, 2) := by decide +kernel
theorem dX12_laysHabits_37 : decode cX12_laysHabits 37 = .ok (.bipush 60, 2) := by decide +kernel
theorem dX12_laysHabits_39 : decode cX12_laysHabits 39 = .ok (.if_icmp .gt 38, 3) := by decide +kernel
theorem dX12_laysHabits_42 : decode cX12_laysHabits 42 = .ok (.aload_n 0, 1) := by decide +kernel
theorem dX12_laysHabits_43 : decode cX12_laysHabits 43 = .ok (.aload_n 0, 1) := by decide +kernel
theorem dX12_laysHabits_44 : decode cX12_laysHabits 44 = .ok (.getfield 64, 3) := by decide +kernel
theorem dX12_laysHabits_47 : decode cX12_laysHabits 47 = .ok (.invokevirtual 372, 3) := by decide +kernel
theorem dX12_laysHabits_50 : decode cX12_laysHabits 50 = .ok (.istore_n 3, 1) := by decide +kernel
theorem dX12_laysHabits_51 : decode cX12_laysHabits 51 = .ok (.aload_n 0, 1) := by decide +kernel
theorem dX12_laysHabits_52 : decode cX12_laysHabits 52 = .ok (.getfield 93, 3) := by decide +kernel
theorem dX12_laysHabits_55 : decode cX12_laysHabits 55 = .ok (.iload 4, 2) := by decide +kernel
theorem dX12_laysHabits_57 : decode cX12_laysHabits 57 = .ok (.bipush 61, 2) := by decide +kernel
theorem dX12_laysHabits_59 : decode cX12_laysHabits 59 = .ok (.imul, 1) := by decide +kernel
theorem dX12_laysHabits_60 : decode cX12_laysHabits 60 = .ok (.iload 5, 2) := by decide +kernel
theorem dX12_laysHabits_62 : decode cX12_laysHabits 62 = .ok (.iadd, 1) := by decide +kernel
theorem dX12_laysHabits_63 : decode cX12_laysHabits 63 = .ok (.aload_n 0, 1) := by decide +kernel
theorem dX12_laysHabits_64 : decode cX12_laysHabits 64 = .ok (.getfield 64, 3) := by decide +kernel
theorem dX12_laysHabits_67 : decode cX12_laysHabits 67 = .ok (.bipush 22, 2) := by decide +kernel
theorem dX12_laysHabits_69 : decode cX12_laysHabits 69 = .ok (.iaload, 1) := by decide +kernel
theorem dX12_laysHabits_70 : decode cX12_laysHabits 70 = .ok (.iastore, 1) := by decide +kernel
theorem dX12_laysHabits_71 : decode cX12_laysHabits 71 = .ok (.iinc 5 1, 3) := by decide +kernel
theorem dX12_laysHabits_74 : decode cX12_laysHabits 74 = .ok (.goto (-39), 3) := by decide +kernel
theorem dX12_laysHabits_77 : decode cX12_laysHabits 77 = .ok (.aload_n 0, 1) := by decide +kernel
theorem dX12_laysHabits_78 : decode cX12_laysHabits 78 = .ok (.getfield 96, 3) := by decide +kernel
theorem dX12_laysHabits_81 : decode cX12_laysHabits 81 = .ok (.iload 4, 2) := by decide +kernel
theorem dX12_laysHabits_83 : decode cX12_laysHabits 83 = .ok (.iconst 1, 1) := by decide +kernel
theorem dX12_laysHabits_84 : decode cX12_laysHabits 84 = .ok (.bastore, 1) := by decide +kernel
theorem dX12_laysHabits_85 : decode cX12_laysHabits 85 = .ok (.iconst 0, 1) := by decide +kernel
theorem dX12_laysHabits_86 : decode cX12_laysHabits 86 = .ok (.istore 5, 2) := by decide +kernel
theorem dX12_laysHabits_88 : decode cX12_laysHabits 88 = .ok (.iload 5, 2) := by decide +kernel
theorem dX12_laysHabits_90 : decode cX12_laysHabits 90 = .ok (.iconst 3, 1) := by decide +kernel
theorem dX12_laysHabits_91 : decode cX12_laysHabits 91 = .ok (.aload_n 0, 1) := by decide +kernel
theorem dX12_laysHabits_92 : decode cX12_laysHabits 92 = .ok (.getfield 314, 3) := by decide +kernel
theorem dX12_laysHabits_95 : decode cX12_laysHabits 95 = .ok (.imul, 1) := by decide +kernel
theorem dX12_laysHabits_96 : decode cX12_laysHabits 96 = .ok (.if_icmp .ge 87, 3) := by decide +kernel
theorem dX12_laysHabits_99 : decode cX12_laysHabits 99 = .ok (.aload_n 0, 1) := by decide +kernel
theorem dX12_laysHabits_100 : decode cX12_laysHabits 100 = .ok (.getfield 96, 3) := by decide +kernel
theorem dX12_laysHabits_103 : decode cX12_laysHabits 103 = .ok (.iload 4, 2) := by decide +kernel
theorem dX12_laysHabits_105 : decode cX12_laysHabits 105 = .ok (.aload_n 0, 1) := by decide +kernel
theorem dX12_laysHabits_106 : decode cX12_laysHabits 106 = .ok (.getfield 96, 3) := by decide +kernel
theorem dX12_laysHabits_109 : decode cX12_laysHabits 109 = .ok (.iload 4, 2) := by decide +kernel
theorem dX12_laysHabits_111 : decode cX12_laysHabits 111 = .ok (.baload, 1) := by decide +kernel
theorem dX12_laysHabits_112 : decode cX12_laysHabits 112 = .ok (.ifCond .eq 63, 3) := by decide +kernel
theorem dX12_laysHabits_115 : decode cX12_laysHabits 115 = .ok (.aload_n 0, 1) := by decide +kernel
theorem dX12_laysHabits_116 : decode cX12_laysHabits 116 = .ok (.getfield 93, 3) := by decide +kernel
theorem dX12_laysHabits_119 : decode cX12_laysHabits 119 = .ok (.iload 4, 2) := by decide +kernel
theorem dX12_laysHabits_121 : decode cX12_laysHabits 121 = .ok (.bipush 61, 2) := by decide +kernel
theorem dX12_laysHabits_123 : decode cX12_laysHabits 123 = .ok (.imul, 1) := by decide +kernel
theorem dX12_laysHabits_124 : decode cX12_laysHabits 124 = .ok (.aload_n 0, 1) := by decide +kernel
theorem dX12_laysHabits_125 : decode cX12_laysHabits 125 = .ok (.getfield 90, 3) := by decide +kernel
theorem dX12_laysHabits_128 : decode cX12_laysHabits 128 = .ok (.iload 5, 2) := by decide +kernel
theorem dX12_laysHabits_130 : decode cX12_laysHabits 130 = .ok (.iaload, 1) := by decide +kernel
theorem dX12_laysHabits_131 : decode cX12_laysHabits 131 = .ok (.iadd, 1) := by decide +kernel
theorem dX12_laysHabits_132 : decode cX12_laysHabits 132 = .ok (.iaload, 1) := by decide +kernel
theorem dX12_laysHabits_133 : decode cX12_laysHabits 133 = .ok (.aload_n 0, 1) := by decide +kernel
theorem dX12_laysHabits_134 : decode cX12_laysHabits 134 = .ok (.getfield 90, 3) := by decide +kernel
theorem dX12_laysHabits_137 : decode cX12_laysHabits 137 = .ok (.iload 5, 2) := by decide +kernel
theorem dX12_laysHabits_139 : decode cX12_laysHabits 139 = .ok (.iconst 1, 1) := by decide +kernel
theorem dX12_laysHabits_140 : decode cX12_laysHabits 140 = .ok (.iadd, 1) := by decide +kernel
theorem dX12_laysHabits_141 : decode cX12_laysHabits 141 = .ok (.iaload, 1) := by decide +kernel
theorem dX12_laysHabits_142 : decode cX12_laysHabits 142 = .ok (.if_icmp .lt 7, 3) := by decide +kernel
theorem dX12_laysHabits_145 : decode cX12_laysHabits 145 = .ok (.iconst 1, 1) := by decide +kernel
theorem dX12_laysHabits_146 : decode cX12_laysHabits 146 = .ok (.goto 4, 3) := by decide +kernel
theorem dX12_laysHabits_149 : decode cX12_laysHabits 149 = .ok (.iconst 0, 1) := by decide +kernel
theorem dX12_laysHabits_150 : decode cX12_laysHabits 150 = .ok (.aload_n 0, 1) := by decide +kernel
theorem dX12_laysHabits_151 : decode cX12_laysHabits 151 = .ok (.getfield 90, 3) := by decide +kernel
theorem dX12_laysHabits_154 : decode cX12_laysHabits 154 = .ok (.iload 5, 2) := by decide +kernel
theorem dX12_laysHabits_156 : decode cX12_laysHabits 156 = .ok (.iconst 2, 1) := by decide +kernel
theorem dX12_laysHabits_157 : decode cX12_laysHabits 157 = .ok (.iadd, 1) := by decide +kernel
theorem dX12_laysHabits_158 : decode cX12_laysHabits 158 = .ok (.iaload, 1) := by decide +kernel
theorem dX12_laysHabits_159 : decode cX12_laysHabits 159 = .ok (.iconst 1, 1) := by decide +kernel
theorem dX12_laysHabits_160 : decode cX12_laysHabits 160 = .ok (.if_icmp .ne 7, 3) := by decide +kernel
theorem dX12_laysHabits_163 : decode cX12_laysHabits 163 = .ok (.iconst 1, 1) := by decide +kernel
theorem dX12_laysHabits_164 : decode cX12_laysHabits 164 = .ok (.goto 4, 3) := by decide +kernel
theorem dX12_laysHabits_167 : decode cX12_laysHabits 167 = .ok (.iconst 0, 1) := by decide +kernel
theorem dX12_laysHabits_168 : decode cX12_laysHabits 168 = .ok (.if_icmp .ne 7, 3) := by decide +kernel
theorem dX12_laysHabits_171 : decode cX12_laysHabits 171 = .ok (.iconst 1, 1) := by decide +kernel
theorem dX12_laysHabits_172 : decode cX12_laysHabits 172 = .ok (.goto 4, 3) := by decide +kernel
theorem dX12_laysHabits_175 : decode cX12_laysHabits 175 = .ok (.iconst 0, 1) := by decide +kernel
theorem dX12_laysHabits_176 : decode cX12_laysHabits 176 = .ok (.bastore, 1) := by decide +kernel
theorem dX12_laysHabits_177 : decode cX12_laysHabits 177 = .ok (.iinc 5 3, 3) := by decide +kernel
theorem dX12_laysHabits_180 : decode cX12_laysHabits 180 = .ok (.goto (-92), 3) := by decide +kernel
theorem dX12_laysHabits_183 : decode cX12_laysHabits 183 = .ok (.iload_n 2, 1) := by decide +kernel
theorem dX12_laysHabits_184 : decode cX12_laysHabits 184 = .ok (.aload_n 0, 1) := by decide +kernel
theorem dX12_laysHabits_185 : decode cX12_laysHabits 185 = .ok (.getfield 96, 3) := by decide +kernel
theorem dX12_laysHabits_188 : decode cX12_laysHabits 188 = .ok (.iload 4, 2) := by decide +kernel
theorem dX12_laysHabits_190 : decode cX12_laysHabits 190 = .ok (.baload, 1) := by decide +kernel
theorem dX12_laysHabits_191 : decode cX12_laysHabits 191 = .ok (.ifCond .eq 7, 3) := by decide +kernel
theorem dX12_laysHabits_194 : decode cX12_laysHabits 194 = .ok (.iconst 1, 1) := by decide +kernel
theorem dX12_laysHabits_195 : decode cX12_laysHabits 195 = .ok (.goto 4, 3) := by decide +kernel
theorem dX12_laysHabits_198 : decode cX12_laysHabits 198 = .ok (.iconst 0, 1) := by decide +kernel
theorem dX12_laysHabits_199 : decode cX12_laysHabits 199 = .ok (.iadd, 1) := by decide +kernel
theorem dX12_laysHabits_200 : decode cX12_laysHabits 200 = .ok (.istore_n 2, 1) := by decide +kernel
theorem dX12_laysHabits_201 : decode cX12_laysHabits 201 = .ok (.iinc 4 1, 3) := by decide +kernel
theorem dX12_laysHabits_204 : decode cX12_laysHabits 204 = .ok (.goto (-197), 3) := by decide +kernel
theorem dX12_laysHabits_207 : decode cX12_laysHabits 207 = .ok (.iload_n 2, 1) := by decide +kernel
theorem dX12_laysHabits_208 : decode cX12_laysHabits 208 = .ok (.ireturn, 1) := by decide +kernel
theorem dX12_habits_0 : decode cX12_habits 0 = .ok (.aload_n 0, 1) := by decide +kernel
theorem dX12_habits_1 : decode cX12_habits 1 = .ok (.iconst 0, 1) := by decide +kernel
theorem dX12_habits_2 : decode cX12_habits 2 = .ok (.putfield 109, 3) := by decide +kernel
theorem dX12_habits_5 : decode cX12_habits 5 = .ok (.aload_n 0, 1) := by decide +kernel
theorem dX12_habits_6 : decode cX12_habits 6 = .ok (.iload_n 1, 1) := by decide +kernel
theorem dX12_habits_7 : decode cX12_habits 7 = .ok (.invokevirtual 384, 3) := by decide +kernel
theorem dX12_habits_10 : decode cX12_habits 10 = .ok (.ifCond .eq 8, 3) := by decide +kernel
theorem dX12_habits_13 : decode cX12_habits 13 = .ok (.iload_n 2, 1) := by decide +kernel
theorem dX12_habits_14 : decode cX12_habits 14 = .ok (.iconst (-1), 1) := by decide +kernel
theorem dX12_habits_15 : decode cX12_habits 15 = .ok (.if_icmp .ge 5, 3) := by decide +kernel
theorem dX12_habits_18 : decode cX12_habits 18 = .ok (.iconst (-1), 1) := by decide +kernel
theorem dX12_habits_19 : decode cX12_habits 19 = .ok (.ireturn, 1) := by decide +kernel
theorem dX12_habits_20 : decode cX12_habits 20 = .ok (.aload_n 0, 1) := by decide +kernel
theorem dX12_habits_21 : decode cX12_habits 21 = .ok (.iload_n 1, 1) := by decide +kernel
theorem dX12_habits_22 : decode cX12_habits 22 = .ok (.invokevirtual 462, 3) := by decide +kernel
theorem dX12_habits_25 : decode cX12_habits 25 = .ok (.istore_n 3, 1) := by decide +kernel
theorem dX12_habits_26 : decode cX12_habits 26 = .ok (.iload_n 2, 1) := by decide +kernel
theorem dX12_habits_27 : decode cX12_habits 27 = .ok (.iconst (-1), 1) := by decide +kernel
theorem dX12_habits_28 : decode cX12_habits 28 = .ok (.if_icmp .ne 5, 3) := by decide +kernel
theorem dX12_habits_31 : decode cX12_habits 31 = .ok (.iload_n 3, 1) := by decide +kernel
theorem dX12_habits_32 : decode cX12_habits 32 = .ok (.ireturn, 1) := by decide +kernel
theorem dX12_habits_33 : decode cX12_habits 33 = .ok (.iconst 0, 1) := by decide +kernel
theorem dX12_habits_34 : decode cX12_habits 34 = .ok (.istore 4, 2) := by decide +kernel
theorem dX12_habits_36 : decode cX12_habits 36 = .ok (.iconst 0, 1) := by decide +kernel
theorem dX12_habits_37 : decode cX12_habits 37 = .ok (.istore 5, 2) := by decide +kernel
theorem dX12_habits_39 : decode cX12_habits 39 = .ok (.iload 5, 2) := by decide +kernel
theorem dX12_habits_41 : decode cX12_habits 41 = .ok (.aload_n 0, 1) := by decide +kernel
theorem dX12_habits_42 : decode cX12_habits 42 = .ok (.getfield 304, 3) := by decide +kernel
theorem dX12_habits_45 : decode cX12_habits 45 = .ok (.if_icmp .ge 34, 3) := by decide +kernel
theorem dX12_habits_48 : decode cX12_habits 48 = .ok (.aload_n 0, 1) := by decide +kernel
theorem dX12_habits_49 : decode cX12_habits 49 = .ok (.getfield 96, 3) := by decide +kernel
theorem dX12_habits_52 : decode cX12_habits 52 = .ok (.iload 5, 2) := by decide +kernel
theorem dX12_habits_54 : decode cX12_habits 54 = .ok (.baload, 1) := by decide +kernel
theorem dX12_habits_55 : decode cX12_habits 55 = .ok (.ifCond .ne 6, 3) := by decide +kernel
theorem dX12_habits_58 : decode cX12_habits 58 = .ok (.goto 15, 3) := by decide +kernel
theorem dX12_habits_61 : decode cX12_habits 61 = .ok (.iload 4, 2) := by decide +kernel
theorem dX12_habits_63 : decode cX12_habits 63 = .ok (.iload_n 2, 1) := by decide +kernel
theorem dX12_habits_64 : decode cX12_habits 64 = .ok (.if_icmp .ne 6, 3) := by decide +kernel
theorem dX12_habits_67 : decode cX12_habits 67 = .ok (.iload 5, 2) := by decide +kernel
theorem dX12_habits_69 : decode cX12_habits 69 = .ok (.ireturn, 1) := by decide +kernel
theorem dX12_habits_70 : decode cX12_habits 70 = .ok (.iinc 4 1, 3) := by decide +kernel
theorem dX12_habits_73 : decode cX12_habits 73 = .ok (.iinc 5 1, 3) := by decide +kernel
theorem dX12_habits_76 : decode cX12_habits 76 = .ok (.goto (-37), 3) := by decide +kernel
theorem dX12_habits_79 : decode cX12_habits 79 = .ok (.iconst (-1), 1) := by decide +kernel
theorem dX12_habits_80 : decode cX12_habits 80 = .ok (.ireturn, 1) := by decide +kernel
theorem dX12_ask_0 : decode cX12_ask 0 = .ok (.aload_n 0, 1) := by decide +kernel
theorem dX12_ask_1 : decode cX12_ask 1 = .ok (.iconst 0, 1) := by decide +kernel
theorem dX12_ask_2 : decode cX12_ask 2 = .ok (.putfield 109, 3) := by decide +kernel
theorem dX12_ask_5 : decode cX12_ask 5 = .ok (.aload_n 0, 1) := by decide +kernel
theorem dX12_ask_6 : decode cX12_ask 6 = .ok (.iload_n 1, 1) := by decide +kernel
theorem dX12_ask_7 : decode cX12_ask 7 = .ok (.invokevirtual 384, 3) := by decide +kernel
theorem dX12_ask_10 : decode cX12_ask 10 = .ok (.ifCond .eq 11, 3) := by decide +kernel
theorem dX12_ask_13 : decode cX12_ask 13 = .ok (.aload_n 0, 1) := by decide +kernel
theorem dX12_ask_14 : decode cX12_ask 14 = .ok (.iload_n 1, 1) := by decide +kernel
theorem dX12_ask_15 : decode cX12_ask 15 = .ok (.invokevirtual 462, 3) := by decide +kernel
theorem dX12_ask_18 : decode cX12_ask 18 = .ok (.ifCond .ne 5, 3) := by decide +kernel
theorem dX12_ask_21 : decode cX12_ask 21 = .ok (.iconst (-1), 1) := by decide +kernel
theorem dX12_ask_22 : decode cX12_ask 22 = .ok (.ireturn, 1) := by decide +kernel
theorem dX12_ask_23 : decode cX12_ask 23 = .ok (.iconst (-1), 1) := by decide +kernel
theorem dX12_ask_24 : decode cX12_ask 24 = .ok (.istore_n 2, 1) := by decide +kernel
theorem dX12_ask_25 : decode cX12_ask 25 = .ok (.iconst 0, 1) := by decide +kernel
theorem dX12_ask_26 : decode cX12_ask 26 = .ok (.istore_n 3, 1) := by decide +kernel
theorem dX12_ask_27 : decode cX12_ask 27 = .ok (.iconst 1, 1) := by decide +kernel
theorem dX12_ask_28 : decode cX12_ask 28 = .ok (.istore 4, 2) := by decide +kernel
theorem dX12_ask_30 : decode cX12_ask 30 = .ok (.iload 4, 2) := by decide +kernel
theorem dX12_ask_32 : decode cX12_ask 32 = .ok (.bipush 60, 2) := by decide +kernel
theorem dX12_ask_34 : decode cX12_ask 34 = .ok (.if_icmp .gt 139, 3) := by decide +kernel
theorem dX12_ask_37 : decode cX12_ask 37 = .ok (.iconst 0, 1) := by decide +kernel
theorem dX12_ask_38 : decode cX12_ask 38 = .ok (.istore 5, 2) := by decide +kernel
theorem dX12_ask_40 : decode cX12_ask 40 = .ok (.iconst 0, 1) := by decide +kernel
theorem dX12_ask_41 : decode cX12_ask 41 = .ok (.istore 6, 2) := by decide +kernel
theorem dX12_ask_43 : decode cX12_ask 43 = .ok (.iload 6, 2) := by decide +kernel
theorem dX12_ask_45 : decode cX12_ask 45 = .ok (.aload_n 0, 1) := by decide +kernel
theorem dX12_ask_46 : decode cX12_ask 46 = .ok (.getfield 304, 3) := by decide +kernel
theorem dX12_ask_49 : decode cX12_ask 49 = .ok (.if_icmp .ge 98, 3) := by decide +kernel
theorem dX12_ask_52 : decode cX12_ask 52 = .ok (.iconst 0, 1) := by decide +kernel
theorem dX12_ask_53 : decode cX12_ask 53 = .ok (.istore 7, 2) := by decide +kernel
theorem dX12_ask_55 : decode cX12_ask 55 = .ok (.iconst 0, 1) := by decide +kernel
theorem dX12_ask_56 : decode cX12_ask 56 = .ok (.istore 8, 2) := by decide +kernel
theorem dX12_ask_58 : decode cX12_ask 58 = .ok (.iload 8, 2) := by decide +kernel
theorem dX12_ask_60 : decode cX12_ask 60 = .ok (.aload_n 0, 1) := by decide +kernel
theorem dX12_ask_61 : decode cX12_ask 61 = .ok (.getfield 304, 3) := by decide +kernel
theorem dX12_ask_64 : decode cX12_ask 64 = .ok (.if_icmp .ge 68, 3) := by decide +kernel
theorem dX12_ask_67 : decode cX12_ask 67 = .ok (.iload 7, 2) := by decide +kernel
theorem dX12_ask_69 : decode cX12_ask 69 = .ok (.aload_n 0, 1) := by decide +kernel
theorem dX12_ask_70 : decode cX12_ask 70 = .ok (.getfield 96, 3) := by decide +kernel
theorem dX12_ask_73 : decode cX12_ask 73 = .ok (.iload 6, 2) := by decide +kernel
theorem dX12_ask_75 : decode cX12_ask 75 = .ok (.baload, 1) := by decide +kernel
theorem dX12_ask_76 : decode cX12_ask 76 = .ok (.ifCond .eq 46, 3) := by decide +kernel
theorem dX12_ask_79 : decode cX12_ask 79 = .ok (.aload_n 0, 1) := by decide +kernel
theorem dX12_ask_80 : decode cX12_ask 80 = .ok (.getfield 96, 3) := by decide +kernel
theorem dX12_ask_83 : decode cX12_ask 83 = .ok (.iload 8, 2) := by decide +kernel
theorem dX12_ask_85 : decode cX12_ask 85 = .ok (.baload, 1) := by decide +kernel
theorem dX12_ask_86 : decode cX12_ask 86 = .ok (.ifCond .eq 36, 3) := by decide +kernel
theorem dX12_ask_89 : decode cX12_ask 89 = .ok (.aload_n 0, 1) := by decide +kernel
theorem dX12_ask_90 : decode cX12_ask 90 = .ok (.getfield 93, 3) := by decide +kernel
theorem dX12_ask_93 : decode cX12_ask 93 = .ok (.iload 6, 2) := by decide +kernel
theorem dX12_ask_95 : decode cX12_ask 95 = .ok (.bipush 61, 2) := by decide +kernel
theorem dX12_ask_97 : decode cX12_ask 97 = .ok (.imul, 1) := by decide +kernel
theorem dX12_ask_98 : decode cX12_ask 98 = .ok (.iload 4, 2) := by decide +kernel
theorem dX12_ask_100 : decode cX12_ask 100 = .ok (.iadd, 1) := by decide +kernel
theorem dX12_ask_101 : decode cX12_ask 101 = .ok (.iaload, 1) := by decide +kernel
theorem dX12_ask_102 : decode cX12_ask 102 = .ok (.aload_n 0, 1) := by decide +kernel
theorem dX12_ask_103 : decode cX12_ask 103 = .ok (.getfield 93, 3) := by decide +kernel
theorem dX12_ask_106 : decode cX12_ask 106 = .ok (.iload 8, 2) := by decide +kernel
theorem dX12_ask_108 : decode cX12_ask 108 = .ok (.bipush 61, 2) := by decide +kernel
theorem dX12_ask_110 : decode cX12_ask 110 = .ok (.imul, 1) := by decide +kernel
theorem dX12_ask_111 : decode cX12_ask 111 = .ok (.iload 4, 2) := by decide +kernel
theorem dX12_ask_113 : decode cX12_ask 113 = .ok (.iadd, 1) := by decide +kernel
theorem dX12_ask_114 : decode cX12_ask 114 = .ok (.iaload, 1) := by decide +kernel
theorem dX12_ask_115 : decode cX12_ask 115 = .ok (.if_icmp .ne 7, 3) := by decide +kernel
theorem dX12_ask_118 : decode cX12_ask 118 = .ok (.iconst 1, 1) := by decide +kernel
theorem dX12_ask_119 : decode cX12_ask 119 = .ok (.goto 4, 3) := by decide +kernel
theorem dX12_ask_122 : decode cX12_ask 122 = .ok (.iconst 0, 1) := by decide +kernel
theorem dX12_ask_123 : decode cX12_ask 123 = .ok (.iadd, 1) := by decide +kernel
theorem dX12_ask_124 : decode cX12_ask 124 = .ok (.istore 7, 2) := by decide +kernel
theorem dX12_ask_126 : decode cX12_ask 126 = .ok (.iinc 8 1, 3) := by decide +kernel
theorem dX12_ask_129 : decode cX12_ask 129 = .ok (.goto (-71), 3) := by decide +kernel
theorem dX12_ask_132 : decode cX12_ask 132 = .ok (.iload 5, 2) := by decide +kernel
theorem dX12_ask_134 : decode cX12_ask 134 = .ok (.iload 7, 2) := by decide +kernel
theorem dX12_ask_136 : decode cX12_ask 136 = .ok (.invokestatic 353, 3) := by decide +kernel
theorem dX12_ask_139 : decode cX12_ask 139 = .ok (.istore 5, 2) := by decide +kernel
theorem dX12_ask_141 : decode cX12_ask 141 = .ok (.iinc 6 1, 3) := by decide +kernel
theorem dX12_ask_144 : decode cX12_ask 144 = .ok (.goto (-101), 3) := by decide +kernel
theorem dX12_ask_147 : decode cX12_ask 147 = .ok (.iload_n 2, 1) := by decide +kernel
theorem dX12_ask_148 : decode cX12_ask 148 = .ok (.iconst (-1), 1) := by decide +kernel
theorem dX12_ask_149 : decode cX12_ask 149 = .ok (.if_icmp .eq 12, 3) := by decide +kernel
theorem dX12_ask_152 : decode cX12_ask 152 = .ok (.iload 5, 2) := by decide +kernel
theorem dX12_ask_154 : decode cX12_ask 154 = .ok (.iload_n 3, 1) := by decide +kernel
theorem dX12_ask_155 : decode cX12_ask 155 = .ok (.if_icmp .lt 6, 3) := by decide +kernel
theorem dX12_ask_158 : decode cX12_ask 158 = .ok (.goto 9, 3) := by decide +kernel
theorem dX12_ask_161 : decode cX12_ask 161 = .ok (.iload 4, 2) := by decide +kernel
theorem dX12_ask_163 : decode cX12_ask 163 = .ok (.istore_n 2, 1) := by decide +kernel
theorem dX12_ask_164 : decode cX12_ask 164 = .ok (.iload 5, 2) := by decide +kernel
theorem dX12_ask_166 : decode cX12_ask 166 = .ok (.istore_n 3, 1) := by decide +kernel
theorem dX12_ask_167 : decode cX12_ask 167 = .ok (.iinc 4 1, 3) := by decide +kernel
theorem dX12_ask_170 : decode cX12_ask 170 = .ok (.goto (-140), 3) := by decide +kernel
theorem dX12_ask_173 : decode cX12_ask 173 = .ok (.iload_n 2, 1) := by decide +kernel
theorem dX12_ask_174 : decode cX12_ask 174 = .ok (.ireturn, 1) := by decide +kernel
theorem dX12_gameOf_0 : decode cX12_gameOf 0 = .ok (.aload_n 0, 1) := by decide +kernel
theorem dX12_gameOf_1 : decode cX12_gameOf 1 = .ok (.getfield 61, 3) := by decide +kernel
theorem dX12_gameOf_4 : decode cX12_gameOf 4 = .ok (.aload_n 0, 1) := by decide +kernel
theorem dX12_gameOf_5 : decode cX12_gameOf 5 = .ok (.getfield 64, 3) := by decide +kernel
theorem dX12_gameOf_8 : decode cX12_gameOf 8 = .ok (.invokestatic 434, 3) := by decide +kernel
theorem dX12_gameOf_11 : decode cX12_gameOf 11 = .ok (.aload_n 0, 1) := by decide +kernel
theorem dX12_gameOf_12 : decode cX12_gameOf 12 = .ok (.getfield 64, 3) := by decide +kernel
theorem dX12_gameOf_15 : decode cX12_gameOf 15 = .ok (.iload_n 1, 1) := by decide +kernel
theorem dX12_gameOf_16 : decode cX12_gameOf 16 = .ok (.iload_n 3, 1) := by decide +kernel
theorem dX12_gameOf_17 : decode cX12_gameOf 17 = .ok (.iastore, 1) := by decide +kernel
theorem dX12_gameOf_18 : decode cX12_gameOf 18 = .ok (.aload_n 0, 1) := by decide +kernel
theorem dX12_gameOf_19 : decode cX12_gameOf 19 = .ok (.getfield 64, 3) := by decide +kernel
theorem dX12_gameOf_22 : decode cX12_gameOf 22 = .ok (.iload_n 2, 1) := by decide +kernel
theorem dX12_gameOf_23 : decode cX12_gameOf 23 = .ok (.iload 4, 2) := by decide +kernel
theorem dX12_gameOf_25 : decode cX12_gameOf 25 = .ok (.iastore, 1) := by decide +kernel
theorem dX12_gameOf_26 : decode cX12_gameOf 26 = .ok (.aload_n 0, 1) := by decide +kernel
theorem dX12_gameOf_27 : decode cX12_gameOf 27 = .ok (.invokevirtual 451, 3) := by decide +kernel
theorem dX12_gameOf_30 : decode cX12_gameOf 30 = .ok (.iload 5, 2) := by decide +kernel
theorem dX12_gameOf_32 : decode cX12_gameOf 32 = .ok (.ifCond .ne 7, 3) := by decide +kernel
theorem dX12_gameOf_35 : decode cX12_gameOf 35 = .ok (.iload_n 1, 1) := by decide +kernel
theorem dX12_gameOf_36 : decode cX12_gameOf 36 = .ok (.goto 4, 3) := by decide +kernel
theorem dX12_gameOf_39 : decode cX12_gameOf 39 = .ok (.iload_n 2, 1) := by decide +kernel
theorem dX12_gameOf_40 : decode cX12_gameOf 40 = .ok (.istore 6, 2) := by decide +kernel
theorem dX12_gameOf_42 : decode cX12_gameOf 42 = .ok (.aload_n 0, 1) := by decide +kernel
theorem dX12_gameOf_43 : decode cX12_gameOf 43 = .ok (.getfield 64, 3) := by decide +kernel
theorem dX12_gameOf_46 : decode cX12_gameOf 46 = .ok (.bipush 6, 2) := by decide +kernel
theorem dX12_gameOf_48 : decode cX12_gameOf 48 = .ok (.iload 6, 2) := by decide +kernel
theorem dX12_gameOf_50 : decode cX12_gameOf 50 = .ok (.iadd, 1) := by decide +kernel
theorem dX12_gameOf_51 : decode cX12_gameOf 51 = .ok (.iaload, 1) := by decide +kernel
theorem dX12_gameOf_52 : decode cX12_gameOf 52 = .ok (.aload_n 0, 1) := by decide +kernel
theorem dX12_gameOf_53 : decode cX12_gameOf 53 = .ok (.getfield 61, 3) := by decide +kernel
theorem dX12_gameOf_56 : decode cX12_gameOf 56 = .ok (.bipush 6, 2) := by decide +kernel
theorem dX12_gameOf_58 : decode cX12_gameOf 58 = .ok (.iload 6, 2) := by decide +kernel
theorem dX12_gameOf_60 : decode cX12_gameOf 60 = .ok (.iadd, 1) := by decide +kernel
theorem dX12_gameOf_61 : decode cX12_gameOf 61 = .ok (.iaload, 1) := by decide +kernel
theorem dX12_gameOf_62 : decode cX12_gameOf 62 = .ok (.isub, 1) := by decide +kernel
theorem dX12_gameOf_63 : decode cX12_gameOf 63 = .ok (.aload_n 0, 1) := by decide +kernel
theorem dX12_gameOf_64 : decode cX12_gameOf 64 = .ok (.getfield 64, 3) := by decide +kernel
theorem dX12_gameOf_67 : decode cX12_gameOf 67 = .ok (.bipush 23, 2) := by decide +kernel
theorem dX12_gameOf_69 : decode cX12_gameOf 69 = .ok (.iaload, 1) := by decide +kernel
theorem dX12_gameOf_70 : decode cX12_gameOf 70 = .ok (.iload 5, 2) := by decide +kernel
theorem dX12_gameOf_72 : decode cX12_gameOf 72 = .ok (.ifCond .ne 7, 3) := by decide +kernel
theorem dX12_gameOf_75 : decode cX12_gameOf 75 = .ok (.iload_n 3, 1) := by decide +kernel
theorem dX12_gameOf_76 : decode cX12_gameOf 76 = .ok (.goto 5, 3) := by decide +kernel
theorem dX12_gameOf_79 : decode cX12_gameOf 79 = .ok (.iload 4, 2) := by decide +kernel
theorem dX12_gameOf_81 : decode cX12_gameOf 81 = .ok (.if_icmp .ne 7, 3) := by decide +kernel
theorem dX12_gameOf_84 : decode cX12_gameOf 84 = .ok (.iconst 5, 1) := by decide +kernel
theorem dX12_gameOf_85 : decode cX12_gameOf 85 = .ok (.goto 4, 3) := by decide +kernel
theorem dX12_gameOf_88 : decode cX12_gameOf 88 = .ok (.iconst 0, 1) := by decide +kernel
theorem dX12_gameOf_89 : decode cX12_gameOf 89 = .ok (.iadd, 1) := by decide +kernel
theorem dX12_gameOf_90 : decode cX12_gameOf 90 = .ok (.ireturn, 1) := by decide +kernel
theorem dX12_canPlay_0 : decode cX12_canPlay 0 = .ok (.aload_n 0, 1) := by decide +kernel
theorem dX12_canPlay_1 : decode cX12_canPlay 1 = .ok (.iload_n 1, 1) := by decide +kernel
theorem dX12_canPlay_2 : decode cX12_canPlay 2 = .ok (.invokevirtual 384, 3) := by decide +kernel
theorem dX12_canPlay_5 : decode cX12_canPlay 5 = .ok (.ifCond .eq 48, 3) := by decide +kernel
theorem dX12_canPlay_8 : decode cX12_canPlay 8 = .ok (.aload_n 0, 1) := by decide +kernel
theorem dX12_canPlay_9 : decode cX12_canPlay 9 = .ok (.iload_n 2, 1) := by decide +kernel
theorem dX12_canPlay_10 : decode cX12_canPlay 10 = .ok (.invokevirtual 384, 3) := by decide +kernel
theorem dX12_canPlay_13 : decode cX12_canPlay 13 = .ok (.ifCond .eq 40, 3) := by decide +kernel
theorem dX12_canPlay_16 : decode cX12_canPlay 16 = .ok (.iload_n 1, 1) := by decide +kernel
theorem dX12_canPlay_17 : decode cX12_canPlay 17 = .ok (.iload_n 2, 1) := by decide +kernel
theorem dX12_canPlay_18 : decode cX12_canPlay 18 = .ok (.if_icmp .eq 35, 3) := by decide +kernel
theorem dX12_canPlay_21 : decode cX12_canPlay 21 = .ok (.aload_n 0, 1) := by decide +kernel
theorem dX12_canPlay_22 : decode cX12_canPlay 22 = .ok (.getfield 61, 3) := by decide +kernel
theorem dX12_canPlay_25 : decode cX12_canPlay 25 = .ok (.bipush 18, 2) := by decide +kernel
theorem dX12_canPlay_27 : decode cX12_canPlay 27 = .ok (.iaload, 1) := by decide +kernel
theorem dX12_canPlay_28 : decode cX12_canPlay 28 = .ok (.iload_n 1, 1) := by decide +kernel
theorem dX12_canPlay_29 : decode cX12_canPlay 29 = .ok (.invokestatic 242, 3) := by decide +kernel
theorem dX12_canPlay_32 : decode cX12_canPlay 32 = .ok (.ifCond .ne 21, 3) := by decide +kernel
theorem dX12_canPlay_35 : decode cX12_canPlay 35 = .ok (.aload_n 0, 1) := by decide +kernel
theorem dX12_canPlay_36 : decode cX12_canPlay 36 = .ok (.getfield 61, 3) := by decide +kernel
theorem dX12_canPlay_39 : decode cX12_canPlay 39 = .ok (.bipush 18, 2) := by decide +kernel
theorem dX12_canPlay_41 : decode cX12_canPlay 41 = .ok (.iaload, 1) := by decide +kernel
theorem dX12_canPlay_42 : decode cX12_canPlay 42 = .ok (.iload_n 2, 1) := by decide +kernel
theorem dX12_canPlay_43 : decode cX12_canPlay 43 = .ok (.invokestatic 242, 3) := by decide +kernel
theorem dX12_canPlay_46 : decode cX12_canPlay 46 = .ok (.ifCond .ne 7, 3) := by decide +kernel
theorem dX12_canPlay_49 : decode cX12_canPlay 49 = .ok (.iconst 1, 1) := by decide +kernel
theorem dX12_canPlay_50 : decode cX12_canPlay 50 = .ok (.goto 4, 3) := by decide +kernel
theorem dX12_canPlay_53 : decode cX12_canPlay 53 = .ok (.iconst 0, 1) := by decide +kernel
theorem dX12_canPlay_54 : decode cX12_canPlay 54 = .ok (.ireturn, 1) := by decide +kernel
theorem dX12_game_0 : decode cX12_game 0 = .ok (.aload_n 0, 1) := by decide +kernel
theorem dX12_game_1 : decode cX12_game 1 = .ok (.iconst 0, 1) := by decide +kernel
theorem dX12_game_2 : decode cX12_game 2 = .ok (.putfield 109, 3) := by decide +kernel
theorem dX12_game_5 : decode cX12_game 5 = .ok (.aload_n 0, 1) := by decide +kernel
theorem dX12_game_6 : decode cX12_game 6 = .ok (.iload_n 1, 1) := by decide +kernel
theorem dX12_game_7 : decode cX12_game 7 = .ok (.iload_n 2, 1) := by decide +kernel
theorem dX12_game_8 : decode cX12_game 8 = .ok (.invokevirtual 465, 3) := by decide +kernel
theorem dX12_game_11 : decode cX12_game 11 = .ok (.ifCond .eq 45, 3) := by decide +kernel
theorem dX12_game_14 : decode cX12_game 14 = .ok (.aload_n 0, 1) := by decide +kernel
theorem dX12_game_15 : decode cX12_game 15 = .ok (.iload_n 3, 1) := by decide +kernel
theorem dX12_game_16 : decode cX12_game 16 = .ok (.invokevirtual 375, 3) := by decide +kernel
theorem dX12_game_19 : decode cX12_game 19 = .ok (.ifCond .eq 37, 3) := by decide +kernel
theorem dX12_game_22 : decode cX12_game 22 = .ok (.aload_n 0, 1) := by decide +kernel
theorem dX12_game_23 : decode cX12_game 23 = .ok (.iload 4, 2) := by decide +kernel
theorem dX12_game_25 : decode cX12_game 25 = .ok (.invokevirtual 375, 3) := by decide +kernel
theorem dX12_game_28 : decode cX12_game 28 = .ok (.ifCond .eq 28, 3) := by decide +kernel
theorem dX12_game_31 : decode cX12_game 31 = .ok (.iload 5, 2) := by decide +kernel
theorem dX12_game_33 : decode cX12_game 33 = .ok (.i2l, 1) := by decide +kernel
theorem dX12_game_34 : decode cX12_game 34 = .ok (.lconst 0, 1) := by decide +kernel
theorem dX12_game_35 : decode cX12_game 35 = .ok (.lconst 1, 1) := by decide +kernel
theorem dX12_game_36 : decode cX12_game 36 = .ok (.invokestatic 230, 3) := by decide +kernel
theorem dX12_game_39 : decode cX12_game 39 = .ok (.ifCond .eq 17, 3) := by decide +kernel
theorem dX12_game_42 : decode cX12_game 42 = .ok (.aload_n 0, 1) := by decide +kernel
theorem dX12_game_43 : decode cX12_game 43 = .ok (.iload_n 1, 1) := by decide +kernel
theorem dX12_game_44 : decode cX12_game 44 = .ok (.iload_n 2, 1) := by decide +kernel
theorem dX12_game_45 : decode cX12_game 45 = .ok (.iload_n 3, 1) := by decide +kernel
theorem dX12_game_46 : decode cX12_game 46 = .ok (.iload 4, 2) := by decide +kernel
theorem dX12_game_48 : decode cX12_game 48 = .ok (.iload 5, 2) := by decide +kernel
theorem dX12_game_50 : decode cX12_game 50 = .ok (.invokevirtual 468, 3) := by decide +kernel
theorem dX12_game_53 : decode cX12_game 53 = .ok (.goto 6, 3) := by decide +kernel
theorem dX12_game_56 : decode cX12_game 56 = .ok (.ldc_w 380, 3) := by decide +kernel
theorem dX12_game_59 : decode cX12_game 59 = .ok (.ireturn, 1) := by decide +kernel
theorem dX12_rests_0 : decode cX12_rests 0 = .ok (.aload_n 0, 1) := by decide +kernel
theorem dX12_rests_1 : decode cX12_rests 1 = .ok (.iconst 0, 1) := by decide +kernel
theorem dX12_rests_2 : decode cX12_rests 2 = .ok (.putfield 109, 3) := by decide +kernel
theorem dX12_rests_5 : decode cX12_rests 5 = .ok (.aload_n 0, 1) := by decide +kernel
theorem dX12_rests_6 : decode cX12_rests 6 = .ok (.iload_n 1, 1) := by decide +kernel
theorem dX12_rests_7 : decode cX12_rests 7 = .ok (.iload_n 2, 1) := by decide +kernel
theorem dX12_rests_8 : decode cX12_rests 8 = .ok (.invokevirtual 465, 3) := by decide +kernel
theorem dX12_rests_11 : decode cX12_rests 11 = .ok (.ifCond .eq 8, 3) := by decide +kernel
theorem dX12_rests_14 : decode cX12_rests 14 = .ok (.iload_n 3, 1) := by decide +kernel
theorem dX12_rests_15 : decode cX12_rests 15 = .ok (.iconst (-1), 1) := by decide +kernel
theorem dX12_rests_16 : decode cX12_rests 16 = .ok (.if_icmp .ge 5, 3) := by decide +kernel
theorem dX12_rests_19 : decode cX12_rests 19 = .ok (.iconst (-1), 1) := by decide +kernel
theorem dX12_rests_20 : decode cX12_rests 20 = .ok (.ireturn, 1) := by decide +kernel
theorem dX12_rests_21 : decode cX12_rests 21 = .ok (.iconst 0, 1) := by decide +kernel
theorem dX12_rests_22 : decode cX12_rests 22 = .ok (.istore 4, 2) := by decide +kernel
theorem dX12_rests_24 : decode cX12_rests 24 = .ok (.iload 4, 2) := by decide +kernel
theorem dX12_rests_26 : decode cX12_rests 26 = .ok (.aload_n 0, 1) := by decide +kernel
theorem dX12_rests_27 : decode cX12_rests 27 = .ok (.getfield 304, 3) := by decide +kernel
theorem dX12_rests_30 : decode cX12_rests 30 = .ok (.if_icmp .ge 78, 3) := by decide +kernel
theorem dX12_rests_33 : decode cX12_rests 33 = .ok (.iconst 0, 1) := by decide +kernel
theorem dX12_rests_34 : decode cX12_rests 34 = .ok (.istore 5, 2) := by decide +kernel
theorem dX12_rests_36 : decode cX12_rests 36 = .ok (.iload 5, 2) := by decide +kernel
theorem dX12_rests_38 : decode cX12_rests 38 = .ok (.aload_n 0, 1) := by decide +kernel
theorem dX12_rests_39 : decode cX12_rests 39 = .ok (.getfield 304, 3) := by decide +kernel
theorem dX12_rests_42 : decode cX12_rests 42 = .ok (.if_icmp .ge 60, 3) := by decide +kernel
theorem dX12_rests_45 : decode cX12_rests 45 = .ok (.aload_n 0, 1) := by decide +kernel
theorem dX12_rests_46 : decode cX12_rests 46 = .ok (.getfield 100, 3) := by decide +kernel
theorem dX12_rests_49 : decode cX12_rests 49 = .ok (.bipush 6, 2) := by decide +kernel
theorem dX12_rests_51 : decode cX12_rests 51 = .ok (.iload 4, 2) := by decide +kernel
theorem dX12_rests_53 : decode cX12_rests 53 = .ok (.imul, 1) := by decide +kernel
theorem dX12_rests_54 : decode cX12_rests 54 = .ok (.iload 5, 2) := by decide +kernel
theorem dX12_rests_56 : decode cX12_rests 56 = .ok (.iadd, 1) := by decide +kernel
theorem dX12_rests_57 : decode cX12_rests 57 = .ok (.aload_n 0, 1) := by decide +kernel
theorem dX12_rests_58 : decode cX12_rests 58 = .ok (.iload_n 1, 1) := by decide +kernel
theorem dX12_rests_59 : decode cX12_rests 59 = .ok (.iload_n 2, 1) := by decide +kernel
theorem dX12_rests_60 : decode cX12_rests 60 = .ok (.iload 4, 2) := by decide +kernel
theorem dX12_rests_62 : decode cX12_rests 62 = .ok (.iload 5, 2) := by decide +kernel
theorem dX12_rests_64 : decode cX12_rests 64 = .ok (.iconst 0, 1) := by decide +kernel
theorem dX12_rests_65 : decode cX12_rests 65 = .ok (.invokevirtual 468, 3) := by decide +kernel
theorem dX12_rests_68 : decode cX12_rests 68 = .ok (.iastore, 1) := by decide +kernel
theorem dX12_rests_69 : decode cX12_rests 69 = .ok (.aload_n 0, 1) := by decide +kernel
theorem dX12_rests_70 : decode cX12_rests 70 = .ok (.getfield 100, 3) := by decide +kernel
theorem dX12_rests_73 : decode cX12_rests 73 = .ok (.bipush 6, 2) := by decide +kernel
theorem dX12_rests_75 : decode cX12_rests 75 = .ok (.bipush 6, 2) := by decide +kernel
theorem dX12_rests_77 : decode cX12_rests 77 = .ok (.iload 4, 2) := by decide +kernel
theorem dX12_rests_79 : decode cX12_rests 79 = .ok (.iadd, 1) := by decide +kernel
theorem dX12_rests_80 : decode cX12_rests 80 = .ok (.imul, 1) := by decide +kernel
theorem dX12_rests_81 : decode cX12_rests 81 = .ok (.iload 5, 2) := by decide +kernel
theorem dX12_rests_83 : decode cX12_rests 83 = .ok (.iadd, 1) := by decide +kernel
theorem dX12_rests_84 : decode cX12_rests 84 = .ok (.aload_n 0, 1) := by decide +kernel
theorem dX12_rests_85 : decode cX12_rests 85 = .ok (.iload_n 1, 1) := by decide +kernel
theorem dX12_rests_86 : decode cX12_rests 86 = .ok (.iload_n 2, 1) := by decide +kernel
theorem dX12_rests_87 : decode cX12_rests 87 = .ok (.iload 4, 2) := by decide +kernel
theorem dX12_rests_89 : decode cX12_rests 89 = .ok (.iload 5, 2) := by decide +kernel
theorem dX12_rests_91 : decode cX12_rests 91 = .ok (.iconst 1, 1) := by decide +kernel
theorem dX12_rests_92 : decode cX12_rests 92 = .ok (.invokevirtual 468, 3) := by decide +kernel
theorem dX12_rests_95 : decode cX12_rests 95 = .ok (.iastore, 1) := by decide +kernel
theorem dX12_rests_96 : decode cX12_rests 96 = .ok (.iinc 5 1, 3) := by decide +kernel
theorem dX12_rests_99 : decode cX12_rests 99 = .ok (.goto (-63), 3) := by decide +kernel
theorem dX12_rests_102 : decode cX12_rests 102 = .ok (.iinc 4 1, 3) := by decide +kernel
theorem dX12_rests_105 : decode cX12_rests 105 = .ok (.goto (-81), 3) := by decide +kernel
theorem dX12_rests_108 : decode cX12_rests 108 = .ok (.iconst 0, 1) := by decide +kernel
theorem dX12_rests_109 : decode cX12_rests 109 = .ok (.istore 4, 2) := by decide +kernel
theorem dX12_rests_111 : decode cX12_rests 111 = .ok (.iconst 0, 1) := by decide +kernel
theorem dX12_rests_112 : decode cX12_rests 112 = .ok (.istore 5, 2) := by decide +kernel
theorem dX12_rests_114 : decode cX12_rests 114 = .ok (.iload 5, 2) := by decide +kernel
theorem dX12_rests_116 : decode cX12_rests 116 = .ok (.aload_n 0, 1) := by decide +kernel
theorem dX12_rests_117 : decode cX12_rests 117 = .ok (.getfield 304, 3) := by decide +kernel
theorem dX12_rests_120 : decode cX12_rests 120 = .ok (.if_icmp .ge 150, 3) := by decide +kernel
theorem dX12_rests_123 : decode cX12_rests 123 = .ok (.iconst 0, 1) := by decide +kernel
theorem dX12_rests_124 : decode cX12_rests 124 = .ok (.istore 6, 2) := by decide +kernel
theorem dX12_rests_126 : decode cX12_rests 126 = .ok (.iload 6, 2) := by decide +kernel
theorem dX12_rests_128 : decode cX12_rests 128 = .ok (.aload_n 0, 1) := by decide +kernel
theorem dX12_rests_129 : decode cX12_rests 129 = .ok (.getfield 304, 3) := by decide +kernel
theorem dX12_rests_132 : decode cX12_rests 132 = .ok (.if_icmp .ge 132, 3) := by decide +kernel
theorem dX12_rests_135 : decode cX12_rests 135 = .ok (.iconst 1, 1) := by decide +kernel
theorem dX12_rests_136 : decode cX12_rests 136 = .ok (.istore 7, 2) := by decide +kernel
theorem dX12_rests_138 : decode cX12_rests 138 = .ok (.iconst 0, 1) := by decide +kernel
theorem dX12_rests_139 : decode cX12_rests 139 = .ok (.istore 8, 2) := by decide +kernel
theorem dX12_rests_141 : decode cX12_rests 141 = .ok (.iload 8, 2) := by decide +kernel
theorem dX12_rests_143 : decode cX12_rests 143 = .ok (.aload_n 0, 1) := by decide +kernel
theorem dX12_rests_144 : decode cX12_rests 144 = .ok (.getfield 304, 3) := by decide +kernel
theorem dX12_rests_147 : decode cX12_rests 147 = .ok (.if_icmp .ge 85, 3) := by decide +kernel
theorem dX12_rests_150 : decode cX12_rests 150 = .ok (.iload 7, 2) := by decide +kernel
theorem dX12_rests_152 : decode cX12_rests 152 = .ok (.ifCond .eq 71, 3) := by decide +kernel
theorem dX12_rests_155 : decode cX12_rests 155 = .ok (.aload_n 0, 1) := by decide +kernel
theorem dX12_rests_156 : decode cX12_rests 156 = .ok (.getfield 100, 3) := by decide +kernel
theorem dX12_rests_159 : decode cX12_rests 159 = .ok (.bipush 6, 2) := by decide +kernel
theorem dX12_rests_161 : decode cX12_rests 161 = .ok (.iload 8, 2) := by decide +kernel
theorem dX12_rests_163 : decode cX12_rests 163 = .ok (.imul, 1) := by decide +kernel
theorem dX12_rests_164 : decode cX12_rests 164 = .ok (.iload 6, 2) := by decide +kernel
theorem dX12_rests_166 : decode cX12_rests 166 = .ok (.iadd, 1) := by decide +kernel
theorem dX12_rests_167 : decode cX12_rests 167 = .ok (.iaload, 1) := by decide +kernel
theorem dX12_rests_168 : decode cX12_rests 168 = .ok (.aload_n 0, 1) := by decide +kernel
theorem dX12_rests_169 : decode cX12_rests 169 = .ok (.getfield 100, 3) := by decide +kernel
theorem dX12_rests_172 : decode cX12_rests 172 = .ok (.bipush 6, 2) := by decide +kernel
theorem dX12_rests_174 : decode cX12_rests 174 = .ok (.iload 5, 2) := by decide +kernel
theorem dX12_rests_176 : decode cX12_rests 176 = .ok (.imul, 1) := by decide +kernel
theorem dX12_rests_177 : decode cX12_rests 177 = .ok (.iload 6, 2) := by decide +kernel
theorem dX12_rests_179 : decode cX12_rests 179 = .ok (.iadd, 1) := by decide +kernel
theorem dX12_rests_180 : decode cX12_rests 180 = .ok (.iaload, 1) := by decide +kernel
theorem dX12_rests_181 : decode cX12_rests 181 = .ok (.if_icmp .gt 42, 3) := by decide +kernel
theorem dX12_rests_184 : decode cX12_rests 184 = .ok (.aload_n 0, 1) := by decide +kernel
theorem dX12_rests_185 : decode cX12_rests 185 = .ok (.getfield 100, 3) := by decide +kernel
theorem dX12_rests_188 : decode cX12_rests 188 = .ok (.bipush 6, 2) := by decide +kernel
theorem dX12_rests_190 : decode cX12_rests 190 = .ok (.bipush 6, 2) := by decide +kernel
theorem dX12_rests_192 : decode cX12_rests 192 = .ok (.iload 5, 2) := by decide +kernel
theorem dX12_rests_194 : decode cX12_rests 194 = .ok (.iadd, 1) := by decide +kernel
theorem dX12_rests_195 : decode cX12_rests 195 = .ok (.imul, 1) := by decide +kernel
theorem dX12_rests_196 : decode cX12_rests 196 = .ok (.iload 8, 2) := by decide +kernel
theorem dX12_rests_198 : decode cX12_rests 198 = .ok (.iadd, 1) := by decide +kernel
theorem dX12_rests_199 : decode cX12_rests 199 = .ok (.iaload, 1) := by decide +kernel
theorem dX12_rests_200 : decode cX12_rests 200 = .ok (.aload_n 0, 1) := by decide +kernel
theorem dX12_rests_201 : decode cX12_rests 201 = .ok (.getfield 100, 3) := by decide +kernel
theorem dX12_rests_204 : decode cX12_rests 204 = .ok (.bipush 6, 2) := by decide +kernel
theorem dX12_rests_206 : decode cX12_rests 206 = .ok (.bipush 6, 2) := by decide +kernel
theorem dX12_rests_208 : decode cX12_rests 208 = .ok (.iload 5, 2) := by decide +kernel
theorem dX12_rests_210 : decode cX12_rests 210 = .ok (.iadd, 1) := by decide +kernel
theorem dX12_rests_211 : decode cX12_rests 211 = .ok (.imul, 1) := by decide +kernel
theorem dX12_rests_212 : decode cX12_rests 212 = .ok (.iload 6, 2) := by decide +kernel
theorem dX12_rests_214 : decode cX12_rests 214 = .ok (.iadd, 1) := by decide +kernel
theorem dX12_rests_215 : decode cX12_rests 215 = .ok (.iaload, 1) := by decide +kernel
theorem dX12_rests_216 : decode cX12_rests 216 = .ok (.if_icmp .gt 7, 3) := by decide +kernel
theorem dX12_rests_219 : decode cX12_rests 219 = .ok (.iconst 1, 1) := by decide +kernel
theorem dX12_rests_220 : decode cX12_rests 220 = .ok (.goto 4, 3) := by decide +kernel
theorem dX12_rests_223 : decode cX12_rests 223 = .ok (.iconst 0, 1) := by decide +kernel
theorem dX12_rests_224 : decode cX12_rests 224 = .ok (.istore 7, 2) := by decide +kernel
theorem dX12_rests_226 : decode cX12_rests 226 = .ok (.iinc 8 1, 3) := by decide +kernel
theorem dX12_rests_229 : decode cX12_rests 229 = .ok (.goto (-88), 3) := by decide +kernel
theorem dX12_rests_232 : decode cX12_rests 232 = .ok (.iload 7, 2) := by decide +kernel
theorem dX12_rests_234 : decode cX12_rests 234 = .ok (.ifCond .ne 6, 3) := by decide +kernel
theorem dX12_rests_237 : decode cX12_rests 237 = .ok (.goto 21, 3) := by decide +kernel
theorem dX12_rests_240 : decode cX12_rests 240 = .ok (.iload 4, 2) := by decide +kernel
theorem dX12_rests_242 : decode cX12_rests 242 = .ok (.iload_n 3, 1) := by decide +kernel
theorem dX12_rests_243 : decode cX12_rests 243 = .ok (.if_icmp .ne 12, 3) := by decide +kernel
theorem dX12_rests_246 : decode cX12_rests 246 = .ok (.bipush 10, 2) := by decide +kernel
theorem dX12_rests_248 : decode cX12_rests 248 = .ok (.iload 5, 2) := by decide +kernel
theorem dX12_rests_250 : decode cX12_rests 250 = .ok (.imul, 1) := by decide +kernel
theorem dX12_rests_251 : decode cX12_rests 251 = .ok (.iload 6, 2) := by decide +kernel
theorem dX12_rests_253 : decode cX12_rests 253 = .ok (.iadd, 1) := by decide +kernel
theorem dX12_rests_254 : decode cX12_rests 254 = .ok (.ireturn, 1) := by decide +kernel
theorem dX12_rests_255 : decode cX12_rests 255 = .ok (.iinc 4 1, 3) := by decide +kernel
theorem dX12_rests_258 : decode cX12_rests 258 = .ok (.iinc 6 1, 3) := by decide +kernel
theorem dX12_rests_261 : decode cX12_rests 261 = .ok (.goto (-135), 3) := by decide +kernel
theorem dX12_rests_264 : decode cX12_rests 264 = .ok (.iinc 5 1, 3) := by decide +kernel
theorem dX12_rests_267 : decode cX12_rests 267 = .ok (.goto (-153), 3) := by decide +kernel
theorem dX12_rests_270 : decode cX12_rests 270 = .ok (.iload_n 3, 1) := by decide +kernel
theorem dX12_rests_271 : decode cX12_rests 271 = .ok (.iconst (-1), 1) := by decide +kernel
theorem dX12_rests_272 : decode cX12_rests 272 = .ok (.if_icmp .ne 8, 3) := by decide +kernel
theorem dX12_rests_275 : decode cX12_rests 275 = .ok (.iload 4, 2) := by decide +kernel
theorem dX12_rests_277 : decode cX12_rests 277 = .ok (.goto 4, 3) := by decide +kernel
theorem dX12_rests_280 : decode cX12_rests 280 = .ok (.iconst (-1), 1) := by decide +kernel
theorem dX12_rests_281 : decode cX12_rests 281 = .ok (.ireturn, 1) := by decide +kernel
theorem dX12_oddsFrom_0 : decode cX12_oddsFrom 0 = .ok (.iload_n 2, 1) := by decide +kernel
theorem dX12_oddsFrom_1 : decode cX12_oddsFrom 1 = .ok (.aload_n 0, 1) := by decide +kernel
theorem dX12_oddsFrom_2 : decode cX12_oddsFrom 2 = .ok (.getfield 37, 3) := by decide +kernel
theorem dX12_oddsFrom_5 : decode cX12_oddsFrom 5 = .ok (.iconst 0, 1) := by decide +kernel
theorem dX12_oddsFrom_6 : decode cX12_oddsFrom 6 = .ok (.iaload, 1) := by decide +kernel
theorem dX12_oddsFrom_7 : decode cX12_oddsFrom 7 = .ok (.if_icmp .ne 65, 3) := by decide +kernel
theorem dX12_oddsFrom_10 : decode cX12_oddsFrom 10 = .ok (.iconst 0, 1) := by decide +kernel
theorem dX12_oddsFrom_11 : decode cX12_oddsFrom 11 = .ok (.istore 5, 2) := by decide +kernel
theorem dX12_oddsFrom_13 : decode cX12_oddsFrom 13 = .ok (.iconst 1, 1) := by decide +kernel
theorem dX12_oddsFrom_14 : decode cX12_oddsFrom 14 = .ok (.istore 6, 2) := by decide +kernel
theorem dX12_oddsFrom_16 : decode cX12_oddsFrom 16 = .ok (.iload 6, 2) := by decide +kernel
theorem dX12_oddsFrom_18 : decode cX12_oddsFrom 18 = .ok (.aload_n 0, 1) := by decide +kernel
theorem dX12_oddsFrom_19 : decode cX12_oddsFrom 19 = .ok (.getfield 37, 3) := by decide +kernel
theorem dX12_oddsFrom_22 : decode cX12_oddsFrom 22 = .ok (.iconst 0, 1) := by decide +kernel
theorem dX12_oddsFrom_23 : decode cX12_oddsFrom 23 = .ok (.iaload, 1) := by decide +kernel
theorem dX12_oddsFrom_24 : decode cX12_oddsFrom 24 = .ok (.if_icmp .ge 35, 3) := by decide +kernel
theorem dX12_oddsFrom_27 : decode cX12_oddsFrom 27 = .ok (.aload_n 0, 1) := by decide +kernel
theorem dX12_oddsFrom_28 : decode cX12_oddsFrom 28 = .ok (.getfield 103, 3) := by decide +kernel
theorem dX12_oddsFrom_31 : decode cX12_oddsFrom 31 = .ok (.iload 6, 2) := by decide +kernel
theorem dX12_oddsFrom_33 : decode cX12_oddsFrom 33 = .ok (.iaload, 1) := by decide +kernel
theorem dX12_oddsFrom_34 : decode cX12_oddsFrom 34 = .ok (.aload_n 0, 1) := by decide +kernel
theorem dX12_oddsFrom_35 : decode cX12_oddsFrom 35 = .ok (.getfield 103, 3) := by decide +kernel
theorem dX12_oddsFrom_38 : decode cX12_oddsFrom 38 = .ok (.iload 5, 2) := by decide +kernel
theorem dX12_oddsFrom_40 : decode cX12_oddsFrom 40 = .ok (.iaload, 1) := by decide +kernel
theorem dX12_oddsFrom_41 : decode cX12_oddsFrom 41 = .ok (.if_icmp .ge 8, 3) := by decide +kernel
theorem dX12_oddsFrom_44 : decode cX12_oddsFrom 44 = .ok (.iload 6, 2) := by decide +kernel
theorem dX12_oddsFrom_46 : decode cX12_oddsFrom 46 = .ok (.goto 5, 3) := by decide +kernel
theorem dX12_oddsFrom_49 : decode cX12_oddsFrom 49 = .ok (.iload 5, 2) := by decide +kernel
theorem dX12_oddsFrom_51 : decode cX12_oddsFrom 51 = .ok (.istore 5, 2) := by decide +kernel
theorem dX12_oddsFrom_53 : decode cX12_oddsFrom 53 = .ok (.iinc 6 1, 3) := by decide +kernel
theorem dX12_oddsFrom_56 : decode cX12_oddsFrom 56 = .ok (.goto (-40), 3) := by decide +kernel
theorem dX12_oddsFrom_59 : decode cX12_oddsFrom 59 = .ok (.iload 5, 2) := by decide +kernel
theorem dX12_oddsFrom_61 : decode cX12_oddsFrom 61 = .ok (.iload_n 1, 1) := by decide +kernel
theorem dX12_oddsFrom_62 : decode cX12_oddsFrom 62 = .ok (.if_icmp .ne 8, 3) := by decide +kernel
theorem dX12_oddsFrom_65 : decode cX12_oddsFrom 65 = .ok (.iload 4, 2) := by decide +kernel
theorem dX12_oddsFrom_67 : decode cX12_oddsFrom 67 = .ok (.goto 4, 3) := by decide +kernel
theorem dX12_oddsFrom_70 : decode cX12_oddsFrom 70 = .ok (.iconst 0, 1) := by decide +kernel
theorem dX12_oddsFrom_71 : decode cX12_oddsFrom 71 = .ok (.ireturn, 1) := by decide +kernel
theorem dX12_oddsFrom_72 : decode cX12_oddsFrom 72 = .ok (.iload 4, 2) := by decide +kernel
theorem dX12_oddsFrom_74 : decode cX12_oddsFrom 74 = .ok (.i2l, 1) := by decide +kernel
theorem dX12_oddsFrom_75 : decode cX12_oddsFrom 75 = .ok (.iload_n 3, 1) := by decide +kernel
theorem dX12_oddsFrom_76 : decode cX12_oddsFrom 76 = .ok (.i2l, 1) := by decide +kernel
theorem dX12_oddsFrom_77 : decode cX12_oddsFrom 77 = .ok (.lmul, 1) := by decide +kernel
theorem dX12_oddsFrom_78 : decode cX12_oddsFrom 78 = .ok (.ldc2_w 331, 3) := by decide +kernel
theorem dX12_oddsFrom_81 : decode cX12_oddsFrom 81 = .ok (.ldiv, 1) := by decide +kernel
theorem dX12_oddsFrom_82 : decode cX12_oddsFrom 82 = .ok (.l2i, 1) := by decide +kernel
theorem dX12_oddsFrom_83 : decode cX12_oddsFrom 83 = .ok (.istore 5, 2) := by decide +kernel
theorem dX12_oddsFrom_85 : decode cX12_oddsFrom 85 = .ok (.aload_n 0, 1) := by decide +kernel
theorem dX12_oddsFrom_86 : decode cX12_oddsFrom 86 = .ok (.getfield 103, 3) := by decide +kernel
theorem dX12_oddsFrom_89 : decode cX12_oddsFrom 89 = .ok (.iload_n 2, 1) := by decide +kernel
theorem dX12_oddsFrom_90 : decode cX12_oddsFrom 90 = .ok (.aload_n 0, 1) := by decide +kernel
theorem dX12_oddsFrom_91 : decode cX12_oddsFrom 91 = .ok (.aload_n 0, 1) := by decide +kernel
theorem dX12_oddsFrom_92 : decode cX12_oddsFrom 92 = .ok (.getfield 61, 3) := by decide +kernel
theorem dX12_oddsFrom_95 : decode cX12_oddsFrom 95 = .ok (.iload_n 2, 1) := by decide +kernel
theorem dX12_oddsFrom_96 : decode cX12_oddsFrom 96 = .ok (.bipush 9, 2) := by decide +kernel
theorem dX12_oddsFrom_98 : decode cX12_oddsFrom 98 = .ok (.invokevirtual 359, 3) := by decide +kernel
theorem dX12_oddsFrom_101 : decode cX12_oddsFrom 101 = .ok (.iastore, 1) := by decide +kernel
theorem dX12_oddsFrom_102 : decode cX12_oddsFrom 102 = .ok (.aload_n 0, 1) := by decide +kernel
theorem dX12_oddsFrom_103 : decode cX12_oddsFrom 103 = .ok (.iload_n 1, 1) := by decide +kernel
theorem dX12_oddsFrom_104 : decode cX12_oddsFrom 104 = .ok (.iload_n 2, 1) := by decide +kernel
theorem dX12_oddsFrom_105 : decode cX12_oddsFrom 105 = .ok (.iconst 1, 1) := by decide +kernel
theorem dX12_oddsFrom_106 : decode cX12_oddsFrom 106 = .ok (.iadd, 1) := by decide +kernel
theorem dX12_oddsFrom_107 : decode cX12_oddsFrom 107 = .ok (.iload_n 3, 1) := by decide +kernel
theorem dX12_oddsFrom_108 : decode cX12_oddsFrom 108 = .ok (.iload 5, 2) := by decide +kernel
theorem dX12_oddsFrom_110 : decode cX12_oddsFrom 110 = .ok (.invokevirtual 471, 3) := by decide +kernel
theorem dX12_oddsFrom_113 : decode cX12_oddsFrom 113 = .ok (.istore 6, 2) := by decide +kernel
theorem dX12_oddsFrom_115 : decode cX12_oddsFrom 115 = .ok (.aload_n 0, 1) := by decide +kernel
theorem dX12_oddsFrom_116 : decode cX12_oddsFrom 116 = .ok (.getfield 103, 3) := by decide +kernel
theorem dX12_oddsFrom_119 : decode cX12_oddsFrom 119 = .ok (.iload_n 2, 1) := by decide +kernel
theorem dX12_oddsFrom_120 : decode cX12_oddsFrom 120 = .ok (.aload_n 0, 1) := by decide +kernel
theorem dX12_oddsFrom_121 : decode cX12_oddsFrom 121 = .ok (.aload_n 0, 1) := by decide +kernel
theorem dX12_oddsFrom_122 : decode cX12_oddsFrom 122 = .ok (.getfield 61, 3) := by decide +kernel
theorem dX12_oddsFrom_125 : decode cX12_oddsFrom 125 = .ok (.iload_n 2, 1) := by decide +kernel
theorem dX12_oddsFrom_126 : decode cX12_oddsFrom 126 = .ok (.iconst 0, 1) := by decide +kernel
theorem dX12_oddsFrom_127 : decode cX12_oddsFrom 127 = .ok (.invokevirtual 359, 3) := by decide +kernel
theorem dX12_oddsFrom_130 : decode cX12_oddsFrom 130 = .ok (.iastore, 1) := by decide +kernel
theorem dX12_oddsFrom_131 : decode cX12_oddsFrom 131 = .ok (.iload 6, 2) := by decide +kernel
theorem dX12_oddsFrom_133 : decode cX12_oddsFrom 133 = .ok (.aload_n 0, 1) := by decide +kernel
theorem dX12_oddsFrom_134 : decode cX12_oddsFrom 134 = .ok (.iload_n 1, 1) := by decide +kernel
theorem dX12_oddsFrom_135 : decode cX12_oddsFrom 135 = .ok (.iload_n 2, 1) := by decide +kernel
theorem dX12_oddsFrom_136 : decode cX12_oddsFrom 136 = .ok (.iconst 1, 1) := by decide +kernel
theorem dX12_oddsFrom_137 : decode cX12_oddsFrom 137 = .ok (.iadd, 1) := by decide +kernel
theorem dX12_oddsFrom_138 : decode cX12_oddsFrom 138 = .ok (.iload_n 3, 1) := by decide +kernel
theorem dX12_oddsFrom_139 : decode cX12_oddsFrom 139 = .ok (.iload 4, 2) := by decide +kernel
theorem dX12_oddsFrom_141 : decode cX12_oddsFrom 141 = .ok (.iload 5, 2) := by decide +kernel
theorem dX12_oddsFrom_143 : decode cX12_oddsFrom 143 = .ok (.isub, 1) := by decide +kernel
theorem dX12_oddsFrom_144 : decode cX12_oddsFrom 144 = .ok (.invokevirtual 471, 3) := by decide +kernel
theorem dX12_oddsFrom_147 : decode cX12_oddsFrom 147 = .ok (.iadd, 1) := by decide +kernel
theorem dX12_oddsFrom_148 : decode cX12_oddsFrom 148 = .ok (.ireturn, 1) := by decide +kernel
theorem dX12_odds_0 : decode cX12_odds 0 = .ok (.aload_n 0, 1) := by decide +kernel
theorem dX12_odds_1 : decode cX12_odds 1 = .ok (.iconst 0, 1) := by decide +kernel
theorem dX12_odds_2 : decode cX12_odds 2 = .ok (.putfield 109, 3) := by decide +kernel
theorem dX12_odds_5 : decode cX12_odds 5 = .ok (.aload_n 0, 1) := by decide +kernel
theorem dX12_odds_6 : decode cX12_odds 6 = .ok (.getfield 307, 3) := by decide +kernel
theorem dX12_odds_9 : decode cX12_odds 9 = .ok (.ifCond .eq 52, 3) := by decide +kernel
theorem dX12_odds_12 : decode cX12_odds 12 = .ok (.iload_n 1, 1) := by decide +kernel
theorem dX12_odds_13 : decode cX12_odds 13 = .ok (.i2l, 1) := by decide +kernel
theorem dX12_odds_14 : decode cX12_odds 14 = .ok (.lconst 0, 1) := by decide +kernel
theorem dX12_odds_15 : decode cX12_odds 15 = .ok (.aload_n 0, 1) := by decide +kernel
theorem dX12_odds_16 : decode cX12_odds 16 = .ok (.getfield 37, 3) := by decide +kernel
theorem dX12_odds_19 : decode cX12_odds 19 = .ok (.iconst 0, 1) := by decide +kernel
theorem dX12_odds_20 : decode cX12_odds 20 = .ok (.iaload, 1) := by decide +kernel
theorem dX12_odds_21 : decode cX12_odds 21 = .ok (.iconst 1, 1) := by decide +kernel
theorem dX12_odds_22 : decode cX12_odds 22 = .ok (.isub, 1) := by decide +kernel
theorem dX12_odds_23 : decode cX12_odds 23 = .ok (.i2l, 1) := by decide +kernel
theorem dX12_odds_24 : decode cX12_odds 24 = .ok (.invokestatic 230, 3) := by decide +kernel
theorem dX12_odds_27 : decode cX12_odds 27 = .ok (.ifCond .eq 34, 3) := by decide +kernel
theorem dX12_odds_30 : decode cX12_odds 30 = .ok (.iload_n 2, 1) := by decide +kernel
theorem dX12_odds_31 : decode cX12_odds 31 = .ok (.i2l, 1) := by decide +kernel
theorem dX12_odds_32 : decode cX12_odds 32 = .ok (.lconst 0, 1) := by decide +kernel
theorem dX12_odds_33 : decode cX12_odds 33 = .ok (.ldc2_w 331, 3) := by decide +kernel
theorem dX12_odds_36 : decode cX12_odds 36 = .ok (.invokestatic 230, 3) := by decide +kernel
theorem dX12_odds_39 : decode cX12_odds 39 = .ok (.ifCond .eq 22, 3) := by decide +kernel
theorem dX12_odds_42 : decode cX12_odds 42 = .ok (.aload_n 0, 1) := by decide +kernel
theorem dX12_odds_43 : decode cX12_odds 43 = .ok (.getfield 37, 3) := by decide +kernel
theorem dX12_odds_46 : decode cX12_odds 46 = .ok (.iconst 0, 1) := by decide +kernel
theorem dX12_odds_47 : decode cX12_odds 47 = .ok (.iaload, 1) := by decide +kernel
theorem dX12_odds_48 : decode cX12_odds 48 = .ok (.aload_n 0, 1) := by decide +kernel
theorem dX12_odds_49 : decode cX12_odds 49 = .ok (.getfield 61, 3) := by decide +kernel
theorem dX12_odds_52 : decode cX12_odds 52 = .ok (.bipush 25, 2) := by decide +kernel
theorem dX12_odds_54 : decode cX12_odds 54 = .ok (.iaload, 1) := by decide +kernel
theorem dX12_odds_55 : decode cX12_odds 55 = .ok (.isub, 1) := by decide +kernel
theorem dX12_odds_56 : decode cX12_odds 56 = .ok (.bipush 8, 2) := by decide +kernel
theorem dX12_odds_58 : decode cX12_odds 58 = .ok (.if_icmp .le 5, 3) := by decide +kernel
theorem dX12_odds_61 : decode cX12_odds 61 = .ok (.iconst (-1), 1) := by decide +kernel
theorem dX12_odds_62 : decode cX12_odds 62 = .ok (.ireturn, 1) := by decide +kernel
theorem dX12_odds_63 : decode cX12_odds 63 = .ok (.iconst 0, 1) := by decide +kernel
theorem dX12_odds_64 : decode cX12_odds 64 = .ok (.istore_n 3, 1) := by decide +kernel
theorem dX12_odds_65 : decode cX12_odds 65 = .ok (.iload_n 3, 1) := by decide +kernel
theorem dX12_odds_66 : decode cX12_odds 66 = .ok (.aload_n 0, 1) := by decide +kernel
theorem dX12_odds_67 : decode cX12_odds 67 = .ok (.getfield 61, 3) := by decide +kernel
theorem dX12_odds_70 : decode cX12_odds 70 = .ok (.bipush 25, 2) := by decide +kernel
theorem dX12_odds_72 : decode cX12_odds 72 = .ok (.iaload, 1) := by decide +kernel
theorem dX12_odds_73 : decode cX12_odds 73 = .ok (.if_icmp .ge 24, 3) := by decide +kernel
theorem dX12_odds_76 : decode cX12_odds 76 = .ok (.aload_n 0, 1) := by decide +kernel
theorem dX12_odds_77 : decode cX12_odds 77 = .ok (.getfield 103, 3) := by decide +kernel
theorem dX12_odds_80 : decode cX12_odds 80 = .ok (.iload_n 3, 1) := by decide +kernel
theorem dX12_odds_81 : decode cX12_odds 81 = .ok (.aload_n 0, 1) := by decide +kernel
theorem dX12_odds_82 : decode cX12_odds 82 = .ok (.getfield 61, 3) := by decide +kernel
theorem dX12_odds_85 : decode cX12_odds 85 = .ok (.bipush 26, 2) := by decide +kernel
theorem dX12_odds_87 : decode cX12_odds 87 = .ok (.iload_n 3, 1) := by decide +kernel
theorem dX12_odds_88 : decode cX12_odds 88 = .ok (.iadd, 1) := by decide +kernel
theorem dX12_odds_89 : decode cX12_odds 89 = .ok (.iaload, 1) := by decide +kernel
theorem dX12_odds_90 : decode cX12_odds 90 = .ok (.iastore, 1) := by decide +kernel
theorem dX12_odds_91 : decode cX12_odds 91 = .ok (.iinc 3 1, 3) := by decide +kernel
theorem dX12_odds_94 : decode cX12_odds 94 = .ok (.goto (-29), 3) := by decide +kernel
theorem dX12_odds_97 : decode cX12_odds 97 = .ok (.aload_n 0, 1) := by decide +kernel
theorem dX12_odds_98 : decode cX12_odds 98 = .ok (.iload_n 1, 1) := by decide +kernel
theorem dX12_odds_99 : decode cX12_odds 99 = .ok (.aload_n 0, 1) := by decide +kernel
theorem dX12_odds_100 : decode cX12_odds 100 = .ok (.getfield 61, 3) := by decide +kernel
theorem dX12_odds_103 : decode cX12_odds 103 = .ok (.bipush 25, 2) := by decide +kernel
theorem dX12_odds_105 : decode cX12_odds 105 = .ok (.iaload, 1) := by decide +kernel
theorem dX12_odds_106 : decode cX12_odds 106 = .ok (.iload_n 2, 1) := by decide +kernel
theorem dX12_odds_107 : decode cX12_odds 107 = .ok (.ldc_w 475, 3) := by decide +kernel
theorem dX12_odds_110 : decode cX12_odds 110 = .ok (.invokevirtual 471, 3) := by decide +kernel
theorem dX12_odds_113 : decode cX12_odds 113 = .ok (.ireturn, 1) := by decide +kernel
theorem dX12_shares_0 : decode cX12_shares 0 = .ok (.aload_n 0, 1) := by decide +kernel
theorem dX12_shares_1 : decode cX12_shares 1 = .ok (.iconst 0, 1) := by decide +kernel
theorem dX12_shares_2 : decode cX12_shares 2 = .ok (.putfield 109, 3) := by decide +kernel
theorem dX12_shares_5 : decode cX12_shares 5 = .ok (.aload_n 0, 1) := by decide +kernel
theorem dX12_shares_6 : decode cX12_shares 6 = .ok (.iload_n 1, 1) := by decide +kernel
theorem dX12_shares_7 : decode cX12_shares 7 = .ok (.invokevirtual 384, 3) := by decide +kernel
theorem dX12_shares_10 : decode cX12_shares 10 = .ok (.ifCond .eq 15, 3) := by decide +kernel
theorem dX12_shares_13 : decode cX12_shares 13 = .ok (.iload_n 2, 1) := by decide +kernel
theorem dX12_shares_14 : decode cX12_shares 14 = .ok (.i2l, 1) := by decide +kernel
theorem dX12_shares_15 : decode cX12_shares 15 = .ok (.lconst 0, 1) := by decide +kernel
theorem dX12_shares_16 : decode cX12_shares 16 = .ok (.ldc2_w 460, 3) := by decide +kernel
theorem dX12_shares_19 : decode cX12_shares 19 = .ok (.invokestatic 230, 3) := by decide +kernel
theorem dX12_shares_22 : decode cX12_shares 22 = .ok (.ifCond .ne 5, 3) := by decide +kernel
theorem dX12_shares_25 : decode cX12_shares 25 = .ok (.iconst (-1), 1) := by decide +kernel
theorem dX12_shares_26 : decode cX12_shares 26 = .ok (.ireturn, 1) := by decide +kernel
theorem dX12_shares_27 : decode cX12_shares 27 = .ok (.iconst 0, 1) := by decide +kernel
theorem dX12_shares_28 : decode cX12_shares 28 = .ok (.istore_n 3, 1) := by decide +kernel
theorem dX12_shares_29 : decode cX12_shares 29 = .ok (.iconst 0, 1) := by decide +kernel
theorem dX12_shares_30 : decode cX12_shares 30 = .ok (.istore 4, 2) := by decide +kernel
theorem dX12_shares_32 : decode cX12_shares 32 = .ok (.iload 4, 2) := by decide +kernel
theorem dX12_shares_34 : decode cX12_shares 34 = .ok (.aload_n 0, 1) := by decide +kernel
theorem dX12_shares_35 : decode cX12_shares 35 = .ok (.getfield 307, 3) := by decide +kernel
theorem dX12_shares_38 : decode cX12_shares 38 = .ok (.if_icmp .ge 22, 3) := by decide +kernel
theorem dX12_shares_41 : decode cX12_shares 41 = .ok (.iload_n 3, 1) := by decide +kernel
theorem dX12_shares_42 : decode cX12_shares 42 = .ok (.aload_n 0, 1) := by decide +kernel
theorem dX12_shares_43 : decode cX12_shares 43 = .ok (.getfield 61, 3) := by decide +kernel
theorem dX12_shares_46 : decode cX12_shares 46 = .ok (.bipush 6, 2) := by decide +kernel
theorem dX12_shares_48 : decode cX12_shares 48 = .ok (.iload 4, 2) := by decide +kernel
theorem dX12_shares_50 : decode cX12_shares 50 = .ok (.iadd, 1) := by decide +kernel
theorem dX12_shares_51 : decode cX12_shares 51 = .ok (.iaload, 1) := by decide +kernel
theorem dX12_shares_52 : decode cX12_shares 52 = .ok (.iadd, 1) := by decide +kernel
theorem dX12_shares_53 : decode cX12_shares 53 = .ok (.istore_n 3, 1) := by decide +kernel
theorem dX12_shares_54 : decode cX12_shares 54 = .ok (.iinc 4 1, 3) := by decide +kernel
theorem dX12_shares_57 : decode cX12_shares 57 = .ok (.goto (-25), 3) := by decide +kernel
theorem dX12_shares_60 : decode cX12_shares 60 = .ok (.iload_n 3, 1) := by decide +kernel
theorem dX12_shares_61 : decode cX12_shares 61 = .ok (.ifCond .ne 7, 3) := by decide +kernel
theorem dX12_shares_64 : decode cX12_shares 64 = .ok (.iconst 0, 1) := by decide +kernel
theorem dX12_shares_65 : decode cX12_shares 65 = .ok (.goto 16, 3) := by decide +kernel
theorem dX12_shares_68 : decode cX12_shares 68 = .ok (.iload_n 2, 1) := by decide +kernel
theorem dX12_shares_69 : decode cX12_shares 69 = .ok (.aload_n 0, 1) := by decide +kernel
theorem dX12_shares_70 : decode cX12_shares 70 = .ok (.getfield 61, 3) := by decide +kernel
theorem dX12_shares_73 : decode cX12_shares 73 = .ok (.bipush 6, 2) := by decide +kernel
theorem dX12_shares_75 : decode cX12_shares 75 = .ok (.iload_n 1, 1) := by decide +kernel
theorem dX12_shares_76 : decode cX12_shares 76 = .ok (.iadd, 1) := by decide +kernel
theorem dX12_shares_77 : decode cX12_shares 77 = .ok (.iaload, 1) := by decide +kernel
theorem dX12_shares_78 : decode cX12_shares 78 = .ok (.imul, 1) := by decide +kernel
theorem dX12_shares_79 : decode cX12_shares 79 = .ok (.iload_n 3, 1) := by decide +kernel
theorem dX12_shares_80 : decode cX12_shares 80 = .ok (.idiv, 1) := by decide +kernel
theorem dX12_shares_81 : decode cX12_shares 81 = .ok (.ireturn, 1) := by decide +kernel
theorem dX12_did_0 : decode cX12_did 0 = .ok (.aload_n 0, 1) := by decide +kernel
theorem dX12_did_1 : decode cX12_did 1 = .ok (.iconst 0, 1) := by decide +kernel
theorem dX12_did_2 : decode cX12_did 2 = .ok (.putfield 109, 3) := by decide +kernel
theorem dX12_did_5 : decode cX12_did 5 = .ok (.aload_n 0, 1) := by decide +kernel
theorem dX12_did_6 : decode cX12_did 6 = .ok (.getfield 307, 3) := by decide +kernel
theorem dX12_did_9 : decode cX12_did 9 = .ok (.ifCond .le 47, 3) := by decide +kernel
theorem dX12_did_12 : decode cX12_did 12 = .ok (.iload_n 1, 1) := by decide +kernel
theorem dX12_did_13 : decode cX12_did 13 = .ok (.i2l, 1) := by decide +kernel
theorem dX12_did_14 : decode cX12_did 14 = .ok (.lconst 0, 1) := by decide +kernel
theorem dX12_did_15 : decode cX12_did 15 = .ok (.aload_n 0, 1) := by decide +kernel
theorem dX12_did_16 : decode cX12_did 16 = .ok (.getfield 61, 3) := by decide +kernel
theorem dX12_did_19 : decode cX12_did 19 = .ok (.bipush 25, 2) := by decide +kernel
theorem dX12_did_21 : decode cX12_did 21 = .ok (.iaload, 1) := by decide +kernel
theorem dX12_did_22 : decode cX12_did 22 = .ok (.iconst 1, 1) := by decide +kernel
theorem dX12_did_23 : decode cX12_did 23 = .ok (.isub, 1) := by decide +kernel
theorem dX12_did_24 : decode cX12_did 24 = .ok (.i2l, 1) := by decide +kernel
theorem dX12_did_25 : decode cX12_did 25 = .ok (.invokestatic 230, 3) := by decide +kernel
theorem dX12_did_28 : decode cX12_did 28 = .ok (.ifCond .eq 28, 3) := by decide +kernel
theorem dX12_did_31 : decode cX12_did 31 = .ok (.aload_n 0, 1) := by decide +kernel
theorem dX12_did_32 : decode cX12_did 32 = .ok (.iload_n 2, 1) := by decide +kernel
theorem dX12_did_33 : decode cX12_did 33 = .ok (.invokevirtual 375, 3) := by decide +kernel
theorem dX12_did_36 : decode cX12_did 36 = .ok (.ifCond .eq 20, 3) := by decide +kernel
theorem dX12_did_39 : decode cX12_did 39 = .ok (.aload_n 0, 1) := by decide +kernel
theorem dX12_did_40 : decode cX12_did 40 = .ok (.getfield 61, 3) := by decide +kernel
theorem dX12_did_43 : decode cX12_did 43 = .ok (.bipush 56, 2) := by decide +kernel
theorem dX12_did_45 : decode cX12_did 45 = .ok (.bipush 6, 2) := by decide +kernel
theorem dX12_did_47 : decode cX12_did 47 = .ok (.iload_n 1, 1) := by decide +kernel
theorem dX12_did_48 : decode cX12_did 48 = .ok (.imul, 1) := by decide +kernel
theorem dX12_did_49 : decode cX12_did 49 = .ok (.iadd, 1) := by decide +kernel
theorem dX12_did_50 : decode cX12_did 50 = .ok (.iload_n 2, 1) := by decide +kernel
theorem dX12_did_51 : decode cX12_did 51 = .ok (.iadd, 1) := by decide +kernel
theorem dX12_did_52 : decode cX12_did 52 = .ok (.iaload, 1) := by decide +kernel
theorem dX12_did_53 : decode cX12_did 53 = .ok (.goto 4, 3) := by decide +kernel
theorem dX12_did_56 : decode cX12_did 56 = .ok (.iconst (-1), 1) := by decide +kernel
theorem dX12_did_57 : decode cX12_did 57 = .ok (.ireturn, 1) := by decide +kernel
theorem dX12_valueOf_0 : decode cX12_valueOf 0 = .ok (.iload_n 1, 1) := by decide +kernel
theorem dX12_valueOf_1 : decode cX12_valueOf 1 = .ok (.ifCond .ne 15, 3) := by decide +kernel
theorem dX12_valueOf_4 : decode cX12_valueOf 4 = .ok (.aload_n 0, 1) := by decide +kernel
theorem dX12_valueOf_5 : decode cX12_valueOf 5 = .ok (.getfield 61, 3) := by decide +kernel
theorem dX12_valueOf_8 : decode cX12_valueOf 8 = .ok (.bipush 6, 2) := by decide +kernel
theorem dX12_valueOf_10 : decode cX12_valueOf 10 = .ok (.iload_n 2, 1) := by decide +kernel
theorem dX12_valueOf_11 : decode cX12_valueOf 11 = .ok (.iadd, 1) := by decide +kernel
theorem dX12_valueOf_12 : decode cX12_valueOf 12 = .ok (.iaload, 1) := by decide +kernel
theorem dX12_valueOf_13 : decode cX12_valueOf 13 = .ok (.goto 29, 3) := by decide +kernel
theorem dX12_valueOf_16 : decode cX12_valueOf 16 = .ok (.iload_n 1, 1) := by decide +kernel
theorem dX12_valueOf_17 : decode cX12_valueOf 17 = .ok (.iconst 1, 1) := by decide +kernel
theorem dX12_valueOf_18 : decode cX12_valueOf 18 = .ok (.if_icmp .ne 16, 3) := by decide +kernel
theorem dX12_valueOf_21 : decode cX12_valueOf 21 = .ok (.aload_n 0, 1) := by decide +kernel
theorem dX12_valueOf_22 : decode cX12_valueOf 22 = .ok (.getfield 49, 3) := by decide +kernel
theorem dX12_valueOf_25 : decode cX12_valueOf 25 = .ok (.iconst 3, 1) := by decide +kernel
theorem dX12_valueOf_26 : decode cX12_valueOf 26 = .ok (.iload_n 2, 1) := by decide +kernel
theorem dX12_valueOf_27 : decode cX12_valueOf 27 = .ok (.imul, 1) := by decide +kernel
theorem dX12_valueOf_28 : decode cX12_valueOf 28 = .ok (.iconst 1, 1) := by decide +kernel
theorem dX12_valueOf_29 : decode cX12_valueOf 29 = .ok (.iadd, 1) := by decide +kernel
theorem dX12_valueOf_30 : decode cX12_valueOf 30 = .ok (.iaload, 1) := by decide +kernel
theorem dX12_valueOf_31 : decode cX12_valueOf 31 = .ok (.goto 11, 3) := by decide +kernel
theorem dX12_valueOf_34 : decode cX12_valueOf 34 = .ok (.aload_n 0, 1) := by decide +kernel
theorem dX12_valueOf_35 : decode cX12_valueOf 35 = .ok (.getfield 43, 3) := by decide +kernel
theorem dX12_valueOf_38 : decode cX12_valueOf 38 = .ok (.iconst 2, 1) := by decide +kernel
theorem dX12_valueOf_39 : decode cX12_valueOf 39 = .ok (.iload_n 2, 1) := by decide +kernel
theorem dX12_valueOf_40 : decode cX12_valueOf 40 = .ok (.imul, 1) := by decide +kernel
theorem dX12_valueOf_41 : decode cX12_valueOf 41 = .ok (.iaload, 1) := by decide +kernel
theorem dX12_valueOf_42 : decode cX12_valueOf 42 = .ok (.ireturn, 1) := by decide +kernel
theorem dX12_greatest_0 : decode cX12_greatest 0 = .ok (.iconst 0, 1) := by decide +kernel
theorem dX12_greatest_1 : decode cX12_greatest 1 = .ok (.istore_n 2, 1) := by decide +kernel
theorem dX12_greatest_2 : decode cX12_greatest 2 = .ok (.iconst 1, 1) := by decide +kernel
theorem dX12_greatest_3 : decode cX12_greatest 3 = .ok (.istore_n 3, 1) := by decide +kernel
theorem dX12_greatest_4 : decode cX12_greatest 4 = .ok (.iload_n 3, 1) := by decide +kernel
theorem dX12_greatest_5 : decode cX12_greatest 5 = .ok (.iload_n 1, 1) := by decide +kernel
theorem dX12_greatest_6 : decode cX12_greatest 6 = .ok (.iconst 2, 1) := by decide +kernel
theorem dX12_greatest_7 : decode cX12_greatest 7 = .ok (.if_icmp .ne 10, 3) := by decide +kernel
theorem dX12_greatest_10 : decode cX12_greatest 10 = .ok (.aload_n 0, 1) := by decide +kernel
theorem dX12_greatest_11 : decode cX12_greatest 11 = .ok (.getfield 304, 3) := by decide +kernel
theorem dX12_greatest_14 : decode cX12_greatest 14 = .ok (.goto 7, 3) := by decide +kernel
theorem dX12_greatest_17 : decode cX12_greatest 17 = .ok (.aload_n 0, 1) := by decide +kernel
theorem dX12_greatest_18 : decode cX12_greatest 18 = .ok (.getfield 307, 3) := by decide +kernel
theorem dX12_greatest_21 : decode cX12_greatest 21 = .ok (.if_icmp .ge 30, 3) := by decide +kernel
theorem dX12_greatest_24 : decode cX12_greatest 24 = .ok (.aload_n 0, 1) := by decide +kernel
theorem dX12_greatest_25 : decode cX12_greatest 25 = .ok (.iload_n 1, 1) := by decide +kernel
theorem dX12_greatest_26 : decode cX12_greatest 26 = .ok (.iload_n 3, 1) := by decide +kernel
theorem dX12_greatest_27 : decode cX12_greatest 27 = .ok (.invokevirtual 476, 3) := by decide +kernel
theorem dX12_greatest_30 : decode cX12_greatest 30 = .ok (.aload_n 0, 1) := by decide +kernel
theorem dX12_greatest_31 : decode cX12_greatest 31 = .ok (.iload_n 1, 1) := by decide +kernel
theorem dX12_greatest_32 : decode cX12_greatest 32 = .ok (.iload_n 2, 1) := by decide +kernel
theorem dX12_greatest_33 : decode cX12_greatest 33 = .ok (.invokevirtual 476, 3) := by decide +kernel
theorem dX12_greatest_36 : decode cX12_greatest 36 = .ok (.if_icmp .le 7, 3) := by decide +kernel
theorem dX12_greatest_39 : decode cX12_greatest 39 = .ok (.iload_n 3, 1) := by decide +kernel
theorem dX12_greatest_40 : decode cX12_greatest 40 = .ok (.goto 4, 3) := by decide +kernel
theorem dX12_greatest_43 : decode cX12_greatest 43 = .ok (.iload_n 2, 1) := by decide +kernel
theorem dX12_greatest_44 : decode cX12_greatest 44 = .ok (.istore_n 2, 1) := by decide +kernel
theorem dX12_greatest_45 : decode cX12_greatest 45 = .ok (.iinc 3 1, 3) := by decide +kernel
theorem dX12_greatest_48 : decode cX12_greatest 48 = .ok (.goto (-44), 3) := by decide +kernel
theorem dX12_greatest_51 : decode cX12_greatest 51 = .ok (.iload_n 2, 1) := by decide +kernel
theorem dX12_greatest_52 : decode cX12_greatest 52 = .ok (.ireturn, 1) := by decide +kernel
theorem dX12_idle_0 : decode cX12_idle 0 = .ok (.aload_n 0, 1) := by decide +kernel
theorem dX12_idle_1 : decode cX12_idle 1 = .ok (.aload_n 0, 1) := by decide +kernel
theorem dX12_idle_2 : decode cX12_idle 2 = .ok (.getfield 61, 3) := by decide +kernel
theorem dX12_idle_5 : decode cX12_idle 5 = .ok (.aload_n 0, 1) := by decide +kernel
theorem dX12_idle_6 : decode cX12_idle 6 = .ok (.getfield 61, 3) := by decide +kernel
theorem dX12_idle_9 : decode cX12_idle 9 = .ok (.bipush 25, 2) := by decide +kernel
theorem dX12_idle_11 : decode cX12_idle 11 = .ok (.iaload, 1) := by decide +kernel
theorem dX12_idle_12 : decode cX12_idle 12 = .ok (.invokevirtual 365, 3) := by decide +kernel
theorem dX12_idle_15 : decode cX12_idle 15 = .ok (.istore_n 1, 1) := by decide +kernel
theorem dX12_idle_16 : decode cX12_idle 16 = .ok (.iconst 0, 1) := by decide +kernel
theorem dX12_idle_17 : decode cX12_idle 17 = .ok (.istore_n 2, 1) := by decide +kernel
theorem dX12_idle_18 : decode cX12_idle 18 = .ok (.iconst 0, 1) := by decide +kernel
theorem dX12_idle_19 : decode cX12_idle 19 = .ok (.istore_n 3, 1) := by decide +kernel
theorem dX12_idle_20 : decode cX12_idle 20 = .ok (.iload_n 3, 1) := by decide +kernel
theorem dX12_idle_21 : decode cX12_idle 21 = .ok (.aload_n 0, 1) := by decide +kernel
theorem dX12_idle_22 : decode cX12_idle 22 = .ok (.getfield 307, 3) := by decide +kernel
theorem dX12_idle_25 : decode cX12_idle 25 = .ok (.if_icmp .ge 52, 3) := by decide +kernel
theorem dX12_idle_28 : decode cX12_idle 28 = .ok (.iload_n 2, 1) := by decide +kernel
theorem dX12_idle_29 : decode cX12_idle 29 = .ok (.aload_n 0, 1) := by decide +kernel
theorem dX12_idle_30 : decode cX12_idle 30 = .ok (.getfield 61, 3) := by decide +kernel
theorem dX12_idle_33 : decode cX12_idle 33 = .ok (.bipush 18, 2) := by decide +kernel
theorem dX12_idle_35 : decode cX12_idle 35 = .ok (.iaload, 1) := by decide +kernel
theorem dX12_idle_36 : decode cX12_idle 36 = .ok (.iload_n 3, 1) := by decide +kernel
theorem dX12_idle_37 : decode cX12_idle 37 = .ok (.invokestatic 242, 3) := by decide +kernel
theorem dX12_idle_40 : decode cX12_idle 40 = .ok (.ifCond .ne 28, 3) := by decide +kernel
theorem dX12_idle_43 : decode cX12_idle 43 = .ok (.iload_n 1, 1) := by decide +kernel
theorem dX12_idle_44 : decode cX12_idle 44 = .ok (.aload_n 0, 1) := by decide +kernel
theorem dX12_idle_45 : decode cX12_idle 45 = .ok (.getfield 43, 3) := by decide +kernel
theorem dX12_idle_48 : decode cX12_idle 48 = .ok (.iconst 2, 1) := by decide +kernel
theorem dX12_idle_49 : decode cX12_idle 49 = .ok (.aload_n 0, 1) := by decide +kernel
theorem dX12_idle_50 : decode cX12_idle 50 = .ok (.getfield 61, 3) := by decide +kernel
theorem dX12_idle_53 : decode cX12_idle 53 = .ok (.iload_n 3, 1) := by decide +kernel
theorem dX12_idle_54 : decode cX12_idle 54 = .ok (.iaload, 1) := by decide +kernel
theorem dX12_idle_55 : decode cX12_idle 55 = .ok (.imul, 1) := by decide +kernel
theorem dX12_idle_56 : decode cX12_idle 56 = .ok (.iconst 1, 1) := by decide +kernel
theorem dX12_idle_57 : decode cX12_idle 57 = .ok (.iadd, 1) := by decide +kernel
theorem dX12_idle_58 : decode cX12_idle 58 = .ok (.iaload, 1) := by decide +kernel
theorem dX12_idle_59 : decode cX12_idle 59 = .ok (.if_icmp .ge 9, 3) := by decide +kernel
theorem dX12_idle_62 : decode cX12_idle 62 = .ok (.iconst 1, 1) := by decide +kernel
theorem dX12_idle_63 : decode cX12_idle 63 = .ok (.iload_n 3, 1) := by decide +kernel
theorem dX12_idle_64 : decode cX12_idle 64 = .ok (.ishl, 1) := by decide +kernel
theorem dX12_idle_65 : decode cX12_idle 65 = .ok (.goto 4, 3) := by decide +kernel
theorem dX12_idle_68 : decode cX12_idle 68 = .ok (.iconst 0, 1) := by decide +kernel
theorem dX12_idle_69 : decode cX12_idle 69 = .ok (.ior, 1) := by decide +kernel
theorem dX12_idle_70 : decode cX12_idle 70 = .ok (.istore_n 2, 1) := by decide +kernel
theorem dX12_idle_71 : decode cX12_idle 71 = .ok (.iinc 3 1, 3) := by decide +kernel
theorem dX12_idle_74 : decode cX12_idle 74 = .ok (.goto (-54), 3) := by decide +kernel
theorem dX12_idle_77 : decode cX12_idle 77 = .ok (.iload_n 2, 1) := by decide +kernel
theorem dX12_idle_78 : decode cX12_idle 78 = .ok (.ireturn, 1) := by decide +kernel
theorem dX12_dark_0 : decode cX12_dark 0 = .ok (.iconst (-1), 1) := by decide +kernel
theorem dX12_dark_1 : decode cX12_dark 1 = .ok (.istore_n 1, 1) := by decide +kernel
theorem dX12_dark_2 : decode cX12_dark 2 = .ok (.iconst 0, 1) := by decide +kernel
theorem dX12_dark_3 : decode cX12_dark 3 = .ok (.istore_n 2, 1) := by decide +kernel
theorem dX12_dark_4 : decode cX12_dark 4 = .ok (.iload_n 2, 1) := by decide +kernel
theorem dX12_dark_5 : decode cX12_dark 5 = .ok (.aload_n 0, 1) := by decide +kernel
theorem dX12_dark_6 : decode cX12_dark 6 = .ok (.getfield 61, 3) := by decide +kernel
theorem dX12_dark_9 : decode cX12_dark 9 = .ok (.bipush 25, 2) := by decide +kernel
theorem dX12_dark_11 : decode cX12_dark 11 = .ok (.iaload, 1) := by decide +kernel
theorem dX12_dark_12 : decode cX12_dark 12 = .ok (.if_icmp .ge 41, 3) := by decide +kernel
theorem dX12_dark_15 : decode cX12_dark 15 = .ok (.iload_n 1, 1) := by decide +kernel
theorem dX12_dark_16 : decode cX12_dark 16 = .ok (.iconst (-1), 1) := by decide +kernel
theorem dX12_dark_17 : decode cX12_dark 17 = .ok (.if_icmp .eq 24, 3) := by decide +kernel
theorem dX12_dark_20 : decode cX12_dark 20 = .ok (.aload_n 0, 1) := by decide +kernel
theorem dX12_dark_21 : decode cX12_dark 21 = .ok (.getfield 61, 3) := by decide +kernel
theorem dX12_dark_24 : decode cX12_dark 24 = .ok (.bipush 26, 2) := by decide +kernel
theorem dX12_dark_26 : decode cX12_dark 26 = .ok (.iload_n 2, 1) := by decide +kernel
theorem dX12_dark_27 : decode cX12_dark 27 = .ok (.iadd, 1) := by decide +kernel
theorem dX12_dark_28 : decode cX12_dark 28 = .ok (.iaload, 1) := by decide +kernel
theorem dX12_dark_29 : decode cX12_dark 29 = .ok (.aload_n 0, 1) := by decide +kernel
theorem dX12_dark_30 : decode cX12_dark 30 = .ok (.getfield 61, 3) := by decide +kernel
theorem dX12_dark_33 : decode cX12_dark 33 = .ok (.bipush 26, 2) := by decide +kernel
theorem dX12_dark_35 : decode cX12_dark 35 = .ok (.iload_n 1, 1) := by decide +kernel
theorem dX12_dark_36 : decode cX12_dark 36 = .ok (.iadd, 1) := by decide +kernel
theorem dX12_dark_37 : decode cX12_dark 37 = .ok (.iaload, 1) := by decide +kernel
theorem dX12_dark_38 : decode cX12_dark 38 = .ok (.if_icmp .ge 7, 3) := by decide +kernel
theorem dX12_dark_41 : decode cX12_dark 41 = .ok (.iload_n 2, 1) := by decide +kernel
theorem dX12_dark_42 : decode cX12_dark 42 = .ok (.goto 4, 3) := by decide +kernel
theorem dX12_dark_45 : decode cX12_dark 45 = .ok (.iload_n 1, 1) := by decide +kernel
theorem dX12_dark_46 : decode cX12_dark 46 = .ok (.istore_n 1, 1) := by decide +kernel
theorem dX12_dark_47 : decode cX12_dark 47 = .ok (.iinc 2 1, 3) := by decide +kernel
theorem dX12_dark_50 : decode cX12_dark 50 = .ok (.goto (-46), 3) := by decide +kernel
theorem dX12_dark_53 : decode cX12_dark 53 = .ok (.iload_n 1, 1) := by decide +kernel
theorem dX12_dark_54 : decode cX12_dark 54 = .ok (.ireturn, 1) := by decide +kernel
theorem dX12_swayed_0 : decode cX12_swayed 0 = .ok (.aload_n 0, 1) := by decide +kernel
theorem dX12_swayed_1 : decode cX12_swayed 1 = .ok (.getfield 61, 3) := by decide +kernel
theorem dX12_swayed_4 : decode cX12_swayed 4 = .ok (.aload_n 0, 1) := by decide +kernel
theorem dX12_swayed_5 : decode cX12_swayed 5 = .ok (.getfield 64, 3) := by decide +kernel
theorem dX12_swayed_8 : decode cX12_swayed 8 = .ok (.invokestatic 434, 3) := by decide +kernel
theorem dX12_swayed_11 : decode cX12_swayed 11 = .ok (.aload_n 0, 1) := by decide +kernel
theorem dX12_swayed_12 : decode cX12_swayed 12 = .ok (.invokevirtual 451, 3) := by decide +kernel
theorem dX12_swayed_15 : decode cX12_swayed 15 = .ok (.iconst 0, 1) := by decide +kernel
theorem dX12_swayed_16 : decode cX12_swayed 16 = .ok (.istore_n 1, 1) := by decide +kernel
theorem dX12_swayed_17 : decode cX12_swayed 17 = .ok (.iconst 0, 1) := by decide +kernel
theorem dX12_swayed_18 : decode cX12_swayed 18 = .ok (.istore_n 2, 1) := by decide +kernel
theorem dX12_swayed_19 : decode cX12_swayed 19 = .ok (.iload_n 2, 1) := by decide +kernel
theorem dX12_swayed_20 : decode cX12_swayed 20 = .ok (.aload_n 0, 1) := by decide +kernel
theorem dX12_swayed_21 : decode cX12_swayed 21 = .ok (.getfield 307, 3) := by decide +kernel
theorem dX12_swayed_24 : decode cX12_swayed 24 = .ok (.if_icmp .ge 34, 3) := by decide +kernel
theorem dX12_swayed_27 : decode cX12_swayed 27 = .ok (.iload_n 1, 1) := by decide +kernel
theorem dX12_swayed_28 : decode cX12_swayed 28 = .ok (.aload_n 0, 1) := by decide +kernel
theorem dX12_swayed_29 : decode cX12_swayed 29 = .ok (.getfield 64, 3) := by decide +kernel
theorem dX12_swayed_32 : decode cX12_swayed 32 = .ok (.iload_n 2, 1) := by decide +kernel
theorem dX12_swayed_33 : decode cX12_swayed 33 = .ok (.iaload, 1) := by decide +kernel
theorem dX12_swayed_34 : decode cX12_swayed 34 = .ok (.aload_n 0, 1) := by decide +kernel
theorem dX12_swayed_35 : decode cX12_swayed 35 = .ok (.getfield 61, 3) := by decide +kernel
theorem dX12_swayed_38 : decode cX12_swayed 38 = .ok (.iload_n 2, 1) := by decide +kernel
theorem dX12_swayed_39 : decode cX12_swayed 39 = .ok (.iaload, 1) := by decide +kernel
theorem dX12_swayed_40 : decode cX12_swayed 40 = .ok (.if_icmp .eq 9, 3) := by decide +kernel
theorem dX12_swayed_43 : decode cX12_swayed 43 = .ok (.iconst 1, 1) := by decide +kernel
theorem dX12_swayed_44 : decode cX12_swayed 44 = .ok (.iload_n 2, 1) := by decide +kernel
theorem dX12_swayed_45 : decode cX12_swayed 45 = .ok (.ishl, 1) := by decide +kernel
theorem dX12_swayed_46 : decode cX12_swayed 46 = .ok (.goto 4, 3) := by decide +kernel
theorem dX12_swayed_49 : decode cX12_swayed 49 = .ok (.iconst 0, 1) := by decide +kernel
theorem dX12_swayed_50 : decode cX12_swayed 50 = .ok (.ior, 1) := by decide +kernel
theorem dX12_swayed_51 : decode cX12_swayed 51 = .ok (.istore_n 1, 1) := by decide +kernel
theorem dX12_swayed_52 : decode cX12_swayed 52 = .ok (.iinc 2 1, 3) := by decide +kernel
theorem dX12_swayed_55 : decode cX12_swayed 55 = .ok (.goto (-36), 3) := by decide +kernel
theorem dX12_swayed_58 : decode cX12_swayed 58 = .ok (.iload_n 1, 1) := by decide +kernel
theorem dX12_swayed_59 : decode cX12_swayed 59 = .ok (.ireturn, 1) := by decide +kernel
theorem dX12_all_0 : decode cX12_all 0 = .ok (.aload_n 0, 1) := by decide +kernel
theorem dX12_all_1 : decode cX12_all 1 = .ok (.iconst 0, 1) := by decide +kernel
theorem dX12_all_2 : decode cX12_all 2 = .ok (.putfield 109, 3) := by decide +kernel
theorem dX12_all_5 : decode cX12_all 5 = .ok (.aload_n 0, 1) := by decide +kernel
theorem dX12_all_6 : decode cX12_all 6 = .ok (.getfield 307, 3) := by decide +kernel
theorem dX12_all_9 : decode cX12_all 9 = .ok (.ifCond .ne 7, 3) := by decide +kernel
theorem dX12_all_12 : decode cX12_all 12 = .ok (.ldc_w 380, 3) := by decide +kernel
theorem dX12_all_15 : decode cX12_all 15 = .ok (.ireturn, 1) := by decide +kernel
theorem dX12_all_16 : decode cX12_all 16 = .ok (.iload_n 1, 1) := by decide +kernel
theorem dX12_all_17 : decode cX12_all 17 = .ok (.tableswitch 104 0 8 #[51, 51, 51, 57, 66, 71, 76, 91, 96], 51) := by decide +kernel
theorem dX12_all_68 : decode cX12_all 68 = .ok (.aload_n 0, 1) := by decide +kernel
theorem dX12_all_69 : decode cX12_all 69 = .ok (.iload_n 1, 1) := by decide +kernel
theorem dX12_all_70 : decode cX12_all 70 = .ok (.invokevirtual 479, 3) := by decide +kernel
theorem dX12_all_73 : decode cX12_all 73 = .ok (.ireturn, 1) := by decide +kernel
theorem dX12_all_74 : decode cX12_all 74 = .ok (.aload_n 0, 1) := by decide +kernel
theorem dX12_all_75 : decode cX12_all 75 = .ok (.aload_n 0, 1) := by decide +kernel
theorem dX12_all_76 : decode cX12_all 76 = .ok (.getfield 61, 3) := by decide +kernel
theorem dX12_all_79 : decode cX12_all 79 = .ok (.invokevirtual 338, 3) := by decide +kernel
theorem dX12_all_82 : decode cX12_all 82 = .ok (.ireturn, 1) := by decide +kernel
theorem dX12_all_83 : decode cX12_all 83 = .ok (.aload_n 0, 1) := by decide +kernel
theorem dX12_all_84 : decode cX12_all 84 = .ok (.invokevirtual 482, 3) := by decide +kernel
theorem dX12_all_87 : decode cX12_all 87 = .ok (.ireturn, 1) := by decide +kernel
theorem dX12_all_88 : decode cX12_all 88 = .ok (.aload_n 0, 1) := by decide +kernel
theorem dX12_all_89 : decode cX12_all 89 = .ok (.invokevirtual 485, 3) := by decide +kernel
theorem dX12_all_92 : decode cX12_all 92 = .ok (.ireturn, 1) := by decide +kernel
theorem dX12_all_93 : decode cX12_all 93 = .ok (.aload_n 0, 1) := by decide +kernel
theorem dX12_all_94 : decode cX12_all 94 = .ok (.getfield 37, 3) := by decide +kernel
theorem dX12_all_97 : decode cX12_all 97 = .ok (.iconst 0, 1) := by decide +kernel
theorem dX12_all_98 : decode cX12_all 98 = .ok (.iaload, 1) := by decide +kernel
theorem dX12_all_99 : decode cX12_all 99 = .ok (.aload_n 0, 1) := by decide +kernel
theorem dX12_all_100 : decode cX12_all 100 = .ok (.getfield 61, 3) := by decide +kernel
theorem dX12_all_103 : decode cX12_all 103 = .ok (.bipush 25, 2) := by decide +kernel
theorem dX12_all_105 : decode cX12_all 105 = .ok (.iaload, 1) := by decide +kernel
theorem dX12_all_106 : decode cX12_all 106 = .ok (.isub, 1) := by decide +kernel
theorem dX12_all_107 : decode cX12_all 107 = .ok (.ireturn, 1) := by decide +kernel
theorem dX12_all_108 : decode cX12_all 108 = .ok (.aload_n 0, 1) := by decide +kernel
theorem dX12_all_109 : decode cX12_all 109 = .ok (.invokevirtual 488, 3) := by decide +kernel
theorem dX12_all_112 : decode cX12_all 112 = .ok (.ireturn, 1) := by decide +kernel
theorem dX12_all_113 : decode cX12_all 113 = .ok (.aload_n 0, 1) := by decide +kernel
theorem dX12_all_114 : decode cX12_all 114 = .ok (.getfield 61, 3) := by decide +kernel
theorem dX12_all_117 : decode cX12_all 117 = .ok (.bipush 23, 2) := by decide +kernel
theorem dX12_all_119 : decode cX12_all 119 = .ok (.iaload, 1) := by decide +kernel
theorem dX12_all_120 : decode cX12_all 120 = .ok (.ireturn, 1) := by decide +kernel
theorem dX12_all_121 : decode cX12_all 121 = .ok (.ldc_w 380, 3) := by decide +kernel
theorem dX12_all_124 : decode cX12_all 124 = .ok (.ireturn, 1) := by decide +kernel
theorem dX12_image_0 : decode cX12_image 0 = .ok (.aload_n 0, 1) := by decide +kernel
theorem dX12_image_1 : decode cX12_image 1 = .ok (.iconst 0, 1) := by decide +kernel
theorem dX12_image_2 : decode cX12_image 2 = .ok (.putfield 109, 3) := by decide +kernel
theorem dX12_image_5 : decode cX12_image 5 = .ok (.aload_n 0, 1) := by decide +kernel
theorem dX12_image_6 : decode cX12_image 6 = .ok (.getfield 307, 3) := by decide +kernel
theorem dX12_image_9 : decode cX12_image 9 = .ok (.ifCond .ne 5, 3) := by decide +kernel
theorem dX12_image_12 : decode cX12_image 12 = .ok (.iconst (-1), 1) := by decide +kernel
theorem dX12_image_13 : decode cX12_image 13 = .ok (.ireturn, 1) := by decide +kernel
theorem dX12_image_14 : decode cX12_image 14 = .ok (.iconst 0, 1) := by decide +kernel
theorem dX12_image_15 : decode cX12_image 15 = .ok (.istore_n 1, 1) := by decide +kernel
theorem dX12_image_16 : decode cX12_image 16 = .ok (.iload_n 1, 1) := by decide +kernel
theorem dX12_image_17 : decode cX12_image 17 = .ok (.sipush 417, 3) := by decide +kernel
theorem dX12_image_20 : decode cX12_image 20 = .ok (.if_icmp .ge 21, 3) := by decide +kernel
theorem dX12_image_23 : decode cX12_image 23 = .ok (.aload_n 0, 1) := by decide +kernel
theorem dX12_image_24 : decode cX12_image 24 = .ok (.getfield 106, 3) := by decide +kernel
theorem dX12_image_27 : decode cX12_image 27 = .ok (.iload_n 1, 1) := by decide +kernel
theorem dX12_image_28 : decode cX12_image 28 = .ok (.aload_n 0, 1) := by decide +kernel
theorem dX12_image_29 : decode cX12_image 29 = .ok (.getfield 61, 3) := by decide +kernel
theorem dX12_image_32 : decode cX12_image 32 = .ok (.iload_n 1, 1) := by decide +kernel
theorem dX12_image_33 : decode cX12_image 33 = .ok (.iaload, 1) := by decide +kernel
theorem dX12_image_34 : decode cX12_image 34 = .ok (.iastore, 1) := by decide +kernel
theorem dX12_image_35 : decode cX12_image 35 = .ok (.iinc 1 1, 3) := by decide +kernel
theorem dX12_image_38 : decode cX12_image 38 = .ok (.goto (-22), 3) := by decide +kernel
theorem dX12_image_41 : decode cX12_image 41 = .ok (.aload_n 0, 1) := by decide +kernel
theorem dX12_image_42 : decode cX12_image 42 = .ok (.iconst 1, 1) := by decide +kernel
theorem dX12_image_43 : decode cX12_image 43 = .ok (.putfield 320, 3) := by decide +kernel
theorem dX12_image_46 : decode cX12_image 46 = .ok (.aload_n 0, 1) := by decide +kernel
theorem dX12_image_47 : decode cX12_image 47 = .ok (.getfield 61, 3) := by decide +kernel
theorem dX12_image_50 : decode cX12_image 50 = .ok (.bipush 25, 2) := by decide +kernel
theorem dX12_image_52 : decode cX12_image 52 = .ok (.iaload, 1) := by decide +kernel
theorem dX12_image_53 : decode cX12_image 53 = .ok (.ireturn, 1) := by decide +kernel
theorem dX12_back_0 : decode cX12_back 0 = .ok (.aload_n 0, 1) := by decide +kernel
theorem dX12_back_1 : decode cX12_back 1 = .ok (.iconst 0, 1) := by decide +kernel
theorem dX12_back_2 : decode cX12_back 2 = .ok (.putfield 109, 3) := by decide +kernel
theorem dX12_back_5 : decode cX12_back 5 = .ok (.aload_n 0, 1) := by decide +kernel
theorem dX12_back_6 : decode cX12_back 6 = .ok (.getfield 320, 3) := by decide +kernel
theorem dX12_back_9 : decode cX12_back 9 = .ok (.ifCond .ne 5, 3) := by decide +kernel
theorem dX12_back_12 : decode cX12_back 12 = .ok (.iconst (-1), 1) := by decide +kernel
theorem dX12_back_13 : decode cX12_back 13 = .ok (.ireturn, 1) := by decide +kernel
theorem dX12_back_14 : decode cX12_back 14 = .ok (.iconst 0, 1) := by decide +kernel
theorem dX12_back_15 : decode cX12_back 15 = .ok (.istore_n 1, 1) := by decide +kernel
theorem dX12_back_16 : decode cX12_back 16 = .ok (.iload_n 1, 1) := by decide +kernel
theorem dX12_back_17 : decode cX12_back 17 = .ok (.sipush 417, 3) := by decide +kernel
theorem dX12_back_20 : decode cX12_back 20 = .ok (.if_icmp .ge 21, 3) := by decide +kernel
theorem dX12_back_23 : decode cX12_back 23 = .ok (.aload_n 0, 1) := by decide +kernel
theorem dX12_back_24 : decode cX12_back 24 = .ok (.getfield 61, 3) := by decide +kernel
theorem dX12_back_27 : decode cX12_back 27 = .ok (.iload_n 1, 1) := by decide +kernel
theorem dX12_back_28 : decode cX12_back 28 = .ok (.aload_n 0, 1) := by decide +kernel
theorem dX12_back_29 : decode cX12_back 29 = .ok (.getfield 106, 3) := by decide +kernel
theorem dX12_back_32 : decode cX12_back 32 = .ok (.iload_n 1, 1) := by decide +kernel
theorem dX12_back_33 : decode cX12_back 33 = .ok (.iaload, 1) := by decide +kernel
theorem dX12_back_34 : decode cX12_back 34 = .ok (.iastore, 1) := by decide +kernel
theorem dX12_back_35 : decode cX12_back 35 = .ok (.iinc 1 1, 3) := by decide +kernel
theorem dX12_back_38 : decode cX12_back 38 = .ok (.goto (-22), 3) := by decide +kernel
theorem dX12_back_41 : decode cX12_back 41 = .ok (.aload_n 0, 1) := by decide +kernel
theorem dX12_back_42 : decode cX12_back 42 = .ok (.iconst 0, 1) := by decide +kernel
theorem dX12_back_43 : decode cX12_back 43 = .ok (.putfield 317, 3) := by decide +kernel
theorem dX12_back_46 : decode cX12_back 46 = .ok (.aload_n 0, 1) := by decide +kernel
theorem dX12_back_47 : decode cX12_back 47 = .ok (.getfield 61, 3) := by decide +kernel
theorem dX12_back_50 : decode cX12_back 50 = .ok (.bipush 25, 2) := by decide +kernel
theorem dX12_back_52 : decode cX12_back 52 = .ok (.iaload, 1) := by decide +kernel
theorem dX12_back_53 : decode cX12_back 53 = .ok (.ireturn, 1) := by decide +kernel
theorem dX12_count_0 : decode cX12_count 0 = .ok (.aload_n 0, 1) := by decide +kernel
theorem dX12_count_1 : decode cX12_count 1 = .ok (.iconst 0, 1) := by decide +kernel
theorem dX12_count_2 : decode cX12_count 2 = .ok (.putfield 109, 3) := by decide +kernel
theorem dX12_count_5 : decode cX12_count 5 = .ok (.iload_n 1, 1) := by decide +kernel
theorem dX12_count_6 : decode cX12_count 6 = .ok (.tableswitch 191 0 16 #[82, 87, 92, 99, 104, 109, 114, 119, 127, 135, 143, 151, 159, 167, 172, 177, 186], 82) := by decide +kernel
theorem dX12_count_88 : decode cX12_count 88 = .ok (.aload_n 0, 1) := by decide +kernel
theorem dX12_count_89 : decode cX12_count 89 = .ok (.getfield 307, 3) := by decide +kernel
theorem dX12_count_92 : decode cX12_count 92 = .ok (.ireturn, 1) := by decide +kernel
theorem dX12_count_93 : decode cX12_count 93 = .ok (.aload_n 0, 1) := by decide +kernel
theorem dX12_count_94 : decode cX12_count 94 = .ok (.getfield 304, 3) := by decide +kernel
theorem dX12_count_97 : decode cX12_count 97 = .ok (.ireturn, 1) := by decide +kernel
theorem dX12_count_98 : decode cX12_count 98 = .ok (.aload_n 0, 1) := by decide +kernel
theorem dX12_count_99 : decode cX12_count 99 = .ok (.getfield 37, 3) := by decide +kernel
theorem dX12_count_102 : decode cX12_count 102 = .ok (.iconst 0, 1) := by decide +kernel
theorem dX12_count_103 : decode cX12_count 103 = .ok (.iaload, 1) := by decide +kernel
theorem dX12_count_104 : decode cX12_count 104 = .ok (.ireturn, 1) := by decide +kernel
theorem dX12_count_105 : decode cX12_count 105 = .ok (.aload_n 0, 1) := by decide +kernel
theorem dX12_count_106 : decode cX12_count 106 = .ok (.getfield 296, 3) := by decide +kernel
theorem dX12_count_109 : decode cX12_count 109 = .ok (.ireturn, 1) := by decide +kernel
theorem dX12_count_110 : decode cX12_count 110 = .ok (.aload_n 0, 1) := by decide +kernel
theorem dX12_count_111 : decode cX12_count 111 = .ok (.getfield 299, 3) := by decide +kernel
theorem dX12_count_114 : decode cX12_count 114 = .ok (.ireturn, 1) := by decide +kernel
theorem dX12_count_115 : decode cX12_count 115 = .ok (.aload_n 0, 1) := by decide +kernel
theorem dX12_count_116 : decode cX12_count 116 = .ok (.getfield 122, 3) := by decide +kernel
theorem dX12_count_119 : decode cX12_count 119 = .ok (.ireturn, 1) := by decide +kernel
theorem dX12_count_120 : decode cX12_count 120 = .ok (.aload_n 0, 1) := by decide +kernel
theorem dX12_count_121 : decode cX12_count 121 = .ok (.getfield 70, 3) := by decide +kernel
theorem dX12_count_124 : decode cX12_count 124 = .ok (.ireturn, 1) := by decide +kernel
theorem dX12_count_125 : decode cX12_count 125 = .ok (.aload_n 0, 1) := by decide +kernel
theorem dX12_count_126 : decode cX12_count 126 = .ok (.getfield 61, 3) := by decide +kernel
theorem dX12_count_129 : decode cX12_count 129 = .ok (.bipush 24, 2) := by decide +kernel
theorem dX12_count_131 : decode cX12_count 131 = .ok (.iaload, 1) := by decide +kernel
theorem dX12_count_132 : decode cX12_count 132 = .ok (.ireturn, 1) := by decide +kernel
theorem dX12_count_133 : decode cX12_count 133 = .ok (.aload_n 0, 1) := by decide +kernel
theorem dX12_count_134 : decode cX12_count 134 = .ok (.getfield 61, 3) := by decide +kernel
theorem dX12_count_137 : decode cX12_count 137 = .ok (.bipush 25, 2) := by decide +kernel
theorem dX12_count_139 : decode cX12_count 139 = .ok (.iaload, 1) := by decide +kernel
theorem dX12_count_140 : decode cX12_count 140 = .ok (.ireturn, 1) := by decide +kernel
theorem dX12_count_141 : decode cX12_count 141 = .ok (.aload_n 0, 1) := by decide +kernel
theorem dX12_count_142 : decode cX12_count 142 = .ok (.getfield 61, 3) := by decide +kernel
theorem dX12_count_145 : decode cX12_count 145 = .ok (.bipush 22, 2) := by decide +kernel
theorem dX12_count_147 : decode cX12_count 147 = .ok (.iaload, 1) := by decide +kernel
theorem dX12_count_148 : decode cX12_count 148 = .ok (.ireturn, 1) := by decide +kernel
theorem dX12_count_149 : decode cX12_count 149 = .ok (.aload_n 0, 1) := by decide +kernel
theorem dX12_count_150 : decode cX12_count 150 = .ok (.getfield 61, 3) := by decide +kernel
theorem dX12_count_153 : decode cX12_count 153 = .ok (.bipush 19, 2) := by decide +kernel
theorem dX12_count_155 : decode cX12_count 155 = .ok (.iaload, 1) := by decide +kernel
theorem dX12_count_156 : decode cX12_count 156 = .ok (.ireturn, 1) := by decide +kernel
theorem dX12_count_157 : decode cX12_count 157 = .ok (.aload_n 0, 1) := by decide +kernel
theorem dX12_count_158 : decode cX12_count 158 = .ok (.getfield 61, 3) := by decide +kernel
theorem dX12_count_161 : decode cX12_count 161 = .ok (.bipush 20, 2) := by decide +kernel
theorem dX12_count_163 : decode cX12_count 163 = .ok (.iaload, 1) := by decide +kernel
theorem dX12_count_164 : decode cX12_count 164 = .ok (.ireturn, 1) := by decide +kernel
theorem dX12_count_165 : decode cX12_count 165 = .ok (.aload_n 0, 1) := by decide +kernel
theorem dX12_count_166 : decode cX12_count 166 = .ok (.getfield 61, 3) := by decide +kernel
theorem dX12_count_169 : decode cX12_count 169 = .ok (.bipush 21, 2) := by decide +kernel
theorem dX12_count_171 : decode cX12_count 171 = .ok (.iaload, 1) := by decide +kernel
theorem dX12_count_172 : decode cX12_count 172 = .ok (.ireturn, 1) := by decide +kernel
theorem dX12_count_173 : decode cX12_count 173 = .ok (.aload_n 0, 1) := by decide +kernel
theorem dX12_count_174 : decode cX12_count 174 = .ok (.getfield 74, 3) := by decide +kernel
theorem dX12_count_177 : decode cX12_count 177 = .ok (.ireturn, 1) := by decide +kernel
theorem dX12_count_178 : decode cX12_count 178 = .ok (.aload_n 0, 1) := by decide +kernel
theorem dX12_count_179 : decode cX12_count 179 = .ok (.getfield 314, 3) := by decide +kernel
theorem dX12_count_182 : decode cX12_count 182 = .ok (.ireturn, 1) := by decide +kernel
theorem dX12_count_183 : decode cX12_count 183 = .ok (.aload_n 0, 1) := by decide +kernel
theorem dX12_count_184 : decode cX12_count 184 = .ok (.getfield 61, 3) := by decide +kernel
theorem dX12_count_187 : decode cX12_count 187 = .ok (.sipush 236, 3) := by decide +kernel
theorem dX12_count_190 : decode cX12_count 190 = .ok (.iaload, 1) := by decide +kernel
theorem dX12_count_191 : decode cX12_count 191 = .ok (.ireturn, 1) := by decide +kernel
theorem dX12_count_192 : decode cX12_count 192 = .ok (.aload_n 0, 1) := by decide +kernel
theorem dX12_count_193 : decode cX12_count 193 = .ok (.getfield 317, 3) := by decide +kernel
theorem dX12_count_196 : decode cX12_count 196 = .ok (.ireturn, 1) := by decide +kernel
theorem dX12_count_197 : decode cX12_count 197 = .ok (.ldc_w 380, 3) := by decide +kernel
theorem dX12_count_200 : decode cX12_count 200 = .ok (.ireturn, 1) := by decide +kernel
