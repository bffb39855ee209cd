theorem dL_act_0 : decode cL_act 0 = .ok (.iload_n 1, 1) := by decide +kernel
theorem dL_act_1 : decode cL_act 1 = .ok (.bipush 16, 2) := by decide +kernel
theorem dL_act_3 : decode cL_act 3 = .ok (.idiv, 1) := by decide +kernel
theorem dL_act_4 : decode cL_act 4 = .ok (.sipush 256, 3) := by decide +kernel
theorem dL_act_7 : decode cL_act 7 = .ok (.irem, 1) := by decide +kernel
theorem dL_act_8 : decode cL_act 8 = .ok (.istore_n 2, 1) := by decide +kernel
theorem dL_act_9 : decode cL_act 9 = .ok (.iconst 1, 1) := by decide +kernel
theorem dL_act_10 : decode cL_act 10 = .ok (.iload_n 1, 1) := by decide +kernel
theorem dL_act_11 : decode cL_act 11 = .ok (.sipush 4096, 3) := by decide +kernel
theorem dL_act_14 : decode cL_act 14 = .ok (.idiv, 1) := by decide +kernel
theorem dL_act_15 : decode cL_act 15 = .ok (.bipush 20, 2) := by decide +kernel
theorem dL_act_17 : decode cL_act 17 = .ok (.irem, 1) := by decide +kernel
theorem dL_act_18 : decode cL_act 18 = .ok (.iadd, 1) := by decide +kernel
theorem dL_act_19 : decode cL_act 19 = .ok (.istore_n 3, 1) := by decide +kernel
theorem dL_act_20 : decode cL_act 20 = .ok (.iload_n 1, 1) := by decide +kernel
theorem dL_act_21 : decode cL_act 21 = .ok (.bipush 16, 2) := by decide +kernel
theorem dL_act_23 : decode cL_act 23 = .ok (.irem, 1) := by decide +kernel
theorem dL_act_24 : decode cL_act 24 = .ok (.tableswitch 219 0 13 #[72, 72, 72, 82, 82, 82, 82, 92, 107, 122, 145, 155, 170, 185], 72) := by decide +kernel
theorem dL_act_96 : decode cL_act 96 = .ok (.aload_n 0, 1) := by decide +kernel
theorem dL_act_97 : decode cL_act 97 = .ok (.bipush 7, 2) := by decide +kernel
theorem dL_act_99 : decode cL_act 99 = .ok (.iload_n 2, 1) := by decide +kernel
theorem dL_act_100 : decode cL_act 100 = .ok (.iload_n 3, 1) := by decide +kernel
theorem dL_act_101 : decode cL_act 101 = .ok (.iconst 0, 1) := by decide +kernel
theorem dL_act_102 : decode cL_act 102 = .ok (.invokestatic 164, 3) := by decide +kernel
theorem dL_act_105 : decode cL_act 105 = .ok (.ireturn, 1) := by decide +kernel
theorem dL_act_106 : decode cL_act 106 = .ok (.aload_n 0, 1) := by decide +kernel
theorem dL_act_107 : decode cL_act 107 = .ok (.bipush 8, 2) := by decide +kernel
theorem dL_act_109 : decode cL_act 109 = .ok (.iload_n 2, 1) := by decide +kernel
theorem dL_act_110 : decode cL_act 110 = .ok (.iload_n 3, 1) := by decide +kernel
theorem dL_act_111 : decode cL_act 111 = .ok (.iconst 0, 1) := by decide +kernel
theorem dL_act_112 : decode cL_act 112 = .ok (.invokestatic 164, 3) := by decide +kernel
theorem dL_act_115 : decode cL_act 115 = .ok (.ireturn, 1) := by decide +kernel
theorem dL_act_116 : decode cL_act 116 = .ok (.aload_n 0, 1) := by decide +kernel
theorem dL_act_117 : decode cL_act 117 = .ok (.bipush 9, 2) := by decide +kernel
theorem dL_act_119 : decode cL_act 119 = .ok (.iload_n 1, 1) := by decide +kernel
theorem dL_act_120 : decode cL_act 120 = .ok (.bipush 16, 2) := by decide +kernel
theorem dL_act_122 : decode cL_act 122 = .ok (.idiv, 1) := by decide +kernel
theorem dL_act_123 : decode cL_act 123 = .ok (.iconst 3, 1) := by decide +kernel
theorem dL_act_124 : decode cL_act 124 = .ok (.irem, 1) := by decide +kernel
theorem dL_act_125 : decode cL_act 125 = .ok (.iload_n 2, 1) := by decide +kernel
theorem dL_act_126 : decode cL_act 126 = .ok (.iload_n 3, 1) := by decide +kernel
theorem dL_act_127 : decode cL_act 127 = .ok (.invokestatic 164, 3) := by decide +kernel
theorem dL_act_130 : decode cL_act 130 = .ok (.ireturn, 1) := by decide +kernel
theorem dL_act_131 : decode cL_act 131 = .ok (.aload_n 0, 1) := by decide +kernel
theorem dL_act_132 : decode cL_act 132 = .ok (.bipush 10, 2) := by decide +kernel
theorem dL_act_134 : decode cL_act 134 = .ok (.iload_n 1, 1) := by decide +kernel
theorem dL_act_135 : decode cL_act 135 = .ok (.bipush 16, 2) := by decide +kernel
theorem dL_act_137 : decode cL_act 137 = .ok (.idiv, 1) := by decide +kernel
theorem dL_act_138 : decode cL_act 138 = .ok (.iconst 3, 1) := by decide +kernel
theorem dL_act_139 : decode cL_act 139 = .ok (.irem, 1) := by decide +kernel
theorem dL_act_140 : decode cL_act 140 = .ok (.iconst 0, 1) := by decide +kernel
theorem dL_act_141 : decode cL_act 141 = .ok (.iconst 0, 1) := by decide +kernel
theorem dL_act_142 : decode cL_act 142 = .ok (.invokestatic 164, 3) := by decide +kernel
theorem dL_act_145 : decode cL_act 145 = .ok (.ireturn, 1) := by decide +kernel
theorem dL_act_146 : decode cL_act 146 = .ok (.aload_n 0, 1) := by decide +kernel
theorem dL_act_147 : decode cL_act 147 = .ok (.bipush 12, 2) := by decide +kernel
theorem dL_act_149 : decode cL_act 149 = .ok (.iload_n 1, 1) := by decide +kernel
theorem dL_act_150 : decode cL_act 150 = .ok (.bipush 16, 2) := by decide +kernel
theorem dL_act_152 : decode cL_act 152 = .ok (.idiv, 1) := by decide +kernel
theorem dL_act_153 : decode cL_act 153 = .ok (.bipush 6, 2) := by decide +kernel
theorem dL_act_155 : decode cL_act 155 = .ok (.irem, 1) := by decide +kernel
theorem dL_act_156 : decode cL_act 156 = .ok (.iload_n 1, 1) := by decide +kernel
theorem dL_act_157 : decode cL_act 157 = .ok (.sipush 128, 3) := by decide +kernel
theorem dL_act_160 : decode cL_act 160 = .ok (.idiv, 1) := by decide +kernel
theorem dL_act_161 : decode cL_act 161 = .ok (.bipush 9, 2) := by decide +kernel
theorem dL_act_163 : decode cL_act 163 = .ok (.irem, 1) := by decide +kernel
theorem dL_act_164 : decode cL_act 164 = .ok (.iconst 0, 1) := by decide +kernel
theorem dL_act_165 : decode cL_act 165 = .ok (.invokestatic 164, 3) := by decide +kernel
theorem dL_act_168 : decode cL_act 168 = .ok (.ireturn, 1) := by decide +kernel
theorem dL_act_169 : decode cL_act 169 = .ok (.aload_n 0, 1) := by decide +kernel
theorem dL_act_170 : decode cL_act 170 = .ok (.bipush 13, 2) := by decide +kernel
theorem dL_act_172 : decode cL_act 172 = .ok (.iconst 0, 1) := by decide +kernel
theorem dL_act_173 : decode cL_act 173 = .ok (.iconst 0, 1) := by decide +kernel
theorem dL_act_174 : decode cL_act 174 = .ok (.iconst 0, 1) := by decide +kernel
theorem dL_act_175 : decode cL_act 175 = .ok (.invokestatic 164, 3) := by decide +kernel
theorem dL_act_178 : decode cL_act 178 = .ok (.ireturn, 1) := by decide +kernel
theorem dL_act_179 : decode cL_act 179 = .ok (.aload_n 0, 1) := by decide +kernel
theorem dL_act_180 : decode cL_act 180 = .ok (.bipush 19, 2) := by decide +kernel
theorem dL_act_182 : decode cL_act 182 = .ok (.iload_n 1, 1) := by decide +kernel
theorem dL_act_183 : decode cL_act 183 = .ok (.bipush 16, 2) := by decide +kernel
theorem dL_act_185 : decode cL_act 185 = .ok (.idiv, 1) := by decide +kernel
theorem dL_act_186 : decode cL_act 186 = .ok (.iconst 2, 1) := by decide +kernel
theorem dL_act_187 : decode cL_act 187 = .ok (.irem, 1) := by decide +kernel
theorem dL_act_188 : decode cL_act 188 = .ok (.iconst 0, 1) := by decide +kernel
theorem dL_act_189 : decode cL_act 189 = .ok (.iconst 0, 1) := by decide +kernel
theorem dL_act_190 : decode cL_act 190 = .ok (.invokestatic 164, 3) := by decide +kernel
theorem dL_act_193 : decode cL_act 193 = .ok (.ireturn, 1) := by decide +kernel
theorem dL_act_194 : decode cL_act 194 = .ok (.aload_n 0, 1) := by decide +kernel
theorem dL_act_195 : decode cL_act 195 = .ok (.bipush 20, 2) := by decide +kernel
theorem dL_act_197 : decode cL_act 197 = .ok (.iload_n 1, 1) := by decide +kernel
theorem dL_act_198 : decode cL_act 198 = .ok (.bipush 16, 2) := by decide +kernel
theorem dL_act_200 : decode cL_act 200 = .ok (.idiv, 1) := by decide +kernel
theorem dL_act_201 : decode cL_act 201 = .ok (.iconst 2, 1) := by decide +kernel
theorem dL_act_202 : decode cL_act 202 = .ok (.irem, 1) := by decide +kernel
theorem dL_act_203 : decode cL_act 203 = .ok (.iconst 0, 1) := by decide +kernel
theorem dL_act_204 : decode cL_act 204 = .ok (.iconst 0, 1) := by decide +kernel
theorem dL_act_205 : decode cL_act 205 = .ok (.invokestatic 164, 3) := by decide +kernel
theorem dL_act_208 : decode cL_act 208 = .ok (.ireturn, 1) := by decide +kernel
theorem dL_act_209 : decode cL_act 209 = .ok (.iload_n 1, 1) := by decide +kernel
theorem dL_act_210 : decode cL_act 210 = .ok (.bipush 16, 2) := by decide +kernel
theorem dL_act_212 : decode cL_act 212 = .ok (.idiv, 1) := by decide +kernel
theorem dL_act_213 : decode cL_act 213 = .ok (.iconst 4, 1) := by decide +kernel
theorem dL_act_214 : decode cL_act 214 = .ok (.irem, 1) := by decide +kernel
theorem dL_act_215 : decode cL_act 215 = .ok (.ifCond .ne 10, 3) := by decide +kernel
theorem dL_act_218 : decode cL_act 218 = .ok (.aload_n 0, 1) := by decide +kernel
theorem dL_act_219 : decode cL_act 219 = .ok (.invokevirtual 181, 3) := by decide +kernel
theorem dL_act_222 : decode cL_act 222 = .ok (.goto 20, 3) := by decide +kernel
theorem dL_act_225 : decode cL_act 225 = .ok (.aload_n 0, 1) := by decide +kernel
theorem dL_act_226 : decode cL_act 226 = .ok (.bipush 11, 2) := by decide +kernel
theorem dL_act_228 : decode cL_act 228 = .ok (.iconst 1, 1) := by decide +kernel
theorem dL_act_229 : decode cL_act 229 = .ok (.iload_n 1, 1) := by decide +kernel
theorem dL_act_230 : decode cL_act 230 = .ok (.bipush 64, 2) := by decide +kernel
theorem dL_act_232 : decode cL_act 232 = .ok (.idiv, 1) := by decide +kernel
theorem dL_act_233 : decode cL_act 233 = .ok (.bipush 20, 2) := by decide +kernel
theorem dL_act_235 : decode cL_act 235 = .ok (.irem, 1) := by decide +kernel
theorem dL_act_236 : decode cL_act 236 = .ok (.iadd, 1) := by decide +kernel
theorem dL_act_237 : decode cL_act 237 = .ok (.iconst 0, 1) := by decide +kernel
theorem dL_act_238 : decode cL_act 238 = .ok (.iconst 0, 1) := by decide +kernel
theorem dL_act_239 : decode cL_act 239 = .ok (.invokestatic 164, 3) := by decide +kernel
theorem dL_act_242 : decode cL_act 242 = .ok (.ireturn, 1) := by decide +kernel
theorem dL_act_243 : decode cL_act 243 = .ok (.aload_n 0, 1) := by decide +kernel
theorem dL_act_244 : decode cL_act 244 = .ok (.bipush 11, 2) := by decide +kernel
theorem dL_act_246 : decode cL_act 246 = .ok (.iconst 1, 1) := by decide +kernel
theorem dL_act_247 : decode cL_act 247 = .ok (.iload_n 1, 1) := by decide +kernel
theorem dL_act_248 : decode cL_act 248 = .ok (.bipush 16, 2) := by decide +kernel
theorem dL_act_250 : decode cL_act 250 = .ok (.idiv, 1) := by decide +kernel
theorem dL_act_251 : decode cL_act 251 = .ok (.bipush 6, 2) := by decide +kernel
theorem dL_act_253 : decode cL_act 253 = .ok (.irem, 1) := by decide +kernel
theorem dL_act_254 : decode cL_act 254 = .ok (.iadd, 1) := by decide +kernel
theorem dL_act_255 : decode cL_act 255 = .ok (.iconst 0, 1) := by decide +kernel
theorem dL_act_256 : decode cL_act 256 = .ok (.iconst 0, 1) := by decide +kernel
theorem dL_act_257 : decode cL_act 257 = .ok (.invokestatic 164, 3) := by decide +kernel
theorem dL_act_260 : decode cL_act 260 = .ok (.ireturn, 1) := by decide +kernel
theorem dL_alike_0 : decode cL_alike 0 = .ok (.aload_n 0, 1) := by decide +kernel
theorem dL_alike_1 : decode cL_alike 1 = .ok (.iload_n 2, 1) := by decide +kernel
theorem dL_alike_2 : decode cL_alike 2 = .ok (.i2l, 1) := by decide +kernel
theorem dL_alike_3 : decode cL_alike 3 = .ok (.iconst 1, 1) := by decide +kernel
theorem dL_alike_4 : decode cL_alike 4 = .ok (.iload_n 2, 1) := by decide +kernel
theorem dL_alike_5 : decode cL_alike 5 = .ok (.bipush 9, 2) := by decide +kernel
theorem dL_alike_7 : decode cL_alike 7 = .ok (.irem, 1) := by decide +kernel
theorem dL_alike_8 : decode cL_alike 8 = .ok (.iadd, 1) := by decide +kernel
theorem dL_alike_9 : decode cL_alike 9 = .ok (.invokestatic 174, 3) := by decide +kernel
theorem dL_alike_12 : decode cL_alike 12 = .ok (.aload_n 1, 1) := by decide +kernel
theorem dL_alike_13 : decode cL_alike 13 = .ok (.iload_n 2, 1) := by decide +kernel
theorem dL_alike_14 : decode cL_alike 14 = .ok (.i2l, 1) := by decide +kernel
theorem dL_alike_15 : decode cL_alike 15 = .ok (.iconst 1, 1) := by decide +kernel
theorem dL_alike_16 : decode cL_alike 16 = .ok (.iload_n 2, 1) := by decide +kernel
theorem dL_alike_17 : decode cL_alike 17 = .ok (.bipush 9, 2) := by decide +kernel
theorem dL_alike_19 : decode cL_alike 19 = .ok (.irem, 1) := by decide +kernel
theorem dL_alike_20 : decode cL_alike 20 = .ok (.iadd, 1) := by decide +kernel
theorem dL_alike_21 : decode cL_alike 21 = .ok (.invokestatic 174, 3) := by decide +kernel
theorem dL_alike_24 : decode cL_alike 24 = .ok (.if_icmp .ne 49, 3) := by decide +kernel
theorem dL_alike_27 : decode cL_alike 27 = .ok (.aload_n 0, 1) := by decide +kernel
theorem dL_alike_28 : decode cL_alike 28 = .ok (.invokevirtual 178, 3) := by decide +kernel
theorem dL_alike_31 : decode cL_alike 31 = .ok (.aload_n 1, 1) := by decide +kernel
theorem dL_alike_32 : decode cL_alike 32 = .ok (.invokevirtual 178, 3) := by decide +kernel
theorem dL_alike_35 : decode cL_alike 35 = .ok (.if_icmp .ne 38, 3) := by decide +kernel
theorem dL_alike_38 : decode cL_alike 38 = .ok (.aload_n 0, 1) := by decide +kernel
theorem dL_alike_39 : decode cL_alike 39 = .ok (.bipush 17, 2) := by decide +kernel
theorem dL_alike_41 : decode cL_alike 41 = .ok (.iconst 1, 1) := by decide +kernel
theorem dL_alike_42 : decode cL_alike 42 = .ok (.iload_n 2, 1) := by decide +kernel
theorem dL_alike_43 : decode cL_alike 43 = .ok (.bipush 9, 2) := by decide +kernel
theorem dL_alike_45 : decode cL_alike 45 = .ok (.irem, 1) := by decide +kernel
theorem dL_alike_46 : decode cL_alike 46 = .ok (.iadd, 1) := by decide +kernel
theorem dL_alike_47 : decode cL_alike 47 = .ok (.iconst 0, 1) := by decide +kernel
theorem dL_alike_48 : decode cL_alike 48 = .ok (.iconst 0, 1) := by decide +kernel
theorem dL_alike_49 : decode cL_alike 49 = .ok (.invokestatic 164, 3) := by decide +kernel
theorem dL_alike_52 : decode cL_alike 52 = .ok (.aload_n 1, 1) := by decide +kernel
theorem dL_alike_53 : decode cL_alike 53 = .ok (.bipush 17, 2) := by decide +kernel
theorem dL_alike_55 : decode cL_alike 55 = .ok (.iconst 1, 1) := by decide +kernel
theorem dL_alike_56 : decode cL_alike 56 = .ok (.iload_n 2, 1) := by decide +kernel
theorem dL_alike_57 : decode cL_alike 57 = .ok (.bipush 9, 2) := by decide +kernel
theorem dL_alike_59 : decode cL_alike 59 = .ok (.irem, 1) := by decide +kernel
theorem dL_alike_60 : decode cL_alike 60 = .ok (.iadd, 1) := by decide +kernel
theorem dL_alike_61 : decode cL_alike 61 = .ok (.iconst 0, 1) := by decide +kernel
theorem dL_alike_62 : decode cL_alike 62 = .ok (.iconst 0, 1) := by decide +kernel
theorem dL_alike_63 : decode cL_alike 63 = .ok (.invokestatic 164, 3) := by decide +kernel
theorem dL_alike_66 : decode cL_alike 66 = .ok (.if_icmp .ne 7, 3) := by decide +kernel
theorem dL_alike_69 : decode cL_alike 69 = .ok (.iconst 1, 1) := by decide +kernel
theorem dL_alike_70 : decode cL_alike 70 = .ok (.goto 4, 3) := by decide +kernel
theorem dL_alike_73 : decode cL_alike 73 = .ok (.iconst 0, 1) := by decide +kernel
theorem dL_alike_74 : decode cL_alike 74 = .ok (.istore_n 3, 1) := by decide +kernel
theorem dL_alike_75 : decode cL_alike 75 = .ok (.iconst 0, 1) := by decide +kernel
theorem dL_alike_76 : decode cL_alike 76 = .ok (.istore 4, 2) := by decide +kernel
theorem dL_alike_78 : decode cL_alike 78 = .ok (.iload 4, 2) := by decide +kernel
theorem dL_alike_80 : decode cL_alike 80 = .ok (.bipush 11, 2) := by decide +kernel
theorem dL_alike_82 : decode cL_alike 82 = .ok (.if_icmp .ge 88, 3) := by decide +kernel
theorem dL_alike_85 : decode cL_alike 85 = .ok (.iload_n 3, 1) := by decide +kernel
theorem dL_alike_86 : decode cL_alike 86 = .ok (.ifCond .eq 84, 3) := by decide +kernel
theorem dL_alike_89 : decode cL_alike 89 = .ok (.aload_n 0, 1) := by decide +kernel
theorem dL_alike_90 : decode cL_alike 90 = .ok (.iconst 2, 1) := by decide +kernel
theorem dL_alike_91 : decode cL_alike 91 = .ok (.iload 4, 2) := by decide +kernel
theorem dL_alike_93 : decode cL_alike 93 = .ok (.iconst 0, 1) := by decide +kernel
theorem dL_alike_94 : decode cL_alike 94 = .ok (.iconst 0, 1) := by decide +kernel
theorem dL_alike_95 : decode cL_alike 95 = .ok (.invokestatic 164, 3) := by decide +kernel
theorem dL_alike_98 : decode cL_alike 98 = .ok (.aload_n 1, 1) := by decide +kernel
theorem dL_alike_99 : decode cL_alike 99 = .ok (.iconst 2, 1) := by decide +kernel
theorem dL_alike_100 : decode cL_alike 100 = .ok (.iload 4, 2) := by decide +kernel
theorem dL_alike_102 : decode cL_alike 102 = .ok (.iconst 0, 1) := by decide +kernel
theorem dL_alike_103 : decode cL_alike 103 = .ok (.iconst 0, 1) := by decide +kernel
theorem dL_alike_104 : decode cL_alike 104 = .ok (.invokestatic 164, 3) := by decide +kernel
theorem dL_alike_107 : decode cL_alike 107 = .ok (.if_icmp .ne 55, 3) := by decide +kernel
theorem dL_alike_110 : decode cL_alike 110 = .ok (.aload_n 0, 1) := by decide +kernel
theorem dL_alike_111 : decode cL_alike 111 = .ok (.bipush 6, 2) := by decide +kernel
theorem dL_alike_113 : decode cL_alike 113 = .ok (.iload 4, 2) := by decide +kernel
theorem dL_alike_115 : decode cL_alike 115 = .ok (.iconst 0, 1) := by decide +kernel
theorem dL_alike_116 : decode cL_alike 116 = .ok (.iconst 0, 1) := by decide +kernel
theorem dL_alike_117 : decode cL_alike 117 = .ok (.invokestatic 164, 3) := by decide +kernel
theorem dL_alike_120 : decode cL_alike 120 = .ok (.aload_n 1, 1) := by decide +kernel
theorem dL_alike_121 : decode cL_alike 121 = .ok (.bipush 6, 2) := by decide +kernel
theorem dL_alike_123 : decode cL_alike 123 = .ok (.iload 4, 2) := by decide +kernel
theorem dL_alike_125 : decode cL_alike 125 = .ok (.iconst 0, 1) := by decide +kernel
theorem dL_alike_126 : decode cL_alike 126 = .ok (.iconst 0, 1) := by decide +kernel
theorem dL_alike_127 : decode cL_alike 127 = .ok (.invokestatic 164, 3) := by decide +kernel
theorem dL_alike_130 : decode cL_alike 130 = .ok (.if_icmp .ne 32, 3) := by decide +kernel
theorem dL_alike_133 : decode cL_alike 133 = .ok (.aload_n 0, 1) := by decide +kernel
theorem dL_alike_134 : decode cL_alike 134 = .ok (.iconst 5, 1) := by decide +kernel
theorem dL_alike_135 : decode cL_alike 135 = .ok (.iload 4, 2) := by decide +kernel
theorem dL_alike_137 : decode cL_alike 137 = .ok (.iload_n 2, 1) := by decide +kernel
theorem dL_alike_138 : decode cL_alike 138 = .ok (.iconst 2, 1) := by decide +kernel
theorem dL_alike_139 : decode cL_alike 139 = .ok (.irem, 1) := by decide +kernel
theorem dL_alike_140 : decode cL_alike 140 = .ok (.iconst 0, 1) := by decide +kernel
theorem dL_alike_141 : decode cL_alike 141 = .ok (.invokestatic 164, 3) := by decide +kernel
theorem dL_alike_144 : decode cL_alike 144 = .ok (.aload_n 1, 1) := by decide +kernel
theorem dL_alike_145 : decode cL_alike 145 = .ok (.iconst 5, 1) := by decide +kernel
theorem dL_alike_146 : decode cL_alike 146 = .ok (.iload 4, 2) := by decide +kernel
theorem dL_alike_148 : decode cL_alike 148 = .ok (.iload_n 2, 1) := by decide +kernel
theorem dL_alike_149 : decode cL_alike 149 = .ok (.iconst 2, 1) := by decide +kernel
theorem dL_alike_150 : decode cL_alike 150 = .ok (.irem, 1) := by decide +kernel
theorem dL_alike_151 : decode cL_alike 151 = .ok (.iconst 0, 1) := by decide +kernel
theorem dL_alike_152 : decode cL_alike 152 = .ok (.invokestatic 164, 3) := by decide +kernel
theorem dL_alike_155 : decode cL_alike 155 = .ok (.if_icmp .ne 7, 3) := by decide +kernel
theorem dL_alike_158 : decode cL_alike 158 = .ok (.iconst 1, 1) := by decide +kernel
theorem dL_alike_159 : decode cL_alike 159 = .ok (.goto 4, 3) := by decide +kernel
theorem dL_alike_162 : decode cL_alike 162 = .ok (.iconst 0, 1) := by decide +kernel
theorem dL_alike_163 : decode cL_alike 163 = .ok (.istore_n 3, 1) := by decide +kernel
theorem dL_alike_164 : decode cL_alike 164 = .ok (.iinc 4 1, 3) := by decide +kernel
theorem dL_alike_167 : decode cL_alike 167 = .ok (.goto (-89), 3) := by decide +kernel
theorem dL_alike_170 : decode cL_alike 170 = .ok (.iconst 0, 1) := by decide +kernel
theorem dL_alike_171 : decode cL_alike 171 = .ok (.istore 4, 2) := by decide +kernel
theorem dL_alike_173 : decode cL_alike 173 = .ok (.iload 4, 2) := by decide +kernel
theorem dL_alike_175 : decode cL_alike 175 = .ok (.bipush 16, 2) := by decide +kernel
theorem dL_alike_177 : decode cL_alike 177 = .ok (.if_icmp .ge 125, 3) := by decide +kernel
theorem dL_alike_180 : decode cL_alike 180 = .ok (.iload_n 3, 1) := by decide +kernel
theorem dL_alike_181 : decode cL_alike 181 = .ok (.ifCond .eq 121, 3) := by decide +kernel
theorem dL_alike_184 : decode cL_alike 184 = .ok (.aload_n 0, 1) := by decide +kernel
theorem dL_alike_185 : decode cL_alike 185 = .ok (.iconst 4, 1) := by decide +kernel
theorem dL_alike_186 : decode cL_alike 186 = .ok (.iload 4, 2) := by decide +kernel
theorem dL_alike_188 : decode cL_alike 188 = .ok (.iconst 0, 1) := by decide +kernel
theorem dL_alike_189 : decode cL_alike 189 = .ok (.iconst 0, 1) := by decide +kernel
theorem dL_alike_190 : decode cL_alike 190 = .ok (.invokestatic 164, 3) := by decide +kernel
theorem dL_alike_193 : decode cL_alike 193 = .ok (.aload_n 1, 1) := by decide +kernel
theorem dL_alike_194 : decode cL_alike 194 = .ok (.iconst 4, 1) := by decide +kernel
theorem dL_alike_195 : decode cL_alike 195 = .ok (.iload 4, 2) := by decide +kernel
theorem dL_alike_197 : decode cL_alike 197 = .ok (.iconst 0, 1) := by decide +kernel
theorem dL_alike_198 : decode cL_alike 198 = .ok (.iconst 0, 1) := by decide +kernel
theorem dL_alike_199 : decode cL_alike 199 = .ok (.invokestatic 164, 3) := by decide +kernel
theorem dL_alike_202 : decode cL_alike 202 = .ok (.if_icmp .ne 92, 3) := by decide +kernel
theorem dL_alike_205 : decode cL_alike 205 = .ok (.aload_n 0, 1) := by decide +kernel
theorem dL_alike_206 : decode cL_alike 206 = .ok (.iconst 4, 1) := by decide +kernel
theorem dL_alike_207 : decode cL_alike 207 = .ok (.iload 4, 2) := by decide +kernel
theorem dL_alike_209 : decode cL_alike 209 = .ok (.iconst 1, 1) := by decide +kernel
theorem dL_alike_210 : decode cL_alike 210 = .ok (.iconst 0, 1) := by decide +kernel
theorem dL_alike_211 : decode cL_alike 211 = .ok (.invokestatic 164, 3) := by decide +kernel
theorem dL_alike_214 : decode cL_alike 214 = .ok (.aload_n 1, 1) := by decide +kernel
theorem dL_alike_215 : decode cL_alike 215 = .ok (.iconst 4, 1) := by decide +kernel
theorem dL_alike_216 : decode cL_alike 216 = .ok (.iload 4, 2) := by decide +kernel
theorem dL_alike_218 : decode cL_alike 218 = .ok (.iconst 1, 1) := by decide +kernel
theorem dL_alike_219 : decode cL_alike 219 = .ok (.iconst 0, 1) := by decide +kernel
theorem dL_alike_220 : decode cL_alike 220 = .ok (.invokestatic 164, 3) := by decide +kernel
theorem dL_alike_223 : decode cL_alike 223 = .ok (.if_icmp .ne 71, 3) := by decide +kernel
theorem dL_alike_226 : decode cL_alike 226 = .ok (.aload_n 0, 1) := by decide +kernel
theorem dL_alike_227 : decode cL_alike 227 = .ok (.iconst 4, 1) := by decide +kernel
theorem dL_alike_228 : decode cL_alike 228 = .ok (.iload 4, 2) := by decide +kernel
theorem dL_alike_230 : decode cL_alike 230 = .ok (.iconst 2, 1) := by decide +kernel
theorem dL_alike_231 : decode cL_alike 231 = .ok (.iconst 0, 1) := by decide +kernel
theorem dL_alike_232 : decode cL_alike 232 = .ok (.invokestatic 164, 3) := by decide +kernel
theorem dL_alike_235 : decode cL_alike 235 = .ok (.aload_n 1, 1) := by decide +kernel
theorem dL_alike_236 : decode cL_alike 236 = .ok (.iconst 4, 1) := by decide +kernel
theorem dL_alike_237 : decode cL_alike 237 = .ok (.iload 4, 2) := by decide +kernel
theorem dL_alike_239 : decode cL_alike 239 = .ok (.iconst 2, 1) := by decide +kernel
theorem dL_alike_240 : decode cL_alike 240 = .ok (.iconst 0, 1) := by decide +kernel
theorem dL_alike_241 : decode cL_alike 241 = .ok (.invokestatic 164, 3) := by decide +kernel
theorem dL_alike_244 : decode cL_alike 244 = .ok (.if_icmp .ne 50, 3) := by decide +kernel
theorem dL_alike_247 : decode cL_alike 247 = .ok (.aload_n 0, 1) := by decide +kernel
theorem dL_alike_248 : decode cL_alike 248 = .ok (.iconst 3, 1) := by decide +kernel
theorem dL_alike_249 : decode cL_alike 249 = .ok (.iload_n 2, 1) := by decide +kernel
theorem dL_alike_250 : decode cL_alike 250 = .ok (.bipush 17, 2) := by decide +kernel
theorem dL_alike_252 : decode cL_alike 252 = .ok (.iload 4, 2) := by decide +kernel
theorem dL_alike_254 : decode cL_alike 254 = .ok (.imul, 1) := by decide +kernel
theorem dL_alike_255 : decode cL_alike 255 = .ok (.iadd, 1) := by decide +kernel
theorem dL_alike_256 : decode cL_alike 256 = .ok (.sipush 256, 3) := by decide +kernel
theorem dL_alike_259 : decode cL_alike 259 = .ok (.irem, 1) := by decide +kernel
theorem dL_alike_260 : decode cL_alike 260 = .ok (.iload_n 2, 1) := by decide +kernel
theorem dL_alike_261 : decode cL_alike 261 = .ok (.iconst 4, 1) := by decide +kernel
theorem dL_alike_262 : decode cL_alike 262 = .ok (.irem, 1) := by decide +kernel
theorem dL_alike_263 : decode cL_alike 263 = .ok (.iconst 0, 1) := by decide +kernel
theorem dL_alike_264 : decode cL_alike 264 = .ok (.invokestatic 164, 3) := by decide +kernel
theorem dL_alike_267 : decode cL_alike 267 = .ok (.aload_n 1, 1) := by decide +kernel
theorem dL_alike_268 : decode cL_alike 268 = .ok (.iconst 3, 1) := by decide +kernel
theorem dL_alike_269 : decode cL_alike 269 = .ok (.iload_n 2, 1) := by decide +kernel
theorem dL_alike_270 : decode cL_alike 270 = .ok (.bipush 17, 2) := by decide +kernel
theorem dL_alike_272 : decode cL_alike 272 = .ok (.iload 4, 2) := by decide +kernel
theorem dL_alike_274 : decode cL_alike 274 = .ok (.imul, 1) := by decide +kernel
theorem dL_alike_275 : decode cL_alike 275 = .ok (.iadd, 1) := by decide +kernel
theorem dL_alike_276 : decode cL_alike 276 = .ok (.sipush 256, 3) := by decide +kernel
theorem dL_alike_279 : decode cL_alike 279 = .ok (.irem, 1) := by decide +kernel
theorem dL_alike_280 : decode cL_alike 280 = .ok (.iload_n 2, 1) := by decide +kernel
theorem dL_alike_281 : decode cL_alike 281 = .ok (.iconst 4, 1) := by decide +kernel
theorem dL_alike_282 : decode cL_alike 282 = .ok (.irem, 1) := by decide +kernel
theorem dL_alike_283 : decode cL_alike 283 = .ok (.iconst 0, 1) := by decide +kernel
theorem dL_alike_284 : decode cL_alike 284 = .ok (.invokestatic 164, 3) := by decide +kernel
theorem dL_alike_287 : decode cL_alike 287 = .ok (.if_icmp .ne 7, 3) := by decide +kernel
theorem dL_alike_290 : decode cL_alike 290 = .ok (.iconst 1, 1) := by decide +kernel
theorem dL_alike_291 : decode cL_alike 291 = .ok (.goto 4, 3) := by decide +kernel
theorem dL_alike_294 : decode cL_alike 294 = .ok (.iconst 0, 1) := by decide +kernel
theorem dL_alike_295 : decode cL_alike 295 = .ok (.istore_n 3, 1) := by decide +kernel
theorem dL_alike_296 : decode cL_alike 296 = .ok (.iinc 4 1, 3) := by decide +kernel
theorem dL_alike_299 : decode cL_alike 299 = .ok (.goto (-126), 3) := by decide +kernel
theorem dL_alike_302 : decode cL_alike 302 = .ok (.iload_n 3, 1) := by decide +kernel
theorem dL_alike_303 : decode cL_alike 303 = .ok (.ireturn, 1) := by decide +kernel
