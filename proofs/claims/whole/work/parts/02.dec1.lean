/-! decode rows, by program -/
theorem dX10_init_0 : decode cX10_init 0 = .ok (.aload_n 0, 1) := by decide +kernel
theorem dX10_init_1 : decode cX10_init 1 = .ok (.invokespecial 1, 3) := by decide +kernel
theorem dX10_init_4 : decode cX10_init 4 = .ok (.aload_n 0, 1) := by decide +kernel
theorem dX10_init_5 : decode cX10_init 5 = .ok (.sipush 200, 3) := by decide +kernel
theorem dX10_init_8 : decode cX10_init 8 = .ok (.newarray .int, 2) := by decide +kernel
theorem dX10_init_10 : decode cX10_init 10 = .ok (.putfield 7, 3) := by decide +kernel
theorem dX10_init_13 : decode cX10_init 13 = .ok (.aload_n 0, 1) := by decide +kernel
theorem dX10_init_14 : decode cX10_init 14 = .ok (.bipush 24, 2) := by decide +kernel
theorem dX10_init_16 : decode cX10_init 16 = .ok (.newarray .int, 2) := by decide +kernel
theorem dX10_init_18 : decode cX10_init 18 = .ok (.putfield 13, 3) := by decide +kernel
theorem dX10_init_21 : decode cX10_init 21 = .ok (.aload_n 0, 1) := by decide +kernel
theorem dX10_init_22 : decode cX10_init 22 = .ok (.bipush 40, 2) := by decide +kernel
theorem dX10_init_24 : decode cX10_init 24 = .ok (.newarray .int, 2) := by decide +kernel
theorem dX10_init_26 : decode cX10_init 26 = .ok (.putfield 16, 3) := by decide +kernel
theorem dX10_init_29 : decode cX10_init 29 = .ok (.aload_n 0, 1) := by decide +kernel
theorem dX10_init_30 : decode cX10_init 30 = .ok (.bipush 6, 2) := by decide +kernel
theorem dX10_init_32 : decode cX10_init 32 = .ok (.newarray .int, 2) := by decide +kernel
theorem dX10_init_34 : decode cX10_init 34 = .ok (.putfield 19, 3) := by decide +kernel
theorem dX10_init_37 : decode cX10_init 37 = .ok (.aload_n 0, 1) := by decide +kernel
theorem dX10_init_38 : decode cX10_init 38 = .ok (.bipush 24, 2) := by decide +kernel
theorem dX10_init_40 : decode cX10_init 40 = .ok (.newarray .int, 2) := by decide +kernel
theorem dX10_init_42 : decode cX10_init 42 = .ok (.putfield 22, 3) := by decide +kernel
theorem dX10_init_45 : decode cX10_init 45 = .ok (.aload_n 0, 1) := by decide +kernel
theorem dX10_init_46 : decode cX10_init 46 = .ok (.bipush 40, 2) := by decide +kernel
theorem dX10_init_48 : decode cX10_init 48 = .ok (.newarray .int, 2) := by decide +kernel
theorem dX10_init_50 : decode cX10_init 50 = .ok (.putfield 25, 3) := by decide +kernel
theorem dX10_init_53 : decode cX10_init 53 = .ok (.aload_n 0, 1) := by decide +kernel
theorem dX10_init_54 : decode cX10_init 54 = .ok (.bipush 17, 2) := by decide +kernel
theorem dX10_init_56 : decode cX10_init 56 = .ok (.newarray .int, 2) := by decide +kernel
theorem dX10_init_58 : decode cX10_init 58 = .ok (.putfield 28, 3) := by decide +kernel
theorem dX10_init_61 : decode cX10_init 61 = .ok (.aload_n 0, 1) := by decide +kernel
theorem dX10_init_62 : decode cX10_init 62 = .ok (.bipush 17, 2) := by decide +kernel
theorem dX10_init_64 : decode cX10_init 64 = .ok (.newarray .int, 2) := by decide +kernel
theorem dX10_init_66 : decode cX10_init 66 = .ok (.putfield 31, 3) := by decide +kernel
theorem dX10_init_69 : decode cX10_init 69 = .ok (.aload_n 0, 1) := by decide +kernel
theorem dX10_init_70 : decode cX10_init 70 = .ok (.sipush 136, 3) := by decide +kernel
theorem dX10_init_73 : decode cX10_init 73 = .ok (.newarray .int, 2) := by decide +kernel
theorem dX10_init_75 : decode cX10_init 75 = .ok (.putfield 34, 3) := by decide +kernel
theorem dX10_init_78 : decode cX10_init 78 = .ok (.aload_n 0, 1) := by decide +kernel
theorem dX10_init_79 : decode cX10_init 79 = .ok (.bipush 34, 2) := by decide +kernel
theorem dX10_init_81 : decode cX10_init 81 = .ok (.newarray .int, 2) := by decide +kernel
theorem dX10_init_83 : decode cX10_init 83 = .ok (.putfield 37, 3) := by decide +kernel
theorem dX10_init_86 : decode cX10_init 86 = .ok (.aload_n 0, 1) := by decide +kernel
theorem dX10_init_87 : decode cX10_init 87 = .ok (.bipush 24, 2) := by decide +kernel
theorem dX10_init_89 : decode cX10_init 89 = .ok (.newarray .int, 2) := by decide +kernel
theorem dX10_init_91 : decode cX10_init 91 = .ok (.putfield 40, 3) := by decide +kernel
theorem dX10_init_94 : decode cX10_init 94 = .ok (.aload_n 0, 1) := by decide +kernel
theorem dX10_init_95 : decode cX10_init 95 = .ok (.bipush 10, 2) := by decide +kernel
theorem dX10_init_97 : decode cX10_init 97 = .ok (.newarray .int, 2) := by decide +kernel
theorem dX10_init_99 : decode cX10_init 99 = .ok (.putfield 43, 3) := by decide +kernel
theorem dX10_init_102 : decode cX10_init 102 = .ok (.aload_n 0, 1) := by decide +kernel
theorem dX10_init_103 : decode cX10_init 103 = .ok (.iconst 0, 1) := by decide +kernel
theorem dX10_init_104 : decode cX10_init 104 = .ok (.iconst 0, 1) := by decide +kernel
theorem dX10_init_105 : decode cX10_init 105 = .ok (.iconst 1, 1) := by decide +kernel
theorem dX10_init_106 : decode cX10_init 106 = .ok (.iconst 2, 1) := by decide +kernel
theorem dX10_init_107 : decode cX10_init 107 = .ok (.iconst 0, 1) := by decide +kernel
theorem dX10_init_108 : decode cX10_init 108 = .ok (.invokevirtual 46, 3) := by decide +kernel
theorem dX10_init_111 : decode cX10_init 111 = .ok (.aload_n 0, 1) := by decide +kernel
theorem dX10_init_112 : decode cX10_init 112 = .ok (.iconst 1, 1) := by decide +kernel
theorem dX10_init_113 : decode cX10_init 113 = .ok (.iconst 1, 1) := by decide +kernel
theorem dX10_init_114 : decode cX10_init 114 = .ok (.iconst 2, 1) := by decide +kernel
theorem dX10_init_115 : decode cX10_init 115 = .ok (.iconst 3, 1) := by decide +kernel
theorem dX10_init_116 : decode cX10_init 116 = .ok (.iconst 1, 1) := by decide +kernel
theorem dX10_init_117 : decode cX10_init 117 = .ok (.invokevirtual 46, 3) := by decide +kernel
theorem dX10_init_120 : decode cX10_init 120 = .ok (.aload_n 0, 1) := by decide +kernel
theorem dX10_init_121 : decode cX10_init 121 = .ok (.iconst 2, 1) := by decide +kernel
theorem dX10_init_122 : decode cX10_init 122 = .ok (.iconst 2, 1) := by decide +kernel
theorem dX10_init_123 : decode cX10_init 123 = .ok (.iconst 1, 1) := by decide +kernel
theorem dX10_init_124 : decode cX10_init 124 = .ok (.iconst 1, 1) := by decide +kernel
theorem dX10_init_125 : decode cX10_init 125 = .ok (.iconst 0, 1) := by decide +kernel
theorem dX10_init_126 : decode cX10_init 126 = .ok (.invokevirtual 46, 3) := by decide +kernel
theorem dX10_init_129 : decode cX10_init 129 = .ok (.aload_n 0, 1) := by decide +kernel
theorem dX10_init_130 : decode cX10_init 130 = .ok (.iconst 3, 1) := by decide +kernel
theorem dX10_init_131 : decode cX10_init 131 = .ok (.iconst 3, 1) := by decide +kernel
theorem dX10_init_132 : decode cX10_init 132 = .ok (.iconst 4, 1) := by decide +kernel
theorem dX10_init_133 : decode cX10_init 133 = .ok (.iconst 2, 1) := by decide +kernel
theorem dX10_init_134 : decode cX10_init 134 = .ok (.iconst 1, 1) := by decide +kernel
theorem dX10_init_135 : decode cX10_init 135 = .ok (.invokevirtual 46, 3) := by decide +kernel
theorem dX10_init_138 : decode cX10_init 138 = .ok (.aload_n 0, 1) := by decide +kernel
theorem dX10_init_139 : decode cX10_init 139 = .ok (.iconst 4, 1) := by decide +kernel
theorem dX10_init_140 : decode cX10_init 140 = .ok (.iconst 0, 1) := by decide +kernel
theorem dX10_init_141 : decode cX10_init 141 = .ok (.iconst 2, 1) := by decide +kernel
theorem dX10_init_142 : decode cX10_init 142 = .ok (.iconst 4, 1) := by decide +kernel
theorem dX10_init_143 : decode cX10_init 143 = .ok (.iconst 2, 1) := by decide +kernel
theorem dX10_init_144 : decode cX10_init 144 = .ok (.invokevirtual 46, 3) := by decide +kernel
theorem dX10_init_147 : decode cX10_init 147 = .ok (.aload_n 0, 1) := by decide +kernel
theorem dX10_init_148 : decode cX10_init 148 = .ok (.iconst 5, 1) := by decide +kernel
theorem dX10_init_149 : decode cX10_init 149 = .ok (.putfield 50, 3) := by decide +kernel
theorem dX10_init_152 : decode cX10_init 152 = .ok (.aload_n 0, 1) := by decide +kernel
theorem dX10_init_153 : decode cX10_init 153 = .ok (.getfield 28, 3) := by decide +kernel
theorem dX10_init_156 : decode cX10_init 156 = .ok (.iconst 5, 1) := by decide +kernel
theorem dX10_init_157 : decode cX10_init 157 = .ok (.iconst 0, 1) := by decide +kernel
theorem dX10_init_158 : decode cX10_init 158 = .ok (.iconst 2, 1) := by decide +kernel
theorem dX10_init_159 : decode cX10_init 159 = .ok (.invokestatic 54, 3) := by decide +kernel
theorem dX10_init_162 : decode cX10_init 162 = .ok (.aload_n 0, 1) := by decide +kernel
theorem dX10_init_163 : decode cX10_init 163 = .ok (.getfield 28, 3) := by decide +kernel
theorem dX10_init_166 : decode cX10_init 166 = .ok (.iconst 5, 1) := by decide +kernel
theorem dX10_init_167 : decode cX10_init 167 = .ok (.iconst 1, 1) := by decide +kernel
theorem dX10_init_168 : decode cX10_init 168 = .ok (.iconst 3, 1) := by decide +kernel
theorem dX10_init_169 : decode cX10_init 169 = .ok (.invokestatic 54, 3) := by decide +kernel
theorem dX10_init_172 : decode cX10_init 172 = .ok (.aload_n 0, 1) := by decide +kernel
theorem dX10_init_173 : decode cX10_init 173 = .ok (.iconst 0, 1) := by decide +kernel
theorem dX10_init_174 : decode cX10_init 174 = .ok (.iconst 0, 1) := by decide +kernel
theorem dX10_init_175 : decode cX10_init 175 = .ok (.iconst 1, 1) := by decide +kernel
theorem dX10_init_176 : decode cX10_init 176 = .ok (.iconst 0, 1) := by decide +kernel
theorem dX10_init_177 : decode cX10_init 177 = .ok (.bipush 12, 2) := by decide +kernel
theorem dX10_init_179 : decode cX10_init 179 = .ok (.invokevirtual 58, 3) := by decide +kernel
theorem dX10_init_182 : decode cX10_init 182 = .ok (.aload_n 0, 1) := by decide +kernel
theorem dX10_init_183 : decode cX10_init 183 = .ok (.iconst 1, 1) := by decide +kernel
theorem dX10_init_184 : decode cX10_init 184 = .ok (.iconst 0, 1) := by decide +kernel
theorem dX10_init_185 : decode cX10_init 185 = .ok (.iconst 2, 1) := by decide +kernel
theorem dX10_init_186 : decode cX10_init 186 = .ok (.iconst 1, 1) := by decide +kernel
theorem dX10_init_187 : decode cX10_init 187 = .ok (.iconst 5, 1) := by decide +kernel
theorem dX10_init_188 : decode cX10_init 188 = .ok (.invokevirtual 58, 3) := by decide +kernel
theorem dX10_init_191 : decode cX10_init 191 = .ok (.aload_n 0, 1) := by decide +kernel
theorem dX10_init_192 : decode cX10_init 192 = .ok (.iconst 2, 1) := by decide +kernel
theorem dX10_init_193 : decode cX10_init 193 = .ok (.iconst 1, 1) := by decide +kernel
theorem dX10_init_194 : decode cX10_init 194 = .ok (.iconst 4, 1) := by decide +kernel
theorem dX10_init_195 : decode cX10_init 195 = .ok (.iconst 2, 1) := by decide +kernel
theorem dX10_init_196 : decode cX10_init 196 = .ok (.bipush 30, 2) := by decide +kernel
theorem dX10_init_198 : decode cX10_init 198 = .ok (.invokevirtual 58, 3) := by decide +kernel
theorem dX10_init_201 : decode cX10_init 201 = .ok (.aload_n 0, 1) := by decide +kernel
theorem dX10_init_202 : decode cX10_init 202 = .ok (.iconst 3, 1) := by decide +kernel
theorem dX10_init_203 : decode cX10_init 203 = .ok (.iconst 1, 1) := by decide +kernel
theorem dX10_init_204 : decode cX10_init 204 = .ok (.iconst 1, 1) := by decide +kernel
theorem dX10_init_205 : decode cX10_init 205 = .ok (.iconst 1, 1) := by decide +kernel
theorem dX10_init_206 : decode cX10_init 206 = .ok (.bipush 8, 2) := by decide +kernel
theorem dX10_init_208 : decode cX10_init 208 = .ok (.invokevirtual 58, 3) := by decide +kernel
theorem dX10_init_211 : decode cX10_init 211 = .ok (.aload_n 0, 1) := by decide +kernel
theorem dX10_init_212 : decode cX10_init 212 = .ok (.iconst 4, 1) := by decide +kernel
theorem dX10_init_213 : decode cX10_init 213 = .ok (.iconst 2, 1) := by decide +kernel
theorem dX10_init_214 : decode cX10_init 214 = .ok (.iconst 2, 1) := by decide +kernel
theorem dX10_init_215 : decode cX10_init 215 = .ok (.iconst 0, 1) := by decide +kernel
theorem dX10_init_216 : decode cX10_init 216 = .ok (.bipush 9, 2) := by decide +kernel
theorem dX10_init_218 : decode cX10_init 218 = .ok (.invokevirtual 58, 3) := by decide +kernel
theorem dX10_init_221 : decode cX10_init 221 = .ok (.aload_n 0, 1) := by decide +kernel
theorem dX10_init_222 : decode cX10_init 222 = .ok (.iconst 5, 1) := by decide +kernel
theorem dX10_init_223 : decode cX10_init 223 = .ok (.iconst 3, 1) := by decide +kernel
theorem dX10_init_224 : decode cX10_init 224 = .ok (.iconst 4, 1) := by decide +kernel
theorem dX10_init_225 : decode cX10_init 225 = .ok (.iconst 3, 1) := by decide +kernel
theorem dX10_init_226 : decode cX10_init 226 = .ok (.bipush 20, 2) := by decide +kernel
theorem dX10_init_228 : decode cX10_init 228 = .ok (.invokevirtual 58, 3) := by decide +kernel
theorem dX10_init_231 : decode cX10_init 231 = .ok (.aload_n 0, 1) := by decide +kernel
theorem dX10_init_232 : decode cX10_init 232 = .ok (.bipush 6, 2) := by decide +kernel
theorem dX10_init_234 : decode cX10_init 234 = .ok (.iconst 4, 1) := by decide +kernel
theorem dX10_init_235 : decode cX10_init 235 = .ok (.iconst 1, 1) := by decide +kernel
theorem dX10_init_236 : decode cX10_init 236 = .ok (.iconst 2, 1) := by decide +kernel
theorem dX10_init_237 : decode cX10_init 237 = .ok (.bipush 15, 2) := by decide +kernel
theorem dX10_init_239 : decode cX10_init 239 = .ok (.invokevirtual 58, 3) := by decide +kernel
theorem dX10_init_242 : decode cX10_init 242 = .ok (.aload_n 0, 1) := by decide +kernel
theorem dX10_init_243 : decode cX10_init 243 = .ok (.bipush 7, 2) := by decide +kernel
theorem dX10_init_245 : decode cX10_init 245 = .ok (.putfield 61, 3) := by decide +kernel
theorem dX10_init_248 : decode cX10_init 248 = .ok (.aload_n 0, 1) := by decide +kernel
theorem dX10_init_249 : decode cX10_init 249 = .ok (.iconst 5, 1) := by decide +kernel
theorem dX10_init_250 : decode cX10_init 250 = .ok (.putfield 64, 3) := by decide +kernel
theorem dX10_init_253 : decode cX10_init 253 = .ok (.return_, 1) := by decide +kernel
theorem dX10_addOne_0 : decode cX10_addOne 0 = .ok (.aload_n 0, 1) := by decide +kernel
theorem dX10_addOne_1 : decode cX10_addOne 1 = .ok (.getfield 22, 3) := by decide +kernel
theorem dX10_addOne_4 : decode cX10_addOne 4 = .ok (.iconst 4, 1) := by decide +kernel
theorem dX10_addOne_5 : decode cX10_addOne 5 = .ok (.iload_n 1, 1) := by decide +kernel
theorem dX10_addOne_6 : decode cX10_addOne 6 = .ok (.imul, 1) := by decide +kernel
theorem dX10_addOne_7 : decode cX10_addOne 7 = .ok (.iload_n 2, 1) := by decide +kernel
theorem dX10_addOne_8 : decode cX10_addOne 8 = .ok (.iastore, 1) := by decide +kernel
theorem dX10_addOne_9 : decode cX10_addOne 9 = .ok (.aload_n 0, 1) := by decide +kernel
theorem dX10_addOne_10 : decode cX10_addOne 10 = .ok (.getfield 22, 3) := by decide +kernel
theorem dX10_addOne_13 : decode cX10_addOne 13 = .ok (.iconst 4, 1) := by decide +kernel
theorem dX10_addOne_14 : decode cX10_addOne 14 = .ok (.iload_n 1, 1) := by decide +kernel
theorem dX10_addOne_15 : decode cX10_addOne 15 = .ok (.imul, 1) := by decide +kernel
theorem dX10_addOne_16 : decode cX10_addOne 16 = .ok (.iconst 1, 1) := by decide +kernel
theorem dX10_addOne_17 : decode cX10_addOne 17 = .ok (.iadd, 1) := by decide +kernel
theorem dX10_addOne_18 : decode cX10_addOne 18 = .ok (.iload_n 3, 1) := by decide +kernel
theorem dX10_addOne_19 : decode cX10_addOne 19 = .ok (.iastore, 1) := by decide +kernel
theorem dX10_addOne_20 : decode cX10_addOne 20 = .ok (.aload_n 0, 1) := by decide +kernel
theorem dX10_addOne_21 : decode cX10_addOne 21 = .ok (.getfield 22, 3) := by decide +kernel
theorem dX10_addOne_24 : decode cX10_addOne 24 = .ok (.iconst 4, 1) := by decide +kernel
theorem dX10_addOne_25 : decode cX10_addOne 25 = .ok (.iload_n 1, 1) := by decide +kernel
theorem dX10_addOne_26 : decode cX10_addOne 26 = .ok (.imul, 1) := by decide +kernel
theorem dX10_addOne_27 : decode cX10_addOne 27 = .ok (.iconst 2, 1) := by decide +kernel
theorem dX10_addOne_28 : decode cX10_addOne 28 = .ok (.iadd, 1) := by decide +kernel
theorem dX10_addOne_29 : decode cX10_addOne 29 = .ok (.iload 4, 2) := by decide +kernel
theorem dX10_addOne_31 : decode cX10_addOne 31 = .ok (.iastore, 1) := by decide +kernel
theorem dX10_addOne_32 : decode cX10_addOne 32 = .ok (.aload_n 0, 1) := by decide +kernel
theorem dX10_addOne_33 : decode cX10_addOne 33 = .ok (.getfield 22, 3) := by decide +kernel
theorem dX10_addOne_36 : decode cX10_addOne 36 = .ok (.iconst 4, 1) := by decide +kernel
theorem dX10_addOne_37 : decode cX10_addOne 37 = .ok (.iload_n 1, 1) := by decide +kernel
theorem dX10_addOne_38 : decode cX10_addOne 38 = .ok (.imul, 1) := by decide +kernel
theorem dX10_addOne_39 : decode cX10_addOne 39 = .ok (.iconst 3, 1) := by decide +kernel
theorem dX10_addOne_40 : decode cX10_addOne 40 = .ok (.iadd, 1) := by decide +kernel
theorem dX10_addOne_41 : decode cX10_addOne 41 = .ok (.iload 5, 2) := by decide +kernel
theorem dX10_addOne_43 : decode cX10_addOne 43 = .ok (.iastore, 1) := by decide +kernel
theorem dX10_addOne_44 : decode cX10_addOne 44 = .ok (.return_, 1) := by decide +kernel
theorem dX10_addGuest_0 : decode cX10_addGuest 0 = .ok (.aload_n 0, 1) := by decide +kernel
theorem dX10_addGuest_1 : decode cX10_addGuest 1 = .ok (.getfield 25, 3) := by decide +kernel
theorem dX10_addGuest_4 : decode cX10_addGuest 4 = .ok (.iconst 4, 1) := by decide +kernel
theorem dX10_addGuest_5 : decode cX10_addGuest 5 = .ok (.iload_n 1, 1) := by decide +kernel
theorem dX10_addGuest_6 : decode cX10_addGuest 6 = .ok (.imul, 1) := by decide +kernel
theorem dX10_addGuest_7 : decode cX10_addGuest 7 = .ok (.iload_n 2, 1) := by decide +kernel
theorem dX10_addGuest_8 : decode cX10_addGuest 8 = .ok (.iastore, 1) := by decide +kernel
theorem dX10_addGuest_9 : decode cX10_addGuest 9 = .ok (.aload_n 0, 1) := by decide +kernel
theorem dX10_addGuest_10 : decode cX10_addGuest 10 = .ok (.getfield 25, 3) := by decide +kernel
theorem dX10_addGuest_13 : decode cX10_addGuest 13 = .ok (.iconst 4, 1) := by decide +kernel
theorem dX10_addGuest_14 : decode cX10_addGuest 14 = .ok (.iload_n 1, 1) := by decide +kernel
theorem dX10_addGuest_15 : decode cX10_addGuest 15 = .ok (.imul, 1) := by decide +kernel
theorem dX10_addGuest_16 : decode cX10_addGuest 16 = .ok (.iconst 1, 1) := by decide +kernel
theorem dX10_addGuest_17 : decode cX10_addGuest 17 = .ok (.iadd, 1) := by decide +kernel
theorem dX10_addGuest_18 : decode cX10_addGuest 18 = .ok (.iload_n 3, 1) := by decide +kernel
theorem dX10_addGuest_19 : decode cX10_addGuest 19 = .ok (.iastore, 1) := by decide +kernel
theorem dX10_addGuest_20 : decode cX10_addGuest 20 = .ok (.aload_n 0, 1) := by decide +kernel
theorem dX10_addGuest_21 : decode cX10_addGuest 21 = .ok (.getfield 25, 3) := by decide +kernel
theorem dX10_addGuest_24 : decode cX10_addGuest 24 = .ok (.iconst 4, 1) := by decide +kernel
theorem dX10_addGuest_25 : decode cX10_addGuest 25 = .ok (.iload_n 1, 1) := by decide +kernel
theorem dX10_addGuest_26 : decode cX10_addGuest 26 = .ok (.imul, 1) := by decide +kernel
theorem dX10_addGuest_27 : decode cX10_addGuest 27 = .ok (.iconst 2, 1) := by decide +kernel
theorem dX10_addGuest_28 : decode cX10_addGuest 28 = .ok (.iadd, 1) := by decide +kernel
theorem dX10_addGuest_29 : decode cX10_addGuest 29 = .ok (.iload 4, 2) := by decide +kernel
theorem dX10_addGuest_31 : decode cX10_addGuest 31 = .ok (.iastore, 1) := by decide +kernel
theorem dX10_addGuest_32 : decode cX10_addGuest 32 = .ok (.aload_n 0, 1) := by decide +kernel
theorem dX10_addGuest_33 : decode cX10_addGuest 33 = .ok (.getfield 25, 3) := by decide +kernel
theorem dX10_addGuest_36 : decode cX10_addGuest 36 = .ok (.iconst 4, 1) := by decide +kernel
theorem dX10_addGuest_37 : decode cX10_addGuest 37 = .ok (.iload_n 1, 1) := by decide +kernel
theorem dX10_addGuest_38 : decode cX10_addGuest 38 = .ok (.imul, 1) := by decide +kernel
theorem dX10_addGuest_39 : decode cX10_addGuest 39 = .ok (.iconst 3, 1) := by decide +kernel
theorem dX10_addGuest_40 : decode cX10_addGuest 40 = .ok (.iadd, 1) := by decide +kernel
theorem dX10_addGuest_41 : decode cX10_addGuest 41 = .ok (.iload 5, 2) := by decide +kernel
theorem dX10_addGuest_43 : decode cX10_addGuest 43 = .ok (.iastore, 1) := by decide +kernel
theorem dX10_addGuest_44 : decode cX10_addGuest 44 = .ok (.return_, 1) := by decide +kernel
theorem dX10_in_0 : decode cX10_in 0 = .ok (.iload_n 0, 1) := by decide +kernel
theorem dX10_in_1 : decode cX10_in 1 = .ok (.iload_n 1, 1) := by decide +kernel
theorem dX10_in_2 : decode cX10_in 2 = .ok (.if_icmp .lt 12, 3) := by decide +kernel
theorem dX10_in_5 : decode cX10_in 5 = .ok (.iload_n 0, 1) := by decide +kernel
theorem dX10_in_6 : decode cX10_in 6 = .ok (.iload_n 2, 1) := by decide +kernel
theorem dX10_in_7 : decode cX10_in 7 = .ok (.if_icmp .gt 7, 3) := by decide +kernel
theorem dX10_in_10 : decode cX10_in 10 = .ok (.iconst 1, 1) := by decide +kernel
theorem dX10_in_11 : decode cX10_in 11 = .ok (.goto 4, 3) := by decide +kernel
theorem dX10_in_14 : decode cX10_in 14 = .ok (.iconst 0, 1) := by decide +kernel
theorem dX10_in_15 : decode cX10_in 15 = .ok (.ireturn, 1) := by decide +kernel
theorem dX10_has_0 : decode cX10_has 0 = .ok (.iload_n 0, 1) := by decide +kernel
theorem dX10_has_1 : decode cX10_has 1 = .ok (.iload_n 1, 1) := by decide +kernel
theorem dX10_has_2 : decode cX10_has 2 = .ok (.ishr, 1) := by decide +kernel
theorem dX10_has_3 : decode cX10_has 3 = .ok (.iconst 1, 1) := by decide +kernel
theorem dX10_has_4 : decode cX10_has 4 = .ok (.iand, 1) := by decide +kernel
theorem dX10_has_5 : decode cX10_has 5 = .ok (.iconst 1, 1) := by decide +kernel
theorem dX10_has_6 : decode cX10_has 6 = .ok (.if_icmp .ne 7, 3) := by decide +kernel
theorem dX10_has_9 : decode cX10_has 9 = .ok (.iconst 1, 1) := by decide +kernel
theorem dX10_has_10 : decode cX10_has 10 = .ok (.goto 4, 3) := by decide +kernel
theorem dX10_has_13 : decode cX10_has 13 = .ok (.iconst 0, 1) := by decide +kernel
theorem dX10_has_14 : decode cX10_has 14 = .ok (.ireturn, 1) := by decide +kernel
theorem dX10_bits_0 : decode cX10_bits 0 = .ok (.iconst 0, 1) := by decide +kernel
theorem dX10_bits_1 : decode cX10_bits 1 = .ok (.istore_n 1, 1) := by decide +kernel
theorem dX10_bits_2 : decode cX10_bits 2 = .ok (.iconst 0, 1) := by decide +kernel
theorem dX10_bits_3 : decode cX10_bits 3 = .ok (.istore_n 2, 1) := by decide +kernel
theorem dX10_bits_4 : decode cX10_bits 4 = .ok (.iload_n 2, 1) := by decide +kernel
theorem dX10_bits_5 : decode cX10_bits 5 = .ok (.bipush 15, 2) := by decide +kernel
theorem dX10_bits_7 : decode cX10_bits 7 = .ok (.if_icmp .ge 17, 3) := by decide +kernel
theorem dX10_bits_10 : decode cX10_bits 10 = .ok (.iload_n 1, 1) := by decide +kernel
theorem dX10_bits_11 : decode cX10_bits 11 = .ok (.iload_n 0, 1) := by decide +kernel
theorem dX10_bits_12 : decode cX10_bits 12 = .ok (.iload_n 2, 1) := by decide +kernel
theorem dX10_bits_13 : decode cX10_bits 13 = .ok (.ishr, 1) := by decide +kernel
theorem dX10_bits_14 : decode cX10_bits 14 = .ok (.iconst 1, 1) := by decide +kernel
theorem dX10_bits_15 : decode cX10_bits 15 = .ok (.iand, 1) := by decide +kernel
theorem dX10_bits_16 : decode cX10_bits 16 = .ok (.iadd, 1) := by decide +kernel
theorem dX10_bits_17 : decode cX10_bits 17 = .ok (.istore_n 1, 1) := by decide +kernel
theorem dX10_bits_18 : decode cX10_bits 18 = .ok (.iinc 2 1, 3) := by decide +kernel
theorem dX10_bits_21 : decode cX10_bits 21 = .ok (.goto (-17), 3) := by decide +kernel
theorem dX10_bits_24 : decode cX10_bits 24 = .ok (.iload_n 1, 1) := by decide +kernel
theorem dX10_bits_25 : decode cX10_bits 25 = .ok (.ireturn, 1) := by decide +kernel
theorem dX10_bring_0 : decode cX10_bring 0 = .ok (.iconst 0, 1) := by decide +kernel
theorem dX10_bring_1 : decode cX10_bring 1 = .ok (.istore 5, 2) := by decide +kernel
theorem dX10_bring_3 : decode cX10_bring 3 = .ok (.iload 5, 2) := by decide +kernel
theorem dX10_bring_5 : decode cX10_bring 5 = .ok (.iload 4, 2) := by decide +kernel
theorem dX10_bring_7 : decode cX10_bring 7 = .ok (.if_icmp .ge 21, 3) := by decide +kernel
theorem dX10_bring_10 : decode cX10_bring 10 = .ok (.aload_n 2, 1) := by decide +kernel
theorem dX10_bring_11 : decode cX10_bring 11 = .ok (.iload_n 3, 1) := by decide +kernel
theorem dX10_bring_12 : decode cX10_bring 12 = .ok (.iload 5, 2) := by decide +kernel
theorem dX10_bring_14 : decode cX10_bring 14 = .ok (.iadd, 1) := by decide +kernel
theorem dX10_bring_15 : decode cX10_bring 15 = .ok (.aload_n 0, 1) := by decide +kernel
theorem dX10_bring_16 : decode cX10_bring 16 = .ok (.iload_n 1, 1) := by decide +kernel
theorem dX10_bring_17 : decode cX10_bring 17 = .ok (.iload 5, 2) := by decide +kernel
theorem dX10_bring_19 : decode cX10_bring 19 = .ok (.iadd, 1) := by decide +kernel
theorem dX10_bring_20 : decode cX10_bring 20 = .ok (.iaload, 1) := by decide +kernel
theorem dX10_bring_21 : decode cX10_bring 21 = .ok (.iastore, 1) := by decide +kernel
theorem dX10_bring_22 : decode cX10_bring 22 = .ok (.iinc 5 1, 3) := by decide +kernel
theorem dX10_bring_25 : decode cX10_bring 25 = .ok (.goto (-22), 3) := by decide +kernel
theorem dX10_bring_28 : decode cX10_bring 28 = .ok (.return_, 1) := by decide +kernel
theorem dX10_isOne_0 : decode cX10_isOne 0 = .ok (.iload_n 1, 1) := by decide +kernel
theorem dX10_isOne_1 : decode cX10_isOne 1 = .ok (.iconst 0, 1) := by decide +kernel
theorem dX10_isOne_2 : decode cX10_isOne 2 = .ok (.aload_n 0, 1) := by decide +kernel
theorem dX10_isOne_3 : decode cX10_isOne 3 = .ok (.getfield 50, 3) := by decide +kernel
theorem dX10_isOne_6 : decode cX10_isOne 6 = .ok (.iconst 1, 1) := by decide +kernel
theorem dX10_isOne_7 : decode cX10_isOne 7 = .ok (.isub, 1) := by decide +kernel
theorem dX10_isOne_8 : decode cX10_isOne 8 = .ok (.invokestatic 67, 3) := by decide +kernel
theorem dX10_isOne_11 : decode cX10_isOne 11 = .ok (.ireturn, 1) := by decide +kernel
theorem dX10_isGuest_0 : decode cX10_isGuest 0 = .ok (.iload_n 1, 1) := by decide +kernel
theorem dX10_isGuest_1 : decode cX10_isGuest 1 = .ok (.iconst 0, 1) := by decide +kernel
theorem dX10_isGuest_2 : decode cX10_isGuest 2 = .ok (.aload_n 0, 1) := by decide +kernel
theorem dX10_isGuest_3 : decode cX10_isGuest 3 = .ok (.getfield 61, 3) := by decide +kernel
theorem dX10_isGuest_6 : decode cX10_isGuest 6 = .ok (.iconst 1, 1) := by decide +kernel
theorem dX10_isGuest_7 : decode cX10_isGuest 7 = .ok (.isub, 1) := by decide +kernel
theorem dX10_isGuest_8 : decode cX10_isGuest 8 = .ok (.invokestatic 67, 3) := by decide +kernel
theorem dX10_isGuest_11 : decode cX10_isGuest 11 = .ok (.ireturn, 1) := by decide +kernel
theorem dX10_areTwo_0 : decode cX10_areTwo 0 = .ok (.aload_n 0, 1) := by decide +kernel
theorem dX10_areTwo_1 : decode cX10_areTwo 1 = .ok (.iload_n 1, 1) := by decide +kernel
theorem dX10_areTwo_2 : decode cX10_areTwo 2 = .ok (.invokevirtual 71, 3) := by decide +kernel
theorem dX10_areTwo_5 : decode cX10_areTwo 5 = .ok (.ifCond .eq 20, 3) := by decide +kernel
theorem dX10_areTwo_8 : decode cX10_areTwo 8 = .ok (.aload_n 0, 1) := by decide +kernel
theorem dX10_areTwo_9 : decode cX10_areTwo 9 = .ok (.iload_n 2, 1) := by decide +kernel
theorem dX10_areTwo_10 : decode cX10_areTwo 10 = .ok (.invokevirtual 71, 3) := by decide +kernel
theorem dX10_areTwo_13 : decode cX10_areTwo 13 = .ok (.ifCond .eq 12, 3) := by decide +kernel
theorem dX10_areTwo_16 : decode cX10_areTwo 16 = .ok (.iload_n 1, 1) := by decide +kernel
theorem dX10_areTwo_17 : decode cX10_areTwo 17 = .ok (.iload_n 2, 1) := by decide +kernel
theorem dX10_areTwo_18 : decode cX10_areTwo 18 = .ok (.if_icmp .eq 7, 3) := by decide +kernel
theorem dX10_areTwo_21 : decode cX10_areTwo 21 = .ok (.iconst 1, 1) := by decide +kernel
theorem dX10_areTwo_22 : decode cX10_areTwo 22 = .ok (.goto 4, 3) := by decide +kernel
theorem dX10_areTwo_25 : decode cX10_areTwo 25 = .ok (.iconst 0, 1) := by decide +kernel
theorem dX10_areTwo_26 : decode cX10_areTwo 26 = .ok (.ireturn, 1) := by decide +kernel
theorem dX10_turn_0 : decode cX10_turn 0 = .ok (.aload_n 0, 1) := by decide +kernel
theorem dX10_turn_1 : decode cX10_turn 1 = .ok (.iload_n 1, 1) := by decide +kernel
theorem dX10_turn_2 : decode cX10_turn 2 = .ok (.iload_n 2, 1) := by decide +kernel
theorem dX10_turn_3 : decode cX10_turn 3 = .ok (.iadd, 1) := by decide +kernel
theorem dX10_turn_4 : decode cX10_turn 4 = .ok (.aload_n 0, 1) := by decide +kernel
theorem dX10_turn_5 : decode cX10_turn 5 = .ok (.iload_n 1, 1) := by decide +kernel
theorem dX10_turn_6 : decode cX10_turn 6 = .ok (.iload_n 2, 1) := by decide +kernel
theorem dX10_turn_7 : decode cX10_turn 7 = .ok (.iadd, 1) := by decide +kernel
theorem dX10_turn_8 : decode cX10_turn 8 = .ok (.iaload, 1) := by decide +kernel
theorem dX10_turn_9 : decode cX10_turn 9 = .ok (.iconst 1, 1) := by decide +kernel
theorem dX10_turn_10 : decode cX10_turn 10 = .ok (.iload_n 3, 1) := by decide +kernel
theorem dX10_turn_11 : decode cX10_turn 11 = .ok (.ishl, 1) := by decide +kernel
theorem dX10_turn_12 : decode cX10_turn 12 = .ok (.ixor, 1) := by decide +kernel
theorem dX10_turn_13 : decode cX10_turn 13 = .ok (.iastore, 1) := by decide +kernel
theorem dX10_turn_14 : decode cX10_turn 14 = .ok (.aload_n 0, 1) := by decide +kernel
theorem dX10_turn_15 : decode cX10_turn 15 = .ok (.iload_n 1, 1) := by decide +kernel
theorem dX10_turn_16 : decode cX10_turn 16 = .ok (.iload_n 3, 1) := by decide +kernel
theorem dX10_turn_17 : decode cX10_turn 17 = .ok (.iadd, 1) := by decide +kernel
theorem dX10_turn_18 : decode cX10_turn 18 = .ok (.aload_n 0, 1) := by decide +kernel
theorem dX10_turn_19 : decode cX10_turn 19 = .ok (.iload_n 1, 1) := by decide +kernel
theorem dX10_turn_20 : decode cX10_turn 20 = .ok (.iload_n 3, 1) := by decide +kernel
theorem dX10_turn_21 : decode cX10_turn 21 = .ok (.iadd, 1) := by decide +kernel
theorem dX10_turn_22 : decode cX10_turn 22 = .ok (.iaload, 1) := by decide +kernel
theorem dX10_turn_23 : decode cX10_turn 23 = .ok (.iconst 1, 1) := by decide +kernel
theorem dX10_turn_24 : decode cX10_turn 24 = .ok (.iload_n 2, 1) := by decide +kernel
theorem dX10_turn_25 : decode cX10_turn 25 = .ok (.ishl, 1) := by decide +kernel
theorem dX10_turn_26 : decode cX10_turn 26 = .ok (.ixor, 1) := by decide +kernel
theorem dX10_turn_27 : decode cX10_turn 27 = .ok (.iastore, 1) := by decide +kernel
theorem dX10_turn_28 : decode cX10_turn 28 = .ok (.return_, 1) := by decide +kernel
theorem dX10_quarrelsIn_0 : decode cX10_quarrelsIn 0 = .ok (.iconst 0, 1) := by decide +kernel
theorem dX10_quarrelsIn_1 : decode cX10_quarrelsIn 1 = .ok (.istore_n 2, 1) := by decide +kernel
theorem dX10_quarrelsIn_2 : decode cX10_quarrelsIn 2 = .ok (.iconst 0, 1) := by decide +kernel
theorem dX10_quarrelsIn_3 : decode cX10_quarrelsIn 3 = .ok (.istore_n 3, 1) := by decide +kernel
theorem dX10_quarrelsIn_4 : decode cX10_quarrelsIn 4 = .ok (.iload_n 3, 1) := by decide +kernel
theorem dX10_quarrelsIn_5 : decode cX10_quarrelsIn 5 = .ok (.bipush 6, 2) := by decide +kernel
theorem dX10_quarrelsIn_7 : decode cX10_quarrelsIn 7 = .ok (.if_icmp .ge 20, 3) := by decide +kernel
theorem dX10_quarrelsIn_10 : decode cX10_quarrelsIn 10 = .ok (.iload_n 2, 1) := by decide +kernel
theorem dX10_quarrelsIn_11 : decode cX10_quarrelsIn 11 = .ok (.aload_n 0, 1) := by decide +kernel
theorem dX10_quarrelsIn_12 : decode cX10_quarrelsIn 12 = .ok (.iload_n 1, 1) := by decide +kernel
theorem dX10_quarrelsIn_13 : decode cX10_quarrelsIn 13 = .ok (.iload_n 3, 1) := by decide +kernel
theorem dX10_quarrelsIn_14 : decode cX10_quarrelsIn 14 = .ok (.iadd, 1) := by decide +kernel
theorem dX10_quarrelsIn_15 : decode cX10_quarrelsIn 15 = .ok (.iaload, 1) := by decide +kernel
theorem dX10_quarrelsIn_16 : decode cX10_quarrelsIn 16 = .ok (.invokestatic 75, 3) := by decide +kernel
theorem dX10_quarrelsIn_19 : decode cX10_quarrelsIn 19 = .ok (.iadd, 1) := by decide +kernel
theorem dX10_quarrelsIn_20 : decode cX10_quarrelsIn 20 = .ok (.istore_n 2, 1) := by decide +kernel
theorem dX10_quarrelsIn_21 : decode cX10_quarrelsIn 21 = .ok (.iinc 3 1, 3) := by decide +kernel
theorem dX10_quarrelsIn_24 : decode cX10_quarrelsIn 24 = .ok (.goto (-20), 3) := by decide +kernel
theorem dX10_quarrelsIn_27 : decode cX10_quarrelsIn 27 = .ok (.iload_n 2, 1) := by decide +kernel
theorem dX10_quarrelsIn_28 : decode cX10_quarrelsIn 28 = .ok (.iconst 2, 1) := by decide +kernel
theorem dX10_quarrelsIn_29 : decode cX10_quarrelsIn 29 = .ok (.idiv, 1) := by decide +kernel
theorem dX10_quarrelsIn_30 : decode cX10_quarrelsIn 30 = .ok (.ireturn, 1) := by decide +kernel
theorem dX10_write_0 : decode cX10_write 0 = .ok (.iload_n 1, 1) := by decide +kernel
theorem dX10_write_1 : decode cX10_write 1 = .ok (.bipush 32, 2) := by decide +kernel
theorem dX10_write_3 : decode cX10_write 3 = .ok (.bipush 126, 2) := by decide +kernel
theorem dX10_write_5 : decode cX10_write 5 = .ok (.invokestatic 67, 3) := by decide +kernel
theorem dX10_write_8 : decode cX10_write 8 = .ok (.ifCond .ne 5, 3) := by decide +kernel
theorem dX10_write_11 : decode cX10_write 11 = .ok (.iconst (-1), 1) := by decide +kernel
theorem dX10_write_12 : decode cX10_write 12 = .ok (.ireturn, 1) := by decide +kernel
theorem dX10_write_13 : decode cX10_write 13 = .ok (.aload_n 0, 1) := by decide +kernel
theorem dX10_write_14 : decode cX10_write 14 = .ok (.getfield 79, 3) := by decide +kernel
theorem dX10_write_17 : decode cX10_write 17 = .ok (.sipush 200, 3) := by decide +kernel
theorem dX10_write_20 : decode cX10_write 20 = .ok (.if_icmp .ne 6, 3) := by decide +kernel
theorem dX10_write_23 : decode cX10_write 23 = .ok (.bipush (-3), 2) := by decide +kernel
theorem dX10_write_25 : decode cX10_write 25 = .ok (.ireturn, 1) := by decide +kernel
theorem dX10_write_26 : decode cX10_write 26 = .ok (.aload_n 0, 1) := by decide +kernel
theorem dX10_write_27 : decode cX10_write 27 = .ok (.getfield 7, 3) := by decide +kernel
theorem dX10_write_30 : decode cX10_write 30 = .ok (.aload_n 0, 1) := by decide +kernel
theorem dX10_write_31 : decode cX10_write 31 = .ok (.getfield 79, 3) := by decide +kernel
theorem dX10_write_34 : decode cX10_write 34 = .ok (.iload_n 1, 1) := by decide +kernel
theorem dX10_write_35 : decode cX10_write 35 = .ok (.iastore, 1) := by decide +kernel
theorem dX10_write_36 : decode cX10_write 36 = .ok (.aload_n 0, 1) := by decide +kernel
theorem dX10_write_37 : decode cX10_write 37 = .ok (.dup, 1) := by decide +kernel
theorem dX10_write_38 : decode cX10_write 38 = .ok (.getfield 79, 3) := by decide +kernel
theorem dX10_write_41 : decode cX10_write 41 = .ok (.iconst 1, 1) := by decide +kernel
theorem dX10_write_42 : decode cX10_write 42 = .ok (.iadd, 1) := by decide +kernel
theorem dX10_write_43 : decode cX10_write 43 = .ok (.putfield 79, 3) := by decide +kernel
theorem dX10_write_46 : decode cX10_write 46 = .ok (.aload_n 0, 1) := by decide +kernel
theorem dX10_write_47 : decode cX10_write 47 = .ok (.getfield 79, 3) := by decide +kernel
theorem dX10_write_50 : decode cX10_write 50 = .ok (.ireturn, 1) := by decide +kernel
theorem dX10_wipe_0 : decode cX10_wipe 0 = .ok (.aload_n 0, 1) := by decide +kernel
theorem dX10_wipe_1 : decode cX10_wipe 1 = .ok (.getfield 79, 3) := by decide +kernel
theorem dX10_wipe_4 : decode cX10_wipe 4 = .ok (.istore_n 1, 1) := by decide +kernel
theorem dX10_wipe_5 : decode cX10_wipe 5 = .ok (.aload_n 0, 1) := by decide +kernel
theorem dX10_wipe_6 : decode cX10_wipe 6 = .ok (.iconst 0, 1) := by decide +kernel
theorem dX10_wipe_7 : decode cX10_wipe 7 = .ok (.putfield 79, 3) := by decide +kernel
theorem dX10_wipe_10 : decode cX10_wipe 10 = .ok (.iload_n 1, 1) := by decide +kernel
theorem dX10_wipe_11 : decode cX10_wipe 11 = .ok (.ireturn, 1) := by decide +kernel
theorem dX10_letterAt_0 : decode cX10_letterAt 0 = .ok (.iload_n 1, 1) := by decide +kernel
theorem dX10_letterAt_1 : decode cX10_letterAt 1 = .ok (.aload_n 0, 1) := by decide +kernel
theorem dX10_letterAt_2 : decode cX10_letterAt 2 = .ok (.getfield 79, 3) := by decide +kernel
theorem dX10_letterAt_5 : decode cX10_letterAt 5 = .ok (.if_icmp .ge 12, 3) := by decide +kernel
theorem dX10_letterAt_8 : decode cX10_letterAt 8 = .ok (.aload_n 0, 1) := by decide +kernel
theorem dX10_letterAt_9 : decode cX10_letterAt 9 = .ok (.getfield 7, 3) := by decide +kernel
theorem dX10_letterAt_12 : decode cX10_letterAt 12 = .ok (.iload_n 1, 1) := by decide +kernel
theorem dX10_letterAt_13 : decode cX10_letterAt 13 = .ok (.iaload, 1) := by decide +kernel
theorem dX10_letterAt_14 : decode cX10_letterAt 14 = .ok (.goto 4, 3) := by decide +kernel
theorem dX10_letterAt_17 : decode cX10_letterAt 17 = .ok (.iconst 0, 1) := by decide +kernel
theorem dX10_letterAt_18 : decode cX10_letterAt 18 = .ok (.ireturn, 1) := by decide +kernel
theorem dX10_isNumber_0 : decode cX10_isNumber 0 = .ok (.iconst 0, 1) := by decide +kernel
theorem dX10_isNumber_1 : decode cX10_isNumber 1 = .ok (.istore 4, 2) := by decide +kernel
theorem dX10_isNumber_3 : decode cX10_isNumber 3 = .ok (.aload_n 0, 1) := by decide +kernel
theorem dX10_isNumber_4 : decode cX10_isNumber 4 = .ok (.iconst 0, 1) := by decide +kernel
theorem dX10_isNumber_5 : decode cX10_isNumber 5 = .ok (.putfield 82, 3) := by decide +kernel
theorem dX10_isNumber_8 : decode cX10_isNumber 8 = .ok (.iload 4, 2) := by decide +kernel
theorem dX10_isNumber_10 : decode cX10_isNumber 10 = .ok (.iconst 2, 1) := by decide +kernel
theorem dX10_isNumber_11 : decode cX10_isNumber 11 = .ok (.if_icmp .ge 60, 3) := by decide +kernel
theorem dX10_isNumber_14 : decode cX10_isNumber 14 = .ok (.aload_n 0, 1) := by decide +kernel
theorem dX10_isNumber_15 : decode cX10_isNumber 15 = .ok (.aload_n 0, 1) := by decide +kernel
theorem dX10_isNumber_16 : decode cX10_isNumber 16 = .ok (.getfield 85, 3) := by decide +kernel
theorem dX10_isNumber_19 : decode cX10_isNumber 19 = .ok (.invokevirtual 88, 3) := by decide +kernel
theorem dX10_isNumber_22 : decode cX10_isNumber 22 = .ok (.bipush 48, 2) := by decide +kernel
theorem dX10_isNumber_24 : decode cX10_isNumber 24 = .ok (.bipush 57, 2) := by decide +kernel
theorem dX10_isNumber_26 : decode cX10_isNumber 26 = .ok (.invokestatic 67, 3) := by decide +kernel
theorem dX10_isNumber_29 : decode cX10_isNumber 29 = .ok (.ifCond .eq 42, 3) := by decide +kernel
theorem dX10_isNumber_32 : decode cX10_isNumber 32 = .ok (.aload_n 0, 1) := by decide +kernel
theorem dX10_isNumber_33 : decode cX10_isNumber 33 = .ok (.bipush 10, 2) := by decide +kernel
theorem dX10_isNumber_35 : decode cX10_isNumber 35 = .ok (.aload_n 0, 1) := by decide +kernel
theorem dX10_isNumber_36 : decode cX10_isNumber 36 = .ok (.getfield 82, 3) := by decide +kernel
theorem dX10_isNumber_39 : decode cX10_isNumber 39 = .ok (.imul, 1) := by decide +kernel
theorem dX10_isNumber_40 : decode cX10_isNumber 40 = .ok (.aload_n 0, 1) := by decide +kernel
theorem dX10_isNumber_41 : decode cX10_isNumber 41 = .ok (.aload_n 0, 1) := by decide +kernel
theorem dX10_isNumber_42 : decode cX10_isNumber 42 = .ok (.getfield 85, 3) := by decide +kernel
theorem dX10_isNumber_45 : decode cX10_isNumber 45 = .ok (.invokevirtual 88, 3) := by decide +kernel
theorem dX10_isNumber_48 : decode cX10_isNumber 48 = .ok (.iadd, 1) := by decide +kernel
theorem dX10_isNumber_49 : decode cX10_isNumber 49 = .ok (.bipush 48, 2) := by decide +kernel
theorem dX10_isNumber_51 : decode cX10_isNumber 51 = .ok (.isub, 1) := by decide +kernel
theorem dX10_isNumber_52 : decode cX10_isNumber 52 = .ok (.putfield 82, 3) := by decide +kernel
theorem dX10_isNumber_55 : decode cX10_isNumber 55 = .ok (.aload_n 0, 1) := by decide +kernel
theorem dX10_isNumber_56 : decode cX10_isNumber 56 = .ok (.dup, 1) := by decide +kernel
theorem dX10_isNumber_57 : decode cX10_isNumber 57 = .ok (.getfield 85, 3) := by decide +kernel
theorem dX10_isNumber_60 : decode cX10_isNumber 60 = .ok (.iconst 1, 1) := by decide +kernel
theorem dX10_isNumber_61 : decode cX10_isNumber 61 = .ok (.iadd, 1) := by decide +kernel
theorem dX10_isNumber_62 : decode cX10_isNumber 62 = .ok (.putfield 85, 3) := by decide +kernel
theorem dX10_isNumber_65 : decode cX10_isNumber 65 = .ok (.iinc 4 1, 3) := by decide +kernel
theorem dX10_isNumber_68 : decode cX10_isNumber 68 = .ok (.goto (-60), 3) := by decide +kernel
theorem dX10_isNumber_71 : decode cX10_isNumber 71 = .ok (.iload 4, 2) := by decide +kernel
theorem dX10_isNumber_73 : decode cX10_isNumber 73 = .ok (.ifCond .eq 27, 3) := by decide +kernel
theorem dX10_isNumber_76 : decode cX10_isNumber 76 = .ok (.aload_n 0, 1) := by decide +kernel
theorem dX10_isNumber_77 : decode cX10_isNumber 77 = .ok (.getfield 82, 3) := by decide +kernel
theorem dX10_isNumber_80 : decode cX10_isNumber 80 = .ok (.iload_n 1, 1) := by decide +kernel
theorem dX10_isNumber_81 : decode cX10_isNumber 81 = .ok (.iload_n 2, 1) := by decide +kernel
theorem dX10_isNumber_82 : decode cX10_isNumber 82 = .ok (.invokestatic 67, 3) := by decide +kernel
theorem dX10_isNumber_85 : decode cX10_isNumber 85 = .ok (.ifCond .eq 15, 3) := by decide +kernel
theorem dX10_isNumber_88 : decode cX10_isNumber 88 = .ok (.aload_n 0, 1) := by decide +kernel
theorem dX10_isNumber_89 : decode cX10_isNumber 89 = .ok (.aload_n 0, 1) := by decide +kernel
theorem dX10_isNumber_90 : decode cX10_isNumber 90 = .ok (.getfield 85, 3) := by decide +kernel
theorem dX10_isNumber_93 : decode cX10_isNumber 93 = .ok (.invokevirtual 88, 3) := by decide +kernel
theorem dX10_isNumber_96 : decode cX10_isNumber 96 = .ok (.iload_n 3, 1) := by decide +kernel
theorem dX10_isNumber_97 : decode cX10_isNumber 97 = .ok (.if_icmp .eq 5, 3) := by decide +kernel
theorem dX10_isNumber_100 : decode cX10_isNumber 100 = .ok (.iconst 0, 1) := by decide +kernel
theorem dX10_isNumber_101 : decode cX10_isNumber 101 = .ok (.ireturn, 1) := by decide +kernel
theorem dX10_isNumber_102 : decode cX10_isNumber 102 = .ok (.aload_n 0, 1) := by decide +kernel
theorem dX10_isNumber_103 : decode cX10_isNumber 103 = .ok (.dup, 1) := by decide +kernel
theorem dX10_isNumber_104 : decode cX10_isNumber 104 = .ok (.getfield 85, 3) := by decide +kernel
theorem dX10_isNumber_107 : decode cX10_isNumber 107 = .ok (.iconst 1, 1) := by decide +kernel
theorem dX10_isNumber_108 : decode cX10_isNumber 108 = .ok (.iadd, 1) := by decide +kernel
theorem dX10_isNumber_109 : decode cX10_isNumber 109 = .ok (.putfield 85, 3) := by decide +kernel
theorem dX10_isNumber_112 : decode cX10_isNumber 112 = .ok (.iconst 1, 1) := by decide +kernel
theorem dX10_isNumber_113 : decode cX10_isNumber 113 = .ok (.ireturn, 1) := by decide +kernel
theorem dX10_least_0 : decode cX10_least 0 = .ok (.iload_n 1, 1) := by decide +kernel
theorem dX10_least_1 : decode cX10_least 1 = .ok (.bipush 115, 2) := by decide +kernel
theorem dX10_least_3 : decode cX10_least 3 = .ok (.if_icmp .ne 8, 3) := by decide +kernel
theorem dX10_least_6 : decode cX10_least 6 = .ok (.iload_n 2, 1) := by decide +kernel
theorem dX10_least_7 : decode cX10_least 7 = .ok (.iconst 2, 1) := by decide +kernel
theorem dX10_least_8 : decode cX10_least 8 = .ok (.if_icmp .eq 20, 3) := by decide +kernel
theorem dX10_least_11 : decode cX10_least 11 = .ok (.iload_n 1, 1) := by decide +kernel
theorem dX10_least_12 : decode cX10_least 12 = .ok (.bipush 99, 2) := by decide +kernel
theorem dX10_least_14 : decode cX10_least 14 = .ok (.if_icmp .ne 8, 3) := by decide +kernel
theorem dX10_least_17 : decode cX10_least 17 = .ok (.iload_n 2, 1) := by decide +kernel
theorem dX10_least_18 : decode cX10_least 18 = .ok (.iconst 3, 1) := by decide +kernel
theorem dX10_least_19 : decode cX10_least 19 = .ok (.if_icmp .eq 9, 3) := by decide +kernel
theorem dX10_least_22 : decode cX10_least 22 = .ok (.iload_n 1, 1) := by decide +kernel
theorem dX10_least_23 : decode cX10_least 23 = .ok (.bipush 104, 2) := by decide +kernel
theorem dX10_least_25 : decode cX10_least 25 = .ok (.if_icmp .ne 7, 3) := by decide +kernel
theorem dX10_least_28 : decode cX10_least 28 = .ok (.iconst 1, 1) := by decide +kernel
theorem dX10_least_29 : decode cX10_least 29 = .ok (.goto 4, 3) := by decide +kernel
theorem dX10_least_32 : decode cX10_least 32 = .ok (.iconst 0, 1) := by decide +kernel
theorem dX10_least_33 : decode cX10_least 33 = .ok (.ireturn, 1) := by decide +kernel
theorem dX10_most_0 : decode cX10_most 0 = .ok (.iload_n 1, 1) := by decide +kernel
theorem dX10_most_1 : decode cX10_most 1 = .ok (.bipush 115, 2) := by decide +kernel
theorem dX10_most_3 : decode cX10_most 3 = .ok (.if_icmp .ne 33, 3) := by decide +kernel
theorem dX10_most_6 : decode cX10_most 6 = .ok (.iload_n 2, 1) := by decide +kernel
theorem dX10_most_7 : decode cX10_most 7 = .ok (.ifCond .ne 7, 3) := by decide +kernel
theorem dX10_most_10 : decode cX10_most 10 = .ok (.iconst 3, 1) := by decide +kernel
theorem dX10_most_11 : decode cX10_most 11 = .ok (.goto 24, 3) := by decide +kernel
theorem dX10_most_14 : decode cX10_most 14 = .ok (.iload_n 2, 1) := by decide +kernel
theorem dX10_most_15 : decode cX10_most 15 = .ok (.iconst 1, 1) := by decide +kernel
theorem dX10_most_16 : decode cX10_most 16 = .ok (.if_icmp .ne 7, 3) := by decide +kernel
theorem dX10_most_19 : decode cX10_most 19 = .ok (.iconst 5, 1) := by decide +kernel
theorem dX10_most_20 : decode cX10_most 20 = .ok (.goto 15, 3) := by decide +kernel
theorem dX10_most_23 : decode cX10_most 23 = .ok (.iload_n 2, 1) := by decide +kernel
theorem dX10_most_24 : decode cX10_most 24 = .ok (.iconst 2, 1) := by decide +kernel
theorem dX10_most_25 : decode cX10_most 25 = .ok (.if_icmp .ne 8, 3) := by decide +kernel
theorem dX10_most_28 : decode cX10_most 28 = .ok (.bipush 10, 2) := by decide +kernel
theorem dX10_most_30 : decode cX10_most 30 = .ok (.goto 5, 3) := by decide +kernel
theorem dX10_most_33 : decode cX10_most 33 = .ok (.bipush 9, 2) := by decide +kernel
theorem dX10_most_35 : decode cX10_most 35 = .ok (.ireturn, 1) := by decide +kernel
theorem dX10_most_36 : decode cX10_most 36 = .ok (.iload_n 1, 1) := by decide +kernel
theorem dX10_most_37 : decode cX10_most 37 = .ok (.bipush 113, 2) := by decide +kernel
theorem dX10_most_39 : decode cX10_most 39 = .ok (.if_icmp .ne 10, 3) := by decide +kernel
theorem dX10_most_42 : decode cX10_most 42 = .ok (.aload_n 0, 1) := by decide +kernel
theorem dX10_most_43 : decode cX10_most 43 = .ok (.getfield 91, 3) := by decide +kernel
theorem dX10_most_46 : decode cX10_most 46 = .ok (.iconst 1, 1) := by decide +kernel
theorem dX10_most_47 : decode cX10_most 47 = .ok (.isub, 1) := by decide +kernel
theorem dX10_most_48 : decode cX10_most 48 = .ok (.ireturn, 1) := by decide +kernel
theorem dX10_most_49 : decode cX10_most 49 = .ok (.iload_n 1, 1) := by decide +kernel
theorem dX10_most_50 : decode cX10_most 50 = .ok (.bipush 104, 2) := by decide +kernel
theorem dX10_most_52 : decode cX10_most 52 = .ok (.if_icmp .ne 6, 3) := by decide +kernel
theorem dX10_most_55 : decode cX10_most 55 = .ok (.bipush 10, 2) := by decide +kernel
theorem dX10_most_57 : decode cX10_most 57 = .ok (.ireturn, 1) := by decide +kernel
theorem dX10_most_58 : decode cX10_most 58 = .ok (.iload_n 2, 1) := by decide +kernel
theorem dX10_most_59 : decode cX10_most 59 = .ok (.ifCond .ne 8, 3) := by decide +kernel
theorem dX10_most_62 : decode cX10_most 62 = .ok (.bipush 13, 2) := by decide +kernel
theorem dX10_most_64 : decode cX10_most 64 = .ok (.goto 23, 3) := by decide +kernel
theorem dX10_most_67 : decode cX10_most 67 = .ok (.iload_n 2, 1) := by decide +kernel
theorem dX10_most_68 : decode cX10_most 68 = .ok (.iconst 1, 1) := by decide +kernel
theorem dX10_most_69 : decode cX10_most 69 = .ok (.if_icmp .ne 7, 3) := by decide +kernel
theorem dX10_most_72 : decode cX10_most 72 = .ok (.iconst 5, 1) := by decide +kernel
theorem dX10_most_73 : decode cX10_most 73 = .ok (.goto 14, 3) := by decide +kernel
theorem dX10_most_76 : decode cX10_most 76 = .ok (.iload_n 2, 1) := by decide +kernel
theorem dX10_most_77 : decode cX10_most 77 = .ok (.iconst 2, 1) := by decide +kernel
theorem dX10_most_78 : decode cX10_most 78 = .ok (.if_icmp .ne 7, 3) := by decide +kernel
theorem dX10_most_81 : decode cX10_most 81 = .ok (.iconst 3, 1) := by decide +kernel
theorem dX10_most_82 : decode cX10_most 82 = .ok (.goto 5, 3) := by decide +kernel
theorem dX10_most_85 : decode cX10_most 85 = .ok (.bipush 60, 2) := by decide +kernel
theorem dX10_most_87 : decode cX10_most 87 = .ok (.ireturn, 1) := by decide +kernel
theorem dX10_isItem_0 : decode cX10_isItem 0 = .ok (.aload_n 0, 1) := by decide +kernel
theorem dX10_isItem_1 : decode cX10_isItem 1 = .ok (.aload_n 0, 1) := by decide +kernel
theorem dX10_isItem_2 : decode cX10_isItem 2 = .ok (.getfield 85, 3) := by decide +kernel
theorem dX10_isItem_5 : decode cX10_isItem 5 = .ok (.invokevirtual 88, 3) := by decide +kernel
theorem dX10_isItem_8 : decode cX10_isItem 8 = .ok (.istore_n 1, 1) := by decide +kernel
theorem dX10_isItem_9 : decode cX10_isItem 9 = .ok (.iload_n 1, 1) := by decide +kernel
theorem dX10_isItem_10 : decode cX10_isItem 10 = .ok (.bipush 115, 2) := by decide +kernel
theorem dX10_isItem_12 : decode cX10_isItem 12 = .ok (.if_icmp .eq 9, 3) := by decide +kernel
theorem dX10_isItem_15 : decode cX10_isItem 15 = .ok (.iload_n 1, 1) := by decide +kernel
theorem dX10_isItem_16 : decode cX10_isItem 16 = .ok (.bipush 99, 2) := by decide +kernel
theorem dX10_isItem_18 : decode cX10_isItem 18 = .ok (.if_icmp .ne 7, 3) := by decide +kernel
theorem dX10_isItem_21 : decode cX10_isItem 21 = .ok (.iconst 4, 1) := by decide +kernel
theorem dX10_isItem_22 : decode cX10_isItem 22 = .ok (.goto 24, 3) := by decide +kernel
theorem dX10_isItem_25 : decode cX10_isItem 25 = .ok (.iload_n 1, 1) := by decide +kernel
theorem dX10_isItem_26 : decode cX10_isItem 26 = .ok (.bipush 113, 2) := by decide +kernel
theorem dX10_isItem_28 : decode cX10_isItem 28 = .ok (.if_icmp .ne 7, 3) := by decide +kernel
theorem dX10_isItem_31 : decode cX10_isItem 31 = .ok (.iconst 2, 1) := by decide +kernel
theorem dX10_isItem_32 : decode cX10_isItem 32 = .ok (.goto 14, 3) := by decide +kernel
theorem dX10_isItem_35 : decode cX10_isItem 35 = .ok (.iload_n 1, 1) := by decide +kernel
theorem dX10_isItem_36 : decode cX10_isItem 36 = .ok (.bipush 104, 2) := by decide +kernel
theorem dX10_isItem_38 : decode cX10_isItem 38 = .ok (.if_icmp .ne 7, 3) := by decide +kernel
theorem dX10_isItem_41 : decode cX10_isItem 41 = .ok (.iconst 1, 1) := by decide +kernel
theorem dX10_isItem_42 : decode cX10_isItem 42 = .ok (.goto 4, 3) := by decide +kernel
theorem dX10_isItem_45 : decode cX10_isItem 45 = .ok (.iconst 0, 1) := by decide +kernel
theorem dX10_isItem_46 : decode cX10_isItem 46 = .ok (.istore_n 2, 1) := by decide +kernel
theorem dX10_isItem_47 : decode cX10_isItem 47 = .ok (.iload_n 1, 1) := by decide +kernel
theorem dX10_isItem_48 : decode cX10_isItem 48 = .ok (.bipush 115, 2) := by decide +kernel
theorem dX10_isItem_50 : decode cX10_isItem 50 = .ok (.if_icmp .ne 20, 3) := by decide +kernel
theorem dX10_isItem_53 : decode cX10_isItem 53 = .ok (.aload_n 0, 1) := by decide +kernel
theorem dX10_isItem_54 : decode cX10_isItem 54 = .ok (.getfield 91, 3) := by decide +kernel
theorem dX10_isItem_57 : decode cX10_isItem 57 = .ok (.bipush 6, 2) := by decide +kernel
theorem dX10_isItem_59 : decode cX10_isItem 59 = .ok (.if_icmp .ge 7, 3) := by decide +kernel
theorem dX10_isItem_62 : decode cX10_isItem 62 = .ok (.iconst 1, 1) := by decide +kernel
theorem dX10_isItem_63 : decode cX10_isItem 63 = .ok (.goto 27, 3) := by decide +kernel
theorem dX10_isItem_66 : decode cX10_isItem 66 = .ok (.iconst 0, 1) := by decide +kernel
theorem dX10_isItem_67 : decode cX10_isItem 67 = .ok (.goto 23, 3) := by decide +kernel
theorem dX10_isItem_70 : decode cX10_isItem 70 = .ok (.iload_n 1, 1) := by decide +kernel
theorem dX10_isItem_71 : decode cX10_isItem 71 = .ok (.bipush 99, 2) := by decide +kernel
theorem dX10_isItem_73 : decode cX10_isItem 73 = .ok (.if_icmp .ne 12, 3) := by decide +kernel
theorem dX10_isItem_76 : decode cX10_isItem 76 = .ok (.aload_n 0, 1) := by decide +kernel
theorem dX10_isItem_77 : decode cX10_isItem 77 = .ok (.getfield 94, 3) := by decide +kernel
theorem dX10_isItem_80 : decode cX10_isItem 80 = .ok (.bipush 10, 2) := by decide +kernel
theorem dX10_isItem_82 : decode cX10_isItem 82 = .ok (.if_icmp .ge 7, 3) := by decide +kernel
theorem dX10_isItem_85 : decode cX10_isItem 85 = .ok (.iconst 1, 1) := by decide +kernel
theorem dX10_isItem_86 : decode cX10_isItem 86 = .ok (.goto 4, 3) := by decide +kernel
theorem dX10_isItem_89 : decode cX10_isItem 89 = .ok (.iconst 0, 1) := by decide +kernel
theorem dX10_isItem_90 : decode cX10_isItem 90 = .ok (.istore_n 3, 1) := by decide +kernel
theorem dX10_isItem_91 : decode cX10_isItem 91 = .ok (.iload_n 2, 1) := by decide +kernel
theorem dX10_isItem_92 : decode cX10_isItem 92 = .ok (.ifCond .eq 7, 3) := by decide +kernel
theorem dX10_isItem_95 : decode cX10_isItem 95 = .ok (.iload_n 3, 1) := by decide +kernel
theorem dX10_isItem_96 : decode cX10_isItem 96 = .ok (.ifCond .ne 5, 3) := by decide +kernel
theorem dX10_isItem_99 : decode cX10_isItem 99 = .ok (.iconst 0, 1) := by decide +kernel
theorem dX10_isItem_100 : decode cX10_isItem 100 = .ok (.ireturn, 1) := by decide +kernel
theorem dX10_isItem_101 : decode cX10_isItem 101 = .ok (.aload_n 0, 1) := by decide +kernel
theorem dX10_isItem_102 : decode cX10_isItem 102 = .ok (.dup, 1) := by decide +kernel
theorem dX10_isItem_103 : decode cX10_isItem 103 = .ok (.getfield 85, 3) := by decide +kernel
theorem dX10_isItem_106 : decode cX10_isItem 106 = .ok (.iconst 1, 1) := by decide +kernel
theorem dX10_isItem_107 : decode cX10_isItem 107 = .ok (.iadd, 1) := by decide +kernel
theorem dX10_isItem_108 : decode cX10_isItem 108 = .ok (.putfield 85, 3) := by decide +kernel
theorem dX10_isItem_111 : decode cX10_isItem 111 = .ok (.iconst 0, 1) := by decide +kernel
theorem dX10_isItem_112 : decode cX10_isItem 112 = .ok (.istore 4, 2) := by decide +kernel
theorem dX10_isItem_114 : decode cX10_isItem 114 = .ok (.iconst 0, 1) := by decide +kernel
theorem dX10_isItem_115 : decode cX10_isItem 115 = .ok (.istore 5, 2) := by decide +kernel
theorem dX10_isItem_117 : decode cX10_isItem 117 = .ok (.iload 5, 2) := by decide +kernel
theorem dX10_isItem_119 : decode cX10_isItem 119 = .ok (.iload_n 2, 1) := by decide +kernel
theorem dX10_isItem_120 : decode cX10_isItem 120 = .ok (.if_icmp .ge 114, 3) := by decide +kernel
theorem dX10_isItem_123 : decode cX10_isItem 123 = .ok (.aload_n 0, 1) := by decide +kernel
theorem dX10_isItem_124 : decode cX10_isItem 124 = .ok (.aload_n 0, 1) := by decide +kernel
theorem dX10_isItem_125 : decode cX10_isItem 125 = .ok (.iload_n 1, 1) := by decide +kernel
theorem dX10_isItem_126 : decode cX10_isItem 126 = .ok (.iload 5, 2) := by decide +kernel
theorem dX10_isItem_128 : decode cX10_isItem 128 = .ok (.invokevirtual 97, 3) := by decide +kernel
theorem dX10_isItem_131 : decode cX10_isItem 131 = .ok (.aload_n 0, 1) := by decide +kernel
theorem dX10_isItem_132 : decode cX10_isItem 132 = .ok (.iload_n 1, 1) := by decide +kernel
theorem dX10_isItem_133 : decode cX10_isItem 133 = .ok (.iload 5, 2) := by decide +kernel
theorem dX10_isItem_135 : decode cX10_isItem 135 = .ok (.invokevirtual 101, 3) := by decide +kernel
theorem dX10_isItem_138 : decode cX10_isItem 138 = .ok (.iload 5, 2) := by decide +kernel
theorem dX10_isItem_140 : decode cX10_isItem 140 = .ok (.iload_n 2, 1) := by decide +kernel
theorem dX10_isItem_141 : decode cX10_isItem 141 = .ok (.iconst 1, 1) := by decide +kernel
theorem dX10_isItem_142 : decode cX10_isItem 142 = .ok (.isub, 1) := by decide +kernel
theorem dX10_isItem_143 : decode cX10_isItem 143 = .ok (.if_icmp .ne 8, 3) := by decide +kernel
theorem dX10_isItem_146 : decode cX10_isItem 146 = .ok (.bipush 59, 2) := by decide +kernel
theorem dX10_isItem_148 : decode cX10_isItem 148 = .ok (.goto 5, 3) := by decide +kernel
theorem dX10_isItem_151 : decode cX10_isItem 151 = .ok (.bipush 44, 2) := by decide +kernel
theorem dX10_isItem_153 : decode cX10_isItem 153 = .ok (.invokevirtual 104, 3) := by decide +kernel
theorem dX10_isItem_156 : decode cX10_isItem 156 = .ok (.ifCond .ne 5, 3) := by decide +kernel
theorem dX10_isItem_159 : decode cX10_isItem 159 = .ok (.iconst 0, 1) := by decide +kernel
theorem dX10_isItem_160 : decode cX10_isItem 160 = .ok (.ireturn, 1) := by decide +kernel
theorem dX10_isItem_161 : decode cX10_isItem 161 = .ok (.iload_n 1, 1) := by decide +kernel
theorem dX10_isItem_162 : decode cX10_isItem 162 = .ok (.bipush 115, 2) := by decide +kernel
theorem dX10_isItem_164 : decode cX10_isItem 164 = .ok (.if_icmp .ne 24, 3) := by decide +kernel
theorem dX10_isItem_167 : decode cX10_isItem 167 = .ok (.aload_n 0, 1) := by decide +kernel
theorem dX10_isItem_168 : decode cX10_isItem 168 = .ok (.getfield 13, 3) := by decide +kernel
theorem dX10_isItem_171 : decode cX10_isItem 171 = .ok (.iconst 4, 1) := by decide +kernel
theorem dX10_isItem_172 : decode cX10_isItem 172 = .ok (.aload_n 0, 1) := by decide +kernel
theorem dX10_isItem_173 : decode cX10_isItem 173 = .ok (.getfield 91, 3) := by decide +kernel
theorem dX10_isItem_176 : decode cX10_isItem 176 = .ok (.imul, 1) := by decide +kernel
theorem dX10_isItem_177 : decode cX10_isItem 177 = .ok (.iload 5, 2) := by decide +kernel
theorem dX10_isItem_179 : decode cX10_isItem 179 = .ok (.iadd, 1) := by decide +kernel
theorem dX10_isItem_180 : decode cX10_isItem 180 = .ok (.aload_n 0, 1) := by decide +kernel
theorem dX10_isItem_181 : decode cX10_isItem 181 = .ok (.getfield 82, 3) := by decide +kernel
theorem dX10_isItem_184 : decode cX10_isItem 184 = .ok (.iastore, 1) := by decide +kernel
theorem dX10_isItem_185 : decode cX10_isItem 185 = .ok (.goto 27, 3) := by decide +kernel
theorem dX10_isItem_188 : decode cX10_isItem 188 = .ok (.iload_n 1, 1) := by decide +kernel
theorem dX10_isItem_189 : decode cX10_isItem 189 = .ok (.bipush 99, 2) := by decide +kernel
theorem dX10_isItem_191 : decode cX10_isItem 191 = .ok (.if_icmp .ne 21, 3) := by decide +kernel
theorem dX10_isItem_194 : decode cX10_isItem 194 = .ok (.aload_n 0, 1) := by decide +kernel
theorem dX10_isItem_195 : decode cX10_isItem 195 = .ok (.getfield 16, 3) := by decide +kernel
theorem dX10_isItem_198 : decode cX10_isItem 198 = .ok (.iconst 4, 1) := by decide +kernel
theorem dX10_isItem_199 : decode cX10_isItem 199 = .ok (.aload_n 0, 1) := by decide +kernel
theorem dX10_isItem_200 : decode cX10_isItem 200 = .ok (.getfield 94, 3) := by decide +kernel
theorem dX10_isItem_203 : decode cX10_isItem 203 = .ok (.imul, 1) := by decide +kernel
theorem dX10_isItem_204 : decode cX10_isItem 204 = .ok (.iload 5, 2) := by decide +kernel
theorem dX10_isItem_206 : decode cX10_isItem 206 = .ok (.iadd, 1) := by decide +kernel
theorem dX10_isItem_207 : decode cX10_isItem 207 = .ok (.aload_n 0, 1) := by decide +kernel
theorem dX10_isItem_208 : decode cX10_isItem 208 = .ok (.getfield 82, 3) := by decide +kernel
theorem dX10_isItem_211 : decode cX10_isItem 211 = .ok (.iastore, 1) := by decide +kernel
theorem dX10_isItem_212 : decode cX10_isItem 212 = .ok (.iload 5, 2) := by decide +kernel
theorem dX10_isItem_214 : decode cX10_isItem 214 = .ok (.ifCond .ne 10, 3) := by decide +kernel
theorem dX10_isItem_217 : decode cX10_isItem 217 = .ok (.aload_n 0, 1) := by decide +kernel
theorem dX10_isItem_218 : decode cX10_isItem 218 = .ok (.getfield 82, 3) := by decide +kernel
theorem dX10_isItem_221 : decode cX10_isItem 221 = .ok (.goto 5, 3) := by decide +kernel
theorem dX10_isItem_224 : decode cX10_isItem 224 = .ok (.iload 4, 2) := by decide +kernel
theorem dX10_isItem_226 : decode cX10_isItem 226 = .ok (.istore 4, 2) := by decide +kernel
theorem dX10_isItem_228 : decode cX10_isItem 228 = .ok (.iinc 5 1, 3) := by decide +kernel
theorem dX10_isItem_231 : decode cX10_isItem 231 = .ok (.goto (-114), 3) := by decide +kernel
theorem dX10_isItem_234 : decode cX10_isItem 234 = .ok (.iload_n 1, 1) := by decide +kernel
theorem dX10_isItem_235 : decode cX10_isItem 235 = .ok (.bipush 113, 2) := by decide +kernel
theorem dX10_isItem_237 : decode cX10_isItem 237 = .ok (.if_icmp .ne 58, 3) := by decide +kernel
theorem dX10_isItem_240 : decode cX10_isItem 240 = .ok (.iload 4, 2) := by decide +kernel
theorem dX10_isItem_242 : decode cX10_isItem 242 = .ok (.aload_n 0, 1) := by decide +kernel
theorem dX10_isItem_243 : decode cX10_isItem 243 = .ok (.getfield 82, 3) := by decide +kernel
theorem dX10_isItem_246 : decode cX10_isItem 246 = .ok (.if_icmp .eq 33, 3) := by decide +kernel
theorem dX10_isItem_249 : decode cX10_isItem 249 = .ok (.aload_n 0, 1) := by decide +kernel
theorem dX10_isItem_250 : decode cX10_isItem 250 = .ok (.getfield 19, 3) := by decide +kernel
theorem dX10_isItem_253 : decode cX10_isItem 253 = .ok (.iload 4, 2) := by decide +kernel
theorem dX10_isItem_255 : decode cX10_isItem 255 = .ok (.iaload, 1) := by decide +kernel
theorem dX10_isItem_256 : decode cX10_isItem 256 = .ok (.aload_n 0, 1) := by decide +kernel
theorem dX10_isItem_257 : decode cX10_isItem 257 = .ok (.getfield 82, 3) := by decide +kernel
theorem dX10_isItem_260 : decode cX10_isItem 260 = .ok (.invokestatic 107, 3) := by decide +kernel
theorem dX10_isItem_263 : decode cX10_isItem 263 = .ok (.ifCond .ne 18, 3) := by decide +kernel
theorem dX10_isItem_266 : decode cX10_isItem 266 = .ok (.aload_n 0, 1) := by decide +kernel
theorem dX10_isItem_267 : decode cX10_isItem 267 = .ok (.getfield 19, 3) := by decide +kernel
theorem dX10_isItem_270 : decode cX10_isItem 270 = .ok (.iconst 0, 1) := by decide +kernel
theorem dX10_isItem_271 : decode cX10_isItem 271 = .ok (.invokestatic 111, 3) := by decide +kernel
theorem dX10_isItem_274 : decode cX10_isItem 274 = .ok (.bipush 6, 2) := by decide +kernel
theorem dX10_isItem_276 : decode cX10_isItem 276 = .ok (.if_icmp .ne 5, 3) := by decide +kernel
theorem dX10_isItem_279 : decode cX10_isItem 279 = .ok (.iconst 0, 1) := by decide +kernel
theorem dX10_isItem_280 : decode cX10_isItem 280 = .ok (.ireturn, 1) := by decide +kernel
theorem dX10_isItem_281 : decode cX10_isItem 281 = .ok (.aload_n 0, 1) := by decide +kernel
theorem dX10_isItem_282 : decode cX10_isItem 282 = .ok (.getfield 19, 3) := by decide +kernel
theorem dX10_isItem_285 : decode cX10_isItem 285 = .ok (.iconst 0, 1) := by decide +kernel
theorem dX10_isItem_286 : decode cX10_isItem 286 = .ok (.iload 4, 2) := by decide +kernel
theorem dX10_isItem_288 : decode cX10_isItem 288 = .ok (.aload_n 0, 1) := by decide +kernel
theorem dX10_isItem_289 : decode cX10_isItem 289 = .ok (.getfield 82, 3) := by decide +kernel
theorem dX10_isItem_292 : decode cX10_isItem 292 = .ok (.invokestatic 54, 3) := by decide +kernel
theorem dX10_isItem_295 : decode cX10_isItem 295 = .ok (.aload_n 0, 1) := by decide +kernel
theorem dX10_isItem_296 : decode cX10_isItem 296 = .ok (.dup, 1) := by decide +kernel
theorem dX10_isItem_297 : decode cX10_isItem 297 = .ok (.getfield 91, 3) := by decide +kernel
theorem dX10_isItem_300 : decode cX10_isItem 300 = .ok (.iload_n 1, 1) := by decide +kernel
theorem dX10_isItem_301 : decode cX10_isItem 301 = .ok (.bipush 115, 2) := by decide +kernel
theorem dX10_isItem_303 : decode cX10_isItem 303 = .ok (.if_icmp .ne 7, 3) := by decide +kernel
theorem dX10_isItem_306 : decode cX10_isItem 306 = .ok (.iconst 1, 1) := by decide +kernel
theorem dX10_isItem_307 : decode cX10_isItem 307 = .ok (.goto 4, 3) := by decide +kernel
theorem dX10_isItem_310 : decode cX10_isItem 310 = .ok (.iconst 0, 1) := by decide +kernel
theorem dX10_isItem_311 : decode cX10_isItem 311 = .ok (.iadd, 1) := by decide +kernel
theorem dX10_isItem_312 : decode cX10_isItem 312 = .ok (.putfield 91, 3) := by decide +kernel
theorem dX10_isItem_315 : decode cX10_isItem 315 = .ok (.aload_n 0, 1) := by decide +kernel
theorem dX10_isItem_316 : decode cX10_isItem 316 = .ok (.dup, 1) := by decide +kernel
theorem dX10_isItem_317 : decode cX10_isItem 317 = .ok (.getfield 94, 3) := by decide +kernel
theorem dX10_isItem_320 : decode cX10_isItem 320 = .ok (.iload_n 1, 1) := by decide +kernel
theorem dX10_isItem_321 : decode cX10_isItem 321 = .ok (.bipush 99, 2) := by decide +kernel
theorem dX10_isItem_323 : decode cX10_isItem 323 = .ok (.if_icmp .ne 7, 3) := by decide +kernel
theorem dX10_isItem_326 : decode cX10_isItem 326 = .ok (.iconst 1, 1) := by decide +kernel
theorem dX10_isItem_327 : decode cX10_isItem 327 = .ok (.goto 4, 3) := by decide +kernel
theorem dX10_isItem_330 : decode cX10_isItem 330 = .ok (.iconst 0, 1) := by decide +kernel
theorem dX10_isItem_331 : decode cX10_isItem 331 = .ok (.iadd, 1) := by decide +kernel
theorem dX10_isItem_332 : decode cX10_isItem 332 = .ok (.putfield 94, 3) := by decide +kernel
theorem dX10_isItem_335 : decode cX10_isItem 335 = .ok (.aload_n 0, 1) := by decide +kernel
theorem dX10_isItem_336 : decode cX10_isItem 336 = .ok (.iload_n 1, 1) := by decide +kernel
theorem dX10_isItem_337 : decode cX10_isItem 337 = .ok (.bipush 104, 2) := by decide +kernel
theorem dX10_isItem_339 : decode cX10_isItem 339 = .ok (.if_icmp .ne 10, 3) := by decide +kernel
theorem dX10_isItem_342 : decode cX10_isItem 342 = .ok (.aload_n 0, 1) := by decide +kernel
theorem dX10_isItem_343 : decode cX10_isItem 343 = .ok (.getfield 82, 3) := by decide +kernel
theorem dX10_isItem_346 : decode cX10_isItem 346 = .ok (.goto 7, 3) := by decide +kernel
theorem dX10_isItem_349 : decode cX10_isItem 349 = .ok (.aload_n 0, 1) := by decide +kernel
theorem dX10_isItem_350 : decode cX10_isItem 350 = .ok (.getfield 115, 3) := by decide +kernel
theorem dX10_isItem_353 : decode cX10_isItem 353 = .ok (.putfield 115, 3) := by decide +kernel
theorem dX10_isItem_356 : decode cX10_isItem 356 = .ok (.iconst 1, 1) := by decide +kernel
theorem dX10_isItem_357 : decode cX10_isItem 357 = .ok (.ireturn, 1) := by decide +kernel
theorem dX10_fault_0 : decode cX10_fault 0 = .ok (.aload_n 0, 1) := by decide +kernel
theorem dX10_fault_1 : decode cX10_fault 1 = .ok (.iconst 0, 1) := by decide +kernel
theorem dX10_fault_2 : decode cX10_fault 2 = .ok (.putfield 85, 3) := by decide +kernel
theorem dX10_fault_5 : decode cX10_fault 5 = .ok (.aload_n 0, 1) := by decide +kernel
theorem dX10_fault_6 : decode cX10_fault 6 = .ok (.iconst 0, 1) := by decide +kernel
theorem dX10_fault_7 : decode cX10_fault 7 = .ok (.putfield 91, 3) := by decide +kernel
theorem dX10_fault_10 : decode cX10_fault 10 = .ok (.aload_n 0, 1) := by decide +kernel
theorem dX10_fault_11 : decode cX10_fault 11 = .ok (.iconst 0, 1) := by decide +kernel
theorem dX10_fault_12 : decode cX10_fault 12 = .ok (.putfield 94, 3) := by decide +kernel
theorem dX10_fault_15 : decode cX10_fault 15 = .ok (.aload_n 0, 1) := by decide +kernel
theorem dX10_fault_16 : decode cX10_fault 16 = .ok (.iconst 0, 1) := by decide +kernel
theorem dX10_fault_17 : decode cX10_fault 17 = .ok (.putfield 115, 3) := by decide +kernel
theorem dX10_fault_20 : decode cX10_fault 20 = .ok (.iconst 0, 1) := by decide +kernel
theorem dX10_fault_21 : decode cX10_fault 21 = .ok (.istore_n 1, 1) := by decide +kernel
theorem dX10_fault_22 : decode cX10_fault 22 = .ok (.iload_n 1, 1) := by decide +kernel
theorem dX10_fault_23 : decode cX10_fault 23 = .ok (.bipush 6, 2) := by decide +kernel
theorem dX10_fault_25 : decode cX10_fault 25 = .ok (.if_icmp .ge 16, 3) := by decide +kernel
theorem dX10_fault_28 : decode cX10_fault 28 = .ok (.aload_n 0, 1) := by decide +kernel
theorem dX10_fault_29 : decode cX10_fault 29 = .ok (.getfield 19, 3) := by decide +kernel
theorem dX10_fault_32 : decode cX10_fault 32 = .ok (.iload_n 1, 1) := by decide +kernel
theorem dX10_fault_33 : decode cX10_fault 33 = .ok (.iconst 0, 1) := by decide +kernel
theorem dX10_fault_34 : decode cX10_fault 34 = .ok (.iastore, 1) := by decide +kernel
theorem dX10_fault_35 : decode cX10_fault 35 = .ok (.iinc 1 1, 3) := by decide +kernel
theorem dX10_fault_38 : decode cX10_fault 38 = .ok (.goto (-16), 3) := by decide +kernel
theorem dX10_fault_41 : decode cX10_fault 41 = .ok (.aload_n 0, 1) := by decide +kernel
theorem dX10_fault_42 : decode cX10_fault 42 = .ok (.getfield 85, 3) := by decide +kernel
theorem dX10_fault_45 : decode cX10_fault 45 = .ok (.aload_n 0, 1) := by decide +kernel
theorem dX10_fault_46 : decode cX10_fault 46 = .ok (.getfield 79, 3) := by decide +kernel
theorem dX10_fault_49 : decode cX10_fault 49 = .ok (.if_icmp .ge 20, 3) := by decide +kernel
theorem dX10_fault_52 : decode cX10_fault 52 = .ok (.aload_n 0, 1) := by decide +kernel
theorem dX10_fault_53 : decode cX10_fault 53 = .ok (.getfield 85, 3) := by decide +kernel
theorem dX10_fault_56 : decode cX10_fault 56 = .ok (.istore_n 1, 1) := by decide +kernel
theorem dX10_fault_57 : decode cX10_fault 57 = .ok (.aload_n 0, 1) := by decide +kernel
theorem dX10_fault_58 : decode cX10_fault 58 = .ok (.invokevirtual 118, 3) := by decide +kernel
theorem dX10_fault_61 : decode cX10_fault 61 = .ok (.ifCond .ne 5, 3) := by decide +kernel
theorem dX10_fault_64 : decode cX10_fault 64 = .ok (.iload_n 1, 1) := by decide +kernel
theorem dX10_fault_65 : decode cX10_fault 65 = .ok (.ireturn, 1) := by decide +kernel
theorem dX10_fault_66 : decode cX10_fault 66 = .ok (.goto (-25), 3) := by decide +kernel
theorem dX10_fault_69 : decode cX10_fault 69 = .ok (.bipush (-4), 2) := by decide +kernel
theorem dX10_fault_71 : decode cX10_fault 71 = .ok (.ireturn, 1) := by decide +kernel
theorem dX10_lay_0 : decode cX10_lay 0 = .ok (.aload_n 0, 1) := by decide +kernel
theorem dX10_lay_1 : decode cX10_lay 1 = .ok (.invokevirtual 122, 3) := by decide +kernel
theorem dX10_lay_4 : decode cX10_lay 4 = .ok (.bipush (-4), 2) := by decide +kernel
theorem dX10_lay_6 : decode cX10_lay 6 = .ok (.if_icmp .ne 10, 3) := by decide +kernel
theorem dX10_lay_9 : decode cX10_lay 9 = .ok (.aload_n 0, 1) := by decide +kernel
theorem dX10_lay_10 : decode cX10_lay 10 = .ok (.getfield 91, 3) := by decide +kernel
theorem dX10_lay_13 : decode cX10_lay 13 = .ok (.ifCond .ne 6, 3) := by decide +kernel
theorem dX10_lay_16 : decode cX10_lay 16 = .ok (.bipush (-2), 2) := by decide +kernel
theorem dX10_lay_18 : decode cX10_lay 18 = .ok (.ireturn, 1) := by decide +kernel
theorem dX10_lay_19 : decode cX10_lay 19 = .ok (.aload_n 0, 1) := by decide +kernel
theorem dX10_lay_20 : decode cX10_lay 20 = .ok (.aload_n 0, 1) := by decide +kernel
theorem dX10_lay_21 : decode cX10_lay 21 = .ok (.getfield 91, 3) := by decide +kernel
theorem dX10_lay_24 : decode cX10_lay 24 = .ok (.putfield 50, 3) := by decide +kernel
theorem dX10_lay_27 : decode cX10_lay 27 = .ok (.aload_n 0, 1) := by decide +kernel
theorem dX10_lay_28 : decode cX10_lay 28 = .ok (.aload_n 0, 1) := by decide +kernel
theorem dX10_lay_29 : decode cX10_lay 29 = .ok (.getfield 94, 3) := by decide +kernel
theorem dX10_lay_32 : decode cX10_lay 32 = .ok (.putfield 61, 3) := by decide +kernel
theorem dX10_lay_35 : decode cX10_lay 35 = .ok (.aload_n 0, 1) := by decide +kernel
theorem dX10_lay_36 : decode cX10_lay 36 = .ok (.aload_n 0, 1) := by decide +kernel
theorem dX10_lay_37 : decode cX10_lay 37 = .ok (.getfield 115, 3) := by decide +kernel
theorem dX10_lay_40 : decode cX10_lay 40 = .ok (.putfield 64, 3) := by decide +kernel
theorem dX10_lay_43 : decode cX10_lay 43 = .ok (.aload_n 0, 1) := by decide +kernel
theorem dX10_lay_44 : decode cX10_lay 44 = .ok (.getfield 13, 3) := by decide +kernel
theorem dX10_lay_47 : decode cX10_lay 47 = .ok (.iconst 0, 1) := by decide +kernel
theorem dX10_lay_48 : decode cX10_lay 48 = .ok (.aload_n 0, 1) := by decide +kernel
theorem dX10_lay_49 : decode cX10_lay 49 = .ok (.getfield 22, 3) := by decide +kernel
theorem dX10_lay_52 : decode cX10_lay 52 = .ok (.iconst 0, 1) := by decide +kernel
theorem dX10_lay_53 : decode cX10_lay 53 = .ok (.bipush 24, 2) := by decide +kernel
theorem dX10_lay_55 : decode cX10_lay 55 = .ok (.invokestatic 126, 3) := by decide +kernel
theorem dX10_lay_58 : decode cX10_lay 58 = .ok (.aload_n 0, 1) := by decide +kernel
theorem dX10_lay_59 : decode cX10_lay 59 = .ok (.getfield 16, 3) := by decide +kernel
theorem dX10_lay_62 : decode cX10_lay 62 = .ok (.iconst 0, 1) := by decide +kernel
theorem dX10_lay_63 : decode cX10_lay 63 = .ok (.aload_n 0, 1) := by decide +kernel
theorem dX10_lay_64 : decode cX10_lay 64 = .ok (.getfield 25, 3) := by decide +kernel
theorem dX10_lay_67 : decode cX10_lay 67 = .ok (.iconst 0, 1) := by decide +kernel
theorem dX10_lay_68 : decode cX10_lay 68 = .ok (.bipush 40, 2) := by decide +kernel
theorem dX10_lay_70 : decode cX10_lay 70 = .ok (.invokestatic 126, 3) := by decide +kernel
theorem dX10_lay_73 : decode cX10_lay 73 = .ok (.iconst 0, 1) := by decide +kernel
theorem dX10_lay_74 : decode cX10_lay 74 = .ok (.istore_n 1, 1) := by decide +kernel
theorem dX10_lay_75 : decode cX10_lay 75 = .ok (.iload_n 1, 1) := by decide +kernel
theorem dX10_lay_76 : decode cX10_lay 76 = .ok (.bipush 17, 2) := by decide +kernel
theorem dX10_lay_78 : decode cX10_lay 78 = .ok (.if_icmp .ge 16, 3) := by decide +kernel
theorem dX10_lay_81 : decode cX10_lay 81 = .ok (.aload_n 0, 1) := by decide +kernel
theorem dX10_lay_82 : decode cX10_lay 82 = .ok (.getfield 28, 3) := by decide +kernel
theorem dX10_lay_85 : decode cX10_lay 85 = .ok (.iload_n 1, 1) := by decide +kernel
theorem dX10_lay_86 : decode cX10_lay 86 = .ok (.iconst 0, 1) := by decide +kernel
theorem dX10_lay_87 : decode cX10_lay 87 = .ok (.iastore, 1) := by decide +kernel
theorem dX10_lay_88 : decode cX10_lay 88 = .ok (.iinc 1 1, 3) := by decide +kernel
theorem dX10_lay_91 : decode cX10_lay 91 = .ok (.goto (-16), 3) := by decide +kernel
theorem dX10_lay_94 : decode cX10_lay 94 = .ok (.aload_n 0, 1) := by decide +kernel
theorem dX10_lay_95 : decode cX10_lay 95 = .ok (.getfield 19, 3) := by decide +kernel
theorem dX10_lay_98 : decode cX10_lay 98 = .ok (.iconst 0, 1) := by decide +kernel
theorem dX10_lay_99 : decode cX10_lay 99 = .ok (.aload_n 0, 1) := by decide +kernel
theorem dX10_lay_100 : decode cX10_lay 100 = .ok (.getfield 28, 3) := by decide +kernel
theorem dX10_lay_103 : decode cX10_lay 103 = .ok (.iconst 5, 1) := by decide +kernel
theorem dX10_lay_104 : decode cX10_lay 104 = .ok (.bipush 6, 2) := by decide +kernel
theorem dX10_lay_106 : decode cX10_lay 106 = .ok (.invokestatic 126, 3) := by decide +kernel
theorem dX10_lay_109 : decode cX10_lay 109 = .ok (.aload_n 0, 1) := by decide +kernel
theorem dX10_lay_110 : decode cX10_lay 110 = .ok (.iconst 0, 1) := by decide +kernel
theorem dX10_lay_111 : decode cX10_lay 111 = .ok (.putfield 130, 3) := by decide +kernel
theorem dX10_lay_114 : decode cX10_lay 114 = .ok (.aload_n 0, 1) := by decide +kernel
theorem dX10_lay_115 : decode cX10_lay 115 = .ok (.iconst 0, 1) := by decide +kernel
theorem dX10_lay_116 : decode cX10_lay 116 = .ok (.putfield 133, 3) := by decide +kernel
theorem dX10_lay_119 : decode cX10_lay 119 = .ok (.aload_n 0, 1) := by decide +kernel
theorem dX10_lay_120 : decode cX10_lay 120 = .ok (.iconst 0, 1) := by decide +kernel
theorem dX10_lay_121 : decode cX10_lay 121 = .ok (.putfield 136, 3) := by decide +kernel
theorem dX10_lay_124 : decode cX10_lay 124 = .ok (.aload_n 0, 1) := by decide +kernel
theorem dX10_lay_125 : decode cX10_lay 125 = .ok (.getfield 50, 3) := by decide +kernel
theorem dX10_lay_128 : decode cX10_lay 128 = .ok (.ireturn, 1) := by decide +kernel
theorem dX10_serves_0 : decode cX10_serves 0 = .ok (.aload_n 0, 1) := by decide +kernel
theorem dX10_serves_1 : decode cX10_serves 1 = .ok (.getfield 22, 3) := by decide +kernel
theorem dX10_serves_4 : decode cX10_serves 4 = .ok (.iconst 4, 1) := by decide +kernel
theorem dX10_serves_5 : decode cX10_serves 5 = .ok (.iload_n 1, 1) := by decide +kernel
theorem dX10_serves_6 : decode cX10_serves 6 = .ok (.imul, 1) := by decide +kernel
theorem dX10_serves_7 : decode cX10_serves 7 = .ok (.iconst 1, 1) := by decide +kernel
theorem dX10_serves_8 : decode cX10_serves 8 = .ok (.iadd, 1) := by decide +kernel
theorem dX10_serves_9 : decode cX10_serves 9 = .ok (.iaload, 1) := by decide +kernel
theorem dX10_serves_10 : decode cX10_serves 10 = .ok (.istore_n 3, 1) := by decide +kernel
theorem dX10_serves_11 : decode cX10_serves 11 = .ok (.iload_n 2, 1) := by decide +kernel
theorem dX10_serves_12 : decode cX10_serves 12 = .ok (.iload_n 3, 1) := by decide +kernel
theorem dX10_serves_13 : decode cX10_serves 13 = .ok (.if_icmp .eq 13, 3) := by decide +kernel
theorem dX10_serves_16 : decode cX10_serves 16 = .ok (.iload_n 2, 1) := by decide +kernel
theorem dX10_serves_17 : decode cX10_serves 17 = .ok (.iload_n 3, 1) := by decide +kernel
theorem dX10_serves_18 : decode cX10_serves 18 = .ok (.iconst 1, 1) := by decide +kernel
theorem dX10_serves_19 : decode cX10_serves 19 = .ok (.iadd, 1) := by decide +kernel
theorem dX10_serves_20 : decode cX10_serves 20 = .ok (.bipush 6, 2) := by decide +kernel
theorem dX10_serves_22 : decode cX10_serves 22 = .ok (.irem, 1) := by decide +kernel
theorem dX10_serves_23 : decode cX10_serves 23 = .ok (.if_icmp .ne 7, 3) := by decide +kernel
theorem dX10_serves_26 : decode cX10_serves 26 = .ok (.iconst 1, 1) := by decide +kernel
theorem dX10_serves_27 : decode cX10_serves 27 = .ok (.goto 4, 3) := by decide +kernel
theorem dX10_serves_30 : decode cX10_serves 30 = .ok (.iconst 0, 1) := by decide +kernel
theorem dX10_serves_31 : decode cX10_serves 31 = .ok (.ireturn, 1) := by decide +kernel
theorem dX10_wakes_0 : decode cX10_wakes 0 = .ok (.aload_n 0, 1) := by decide +kernel
theorem dX10_wakes_1 : decode cX10_wakes 1 = .ok (.getfield 22, 3) := by decide +kernel
theorem dX10_wakes_4 : decode cX10_wakes 4 = .ok (.iconst 4, 1) := by decide +kernel
theorem dX10_wakes_5 : decode cX10_wakes 5 = .ok (.iload_n 3, 1) := by decide +kernel
theorem dX10_wakes_6 : decode cX10_wakes 6 = .ok (.imul, 1) := by decide +kernel
theorem dX10_wakes_7 : decode cX10_wakes 7 = .ok (.iaload, 1) := by decide +kernel
theorem dX10_wakes_8 : decode cX10_wakes 8 = .ok (.istore 4, 2) := by decide +kernel
theorem dX10_wakes_10 : decode cX10_wakes 10 = .ok (.iload_n 1, 1) := by decide +kernel
theorem dX10_wakes_11 : decode cX10_wakes 11 = .ok (.iconst 1, 1) := by decide +kernel
theorem dX10_wakes_12 : decode cX10_wakes 12 = .ok (.if_icmp .ne 16, 3) := by decide +kernel
theorem dX10_wakes_15 : decode cX10_wakes 15 = .ok (.iload 4, 2) := by decide +kernel
theorem dX10_wakes_17 : decode cX10_wakes 17 = .ok (.ifCond .ne 7, 3) := by decide +kernel
theorem dX10_wakes_20 : decode cX10_wakes 20 = .ok (.iconst 1, 1) := by decide +kernel
theorem dX10_wakes_21 : decode cX10_wakes 21 = .ok (.goto 53, 3) := by decide +kernel
theorem dX10_wakes_24 : decode cX10_wakes 24 = .ok (.iconst 0, 1) := by decide +kernel
theorem dX10_wakes_25 : decode cX10_wakes 25 = .ok (.goto 49, 3) := by decide +kernel
theorem dX10_wakes_28 : decode cX10_wakes 28 = .ok (.iload_n 1, 1) := by decide +kernel
theorem dX10_wakes_29 : decode cX10_wakes 29 = .ok (.iconst 2, 1) := by decide +kernel
theorem dX10_wakes_30 : decode cX10_wakes 30 = .ok (.if_icmp .ne 17, 3) := by decide +kernel
theorem dX10_wakes_33 : decode cX10_wakes 33 = .ok (.iload 4, 2) := by decide +kernel
theorem dX10_wakes_35 : decode cX10_wakes 35 = .ok (.iconst 3, 1) := by decide +kernel
theorem dX10_wakes_36 : decode cX10_wakes 36 = .ok (.if_icmp .ne 7, 3) := by decide +kernel
theorem dX10_wakes_39 : decode cX10_wakes 39 = .ok (.iconst 1, 1) := by decide +kernel
theorem dX10_wakes_40 : decode cX10_wakes 40 = .ok (.goto 34, 3) := by decide +kernel
theorem dX10_wakes_43 : decode cX10_wakes 43 = .ok (.iconst 0, 1) := by decide +kernel
theorem dX10_wakes_44 : decode cX10_wakes 44 = .ok (.goto 30, 3) := by decide +kernel
theorem dX10_wakes_47 : decode cX10_wakes 47 = .ok (.iload_n 1, 1) := by decide +kernel
theorem dX10_wakes_48 : decode cX10_wakes 48 = .ok (.ifCond .ne 25, 3) := by decide +kernel
theorem dX10_wakes_51 : decode cX10_wakes 51 = .ok (.iload 4, 2) := by decide +kernel
theorem dX10_wakes_53 : decode cX10_wakes 53 = .ok (.iconst 2, 1) := by decide +kernel
theorem dX10_wakes_54 : decode cX10_wakes 54 = .ok (.if_icmp .eq 15, 3) := by decide +kernel
theorem dX10_wakes_57 : decode cX10_wakes 57 = .ok (.iload 4, 2) := by decide +kernel
theorem dX10_wakes_59 : decode cX10_wakes 59 = .ok (.iconst 1, 1) := by decide +kernel
theorem dX10_wakes_60 : decode cX10_wakes 60 = .ok (.if_icmp .ne 13, 3) := by decide +kernel
theorem dX10_wakes_63 : decode cX10_wakes 63 = .ok (.iload_n 2, 1) := by decide +kernel
theorem dX10_wakes_64 : decode cX10_wakes 64 = .ok (.bipush 10, 2) := by decide +kernel
theorem dX10_wakes_66 : decode cX10_wakes 66 = .ok (.if_icmp .le 7, 3) := by decide +kernel
theorem dX10_wakes_69 : decode cX10_wakes 69 = .ok (.iconst 1, 1) := by decide +kernel
theorem dX10_wakes_70 : decode cX10_wakes 70 = .ok (.goto 4, 3) := by decide +kernel
theorem dX10_wakes_73 : decode cX10_wakes 73 = .ok (.iconst 0, 1) := by decide +kernel
theorem dX10_wakes_74 : decode cX10_wakes 74 = .ok (.ireturn, 1) := by decide +kernel
theorem dX10_isDogNight_0 : decode cX10_isDogNight 0 = .ok (.aload_n 0, 1) := by decide +kernel
theorem dX10_isDogNight_1 : decode cX10_isDogNight 1 = .ok (.getfield 139, 3) := by decide +kernel
theorem dX10_isDogNight_4 : decode cX10_isDogNight 4 = .ok (.bipush (-4), 2) := by decide +kernel
theorem dX10_isDogNight_6 : decode cX10_isDogNight 6 = .ok (.if_icmp .ne 27, 3) := by decide +kernel
theorem dX10_isDogNight_9 : decode cX10_isDogNight 9 = .ok (.aload_n 0, 1) := by decide +kernel
theorem dX10_isDogNight_10 : decode cX10_isDogNight 10 = .ok (.getfield 64, 3) := by decide +kernel
theorem dX10_isDogNight_13 : decode cX10_isDogNight 13 = .ok (.ifCond .le 16, 3) := by decide +kernel
theorem dX10_isDogNight_16 : decode cX10_isDogNight 16 = .ok (.iload_n 1, 1) := by decide +kernel
theorem dX10_isDogNight_17 : decode cX10_isDogNight 17 = .ok (.aload_n 0, 1) := by decide +kernel
theorem dX10_isDogNight_18 : decode cX10_isDogNight 18 = .ok (.getfield 64, 3) := by decide +kernel
theorem dX10_isDogNight_21 : decode cX10_isDogNight 21 = .ok (.irem, 1) := by decide +kernel
theorem dX10_isDogNight_22 : decode cX10_isDogNight 22 = .ok (.ifCond .ne 7, 3) := by decide +kernel
theorem dX10_isDogNight_25 : decode cX10_isDogNight 25 = .ok (.iconst 1, 1) := by decide +kernel
theorem dX10_isDogNight_26 : decode cX10_isDogNight 26 = .ok (.goto 20, 3) := by decide +kernel
theorem dX10_isDogNight_29 : decode cX10_isDogNight 29 = .ok (.iconst 0, 1) := by decide +kernel
theorem dX10_isDogNight_30 : decode cX10_isDogNight 30 = .ok (.goto 16, 3) := by decide +kernel
theorem dX10_isDogNight_33 : decode cX10_isDogNight 33 = .ok (.aload_n 0, 1) := by decide +kernel
theorem dX10_isDogNight_34 : decode cX10_isDogNight 34 = .ok (.getfield 139, 3) := by decide +kernel
theorem dX10_isDogNight_37 : decode cX10_isDogNight 37 = .ok (.iconst 1, 1) := by decide +kernel
theorem dX10_isDogNight_38 : decode cX10_isDogNight 38 = .ok (.if_icmp .ne 7, 3) := by decide +kernel
theorem dX10_isDogNight_41 : decode cX10_isDogNight 41 = .ok (.iconst 1, 1) := by decide +kernel
theorem dX10_isDogNight_42 : decode cX10_isDogNight 42 = .ok (.goto 4, 3) := by decide +kernel
theorem dX10_isDogNight_45 : decode cX10_isDogNight 45 = .ok (.iconst 0, 1) := by decide +kernel
theorem dX10_isDogNight_46 : decode cX10_isDogNight 46 = .ok (.ireturn, 1) := by decide +kernel
theorem dX10_layWalks_0 : decode cX10_layWalks 0 = .ok (.aload_n 0, 1) := by decide +kernel
theorem dX10_layWalks_1 : decode cX10_layWalks 1 = .ok (.iconst 0, 1) := by decide +kernel
theorem dX10_layWalks_2 : decode cX10_layWalks 2 = .ok (.putfield 142, 3) := by decide +kernel
theorem dX10_layWalks_5 : decode cX10_layWalks 5 = .ok (.iconst 0, 1) := by decide +kernel
theorem dX10_layWalks_6 : decode cX10_layWalks 6 = .ok (.istore_n 2, 1) := by decide +kernel
theorem dX10_layWalks_7 : decode cX10_layWalks 7 = .ok (.iload_n 2, 1) := by decide +kernel
theorem dX10_layWalks_8 : decode cX10_layWalks 8 = .ok (.aload_n 0, 1) := by decide +kernel
theorem dX10_layWalks_9 : decode cX10_layWalks 9 = .ok (.getfield 50, 3) := by decide +kernel
theorem dX10_layWalks_12 : decode cX10_layWalks 12 = .ok (.if_icmp .ge 110, 3) := by decide +kernel
theorem dX10_layWalks_15 : decode cX10_layWalks 15 = .ok (.aload_n 0, 1) := by decide +kernel
theorem dX10_layWalks_16 : decode cX10_layWalks 16 = .ok (.getfield 22, 3) := by decide +kernel
theorem dX10_layWalks_19 : decode cX10_layWalks 19 = .ok (.iconst 4, 1) := by decide +kernel
theorem dX10_layWalks_20 : decode cX10_layWalks 20 = .ok (.iload_n 2, 1) := by decide +kernel
theorem dX10_layWalks_21 : decode cX10_layWalks 21 = .ok (.imul, 1) := by decide +kernel
theorem dX10_layWalks_22 : decode cX10_layWalks 22 = .ok (.iconst 2, 1) := by decide +kernel
theorem dX10_layWalks_23 : decode cX10_layWalks 23 = .ok (.iadd, 1) := by decide +kernel
theorem dX10_layWalks_24 : decode cX10_layWalks 24 = .ok (.iaload, 1) := by decide +kernel
theorem dX10_layWalks_25 : decode cX10_layWalks 25 = .ok (.istore_n 3, 1) := by decide +kernel
theorem dX10_layWalks_26 : decode cX10_layWalks 26 = .ok (.aload_n 1, 1) := by decide +kernel
theorem dX10_layWalks_27 : decode cX10_layWalks 27 = .ok (.iconst 0, 1) := by decide +kernel
theorem dX10_layWalks_28 : decode cX10_layWalks 28 = .ok (.iaload, 1) := by decide +kernel
theorem dX10_layWalks_29 : decode cX10_layWalks 29 = .ok (.iload_n 3, 1) := by decide +kernel
theorem dX10_layWalks_30 : decode cX10_layWalks 30 = .ok (.irem, 1) := by decide +kernel
theorem dX10_layWalks_31 : decode cX10_layWalks 31 = .ok (.aload_n 0, 1) := by decide +kernel
theorem dX10_layWalks_32 : decode cX10_layWalks 32 = .ok (.getfield 22, 3) := by decide +kernel
theorem dX10_layWalks_35 : decode cX10_layWalks 35 = .ok (.iconst 4, 1) := by decide +kernel
theorem dX10_layWalks_36 : decode cX10_layWalks 36 = .ok (.iload_n 2, 1) := by decide +kernel
theorem dX10_layWalks_37 : decode cX10_layWalks 37 = .ok (.imul, 1) := by decide +kernel
theorem dX10_layWalks_38 : decode cX10_layWalks 38 = .ok (.iconst 3, 1) := by decide +kernel
theorem dX10_layWalks_39 : decode cX10_layWalks 39 = .ok (.iadd, 1) := by decide +kernel
theorem dX10_layWalks_40 : decode cX10_layWalks 40 = .ok (.iaload, 1) := by decide +kernel
theorem dX10_layWalks_41 : decode cX10_layWalks 41 = .ok (.iload_n 3, 1) := by decide +kernel
theorem dX10_layWalks_42 : decode cX10_layWalks 42 = .ok (.irem, 1) := by decide +kernel
theorem dX10_layWalks_43 : decode cX10_layWalks 43 = .ok (.if_icmp .ne 36, 3) := by decide +kernel
theorem dX10_layWalks_46 : decode cX10_layWalks 46 = .ok (.aload_n 0, 1) := by decide +kernel
theorem dX10_layWalks_47 : decode cX10_layWalks 47 = .ok (.aload_n 1, 1) := by decide +kernel
theorem dX10_layWalks_48 : decode cX10_layWalks 48 = .ok (.iconst 0, 1) := by decide +kernel
theorem dX10_layWalks_49 : decode cX10_layWalks 49 = .ok (.iaload, 1) := by decide +kernel
theorem dX10_layWalks_50 : decode cX10_layWalks 50 = .ok (.invokevirtual 145, 3) := by decide +kernel
theorem dX10_layWalks_53 : decode cX10_layWalks 53 = .ok (.ifCond .ne 26, 3) := by decide +kernel
theorem dX10_layWalks_56 : decode cX10_layWalks 56 = .ok (.aload_n 1, 1) := by decide +kernel
theorem dX10_layWalks_57 : decode cX10_layWalks 57 = .ok (.bipush 11, 2) := by decide +kernel
theorem dX10_layWalks_59 : decode cX10_layWalks 59 = .ok (.iload_n 2, 1) := by decide +kernel
theorem dX10_layWalks_60 : decode cX10_layWalks 60 = .ok (.iadd, 1) := by decide +kernel
theorem dX10_layWalks_61 : decode cX10_layWalks 61 = .ok (.iaload, 1) := by decide +kernel
theorem dX10_layWalks_62 : decode cX10_layWalks 62 = .ok (.ifCond .ne 17, 3) := by decide +kernel
theorem dX10_layWalks_65 : decode cX10_layWalks 65 = .ok (.aload_n 1, 1) := by decide +kernel
theorem dX10_layWalks_66 : decode cX10_layWalks 66 = .ok (.iconst 4, 1) := by decide +kernel
theorem dX10_layWalks_67 : decode cX10_layWalks 67 = .ok (.iaload, 1) := by decide +kernel
theorem dX10_layWalks_68 : decode cX10_layWalks 68 = .ok (.iload_n 2, 1) := by decide +kernel
theorem dX10_layWalks_69 : decode cX10_layWalks 69 = .ok (.invokestatic 107, 3) := by decide +kernel
theorem dX10_layWalks_72 : decode cX10_layWalks 72 = .ok (.ifCond .ne 7, 3) := by decide +kernel
theorem dX10_layWalks_75 : decode cX10_layWalks 75 = .ok (.iconst 1, 1) := by decide +kernel
theorem dX10_layWalks_76 : decode cX10_layWalks 76 = .ok (.goto 4, 3) := by decide +kernel
theorem dX10_layWalks_79 : decode cX10_layWalks 79 = .ok (.iconst 0, 1) := by decide +kernel
theorem dX10_layWalks_80 : decode cX10_layWalks 80 = .ok (.istore 4, 2) := by decide +kernel
theorem dX10_layWalks_82 : decode cX10_layWalks 82 = .ok (.aload_n 0, 1) := by decide +kernel
theorem dX10_layWalks_83 : decode cX10_layWalks 83 = .ok (.aload_n 0, 1) := by decide +kernel
theorem dX10_layWalks_84 : decode cX10_layWalks 84 = .ok (.getfield 142, 3) := by decide +kernel
theorem dX10_layWalks_87 : decode cX10_layWalks 87 = .ok (.iload 4, 2) := by decide +kernel
theorem dX10_layWalks_89 : decode cX10_layWalks 89 = .ok (.ifCond .eq 22, 3) := by decide +kernel
theorem dX10_layWalks_92 : decode cX10_layWalks 92 = .ok (.aload_n 1, 1) := by decide +kernel
theorem dX10_layWalks_93 : decode cX10_layWalks 93 = .ok (.iconst 5, 1) := by decide +kernel
theorem dX10_layWalks_94 : decode cX10_layWalks 94 = .ok (.iload_n 2, 1) := by decide +kernel
theorem dX10_layWalks_95 : decode cX10_layWalks 95 = .ok (.iadd, 1) := by decide +kernel
theorem dX10_layWalks_96 : decode cX10_layWalks 96 = .ok (.iaload, 1) := by decide +kernel
theorem dX10_layWalks_97 : decode cX10_layWalks 97 = .ok (.aload_n 0, 1) := by decide +kernel
theorem dX10_layWalks_98 : decode cX10_layWalks 98 = .ok (.getfield 142, 3) := by decide +kernel
theorem dX10_layWalks_101 : decode cX10_layWalks 101 = .ok (.iand, 1) := by decide +kernel
theorem dX10_layWalks_102 : decode cX10_layWalks 102 = .ok (.ifCond .ne 9, 3) := by decide +kernel
theorem dX10_layWalks_105 : decode cX10_layWalks 105 = .ok (.iconst 1, 1) := by decide +kernel
theorem dX10_layWalks_106 : decode cX10_layWalks 106 = .ok (.iload_n 2, 1) := by decide +kernel
theorem dX10_layWalks_107 : decode cX10_layWalks 107 = .ok (.ishl, 1) := by decide +kernel
theorem dX10_layWalks_108 : decode cX10_layWalks 108 = .ok (.goto 4, 3) := by decide +kernel
theorem dX10_layWalks_111 : decode cX10_layWalks 111 = .ok (.iconst 0, 1) := by decide +kernel
theorem dX10_layWalks_112 : decode cX10_layWalks 112 = .ok (.ior, 1) := by decide +kernel
theorem dX10_layWalks_113 : decode cX10_layWalks 113 = .ok (.putfield 142, 3) := by decide +kernel
theorem dX10_layWalks_116 : decode cX10_layWalks 116 = .ok (.iinc 2 1, 3) := by decide +kernel
theorem dX10_layWalks_119 : decode cX10_layWalks 119 = .ok (.goto (-112), 3) := by decide +kernel
theorem dX10_layWalks_122 : decode cX10_layWalks 122 = .ok (.return_, 1) := by decide +kernel
theorem dX10_layNight_0 : decode cX10_layNight 0 = .ok (.aload_n 0, 1) := by decide +kernel
theorem dX10_layNight_1 : decode cX10_layNight 1 = .ok (.aload_n 1, 1) := by decide +kernel
theorem dX10_layNight_2 : decode cX10_layNight 2 = .ok (.invokevirtual 148, 3) := by decide +kernel
theorem dX10_layNight_5 : decode cX10_layNight 5 = .ok (.aload_n 0, 1) := by decide +kernel
theorem dX10_layNight_6 : decode cX10_layNight 6 = .ok (.iconst 0, 1) := by decide +kernel
theorem dX10_layNight_7 : decode cX10_layNight 7 = .ok (.putfield 152, 3) := by decide +kernel
theorem dX10_layNight_10 : decode cX10_layNight 10 = .ok (.aload_n 0, 1) := by decide +kernel
theorem dX10_layNight_11 : decode cX10_layNight 11 = .ok (.iconst 0, 1) := by decide +kernel
theorem dX10_layNight_12 : decode cX10_layNight 12 = .ok (.putfield 155, 3) := by decide +kernel
theorem dX10_layNight_15 : decode cX10_layNight 15 = .ok (.aload_n 0, 1) := by decide +kernel
theorem dX10_layNight_16 : decode cX10_layNight 16 = .ok (.bipush (-4), 2) := by decide +kernel
theorem dX10_layNight_18 : decode cX10_layNight 18 = .ok (.putfield 158, 3) := by decide +kernel
theorem dX10_layNight_21 : decode cX10_layNight 21 = .ok (.aload_n 0, 1) := by decide +kernel
theorem dX10_layNight_22 : decode cX10_layNight 22 = .ok (.iconst 0, 1) := by decide +kernel
theorem dX10_layNight_23 : decode cX10_layNight 23 = .ok (.putfield 161, 3) := by decide +kernel
theorem dX10_layNight_26 : decode cX10_layNight 26 = .ok (.iconst 0, 1) := by decide +kernel
theorem dX10_layNight_27 : decode cX10_layNight 27 = .ok (.istore 4, 2) := by decide +kernel
theorem dX10_layNight_29 : decode cX10_layNight 29 = .ok (.iload 4, 2) := by decide +kernel
theorem dX10_layNight_31 : decode cX10_layNight 31 = .ok (.aload_n 0, 1) := by decide +kernel
theorem dX10_layNight_32 : decode cX10_layNight 32 = .ok (.getfield 61, 3) := by decide +kernel
theorem dX10_layNight_35 : decode cX10_layNight 35 = .ok (.if_icmp .ge 312, 3) := by decide +kernel
theorem dX10_layNight_38 : decode cX10_layNight 38 = .ok (.aload_n 0, 1) := by decide +kernel
theorem dX10_layNight_39 : decode cX10_layNight 39 = .ok (.getfield 25, 3) := by decide +kernel
theorem dX10_layNight_42 : decode cX10_layNight 42 = .ok (.iconst 4, 1) := by decide +kernel
theorem dX10_layNight_43 : decode cX10_layNight 43 = .ok (.iload 4, 2) := by decide +kernel
theorem dX10_layNight_45 : decode cX10_layNight 45 = .ok (.imul, 1) := by decide +kernel
theorem dX10_layNight_46 : decode cX10_layNight 46 = .ok (.iaload, 1) := by decide +kernel
theorem dX10_layNight_47 : decode cX10_layNight 47 = .ok (.aload_n 1, 1) := by decide +kernel
theorem dX10_layNight_48 : decode cX10_layNight 48 = .ok (.iconst 0, 1) := by decide +kernel
theorem dX10_layNight_49 : decode cX10_layNight 49 = .ok (.iaload, 1) := by decide +kernel
theorem dX10_layNight_50 : decode cX10_layNight 50 = .ok (.bipush 14, 2) := by decide +kernel
theorem dX10_layNight_52 : decode cX10_layNight 52 = .ok (.irem, 1) := by decide +kernel
theorem dX10_layNight_53 : decode cX10_layNight 53 = .ok (.if_icmp .ne 7, 3) := by decide +kernel
theorem dX10_layNight_56 : decode cX10_layNight 56 = .ok (.iconst 1, 1) := by decide +kernel
theorem dX10_layNight_57 : decode cX10_layNight 57 = .ok (.goto 4, 3) := by decide +kernel
theorem dX10_layNight_60 : decode cX10_layNight 60 = .ok (.iconst 0, 1) := by decide +kernel
theorem dX10_layNight_61 : decode cX10_layNight 61 = .ok (.istore 5, 2) := by decide +kernel
theorem dX10_layNight_63 : decode cX10_layNight 63 = .ok (.iload 4, 2) := by decide +kernel
theorem dX10_layNight_65 : decode cX10_layNight 65 = .ok (.iload_n 2, 1) := by decide +kernel
theorem dX10_layNight_66 : decode cX10_layNight 66 = .ok (.if_icmp .ne 7, 3) := by decide +kernel
theorem dX10_layNight_69 : decode cX10_layNight 69 = .ok (.iload_n 3, 1) := by decide +kernel
theorem dX10_layNight_70 : decode cX10_layNight 70 = .ok (.goto 14, 3) := by decide +kernel
theorem dX10_layNight_73 : decode cX10_layNight 73 = .ok (.aload_n 0, 1) := by decide +kernel
theorem dX10_layNight_74 : decode cX10_layNight 74 = .ok (.getfield 25, 3) := by decide +kernel
theorem dX10_layNight_77 : decode cX10_layNight 77 = .ok (.iconst 4, 1) := by decide +kernel
theorem dX10_layNight_78 : decode cX10_layNight 78 = .ok (.iload 4, 2) := by decide +kernel
theorem dX10_layNight_80 : decode cX10_layNight 80 = .ok (.imul, 1) := by decide +kernel
theorem dX10_layNight_81 : decode cX10_layNight 81 = .ok (.iconst 2, 1) := by decide +kernel
theorem dX10_layNight_82 : decode cX10_layNight 82 = .ok (.iadd, 1) := by decide +kernel
theorem dX10_layNight_83 : decode cX10_layNight 83 = .ok (.iaload, 1) := by decide +kernel
theorem dX10_layNight_84 : decode cX10_layNight 84 = .ok (.istore 6, 2) := by decide +kernel
theorem dX10_layNight_86 : decode cX10_layNight 86 = .ok (.aload_n 0, 1) := by decide +kernel
theorem dX10_layNight_87 : decode cX10_layNight 87 = .ok (.getfield 152, 3) := by decide +kernel
theorem dX10_layNight_90 : decode cX10_layNight 90 = .ok (.istore 7, 2) := by decide +kernel
theorem dX10_layNight_92 : decode cX10_layNight 92 = .ok (.aload_n 0, 1) := by decide +kernel
theorem dX10_layNight_93 : decode cX10_layNight 93 = .ok (.getfield 43, 3) := by decide +kernel
theorem dX10_layNight_96 : decode cX10_layNight 96 = .ok (.iload 4, 2) := by decide +kernel
theorem dX10_layNight_98 : decode cX10_layNight 98 = .ok (.bipush (-4), 2) := by decide +kernel
theorem dX10_layNight_100 : decode cX10_layNight 100 = .ok (.iastore, 1) := by decide +kernel
theorem dX10_layNight_101 : decode cX10_layNight 101 = .ok (.iconst 0, 1) := by decide +kernel
theorem dX10_layNight_102 : decode cX10_layNight 102 = .ok (.istore 8, 2) := by decide +kernel
theorem dX10_layNight_104 : decode cX10_layNight 104 = .ok (.iload 8, 2) := by decide +kernel
theorem dX10_layNight_106 : decode cX10_layNight 106 = .ok (.aload_n 0, 1) := by decide +kernel
theorem dX10_layNight_107 : decode cX10_layNight 107 = .ok (.getfield 50, 3) := by decide +kernel
theorem dX10_layNight_110 : decode cX10_layNight 110 = .ok (.if_icmp .ge 127, 3) := by decide +kernel
theorem dX10_layNight_113 : decode cX10_layNight 113 = .ok (.iload 5, 2) := by decide +kernel
theorem dX10_layNight_115 : decode cX10_layNight 115 = .ok (.ifCond .eq 122, 3) := by decide +kernel
theorem dX10_layNight_118 : decode cX10_layNight 118 = .ok (.aload_n 0, 1) := by decide +kernel
theorem dX10_layNight_119 : decode cX10_layNight 119 = .ok (.getfield 43, 3) := by decide +kernel
theorem dX10_layNight_122 : decode cX10_layNight 122 = .ok (.iload 4, 2) := by decide +kernel
theorem dX10_layNight_124 : decode cX10_layNight 124 = .ok (.iaload, 1) := by decide +kernel
theorem dX10_layNight_125 : decode cX10_layNight 125 = .ok (.bipush (-4), 2) := by decide +kernel
theorem dX10_layNight_127 : decode cX10_layNight 127 = .ok (.if_icmp .ne 110, 3) := by decide +kernel
theorem dX10_layNight_130 : decode cX10_layNight 130 = .ok (.aload_n 0, 1) := by decide +kernel
theorem dX10_layNight_131 : decode cX10_layNight 131 = .ok (.getfield 142, 3) := by decide +kernel
theorem dX10_layNight_134 : decode cX10_layNight 134 = .ok (.aload_n 0, 1) := by decide +kernel
theorem dX10_layNight_135 : decode cX10_layNight 135 = .ok (.getfield 152, 3) := by decide +kernel
theorem dX10_layNight_138 : decode cX10_layNight 138 = .ok (.iconst (-1), 1) := by decide +kernel
theorem dX10_layNight_139 : decode cX10_layNight 139 = .ok (.ixor, 1) := by decide +kernel
theorem dX10_layNight_140 : decode cX10_layNight 140 = .ok (.iand, 1) := by decide +kernel
theorem dX10_layNight_141 : decode cX10_layNight 141 = .ok (.iload 8, 2) := by decide +kernel
theorem dX10_layNight_143 : decode cX10_layNight 143 = .ok (.invokestatic 107, 3) := by decide +kernel
theorem dX10_layNight_146 : decode cX10_layNight 146 = .ok (.ifCond .eq 85, 3) := by decide +kernel
theorem dX10_layNight_149 : decode cX10_layNight 149 = .ok (.aload_n 0, 1) := by decide +kernel
theorem dX10_layNight_150 : decode cX10_layNight 150 = .ok (.iload 8, 2) := by decide +kernel
theorem dX10_layNight_152 : decode cX10_layNight 152 = .ok (.aload_n 0, 1) := by decide +kernel
theorem dX10_layNight_153 : decode cX10_layNight 153 = .ok (.getfield 25, 3) := by decide +kernel
theorem dX10_layNight_156 : decode cX10_layNight 156 = .ok (.iconst 4, 1) := by decide +kernel
theorem dX10_layNight_157 : decode cX10_layNight 157 = .ok (.iload 4, 2) := by decide +kernel
theorem dX10_layNight_159 : decode cX10_layNight 159 = .ok (.imul, 1) := by decide +kernel
theorem dX10_layNight_160 : decode cX10_layNight 160 = .ok (.iconst 1, 1) := by decide +kernel
theorem dX10_layNight_161 : decode cX10_layNight 161 = .ok (.iadd, 1) := by decide +kernel
theorem dX10_layNight_162 : decode cX10_layNight 162 = .ok (.iaload, 1) := by decide +kernel
theorem dX10_layNight_163 : decode cX10_layNight 163 = .ok (.invokevirtual 164, 3) := by decide +kernel
theorem dX10_layNight_166 : decode cX10_layNight 166 = .ok (.ifCond .eq 65, 3) := by decide +kernel
theorem dX10_layNight_169 : decode cX10_layNight 169 = .ok (.aload_n 0, 1) := by decide +kernel
theorem dX10_layNight_170 : decode cX10_layNight 170 = .ok (.iload 6, 2) := by decide +kernel
theorem dX10_layNight_172 : decode cX10_layNight 172 = .ok (.aload_n 0, 1) := by decide +kernel
theorem dX10_layNight_173 : decode cX10_layNight 173 = .ok (.getfield 25, 3) := by decide +kernel
theorem dX10_layNight_176 : decode cX10_layNight 176 = .ok (.iconst 4, 1) := by decide +kernel
theorem dX10_layNight_177 : decode cX10_layNight 177 = .ok (.iload 4, 2) := by decide +kernel
theorem dX10_layNight_179 : decode cX10_layNight 179 = .ok (.imul, 1) := by decide +kernel
theorem dX10_layNight_180 : decode cX10_layNight 180 = .ok (.iconst 3, 1) := by decide +kernel
theorem dX10_layNight_181 : decode cX10_layNight 181 = .ok (.iadd, 1) := by decide +kernel
theorem dX10_layNight_182 : decode cX10_layNight 182 = .ok (.iaload, 1) := by decide +kernel
theorem dX10_layNight_183 : decode cX10_layNight 183 = .ok (.iload 8, 2) := by decide +kernel
theorem dX10_layNight_185 : decode cX10_layNight 185 = .ok (.invokevirtual 167, 3) := by decide +kernel
theorem dX10_layNight_188 : decode cX10_layNight 188 = .ok (.istore 9, 2) := by decide +kernel
theorem dX10_layNight_190 : decode cX10_layNight 190 = .ok (.aload_n 0, 1) := by decide +kernel
theorem dX10_layNight_191 : decode cX10_layNight 191 = .ok (.aload_n 0, 1) := by decide +kernel
theorem dX10_layNight_192 : decode cX10_layNight 192 = .ok (.getfield 152, 3) := by decide +kernel
theorem dX10_layNight_195 : decode cX10_layNight 195 = .ok (.iload 9, 2) := by decide +kernel
theorem dX10_layNight_197 : decode cX10_layNight 197 = .ok (.ifCond .eq 10, 3) := by decide +kernel
theorem dX10_layNight_200 : decode cX10_layNight 200 = .ok (.iconst 1, 1) := by decide +kernel
theorem dX10_layNight_201 : decode cX10_layNight 201 = .ok (.iload 8, 2) := by decide +kernel
theorem dX10_layNight_203 : decode cX10_layNight 203 = .ok (.ishl, 1) := by decide +kernel
theorem dX10_layNight_204 : decode cX10_layNight 204 = .ok (.goto 4, 3) := by decide +kernel
theorem dX10_layNight_207 : decode cX10_layNight 207 = .ok (.iconst 0, 1) := by decide +kernel
theorem dX10_layNight_208 : decode cX10_layNight 208 = .ok (.ior, 1) := by decide +kernel
theorem dX10_layNight_209 : decode cX10_layNight 209 = .ok (.putfield 152, 3) := by decide +kernel
theorem dX10_layNight_212 : decode cX10_layNight 212 = .ok (.aload_n 0, 1) := by decide +kernel
theorem dX10_layNight_213 : decode cX10_layNight 213 = .ok (.getfield 43, 3) := by decide +kernel
theorem dX10_layNight_216 : decode cX10_layNight 216 = .ok (.iload 4, 2) := by decide +kernel
theorem dX10_layNight_218 : decode cX10_layNight 218 = .ok (.iload 9, 2) := by decide +kernel
theorem dX10_layNight_220 : decode cX10_layNight 220 = .ok (.ifCond .eq 8, 3) := by decide +kernel
theorem dX10_layNight_223 : decode cX10_layNight 223 = .ok (.bipush (-4), 2) := by decide +kernel
theorem dX10_layNight_225 : decode cX10_layNight 225 = .ok (.goto 5, 3) := by decide +kernel
theorem dX10_layNight_228 : decode cX10_layNight 228 = .ok (.iload 8, 2) := by decide +kernel
theorem dX10_layNight_230 : decode cX10_layNight 230 = .ok (.iastore, 1) := by decide +kernel
theorem dX10_layNight_231 : decode cX10_layNight 231 = .ok (.iinc 8 1, 3) := by decide +kernel
theorem dX10_layNight_234 : decode cX10_layNight 234 = .ok (.goto (-130), 3) := by decide +kernel
theorem dX10_layNight_237 : decode cX10_layNight 237 = .ok (.aload_n 0, 1) := by decide +kernel
theorem dX10_layNight_238 : decode cX10_layNight 238 = .ok (.dup, 1) := by decide +kernel
theorem dX10_layNight_239 : decode cX10_layNight 239 = .ok (.getfield 155, 3) := by decide +kernel
theorem dX10_layNight_242 : decode cX10_layNight 242 = .ok (.aload_n 0, 1) := by decide +kernel
theorem dX10_layNight_243 : decode cX10_layNight 243 = .ok (.getfield 43, 3) := by decide +kernel
theorem dX10_layNight_246 : decode cX10_layNight 246 = .ok (.iload 4, 2) := by decide +kernel
theorem dX10_layNight_248 : decode cX10_layNight 248 = .ok (.iaload, 1) := by decide +kernel
theorem dX10_layNight_249 : decode cX10_layNight 249 = .ok (.bipush (-4), 2) := by decide +kernel
theorem dX10_layNight_251 : decode cX10_layNight 251 = .ok (.if_icmp .ne 7, 3) := by decide +kernel
theorem dX10_layNight_254 : decode cX10_layNight 254 = .ok (.iconst 0, 1) := by decide +kernel
theorem dX10_layNight_255 : decode cX10_layNight 255 = .ok (.goto 4, 3) := by decide +kernel
theorem dX10_layNight_258 : decode cX10_layNight 258 = .ok (.iconst 1, 1) := by decide +kernel
theorem dX10_layNight_259 : decode cX10_layNight 259 = .ok (.iadd, 1) := by decide +kernel
theorem dX10_layNight_260 : decode cX10_layNight 260 = .ok (.putfield 155, 3) := by decide +kernel
theorem dX10_layNight_263 : decode cX10_layNight 263 = .ok (.aload_n 0, 1) := by decide +kernel
theorem dX10_layNight_264 : decode cX10_layNight 264 = .ok (.iload 5, 2) := by decide +kernel
theorem dX10_layNight_266 : decode cX10_layNight 266 = .ok (.ifCond .eq 29, 3) := by decide +kernel
theorem dX10_layNight_269 : decode cX10_layNight 269 = .ok (.aload_n 0, 1) := by decide +kernel
theorem dX10_layNight_270 : decode cX10_layNight 270 = .ok (.getfield 43, 3) := by decide +kernel
theorem dX10_layNight_273 : decode cX10_layNight 273 = .ok (.iload 4, 2) := by decide +kernel
theorem dX10_layNight_275 : decode cX10_layNight 275 = .ok (.iaload, 1) := by decide +kernel
theorem dX10_layNight_276 : decode cX10_layNight 276 = .ok (.bipush (-4), 2) := by decide +kernel
theorem dX10_layNight_278 : decode cX10_layNight 278 = .ok (.if_icmp .ne 17, 3) := by decide +kernel
theorem dX10_layNight_281 : decode cX10_layNight 281 = .ok (.aload_n 0, 1) := by decide +kernel
theorem dX10_layNight_282 : decode cX10_layNight 282 = .ok (.getfield 158, 3) := by decide +kernel
theorem dX10_layNight_285 : decode cX10_layNight 285 = .ok (.bipush (-4), 2) := by decide +kernel
theorem dX10_layNight_287 : decode cX10_layNight 287 = .ok (.if_icmp .ne 8, 3) := by decide +kernel
theorem dX10_layNight_290 : decode cX10_layNight 290 = .ok (.iload 4, 2) := by decide +kernel
theorem dX10_layNight_292 : decode cX10_layNight 292 = .ok (.goto 7, 3) := by decide +kernel
theorem dX10_layNight_295 : decode cX10_layNight 295 = .ok (.aload_n 0, 1) := by decide +kernel
theorem dX10_layNight_296 : decode cX10_layNight 296 = .ok (.getfield 158, 3) := by decide +kernel
theorem dX10_layNight_299 : decode cX10_layNight 299 = .ok (.putfield 158, 3) := by decide +kernel
theorem dX10_layNight_302 : decode cX10_layNight 302 = .ok (.aload_n 0, 1) := by decide +kernel
theorem dX10_layNight_303 : decode cX10_layNight 303 = .ok (.iload 4, 2) := by decide +kernel
theorem dX10_layNight_305 : decode cX10_layNight 305 = .ok (.iload_n 2, 1) := by decide +kernel
theorem dX10_layNight_306 : decode cX10_layNight 306 = .ok (.if_icmp .ne 28, 3) := by decide +kernel
theorem dX10_layNight_309 : decode cX10_layNight 309 = .ok (.aload_n 0, 1) := by decide +kernel
theorem dX10_layNight_310 : decode cX10_layNight 310 = .ok (.getfield 43, 3) := by decide +kernel
theorem dX10_layNight_313 : decode cX10_layNight 313 = .ok (.iload 4, 2) := by decide +kernel
theorem dX10_layNight_315 : decode cX10_layNight 315 = .ok (.iaload, 1) := by decide +kernel
theorem dX10_layNight_316 : decode cX10_layNight 316 = .ok (.bipush (-4), 2) := by decide +kernel
theorem dX10_layNight_318 : decode cX10_layNight 318 = .ok (.if_icmp .eq 16, 3) := by decide +kernel
theorem dX10_layNight_321 : decode cX10_layNight 321 = .ok (.aload_n 0, 1) := by decide +kernel
theorem dX10_layNight_322 : decode cX10_layNight 322 = .ok (.getfield 152, 3) := by decide +kernel
theorem dX10_layNight_325 : decode cX10_layNight 325 = .ok (.iload 7, 2) := by decide +kernel
theorem dX10_layNight_327 : decode cX10_layNight 327 = .ok (.if_icmp .ne 7, 3) := by decide +kernel
theorem dX10_layNight_330 : decode cX10_layNight 330 = .ok (.iconst 1, 1) := by decide +kernel
theorem dX10_layNight_331 : decode cX10_layNight 331 = .ok (.goto 7, 3) := by decide +kernel
theorem dX10_layNight_334 : decode cX10_layNight 334 = .ok (.aload_n 0, 1) := by decide +kernel
theorem dX10_layNight_335 : decode cX10_layNight 335 = .ok (.getfield 161, 3) := by decide +kernel
theorem dX10_layNight_338 : decode cX10_layNight 338 = .ok (.putfield 161, 3) := by decide +kernel
theorem dX10_layNight_341 : decode cX10_layNight 341 = .ok (.iinc 4 1, 3) := by decide +kernel
theorem dX10_layNight_344 : decode cX10_layNight 344 = .ok (.goto (-315), 3) := by decide +kernel
theorem dX10_layNight_347 : decode cX10_layNight 347 = .ok (.return_, 1) := by decide +kernel
theorem dX10_goBy_0 : decode cX10_goBy 0 = .ok (.aload_n 0, 1) := by decide +kernel
theorem dX10_goBy_1 : decode cX10_goBy 1 = .ok (.aload_n 1, 1) := by decide +kernel
theorem dX10_goBy_2 : decode cX10_goBy 2 = .ok (.bipush (-4), 2) := by decide +kernel
theorem dX10_goBy_4 : decode cX10_goBy 4 = .ok (.iconst 0, 1) := by decide +kernel
theorem dX10_goBy_5 : decode cX10_goBy 5 = .ok (.invokevirtual 170, 3) := by decide +kernel
theorem dX10_goBy_8 : decode cX10_goBy 8 = .ok (.iconst 0, 1) := by decide +kernel
theorem dX10_goBy_9 : decode cX10_goBy 9 = .ok (.istore_n 2, 1) := by decide +kernel
theorem dX10_goBy_10 : decode cX10_goBy 10 = .ok (.iconst 0, 1) := by decide +kernel
theorem dX10_goBy_11 : decode cX10_goBy 11 = .ok (.istore_n 3, 1) := by decide +kernel
theorem dX10_goBy_12 : decode cX10_goBy 12 = .ok (.iload_n 3, 1) := by decide +kernel
theorem dX10_goBy_13 : decode cX10_goBy 13 = .ok (.aload_n 0, 1) := by decide +kernel
theorem dX10_goBy_14 : decode cX10_goBy 14 = .ok (.getfield 61, 3) := by decide +kernel
theorem dX10_goBy_17 : decode cX10_goBy 17 = .ok (.if_icmp .ge 134, 3) := by decide +kernel
theorem dX10_goBy_20 : decode cX10_goBy 20 = .ok (.aload_n 0, 1) := by decide +kernel
theorem dX10_goBy_21 : decode cX10_goBy 21 = .ok (.getfield 25, 3) := by decide +kernel
theorem dX10_goBy_24 : decode cX10_goBy 24 = .ok (.iconst 4, 1) := by decide +kernel
theorem dX10_goBy_25 : decode cX10_goBy 25 = .ok (.iload_n 3, 1) := by decide +kernel
theorem dX10_goBy_26 : decode cX10_goBy 26 = .ok (.imul, 1) := by decide +kernel
theorem dX10_goBy_27 : decode cX10_goBy 27 = .ok (.iaload, 1) := by decide +kernel
theorem dX10_goBy_28 : decode cX10_goBy 28 = .ok (.aload_n 1, 1) := by decide +kernel
theorem dX10_goBy_29 : decode cX10_goBy 29 = .ok (.iconst 0, 1) := by decide +kernel
theorem dX10_goBy_30 : decode cX10_goBy 30 = .ok (.iaload, 1) := by decide +kernel
theorem dX10_goBy_31 : decode cX10_goBy 31 = .ok (.bipush 14, 2) := by decide +kernel
theorem dX10_goBy_33 : decode cX10_goBy 33 = .ok (.irem, 1) := by decide +kernel
theorem dX10_goBy_34 : decode cX10_goBy 34 = .ok (.if_icmp .ne 7, 3) := by decide +kernel
theorem dX10_goBy_37 : decode cX10_goBy 37 = .ok (.iconst 1, 1) := by decide +kernel
theorem dX10_goBy_38 : decode cX10_goBy 38 = .ok (.goto 4, 3) := by decide +kernel
theorem dX10_goBy_41 : decode cX10_goBy 41 = .ok (.iconst 0, 1) := by decide +kernel
theorem dX10_goBy_42 : decode cX10_goBy 42 = .ok (.istore 4, 2) := by decide +kernel
theorem dX10_goBy_44 : decode cX10_goBy 44 = .ok (.iload 4, 2) := by decide +kernel
theorem dX10_goBy_46 : decode cX10_goBy 46 = .ok (.ifCond .eq 41, 3) := by decide +kernel
theorem dX10_goBy_49 : decode cX10_goBy 49 = .ok (.aload_n 0, 1) := by decide +kernel
theorem dX10_goBy_50 : decode cX10_goBy 50 = .ok (.getfield 43, 3) := by decide +kernel
theorem dX10_goBy_53 : decode cX10_goBy 53 = .ok (.iload_n 3, 1) := by decide +kernel
theorem dX10_goBy_54 : decode cX10_goBy 54 = .ok (.iaload, 1) := by decide +kernel
theorem dX10_goBy_55 : decode cX10_goBy 55 = .ok (.bipush (-4), 2) := by decide +kernel
theorem dX10_goBy_57 : decode cX10_goBy 57 = .ok (.if_icmp .eq 30, 3) := by decide +kernel
theorem dX10_goBy_60 : decode cX10_goBy 60 = .ok (.aload_n 0, 1) := by decide +kernel
theorem dX10_goBy_61 : decode cX10_goBy 61 = .ok (.getfield 25, 3) := by decide +kernel
theorem dX10_goBy_64 : decode cX10_goBy 64 = .ok (.iconst 4, 1) := by decide +kernel
theorem dX10_goBy_65 : decode cX10_goBy 65 = .ok (.iload_n 3, 1) := by decide +kernel
theorem dX10_goBy_66 : decode cX10_goBy 66 = .ok (.imul, 1) := by decide +kernel
theorem dX10_goBy_67 : decode cX10_goBy 67 = .ok (.iconst 2, 1) := by decide +kernel
theorem dX10_goBy_68 : decode cX10_goBy 68 = .ok (.iadd, 1) := by decide +kernel
theorem dX10_goBy_69 : decode cX10_goBy 69 = .ok (.iaload, 1) := by decide +kernel
theorem dX10_goBy_70 : decode cX10_goBy 70 = .ok (.iconst 3, 1) := by decide +kernel
theorem dX10_goBy_71 : decode cX10_goBy 71 = .ok (.if_icmp .eq 16, 3) := by decide +kernel
theorem dX10_goBy_74 : decode cX10_goBy 74 = .ok (.aload_n 0, 1) := by decide +kernel
theorem dX10_goBy_75 : decode cX10_goBy 75 = .ok (.getfield 25, 3) := by decide +kernel
theorem dX10_goBy_78 : decode cX10_goBy 78 = .ok (.iconst 4, 1) := by decide +kernel
theorem dX10_goBy_79 : decode cX10_goBy 79 = .ok (.iload_n 3, 1) := by decide +kernel
theorem dX10_goBy_80 : decode cX10_goBy 80 = .ok (.imul, 1) := by decide +kernel
theorem dX10_goBy_81 : decode cX10_goBy 81 = .ok (.iconst 3, 1) := by decide +kernel
theorem dX10_goBy_82 : decode cX10_goBy 82 = .ok (.iadd, 1) := by decide +kernel
theorem dX10_goBy_83 : decode cX10_goBy 83 = .ok (.iaload, 1) := by decide +kernel
theorem dX10_goBy_84 : decode cX10_goBy 84 = .ok (.goto 4, 3) := by decide +kernel
theorem dX10_goBy_87 : decode cX10_goBy 87 = .ok (.iconst 0, 1) := by decide +kernel
theorem dX10_goBy_88 : decode cX10_goBy 88 = .ok (.istore 5, 2) := by decide +kernel
theorem dX10_goBy_90 : decode cX10_goBy 90 = .ok (.iload_n 2, 1) := by decide +kernel
theorem dX10_goBy_91 : decode cX10_goBy 91 = .ok (.iload 4, 2) := by decide +kernel
theorem dX10_goBy_93 : decode cX10_goBy 93 = .ok (.ifCond .eq 18, 3) := by decide +kernel
theorem dX10_goBy_96 : decode cX10_goBy 96 = .ok (.aload_n 0, 1) := by decide +kernel
theorem dX10_goBy_97 : decode cX10_goBy 97 = .ok (.getfield 43, 3) := by decide +kernel
theorem dX10_goBy_100 : decode cX10_goBy 100 = .ok (.iload_n 3, 1) := by decide +kernel
theorem dX10_goBy_101 : decode cX10_goBy 101 = .ok (.iaload, 1) := by decide +kernel
theorem dX10_goBy_102 : decode cX10_goBy 102 = .ok (.bipush (-4), 2) := by decide +kernel
theorem dX10_goBy_104 : decode cX10_goBy 104 = .ok (.if_icmp .ne 7, 3) := by decide +kernel
theorem dX10_goBy_107 : decode cX10_goBy 107 = .ok (.iconst 1, 1) := by decide +kernel
theorem dX10_goBy_108 : decode cX10_goBy 108 = .ok (.goto 4, 3) := by decide +kernel
theorem dX10_goBy_111 : decode cX10_goBy 111 = .ok (.iconst 0, 1) := by decide +kernel
theorem dX10_goBy_112 : decode cX10_goBy 112 = .ok (.iadd, 1) := by decide +kernel
theorem dX10_goBy_113 : decode cX10_goBy 113 = .ok (.istore_n 2, 1) := by decide +kernel
theorem dX10_goBy_114 : decode cX10_goBy 114 = .ok (.aload_n 1, 1) := by decide +kernel
theorem dX10_goBy_115 : decode cX10_goBy 115 = .ok (.iconst 2, 1) := by decide +kernel
theorem dX10_goBy_116 : decode cX10_goBy 116 = .ok (.dup2, 1) := by decide +kernel
theorem dX10_goBy_117 : decode cX10_goBy 117 = .ok (.iaload, 1) := by decide +kernel
theorem dX10_goBy_118 : decode cX10_goBy 118 = .ok (.iload 5, 2) := by decide +kernel
theorem dX10_goBy_120 : decode cX10_goBy 120 = .ok (.bipush 9, 2) := by decide +kernel
theorem dX10_goBy_122 : decode cX10_goBy 122 = .ok (.imul, 1) := by decide +kernel
theorem dX10_goBy_123 : decode cX10_goBy 123 = .ok (.bipush 100, 2) := by decide +kernel
theorem dX10_goBy_125 : decode cX10_goBy 125 = .ok (.idiv, 1) := by decide +kernel
theorem dX10_goBy_126 : decode cX10_goBy 126 = .ok (.iadd, 1) := by decide +kernel
theorem dX10_goBy_127 : decode cX10_goBy 127 = .ok (.iastore, 1) := by decide +kernel
theorem dX10_goBy_128 : decode cX10_goBy 128 = .ok (.aload_n 1, 1) := by decide +kernel
theorem dX10_goBy_129 : decode cX10_goBy 129 = .ok (.iconst 1, 1) := by decide +kernel
theorem dX10_goBy_130 : decode cX10_goBy 130 = .ok (.dup2, 1) := by decide +kernel
theorem dX10_goBy_131 : decode cX10_goBy 131 = .ok (.iaload, 1) := by decide +kernel
theorem dX10_goBy_132 : decode cX10_goBy 132 = .ok (.iload 5, 2) := by decide +kernel
theorem dX10_goBy_134 : decode cX10_goBy 134 = .ok (.iload 5, 2) := by decide +kernel
theorem dX10_goBy_136 : decode cX10_goBy 136 = .ok (.bipush 9, 2) := by decide +kernel
theorem dX10_goBy_138 : decode cX10_goBy 138 = .ok (.imul, 1) := by decide +kernel
theorem dX10_goBy_139 : decode cX10_goBy 139 = .ok (.bipush 100, 2) := by decide +kernel
theorem dX10_goBy_141 : decode cX10_goBy 141 = .ok (.idiv, 1) := by decide +kernel
theorem dX10_goBy_142 : decode cX10_goBy 142 = .ok (.isub, 1) := by decide +kernel
theorem dX10_goBy_143 : decode cX10_goBy 143 = .ok (.iadd, 1) := by decide +kernel
theorem dX10_goBy_144 : decode cX10_goBy 144 = .ok (.iastore, 1) := by decide +kernel
theorem dX10_goBy_145 : decode cX10_goBy 145 = .ok (.iinc 3 1, 3) := by decide +kernel
theorem dX10_goBy_148 : decode cX10_goBy 148 = .ok (.goto (-136), 3) := by decide +kernel
theorem dX10_goBy_151 : decode cX10_goBy 151 = .ok (.aload_n 1, 1) := by decide +kernel
theorem dX10_goBy_152 : decode cX10_goBy 152 = .ok (.iconst 3, 1) := by decide +kernel
theorem dX10_goBy_153 : decode cX10_goBy 153 = .ok (.dup2, 1) := by decide +kernel
theorem dX10_goBy_154 : decode cX10_goBy 154 = .ok (.iaload, 1) := by decide +kernel
theorem dX10_goBy_155 : decode cX10_goBy 155 = .ok (.iload_n 2, 1) := by decide +kernel
theorem dX10_goBy_156 : decode cX10_goBy 156 = .ok (.iadd, 1) := by decide +kernel
theorem dX10_goBy_157 : decode cX10_goBy 157 = .ok (.iastore, 1) := by decide +kernel
theorem dX10_goBy_158 : decode cX10_goBy 158 = .ok (.iconst 0, 1) := by decide +kernel
theorem dX10_goBy_159 : decode cX10_goBy 159 = .ok (.istore_n 3, 1) := by decide +kernel
theorem dX10_goBy_160 : decode cX10_goBy 160 = .ok (.iload_n 3, 1) := by decide +kernel
theorem dX10_goBy_161 : decode cX10_goBy 161 = .ok (.aload_n 0, 1) := by decide +kernel
theorem dX10_goBy_162 : decode cX10_goBy 162 = .ok (.getfield 50, 3) := by decide +kernel
theorem dX10_goBy_165 : decode cX10_goBy 165 = .ok (.if_icmp .ge 51, 3) := by decide +kernel
theorem dX10_goBy_168 : decode cX10_goBy 168 = .ok (.aload_n 1, 1) := by decide +kernel
theorem dX10_goBy_169 : decode cX10_goBy 169 = .ok (.bipush 11, 2) := by decide +kernel
theorem dX10_goBy_171 : decode cX10_goBy 171 = .ok (.iload_n 3, 1) := by decide +kernel
theorem dX10_goBy_172 : decode cX10_goBy 172 = .ok (.iadd, 1) := by decide +kernel
theorem dX10_goBy_173 : decode cX10_goBy 173 = .ok (.aload_n 0, 1) := by decide +kernel
theorem dX10_goBy_174 : decode cX10_goBy 174 = .ok (.getfield 152, 3) := by decide +kernel
theorem dX10_goBy_177 : decode cX10_goBy 177 = .ok (.iload_n 3, 1) := by decide +kernel
theorem dX10_goBy_178 : decode cX10_goBy 178 = .ok (.invokestatic 107, 3) := by decide +kernel
theorem dX10_goBy_181 : decode cX10_goBy 181 = .ok (.ifCond .eq 7, 3) := by decide +kernel
theorem dX10_goBy_184 : decode cX10_goBy 184 = .ok (.iconst 3, 1) := by decide +kernel
theorem dX10_goBy_185 : decode cX10_goBy 185 = .ok (.goto 24, 3) := by decide +kernel
theorem dX10_goBy_188 : decode cX10_goBy 188 = .ok (.aload_n 1, 1) := by decide +kernel
theorem dX10_goBy_189 : decode cX10_goBy 189 = .ok (.bipush 11, 2) := by decide +kernel
theorem dX10_goBy_191 : decode cX10_goBy 191 = .ok (.iload_n 3, 1) := by decide +kernel
theorem dX10_goBy_192 : decode cX10_goBy 192 = .ok (.iadd, 1) := by decide +kernel
theorem dX10_goBy_193 : decode cX10_goBy 193 = .ok (.iaload, 1) := by decide +kernel
theorem dX10_goBy_194 : decode cX10_goBy 194 = .ok (.ifCond .le 14, 3) := by decide +kernel
theorem dX10_goBy_197 : decode cX10_goBy 197 = .ok (.aload_n 1, 1) := by decide +kernel
theorem dX10_goBy_198 : decode cX10_goBy 198 = .ok (.bipush 11, 2) := by decide +kernel
theorem dX10_goBy_200 : decode cX10_goBy 200 = .ok (.iload_n 3, 1) := by decide +kernel
theorem dX10_goBy_201 : decode cX10_goBy 201 = .ok (.iadd, 1) := by decide +kernel
theorem dX10_goBy_202 : decode cX10_goBy 202 = .ok (.iaload, 1) := by decide +kernel
theorem dX10_goBy_203 : decode cX10_goBy 203 = .ok (.iconst 1, 1) := by decide +kernel
theorem dX10_goBy_204 : decode cX10_goBy 204 = .ok (.isub, 1) := by decide +kernel
theorem dX10_goBy_205 : decode cX10_goBy 205 = .ok (.goto 4, 3) := by decide +kernel
theorem dX10_goBy_208 : decode cX10_goBy 208 = .ok (.iconst 0, 1) := by decide +kernel
theorem dX10_goBy_209 : decode cX10_goBy 209 = .ok (.iastore, 1) := by decide +kernel
theorem dX10_goBy_210 : decode cX10_goBy 210 = .ok (.iinc 3 1, 3) := by decide +kernel
theorem dX10_goBy_213 : decode cX10_goBy 213 = .ok (.goto (-53), 3) := by decide +kernel
theorem dX10_goBy_216 : decode cX10_goBy 216 = .ok (.aload_n 1, 1) := by decide +kernel
theorem dX10_goBy_217 : decode cX10_goBy 217 = .ok (.iconst 4, 1) := by decide +kernel
theorem dX10_goBy_218 : decode cX10_goBy 218 = .ok (.iconst 0, 1) := by decide +kernel
theorem dX10_goBy_219 : decode cX10_goBy 219 = .ok (.iastore, 1) := by decide +kernel
theorem dX10_goBy_220 : decode cX10_goBy 220 = .ok (.aload_n 1, 1) := by decide +kernel
theorem dX10_goBy_221 : decode cX10_goBy 221 = .ok (.iconst 0, 1) := by decide +kernel
theorem dX10_goBy_222 : decode cX10_goBy 222 = .ok (.dup2, 1) := by decide +kernel
theorem dX10_goBy_223 : decode cX10_goBy 223 = .ok (.iaload, 1) := by decide +kernel
theorem dX10_goBy_224 : decode cX10_goBy 224 = .ok (.iconst 1, 1) := by decide +kernel
theorem dX10_goBy_225 : decode cX10_goBy 225 = .ok (.iadd, 1) := by decide +kernel
theorem dX10_goBy_226 : decode cX10_goBy 226 = .ok (.iastore, 1) := by decide +kernel
theorem dX10_goBy_227 : decode cX10_goBy 227 = .ok (.iload_n 2, 1) := by decide +kernel
theorem dX10_goBy_228 : decode cX10_goBy 228 = .ok (.ireturn, 1) := by decide +kernel
theorem dX10_layNow_0 : decode cX10_layNow 0 = .ok (.aload_n 0, 1) := by decide +kernel
theorem dX10_layNow_1 : decode cX10_layNow 1 = .ok (.bipush (-4), 2) := by decide +kernel
theorem dX10_layNow_3 : decode cX10_layNow 3 = .ok (.putfield 139, 3) := by decide +kernel
theorem dX10_layNow_6 : decode cX10_layNow 6 = .ok (.aload_n 0, 1) := by decide +kernel
theorem dX10_layNow_7 : decode cX10_layNow 7 = .ok (.aload_n 0, 1) := by decide +kernel
theorem dX10_layNow_8 : decode cX10_layNow 8 = .ok (.getfield 28, 3) := by decide +kernel
theorem dX10_layNow_11 : decode cX10_layNow 11 = .ok (.bipush (-4), 2) := by decide +kernel
theorem dX10_layNow_13 : decode cX10_layNow 13 = .ok (.iconst 0, 1) := by decide +kernel
theorem dX10_layNow_14 : decode cX10_layNow 14 = .ok (.invokevirtual 170, 3) := by decide +kernel
theorem dX10_layNow_17 : decode cX10_layNow 17 = .ok (.return_, 1) := by decide +kernel
theorem dX10_staff_0 : decode cX10_staff 0 = .ok (.aload_n 0, 1) := by decide +kernel
theorem dX10_staff_1 : decode cX10_staff 1 = .ok (.iload_n 1, 1) := by decide +kernel
theorem dX10_staff_2 : decode cX10_staff 2 = .ok (.invokevirtual 71, 3) := by decide +kernel
theorem dX10_staff_5 : decode cX10_staff 5 = .ok (.ifCond .eq 13, 3) := by decide +kernel
theorem dX10_staff_8 : decode cX10_staff 8 = .ok (.iload_n 2, 1) := by decide +kernel
theorem dX10_staff_9 : decode cX10_staff 9 = .ok (.iconst 0, 1) := by decide +kernel
theorem dX10_staff_10 : decode cX10_staff 10 = .ok (.bipush 6, 2) := by decide +kernel
theorem dX10_staff_12 : decode cX10_staff 12 = .ok (.invokestatic 67, 3) := by decide +kernel
theorem dX10_staff_15 : decode cX10_staff 15 = .ok (.ifCond .ne 5, 3) := by decide +kernel
theorem dX10_staff_18 : decode cX10_staff 18 = .ok (.iconst (-1), 1) := by decide +kernel
theorem dX10_staff_19 : decode cX10_staff 19 = .ok (.ireturn, 1) := by decide +kernel
theorem dX10_staff_20 : decode cX10_staff 20 = .ok (.iload_n 2, 1) := by decide +kernel
theorem dX10_staff_21 : decode cX10_staff 21 = .ok (.iconst 4, 1) := by decide +kernel
theorem dX10_staff_22 : decode cX10_staff 22 = .ok (.if_icmp .ge 14, 3) := by decide +kernel
theorem dX10_staff_25 : decode cX10_staff 25 = .ok (.aload_n 0, 1) := by decide +kernel
theorem dX10_staff_26 : decode cX10_staff 26 = .ok (.getfield 22, 3) := by decide +kernel
theorem dX10_staff_29 : decode cX10_staff 29 = .ok (.iconst 4, 1) := by decide +kernel
theorem dX10_staff_30 : decode cX10_staff 30 = .ok (.iload_n 1, 1) := by decide +kernel
theorem dX10_staff_31 : decode cX10_staff 31 = .ok (.imul, 1) := by decide +kernel
theorem dX10_staff_32 : decode cX10_staff 32 = .ok (.iload_n 2, 1) := by decide +kernel
theorem dX10_staff_33 : decode cX10_staff 33 = .ok (.iadd, 1) := by decide +kernel
theorem dX10_staff_34 : decode cX10_staff 34 = .ok (.iaload, 1) := by decide +kernel
theorem dX10_staff_35 : decode cX10_staff 35 = .ok (.ireturn, 1) := by decide +kernel
theorem dX10_staff_36 : decode cX10_staff 36 = .ok (.aload_n 0, 1) := by decide +kernel
theorem dX10_staff_37 : decode cX10_staff 37 = .ok (.invokevirtual 174, 3) := by decide +kernel
theorem dX10_staff_40 : decode cX10_staff 40 = .ok (.iload_n 2, 1) := by decide +kernel
theorem dX10_staff_41 : decode cX10_staff 41 = .ok (.iconst 4, 1) := by decide +kernel
theorem dX10_staff_42 : decode cX10_staff 42 = .ok (.if_icmp .ne 14, 3) := by decide +kernel
theorem dX10_staff_45 : decode cX10_staff 45 = .ok (.aload_n 0, 1) := by decide +kernel
theorem dX10_staff_46 : decode cX10_staff 46 = .ok (.getfield 142, 3) := by decide +kernel
theorem dX10_staff_49 : decode cX10_staff 49 = .ok (.iload_n 1, 1) := by decide +kernel
theorem dX10_staff_50 : decode cX10_staff 50 = .ok (.ishr, 1) := by decide +kernel
theorem dX10_staff_51 : decode cX10_staff 51 = .ok (.iconst 1, 1) := by decide +kernel
theorem dX10_staff_52 : decode cX10_staff 52 = .ok (.iand, 1) := by decide +kernel
theorem dX10_staff_53 : decode cX10_staff 53 = .ok (.goto 30, 3) := by decide +kernel
theorem dX10_staff_56 : decode cX10_staff 56 = .ok (.iload_n 2, 1) := by decide +kernel
theorem dX10_staff_57 : decode cX10_staff 57 = .ok (.iconst 5, 1) := by decide +kernel
theorem dX10_staff_58 : decode cX10_staff 58 = .ok (.if_icmp .ne 15, 3) := by decide +kernel
theorem dX10_staff_61 : decode cX10_staff 61 = .ok (.aload_n 0, 1) := by decide +kernel
theorem dX10_staff_62 : decode cX10_staff 62 = .ok (.getfield 28, 3) := by decide +kernel
theorem dX10_staff_65 : decode cX10_staff 65 = .ok (.bipush 11, 2) := by decide +kernel
theorem dX10_staff_67 : decode cX10_staff 67 = .ok (.iload_n 1, 1) := by decide +kernel
theorem dX10_staff_68 : decode cX10_staff 68 = .ok (.iadd, 1) := by decide +kernel
theorem dX10_staff_69 : decode cX10_staff 69 = .ok (.iaload, 1) := by decide +kernel
theorem dX10_staff_70 : decode cX10_staff 70 = .ok (.goto 13, 3) := by decide +kernel
theorem dX10_staff_73 : decode cX10_staff 73 = .ok (.aload_n 0, 1) := by decide +kernel
theorem dX10_staff_74 : decode cX10_staff 74 = .ok (.getfield 28, 3) := by decide +kernel
theorem dX10_staff_77 : decode cX10_staff 77 = .ok (.iconst 4, 1) := by decide +kernel
theorem dX10_staff_78 : decode cX10_staff 78 = .ok (.iaload, 1) := by decide +kernel
theorem dX10_staff_79 : decode cX10_staff 79 = .ok (.iload_n 1, 1) := by decide +kernel
theorem dX10_staff_80 : decode cX10_staff 80 = .ok (.ishr, 1) := by decide +kernel
theorem dX10_staff_81 : decode cX10_staff 81 = .ok (.iconst 1, 1) := by decide +kernel
theorem dX10_staff_82 : decode cX10_staff 82 = .ok (.iand, 1) := by decide +kernel
theorem dX10_staff_83 : decode cX10_staff 83 = .ok (.ireturn, 1) := by decide +kernel
theorem dX10_customer_0 : decode cX10_customer 0 = .ok (.aload_n 0, 1) := by decide +kernel
theorem dX10_customer_1 : decode cX10_customer 1 = .ok (.iload_n 1, 1) := by decide +kernel
theorem dX10_customer_2 : decode cX10_customer 2 = .ok (.invokevirtual 177, 3) := by decide +kernel
theorem dX10_customer_5 : decode cX10_customer 5 = .ok (.ifCond .eq 12, 3) := by decide +kernel
theorem dX10_customer_8 : decode cX10_customer 8 = .ok (.iload_n 2, 1) := by decide +kernel
theorem dX10_customer_9 : decode cX10_customer 9 = .ok (.iconst 0, 1) := by decide +kernel
theorem dX10_customer_10 : decode cX10_customer 10 = .ok (.iconst 5, 1) := by decide +kernel
theorem dX10_customer_11 : decode cX10_customer 11 = .ok (.invokestatic 67, 3) := by decide +kernel
theorem dX10_customer_14 : decode cX10_customer 14 = .ok (.ifCond .ne 5, 3) := by decide +kernel
theorem dX10_customer_17 : decode cX10_customer 17 = .ok (.iconst (-1), 1) := by decide +kernel
theorem dX10_customer_18 : decode cX10_customer 18 = .ok (.ireturn, 1) := by decide +kernel
theorem dX10_customer_19 : decode cX10_customer 19 = .ok (.iload_n 2, 1) := by decide +kernel
theorem dX10_customer_20 : decode cX10_customer 20 = .ok (.iconst 4, 1) := by decide +kernel
theorem dX10_customer_21 : decode cX10_customer 21 = .ok (.if_icmp .ge 14, 3) := by decide +kernel
theorem dX10_customer_24 : decode cX10_customer 24 = .ok (.aload_n 0, 1) := by decide +kernel
theorem dX10_customer_25 : decode cX10_customer 25 = .ok (.getfield 25, 3) := by decide +kernel
theorem dX10_customer_28 : decode cX10_customer 28 = .ok (.iconst 4, 1) := by decide +kernel
theorem dX10_customer_29 : decode cX10_customer 29 = .ok (.iload_n 1, 1) := by decide +kernel
theorem dX10_customer_30 : decode cX10_customer 30 = .ok (.imul, 1) := by decide +kernel
theorem dX10_customer_31 : decode cX10_customer 31 = .ok (.iload_n 2, 1) := by decide +kernel
theorem dX10_customer_32 : decode cX10_customer 32 = .ok (.iadd, 1) := by decide +kernel
theorem dX10_customer_33 : decode cX10_customer 33 = .ok (.iaload, 1) := by decide +kernel
theorem dX10_customer_34 : decode cX10_customer 34 = .ok (.ireturn, 1) := by decide +kernel
theorem dX10_customer_35 : decode cX10_customer 35 = .ok (.aload_n 0, 1) := by decide +kernel
theorem dX10_customer_36 : decode cX10_customer 36 = .ok (.invokevirtual 174, 3) := by decide +kernel
theorem dX10_customer_39 : decode cX10_customer 39 = .ok (.iload_n 2, 1) := by decide +kernel
theorem dX10_customer_40 : decode cX10_customer 40 = .ok (.iconst 5, 1) := by decide +kernel
theorem dX10_customer_41 : decode cX10_customer 41 = .ok (.if_icmp .ne 12, 3) := by decide +kernel
theorem dX10_customer_44 : decode cX10_customer 44 = .ok (.aload_n 0, 1) := by decide +kernel
theorem dX10_customer_45 : decode cX10_customer 45 = .ok (.getfield 43, 3) := by decide +kernel
theorem dX10_customer_48 : decode cX10_customer 48 = .ok (.iload_n 1, 1) := by decide +kernel
theorem dX10_customer_49 : decode cX10_customer 49 = .ok (.iaload, 1) := by decide +kernel
theorem dX10_customer_50 : decode cX10_customer 50 = .ok (.goto 28, 3) := by decide +kernel
theorem dX10_customer_53 : decode cX10_customer 53 = .ok (.aload_n 0, 1) := by decide +kernel
theorem dX10_customer_54 : decode cX10_customer 54 = .ok (.getfield 25, 3) := by decide +kernel
theorem dX10_customer_57 : decode cX10_customer 57 = .ok (.iconst 4, 1) := by decide +kernel
theorem dX10_customer_58 : decode cX10_customer 58 = .ok (.iload_n 1, 1) := by decide +kernel
theorem dX10_customer_59 : decode cX10_customer 59 = .ok (.imul, 1) := by decide +kernel
theorem dX10_customer_60 : decode cX10_customer 60 = .ok (.iaload, 1) := by decide +kernel
theorem dX10_customer_61 : decode cX10_customer 61 = .ok (.aload_n 0, 1) := by decide +kernel
theorem dX10_customer_62 : decode cX10_customer 62 = .ok (.getfield 28, 3) := by decide +kernel
theorem dX10_customer_65 : decode cX10_customer 65 = .ok (.iconst 0, 1) := by decide +kernel
theorem dX10_customer_66 : decode cX10_customer 66 = .ok (.iaload, 1) := by decide +kernel
theorem dX10_customer_67 : decode cX10_customer 67 = .ok (.bipush 14, 2) := by decide +kernel
theorem dX10_customer_69 : decode cX10_customer 69 = .ok (.irem, 1) := by decide +kernel
theorem dX10_customer_70 : decode cX10_customer 70 = .ok (.if_icmp .ne 7, 3) := by decide +kernel
theorem dX10_customer_73 : decode cX10_customer 73 = .ok (.iconst 1, 1) := by decide +kernel
theorem dX10_customer_74 : decode cX10_customer 74 = .ok (.goto 4, 3) := by decide +kernel
theorem dX10_customer_77 : decode cX10_customer 77 = .ok (.iconst 0, 1) := by decide +kernel
theorem dX10_customer_78 : decode cX10_customer 78 = .ok (.ireturn, 1) := by decide +kernel
theorem dX10_quarrel_0 : decode cX10_quarrel 0 = .ok (.aload_n 0, 1) := by decide +kernel
theorem dX10_quarrel_1 : decode cX10_quarrel 1 = .ok (.iload_n 1, 1) := by decide +kernel
theorem dX10_quarrel_2 : decode cX10_quarrel 2 = .ok (.iload_n 2, 1) := by decide +kernel
theorem dX10_quarrel_3 : decode cX10_quarrel 3 = .ok (.invokevirtual 180, 3) := by decide +kernel
theorem dX10_quarrel_6 : decode cX10_quarrel 6 = .ok (.ifCond .eq 18, 3) := by decide +kernel
theorem dX10_quarrel_9 : decode cX10_quarrel 9 = .ok (.aload_n 0, 1) := by decide +kernel
theorem dX10_quarrel_10 : decode cX10_quarrel 10 = .ok (.getfield 28, 3) := by decide +kernel
theorem dX10_quarrel_13 : decode cX10_quarrel 13 = .ok (.iconst 5, 1) := by decide +kernel
theorem dX10_quarrel_14 : decode cX10_quarrel 14 = .ok (.iload_n 1, 1) := by decide +kernel
theorem dX10_quarrel_15 : decode cX10_quarrel 15 = .ok (.iadd, 1) := by decide +kernel
theorem dX10_quarrel_16 : decode cX10_quarrel 16 = .ok (.iaload, 1) := by decide +kernel
theorem dX10_quarrel_17 : decode cX10_quarrel 17 = .ok (.iload_n 2, 1) := by decide +kernel
theorem dX10_quarrel_18 : decode cX10_quarrel 18 = .ok (.ishr, 1) := by decide +kernel
theorem dX10_quarrel_19 : decode cX10_quarrel 19 = .ok (.iconst 1, 1) := by decide +kernel
theorem dX10_quarrel_20 : decode cX10_quarrel 20 = .ok (.iand, 1) := by decide +kernel
theorem dX10_quarrel_21 : decode cX10_quarrel 21 = .ok (.goto 4, 3) := by decide +kernel
theorem dX10_quarrel_24 : decode cX10_quarrel 24 = .ok (.iconst (-1), 1) := by decide +kernel
theorem dX10_quarrel_25 : decode cX10_quarrel 25 = .ok (.ireturn, 1) := by decide +kernel
theorem dX10_woken_0 : decode cX10_woken 0 = .ok (.aload_n 0, 1) := by decide +kernel
theorem dX10_woken_1 : decode cX10_woken 1 = .ok (.invokevirtual 174, 3) := by decide +kernel
theorem dX10_woken_4 : decode cX10_woken 4 = .ok (.aload_n 0, 1) := by decide +kernel
theorem dX10_woken_5 : decode cX10_woken 5 = .ok (.getfield 152, 3) := by decide +kernel
theorem dX10_woken_8 : decode cX10_woken 8 = .ok (.ireturn, 1) := by decide +kernel
theorem dX10_note_0 : decode cX10_note 0 = .ok (.aload_n 0, 1) := by decide +kernel
theorem dX10_note_1 : decode cX10_note 1 = .ok (.getfield 133, 3) := by decide +kernel
theorem dX10_note_4 : decode cX10_note 4 = .ok (.bipush 8, 2) := by decide +kernel
theorem dX10_note_6 : decode cX10_note 6 = .ok (.if_icmp .ne 29, 3) := by decide +kernel
theorem dX10_note_9 : decode cX10_note 9 = .ok (.aload_n 0, 1) := by decide +kernel
theorem dX10_note_10 : decode cX10_note 10 = .ok (.getfield 34, 3) := by decide +kernel
theorem dX10_note_13 : decode cX10_note 13 = .ok (.bipush 17, 2) := by decide +kernel
theorem dX10_note_15 : decode cX10_note 15 = .ok (.aload_n 0, 1) := by decide +kernel
theorem dX10_note_16 : decode cX10_note 16 = .ok (.getfield 34, 3) := by decide +kernel
theorem dX10_note_19 : decode cX10_note 19 = .ok (.iconst 0, 1) := by decide +kernel
theorem dX10_note_20 : decode cX10_note 20 = .ok (.bipush 119, 2) := by decide +kernel
theorem dX10_note_22 : decode cX10_note 22 = .ok (.invokestatic 126, 3) := by decide +kernel
theorem dX10_note_25 : decode cX10_note 25 = .ok (.aload_n 0, 1) := by decide +kernel
theorem dX10_note_26 : decode cX10_note 26 = .ok (.dup, 1) := by decide +kernel
theorem dX10_note_27 : decode cX10_note 27 = .ok (.getfield 133, 3) := by decide +kernel
theorem dX10_note_30 : decode cX10_note 30 = .ok (.iconst 1, 1) := by decide +kernel
theorem dX10_note_31 : decode cX10_note 31 = .ok (.isub, 1) := by decide +kernel
theorem dX10_note_32 : decode cX10_note 32 = .ok (.putfield 133, 3) := by decide +kernel
theorem dX10_note_35 : decode cX10_note 35 = .ok (.aload_n 0, 1) := by decide +kernel
theorem dX10_note_36 : decode cX10_note 36 = .ok (.getfield 28, 3) := by decide +kernel
theorem dX10_note_39 : decode cX10_note 39 = .ok (.iconst 0, 1) := by decide +kernel
theorem dX10_note_40 : decode cX10_note 40 = .ok (.aload_n 0, 1) := by decide +kernel
theorem dX10_note_41 : decode cX10_note 41 = .ok (.getfield 34, 3) := by decide +kernel
theorem dX10_note_44 : decode cX10_note 44 = .ok (.bipush 17, 2) := by decide +kernel
theorem dX10_note_46 : decode cX10_note 46 = .ok (.aload_n 0, 1) := by decide +kernel
theorem dX10_note_47 : decode cX10_note 47 = .ok (.getfield 133, 3) := by decide +kernel
theorem dX10_note_50 : decode cX10_note 50 = .ok (.imul, 1) := by decide +kernel
theorem dX10_note_51 : decode cX10_note 51 = .ok (.bipush 17, 2) := by decide +kernel
theorem dX10_note_53 : decode cX10_note 53 = .ok (.invokestatic 126, 3) := by decide +kernel
theorem dX10_note_56 : decode cX10_note 56 = .ok (.aload_n 0, 1) := by decide +kernel
theorem dX10_note_57 : decode cX10_note 57 = .ok (.dup, 1) := by decide +kernel
theorem dX10_note_58 : decode cX10_note 58 = .ok (.getfield 133, 3) := by decide +kernel
theorem dX10_note_61 : decode cX10_note 61 = .ok (.iconst 1, 1) := by decide +kernel
theorem dX10_note_62 : decode cX10_note 62 = .ok (.iadd, 1) := by decide +kernel
theorem dX10_note_63 : decode cX10_note 63 = .ok (.putfield 133, 3) := by decide +kernel
theorem dX10_note_66 : decode cX10_note 66 = .ok (.return_, 1) := by decide +kernel
theorem dX10_pass_0 : decode cX10_pass 0 = .ok (.iload_n 1, 1) := by decide +kernel
theorem dX10_pass_1 : decode cX10_pass 1 = .ok (.iconst 1, 1) := by decide +kernel
theorem dX10_pass_2 : decode cX10_pass 2 = .ok (.bipush 14, 2) := by decide +kernel
theorem dX10_pass_4 : decode cX10_pass 4 = .ok (.invokestatic 67, 3) := by decide +kernel
theorem dX10_pass_7 : decode cX10_pass 7 = .ok (.ifCond .ne 5, 3) := by decide +kernel
theorem dX10_pass_10 : decode cX10_pass 10 = .ok (.iconst (-1), 1) := by decide +kernel
theorem dX10_pass_11 : decode cX10_pass 11 = .ok (.ireturn, 1) := by decide +kernel
theorem dX10_pass_12 : decode cX10_pass 12 = .ok (.aload_n 0, 1) := by decide +kernel
theorem dX10_pass_13 : decode cX10_pass 13 = .ok (.invokevirtual 183, 3) := by decide +kernel
theorem dX10_pass_16 : decode cX10_pass 16 = .ok (.aload_n 0, 1) := by decide +kernel
theorem dX10_pass_17 : decode cX10_pass 17 = .ok (.bipush (-4), 2) := by decide +kernel
theorem dX10_pass_19 : decode cX10_pass 19 = .ok (.putfield 139, 3) := by decide +kernel
theorem dX10_pass_22 : decode cX10_pass 22 = .ok (.iconst 0, 1) := by decide +kernel
theorem dX10_pass_23 : decode cX10_pass 23 = .ok (.istore_n 2, 1) := by decide +kernel
theorem dX10_pass_24 : decode cX10_pass 24 = .ok (.iload_n 2, 1) := by decide +kernel
theorem dX10_pass_25 : decode cX10_pass 25 = .ok (.iload_n 1, 1) := by decide +kernel
theorem dX10_pass_26 : decode cX10_pass 26 = .ok (.if_icmp .ge 18, 3) := by decide +kernel
theorem dX10_pass_29 : decode cX10_pass 29 = .ok (.aload_n 0, 1) := by decide +kernel
theorem dX10_pass_30 : decode cX10_pass 30 = .ok (.aload_n 0, 1) := by decide +kernel
theorem dX10_pass_31 : decode cX10_pass 31 = .ok (.getfield 28, 3) := by decide +kernel
theorem dX10_pass_34 : decode cX10_pass 34 = .ok (.invokevirtual 186, 3) := by decide +kernel
theorem dX10_pass_37 : decode cX10_pass 37 = .ok (.pop, 1) := by decide +kernel
theorem dX10_pass_38 : decode cX10_pass 38 = .ok (.iinc 2 1, 3) := by decide +kernel
theorem dX10_pass_41 : decode cX10_pass 41 = .ok (.goto (-17), 3) := by decide +kernel
theorem dX10_pass_44 : decode cX10_pass 44 = .ok (.aload_n 0, 1) := by decide +kernel
theorem dX10_pass_45 : decode cX10_pass 45 = .ok (.getfield 28, 3) := by decide +kernel
theorem dX10_pass_48 : decode cX10_pass 48 = .ok (.iconst 0, 1) := by decide +kernel
theorem dX10_pass_49 : decode cX10_pass 49 = .ok (.iaload, 1) := by decide +kernel
theorem dX10_pass_50 : decode cX10_pass 50 = .ok (.ireturn, 1) := by decide +kernel
theorem dX10_supper_0 : decode cX10_supper 0 = .ok (.aload_n 0, 1) := by decide +kernel
theorem dX10_supper_1 : decode cX10_supper 1 = .ok (.iload_n 1, 1) := by decide +kernel
theorem dX10_supper_2 : decode cX10_supper 2 = .ok (.invokevirtual 71, 3) := by decide +kernel
theorem dX10_supper_5 : decode cX10_supper 5 = .ok (.ifCond .ne 5, 3) := by decide +kernel
theorem dX10_supper_8 : decode cX10_supper 8 = .ok (.iconst (-1), 1) := by decide +kernel
theorem dX10_supper_9 : decode cX10_supper 9 = .ok (.ireturn, 1) := by decide +kernel
theorem dX10_supper_10 : decode cX10_supper 10 = .ok (.aload_n 0, 1) := by decide +kernel
theorem dX10_supper_11 : decode cX10_supper 11 = .ok (.getfield 28, 3) := by decide +kernel
theorem dX10_supper_14 : decode cX10_supper 14 = .ok (.iconst 4, 1) := by decide +kernel
theorem dX10_supper_15 : decode cX10_supper 15 = .ok (.iaload, 1) := by decide +kernel
theorem dX10_supper_16 : decode cX10_supper 16 = .ok (.iload_n 1, 1) := by decide +kernel
theorem dX10_supper_17 : decode cX10_supper 17 = .ok (.invokestatic 107, 3) := by decide +kernel
theorem dX10_supper_20 : decode cX10_supper 20 = .ok (.ifCond .eq 6, 3) := by decide +kernel
theorem dX10_supper_23 : decode cX10_supper 23 = .ok (.bipush (-2), 2) := by decide +kernel
theorem dX10_supper_25 : decode cX10_supper 25 = .ok (.ireturn, 1) := by decide +kernel
theorem dX10_supper_26 : decode cX10_supper 26 = .ok (.aload_n 0, 1) := by decide +kernel
theorem dX10_supper_27 : decode cX10_supper 27 = .ok (.invokevirtual 183, 3) := by decide +kernel
theorem dX10_supper_30 : decode cX10_supper 30 = .ok (.aload_n 0, 1) := by decide +kernel
theorem dX10_supper_31 : decode cX10_supper 31 = .ok (.getfield 28, 3) := by decide +kernel
theorem dX10_supper_34 : decode cX10_supper 34 = .ok (.iconst 4, 1) := by decide +kernel
theorem dX10_supper_35 : decode cX10_supper 35 = .ok (.aload_n 0, 1) := by decide +kernel
theorem dX10_supper_36 : decode cX10_supper 36 = .ok (.getfield 28, 3) := by decide +kernel
theorem dX10_supper_39 : decode cX10_supper 39 = .ok (.iconst 4, 1) := by decide +kernel
theorem dX10_supper_40 : decode cX10_supper 40 = .ok (.iaload, 1) := by decide +kernel
theorem dX10_supper_41 : decode cX10_supper 41 = .ok (.iconst 1, 1) := by decide +kernel
theorem dX10_supper_42 : decode cX10_supper 42 = .ok (.iload_n 1, 1) := by decide +kernel
theorem dX10_supper_43 : decode cX10_supper 43 = .ok (.ishl, 1) := by decide +kernel
theorem dX10_supper_44 : decode cX10_supper 44 = .ok (.ior, 1) := by decide +kernel
theorem dX10_supper_45 : decode cX10_supper 45 = .ok (.iastore, 1) := by decide +kernel
theorem dX10_supper_46 : decode cX10_supper 46 = .ok (.aload_n 0, 1) := by decide +kernel
theorem dX10_supper_47 : decode cX10_supper 47 = .ok (.getfield 28, 3) := by decide +kernel
theorem dX10_supper_50 : decode cX10_supper 50 = .ok (.iconst 4, 1) := by decide +kernel
theorem dX10_supper_51 : decode cX10_supper 51 = .ok (.iaload, 1) := by decide +kernel
theorem dX10_supper_52 : decode cX10_supper 52 = .ok (.invokestatic 75, 3) := by decide +kernel
theorem dX10_supper_55 : decode cX10_supper 55 = .ok (.ireturn, 1) := by decide +kernel
theorem dX10_settle_0 : decode cX10_settle 0 = .ok (.aload_n 0, 1) := by decide +kernel
theorem dX10_settle_1 : decode cX10_settle 1 = .ok (.iload_n 1, 1) := by decide +kernel
theorem dX10_settle_2 : decode cX10_settle 2 = .ok (.iload_n 2, 1) := by decide +kernel
theorem dX10_settle_3 : decode cX10_settle 3 = .ok (.invokevirtual 180, 3) := by decide +kernel
theorem dX10_settle_6 : decode cX10_settle 6 = .ok (.ifCond .ne 5, 3) := by decide +kernel
theorem dX10_settle_9 : decode cX10_settle 9 = .ok (.iconst (-1), 1) := by decide +kernel
theorem dX10_settle_10 : decode cX10_settle 10 = .ok (.ireturn, 1) := by decide +kernel
theorem dX10_settle_11 : decode cX10_settle 11 = .ok (.aload_n 0, 1) := by decide +kernel
theorem dX10_settle_12 : decode cX10_settle 12 = .ok (.getfield 28, 3) := by decide +kernel
theorem dX10_settle_15 : decode cX10_settle 15 = .ok (.iconst 5, 1) := by decide +kernel
theorem dX10_settle_16 : decode cX10_settle 16 = .ok (.iload_n 1, 1) := by decide +kernel
theorem dX10_settle_17 : decode cX10_settle 17 = .ok (.iadd, 1) := by decide +kernel
theorem dX10_settle_18 : decode cX10_settle 18 = .ok (.iaload, 1) := by decide +kernel
theorem dX10_settle_19 : decode cX10_settle 19 = .ok (.iload_n 2, 1) := by decide +kernel
theorem dX10_settle_20 : decode cX10_settle 20 = .ok (.invokestatic 107, 3) := by decide +kernel
theorem dX10_settle_23 : decode cX10_settle 23 = .ok (.ifCond .ne 19, 3) := by decide +kernel
theorem dX10_settle_26 : decode cX10_settle 26 = .ok (.aload_n 0, 1) := by decide +kernel
theorem dX10_settle_27 : decode cX10_settle 27 = .ok (.getfield 28, 3) := by decide +kernel
theorem dX10_settle_30 : decode cX10_settle 30 = .ok (.iconst 5, 1) := by decide +kernel
theorem dX10_settle_31 : decode cX10_settle 31 = .ok (.invokestatic 111, 3) := by decide +kernel
theorem dX10_settle_34 : decode cX10_settle 34 = .ok (.bipush 6, 2) := by decide +kernel
theorem dX10_settle_36 : decode cX10_settle 36 = .ok (.if_icmp .ne 6, 3) := by decide +kernel
theorem dX10_settle_39 : decode cX10_settle 39 = .ok (.bipush (-3), 2) := by decide +kernel
theorem dX10_settle_41 : decode cX10_settle 41 = .ok (.ireturn, 1) := by decide +kernel
theorem dX10_settle_42 : decode cX10_settle 42 = .ok (.aload_n 0, 1) := by decide +kernel
theorem dX10_settle_43 : decode cX10_settle 43 = .ok (.invokevirtual 183, 3) := by decide +kernel
theorem dX10_settle_46 : decode cX10_settle 46 = .ok (.aload_n 0, 1) := by decide +kernel
theorem dX10_settle_47 : decode cX10_settle 47 = .ok (.getfield 28, 3) := by decide +kernel
theorem dX10_settle_50 : decode cX10_settle 50 = .ok (.iconst 5, 1) := by decide +kernel
theorem dX10_settle_51 : decode cX10_settle 51 = .ok (.iload_n 1, 1) := by decide +kernel
theorem dX10_settle_52 : decode cX10_settle 52 = .ok (.iload_n 2, 1) := by decide +kernel
theorem dX10_settle_53 : decode cX10_settle 53 = .ok (.invokestatic 54, 3) := by decide +kernel
theorem dX10_settle_56 : decode cX10_settle 56 = .ok (.aload_n 0, 1) := by decide +kernel
theorem dX10_settle_57 : decode cX10_settle 57 = .ok (.getfield 28, 3) := by decide +kernel
theorem dX10_settle_60 : decode cX10_settle 60 = .ok (.iconst 5, 1) := by decide +kernel
theorem dX10_settle_61 : decode cX10_settle 61 = .ok (.iload_n 1, 1) := by decide +kernel
theorem dX10_settle_62 : decode cX10_settle 62 = .ok (.iadd, 1) := by decide +kernel
theorem dX10_settle_63 : decode cX10_settle 63 = .ok (.iaload, 1) := by decide +kernel
theorem dX10_settle_64 : decode cX10_settle 64 = .ok (.iload_n 2, 1) := by decide +kernel
theorem dX10_settle_65 : decode cX10_settle 65 = .ok (.ishr, 1) := by decide +kernel
theorem dX10_settle_66 : decode cX10_settle 66 = .ok (.iconst 1, 1) := by decide +kernel
theorem dX10_settle_67 : decode cX10_settle 67 = .ok (.iand, 1) := by decide +kernel
theorem dX10_settle_68 : decode cX10_settle 68 = .ok (.ireturn, 1) := by decide +kernel
theorem dX10_lull_0 : decode cX10_lull 0 = .ok (.aload_n 0, 1) := by decide +kernel
theorem dX10_lull_1 : decode cX10_lull 1 = .ok (.iload_n 1, 1) := by decide +kernel
theorem dX10_lull_2 : decode cX10_lull 2 = .ok (.invokevirtual 71, 3) := by decide +kernel
theorem dX10_lull_5 : decode cX10_lull 5 = .ok (.ifCond .ne 5, 3) := by decide +kernel
theorem dX10_lull_8 : decode cX10_lull 8 = .ok (.iconst (-1), 1) := by decide +kernel
theorem dX10_lull_9 : decode cX10_lull 9 = .ok (.ireturn, 1) := by decide +kernel
theorem dX10_lull_10 : decode cX10_lull 10 = .ok (.aload_n 0, 1) := by decide +kernel
theorem dX10_lull_11 : decode cX10_lull 11 = .ok (.getfield 28, 3) := by decide +kernel
theorem dX10_lull_14 : decode cX10_lull 14 = .ok (.bipush 11, 2) := by decide +kernel
theorem dX10_lull_16 : decode cX10_lull 16 = .ok (.iload_n 1, 1) := by decide +kernel
theorem dX10_lull_17 : decode cX10_lull 17 = .ok (.iadd, 1) := by decide +kernel
theorem dX10_lull_18 : decode cX10_lull 18 = .ok (.iaload, 1) := by decide +kernel
theorem dX10_lull_19 : decode cX10_lull 19 = .ok (.ifCond .ne 6, 3) := by decide +kernel
theorem dX10_lull_22 : decode cX10_lull 22 = .ok (.bipush (-2), 2) := by decide +kernel
theorem dX10_lull_24 : decode cX10_lull 24 = .ok (.ireturn, 1) := by decide +kernel
theorem dX10_lull_25 : decode cX10_lull 25 = .ok (.aload_n 0, 1) := by decide +kernel
theorem dX10_lull_26 : decode cX10_lull 26 = .ok (.invokevirtual 183, 3) := by decide +kernel
theorem dX10_lull_29 : decode cX10_lull 29 = .ok (.aload_n 0, 1) := by decide +kernel
theorem dX10_lull_30 : decode cX10_lull 30 = .ok (.getfield 28, 3) := by decide +kernel
theorem dX10_lull_33 : decode cX10_lull 33 = .ok (.bipush 11, 2) := by decide +kernel
theorem dX10_lull_35 : decode cX10_lull 35 = .ok (.iload_n 1, 1) := by decide +kernel
theorem dX10_lull_36 : decode cX10_lull 36 = .ok (.iadd, 1) := by decide +kernel
theorem dX10_lull_37 : decode cX10_lull 37 = .ok (.iaload, 1) := by decide +kernel
theorem dX10_lull_38 : decode cX10_lull 38 = .ok (.istore_n 2, 1) := by decide +kernel
theorem dX10_lull_39 : decode cX10_lull 39 = .ok (.aload_n 0, 1) := by decide +kernel
theorem dX10_lull_40 : decode cX10_lull 40 = .ok (.getfield 28, 3) := by decide +kernel
theorem dX10_lull_43 : decode cX10_lull 43 = .ok (.bipush 11, 2) := by decide +kernel
theorem dX10_lull_45 : decode cX10_lull 45 = .ok (.iload_n 1, 1) := by decide +kernel
theorem dX10_lull_46 : decode cX10_lull 46 = .ok (.iadd, 1) := by decide +kernel
theorem dX10_lull_47 : decode cX10_lull 47 = .ok (.iconst 0, 1) := by decide +kernel
theorem dX10_lull_48 : decode cX10_lull 48 = .ok (.iastore, 1) := by decide +kernel
theorem dX10_lull_49 : decode cX10_lull 49 = .ok (.iload_n 2, 1) := by decide +kernel
theorem dX10_lull_50 : decode cX10_lull 50 = .ok (.ireturn, 1) := by decide +kernel
theorem dX10_undo_0 : decode cX10_undo 0 = .ok (.aload_n 0, 1) := by decide +kernel
theorem dX10_undo_1 : decode cX10_undo 1 = .ok (.getfield 133, 3) := by decide +kernel
theorem dX10_undo_4 : decode cX10_undo 4 = .ok (.ifCond .ne 6, 3) := by decide +kernel
theorem dX10_undo_7 : decode cX10_undo 7 = .ok (.bipush (-2), 2) := by decide +kernel
theorem dX10_undo_9 : decode cX10_undo 9 = .ok (.ireturn, 1) := by decide +kernel
theorem dX10_undo_10 : decode cX10_undo 10 = .ok (.aload_n 0, 1) := by decide +kernel
theorem dX10_undo_11 : decode cX10_undo 11 = .ok (.dup, 1) := by decide +kernel
theorem dX10_undo_12 : decode cX10_undo 12 = .ok (.getfield 133, 3) := by decide +kernel
theorem dX10_undo_15 : decode cX10_undo 15 = .ok (.iconst 1, 1) := by decide +kernel
theorem dX10_undo_16 : decode cX10_undo 16 = .ok (.isub, 1) := by decide +kernel
theorem dX10_undo_17 : decode cX10_undo 17 = .ok (.putfield 133, 3) := by decide +kernel
theorem dX10_undo_20 : decode cX10_undo 20 = .ok (.aload_n 0, 1) := by decide +kernel
theorem dX10_undo_21 : decode cX10_undo 21 = .ok (.getfield 34, 3) := by decide +kernel
theorem dX10_undo_24 : decode cX10_undo 24 = .ok (.bipush 17, 2) := by decide +kernel
theorem dX10_undo_26 : decode cX10_undo 26 = .ok (.aload_n 0, 1) := by decide +kernel
theorem dX10_undo_27 : decode cX10_undo 27 = .ok (.getfield 133, 3) := by decide +kernel
theorem dX10_undo_30 : decode cX10_undo 30 = .ok (.imul, 1) := by decide +kernel
theorem dX10_undo_31 : decode cX10_undo 31 = .ok (.aload_n 0, 1) := by decide +kernel
theorem dX10_undo_32 : decode cX10_undo 32 = .ok (.getfield 28, 3) := by decide +kernel
theorem dX10_undo_35 : decode cX10_undo 35 = .ok (.iconst 0, 1) := by decide +kernel
theorem dX10_undo_36 : decode cX10_undo 36 = .ok (.bipush 17, 2) := by decide +kernel
theorem dX10_undo_38 : decode cX10_undo 38 = .ok (.invokestatic 126, 3) := by decide +kernel
theorem dX10_undo_41 : decode cX10_undo 41 = .ok (.aload_n 0, 1) := by decide +kernel
theorem dX10_undo_42 : decode cX10_undo 42 = .ok (.getfield 133, 3) := by decide +kernel
theorem dX10_undo_45 : decode cX10_undo 45 = .ok (.ireturn, 1) := by decide +kernel
theorem dX10_begin_0 : decode cX10_begin 0 = .ok (.aload_n 0, 1) := by decide +kernel
theorem dX10_begin_1 : decode cX10_begin 1 = .ok (.getfield 28, 3) := by decide +kernel
theorem dX10_begin_4 : decode cX10_begin 4 = .ok (.iconst 0, 1) := by decide +kernel
theorem dX10_begin_5 : decode cX10_begin 5 = .ok (.aload_n 0, 1) := by decide +kernel
theorem dX10_begin_6 : decode cX10_begin 6 = .ok (.getfield 31, 3) := by decide +kernel
theorem dX10_begin_9 : decode cX10_begin 9 = .ok (.iconst 0, 1) := by decide +kernel
theorem dX10_begin_10 : decode cX10_begin 10 = .ok (.bipush 17, 2) := by decide +kernel
theorem dX10_begin_12 : decode cX10_begin 12 = .ok (.invokestatic 126, 3) := by decide +kernel
theorem dX10_begin_15 : decode cX10_begin 15 = .ok (.aload_n 0, 1) := by decide +kernel
theorem dX10_begin_16 : decode cX10_begin 16 = .ok (.bipush (-4), 2) := by decide +kernel
theorem dX10_begin_18 : decode cX10_begin 18 = .ok (.putfield 139, 3) := by decide +kernel
theorem dX10_begin_21 : decode cX10_begin 21 = .ok (.return_, 1) := by decide +kernel
theorem dX10_behind_0 : decode cX10_behind 0 = .ok (.iload_n 1, 1) := by decide +kernel
theorem dX10_behind_1 : decode cX10_behind 1 = .ok (.iconst 0, 1) := by decide +kernel
theorem dX10_behind_2 : decode cX10_behind 2 = .ok (.bipush 28, 2) := by decide +kernel
theorem dX10_behind_4 : decode cX10_behind 4 = .ok (.invokestatic 67, 3) := by decide +kernel
theorem dX10_behind_7 : decode cX10_behind 7 = .ok (.ifCond .eq 12, 3) := by decide +kernel
theorem dX10_behind_10 : decode cX10_behind 10 = .ok (.iload_n 2, 1) := by decide +kernel
theorem dX10_behind_11 : decode cX10_behind 11 = .ok (.iconst 0, 1) := by decide +kernel
theorem dX10_behind_12 : decode cX10_behind 12 = .ok (.iconst 2, 1) := by decide +kernel
theorem dX10_behind_13 : decode cX10_behind 13 = .ok (.invokestatic 67, 3) := by decide +kernel
theorem dX10_behind_16 : decode cX10_behind 16 = .ok (.ifCond .ne 5, 3) := by decide +kernel
theorem dX10_behind_19 : decode cX10_behind 19 = .ok (.iconst (-1), 1) := by decide +kernel
theorem dX10_behind_20 : decode cX10_behind 20 = .ok (.ireturn, 1) := by decide +kernel
theorem dX10_behind_21 : decode cX10_behind 21 = .ok (.aload_n 0, 1) := by decide +kernel
theorem dX10_behind_22 : decode cX10_behind 22 = .ok (.invokevirtual 190, 3) := by decide +kernel
theorem dX10_behind_25 : decode cX10_behind 25 = .ok (.iconst 0, 1) := by decide +kernel
theorem dX10_behind_26 : decode cX10_behind 26 = .ok (.istore_n 3, 1) := by decide +kernel
theorem dX10_behind_27 : decode cX10_behind 27 = .ok (.iload_n 3, 1) := by decide +kernel
theorem dX10_behind_28 : decode cX10_behind 28 = .ok (.iload_n 1, 1) := by decide +kernel
theorem dX10_behind_29 : decode cX10_behind 29 = .ok (.if_icmp .ge 18, 3) := by decide +kernel
theorem dX10_behind_32 : decode cX10_behind 32 = .ok (.aload_n 0, 1) := by decide +kernel
theorem dX10_behind_33 : decode cX10_behind 33 = .ok (.aload_n 0, 1) := by decide +kernel
theorem dX10_behind_34 : decode cX10_behind 34 = .ok (.getfield 31, 3) := by decide +kernel
theorem dX10_behind_37 : decode cX10_behind 37 = .ok (.invokevirtual 186, 3) := by decide +kernel
theorem dX10_behind_40 : decode cX10_behind 40 = .ok (.pop, 1) := by decide +kernel
theorem dX10_behind_41 : decode cX10_behind 41 = .ok (.iinc 3 1, 3) := by decide +kernel
theorem dX10_behind_44 : decode cX10_behind 44 = .ok (.goto (-17), 3) := by decide +kernel
theorem dX10_behind_47 : decode cX10_behind 47 = .ok (.aload_n 0, 1) := by decide +kernel
theorem dX10_behind_48 : decode cX10_behind 48 = .ok (.getfield 31, 3) := by decide +kernel
theorem dX10_behind_51 : decode cX10_behind 51 = .ok (.iconst 1, 1) := by decide +kernel
theorem dX10_behind_52 : decode cX10_behind 52 = .ok (.iload_n 2, 1) := by decide +kernel
theorem dX10_behind_53 : decode cX10_behind 53 = .ok (.iadd, 1) := by decide +kernel
theorem dX10_behind_54 : decode cX10_behind 54 = .ok (.iaload, 1) := by decide +kernel
theorem dX10_behind_55 : decode cX10_behind 55 = .ok (.ireturn, 1) := by decide +kernel
theorem dX10_ham_0 : decode cX10_ham 0 = .ok (.iload_n 1, 1) := by decide +kernel
theorem dX10_ham_1 : decode cX10_ham 1 = .ok (.iconst 0, 1) := by decide +kernel
theorem dX10_ham_2 : decode cX10_ham 2 = .ok (.iconst 1, 1) := by decide +kernel
theorem dX10_ham_3 : decode cX10_ham 3 = .ok (.invokestatic 67, 3) := by decide +kernel
theorem dX10_ham_6 : decode cX10_ham 6 = .ok (.ifCond .ne 5, 3) := by decide +kernel
theorem dX10_ham_9 : decode cX10_ham 9 = .ok (.iconst (-1), 1) := by decide +kernel
theorem dX10_ham_10 : decode cX10_ham 10 = .ok (.ireturn, 1) := by decide +kernel
theorem dX10_ham_11 : decode cX10_ham 11 = .ok (.aload_n 0, 1) := by decide +kernel
theorem dX10_ham_12 : decode cX10_ham 12 = .ok (.invokevirtual 190, 3) := by decide +kernel
theorem dX10_ham_15 : decode cX10_ham 15 = .ok (.iconst 1, 1) := by decide +kernel
theorem dX10_ham_16 : decode cX10_ham 16 = .ok (.istore_n 2, 1) := by decide +kernel
theorem dX10_ham_17 : decode cX10_ham 17 = .ok (.iload_n 2, 1) := by decide +kernel
theorem dX10_ham_18 : decode cX10_ham 18 = .ok (.bipush 28, 2) := by decide +kernel
theorem dX10_ham_20 : decode cX10_ham 20 = .ok (.if_icmp .gt 33, 3) := by decide +kernel
theorem dX10_ham_23 : decode cX10_ham 23 = .ok (.aload_n 0, 1) := by decide +kernel
theorem dX10_ham_24 : decode cX10_ham 24 = .ok (.aload_n 0, 1) := by decide +kernel
theorem dX10_ham_25 : decode cX10_ham 25 = .ok (.getfield 31, 3) := by decide +kernel
theorem dX10_ham_28 : decode cX10_ham 28 = .ok (.invokevirtual 186, 3) := by decide +kernel
theorem dX10_ham_31 : decode cX10_ham 31 = .ok (.ifCond .le 16, 3) := by decide +kernel
theorem dX10_ham_34 : decode cX10_ham 34 = .ok (.iload_n 1, 1) := by decide +kernel
theorem dX10_ham_35 : decode cX10_ham 35 = .ok (.ifCond .ne 7, 3) := by decide +kernel
theorem dX10_ham_38 : decode cX10_ham 38 = .ok (.iload_n 2, 1) := by decide +kernel
theorem dX10_ham_39 : decode cX10_ham 39 = .ok (.goto 7, 3) := by decide +kernel
theorem dX10_ham_42 : decode cX10_ham 42 = .ok (.aload_n 0, 1) := by decide +kernel
theorem dX10_ham_43 : decode cX10_ham 43 = .ok (.getfield 158, 3) := by decide +kernel
theorem dX10_ham_46 : decode cX10_ham 46 = .ok (.ireturn, 1) := by decide +kernel
theorem dX10_ham_47 : decode cX10_ham 47 = .ok (.iinc 2 1, 3) := by decide +kernel
theorem dX10_ham_50 : decode cX10_ham 50 = .ok (.goto (-33), 3) := by decide +kernel
theorem dX10_ham_53 : decode cX10_ham 53 = .ok (.bipush (-4), 2) := by decide +kernel
theorem dX10_ham_55 : decode cX10_ham 55 = .ok (.ireturn, 1) := by decide +kernel
theorem dX10_suppers_0 : decode cX10_suppers 0 = .ok (.iload_n 1, 1) := by decide +kernel
theorem dX10_suppers_1 : decode cX10_suppers 1 = .ok (.iconst 0, 1) := by decide +kernel
theorem dX10_suppers_2 : decode cX10_suppers 2 = .ok (.iconst 1, 1) := by decide +kernel
theorem dX10_suppers_3 : decode cX10_suppers 3 = .ok (.invokestatic 67, 3) := by decide +kernel
theorem dX10_suppers_6 : decode cX10_suppers 6 = .ok (.ifCond .ne 5, 3) := by decide +kernel
theorem dX10_suppers_9 : decode cX10_suppers 9 = .ok (.iconst (-1), 1) := by decide +kernel
theorem dX10_suppers_10 : decode cX10_suppers 10 = .ok (.ireturn, 1) := by decide +kernel
theorem dX10_suppers_11 : decode cX10_suppers 11 = .ok (.iconst 0, 1) := by decide +kernel
theorem dX10_suppers_12 : decode cX10_suppers 12 = .ok (.istore_n 2, 1) := by decide +kernel
theorem dX10_suppers_13 : decode cX10_suppers 13 = .ok (.iconst (-1), 1) := by decide +kernel
theorem dX10_suppers_14 : decode cX10_suppers 14 = .ok (.istore_n 3, 1) := by decide +kernel
theorem dX10_suppers_15 : decode cX10_suppers 15 = .ok (.iconst 0, 1) := by decide +kernel
theorem dX10_suppers_16 : decode cX10_suppers 16 = .ok (.istore 4, 2) := by decide +kernel
theorem dX10_suppers_18 : decode cX10_suppers 18 = .ok (.iload 4, 2) := by decide +kernel
theorem dX10_suppers_20 : decode cX10_suppers 20 = .ok (.iconst 1, 1) := by decide +kernel
theorem dX10_suppers_21 : decode cX10_suppers 21 = .ok (.aload_n 0, 1) := by decide +kernel
theorem dX10_suppers_22 : decode cX10_suppers 22 = .ok (.getfield 50, 3) := by decide +kernel
theorem dX10_suppers_25 : decode cX10_suppers 25 = .ok (.ishl, 1) := by decide +kernel
theorem dX10_suppers_26 : decode cX10_suppers 26 = .ok (.if_icmp .ge 115, 3) := by decide +kernel
theorem dX10_suppers_29 : decode cX10_suppers 29 = .ok (.iload 4, 2) := by decide +kernel
theorem dX10_suppers_31 : decode cX10_suppers 31 = .ok (.aload_n 0, 1) := by decide +kernel
theorem dX10_suppers_32 : decode cX10_suppers 32 = .ok (.getfield 28, 3) := by decide +kernel
theorem dX10_suppers_35 : decode cX10_suppers 35 = .ok (.iconst 4, 1) := by decide +kernel
theorem dX10_suppers_36 : decode cX10_suppers 36 = .ok (.iaload, 1) := by decide +kernel
theorem dX10_suppers_37 : decode cX10_suppers 37 = .ok (.iand, 1) := by decide +kernel
theorem dX10_suppers_38 : decode cX10_suppers 38 = .ok (.ifCond .ne 97, 3) := by decide +kernel
theorem dX10_suppers_41 : decode cX10_suppers 41 = .ok (.aload_n 0, 1) := by decide +kernel
theorem dX10_suppers_42 : decode cX10_suppers 42 = .ok (.invokevirtual 190, 3) := by decide +kernel
theorem dX10_suppers_45 : decode cX10_suppers 45 = .ok (.aload_n 0, 1) := by decide +kernel
theorem dX10_suppers_46 : decode cX10_suppers 46 = .ok (.getfield 31, 3) := by decide +kernel
theorem dX10_suppers_49 : decode cX10_suppers 49 = .ok (.iconst 4, 1) := by decide +kernel
theorem dX10_suppers_50 : decode cX10_suppers 50 = .ok (.aload_n 0, 1) := by decide +kernel
theorem dX10_suppers_51 : decode cX10_suppers 51 = .ok (.getfield 31, 3) := by decide +kernel
theorem dX10_suppers_54 : decode cX10_suppers 54 = .ok (.iconst 4, 1) := by decide +kernel
theorem dX10_suppers_55 : decode cX10_suppers 55 = .ok (.iaload, 1) := by decide +kernel
theorem dX10_suppers_56 : decode cX10_suppers 56 = .ok (.iload 4, 2) := by decide +kernel
theorem dX10_suppers_58 : decode cX10_suppers 58 = .ok (.ior, 1) := by decide +kernel
theorem dX10_suppers_59 : decode cX10_suppers 59 = .ok (.iastore, 1) := by decide +kernel
theorem dX10_suppers_60 : decode cX10_suppers 60 = .ok (.aload_n 0, 1) := by decide +kernel
theorem dX10_suppers_61 : decode cX10_suppers 61 = .ok (.aload_n 0, 1) := by decide +kernel
theorem dX10_suppers_62 : decode cX10_suppers 62 = .ok (.getfield 31, 3) := by decide +kernel
theorem dX10_suppers_65 : decode cX10_suppers 65 = .ok (.bipush (-4), 2) := by decide +kernel
theorem dX10_suppers_67 : decode cX10_suppers 67 = .ok (.iconst 0, 1) := by decide +kernel
theorem dX10_suppers_68 : decode cX10_suppers 68 = .ok (.invokevirtual 170, 3) := by decide +kernel
theorem dX10_suppers_71 : decode cX10_suppers 71 = .ok (.aload_n 0, 1) := by decide +kernel
theorem dX10_suppers_72 : decode cX10_suppers 72 = .ok (.getfield 155, 3) := by decide +kernel
theorem dX10_suppers_75 : decode cX10_suppers 75 = .ok (.iload_n 3, 1) := by decide +kernel
theorem dX10_suppers_76 : decode cX10_suppers 76 = .ok (.if_icmp .gt 23, 3) := by decide +kernel
theorem dX10_suppers_79 : decode cX10_suppers 79 = .ok (.aload_n 0, 1) := by decide +kernel
theorem dX10_suppers_80 : decode cX10_suppers 80 = .ok (.getfield 155, 3) := by decide +kernel
theorem dX10_suppers_83 : decode cX10_suppers 83 = .ok (.iload_n 3, 1) := by decide +kernel
theorem dX10_suppers_84 : decode cX10_suppers 84 = .ok (.if_icmp .ne 19, 3) := by decide +kernel
theorem dX10_suppers_87 : decode cX10_suppers 87 = .ok (.iload 4, 2) := by decide +kernel
theorem dX10_suppers_89 : decode cX10_suppers 89 = .ok (.invokestatic 75, 3) := by decide +kernel
theorem dX10_suppers_92 : decode cX10_suppers 92 = .ok (.iload_n 2, 1) := by decide +kernel
theorem dX10_suppers_93 : decode cX10_suppers 93 = .ok (.invokestatic 75, 3) := by decide +kernel
theorem dX10_suppers_96 : decode cX10_suppers 96 = .ok (.if_icmp .ge 7, 3) := by decide +kernel
theorem dX10_suppers_99 : decode cX10_suppers 99 = .ok (.iconst 1, 1) := by decide +kernel
theorem dX10_suppers_100 : decode cX10_suppers 100 = .ok (.goto 4, 3) := by decide +kernel
theorem dX10_suppers_103 : decode cX10_suppers 103 = .ok (.iconst 0, 1) := by decide +kernel
theorem dX10_suppers_104 : decode cX10_suppers 104 = .ok (.istore 5, 2) := by decide +kernel
theorem dX10_suppers_106 : decode cX10_suppers 106 = .ok (.iload 5, 2) := by decide +kernel
theorem dX10_suppers_108 : decode cX10_suppers 108 = .ok (.ifCond .eq 8, 3) := by decide +kernel
theorem dX10_suppers_111 : decode cX10_suppers 111 = .ok (.iload 4, 2) := by decide +kernel
theorem dX10_suppers_113 : decode cX10_suppers 113 = .ok (.goto 4, 3) := by decide +kernel
theorem dX10_suppers_116 : decode cX10_suppers 116 = .ok (.iload_n 2, 1) := by decide +kernel
theorem dX10_suppers_117 : decode cX10_suppers 117 = .ok (.istore_n 2, 1) := by decide +kernel
theorem dX10_suppers_118 : decode cX10_suppers 118 = .ok (.aload_n 0, 1) := by decide +kernel
theorem dX10_suppers_119 : decode cX10_suppers 119 = .ok (.getfield 155, 3) := by decide +kernel
theorem dX10_suppers_122 : decode cX10_suppers 122 = .ok (.iload_n 3, 1) := by decide +kernel
theorem dX10_suppers_123 : decode cX10_suppers 123 = .ok (.if_icmp .le 10, 3) := by decide +kernel
theorem dX10_suppers_126 : decode cX10_suppers 126 = .ok (.aload_n 0, 1) := by decide +kernel
theorem dX10_suppers_127 : decode cX10_suppers 127 = .ok (.getfield 155, 3) := by decide +kernel
theorem dX10_suppers_130 : decode cX10_suppers 130 = .ok (.goto 4, 3) := by decide +kernel
theorem dX10_suppers_133 : decode cX10_suppers 133 = .ok (.iload_n 3, 1) := by decide +kernel
theorem dX10_suppers_134 : decode cX10_suppers 134 = .ok (.istore_n 3, 1) := by decide +kernel
theorem dX10_suppers_135 : decode cX10_suppers 135 = .ok (.iinc 4 1, 3) := by decide +kernel
theorem dX10_suppers_138 : decode cX10_suppers 138 = .ok (.goto (-120), 3) := by decide +kernel
theorem dX10_suppers_141 : decode cX10_suppers 141 = .ok (.iload_n 1, 1) := by decide +kernel
theorem dX10_suppers_142 : decode cX10_suppers 142 = .ok (.ifCond .ne 7, 3) := by decide +kernel
theorem dX10_suppers_145 : decode cX10_suppers 145 = .ok (.iload_n 2, 1) := by decide +kernel
theorem dX10_suppers_146 : decode cX10_suppers 146 = .ok (.goto 4, 3) := by decide +kernel
theorem dX10_suppers_149 : decode cX10_suppers 149 = .ok (.iload_n 3, 1) := by decide +kernel
theorem dX10_suppers_150 : decode cX10_suppers 150 = .ok (.ireturn, 1) := by decide +kernel
theorem dX10_makeUp_0 : decode cX10_makeUp 0 = .ok (.iconst 0, 1) := by decide +kernel
theorem dX10_makeUp_1 : decode cX10_makeUp 1 = .ok (.istore_n 2, 1) := by decide +kernel
theorem dX10_makeUp_2 : decode cX10_makeUp 2 = .ok (.iconst 0, 1) := by decide +kernel
theorem dX10_makeUp_3 : decode cX10_makeUp 3 = .ok (.istore_n 3, 1) := by decide +kernel
theorem dX10_makeUp_4 : decode cX10_makeUp 4 = .ok (.iload_n 3, 1) := by decide +kernel
theorem dX10_makeUp_5 : decode cX10_makeUp 5 = .ok (.bipush 6, 2) := by decide +kernel
theorem dX10_makeUp_7 : decode cX10_makeUp 7 = .ok (.if_icmp .ge 65, 3) := by decide +kernel
theorem dX10_makeUp_10 : decode cX10_makeUp 10 = .ok (.iload_n 3, 1) := by decide +kernel
theorem dX10_makeUp_11 : decode cX10_makeUp 11 = .ok (.iconst 1, 1) := by decide +kernel
theorem dX10_makeUp_12 : decode cX10_makeUp 12 = .ok (.iadd, 1) := by decide +kernel
theorem dX10_makeUp_13 : decode cX10_makeUp 13 = .ok (.istore 4, 2) := by decide +kernel
theorem dX10_makeUp_15 : decode cX10_makeUp 15 = .ok (.iload 4, 2) := by decide +kernel
theorem dX10_makeUp_17 : decode cX10_makeUp 17 = .ok (.bipush 6, 2) := by decide +kernel
theorem dX10_makeUp_19 : decode cX10_makeUp 19 = .ok (.if_icmp .ge 47, 3) := by decide +kernel
theorem dX10_makeUp_22 : decode cX10_makeUp 22 = .ok (.aload_n 0, 1) := by decide +kernel
theorem dX10_makeUp_23 : decode cX10_makeUp 23 = .ok (.getfield 28, 3) := by decide +kernel
theorem dX10_makeUp_26 : decode cX10_makeUp 26 = .ok (.iconst 5, 1) := by decide +kernel
theorem dX10_makeUp_27 : decode cX10_makeUp 27 = .ok (.iload_n 3, 1) := by decide +kernel
theorem dX10_makeUp_28 : decode cX10_makeUp 28 = .ok (.iadd, 1) := by decide +kernel
theorem dX10_makeUp_29 : decode cX10_makeUp 29 = .ok (.iaload, 1) := by decide +kernel
theorem dX10_makeUp_30 : decode cX10_makeUp 30 = .ok (.iload 4, 2) := by decide +kernel
theorem dX10_makeUp_32 : decode cX10_makeUp 32 = .ok (.invokestatic 107, 3) := by decide +kernel
theorem dX10_makeUp_35 : decode cX10_makeUp 35 = .ok (.ifCond .eq 25, 3) := by decide +kernel
theorem dX10_makeUp_38 : decode cX10_makeUp 38 = .ok (.iload_n 1, 1) := by decide +kernel
theorem dX10_makeUp_39 : decode cX10_makeUp 39 = .ok (.iload_n 2, 1) := by decide +kernel
theorem dX10_makeUp_40 : decode cX10_makeUp 40 = .ok (.invokestatic 107, 3) := by decide +kernel
theorem dX10_makeUp_43 : decode cX10_makeUp 43 = .ok (.ifCond .eq 14, 3) := by decide +kernel
theorem dX10_makeUp_46 : decode cX10_makeUp 46 = .ok (.aload_n 0, 1) := by decide +kernel
theorem dX10_makeUp_47 : decode cX10_makeUp 47 = .ok (.getfield 31, 3) := by decide +kernel
theorem dX10_makeUp_50 : decode cX10_makeUp 50 = .ok (.iconst 5, 1) := by decide +kernel
theorem dX10_makeUp_51 : decode cX10_makeUp 51 = .ok (.iload_n 3, 1) := by decide +kernel
theorem dX10_makeUp_52 : decode cX10_makeUp 52 = .ok (.iload 4, 2) := by decide +kernel
theorem dX10_makeUp_54 : decode cX10_makeUp 54 = .ok (.invokestatic 54, 3) := by decide +kernel
theorem dX10_makeUp_57 : decode cX10_makeUp 57 = .ok (.iinc 2 1, 3) := by decide +kernel
theorem dX10_makeUp_60 : decode cX10_makeUp 60 = .ok (.iinc 4 1, 3) := by decide +kernel
theorem dX10_makeUp_63 : decode cX10_makeUp 63 = .ok (.goto (-48), 3) := by decide +kernel
theorem dX10_makeUp_66 : decode cX10_makeUp 66 = .ok (.iinc 3 1, 3) := by decide +kernel
theorem dX10_makeUp_69 : decode cX10_makeUp 69 = .ok (.goto (-65), 3) := by decide +kernel
theorem dX10_makeUp_72 : decode cX10_makeUp 72 = .ok (.return_, 1) := by decide +kernel
theorem dX10_apart_0 : decode cX10_apart 0 = .ok (.iload_n 1, 1) := by decide +kernel
theorem dX10_apart_1 : decode cX10_apart 1 = .ok (.iconst 1, 1) := by decide +kernel
theorem dX10_apart_2 : decode cX10_apart 2 = .ok (.bipush 14, 2) := by decide +kernel
theorem dX10_apart_4 : decode cX10_apart 4 = .ok (.invokestatic 67, 3) := by decide +kernel
theorem dX10_apart_7 : decode cX10_apart 7 = .ok (.ifCond .eq 12, 3) := by decide +kernel
theorem dX10_apart_10 : decode cX10_apart 10 = .ok (.iload_n 2, 1) := by decide +kernel
theorem dX10_apart_11 : decode cX10_apart 11 = .ok (.iconst 0, 1) := by decide +kernel
theorem dX10_apart_12 : decode cX10_apart 12 = .ok (.iconst 1, 1) := by decide +kernel
theorem dX10_apart_13 : decode cX10_apart 13 = .ok (.invokestatic 67, 3) := by decide +kernel
theorem dX10_apart_16 : decode cX10_apart 16 = .ok (.ifCond .ne 5, 3) := by decide +kernel
theorem dX10_apart_19 : decode cX10_apart 19 = .ok (.iconst (-1), 1) := by decide +kernel
theorem dX10_apart_20 : decode cX10_apart 20 = .ok (.ireturn, 1) := by decide +kernel
theorem dX10_apart_21 : decode cX10_apart 21 = .ok (.iconst 0, 1) := by decide +kernel
theorem dX10_apart_22 : decode cX10_apart 22 = .ok (.istore_n 3, 1) := by decide +kernel
theorem dX10_apart_23 : decode cX10_apart 23 = .ok (.iconst (-1), 1) := by decide +kernel
theorem dX10_apart_24 : decode cX10_apart 24 = .ok (.istore 4, 2) := by decide +kernel
theorem dX10_apart_26 : decode cX10_apart 26 = .ok (.iconst 0, 1) := by decide +kernel
theorem dX10_apart_27 : decode cX10_apart 27 = .ok (.istore 5, 2) := by decide +kernel
theorem dX10_apart_29 : decode cX10_apart 29 = .ok (.iload 5, 2) := by decide +kernel
theorem dX10_apart_31 : decode cX10_apart 31 = .ok (.iconst 1, 1) := by decide +kernel
theorem dX10_apart_32 : decode cX10_apart 32 = .ok (.aload_n 0, 1) := by decide +kernel
theorem dX10_apart_33 : decode cX10_apart 33 = .ok (.getfield 28, 3) := by decide +kernel
theorem dX10_apart_36 : decode cX10_apart 36 = .ok (.iconst 5, 1) := by decide +kernel
theorem dX10_apart_37 : decode cX10_apart 37 = .ok (.invokestatic 111, 3) := by decide +kernel
theorem dX10_apart_40 : decode cX10_apart 40 = .ok (.ishl, 1) := by decide +kernel
theorem dX10_apart_41 : decode cX10_apart 41 = .ok (.if_icmp .ge 116, 3) := by decide +kernel
theorem dX10_apart_44 : decode cX10_apart 44 = .ok (.aload_n 0, 1) := by decide +kernel
theorem dX10_apart_45 : decode cX10_apart 45 = .ok (.invokevirtual 190, 3) := by decide +kernel
theorem dX10_apart_48 : decode cX10_apart 48 = .ok (.aload_n 0, 1) := by decide +kernel
theorem dX10_apart_49 : decode cX10_apart 49 = .ok (.iload 5, 2) := by decide +kernel
theorem dX10_apart_51 : decode cX10_apart 51 = .ok (.invokevirtual 193, 3) := by decide +kernel
theorem dX10_apart_54 : decode cX10_apart 54 = .ok (.iconst 0, 1) := by decide +kernel
theorem dX10_apart_55 : decode cX10_apart 55 = .ok (.istore 6, 2) := by decide +kernel
theorem dX10_apart_57 : decode cX10_apart 57 = .ok (.iconst 0, 1) := by decide +kernel
theorem dX10_apart_58 : decode cX10_apart 58 = .ok (.istore 7, 2) := by decide +kernel
theorem dX10_apart_60 : decode cX10_apart 60 = .ok (.iload 7, 2) := by decide +kernel
theorem dX10_apart_62 : decode cX10_apart 62 = .ok (.iload_n 1, 1) := by decide +kernel
theorem dX10_apart_63 : decode cX10_apart 63 = .ok (.if_icmp .ge 27, 3) := by decide +kernel
theorem dX10_apart_66 : decode cX10_apart 66 = .ok (.aload_n 0, 1) := by decide +kernel
theorem dX10_apart_67 : decode cX10_apart 67 = .ok (.aload_n 0, 1) := by decide +kernel
theorem dX10_apart_68 : decode cX10_apart 68 = .ok (.getfield 31, 3) := by decide +kernel
theorem dX10_apart_71 : decode cX10_apart 71 = .ok (.invokevirtual 186, 3) := by decide +kernel
theorem dX10_apart_74 : decode cX10_apart 74 = .ok (.pop, 1) := by decide +kernel
theorem dX10_apart_75 : decode cX10_apart 75 = .ok (.iload 6, 2) := by decide +kernel
theorem dX10_apart_77 : decode cX10_apart 77 = .ok (.aload_n 0, 1) := by decide +kernel
theorem dX10_apart_78 : decode cX10_apart 78 = .ok (.getfield 155, 3) := by decide +kernel
theorem dX10_apart_81 : decode cX10_apart 81 = .ok (.iadd, 1) := by decide +kernel
theorem dX10_apart_82 : decode cX10_apart 82 = .ok (.istore 6, 2) := by decide +kernel
theorem dX10_apart_84 : decode cX10_apart 84 = .ok (.iinc 7 1, 3) := by decide +kernel
theorem dX10_apart_87 : decode cX10_apart 87 = .ok (.goto (-27), 3) := by decide +kernel
theorem dX10_apart_90 : decode cX10_apart 90 = .ok (.iload 6, 2) := by decide +kernel
theorem dX10_apart_92 : decode cX10_apart 92 = .ok (.iload 4, 2) := by decide +kernel
theorem dX10_apart_94 : decode cX10_apart 94 = .ok (.if_icmp .gt 22, 3) := by decide +kernel
theorem dX10_apart_97 : decode cX10_apart 97 = .ok (.iload 6, 2) := by decide +kernel
theorem dX10_apart_99 : decode cX10_apart 99 = .ok (.iload 4, 2) := by decide +kernel
theorem dX10_apart_101 : decode cX10_apart 101 = .ok (.if_icmp .ne 19, 3) := by decide +kernel
theorem dX10_apart_104 : decode cX10_apart 104 = .ok (.iload 5, 2) := by decide +kernel
theorem dX10_apart_106 : decode cX10_apart 106 = .ok (.invokestatic 75, 3) := by decide +kernel
theorem dX10_apart_109 : decode cX10_apart 109 = .ok (.iload_n 3, 1) := by decide +kernel
theorem dX10_apart_110 : decode cX10_apart 110 = .ok (.invokestatic 75, 3) := by decide +kernel
theorem dX10_apart_113 : decode cX10_apart 113 = .ok (.if_icmp .ge 7, 3) := by decide +kernel
theorem dX10_apart_116 : decode cX10_apart 116 = .ok (.iconst 1, 1) := by decide +kernel
theorem dX10_apart_117 : decode cX10_apart 117 = .ok (.goto 4, 3) := by decide +kernel
theorem dX10_apart_120 : decode cX10_apart 120 = .ok (.iconst 0, 1) := by decide +kernel
theorem dX10_apart_121 : decode cX10_apart 121 = .ok (.istore 7, 2) := by decide +kernel
theorem dX10_apart_123 : decode cX10_apart 123 = .ok (.iload 7, 2) := by decide +kernel
theorem dX10_apart_125 : decode cX10_apart 125 = .ok (.ifCond .eq 8, 3) := by decide +kernel
theorem dX10_apart_128 : decode cX10_apart 128 = .ok (.iload 5, 2) := by decide +kernel
theorem dX10_apart_130 : decode cX10_apart 130 = .ok (.goto 4, 3) := by decide +kernel
theorem dX10_apart_133 : decode cX10_apart 133 = .ok (.iload_n 3, 1) := by decide +kernel
theorem dX10_apart_134 : decode cX10_apart 134 = .ok (.istore_n 3, 1) := by decide +kernel
theorem dX10_apart_135 : decode cX10_apart 135 = .ok (.iload 6, 2) := by decide +kernel
theorem dX10_apart_137 : decode cX10_apart 137 = .ok (.iload 4, 2) := by decide +kernel
theorem dX10_apart_139 : decode cX10_apart 139 = .ok (.if_icmp .le 8, 3) := by decide +kernel
theorem dX10_apart_142 : decode cX10_apart 142 = .ok (.iload 6, 2) := by decide +kernel
theorem dX10_apart_144 : decode cX10_apart 144 = .ok (.goto 5, 3) := by decide +kernel
theorem dX10_apart_147 : decode cX10_apart 147 = .ok (.iload 4, 2) := by decide +kernel
theorem dX10_apart_149 : decode cX10_apart 149 = .ok (.istore 4, 2) := by decide +kernel
theorem dX10_apart_151 : decode cX10_apart 151 = .ok (.iinc 5 1, 3) := by decide +kernel
theorem dX10_apart_154 : decode cX10_apart 154 = .ok (.goto (-125), 3) := by decide +kernel
theorem dX10_apart_157 : decode cX10_apart 157 = .ok (.iload_n 2, 1) := by decide +kernel
theorem dX10_apart_158 : decode cX10_apart 158 = .ok (.ifCond .ne 8, 3) := by decide +kernel
theorem dX10_apart_161 : decode cX10_apart 161 = .ok (.iload 4, 2) := by decide +kernel
theorem dX10_apart_163 : decode cX10_apart 163 = .ok (.goto 4, 3) := by decide +kernel
theorem dX10_apart_166 : decode cX10_apart 166 = .ok (.iload_n 3, 1) := by decide +kernel
theorem dX10_apart_167 : decode cX10_apart 167 = .ok (.ireturn, 1) := by decide +kernel
theorem dX10_ask_0 : decode cX10_ask 0 = .ok (.aload_n 0, 1) := by decide +kernel
theorem dX10_ask_1 : decode cX10_ask 1 = .ok (.iload_n 1, 1) := by decide +kernel
theorem dX10_ask_2 : decode cX10_ask 2 = .ok (.invokevirtual 177, 3) := by decide +kernel
theorem dX10_ask_5 : decode cX10_ask 5 = .ok (.ifCond .ne 5, 3) := by decide +kernel
theorem dX10_ask_8 : decode cX10_ask 8 = .ok (.iconst (-1), 1) := by decide +kernel
theorem dX10_ask_9 : decode cX10_ask 9 = .ok (.ireturn, 1) := by decide +kernel
theorem dX10_ask_10 : decode cX10_ask 10 = .ok (.aload_n 0, 1) := by decide +kernel
theorem dX10_ask_11 : decode cX10_ask 11 = .ok (.bipush (-4), 2) := by decide +kernel
theorem dX10_ask_13 : decode cX10_ask 13 = .ok (.putfield 139, 3) := by decide +kernel
theorem dX10_ask_16 : decode cX10_ask 16 = .ok (.iconst 0, 1) := by decide +kernel
theorem dX10_ask_17 : decode cX10_ask 17 = .ok (.istore_n 2, 1) := by decide +kernel
theorem dX10_ask_18 : decode cX10_ask 18 = .ok (.iload_n 2, 1) := by decide +kernel
theorem dX10_ask_19 : decode cX10_ask 19 = .ok (.iconst 4, 1) := by decide +kernel
theorem dX10_ask_20 : decode cX10_ask 20 = .ok (.if_icmp .ge 29, 3) := by decide +kernel
theorem dX10_ask_23 : decode cX10_ask 23 = .ok (.aload_n 0, 1) := by decide +kernel
theorem dX10_ask_24 : decode cX10_ask 24 = .ok (.aload_n 0, 1) := by decide +kernel
theorem dX10_ask_25 : decode cX10_ask 25 = .ok (.getfield 28, 3) := by decide +kernel
theorem dX10_ask_28 : decode cX10_ask 28 = .ok (.iload_n 1, 1) := by decide +kernel
theorem dX10_ask_29 : decode cX10_ask 29 = .ok (.iload_n 2, 1) := by decide +kernel
theorem dX10_ask_30 : decode cX10_ask 30 = .ok (.invokevirtual 170, 3) := by decide +kernel
theorem dX10_ask_33 : decode cX10_ask 33 = .ok (.aload_n 0, 1) := by decide +kernel
theorem dX10_ask_34 : decode cX10_ask 34 = .ok (.getfield 161, 3) := by decide +kernel
theorem dX10_ask_37 : decode cX10_ask 37 = .ok (.iconst 1, 1) := by decide +kernel
theorem dX10_ask_38 : decode cX10_ask 38 = .ok (.if_icmp .ne 5, 3) := by decide +kernel
theorem dX10_ask_41 : decode cX10_ask 41 = .ok (.iload_n 2, 1) := by decide +kernel
theorem dX10_ask_42 : decode cX10_ask 42 = .ok (.ireturn, 1) := by decide +kernel
theorem dX10_ask_43 : decode cX10_ask 43 = .ok (.iinc 2 1, 3) := by decide +kernel
theorem dX10_ask_46 : decode cX10_ask 46 = .ok (.goto (-28), 3) := by decide +kernel
theorem dX10_ask_49 : decode cX10_ask 49 = .ok (.bipush (-4), 2) := by decide +kernel
theorem dX10_ask_51 : decode cX10_ask 51 = .ok (.ireturn, 1) := by decide +kernel
theorem dX10_see_0 : decode cX10_see 0 = .ok (.aload_n 0, 1) := by decide +kernel
theorem dX10_see_1 : decode cX10_see 1 = .ok (.iload_n 1, 1) := by decide +kernel
theorem dX10_see_2 : decode cX10_see 2 = .ok (.invokevirtual 71, 3) := by decide +kernel
theorem dX10_see_5 : decode cX10_see 5 = .ok (.ifCond .eq 13, 3) := by decide +kernel
theorem dX10_see_8 : decode cX10_see 8 = .ok (.iload_n 2, 1) := by decide +kernel
theorem dX10_see_9 : decode cX10_see 9 = .ok (.iconst 0, 1) := by decide +kernel
theorem dX10_see_10 : decode cX10_see 10 = .ok (.bipush 99, 2) := by decide +kernel
theorem dX10_see_12 : decode cX10_see 12 = .ok (.invokestatic 67, 3) := by decide +kernel
theorem dX10_see_15 : decode cX10_see 15 = .ok (.ifCond .ne 5, 3) := by decide +kernel
theorem dX10_see_18 : decode cX10_see 18 = .ok (.iconst (-1), 1) := by decide +kernel
theorem dX10_see_19 : decode cX10_see 19 = .ok (.ireturn, 1) := by decide +kernel
theorem dX10_see_20 : decode cX10_see 20 = .ok (.aload_n 0, 1) := by decide +kernel
theorem dX10_see_21 : decode cX10_see 21 = .ok (.getfield 130, 3) := by decide +kernel
theorem dX10_see_24 : decode cX10_see 24 = .ok (.bipush 8, 2) := by decide +kernel
theorem dX10_see_26 : decode cX10_see 26 = .ok (.if_icmp .ne 6, 3) := by decide +kernel
theorem dX10_see_29 : decode cX10_see 29 = .ok (.bipush (-3), 2) := by decide +kernel
theorem dX10_see_31 : decode cX10_see 31 = .ok (.ireturn, 1) := by decide +kernel
theorem dX10_see_32 : decode cX10_see 32 = .ok (.aload_n 0, 1) := by decide +kernel
theorem dX10_see_33 : decode cX10_see 33 = .ok (.getfield 40, 3) := by decide +kernel
theorem dX10_see_36 : decode cX10_see 36 = .ok (.iconst 3, 1) := by decide +kernel
theorem dX10_see_37 : decode cX10_see 37 = .ok (.aload_n 0, 1) := by decide +kernel
theorem dX10_see_38 : decode cX10_see 38 = .ok (.getfield 130, 3) := by decide +kernel
theorem dX10_see_41 : decode cX10_see 41 = .ok (.imul, 1) := by decide +kernel
theorem dX10_see_42 : decode cX10_see 42 = .ok (.iload_n 1, 1) := by decide +kernel
theorem dX10_see_43 : decode cX10_see 43 = .ok (.iastore, 1) := by decide +kernel
theorem dX10_see_44 : decode cX10_see 44 = .ok (.aload_n 0, 1) := by decide +kernel
theorem dX10_see_45 : decode cX10_see 45 = .ok (.getfield 40, 3) := by decide +kernel
theorem dX10_see_48 : decode cX10_see 48 = .ok (.iconst 3, 1) := by decide +kernel
theorem dX10_see_49 : decode cX10_see 49 = .ok (.aload_n 0, 1) := by decide +kernel
theorem dX10_see_50 : decode cX10_see 50 = .ok (.getfield 130, 3) := by decide +kernel
theorem dX10_see_53 : decode cX10_see 53 = .ok (.imul, 1) := by decide +kernel
theorem dX10_see_54 : decode cX10_see 54 = .ok (.iconst 1, 1) := by decide +kernel
theorem dX10_see_55 : decode cX10_see 55 = .ok (.iadd, 1) := by decide +kernel
theorem dX10_see_56 : decode cX10_see 56 = .ok (.iload_n 2, 1) := by decide +kernel
theorem dX10_see_57 : decode cX10_see 57 = .ok (.iastore, 1) := by decide +kernel
theorem dX10_see_58 : decode cX10_see 58 = .ok (.aload_n 0, 1) := by decide +kernel
theorem dX10_see_59 : decode cX10_see 59 = .ok (.getfield 40, 3) := by decide +kernel
theorem dX10_see_62 : decode cX10_see 62 = .ok (.iconst 3, 1) := by decide +kernel
theorem dX10_see_63 : decode cX10_see 63 = .ok (.aload_n 0, 1) := by decide +kernel
theorem dX10_see_64 : decode cX10_see 64 = .ok (.getfield 130, 3) := by decide +kernel
theorem dX10_see_67 : decode cX10_see 67 = .ok (.imul, 1) := by decide +kernel
theorem dX10_see_68 : decode cX10_see 68 = .ok (.iconst 2, 1) := by decide +kernel
theorem dX10_see_69 : decode cX10_see 69 = .ok (.iadd, 1) := by decide +kernel
theorem dX10_see_70 : decode cX10_see 70 = .ok (.iload_n 3, 1) := by decide +kernel
theorem dX10_see_71 : decode cX10_see 71 = .ok (.ifCond .eq 7, 3) := by decide +kernel
theorem dX10_see_74 : decode cX10_see 74 = .ok (.iconst 1, 1) := by decide +kernel
theorem dX10_see_75 : decode cX10_see 75 = .ok (.goto 4, 3) := by decide +kernel
theorem dX10_see_78 : decode cX10_see 78 = .ok (.iconst 0, 1) := by decide +kernel
theorem dX10_see_79 : decode cX10_see 79 = .ok (.iastore, 1) := by decide +kernel
theorem dX10_see_80 : decode cX10_see 80 = .ok (.aload_n 0, 1) := by decide +kernel
theorem dX10_see_81 : decode cX10_see 81 = .ok (.dup, 1) := by decide +kernel
theorem dX10_see_82 : decode cX10_see 82 = .ok (.getfield 130, 3) := by decide +kernel
theorem dX10_see_85 : decode cX10_see 85 = .ok (.iconst 1, 1) := by decide +kernel
theorem dX10_see_86 : decode cX10_see 86 = .ok (.iadd, 1) := by decide +kernel
theorem dX10_see_87 : decode cX10_see 87 = .ok (.putfield 130, 3) := by decide +kernel
theorem dX10_see_90 : decode cX10_see 90 = .ok (.aload_n 0, 1) := by decide +kernel
theorem dX10_see_91 : decode cX10_see 91 = .ok (.getfield 130, 3) := by decide +kernel
theorem dX10_see_94 : decode cX10_see 94 = .ok (.ireturn, 1) := by decide +kernel
theorem dX10_forget_0 : decode cX10_forget 0 = .ok (.aload_n 0, 1) := by decide +kernel
theorem dX10_forget_1 : decode cX10_forget 1 = .ok (.getfield 130, 3) := by decide +kernel
theorem dX10_forget_4 : decode cX10_forget 4 = .ok (.istore_n 1, 1) := by decide +kernel
theorem dX10_forget_5 : decode cX10_forget 5 = .ok (.aload_n 0, 1) := by decide +kernel
theorem dX10_forget_6 : decode cX10_forget 6 = .ok (.iconst 0, 1) := by decide +kernel
theorem dX10_forget_7 : decode cX10_forget 7 = .ok (.putfield 130, 3) := by decide +kernel
theorem dX10_forget_10 : decode cX10_forget 10 = .ok (.iload_n 1, 1) := by decide +kernel
theorem dX10_forget_11 : decode cX10_forget 11 = .ok (.ireturn, 1) := by decide +kernel
theorem dX10_law_0 : decode cX10_law 0 = .ok (.aload_n 0, 1) := by decide +kernel
theorem dX10_law_1 : decode cX10_law 1 = .ok (.iload_n 1, 1) := by decide +kernel
theorem dX10_law_2 : decode cX10_law 2 = .ok (.invokevirtual 71, 3) := by decide +kernel
theorem dX10_law_5 : decode cX10_law 5 = .ok (.ifCond .eq 12, 3) := by decide +kernel
theorem dX10_law_8 : decode cX10_law 8 = .ok (.iload_n 2, 1) := by decide +kernel
theorem dX10_law_9 : decode cX10_law 9 = .ok (.iconst 0, 1) := by decide +kernel
theorem dX10_law_10 : decode cX10_law 10 = .ok (.iconst 1, 1) := by decide +kernel
theorem dX10_law_11 : decode cX10_law 11 = .ok (.invokestatic 67, 3) := by decide +kernel
theorem dX10_law_14 : decode cX10_law 14 = .ok (.ifCond .ne 5, 3) := by decide +kernel
theorem dX10_law_17 : decode cX10_law 17 = .ok (.iconst (-1), 1) := by decide +kernel
theorem dX10_law_18 : decode cX10_law 18 = .ok (.ireturn, 1) := by decide +kernel
theorem dX10_law_19 : decode cX10_law 19 = .ok (.iconst 0, 1) := by decide +kernel
theorem dX10_law_20 : decode cX10_law 20 = .ok (.istore_n 3, 1) := by decide +kernel
theorem dX10_law_21 : decode cX10_law 21 = .ok (.bipush (-4), 2) := by decide +kernel
theorem dX10_law_23 : decode cX10_law 23 = .ok (.istore 4, 2) := by decide +kernel
theorem dX10_law_25 : decode cX10_law 25 = .ok (.iconst 1, 1) := by decide +kernel
theorem dX10_law_26 : decode cX10_law 26 = .ok (.istore 5, 2) := by decide +kernel
theorem dX10_law_28 : decode cX10_law 28 = .ok (.iload 5, 2) := by decide +kernel
theorem dX10_law_30 : decode cX10_law 30 = .ok (.bipush 10, 2) := by decide +kernel
theorem dX10_law_32 : decode cX10_law 32 = .ok (.if_icmp .gt 155, 3) := by decide +kernel
theorem dX10_law_35 : decode cX10_law 35 = .ok (.iconst 0, 1) := by decide +kernel
theorem dX10_law_36 : decode cX10_law 36 = .ok (.istore 6, 2) := by decide +kernel
theorem dX10_law_38 : decode cX10_law 38 = .ok (.iload 6, 2) := by decide +kernel
theorem dX10_law_40 : decode cX10_law 40 = .ok (.iload 5, 2) := by decide +kernel
theorem dX10_law_42 : decode cX10_law 42 = .ok (.if_icmp .ge 139, 3) := by decide +kernel
theorem dX10_law_45 : decode cX10_law 45 = .ok (.iconst 1, 1) := by decide +kernel
theorem dX10_law_46 : decode cX10_law 46 = .ok (.istore 7, 2) := by decide +kernel
theorem dX10_law_48 : decode cX10_law 48 = .ok (.iconst 0, 1) := by decide +kernel
theorem dX10_law_49 : decode cX10_law 49 = .ok (.istore 8, 2) := by decide +kernel
theorem dX10_law_51 : decode cX10_law 51 = .ok (.iload 8, 2) := by decide +kernel
theorem dX10_law_53 : decode cX10_law 53 = .ok (.aload_n 0, 1) := by decide +kernel
theorem dX10_law_54 : decode cX10_law 54 = .ok (.getfield 130, 3) := by decide +kernel
theorem dX10_law_57 : decode cX10_law 57 = .ok (.if_icmp .ge 81, 3) := by decide +kernel
theorem dX10_law_60 : decode cX10_law 60 = .ok (.iload 7, 2) := by decide +kernel
theorem dX10_law_62 : decode cX10_law 62 = .ok (.ifCond .eq 67, 3) := by decide +kernel
theorem dX10_law_65 : decode cX10_law 65 = .ok (.aload_n 0, 1) := by decide +kernel
theorem dX10_law_66 : decode cX10_law 66 = .ok (.getfield 40, 3) := by decide +kernel
theorem dX10_law_69 : decode cX10_law 69 = .ok (.iconst 3, 1) := by decide +kernel
theorem dX10_law_70 : decode cX10_law 70 = .ok (.iload 8, 2) := by decide +kernel
theorem dX10_law_72 : decode cX10_law 72 = .ok (.imul, 1) := by decide +kernel
theorem dX10_law_73 : decode cX10_law 73 = .ok (.iaload, 1) := by decide +kernel
theorem dX10_law_74 : decode cX10_law 74 = .ok (.iload_n 1, 1) := by decide +kernel
theorem dX10_law_75 : decode cX10_law 75 = .ok (.if_icmp .ne 50, 3) := by decide +kernel
theorem dX10_law_78 : decode cX10_law 78 = .ok (.aload_n 0, 1) := by decide +kernel
theorem dX10_law_79 : decode cX10_law 79 = .ok (.getfield 40, 3) := by decide +kernel
theorem dX10_law_82 : decode cX10_law 82 = .ok (.iconst 3, 1) := by decide +kernel
theorem dX10_law_83 : decode cX10_law 83 = .ok (.iload 8, 2) := by decide +kernel
theorem dX10_law_85 : decode cX10_law 85 = .ok (.imul, 1) := by decide +kernel
theorem dX10_law_86 : decode cX10_law 86 = .ok (.iconst 1, 1) := by decide +kernel
theorem dX10_law_87 : decode cX10_law 87 = .ok (.iadd, 1) := by decide +kernel
theorem dX10_law_88 : decode cX10_law 88 = .ok (.iaload, 1) := by decide +kernel
theorem dX10_law_89 : decode cX10_law 89 = .ok (.iload 5, 2) := by decide +kernel
theorem dX10_law_91 : decode cX10_law 91 = .ok (.irem, 1) := by decide +kernel
theorem dX10_law_92 : decode cX10_law 92 = .ok (.iload 6, 2) := by decide +kernel
theorem dX10_law_94 : decode cX10_law 94 = .ok (.if_icmp .ne 7, 3) := by decide +kernel
theorem dX10_law_97 : decode cX10_law 97 = .ok (.iconst 1, 1) := by decide +kernel
theorem dX10_law_98 : decode cX10_law 98 = .ok (.goto 4, 3) := by decide +kernel
theorem dX10_law_101 : decode cX10_law 101 = .ok (.iconst 0, 1) := by decide +kernel
theorem dX10_law_102 : decode cX10_law 102 = .ok (.aload_n 0, 1) := by decide +kernel
theorem dX10_law_103 : decode cX10_law 103 = .ok (.getfield 40, 3) := by decide +kernel
theorem dX10_law_106 : decode cX10_law 106 = .ok (.iconst 3, 1) := by decide +kernel
theorem dX10_law_107 : decode cX10_law 107 = .ok (.iload 8, 2) := by decide +kernel
theorem dX10_law_109 : decode cX10_law 109 = .ok (.imul, 1) := by decide +kernel
theorem dX10_law_110 : decode cX10_law 110 = .ok (.iconst 2, 1) := by decide +kernel
theorem dX10_law_111 : decode cX10_law 111 = .ok (.iadd, 1) := by decide +kernel
theorem dX10_law_112 : decode cX10_law 112 = .ok (.iaload, 1) := by decide +kernel
theorem dX10_law_113 : decode cX10_law 113 = .ok (.iconst 1, 1) := by decide +kernel
theorem dX10_law_114 : decode cX10_law 114 = .ok (.if_icmp .ne 7, 3) := by decide +kernel
theorem dX10_law_117 : decode cX10_law 117 = .ok (.iconst 1, 1) := by decide +kernel
theorem dX10_law_118 : decode cX10_law 118 = .ok (.goto 4, 3) := by decide +kernel
theorem dX10_law_121 : decode cX10_law 121 = .ok (.iconst 0, 1) := by decide +kernel
theorem dX10_law_122 : decode cX10_law 122 = .ok (.if_icmp .ne 7, 3) := by decide +kernel
theorem dX10_law_125 : decode cX10_law 125 = .ok (.iconst 1, 1) := by decide +kernel
theorem dX10_law_126 : decode cX10_law 126 = .ok (.goto 4, 3) := by decide +kernel
theorem dX10_law_129 : decode cX10_law 129 = .ok (.iconst 0, 1) := by decide +kernel
theorem dX10_law_130 : decode cX10_law 130 = .ok (.istore 7, 2) := by decide +kernel
theorem dX10_law_132 : decode cX10_law 132 = .ok (.iinc 8 1, 3) := by decide +kernel
theorem dX10_law_135 : decode cX10_law 135 = .ok (.goto (-84), 3) := by decide +kernel
theorem dX10_law_138 : decode cX10_law 138 = .ok (.iload 7, 2) := by decide +kernel
theorem dX10_law_140 : decode cX10_law 140 = .ok (.ifCond .eq 18, 3) := by decide +kernel
theorem dX10_law_143 : decode cX10_law 143 = .ok (.iload_n 3, 1) := by decide +kernel
theorem dX10_law_144 : decode cX10_law 144 = .ok (.ifCond .ne 14, 3) := by decide +kernel
theorem dX10_law_147 : decode cX10_law 147 = .ok (.bipush 10, 2) := by decide +kernel
theorem dX10_law_149 : decode cX10_law 149 = .ok (.iload 5, 2) := by decide +kernel
theorem dX10_law_151 : decode cX10_law 151 = .ok (.imul, 1) := by decide +kernel
theorem dX10_law_152 : decode cX10_law 152 = .ok (.iload 6, 2) := by decide +kernel
theorem dX10_law_154 : decode cX10_law 154 = .ok (.iadd, 1) := by decide +kernel
theorem dX10_law_155 : decode cX10_law 155 = .ok (.goto 5, 3) := by decide +kernel
theorem dX10_law_158 : decode cX10_law 158 = .ok (.iload 4, 2) := by decide +kernel
theorem dX10_law_160 : decode cX10_law 160 = .ok (.istore 4, 2) := by decide +kernel
theorem dX10_law_162 : decode cX10_law 162 = .ok (.iload_n 3, 1) := by decide +kernel
theorem dX10_law_163 : decode cX10_law 163 = .ok (.iload 7, 2) := by decide +kernel
theorem dX10_law_165 : decode cX10_law 165 = .ok (.ifCond .eq 7, 3) := by decide +kernel
theorem dX10_law_168 : decode cX10_law 168 = .ok (.iconst 1, 1) := by decide +kernel
theorem dX10_law_169 : decode cX10_law 169 = .ok (.goto 4, 3) := by decide +kernel
theorem dX10_law_172 : decode cX10_law 172 = .ok (.iconst 0, 1) := by decide +kernel
theorem dX10_law_173 : decode cX10_law 173 = .ok (.iadd, 1) := by decide +kernel
theorem dX10_law_174 : decode cX10_law 174 = .ok (.istore_n 3, 1) := by decide +kernel
theorem dX10_law_175 : decode cX10_law 175 = .ok (.iinc 6 1, 3) := by decide +kernel
theorem dX10_law_178 : decode cX10_law 178 = .ok (.goto (-140), 3) := by decide +kernel
theorem dX10_law_181 : decode cX10_law 181 = .ok (.iinc 5 1, 3) := by decide +kernel
theorem dX10_law_184 : decode cX10_law 184 = .ok (.goto (-156), 3) := by decide +kernel
theorem dX10_law_187 : decode cX10_law 187 = .ok (.iload_n 2, 1) := by decide +kernel
theorem dX10_law_188 : decode cX10_law 188 = .ok (.ifCond .ne 7, 3) := by decide +kernel
theorem dX10_law_191 : decode cX10_law 191 = .ok (.iload_n 3, 1) := by decide +kernel
theorem dX10_law_192 : decode cX10_law 192 = .ok (.goto 5, 3) := by decide +kernel
theorem dX10_law_195 : decode cX10_law 195 = .ok (.iload 4, 2) := by decide +kernel
theorem dX10_law_197 : decode cX10_law 197 = .ok (.ireturn, 1) := by decide +kernel
theorem dX10_did_0 : decode cX10_did 0 = .ok (.aload_n 0, 1) := by decide +kernel
theorem dX10_did_1 : decode cX10_did 1 = .ok (.iload_n 1, 1) := by decide +kernel
theorem dX10_did_2 : decode cX10_did 2 = .ok (.invokevirtual 177, 3) := by decide +kernel
theorem dX10_did_5 : decode cX10_did 5 = .ok (.ifCond .ne 5, 3) := by decide +kernel
theorem dX10_did_8 : decode cX10_did 8 = .ok (.iconst (-1), 1) := by decide +kernel
theorem dX10_did_9 : decode cX10_did 9 = .ok (.ireturn, 1) := by decide +kernel
theorem dX10_did_10 : decode cX10_did 10 = .ok (.iconst 0, 1) := by decide +kernel
theorem dX10_did_11 : decode cX10_did 11 = .ok (.istore_n 2, 1) := by decide +kernel
theorem dX10_did_12 : decode cX10_did 12 = .ok (.iconst 0, 1) := by decide +kernel
theorem dX10_did_13 : decode cX10_did 13 = .ok (.istore_n 3, 1) := by decide +kernel
theorem dX10_did_14 : decode cX10_did 14 = .ok (.iload_n 3, 1) := by decide +kernel
theorem dX10_did_15 : decode cX10_did 15 = .ok (.aload_n 0, 1) := by decide +kernel
theorem dX10_did_16 : decode cX10_did 16 = .ok (.getfield 50, 3) := by decide +kernel
theorem dX10_did_19 : decode cX10_did 19 = .ok (.if_icmp .ge 77, 3) := by decide +kernel
theorem dX10_did_22 : decode cX10_did 22 = .ok (.aload_n 0, 1) := by decide +kernel
theorem dX10_did_23 : decode cX10_did 23 = .ok (.iload_n 3, 1) := by decide +kernel
theorem dX10_did_24 : decode cX10_did 24 = .ok (.aload_n 0, 1) := by decide +kernel
theorem dX10_did_25 : decode cX10_did 25 = .ok (.getfield 25, 3) := by decide +kernel
theorem dX10_did_28 : decode cX10_did 28 = .ok (.iconst 4, 1) := by decide +kernel
theorem dX10_did_29 : decode cX10_did 29 = .ok (.iload_n 1, 1) := by decide +kernel
theorem dX10_did_30 : decode cX10_did 30 = .ok (.imul, 1) := by decide +kernel
theorem dX10_did_31 : decode cX10_did 31 = .ok (.iconst 1, 1) := by decide +kernel
theorem dX10_did_32 : decode cX10_did 32 = .ok (.iadd, 1) := by decide +kernel
theorem dX10_did_33 : decode cX10_did 33 = .ok (.iaload, 1) := by decide +kernel
theorem dX10_did_34 : decode cX10_did 34 = .ok (.invokevirtual 164, 3) := by decide +kernel
theorem dX10_did_37 : decode cX10_did 37 = .ok (.ifCond .eq 35, 3) := by decide +kernel
theorem dX10_did_40 : decode cX10_did 40 = .ok (.aload_n 0, 1) := by decide +kernel
theorem dX10_did_41 : decode cX10_did 41 = .ok (.aload_n 0, 1) := by decide +kernel
theorem dX10_did_42 : decode cX10_did 42 = .ok (.getfield 25, 3) := by decide +kernel
theorem dX10_did_45 : decode cX10_did 45 = .ok (.iconst 4, 1) := by decide +kernel
theorem dX10_did_46 : decode cX10_did 46 = .ok (.iload_n 1, 1) := by decide +kernel
theorem dX10_did_47 : decode cX10_did 47 = .ok (.imul, 1) := by decide +kernel
theorem dX10_did_48 : decode cX10_did 48 = .ok (.iconst 2, 1) := by decide +kernel
theorem dX10_did_49 : decode cX10_did 49 = .ok (.iadd, 1) := by decide +kernel
theorem dX10_did_50 : decode cX10_did 50 = .ok (.iaload, 1) := by decide +kernel
theorem dX10_did_51 : decode cX10_did 51 = .ok (.aload_n 0, 1) := by decide +kernel
theorem dX10_did_52 : decode cX10_did 52 = .ok (.getfield 25, 3) := by decide +kernel
theorem dX10_did_55 : decode cX10_did 55 = .ok (.iconst 4, 1) := by decide +kernel
theorem dX10_did_56 : decode cX10_did 56 = .ok (.iload_n 1, 1) := by decide +kernel
theorem dX10_did_57 : decode cX10_did 57 = .ok (.imul, 1) := by decide +kernel
theorem dX10_did_58 : decode cX10_did 58 = .ok (.iconst 3, 1) := by decide +kernel
theorem dX10_did_59 : decode cX10_did 59 = .ok (.iadd, 1) := by decide +kernel
theorem dX10_did_60 : decode cX10_did 60 = .ok (.iaload, 1) := by decide +kernel
theorem dX10_did_61 : decode cX10_did 61 = .ok (.iload_n 3, 1) := by decide +kernel
theorem dX10_did_62 : decode cX10_did 62 = .ok (.invokevirtual 167, 3) := by decide +kernel
theorem dX10_did_65 : decode cX10_did 65 = .ok (.ifCond .ne 7, 3) := by decide +kernel
theorem dX10_did_68 : decode cX10_did 68 = .ok (.iconst 1, 1) := by decide +kernel
theorem dX10_did_69 : decode cX10_did 69 = .ok (.goto 4, 3) := by decide +kernel
theorem dX10_did_72 : decode cX10_did 72 = .ok (.iconst 0, 1) := by decide +kernel
theorem dX10_did_73 : decode cX10_did 73 = .ok (.istore 4, 2) := by decide +kernel
theorem dX10_did_75 : decode cX10_did 75 = .ok (.iload_n 2, 1) := by decide +kernel
theorem dX10_did_76 : decode cX10_did 76 = .ok (.iload 4, 2) := by decide +kernel
theorem dX10_did_78 : decode cX10_did 78 = .ok (.ifCond .eq 9, 3) := by decide +kernel
theorem dX10_did_81 : decode cX10_did 81 = .ok (.iconst 1, 1) := by decide +kernel
theorem dX10_did_82 : decode cX10_did 82 = .ok (.iload_n 3, 1) := by decide +kernel
theorem dX10_did_83 : decode cX10_did 83 = .ok (.ishl, 1) := by decide +kernel
theorem dX10_did_84 : decode cX10_did 84 = .ok (.goto 4, 3) := by decide +kernel
theorem dX10_did_87 : decode cX10_did 87 = .ok (.iconst 0, 1) := by decide +kernel
theorem dX10_did_88 : decode cX10_did 88 = .ok (.ior, 1) := by decide +kernel
theorem dX10_did_89 : decode cX10_did 89 = .ok (.istore_n 2, 1) := by decide +kernel
theorem dX10_did_90 : decode cX10_did 90 = .ok (.iinc 3 1, 3) := by decide +kernel
theorem dX10_did_93 : decode cX10_did 93 = .ok (.goto (-79), 3) := by decide +kernel
theorem dX10_did_96 : decode cX10_did 96 = .ok (.iload_n 2, 1) := by decide +kernel
theorem dX10_did_97 : decode cX10_did 97 = .ok (.ireturn, 1) := by decide +kernel
theorem dX10_dogs_0 : decode cX10_dogs 0 = .ok (.iload_n 1, 1) := by decide +kernel
theorem dX10_dogs_1 : decode cX10_dogs 1 = .ok (.iconst 0, 1) := by decide +kernel
theorem dX10_dogs_2 : decode cX10_dogs 2 = .ok (.bipush 6, 2) := by decide +kernel
theorem dX10_dogs_4 : decode cX10_dogs 4 = .ok (.invokestatic 67, 3) := by decide +kernel
theorem dX10_dogs_7 : decode cX10_dogs 7 = .ok (.ifCond .eq 22, 3) := by decide +kernel
theorem dX10_dogs_10 : decode cX10_dogs 10 = .ok (.iload_n 2, 1) := by decide +kernel
theorem dX10_dogs_11 : decode cX10_dogs 11 = .ok (.iconst 0, 1) := by decide +kernel
theorem dX10_dogs_12 : decode cX10_dogs 12 = .ok (.bipush 10, 2) := by decide +kernel
theorem dX10_dogs_14 : decode cX10_dogs 14 = .ok (.invokestatic 67, 3) := by decide +kernel
theorem dX10_dogs_17 : decode cX10_dogs 17 = .ok (.ifCond .eq 12, 3) := by decide +kernel
theorem dX10_dogs_20 : decode cX10_dogs 20 = .ok (.iload_n 3, 1) := by decide +kernel
theorem dX10_dogs_21 : decode cX10_dogs 21 = .ok (.iconst 0, 1) := by decide +kernel
theorem dX10_dogs_22 : decode cX10_dogs 22 = .ok (.iconst 1, 1) := by decide +kernel
theorem dX10_dogs_23 : decode cX10_dogs 23 = .ok (.invokestatic 67, 3) := by decide +kernel
theorem dX10_dogs_26 : decode cX10_dogs 26 = .ok (.ifCond .ne 5, 3) := by decide +kernel
theorem dX10_dogs_29 : decode cX10_dogs 29 = .ok (.iconst (-1), 1) := by decide +kernel
theorem dX10_dogs_30 : decode cX10_dogs 30 = .ok (.ireturn, 1) := by decide +kernel
theorem dX10_dogs_31 : decode cX10_dogs 31 = .ok (.iconst 0, 1) := by decide +kernel
theorem dX10_dogs_32 : decode cX10_dogs 32 = .ok (.istore 4, 2) := by decide +kernel
theorem dX10_dogs_34 : decode cX10_dogs 34 = .ok (.iconst 1, 1) := by decide +kernel
theorem dX10_dogs_35 : decode cX10_dogs 35 = .ok (.istore 5, 2) := by decide +kernel
theorem dX10_dogs_37 : decode cX10_dogs 37 = .ok (.iconst 0, 1) := by decide +kernel
theorem dX10_dogs_38 : decode cX10_dogs 38 = .ok (.istore 6, 2) := by decide +kernel
theorem dX10_dogs_40 : decode cX10_dogs 40 = .ok (.iload 6, 2) := by decide +kernel
theorem dX10_dogs_42 : decode cX10_dogs 42 = .ok (.iload_n 1, 1) := by decide +kernel
theorem dX10_dogs_43 : decode cX10_dogs 43 = .ok (.if_icmp .ge 16, 3) := by decide +kernel
theorem dX10_dogs_46 : decode cX10_dogs 46 = .ok (.iload 5, 2) := by decide +kernel
theorem dX10_dogs_48 : decode cX10_dogs 48 = .ok (.bipush 10, 2) := by decide +kernel
theorem dX10_dogs_50 : decode cX10_dogs 50 = .ok (.imul, 1) := by decide +kernel
theorem dX10_dogs_51 : decode cX10_dogs 51 = .ok (.istore 5, 2) := by decide +kernel
theorem dX10_dogs_53 : decode cX10_dogs 53 = .ok (.iinc 6 1, 3) := by decide +kernel
theorem dX10_dogs_56 : decode cX10_dogs 56 = .ok (.goto (-16), 3) := by decide +kernel
theorem dX10_dogs_59 : decode cX10_dogs 59 = .ok (.iconst 0, 1) := by decide +kernel
theorem dX10_dogs_60 : decode cX10_dogs 60 = .ok (.istore 6, 2) := by decide +kernel
theorem dX10_dogs_62 : decode cX10_dogs 62 = .ok (.iload 6, 2) := by decide +kernel
theorem dX10_dogs_64 : decode cX10_dogs 64 = .ok (.iconst 1, 1) := by decide +kernel
theorem dX10_dogs_65 : decode cX10_dogs 65 = .ok (.iload_n 1, 1) := by decide +kernel
theorem dX10_dogs_66 : decode cX10_dogs 66 = .ok (.ishl, 1) := by decide +kernel
theorem dX10_dogs_67 : decode cX10_dogs 67 = .ok (.if_icmp .ge 95, 3) := by decide +kernel
theorem dX10_dogs_70 : decode cX10_dogs 70 = .ok (.aload_n 0, 1) := by decide +kernel
theorem dX10_dogs_71 : decode cX10_dogs 71 = .ok (.invokevirtual 190, 3) := by decide +kernel
theorem dX10_dogs_74 : decode cX10_dogs 74 = .ok (.iconst 1, 1) := by decide +kernel
theorem dX10_dogs_75 : decode cX10_dogs 75 = .ok (.istore 7, 2) := by decide +kernel
theorem dX10_dogs_77 : decode cX10_dogs 77 = .ok (.iconst 0, 1) := by decide +kernel
theorem dX10_dogs_78 : decode cX10_dogs 78 = .ok (.istore 8, 2) := by decide +kernel
theorem dX10_dogs_80 : decode cX10_dogs 80 = .ok (.iconst 0, 1) := by decide +kernel
theorem dX10_dogs_81 : decode cX10_dogs 81 = .ok (.istore 9, 2) := by decide +kernel
theorem dX10_dogs_83 : decode cX10_dogs 83 = .ok (.iload 9, 2) := by decide +kernel
theorem dX10_dogs_85 : decode cX10_dogs 85 = .ok (.iload_n 1, 1) := by decide +kernel
theorem dX10_dogs_86 : decode cX10_dogs 86 = .ok (.if_icmp .ge 54, 3) := by decide +kernel
theorem dX10_dogs_89 : decode cX10_dogs 89 = .ok (.aload_n 0, 1) := by decide +kernel
theorem dX10_dogs_90 : decode cX10_dogs 90 = .ok (.iload 6, 2) := by decide +kernel
theorem dX10_dogs_92 : decode cX10_dogs 92 = .ok (.iload 9, 2) := by decide +kernel
theorem dX10_dogs_94 : decode cX10_dogs 94 = .ok (.ishr, 1) := by decide +kernel
theorem dX10_dogs_95 : decode cX10_dogs 95 = .ok (.iconst 1, 1) := by decide +kernel
theorem dX10_dogs_96 : decode cX10_dogs 96 = .ok (.iand, 1) := by decide +kernel
theorem dX10_dogs_97 : decode cX10_dogs 97 = .ok (.putfield 139, 3) := by decide +kernel
theorem dX10_dogs_100 : decode cX10_dogs 100 = .ok (.iload 7, 2) := by decide +kernel
theorem dX10_dogs_102 : decode cX10_dogs 102 = .ok (.aload_n 0, 1) := by decide +kernel
theorem dX10_dogs_103 : decode cX10_dogs 103 = .ok (.getfield 139, 3) := by decide +kernel
theorem dX10_dogs_106 : decode cX10_dogs 106 = .ok (.iconst 1, 1) := by decide +kernel
theorem dX10_dogs_107 : decode cX10_dogs 107 = .ok (.if_icmp .ne 7, 3) := by decide +kernel
theorem dX10_dogs_110 : decode cX10_dogs 110 = .ok (.iload_n 2, 1) := by decide +kernel
theorem dX10_dogs_111 : decode cX10_dogs 111 = .ok (.goto 7, 3) := by decide +kernel
theorem dX10_dogs_114 : decode cX10_dogs 114 = .ok (.bipush 10, 2) := by decide +kernel
theorem dX10_dogs_116 : decode cX10_dogs 116 = .ok (.iload_n 2, 1) := by decide +kernel
theorem dX10_dogs_117 : decode cX10_dogs 117 = .ok (.isub, 1) := by decide +kernel
theorem dX10_dogs_118 : decode cX10_dogs 118 = .ok (.imul, 1) := by decide +kernel
theorem dX10_dogs_119 : decode cX10_dogs 119 = .ok (.istore 7, 2) := by decide +kernel
theorem dX10_dogs_121 : decode cX10_dogs 121 = .ok (.iload 8, 2) := by decide +kernel
theorem dX10_dogs_123 : decode cX10_dogs 123 = .ok (.aload_n 0, 1) := by decide +kernel
theorem dX10_dogs_124 : decode cX10_dogs 124 = .ok (.aload_n 0, 1) := by decide +kernel
theorem dX10_dogs_125 : decode cX10_dogs 125 = .ok (.getfield 31, 3) := by decide +kernel
theorem dX10_dogs_128 : decode cX10_dogs 128 = .ok (.invokevirtual 186, 3) := by decide +kernel
theorem dX10_dogs_131 : decode cX10_dogs 131 = .ok (.iadd, 1) := by decide +kernel
theorem dX10_dogs_132 : decode cX10_dogs 132 = .ok (.istore 8, 2) := by decide +kernel
theorem dX10_dogs_134 : decode cX10_dogs 134 = .ok (.iinc 9 1, 3) := by decide +kernel
theorem dX10_dogs_137 : decode cX10_dogs 137 = .ok (.goto (-54), 3) := by decide +kernel
theorem dX10_dogs_140 : decode cX10_dogs 140 = .ok (.iload 4, 2) := by decide +kernel
theorem dX10_dogs_142 : decode cX10_dogs 142 = .ok (.iload 8, 2) := by decide +kernel
theorem dX10_dogs_144 : decode cX10_dogs 144 = .ok (.ifCond .ne 8, 3) := by decide +kernel
theorem dX10_dogs_147 : decode cX10_dogs 147 = .ok (.iload 7, 2) := by decide +kernel
theorem dX10_dogs_149 : decode cX10_dogs 149 = .ok (.goto 4, 3) := by decide +kernel
theorem dX10_dogs_152 : decode cX10_dogs 152 = .ok (.iconst 0, 1) := by decide +kernel
theorem dX10_dogs_153 : decode cX10_dogs 153 = .ok (.iadd, 1) := by decide +kernel
theorem dX10_dogs_154 : decode cX10_dogs 154 = .ok (.istore 4, 2) := by decide +kernel
theorem dX10_dogs_156 : decode cX10_dogs 156 = .ok (.iinc 6 1, 3) := by decide +kernel
theorem dX10_dogs_159 : decode cX10_dogs 159 = .ok (.goto (-97), 3) := by decide +kernel
theorem dX10_dogs_162 : decode cX10_dogs 162 = .ok (.iload 4, 2) := by decide +kernel
theorem dX10_dogs_164 : decode cX10_dogs 164 = .ok (.istore 6, 2) := by decide +kernel
theorem dX10_dogs_166 : decode cX10_dogs 166 = .ok (.iload 5, 2) := by decide +kernel
theorem dX10_dogs_168 : decode cX10_dogs 168 = .ok (.istore 7, 2) := by decide +kernel
theorem dX10_dogs_170 : decode cX10_dogs 170 = .ok (.iload 7, 2) := by decide +kernel
theorem dX10_dogs_172 : decode cX10_dogs 172 = .ok (.ifCond .le 21, 3) := by decide +kernel
theorem dX10_dogs_175 : decode cX10_dogs 175 = .ok (.iload 6, 2) := by decide +kernel
theorem dX10_dogs_177 : decode cX10_dogs 177 = .ok (.iload 7, 2) := by decide +kernel
theorem dX10_dogs_179 : decode cX10_dogs 179 = .ok (.irem, 1) := by decide +kernel
theorem dX10_dogs_180 : decode cX10_dogs 180 = .ok (.istore 8, 2) := by decide +kernel
theorem dX10_dogs_182 : decode cX10_dogs 182 = .ok (.iload 7, 2) := by decide +kernel
theorem dX10_dogs_184 : decode cX10_dogs 184 = .ok (.istore 6, 2) := by decide +kernel
theorem dX10_dogs_186 : decode cX10_dogs 186 = .ok (.iload 8, 2) := by decide +kernel
theorem dX10_dogs_188 : decode cX10_dogs 188 = .ok (.istore 7, 2) := by decide +kernel
theorem dX10_dogs_190 : decode cX10_dogs 190 = .ok (.goto (-20), 3) := by decide +kernel
theorem dX10_dogs_193 : decode cX10_dogs 193 = .ok (.iload_n 3, 1) := by decide +kernel
theorem dX10_dogs_194 : decode cX10_dogs 194 = .ok (.ifCond .ne 8, 3) := by decide +kernel
theorem dX10_dogs_197 : decode cX10_dogs 197 = .ok (.iload 4, 2) := by decide +kernel
theorem dX10_dogs_199 : decode cX10_dogs 199 = .ok (.goto 5, 3) := by decide +kernel
theorem dX10_dogs_202 : decode cX10_dogs 202 = .ok (.iload 5, 2) := by decide +kernel
theorem dX10_dogs_204 : decode cX10_dogs 204 = .ok (.iload 6, 2) := by decide +kernel
theorem dX10_dogs_206 : decode cX10_dogs 206 = .ok (.idiv, 1) := by decide +kernel
theorem dX10_dogs_207 : decode cX10_dogs 207 = .ok (.ireturn, 1) := by decide +kernel
theorem dX10_year_0 : decode cX10_year 0 = .ok (.iload_n 1, 1) := by decide +kernel
theorem dX10_year_1 : decode cX10_year 1 = .ok (.iconst 0, 1) := by decide +kernel
theorem dX10_year_2 : decode cX10_year 2 = .ok (.sipush 9999, 3) := by decide +kernel
theorem dX10_year_5 : decode cX10_year 5 = .ok (.invokestatic 67, 3) := by decide +kernel
theorem dX10_year_8 : decode cX10_year 8 = .ok (.ifCond .eq 22, 3) := by decide +kernel
theorem dX10_year_11 : decode cX10_year 11 = .ok (.iload_n 2, 1) := by decide +kernel
theorem dX10_year_12 : decode cX10_year 12 = .ok (.iconst 1, 1) := by decide +kernel
theorem dX10_year_13 : decode cX10_year 13 = .ok (.bipush 40, 2) := by decide +kernel
theorem dX10_year_15 : decode cX10_year 15 = .ok (.invokestatic 67, 3) := by decide +kernel
theorem dX10_year_18 : decode cX10_year 18 = .ok (.ifCond .eq 12, 3) := by decide +kernel
theorem dX10_year_21 : decode cX10_year 21 = .ok (.iload_n 3, 1) := by decide +kernel
theorem dX10_year_22 : decode cX10_year 22 = .ok (.iconst 0, 1) := by decide +kernel
theorem dX10_year_23 : decode cX10_year 23 = .ok (.iconst 1, 1) := by decide +kernel
theorem dX10_year_24 : decode cX10_year 24 = .ok (.invokestatic 67, 3) := by decide +kernel
theorem dX10_year_27 : decode cX10_year 27 = .ok (.ifCond .ne 5, 3) := by decide +kernel
theorem dX10_year_30 : decode cX10_year 30 = .ok (.iconst (-1), 1) := by decide +kernel
theorem dX10_year_31 : decode cX10_year 31 = .ok (.ireturn, 1) := by decide +kernel
theorem dX10_year_32 : decode cX10_year 32 = .ok (.aload_n 0, 1) := by decide +kernel
theorem dX10_year_33 : decode cX10_year 33 = .ok (.invokevirtual 190, 3) := by decide +kernel
theorem dX10_year_36 : decode cX10_year 36 = .ok (.iconst 0, 1) := by decide +kernel
theorem dX10_year_37 : decode cX10_year 37 = .ok (.istore 4, 2) := by decide +kernel
theorem dX10_year_39 : decode cX10_year 39 = .ok (.iload 4, 2) := by decide +kernel
theorem dX10_year_41 : decode cX10_year 41 = .ok (.iload_n 2, 1) := by decide +kernel
theorem dX10_year_42 : decode cX10_year 42 = .ok (.if_icmp .ge 84, 3) := by decide +kernel
theorem dX10_year_45 : decode cX10_year 45 = .ok (.ldc2_w 197, 3) := by decide +kernel
theorem dX10_year_48 : decode cX10_year 48 = .ok (.iload_n 1, 1) := by decide +kernel
theorem dX10_year_49 : decode cX10_year 49 = .ok (.i2l, 1) := by decide +kernel
theorem dX10_year_50 : decode cX10_year 50 = .ok (.lmul, 1) := by decide +kernel
theorem dX10_year_51 : decode cX10_year 51 = .ok (.ldc2_w 199, 3) := by decide +kernel
theorem dX10_year_54 : decode cX10_year 54 = .ok (.iload 4, 2) := by decide +kernel
theorem dX10_year_56 : decode cX10_year 56 = .ok (.i2l, 1) := by decide +kernel
theorem dX10_year_57 : decode cX10_year 57 = .ok (.lmul, 1) := by decide +kernel
theorem dX10_year_58 : decode cX10_year 58 = .ok (.ladd, 1) := by decide +kernel
theorem dX10_year_59 : decode cX10_year 59 = .ok (.lconst 1, 1) := by decide +kernel
theorem dX10_year_60 : decode cX10_year 60 = .ok (.ladd, 1) := by decide +kernel
theorem dX10_year_61 : decode cX10_year 61 = .ok (.lstore 5, 2) := by decide +kernel
theorem dX10_year_63 : decode cX10_year 63 = .ok (.lload 5, 2) := by decide +kernel
theorem dX10_year_65 : decode cX10_year 65 = .ok (.lload 5, 2) := by decide +kernel
theorem dX10_year_67 : decode cX10_year 67 = .ok (.lmul, 1) := by decide +kernel
theorem dX10_year_68 : decode cX10_year 68 = .ok (.ldc2_w 201, 3) := by decide +kernel
theorem dX10_year_71 : decode cX10_year 71 = .ok (.lrem, 1) := by decide +kernel
theorem dX10_year_72 : decode cX10_year 72 = .ok (.ldc2_w 203, 3) := by decide +kernel
theorem dX10_year_75 : decode cX10_year 75 = .ok (.ldiv, 1) := by decide +kernel
theorem dX10_year_76 : decode cX10_year 76 = .ok (.l2i, 1) := by decide +kernel
theorem dX10_year_77 : decode cX10_year 77 = .ok (.istore 7, 2) := by decide +kernel
theorem dX10_year_79 : decode cX10_year 79 = .ok (.iload 7, 2) := by decide +kernel
theorem dX10_year_81 : decode cX10_year 81 = .ok (.bipush 8, 2) := by decide +kernel
theorem dX10_year_83 : decode cX10_year 83 = .ok (.idiv, 1) := by decide +kernel
theorem dX10_year_84 : decode cX10_year 84 = .ok (.iconst 3, 1) := by decide +kernel
theorem dX10_year_85 : decode cX10_year 85 = .ok (.irem, 1) := by decide +kernel
theorem dX10_year_86 : decode cX10_year 86 = .ok (.ifCond .ne 25, 3) := by decide +kernel
theorem dX10_year_89 : decode cX10_year 89 = .ok (.aload_n 0, 1) := by decide +kernel
theorem dX10_year_90 : decode cX10_year 90 = .ok (.getfield 31, 3) := by decide +kernel
theorem dX10_year_93 : decode cX10_year 93 = .ok (.iconst 4, 1) := by decide +kernel
theorem dX10_year_94 : decode cX10_year 94 = .ok (.aload_n 0, 1) := by decide +kernel
theorem dX10_year_95 : decode cX10_year 95 = .ok (.getfield 31, 3) := by decide +kernel
theorem dX10_year_98 : decode cX10_year 98 = .ok (.iconst 4, 1) := by decide +kernel
theorem dX10_year_99 : decode cX10_year 99 = .ok (.iaload, 1) := by decide +kernel
theorem dX10_year_100 : decode cX10_year 100 = .ok (.iconst 1, 1) := by decide +kernel
theorem dX10_year_101 : decode cX10_year 101 = .ok (.iload 7, 2) := by decide +kernel
theorem dX10_year_103 : decode cX10_year 103 = .ok (.aload_n 0, 1) := by decide +kernel
theorem dX10_year_104 : decode cX10_year 104 = .ok (.getfield 50, 3) := by decide +kernel
theorem dX10_year_107 : decode cX10_year 107 = .ok (.irem, 1) := by decide +kernel
theorem dX10_year_108 : decode cX10_year 108 = .ok (.ishl, 1) := by decide +kernel
theorem dX10_year_109 : decode cX10_year 109 = .ok (.ior, 1) := by decide +kernel
theorem dX10_year_110 : decode cX10_year 110 = .ok (.iastore, 1) := by decide +kernel
theorem dX10_year_111 : decode cX10_year 111 = .ok (.aload_n 0, 1) := by decide +kernel
theorem dX10_year_112 : decode cX10_year 112 = .ok (.aload_n 0, 1) := by decide +kernel
theorem dX10_year_113 : decode cX10_year 113 = .ok (.getfield 31, 3) := by decide +kernel
theorem dX10_year_116 : decode cX10_year 116 = .ok (.invokevirtual 186, 3) := by decide +kernel
theorem dX10_year_119 : decode cX10_year 119 = .ok (.pop, 1) := by decide +kernel
theorem dX10_year_120 : decode cX10_year 120 = .ok (.iinc 4 1, 3) := by decide +kernel
theorem dX10_year_123 : decode cX10_year 123 = .ok (.goto (-84), 3) := by decide +kernel
theorem dX10_year_126 : decode cX10_year 126 = .ok (.iload_n 3, 1) := by decide +kernel
theorem dX10_year_127 : decode cX10_year 127 = .ok (.ifCond .ne 12, 3) := by decide +kernel
theorem dX10_year_130 : decode cX10_year 130 = .ok (.aload_n 0, 1) := by decide +kernel
theorem dX10_year_131 : decode cX10_year 131 = .ok (.getfield 31, 3) := by decide +kernel
theorem dX10_year_134 : decode cX10_year 134 = .ok (.iconst 1, 1) := by decide +kernel
theorem dX10_year_135 : decode cX10_year 135 = .ok (.iaload, 1) := by decide +kernel
theorem dX10_year_136 : decode cX10_year 136 = .ok (.goto 16, 3) := by decide +kernel
theorem dX10_year_139 : decode cX10_year 139 = .ok (.aload_n 0, 1) := by decide +kernel
theorem dX10_year_140 : decode cX10_year 140 = .ok (.getfield 31, 3) := by decide +kernel
theorem dX10_year_143 : decode cX10_year 143 = .ok (.iconst 3, 1) := by decide +kernel
theorem dX10_year_144 : decode cX10_year 144 = .ok (.iaload, 1) := by decide +kernel
theorem dX10_year_145 : decode cX10_year 145 = .ok (.aload_n 0, 1) := by decide +kernel
theorem dX10_year_146 : decode cX10_year 146 = .ok (.getfield 28, 3) := by decide +kernel
theorem dX10_year_149 : decode cX10_year 149 = .ok (.iconst 3, 1) := by decide +kernel
theorem dX10_year_150 : decode cX10_year 150 = .ok (.iaload, 1) := by decide +kernel
theorem dX10_year_151 : decode cX10_year 151 = .ok (.isub, 1) := by decide +kernel
theorem dX10_year_152 : decode cX10_year 152 = .ok (.ireturn, 1) := by decide +kernel
theorem dX10_keep_0 : decode cX10_keep 0 = .ok (.aload_n 0, 1) := by decide +kernel
theorem dX10_keep_1 : decode cX10_keep 1 = .ok (.getfield 136, 3) := by decide +kernel
theorem dX10_keep_4 : decode cX10_keep 4 = .ok (.iconst 2, 1) := by decide +kernel
theorem dX10_keep_5 : decode cX10_keep 5 = .ok (.if_icmp .ne 6, 3) := by decide +kernel
theorem dX10_keep_8 : decode cX10_keep 8 = .ok (.bipush (-3), 2) := by decide +kernel
theorem dX10_keep_10 : decode cX10_keep 10 = .ok (.ireturn, 1) := by decide +kernel
theorem dX10_keep_11 : decode cX10_keep 11 = .ok (.aload_n 0, 1) := by decide +kernel
theorem dX10_keep_12 : decode cX10_keep 12 = .ok (.getfield 28, 3) := by decide +kernel
theorem dX10_keep_15 : decode cX10_keep 15 = .ok (.iconst 0, 1) := by decide +kernel
theorem dX10_keep_16 : decode cX10_keep 16 = .ok (.aload_n 0, 1) := by decide +kernel
theorem dX10_keep_17 : decode cX10_keep 17 = .ok (.getfield 37, 3) := by decide +kernel
theorem dX10_keep_20 : decode cX10_keep 20 = .ok (.bipush 17, 2) := by decide +kernel
theorem dX10_keep_22 : decode cX10_keep 22 = .ok (.aload_n 0, 1) := by decide +kernel
theorem dX10_keep_23 : decode cX10_keep 23 = .ok (.getfield 136, 3) := by decide +kernel
theorem dX10_keep_26 : decode cX10_keep 26 = .ok (.imul, 1) := by decide +kernel
theorem dX10_keep_27 : decode cX10_keep 27 = .ok (.bipush 17, 2) := by decide +kernel
theorem dX10_keep_29 : decode cX10_keep 29 = .ok (.invokestatic 126, 3) := by decide +kernel
theorem dX10_keep_32 : decode cX10_keep 32 = .ok (.aload_n 0, 1) := by decide +kernel
theorem dX10_keep_33 : decode cX10_keep 33 = .ok (.dup, 1) := by decide +kernel
theorem dX10_keep_34 : decode cX10_keep 34 = .ok (.getfield 136, 3) := by decide +kernel
theorem dX10_keep_37 : decode cX10_keep 37 = .ok (.iconst 1, 1) := by decide +kernel
theorem dX10_keep_38 : decode cX10_keep 38 = .ok (.iadd, 1) := by decide +kernel
theorem dX10_keep_39 : decode cX10_keep 39 = .ok (.putfield 136, 3) := by decide +kernel
theorem dX10_keep_42 : decode cX10_keep 42 = .ok (.aload_n 0, 1) := by decide +kernel
theorem dX10_keep_43 : decode cX10_keep 43 = .ok (.getfield 136, 3) := by decide +kernel
theorem dX10_keep_46 : decode cX10_keep 46 = .ok (.ireturn, 1) := by decide +kernel
theorem dX10_back_0 : decode cX10_back 0 = .ok (.aload_n 0, 1) := by decide +kernel
theorem dX10_back_1 : decode cX10_back 1 = .ok (.getfield 136, 3) := by decide +kernel
theorem dX10_back_4 : decode cX10_back 4 = .ok (.ifCond .ne 6, 3) := by decide +kernel
theorem dX10_back_7 : decode cX10_back 7 = .ok (.bipush (-2), 2) := by decide +kernel
theorem dX10_back_9 : decode cX10_back 9 = .ok (.ireturn, 1) := by decide +kernel
theorem dX10_back_10 : decode cX10_back 10 = .ok (.aload_n 0, 1) := by decide +kernel
theorem dX10_back_11 : decode cX10_back 11 = .ok (.dup, 1) := by decide +kernel
theorem dX10_back_12 : decode cX10_back 12 = .ok (.getfield 136, 3) := by decide +kernel
theorem dX10_back_15 : decode cX10_back 15 = .ok (.iconst 1, 1) := by decide +kernel
theorem dX10_back_16 : decode cX10_back 16 = .ok (.isub, 1) := by decide +kernel
theorem dX10_back_17 : decode cX10_back 17 = .ok (.putfield 136, 3) := by decide +kernel
theorem dX10_back_20 : decode cX10_back 20 = .ok (.aload_n 0, 1) := by decide +kernel
theorem dX10_back_21 : decode cX10_back 21 = .ok (.getfield 37, 3) := by decide +kernel
theorem dX10_back_24 : decode cX10_back 24 = .ok (.bipush 17, 2) := by decide +kernel
theorem dX10_back_26 : decode cX10_back 26 = .ok (.aload_n 0, 1) := by decide +kernel
theorem dX10_back_27 : decode cX10_back 27 = .ok (.getfield 136, 3) := by decide +kernel
theorem dX10_back_30 : decode cX10_back 30 = .ok (.imul, 1) := by decide +kernel
theorem dX10_back_31 : decode cX10_back 31 = .ok (.aload_n 0, 1) := by decide +kernel
theorem dX10_back_32 : decode cX10_back 32 = .ok (.getfield 28, 3) := by decide +kernel
theorem dX10_back_35 : decode cX10_back 35 = .ok (.iconst 0, 1) := by decide +kernel
theorem dX10_back_36 : decode cX10_back 36 = .ok (.bipush 17, 2) := by decide +kernel
theorem dX10_back_38 : decode cX10_back 38 = .ok (.invokestatic 126, 3) := by decide +kernel
theorem dX10_back_41 : decode cX10_back 41 = .ok (.aload_n 0, 1) := by decide +kernel
theorem dX10_back_42 : decode cX10_back 42 = .ok (.iconst 0, 1) := by decide +kernel
theorem dX10_back_43 : decode cX10_back 43 = .ok (.putfield 133, 3) := by decide +kernel
theorem dX10_back_46 : decode cX10_back 46 = .ok (.aload_n 0, 1) := by decide +kernel
theorem dX10_back_47 : decode cX10_back 47 = .ok (.getfield 136, 3) := by decide +kernel
theorem dX10_back_50 : decode cX10_back 50 = .ok (.ireturn, 1) := by decide +kernel
theorem dX10_count_0 : decode cX10_count 0 = .ok (.iload_n 1, 1) := by decide +kernel
theorem dX10_count_1 : decode cX10_count 1 = .ok (.tableswitch 142 0 11 #[63, 68, 73, 82, 89, 101, 108, 115, 122, 127, 132, 137], 63) := by decide +kernel
theorem dX10_count_64 : decode cX10_count 64 = .ok (.aload_n 0, 1) := by decide +kernel
theorem dX10_count_65 : decode cX10_count 65 = .ok (.getfield 50, 3) := by decide +kernel
theorem dX10_count_68 : decode cX10_count 68 = .ok (.ireturn, 1) := by decide +kernel
theorem dX10_count_69 : decode cX10_count 69 = .ok (.aload_n 0, 1) := by decide +kernel
theorem dX10_count_70 : decode cX10_count 70 = .ok (.getfield 61, 3) := by decide +kernel
theorem dX10_count_73 : decode cX10_count 73 = .ok (.ireturn, 1) := by decide +kernel
theorem dX10_count_74 : decode cX10_count 74 = .ok (.aload_n 0, 1) := by decide +kernel
theorem dX10_count_75 : decode cX10_count 75 = .ok (.getfield 28, 3) := by decide +kernel
theorem dX10_count_78 : decode cX10_count 78 = .ok (.iconst 5, 1) := by decide +kernel
theorem dX10_count_79 : decode cX10_count 79 = .ok (.invokestatic 111, 3) := by decide +kernel
theorem dX10_count_82 : decode cX10_count 82 = .ok (.ireturn, 1) := by decide +kernel
theorem dX10_count_83 : decode cX10_count 83 = .ok (.aload_n 0, 1) := by decide +kernel
theorem dX10_count_84 : decode cX10_count 84 = .ok (.getfield 28, 3) := by decide +kernel
theorem dX10_count_87 : decode cX10_count 87 = .ok (.iconst 0, 1) := by decide +kernel
theorem dX10_count_88 : decode cX10_count 88 = .ok (.iaload, 1) := by decide +kernel
theorem dX10_count_89 : decode cX10_count 89 = .ok (.ireturn, 1) := by decide +kernel
theorem dX10_count_90 : decode cX10_count 90 = .ok (.aload_n 0, 1) := by decide +kernel
theorem dX10_count_91 : decode cX10_count 91 = .ok (.invokevirtual 174, 3) := by decide +kernel
theorem dX10_count_94 : decode cX10_count 94 = .ok (.aload_n 0, 1) := by decide +kernel
theorem dX10_count_95 : decode cX10_count 95 = .ok (.getfield 142, 3) := by decide +kernel
theorem dX10_count_98 : decode cX10_count 98 = .ok (.invokestatic 75, 3) := by decide +kernel
theorem dX10_count_101 : decode cX10_count 101 = .ok (.ireturn, 1) := by decide +kernel
theorem dX10_count_102 : decode cX10_count 102 = .ok (.aload_n 0, 1) := by decide +kernel
theorem dX10_count_103 : decode cX10_count 103 = .ok (.getfield 28, 3) := by decide +kernel
theorem dX10_count_106 : decode cX10_count 106 = .ok (.iconst 1, 1) := by decide +kernel
theorem dX10_count_107 : decode cX10_count 107 = .ok (.iaload, 1) := by decide +kernel
theorem dX10_count_108 : decode cX10_count 108 = .ok (.ireturn, 1) := by decide +kernel
theorem dX10_count_109 : decode cX10_count 109 = .ok (.aload_n 0, 1) := by decide +kernel
theorem dX10_count_110 : decode cX10_count 110 = .ok (.getfield 28, 3) := by decide +kernel
theorem dX10_count_113 : decode cX10_count 113 = .ok (.iconst 2, 1) := by decide +kernel
theorem dX10_count_114 : decode cX10_count 114 = .ok (.iaload, 1) := by decide +kernel
theorem dX10_count_115 : decode cX10_count 115 = .ok (.ireturn, 1) := by decide +kernel
theorem dX10_count_116 : decode cX10_count 116 = .ok (.aload_n 0, 1) := by decide +kernel
theorem dX10_count_117 : decode cX10_count 117 = .ok (.getfield 28, 3) := by decide +kernel
theorem dX10_count_120 : decode cX10_count 120 = .ok (.iconst 3, 1) := by decide +kernel
theorem dX10_count_121 : decode cX10_count 121 = .ok (.iaload, 1) := by decide +kernel
theorem dX10_count_122 : decode cX10_count 122 = .ok (.ireturn, 1) := by decide +kernel
theorem dX10_count_123 : decode cX10_count 123 = .ok (.aload_n 0, 1) := by decide +kernel
theorem dX10_count_124 : decode cX10_count 124 = .ok (.getfield 130, 3) := by decide +kernel
theorem dX10_count_127 : decode cX10_count 127 = .ok (.ireturn, 1) := by decide +kernel
theorem dX10_count_128 : decode cX10_count 128 = .ok (.aload_n 0, 1) := by decide +kernel
theorem dX10_count_129 : decode cX10_count 129 = .ok (.getfield 133, 3) := by decide +kernel
theorem dX10_count_132 : decode cX10_count 132 = .ok (.ireturn, 1) := by decide +kernel
theorem dX10_count_133 : decode cX10_count 133 = .ok (.aload_n 0, 1) := by decide +kernel
theorem dX10_count_134 : decode cX10_count 134 = .ok (.getfield 136, 3) := by decide +kernel
theorem dX10_count_137 : decode cX10_count 137 = .ok (.ireturn, 1) := by decide +kernel
theorem dX10_count_138 : decode cX10_count 138 = .ok (.aload_n 0, 1) := by decide +kernel
theorem dX10_count_139 : decode cX10_count 139 = .ok (.getfield 79, 3) := by decide +kernel
theorem dX10_count_142 : decode cX10_count 142 = .ok (.ireturn, 1) := by decide +kernel
theorem dX10_count_143 : decode cX10_count 143 = .ok (.iconst (-1), 1) := by decide +kernel
theorem dX10_count_144 : decode cX10_count 144 = .ok (.ireturn, 1) := by decide +kernel
