theorem d_Mo_run_67 : decode b_Mo_run 67 = .ok (.bipush 40, 2) := by decide +kernel
theorem d_Mo_run_69 : decode b_Mo_run 69 = .ok (.if_icmp .ge 21, 3) := by decide +kernel
theorem d_Mo_run_72 : decode b_Mo_run 72 = .ok (.aload_n 0, 1) := by decide +kernel
theorem d_Mo_run_73 : decode b_Mo_run 73 = .ok (.getfield 32, 3) := by decide +kernel
theorem d_Mo_run_76 : decode b_Mo_run 76 = .ok (.iload_n 3, 1) := by decide +kernel
theorem d_Mo_run_77 : decode b_Mo_run 77 = .ok (.aload_n 0, 1) := by decide +kernel
theorem d_Mo_run_78 : decode b_Mo_run 78 = .ok (.getfield 26, 3) := by decide +kernel
theorem d_Mo_run_81 : decode b_Mo_run 81 = .ok (.iload_n 3, 1) := by decide +kernel
theorem d_Mo_run_82 : decode b_Mo_run 82 = .ok (.iaload, 1) := by decide +kernel
theorem d_Mo_run_83 : decode b_Mo_run 83 = .ok (.iastore, 1) := by decide +kernel
theorem d_Mo_run_84 : decode b_Mo_run 84 = .ok (.iinc 3 1, 3) := by decide +kernel
theorem d_Mo_run_87 : decode b_Mo_run 87 = .ok (.goto (-21), 3) := by decide +kernel
theorem d_Mo_run_90 : decode b_Mo_run 90 = .ok (.iconst 1, 1) := by decide +kernel
theorem d_Mo_run_91 : decode b_Mo_run 91 = .ok (.istore_n 3, 1) := by decide +kernel
theorem d_Mo_run_92 : decode b_Mo_run 92 = .ok (.iload_n 3, 1) := by decide +kernel
theorem d_Mo_run_93 : decode b_Mo_run 93 = .ok (.bipush 8, 2) := by decide +kernel
theorem d_Mo_run_95 : decode b_Mo_run 95 = .ok (.if_icmp .ge 28, 3) := by decide +kernel
theorem d_Mo_run_98 : decode b_Mo_run 98 = .ok (.aload_n 0, 1) := by decide +kernel
theorem d_Mo_run_99 : decode b_Mo_run 99 = .ok (.getfield 69, 3) := by decide +kernel
theorem d_Mo_run_102 : decode b_Mo_run 102 = .ok (.iload_n 3, 1) := by decide +kernel
theorem d_Mo_run_103 : decode b_Mo_run 103 = .ok (.iconst 0, 1) := by decide +kernel
theorem d_Mo_run_104 : decode b_Mo_run 104 = .ok (.bastore, 1) := by decide +kernel
theorem d_Mo_run_105 : decode b_Mo_run 105 = .ok (.aload_n 0, 1) := by decide +kernel
theorem d_Mo_run_106 : decode b_Mo_run 106 = .ok (.getfield 66, 3) := by decide +kernel
theorem d_Mo_run_109 : decode b_Mo_run 109 = .ok (.iload_n 3, 1) := by decide +kernel
theorem d_Mo_run_110 : decode b_Mo_run 110 = .ok (.aload_n 0, 1) := by decide +kernel
theorem d_Mo_run_111 : decode b_Mo_run 111 = .ok (.getfield 60, 3) := by decide +kernel
theorem d_Mo_run_114 : decode b_Mo_run 114 = .ok (.iload_n 3, 1) := by decide +kernel
theorem d_Mo_run_115 : decode b_Mo_run 115 = .ok (.iaload, 1) := by decide +kernel
theorem d_Mo_run_116 : decode b_Mo_run 116 = .ok (.iastore, 1) := by decide +kernel
theorem d_Mo_run_117 : decode b_Mo_run 117 = .ok (.iinc 3 1, 3) := by decide +kernel
theorem d_Mo_run_120 : decode b_Mo_run 120 = .ok (.goto (-28), 3) := by decide +kernel
theorem d_Mo_run_123 : decode b_Mo_run 123 = .ok (.aload_n 0, 1) := by decide +kernel
theorem d_Mo_run_124 : decode b_Mo_run 124 = .ok (.iload_n 2, 1) := by decide +kernel
theorem d_Mo_run_125 : decode b_Mo_run 125 = .ok (.putfield 132, 3) := by decide +kernel
theorem d_Mo_run_128 : decode b_Mo_run 128 = .ok (.aload_n 0, 1) := by decide +kernel
theorem d_Mo_run_129 : decode b_Mo_run 129 = .ok (.invokevirtual 212, 3) := by decide +kernel
theorem d_Mo_run_132 : decode b_Mo_run 132 = .ok (.iinc 1 1, 3) := by decide +kernel
theorem d_Mo_run_135 : decode b_Mo_run 135 = .ok (.iconst 0, 1) := by decide +kernel
theorem d_Mo_run_136 : decode b_Mo_run 136 = .ok (.istore_n 3, 1) := by decide +kernel
theorem d_Mo_run_137 : decode b_Mo_run 137 = .ok (.iload_n 3, 1) := by decide +kernel
theorem d_Mo_run_138 : decode b_Mo_run 138 = .ok (.iconst 4, 1) := by decide +kernel
theorem d_Mo_run_139 : decode b_Mo_run 139 = .ok (.if_icmp .ge 21, 3) := by decide +kernel
theorem d_Mo_run_142 : decode b_Mo_run 142 = .ok (.aload_n 0, 1) := by decide +kernel
theorem d_Mo_run_143 : decode b_Mo_run 143 = .ok (.getfield 23, 3) := by decide +kernel
theorem d_Mo_run_146 : decode b_Mo_run 146 = .ok (.iload_n 3, 1) := by decide +kernel
theorem d_Mo_run_147 : decode b_Mo_run 147 = .ok (.aload_n 0, 1) := by decide +kernel
theorem d_Mo_run_148 : decode b_Mo_run 148 = .ok (.getfield 29, 3) := by decide +kernel
theorem d_Mo_run_151 : decode b_Mo_run 151 = .ok (.iload_n 3, 1) := by decide +kernel
theorem d_Mo_run_152 : decode b_Mo_run 152 = .ok (.iaload, 1) := by decide +kernel
theorem d_Mo_run_153 : decode b_Mo_run 153 = .ok (.iastore, 1) := by decide +kernel
theorem d_Mo_run_154 : decode b_Mo_run 154 = .ok (.iinc 3 1, 3) := by decide +kernel
theorem d_Mo_run_157 : decode b_Mo_run 157 = .ok (.goto (-20), 3) := by decide +kernel
theorem d_Mo_run_160 : decode b_Mo_run 160 = .ok (.iconst 0, 1) := by decide +kernel
theorem d_Mo_run_161 : decode b_Mo_run 161 = .ok (.istore_n 3, 1) := by decide +kernel
theorem d_Mo_run_162 : decode b_Mo_run 162 = .ok (.iload_n 3, 1) := by decide +kernel
theorem d_Mo_run_163 : decode b_Mo_run 163 = .ok (.bipush 40, 2) := by decide +kernel
theorem d_Mo_run_165 : decode b_Mo_run 165 = .ok (.if_icmp .ge 21, 3) := by decide +kernel
theorem d_Mo_run_168 : decode b_Mo_run 168 = .ok (.aload_n 0, 1) := by decide +kernel
theorem d_Mo_run_169 : decode b_Mo_run 169 = .ok (.getfield 26, 3) := by decide +kernel
theorem d_Mo_run_172 : decode b_Mo_run 172 = .ok (.iload_n 3, 1) := by decide +kernel
theorem d_Mo_run_173 : decode b_Mo_run 173 = .ok (.aload_n 0, 1) := by decide +kernel
theorem d_Mo_run_174 : decode b_Mo_run 174 = .ok (.getfield 32, 3) := by decide +kernel
theorem d_Mo_run_177 : decode b_Mo_run 177 = .ok (.iload_n 3, 1) := by decide +kernel
theorem d_Mo_run_178 : decode b_Mo_run 178 = .ok (.iaload, 1) := by decide +kernel
theorem d_Mo_run_179 : decode b_Mo_run 179 = .ok (.iastore, 1) := by decide +kernel
theorem d_Mo_run_180 : decode b_Mo_run 180 = .ok (.iinc 3 1, 3) := by decide +kernel
theorem d_Mo_run_183 : decode b_Mo_run 183 = .ok (.goto (-21), 3) := by decide +kernel
theorem d_Mo_run_186 : decode b_Mo_run 186 = .ok (.iconst 1, 1) := by decide +kernel
theorem d_Mo_run_187 : decode b_Mo_run 187 = .ok (.istore_n 3, 1) := by decide +kernel
theorem d_Mo_run_188 : decode b_Mo_run 188 = .ok (.iload_n 3, 1) := by decide +kernel
theorem d_Mo_run_189 : decode b_Mo_run 189 = .ok (.bipush 8, 2) := by decide +kernel
theorem d_Mo_run_191 : decode b_Mo_run 191 = .ok (.if_icmp .ge 63, 3) := by decide +kernel
theorem d_Mo_run_194 : decode b_Mo_run 194 = .ok (.aload_n 0, 1) := by decide +kernel
theorem d_Mo_run_195 : decode b_Mo_run 195 = .ok (.getfield 48, 3) := by decide +kernel
theorem d_Mo_run_198 : decode b_Mo_run 198 = .ok (.iload_n 3, 1) := by decide +kernel
theorem d_Mo_run_199 : decode b_Mo_run 199 = .ok (.aload_n 0, 1) := by decide +kernel
theorem d_Mo_run_200 : decode b_Mo_run 200 = .ok (.getfield 48, 3) := by decide +kernel
theorem d_Mo_run_203 : decode b_Mo_run 203 = .ok (.iload_n 3, 1) := by decide +kernel
theorem d_Mo_run_204 : decode b_Mo_run 204 = .ok (.baload, 1) := by decide +kernel
theorem d_Mo_run_205 : decode b_Mo_run 205 = .ok (.ifCond .eq 16, 3) := by decide +kernel
theorem d_Mo_run_208 : decode b_Mo_run 208 = .ok (.aload_n 0, 1) := by decide +kernel
theorem d_Mo_run_209 : decode b_Mo_run 209 = .ok (.getfield 69, 3) := by decide +kernel
theorem d_Mo_run_212 : decode b_Mo_run 212 = .ok (.iload_n 3, 1) := by decide +kernel
theorem d_Mo_run_213 : decode b_Mo_run 213 = .ok (.baload, 1) := by decide +kernel
theorem d_Mo_run_214 : decode b_Mo_run 214 = .ok (.ifCond .ne 7, 3) := by decide +kernel
theorem d_Mo_run_217 : decode b_Mo_run 217 = .ok (.iconst 1, 1) := by decide +kernel
theorem d_Mo_run_218 : decode b_Mo_run 218 = .ok (.goto 4, 3) := by decide +kernel
theorem d_Mo_run_221 : decode b_Mo_run 221 = .ok (.iconst 0, 1) := by decide +kernel
theorem d_Mo_run_222 : decode b_Mo_run 222 = .ok (.bastore, 1) := by decide +kernel
theorem d_Mo_run_223 : decode b_Mo_run 223 = .ok (.aload_n 0, 1) := by decide +kernel
theorem d_Mo_run_224 : decode b_Mo_run 224 = .ok (.getfield 60, 3) := by decide +kernel
theorem d_Mo_run_227 : decode b_Mo_run 227 = .ok (.iload_n 3, 1) := by decide +kernel
theorem d_Mo_run_228 : decode b_Mo_run 228 = .ok (.aload_n 0, 1) := by decide +kernel
theorem d_Mo_run_229 : decode b_Mo_run 229 = .ok (.getfield 69, 3) := by decide +kernel
theorem d_Mo_run_232 : decode b_Mo_run 232 = .ok (.iload_n 3, 1) := by decide +kernel
theorem d_Mo_run_233 : decode b_Mo_run 233 = .ok (.baload, 1) := by decide +kernel
theorem d_Mo_run_234 : decode b_Mo_run 234 = .ok (.ifCond .eq 7, 3) := by decide +kernel
theorem d_Mo_run_237 : decode b_Mo_run 237 = .ok (.iconst 0, 1) := by decide +kernel
theorem d_Mo_run_238 : decode b_Mo_run 238 = .ok (.goto 9, 3) := by decide +kernel
theorem d_Mo_run_241 : decode b_Mo_run 241 = .ok (.aload_n 0, 1) := by decide +kernel
theorem d_Mo_run_242 : decode b_Mo_run 242 = .ok (.getfield 66, 3) := by decide +kernel
theorem d_Mo_run_245 : decode b_Mo_run 245 = .ok (.iload_n 3, 1) := by decide +kernel
theorem d_Mo_run_246 : decode b_Mo_run 246 = .ok (.iaload, 1) := by decide +kernel
theorem d_Mo_run_247 : decode b_Mo_run 247 = .ok (.iastore, 1) := by decide +kernel
theorem d_Mo_run_248 : decode b_Mo_run 248 = .ok (.iinc 3 1, 3) := by decide +kernel
theorem d_Mo_run_251 : decode b_Mo_run 251 = .ok (.goto (-63), 3) := by decide +kernel
theorem d_Mo_run_254 : decode b_Mo_run 254 = .ok (.iinc 2 1, 3) := by decide +kernel
theorem d_Mo_run_257 : decode b_Mo_run 257 = .ok (.goto (-238), 3) := by decide +kernel
theorem d_Mo_run_260 : decode b_Mo_run 260 = .ok (.iload_n 1, 1) := by decide +kernel
theorem d_Mo_run_261 : decode b_Mo_run 261 = .ok (.ireturn, 1) := by decide +kernel
theorem d_Law_cell_0 : decode b_Law_cell 0 = .ok (.iload_n 1, 1) := by decide +kernel
theorem d_Law_cell_1 : decode b_Law_cell 1 = .ok (.aload_n 0, 1) := by decide +kernel
theorem d_Law_cell_2 : decode b_Law_cell 2 = .ok (.arraylength, 1) := by decide +kernel
theorem d_Law_cell_3 : decode b_Law_cell 3 = .ok (.if_icmp .ge 9, 3) := by decide +kernel
theorem d_Law_cell_6 : decode b_Law_cell 6 = .ok (.aload_n 0, 1) := by decide +kernel
theorem d_Law_cell_7 : decode b_Law_cell 7 = .ok (.iload_n 1, 1) := by decide +kernel
theorem d_Law_cell_8 : decode b_Law_cell 8 = .ok (.iaload, 1) := by decide +kernel
theorem d_Law_cell_9 : decode b_Law_cell 9 = .ok (.goto 4, 3) := by decide +kernel
theorem d_Law_cell_12 : decode b_Law_cell 12 = .ok (.iconst 0, 1) := by decide +kernel
theorem d_Law_cell_13 : decode b_Law_cell 13 = .ok (.ireturn, 1) := by decide +kernel
theorem d_Law_law_0 : decode b_Law_law 0 = .ok (.new 7, 3) := by decide +kernel
theorem d_Law_law_3 : decode b_Law_law 3 = .ok (.dup, 1) := by decide +kernel
theorem d_Law_law_4 : decode b_Law_law 4 = .ok (.aload_n 0, 1) := by decide +kernel
theorem d_Law_law_5 : decode b_Law_law 5 = .ok (.iconst 0, 1) := by decide +kernel
theorem d_Law_law_6 : decode b_Law_law 6 = .ok (.invokestatic 9, 3) := by decide +kernel
theorem d_Law_law_9 : decode b_Law_law 9 = .ok (.i2l, 1) := by decide +kernel
theorem d_Law_law_10 : decode b_Law_law 10 = .ok (.invokespecial 15, 3) := by decide +kernel
theorem d_Law_law_13 : decode b_Law_law 13 = .ok (.astore_n 1, 1) := by decide +kernel
theorem d_Law_law_14 : decode b_Law_law 14 = .ok (.new 18, 3) := by decide +kernel
theorem d_Law_law_17 : decode b_Law_law 17 = .ok (.dup, 1) := by decide +kernel
theorem d_Law_law_18 : decode b_Law_law 18 = .ok (.aload_n 0, 1) := by decide +kernel
theorem d_Law_law_19 : decode b_Law_law 19 = .ok (.iconst 0, 1) := by decide +kernel
theorem d_Law_law_20 : decode b_Law_law 20 = .ok (.invokestatic 9, 3) := by decide +kernel
theorem d_Law_law_23 : decode b_Law_law 23 = .ok (.i2l, 1) := by decide +kernel
theorem d_Law_law_24 : decode b_Law_law 24 = .ok (.invokespecial 20, 3) := by decide +kernel
theorem d_Law_law_27 : decode b_Law_law 27 = .ok (.astore_n 2, 1) := by decide +kernel
theorem d_Law_law_28 : decode b_Law_law 28 = .ok (.iconst 1, 1) := by decide +kernel
theorem d_Law_law_29 : decode b_Law_law 29 = .ok (.istore_n 3, 1) := by decide +kernel
theorem d_Law_law_30 : decode b_Law_law 30 = .ok (.iload_n 3, 1) := by decide +kernel
theorem d_Law_law_31 : decode b_Law_law 31 = .ok (.aload_n 0, 1) := by decide +kernel
theorem d_Law_law_32 : decode b_Law_law 32 = .ok (.arraylength, 1) := by decide +kernel
theorem d_Law_law_33 : decode b_Law_law 33 = .ok (.iconst 4, 1) := by decide +kernel
theorem d_Law_law_34 : decode b_Law_law 34 = .ok (.isub, 1) := by decide +kernel
theorem d_Law_law_35 : decode b_Law_law 35 = .ok (.if_icmp .gt 573, 3) := by decide +kernel
theorem d_Law_law_38 : decode b_Law_law 38 = .ok (.aload_n 0, 1) := by decide +kernel
theorem d_Law_law_39 : decode b_Law_law 39 = .ok (.iload_n 3, 1) := by decide +kernel
theorem d_Law_law_40 : decode b_Law_law 40 = .ok (.iaload, 1) := by decide +kernel
theorem d_Law_law_41 : decode b_Law_law 41 = .ok (.bipush 15, 2) := by decide +kernel
theorem d_Law_law_43 : decode b_Law_law 43 = .ok (.iand, 1) := by decide +kernel
theorem d_Law_law_44 : decode b_Law_law 44 = .ok (.tableswitch 558 0 15 #[80, 93, 128, 141, 174, 207, 240, 283, 316, 349, 384, 407, 440, 463, 502, 525], 80) := by decide +kernel
theorem d_Law_law_124 : decode b_Law_law 124 = .ok (.aload_n 1, 1) := by decide +kernel
theorem d_Law_law_125 : decode b_Law_law 125 = .ok (.invokevirtual 21, 3) := by decide +kernel
theorem d_Law_law_128 : decode b_Law_law 128 = .ok (.aload_n 2, 1) := by decide +kernel
theorem d_Law_law_129 : decode b_Law_law 129 = .ok (.invokevirtual 25, 3) := by decide +kernel
theorem d_Law_law_132 : decode b_Law_law 132 = .ok (.if_icmp .eq 470, 3) := by decide +kernel
theorem d_Law_law_135 : decode b_Law_law 135 = .ok (.iconst 0, 1) := by decide +kernel
theorem d_Law_law_136 : decode b_Law_law 136 = .ok (.ireturn, 1) := by decide +kernel
theorem d_Law_law_137 : decode b_Law_law 137 = .ok (.aload_n 1, 1) := by decide +kernel
theorem d_Law_law_138 : decode b_Law_law 138 = .ok (.aload_n 0, 1) := by decide +kernel
theorem d_Law_law_139 : decode b_Law_law 139 = .ok (.iload_n 3, 1) := by decide +kernel
theorem d_Law_law_140 : decode b_Law_law 140 = .ok (.iconst 1, 1) := by decide +kernel
theorem d_Law_law_141 : decode b_Law_law 141 = .ok (.iadd, 1) := by decide +kernel
theorem d_Law_law_142 : decode b_Law_law 142 = .ok (.iaload, 1) := by decide +kernel
theorem d_Law_law_143 : decode b_Law_law 143 = .ok (.aload_n 0, 1) := by decide +kernel
theorem d_Law_law_144 : decode b_Law_law 144 = .ok (.iload_n 3, 1) := by decide +kernel
theorem d_Law_law_145 : decode b_Law_law 145 = .ok (.iconst 2, 1) := by decide +kernel
theorem d_Law_law_146 : decode b_Law_law 146 = .ok (.iadd, 1) := by decide +kernel
theorem d_Law_law_147 : decode b_Law_law 147 = .ok (.iaload, 1) := by decide +kernel
theorem d_Law_law_148 : decode b_Law_law 148 = .ok (.i2b, 1) := by decide +kernel
theorem d_Law_law_149 : decode b_Law_law 149 = .ok (.invokevirtual 26, 3) := by decide +kernel
theorem d_Law_law_152 : decode b_Law_law 152 = .ok (.aload_n 2, 1) := by decide +kernel
theorem d_Law_law_153 : decode b_Law_law 153 = .ok (.aload_n 0, 1) := by decide +kernel
theorem d_Law_law_154 : decode b_Law_law 154 = .ok (.iload_n 3, 1) := by decide +kernel
theorem d_Law_law_155 : decode b_Law_law 155 = .ok (.iconst 1, 1) := by decide +kernel
theorem d_Law_law_156 : decode b_Law_law 156 = .ok (.iadd, 1) := by decide +kernel
theorem d_Law_law_157 : decode b_Law_law 157 = .ok (.iaload, 1) := by decide +kernel
theorem d_Law_law_158 : decode b_Law_law 158 = .ok (.aload_n 0, 1) := by decide +kernel
theorem d_Law_law_159 : decode b_Law_law 159 = .ok (.iload_n 3, 1) := by decide +kernel
theorem d_Law_law_160 : decode b_Law_law 160 = .ok (.iconst 2, 1) := by decide +kernel
theorem d_Law_law_161 : decode b_Law_law 161 = .ok (.iadd, 1) := by decide +kernel
theorem d_Law_law_162 : decode b_Law_law 162 = .ok (.iaload, 1) := by decide +kernel
theorem d_Law_law_163 : decode b_Law_law 163 = .ok (.i2b, 1) := by decide +kernel
theorem d_Law_law_164 : decode b_Law_law 164 = .ok (.invokevirtual 30, 3) := by decide +kernel
theorem d_Law_law_167 : decode b_Law_law 167 = .ok (.if_icmp .eq 435, 3) := by decide +kernel
theorem d_Law_law_170 : decode b_Law_law 170 = .ok (.iconst 0, 1) := by decide +kernel
theorem d_Law_law_171 : decode b_Law_law 171 = .ok (.ireturn, 1) := by decide +kernel
theorem d_Law_law_172 : decode b_Law_law 172 = .ok (.aload_n 1, 1) := by decide +kernel
theorem d_Law_law_173 : decode b_Law_law 173 = .ok (.invokevirtual 31, 3) := by decide +kernel
theorem d_Law_law_176 : decode b_Law_law 176 = .ok (.aload_n 2, 1) := by decide +kernel
theorem d_Law_law_177 : decode b_Law_law 177 = .ok (.invokevirtual 34, 3) := by decide +kernel
theorem d_Law_law_180 : decode b_Law_law 180 = .ok (.if_icmp .eq 422, 3) := by decide +kernel
theorem d_Law_law_183 : decode b_Law_law 183 = .ok (.iconst 0, 1) := by decide +kernel
theorem d_Law_law_184 : decode b_Law_law 184 = .ok (.ireturn, 1) := by decide +kernel
theorem d_Law_law_185 : decode b_Law_law 185 = .ok (.aload_n 1, 1) := by decide +kernel
theorem d_Law_law_186 : decode b_Law_law 186 = .ok (.aload_n 0, 1) := by decide +kernel
theorem d_Law_law_187 : decode b_Law_law 187 = .ok (.iload_n 3, 1) := by decide +kernel
theorem d_Law_law_188 : decode b_Law_law 188 = .ok (.iconst 1, 1) := by decide +kernel
theorem d_Law_law_189 : decode b_Law_law 189 = .ok (.iadd, 1) := by decide +kernel
theorem d_Law_law_190 : decode b_Law_law 190 = .ok (.iaload, 1) := by decide +kernel
theorem d_Law_law_191 : decode b_Law_law 191 = .ok (.aload_n 0, 1) := by decide +kernel
theorem d_Law_law_192 : decode b_Law_law 192 = .ok (.iload_n 3, 1) := by decide +kernel
theorem d_Law_law_193 : decode b_Law_law 193 = .ok (.iconst 2, 1) := by decide +kernel
theorem d_Law_law_194 : decode b_Law_law 194 = .ok (.iadd, 1) := by decide +kernel
theorem d_Law_law_195 : decode b_Law_law 195 = .ok (.iaload, 1) := by decide +kernel
theorem d_Law_law_196 : decode b_Law_law 196 = .ok (.invokevirtual 35, 3) := by decide +kernel
theorem d_Law_law_199 : decode b_Law_law 199 = .ok (.aload_n 2, 1) := by decide +kernel
theorem d_Law_law_200 : decode b_Law_law 200 = .ok (.aload_n 0, 1) := by decide +kernel
theorem d_Law_law_201 : decode b_Law_law 201 = .ok (.iload_n 3, 1) := by decide +kernel
theorem d_Law_law_202 : decode b_Law_law 202 = .ok (.iconst 1, 1) := by decide +kernel
theorem d_Law_law_203 : decode b_Law_law 203 = .ok (.iadd, 1) := by decide +kernel
theorem d_Law_law_204 : decode b_Law_law 204 = .ok (.iaload, 1) := by decide +kernel
theorem d_Law_law_205 : decode b_Law_law 205 = .ok (.aload_n 0, 1) := by decide +kernel
theorem d_Law_law_206 : decode b_Law_law 206 = .ok (.iload_n 3, 1) := by decide +kernel
theorem d_Law_law_207 : decode b_Law_law 207 = .ok (.iconst 2, 1) := by decide +kernel
theorem d_Law_law_208 : decode b_Law_law 208 = .ok (.iadd, 1) := by decide +kernel
theorem d_Law_law_209 : decode b_Law_law 209 = .ok (.iaload, 1) := by decide +kernel
theorem d_Law_law_210 : decode b_Law_law 210 = .ok (.invokevirtual 39, 3) := by decide +kernel
theorem d_Law_law_213 : decode b_Law_law 213 = .ok (.if_icmp .eq 389, 3) := by decide +kernel
theorem d_Law_law_216 : decode b_Law_law 216 = .ok (.iconst 0, 1) := by decide +kernel
theorem d_Law_law_217 : decode b_Law_law 217 = .ok (.ireturn, 1) := by decide +kernel
theorem d_Law_law_218 : decode b_Law_law 218 = .ok (.aload_n 1, 1) := by decide +kernel
theorem d_Law_law_219 : decode b_Law_law 219 = .ok (.aload_n 0, 1) := by decide +kernel
theorem d_Law_law_220 : decode b_Law_law 220 = .ok (.iload_n 3, 1) := by decide +kernel
theorem d_Law_law_221 : decode b_Law_law 221 = .ok (.iconst 1, 1) := by decide +kernel
theorem d_Law_law_222 : decode b_Law_law 222 = .ok (.iadd, 1) := by decide +kernel
theorem d_Law_law_223 : decode b_Law_law 223 = .ok (.iaload, 1) := by decide +kernel
theorem d_Law_law_224 : decode b_Law_law 224 = .ok (.aload_n 0, 1) := by decide +kernel
theorem d_Law_law_225 : decode b_Law_law 225 = .ok (.iload_n 3, 1) := by decide +kernel
theorem d_Law_law_226 : decode b_Law_law 226 = .ok (.iconst 2, 1) := by decide +kernel
theorem d_Law_law_227 : decode b_Law_law 227 = .ok (.iadd, 1) := by decide +kernel
theorem d_Law_law_228 : decode b_Law_law 228 = .ok (.iaload, 1) := by decide +kernel
theorem d_Law_law_229 : decode b_Law_law 229 = .ok (.invokevirtual 40, 3) := by decide +kernel
theorem d_Law_law_232 : decode b_Law_law 232 = .ok (.aload_n 2, 1) := by decide +kernel
theorem d_Law_law_233 : decode b_Law_law 233 = .ok (.aload_n 0, 1) := by decide +kernel
theorem d_Law_law_234 : decode b_Law_law 234 = .ok (.iload_n 3, 1) := by decide +kernel
theorem d_Law_law_235 : decode b_Law_law 235 = .ok (.iconst 1, 1) := by decide +kernel
theorem d_Law_law_236 : decode b_Law_law 236 = .ok (.iadd, 1) := by decide +kernel
theorem d_Law_law_237 : decode b_Law_law 237 = .ok (.iaload, 1) := by decide +kernel
theorem d_Law_law_238 : decode b_Law_law 238 = .ok (.aload_n 0, 1) := by decide +kernel
theorem d_Law_law_239 : decode b_Law_law 239 = .ok (.iload_n 3, 1) := by decide +kernel
theorem d_Law_law_240 : decode b_Law_law 240 = .ok (.iconst 2, 1) := by decide +kernel
theorem d_Law_law_241 : decode b_Law_law 241 = .ok (.iadd, 1) := by decide +kernel
theorem d_Law_law_242 : decode b_Law_law 242 = .ok (.iaload, 1) := by decide +kernel
theorem d_Law_law_243 : decode b_Law_law 243 = .ok (.invokevirtual 43, 3) := by decide +kernel
theorem d_Law_law_246 : decode b_Law_law 246 = .ok (.if_icmp .eq 356, 3) := by decide +kernel
theorem d_Law_law_249 : decode b_Law_law 249 = .ok (.iconst 0, 1) := by decide +kernel
theorem d_Law_law_250 : decode b_Law_law 250 = .ok (.ireturn, 1) := by decide +kernel
theorem d_Law_law_251 : decode b_Law_law 251 = .ok (.aload_n 1, 1) := by decide +kernel
theorem d_Law_law_252 : decode b_Law_law 252 = .ok (.aload_n 0, 1) := by decide +kernel
theorem d_Law_law_253 : decode b_Law_law 253 = .ok (.iload_n 3, 1) := by decide +kernel
theorem d_Law_law_254 : decode b_Law_law 254 = .ok (.iconst 1, 1) := by decide +kernel
theorem d_Law_law_255 : decode b_Law_law 255 = .ok (.iadd, 1) := by decide +kernel
theorem d_Law_law_256 : decode b_Law_law 256 = .ok (.iaload, 1) := by decide +kernel
theorem d_Law_law_257 : decode b_Law_law 257 = .ok (.aload_n 0, 1) := by decide +kernel
theorem d_Law_law_258 : decode b_Law_law 258 = .ok (.iload_n 3, 1) := by decide +kernel
theorem d_Law_law_259 : decode b_Law_law 259 = .ok (.iconst 2, 1) := by decide +kernel
theorem d_Law_law_260 : decode b_Law_law 260 = .ok (.iadd, 1) := by decide +kernel
theorem d_Law_law_261 : decode b_Law_law 261 = .ok (.iaload, 1) := by decide +kernel
theorem d_Law_law_262 : decode b_Law_law 262 = .ok (.invokevirtual 44, 3) := by decide +kernel
theorem d_Law_law_265 : decode b_Law_law 265 = .ok (.aload_n 2, 1) := by decide +kernel
theorem d_Law_law_266 : decode b_Law_law 266 = .ok (.aload_n 0, 1) := by decide +kernel
theorem d_Law_law_267 : decode b_Law_law 267 = .ok (.iload_n 3, 1) := by decide +kernel
theorem d_Law_law_268 : decode b_Law_law 268 = .ok (.iconst 1, 1) := by decide +kernel
theorem d_Law_law_269 : decode b_Law_law 269 = .ok (.iadd, 1) := by decide +kernel
theorem d_Law_law_270 : decode b_Law_law 270 = .ok (.iaload, 1) := by decide +kernel
theorem d_Law_law_271 : decode b_Law_law 271 = .ok (.aload_n 0, 1) := by decide +kernel
theorem d_Law_law_272 : decode b_Law_law 272 = .ok (.iload_n 3, 1) := by decide +kernel
theorem d_Law_law_273 : decode b_Law_law 273 = .ok (.iconst 2, 1) := by decide +kernel
theorem d_Law_law_274 : decode b_Law_law 274 = .ok (.iadd, 1) := by decide +kernel
theorem d_Law_law_275 : decode b_Law_law 275 = .ok (.iaload, 1) := by decide +kernel
theorem d_Law_law_276 : decode b_Law_law 276 = .ok (.invokevirtual 47, 3) := by decide +kernel
theorem d_Law_law_279 : decode b_Law_law 279 = .ok (.if_icmp .eq 323, 3) := by decide +kernel
theorem d_Law_law_282 : decode b_Law_law 282 = .ok (.iconst 0, 1) := by decide +kernel
theorem d_Law_law_283 : decode b_Law_law 283 = .ok (.ireturn, 1) := by decide +kernel
theorem d_Law_law_284 : decode b_Law_law 284 = .ok (.aload_n 1, 1) := by decide +kernel
theorem d_Law_law_285 : decode b_Law_law 285 = .ok (.aload_n 0, 1) := by decide +kernel
theorem d_Law_law_286 : decode b_Law_law 286 = .ok (.iload_n 3, 1) := by decide +kernel
theorem d_Law_law_287 : decode b_Law_law 287 = .ok (.iconst 1, 1) := by decide +kernel
theorem d_Law_law_288 : decode b_Law_law 288 = .ok (.iadd, 1) := by decide +kernel
theorem d_Law_law_289 : decode b_Law_law 289 = .ok (.iaload, 1) := by decide +kernel
theorem d_Law_law_290 : decode b_Law_law 290 = .ok (.aload_n 0, 1) := by decide +kernel
theorem d_Law_law_291 : decode b_Law_law 291 = .ok (.iload_n 3, 1) := by decide +kernel
theorem d_Law_law_292 : decode b_Law_law 292 = .ok (.iconst 2, 1) := by decide +kernel
theorem d_Law_law_293 : decode b_Law_law 293 = .ok (.iadd, 1) := by decide +kernel
theorem d_Law_law_294 : decode b_Law_law 294 = .ok (.iaload, 1) := by decide +kernel
theorem d_Law_law_295 : decode b_Law_law 295 = .ok (.aload_n 0, 1) := by decide +kernel
theorem d_Law_law_296 : decode b_Law_law 296 = .ok (.iload_n 3, 1) := by decide +kernel
theorem d_Law_law_297 : decode b_Law_law 297 = .ok (.iconst 3, 1) := by decide +kernel
theorem d_Law_law_298 : decode b_Law_law 298 = .ok (.iadd, 1) := by decide +kernel
theorem d_Law_law_299 : decode b_Law_law 299 = .ok (.iaload, 1) := by decide +kernel
theorem d_Law_law_300 : decode b_Law_law 300 = .ok (.invokevirtual 48, 3) := by decide +kernel
theorem d_Law_law_303 : decode b_Law_law 303 = .ok (.aload_n 2, 1) := by decide +kernel
theorem d_Law_law_304 : decode b_Law_law 304 = .ok (.aload_n 0, 1) := by decide +kernel
theorem d_Law_law_305 : decode b_Law_law 305 = .ok (.iload_n 3, 1) := by decide +kernel
theorem d_Law_law_306 : decode b_Law_law 306 = .ok (.iconst 1, 1) := by decide +kernel
theorem d_Law_law_307 : decode b_Law_law 307 = .ok (.iadd, 1) := by decide +kernel
theorem d_Law_law_308 : decode b_Law_law 308 = .ok (.iaload, 1) := by decide +kernel
theorem d_Law_law_309 : decode b_Law_law 309 = .ok (.aload_n 0, 1) := by decide +kernel
theorem d_Law_law_310 : decode b_Law_law 310 = .ok (.iload_n 3, 1) := by decide +kernel
theorem d_Law_law_311 : decode b_Law_law 311 = .ok (.iconst 2, 1) := by decide +kernel
theorem d_Law_law_312 : decode b_Law_law 312 = .ok (.iadd, 1) := by decide +kernel
theorem d_Law_law_313 : decode b_Law_law 313 = .ok (.iaload, 1) := by decide +kernel
theorem d_Law_law_314 : decode b_Law_law 314 = .ok (.aload_n 0, 1) := by decide +kernel
theorem d_Law_law_315 : decode b_Law_law 315 = .ok (.iload_n 3, 1) := by decide +kernel
theorem d_Law_law_316 : decode b_Law_law 316 = .ok (.iconst 3, 1) := by decide +kernel
theorem d_Law_law_317 : decode b_Law_law 317 = .ok (.iadd, 1) := by decide +kernel
theorem d_Law_law_318 : decode b_Law_law 318 = .ok (.iaload, 1) := by decide +kernel
theorem d_Law_law_319 : decode b_Law_law 319 = .ok (.invokevirtual 52, 3) := by decide +kernel
theorem d_Law_law_322 : decode b_Law_law 322 = .ok (.if_icmp .eq 280, 3) := by decide +kernel
theorem d_Law_law_325 : decode b_Law_law 325 = .ok (.iconst 0, 1) := by decide +kernel
theorem d_Law_law_326 : decode b_Law_law 326 = .ok (.ireturn, 1) := by decide +kernel
theorem d_Law_law_327 : decode b_Law_law 327 = .ok (.aload_n 1, 1) := by decide +kernel
theorem d_Law_law_328 : decode b_Law_law 328 = .ok (.aload_n 0, 1) := by decide +kernel
theorem d_Law_law_329 : decode b_Law_law 329 = .ok (.iload_n 3, 1) := by decide +kernel
theorem d_Law_law_330 : decode b_Law_law 330 = .ok (.iconst 1, 1) := by decide +kernel
theorem d_Law_law_331 : decode b_Law_law 331 = .ok (.iadd, 1) := by decide +kernel
theorem d_Law_law_332 : decode b_Law_law 332 = .ok (.iaload, 1) := by decide +kernel
theorem d_Law_law_333 : decode b_Law_law 333 = .ok (.aload_n 0, 1) := by decide +kernel
theorem d_Law_law_334 : decode b_Law_law 334 = .ok (.iload_n 3, 1) := by decide +kernel
theorem d_Law_law_335 : decode b_Law_law 335 = .ok (.iconst 2, 1) := by decide +kernel
theorem d_Law_law_336 : decode b_Law_law 336 = .ok (.iadd, 1) := by decide +kernel
theorem d_Law_law_337 : decode b_Law_law 337 = .ok (.iaload, 1) := by decide +kernel
theorem d_Law_law_338 : decode b_Law_law 338 = .ok (.invokevirtual 53, 3) := by decide +kernel
theorem d_Law_law_341 : decode b_Law_law 341 = .ok (.aload_n 2, 1) := by decide +kernel
theorem d_Law_law_342 : decode b_Law_law 342 = .ok (.aload_n 0, 1) := by decide +kernel
theorem d_Law_law_343 : decode b_Law_law 343 = .ok (.iload_n 3, 1) := by decide +kernel
theorem d_Law_law_344 : decode b_Law_law 344 = .ok (.iconst 1, 1) := by decide +kernel
theorem d_Law_law_345 : decode b_Law_law 345 = .ok (.iadd, 1) := by decide +kernel
theorem d_Law_law_346 : decode b_Law_law 346 = .ok (.iaload, 1) := by decide +kernel
theorem d_Law_law_347 : decode b_Law_law 347 = .ok (.aload_n 0, 1) := by decide +kernel
theorem d_Law_law_348 : decode b_Law_law 348 = .ok (.iload_n 3, 1) := by decide +kernel
theorem d_Law_law_349 : decode b_Law_law 349 = .ok (.iconst 2, 1) := by decide +kernel
theorem d_Law_law_350 : decode b_Law_law 350 = .ok (.iadd, 1) := by decide +kernel
theorem d_Law_law_351 : decode b_Law_law 351 = .ok (.iaload, 1) := by decide +kernel
theorem d_Law_law_352 : decode b_Law_law 352 = .ok (.invokevirtual 56, 3) := by decide +kernel
theorem d_Law_law_355 : decode b_Law_law 355 = .ok (.if_icmp .eq 247, 3) := by decide +kernel
theorem d_Law_law_358 : decode b_Law_law 358 = .ok (.iconst 0, 1) := by decide +kernel
theorem d_Law_law_359 : decode b_Law_law 359 = .ok (.ireturn, 1) := by decide +kernel
theorem d_Law_law_360 : decode b_Law_law 360 = .ok (.aload_n 1, 1) := by decide +kernel
theorem d_Law_law_361 : decode b_Law_law 361 = .ok (.aload_n 0, 1) := by decide +kernel
theorem d_Law_law_362 : decode b_Law_law 362 = .ok (.iload_n 3, 1) := by decide +kernel
theorem d_Law_law_363 : decode b_Law_law 363 = .ok (.iconst 1, 1) := by decide +kernel
theorem d_Law_law_364 : decode b_Law_law 364 = .ok (.iadd, 1) := by decide +kernel
theorem d_Law_law_365 : decode b_Law_law 365 = .ok (.iaload, 1) := by decide +kernel
theorem d_Law_law_366 : decode b_Law_law 366 = .ok (.aload_n 0, 1) := by decide +kernel
theorem d_Law_law_367 : decode b_Law_law 367 = .ok (.iload_n 3, 1) := by decide +kernel
theorem d_Law_law_368 : decode b_Law_law 368 = .ok (.iconst 2, 1) := by decide +kernel
theorem d_Law_law_369 : decode b_Law_law 369 = .ok (.iadd, 1) := by decide +kernel
theorem d_Law_law_370 : decode b_Law_law 370 = .ok (.iaload, 1) := by decide +kernel
theorem d_Law_law_371 : decode b_Law_law 371 = .ok (.invokevirtual 57, 3) := by decide +kernel
theorem d_Law_law_374 : decode b_Law_law 374 = .ok (.aload_n 2, 1) := by decide +kernel
theorem d_Law_law_375 : decode b_Law_law 375 = .ok (.aload_n 0, 1) := by decide +kernel
theorem d_Law_law_376 : decode b_Law_law 376 = .ok (.iload_n 3, 1) := by decide +kernel
theorem d_Law_law_377 : decode b_Law_law 377 = .ok (.iconst 1, 1) := by decide +kernel
theorem d_Law_law_378 : decode b_Law_law 378 = .ok (.iadd, 1) := by decide +kernel
theorem d_Law_law_379 : decode b_Law_law 379 = .ok (.iaload, 1) := by decide +kernel
theorem d_Law_law_380 : decode b_Law_law 380 = .ok (.aload_n 0, 1) := by decide +kernel
theorem d_Law_law_381 : decode b_Law_law 381 = .ok (.iload_n 3, 1) := by decide +kernel
theorem d_Law_law_382 : decode b_Law_law 382 = .ok (.iconst 2, 1) := by decide +kernel
theorem d_Law_law_383 : decode b_Law_law 383 = .ok (.iadd, 1) := by decide +kernel
theorem d_Law_law_384 : decode b_Law_law 384 = .ok (.iaload, 1) := by decide +kernel
theorem d_Law_law_385 : decode b_Law_law 385 = .ok (.invokevirtual 60, 3) := by decide +kernel
theorem d_Law_law_388 : decode b_Law_law 388 = .ok (.if_icmp .eq 214, 3) := by decide +kernel
theorem d_Law_law_391 : decode b_Law_law 391 = .ok (.iconst 0, 1) := by decide +kernel
theorem d_Law_law_392 : decode b_Law_law 392 = .ok (.ireturn, 1) := by decide +kernel
theorem d_Law_law_393 : decode b_Law_law 393 = .ok (.aload_n 1, 1) := by decide +kernel
theorem d_Law_law_394 : decode b_Law_law 394 = .ok (.aload_n 0, 1) := by decide +kernel
theorem d_Law_law_395 : decode b_Law_law 395 = .ok (.iload_n 3, 1) := by decide +kernel
theorem d_Law_law_396 : decode b_Law_law 396 = .ok (.iconst 1, 1) := by decide +kernel
theorem d_Law_law_397 : decode b_Law_law 397 = .ok (.iadd, 1) := by decide +kernel
theorem d_Law_law_398 : decode b_Law_law 398 = .ok (.iaload, 1) := by decide +kernel
theorem d_Law_law_399 : decode b_Law_law 399 = .ok (.aload_n 0, 1) := by decide +kernel
theorem d_Law_law_400 : decode b_Law_law 400 = .ok (.iload_n 3, 1) := by decide +kernel
theorem d_Law_law_401 : decode b_Law_law 401 = .ok (.iconst 2, 1) := by decide +kernel
theorem d_Law_law_402 : decode b_Law_law 402 = .ok (.iadd, 1) := by decide +kernel
theorem d_Law_law_403 : decode b_Law_law 403 = .ok (.iaload, 1) := by decide +kernel
theorem d_Law_law_404 : decode b_Law_law 404 = .ok (.i2b, 1) := by decide +kernel
theorem d_Law_law_405 : decode b_Law_law 405 = .ok (.invokevirtual 61, 3) := by decide +kernel
theorem d_Law_law_408 : decode b_Law_law 408 = .ok (.aload_n 2, 1) := by decide +kernel
theorem d_Law_law_409 : decode b_Law_law 409 = .ok (.aload_n 0, 1) := by decide +kernel
theorem d_Law_law_410 : decode b_Law_law 410 = .ok (.iload_n 3, 1) := by decide +kernel
theorem d_Law_law_411 : decode b_Law_law 411 = .ok (.iconst 1, 1) := by decide +kernel
theorem d_Law_law_412 : decode b_Law_law 412 = .ok (.iadd, 1) := by decide +kernel
theorem d_Law_law_413 : decode b_Law_law 413 = .ok (.iaload, 1) := by decide +kernel
theorem d_Law_law_414 : decode b_Law_law 414 = .ok (.aload_n 0, 1) := by decide +kernel
theorem d_Law_law_415 : decode b_Law_law 415 = .ok (.iload_n 3, 1) := by decide +kernel
theorem d_Law_law_416 : decode b_Law_law 416 = .ok (.iconst 2, 1) := by decide +kernel
theorem d_Law_law_417 : decode b_Law_law 417 = .ok (.iadd, 1) := by decide +kernel
theorem d_Law_law_418 : decode b_Law_law 418 = .ok (.iaload, 1) := by decide +kernel
theorem d_Law_law_419 : decode b_Law_law 419 = .ok (.i2b, 1) := by decide +kernel
theorem d_Law_law_420 : decode b_Law_law 420 = .ok (.invokevirtual 64, 3) := by decide +kernel
theorem d_Law_law_423 : decode b_Law_law 423 = .ok (.if_icmp .eq 179, 3) := by decide +kernel
theorem d_Law_law_426 : decode b_Law_law 426 = .ok (.iconst 0, 1) := by decide +kernel
theorem d_Law_law_427 : decode b_Law_law 427 = .ok (.ireturn, 1) := by decide +kernel
theorem d_Law_law_428 : decode b_Law_law 428 = .ok (.aload_n 1, 1) := by decide +kernel
theorem d_Law_law_429 : decode b_Law_law 429 = .ok (.aload_n 0, 1) := by decide +kernel
theorem d_Law_law_430 : decode b_Law_law 430 = .ok (.iload_n 3, 1) := by decide +kernel
theorem d_Law_law_431 : decode b_Law_law 431 = .ok (.iconst 1, 1) := by decide +kernel
theorem d_Law_law_432 : decode b_Law_law 432 = .ok (.iadd, 1) := by decide +kernel
