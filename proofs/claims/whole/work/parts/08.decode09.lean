theorem d_Mo_run_82 : decode b_Mo_run 82 = .ok (.iaload, 1) := by decide +kernel
theorem d_Mo_run_83 : decode b_Mo_run 83 = .ok (.iastore, 1) := by decide +kernel
theorem d_Mo_run_84 : decode b_Mo_run 84 = .ok (.iinc 3 1, 3) := by decide +kernel
theorem d_Mo_run_87 : decode b_Mo_run 87 = .ok (.goto (-21), 3) := by decide +kernel
theorem d_Mo_run_90 : decode b_Mo_run 90 = .ok (.iconst 1, 1) := by decide +kernel
theorem d_Mo_run_91 : decode b_Mo_run 91 = .ok (.istore_n 3, 1) := by decide +kernel
theorem d_Mo_run_92 : decode b_Mo_run 92 = .ok (.iload_n 3, 1) := by decide +kernel
theorem d_Mo_run_93 : decode b_Mo_run 93 = .ok (.bipush 8, 2) := by decide +kernel
theorem d_Mo_run_95 : decode b_Mo_run 95 = .ok (.if_icmp .ge 28, 3) := by decide +kernel
theorem d_Mo_run_98 : decode b_Mo_run 98 = .ok (.aload_n 0, 1) := by decide +kernel
theorem d_Mo_run_99 : decode b_Mo_run 99 = .ok (.getfield 69, 3) := by decide +kernel
theorem d_Mo_run_102 : decode b_Mo_run 102 = .ok (.iload_n 3, 1) := by decide +kernel
theorem d_Mo_run_103 : decode b_Mo_run 103 = .ok (.iconst 0, 1) := by decide +kernel
theorem d_Mo_run_104 : decode b_Mo_run 104 = .ok (.bastore, 1) := by decide +kernel
theorem d_Mo_run_105 : decode b_Mo_run 105 = .ok (.aload_n 0, 1) := by decide +kernel
theorem d_Mo_run_106 : decode b_Mo_run 106 = .ok (.getfield 66, 3) := by decide +kernel
theorem d_Mo_run_109 : decode b_Mo_run 109 = .ok (.iload_n 3, 1) := by decide +kernel
theorem d_Mo_run_110 : decode b_Mo_run 110 = .ok (.aload_n 0, 1) := by decide +kernel
theorem d_Mo_run_111 : decode b_Mo_run 111 = .ok (.getfield 60, 3) := by decide +kernel
theorem d_Mo_run_114 : decode b_Mo_run 114 = .ok (.iload_n 3, 1) := by decide +kernel
theorem d_Mo_run_115 : decode b_Mo_run 115 = .ok (.iaload, 1) := by decide +kernel
theorem d_Mo_run_116 : decode b_Mo_run 116 = .ok (.iastore, 1) := by decide +kernel
theorem d_Mo_run_117 : decode b_Mo_run 117 = .ok (.iinc 3 1, 3) := by decide +kernel
theorem d_Mo_run_120 : decode b_Mo_run 120 = .ok (.goto (-28), 3) := by decide +kernel
theorem d_Mo_run_123 : decode b_Mo_run 123 = .ok (.aload_n 0, 1) := by decide +kernel
theorem d_Mo_run_124 : decode b_Mo_run 124 = .ok (.iload_n 2, 1) := by decide +kernel
theorem d_Mo_run_125 : decode b_Mo_run 125 = .ok (.putfield 132, 3) := by decide +kernel
theorem d_Mo_run_128 : decode b_Mo_run 128 = .ok (.aload_n 0, 1) := by decide +kernel
theorem d_Mo_run_129 : decode b_Mo_run 129 = .ok (.invokevirtual 212, 3) := by decide +kernel
theorem d_Mo_run_132 : decode b_Mo_run 132 = .ok (.iinc 1 1, 3) := by decide +kernel
theorem d_Mo_run_135 : decode b_Mo_run 135 = .ok (.iconst 0, 1) := by decide +kernel
theorem d_Mo_run_136 : decode b_Mo_run 136 = .ok (.istore_n 3, 1) := by decide +kernel
theorem d_Mo_run_137 : decode b_Mo_run 137 = .ok (.iload_n 3, 1) := by decide +kernel
theorem d_Mo_run_138 : decode b_Mo_run 138 = .ok (.iconst 4, 1) := by decide +kernel
theorem d_Mo_run_139 : decode b_Mo_run 139 = .ok (.if_icmp .ge 21, 3) := by decide +kernel
theorem d_Mo_run_142 : decode b_Mo_run 142 = .ok (.aload_n 0, 1) := by decide +kernel
theorem d_Mo_run_143 : decode b_Mo_run 143 = .ok (.getfield 23, 3) := by decide +kernel
theorem d_Mo_run_146 : decode b_Mo_run 146 = .ok (.iload_n 3, 1) := by decide +kernel
theorem d_Mo_run_147 : decode b_Mo_run 147 = .ok (.aload_n 0, 1) := by decide +kernel
theorem d_Mo_run_148 : decode b_Mo_run 148 = .ok (.getfield 29, 3) := by decide +kernel
theorem d_Mo_run_151 : decode b_Mo_run 151 = .ok (.iload_n 3, 1) := by decide +kernel
theorem d_Mo_run_152 : decode b_Mo_run 152 = .ok (.iaload, 1) := by decide +kernel
theorem d_Mo_run_153 : decode b_Mo_run 153 = .ok (.iastore, 1) := by decide +kernel
theorem d_Mo_run_154 : decode b_Mo_run 154 = .ok (.iinc 3 1, 3) := by decide +kernel
theorem d_Mo_run_157 : decode b_Mo_run 157 = .ok (.goto (-20), 3) := by decide +kernel
theorem d_Mo_run_160 : decode b_Mo_run 160 = .ok (.iconst 0, 1) := by decide +kernel
theorem d_Mo_run_161 : decode b_Mo_run 161 = .ok (.istore_n 3, 1) := by decide +kernel
theorem d_Mo_run_162 : decode b_Mo_run 162 = .ok (.iload_n 3, 1) := by decide +kernel
theorem d_Mo_run_163 : decode b_Mo_run 163 = .ok (.bipush 40, 2) := by decide +kernel
theorem d_Mo_run_165 : decode b_Mo_run 165 = .ok (.if_icmp .ge 21, 3) := by decide +kernel
theorem d_Mo_run_168 : decode b_Mo_run 168 = .ok (.aload_n 0, 1) := by decide +kernel
theorem d_Mo_run_169 : decode b_Mo_run 169 = .ok (.getfield 26, 3) := by decide +kernel
theorem d_Mo_run_172 : decode b_Mo_run 172 = .ok (.iload_n 3, 1) := by decide +kernel
theorem d_Mo_run_173 : decode b_Mo_run 173 = .ok (.aload_n 0, 1) := by decide +kernel
theorem d_Mo_run_174 : decode b_Mo_run 174 = .ok (.getfield 32, 3) := by decide +kernel
theorem d_Mo_run_177 : decode b_Mo_run 177 = .ok (.iload_n 3, 1) := by decide +kernel
theorem d_Mo_run_178 : decode b_Mo_run 178 = .ok (.iaload, 1) := by decide +kernel
theorem d_Mo_run_179 : decode b_Mo_run 179 = .ok (.iastore, 1) := by decide +kernel
theorem d_Mo_run_180 : decode b_Mo_run 180 = .ok (.iinc 3 1, 3) := by decide +kernel
theorem d_Mo_run_183 : decode b_Mo_run 183 = .ok (.goto (-21), 3) := by decide +kernel
theorem d_Mo_run_186 : decode b_Mo_run 186 = .ok (.iconst 1, 1) := by decide +kernel
theorem d_Mo_run_187 : decode b_Mo_run 187 = .ok (.istore_n 3, 1) := by decide +kernel
theorem d_Mo_run_188 : decode b_Mo_run 188 = .ok (.iload_n 3, 1) := by decide +kernel
theorem d_Mo_run_189 : decode b_Mo_run 189 = .ok (.bipush 8, 2) := by decide +kernel
theorem d_Mo_run_191 : decode b_Mo_run 191 = .ok (.if_icmp .ge 63, 3) := by decide +kernel
theorem d_Mo_run_194 : decode b_Mo_run 194 = .ok (.aload_n 0, 1) := by decide +kernel
theorem d_Mo_run_195 : decode b_Mo_run 195 = .ok (.getfield 48, 3) := by decide +kernel
theorem d_Mo_run_198 : decode b_Mo_run 198 = .ok (.iload_n 3, 1) := by decide +kernel
theorem d_Mo_run_199 : decode b_Mo_run 199 = .ok (.aload_n 0, 1) := by decide +kernel
theorem d_Mo_run_200 : decode b_Mo_run 200 = .ok (.getfield 48, 3) := by decide +kernel
theorem d_Mo_run_203 : decode b_Mo_run 203 = .ok (.iload_n 3, 1) := by decide +kernel
theorem d_Mo_run_204 : decode b_Mo_run 204 = .ok (.baload, 1) := by decide +kernel
theorem d_Mo_run_205 : decode b_Mo_run 205 = .ok (.ifCond .eq 16, 3) := by decide +kernel
theorem d_Mo_run_208 : decode b_Mo_run 208 = .ok (.aload_n 0, 1) := by decide +kernel
theorem d_Mo_run_209 : decode b_Mo_run 209 = .ok (.getfield 69, 3) := by decide +kernel
theorem d_Mo_run_212 : decode b_Mo_run 212 = .ok (.iload_n 3, 1) := by decide +kernel
theorem d_Mo_run_213 : decode b_Mo_run 213 = .ok (.baload, 1) := by decide +kernel
theorem d_Mo_run_214 : decode b_Mo_run 214 = .ok (.ifCond .ne 7, 3) := by decide +kernel
theorem d_Mo_run_217 : decode b_Mo_run 217 = .ok (.iconst 1, 1) := by decide +kernel
theorem d_Mo_run_218 : decode b_Mo_run 218 = .ok (.goto 4, 3) := by decide +kernel
theorem d_Mo_run_221 : decode b_Mo_run 221 = .ok (.iconst 0, 1) := by decide +kernel
theorem d_Mo_run_222 : decode b_Mo_run 222 = .ok (.bastore, 1) := by decide +kernel
theorem d_Mo_run_223 : decode b_Mo_run 223 = .ok (.aload_n 0, 1) := by decide +kernel
theorem d_Mo_run_224 : decode b_Mo_run 224 = .ok (.getfield 60, 3) := by decide +kernel
theorem d_Mo_run_227 : decode b_Mo_run 227 = .ok (.iload_n 3, 1) := by decide +kernel
theorem d_Mo_run_228 : decode b_Mo_run 228 = .ok (.aload_n 0, 1) := by decide +kernel
theorem d_Mo_run_229 : decode b_Mo_run 229 = .ok (.getfield 69, 3) := by decide +kernel
theorem d_Mo_run_232 : decode b_Mo_run 232 = .ok (.iload_n 3, 1) := by decide +kernel
theorem d_Mo_run_233 : decode b_Mo_run 233 = .ok (.baload, 1) := by decide +kernel
theorem d_Mo_run_234 : decode b_Mo_run 234 = .ok (.ifCond .eq 7, 3) := by decide +kernel
theorem d_Mo_run_237 : decode b_Mo_run 237 = .ok (.iconst 0, 1) := by decide +kernel
theorem d_Mo_run_238 : decode b_Mo_run 238 = .ok (.goto 9, 3) := by decide +kernel
theorem d_Mo_run_241 : decode b_Mo_run 241 = .ok (.aload_n 0, 1) := by decide +kernel
theorem d_Mo_run_242 : decode b_Mo_run 242 = .ok (.getfield 66, 3) := by decide +kernel
theorem d_Mo_run_245 : decode b_Mo_run 245 = .ok (.iload_n 3, 1) := by decide +kernel
theorem d_Mo_run_246 : decode b_Mo_run 246 = .ok (.iaload, 1) := by decide +kernel
theorem d_Mo_run_247 : decode b_Mo_run 247 = .ok (.iastore, 1) := by decide +kernel
theorem d_Mo_run_248 : decode b_Mo_run 248 = .ok (.iinc 3 1, 3) := by decide +kernel
theorem d_Mo_run_251 : decode b_Mo_run 251 = .ok (.goto (-63), 3) := by decide +kernel
theorem d_Mo_run_254 : decode b_Mo_run 254 = .ok (.iinc 2 1, 3) := by decide +kernel
theorem d_Mo_run_257 : decode b_Mo_run 257 = .ok (.goto (-238), 3) := by decide +kernel
theorem d_Mo_run_260 : decode b_Mo_run 260 = .ok (.iload_n 1, 1) := by decide +kernel
theorem d_Mo_run_261 : decode b_Mo_run 261 = .ok (.ireturn, 1) := by decide +kernel
theorem d_Law_cell_0 : decode b_Law_cell 0 = .ok (.iload_n 1, 1) := by decide +kernel
theorem d_Law_cell_1 : decode b_Law_cell 1 = .ok (.aload_n 0, 1) := by decide +kernel
theorem d_Law_cell_2 : decode b_Law_cell 2 = .ok (.arraylength, 1) := by decide +kernel
theorem d_Law_cell_3 : decode b_Law_cell 3 = .ok (.if_icmp .ge 9, 3) := by decide +kernel
theorem d_Law_cell_6 : decode b_Law_cell 6 = .ok (.aload_n 0, 1) := by decide +kernel
theorem d_Law_cell_7 : decode b_Law_cell 7 = .ok (.iload_n 1, 1) := by decide +kernel
theorem d_Law_cell_8 : decode b_Law_cell 8 = .ok (.iaload, 1) := by decide +kernel
theorem d_Law_cell_9 : decode b_Law_cell 9 = .ok (.goto 4, 3) := by decide +kernel
theorem d_Law_cell_12 : decode b_Law_cell 12 = .ok (.iconst 0, 1) := by decide +kernel
theorem d_Law_cell_13 : decode b_Law_cell 13 = .ok (.ireturn, 1) := by decide +kernel
