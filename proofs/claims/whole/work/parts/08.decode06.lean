theorem d_Mo_opened_140 : decode b_Mo_opened 140 = .ok (.ireturn, 1) := by decide +kernel
theorem d_Mo_opened_141 : decode b_Mo_opened 141 = .ok (.aload_n 0, 1) := by decide +kernel
theorem d_Mo_opened_142 : decode b_Mo_opened 142 = .ok (.getfield 39, 3) := by decide +kernel
theorem d_Mo_opened_145 : decode b_Mo_opened 145 = .ok (.iload_n 1, 1) := by decide +kernel
theorem d_Mo_opened_146 : decode b_Mo_opened 146 = .ok (.iload_n 2, 1) := by decide +kernel
theorem d_Mo_opened_147 : decode b_Mo_opened 147 = .ok (.iconst 1, 1) := by decide +kernel
theorem d_Mo_opened_148 : decode b_Mo_opened 148 = .ok (.if_icmp .eq 12, 3) := by decide +kernel
theorem d_Mo_opened_151 : decode b_Mo_opened 151 = .ok (.aload_n 0, 1) := by decide +kernel
theorem d_Mo_opened_152 : decode b_Mo_opened 152 = .ok (.getfield 35, 3) := by decide +kernel
theorem d_Mo_opened_155 : decode b_Mo_opened 155 = .ok (.iload_n 1, 1) := by decide +kernel
theorem d_Mo_opened_156 : decode b_Mo_opened 156 = .ok (.baload, 1) := by decide +kernel
theorem d_Mo_opened_157 : decode b_Mo_opened 157 = .ok (.ifCond .ne 7, 3) := by decide +kernel
theorem d_Mo_opened_160 : decode b_Mo_opened 160 = .ok (.iconst 0, 1) := by decide +kernel
theorem d_Mo_opened_161 : decode b_Mo_opened 161 = .ok (.goto 9, 3) := by decide +kernel
theorem d_Mo_opened_164 : decode b_Mo_opened 164 = .ok (.aload_n 0, 1) := by decide +kernel
theorem d_Mo_opened_165 : decode b_Mo_opened 165 = .ok (.getfield 39, 3) := by decide +kernel
theorem d_Mo_opened_168 : decode b_Mo_opened 168 = .ok (.iload_n 1, 1) := by decide +kernel
theorem d_Mo_opened_169 : decode b_Mo_opened 169 = .ok (.iaload, 1) := by decide +kernel
theorem d_Mo_opened_170 : decode b_Mo_opened 170 = .ok (.iastore, 1) := by decide +kernel
theorem d_Mo_opened_171 : decode b_Mo_opened 171 = .ok (.aload_n 0, 1) := by decide +kernel
theorem d_Mo_opened_172 : decode b_Mo_opened 172 = .ok (.getfield 35, 3) := by decide +kernel
theorem d_Mo_opened_175 : decode b_Mo_opened 175 = .ok (.iload_n 1, 1) := by decide +kernel
theorem d_Mo_opened_176 : decode b_Mo_opened 176 = .ok (.iconst 1, 1) := by decide +kernel
theorem d_Mo_opened_177 : decode b_Mo_opened 177 = .ok (.bastore, 1) := by decide +kernel
theorem d_Mo_opened_178 : decode b_Mo_opened 178 = .ok (.aload_n 0, 1) := by decide +kernel
theorem d_Mo_opened_179 : decode b_Mo_opened 179 = .ok (.getfield 48, 3) := by decide +kernel
theorem d_Mo_opened_182 : decode b_Mo_opened 182 = .ok (.iload 4, 2) := by decide +kernel
theorem d_Mo_opened_184 : decode b_Mo_opened 184 = .ok (.iconst 1, 1) := by decide +kernel
theorem d_Mo_opened_185 : decode b_Mo_opened 185 = .ok (.bastore, 1) := by decide +kernel
theorem d_Mo_opened_186 : decode b_Mo_opened 186 = .ok (.aload_n 0, 1) := by decide +kernel
theorem d_Mo_opened_187 : decode b_Mo_opened 187 = .ok (.getfield 51, 3) := by decide +kernel
theorem d_Mo_opened_190 : decode b_Mo_opened 190 = .ok (.iload 4, 2) := by decide +kernel
theorem d_Mo_opened_192 : decode b_Mo_opened 192 = .ok (.iload_n 1, 1) := by decide +kernel
theorem d_Mo_opened_193 : decode b_Mo_opened 193 = .ok (.iastore, 1) := by decide +kernel
theorem d_Mo_opened_194 : decode b_Mo_opened 194 = .ok (.aload_n 0, 1) := by decide +kernel
theorem d_Mo_opened_195 : decode b_Mo_opened 195 = .ok (.getfield 54, 3) := by decide +kernel
theorem d_Mo_opened_198 : decode b_Mo_opened 198 = .ok (.iload 4, 2) := by decide +kernel
theorem d_Mo_opened_200 : decode b_Mo_opened 200 = .ok (.iload_n 2, 1) := by decide +kernel
theorem d_Mo_opened_201 : decode b_Mo_opened 201 = .ok (.iastore, 1) := by decide +kernel
theorem d_Mo_opened_202 : decode b_Mo_opened 202 = .ok (.aload_n 0, 1) := by decide +kernel
theorem d_Mo_opened_203 : decode b_Mo_opened 203 = .ok (.getfield 57, 3) := by decide +kernel
theorem d_Mo_opened_206 : decode b_Mo_opened 206 = .ok (.iload 4, 2) := by decide +kernel
theorem d_Mo_opened_208 : decode b_Mo_opened 208 = .ok (.iconst 0, 1) := by decide +kernel
theorem d_Mo_opened_209 : decode b_Mo_opened 209 = .ok (.iastore, 1) := by decide +kernel
theorem d_Mo_opened_210 : decode b_Mo_opened 210 = .ok (.aload_n 0, 1) := by decide +kernel
theorem d_Mo_opened_211 : decode b_Mo_opened 211 = .ok (.getfield 60, 3) := by decide +kernel
theorem d_Mo_opened_214 : decode b_Mo_opened 214 = .ok (.iload 4, 2) := by decide +kernel
theorem d_Mo_opened_216 : decode b_Mo_opened 216 = .ok (.iconst 0, 1) := by decide +kernel
theorem d_Mo_opened_217 : decode b_Mo_opened 217 = .ok (.iastore, 1) := by decide +kernel
theorem d_Mo_opened_218 : decode b_Mo_opened 218 = .ok (.iload 4, 2) := by decide +kernel
theorem d_Mo_opened_220 : decode b_Mo_opened 220 = .ok (.ireturn, 1) := by decide +kernel
theorem d_Mo_isOpen_0 : decode b_Mo_isOpen 0 = .ok (.iload_n 1, 1) := by decide +kernel
theorem d_Mo_isOpen_1 : decode b_Mo_isOpen 1 = .ok (.iconst 1, 1) := by decide +kernel
theorem d_Mo_isOpen_2 : decode b_Mo_isOpen 2 = .ok (.bipush 7, 2) := by decide +kernel
theorem d_Mo_isOpen_4 : decode b_Mo_isOpen 4 = .ok (.invokestatic 97, 3) := by decide +kernel
theorem d_Mo_isOpen_7 : decode b_Mo_isOpen 7 = .ok (.ifCond .eq 16, 3) := by decide +kernel
theorem d_Mo_isOpen_10 : decode b_Mo_isOpen 10 = .ok (.aload_n 0, 1) := by decide +kernel
theorem d_Mo_isOpen_11 : decode b_Mo_isOpen 11 = .ok (.getfield 48, 3) := by decide +kernel
theorem d_Mo_isOpen_14 : decode b_Mo_isOpen 14 = .ok (.iload_n 1, 1) := by decide +kernel
theorem d_Mo_isOpen_15 : decode b_Mo_isOpen 15 = .ok (.baload, 1) := by decide +kernel
theorem d_Mo_isOpen_16 : decode b_Mo_isOpen 16 = .ok (.ifCond .eq 7, 3) := by decide +kernel
theorem d_Mo_isOpen_19 : decode b_Mo_isOpen 19 = .ok (.iconst 1, 1) := by decide +kernel
theorem d_Mo_isOpen_20 : decode b_Mo_isOpen 20 = .ok (.goto 4, 3) := by decide +kernel
theorem d_Mo_isOpen_23 : decode b_Mo_isOpen 23 = .ok (.iconst 0, 1) := by decide +kernel
theorem d_Mo_isOpen_24 : decode b_Mo_isOpen 24 = .ok (.ireturn, 1) := by decide +kernel
theorem d_Mo_half_0 : decode b_Mo_half 0 = .ok (.iload_n 0, 1) := by decide +kernel
theorem d_Mo_half_1 : decode b_Mo_half 1 = .ok (.iconst 4, 1) := by decide +kernel
theorem d_Mo_half_2 : decode b_Mo_half 2 = .ok (.ishr, 1) := by decide +kernel
theorem d_Mo_half_3 : decode b_Mo_half 3 = .ok (.iload_n 0, 1) := by decide +kernel
theorem d_Mo_half_4 : decode b_Mo_half 4 = .ok (.bipush 16, 2) := by decide +kernel
theorem d_Mo_half_6 : decode b_Mo_half 6 = .ok (.irem, 1) := by decide +kernel
theorem d_Mo_half_7 : decode b_Mo_half 7 = .ok (.iconst 4, 1) := by decide +kernel
theorem d_Mo_half_8 : decode b_Mo_half 8 = .ok (.ishl, 1) := by decide +kernel
theorem d_Mo_half_9 : decode b_Mo_half 9 = .ok (.ior, 1) := by decide +kernel
theorem d_Mo_half_10 : decode b_Mo_half 10 = .ok (.ireturn, 1) := by decide +kernel
theorem d_Mo_written_0 : decode b_Mo_written 0 = .ok (.aload_n 0, 1) := by decide +kernel
theorem d_Mo_written_1 : decode b_Mo_written 1 = .ok (.iload_n 1, 1) := by decide +kernel
theorem d_Mo_written_2 : decode b_Mo_written 2 = .ok (.invokevirtual 105, 3) := by decide +kernel
theorem d_Mo_written_5 : decode b_Mo_written 5 = .ok (.ifCond .ne 5, 3) := by decide +kernel
theorem d_Mo_written_8 : decode b_Mo_written 8 = .ok (.iconst (-1), 1) := by decide +kernel
theorem d_Mo_written_9 : decode b_Mo_written 9 = .ok (.ireturn, 1) := by decide +kernel
theorem d_Mo_written_10 : decode b_Mo_written 10 = .ok (.aload_n 0, 1) := by decide +kernel
theorem d_Mo_written_11 : decode b_Mo_written 11 = .ok (.getfield 54, 3) := by decide +kernel
theorem d_Mo_written_14 : decode b_Mo_written 14 = .ok (.iload_n 1, 1) := by decide +kernel
theorem d_Mo_written_15 : decode b_Mo_written 15 = .ok (.iaload, 1) := by decide +kernel
theorem d_Mo_written_16 : decode b_Mo_written 16 = .ok (.ifCond .ne 6, 3) := by decide +kernel
theorem d_Mo_written_19 : decode b_Mo_written 19 = .ok (.bipush (-3), 2) := by decide +kernel
theorem d_Mo_written_21 : decode b_Mo_written 21 = .ok (.ireturn, 1) := by decide +kernel
theorem d_Mo_written_22 : decode b_Mo_written 22 = .ok (.iload_n 1, 1) := by decide +kernel
theorem d_Mo_written_23 : decode b_Mo_written 23 = .ok (.iconst 1, 1) := by decide +kernel
theorem d_Mo_written_24 : decode b_Mo_written 24 = .ok (.if_icmp .ne 16, 3) := by decide +kernel
theorem d_Mo_written_27 : decode b_Mo_written 27 = .ok (.aload_n 0, 1) := by decide +kernel
theorem d_Mo_written_28 : decode b_Mo_written 28 = .ok (.getfield 108, 3) := by decide +kernel
theorem d_Mo_written_31 : decode b_Mo_written 31 = .ok (.sipush 400, 3) := by decide +kernel
theorem d_Mo_written_34 : decode b_Mo_written 34 = .ok (.if_icmp .ne 25, 3) := by decide +kernel
theorem d_Mo_written_37 : decode b_Mo_written 37 = .ok (.goto 19, 3) := by decide +kernel
theorem d_Mo_written_40 : decode b_Mo_written 40 = .ok (.aload_n 0, 1) := by decide +kernel
theorem d_Mo_written_41 : decode b_Mo_written 41 = .ok (.getfield 39, 3) := by decide +kernel
theorem d_Mo_written_44 : decode b_Mo_written 44 = .ok (.aload_n 0, 1) := by decide +kernel
theorem d_Mo_written_45 : decode b_Mo_written 45 = .ok (.getfield 51, 3) := by decide +kernel
theorem d_Mo_written_48 : decode b_Mo_written 48 = .ok (.iload_n 1, 1) := by decide +kernel
theorem d_Mo_written_49 : decode b_Mo_written 49 = .ok (.iaload, 1) := by decide +kernel
theorem d_Mo_written_50 : decode b_Mo_written 50 = .ok (.iaload, 1) := by decide +kernel
theorem d_Mo_written_51 : decode b_Mo_written 51 = .ok (.bipush 100, 2) := by decide +kernel
theorem d_Mo_written_53 : decode b_Mo_written 53 = .ok (.if_icmp .ne 6, 3) := by decide +kernel
theorem d_Mo_written_56 : decode b_Mo_written 56 = .ok (.bipush (-4), 2) := by decide +kernel
theorem d_Mo_written_58 : decode b_Mo_written 58 = .ok (.ireturn, 1) := by decide +kernel
theorem d_Mo_written_59 : decode b_Mo_written 59 = .ok (.iload_n 2, 1) := by decide +kernel
theorem d_Mo_written_60 : decode b_Mo_written 60 = .ok (.sipush 255, 3) := by decide +kernel
theorem d_Mo_written_63 : decode b_Mo_written 63 = .ok (.iand, 1) := by decide +kernel
theorem d_Mo_written_64 : decode b_Mo_written 64 = .ok (.istore_n 3, 1) := by decide +kernel
theorem d_Mo_written_65 : decode b_Mo_written 65 = .ok (.aload_n 0, 1) := by decide +kernel
theorem d_Mo_written_66 : decode b_Mo_written 66 = .ok (.getfield 60, 3) := by decide +kernel
theorem d_Mo_written_69 : decode b_Mo_written 69 = .ok (.iload_n 1, 1) := by decide +kernel
theorem d_Mo_written_70 : decode b_Mo_written 70 = .ok (.iaload, 1) := by decide +kernel
theorem d_Mo_written_71 : decode b_Mo_written 71 = .ok (.iconst 1, 1) := by decide +kernel
theorem d_Mo_written_72 : decode b_Mo_written 72 = .ok (.isub, 1) := by decide +kernel
theorem d_Mo_written_73 : decode b_Mo_written 73 = .ok (.istore 4, 2) := by decide +kernel
theorem d_Mo_written_75 : decode b_Mo_written 75 = .ok (.iload 4, 2) := by decide +kernel
theorem d_Mo_written_77 : decode b_Mo_written 77 = .ok (.ifCond .lt 57, 3) := by decide +kernel
theorem d_Mo_written_80 : decode b_Mo_written 80 = .ok (.aload_n 0, 1) := by decide +kernel
theorem d_Mo_written_81 : decode b_Mo_written 81 = .ok (.getfield 63, 3) := by decide +kernel
theorem d_Mo_written_84 : decode b_Mo_written 84 = .ok (.iconst 3, 1) := by decide +kernel
theorem d_Mo_written_85 : decode b_Mo_written 85 = .ok (.iload_n 1, 1) := by decide +kernel
theorem d_Mo_written_86 : decode b_Mo_written 86 = .ok (.imul, 1) := by decide +kernel
theorem d_Mo_written_87 : decode b_Mo_written 87 = .ok (.iload 4, 2) := by decide +kernel
theorem d_Mo_written_89 : decode b_Mo_written 89 = .ok (.iadd, 1) := by decide +kernel
theorem d_Mo_written_90 : decode b_Mo_written 90 = .ok (.iaload, 1) := by decide +kernel
theorem d_Mo_written_91 : decode b_Mo_written 91 = .ok (.istore 5, 2) := by decide +kernel
theorem d_Mo_written_93 : decode b_Mo_written 93 = .ok (.iload 5, 2) := by decide +kernel
theorem d_Mo_written_95 : decode b_Mo_written 95 = .ok (.iconst 1, 1) := by decide +kernel
theorem d_Mo_written_96 : decode b_Mo_written 96 = .ok (.if_icmp .ne 11, 3) := by decide +kernel
theorem d_Mo_written_99 : decode b_Mo_written 99 = .ok (.sipush 255, 3) := by decide +kernel
theorem d_Mo_written_102 : decode b_Mo_written 102 = .ok (.iload_n 3, 1) := by decide +kernel
theorem d_Mo_written_103 : decode b_Mo_written 103 = .ok (.isub, 1) := by decide +kernel
theorem d_Mo_written_104 : decode b_Mo_written 104 = .ok (.goto 23, 3) := by decide +kernel
theorem d_Mo_written_107 : decode b_Mo_written 107 = .ok (.iload 5, 2) := by decide +kernel
theorem d_Mo_written_109 : decode b_Mo_written 109 = .ok (.iconst 2, 1) := by decide +kernel
theorem d_Mo_written_110 : decode b_Mo_written 110 = .ok (.if_icmp .ne 10, 3) := by decide +kernel
theorem d_Mo_written_113 : decode b_Mo_written 113 = .ok (.iload_n 3, 1) := by decide +kernel
theorem d_Mo_written_114 : decode b_Mo_written 114 = .ok (.invokestatic 111, 3) := by decide +kernel
theorem d_Mo_written_117 : decode b_Mo_written 117 = .ok (.goto 10, 3) := by decide +kernel
theorem d_Mo_written_120 : decode b_Mo_written 120 = .ok (.iload_n 3, 1) := by decide +kernel
theorem d_Mo_written_121 : decode b_Mo_written 121 = .ok (.iconst 1, 1) := by decide +kernel
theorem d_Mo_written_122 : decode b_Mo_written 122 = .ok (.iadd, 1) := by decide +kernel
theorem d_Mo_written_123 : decode b_Mo_written 123 = .ok (.sipush 256, 3) := by decide +kernel
theorem d_Mo_written_126 : decode b_Mo_written 126 = .ok (.irem, 1) := by decide +kernel
theorem d_Mo_written_127 : decode b_Mo_written 127 = .ok (.istore_n 3, 1) := by decide +kernel
theorem d_Mo_written_128 : decode b_Mo_written 128 = .ok (.iinc 4 (-1), 3) := by decide +kernel
theorem d_Mo_written_131 : decode b_Mo_written 131 = .ok (.goto (-56), 3) := by decide +kernel
theorem d_Mo_written_134 : decode b_Mo_written 134 = .ok (.iload_n 1, 1) := by decide +kernel
theorem d_Mo_written_135 : decode b_Mo_written 135 = .ok (.iconst 1, 1) := by decide +kernel
theorem d_Mo_written_136 : decode b_Mo_written 136 = .ok (.if_icmp .ne 27, 3) := by decide +kernel
theorem d_Mo_written_139 : decode b_Mo_written 139 = .ok (.aload_n 0, 1) := by decide +kernel
theorem d_Mo_written_140 : decode b_Mo_written 140 = .ok (.getfield 45, 3) := by decide +kernel
theorem d_Mo_written_143 : decode b_Mo_written 143 = .ok (.aload_n 0, 1) := by decide +kernel
theorem d_Mo_written_144 : decode b_Mo_written 144 = .ok (.getfield 108, 3) := by decide +kernel
theorem d_Mo_written_147 : decode b_Mo_written 147 = .ok (.iload_n 3, 1) := by decide +kernel
theorem d_Mo_written_148 : decode b_Mo_written 148 = .ok (.i2b, 1) := by decide +kernel
theorem d_Mo_written_149 : decode b_Mo_written 149 = .ok (.bastore, 1) := by decide +kernel
theorem d_Mo_written_150 : decode b_Mo_written 150 = .ok (.aload_n 0, 1) := by decide +kernel
theorem d_Mo_written_151 : decode b_Mo_written 151 = .ok (.dup, 1) := by decide +kernel
theorem d_Mo_written_152 : decode b_Mo_written 152 = .ok (.getfield 108, 3) := by decide +kernel
theorem d_Mo_written_155 : decode b_Mo_written 155 = .ok (.iconst 1, 1) := by decide +kernel
theorem d_Mo_written_156 : decode b_Mo_written 156 = .ok (.iadd, 1) := by decide +kernel
theorem d_Mo_written_157 : decode b_Mo_written 157 = .ok (.putfield 108, 3) := by decide +kernel
theorem d_Mo_written_160 : decode b_Mo_written 160 = .ok (.goto 46, 3) := by decide +kernel
theorem d_Mo_written_163 : decode b_Mo_written 163 = .ok (.aload_n 0, 1) := by decide +kernel
theorem d_Mo_written_164 : decode b_Mo_written 164 = .ok (.getfield 42, 3) := by decide +kernel
theorem d_Mo_written_167 : decode b_Mo_written 167 = .ok (.bipush 100, 2) := by decide +kernel
theorem d_Mo_written_169 : decode b_Mo_written 169 = .ok (.aload_n 0, 1) := by decide +kernel
theorem d_Mo_written_170 : decode b_Mo_written 170 = .ok (.getfield 51, 3) := by decide +kernel
theorem d_Mo_written_173 : decode b_Mo_written 173 = .ok (.iload_n 1, 1) := by decide +kernel
theorem d_Mo_written_174 : decode b_Mo_written 174 = .ok (.iaload, 1) := by decide +kernel
theorem d_Mo_written_175 : decode b_Mo_written 175 = .ok (.imul, 1) := by decide +kernel
theorem d_Mo_written_176 : decode b_Mo_written 176 = .ok (.aload_n 0, 1) := by decide +kernel
theorem d_Mo_written_177 : decode b_Mo_written 177 = .ok (.getfield 39, 3) := by decide +kernel
theorem d_Mo_written_180 : decode b_Mo_written 180 = .ok (.aload_n 0, 1) := by decide +kernel
theorem d_Mo_written_181 : decode b_Mo_written 181 = .ok (.getfield 51, 3) := by decide +kernel
theorem d_Mo_written_184 : decode b_Mo_written 184 = .ok (.iload_n 1, 1) := by decide +kernel
theorem d_Mo_written_185 : decode b_Mo_written 185 = .ok (.iaload, 1) := by decide +kernel
theorem d_Mo_written_186 : decode b_Mo_written 186 = .ok (.iaload, 1) := by decide +kernel
theorem d_Mo_written_187 : decode b_Mo_written 187 = .ok (.iadd, 1) := by decide +kernel
theorem d_Mo_written_188 : decode b_Mo_written 188 = .ok (.iload_n 3, 1) := by decide +kernel
theorem d_Mo_written_189 : decode b_Mo_written 189 = .ok (.i2b, 1) := by decide +kernel
theorem d_Mo_written_190 : decode b_Mo_written 190 = .ok (.bastore, 1) := by decide +kernel
theorem d_Mo_written_191 : decode b_Mo_written 191 = .ok (.aload_n 0, 1) := by decide +kernel
theorem d_Mo_written_192 : decode b_Mo_written 192 = .ok (.getfield 39, 3) := by decide +kernel
theorem d_Mo_written_195 : decode b_Mo_written 195 = .ok (.aload_n 0, 1) := by decide +kernel
theorem d_Mo_written_196 : decode b_Mo_written 196 = .ok (.getfield 51, 3) := by decide +kernel
theorem d_Mo_written_199 : decode b_Mo_written 199 = .ok (.iload_n 1, 1) := by decide +kernel
theorem d_Mo_written_200 : decode b_Mo_written 200 = .ok (.iaload, 1) := by decide +kernel
theorem d_Mo_written_201 : decode b_Mo_written 201 = .ok (.dup2, 1) := by decide +kernel
theorem d_Mo_written_202 : decode b_Mo_written 202 = .ok (.iaload, 1) := by decide +kernel
theorem d_Mo_written_203 : decode b_Mo_written 203 = .ok (.iconst 1, 1) := by decide +kernel
theorem d_Mo_written_204 : decode b_Mo_written 204 = .ok (.iadd, 1) := by decide +kernel
theorem d_Mo_written_205 : decode b_Mo_written 205 = .ok (.iastore, 1) := by decide +kernel
theorem d_Mo_written_206 : decode b_Mo_written 206 = .ok (.iconst 1, 1) := by decide +kernel
theorem d_Mo_written_207 : decode b_Mo_written 207 = .ok (.ireturn, 1) := by decide +kernel
theorem d_Mo_taken_0 : decode b_Mo_taken 0 = .ok (.aload_n 0, 1) := by decide +kernel
theorem d_Mo_taken_1 : decode b_Mo_taken 1 = .ok (.iload_n 1, 1) := by decide +kernel
theorem d_Mo_taken_2 : decode b_Mo_taken 2 = .ok (.invokevirtual 105, 3) := by decide +kernel
theorem d_Mo_taken_5 : decode b_Mo_taken 5 = .ok (.ifCond .ne 5, 3) := by decide +kernel
theorem d_Mo_taken_8 : decode b_Mo_taken 8 = .ok (.iconst (-1), 1) := by decide +kernel
theorem d_Mo_taken_9 : decode b_Mo_taken 9 = .ok (.ireturn, 1) := by decide +kernel
theorem d_Mo_taken_10 : decode b_Mo_taken 10 = .ok (.aload_n 0, 1) := by decide +kernel
theorem d_Mo_taken_11 : decode b_Mo_taken 11 = .ok (.getfield 54, 3) := by decide +kernel
theorem d_Mo_taken_14 : decode b_Mo_taken 14 = .ok (.iload_n 1, 1) := by decide +kernel
theorem d_Mo_taken_15 : decode b_Mo_taken 15 = .ok (.iaload, 1) := by decide +kernel
theorem d_Mo_taken_16 : decode b_Mo_taken 16 = .ok (.ifCond .eq 6, 3) := by decide +kernel
theorem d_Mo_taken_19 : decode b_Mo_taken 19 = .ok (.bipush (-3), 2) := by decide +kernel
theorem d_Mo_taken_21 : decode b_Mo_taken 21 = .ok (.ireturn, 1) := by decide +kernel
theorem d_Mo_taken_22 : decode b_Mo_taken 22 = .ok (.aload_n 0, 1) := by decide +kernel
theorem d_Mo_taken_23 : decode b_Mo_taken 23 = .ok (.getfield 57, 3) := by decide +kernel
theorem d_Mo_taken_26 : decode b_Mo_taken 26 = .ok (.iload_n 1, 1) := by decide +kernel
theorem d_Mo_taken_27 : decode b_Mo_taken 27 = .ok (.iaload, 1) := by decide +kernel
theorem d_Mo_taken_28 : decode b_Mo_taken 28 = .ok (.aload_n 0, 1) := by decide +kernel
theorem d_Mo_taken_29 : decode b_Mo_taken 29 = .ok (.getfield 39, 3) := by decide +kernel
theorem d_Mo_taken_32 : decode b_Mo_taken 32 = .ok (.aload_n 0, 1) := by decide +kernel
theorem d_Mo_taken_33 : decode b_Mo_taken 33 = .ok (.getfield 51, 3) := by decide +kernel
theorem d_Mo_taken_36 : decode b_Mo_taken 36 = .ok (.iload_n 1, 1) := by decide +kernel
theorem d_Mo_taken_37 : decode b_Mo_taken 37 = .ok (.iaload, 1) := by decide +kernel
theorem d_Mo_taken_38 : decode b_Mo_taken 38 = .ok (.iaload, 1) := by decide +kernel
theorem d_Mo_taken_39 : decode b_Mo_taken 39 = .ok (.if_icmp .lt 7, 3) := by decide +kernel
theorem d_Mo_taken_42 : decode b_Mo_taken 42 = .ok (.sipush 256, 3) := by decide +kernel
theorem d_Mo_taken_45 : decode b_Mo_taken 45 = .ok (.ireturn, 1) := by decide +kernel
theorem d_Mo_taken_46 : decode b_Mo_taken 46 = .ok (.aload_n 0, 1) := by decide +kernel
theorem d_Mo_taken_47 : decode b_Mo_taken 47 = .ok (.getfield 42, 3) := by decide +kernel
theorem d_Mo_taken_50 : decode b_Mo_taken 50 = .ok (.bipush 100, 2) := by decide +kernel
theorem d_Mo_taken_52 : decode b_Mo_taken 52 = .ok (.aload_n 0, 1) := by decide +kernel
theorem d_Mo_taken_53 : decode b_Mo_taken 53 = .ok (.getfield 51, 3) := by decide +kernel
theorem d_Mo_taken_56 : decode b_Mo_taken 56 = .ok (.iload_n 1, 1) := by decide +kernel
theorem d_Mo_taken_57 : decode b_Mo_taken 57 = .ok (.iaload, 1) := by decide +kernel
theorem d_Mo_taken_58 : decode b_Mo_taken 58 = .ok (.imul, 1) := by decide +kernel
theorem d_Mo_taken_59 : decode b_Mo_taken 59 = .ok (.aload_n 0, 1) := by decide +kernel
theorem d_Mo_taken_60 : decode b_Mo_taken 60 = .ok (.getfield 57, 3) := by decide +kernel
theorem d_Mo_taken_63 : decode b_Mo_taken 63 = .ok (.iload_n 1, 1) := by decide +kernel
theorem d_Mo_taken_64 : decode b_Mo_taken 64 = .ok (.iaload, 1) := by decide +kernel
theorem d_Mo_taken_65 : decode b_Mo_taken 65 = .ok (.iadd, 1) := by decide +kernel
theorem d_Mo_taken_66 : decode b_Mo_taken 66 = .ok (.baload, 1) := by decide +kernel
theorem d_Mo_taken_67 : decode b_Mo_taken 67 = .ok (.sipush 255, 3) := by decide +kernel
theorem d_Mo_taken_70 : decode b_Mo_taken 70 = .ok (.iand, 1) := by decide +kernel
theorem d_Mo_taken_71 : decode b_Mo_taken 71 = .ok (.istore_n 2, 1) := by decide +kernel
theorem d_Mo_taken_72 : decode b_Mo_taken 72 = .ok (.aload_n 0, 1) := by decide +kernel
theorem d_Mo_taken_73 : decode b_Mo_taken 73 = .ok (.getfield 57, 3) := by decide +kernel
theorem d_Mo_taken_76 : decode b_Mo_taken 76 = .ok (.iload_n 1, 1) := by decide +kernel
theorem d_Mo_taken_77 : decode b_Mo_taken 77 = .ok (.dup2, 1) := by decide +kernel
theorem d_Mo_taken_78 : decode b_Mo_taken 78 = .ok (.iaload, 1) := by decide +kernel
theorem d_Mo_taken_79 : decode b_Mo_taken 79 = .ok (.iconst 1, 1) := by decide +kernel
theorem d_Mo_taken_80 : decode b_Mo_taken 80 = .ok (.iadd, 1) := by decide +kernel
theorem d_Mo_taken_81 : decode b_Mo_taken 81 = .ok (.iastore, 1) := by decide +kernel
theorem d_Mo_taken_82 : decode b_Mo_taken 82 = .ok (.iconst 0, 1) := by decide +kernel
theorem d_Mo_taken_83 : decode b_Mo_taken 83 = .ok (.istore_n 3, 1) := by decide +kernel
theorem d_Mo_taken_84 : decode b_Mo_taken 84 = .ok (.iload_n 3, 1) := by decide +kernel
theorem d_Mo_taken_85 : decode b_Mo_taken 85 = .ok (.aload_n 0, 1) := by decide +kernel
theorem d_Mo_taken_86 : decode b_Mo_taken 86 = .ok (.getfield 60, 3) := by decide +kernel
theorem d_Mo_taken_89 : decode b_Mo_taken 89 = .ok (.iload_n 1, 1) := by decide +kernel
theorem d_Mo_taken_90 : decode b_Mo_taken 90 = .ok (.iaload, 1) := by decide +kernel
theorem d_Mo_taken_91 : decode b_Mo_taken 91 = .ok (.if_icmp .ge 58, 3) := by decide +kernel
theorem d_Mo_taken_94 : decode b_Mo_taken 94 = .ok (.aload_n 0, 1) := by decide +kernel
theorem d_Mo_taken_95 : decode b_Mo_taken 95 = .ok (.getfield 63, 3) := by decide +kernel
theorem d_Mo_taken_98 : decode b_Mo_taken 98 = .ok (.iconst 3, 1) := by decide +kernel
theorem d_Mo_taken_99 : decode b_Mo_taken 99 = .ok (.iload_n 1, 1) := by decide +kernel
theorem d_Mo_taken_100 : decode b_Mo_taken 100 = .ok (.imul, 1) := by decide +kernel
theorem d_Mo_taken_101 : decode b_Mo_taken 101 = .ok (.iload_n 3, 1) := by decide +kernel
theorem d_Mo_taken_102 : decode b_Mo_taken 102 = .ok (.iadd, 1) := by decide +kernel
theorem d_Mo_taken_103 : decode b_Mo_taken 103 = .ok (.iaload, 1) := by decide +kernel
theorem d_Mo_taken_104 : decode b_Mo_taken 104 = .ok (.istore 4, 2) := by decide +kernel
theorem d_Mo_taken_106 : decode b_Mo_taken 106 = .ok (.iload 4, 2) := by decide +kernel
theorem d_Mo_taken_108 : decode b_Mo_taken 108 = .ok (.iconst 1, 1) := by decide +kernel
theorem d_Mo_taken_109 : decode b_Mo_taken 109 = .ok (.if_icmp .ne 11, 3) := by decide +kernel
theorem d_Mo_taken_112 : decode b_Mo_taken 112 = .ok (.sipush 255, 3) := by decide +kernel
theorem d_Mo_taken_115 : decode b_Mo_taken 115 = .ok (.iload_n 2, 1) := by decide +kernel
theorem d_Mo_taken_116 : decode b_Mo_taken 116 = .ok (.isub, 1) := by decide +kernel
theorem d_Mo_taken_117 : decode b_Mo_taken 117 = .ok (.goto 25, 3) := by decide +kernel
theorem d_Mo_taken_120 : decode b_Mo_taken 120 = .ok (.iload 4, 2) := by decide +kernel
theorem d_Mo_taken_122 : decode b_Mo_taken 122 = .ok (.iconst 2, 1) := by decide +kernel
theorem d_Mo_taken_123 : decode b_Mo_taken 123 = .ok (.if_icmp .ne 10, 3) := by decide +kernel
theorem d_Mo_taken_126 : decode b_Mo_taken 126 = .ok (.iload_n 2, 1) := by decide +kernel
theorem d_Mo_taken_127 : decode b_Mo_taken 127 = .ok (.invokestatic 111, 3) := by decide +kernel
theorem d_Mo_taken_130 : decode b_Mo_taken 130 = .ok (.goto 12, 3) := by decide +kernel
theorem d_Mo_taken_133 : decode b_Mo_taken 133 = .ok (.iload_n 2, 1) := by decide +kernel
theorem d_Mo_taken_134 : decode b_Mo_taken 134 = .ok (.sipush 255, 3) := by decide +kernel
theorem d_Mo_taken_137 : decode b_Mo_taken 137 = .ok (.iadd, 1) := by decide +kernel
theorem d_Mo_taken_138 : decode b_Mo_taken 138 = .ok (.sipush 256, 3) := by decide +kernel
theorem d_Mo_taken_141 : decode b_Mo_taken 141 = .ok (.irem, 1) := by decide +kernel
theorem d_Mo_taken_142 : decode b_Mo_taken 142 = .ok (.istore_n 2, 1) := by decide +kernel
theorem d_Mo_taken_143 : decode b_Mo_taken 143 = .ok (.iinc 3 1, 3) := by decide +kernel
theorem d_Mo_taken_146 : decode b_Mo_taken 146 = .ok (.goto (-62), 3) := by decide +kernel
theorem d_Mo_taken_149 : decode b_Mo_taken 149 = .ok (.iload_n 2, 1) := by decide +kernel
theorem d_Mo_taken_150 : decode b_Mo_taken 150 = .ok (.ireturn, 1) := by decide +kernel
theorem d_Mo_filtered_0 : decode b_Mo_filtered 0 = .ok (.aload_n 0, 1) := by decide +kernel
theorem d_Mo_filtered_1 : decode b_Mo_filtered 1 = .ok (.iload_n 1, 1) := by decide +kernel
theorem d_Mo_filtered_2 : decode b_Mo_filtered 2 = .ok (.invokevirtual 105, 3) := by decide +kernel
theorem d_Mo_filtered_5 : decode b_Mo_filtered 5 = .ok (.ifCond .ne 5, 3) := by decide +kernel
theorem d_Mo_filtered_8 : decode b_Mo_filtered 8 = .ok (.iconst (-1), 1) := by decide +kernel
theorem d_Mo_filtered_9 : decode b_Mo_filtered 9 = .ok (.ireturn, 1) := by decide +kernel
theorem d_Mo_filtered_10 : decode b_Mo_filtered 10 = .ok (.iload_n 2, 1) := by decide +kernel
theorem d_Mo_filtered_11 : decode b_Mo_filtered 11 = .ok (.iconst 1, 1) := by decide +kernel
theorem d_Mo_filtered_12 : decode b_Mo_filtered 12 = .ok (.iconst 3, 1) := by decide +kernel
theorem d_Mo_filtered_13 : decode b_Mo_filtered 13 = .ok (.invokestatic 97, 3) := by decide +kernel
theorem d_Mo_filtered_16 : decode b_Mo_filtered 16 = .ok (.ifCond .ne 6, 3) := by decide +kernel
theorem d_Mo_filtered_19 : decode b_Mo_filtered 19 = .ok (.bipush (-2), 2) := by decide +kernel
theorem d_Mo_filtered_21 : decode b_Mo_filtered 21 = .ok (.ireturn, 1) := by decide +kernel
theorem d_Mo_filtered_22 : decode b_Mo_filtered 22 = .ok (.aload_n 0, 1) := by decide +kernel
theorem d_Mo_filtered_23 : decode b_Mo_filtered 23 = .ok (.getfield 60, 3) := by decide +kernel
theorem d_Mo_filtered_26 : decode b_Mo_filtered 26 = .ok (.iload_n 1, 1) := by decide +kernel
theorem d_Mo_filtered_27 : decode b_Mo_filtered 27 = .ok (.iaload, 1) := by decide +kernel
theorem d_Mo_filtered_28 : decode b_Mo_filtered 28 = .ok (.iconst 3, 1) := by decide +kernel
theorem d_Mo_filtered_29 : decode b_Mo_filtered 29 = .ok (.if_icmp .ne 6, 3) := by decide +kernel
theorem d_Mo_filtered_32 : decode b_Mo_filtered 32 = .ok (.bipush (-4), 2) := by decide +kernel
theorem d_Mo_filtered_34 : decode b_Mo_filtered 34 = .ok (.ireturn, 1) := by decide +kernel
theorem d_Mo_filtered_35 : decode b_Mo_filtered 35 = .ok (.aload_n 0, 1) := by decide +kernel
theorem d_Mo_filtered_36 : decode b_Mo_filtered 36 = .ok (.getfield 63, 3) := by decide +kernel
theorem d_Mo_filtered_39 : decode b_Mo_filtered 39 = .ok (.iconst 3, 1) := by decide +kernel
theorem d_Mo_filtered_40 : decode b_Mo_filtered 40 = .ok (.iload_n 1, 1) := by decide +kernel
theorem d_Mo_filtered_41 : decode b_Mo_filtered 41 = .ok (.imul, 1) := by decide +kernel
theorem d_Mo_filtered_42 : decode b_Mo_filtered 42 = .ok (.aload_n 0, 1) := by decide +kernel
theorem d_Mo_filtered_43 : decode b_Mo_filtered 43 = .ok (.getfield 60, 3) := by decide +kernel
theorem d_Mo_filtered_46 : decode b_Mo_filtered 46 = .ok (.iload_n 1, 1) := by decide +kernel
theorem d_Mo_filtered_47 : decode b_Mo_filtered 47 = .ok (.iaload, 1) := by decide +kernel
theorem d_Mo_filtered_48 : decode b_Mo_filtered 48 = .ok (.iadd, 1) := by decide +kernel
theorem d_Mo_filtered_49 : decode b_Mo_filtered 49 = .ok (.iload_n 2, 1) := by decide +kernel
theorem d_Mo_filtered_50 : decode b_Mo_filtered 50 = .ok (.iastore, 1) := by decide +kernel
theorem d_Mo_filtered_51 : decode b_Mo_filtered 51 = .ok (.aload_n 0, 1) := by decide +kernel
theorem d_Mo_filtered_52 : decode b_Mo_filtered 52 = .ok (.getfield 60, 3) := by decide +kernel
theorem d_Mo_filtered_55 : decode b_Mo_filtered 55 = .ok (.iload_n 1, 1) := by decide +kernel
theorem d_Mo_filtered_56 : decode b_Mo_filtered 56 = .ok (.dup2, 1) := by decide +kernel
theorem d_Mo_filtered_57 : decode b_Mo_filtered 57 = .ok (.iaload, 1) := by decide +kernel
theorem d_Mo_filtered_58 : decode b_Mo_filtered 58 = .ok (.iconst 1, 1) := by decide +kernel
theorem d_Mo_filtered_59 : decode b_Mo_filtered 59 = .ok (.iadd, 1) := by decide +kernel
theorem d_Mo_filtered_60 : decode b_Mo_filtered 60 = .ok (.iastore, 1) := by decide +kernel
theorem d_Mo_filtered_61 : decode b_Mo_filtered 61 = .ok (.aload_n 0, 1) := by decide +kernel
theorem d_Mo_filtered_62 : decode b_Mo_filtered 62 = .ok (.getfield 60, 3) := by decide +kernel
theorem d_Mo_filtered_65 : decode b_Mo_filtered 65 = .ok (.iload_n 1, 1) := by decide +kernel
theorem d_Mo_filtered_66 : decode b_Mo_filtered 66 = .ok (.iaload, 1) := by decide +kernel
theorem d_Mo_filtered_67 : decode b_Mo_filtered 67 = .ok (.ireturn, 1) := by decide +kernel
theorem d_Mo_file_0 : decode b_Mo_file 0 = .ok (.aload_n 0, 1) := by decide +kernel
theorem d_Mo_file_1 : decode b_Mo_file 1 = .ok (.iconst 0, 1) := by decide +kernel
theorem d_Mo_file_2 : decode b_Mo_file 2 = .ok (.putfield 87, 3) := by decide +kernel
theorem d_Mo_file_5 : decode b_Mo_file 5 = .ok (.aload_n 0, 1) := by decide +kernel
theorem d_Mo_file_6 : decode b_Mo_file 6 = .ok (.iload_n 1, 1) := by decide +kernel
theorem d_Mo_file_7 : decode b_Mo_file 7 = .ok (.iload_n 2, 1) := by decide +kernel
theorem d_Mo_file_8 : decode b_Mo_file 8 = .ok (.invokevirtual 115, 3) := by decide +kernel
theorem d_Mo_file_11 : decode b_Mo_file 11 = .ok (.ireturn, 1) := by decide +kernel
theorem d_Mo_write_0 : decode b_Mo_write 0 = .ok (.aload_n 0, 1) := by decide +kernel
theorem d_Mo_write_1 : decode b_Mo_write 1 = .ok (.iconst 0, 1) := by decide +kernel
theorem d_Mo_write_2 : decode b_Mo_write 2 = .ok (.putfield 87, 3) := by decide +kernel
theorem d_Mo_write_5 : decode b_Mo_write 5 = .ok (.aload_n 0, 1) := by decide +kernel
theorem d_Mo_write_6 : decode b_Mo_write 6 = .ok (.iload_n 1, 1) := by decide +kernel
theorem d_Mo_write_7 : decode b_Mo_write 7 = .ok (.iload_n 2, 1) := by decide +kernel
theorem d_Mo_write_8 : decode b_Mo_write 8 = .ok (.invokevirtual 119, 3) := by decide +kernel
theorem d_Mo_write_11 : decode b_Mo_write 11 = .ok (.ireturn, 1) := by decide +kernel
theorem d_Mo_read_0 : decode b_Mo_read 0 = .ok (.aload_n 0, 1) := by decide +kernel
theorem d_Mo_read_1 : decode b_Mo_read 1 = .ok (.iconst 0, 1) := by decide +kernel
theorem d_Mo_read_2 : decode b_Mo_read 2 = .ok (.putfield 87, 3) := by decide +kernel
theorem d_Mo_read_5 : decode b_Mo_read 5 = .ok (.aload_n 0, 1) := by decide +kernel
theorem d_Mo_read_6 : decode b_Mo_read 6 = .ok (.iload_n 1, 1) := by decide +kernel
theorem d_Mo_read_7 : decode b_Mo_read 7 = .ok (.invokevirtual 122, 3) := by decide +kernel
theorem d_Mo_read_10 : decode b_Mo_read 10 = .ok (.ireturn, 1) := by decide +kernel
theorem d_Mo_filter_0 : decode b_Mo_filter 0 = .ok (.aload_n 0, 1) := by decide +kernel
theorem d_Mo_filter_1 : decode b_Mo_filter 1 = .ok (.iconst 0, 1) := by decide +kernel
theorem d_Mo_filter_2 : decode b_Mo_filter 2 = .ok (.putfield 87, 3) := by decide +kernel
theorem d_Mo_filter_5 : decode b_Mo_filter 5 = .ok (.aload_n 0, 1) := by decide +kernel
theorem d_Mo_filter_6 : decode b_Mo_filter 6 = .ok (.iload_n 1, 1) := by decide +kernel
theorem d_Mo_filter_7 : decode b_Mo_filter 7 = .ok (.iload_n 2, 1) := by decide +kernel
theorem d_Mo_filter_8 : decode b_Mo_filter 8 = .ok (.invokevirtual 125, 3) := by decide +kernel
theorem d_Mo_filter_11 : decode b_Mo_filter 11 = .ok (.ireturn, 1) := by decide +kernel
theorem d_Mo_close_0 : decode b_Mo_close 0 = .ok (.aload_n 0, 1) := by decide +kernel
theorem d_Mo_close_1 : decode b_Mo_close 1 = .ok (.iconst 0, 1) := by decide +kernel
theorem d_Mo_close_2 : decode b_Mo_close 2 = .ok (.putfield 87, 3) := by decide +kernel
theorem d_Mo_close_5 : decode b_Mo_close 5 = .ok (.aload_n 0, 1) := by decide +kernel
theorem d_Mo_close_6 : decode b_Mo_close 6 = .ok (.iload_n 1, 1) := by decide +kernel
theorem d_Mo_close_7 : decode b_Mo_close 7 = .ok (.invokevirtual 105, 3) := by decide +kernel
theorem d_Mo_close_10 : decode b_Mo_close 10 = .ok (.ifCond .ne 5, 3) := by decide +kernel
theorem d_Mo_close_13 : decode b_Mo_close 13 = .ok (.iconst (-1), 1) := by decide +kernel
theorem d_Mo_close_14 : decode b_Mo_close 14 = .ok (.ireturn, 1) := by decide +kernel
theorem d_Mo_close_15 : decode b_Mo_close 15 = .ok (.iload_n 1, 1) := by decide +kernel
theorem d_Mo_close_16 : decode b_Mo_close 16 = .ok (.iconst 1, 1) := by decide +kernel
theorem d_Mo_close_17 : decode b_Mo_close 17 = .ok (.if_icmp .ne 6, 3) := by decide +kernel
theorem d_Mo_close_20 : decode b_Mo_close 20 = .ok (.bipush (-3), 2) := by decide +kernel
theorem d_Mo_close_22 : decode b_Mo_close 22 = .ok (.ireturn, 1) := by decide +kernel
theorem d_Mo_close_23 : decode b_Mo_close 23 = .ok (.aload_n 0, 1) := by decide +kernel
theorem d_Mo_close_24 : decode b_Mo_close 24 = .ok (.getfield 48, 3) := by decide +kernel
theorem d_Mo_close_27 : decode b_Mo_close 27 = .ok (.iload_n 1, 1) := by decide +kernel
theorem d_Mo_close_28 : decode b_Mo_close 28 = .ok (.iconst 0, 1) := by decide +kernel
theorem d_Mo_close_29 : decode b_Mo_close 29 = .ok (.bastore, 1) := by decide +kernel
theorem d_Mo_close_30 : decode b_Mo_close 30 = .ok (.iconst 1, 1) := by decide +kernel
theorem d_Mo_close_31 : decode b_Mo_close 31 = .ok (.ireturn, 1) := by decide +kernel
theorem d_Mo_startFails_0 : decode b_Mo_startFails 0 = .ok (.aload_n 0, 1) := by decide +kernel
theorem d_Mo_startFails_1 : decode b_Mo_startFails 1 = .ok (.iconst 0, 1) := by decide +kernel
theorem d_Mo_startFails_2 : decode b_Mo_startFails 2 = .ok (.putfield 87, 3) := by decide +kernel
theorem d_Mo_startFails_5 : decode b_Mo_startFails 5 = .ok (.aload_n 0, 1) := by decide +kernel
theorem d_Mo_startFails_6 : decode b_Mo_startFails 6 = .ok (.getfield 128, 3) := by decide +kernel
theorem d_Mo_startFails_9 : decode b_Mo_startFails 9 = .ok (.istore_n 2, 1) := by decide +kernel
theorem d_Mo_startFails_10 : decode b_Mo_startFails 10 = .ok (.aload_n 0, 1) := by decide +kernel
theorem d_Mo_startFails_11 : decode b_Mo_startFails 11 = .ok (.iload_n 1, 1) := by decide +kernel
theorem d_Mo_startFails_12 : decode b_Mo_startFails 12 = .ok (.putfield 128, 3) := by decide +kernel
theorem d_Mo_startFails_15 : decode b_Mo_startFails 15 = .ok (.iload_n 2, 1) := by decide +kernel
theorem d_Mo_startFails_16 : decode b_Mo_startFails 16 = .ok (.ireturn, 1) := by decide +kernel
