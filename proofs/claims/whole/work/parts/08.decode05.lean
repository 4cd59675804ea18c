theorem d_Mo_init_151 : decode b_Mo_init 151 = .ok (.bipush 8, 2) := by decide +kernel
theorem d_Mo_init_153 : decode b_Mo_init 153 = .ok (.newarray .int, 2) := by decide +kernel
theorem d_Mo_init_155 : decode b_Mo_init 155 = .ok (.putfield 60, 3) := by decide +kernel
theorem d_Mo_init_158 : decode b_Mo_init 158 = .ok (.aload_n 0, 1) := by decide +kernel
theorem d_Mo_init_159 : decode b_Mo_init 159 = .ok (.bipush 24, 2) := by decide +kernel
theorem d_Mo_init_161 : decode b_Mo_init 161 = .ok (.newarray .int, 2) := by decide +kernel
theorem d_Mo_init_163 : decode b_Mo_init 163 = .ok (.putfield 63, 3) := by decide +kernel
theorem d_Mo_init_166 : decode b_Mo_init 166 = .ok (.aload_n 0, 1) := by decide +kernel
theorem d_Mo_init_167 : decode b_Mo_init 167 = .ok (.bipush 8, 2) := by decide +kernel
theorem d_Mo_init_169 : decode b_Mo_init 169 = .ok (.newarray .int, 2) := by decide +kernel
theorem d_Mo_init_171 : decode b_Mo_init 171 = .ok (.putfield 66, 3) := by decide +kernel
theorem d_Mo_init_174 : decode b_Mo_init 174 = .ok (.aload_n 0, 1) := by decide +kernel
theorem d_Mo_init_175 : decode b_Mo_init 175 = .ok (.bipush 8, 2) := by decide +kernel
theorem d_Mo_init_177 : decode b_Mo_init 177 = .ok (.newarray .boolean, 2) := by decide +kernel
theorem d_Mo_init_179 : decode b_Mo_init 179 = .ok (.putfield 69, 3) := by decide +kernel
theorem d_Mo_init_182 : decode b_Mo_init 182 = .ok (.aload_n 0, 1) := by decide +kernel
theorem d_Mo_init_183 : decode b_Mo_init 183 = .ok (.bipush 20, 2) := by decide +kernel
theorem d_Mo_init_185 : decode b_Mo_init 185 = .ok (.newarray .int, 2) := by decide +kernel
theorem d_Mo_init_187 : decode b_Mo_init 187 = .ok (.putfield 72, 3) := by decide +kernel
theorem d_Mo_init_190 : decode b_Mo_init 190 = .ok (.aload_n 0, 1) := by decide +kernel
theorem d_Mo_init_191 : decode b_Mo_init 191 = .ok (.iconst 4, 1) := by decide +kernel
theorem d_Mo_init_192 : decode b_Mo_init 192 = .ok (.newarray .int, 2) := by decide +kernel
theorem d_Mo_init_194 : decode b_Mo_init 194 = .ok (.putfield 75, 3) := by decide +kernel
theorem d_Mo_init_197 : decode b_Mo_init 197 = .ok (.aload_n 0, 1) := by decide +kernel
theorem d_Mo_init_198 : decode b_Mo_init 198 = .ok (.iconst 4, 1) := by decide +kernel
theorem d_Mo_init_199 : decode b_Mo_init 199 = .ok (.newarray .int, 2) := by decide +kernel
theorem d_Mo_init_201 : decode b_Mo_init 201 = .ok (.putfield 78, 3) := by decide +kernel
theorem d_Mo_init_204 : decode b_Mo_init 204 = .ok (.aload_n 0, 1) := by decide +kernel
theorem d_Mo_init_205 : decode b_Mo_init 205 = .ok (.lload_n 1, 1) := by decide +kernel
theorem d_Mo_init_206 : decode b_Mo_init 206 = .ok (.lconst 0, 1) := by decide +kernel
theorem d_Mo_init_207 : decode b_Mo_init 207 = .ok (.lcmp, 1) := by decide +kernel
theorem d_Mo_init_208 : decode b_Mo_init 208 = .ok (.ifCond .ge 7, 3) := by decide +kernel
theorem d_Mo_init_211 : decode b_Mo_init 211 = .ok (.iconst 0, 1) := by decide +kernel
theorem d_Mo_init_212 : decode b_Mo_init 212 = .ok (.goto 19, 3) := by decide +kernel
theorem d_Mo_init_215 : decode b_Mo_init 215 = .ok (.lload_n 1, 1) := by decide +kernel
theorem d_Mo_init_216 : decode b_Mo_init 216 = .ok (.ldc2_w 81, 3) := by decide +kernel
theorem d_Mo_init_219 : decode b_Mo_init 219 = .ok (.lcmp, 1) := by decide +kernel
theorem d_Mo_init_220 : decode b_Mo_init 220 = .ok (.ifCond .le 9, 3) := by decide +kernel
theorem d_Mo_init_223 : decode b_Mo_init 223 = .ok (.sipush 20000, 3) := by decide +kernel
theorem d_Mo_init_226 : decode b_Mo_init 226 = .ok (.goto 5, 3) := by decide +kernel
theorem d_Mo_init_229 : decode b_Mo_init 229 = .ok (.lload_n 1, 1) := by decide +kernel
theorem d_Mo_init_230 : decode b_Mo_init 230 = .ok (.l2i, 1) := by decide +kernel
theorem d_Mo_init_231 : decode b_Mo_init 231 = .ok (.putfield 83, 3) := by decide +kernel
theorem d_Mo_init_234 : decode b_Mo_init 234 = .ok (.iconst 0, 1) := by decide +kernel
theorem d_Mo_init_235 : decode b_Mo_init 235 = .ok (.istore_n 3, 1) := by decide +kernel
theorem d_Mo_init_236 : decode b_Mo_init 236 = .ok (.iload_n 3, 1) := by decide +kernel
theorem d_Mo_init_237 : decode b_Mo_init 237 = .ok (.bipush 40, 2) := by decide +kernel
theorem d_Mo_init_239 : decode b_Mo_init 239 = .ok (.if_icmp .ge 16, 3) := by decide +kernel
theorem d_Mo_init_242 : decode b_Mo_init 242 = .ok (.aload_n 0, 1) := by decide +kernel
theorem d_Mo_init_243 : decode b_Mo_init 243 = .ok (.getfield 26, 3) := by decide +kernel
theorem d_Mo_init_246 : decode b_Mo_init 246 = .ok (.iload_n 3, 1) := by decide +kernel
theorem d_Mo_init_247 : decode b_Mo_init 247 = .ok (.iconst (-1), 1) := by decide +kernel
theorem d_Mo_init_248 : decode b_Mo_init 248 = .ok (.iastore, 1) := by decide +kernel
theorem d_Mo_init_249 : decode b_Mo_init 249 = .ok (.iinc 3 1, 3) := by decide +kernel
theorem d_Mo_init_252 : decode b_Mo_init 252 = .ok (.goto (-16), 3) := by decide +kernel
theorem d_Mo_init_255 : decode b_Mo_init 255 = .ok (.aload_n 0, 1) := by decide +kernel
theorem d_Mo_init_256 : decode b_Mo_init 256 = .ok (.getfield 48, 3) := by decide +kernel
theorem d_Mo_init_259 : decode b_Mo_init 259 = .ok (.iconst 1, 1) := by decide +kernel
theorem d_Mo_init_260 : decode b_Mo_init 260 = .ok (.iconst 1, 1) := by decide +kernel
theorem d_Mo_init_261 : decode b_Mo_init 261 = .ok (.bastore, 1) := by decide +kernel
theorem d_Mo_init_262 : decode b_Mo_init 262 = .ok (.aload_n 0, 1) := by decide +kernel
theorem d_Mo_init_263 : decode b_Mo_init 263 = .ok (.getfield 54, 3) := by decide +kernel
theorem d_Mo_init_266 : decode b_Mo_init 266 = .ok (.iconst 1, 1) := by decide +kernel
theorem d_Mo_init_267 : decode b_Mo_init 267 = .ok (.iconst 1, 1) := by decide +kernel
theorem d_Mo_init_268 : decode b_Mo_init 268 = .ok (.iastore, 1) := by decide +kernel
theorem d_Mo_init_269 : decode b_Mo_init 269 = .ok (.return_, 1) := by decide +kernel
theorem d_Mo_in_0 : decode b_Mo_in 0 = .ok (.iload_n 0, 1) := by decide +kernel
theorem d_Mo_in_1 : decode b_Mo_in 1 = .ok (.iload_n 1, 1) := by decide +kernel
theorem d_Mo_in_2 : decode b_Mo_in 2 = .ok (.if_icmp .lt 12, 3) := by decide +kernel
theorem d_Mo_in_5 : decode b_Mo_in 5 = .ok (.iload_n 0, 1) := by decide +kernel
theorem d_Mo_in_6 : decode b_Mo_in 6 = .ok (.iload_n 2, 1) := by decide +kernel
theorem d_Mo_in_7 : decode b_Mo_in 7 = .ok (.if_icmp .gt 7, 3) := by decide +kernel
theorem d_Mo_in_10 : decode b_Mo_in 10 = .ok (.iconst 1, 1) := by decide +kernel
theorem d_Mo_in_11 : decode b_Mo_in 11 = .ok (.goto 4, 3) := by decide +kernel
theorem d_Mo_in_14 : decode b_Mo_in 14 = .ok (.iconst 0, 1) := by decide +kernel
theorem d_Mo_in_15 : decode b_Mo_in 15 = .ok (.ireturn, 1) := by decide +kernel
theorem d_Mo_job_0 : decode b_Mo_job 0 = .ok (.aload_n 0, 1) := by decide +kernel
theorem d_Mo_job_1 : decode b_Mo_job 1 = .ok (.iconst 0, 1) := by decide +kernel
theorem d_Mo_job_2 : decode b_Mo_job 2 = .ok (.putfield 87, 3) := by decide +kernel
theorem d_Mo_job_5 : decode b_Mo_job 5 = .ok (.aload_n 0, 1) := by decide +kernel
theorem d_Mo_job_6 : decode b_Mo_job 6 = .ok (.getfield 90, 3) := by decide +kernel
theorem d_Mo_job_9 : decode b_Mo_job 9 = .ok (.bipush 20, 2) := by decide +kernel
theorem d_Mo_job_11 : decode b_Mo_job 11 = .ok (.if_icmp .ne 6, 3) := by decide +kernel
theorem d_Mo_job_14 : decode b_Mo_job 14 = .ok (.bipush (-4), 2) := by decide +kernel
theorem d_Mo_job_16 : decode b_Mo_job 16 = .ok (.ireturn, 1) := by decide +kernel
theorem d_Mo_job_17 : decode b_Mo_job 17 = .ok (.aload_n 0, 1) := by decide +kernel
theorem d_Mo_job_18 : decode b_Mo_job 18 = .ok (.dup, 1) := by decide +kernel
theorem d_Mo_job_19 : decode b_Mo_job 19 = .ok (.getfield 90, 3) := by decide +kernel
theorem d_Mo_job_22 : decode b_Mo_job 22 = .ok (.iconst 1, 1) := by decide +kernel
theorem d_Mo_job_23 : decode b_Mo_job 23 = .ok (.iadd, 1) := by decide +kernel
theorem d_Mo_job_24 : decode b_Mo_job 24 = .ok (.putfield 90, 3) := by decide +kernel
theorem d_Mo_job_27 : decode b_Mo_job 27 = .ok (.aload_n 0, 1) := by decide +kernel
theorem d_Mo_job_28 : decode b_Mo_job 28 = .ok (.getfield 90, 3) := by decide +kernel
theorem d_Mo_job_31 : decode b_Mo_job 31 = .ok (.iconst 1, 1) := by decide +kernel
theorem d_Mo_job_32 : decode b_Mo_job 32 = .ok (.isub, 1) := by decide +kernel
theorem d_Mo_job_33 : decode b_Mo_job 33 = .ok (.ireturn, 1) := by decide +kernel
theorem d_Mo_noJob_0 : decode b_Mo_noJob 0 = .ok (.iload_n 1, 1) := by decide +kernel
theorem d_Mo_noJob_1 : decode b_Mo_noJob 1 = .ok (.ifCond .lt 11, 3) := by decide +kernel
theorem d_Mo_noJob_4 : decode b_Mo_noJob 4 = .ok (.iload_n 1, 1) := by decide +kernel
theorem d_Mo_noJob_5 : decode b_Mo_noJob 5 = .ok (.aload_n 0, 1) := by decide +kernel
theorem d_Mo_noJob_6 : decode b_Mo_noJob 6 = .ok (.getfield 90, 3) := by decide +kernel
theorem d_Mo_noJob_9 : decode b_Mo_noJob 9 = .ok (.if_icmp .lt 7, 3) := by decide +kernel
theorem d_Mo_noJob_12 : decode b_Mo_noJob 12 = .ok (.iconst 1, 1) := by decide +kernel
theorem d_Mo_noJob_13 : decode b_Mo_noJob 13 = .ok (.goto 4, 3) := by decide +kernel
theorem d_Mo_noJob_16 : decode b_Mo_noJob 16 = .ok (.iconst 0, 1) := by decide +kernel
theorem d_Mo_noJob_17 : decode b_Mo_noJob 17 = .ok (.ireturn, 1) := by decide +kernel
theorem d_Mo_add_0 : decode b_Mo_add 0 = .ok (.aload_n 0, 1) := by decide +kernel
theorem d_Mo_add_1 : decode b_Mo_add 1 = .ok (.iconst 0, 1) := by decide +kernel
theorem d_Mo_add_2 : decode b_Mo_add 2 = .ok (.putfield 87, 3) := by decide +kernel
theorem d_Mo_add_5 : decode b_Mo_add 5 = .ok (.aload_n 0, 1) := by decide +kernel
theorem d_Mo_add_6 : decode b_Mo_add 6 = .ok (.iload_n 1, 1) := by decide +kernel
theorem d_Mo_add_7 : decode b_Mo_add 7 = .ok (.invokevirtual 93, 3) := by decide +kernel
theorem d_Mo_add_10 : decode b_Mo_add 10 = .ok (.ifCond .eq 5, 3) := by decide +kernel
theorem d_Mo_add_13 : decode b_Mo_add 13 = .ok (.iconst (-1), 1) := by decide +kernel
theorem d_Mo_add_14 : decode b_Mo_add 14 = .ok (.ireturn, 1) := by decide +kernel
theorem d_Mo_add_15 : decode b_Mo_add 15 = .ok (.aload_n 0, 1) := by decide +kernel
theorem d_Mo_add_16 : decode b_Mo_add 16 = .ok (.getfield 17, 3) := by decide +kernel
theorem d_Mo_add_19 : decode b_Mo_add 19 = .ok (.bipush 6, 2) := by decide +kernel
theorem d_Mo_add_21 : decode b_Mo_add 21 = .ok (.iload_n 1, 1) := by decide +kernel
theorem d_Mo_add_22 : decode b_Mo_add 22 = .ok (.imul, 1) := by decide +kernel
theorem d_Mo_add_23 : decode b_Mo_add 23 = .ok (.iaload, 1) := by decide +kernel
theorem d_Mo_add_24 : decode b_Mo_add 24 = .ok (.ifCond .le 6, 3) := by decide +kernel
theorem d_Mo_add_27 : decode b_Mo_add 27 = .ok (.bipush (-3), 2) := by decide +kernel
theorem d_Mo_add_29 : decode b_Mo_add 29 = .ok (.ireturn, 1) := by decide +kernel
theorem d_Mo_add_30 : decode b_Mo_add 30 = .ok (.aload_n 0, 1) := by decide +kernel
theorem d_Mo_add_31 : decode b_Mo_add 31 = .ok (.getfield 13, 3) := by decide +kernel
theorem d_Mo_add_34 : decode b_Mo_add 34 = .ok (.iload_n 1, 1) := by decide +kernel
theorem d_Mo_add_35 : decode b_Mo_add 35 = .ok (.iaload, 1) := by decide +kernel
theorem d_Mo_add_36 : decode b_Mo_add 36 = .ok (.sipush 200, 3) := by decide +kernel
theorem d_Mo_add_39 : decode b_Mo_add 39 = .ok (.if_icmp .ne 6, 3) := by decide +kernel
theorem d_Mo_add_42 : decode b_Mo_add 42 = .ok (.bipush (-4), 2) := by decide +kernel
theorem d_Mo_add_44 : decode b_Mo_add 44 = .ok (.ireturn, 1) := by decide +kernel
theorem d_Mo_add_45 : decode b_Mo_add 45 = .ok (.aload_n 0, 1) := by decide +kernel
theorem d_Mo_add_46 : decode b_Mo_add 46 = .ok (.getfield 7, 3) := by decide +kernel
theorem d_Mo_add_49 : decode b_Mo_add 49 = .ok (.sipush 200, 3) := by decide +kernel
theorem d_Mo_add_52 : decode b_Mo_add 52 = .ok (.iload_n 1, 1) := by decide +kernel
theorem d_Mo_add_53 : decode b_Mo_add 53 = .ok (.imul, 1) := by decide +kernel
theorem d_Mo_add_54 : decode b_Mo_add 54 = .ok (.aload_n 0, 1) := by decide +kernel
theorem d_Mo_add_55 : decode b_Mo_add 55 = .ok (.getfield 13, 3) := by decide +kernel
theorem d_Mo_add_58 : decode b_Mo_add 58 = .ok (.iload_n 1, 1) := by decide +kernel
theorem d_Mo_add_59 : decode b_Mo_add 59 = .ok (.iaload, 1) := by decide +kernel
theorem d_Mo_add_60 : decode b_Mo_add 60 = .ok (.iadd, 1) := by decide +kernel
theorem d_Mo_add_61 : decode b_Mo_add 61 = .ok (.iload_n 2, 1) := by decide +kernel
theorem d_Mo_add_62 : decode b_Mo_add 62 = .ok (.bastore, 1) := by decide +kernel
theorem d_Mo_add_63 : decode b_Mo_add 63 = .ok (.aload_n 0, 1) := by decide +kernel
theorem d_Mo_add_64 : decode b_Mo_add 64 = .ok (.getfield 13, 3) := by decide +kernel
theorem d_Mo_add_67 : decode b_Mo_add 67 = .ok (.iload_n 1, 1) := by decide +kernel
theorem d_Mo_add_68 : decode b_Mo_add 68 = .ok (.dup2, 1) := by decide +kernel
theorem d_Mo_add_69 : decode b_Mo_add 69 = .ok (.iaload, 1) := by decide +kernel
theorem d_Mo_add_70 : decode b_Mo_add 70 = .ok (.iconst 1, 1) := by decide +kernel
theorem d_Mo_add_71 : decode b_Mo_add 71 = .ok (.iadd, 1) := by decide +kernel
theorem d_Mo_add_72 : decode b_Mo_add 72 = .ok (.iastore, 1) := by decide +kernel
theorem d_Mo_add_73 : decode b_Mo_add 73 = .ok (.aload_n 0, 1) := by decide +kernel
theorem d_Mo_add_74 : decode b_Mo_add 74 = .ok (.getfield 13, 3) := by decide +kernel
theorem d_Mo_add_77 : decode b_Mo_add 77 = .ok (.iload_n 1, 1) := by decide +kernel
theorem d_Mo_add_78 : decode b_Mo_add 78 = .ok (.iaload, 1) := by decide +kernel
theorem d_Mo_add_79 : decode b_Mo_add 79 = .ok (.ireturn, 1) := by decide +kernel
theorem d_Mo_ended_0 : decode b_Mo_ended 0 = .ok (.aload_n 0, 1) := by decide +kernel
theorem d_Mo_ended_1 : decode b_Mo_ended 1 = .ok (.iconst 0, 1) := by decide +kernel
theorem d_Mo_ended_2 : decode b_Mo_ended 2 = .ok (.putfield 87, 3) := by decide +kernel
theorem d_Mo_ended_5 : decode b_Mo_ended 5 = .ok (.aload_n 0, 1) := by decide +kernel
theorem d_Mo_ended_6 : decode b_Mo_ended 6 = .ok (.iload_n 1, 1) := by decide +kernel
theorem d_Mo_ended_7 : decode b_Mo_ended 7 = .ok (.invokevirtual 93, 3) := by decide +kernel
theorem d_Mo_ended_10 : decode b_Mo_ended 10 = .ok (.ifCond .eq 7, 3) := by decide +kernel
theorem d_Mo_ended_13 : decode b_Mo_ended 13 = .ok (.iconst (-1), 1) := by decide +kernel
theorem d_Mo_ended_14 : decode b_Mo_ended 14 = .ok (.goto 28, 3) := by decide +kernel
theorem d_Mo_ended_17 : decode b_Mo_ended 17 = .ok (.iload_n 2, 1) := by decide +kernel
theorem d_Mo_ended_18 : decode b_Mo_ended 18 = .ok (.iconst 0, 1) := by decide +kernel
theorem d_Mo_ended_19 : decode b_Mo_ended 19 = .ok (.iconst 5, 1) := by decide +kernel
theorem d_Mo_ended_20 : decode b_Mo_ended 20 = .ok (.invokestatic 97, 3) := by decide +kernel
theorem d_Mo_ended_23 : decode b_Mo_ended 23 = .ok (.ifCond .eq 17, 3) := by decide +kernel
theorem d_Mo_ended_26 : decode b_Mo_ended 26 = .ok (.aload_n 0, 1) := by decide +kernel
theorem d_Mo_ended_27 : decode b_Mo_ended 27 = .ok (.getfield 17, 3) := by decide +kernel
theorem d_Mo_ended_30 : decode b_Mo_ended 30 = .ok (.bipush 6, 2) := by decide +kernel
theorem d_Mo_ended_32 : decode b_Mo_ended 32 = .ok (.iload_n 1, 1) := by decide +kernel
theorem d_Mo_ended_33 : decode b_Mo_ended 33 = .ok (.imul, 1) := by decide +kernel
theorem d_Mo_ended_34 : decode b_Mo_ended 34 = .ok (.iload_n 2, 1) := by decide +kernel
theorem d_Mo_ended_35 : decode b_Mo_ended 35 = .ok (.iadd, 1) := by decide +kernel
theorem d_Mo_ended_36 : decode b_Mo_ended 36 = .ok (.iaload, 1) := by decide +kernel
theorem d_Mo_ended_37 : decode b_Mo_ended 37 = .ok (.goto 5, 3) := by decide +kernel
theorem d_Mo_ended_40 : decode b_Mo_ended 40 = .ok (.bipush (-2), 2) := by decide +kernel
theorem d_Mo_ended_42 : decode b_Mo_ended 42 = .ok (.ireturn, 1) := by decide +kernel
theorem d_Mo_page_0 : decode b_Mo_page 0 = .ok (.aload_n 0, 1) := by decide +kernel
theorem d_Mo_page_1 : decode b_Mo_page 1 = .ok (.iconst 0, 1) := by decide +kernel
theorem d_Mo_page_2 : decode b_Mo_page 2 = .ok (.putfield 87, 3) := by decide +kernel
theorem d_Mo_page_5 : decode b_Mo_page 5 = .ok (.aload_n 0, 1) := by decide +kernel
theorem d_Mo_page_6 : decode b_Mo_page 6 = .ok (.iload_n 1, 1) := by decide +kernel
theorem d_Mo_page_7 : decode b_Mo_page 7 = .ok (.invokevirtual 93, 3) := by decide +kernel
theorem d_Mo_page_10 : decode b_Mo_page 10 = .ok (.ifCond .ne 22, 3) := by decide +kernel
theorem d_Mo_page_13 : decode b_Mo_page 13 = .ok (.iload_n 2, 1) := by decide +kernel
theorem d_Mo_page_14 : decode b_Mo_page 14 = .ok (.ifCond .lt 18, 3) := by decide +kernel
theorem d_Mo_page_17 : decode b_Mo_page 17 = .ok (.iload_n 2, 1) := by decide +kernel
theorem d_Mo_page_18 : decode b_Mo_page 18 = .ok (.aload_n 0, 1) := by decide +kernel
theorem d_Mo_page_19 : decode b_Mo_page 19 = .ok (.getfield 17, 3) := by decide +kernel
theorem d_Mo_page_22 : decode b_Mo_page 22 = .ok (.bipush 6, 2) := by decide +kernel
theorem d_Mo_page_24 : decode b_Mo_page 24 = .ok (.iload_n 1, 1) := by decide +kernel
theorem d_Mo_page_25 : decode b_Mo_page 25 = .ok (.imul, 1) := by decide +kernel
theorem d_Mo_page_26 : decode b_Mo_page 26 = .ok (.iconst 3, 1) := by decide +kernel
theorem d_Mo_page_27 : decode b_Mo_page 27 = .ok (.iadd, 1) := by decide +kernel
theorem d_Mo_page_28 : decode b_Mo_page 28 = .ok (.iaload, 1) := by decide +kernel
theorem d_Mo_page_29 : decode b_Mo_page 29 = .ok (.if_icmp .lt 7, 3) := by decide +kernel
theorem d_Mo_page_32 : decode b_Mo_page 32 = .ok (.iconst 0, 1) := by decide +kernel
theorem d_Mo_page_33 : decode b_Mo_page 33 = .ok (.goto 14, 3) := by decide +kernel
theorem d_Mo_page_36 : decode b_Mo_page 36 = .ok (.aload_n 0, 1) := by decide +kernel
theorem d_Mo_page_37 : decode b_Mo_page 37 = .ok (.getfield 20, 3) := by decide +kernel
theorem d_Mo_page_40 : decode b_Mo_page 40 = .ok (.bipush 40, 2) := by decide +kernel
theorem d_Mo_page_42 : decode b_Mo_page 42 = .ok (.iload_n 1, 1) := by decide +kernel
theorem d_Mo_page_43 : decode b_Mo_page 43 = .ok (.imul, 1) := by decide +kernel
theorem d_Mo_page_44 : decode b_Mo_page 44 = .ok (.iload_n 2, 1) := by decide +kernel
theorem d_Mo_page_45 : decode b_Mo_page 45 = .ok (.iadd, 1) := by decide +kernel
theorem d_Mo_page_46 : decode b_Mo_page 46 = .ok (.iaload, 1) := by decide +kernel
theorem d_Mo_page_47 : decode b_Mo_page 47 = .ok (.ireturn, 1) := by decide +kernel
theorem d_Mo_isSetting_0 : decode b_Mo_isSetting 0 = .ok (.iload_n 0, 1) := by decide +kernel
theorem d_Mo_isSetting_1 : decode b_Mo_isSetting 1 = .ok (.ifCond .ne 12, 3) := by decide +kernel
theorem d_Mo_isSetting_4 : decode b_Mo_isSetting 4 = .ok (.iload_n 1, 1) := by decide +kernel
theorem d_Mo_isSetting_5 : decode b_Mo_isSetting 5 = .ok (.iconst 0, 1) := by decide +kernel
theorem d_Mo_isSetting_6 : decode b_Mo_isSetting 6 = .ok (.iconst 3, 1) := by decide +kernel
theorem d_Mo_isSetting_7 : decode b_Mo_isSetting 7 = .ok (.invokestatic 97, 3) := by decide +kernel
theorem d_Mo_isSetting_10 : decode b_Mo_isSetting 10 = .ok (.goto 42, 3) := by decide +kernel
theorem d_Mo_isSetting_13 : decode b_Mo_isSetting 13 = .ok (.iload_n 0, 1) := by decide +kernel
theorem d_Mo_isSetting_14 : decode b_Mo_isSetting 14 = .ok (.iconst 1, 1) := by decide +kernel
theorem d_Mo_isSetting_15 : decode b_Mo_isSetting 15 = .ok (.if_icmp .ne 13, 3) := by decide +kernel
theorem d_Mo_isSetting_18 : decode b_Mo_isSetting 18 = .ok (.iload_n 1, 1) := by decide +kernel
theorem d_Mo_isSetting_19 : decode b_Mo_isSetting 19 = .ok (.iconst 1, 1) := by decide +kernel
theorem d_Mo_isSetting_20 : decode b_Mo_isSetting 20 = .ok (.bipush 9, 2) := by decide +kernel
theorem d_Mo_isSetting_22 : decode b_Mo_isSetting 22 = .ok (.invokestatic 97, 3) := by decide +kernel
theorem d_Mo_isSetting_25 : decode b_Mo_isSetting 25 = .ok (.goto 27, 3) := by decide +kernel
theorem d_Mo_isSetting_28 : decode b_Mo_isSetting 28 = .ok (.iload_n 0, 1) := by decide +kernel
theorem d_Mo_isSetting_29 : decode b_Mo_isSetting 29 = .ok (.iconst 2, 1) := by decide +kernel
theorem d_Mo_isSetting_30 : decode b_Mo_isSetting 30 = .ok (.if_icmp .eq 8, 3) := by decide +kernel
theorem d_Mo_isSetting_33 : decode b_Mo_isSetting 33 = .ok (.iload_n 0, 1) := by decide +kernel
theorem d_Mo_isSetting_34 : decode b_Mo_isSetting 34 = .ok (.iconst 3, 1) := by decide +kernel
theorem d_Mo_isSetting_35 : decode b_Mo_isSetting 35 = .ok (.if_icmp .ne 16, 3) := by decide +kernel
theorem d_Mo_isSetting_38 : decode b_Mo_isSetting 38 = .ok (.iload_n 1, 1) := by decide +kernel
theorem d_Mo_isSetting_39 : decode b_Mo_isSetting 39 = .ok (.iconst 0, 1) := by decide +kernel
theorem d_Mo_isSetting_40 : decode b_Mo_isSetting 40 = .ok (.iconst 1, 1) := by decide +kernel
theorem d_Mo_isSetting_41 : decode b_Mo_isSetting 41 = .ok (.invokestatic 97, 3) := by decide +kernel
theorem d_Mo_isSetting_44 : decode b_Mo_isSetting 44 = .ok (.ifCond .eq 7, 3) := by decide +kernel
theorem d_Mo_isSetting_47 : decode b_Mo_isSetting 47 = .ok (.iconst 1, 1) := by decide +kernel
theorem d_Mo_isSetting_48 : decode b_Mo_isSetting 48 = .ok (.goto 4, 3) := by decide +kernel
theorem d_Mo_isSetting_51 : decode b_Mo_isSetting 51 = .ok (.iconst 0, 1) := by decide +kernel
theorem d_Mo_isSetting_52 : decode b_Mo_isSetting 52 = .ok (.ireturn, 1) := by decide +kernel
theorem d_Mo_device_0 : decode b_Mo_device 0 = .ok (.aload_n 0, 1) := by decide +kernel
theorem d_Mo_device_1 : decode b_Mo_device 1 = .ok (.iconst 0, 1) := by decide +kernel
theorem d_Mo_device_2 : decode b_Mo_device 2 = .ok (.putfield 87, 3) := by decide +kernel
theorem d_Mo_device_5 : decode b_Mo_device 5 = .ok (.iload_n 1, 1) := by decide +kernel
theorem d_Mo_device_6 : decode b_Mo_device 6 = .ok (.iload_n 2, 1) := by decide +kernel
theorem d_Mo_device_7 : decode b_Mo_device 7 = .ok (.invokestatic 101, 3) := by decide +kernel
theorem d_Mo_device_10 : decode b_Mo_device 10 = .ok (.ifCond .ne 5, 3) := by decide +kernel
theorem d_Mo_device_13 : decode b_Mo_device 13 = .ok (.iconst 0, 1) := by decide +kernel
theorem d_Mo_device_14 : decode b_Mo_device 14 = .ok (.ireturn, 1) := by decide +kernel
theorem d_Mo_device_15 : decode b_Mo_device 15 = .ok (.aload_n 0, 1) := by decide +kernel
theorem d_Mo_device_16 : decode b_Mo_device 16 = .ok (.getfield 23, 3) := by decide +kernel
theorem d_Mo_device_19 : decode b_Mo_device 19 = .ok (.iload_n 1, 1) := by decide +kernel
theorem d_Mo_device_20 : decode b_Mo_device 20 = .ok (.iload_n 2, 1) := by decide +kernel
theorem d_Mo_device_21 : decode b_Mo_device 21 = .ok (.iastore, 1) := by decide +kernel
theorem d_Mo_device_22 : decode b_Mo_device 22 = .ok (.iconst 1, 1) := by decide +kernel
theorem d_Mo_device_23 : decode b_Mo_device 23 = .ok (.ireturn, 1) := by decide +kernel
theorem d_Mo_define_0 : decode b_Mo_define 0 = .ok (.aload_n 0, 1) := by decide +kernel
theorem d_Mo_define_1 : decode b_Mo_define 1 = .ok (.iconst 0, 1) := by decide +kernel
theorem d_Mo_define_2 : decode b_Mo_define 2 = .ok (.putfield 87, 3) := by decide +kernel
theorem d_Mo_define_5 : decode b_Mo_define 5 = .ok (.iload_n 1, 1) := by decide +kernel
theorem d_Mo_define_6 : decode b_Mo_define 6 = .ok (.iconst 0, 1) := by decide +kernel
theorem d_Mo_define_7 : decode b_Mo_define 7 = .ok (.iconst 3, 1) := by decide +kernel
theorem d_Mo_define_8 : decode b_Mo_define 8 = .ok (.invokestatic 97, 3) := by decide +kernel
theorem d_Mo_define_11 : decode b_Mo_define 11 = .ok (.ifCond .eq 13, 3) := by decide +kernel
theorem d_Mo_define_14 : decode b_Mo_define 14 = .ok (.iload_n 2, 1) := by decide +kernel
theorem d_Mo_define_15 : decode b_Mo_define 15 = .ok (.iconst 0, 1) := by decide +kernel
theorem d_Mo_define_16 : decode b_Mo_define 16 = .ok (.bipush 9, 2) := by decide +kernel
theorem d_Mo_define_18 : decode b_Mo_define 18 = .ok (.invokestatic 97, 3) := by decide +kernel
theorem d_Mo_define_21 : decode b_Mo_define 21 = .ok (.ifCond .ne 5, 3) := by decide +kernel
theorem d_Mo_define_24 : decode b_Mo_define 24 = .ok (.iconst (-1), 1) := by decide +kernel
theorem d_Mo_define_25 : decode b_Mo_define 25 = .ok (.ireturn, 1) := by decide +kernel
theorem d_Mo_define_26 : decode b_Mo_define 26 = .ok (.iload_n 3, 1) := by decide +kernel
theorem d_Mo_define_27 : decode b_Mo_define 27 = .ok (.iconst 0, 1) := by decide +kernel
theorem d_Mo_define_28 : decode b_Mo_define 28 = .ok (.sipush 9999, 3) := by decide +kernel
theorem d_Mo_define_31 : decode b_Mo_define 31 = .ok (.invokestatic 97, 3) := by decide +kernel
theorem d_Mo_define_34 : decode b_Mo_define 34 = .ok (.ifCond .ne 6, 3) := by decide +kernel
theorem d_Mo_define_37 : decode b_Mo_define 37 = .ok (.bipush (-2), 2) := by decide +kernel
theorem d_Mo_define_39 : decode b_Mo_define 39 = .ok (.ireturn, 1) := by decide +kernel
theorem d_Mo_define_40 : decode b_Mo_define 40 = .ok (.aload_n 0, 1) := by decide +kernel
theorem d_Mo_define_41 : decode b_Mo_define 41 = .ok (.getfield 26, 3) := by decide +kernel
theorem d_Mo_define_44 : decode b_Mo_define 44 = .ok (.bipush 10, 2) := by decide +kernel
theorem d_Mo_define_46 : decode b_Mo_define 46 = .ok (.iload_n 1, 1) := by decide +kernel
theorem d_Mo_define_47 : decode b_Mo_define 47 = .ok (.imul, 1) := by decide +kernel
theorem d_Mo_define_48 : decode b_Mo_define 48 = .ok (.iload_n 2, 1) := by decide +kernel
theorem d_Mo_define_49 : decode b_Mo_define 49 = .ok (.iadd, 1) := by decide +kernel
theorem d_Mo_define_50 : decode b_Mo_define 50 = .ok (.iload_n 3, 1) := by decide +kernel
theorem d_Mo_define_51 : decode b_Mo_define 51 = .ok (.iastore, 1) := by decide +kernel
theorem d_Mo_define_52 : decode b_Mo_define 52 = .ok (.iconst 1, 1) := by decide +kernel
theorem d_Mo_define_53 : decode b_Mo_define 53 = .ok (.ireturn, 1) := by decide +kernel
theorem d_Mo_resource_0 : decode b_Mo_resource 0 = .ok (.aload_n 0, 1) := by decide +kernel
theorem d_Mo_resource_1 : decode b_Mo_resource 1 = .ok (.iconst 0, 1) := by decide +kernel
theorem d_Mo_resource_2 : decode b_Mo_resource 2 = .ok (.putfield 87, 3) := by decide +kernel
theorem d_Mo_resource_5 : decode b_Mo_resource 5 = .ok (.iload_n 1, 1) := by decide +kernel
theorem d_Mo_resource_6 : decode b_Mo_resource 6 = .ok (.iconst 0, 1) := by decide +kernel
theorem d_Mo_resource_7 : decode b_Mo_resource 7 = .ok (.iconst 3, 1) := by decide +kernel
theorem d_Mo_resource_8 : decode b_Mo_resource 8 = .ok (.invokestatic 97, 3) := by decide +kernel
theorem d_Mo_resource_11 : decode b_Mo_resource 11 = .ok (.ifCond .eq 13, 3) := by decide +kernel
theorem d_Mo_resource_14 : decode b_Mo_resource 14 = .ok (.iload_n 2, 1) := by decide +kernel
theorem d_Mo_resource_15 : decode b_Mo_resource 15 = .ok (.iconst 0, 1) := by decide +kernel
theorem d_Mo_resource_16 : decode b_Mo_resource 16 = .ok (.bipush 9, 2) := by decide +kernel
theorem d_Mo_resource_18 : decode b_Mo_resource 18 = .ok (.invokestatic 97, 3) := by decide +kernel
theorem d_Mo_resource_21 : decode b_Mo_resource 21 = .ok (.ifCond .ne 5, 3) := by decide +kernel
theorem d_Mo_resource_24 : decode b_Mo_resource 24 = .ok (.iconst (-1), 1) := by decide +kernel
theorem d_Mo_resource_25 : decode b_Mo_resource 25 = .ok (.ireturn, 1) := by decide +kernel
theorem d_Mo_resource_26 : decode b_Mo_resource 26 = .ok (.aload_n 0, 1) := by decide +kernel
theorem d_Mo_resource_27 : decode b_Mo_resource 27 = .ok (.getfield 26, 3) := by decide +kernel
theorem d_Mo_resource_30 : decode b_Mo_resource 30 = .ok (.bipush 10, 2) := by decide +kernel
theorem d_Mo_resource_32 : decode b_Mo_resource 32 = .ok (.iload_n 1, 1) := by decide +kernel
theorem d_Mo_resource_33 : decode b_Mo_resource 33 = .ok (.imul, 1) := by decide +kernel
theorem d_Mo_resource_34 : decode b_Mo_resource 34 = .ok (.iload_n 2, 1) := by decide +kernel
theorem d_Mo_resource_35 : decode b_Mo_resource 35 = .ok (.iadd, 1) := by decide +kernel
theorem d_Mo_resource_36 : decode b_Mo_resource 36 = .ok (.iaload, 1) := by decide +kernel
theorem d_Mo_resource_37 : decode b_Mo_resource 37 = .ok (.ifCond .ge 8, 3) := by decide +kernel
theorem d_Mo_resource_40 : decode b_Mo_resource 40 = .ok (.bipush (-3), 2) := by decide +kernel
theorem d_Mo_resource_42 : decode b_Mo_resource 42 = .ok (.goto 14, 3) := by decide +kernel
theorem d_Mo_resource_45 : decode b_Mo_resource 45 = .ok (.aload_n 0, 1) := by decide +kernel
theorem d_Mo_resource_46 : decode b_Mo_resource 46 = .ok (.getfield 26, 3) := by decide +kernel
theorem d_Mo_resource_49 : decode b_Mo_resource 49 = .ok (.bipush 10, 2) := by decide +kernel
theorem d_Mo_resource_51 : decode b_Mo_resource 51 = .ok (.iload_n 1, 1) := by decide +kernel
theorem d_Mo_resource_52 : decode b_Mo_resource 52 = .ok (.imul, 1) := by decide +kernel
theorem d_Mo_resource_53 : decode b_Mo_resource 53 = .ok (.iload_n 2, 1) := by decide +kernel
theorem d_Mo_resource_54 : decode b_Mo_resource 54 = .ok (.iadd, 1) := by decide +kernel
theorem d_Mo_resource_55 : decode b_Mo_resource 55 = .ok (.iaload, 1) := by decide +kernel
theorem d_Mo_resource_56 : decode b_Mo_resource 56 = .ok (.ireturn, 1) := by decide +kernel
theorem d_Mo_opened_0 : decode b_Mo_opened 0 = .ok (.iload_n 1, 1) := by decide +kernel
theorem d_Mo_opened_1 : decode b_Mo_opened 1 = .ok (.iconst 0, 1) := by decide +kernel
theorem d_Mo_opened_2 : decode b_Mo_opened 2 = .ok (.bipush 9, 2) := by decide +kernel
theorem d_Mo_opened_4 : decode b_Mo_opened 4 = .ok (.invokestatic 97, 3) := by decide +kernel
theorem d_Mo_opened_7 : decode b_Mo_opened 7 = .ok (.ifCond .ne 5, 3) := by decide +kernel
theorem d_Mo_opened_10 : decode b_Mo_opened 10 = .ok (.iconst (-1), 1) := by decide +kernel
theorem d_Mo_opened_11 : decode b_Mo_opened 11 = .ok (.ireturn, 1) := by decide +kernel
theorem d_Mo_opened_12 : decode b_Mo_opened 12 = .ok (.iload_n 2, 1) := by decide +kernel
theorem d_Mo_opened_13 : decode b_Mo_opened 13 = .ok (.iconst 0, 1) := by decide +kernel
theorem d_Mo_opened_14 : decode b_Mo_opened 14 = .ok (.iconst 2, 1) := by decide +kernel
theorem d_Mo_opened_15 : decode b_Mo_opened 15 = .ok (.invokestatic 97, 3) := by decide +kernel
theorem d_Mo_opened_18 : decode b_Mo_opened 18 = .ok (.ifCond .ne 6, 3) := by decide +kernel
theorem d_Mo_opened_21 : decode b_Mo_opened 21 = .ok (.bipush (-2), 2) := by decide +kernel
theorem d_Mo_opened_23 : decode b_Mo_opened 23 = .ok (.ireturn, 1) := by decide +kernel
theorem d_Mo_opened_24 : decode b_Mo_opened 24 = .ok (.iload_n 2, 1) := by decide +kernel
theorem d_Mo_opened_25 : decode b_Mo_opened 25 = .ok (.ifCond .gt 12, 3) := by decide +kernel
theorem d_Mo_opened_28 : decode b_Mo_opened 28 = .ok (.aload_n 0, 1) := by decide +kernel
theorem d_Mo_opened_29 : decode b_Mo_opened 29 = .ok (.getfield 35, 3) := by decide +kernel
theorem d_Mo_opened_32 : decode b_Mo_opened 32 = .ok (.iload_n 1, 1) := by decide +kernel
theorem d_Mo_opened_33 : decode b_Mo_opened 33 = .ok (.baload, 1) := by decide +kernel
theorem d_Mo_opened_34 : decode b_Mo_opened 34 = .ok (.ifCond .eq 7, 3) := by decide +kernel
theorem d_Mo_opened_37 : decode b_Mo_opened 37 = .ok (.iconst 1, 1) := by decide +kernel
theorem d_Mo_opened_38 : decode b_Mo_opened 38 = .ok (.goto 4, 3) := by decide +kernel
theorem d_Mo_opened_41 : decode b_Mo_opened 41 = .ok (.iconst 0, 1) := by decide +kernel
theorem d_Mo_opened_42 : decode b_Mo_opened 42 = .ok (.istore_n 3, 1) := by decide +kernel
theorem d_Mo_opened_43 : decode b_Mo_opened 43 = .ok (.iconst (-1), 1) := by decide +kernel
theorem d_Mo_opened_44 : decode b_Mo_opened 44 = .ok (.istore 4, 2) := by decide +kernel
theorem d_Mo_opened_46 : decode b_Mo_opened 46 = .ok (.bipush 7, 2) := by decide +kernel
theorem d_Mo_opened_48 : decode b_Mo_opened 48 = .ok (.istore 5, 2) := by decide +kernel
theorem d_Mo_opened_50 : decode b_Mo_opened 50 = .ok (.iload 5, 2) := by decide +kernel
theorem d_Mo_opened_52 : decode b_Mo_opened 52 = .ok (.iconst 1, 1) := by decide +kernel
theorem d_Mo_opened_53 : decode b_Mo_opened 53 = .ok (.if_icmp .le 73, 3) := by decide +kernel
theorem d_Mo_opened_56 : decode b_Mo_opened 56 = .ok (.aload_n 0, 1) := by decide +kernel
theorem d_Mo_opened_57 : decode b_Mo_opened 57 = .ok (.getfield 48, 3) := by decide +kernel
theorem d_Mo_opened_60 : decode b_Mo_opened 60 = .ok (.iload 5, 2) := by decide +kernel
theorem d_Mo_opened_62 : decode b_Mo_opened 62 = .ok (.baload, 1) := by decide +kernel
theorem d_Mo_opened_63 : decode b_Mo_opened 63 = .ok (.ifCond .eq 8, 3) := by decide +kernel
theorem d_Mo_opened_66 : decode b_Mo_opened 66 = .ok (.iload 4, 2) := by decide +kernel
theorem d_Mo_opened_68 : decode b_Mo_opened 68 = .ok (.goto 5, 3) := by decide +kernel
theorem d_Mo_opened_71 : decode b_Mo_opened 71 = .ok (.iload 5, 2) := by decide +kernel
theorem d_Mo_opened_73 : decode b_Mo_opened 73 = .ok (.istore 4, 2) := by decide +kernel
theorem d_Mo_opened_75 : decode b_Mo_opened 75 = .ok (.iload_n 3, 1) := by decide +kernel
theorem d_Mo_opened_76 : decode b_Mo_opened 76 = .ok (.ifCond .eq 42, 3) := by decide +kernel
theorem d_Mo_opened_79 : decode b_Mo_opened 79 = .ok (.aload_n 0, 1) := by decide +kernel
theorem d_Mo_opened_80 : decode b_Mo_opened 80 = .ok (.getfield 48, 3) := by decide +kernel
theorem d_Mo_opened_83 : decode b_Mo_opened 83 = .ok (.iload 5, 2) := by decide +kernel
theorem d_Mo_opened_85 : decode b_Mo_opened 85 = .ok (.baload, 1) := by decide +kernel
theorem d_Mo_opened_86 : decode b_Mo_opened 86 = .ok (.ifCond .eq 28, 3) := by decide +kernel
theorem d_Mo_opened_89 : decode b_Mo_opened 89 = .ok (.aload_n 0, 1) := by decide +kernel
theorem d_Mo_opened_90 : decode b_Mo_opened 90 = .ok (.getfield 51, 3) := by decide +kernel
theorem d_Mo_opened_93 : decode b_Mo_opened 93 = .ok (.iload 5, 2) := by decide +kernel
theorem d_Mo_opened_95 : decode b_Mo_opened 95 = .ok (.iaload, 1) := by decide +kernel
theorem d_Mo_opened_96 : decode b_Mo_opened 96 = .ok (.iload_n 1, 1) := by decide +kernel
theorem d_Mo_opened_97 : decode b_Mo_opened 97 = .ok (.if_icmp .ne 17, 3) := by decide +kernel
theorem d_Mo_opened_100 : decode b_Mo_opened 100 = .ok (.iload_n 2, 1) := by decide +kernel
theorem d_Mo_opened_101 : decode b_Mo_opened 101 = .ok (.ifCond .gt 17, 3) := by decide +kernel
theorem d_Mo_opened_104 : decode b_Mo_opened 104 = .ok (.aload_n 0, 1) := by decide +kernel
theorem d_Mo_opened_105 : decode b_Mo_opened 105 = .ok (.getfield 54, 3) := by decide +kernel
theorem d_Mo_opened_108 : decode b_Mo_opened 108 = .ok (.iload 5, 2) := by decide +kernel
theorem d_Mo_opened_110 : decode b_Mo_opened 110 = .ok (.iaload, 1) := by decide +kernel
theorem d_Mo_opened_111 : decode b_Mo_opened 111 = .ok (.ifCond .gt 7, 3) := by decide +kernel
theorem d_Mo_opened_114 : decode b_Mo_opened 114 = .ok (.iconst 1, 1) := by decide +kernel
theorem d_Mo_opened_115 : decode b_Mo_opened 115 = .ok (.goto 4, 3) := by decide +kernel
theorem d_Mo_opened_118 : decode b_Mo_opened 118 = .ok (.iconst 0, 1) := by decide +kernel
theorem d_Mo_opened_119 : decode b_Mo_opened 119 = .ok (.istore_n 3, 1) := by decide +kernel
theorem d_Mo_opened_120 : decode b_Mo_opened 120 = .ok (.iinc 5 (-1), 3) := by decide +kernel
theorem d_Mo_opened_123 : decode b_Mo_opened 123 = .ok (.goto (-73), 3) := by decide +kernel
theorem d_Mo_opened_126 : decode b_Mo_opened 126 = .ok (.iload_n 3, 1) := by decide +kernel
theorem d_Mo_opened_127 : decode b_Mo_opened 127 = .ok (.ifCond .ne 6, 3) := by decide +kernel
theorem d_Mo_opened_130 : decode b_Mo_opened 130 = .ok (.bipush (-3), 2) := by decide +kernel
theorem d_Mo_opened_132 : decode b_Mo_opened 132 = .ok (.ireturn, 1) := by decide +kernel
theorem d_Mo_opened_133 : decode b_Mo_opened 133 = .ok (.iload 4, 2) := by decide +kernel
theorem d_Mo_opened_135 : decode b_Mo_opened 135 = .ok (.ifCond .ge 6, 3) := by decide +kernel
theorem d_Mo_opened_138 : decode b_Mo_opened 138 = .ok (.bipush (-4), 2) := by decide +kernel
