theorem d_Mo_output_0 : decode b_Mo_output 0 = .ok (.aload_n 0, 1) := by decide +kernel
theorem d_Mo_output_1 : decode b_Mo_output 1 = .ok (.iconst 0, 1) := by decide +kernel
theorem d_Mo_output_2 : decode b_Mo_output 2 = .ok (.putfield 87, 3) := by decide +kernel
theorem d_Mo_output_5 : decode b_Mo_output 5 = .ok (.iload_n 1, 1) := by decide +kernel
theorem d_Mo_output_6 : decode b_Mo_output 6 = .ok (.ifCond .lt 24, 3) := by decide +kernel
theorem d_Mo_output_9 : decode b_Mo_output 9 = .ok (.iload_n 1, 1) := by decide +kernel
theorem d_Mo_output_10 : decode b_Mo_output 10 = .ok (.aload_n 0, 1) := by decide +kernel
theorem d_Mo_output_11 : decode b_Mo_output 11 = .ok (.getfield 108, 3) := by decide +kernel
theorem d_Mo_output_14 : decode b_Mo_output 14 = .ok (.if_icmp .ge 16, 3) := by decide +kernel
theorem d_Mo_output_17 : decode b_Mo_output 17 = .ok (.aload_n 0, 1) := by decide +kernel
theorem d_Mo_output_18 : decode b_Mo_output 18 = .ok (.getfield 45, 3) := by decide +kernel
theorem d_Mo_output_21 : decode b_Mo_output 21 = .ok (.iload_n 1, 1) := by decide +kernel
theorem d_Mo_output_22 : decode b_Mo_output 22 = .ok (.baload, 1) := by decide +kernel
theorem d_Mo_output_23 : decode b_Mo_output 23 = .ok (.sipush 255, 3) := by decide +kernel
theorem d_Mo_output_26 : decode b_Mo_output 26 = .ok (.iand, 1) := by decide +kernel
theorem d_Mo_output_27 : decode b_Mo_output 27 = .ok (.goto 4, 3) := by decide +kernel
theorem d_Mo_output_30 : decode b_Mo_output 30 = .ok (.iconst (-1), 1) := by decide +kernel
theorem d_Mo_output_31 : decode b_Mo_output 31 = .ok (.ireturn, 1) := by decide +kernel
theorem d_Mo_lies_0 : decode b_Mo_lies 0 = .ok (.aload_n 0, 1) := by decide +kernel
theorem d_Mo_lies_1 : decode b_Mo_lies 1 = .ok (.iconst 0, 1) := by decide +kernel
theorem d_Mo_lies_2 : decode b_Mo_lies 2 = .ok (.putfield 87, 3) := by decide +kernel
theorem d_Mo_lies_5 : decode b_Mo_lies 5 = .ok (.iload_n 1, 1) := by decide +kernel
theorem d_Mo_lies_6 : decode b_Mo_lies 6 = .ok (.iconst 0, 1) := by decide +kernel
theorem d_Mo_lies_7 : decode b_Mo_lies 7 = .ok (.bipush 9, 2) := by decide +kernel
theorem d_Mo_lies_9 : decode b_Mo_lies 9 = .ok (.invokestatic 97, 3) := by decide +kernel
theorem d_Mo_lies_12 : decode b_Mo_lies 12 = .ok (.ifCond .eq 44, 3) := by decide +kernel
theorem d_Mo_lies_15 : decode b_Mo_lies 15 = .ok (.aload_n 0, 1) := by decide +kernel
theorem d_Mo_lies_16 : decode b_Mo_lies 16 = .ok (.getfield 35, 3) := by decide +kernel
theorem d_Mo_lies_19 : decode b_Mo_lies 19 = .ok (.iload_n 1, 1) := by decide +kernel
theorem d_Mo_lies_20 : decode b_Mo_lies 20 = .ok (.baload, 1) := by decide +kernel
theorem d_Mo_lies_21 : decode b_Mo_lies 21 = .ok (.ifCond .eq 35, 3) := by decide +kernel
theorem d_Mo_lies_24 : decode b_Mo_lies 24 = .ok (.iload_n 2, 1) := by decide +kernel
theorem d_Mo_lies_25 : decode b_Mo_lies 25 = .ok (.ifCond .lt 31, 3) := by decide +kernel
theorem d_Mo_lies_28 : decode b_Mo_lies 28 = .ok (.iload_n 2, 1) := by decide +kernel
theorem d_Mo_lies_29 : decode b_Mo_lies 29 = .ok (.aload_n 0, 1) := by decide +kernel
theorem d_Mo_lies_30 : decode b_Mo_lies 30 = .ok (.getfield 39, 3) := by decide +kernel
theorem d_Mo_lies_33 : decode b_Mo_lies 33 = .ok (.iload_n 1, 1) := by decide +kernel
theorem d_Mo_lies_34 : decode b_Mo_lies 34 = .ok (.iaload, 1) := by decide +kernel
theorem d_Mo_lies_35 : decode b_Mo_lies 35 = .ok (.if_icmp .ge 21, 3) := by decide +kernel
theorem d_Mo_lies_38 : decode b_Mo_lies 38 = .ok (.aload_n 0, 1) := by decide +kernel
theorem d_Mo_lies_39 : decode b_Mo_lies 39 = .ok (.getfield 42, 3) := by decide +kernel
theorem d_Mo_lies_42 : decode b_Mo_lies 42 = .ok (.bipush 100, 2) := by decide +kernel
theorem d_Mo_lies_44 : decode b_Mo_lies 44 = .ok (.iload_n 1, 1) := by decide +kernel
theorem d_Mo_lies_45 : decode b_Mo_lies 45 = .ok (.imul, 1) := by decide +kernel
theorem d_Mo_lies_46 : decode b_Mo_lies 46 = .ok (.iload_n 2, 1) := by decide +kernel
theorem d_Mo_lies_47 : decode b_Mo_lies 47 = .ok (.iadd, 1) := by decide +kernel
theorem d_Mo_lies_48 : decode b_Mo_lies 48 = .ok (.baload, 1) := by decide +kernel
theorem d_Mo_lies_49 : decode b_Mo_lies 49 = .ok (.sipush 255, 3) := by decide +kernel
theorem d_Mo_lies_52 : decode b_Mo_lies 52 = .ok (.iand, 1) := by decide +kernel
theorem d_Mo_lies_53 : decode b_Mo_lies 53 = .ok (.goto 4, 3) := by decide +kernel
theorem d_Mo_lies_56 : decode b_Mo_lies 56 = .ok (.iconst (-1), 1) := by decide +kernel
theorem d_Mo_lies_57 : decode b_Mo_lies 57 = .ok (.ireturn, 1) := by decide +kernel
theorem d_Mo_sign_0 : decode b_Mo_sign 0 = .ok (.aload_n 0, 1) := by decide +kernel
theorem d_Mo_sign_1 : decode b_Mo_sign 1 = .ok (.getfield 7, 3) := by decide +kernel
theorem d_Mo_sign_4 : decode b_Mo_sign 4 = .ok (.sipush 200, 3) := by decide +kernel
theorem d_Mo_sign_7 : decode b_Mo_sign 7 = .ok (.aload_n 0, 1) := by decide +kernel
theorem d_Mo_sign_8 : decode b_Mo_sign 8 = .ok (.getfield 132, 3) := by decide +kernel
theorem d_Mo_sign_11 : decode b_Mo_sign 11 = .ok (.imul, 1) := by decide +kernel
theorem d_Mo_sign_12 : decode b_Mo_sign 12 = .ok (.iload_n 1, 1) := by decide +kernel
theorem d_Mo_sign_13 : decode b_Mo_sign 13 = .ok (.iadd, 1) := by decide +kernel
theorem d_Mo_sign_14 : decode b_Mo_sign 14 = .ok (.baload, 1) := by decide +kernel
theorem d_Mo_sign_15 : decode b_Mo_sign 15 = .ok (.ireturn, 1) := by decide +kernel
theorem d_Mo_behindRemark_0 : decode b_Mo_behindRemark 0 = .ok (.iload_n 1, 1) := by decide +kernel
theorem d_Mo_behindRemark_1 : decode b_Mo_behindRemark 1 = .ok (.istore_n 2, 1) := by decide +kernel
theorem d_Mo_behindRemark_2 : decode b_Mo_behindRemark 2 = .ok (.iload_n 2, 1) := by decide +kernel
theorem d_Mo_behindRemark_3 : decode b_Mo_behindRemark 3 = .ok (.aload_n 0, 1) := by decide +kernel
theorem d_Mo_behindRemark_4 : decode b_Mo_behindRemark 4 = .ok (.getfield 13, 3) := by decide +kernel
theorem d_Mo_behindRemark_7 : decode b_Mo_behindRemark 7 = .ok (.aload_n 0, 1) := by decide +kernel
theorem d_Mo_behindRemark_8 : decode b_Mo_behindRemark 8 = .ok (.getfield 132, 3) := by decide +kernel
theorem d_Mo_behindRemark_11 : decode b_Mo_behindRemark 11 = .ok (.iaload, 1) := by decide +kernel
theorem d_Mo_behindRemark_12 : decode b_Mo_behindRemark 12 = .ok (.if_icmp .ge 19, 3) := by decide +kernel
theorem d_Mo_behindRemark_15 : decode b_Mo_behindRemark 15 = .ok (.aload_n 0, 1) := by decide +kernel
theorem d_Mo_behindRemark_16 : decode b_Mo_behindRemark 16 = .ok (.iload_n 2, 1) := by decide +kernel
theorem d_Mo_behindRemark_17 : decode b_Mo_behindRemark 17 = .ok (.invokevirtual 135, 3) := by decide +kernel
theorem d_Mo_behindRemark_20 : decode b_Mo_behindRemark 20 = .ok (.bipush 10, 2) := by decide +kernel
theorem d_Mo_behindRemark_22 : decode b_Mo_behindRemark 22 = .ok (.if_icmp .eq 9, 3) := by decide +kernel
theorem d_Mo_behindRemark_25 : decode b_Mo_behindRemark 25 = .ok (.iinc 2 1, 3) := by decide +kernel
theorem d_Mo_behindRemark_28 : decode b_Mo_behindRemark 28 = .ok (.goto (-26), 3) := by decide +kernel
theorem d_Mo_behindRemark_31 : decode b_Mo_behindRemark 31 = .ok (.iload_n 2, 1) := by decide +kernel
theorem d_Mo_behindRemark_32 : decode b_Mo_behindRemark 32 = .ok (.iconst 1, 1) := by decide +kernel
theorem d_Mo_behindRemark_33 : decode b_Mo_behindRemark 33 = .ok (.iadd, 1) := by decide +kernel
theorem d_Mo_behindRemark_34 : decode b_Mo_behindRemark 34 = .ok (.ireturn, 1) := by decide +kernel
theorem d_Mo_endOf_0 : decode b_Mo_endOf 0 = .ok (.iconst 0, 1) := by decide +kernel
theorem d_Mo_endOf_1 : decode b_Mo_endOf 1 = .ok (.istore_n 2, 1) := by decide +kernel
theorem d_Mo_endOf_2 : decode b_Mo_endOf 2 = .ok (.iload_n 1, 1) := by decide +kernel
theorem d_Mo_endOf_3 : decode b_Mo_endOf 3 = .ok (.istore_n 3, 1) := by decide +kernel
theorem d_Mo_endOf_4 : decode b_Mo_endOf 4 = .ok (.iload_n 3, 1) := by decide +kernel
theorem d_Mo_endOf_5 : decode b_Mo_endOf 5 = .ok (.aload_n 0, 1) := by decide +kernel
theorem d_Mo_endOf_6 : decode b_Mo_endOf 6 = .ok (.getfield 13, 3) := by decide +kernel
theorem d_Mo_endOf_9 : decode b_Mo_endOf 9 = .ok (.aload_n 0, 1) := by decide +kernel
theorem d_Mo_endOf_10 : decode b_Mo_endOf 10 = .ok (.getfield 132, 3) := by decide +kernel
theorem d_Mo_endOf_13 : decode b_Mo_endOf 13 = .ok (.iaload, 1) := by decide +kernel
theorem d_Mo_endOf_14 : decode b_Mo_endOf 14 = .ok (.if_icmp .ge 64, 3) := by decide +kernel
theorem d_Mo_endOf_17 : decode b_Mo_endOf 17 = .ok (.aload_n 0, 1) := by decide +kernel
theorem d_Mo_endOf_18 : decode b_Mo_endOf 18 = .ok (.iload_n 3, 1) := by decide +kernel
theorem d_Mo_endOf_19 : decode b_Mo_endOf 19 = .ok (.invokevirtual 135, 3) := by decide +kernel
theorem d_Mo_endOf_22 : decode b_Mo_endOf 22 = .ok (.istore 4, 2) := by decide +kernel
theorem d_Mo_endOf_24 : decode b_Mo_endOf 24 = .ok (.iload_n 2, 1) := by decide +kernel
theorem d_Mo_endOf_25 : decode b_Mo_endOf 25 = .ok (.iload 4, 2) := by decide +kernel
theorem d_Mo_endOf_27 : decode b_Mo_endOf 27 = .ok (.bipush 123, 2) := by decide +kernel
theorem d_Mo_endOf_29 : decode b_Mo_endOf 29 = .ok (.if_icmp .ne 7, 3) := by decide +kernel
theorem d_Mo_endOf_32 : decode b_Mo_endOf 32 = .ok (.iconst 1, 1) := by decide +kernel
theorem d_Mo_endOf_33 : decode b_Mo_endOf 33 = .ok (.goto 15, 3) := by decide +kernel
theorem d_Mo_endOf_36 : decode b_Mo_endOf 36 = .ok (.iload 4, 2) := by decide +kernel
theorem d_Mo_endOf_38 : decode b_Mo_endOf 38 = .ok (.bipush 125, 2) := by decide +kernel
theorem d_Mo_endOf_40 : decode b_Mo_endOf 40 = .ok (.if_icmp .ne 7, 3) := by decide +kernel
theorem d_Mo_endOf_43 : decode b_Mo_endOf 43 = .ok (.iconst (-1), 1) := by decide +kernel
theorem d_Mo_endOf_44 : decode b_Mo_endOf 44 = .ok (.goto 4, 3) := by decide +kernel
theorem d_Mo_endOf_47 : decode b_Mo_endOf 47 = .ok (.iconst 0, 1) := by decide +kernel
theorem d_Mo_endOf_48 : decode b_Mo_endOf 48 = .ok (.iadd, 1) := by decide +kernel
theorem d_Mo_endOf_49 : decode b_Mo_endOf 49 = .ok (.istore_n 2, 1) := by decide +kernel
theorem d_Mo_endOf_50 : decode b_Mo_endOf 50 = .ok (.iload_n 2, 1) := by decide +kernel
theorem d_Mo_endOf_51 : decode b_Mo_endOf 51 = .ok (.ifCond .ne 5, 3) := by decide +kernel
theorem d_Mo_endOf_54 : decode b_Mo_endOf 54 = .ok (.iload_n 3, 1) := by decide +kernel
theorem d_Mo_endOf_55 : decode b_Mo_endOf 55 = .ok (.ireturn, 1) := by decide +kernel
theorem d_Mo_endOf_56 : decode b_Mo_endOf 56 = .ok (.iload 4, 2) := by decide +kernel
theorem d_Mo_endOf_58 : decode b_Mo_endOf 58 = .ok (.bipush 37, 2) := by decide +kernel
theorem d_Mo_endOf_60 : decode b_Mo_endOf 60 = .ok (.if_icmp .ne 11, 3) := by decide +kernel
theorem d_Mo_endOf_63 : decode b_Mo_endOf 63 = .ok (.aload_n 0, 1) := by decide +kernel
theorem d_Mo_endOf_64 : decode b_Mo_endOf 64 = .ok (.iload_n 3, 1) := by decide +kernel
theorem d_Mo_endOf_65 : decode b_Mo_endOf 65 = .ok (.invokevirtual 138, 3) := by decide +kernel
theorem d_Mo_endOf_68 : decode b_Mo_endOf 68 = .ok (.goto 6, 3) := by decide +kernel
theorem d_Mo_endOf_71 : decode b_Mo_endOf 71 = .ok (.iload_n 3, 1) := by decide +kernel
theorem d_Mo_endOf_72 : decode b_Mo_endOf 72 = .ok (.iconst 1, 1) := by decide +kernel
theorem d_Mo_endOf_73 : decode b_Mo_endOf 73 = .ok (.iadd, 1) := by decide +kernel
theorem d_Mo_endOf_74 : decode b_Mo_endOf 74 = .ok (.istore_n 3, 1) := by decide +kernel
theorem d_Mo_endOf_75 : decode b_Mo_endOf 75 = .ok (.goto (-71), 3) := by decide +kernel
theorem d_Mo_endOf_78 : decode b_Mo_endOf 78 = .ok (.iconst (-1), 1) := by decide +kernel
theorem d_Mo_endOf_79 : decode b_Mo_endOf 79 = .ok (.ireturn, 1) := by decide +kernel
theorem d_Mo_lay_0 : decode b_Mo_lay 0 = .ok (.aload_n 0, 1) := by decide +kernel
theorem d_Mo_lay_1 : decode b_Mo_lay 1 = .ok (.getfield 141, 3) := by decide +kernel
theorem d_Mo_lay_4 : decode b_Mo_lay 4 = .ok (.bipush 20, 2) := by decide +kernel
theorem d_Mo_lay_6 : decode b_Mo_lay 6 = .ok (.if_icmp .ne 10, 3) := by decide +kernel
theorem d_Mo_lay_9 : decode b_Mo_lay 9 = .ok (.aload_n 0, 1) := by decide +kernel
theorem d_Mo_lay_10 : decode b_Mo_lay 10 = .ok (.bipush 6, 2) := by decide +kernel
theorem d_Mo_lay_12 : decode b_Mo_lay 12 = .ok (.putfield 144, 3) := by decide +kernel
theorem d_Mo_lay_15 : decode b_Mo_lay 15 = .ok (.return_, 1) := by decide +kernel
theorem d_Mo_lay_16 : decode b_Mo_lay 16 = .ok (.aload_n 0, 1) := by decide +kernel
theorem d_Mo_lay_17 : decode b_Mo_lay 17 = .ok (.getfield 72, 3) := by decide +kernel
theorem d_Mo_lay_20 : decode b_Mo_lay 20 = .ok (.aload_n 0, 1) := by decide +kernel
theorem d_Mo_lay_21 : decode b_Mo_lay 21 = .ok (.getfield 141, 3) := by decide +kernel
theorem d_Mo_lay_24 : decode b_Mo_lay 24 = .ok (.iload_n 1, 1) := by decide +kernel
theorem d_Mo_lay_25 : decode b_Mo_lay 25 = .ok (.iastore, 1) := by decide +kernel
theorem d_Mo_lay_26 : decode b_Mo_lay 26 = .ok (.aload_n 0, 1) := by decide +kernel
theorem d_Mo_lay_27 : decode b_Mo_lay 27 = .ok (.dup, 1) := by decide +kernel
theorem d_Mo_lay_28 : decode b_Mo_lay 28 = .ok (.getfield 141, 3) := by decide +kernel
theorem d_Mo_lay_31 : decode b_Mo_lay 31 = .ok (.iconst 1, 1) := by decide +kernel
theorem d_Mo_lay_32 : decode b_Mo_lay 32 = .ok (.iadd, 1) := by decide +kernel
theorem d_Mo_lay_33 : decode b_Mo_lay 33 = .ok (.putfield 141, 3) := by decide +kernel
theorem d_Mo_lay_36 : decode b_Mo_lay 36 = .ok (.return_, 1) := by decide +kernel
theorem d_Mo_wants_0 : decode b_Mo_wants 0 = .ok (.iload_n 0, 1) := by decide +kernel
theorem d_Mo_wants_1 : decode b_Mo_wants 1 = .ok (.lookupswitch 153 #[(42, 149), (43, 149), (45, 149), (68, 151), (82, 149), (99, 147), (100, 147), (102, 149), (103, 149), (109, 147), (111, 149), (112, 147), (114, 147), (116, 147), (119, 149), (120, 149), (123, 147)], 147) := by decide +kernel
theorem d_Mo_wants_148 : decode b_Mo_wants 148 = .ok (.iconst 1, 1) := by decide +kernel
theorem d_Mo_wants_149 : decode b_Mo_wants 149 = .ok (.ireturn, 1) := by decide +kernel
theorem d_Mo_wants_150 : decode b_Mo_wants 150 = .ok (.iconst 2, 1) := by decide +kernel
theorem d_Mo_wants_151 : decode b_Mo_wants 151 = .ok (.ireturn, 1) := by decide +kernel
theorem d_Mo_wants_152 : decode b_Mo_wants 152 = .ok (.iconst 3, 1) := by decide +kernel
theorem d_Mo_wants_153 : decode b_Mo_wants 153 = .ok (.ireturn, 1) := by decide +kernel
theorem d_Mo_wants_154 : decode b_Mo_wants 154 = .ok (.iconst 0, 1) := by decide +kernel
theorem d_Mo_wants_155 : decode b_Mo_wants 155 = .ok (.ireturn, 1) := by decide +kernel
theorem d_Mo_show_0 : decode b_Mo_show 0 = .ok (.aload_n 0, 1) := by decide +kernel
theorem d_Mo_show_1 : decode b_Mo_show 1 = .ok (.getfield 147, 3) := by decide +kernel
theorem d_Mo_show_4 : decode b_Mo_show 4 = .ok (.aload_n 0, 1) := by decide +kernel
theorem d_Mo_show_5 : decode b_Mo_show 5 = .ok (.getfield 23, 3) := by decide +kernel
theorem d_Mo_show_8 : decode b_Mo_show 8 = .ok (.iconst 1, 1) := by decide +kernel
theorem d_Mo_show_9 : decode b_Mo_show 9 = .ok (.iaload, 1) := by decide +kernel
theorem d_Mo_show_10 : decode b_Mo_show 10 = .ok (.iadd, 1) := by decide +kernel
theorem d_Mo_show_11 : decode b_Mo_show 11 = .ok (.bipush 40, 2) := by decide +kernel
theorem d_Mo_show_13 : decode b_Mo_show 13 = .ok (.if_icmp .le 10, 3) := by decide +kernel
theorem d_Mo_show_16 : decode b_Mo_show 16 = .ok (.aload_n 0, 1) := by decide +kernel
theorem d_Mo_show_17 : decode b_Mo_show 17 = .ok (.bipush 6, 2) := by decide +kernel
theorem d_Mo_show_19 : decode b_Mo_show 19 = .ok (.putfield 144, 3) := by decide +kernel
theorem d_Mo_show_22 : decode b_Mo_show 22 = .ok (.return_, 1) := by decide +kernel
theorem d_Mo_show_23 : decode b_Mo_show 23 = .ok (.iconst 0, 1) := by decide +kernel
theorem d_Mo_show_24 : decode b_Mo_show 24 = .ok (.istore_n 1, 1) := by decide +kernel
theorem d_Mo_show_25 : decode b_Mo_show 25 = .ok (.iload_n 1, 1) := by decide +kernel
theorem d_Mo_show_26 : decode b_Mo_show 26 = .ok (.aload_n 0, 1) := by decide +kernel
theorem d_Mo_show_27 : decode b_Mo_show 27 = .ok (.getfield 23, 3) := by decide +kernel
theorem d_Mo_show_30 : decode b_Mo_show 30 = .ok (.iconst 1, 1) := by decide +kernel
theorem d_Mo_show_31 : decode b_Mo_show 31 = .ok (.iaload, 1) := by decide +kernel
theorem d_Mo_show_32 : decode b_Mo_show 32 = .ok (.if_icmp .ge 40, 3) := by decide +kernel
theorem d_Mo_show_35 : decode b_Mo_show 35 = .ok (.aload_n 0, 1) := by decide +kernel
theorem d_Mo_show_36 : decode b_Mo_show 36 = .ok (.getfield 20, 3) := by decide +kernel
theorem d_Mo_show_39 : decode b_Mo_show 39 = .ok (.bipush 40, 2) := by decide +kernel
theorem d_Mo_show_41 : decode b_Mo_show 41 = .ok (.aload_n 0, 1) := by decide +kernel
theorem d_Mo_show_42 : decode b_Mo_show 42 = .ok (.getfield 132, 3) := by decide +kernel
theorem d_Mo_show_45 : decode b_Mo_show 45 = .ok (.imul, 1) := by decide +kernel
theorem d_Mo_show_46 : decode b_Mo_show 46 = .ok (.aload_n 0, 1) := by decide +kernel
theorem d_Mo_show_47 : decode b_Mo_show 47 = .ok (.getfield 147, 3) := by decide +kernel
theorem d_Mo_show_50 : decode b_Mo_show 50 = .ok (.iadd, 1) := by decide +kernel
theorem d_Mo_show_51 : decode b_Mo_show 51 = .ok (.aload_n 0, 1) := by decide +kernel
theorem d_Mo_show_52 : decode b_Mo_show 52 = .ok (.getfield 150, 3) := by decide +kernel
theorem d_Mo_show_55 : decode b_Mo_show 55 = .ok (.iastore, 1) := by decide +kernel
theorem d_Mo_show_56 : decode b_Mo_show 56 = .ok (.aload_n 0, 1) := by decide +kernel
theorem d_Mo_show_57 : decode b_Mo_show 57 = .ok (.dup, 1) := by decide +kernel
theorem d_Mo_show_58 : decode b_Mo_show 58 = .ok (.getfield 147, 3) := by decide +kernel
theorem d_Mo_show_61 : decode b_Mo_show 61 = .ok (.iconst 1, 1) := by decide +kernel
theorem d_Mo_show_62 : decode b_Mo_show 62 = .ok (.iadd, 1) := by decide +kernel
theorem d_Mo_show_63 : decode b_Mo_show 63 = .ok (.putfield 147, 3) := by decide +kernel
theorem d_Mo_show_66 : decode b_Mo_show 66 = .ok (.iinc 1 1, 3) := by decide +kernel
theorem d_Mo_show_69 : decode b_Mo_show 69 = .ok (.goto (-44), 3) := by decide +kernel
theorem d_Mo_show_72 : decode b_Mo_show 72 = .ok (.aload_n 0, 1) := by decide +kernel
theorem d_Mo_show_73 : decode b_Mo_show 73 = .ok (.iconst 0, 1) := by decide +kernel
theorem d_Mo_show_74 : decode b_Mo_show 74 = .ok (.putfield 150, 3) := by decide +kernel
theorem d_Mo_show_77 : decode b_Mo_show 77 = .ok (.return_, 1) := by decide +kernel
theorem d_Mo_beginLoop_0 : decode b_Mo_beginLoop 0 = .ok (.aload_n 0, 1) := by decide +kernel
theorem d_Mo_beginLoop_1 : decode b_Mo_beginLoop 1 = .ok (.aload_n 0, 1) := by decide +kernel
theorem d_Mo_beginLoop_2 : decode b_Mo_beginLoop 2 = .ok (.getfield 153, 3) := by decide +kernel
theorem d_Mo_beginLoop_5 : decode b_Mo_beginLoop 5 = .ok (.invokevirtual 156, 3) := by decide +kernel
theorem d_Mo_beginLoop_8 : decode b_Mo_beginLoop 8 = .ok (.istore_n 2, 1) := by decide +kernel
theorem d_Mo_beginLoop_9 : decode b_Mo_beginLoop 9 = .ok (.aload_n 0, 1) := by decide +kernel
theorem d_Mo_beginLoop_10 : decode b_Mo_beginLoop 10 = .ok (.getfield 159, 3) := by decide +kernel
theorem d_Mo_beginLoop_13 : decode b_Mo_beginLoop 13 = .ok (.iconst 4, 1) := by decide +kernel
theorem d_Mo_beginLoop_14 : decode b_Mo_beginLoop 14 = .ok (.if_icmp .ne 12, 3) := by decide +kernel
theorem d_Mo_beginLoop_17 : decode b_Mo_beginLoop 17 = .ok (.aload_n 0, 1) := by decide +kernel
theorem d_Mo_beginLoop_18 : decode b_Mo_beginLoop 18 = .ok (.bipush 6, 2) := by decide +kernel
theorem d_Mo_beginLoop_20 : decode b_Mo_beginLoop 20 = .ok (.putfield 144, 3) := by decide +kernel
theorem d_Mo_beginLoop_23 : decode b_Mo_beginLoop 23 = .ok (.goto 62, 3) := by decide +kernel
theorem d_Mo_beginLoop_26 : decode b_Mo_beginLoop 26 = .ok (.iload_n 2, 1) := by decide +kernel
theorem d_Mo_beginLoop_27 : decode b_Mo_beginLoop 27 = .ok (.ifCond .ge 12, 3) := by decide +kernel
theorem d_Mo_beginLoop_30 : decode b_Mo_beginLoop 30 = .ok (.aload_n 0, 1) := by decide +kernel
theorem d_Mo_beginLoop_31 : decode b_Mo_beginLoop 31 = .ok (.bipush 7, 2) := by decide +kernel
theorem d_Mo_beginLoop_33 : decode b_Mo_beginLoop 33 = .ok (.putfield 144, 3) := by decide +kernel
theorem d_Mo_beginLoop_36 : decode b_Mo_beginLoop 36 = .ok (.goto 49, 3) := by decide +kernel
theorem d_Mo_beginLoop_39 : decode b_Mo_beginLoop 39 = .ok (.iload_n 1, 1) := by decide +kernel
theorem d_Mo_beginLoop_40 : decode b_Mo_beginLoop 40 = .ok (.iconst 1, 1) := by decide +kernel
theorem d_Mo_beginLoop_41 : decode b_Mo_beginLoop 41 = .ok (.if_icmp .ge 11, 3) := by decide +kernel
theorem d_Mo_beginLoop_44 : decode b_Mo_beginLoop 44 = .ok (.aload_n 0, 1) := by decide +kernel
theorem d_Mo_beginLoop_45 : decode b_Mo_beginLoop 45 = .ok (.iload_n 2, 1) := by decide +kernel
theorem d_Mo_beginLoop_46 : decode b_Mo_beginLoop 46 = .ok (.putfield 153, 3) := by decide +kernel
theorem d_Mo_beginLoop_49 : decode b_Mo_beginLoop 49 = .ok (.goto 36, 3) := by decide +kernel
theorem d_Mo_beginLoop_52 : decode b_Mo_beginLoop 52 = .ok (.aload_n 0, 1) := by decide +kernel
theorem d_Mo_beginLoop_53 : decode b_Mo_beginLoop 53 = .ok (.getfield 75, 3) := by decide +kernel
theorem d_Mo_beginLoop_56 : decode b_Mo_beginLoop 56 = .ok (.aload_n 0, 1) := by decide +kernel
theorem d_Mo_beginLoop_57 : decode b_Mo_beginLoop 57 = .ok (.getfield 159, 3) := by decide +kernel
theorem d_Mo_beginLoop_60 : decode b_Mo_beginLoop 60 = .ok (.aload_n 0, 1) := by decide +kernel
theorem d_Mo_beginLoop_61 : decode b_Mo_beginLoop 61 = .ok (.getfield 153, 3) := by decide +kernel
theorem d_Mo_beginLoop_64 : decode b_Mo_beginLoop 64 = .ok (.iastore, 1) := by decide +kernel
theorem d_Mo_beginLoop_65 : decode b_Mo_beginLoop 65 = .ok (.aload_n 0, 1) := by decide +kernel
theorem d_Mo_beginLoop_66 : decode b_Mo_beginLoop 66 = .ok (.getfield 78, 3) := by decide +kernel
theorem d_Mo_beginLoop_69 : decode b_Mo_beginLoop 69 = .ok (.aload_n 0, 1) := by decide +kernel
theorem d_Mo_beginLoop_70 : decode b_Mo_beginLoop 70 = .ok (.getfield 159, 3) := by decide +kernel
theorem d_Mo_beginLoop_73 : decode b_Mo_beginLoop 73 = .ok (.iload_n 1, 1) := by decide +kernel
theorem d_Mo_beginLoop_74 : decode b_Mo_beginLoop 74 = .ok (.iastore, 1) := by decide +kernel
theorem d_Mo_beginLoop_75 : decode b_Mo_beginLoop 75 = .ok (.aload_n 0, 1) := by decide +kernel
theorem d_Mo_beginLoop_76 : decode b_Mo_beginLoop 76 = .ok (.dup, 1) := by decide +kernel
theorem d_Mo_beginLoop_77 : decode b_Mo_beginLoop 77 = .ok (.getfield 159, 3) := by decide +kernel
theorem d_Mo_beginLoop_80 : decode b_Mo_beginLoop 80 = .ok (.iconst 1, 1) := by decide +kernel
theorem d_Mo_beginLoop_81 : decode b_Mo_beginLoop 81 = .ok (.iadd, 1) := by decide +kernel
theorem d_Mo_beginLoop_82 : decode b_Mo_beginLoop 82 = .ok (.putfield 159, 3) := by decide +kernel
theorem d_Mo_beginLoop_85 : decode b_Mo_beginLoop 85 = .ok (.return_, 1) := by decide +kernel
theorem d_Mo_endLoop_0 : decode b_Mo_endLoop 0 = .ok (.aload_n 0, 1) := by decide +kernel
theorem d_Mo_endLoop_1 : decode b_Mo_endLoop 1 = .ok (.getfield 159, 3) := by decide +kernel
theorem d_Mo_endLoop_4 : decode b_Mo_endLoop 4 = .ok (.ifCond .ne 9, 3) := by decide +kernel
theorem d_Mo_endLoop_7 : decode b_Mo_endLoop 7 = .ok (.aload_n 0, 1) := by decide +kernel
theorem d_Mo_endLoop_8 : decode b_Mo_endLoop 8 = .ok (.iconst 1, 1) := by decide +kernel
theorem d_Mo_endLoop_9 : decode b_Mo_endLoop 9 = .ok (.putfield 144, 3) := by decide +kernel
theorem d_Mo_endLoop_12 : decode b_Mo_endLoop 12 = .ok (.return_, 1) := by decide +kernel
theorem d_Mo_endLoop_13 : decode b_Mo_endLoop 13 = .ok (.aload_n 0, 1) := by decide +kernel
theorem d_Mo_endLoop_14 : decode b_Mo_endLoop 14 = .ok (.getfield 78, 3) := by decide +kernel
theorem d_Mo_endLoop_17 : decode b_Mo_endLoop 17 = .ok (.aload_n 0, 1) := by decide +kernel
theorem d_Mo_endLoop_18 : decode b_Mo_endLoop 18 = .ok (.getfield 159, 3) := by decide +kernel
theorem d_Mo_endLoop_21 : decode b_Mo_endLoop 21 = .ok (.iconst 1, 1) := by decide +kernel
theorem d_Mo_endLoop_22 : decode b_Mo_endLoop 22 = .ok (.isub, 1) := by decide +kernel
theorem d_Mo_endLoop_23 : decode b_Mo_endLoop 23 = .ok (.dup2, 1) := by decide +kernel
theorem d_Mo_endLoop_24 : decode b_Mo_endLoop 24 = .ok (.iaload, 1) := by decide +kernel
theorem d_Mo_endLoop_25 : decode b_Mo_endLoop 25 = .ok (.iconst 1, 1) := by decide +kernel
theorem d_Mo_endLoop_26 : decode b_Mo_endLoop 26 = .ok (.isub, 1) := by decide +kernel
theorem d_Mo_endLoop_27 : decode b_Mo_endLoop 27 = .ok (.iastore, 1) := by decide +kernel
theorem d_Mo_endLoop_28 : decode b_Mo_endLoop 28 = .ok (.aload_n 0, 1) := by decide +kernel
theorem d_Mo_endLoop_29 : decode b_Mo_endLoop 29 = .ok (.getfield 78, 3) := by decide +kernel
theorem d_Mo_endLoop_32 : decode b_Mo_endLoop 32 = .ok (.aload_n 0, 1) := by decide +kernel
theorem d_Mo_endLoop_33 : decode b_Mo_endLoop 33 = .ok (.getfield 159, 3) := by decide +kernel
theorem d_Mo_endLoop_36 : decode b_Mo_endLoop 36 = .ok (.iconst 1, 1) := by decide +kernel
theorem d_Mo_endLoop_37 : decode b_Mo_endLoop 37 = .ok (.isub, 1) := by decide +kernel
theorem d_Mo_endLoop_38 : decode b_Mo_endLoop 38 = .ok (.iaload, 1) := by decide +kernel
theorem d_Mo_endLoop_39 : decode b_Mo_endLoop 39 = .ok (.ifCond .le 21, 3) := by decide +kernel
theorem d_Mo_endLoop_42 : decode b_Mo_endLoop 42 = .ok (.aload_n 0, 1) := by decide +kernel
theorem d_Mo_endLoop_43 : decode b_Mo_endLoop 43 = .ok (.aload_n 0, 1) := by decide +kernel
theorem d_Mo_endLoop_44 : decode b_Mo_endLoop 44 = .ok (.getfield 75, 3) := by decide +kernel
theorem d_Mo_endLoop_47 : decode b_Mo_endLoop 47 = .ok (.aload_n 0, 1) := by decide +kernel
theorem d_Mo_endLoop_48 : decode b_Mo_endLoop 48 = .ok (.getfield 159, 3) := by decide +kernel
theorem d_Mo_endLoop_51 : decode b_Mo_endLoop 51 = .ok (.iconst 1, 1) := by decide +kernel
theorem d_Mo_endLoop_52 : decode b_Mo_endLoop 52 = .ok (.isub, 1) := by decide +kernel
theorem d_Mo_endLoop_53 : decode b_Mo_endLoop 53 = .ok (.iaload, 1) := by decide +kernel
theorem d_Mo_endLoop_54 : decode b_Mo_endLoop 54 = .ok (.putfield 153, 3) := by decide +kernel
theorem d_Mo_endLoop_57 : decode b_Mo_endLoop 57 = .ok (.goto 13, 3) := by decide +kernel
theorem d_Mo_endLoop_60 : decode b_Mo_endLoop 60 = .ok (.aload_n 0, 1) := by decide +kernel
theorem d_Mo_endLoop_61 : decode b_Mo_endLoop 61 = .ok (.dup, 1) := by decide +kernel
theorem d_Mo_endLoop_62 : decode b_Mo_endLoop 62 = .ok (.getfield 159, 3) := by decide +kernel
theorem d_Mo_endLoop_65 : decode b_Mo_endLoop 65 = .ok (.iconst 1, 1) := by decide +kernel
theorem d_Mo_endLoop_66 : decode b_Mo_endLoop 66 = .ok (.isub, 1) := by decide +kernel
theorem d_Mo_endLoop_67 : decode b_Mo_endLoop 67 = .ok (.putfield 159, 3) := by decide +kernel
theorem d_Mo_endLoop_70 : decode b_Mo_endLoop 70 = .ok (.return_, 1) := by decide +kernel
theorem d_Mo_readResource_0 : decode b_Mo_readResource 0 = .ok (.aload_n 0, 1) := by decide +kernel
theorem d_Mo_readResource_1 : decode b_Mo_readResource 1 = .ok (.iload_n 1, 1) := by decide +kernel
theorem d_Mo_readResource_2 : decode b_Mo_readResource 2 = .ok (.iload_n 2, 1) := by decide +kernel
theorem d_Mo_readResource_3 : decode b_Mo_readResource 3 = .ok (.invokevirtual 162, 3) := by decide +kernel
theorem d_Mo_readResource_6 : decode b_Mo_readResource 6 = .ok (.istore_n 3, 1) := by decide +kernel
theorem d_Mo_readResource_7 : decode b_Mo_readResource 7 = .ok (.iload_n 3, 1) := by decide +kernel
theorem d_Mo_readResource_8 : decode b_Mo_readResource 8 = .ok (.ifCond .ge 11, 3) := by decide +kernel
theorem d_Mo_readResource_11 : decode b_Mo_readResource 11 = .ok (.aload_n 0, 1) := by decide +kernel
theorem d_Mo_readResource_12 : decode b_Mo_readResource 12 = .ok (.iconst 2, 1) := by decide +kernel
theorem d_Mo_readResource_13 : decode b_Mo_readResource 13 = .ok (.putfield 144, 3) := by decide +kernel
theorem d_Mo_readResource_16 : decode b_Mo_readResource 16 = .ok (.goto 8, 3) := by decide +kernel
theorem d_Mo_readResource_19 : decode b_Mo_readResource 19 = .ok (.aload_n 0, 1) := by decide +kernel
theorem d_Mo_readResource_20 : decode b_Mo_readResource 20 = .ok (.iload_n 3, 1) := by decide +kernel
theorem d_Mo_readResource_21 : decode b_Mo_readResource 21 = .ok (.invokevirtual 164, 3) := by decide +kernel
theorem d_Mo_readResource_24 : decode b_Mo_readResource 24 = .ok (.return_, 1) := by decide +kernel
theorem d_Mo_set_0 : decode b_Mo_set 0 = .ok (.aload_n 0, 1) := by decide +kernel
theorem d_Mo_set_1 : decode b_Mo_set 1 = .ok (.iload_n 1, 1) := by decide +kernel
theorem d_Mo_set_2 : decode b_Mo_set 2 = .ok (.iload_n 2, 1) := by decide +kernel
theorem d_Mo_set_3 : decode b_Mo_set 3 = .ok (.invokevirtual 168, 3) := by decide +kernel
theorem d_Mo_set_6 : decode b_Mo_set 6 = .ok (.istore_n 3, 1) := by decide +kernel
theorem d_Mo_set_7 : decode b_Mo_set 7 = .ok (.aload_n 0, 1) := by decide +kernel
theorem d_Mo_set_8 : decode b_Mo_set 8 = .ok (.iload_n 3, 1) := by decide +kernel
theorem d_Mo_set_9 : decode b_Mo_set 9 = .ok (.ifCond .ne 16, 3) := by decide +kernel
theorem d_Mo_set_12 : decode b_Mo_set 12 = .ok (.aload_n 0, 1) := by decide +kernel
theorem d_Mo_set_13 : decode b_Mo_set 13 = .ok (.getfield 23, 3) := by decide +kernel
theorem d_Mo_set_16 : decode b_Mo_set 16 = .ok (.iconst 3, 1) := by decide +kernel
theorem d_Mo_set_17 : decode b_Mo_set 17 = .ok (.iaload, 1) := by decide +kernel
theorem d_Mo_set_18 : decode b_Mo_set 18 = .ok (.ifCond .ne 7, 3) := by decide +kernel
theorem d_Mo_set_21 : decode b_Mo_set 21 = .ok (.iconst 3, 1) := by decide +kernel
theorem d_Mo_set_22 : decode b_Mo_set 22 = .ok (.goto 7, 3) := by decide +kernel
theorem d_Mo_set_25 : decode b_Mo_set 25 = .ok (.aload_n 0, 1) := by decide +kernel
theorem d_Mo_set_26 : decode b_Mo_set 26 = .ok (.getfield 144, 3) := by decide +kernel
theorem d_Mo_set_29 : decode b_Mo_set 29 = .ok (.putfield 144, 3) := by decide +kernel
theorem d_Mo_set_32 : decode b_Mo_set 32 = .ok (.return_, 1) := by decide +kernel
theorem d_Mo_openFile_0 : decode b_Mo_openFile 0 = .ok (.aload_n 0, 1) := by decide +kernel
theorem d_Mo_openFile_1 : decode b_Mo_openFile 1 = .ok (.iload_n 1, 1) := by decide +kernel
theorem d_Mo_openFile_2 : decode b_Mo_openFile 2 = .ok (.iload_n 2, 1) := by decide +kernel
theorem d_Mo_openFile_3 : decode b_Mo_openFile 3 = .ok (.invokevirtual 115, 3) := by decide +kernel
theorem d_Mo_openFile_6 : decode b_Mo_openFile 6 = .ok (.istore_n 3, 1) := by decide +kernel
theorem d_Mo_openFile_7 : decode b_Mo_openFile 7 = .ok (.iload_n 3, 1) := by decide +kernel
theorem d_Mo_openFile_8 : decode b_Mo_openFile 8 = .ok (.ifCond .ge 11, 3) := by decide +kernel
theorem d_Mo_openFile_11 : decode b_Mo_openFile 11 = .ok (.aload_n 0, 1) := by decide +kernel
theorem d_Mo_openFile_12 : decode b_Mo_openFile 12 = .ok (.iconst 4, 1) := by decide +kernel
theorem d_Mo_openFile_13 : decode b_Mo_openFile 13 = .ok (.putfield 144, 3) := by decide +kernel
theorem d_Mo_openFile_16 : decode b_Mo_openFile 16 = .ok (.goto 15, 3) := by decide +kernel
theorem d_Mo_openFile_19 : decode b_Mo_openFile 19 = .ok (.aload_n 0, 1) := by decide +kernel
theorem d_Mo_openFile_20 : decode b_Mo_openFile 20 = .ok (.getfield 69, 3) := by decide +kernel
theorem d_Mo_openFile_23 : decode b_Mo_openFile 23 = .ok (.iload_n 3, 1) := by decide +kernel
theorem d_Mo_openFile_24 : decode b_Mo_openFile 24 = .ok (.iconst 1, 1) := by decide +kernel
theorem d_Mo_openFile_25 : decode b_Mo_openFile 25 = .ok (.bastore, 1) := by decide +kernel
theorem d_Mo_openFile_26 : decode b_Mo_openFile 26 = .ok (.aload_n 0, 1) := by decide +kernel
theorem d_Mo_openFile_27 : decode b_Mo_openFile 27 = .ok (.iload_n 3, 1) := by decide +kernel
theorem d_Mo_openFile_28 : decode b_Mo_openFile 28 = .ok (.invokevirtual 164, 3) := by decide +kernel
theorem d_Mo_openFile_31 : decode b_Mo_openFile 31 = .ok (.return_, 1) := by decide +kernel
theorem d_Mo_closeFile_0 : decode b_Mo_closeFile 0 = .ok (.aload_n 0, 1) := by decide +kernel
theorem d_Mo_closeFile_1 : decode b_Mo_closeFile 1 = .ok (.iload_n 1, 1) := by decide +kernel
theorem d_Mo_closeFile_2 : decode b_Mo_closeFile 2 = .ok (.invokevirtual 105, 3) := by decide +kernel
theorem d_Mo_closeFile_5 : decode b_Mo_closeFile 5 = .ok (.ifCond .eq 12, 3) := by decide +kernel
theorem d_Mo_closeFile_8 : decode b_Mo_closeFile 8 = .ok (.aload_n 0, 1) := by decide +kernel
theorem d_Mo_closeFile_9 : decode b_Mo_closeFile 9 = .ok (.getfield 69, 3) := by decide +kernel
theorem d_Mo_closeFile_12 : decode b_Mo_closeFile 12 = .ok (.iload_n 1, 1) := by decide +kernel
theorem d_Mo_closeFile_13 : decode b_Mo_closeFile 13 = .ok (.baload, 1) := by decide +kernel
theorem d_Mo_closeFile_14 : decode b_Mo_closeFile 14 = .ok (.ifCond .ne 9, 3) := by decide +kernel
theorem d_Mo_closeFile_17 : decode b_Mo_closeFile 17 = .ok (.aload_n 0, 1) := by decide +kernel
theorem d_Mo_closeFile_18 : decode b_Mo_closeFile 18 = .ok (.iconst 4, 1) := by decide +kernel
theorem d_Mo_closeFile_19 : decode b_Mo_closeFile 19 = .ok (.putfield 144, 3) := by decide +kernel
theorem d_Mo_closeFile_22 : decode b_Mo_closeFile 22 = .ok (.return_, 1) := by decide +kernel
theorem d_Mo_closeFile_23 : decode b_Mo_closeFile 23 = .ok (.aload_n 0, 1) := by decide +kernel
theorem d_Mo_closeFile_24 : decode b_Mo_closeFile 24 = .ok (.getfield 48, 3) := by decide +kernel
theorem d_Mo_closeFile_27 : decode b_Mo_closeFile 27 = .ok (.iload_n 1, 1) := by decide +kernel
theorem d_Mo_closeFile_28 : decode b_Mo_closeFile 28 = .ok (.iconst 0, 1) := by decide +kernel
theorem d_Mo_closeFile_29 : decode b_Mo_closeFile 29 = .ok (.bastore, 1) := by decide +kernel
theorem d_Mo_closeFile_30 : decode b_Mo_closeFile 30 = .ok (.aload_n 0, 1) := by decide +kernel
theorem d_Mo_closeFile_31 : decode b_Mo_closeFile 31 = .ok (.getfield 69, 3) := by decide +kernel
theorem d_Mo_closeFile_34 : decode b_Mo_closeFile 34 = .ok (.iload_n 1, 1) := by decide +kernel
theorem d_Mo_closeFile_35 : decode b_Mo_closeFile 35 = .ok (.iconst 0, 1) := by decide +kernel
theorem d_Mo_closeFile_36 : decode b_Mo_closeFile 36 = .ok (.bastore, 1) := by decide +kernel
theorem d_Mo_closeFile_37 : decode b_Mo_closeFile 37 = .ok (.return_, 1) := by decide +kernel
theorem d_Mo_readFile_0 : decode b_Mo_readFile 0 = .ok (.aload_n 0, 1) := by decide +kernel
theorem d_Mo_readFile_1 : decode b_Mo_readFile 1 = .ok (.iload_n 1, 1) := by decide +kernel
theorem d_Mo_readFile_2 : decode b_Mo_readFile 2 = .ok (.invokevirtual 122, 3) := by decide +kernel
theorem d_Mo_readFile_5 : decode b_Mo_readFile 5 = .ok (.istore_n 2, 1) := by decide +kernel
theorem d_Mo_readFile_6 : decode b_Mo_readFile 6 = .ok (.iload_n 2, 1) := by decide +kernel
theorem d_Mo_readFile_7 : decode b_Mo_readFile 7 = .ok (.ifCond .ge 11, 3) := by decide +kernel
theorem d_Mo_readFile_10 : decode b_Mo_readFile 10 = .ok (.aload_n 0, 1) := by decide +kernel
theorem d_Mo_readFile_11 : decode b_Mo_readFile 11 = .ok (.iconst 4, 1) := by decide +kernel
theorem d_Mo_readFile_12 : decode b_Mo_readFile 12 = .ok (.putfield 144, 3) := by decide +kernel
theorem d_Mo_readFile_15 : decode b_Mo_readFile 15 = .ok (.goto 19, 3) := by decide +kernel
theorem d_Mo_readFile_18 : decode b_Mo_readFile 18 = .ok (.aload_n 0, 1) := by decide +kernel
theorem d_Mo_readFile_19 : decode b_Mo_readFile 19 = .ok (.iload_n 2, 1) := by decide +kernel
theorem d_Mo_readFile_20 : decode b_Mo_readFile 20 = .ok (.sipush 256, 3) := by decide +kernel
theorem d_Mo_readFile_23 : decode b_Mo_readFile 23 = .ok (.if_icmp .ne 7, 3) := by decide +kernel
theorem d_Mo_readFile_26 : decode b_Mo_readFile 26 = .ok (.iconst (-1), 1) := by decide +kernel
theorem d_Mo_readFile_27 : decode b_Mo_readFile 27 = .ok (.goto 4, 3) := by decide +kernel
theorem d_Mo_readFile_30 : decode b_Mo_readFile 30 = .ok (.iload_n 2, 1) := by decide +kernel
theorem d_Mo_readFile_31 : decode b_Mo_readFile 31 = .ok (.invokevirtual 164, 3) := by decide +kernel
theorem d_Mo_readFile_34 : decode b_Mo_readFile 34 = .ok (.return_, 1) := by decide +kernel
theorem d_Mo_act_0 : decode b_Mo_act 0 = .ok (.iload_n 1, 1) := by decide +kernel
theorem d_Mo_act_1 : decode b_Mo_act 1 = .ok (.invokestatic 171, 3) := by decide +kernel
theorem d_Mo_act_4 : decode b_Mo_act 4 = .ok (.istore_n 2, 1) := by decide +kernel
theorem d_Mo_act_5 : decode b_Mo_act 5 = .ok (.aload_n 0, 1) := by decide +kernel
theorem d_Mo_act_6 : decode b_Mo_act 6 = .ok (.getfield 141, 3) := by decide +kernel
theorem d_Mo_act_9 : decode b_Mo_act 9 = .ok (.iload_n 2, 1) := by decide +kernel
theorem d_Mo_act_10 : decode b_Mo_act 10 = .ok (.if_icmp .ge 9, 3) := by decide +kernel
theorem d_Mo_act_13 : decode b_Mo_act 13 = .ok (.aload_n 0, 1) := by decide +kernel
theorem d_Mo_act_14 : decode b_Mo_act 14 = .ok (.iconst 5, 1) := by decide +kernel
