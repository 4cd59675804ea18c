theorem d_Store_append_20 : decode b_Store_append 20 = .ok (.getfield 21, 3) := by decide +kernel
theorem d_Store_append_23 : decode b_Store_append 23 = .ok (.iconst 1, 1) := by decide +kernel
theorem d_Store_append_24 : decode b_Store_append 24 = .ok (.iadd, 1) := by decide +kernel
theorem d_Store_append_25 : decode b_Store_append 25 = .ok (.putfield 21, 3) := by decide +kernel
theorem d_Store_append_28 : decode b_Store_append 28 = .ok (.return_, 1) := by decide +kernel
theorem d_FileTree_put_0 : decode b_FileTree_put 0 = .ok (.aload_n 0, 1) := by decide +kernel
theorem d_FileTree_put_1 : decode b_FileTree_put 1 = .ok (.iload_n 1, 1) := by decide +kernel
theorem d_FileTree_put_2 : decode b_FileTree_put 2 = .ok (.invokevirtual 58, 3) := by decide +kernel
theorem d_FileTree_put_5 : decode b_FileTree_put 5 = .ok (.astore_n 3, 1) := by decide +kernel
theorem d_FileTree_put_6 : decode b_FileTree_put 6 = .ok (.aload_n 3, 1) := by decide +kernel
theorem d_FileTree_put_7 : decode b_FileTree_put 7 = .ok (.ifnull 10, 3) := by decide +kernel
theorem d_FileTree_put_10 : decode b_FileTree_put 10 = .ok (.aload_n 3, 1) := by decide +kernel
theorem d_FileTree_put_11 : decode b_FileTree_put 11 = .ok (.getfield 61, 3) := by decide +kernel
theorem d_FileTree_put_14 : decode b_FileTree_put 14 = .ok (.ifnonnull 5, 3) := by decide +kernel
theorem d_FileTree_put_17 : decode b_FileTree_put 17 = .ok (.iconst (-1), 1) := by decide +kernel
theorem d_FileTree_put_18 : decode b_FileTree_put 18 = .ok (.ireturn, 1) := by decide +kernel
theorem d_FileTree_put_19 : decode b_FileTree_put 19 = .ok (.aload_n 3, 1) := by decide +kernel
theorem d_FileTree_put_20 : decode b_FileTree_put 20 = .ok (.getfield 64, 3) := by decide +kernel
theorem d_FileTree_put_23 : decode b_FileTree_put 23 = .ok (.ifCond .ne 6, 3) := by decide +kernel
theorem d_FileTree_put_26 : decode b_FileTree_put 26 = .ok (.bipush (-3), 2) := by decide +kernel
theorem d_FileTree_put_28 : decode b_FileTree_put 28 = .ok (.ireturn, 1) := by decide +kernel
theorem d_FileTree_put_29 : decode b_FileTree_put 29 = .ok (.aload_n 3, 1) := by decide +kernel
theorem d_FileTree_put_30 : decode b_FileTree_put 30 = .ok (.getfield 61, 3) := by decide +kernel
theorem d_FileTree_put_33 : decode b_FileTree_put 33 = .ok (.invokevirtual 68, 3) := by decide +kernel
theorem d_FileTree_put_36 : decode b_FileTree_put 36 = .ok (.ifCond .eq 6, 3) := by decide +kernel
theorem d_FileTree_put_39 : decode b_FileTree_put 39 = .ok (.bipush (-4), 2) := by decide +kernel
theorem d_FileTree_put_41 : decode b_FileTree_put 41 = .ok (.ireturn, 1) := by decide +kernel
theorem d_FileTree_put_42 : decode b_FileTree_put 42 = .ok (.aload_n 3, 1) := by decide +kernel
theorem d_FileTree_put_43 : decode b_FileTree_put 43 = .ok (.getfield 61, 3) := by decide +kernel
theorem d_FileTree_put_46 : decode b_FileTree_put 46 = .ok (.aload_n 3, 1) := by decide +kernel
theorem d_FileTree_put_47 : decode b_FileTree_put 47 = .ok (.iload_n 2, 1) := by decide +kernel
theorem d_FileTree_put_48 : decode b_FileTree_put 48 = .ok (.invokevirtual 72, 3) := by decide +kernel
theorem d_FileTree_put_51 : decode b_FileTree_put 51 = .ok (.invokevirtual 76, 3) := by decide +kernel
theorem d_FileTree_put_54 : decode b_FileTree_put 54 = .ok (.iconst 1, 1) := by decide +kernel
theorem d_FileTree_put_55 : decode b_FileTree_put 55 = .ok (.ireturn, 1) := by decide +kernel
theorem d_Handle_layFilter_0 : decode b_Handle_layFilter 0 = .ok (.aload_n 0, 1) := by decide +kernel
theorem d_Handle_layFilter_1 : decode b_Handle_layFilter 1 = .ok (.getfield 33, 3) := by decide +kernel
theorem d_Handle_layFilter_4 : decode b_Handle_layFilter 4 = .ok (.iconst 3, 1) := by decide +kernel
theorem d_Handle_layFilter_5 : decode b_Handle_layFilter 5 = .ok (.if_icmp .lt 6, 3) := by decide +kernel
theorem d_Handle_layFilter_8 : decode b_Handle_layFilter 8 = .ok (.bipush (-4), 2) := by decide +kernel
theorem d_Handle_layFilter_10 : decode b_Handle_layFilter 10 = .ok (.ireturn, 1) := by decide +kernel
theorem d_Handle_layFilter_11 : decode b_Handle_layFilter 11 = .ok (.aload_n 0, 1) := by decide +kernel
theorem d_Handle_layFilter_12 : decode b_Handle_layFilter 12 = .ok (.getfield 9, 3) := by decide +kernel
theorem d_Handle_layFilter_15 : decode b_Handle_layFilter 15 = .ok (.aload_n 0, 1) := by decide +kernel
theorem d_Handle_layFilter_16 : decode b_Handle_layFilter 16 = .ok (.getfield 33, 3) := by decide +kernel
theorem d_Handle_layFilter_19 : decode b_Handle_layFilter 19 = .ok (.iload_n 1, 1) := by decide +kernel
theorem d_Handle_layFilter_20 : decode b_Handle_layFilter 20 = .ok (.iastore, 1) := by decide +kernel
theorem d_Handle_layFilter_21 : decode b_Handle_layFilter 21 = .ok (.aload_n 0, 1) := by decide +kernel
theorem d_Handle_layFilter_22 : decode b_Handle_layFilter 22 = .ok (.dup, 1) := by decide +kernel
theorem d_Handle_layFilter_23 : decode b_Handle_layFilter 23 = .ok (.getfield 33, 3) := by decide +kernel
theorem d_Handle_layFilter_26 : decode b_Handle_layFilter 26 = .ok (.iconst 1, 1) := by decide +kernel
theorem d_Handle_layFilter_27 : decode b_Handle_layFilter 27 = .ok (.iadd, 1) := by decide +kernel
theorem d_Handle_layFilter_28 : decode b_Handle_layFilter 28 = .ok (.putfield 33, 3) := by decide +kernel
theorem d_Handle_layFilter_31 : decode b_Handle_layFilter 31 = .ok (.aload_n 0, 1) := by decide +kernel
theorem d_Handle_layFilter_32 : decode b_Handle_layFilter 32 = .ok (.getfield 33, 3) := by decide +kernel
theorem d_Handle_layFilter_35 : decode b_Handle_layFilter 35 = .ok (.ireturn, 1) := by decide +kernel
theorem d_FileTree_putFilter_0 : decode b_FileTree_putFilter 0 = .ok (.aload_n 0, 1) := by decide +kernel
theorem d_FileTree_putFilter_1 : decode b_FileTree_putFilter 1 = .ok (.iload_n 1, 1) := by decide +kernel
theorem d_FileTree_putFilter_2 : decode b_FileTree_putFilter 2 = .ok (.invokevirtual 58, 3) := by decide +kernel
theorem d_FileTree_putFilter_5 : decode b_FileTree_putFilter 5 = .ok (.astore_n 3, 1) := by decide +kernel
theorem d_FileTree_putFilter_6 : decode b_FileTree_putFilter 6 = .ok (.aload_n 3, 1) := by decide +kernel
theorem d_FileTree_putFilter_7 : decode b_FileTree_putFilter 7 = .ok (.ifnonnull 5, 3) := by decide +kernel
theorem d_FileTree_putFilter_10 : decode b_FileTree_putFilter 10 = .ok (.iconst (-1), 1) := by decide +kernel
theorem d_FileTree_putFilter_11 : decode b_FileTree_putFilter 11 = .ok (.ireturn, 1) := by decide +kernel
theorem d_FileTree_putFilter_12 : decode b_FileTree_putFilter 12 = .ok (.iload_n 2, 1) := by decide +kernel
theorem d_FileTree_putFilter_13 : decode b_FileTree_putFilter 13 = .ok (.iconst 1, 1) := by decide +kernel
theorem d_FileTree_putFilter_14 : decode b_FileTree_putFilter 14 = .ok (.if_icmp .lt 8, 3) := by decide +kernel
theorem d_FileTree_putFilter_17 : decode b_FileTree_putFilter 17 = .ok (.iload_n 2, 1) := by decide +kernel
theorem d_FileTree_putFilter_18 : decode b_FileTree_putFilter 18 = .ok (.iconst 3, 1) := by decide +kernel
theorem d_FileTree_putFilter_19 : decode b_FileTree_putFilter 19 = .ok (.if_icmp .le 6, 3) := by decide +kernel
theorem d_FileTree_putFilter_22 : decode b_FileTree_putFilter 22 = .ok (.bipush (-2), 2) := by decide +kernel
theorem d_FileTree_putFilter_24 : decode b_FileTree_putFilter 24 = .ok (.ireturn, 1) := by decide +kernel
theorem d_FileTree_putFilter_25 : decode b_FileTree_putFilter 25 = .ok (.aload_n 3, 1) := by decide +kernel
theorem d_FileTree_putFilter_26 : decode b_FileTree_putFilter 26 = .ok (.iload_n 2, 1) := by decide +kernel
theorem d_FileTree_putFilter_27 : decode b_FileTree_putFilter 27 = .ok (.invokevirtual 83, 3) := by decide +kernel
theorem d_FileTree_putFilter_30 : decode b_FileTree_putFilter 30 = .ok (.ireturn, 1) := by decide +kernel
theorem d_Store_byteAt_0 : decode b_Store_byteAt 0 = .ok (.iload_n 1, 1) := by decide +kernel
theorem d_Store_byteAt_1 : decode b_Store_byteAt 1 = .ok (.ifCond .lt 11, 3) := by decide +kernel
theorem d_Store_byteAt_4 : decode b_Store_byteAt 4 = .ok (.iload_n 1, 1) := by decide +kernel
theorem d_Store_byteAt_5 : decode b_Store_byteAt 5 = .ok (.aload_n 0, 1) := by decide +kernel
theorem d_Store_byteAt_6 : decode b_Store_byteAt 6 = .ok (.getfield 21, 3) := by decide +kernel
theorem d_Store_byteAt_9 : decode b_Store_byteAt 9 = .ok (.if_icmp .lt 7, 3) := by decide +kernel
theorem d_Store_byteAt_12 : decode b_Store_byteAt 12 = .ok (.iconst (-1), 1) := by decide +kernel
theorem d_Store_byteAt_13 : decode b_Store_byteAt 13 = .ok (.goto 13, 3) := by decide +kernel
theorem d_Store_byteAt_16 : decode b_Store_byteAt 16 = .ok (.aload_n 0, 1) := by decide +kernel
theorem d_Store_byteAt_17 : decode b_Store_byteAt 17 = .ok (.getfield 15, 3) := by decide +kernel
theorem d_Store_byteAt_20 : decode b_Store_byteAt 20 = .ok (.iload_n 1, 1) := by decide +kernel
theorem d_Store_byteAt_21 : decode b_Store_byteAt 21 = .ok (.baload, 1) := by decide +kernel
theorem d_Store_byteAt_22 : decode b_Store_byteAt 22 = .ok (.sipush 255, 3) := by decide +kernel
theorem d_Store_byteAt_25 : decode b_Store_byteAt 25 = .ok (.iand, 1) := by decide +kernel
theorem d_Store_byteAt_26 : decode b_Store_byteAt 26 = .ok (.ireturn, 1) := by decide +kernel
theorem d_Handle_nextByte_0 : decode b_Handle_nextByte 0 = .ok (.aload_n 1, 1) := by decide +kernel
theorem d_Handle_nextByte_1 : decode b_Handle_nextByte 1 = .ok (.aload_n 0, 1) := by decide +kernel
theorem d_Handle_nextByte_2 : decode b_Handle_nextByte 2 = .ok (.getfield 30, 3) := by decide +kernel
theorem d_Handle_nextByte_5 : decode b_Handle_nextByte 5 = .ok (.invokevirtual 43, 3) := by decide +kernel
theorem d_Handle_nextByte_8 : decode b_Handle_nextByte 8 = .ok (.istore_n 2, 1) := by decide +kernel
theorem d_Handle_nextByte_9 : decode b_Handle_nextByte 9 = .ok (.iload_n 2, 1) := by decide +kernel
theorem d_Handle_nextByte_10 : decode b_Handle_nextByte 10 = .ok (.iconst (-1), 1) := by decide +kernel
theorem d_Handle_nextByte_11 : decode b_Handle_nextByte 11 = .ok (.if_icmp .ne 7, 3) := by decide +kernel
theorem d_Handle_nextByte_14 : decode b_Handle_nextByte 14 = .ok (.sipush 256, 3) := by decide +kernel
theorem d_Handle_nextByte_17 : decode b_Handle_nextByte 17 = .ok (.ireturn, 1) := by decide +kernel
theorem d_Handle_nextByte_18 : decode b_Handle_nextByte 18 = .ok (.aload_n 0, 1) := by decide +kernel
theorem d_Handle_nextByte_19 : decode b_Handle_nextByte 19 = .ok (.dup, 1) := by decide +kernel
theorem d_Handle_nextByte_20 : decode b_Handle_nextByte 20 = .ok (.getfield 30, 3) := by decide +kernel
theorem d_Handle_nextByte_23 : decode b_Handle_nextByte 23 = .ok (.iconst 1, 1) := by decide +kernel
theorem d_Handle_nextByte_24 : decode b_Handle_nextByte 24 = .ok (.iadd, 1) := by decide +kernel
theorem d_Handle_nextByte_25 : decode b_Handle_nextByte 25 = .ok (.putfield 30, 3) := by decide +kernel
theorem d_Handle_nextByte_28 : decode b_Handle_nextByte 28 = .ok (.iconst 0, 1) := by decide +kernel
theorem d_Handle_nextByte_29 : decode b_Handle_nextByte 29 = .ok (.istore_n 3, 1) := by decide +kernel
theorem d_Handle_nextByte_30 : decode b_Handle_nextByte 30 = .ok (.iload_n 3, 1) := by decide +kernel
theorem d_Handle_nextByte_31 : decode b_Handle_nextByte 31 = .ok (.aload_n 0, 1) := by decide +kernel
theorem d_Handle_nextByte_32 : decode b_Handle_nextByte 32 = .ok (.getfield 33, 3) := by decide +kernel
theorem d_Handle_nextByte_35 : decode b_Handle_nextByte 35 = .ok (.if_icmp .ge 21, 3) := by decide +kernel
theorem d_Handle_nextByte_38 : decode b_Handle_nextByte 38 = .ok (.aload_n 0, 1) := by decide +kernel
theorem d_Handle_nextByte_39 : decode b_Handle_nextByte 39 = .ok (.getfield 9, 3) := by decide +kernel
theorem d_Handle_nextByte_42 : decode b_Handle_nextByte 42 = .ok (.iload_n 3, 1) := by decide +kernel
theorem d_Handle_nextByte_43 : decode b_Handle_nextByte 43 = .ok (.iaload, 1) := by decide +kernel
theorem d_Handle_nextByte_44 : decode b_Handle_nextByte 44 = .ok (.iload_n 2, 1) := by decide +kernel
theorem d_Handle_nextByte_45 : decode b_Handle_nextByte 45 = .ok (.iconst (-1), 1) := by decide +kernel
theorem d_Handle_nextByte_46 : decode b_Handle_nextByte 46 = .ok (.invokestatic 39, 3) := by decide +kernel
theorem d_Handle_nextByte_49 : decode b_Handle_nextByte 49 = .ok (.istore_n 2, 1) := by decide +kernel
theorem d_Handle_nextByte_50 : decode b_Handle_nextByte 50 = .ok (.iinc 3 1, 3) := by decide +kernel
theorem d_Handle_nextByte_53 : decode b_Handle_nextByte 53 = .ok (.goto (-23), 3) := by decide +kernel
theorem d_Handle_nextByte_56 : decode b_Handle_nextByte 56 = .ok (.iload_n 2, 1) := by decide +kernel
theorem d_Handle_nextByte_57 : decode b_Handle_nextByte 57 = .ok (.ireturn, 1) := by decide +kernel
theorem d_FileTree_take_0 : decode b_FileTree_take 0 = .ok (.aload_n 0, 1) := by decide +kernel
theorem d_FileTree_take_1 : decode b_FileTree_take 1 = .ok (.iload_n 1, 1) := by decide +kernel
theorem d_FileTree_take_2 : decode b_FileTree_take 2 = .ok (.invokevirtual 58, 3) := by decide +kernel
theorem d_FileTree_take_5 : decode b_FileTree_take 5 = .ok (.astore_n 2, 1) := by decide +kernel
theorem d_FileTree_take_6 : decode b_FileTree_take 6 = .ok (.aload_n 2, 1) := by decide +kernel
theorem d_FileTree_take_7 : decode b_FileTree_take 7 = .ok (.ifnull 10, 3) := by decide +kernel
theorem d_FileTree_take_10 : decode b_FileTree_take 10 = .ok (.aload_n 2, 1) := by decide +kernel
theorem d_FileTree_take_11 : decode b_FileTree_take 11 = .ok (.getfield 61, 3) := by decide +kernel
theorem d_FileTree_take_14 : decode b_FileTree_take 14 = .ok (.ifnonnull 5, 3) := by decide +kernel
theorem d_FileTree_take_17 : decode b_FileTree_take 17 = .ok (.iconst (-1), 1) := by decide +kernel
theorem d_FileTree_take_18 : decode b_FileTree_take 18 = .ok (.ireturn, 1) := by decide +kernel
theorem d_FileTree_take_19 : decode b_FileTree_take 19 = .ok (.aload_n 2, 1) := by decide +kernel
theorem d_FileTree_take_20 : decode b_FileTree_take 20 = .ok (.getfield 64, 3) := by decide +kernel
theorem d_FileTree_take_23 : decode b_FileTree_take 23 = .ok (.ifCond .eq 6, 3) := by decide +kernel
theorem d_FileTree_take_26 : decode b_FileTree_take 26 = .ok (.bipush (-3), 2) := by decide +kernel
theorem d_FileTree_take_28 : decode b_FileTree_take 28 = .ok (.ireturn, 1) := by decide +kernel
theorem d_FileTree_take_29 : decode b_FileTree_take 29 = .ok (.aload_n 2, 1) := by decide +kernel
theorem d_FileTree_take_30 : decode b_FileTree_take 30 = .ok (.aload_n 2, 1) := by decide +kernel
theorem d_FileTree_take_31 : decode b_FileTree_take 31 = .ok (.getfield 61, 3) := by decide +kernel
theorem d_FileTree_take_34 : decode b_FileTree_take 34 = .ok (.invokevirtual 79, 3) := by decide +kernel
theorem d_FileTree_take_37 : decode b_FileTree_take 37 = .ok (.ireturn, 1) := by decide +kernel
theorem d_Machine_layByte_0 : decode b_Machine_layByte 0 = .ok (.iload_n 1, 1) := by decide +kernel
theorem d_Machine_layByte_1 : decode b_Machine_layByte 1 = .ok (.sipush 256, 3) := by decide +kernel
theorem d_Machine_layByte_4 : decode b_Machine_layByte 4 = .ok (.if_icmp .ne 14, 3) := by decide +kernel
theorem d_Machine_layByte_7 : decode b_Machine_layByte 7 = .ok (.aload_n 0, 1) := by decide +kernel
theorem d_Machine_layByte_8 : decode b_Machine_layByte 8 = .ok (.getfield 50, 3) := by decide +kernel
theorem d_Machine_layByte_11 : decode b_Machine_layByte 11 = .ok (.iconst (-1), 1) := by decide +kernel
theorem d_Machine_layByte_12 : decode b_Machine_layByte 12 = .ok (.invokevirtual 123, 3) := by decide +kernel
theorem d_Machine_layByte_15 : decode b_Machine_layByte 15 = .ok (.goto 9, 3) := by decide +kernel
theorem d_Machine_layByte_18 : decode b_Machine_layByte 18 = .ok (.aload_n 0, 1) := by decide +kernel
theorem d_Machine_layByte_19 : decode b_Machine_layByte 19 = .ok (.iload_n 1, 1) := by decide +kernel
theorem d_Machine_layByte_20 : decode b_Machine_layByte 20 = .ok (.iconst 4, 1) := by decide +kernel
theorem d_Machine_layByte_21 : decode b_Machine_layByte 21 = .ok (.invokevirtual 154, 3) := by decide +kernel
theorem d_Machine_layByte_24 : decode b_Machine_layByte 24 = .ok (.ireturn, 1) := by decide +kernel
theorem d_Machine_doFileSign_0 : decode b_Machine_doFileSign 0 = .ok (.iload_n 1, 1) := by decide +kernel
theorem d_Machine_doFileSign_1 : decode b_Machine_doFileSign 1 = .ok (.lookupswitch 100 #[(99, 59), (102, 86), (111, 43), (119, 72)], 43) := by decide +kernel
theorem d_Machine_doFileSign_44 : decode b_Machine_doFileSign 44 = .ok (.aload_n 0, 1) := by decide +kernel
theorem d_Machine_doFileSign_45 : decode b_Machine_doFileSign 45 = .ok (.aload_n 0, 1) := by decide +kernel
theorem d_Machine_doFileSign_46 : decode b_Machine_doFileSign 46 = .ok (.getfield 28, 3) := by decide +kernel
theorem d_Machine_doFileSign_49 : decode b_Machine_doFileSign 49 = .ok (.iload_n 2, 1) := by decide +kernel
theorem d_Machine_doFileSign_50 : decode b_Machine_doFileSign 50 = .ok (.iload_n 3, 1) := by decide +kernel
theorem d_Machine_doFileSign_51 : decode b_Machine_doFileSign 51 = .ok (.iconst 1, 1) := by decide +kernel
theorem d_Machine_doFileSign_52 : decode b_Machine_doFileSign 52 = .ok (.invokevirtual 173, 3) := by decide +kernel
theorem d_Machine_doFileSign_55 : decode b_Machine_doFileSign 55 = .ok (.iconst 4, 1) := by decide +kernel
theorem d_Machine_doFileSign_56 : decode b_Machine_doFileSign 56 = .ok (.invokevirtual 154, 3) := by decide +kernel
theorem d_Machine_doFileSign_59 : decode b_Machine_doFileSign 59 = .ok (.ireturn, 1) := by decide +kernel
theorem d_Machine_doFileSign_60 : decode b_Machine_doFileSign 60 = .ok (.aload_n 0, 1) := by decide +kernel
theorem d_Machine_doFileSign_61 : decode b_Machine_doFileSign 61 = .ok (.getfield 28, 3) := by decide +kernel
theorem d_Machine_doFileSign_64 : decode b_Machine_doFileSign 64 = .ok (.iload_n 2, 1) := by decide +kernel
theorem d_Machine_doFileSign_65 : decode b_Machine_doFileSign 65 = .ok (.invokevirtual 177, 3) := by decide +kernel
theorem d_Machine_doFileSign_68 : decode b_Machine_doFileSign 68 = .ok (.iconst 4, 1) := by decide +kernel
theorem d_Machine_doFileSign_69 : decode b_Machine_doFileSign 69 = .ok (.invokestatic 161, 3) := by decide +kernel
theorem d_Machine_doFileSign_72 : decode b_Machine_doFileSign 72 = .ok (.ireturn, 1) := by decide +kernel
theorem d_Machine_doFileSign_73 : decode b_Machine_doFileSign 73 = .ok (.aload_n 0, 1) := by decide +kernel
theorem d_Machine_doFileSign_74 : decode b_Machine_doFileSign 74 = .ok (.getfield 28, 3) := by decide +kernel
theorem d_Machine_doFileSign_77 : decode b_Machine_doFileSign 77 = .ok (.iload_n 2, 1) := by decide +kernel
theorem d_Machine_doFileSign_78 : decode b_Machine_doFileSign 78 = .ok (.iload_n 3, 1) := by decide +kernel
theorem d_Machine_doFileSign_79 : decode b_Machine_doFileSign 79 = .ok (.invokevirtual 180, 3) := by decide +kernel
theorem d_Machine_doFileSign_82 : decode b_Machine_doFileSign 82 = .ok (.iconst 4, 1) := by decide +kernel
theorem d_Machine_doFileSign_83 : decode b_Machine_doFileSign 83 = .ok (.invokestatic 161, 3) := by decide +kernel
theorem d_Machine_doFileSign_86 : decode b_Machine_doFileSign 86 = .ok (.ireturn, 1) := by decide +kernel
theorem d_Machine_doFileSign_87 : decode b_Machine_doFileSign 87 = .ok (.aload_n 0, 1) := by decide +kernel
theorem d_Machine_doFileSign_88 : decode b_Machine_doFileSign 88 = .ok (.getfield 28, 3) := by decide +kernel
theorem d_Machine_doFileSign_91 : decode b_Machine_doFileSign 91 = .ok (.iload_n 2, 1) := by decide +kernel
theorem d_Machine_doFileSign_92 : decode b_Machine_doFileSign 92 = .ok (.iload_n 3, 1) := by decide +kernel
theorem d_Machine_doFileSign_93 : decode b_Machine_doFileSign 93 = .ok (.invokevirtual 182, 3) := by decide +kernel
theorem d_Machine_doFileSign_96 : decode b_Machine_doFileSign 96 = .ok (.iconst 4, 1) := by decide +kernel
theorem d_Machine_doFileSign_97 : decode b_Machine_doFileSign 97 = .ok (.invokestatic 161, 3) := by decide +kernel
theorem d_Machine_doFileSign_100 : decode b_Machine_doFileSign 100 = .ok (.ireturn, 1) := by decide +kernel
theorem d_Machine_doFileSign_101 : decode b_Machine_doFileSign 101 = .ok (.aload_n 0, 1) := by decide +kernel
theorem d_Machine_doFileSign_102 : decode b_Machine_doFileSign 102 = .ok (.aload_n 0, 1) := by decide +kernel
theorem d_Machine_doFileSign_103 : decode b_Machine_doFileSign 103 = .ok (.getfield 28, 3) := by decide +kernel
theorem d_Machine_doFileSign_106 : decode b_Machine_doFileSign 106 = .ok (.iload_n 2, 1) := by decide +kernel
theorem d_Machine_doFileSign_107 : decode b_Machine_doFileSign 107 = .ok (.invokevirtual 185, 3) := by decide +kernel
theorem d_Machine_doFileSign_110 : decode b_Machine_doFileSign 110 = .ok (.invokevirtual 187, 3) := by decide +kernel
theorem d_Machine_doFileSign_113 : decode b_Machine_doFileSign 113 = .ok (.ireturn, 1) := by decide +kernel
theorem d_Numbers_layTwo_0 : decode b_Numbers_layTwo 0 = .ok (.aload_n 0, 1) := by decide +kernel
theorem d_Numbers_layTwo_1 : decode b_Numbers_layTwo 1 = .ok (.iload_n 1, 1) := by decide +kernel
theorem d_Numbers_layTwo_2 : decode b_Numbers_layTwo 2 = .ok (.invokevirtual 19, 3) := by decide +kernel
theorem d_Numbers_layTwo_5 : decode b_Numbers_layTwo 5 = .ok (.istore_n 3, 1) := by decide +kernel
theorem d_Numbers_layTwo_6 : decode b_Numbers_layTwo 6 = .ok (.iload_n 3, 1) := by decide +kernel
theorem d_Numbers_layTwo_7 : decode b_Numbers_layTwo 7 = .ok (.ifCond .ne 11, 3) := by decide +kernel
theorem d_Numbers_layTwo_10 : decode b_Numbers_layTwo 10 = .ok (.aload_n 0, 1) := by decide +kernel
theorem d_Numbers_layTwo_11 : decode b_Numbers_layTwo 11 = .ok (.iload_n 2, 1) := by decide +kernel
theorem d_Numbers_layTwo_12 : decode b_Numbers_layTwo 12 = .ok (.invokevirtual 19, 3) := by decide +kernel
theorem d_Numbers_layTwo_15 : decode b_Numbers_layTwo 15 = .ok (.goto 4, 3) := by decide +kernel
theorem d_Numbers_layTwo_18 : decode b_Numbers_layTwo 18 = .ok (.iload_n 3, 1) := by decide +kernel
theorem d_Numbers_layTwo_19 : decode b_Numbers_layTwo 19 = .ok (.ireturn, 1) := by decide +kernel
theorem d_Machine_doStackSign_0 : decode b_Machine_doStackSign 0 = .ok (.iload_n 1, 1) := by decide +kernel
theorem d_Machine_doStackSign_1 : decode b_Machine_doStackSign 1 = .ok (.lookupswitch 124 #[(42, 93), (43, 71), (45, 82), (100, 104), (116, 59), (120, 114)], 59) := by decide +kernel
theorem d_Machine_doStackSign_60 : decode b_Machine_doStackSign 60 = .ok (.aload_n 0, 1) := by decide +kernel
theorem d_Machine_doStackSign_61 : decode b_Machine_doStackSign 61 = .ok (.getfield 50, 3) := by decide +kernel
theorem d_Machine_doStackSign_64 : decode b_Machine_doStackSign 64 = .ok (.bipush 10, 2) := by decide +kernel
theorem d_Machine_doStackSign_66 : decode b_Machine_doStackSign 66 = .ok (.iload_n 2, 1) := by decide +kernel
theorem d_Machine_doStackSign_67 : decode b_Machine_doStackSign 67 = .ok (.imul, 1) := by decide +kernel
theorem d_Machine_doStackSign_68 : decode b_Machine_doStackSign 68 = .ok (.invokevirtual 123, 3) := by decide +kernel
theorem d_Machine_doStackSign_71 : decode b_Machine_doStackSign 71 = .ok (.ireturn, 1) := by decide +kernel
theorem d_Machine_doStackSign_72 : decode b_Machine_doStackSign 72 = .ok (.aload_n 0, 1) := by decide +kernel
theorem d_Machine_doStackSign_73 : decode b_Machine_doStackSign 73 = .ok (.getfield 50, 3) := by decide +kernel
theorem d_Machine_doStackSign_76 : decode b_Machine_doStackSign 76 = .ok (.iload_n 2, 1) := by decide +kernel
theorem d_Machine_doStackSign_77 : decode b_Machine_doStackSign 77 = .ok (.iload_n 3, 1) := by decide +kernel
theorem d_Machine_doStackSign_78 : decode b_Machine_doStackSign 78 = .ok (.iadd, 1) := by decide +kernel
theorem d_Machine_doStackSign_79 : decode b_Machine_doStackSign 79 = .ok (.invokevirtual 123, 3) := by decide +kernel
theorem d_Machine_doStackSign_82 : decode b_Machine_doStackSign 82 = .ok (.ireturn, 1) := by decide +kernel
theorem d_Machine_doStackSign_83 : decode b_Machine_doStackSign 83 = .ok (.aload_n 0, 1) := by decide +kernel
theorem d_Machine_doStackSign_84 : decode b_Machine_doStackSign 84 = .ok (.getfield 50, 3) := by decide +kernel
theorem d_Machine_doStackSign_87 : decode b_Machine_doStackSign 87 = .ok (.iload_n 2, 1) := by decide +kernel
theorem d_Machine_doStackSign_88 : decode b_Machine_doStackSign 88 = .ok (.iload_n 3, 1) := by decide +kernel
theorem d_Machine_doStackSign_89 : decode b_Machine_doStackSign 89 = .ok (.isub, 1) := by decide +kernel
theorem d_Machine_doStackSign_90 : decode b_Machine_doStackSign 90 = .ok (.invokevirtual 123, 3) := by decide +kernel
theorem d_Machine_doStackSign_93 : decode b_Machine_doStackSign 93 = .ok (.ireturn, 1) := by decide +kernel
theorem d_Machine_doStackSign_94 : decode b_Machine_doStackSign 94 = .ok (.aload_n 0, 1) := by decide +kernel
theorem d_Machine_doStackSign_95 : decode b_Machine_doStackSign 95 = .ok (.getfield 50, 3) := by decide +kernel
theorem d_Machine_doStackSign_98 : decode b_Machine_doStackSign 98 = .ok (.iload_n 2, 1) := by decide +kernel
theorem d_Machine_doStackSign_99 : decode b_Machine_doStackSign 99 = .ok (.iload_n 3, 1) := by decide +kernel
theorem d_Machine_doStackSign_100 : decode b_Machine_doStackSign 100 = .ok (.imul, 1) := by decide +kernel
theorem d_Machine_doStackSign_101 : decode b_Machine_doStackSign 101 = .ok (.invokevirtual 123, 3) := by decide +kernel
theorem d_Machine_doStackSign_104 : decode b_Machine_doStackSign 104 = .ok (.ireturn, 1) := by decide +kernel
theorem d_Machine_doStackSign_105 : decode b_Machine_doStackSign 105 = .ok (.aload_n 0, 1) := by decide +kernel
theorem d_Machine_doStackSign_106 : decode b_Machine_doStackSign 106 = .ok (.getfield 50, 3) := by decide +kernel
theorem d_Machine_doStackSign_109 : decode b_Machine_doStackSign 109 = .ok (.iload_n 2, 1) := by decide +kernel
theorem d_Machine_doStackSign_110 : decode b_Machine_doStackSign 110 = .ok (.iload_n 2, 1) := by decide +kernel
theorem d_Machine_doStackSign_111 : decode b_Machine_doStackSign 111 = .ok (.invokevirtual 170, 3) := by decide +kernel
theorem d_Machine_doStackSign_114 : decode b_Machine_doStackSign 114 = .ok (.ireturn, 1) := by decide +kernel
theorem d_Machine_doStackSign_115 : decode b_Machine_doStackSign 115 = .ok (.aload_n 0, 1) := by decide +kernel
theorem d_Machine_doStackSign_116 : decode b_Machine_doStackSign 116 = .ok (.getfield 50, 3) := by decide +kernel
theorem d_Machine_doStackSign_119 : decode b_Machine_doStackSign 119 = .ok (.iload_n 3, 1) := by decide +kernel
theorem d_Machine_doStackSign_120 : decode b_Machine_doStackSign 120 = .ok (.iload_n 2, 1) := by decide +kernel
theorem d_Machine_doStackSign_121 : decode b_Machine_doStackSign 121 = .ok (.invokevirtual 170, 3) := by decide +kernel
theorem d_Machine_doStackSign_124 : decode b_Machine_doStackSign 124 = .ok (.ireturn, 1) := by decide +kernel
theorem d_Machine_doStackSign_125 : decode b_Machine_doStackSign 125 = .ok (.iconst 0, 1) := by decide +kernel
theorem d_Machine_doStackSign_126 : decode b_Machine_doStackSign 126 = .ok (.ireturn, 1) := by decide +kernel
theorem d_Machine_doSign_0 : decode b_Machine_doSign 0 = .ok (.iload_n 2, 1) := by decide +kernel
theorem d_Machine_doSign_1 : decode b_Machine_doSign 1 = .ok (.bipush 48, 2) := by decide +kernel
theorem d_Machine_doSign_3 : decode b_Machine_doSign 3 = .ok (.if_icmp .lt 21, 3) := by decide +kernel
theorem d_Machine_doSign_6 : decode b_Machine_doSign 6 = .ok (.iload_n 2, 1) := by decide +kernel
theorem d_Machine_doSign_7 : decode b_Machine_doSign 7 = .ok (.bipush 57, 2) := by decide +kernel
theorem d_Machine_doSign_9 : decode b_Machine_doSign 9 = .ok (.if_icmp .gt 15, 3) := by decide +kernel
theorem d_Machine_doSign_12 : decode b_Machine_doSign 12 = .ok (.aload_n 0, 1) := by decide +kernel
theorem d_Machine_doSign_13 : decode b_Machine_doSign 13 = .ok (.getfield 50, 3) := by decide +kernel
theorem d_Machine_doSign_16 : decode b_Machine_doSign 16 = .ok (.iload_n 2, 1) := by decide +kernel
theorem d_Machine_doSign_17 : decode b_Machine_doSign 17 = .ok (.bipush 48, 2) := by decide +kernel
theorem d_Machine_doSign_19 : decode b_Machine_doSign 19 = .ok (.isub, 1) := by decide +kernel
theorem d_Machine_doSign_20 : decode b_Machine_doSign 20 = .ok (.invokevirtual 123, 3) := by decide +kernel
theorem d_Machine_doSign_23 : decode b_Machine_doSign 23 = .ok (.ireturn, 1) := by decide +kernel
theorem d_Machine_doSign_24 : decode b_Machine_doSign 24 = .ok (.iload_n 2, 1) := by decide +kernel
theorem d_Machine_doSign_25 : decode b_Machine_doSign 25 = .ok (.invokestatic 126, 3) := by decide +kernel
theorem d_Machine_doSign_28 : decode b_Machine_doSign 28 = .ok (.istore 4, 2) := by decide +kernel
theorem d_Machine_doSign_30 : decode b_Machine_doSign 30 = .ok (.iload 4, 2) := by decide +kernel
theorem d_Machine_doSign_32 : decode b_Machine_doSign 32 = .ok (.iconst (-1), 1) := by decide +kernel
theorem d_Machine_doSign_33 : decode b_Machine_doSign 33 = .ok (.if_icmp .ne 5, 3) := by decide +kernel
theorem d_Machine_doSign_36 : decode b_Machine_doSign 36 = .ok (.iconst 1, 1) := by decide +kernel
theorem d_Machine_doSign_37 : decode b_Machine_doSign 37 = .ok (.ireturn, 1) := by decide +kernel
theorem d_Machine_doSign_38 : decode b_Machine_doSign 38 = .ok (.aload_n 0, 1) := by decide +kernel
theorem d_Machine_doSign_39 : decode b_Machine_doSign 39 = .ok (.getfield 50, 3) := by decide +kernel
theorem d_Machine_doSign_42 : decode b_Machine_doSign 42 = .ok (.iload 4, 2) := by decide +kernel
theorem d_Machine_doSign_44 : decode b_Machine_doSign 44 = .ok (.invokevirtual 129, 3) := by decide +kernel
theorem d_Machine_doSign_47 : decode b_Machine_doSign 47 = .ok (.ifCond .ne 5, 3) := by decide +kernel
theorem d_Machine_doSign_50 : decode b_Machine_doSign 50 = .ok (.iconst 5, 1) := by decide +kernel
theorem d_Machine_doSign_51 : decode b_Machine_doSign 51 = .ok (.ireturn, 1) := by decide +kernel
theorem d_Machine_doSign_52 : decode b_Machine_doSign 52 = .ok (.iload 4, 2) := by decide +kernel
theorem d_Machine_doSign_54 : decode b_Machine_doSign 54 = .ok (.iconst 2, 1) := by decide +kernel
theorem d_Machine_doSign_55 : decode b_Machine_doSign 55 = .ok (.if_icmp .le 13, 3) := by decide +kernel
theorem d_Machine_doSign_58 : decode b_Machine_doSign 58 = .ok (.aload_n 0, 1) := by decide +kernel
theorem d_Machine_doSign_59 : decode b_Machine_doSign 59 = .ok (.getfield 50, 3) := by decide +kernel
theorem d_Machine_doSign_62 : decode b_Machine_doSign 62 = .ok (.invokevirtual 133, 3) := by decide +kernel
theorem d_Machine_doSign_65 : decode b_Machine_doSign 65 = .ok (.goto 4, 3) := by decide +kernel
theorem d_Machine_doSign_68 : decode b_Machine_doSign 68 = .ok (.iconst 0, 1) := by decide +kernel
theorem d_Machine_doSign_69 : decode b_Machine_doSign 69 = .ok (.istore 5, 2) := by decide +kernel
theorem d_Machine_doSign_71 : decode b_Machine_doSign 71 = .ok (.iload 4, 2) := by decide +kernel
theorem d_Machine_doSign_73 : decode b_Machine_doSign 73 = .ok (.iconst 1, 1) := by decide +kernel
theorem d_Machine_doSign_74 : decode b_Machine_doSign 74 = .ok (.if_icmp .le 13, 3) := by decide +kernel
theorem d_Machine_doSign_77 : decode b_Machine_doSign 77 = .ok (.aload_n 0, 1) := by decide +kernel
theorem d_Machine_doSign_78 : decode b_Machine_doSign 78 = .ok (.getfield 50, 3) := by decide +kernel
theorem d_Machine_doSign_81 : decode b_Machine_doSign 81 = .ok (.invokevirtual 133, 3) := by decide +kernel
theorem d_Machine_doSign_84 : decode b_Machine_doSign 84 = .ok (.goto 4, 3) := by decide +kernel
theorem d_Machine_doSign_87 : decode b_Machine_doSign 87 = .ok (.iconst 0, 1) := by decide +kernel
theorem d_Machine_doSign_88 : decode b_Machine_doSign 88 = .ok (.istore 6, 2) := by decide +kernel
theorem d_Machine_doSign_90 : decode b_Machine_doSign 90 = .ok (.iload 4, 2) := by decide +kernel
theorem d_Machine_doSign_92 : decode b_Machine_doSign 92 = .ok (.ifCond .le 13, 3) := by decide +kernel
theorem d_Machine_doSign_95 : decode b_Machine_doSign 95 = .ok (.aload_n 0, 1) := by decide +kernel
theorem d_Machine_doSign_96 : decode b_Machine_doSign 96 = .ok (.getfield 50, 3) := by decide +kernel
theorem d_Machine_doSign_99 : decode b_Machine_doSign 99 = .ok (.invokevirtual 133, 3) := by decide +kernel
theorem d_Machine_doSign_102 : decode b_Machine_doSign 102 = .ok (.goto 4, 3) := by decide +kernel
theorem d_Machine_doSign_105 : decode b_Machine_doSign 105 = .ok (.iconst 0, 1) := by decide +kernel
theorem d_Machine_doSign_106 : decode b_Machine_doSign 106 = .ok (.istore 7, 2) := by decide +kernel
theorem d_Machine_doSign_108 : decode b_Machine_doSign 108 = .ok (.iload_n 2, 1) := by decide +kernel
theorem d_Machine_doSign_109 : decode b_Machine_doSign 109 = .ok (.lookupswitch 212 #[(68, 184), (82, 167), (99, 202), (102, 202), (103, 158), (109, 135), (111, 202), (113, 151), (114, 202), (115, 129), (119, 202), (123, 115), (125, 123)], 115) := by decide +kernel
theorem d_Machine_doSign_224 : decode b_Machine_doSign 224 = .ok (.aload_n 0, 1) := by decide +kernel
theorem d_Machine_doSign_225 : decode b_Machine_doSign 225 = .ok (.iload_n 3, 1) := by decide +kernel
theorem d_Machine_doSign_226 : decode b_Machine_doSign 226 = .ok (.iload 7, 2) := by decide +kernel
theorem d_Machine_doSign_228 : decode b_Machine_doSign 228 = .ok (.invokevirtual 137, 3) := by decide +kernel
theorem d_Machine_doSign_231 : decode b_Machine_doSign 231 = .ok (.ireturn, 1) := by decide +kernel
theorem d_Machine_doSign_232 : decode b_Machine_doSign 232 = .ok (.aload_n 0, 1) := by decide +kernel
theorem d_Machine_doSign_233 : decode b_Machine_doSign 233 = .ok (.iload_n 3, 1) := by decide +kernel
theorem d_Machine_doSign_234 : decode b_Machine_doSign 234 = .ok (.invokevirtual 141, 3) := by decide +kernel
theorem d_Machine_doSign_237 : decode b_Machine_doSign 237 = .ok (.ireturn, 1) := by decide +kernel
theorem d_Machine_doSign_238 : decode b_Machine_doSign 238 = .ok (.aload_n 0, 1) := by decide +kernel
theorem d_Machine_doSign_239 : decode b_Machine_doSign 239 = .ok (.aload_n 1, 1) := by decide +kernel
theorem d_Machine_doSign_240 : decode b_Machine_doSign 240 = .ok (.invokevirtual 144, 3) := by decide +kernel
theorem d_Machine_doSign_243 : decode b_Machine_doSign 243 = .ok (.ireturn, 1) := by decide +kernel
theorem d_Machine_doSign_244 : decode b_Machine_doSign 244 = .ok (.aload_n 0, 1) := by decide +kernel
theorem d_Machine_doSign_245 : decode b_Machine_doSign 245 = .ok (.bipush 31, 2) := by decide +kernel
theorem d_Machine_doSign_247 : decode b_Machine_doSign 247 = .ok (.aload_n 0, 1) := by decide +kernel
theorem d_Machine_doSign_248 : decode b_Machine_doSign 248 = .ok (.getfield 68, 3) := by decide +kernel
theorem d_Machine_doSign_251 : decode b_Machine_doSign 251 = .ok (.imul, 1) := by decide +kernel
theorem d_Machine_doSign_252 : decode b_Machine_doSign 252 = .ok (.iload 7, 2) := by decide +kernel
theorem d_Machine_doSign_254 : decode b_Machine_doSign 254 = .ok (.iadd, 1) := by decide +kernel
theorem d_Machine_doSign_255 : decode b_Machine_doSign 255 = .ok (.putfield 68, 3) := by decide +kernel
theorem d_Machine_doSign_258 : decode b_Machine_doSign 258 = .ok (.iconst 0, 1) := by decide +kernel
theorem d_Machine_doSign_259 : decode b_Machine_doSign 259 = .ok (.ireturn, 1) := by decide +kernel
theorem d_Machine_doSign_260 : decode b_Machine_doSign 260 = .ok (.aload_n 1, 1) := by decide +kernel
theorem d_Machine_doSign_261 : decode b_Machine_doSign 261 = .ok (.iconst 1, 1) := by decide +kernel
theorem d_Machine_doSign_262 : decode b_Machine_doSign 262 = .ok (.putfield 78, 3) := by decide +kernel
theorem d_Machine_doSign_265 : decode b_Machine_doSign 265 = .ok (.iconst 0, 1) := by decide +kernel
theorem d_Machine_doSign_266 : decode b_Machine_doSign 266 = .ok (.ireturn, 1) := by decide +kernel
theorem d_Machine_doSign_267 : decode b_Machine_doSign 267 = .ok (.aload_n 0, 1) := by decide +kernel
theorem d_Machine_doSign_268 : decode b_Machine_doSign 268 = .ok (.iload 7, 2) := by decide +kernel
theorem d_Machine_doSign_270 : decode b_Machine_doSign 270 = .ok (.iload 6, 2) := by decide +kernel
theorem d_Machine_doSign_272 : decode b_Machine_doSign 272 = .ok (.invokevirtual 148, 3) := by decide +kernel
theorem d_Machine_doSign_275 : decode b_Machine_doSign 275 = .ok (.ireturn, 1) := by decide +kernel
theorem d_Machine_doSign_276 : decode b_Machine_doSign 276 = .ok (.aload_n 0, 1) := by decide +kernel
theorem d_Machine_doSign_277 : decode b_Machine_doSign 277 = .ok (.aload_n 0, 1) := by decide +kernel
theorem d_Machine_doSign_278 : decode b_Machine_doSign 278 = .ok (.getfield 21, 3) := by decide +kernel
theorem d_Machine_doSign_281 : decode b_Machine_doSign 281 = .ok (.iload 7, 2) := by decide +kernel
theorem d_Machine_doSign_283 : decode b_Machine_doSign 283 = .ok (.iload 6, 2) := by decide +kernel
theorem d_Machine_doSign_285 : decode b_Machine_doSign 285 = .ok (.invokevirtual 151, 3) := by decide +kernel
theorem d_Machine_doSign_288 : decode b_Machine_doSign 288 = .ok (.iconst 2, 1) := by decide +kernel
theorem d_Machine_doSign_289 : decode b_Machine_doSign 289 = .ok (.invokevirtual 154, 3) := by decide +kernel
theorem d_Machine_doSign_292 : decode b_Machine_doSign 292 = .ok (.ireturn, 1) := by decide +kernel
theorem d_Machine_doSign_293 : decode b_Machine_doSign 293 = .ok (.aload_n 0, 1) := by decide +kernel
theorem d_Machine_doSign_294 : decode b_Machine_doSign 294 = .ok (.getfield 21, 3) := by decide +kernel
theorem d_Machine_doSign_297 : decode b_Machine_doSign 297 = .ok (.iload 7, 2) := by decide +kernel
theorem d_Machine_doSign_299 : decode b_Machine_doSign 299 = .ok (.iload 6, 2) := by decide +kernel
theorem d_Machine_doSign_301 : decode b_Machine_doSign 301 = .ok (.iload 5, 2) := by decide +kernel
theorem d_Machine_doSign_303 : decode b_Machine_doSign 303 = .ok (.invokevirtual 157, 3) := by decide +kernel
theorem d_Machine_doSign_306 : decode b_Machine_doSign 306 = .ok (.iconst 2, 1) := by decide +kernel
theorem d_Machine_doSign_307 : decode b_Machine_doSign 307 = .ok (.invokestatic 161, 3) := by decide +kernel
theorem d_Machine_doSign_310 : decode b_Machine_doSign 310 = .ok (.ireturn, 1) := by decide +kernel
theorem d_Machine_doSign_311 : decode b_Machine_doSign 311 = .ok (.aload_n 0, 1) := by decide +kernel
theorem d_Machine_doSign_312 : decode b_Machine_doSign 312 = .ok (.iload_n 2, 1) := by decide +kernel
theorem d_Machine_doSign_313 : decode b_Machine_doSign 313 = .ok (.iload 7, 2) := by decide +kernel
theorem d_Machine_doSign_315 : decode b_Machine_doSign 315 = .ok (.iload 6, 2) := by decide +kernel
theorem d_Machine_doSign_317 : decode b_Machine_doSign 317 = .ok (.invokevirtual 164, 3) := by decide +kernel
theorem d_Machine_doSign_320 : decode b_Machine_doSign 320 = .ok (.ireturn, 1) := by decide +kernel
theorem d_Machine_doSign_321 : decode b_Machine_doSign 321 = .ok (.aload_n 0, 1) := by decide +kernel
theorem d_Machine_doSign_322 : decode b_Machine_doSign 322 = .ok (.iload_n 2, 1) := by decide +kernel
theorem d_Machine_doSign_323 : decode b_Machine_doSign 323 = .ok (.iload 7, 2) := by decide +kernel
theorem d_Machine_doSign_325 : decode b_Machine_doSign 325 = .ok (.iload 6, 2) := by decide +kernel
theorem d_Machine_doSign_327 : decode b_Machine_doSign 327 = .ok (.invokevirtual 167, 3) := by decide +kernel
theorem d_Machine_doSign_330 : decode b_Machine_doSign 330 = .ok (.ireturn, 1) := by decide +kernel
theorem d_Job_fail_0 : decode b_Job_fail 0 = .ok (.aload_n 0, 1) := by decide +kernel
theorem d_Job_fail_1 : decode b_Job_fail 1 = .ok (.iconst 2, 1) := by decide +kernel
theorem d_Job_fail_2 : decode b_Job_fail 2 = .ok (.putfield 26, 3) := by decide +kernel
theorem d_Job_fail_5 : decode b_Job_fail 5 = .ok (.aload_n 0, 1) := by decide +kernel
theorem d_Job_fail_6 : decode b_Job_fail 6 = .ok (.iload_n 1, 1) := by decide +kernel
theorem d_Job_fail_7 : decode b_Job_fail 7 = .ok (.putfield 29, 3) := by decide +kernel
theorem d_Job_fail_10 : decode b_Job_fail 10 = .ok (.aload_n 0, 1) := by decide +kernel
theorem d_Job_fail_11 : decode b_Job_fail 11 = .ok (.iload_n 2, 1) := by decide +kernel
theorem d_Job_fail_12 : decode b_Job_fail 12 = .ok (.putfield 32, 3) := by decide +kernel
theorem d_Job_fail_15 : decode b_Job_fail 15 = .ok (.aload_n 0, 1) := by decide +kernel
theorem d_Job_fail_16 : decode b_Job_fail 16 = .ok (.aload_n 0, 1) := by decide +kernel
theorem d_Job_fail_17 : decode b_Job_fail 17 = .ok (.getfield 19, 3) := by decide +kernel
theorem d_Job_fail_20 : decode b_Job_fail 20 = .ok (.iload_n 2, 1) := by decide +kernel
theorem d_Job_fail_21 : decode b_Job_fail 21 = .ok (.isub, 1) := by decide +kernel
theorem d_Job_fail_22 : decode b_Job_fail 22 = .ok (.iconst 1, 1) := by decide +kernel
theorem d_Job_fail_23 : decode b_Job_fail 23 = .ok (.isub, 1) := by decide +kernel
theorem d_Job_fail_24 : decode b_Job_fail 24 = .ok (.putfield 38, 3) := by decide +kernel
theorem d_Job_fail_27 : decode b_Job_fail 27 = .ok (.return_, 1) := by decide +kernel
theorem d_Device_putBack_0 : decode b_Device_putBack 0 = .ok (.aload_n 0, 1) := by decide +kernel
theorem d_Device_putBack_1 : decode b_Device_putBack 1 = .ok (.getfield 15, 3) := by decide +kernel
theorem d_Device_putBack_4 : decode b_Device_putBack 4 = .ok (.iconst 0, 1) := by decide +kernel
theorem d_Device_putBack_5 : decode b_Device_putBack 5 = .ok (.aload_n 0, 1) := by decide +kernel
theorem d_Device_putBack_6 : decode b_Device_putBack 6 = .ok (.getfield 9, 3) := by decide +kernel
theorem d_Device_putBack_9 : decode b_Device_putBack 9 = .ok (.iconst 0, 1) := by decide +kernel
