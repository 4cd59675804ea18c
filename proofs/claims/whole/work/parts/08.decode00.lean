theorem d_Device_init_0 : decode b_Device_init 0 = .ok (.aload_n 0, 1) := by decide +kernel
theorem d_Device_init_1 : decode b_Device_init 1 = .ok (.invokespecial 3, 3) := by decide +kernel
theorem d_Device_init_4 : decode b_Device_init 4 = .ok (.aload_n 0, 1) := by decide +kernel
theorem d_Device_init_5 : decode b_Device_init 5 = .ok (.iconst 4, 1) := by decide +kernel
theorem d_Device_init_6 : decode b_Device_init 6 = .ok (.newarray .int, 2) := by decide +kernel
theorem d_Device_init_8 : decode b_Device_init 8 = .ok (.putfield 9, 3) := by decide +kernel
theorem d_Device_init_11 : decode b_Device_init 11 = .ok (.aload_n 0, 1) := by decide +kernel
theorem d_Device_init_12 : decode b_Device_init 12 = .ok (.iconst 4, 1) := by decide +kernel
theorem d_Device_init_13 : decode b_Device_init 13 = .ok (.newarray .int, 2) := by decide +kernel
theorem d_Device_init_15 : decode b_Device_init 15 = .ok (.putfield 15, 3) := by decide +kernel
theorem d_Device_init_18 : decode b_Device_init 18 = .ok (.iconst 0, 1) := by decide +kernel
theorem d_Device_init_19 : decode b_Device_init 19 = .ok (.istore_n 1, 1) := by decide +kernel
theorem d_Device_init_20 : decode b_Device_init 20 = .ok (.iload_n 1, 1) := by decide +kernel
theorem d_Device_init_21 : decode b_Device_init 21 = .ok (.iconst 4, 1) := by decide +kernel
theorem d_Device_init_22 : decode b_Device_init 22 = .ok (.if_icmp .ge 20, 3) := by decide +kernel
theorem d_Device_init_25 : decode b_Device_init 25 = .ok (.aload_n 0, 1) := by decide +kernel
theorem d_Device_init_26 : decode b_Device_init 26 = .ok (.getfield 9, 3) := by decide +kernel
theorem d_Device_init_29 : decode b_Device_init 29 = .ok (.iload_n 1, 1) := by decide +kernel
theorem d_Device_init_30 : decode b_Device_init 30 = .ok (.getstatic 18, 3) := by decide +kernel
theorem d_Device_init_33 : decode b_Device_init 33 = .ok (.iload_n 1, 1) := by decide +kernel
theorem d_Device_init_34 : decode b_Device_init 34 = .ok (.iaload, 1) := by decide +kernel
theorem d_Device_init_35 : decode b_Device_init 35 = .ok (.iastore, 1) := by decide +kernel
theorem d_Device_init_36 : decode b_Device_init 36 = .ok (.iinc 1 1, 3) := by decide +kernel
theorem d_Device_init_39 : decode b_Device_init 39 = .ok (.goto (-19), 3) := by decide +kernel
theorem d_Device_init_42 : decode b_Device_init 42 = .ok (.return_, 1) := by decide +kernel
theorem d_Resources_init_0 : decode b_Resources_init 0 = .ok (.aload_n 0, 1) := by decide +kernel
theorem d_Resources_init_1 : decode b_Resources_init 1 = .ok (.invokespecial 3, 3) := by decide +kernel
theorem d_Resources_init_4 : decode b_Resources_init 4 = .ok (.aload_n 0, 1) := by decide +kernel
theorem d_Resources_init_5 : decode b_Resources_init 5 = .ok (.bipush 40, 2) := by decide +kernel
theorem d_Resources_init_7 : decode b_Resources_init 7 = .ok (.newarray .int, 2) := by decide +kernel
theorem d_Resources_init_9 : decode b_Resources_init 9 = .ok (.putfield 9, 3) := by decide +kernel
theorem d_Resources_init_12 : decode b_Resources_init 12 = .ok (.aload_n 0, 1) := by decide +kernel
theorem d_Resources_init_13 : decode b_Resources_init 13 = .ok (.bipush 40, 2) := by decide +kernel
theorem d_Resources_init_15 : decode b_Resources_init 15 = .ok (.newarray .int, 2) := by decide +kernel
theorem d_Resources_init_17 : decode b_Resources_init 17 = .ok (.putfield 15, 3) := by decide +kernel
theorem d_Resources_init_20 : decode b_Resources_init 20 = .ok (.iconst 0, 1) := by decide +kernel
theorem d_Resources_init_21 : decode b_Resources_init 21 = .ok (.istore_n 1, 1) := by decide +kernel
theorem d_Resources_init_22 : decode b_Resources_init 22 = .ok (.iload_n 1, 1) := by decide +kernel
theorem d_Resources_init_23 : decode b_Resources_init 23 = .ok (.aload_n 0, 1) := by decide +kernel
theorem d_Resources_init_24 : decode b_Resources_init 24 = .ok (.getfield 9, 3) := by decide +kernel
theorem d_Resources_init_27 : decode b_Resources_init 27 = .ok (.arraylength, 1) := by decide +kernel
theorem d_Resources_init_28 : decode b_Resources_init 28 = .ok (.if_icmp .ge 16, 3) := by decide +kernel
theorem d_Resources_init_31 : decode b_Resources_init 31 = .ok (.aload_n 0, 1) := by decide +kernel
theorem d_Resources_init_32 : decode b_Resources_init 32 = .ok (.getfield 9, 3) := by decide +kernel
theorem d_Resources_init_35 : decode b_Resources_init 35 = .ok (.iload_n 1, 1) := by decide +kernel
theorem d_Resources_init_36 : decode b_Resources_init 36 = .ok (.iconst (-1), 1) := by decide +kernel
theorem d_Resources_init_37 : decode b_Resources_init 37 = .ok (.iastore, 1) := by decide +kernel
theorem d_Resources_init_38 : decode b_Resources_init 38 = .ok (.iinc 1 1, 3) := by decide +kernel
theorem d_Resources_init_41 : decode b_Resources_init 41 = .ok (.goto (-19), 3) := by decide +kernel
theorem d_Resources_init_44 : decode b_Resources_init 44 = .ok (.return_, 1) := by decide +kernel
theorem d_Store_init_0 : decode b_Store_init 0 = .ok (.aload_n 0, 1) := by decide +kernel
theorem d_Store_init_1 : decode b_Store_init 1 = .ok (.invokespecial 3, 3) := by decide +kernel
theorem d_Store_init_4 : decode b_Store_init 4 = .ok (.aload_n 0, 1) := by decide +kernel
theorem d_Store_init_5 : decode b_Store_init 5 = .ok (.iconst 0, 1) := by decide +kernel
theorem d_Store_init_6 : decode b_Store_init 6 = .ok (.iload_n 1, 1) := by decide +kernel
theorem d_Store_init_7 : decode b_Store_init 7 = .ok (.invokestatic 9, 3) := by decide +kernel
theorem d_Store_init_10 : decode b_Store_init 10 = .ok (.newarray .byte, 2) := by decide +kernel
theorem d_Store_init_12 : decode b_Store_init 12 = .ok (.putfield 15, 3) := by decide +kernel
theorem d_Store_init_15 : decode b_Store_init 15 = .ok (.aload_n 0, 1) := by decide +kernel
theorem d_Store_init_16 : decode b_Store_init 16 = .ok (.iconst 0, 1) := by decide +kernel
theorem d_Store_init_17 : decode b_Store_init 17 = .ok (.putfield 21, 3) := by decide +kernel
theorem d_Store_init_20 : decode b_Store_init 20 = .ok (.aload_n 0, 1) := by decide +kernel
theorem d_Store_init_21 : decode b_Store_init 21 = .ok (.iconst 0, 1) := by decide +kernel
theorem d_Store_init_22 : decode b_Store_init 22 = .ok (.putfield 25, 3) := by decide +kernel
theorem d_Store_init_25 : decode b_Store_init 25 = .ok (.return_, 1) := by decide +kernel
theorem d_Handle_detach_0 : decode b_Handle_detach 0 = .ok (.aload_n 0, 1) := by decide +kernel
theorem d_Handle_detach_1 : decode b_Handle_detach 1 = .ok (.aconst_null, 1) := by decide +kernel
theorem d_Handle_detach_2 : decode b_Handle_detach 2 = .ok (.putfield 18, 3) := by decide +kernel
theorem d_Handle_detach_5 : decode b_Handle_detach 5 = .ok (.aload_n 0, 1) := by decide +kernel
theorem d_Handle_detach_6 : decode b_Handle_detach 6 = .ok (.iconst 0, 1) := by decide +kernel
theorem d_Handle_detach_7 : decode b_Handle_detach 7 = .ok (.putfield 22, 3) := by decide +kernel
theorem d_Handle_detach_10 : decode b_Handle_detach 10 = .ok (.aload_n 0, 1) := by decide +kernel
theorem d_Handle_detach_11 : decode b_Handle_detach 11 = .ok (.iconst 0, 1) := by decide +kernel
theorem d_Handle_detach_12 : decode b_Handle_detach 12 = .ok (.putfield 26, 3) := by decide +kernel
theorem d_Handle_detach_15 : decode b_Handle_detach 15 = .ok (.aload_n 0, 1) := by decide +kernel
theorem d_Handle_detach_16 : decode b_Handle_detach 16 = .ok (.iconst 0, 1) := by decide +kernel
theorem d_Handle_detach_17 : decode b_Handle_detach 17 = .ok (.putfield 30, 3) := by decide +kernel
theorem d_Handle_detach_20 : decode b_Handle_detach 20 = .ok (.aload_n 0, 1) := by decide +kernel
theorem d_Handle_detach_21 : decode b_Handle_detach 21 = .ok (.iconst 0, 1) := by decide +kernel
theorem d_Handle_detach_22 : decode b_Handle_detach 22 = .ok (.putfield 33, 3) := by decide +kernel
theorem d_Handle_detach_25 : decode b_Handle_detach 25 = .ok (.aload_n 0, 1) := by decide +kernel
theorem d_Handle_detach_26 : decode b_Handle_detach 26 = .ok (.iconst 0, 1) := by decide +kernel
theorem d_Handle_detach_27 : decode b_Handle_detach 27 = .ok (.putfield 36, 3) := by decide +kernel
theorem d_Handle_detach_30 : decode b_Handle_detach 30 = .ok (.return_, 1) := by decide +kernel
theorem d_Handle_init_0 : decode b_Handle_init 0 = .ok (.aload_n 0, 1) := by decide +kernel
theorem d_Handle_init_1 : decode b_Handle_init 1 = .ok (.invokespecial 3, 3) := by decide +kernel
theorem d_Handle_init_4 : decode b_Handle_init 4 = .ok (.aload_n 0, 1) := by decide +kernel
theorem d_Handle_init_5 : decode b_Handle_init 5 = .ok (.iconst 3, 1) := by decide +kernel
theorem d_Handle_init_6 : decode b_Handle_init 6 = .ok (.newarray .int, 2) := by decide +kernel
theorem d_Handle_init_8 : decode b_Handle_init 8 = .ok (.putfield 9, 3) := by decide +kernel
theorem d_Handle_init_11 : decode b_Handle_init 11 = .ok (.aload_n 0, 1) := by decide +kernel
theorem d_Handle_init_12 : decode b_Handle_init 12 = .ok (.invokevirtual 15, 3) := by decide +kernel
theorem d_Handle_init_15 : decode b_Handle_init 15 = .ok (.return_, 1) := by decide +kernel
theorem d_Handle_attach_0 : decode b_Handle_attach 0 = .ok (.aload_n 0, 1) := by decide +kernel
theorem d_Handle_attach_1 : decode b_Handle_attach 1 = .ok (.invokevirtual 15, 3) := by decide +kernel
theorem d_Handle_attach_4 : decode b_Handle_attach 4 = .ok (.aload_n 0, 1) := by decide +kernel
theorem d_Handle_attach_5 : decode b_Handle_attach 5 = .ok (.aload_n 1, 1) := by decide +kernel
theorem d_Handle_attach_6 : decode b_Handle_attach 6 = .ok (.putfield 18, 3) := by decide +kernel
theorem d_Handle_attach_9 : decode b_Handle_attach 9 = .ok (.aload_n 0, 1) := by decide +kernel
theorem d_Handle_attach_10 : decode b_Handle_attach 10 = .ok (.iload_n 2, 1) := by decide +kernel
theorem d_Handle_attach_11 : decode b_Handle_attach 11 = .ok (.putfield 22, 3) := by decide +kernel
theorem d_Handle_attach_14 : decode b_Handle_attach 14 = .ok (.aload_n 0, 1) := by decide +kernel
theorem d_Handle_attach_15 : decode b_Handle_attach 15 = .ok (.iload_n 3, 1) := by decide +kernel
theorem d_Handle_attach_16 : decode b_Handle_attach 16 = .ok (.putfield 26, 3) := by decide +kernel
theorem d_Handle_attach_19 : decode b_Handle_attach 19 = .ok (.return_, 1) := by decide +kernel
theorem d_FileTree_init_0 : decode b_FileTree_init 0 = .ok (.aload_n 0, 1) := by decide +kernel
theorem d_FileTree_init_1 : decode b_FileTree_init 1 = .ok (.invokespecial 3, 3) := by decide +kernel
theorem d_FileTree_init_4 : decode b_FileTree_init 4 = .ok (.aload_n 0, 1) := by decide +kernel
theorem d_FileTree_init_5 : decode b_FileTree_init 5 = .ok (.bipush 10, 2) := by decide +kernel
theorem d_FileTree_init_7 : decode b_FileTree_init 7 = .ok (.anewarray 9, 3) := by decide +kernel
theorem d_FileTree_init_10 : decode b_FileTree_init 10 = .ok (.putfield 11, 3) := by decide +kernel
theorem d_FileTree_init_13 : decode b_FileTree_init 13 = .ok (.iconst 0, 1) := by decide +kernel
theorem d_FileTree_init_14 : decode b_FileTree_init 14 = .ok (.istore_n 1, 1) := by decide +kernel
theorem d_FileTree_init_15 : decode b_FileTree_init 15 = .ok (.iload_n 1, 1) := by decide +kernel
theorem d_FileTree_init_16 : decode b_FileTree_init 16 = .ok (.bipush 10, 2) := by decide +kernel
theorem d_FileTree_init_18 : decode b_FileTree_init 18 = .ok (.if_icmp .ge 24, 3) := by decide +kernel
theorem d_FileTree_init_21 : decode b_FileTree_init 21 = .ok (.aload_n 0, 1) := by decide +kernel
theorem d_FileTree_init_22 : decode b_FileTree_init 22 = .ok (.getfield 11, 3) := by decide +kernel
theorem d_FileTree_init_25 : decode b_FileTree_init 25 = .ok (.iload_n 1, 1) := by decide +kernel
theorem d_FileTree_init_26 : decode b_FileTree_init 26 = .ok (.new 9, 3) := by decide +kernel
theorem d_FileTree_init_29 : decode b_FileTree_init 29 = .ok (.dup, 1) := by decide +kernel
theorem d_FileTree_init_30 : decode b_FileTree_init 30 = .ok (.bipush 100, 2) := by decide +kernel
theorem d_FileTree_init_32 : decode b_FileTree_init 32 = .ok (.invokespecial 17, 3) := by decide +kernel
theorem d_FileTree_init_35 : decode b_FileTree_init 35 = .ok (.aastore, 1) := by decide +kernel
theorem d_FileTree_init_36 : decode b_FileTree_init 36 = .ok (.iinc 1 1, 3) := by decide +kernel
theorem d_FileTree_init_39 : decode b_FileTree_init 39 = .ok (.goto (-24), 3) := by decide +kernel
theorem d_FileTree_init_42 : decode b_FileTree_init 42 = .ok (.aload_n 0, 1) := by decide +kernel
theorem d_FileTree_init_43 : decode b_FileTree_init 43 = .ok (.new 9, 3) := by decide +kernel
theorem d_FileTree_init_46 : decode b_FileTree_init 46 = .ok (.dup, 1) := by decide +kernel
theorem d_FileTree_init_47 : decode b_FileTree_init 47 = .ok (.sipush 400, 3) := by decide +kernel
theorem d_FileTree_init_50 : decode b_FileTree_init 50 = .ok (.invokespecial 17, 3) := by decide +kernel
theorem d_FileTree_init_53 : decode b_FileTree_init 53 = .ok (.putfield 20, 3) := by decide +kernel
theorem d_FileTree_init_56 : decode b_FileTree_init 56 = .ok (.new 24, 3) := by decide +kernel
theorem d_FileTree_init_59 : decode b_FileTree_init 59 = .ok (.dup, 1) := by decide +kernel
theorem d_FileTree_init_60 : decode b_FileTree_init 60 = .ok (.invokespecial 26, 3) := by decide +kernel
theorem d_FileTree_init_63 : decode b_FileTree_init 63 = .ok (.astore_n 1, 1) := by decide +kernel
theorem d_FileTree_init_64 : decode b_FileTree_init 64 = .ok (.aload_n 1, 1) := by decide +kernel
theorem d_FileTree_init_65 : decode b_FileTree_init 65 = .ok (.aload_n 0, 1) := by decide +kernel
theorem d_FileTree_init_66 : decode b_FileTree_init 66 = .ok (.getfield 20, 3) := by decide +kernel
theorem d_FileTree_init_69 : decode b_FileTree_init 69 = .ok (.iconst 1, 1) := by decide +kernel
theorem d_FileTree_init_70 : decode b_FileTree_init 70 = .ok (.iconst 0, 1) := by decide +kernel
theorem d_FileTree_init_71 : decode b_FileTree_init 71 = .ok (.invokevirtual 27, 3) := by decide +kernel
theorem d_FileTree_init_74 : decode b_FileTree_init 74 = .ok (.aload_n 0, 1) := by decide +kernel
theorem d_FileTree_init_75 : decode b_FileTree_init 75 = .ok (.bipush 8, 2) := by decide +kernel
theorem d_FileTree_init_77 : decode b_FileTree_init 77 = .ok (.anewarray 24, 3) := by decide +kernel
theorem d_FileTree_init_80 : decode b_FileTree_init 80 = .ok (.putfield 31, 3) := by decide +kernel
theorem d_FileTree_init_83 : decode b_FileTree_init 83 = .ok (.aload_n 0, 1) := by decide +kernel
theorem d_FileTree_init_84 : decode b_FileTree_init 84 = .ok (.getfield 31, 3) := by decide +kernel
theorem d_FileTree_init_87 : decode b_FileTree_init 87 = .ok (.iconst 1, 1) := by decide +kernel
theorem d_FileTree_init_88 : decode b_FileTree_init 88 = .ok (.aload_n 1, 1) := by decide +kernel
theorem d_FileTree_init_89 : decode b_FileTree_init 89 = .ok (.aastore, 1) := by decide +kernel
theorem d_FileTree_init_90 : decode b_FileTree_init 90 = .ok (.iconst 2, 1) := by decide +kernel
theorem d_FileTree_init_91 : decode b_FileTree_init 91 = .ok (.istore_n 2, 1) := by decide +kernel
theorem d_FileTree_init_92 : decode b_FileTree_init 92 = .ok (.iload_n 2, 1) := by decide +kernel
theorem d_FileTree_init_93 : decode b_FileTree_init 93 = .ok (.bipush 7, 2) := by decide +kernel
theorem d_FileTree_init_95 : decode b_FileTree_init 95 = .ok (.if_icmp .gt 22, 3) := by decide +kernel
theorem d_FileTree_init_98 : decode b_FileTree_init 98 = .ok (.aload_n 0, 1) := by decide +kernel
theorem d_FileTree_init_99 : decode b_FileTree_init 99 = .ok (.getfield 31, 3) := by decide +kernel
theorem d_FileTree_init_102 : decode b_FileTree_init 102 = .ok (.iload_n 2, 1) := by decide +kernel
theorem d_FileTree_init_103 : decode b_FileTree_init 103 = .ok (.new 24, 3) := by decide +kernel
theorem d_FileTree_init_106 : decode b_FileTree_init 106 = .ok (.dup, 1) := by decide +kernel
theorem d_FileTree_init_107 : decode b_FileTree_init 107 = .ok (.invokespecial 26, 3) := by decide +kernel
theorem d_FileTree_init_110 : decode b_FileTree_init 110 = .ok (.aastore, 1) := by decide +kernel
theorem d_FileTree_init_111 : decode b_FileTree_init 111 = .ok (.iinc 2 1, 3) := by decide +kernel
theorem d_FileTree_init_114 : decode b_FileTree_init 114 = .ok (.goto (-22), 3) := by decide +kernel
theorem d_FileTree_init_117 : decode b_FileTree_init 117 = .ok (.return_, 1) := by decide +kernel
theorem d_Numbers_init_0 : decode b_Numbers_init 0 = .ok (.aload_n 0, 1) := by decide +kernel
theorem d_Numbers_init_1 : decode b_Numbers_init 1 = .ok (.invokespecial 3, 3) := by decide +kernel
theorem d_Numbers_init_4 : decode b_Numbers_init 4 = .ok (.aload_n 0, 1) := by decide +kernel
theorem d_Numbers_init_5 : decode b_Numbers_init 5 = .ok (.bipush 20, 2) := by decide +kernel
theorem d_Numbers_init_7 : decode b_Numbers_init 7 = .ok (.newarray .int, 2) := by decide +kernel
theorem d_Numbers_init_9 : decode b_Numbers_init 9 = .ok (.putfield 9, 3) := by decide +kernel
theorem d_Numbers_init_12 : decode b_Numbers_init 12 = .ok (.aload_n 0, 1) := by decide +kernel
theorem d_Numbers_init_13 : decode b_Numbers_init 13 = .ok (.iconst 0, 1) := by decide +kernel
theorem d_Numbers_init_14 : decode b_Numbers_init 14 = .ok (.putfield 15, 3) := by decide +kernel
theorem d_Numbers_init_17 : decode b_Numbers_init 17 = .ok (.return_, 1) := by decide +kernel
theorem d_Plan_init_0 : decode b_Plan_init 0 = .ok (.aload_n 0, 1) := by decide +kernel
theorem d_Plan_init_1 : decode b_Plan_init 1 = .ok (.invokespecial 3, 3) := by decide +kernel
theorem d_Plan_init_4 : decode b_Plan_init 4 = .ok (.aload_n 0, 1) := by decide +kernel
theorem d_Plan_init_5 : decode b_Plan_init 5 = .ok (.sipush 200, 3) := by decide +kernel
theorem d_Plan_init_8 : decode b_Plan_init 8 = .ok (.newarray .int, 2) := by decide +kernel
theorem d_Plan_init_10 : decode b_Plan_init 10 = .ok (.putfield 9, 3) := by decide +kernel
theorem d_Plan_init_13 : decode b_Plan_init 13 = .ok (.aload_n 0, 1) := by decide +kernel
theorem d_Plan_init_14 : decode b_Plan_init 14 = .ok (.sipush 200, 3) := by decide +kernel
theorem d_Plan_init_17 : decode b_Plan_init 17 = .ok (.newarray .int, 2) := by decide +kernel
theorem d_Plan_init_19 : decode b_Plan_init 19 = .ok (.putfield 15, 3) := by decide +kernel
theorem d_Plan_init_22 : decode b_Plan_init 22 = .ok (.aload_n 0, 1) := by decide +kernel
theorem d_Plan_init_23 : decode b_Plan_init 23 = .ok (.sipush 200, 3) := by decide +kernel
theorem d_Plan_init_26 : decode b_Plan_init 26 = .ok (.newarray .int, 2) := by decide +kernel
theorem d_Plan_init_28 : decode b_Plan_init 28 = .ok (.putfield 18, 3) := by decide +kernel
theorem d_Plan_init_31 : decode b_Plan_init 31 = .ok (.aload_n 0, 1) := by decide +kernel
theorem d_Plan_init_32 : decode b_Plan_init 32 = .ok (.iconst 0, 1) := by decide +kernel
theorem d_Plan_init_33 : decode b_Plan_init 33 = .ok (.putfield 21, 3) := by decide +kernel
theorem d_Plan_init_36 : decode b_Plan_init 36 = .ok (.return_, 1) := by decide +kernel
theorem d_Machine_init_0 : decode b_Machine_init 0 = .ok (.aload_n 0, 1) := by decide +kernel
theorem d_Machine_init_1 : decode b_Machine_init 1 = .ok (.invokespecial 3, 3) := by decide +kernel
theorem d_Machine_init_4 : decode b_Machine_init 4 = .ok (.aload_n 0, 1) := by decide +kernel
theorem d_Machine_init_5 : decode b_Machine_init 5 = .ok (.new 9, 3) := by decide +kernel
theorem d_Machine_init_8 : decode b_Machine_init 8 = .ok (.dup, 1) := by decide +kernel
theorem d_Machine_init_9 : decode b_Machine_init 9 = .ok (.invokespecial 11, 3) := by decide +kernel
theorem d_Machine_init_12 : decode b_Machine_init 12 = .ok (.putfield 12, 3) := by decide +kernel
theorem d_Machine_init_15 : decode b_Machine_init 15 = .ok (.aload_n 0, 1) := by decide +kernel
theorem d_Machine_init_16 : decode b_Machine_init 16 = .ok (.new 18, 3) := by decide +kernel
theorem d_Machine_init_19 : decode b_Machine_init 19 = .ok (.dup, 1) := by decide +kernel
theorem d_Machine_init_20 : decode b_Machine_init 20 = .ok (.invokespecial 20, 3) := by decide +kernel
theorem d_Machine_init_23 : decode b_Machine_init 23 = .ok (.putfield 21, 3) := by decide +kernel
theorem d_Machine_init_26 : decode b_Machine_init 26 = .ok (.aload_n 0, 1) := by decide +kernel
theorem d_Machine_init_27 : decode b_Machine_init 27 = .ok (.new 25, 3) := by decide +kernel
theorem d_Machine_init_30 : decode b_Machine_init 30 = .ok (.dup, 1) := by decide +kernel
theorem d_Machine_init_31 : decode b_Machine_init 31 = .ok (.invokespecial 27, 3) := by decide +kernel
theorem d_Machine_init_34 : decode b_Machine_init 34 = .ok (.putfield 28, 3) := by decide +kernel
theorem d_Machine_init_37 : decode b_Machine_init 37 = .ok (.aload_n 0, 1) := by decide +kernel
theorem d_Machine_init_38 : decode b_Machine_init 38 = .ok (.lconst 0, 1) := by decide +kernel
theorem d_Machine_init_39 : decode b_Machine_init 39 = .ok (.lload_n 1, 1) := by decide +kernel
theorem d_Machine_init_40 : decode b_Machine_init 40 = .ok (.ldc2_w 32, 3) := by decide +kernel
theorem d_Machine_init_43 : decode b_Machine_init 43 = .ok (.invokestatic 34, 3) := by decide +kernel
theorem d_Machine_init_46 : decode b_Machine_init 46 = .ok (.invokestatic 40, 3) := by decide +kernel
theorem d_Machine_init_49 : decode b_Machine_init 49 = .ok (.l2i, 1) := by decide +kernel
theorem d_Machine_init_50 : decode b_Machine_init 50 = .ok (.putfield 43, 3) := by decide +kernel
theorem d_Machine_init_53 : decode b_Machine_init 53 = .ok (.aload_n 0, 1) := by decide +kernel
theorem d_Machine_init_54 : decode b_Machine_init 54 = .ok (.new 47, 3) := by decide +kernel
theorem d_Machine_init_57 : decode b_Machine_init 57 = .ok (.dup, 1) := by decide +kernel
theorem d_Machine_init_58 : decode b_Machine_init 58 = .ok (.invokespecial 49, 3) := by decide +kernel
theorem d_Machine_init_61 : decode b_Machine_init 61 = .ok (.putfield 50, 3) := by decide +kernel
theorem d_Machine_init_64 : decode b_Machine_init 64 = .ok (.aload_n 0, 1) := by decide +kernel
theorem d_Machine_init_65 : decode b_Machine_init 65 = .ok (.new 54, 3) := by decide +kernel
theorem d_Machine_init_68 : decode b_Machine_init 68 = .ok (.dup, 1) := by decide +kernel
theorem d_Machine_init_69 : decode b_Machine_init 69 = .ok (.invokespecial 56, 3) := by decide +kernel
theorem d_Machine_init_72 : decode b_Machine_init 72 = .ok (.putfield 57, 3) := by decide +kernel
theorem d_Machine_init_75 : decode b_Machine_init 75 = .ok (.aload_n 0, 1) := by decide +kernel
theorem d_Machine_init_76 : decode b_Machine_init 76 = .ok (.iconst 4, 1) := by decide +kernel
theorem d_Machine_init_77 : decode b_Machine_init 77 = .ok (.newarray .int, 2) := by decide +kernel
theorem d_Machine_init_79 : decode b_Machine_init 79 = .ok (.putfield 61, 3) := by decide +kernel
theorem d_Machine_init_82 : decode b_Machine_init 82 = .ok (.aload_n 0, 1) := by decide +kernel
theorem d_Machine_init_83 : decode b_Machine_init 83 = .ok (.iconst 0, 1) := by decide +kernel
theorem d_Machine_init_84 : decode b_Machine_init 84 = .ok (.putfield 65, 3) := by decide +kernel
theorem d_Machine_init_87 : decode b_Machine_init 87 = .ok (.aload_n 0, 1) := by decide +kernel
theorem d_Machine_init_88 : decode b_Machine_init 88 = .ok (.iconst 0, 1) := by decide +kernel
theorem d_Machine_init_89 : decode b_Machine_init 89 = .ok (.putfield 68, 3) := by decide +kernel
theorem d_Machine_init_92 : decode b_Machine_init 92 = .ok (.aload_n 0, 1) := by decide +kernel
theorem d_Machine_init_93 : decode b_Machine_init 93 = .ok (.iconst 0, 1) := by decide +kernel
theorem d_Machine_init_94 : decode b_Machine_init 94 = .ok (.putfield 71, 3) := by decide +kernel
theorem d_Machine_init_97 : decode b_Machine_init 97 = .ok (.return_, 1) := by decide +kernel
theorem d_ML_init_0 : decode b_ML_init 0 = .ok (.aload_n 0, 1) := by decide +kernel
theorem d_ML_init_1 : decode b_ML_init 1 = .ok (.invokespecial 1, 3) := by decide +kernel
theorem d_ML_init_4 : decode b_ML_init 4 = .ok (.aload_n 0, 1) := by decide +kernel
theorem d_ML_init_5 : decode b_ML_init 5 = .ok (.bipush 20, 2) := by decide +kernel
theorem d_ML_init_7 : decode b_ML_init 7 = .ok (.anewarray 9, 3) := by decide +kernel
theorem d_ML_init_10 : decode b_ML_init 10 = .ok (.putfield 11, 3) := by decide +kernel
theorem d_ML_init_13 : decode b_ML_init 13 = .ok (.aload_n 0, 1) := by decide +kernel
theorem d_ML_init_14 : decode b_ML_init 14 = .ok (.new 15, 3) := by decide +kernel
theorem d_ML_init_17 : decode b_ML_init 17 = .ok (.dup, 1) := by decide +kernel
theorem d_ML_init_18 : decode b_ML_init 18 = .ok (.lload_n 1, 1) := by decide +kernel
theorem d_ML_init_19 : decode b_ML_init 19 = .ok (.invokespecial 17, 3) := by decide +kernel
theorem d_ML_init_22 : decode b_ML_init 22 = .ok (.putfield 20, 3) := by decide +kernel
theorem d_ML_init_25 : decode b_ML_init 25 = .ok (.aload_n 0, 1) := by decide +kernel
theorem d_ML_init_26 : decode b_ML_init 26 = .ok (.iconst 0, 1) := by decide +kernel
theorem d_ML_init_27 : decode b_ML_init 27 = .ok (.putfield 24, 3) := by decide +kernel
theorem d_ML_init_30 : decode b_ML_init 30 = .ok (.aload_n 0, 1) := by decide +kernel
theorem d_ML_init_31 : decode b_ML_init 31 = .ok (.iconst 0, 1) := by decide +kernel
theorem d_ML_init_32 : decode b_ML_init 32 = .ok (.putfield 28, 3) := by decide +kernel
theorem d_ML_init_35 : decode b_ML_init 35 = .ok (.return_, 1) := by decide +kernel
theorem d_Job_init_0 : decode b_Job_init 0 = .ok (.aload_n 0, 1) := by decide +kernel
theorem d_Job_init_1 : decode b_Job_init 1 = .ok (.invokespecial 3, 3) := by decide +kernel
theorem d_Job_init_4 : decode b_Job_init 4 = .ok (.aload_n 0, 1) := by decide +kernel
theorem d_Job_init_5 : decode b_Job_init 5 = .ok (.sipush 200, 3) := by decide +kernel
theorem d_Job_init_8 : decode b_Job_init 8 = .ok (.newarray .byte, 2) := by decide +kernel
theorem d_Job_init_10 : decode b_Job_init 10 = .ok (.putfield 9, 3) := by decide +kernel
theorem d_Job_init_13 : decode b_Job_init 13 = .ok (.aload_n 0, 1) := by decide +kernel
theorem d_Job_init_14 : decode b_Job_init 14 = .ok (.bipush 40, 2) := by decide +kernel
theorem d_Job_init_16 : decode b_Job_init 16 = .ok (.newarray .int, 2) := by decide +kernel
theorem d_Job_init_18 : decode b_Job_init 18 = .ok (.putfield 15, 3) := by decide +kernel
theorem d_Job_init_21 : decode b_Job_init 21 = .ok (.aload_n 0, 1) := by decide +kernel
theorem d_Job_init_22 : decode b_Job_init 22 = .ok (.iconst 0, 1) := by decide +kernel
theorem d_Job_init_23 : decode b_Job_init 23 = .ok (.putfield 19, 3) := by decide +kernel
theorem d_Job_init_26 : decode b_Job_init 26 = .ok (.aload_n 0, 1) := by decide +kernel
theorem d_Job_init_27 : decode b_Job_init 27 = .ok (.iconst 0, 1) := by decide +kernel
theorem d_Job_init_28 : decode b_Job_init 28 = .ok (.putfield 23, 3) := by decide +kernel
theorem d_Job_init_31 : decode b_Job_init 31 = .ok (.aload_n 0, 1) := by decide +kernel
theorem d_Job_init_32 : decode b_Job_init 32 = .ok (.iconst 0, 1) := by decide +kernel
theorem d_Job_init_33 : decode b_Job_init 33 = .ok (.putfield 26, 3) := by decide +kernel
theorem d_Job_init_36 : decode b_Job_init 36 = .ok (.aload_n 0, 1) := by decide +kernel
theorem d_Job_init_37 : decode b_Job_init 37 = .ok (.iconst 0, 1) := by decide +kernel
theorem d_Job_init_38 : decode b_Job_init 38 = .ok (.putfield 29, 3) := by decide +kernel
theorem d_Job_init_41 : decode b_Job_init 41 = .ok (.aload_n 0, 1) := by decide +kernel
theorem d_Job_init_42 : decode b_Job_init 42 = .ok (.iconst 0, 1) := by decide +kernel
theorem d_Job_init_43 : decode b_Job_init 43 = .ok (.putfield 32, 3) := by decide +kernel
theorem d_Job_init_46 : decode b_Job_init 46 = .ok (.aload_n 0, 1) := by decide +kernel
theorem d_Job_init_47 : decode b_Job_init 47 = .ok (.iconst 0, 1) := by decide +kernel
theorem d_Job_init_48 : decode b_Job_init 48 = .ok (.putfield 35, 3) := by decide +kernel
theorem d_Job_init_51 : decode b_Job_init 51 = .ok (.aload_n 0, 1) := by decide +kernel
theorem d_Job_init_52 : decode b_Job_init 52 = .ok (.iconst 0, 1) := by decide +kernel
theorem d_Job_init_53 : decode b_Job_init 53 = .ok (.putfield 38, 3) := by decide +kernel
theorem d_Job_init_56 : decode b_Job_init 56 = .ok (.return_, 1) := by decide +kernel
theorem d_ML_job_0 : decode b_ML_job 0 = .ok (.aload_n 0, 1) := by decide +kernel
theorem d_ML_job_1 : decode b_ML_job 1 = .ok (.getfield 24, 3) := by decide +kernel
theorem d_ML_job_4 : decode b_ML_job 4 = .ok (.bipush 20, 2) := by decide +kernel
theorem d_ML_job_6 : decode b_ML_job 6 = .ok (.if_icmp .lt 6, 3) := by decide +kernel
theorem d_ML_job_9 : decode b_ML_job 9 = .ok (.bipush (-4), 2) := by decide +kernel
theorem d_ML_job_11 : decode b_ML_job 11 = .ok (.ireturn, 1) := by decide +kernel
theorem d_ML_job_12 : decode b_ML_job 12 = .ok (.aload_n 0, 1) := by decide +kernel
theorem d_ML_job_13 : decode b_ML_job 13 = .ok (.getfield 11, 3) := by decide +kernel
theorem d_ML_job_16 : decode b_ML_job 16 = .ok (.aload_n 0, 1) := by decide +kernel
theorem d_ML_job_17 : decode b_ML_job 17 = .ok (.getfield 24, 3) := by decide +kernel
theorem d_ML_job_20 : decode b_ML_job 20 = .ok (.new 9, 3) := by decide +kernel
theorem d_ML_job_23 : decode b_ML_job 23 = .ok (.dup, 1) := by decide +kernel
theorem d_ML_job_24 : decode b_ML_job 24 = .ok (.invokespecial 32, 3) := by decide +kernel
theorem d_ML_job_27 : decode b_ML_job 27 = .ok (.aastore, 1) := by decide +kernel
theorem d_ML_job_28 : decode b_ML_job 28 = .ok (.aload_n 0, 1) := by decide +kernel
theorem d_ML_job_29 : decode b_ML_job 29 = .ok (.dup, 1) := by decide +kernel
theorem d_ML_job_30 : decode b_ML_job 30 = .ok (.getfield 24, 3) := by decide +kernel
theorem d_ML_job_33 : decode b_ML_job 33 = .ok (.iconst 1, 1) := by decide +kernel
theorem d_ML_job_34 : decode b_ML_job 34 = .ok (.iadd, 1) := by decide +kernel
theorem d_ML_job_35 : decode b_ML_job 35 = .ok (.putfield 24, 3) := by decide +kernel
theorem d_ML_job_38 : decode b_ML_job 38 = .ok (.aload_n 0, 1) := by decide +kernel
theorem d_ML_job_39 : decode b_ML_job 39 = .ok (.getfield 24, 3) := by decide +kernel
theorem d_ML_job_42 : decode b_ML_job 42 = .ok (.iconst 1, 1) := by decide +kernel
theorem d_ML_job_43 : decode b_ML_job 43 = .ok (.isub, 1) := by decide +kernel
theorem d_ML_job_44 : decode b_ML_job 44 = .ok (.ireturn, 1) := by decide +kernel
theorem d_ML_jobOrNull_0 : decode b_ML_jobOrNull 0 = .ok (.iload_n 1, 1) := by decide +kernel
theorem d_ML_jobOrNull_1 : decode b_ML_jobOrNull 1 = .ok (.ifCond .lt 17, 3) := by decide +kernel
theorem d_ML_jobOrNull_4 : decode b_ML_jobOrNull 4 = .ok (.iload_n 1, 1) := by decide +kernel
theorem d_ML_jobOrNull_5 : decode b_ML_jobOrNull 5 = .ok (.aload_n 0, 1) := by decide +kernel
theorem d_ML_jobOrNull_6 : decode b_ML_jobOrNull 6 = .ok (.getfield 24, 3) := by decide +kernel
theorem d_ML_jobOrNull_9 : decode b_ML_jobOrNull 9 = .ok (.if_icmp .ge 9, 3) := by decide +kernel
theorem d_ML_jobOrNull_12 : decode b_ML_jobOrNull 12 = .ok (.iload_n 1, 1) := by decide +kernel
theorem d_ML_jobOrNull_13 : decode b_ML_jobOrNull 13 = .ok (.bipush 20, 2) := by decide +kernel
theorem d_ML_jobOrNull_15 : decode b_ML_jobOrNull 15 = .ok (.if_icmp .lt 5, 3) := by decide +kernel
theorem d_ML_jobOrNull_18 : decode b_ML_jobOrNull 18 = .ok (.aconst_null, 1) := by decide +kernel
theorem d_ML_jobOrNull_19 : decode b_ML_jobOrNull 19 = .ok (.areturn, 1) := by decide +kernel
theorem d_ML_jobOrNull_20 : decode b_ML_jobOrNull 20 = .ok (.aload_n 0, 1) := by decide +kernel
theorem d_ML_jobOrNull_21 : decode b_ML_jobOrNull 21 = .ok (.getfield 11, 3) := by decide +kernel
theorem d_ML_jobOrNull_24 : decode b_ML_jobOrNull 24 = .ok (.iload_n 1, 1) := by decide +kernel
theorem d_ML_jobOrNull_25 : decode b_ML_jobOrNull 25 = .ok (.aaload, 1) := by decide +kernel
theorem d_ML_jobOrNull_26 : decode b_ML_jobOrNull 26 = .ok (.areturn, 1) := by decide +kernel
theorem d_Job_append_0 : decode b_Job_append 0 = .ok (.aload_n 0, 1) := by decide +kernel
theorem d_Job_append_1 : decode b_Job_append 1 = .ok (.getfield 19, 3) := by decide +kernel
theorem d_Job_append_4 : decode b_Job_append 4 = .ok (.sipush 200, 3) := by decide +kernel
theorem d_Job_append_7 : decode b_Job_append 7 = .ok (.if_icmp .lt 6, 3) := by decide +kernel
theorem d_Job_append_10 : decode b_Job_append 10 = .ok (.bipush (-4), 2) := by decide +kernel
theorem d_Job_append_12 : decode b_Job_append 12 = .ok (.ireturn, 1) := by decide +kernel
theorem d_Job_append_13 : decode b_Job_append 13 = .ok (.aload_n 0, 1) := by decide +kernel
theorem d_Job_append_14 : decode b_Job_append 14 = .ok (.getfield 9, 3) := by decide +kernel
theorem d_Job_append_17 : decode b_Job_append 17 = .ok (.aload_n 0, 1) := by decide +kernel
theorem d_Job_append_18 : decode b_Job_append 18 = .ok (.getfield 19, 3) := by decide +kernel
theorem d_Job_append_21 : decode b_Job_append 21 = .ok (.iload_n 1, 1) := by decide +kernel
theorem d_Job_append_22 : decode b_Job_append 22 = .ok (.bastore, 1) := by decide +kernel
theorem d_Job_append_23 : decode b_Job_append 23 = .ok (.aload_n 0, 1) := by decide +kernel
theorem d_Job_append_24 : decode b_Job_append 24 = .ok (.dup, 1) := by decide +kernel
theorem d_Job_append_25 : decode b_Job_append 25 = .ok (.getfield 19, 3) := by decide +kernel
theorem d_Job_append_28 : decode b_Job_append 28 = .ok (.iconst 1, 1) := by decide +kernel
theorem d_Job_append_29 : decode b_Job_append 29 = .ok (.iadd, 1) := by decide +kernel
theorem d_Job_append_30 : decode b_Job_append 30 = .ok (.putfield 19, 3) := by decide +kernel
theorem d_Job_append_33 : decode b_Job_append 33 = .ok (.aload_n 0, 1) := by decide +kernel
theorem d_Job_append_34 : decode b_Job_append 34 = .ok (.getfield 19, 3) := by decide +kernel
theorem d_Job_append_37 : decode b_Job_append 37 = .ok (.ireturn, 1) := by decide +kernel
theorem d_ML_add_0 : decode b_ML_add 0 = .ok (.aload_n 0, 1) := by decide +kernel
theorem d_ML_add_1 : decode b_ML_add 1 = .ok (.iload_n 1, 1) := by decide +kernel
theorem d_ML_add_2 : decode b_ML_add 2 = .ok (.invokevirtual 33, 3) := by decide +kernel
theorem d_ML_add_5 : decode b_ML_add 5 = .ok (.astore_n 3, 1) := by decide +kernel
theorem d_ML_add_6 : decode b_ML_add 6 = .ok (.aload_n 3, 1) := by decide +kernel
theorem d_ML_add_7 : decode b_ML_add 7 = .ok (.ifnonnull 5, 3) := by decide +kernel
theorem d_ML_add_10 : decode b_ML_add 10 = .ok (.iconst (-1), 1) := by decide +kernel
theorem d_ML_add_11 : decode b_ML_add 11 = .ok (.ireturn, 1) := by decide +kernel
theorem d_ML_add_12 : decode b_ML_add 12 = .ok (.aload_n 3, 1) := by decide +kernel
theorem d_ML_add_13 : decode b_ML_add 13 = .ok (.getfield 37, 3) := by decide +kernel
theorem d_ML_add_16 : decode b_ML_add 16 = .ok (.ifCond .eq 6, 3) := by decide +kernel
theorem d_ML_add_19 : decode b_ML_add 19 = .ok (.bipush (-3), 2) := by decide +kernel
theorem d_ML_add_21 : decode b_ML_add 21 = .ok (.ireturn, 1) := by decide +kernel
theorem d_ML_add_22 : decode b_ML_add 22 = .ok (.aload_n 3, 1) := by decide +kernel
theorem d_ML_add_23 : decode b_ML_add 23 = .ok (.iload_n 2, 1) := by decide +kernel
theorem d_ML_add_24 : decode b_ML_add 24 = .ok (.invokevirtual 40, 3) := by decide +kernel
theorem d_ML_add_27 : decode b_ML_add 27 = .ok (.ireturn, 1) := by decide +kernel
theorem d_Device_keep_0 : decode b_Device_keep 0 = .ok (.aload_n 0, 1) := by decide +kernel
theorem d_Device_keep_1 : decode b_Device_keep 1 = .ok (.getfield 9, 3) := by decide +kernel
theorem d_Device_keep_4 : decode b_Device_keep 4 = .ok (.iconst 0, 1) := by decide +kernel
theorem d_Device_keep_5 : decode b_Device_keep 5 = .ok (.aload_n 0, 1) := by decide +kernel
theorem d_Device_keep_6 : decode b_Device_keep 6 = .ok (.getfield 15, 3) := by decide +kernel
theorem d_Device_keep_9 : decode b_Device_keep 9 = .ok (.iconst 0, 1) := by decide +kernel
theorem d_Device_keep_10 : decode b_Device_keep 10 = .ok (.iconst 4, 1) := by decide +kernel
theorem d_Device_keep_11 : decode b_Device_keep 11 = .ok (.invokestatic 27, 3) := by decide +kernel
theorem d_Device_keep_14 : decode b_Device_keep 14 = .ok (.return_, 1) := by decide +kernel
theorem d_Resources_keep_0 : decode b_Resources_keep 0 = .ok (.aload_n 0, 1) := by decide +kernel
theorem d_Resources_keep_1 : decode b_Resources_keep 1 = .ok (.getfield 9, 3) := by decide +kernel
theorem d_Resources_keep_4 : decode b_Resources_keep 4 = .ok (.iconst 0, 1) := by decide +kernel
theorem d_Resources_keep_5 : decode b_Resources_keep 5 = .ok (.aload_n 0, 1) := by decide +kernel
theorem d_Resources_keep_6 : decode b_Resources_keep 6 = .ok (.getfield 15, 3) := by decide +kernel
theorem d_Resources_keep_9 : decode b_Resources_keep 9 = .ok (.iconst 0, 1) := by decide +kernel
theorem d_Resources_keep_10 : decode b_Resources_keep 10 = .ok (.aload_n 0, 1) := by decide +kernel
theorem d_Resources_keep_11 : decode b_Resources_keep 11 = .ok (.getfield 9, 3) := by decide +kernel
theorem d_Resources_keep_14 : decode b_Resources_keep 14 = .ok (.arraylength, 1) := by decide +kernel
theorem d_Resources_keep_15 : decode b_Resources_keep 15 = .ok (.invokestatic 22, 3) := by decide +kernel
theorem d_Resources_keep_18 : decode b_Resources_keep 18 = .ok (.return_, 1) := by decide +kernel
theorem d_FileTree_handleOrNull_0 : decode b_FileTree_handleOrNull 0 = .ok (.iload_n 1, 1) := by decide +kernel
theorem d_FileTree_handleOrNull_1 : decode b_FileTree_handleOrNull 1 = .ok (.iconst 1, 1) := by decide +kernel
theorem d_FileTree_handleOrNull_2 : decode b_FileTree_handleOrNull 2 = .ok (.if_icmp .lt 9, 3) := by decide +kernel
theorem d_FileTree_handleOrNull_5 : decode b_FileTree_handleOrNull 5 = .ok (.iload_n 1, 1) := by decide +kernel
theorem d_FileTree_handleOrNull_6 : decode b_FileTree_handleOrNull 6 = .ok (.bipush 7, 2) := by decide +kernel
theorem d_FileTree_handleOrNull_8 : decode b_FileTree_handleOrNull 8 = .ok (.if_icmp .le 7, 3) := by decide +kernel
theorem d_FileTree_handleOrNull_11 : decode b_FileTree_handleOrNull 11 = .ok (.aconst_null, 1) := by decide +kernel
