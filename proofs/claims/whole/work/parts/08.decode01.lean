theorem d_FileTree_handleOrNull_12 : decode b_FileTree_handleOrNull 12 = .ok (.goto 9, 3) := by decide +kernel
theorem d_FileTree_handleOrNull_15 : decode b_FileTree_handleOrNull 15 = .ok (.aload_n 0, 1) := by decide +kernel
theorem d_FileTree_handleOrNull_16 : decode b_FileTree_handleOrNull 16 = .ok (.getfield 31, 3) := by decide +kernel
theorem d_FileTree_handleOrNull_19 : decode b_FileTree_handleOrNull 19 = .ok (.iload_n 1, 1) := by decide +kernel
theorem d_FileTree_handleOrNull_20 : decode b_FileTree_handleOrNull 20 = .ok (.aaload, 1) := by decide +kernel
theorem d_FileTree_handleOrNull_21 : decode b_FileTree_handleOrNull 21 = .ok (.areturn, 1) := by decide +kernel
theorem d_Handle_keepFilters_0 : decode b_Handle_keepFilters 0 = .ok (.aload_n 0, 1) := by decide +kernel
theorem d_Handle_keepFilters_1 : decode b_Handle_keepFilters 1 = .ok (.aload_n 0, 1) := by decide +kernel
theorem d_Handle_keepFilters_2 : decode b_Handle_keepFilters 2 = .ok (.getfield 33, 3) := by decide +kernel
theorem d_Handle_keepFilters_5 : decode b_Handle_keepFilters 5 = .ok (.putfield 36, 3) := by decide +kernel
theorem d_Handle_keepFilters_8 : decode b_Handle_keepFilters 8 = .ok (.return_, 1) := by decide +kernel
theorem d_FileTree_keep_0 : decode b_FileTree_keep 0 = .ok (.iconst 1, 1) := by decide +kernel
theorem d_FileTree_keep_1 : decode b_FileTree_keep 1 = .ok (.istore_n 1, 1) := by decide +kernel
theorem d_FileTree_keep_2 : decode b_FileTree_keep 2 = .ok (.iload_n 1, 1) := by decide +kernel
theorem d_FileTree_keep_3 : decode b_FileTree_keep 3 = .ok (.bipush 7, 2) := by decide +kernel
theorem d_FileTree_keep_5 : decode b_FileTree_keep 5 = .ok (.if_icmp .gt 23, 3) := by decide +kernel
theorem d_FileTree_keep_8 : decode b_FileTree_keep 8 = .ok (.aload_n 0, 1) := by decide +kernel
theorem d_FileTree_keep_9 : decode b_FileTree_keep 9 = .ok (.iload_n 1, 1) := by decide +kernel
theorem d_FileTree_keep_10 : decode b_FileTree_keep 10 = .ok (.invokevirtual 51, 3) := by decide +kernel
theorem d_FileTree_keep_13 : decode b_FileTree_keep 13 = .ok (.astore_n 2, 1) := by decide +kernel
theorem d_FileTree_keep_14 : decode b_FileTree_keep 14 = .ok (.aload_n 2, 1) := by decide +kernel
theorem d_FileTree_keep_15 : decode b_FileTree_keep 15 = .ok (.ifnull 7, 3) := by decide +kernel
theorem d_FileTree_keep_18 : decode b_FileTree_keep 18 = .ok (.aload_n 2, 1) := by decide +kernel
theorem d_FileTree_keep_19 : decode b_FileTree_keep 19 = .ok (.invokevirtual 95, 3) := by decide +kernel
theorem d_FileTree_keep_22 : decode b_FileTree_keep 22 = .ok (.iinc 1 1, 3) := by decide +kernel
theorem d_FileTree_keep_25 : decode b_FileTree_keep 25 = .ok (.goto (-23), 3) := by decide +kernel
theorem d_FileTree_keep_28 : decode b_FileTree_keep 28 = .ok (.return_, 1) := by decide +kernel
theorem d_Job_signAt_0 : decode b_Job_signAt 0 = .ok (.iload_n 1, 1) := by decide +kernel
theorem d_Job_signAt_1 : decode b_Job_signAt 1 = .ok (.ifCond .lt 11, 3) := by decide +kernel
theorem d_Job_signAt_4 : decode b_Job_signAt 4 = .ok (.iload_n 1, 1) := by decide +kernel
theorem d_Job_signAt_5 : decode b_Job_signAt 5 = .ok (.aload_n 0, 1) := by decide +kernel
theorem d_Job_signAt_6 : decode b_Job_signAt 6 = .ok (.getfield 19, 3) := by decide +kernel
theorem d_Job_signAt_9 : decode b_Job_signAt 9 = .ok (.if_icmp .lt 7, 3) := by decide +kernel
theorem d_Job_signAt_12 : decode b_Job_signAt 12 = .ok (.iconst (-1), 1) := by decide +kernel
theorem d_Job_signAt_13 : decode b_Job_signAt 13 = .ok (.goto 9, 3) := by decide +kernel
theorem d_Job_signAt_16 : decode b_Job_signAt 16 = .ok (.aload_n 0, 1) := by decide +kernel
theorem d_Job_signAt_17 : decode b_Job_signAt 17 = .ok (.getfield 9, 3) := by decide +kernel
theorem d_Job_signAt_20 : decode b_Job_signAt 20 = .ok (.iload_n 1, 1) := by decide +kernel
theorem d_Job_signAt_21 : decode b_Job_signAt 21 = .ok (.baload, 1) := by decide +kernel
theorem d_Job_signAt_22 : decode b_Job_signAt 22 = .ok (.ireturn, 1) := by decide +kernel
theorem d_Plan_findDoneSigns_0 : decode b_Plan_findDoneSigns 0 = .ok (.iconst 0, 1) := by decide +kernel
theorem d_Plan_findDoneSigns_1 : decode b_Plan_findDoneSigns 1 = .ok (.istore_n 2, 1) := by decide +kernel
theorem d_Plan_findDoneSigns_2 : decode b_Plan_findDoneSigns 2 = .ok (.iconst 0, 1) := by decide +kernel
theorem d_Plan_findDoneSigns_3 : decode b_Plan_findDoneSigns 3 = .ok (.istore_n 3, 1) := by decide +kernel
theorem d_Plan_findDoneSigns_4 : decode b_Plan_findDoneSigns 4 = .ok (.iload_n 3, 1) := by decide +kernel
theorem d_Plan_findDoneSigns_5 : decode b_Plan_findDoneSigns 5 = .ok (.aload_n 0, 1) := by decide +kernel
theorem d_Plan_findDoneSigns_6 : decode b_Plan_findDoneSigns 6 = .ok (.getfield 21, 3) := by decide +kernel
theorem d_Plan_findDoneSigns_9 : decode b_Plan_findDoneSigns 9 = .ok (.if_icmp .ge 79, 3) := by decide +kernel
theorem d_Plan_findDoneSigns_12 : decode b_Plan_findDoneSigns 12 = .ok (.aload_n 1, 1) := by decide +kernel
theorem d_Plan_findDoneSigns_13 : decode b_Plan_findDoneSigns 13 = .ok (.iload_n 3, 1) := by decide +kernel
theorem d_Plan_findDoneSigns_14 : decode b_Plan_findDoneSigns 14 = .ok (.invokevirtual 41, 3) := by decide +kernel
theorem d_Plan_findDoneSigns_17 : decode b_Plan_findDoneSigns 17 = .ok (.istore 4, 2) := by decide +kernel
theorem d_Plan_findDoneSigns_19 : decode b_Plan_findDoneSigns 19 = .ok (.iload_n 2, 1) := by decide +kernel
theorem d_Plan_findDoneSigns_20 : decode b_Plan_findDoneSigns 20 = .ok (.ifCond .ne 10, 3) := by decide +kernel
theorem d_Plan_findDoneSigns_23 : decode b_Plan_findDoneSigns 23 = .ok (.iload 4, 2) := by decide +kernel
theorem d_Plan_findDoneSigns_25 : decode b_Plan_findDoneSigns 25 = .ok (.bipush 37, 2) := by decide +kernel
theorem d_Plan_findDoneSigns_27 : decode b_Plan_findDoneSigns 27 = .ok (.if_icmp .ne 7, 3) := by decide +kernel
theorem d_Plan_findDoneSigns_30 : decode b_Plan_findDoneSigns 30 = .ok (.iconst 1, 1) := by decide +kernel
theorem d_Plan_findDoneSigns_31 : decode b_Plan_findDoneSigns 31 = .ok (.goto 4, 3) := by decide +kernel
theorem d_Plan_findDoneSigns_34 : decode b_Plan_findDoneSigns 34 = .ok (.iconst 0, 1) := by decide +kernel
theorem d_Plan_findDoneSigns_35 : decode b_Plan_findDoneSigns 35 = .ok (.istore_n 2, 1) := by decide +kernel
theorem d_Plan_findDoneSigns_36 : decode b_Plan_findDoneSigns 36 = .ok (.aload_n 0, 1) := by decide +kernel
theorem d_Plan_findDoneSigns_37 : decode b_Plan_findDoneSigns 37 = .ok (.getfield 9, 3) := by decide +kernel
theorem d_Plan_findDoneSigns_40 : decode b_Plan_findDoneSigns 40 = .ok (.iload_n 3, 1) := by decide +kernel
theorem d_Plan_findDoneSigns_41 : decode b_Plan_findDoneSigns 41 = .ok (.iload_n 2, 1) := by decide +kernel
theorem d_Plan_findDoneSigns_42 : decode b_Plan_findDoneSigns 42 = .ok (.ifCond .ne 17, 3) := by decide +kernel
theorem d_Plan_findDoneSigns_45 : decode b_Plan_findDoneSigns 45 = .ok (.iload 4, 2) := by decide +kernel
theorem d_Plan_findDoneSigns_47 : decode b_Plan_findDoneSigns 47 = .ok (.bipush 32, 2) := by decide +kernel
theorem d_Plan_findDoneSigns_49 : decode b_Plan_findDoneSigns 49 = .ok (.if_icmp .eq 10, 3) := by decide +kernel
theorem d_Plan_findDoneSigns_52 : decode b_Plan_findDoneSigns 52 = .ok (.iload 4, 2) := by decide +kernel
theorem d_Plan_findDoneSigns_54 : decode b_Plan_findDoneSigns 54 = .ok (.bipush 10, 2) := by decide +kernel
theorem d_Plan_findDoneSigns_56 : decode b_Plan_findDoneSigns 56 = .ok (.if_icmp .ne 7, 3) := by decide +kernel
theorem d_Plan_findDoneSigns_59 : decode b_Plan_findDoneSigns 59 = .ok (.iconst (-1), 1) := by decide +kernel
theorem d_Plan_findDoneSigns_60 : decode b_Plan_findDoneSigns 60 = .ok (.goto 4, 3) := by decide +kernel
theorem d_Plan_findDoneSigns_63 : decode b_Plan_findDoneSigns 63 = .ok (.iload_n 3, 1) := by decide +kernel
theorem d_Plan_findDoneSigns_64 : decode b_Plan_findDoneSigns 64 = .ok (.iastore, 1) := by decide +kernel
theorem d_Plan_findDoneSigns_65 : decode b_Plan_findDoneSigns 65 = .ok (.iload_n 2, 1) := by decide +kernel
theorem d_Plan_findDoneSigns_66 : decode b_Plan_findDoneSigns 66 = .ok (.ifCond .eq 14, 3) := by decide +kernel
theorem d_Plan_findDoneSigns_69 : decode b_Plan_findDoneSigns 69 = .ok (.iload 4, 2) := by decide +kernel
theorem d_Plan_findDoneSigns_71 : decode b_Plan_findDoneSigns 71 = .ok (.bipush 10, 2) := by decide +kernel
theorem d_Plan_findDoneSigns_73 : decode b_Plan_findDoneSigns 73 = .ok (.if_icmp .eq 7, 3) := by decide +kernel
theorem d_Plan_findDoneSigns_76 : decode b_Plan_findDoneSigns 76 = .ok (.iconst 1, 1) := by decide +kernel
theorem d_Plan_findDoneSigns_77 : decode b_Plan_findDoneSigns 77 = .ok (.goto 4, 3) := by decide +kernel
theorem d_Plan_findDoneSigns_80 : decode b_Plan_findDoneSigns 80 = .ok (.iconst 0, 1) := by decide +kernel
theorem d_Plan_findDoneSigns_81 : decode b_Plan_findDoneSigns 81 = .ok (.istore_n 2, 1) := by decide +kernel
theorem d_Plan_findDoneSigns_82 : decode b_Plan_findDoneSigns 82 = .ok (.iinc 3 1, 3) := by decide +kernel
theorem d_Plan_findDoneSigns_85 : decode b_Plan_findDoneSigns 85 = .ok (.goto (-81), 3) := by decide +kernel
theorem d_Plan_findDoneSigns_88 : decode b_Plan_findDoneSigns 88 = .ok (.aload_n 0, 1) := by decide +kernel
theorem d_Plan_findDoneSigns_89 : decode b_Plan_findDoneSigns 89 = .ok (.getfield 21, 3) := by decide +kernel
theorem d_Plan_findDoneSigns_92 : decode b_Plan_findDoneSigns 92 = .ok (.istore_n 3, 1) := by decide +kernel
theorem d_Plan_findDoneSigns_93 : decode b_Plan_findDoneSigns 93 = .ok (.aload_n 0, 1) := by decide +kernel
theorem d_Plan_findDoneSigns_94 : decode b_Plan_findDoneSigns 94 = .ok (.getfield 21, 3) := by decide +kernel
theorem d_Plan_findDoneSigns_97 : decode b_Plan_findDoneSigns 97 = .ok (.iconst 1, 1) := by decide +kernel
theorem d_Plan_findDoneSigns_98 : decode b_Plan_findDoneSigns 98 = .ok (.isub, 1) := by decide +kernel
theorem d_Plan_findDoneSigns_99 : decode b_Plan_findDoneSigns 99 = .ok (.istore 4, 2) := by decide +kernel
theorem d_Plan_findDoneSigns_101 : decode b_Plan_findDoneSigns 101 = .ok (.iload 4, 2) := by decide +kernel
theorem d_Plan_findDoneSigns_103 : decode b_Plan_findDoneSigns 103 = .ok (.ifCond .lt 35, 3) := by decide +kernel
theorem d_Plan_findDoneSigns_106 : decode b_Plan_findDoneSigns 106 = .ok (.aload_n 0, 1) := by decide +kernel
theorem d_Plan_findDoneSigns_107 : decode b_Plan_findDoneSigns 107 = .ok (.getfield 9, 3) := by decide +kernel
theorem d_Plan_findDoneSigns_110 : decode b_Plan_findDoneSigns 110 = .ok (.iload 4, 2) := by decide +kernel
theorem d_Plan_findDoneSigns_112 : decode b_Plan_findDoneSigns 112 = .ok (.iaload, 1) := by decide +kernel
theorem d_Plan_findDoneSigns_113 : decode b_Plan_findDoneSigns 113 = .ok (.iconst (-1), 1) := by decide +kernel
theorem d_Plan_findDoneSigns_114 : decode b_Plan_findDoneSigns 114 = .ok (.if_icmp .ne 7, 3) := by decide +kernel
theorem d_Plan_findDoneSigns_117 : decode b_Plan_findDoneSigns 117 = .ok (.iload_n 3, 1) := by decide +kernel
theorem d_Plan_findDoneSigns_118 : decode b_Plan_findDoneSigns 118 = .ok (.goto 5, 3) := by decide +kernel
theorem d_Plan_findDoneSigns_121 : decode b_Plan_findDoneSigns 121 = .ok (.iload 4, 2) := by decide +kernel
theorem d_Plan_findDoneSigns_123 : decode b_Plan_findDoneSigns 123 = .ok (.istore_n 3, 1) := by decide +kernel
theorem d_Plan_findDoneSigns_124 : decode b_Plan_findDoneSigns 124 = .ok (.aload_n 0, 1) := by decide +kernel
theorem d_Plan_findDoneSigns_125 : decode b_Plan_findDoneSigns 125 = .ok (.getfield 9, 3) := by decide +kernel
theorem d_Plan_findDoneSigns_128 : decode b_Plan_findDoneSigns 128 = .ok (.iload 4, 2) := by decide +kernel
theorem d_Plan_findDoneSigns_130 : decode b_Plan_findDoneSigns 130 = .ok (.iload_n 3, 1) := by decide +kernel
theorem d_Plan_findDoneSigns_131 : decode b_Plan_findDoneSigns 131 = .ok (.iastore, 1) := by decide +kernel
theorem d_Plan_findDoneSigns_132 : decode b_Plan_findDoneSigns 132 = .ok (.iinc 4 (-1), 3) := by decide +kernel
theorem d_Plan_findDoneSigns_135 : decode b_Plan_findDoneSigns 135 = .ok (.goto (-34), 3) := by decide +kernel
theorem d_Plan_findDoneSigns_138 : decode b_Plan_findDoneSigns 138 = .ok (.return_, 1) := by decide +kernel
theorem d_Plan_findMates_0 : decode b_Plan_findMates 0 = .ok (.iconst 0, 1) := by decide +kernel
theorem d_Plan_findMates_1 : decode b_Plan_findMates 1 = .ok (.istore_n 2, 1) := by decide +kernel
theorem d_Plan_findMates_2 : decode b_Plan_findMates 2 = .ok (.iconst 0, 1) := by decide +kernel
theorem d_Plan_findMates_3 : decode b_Plan_findMates 3 = .ok (.istore_n 3, 1) := by decide +kernel
theorem d_Plan_findMates_4 : decode b_Plan_findMates 4 = .ok (.iload_n 3, 1) := by decide +kernel
theorem d_Plan_findMates_5 : decode b_Plan_findMates 5 = .ok (.aload_n 0, 1) := by decide +kernel
theorem d_Plan_findMates_6 : decode b_Plan_findMates 6 = .ok (.getfield 21, 3) := by decide +kernel
theorem d_Plan_findMates_9 : decode b_Plan_findMates 9 = .ok (.if_icmp .ge 102, 3) := by decide +kernel
theorem d_Plan_findMates_12 : decode b_Plan_findMates 12 = .ok (.aload_n 0, 1) := by decide +kernel
theorem d_Plan_findMates_13 : decode b_Plan_findMates 13 = .ok (.getfield 15, 3) := by decide +kernel
theorem d_Plan_findMates_16 : decode b_Plan_findMates 16 = .ok (.iload_n 3, 1) := by decide +kernel
theorem d_Plan_findMates_17 : decode b_Plan_findMates 17 = .ok (.iconst (-1), 1) := by decide +kernel
theorem d_Plan_findMates_18 : decode b_Plan_findMates 18 = .ok (.iastore, 1) := by decide +kernel
theorem d_Plan_findMates_19 : decode b_Plan_findMates 19 = .ok (.aload_n 0, 1) := by decide +kernel
theorem d_Plan_findMates_20 : decode b_Plan_findMates 20 = .ok (.getfield 9, 3) := by decide +kernel
theorem d_Plan_findMates_23 : decode b_Plan_findMates 23 = .ok (.iload_n 3, 1) := by decide +kernel
theorem d_Plan_findMates_24 : decode b_Plan_findMates 24 = .ok (.iaload, 1) := by decide +kernel
theorem d_Plan_findMates_25 : decode b_Plan_findMates 25 = .ok (.iload_n 3, 1) := by decide +kernel
theorem d_Plan_findMates_26 : decode b_Plan_findMates 26 = .ok (.if_icmp .ne 11, 3) := by decide +kernel
theorem d_Plan_findMates_29 : decode b_Plan_findMates 29 = .ok (.aload_n 1, 1) := by decide +kernel
theorem d_Plan_findMates_30 : decode b_Plan_findMates 30 = .ok (.iload_n 3, 1) := by decide +kernel
theorem d_Plan_findMates_31 : decode b_Plan_findMates 31 = .ok (.invokevirtual 41, 3) := by decide +kernel
theorem d_Plan_findMates_34 : decode b_Plan_findMates 34 = .ok (.goto 4, 3) := by decide +kernel
theorem d_Plan_findMates_37 : decode b_Plan_findMates 37 = .ok (.iconst (-1), 1) := by decide +kernel
theorem d_Plan_findMates_38 : decode b_Plan_findMates 38 = .ok (.istore 4, 2) := by decide +kernel
theorem d_Plan_findMates_40 : decode b_Plan_findMates 40 = .ok (.iload 4, 2) := by decide +kernel
theorem d_Plan_findMates_42 : decode b_Plan_findMates 42 = .ok (.bipush 123, 2) := by decide +kernel
theorem d_Plan_findMates_44 : decode b_Plan_findMates 44 = .ok (.if_icmp .ne 23, 3) := by decide +kernel
theorem d_Plan_findMates_47 : decode b_Plan_findMates 47 = .ok (.iload_n 2, 1) := by decide +kernel
theorem d_Plan_findMates_48 : decode b_Plan_findMates 48 = .ok (.sipush 200, 3) := by decide +kernel
theorem d_Plan_findMates_51 : decode b_Plan_findMates 51 = .ok (.if_icmp .ge 16, 3) := by decide +kernel
theorem d_Plan_findMates_54 : decode b_Plan_findMates 54 = .ok (.aload_n 0, 1) := by decide +kernel
theorem d_Plan_findMates_55 : decode b_Plan_findMates 55 = .ok (.getfield 18, 3) := by decide +kernel
theorem d_Plan_findMates_58 : decode b_Plan_findMates 58 = .ok (.iload_n 2, 1) := by decide +kernel
theorem d_Plan_findMates_59 : decode b_Plan_findMates 59 = .ok (.iload_n 3, 1) := by decide +kernel
theorem d_Plan_findMates_60 : decode b_Plan_findMates 60 = .ok (.iastore, 1) := by decide +kernel
theorem d_Plan_findMates_61 : decode b_Plan_findMates 61 = .ok (.iinc 2 1, 3) := by decide +kernel
theorem d_Plan_findMates_64 : decode b_Plan_findMates 64 = .ok (.goto 41, 3) := by decide +kernel
theorem d_Plan_findMates_67 : decode b_Plan_findMates 67 = .ok (.iload 4, 2) := by decide +kernel
theorem d_Plan_findMates_69 : decode b_Plan_findMates 69 = .ok (.bipush 125, 2) := by decide +kernel
theorem d_Plan_findMates_71 : decode b_Plan_findMates 71 = .ok (.if_icmp .ne 34, 3) := by decide +kernel
theorem d_Plan_findMates_74 : decode b_Plan_findMates 74 = .ok (.iload_n 2, 1) := by decide +kernel
theorem d_Plan_findMates_75 : decode b_Plan_findMates 75 = .ok (.ifCond .le 30, 3) := by decide +kernel
theorem d_Plan_findMates_78 : decode b_Plan_findMates 78 = .ok (.iinc 2 (-1), 3) := by decide +kernel
theorem d_Plan_findMates_81 : decode b_Plan_findMates 81 = .ok (.aload_n 0, 1) := by decide +kernel
theorem d_Plan_findMates_82 : decode b_Plan_findMates 82 = .ok (.getfield 15, 3) := by decide +kernel
theorem d_Plan_findMates_85 : decode b_Plan_findMates 85 = .ok (.iload_n 3, 1) := by decide +kernel
theorem d_Plan_findMates_86 : decode b_Plan_findMates 86 = .ok (.aload_n 0, 1) := by decide +kernel
theorem d_Plan_findMates_87 : decode b_Plan_findMates 87 = .ok (.getfield 18, 3) := by decide +kernel
theorem d_Plan_findMates_90 : decode b_Plan_findMates 90 = .ok (.iload_n 2, 1) := by decide +kernel
theorem d_Plan_findMates_91 : decode b_Plan_findMates 91 = .ok (.iaload, 1) := by decide +kernel
theorem d_Plan_findMates_92 : decode b_Plan_findMates 92 = .ok (.iastore, 1) := by decide +kernel
theorem d_Plan_findMates_93 : decode b_Plan_findMates 93 = .ok (.aload_n 0, 1) := by decide +kernel
theorem d_Plan_findMates_94 : decode b_Plan_findMates 94 = .ok (.getfield 15, 3) := by decide +kernel
theorem d_Plan_findMates_97 : decode b_Plan_findMates 97 = .ok (.aload_n 0, 1) := by decide +kernel
theorem d_Plan_findMates_98 : decode b_Plan_findMates 98 = .ok (.getfield 18, 3) := by decide +kernel
theorem d_Plan_findMates_101 : decode b_Plan_findMates 101 = .ok (.iload_n 2, 1) := by decide +kernel
theorem d_Plan_findMates_102 : decode b_Plan_findMates 102 = .ok (.iaload, 1) := by decide +kernel
theorem d_Plan_findMates_103 : decode b_Plan_findMates 103 = .ok (.iload_n 3, 1) := by decide +kernel
theorem d_Plan_findMates_104 : decode b_Plan_findMates 104 = .ok (.iastore, 1) := by decide +kernel
theorem d_Plan_findMates_105 : decode b_Plan_findMates 105 = .ok (.iinc 3 1, 3) := by decide +kernel
theorem d_Plan_findMates_108 : decode b_Plan_findMates 108 = .ok (.goto (-104), 3) := by decide +kernel
theorem d_Plan_findMates_111 : decode b_Plan_findMates 111 = .ok (.return_, 1) := by decide +kernel
theorem d_Plan_prepare_0 : decode b_Plan_prepare 0 = .ok (.aload_n 0, 1) := by decide +kernel
theorem d_Plan_prepare_1 : decode b_Plan_prepare 1 = .ok (.aload_n 1, 1) := by decide +kernel
theorem d_Plan_prepare_2 : decode b_Plan_prepare 2 = .ok (.getfield 25, 3) := by decide +kernel
theorem d_Plan_prepare_5 : decode b_Plan_prepare 5 = .ok (.sipush 200, 3) := by decide +kernel
theorem d_Plan_prepare_8 : decode b_Plan_prepare 8 = .ok (.invokestatic 28, 3) := by decide +kernel
theorem d_Plan_prepare_11 : decode b_Plan_prepare 11 = .ok (.putfield 21, 3) := by decide +kernel
theorem d_Plan_prepare_14 : decode b_Plan_prepare 14 = .ok (.aload_n 0, 1) := by decide +kernel
theorem d_Plan_prepare_15 : decode b_Plan_prepare 15 = .ok (.aload_n 1, 1) := by decide +kernel
theorem d_Plan_prepare_16 : decode b_Plan_prepare 16 = .ok (.invokevirtual 34, 3) := by decide +kernel
theorem d_Plan_prepare_19 : decode b_Plan_prepare 19 = .ok (.aload_n 0, 1) := by decide +kernel
theorem d_Plan_prepare_20 : decode b_Plan_prepare 20 = .ok (.aload_n 1, 1) := by decide +kernel
theorem d_Plan_prepare_21 : decode b_Plan_prepare 21 = .ok (.invokevirtual 38, 3) := by decide +kernel
theorem d_Plan_prepare_24 : decode b_Plan_prepare 24 = .ok (.return_, 1) := by decide +kernel
theorem d_Numbers_clear_0 : decode b_Numbers_clear 0 = .ok (.aload_n 0, 1) := by decide +kernel
theorem d_Numbers_clear_1 : decode b_Numbers_clear 1 = .ok (.iconst 0, 1) := by decide +kernel
theorem d_Numbers_clear_2 : decode b_Numbers_clear 2 = .ok (.putfield 15, 3) := by decide +kernel
theorem d_Numbers_clear_5 : decode b_Numbers_clear 5 = .ok (.return_, 1) := by decide +kernel
theorem d_Plan_firstDoneFrom_0 : decode b_Plan_firstDoneFrom 0 = .ok (.iload_n 1, 1) := by decide +kernel
theorem d_Plan_firstDoneFrom_1 : decode b_Plan_firstDoneFrom 1 = .ok (.ifCond .lt 11, 3) := by decide +kernel
theorem d_Plan_firstDoneFrom_4 : decode b_Plan_firstDoneFrom 4 = .ok (.iload_n 1, 1) := by decide +kernel
theorem d_Plan_firstDoneFrom_5 : decode b_Plan_firstDoneFrom 5 = .ok (.aload_n 0, 1) := by decide +kernel
theorem d_Plan_firstDoneFrom_6 : decode b_Plan_firstDoneFrom 6 = .ok (.getfield 21, 3) := by decide +kernel
theorem d_Plan_firstDoneFrom_9 : decode b_Plan_firstDoneFrom 9 = .ok (.if_icmp .lt 10, 3) := by decide +kernel
theorem d_Plan_firstDoneFrom_12 : decode b_Plan_firstDoneFrom 12 = .ok (.aload_n 0, 1) := by decide +kernel
theorem d_Plan_firstDoneFrom_13 : decode b_Plan_firstDoneFrom 13 = .ok (.getfield 21, 3) := by decide +kernel
theorem d_Plan_firstDoneFrom_16 : decode b_Plan_firstDoneFrom 16 = .ok (.goto 9, 3) := by decide +kernel
theorem d_Plan_firstDoneFrom_19 : decode b_Plan_firstDoneFrom 19 = .ok (.aload_n 0, 1) := by decide +kernel
theorem d_Plan_firstDoneFrom_20 : decode b_Plan_firstDoneFrom 20 = .ok (.getfield 9, 3) := by decide +kernel
theorem d_Plan_firstDoneFrom_23 : decode b_Plan_firstDoneFrom 23 = .ok (.iload_n 1, 1) := by decide +kernel
theorem d_Plan_firstDoneFrom_24 : decode b_Plan_firstDoneFrom 24 = .ok (.iaload, 1) := by decide +kernel
theorem d_Plan_firstDoneFrom_25 : decode b_Plan_firstDoneFrom 25 = .ok (.ireturn, 1) := by decide +kernel
theorem d_Machine_begin_0 : decode b_Machine_begin 0 = .ok (.aload_n 0, 1) := by decide +kernel
theorem d_Machine_begin_1 : decode b_Machine_begin 1 = .ok (.getfield 12, 3) := by decide +kernel
theorem d_Machine_begin_4 : decode b_Machine_begin 4 = .ok (.invokevirtual 107, 3) := by decide +kernel
theorem d_Machine_begin_7 : decode b_Machine_begin 7 = .ok (.aload_n 0, 1) := by decide +kernel
theorem d_Machine_begin_8 : decode b_Machine_begin 8 = .ok (.getfield 21, 3) := by decide +kernel
theorem d_Machine_begin_11 : decode b_Machine_begin 11 = .ok (.invokevirtual 110, 3) := by decide +kernel
theorem d_Machine_begin_14 : decode b_Machine_begin 14 = .ok (.aload_n 0, 1) := by decide +kernel
theorem d_Machine_begin_15 : decode b_Machine_begin 15 = .ok (.getfield 28, 3) := by decide +kernel
theorem d_Machine_begin_18 : decode b_Machine_begin 18 = .ok (.invokevirtual 111, 3) := by decide +kernel
theorem d_Machine_begin_21 : decode b_Machine_begin 21 = .ok (.aload_n 0, 1) := by decide +kernel
theorem d_Machine_begin_22 : decode b_Machine_begin 22 = .ok (.getfield 57, 3) := by decide +kernel
theorem d_Machine_begin_25 : decode b_Machine_begin 25 = .ok (.aload_n 1, 1) := by decide +kernel
theorem d_Machine_begin_26 : decode b_Machine_begin 26 = .ok (.invokevirtual 112, 3) := by decide +kernel
theorem d_Machine_begin_29 : decode b_Machine_begin 29 = .ok (.aload_n 0, 1) := by decide +kernel
theorem d_Machine_begin_30 : decode b_Machine_begin 30 = .ok (.getfield 50, 3) := by decide +kernel
theorem d_Machine_begin_33 : decode b_Machine_begin 33 = .ok (.invokevirtual 115, 3) := by decide +kernel
theorem d_Machine_begin_36 : decode b_Machine_begin 36 = .ok (.aload_n 0, 1) := by decide +kernel
theorem d_Machine_begin_37 : decode b_Machine_begin 37 = .ok (.iconst 0, 1) := by decide +kernel
theorem d_Machine_begin_38 : decode b_Machine_begin 38 = .ok (.putfield 65, 3) := by decide +kernel
theorem d_Machine_begin_41 : decode b_Machine_begin 41 = .ok (.aload_n 0, 1) := by decide +kernel
theorem d_Machine_begin_42 : decode b_Machine_begin 42 = .ok (.iconst 0, 1) := by decide +kernel
theorem d_Machine_begin_43 : decode b_Machine_begin 43 = .ok (.putfield 68, 3) := by decide +kernel
theorem d_Machine_begin_46 : decode b_Machine_begin 46 = .ok (.aload_n 0, 1) := by decide +kernel
theorem d_Machine_begin_47 : decode b_Machine_begin 47 = .ok (.aload_n 0, 1) := by decide +kernel
theorem d_Machine_begin_48 : decode b_Machine_begin 48 = .ok (.getfield 57, 3) := by decide +kernel
theorem d_Machine_begin_51 : decode b_Machine_begin 51 = .ok (.iconst 0, 1) := by decide +kernel
theorem d_Machine_begin_52 : decode b_Machine_begin 52 = .ok (.invokevirtual 89, 3) := by decide +kernel
theorem d_Machine_begin_55 : decode b_Machine_begin 55 = .ok (.putfield 71, 3) := by decide +kernel
theorem d_Machine_begin_58 : decode b_Machine_begin 58 = .ok (.return_, 1) := by decide +kernel
theorem d_Numbers_lay_0 : decode b_Numbers_lay 0 = .ok (.aload_n 0, 1) := by decide +kernel
theorem d_Numbers_lay_1 : decode b_Numbers_lay 1 = .ok (.getfield 15, 3) := by decide +kernel
theorem d_Numbers_lay_4 : decode b_Numbers_lay 4 = .ok (.bipush 20, 2) := by decide +kernel
theorem d_Numbers_lay_6 : decode b_Numbers_lay 6 = .ok (.if_icmp .lt 6, 3) := by decide +kernel
theorem d_Numbers_lay_9 : decode b_Numbers_lay 9 = .ok (.bipush 6, 2) := by decide +kernel
theorem d_Numbers_lay_11 : decode b_Numbers_lay 11 = .ok (.ireturn, 1) := by decide +kernel
theorem d_Numbers_lay_12 : decode b_Numbers_lay 12 = .ok (.aload_n 0, 1) := by decide +kernel
theorem d_Numbers_lay_13 : decode b_Numbers_lay 13 = .ok (.getfield 9, 3) := by decide +kernel
theorem d_Numbers_lay_16 : decode b_Numbers_lay 16 = .ok (.aload_n 0, 1) := by decide +kernel
theorem d_Numbers_lay_17 : decode b_Numbers_lay 17 = .ok (.getfield 15, 3) := by decide +kernel
theorem d_Numbers_lay_20 : decode b_Numbers_lay 20 = .ok (.iload_n 1, 1) := by decide +kernel
theorem d_Numbers_lay_21 : decode b_Numbers_lay 21 = .ok (.iastore, 1) := by decide +kernel
theorem d_Numbers_lay_22 : decode b_Numbers_lay 22 = .ok (.aload_n 0, 1) := by decide +kernel
theorem d_Numbers_lay_23 : decode b_Numbers_lay 23 = .ok (.dup, 1) := by decide +kernel
theorem d_Numbers_lay_24 : decode b_Numbers_lay 24 = .ok (.getfield 15, 3) := by decide +kernel
theorem d_Numbers_lay_27 : decode b_Numbers_lay 27 = .ok (.iconst 1, 1) := by decide +kernel
theorem d_Numbers_lay_28 : decode b_Numbers_lay 28 = .ok (.iadd, 1) := by decide +kernel
theorem d_Numbers_lay_29 : decode b_Numbers_lay 29 = .ok (.putfield 15, 3) := by decide +kernel
theorem d_Numbers_lay_32 : decode b_Numbers_lay 32 = .ok (.iconst 0, 1) := by decide +kernel
theorem d_Numbers_lay_33 : decode b_Numbers_lay 33 = .ok (.ireturn, 1) := by decide +kernel
theorem d_Machine_numbersWanted_0 : decode b_Machine_numbersWanted 0 = .ok (.iload_n 0, 1) := by decide +kernel
theorem d_Machine_numbersWanted_1 : decode b_Machine_numbersWanted 1 = .ok (.tableswitch 359 42 125 #[355, 355, 359, 355, 359, 359, 359, 359, 359, 359, 359, 359, 359, 359, 359, 359, 359, 359, 359, 359, 359, 359, 359, 359, 359, 359, 357, 359, 359, 359, 359, 359, 359, 359, 359, 359, 359, 359, 359, 359, 355, 359, 359, 359, 359, 359, 359, 359, 359, 359, 359, 359, 359, 359, 359, 359, 359, 353, 353, 359, 355, 355, 359, 359, 359, 359, 359, 353, 359, 355, 353, 351, 353, 351, 353, 359, 359, 355, 355, 359, 359, 353, 359, 351], 351) := by decide +kernel
theorem d_Machine_numbersWanted_352 : decode b_Machine_numbersWanted 352 = .ok (.iconst 0, 1) := by decide +kernel
theorem d_Machine_numbersWanted_353 : decode b_Machine_numbersWanted 353 = .ok (.ireturn, 1) := by decide +kernel
theorem d_Machine_numbersWanted_354 : decode b_Machine_numbersWanted 354 = .ok (.iconst 1, 1) := by decide +kernel
theorem d_Machine_numbersWanted_355 : decode b_Machine_numbersWanted 355 = .ok (.ireturn, 1) := by decide +kernel
theorem d_Machine_numbersWanted_356 : decode b_Machine_numbersWanted 356 = .ok (.iconst 2, 1) := by decide +kernel
theorem d_Machine_numbersWanted_357 : decode b_Machine_numbersWanted 357 = .ok (.ireturn, 1) := by decide +kernel
theorem d_Machine_numbersWanted_358 : decode b_Machine_numbersWanted 358 = .ok (.iconst 3, 1) := by decide +kernel
theorem d_Machine_numbersWanted_359 : decode b_Machine_numbersWanted 359 = .ok (.ireturn, 1) := by decide +kernel
theorem d_Machine_numbersWanted_360 : decode b_Machine_numbersWanted 360 = .ok (.iconst (-1), 1) := by decide +kernel
theorem d_Machine_numbersWanted_361 : decode b_Machine_numbersWanted 361 = .ok (.ireturn, 1) := by decide +kernel
theorem d_Numbers_has_0 : decode b_Numbers_has 0 = .ok (.aload_n 0, 1) := by decide +kernel
theorem d_Numbers_has_1 : decode b_Numbers_has 1 = .ok (.getfield 15, 3) := by decide +kernel
theorem d_Numbers_has_4 : decode b_Numbers_has 4 = .ok (.iload_n 1, 1) := by decide +kernel
theorem d_Numbers_has_5 : decode b_Numbers_has 5 = .ok (.if_icmp .lt 7, 3) := by decide +kernel
theorem d_Numbers_has_8 : decode b_Numbers_has 8 = .ok (.iconst 1, 1) := by decide +kernel
theorem d_Numbers_has_9 : decode b_Numbers_has 9 = .ok (.goto 4, 3) := by decide +kernel
theorem d_Numbers_has_12 : decode b_Numbers_has 12 = .ok (.iconst 0, 1) := by decide +kernel
theorem d_Numbers_has_13 : decode b_Numbers_has 13 = .ok (.ireturn, 1) := by decide +kernel
theorem d_Numbers_take_0 : decode b_Numbers_take 0 = .ok (.aload_n 0, 1) := by decide +kernel
theorem d_Numbers_take_1 : decode b_Numbers_take 1 = .ok (.getfield 15, 3) := by decide +kernel
theorem d_Numbers_take_4 : decode b_Numbers_take 4 = .ok (.iconst 1, 1) := by decide +kernel
theorem d_Numbers_take_5 : decode b_Numbers_take 5 = .ok (.if_icmp .ge 5, 3) := by decide +kernel
theorem d_Numbers_take_8 : decode b_Numbers_take 8 = .ok (.iconst 0, 1) := by decide +kernel
theorem d_Numbers_take_9 : decode b_Numbers_take 9 = .ok (.ireturn, 1) := by decide +kernel
theorem d_Numbers_take_10 : decode b_Numbers_take 10 = .ok (.aload_n 0, 1) := by decide +kernel
theorem d_Numbers_take_11 : decode b_Numbers_take 11 = .ok (.dup, 1) := by decide +kernel
theorem d_Numbers_take_12 : decode b_Numbers_take 12 = .ok (.getfield 15, 3) := by decide +kernel
theorem d_Numbers_take_15 : decode b_Numbers_take 15 = .ok (.iconst 1, 1) := by decide +kernel
theorem d_Numbers_take_16 : decode b_Numbers_take 16 = .ok (.isub, 1) := by decide +kernel
theorem d_Numbers_take_17 : decode b_Numbers_take 17 = .ok (.putfield 15, 3) := by decide +kernel
theorem d_Numbers_take_20 : decode b_Numbers_take 20 = .ok (.aload_n 0, 1) := by decide +kernel
theorem d_Numbers_take_21 : decode b_Numbers_take 21 = .ok (.getfield 9, 3) := by decide +kernel
theorem d_Numbers_take_24 : decode b_Numbers_take 24 = .ok (.aload_n 0, 1) := by decide +kernel
theorem d_Numbers_take_25 : decode b_Numbers_take 25 = .ok (.getfield 15, 3) := by decide +kernel
theorem d_Numbers_take_28 : decode b_Numbers_take 28 = .ok (.iaload, 1) := by decide +kernel
theorem d_Numbers_take_29 : decode b_Numbers_take 29 = .ok (.ireturn, 1) := by decide +kernel
theorem d_Plan_mateOf_0 : decode b_Plan_mateOf 0 = .ok (.iload_n 1, 1) := by decide +kernel
theorem d_Plan_mateOf_1 : decode b_Plan_mateOf 1 = .ok (.ifCond .lt 11, 3) := by decide +kernel
theorem d_Plan_mateOf_4 : decode b_Plan_mateOf 4 = .ok (.iload_n 1, 1) := by decide +kernel
theorem d_Plan_mateOf_5 : decode b_Plan_mateOf 5 = .ok (.aload_n 0, 1) := by decide +kernel
theorem d_Plan_mateOf_6 : decode b_Plan_mateOf 6 = .ok (.getfield 21, 3) := by decide +kernel
theorem d_Plan_mateOf_9 : decode b_Plan_mateOf 9 = .ok (.if_icmp .lt 7, 3) := by decide +kernel
theorem d_Plan_mateOf_12 : decode b_Plan_mateOf 12 = .ok (.iconst (-1), 1) := by decide +kernel
theorem d_Plan_mateOf_13 : decode b_Plan_mateOf 13 = .ok (.goto 9, 3) := by decide +kernel
theorem d_Plan_mateOf_16 : decode b_Plan_mateOf 16 = .ok (.aload_n 0, 1) := by decide +kernel
theorem d_Plan_mateOf_17 : decode b_Plan_mateOf 17 = .ok (.getfield 15, 3) := by decide +kernel
theorem d_Plan_mateOf_20 : decode b_Plan_mateOf 20 = .ok (.iload_n 1, 1) := by decide +kernel
theorem d_Plan_mateOf_21 : decode b_Plan_mateOf 21 = .ok (.iaload, 1) := by decide +kernel
theorem d_Plan_mateOf_22 : decode b_Plan_mateOf 22 = .ok (.ireturn, 1) := by decide +kernel
theorem d_Machine_enterLoop_0 : decode b_Machine_enterLoop 0 = .ok (.aload_n 0, 1) := by decide +kernel
theorem d_Machine_enterLoop_1 : decode b_Machine_enterLoop 1 = .ok (.getfield 65, 3) := by decide +kernel
theorem d_Machine_enterLoop_4 : decode b_Machine_enterLoop 4 = .ok (.iconst 4, 1) := by decide +kernel
theorem d_Machine_enterLoop_5 : decode b_Machine_enterLoop 5 = .ok (.if_icmp .lt 6, 3) := by decide +kernel
theorem d_Machine_enterLoop_8 : decode b_Machine_enterLoop 8 = .ok (.bipush 6, 2) := by decide +kernel
theorem d_Machine_enterLoop_10 : decode b_Machine_enterLoop 10 = .ok (.ireturn, 1) := by decide +kernel
theorem d_Machine_enterLoop_11 : decode b_Machine_enterLoop 11 = .ok (.aload_n 0, 1) := by decide +kernel
theorem d_Machine_enterLoop_12 : decode b_Machine_enterLoop 12 = .ok (.getfield 57, 3) := by decide +kernel
theorem d_Machine_enterLoop_15 : decode b_Machine_enterLoop 15 = .ok (.iload_n 1, 1) := by decide +kernel
theorem d_Machine_enterLoop_16 : decode b_Machine_enterLoop 16 = .ok (.invokevirtual 204, 3) := by decide +kernel
theorem d_Machine_enterLoop_19 : decode b_Machine_enterLoop 19 = .ok (.istore_n 3, 1) := by decide +kernel
theorem d_Machine_enterLoop_20 : decode b_Machine_enterLoop 20 = .ok (.iload_n 3, 1) := by decide +kernel
theorem d_Machine_enterLoop_21 : decode b_Machine_enterLoop 21 = .ok (.iconst (-1), 1) := by decide +kernel
theorem d_Machine_enterLoop_22 : decode b_Machine_enterLoop 22 = .ok (.if_icmp .ne 6, 3) := by decide +kernel
theorem d_Machine_enterLoop_25 : decode b_Machine_enterLoop 25 = .ok (.bipush 7, 2) := by decide +kernel
theorem d_Machine_enterLoop_27 : decode b_Machine_enterLoop 27 = .ok (.ireturn, 1) := by decide +kernel
theorem d_Machine_enterLoop_28 : decode b_Machine_enterLoop 28 = .ok (.iload_n 2, 1) := by decide +kernel
theorem d_Machine_enterLoop_29 : decode b_Machine_enterLoop 29 = .ok (.iconst 1, 1) := by decide +kernel
theorem d_Machine_enterLoop_30 : decode b_Machine_enterLoop 30 = .ok (.if_icmp .ge 19, 3) := by decide +kernel
theorem d_Machine_enterLoop_33 : decode b_Machine_enterLoop 33 = .ok (.aload_n 0, 1) := by decide +kernel
theorem d_Machine_enterLoop_34 : decode b_Machine_enterLoop 34 = .ok (.aload_n 0, 1) := by decide +kernel
theorem d_Machine_enterLoop_35 : decode b_Machine_enterLoop 35 = .ok (.getfield 57, 3) := by decide +kernel
theorem d_Machine_enterLoop_38 : decode b_Machine_enterLoop 38 = .ok (.iload_n 3, 1) := by decide +kernel
theorem d_Machine_enterLoop_39 : decode b_Machine_enterLoop 39 = .ok (.iconst 1, 1) := by decide +kernel
theorem d_Machine_enterLoop_40 : decode b_Machine_enterLoop 40 = .ok (.iadd, 1) := by decide +kernel
theorem d_Machine_enterLoop_41 : decode b_Machine_enterLoop 41 = .ok (.invokevirtual 89, 3) := by decide +kernel
theorem d_Machine_enterLoop_44 : decode b_Machine_enterLoop 44 = .ok (.putfield 71, 3) := by decide +kernel
theorem d_Machine_enterLoop_47 : decode b_Machine_enterLoop 47 = .ok (.iconst 0, 1) := by decide +kernel
theorem d_Machine_enterLoop_48 : decode b_Machine_enterLoop 48 = .ok (.ireturn, 1) := by decide +kernel
theorem d_Machine_enterLoop_49 : decode b_Machine_enterLoop 49 = .ok (.aload_n 0, 1) := by decide +kernel
theorem d_Machine_enterLoop_50 : decode b_Machine_enterLoop 50 = .ok (.getfield 61, 3) := by decide +kernel
theorem d_Machine_enterLoop_53 : decode b_Machine_enterLoop 53 = .ok (.aload_n 0, 1) := by decide +kernel
theorem d_Machine_enterLoop_54 : decode b_Machine_enterLoop 54 = .ok (.getfield 65, 3) := by decide +kernel
theorem d_Machine_enterLoop_57 : decode b_Machine_enterLoop 57 = .ok (.iload_n 2, 1) := by decide +kernel
theorem d_Machine_enterLoop_58 : decode b_Machine_enterLoop 58 = .ok (.iastore, 1) := by decide +kernel
theorem d_Machine_enterLoop_59 : decode b_Machine_enterLoop 59 = .ok (.aload_n 0, 1) := by decide +kernel
theorem d_Machine_enterLoop_60 : decode b_Machine_enterLoop 60 = .ok (.dup, 1) := by decide +kernel
theorem d_Machine_enterLoop_61 : decode b_Machine_enterLoop 61 = .ok (.getfield 65, 3) := by decide +kernel
theorem d_Machine_enterLoop_64 : decode b_Machine_enterLoop 64 = .ok (.iconst 1, 1) := by decide +kernel
theorem d_Machine_enterLoop_65 : decode b_Machine_enterLoop 65 = .ok (.iadd, 1) := by decide +kernel
theorem d_Machine_enterLoop_66 : decode b_Machine_enterLoop 66 = .ok (.putfield 65, 3) := by decide +kernel
theorem d_Machine_enterLoop_69 : decode b_Machine_enterLoop 69 = .ok (.iconst 0, 1) := by decide +kernel
theorem d_Machine_enterLoop_70 : decode b_Machine_enterLoop 70 = .ok (.ireturn, 1) := by decide +kernel
theorem d_Machine_comeToLoopEnd_0 : decode b_Machine_comeToLoopEnd 0 = .ok (.aload_n 0, 1) := by decide +kernel
theorem d_Machine_comeToLoopEnd_1 : decode b_Machine_comeToLoopEnd 1 = .ok (.getfield 57, 3) := by decide +kernel
theorem d_Machine_comeToLoopEnd_4 : decode b_Machine_comeToLoopEnd 4 = .ok (.iload_n 1, 1) := by decide +kernel
theorem d_Machine_comeToLoopEnd_5 : decode b_Machine_comeToLoopEnd 5 = .ok (.invokevirtual 204, 3) := by decide +kernel
theorem d_Machine_comeToLoopEnd_8 : decode b_Machine_comeToLoopEnd 8 = .ok (.istore_n 2, 1) := by decide +kernel
theorem d_Machine_comeToLoopEnd_9 : decode b_Machine_comeToLoopEnd 9 = .ok (.iload_n 2, 1) := by decide +kernel
theorem d_Machine_comeToLoopEnd_10 : decode b_Machine_comeToLoopEnd 10 = .ok (.iconst (-1), 1) := by decide +kernel
theorem d_Machine_comeToLoopEnd_11 : decode b_Machine_comeToLoopEnd 11 = .ok (.if_icmp .eq 11, 3) := by decide +kernel
theorem d_Machine_comeToLoopEnd_14 : decode b_Machine_comeToLoopEnd 14 = .ok (.aload_n 0, 1) := by decide +kernel
theorem d_Machine_comeToLoopEnd_15 : decode b_Machine_comeToLoopEnd 15 = .ok (.getfield 65, 3) := by decide +kernel
theorem d_Machine_comeToLoopEnd_18 : decode b_Machine_comeToLoopEnd 18 = .ok (.iconst 1, 1) := by decide +kernel
theorem d_Machine_comeToLoopEnd_19 : decode b_Machine_comeToLoopEnd 19 = .ok (.if_icmp .ge 5, 3) := by decide +kernel
theorem d_Machine_comeToLoopEnd_22 : decode b_Machine_comeToLoopEnd 22 = .ok (.iconst 1, 1) := by decide +kernel
theorem d_Machine_comeToLoopEnd_23 : decode b_Machine_comeToLoopEnd 23 = .ok (.ireturn, 1) := by decide +kernel
theorem d_Machine_comeToLoopEnd_24 : decode b_Machine_comeToLoopEnd 24 = .ok (.aload_n 0, 1) := by decide +kernel
theorem d_Machine_comeToLoopEnd_25 : decode b_Machine_comeToLoopEnd 25 = .ok (.getfield 61, 3) := by decide +kernel
theorem d_Machine_comeToLoopEnd_28 : decode b_Machine_comeToLoopEnd 28 = .ok (.aload_n 0, 1) := by decide +kernel
theorem d_Machine_comeToLoopEnd_29 : decode b_Machine_comeToLoopEnd 29 = .ok (.getfield 65, 3) := by decide +kernel
theorem d_Machine_comeToLoopEnd_32 : decode b_Machine_comeToLoopEnd 32 = .ok (.iconst 1, 1) := by decide +kernel
theorem d_Machine_comeToLoopEnd_33 : decode b_Machine_comeToLoopEnd 33 = .ok (.isub, 1) := by decide +kernel
theorem d_Machine_comeToLoopEnd_34 : decode b_Machine_comeToLoopEnd 34 = .ok (.dup2, 1) := by decide +kernel
theorem d_Machine_comeToLoopEnd_35 : decode b_Machine_comeToLoopEnd 35 = .ok (.iaload, 1) := by decide +kernel
theorem d_Machine_comeToLoopEnd_36 : decode b_Machine_comeToLoopEnd 36 = .ok (.iconst 1, 1) := by decide +kernel
theorem d_Machine_comeToLoopEnd_37 : decode b_Machine_comeToLoopEnd 37 = .ok (.isub, 1) := by decide +kernel
theorem d_Machine_comeToLoopEnd_38 : decode b_Machine_comeToLoopEnd 38 = .ok (.iastore, 1) := by decide +kernel
theorem d_Machine_comeToLoopEnd_39 : decode b_Machine_comeToLoopEnd 39 = .ok (.aload_n 0, 1) := by decide +kernel
theorem d_Machine_comeToLoopEnd_40 : decode b_Machine_comeToLoopEnd 40 = .ok (.getfield 61, 3) := by decide +kernel
theorem d_Machine_comeToLoopEnd_43 : decode b_Machine_comeToLoopEnd 43 = .ok (.aload_n 0, 1) := by decide +kernel
theorem d_Machine_comeToLoopEnd_44 : decode b_Machine_comeToLoopEnd 44 = .ok (.getfield 65, 3) := by decide +kernel
theorem d_Machine_comeToLoopEnd_47 : decode b_Machine_comeToLoopEnd 47 = .ok (.iconst 1, 1) := by decide +kernel
theorem d_Machine_comeToLoopEnd_48 : decode b_Machine_comeToLoopEnd 48 = .ok (.isub, 1) := by decide +kernel
theorem d_Machine_comeToLoopEnd_49 : decode b_Machine_comeToLoopEnd 49 = .ok (.iaload, 1) := by decide +kernel
theorem d_Machine_comeToLoopEnd_50 : decode b_Machine_comeToLoopEnd 50 = .ok (.ifCond .le 20, 3) := by decide +kernel
theorem d_Machine_comeToLoopEnd_53 : decode b_Machine_comeToLoopEnd 53 = .ok (.aload_n 0, 1) := by decide +kernel
theorem d_Machine_comeToLoopEnd_54 : decode b_Machine_comeToLoopEnd 54 = .ok (.aload_n 0, 1) := by decide +kernel
theorem d_Machine_comeToLoopEnd_55 : decode b_Machine_comeToLoopEnd 55 = .ok (.getfield 57, 3) := by decide +kernel
theorem d_Machine_comeToLoopEnd_58 : decode b_Machine_comeToLoopEnd 58 = .ok (.iload_n 2, 1) := by decide +kernel
theorem d_Machine_comeToLoopEnd_59 : decode b_Machine_comeToLoopEnd 59 = .ok (.iconst 1, 1) := by decide +kernel
theorem d_Machine_comeToLoopEnd_60 : decode b_Machine_comeToLoopEnd 60 = .ok (.iadd, 1) := by decide +kernel
theorem d_Machine_comeToLoopEnd_61 : decode b_Machine_comeToLoopEnd 61 = .ok (.invokevirtual 89, 3) := by decide +kernel
theorem d_Machine_comeToLoopEnd_64 : decode b_Machine_comeToLoopEnd 64 = .ok (.putfield 71, 3) := by decide +kernel
theorem d_Machine_comeToLoopEnd_67 : decode b_Machine_comeToLoopEnd 67 = .ok (.goto 13, 3) := by decide +kernel
theorem d_Machine_comeToLoopEnd_70 : decode b_Machine_comeToLoopEnd 70 = .ok (.aload_n 0, 1) := by decide +kernel
theorem d_Machine_comeToLoopEnd_71 : decode b_Machine_comeToLoopEnd 71 = .ok (.dup, 1) := by decide +kernel
theorem d_Machine_comeToLoopEnd_72 : decode b_Machine_comeToLoopEnd 72 = .ok (.getfield 65, 3) := by decide +kernel
theorem d_Machine_comeToLoopEnd_75 : decode b_Machine_comeToLoopEnd 75 = .ok (.iconst 1, 1) := by decide +kernel
theorem d_Machine_comeToLoopEnd_76 : decode b_Machine_comeToLoopEnd 76 = .ok (.isub, 1) := by decide +kernel
theorem d_Machine_comeToLoopEnd_77 : decode b_Machine_comeToLoopEnd 77 = .ok (.putfield 65, 3) := by decide +kernel
