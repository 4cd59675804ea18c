theorem d_Device_putBack_10 : decode b_Device_putBack 10 = .ok (.iconst 4, 1) := by decide +kernel
theorem d_Device_putBack_11 : decode b_Device_putBack 11 = .ok (.invokestatic 27, 3) := by decide +kernel
theorem d_Device_putBack_14 : decode b_Device_putBack 14 = .ok (.return_, 1) := by decide +kernel
theorem d_Resources_putBack_0 : decode b_Resources_putBack 0 = .ok (.aload_n 0, 1) := by decide +kernel
theorem d_Resources_putBack_1 : decode b_Resources_putBack 1 = .ok (.getfield 15, 3) := by decide +kernel
theorem d_Resources_putBack_4 : decode b_Resources_putBack 4 = .ok (.iconst 0, 1) := by decide +kernel
theorem d_Resources_putBack_5 : decode b_Resources_putBack 5 = .ok (.aload_n 0, 1) := by decide +kernel
theorem d_Resources_putBack_6 : decode b_Resources_putBack 6 = .ok (.getfield 9, 3) := by decide +kernel
theorem d_Resources_putBack_9 : decode b_Resources_putBack 9 = .ok (.iconst 0, 1) := by decide +kernel
theorem d_Resources_putBack_10 : decode b_Resources_putBack 10 = .ok (.aload_n 0, 1) := by decide +kernel
theorem d_Resources_putBack_11 : decode b_Resources_putBack 11 = .ok (.getfield 9, 3) := by decide +kernel
theorem d_Resources_putBack_14 : decode b_Resources_putBack 14 = .ok (.arraylength, 1) := by decide +kernel
theorem d_Resources_putBack_15 : decode b_Resources_putBack 15 = .ok (.invokestatic 22, 3) := by decide +kernel
theorem d_Resources_putBack_18 : decode b_Resources_putBack 18 = .ok (.return_, 1) := by decide +kernel
theorem d_Handle_putBackFilters_0 : decode b_Handle_putBackFilters 0 = .ok (.aload_n 0, 1) := by decide +kernel
theorem d_Handle_putBackFilters_1 : decode b_Handle_putBackFilters 1 = .ok (.aload_n 0, 1) := by decide +kernel
theorem d_Handle_putBackFilters_2 : decode b_Handle_putBackFilters 2 = .ok (.getfield 36, 3) := by decide +kernel
theorem d_Handle_putBackFilters_5 : decode b_Handle_putBackFilters 5 = .ok (.putfield 33, 3) := by decide +kernel
theorem d_Handle_putBackFilters_8 : decode b_Handle_putBackFilters 8 = .ok (.return_, 1) := by decide +kernel
theorem d_FileTree_putBack_0 : decode b_FileTree_putBack 0 = .ok (.iconst 1, 1) := by decide +kernel
theorem d_FileTree_putBack_1 : decode b_FileTree_putBack 1 = .ok (.istore_n 1, 1) := by decide +kernel
theorem d_FileTree_putBack_2 : decode b_FileTree_putBack 2 = .ok (.iload_n 1, 1) := by decide +kernel
theorem d_FileTree_putBack_3 : decode b_FileTree_putBack 3 = .ok (.bipush 7, 2) := by decide +kernel
theorem d_FileTree_putBack_5 : decode b_FileTree_putBack 5 = .ok (.if_icmp .gt 41, 3) := by decide +kernel
theorem d_FileTree_putBack_8 : decode b_FileTree_putBack 8 = .ok (.aload_n 0, 1) := by decide +kernel
theorem d_FileTree_putBack_9 : decode b_FileTree_putBack 9 = .ok (.iload_n 1, 1) := by decide +kernel
theorem d_FileTree_putBack_10 : decode b_FileTree_putBack 10 = .ok (.invokevirtual 51, 3) := by decide +kernel
theorem d_FileTree_putBack_13 : decode b_FileTree_putBack 13 = .ok (.astore_n 2, 1) := by decide +kernel
theorem d_FileTree_putBack_14 : decode b_FileTree_putBack 14 = .ok (.aload_n 2, 1) := by decide +kernel
theorem d_FileTree_putBack_15 : decode b_FileTree_putBack 15 = .ok (.ifnull 17, 3) := by decide +kernel
theorem d_FileTree_putBack_18 : decode b_FileTree_putBack 18 = .ok (.aload_n 2, 1) := by decide +kernel
theorem d_FileTree_putBack_19 : decode b_FileTree_putBack 19 = .ok (.getfield 89, 3) := by decide +kernel
theorem d_FileTree_putBack_22 : decode b_FileTree_putBack 22 = .ok (.ifCond .eq 10, 3) := by decide +kernel
theorem d_FileTree_putBack_25 : decode b_FileTree_putBack 25 = .ok (.aload_n 2, 1) := by decide +kernel
theorem d_FileTree_putBack_26 : decode b_FileTree_putBack 26 = .ok (.invokevirtual 86, 3) := by decide +kernel
theorem d_FileTree_putBack_29 : decode b_FileTree_putBack 29 = .ok (.goto 11, 3) := by decide +kernel
theorem d_FileTree_putBack_32 : decode b_FileTree_putBack 32 = .ok (.aload_n 2, 1) := by decide +kernel
theorem d_FileTree_putBack_33 : decode b_FileTree_putBack 33 = .ok (.ifnull 7, 3) := by decide +kernel
theorem d_FileTree_putBack_36 : decode b_FileTree_putBack 36 = .ok (.aload_n 2, 1) := by decide +kernel
theorem d_FileTree_putBack_37 : decode b_FileTree_putBack 37 = .ok (.invokevirtual 98, 3) := by decide +kernel
theorem d_FileTree_putBack_40 : decode b_FileTree_putBack 40 = .ok (.iinc 1 1, 3) := by decide +kernel
theorem d_FileTree_putBack_43 : decode b_FileTree_putBack 43 = .ok (.goto (-41), 3) := by decide +kernel
theorem d_FileTree_putBack_46 : decode b_FileTree_putBack 46 = .ok (.return_, 1) := by decide +kernel
theorem d_Machine_finish_0 : decode b_Machine_finish 0 = .ok (.aload_n 0, 1) := by decide +kernel
theorem d_Machine_finish_1 : decode b_Machine_finish 1 = .ok (.getfield 12, 3) := by decide +kernel
theorem d_Machine_finish_4 : decode b_Machine_finish 4 = .ok (.invokevirtual 118, 3) := by decide +kernel
theorem d_Machine_finish_7 : decode b_Machine_finish 7 = .ok (.aload_n 0, 1) := by decide +kernel
theorem d_Machine_finish_8 : decode b_Machine_finish 8 = .ok (.getfield 21, 3) := by decide +kernel
theorem d_Machine_finish_11 : decode b_Machine_finish 11 = .ok (.invokevirtual 121, 3) := by decide +kernel
theorem d_Machine_finish_14 : decode b_Machine_finish 14 = .ok (.aload_n 0, 1) := by decide +kernel
theorem d_Machine_finish_15 : decode b_Machine_finish 15 = .ok (.getfield 28, 3) := by decide +kernel
theorem d_Machine_finish_18 : decode b_Machine_finish 18 = .ok (.invokevirtual 122, 3) := by decide +kernel
theorem d_Machine_finish_21 : decode b_Machine_finish 21 = .ok (.return_, 1) := by decide +kernel
theorem d_Machine_execute_0 : decode b_Machine_execute 0 = .ok (.aload_n 0, 1) := by decide +kernel
theorem d_Machine_execute_1 : decode b_Machine_execute 1 = .ok (.aload_n 1, 1) := by decide +kernel
theorem d_Machine_execute_2 : decode b_Machine_execute 2 = .ok (.invokevirtual 74, 3) := by decide +kernel
theorem d_Machine_execute_5 : decode b_Machine_execute 5 = .ok (.iconst 0, 1) := by decide +kernel
theorem d_Machine_execute_6 : decode b_Machine_execute 6 = .ok (.istore_n 2, 1) := by decide +kernel
theorem d_Machine_execute_7 : decode b_Machine_execute 7 = .ok (.iload_n 2, 1) := by decide +kernel
theorem d_Machine_execute_8 : decode b_Machine_execute 8 = .ok (.aload_n 0, 1) := by decide +kernel
theorem d_Machine_execute_9 : decode b_Machine_execute 9 = .ok (.getfield 43, 3) := by decide +kernel
theorem d_Machine_execute_12 : decode b_Machine_execute 12 = .ok (.if_icmp .gt 102, 3) := by decide +kernel
theorem d_Machine_execute_15 : decode b_Machine_execute 15 = .ok (.aload_n 1, 1) := by decide +kernel
theorem d_Machine_execute_16 : decode b_Machine_execute 16 = .ok (.getfield 78, 3) := by decide +kernel
theorem d_Machine_execute_19 : decode b_Machine_execute 19 = .ok (.ifCond .ne 95, 3) := by decide +kernel
theorem d_Machine_execute_22 : decode b_Machine_execute 22 = .ok (.aload_n 0, 1) := by decide +kernel
theorem d_Machine_execute_23 : decode b_Machine_execute 23 = .ok (.getfield 71, 3) := by decide +kernel
theorem d_Machine_execute_26 : decode b_Machine_execute 26 = .ok (.istore_n 3, 1) := by decide +kernel
theorem d_Machine_execute_27 : decode b_Machine_execute 27 = .ok (.iload_n 3, 1) := by decide +kernel
theorem d_Machine_execute_28 : decode b_Machine_execute 28 = .ok (.aload_n 1, 1) := by decide +kernel
theorem d_Machine_execute_29 : decode b_Machine_execute 29 = .ok (.getfield 83, 3) := by decide +kernel
theorem d_Machine_execute_32 : decode b_Machine_execute 32 = .ok (.if_icmp .lt 11, 3) := by decide +kernel
theorem d_Machine_execute_35 : decode b_Machine_execute 35 = .ok (.aload_n 1, 1) := by decide +kernel
theorem d_Machine_execute_36 : decode b_Machine_execute 36 = .ok (.iconst 1, 1) := by decide +kernel
theorem d_Machine_execute_37 : decode b_Machine_execute 37 = .ok (.putfield 78, 3) := by decide +kernel
theorem d_Machine_execute_40 : decode b_Machine_execute 40 = .ok (.goto 68, 3) := by decide +kernel
theorem d_Machine_execute_43 : decode b_Machine_execute 43 = .ok (.iload_n 2, 1) := by decide +kernel
theorem d_Machine_execute_44 : decode b_Machine_execute 44 = .ok (.aload_n 0, 1) := by decide +kernel
theorem d_Machine_execute_45 : decode b_Machine_execute 45 = .ok (.getfield 43, 3) := by decide +kernel
theorem d_Machine_execute_48 : decode b_Machine_execute 48 = .ok (.if_icmp .ne 11, 3) := by decide +kernel
theorem d_Machine_execute_51 : decode b_Machine_execute 51 = .ok (.aload_n 1, 1) := by decide +kernel
theorem d_Machine_execute_52 : decode b_Machine_execute 52 = .ok (.iconst 3, 1) := by decide +kernel
theorem d_Machine_execute_53 : decode b_Machine_execute 53 = .ok (.putfield 78, 3) := by decide +kernel
theorem d_Machine_execute_56 : decode b_Machine_execute 56 = .ok (.goto 52, 3) := by decide +kernel
theorem d_Machine_execute_59 : decode b_Machine_execute 59 = .ok (.aload_n 1, 1) := by decide +kernel
theorem d_Machine_execute_60 : decode b_Machine_execute 60 = .ok (.dup, 1) := by decide +kernel
theorem d_Machine_execute_61 : decode b_Machine_execute 61 = .ok (.getfield 86, 3) := by decide +kernel
theorem d_Machine_execute_64 : decode b_Machine_execute 64 = .ok (.iconst 1, 1) := by decide +kernel
theorem d_Machine_execute_65 : decode b_Machine_execute 65 = .ok (.iadd, 1) := by decide +kernel
theorem d_Machine_execute_66 : decode b_Machine_execute 66 = .ok (.putfield 86, 3) := by decide +kernel
theorem d_Machine_execute_69 : decode b_Machine_execute 69 = .ok (.aload_n 0, 1) := by decide +kernel
theorem d_Machine_execute_70 : decode b_Machine_execute 70 = .ok (.aload_n 0, 1) := by decide +kernel
theorem d_Machine_execute_71 : decode b_Machine_execute 71 = .ok (.getfield 57, 3) := by decide +kernel
theorem d_Machine_execute_74 : decode b_Machine_execute 74 = .ok (.iload_n 3, 1) := by decide +kernel
theorem d_Machine_execute_75 : decode b_Machine_execute 75 = .ok (.iconst 1, 1) := by decide +kernel
theorem d_Machine_execute_76 : decode b_Machine_execute 76 = .ok (.iadd, 1) := by decide +kernel
theorem d_Machine_execute_77 : decode b_Machine_execute 77 = .ok (.invokevirtual 89, 3) := by decide +kernel
theorem d_Machine_execute_80 : decode b_Machine_execute 80 = .ok (.putfield 71, 3) := by decide +kernel
theorem d_Machine_execute_83 : decode b_Machine_execute 83 = .ok (.aload_n 0, 1) := by decide +kernel
theorem d_Machine_execute_84 : decode b_Machine_execute 84 = .ok (.aload_n 1, 1) := by decide +kernel
theorem d_Machine_execute_85 : decode b_Machine_execute 85 = .ok (.aload_n 1, 1) := by decide +kernel
theorem d_Machine_execute_86 : decode b_Machine_execute 86 = .ok (.iload_n 3, 1) := by decide +kernel
theorem d_Machine_execute_87 : decode b_Machine_execute 87 = .ok (.invokevirtual 93, 3) := by decide +kernel
theorem d_Machine_execute_90 : decode b_Machine_execute 90 = .ok (.iload_n 3, 1) := by decide +kernel
theorem d_Machine_execute_91 : decode b_Machine_execute 91 = .ok (.invokevirtual 96, 3) := by decide +kernel
theorem d_Machine_execute_94 : decode b_Machine_execute 94 = .ok (.istore 4, 2) := by decide +kernel
theorem d_Machine_execute_96 : decode b_Machine_execute 96 = .ok (.iload 4, 2) := by decide +kernel
theorem d_Machine_execute_98 : decode b_Machine_execute 98 = .ok (.ifCond .eq 10, 3) := by decide +kernel
theorem d_Machine_execute_101 : decode b_Machine_execute 101 = .ok (.aload_n 1, 1) := by decide +kernel
theorem d_Machine_execute_102 : decode b_Machine_execute 102 = .ok (.iload 4, 2) := by decide +kernel
theorem d_Machine_execute_104 : decode b_Machine_execute 104 = .ok (.iload_n 3, 1) := by decide +kernel
theorem d_Machine_execute_105 : decode b_Machine_execute 105 = .ok (.invokevirtual 100, 3) := by decide +kernel
theorem d_Machine_execute_108 : decode b_Machine_execute 108 = .ok (.iinc 2 1, 3) := by decide +kernel
theorem d_Machine_execute_111 : decode b_Machine_execute 111 = .ok (.goto (-104), 3) := by decide +kernel
theorem d_Machine_execute_114 : decode b_Machine_execute 114 = .ok (.aload_n 0, 1) := by decide +kernel
theorem d_Machine_execute_115 : decode b_Machine_execute 115 = .ok (.invokevirtual 104, 3) := by decide +kernel
theorem d_Machine_execute_118 : decode b_Machine_execute 118 = .ok (.return_, 1) := by decide +kernel
theorem d_ML_run_0 : decode b_ML_run 0 = .ok (.aload_n 0, 1) := by decide +kernel
theorem d_ML_run_1 : decode b_ML_run 1 = .ok (.getfield 28, 3) := by decide +kernel
theorem d_ML_run_4 : decode b_ML_run 4 = .ok (.ifCond .eq 6, 3) := by decide +kernel
theorem d_ML_run_7 : decode b_ML_run 7 = .ok (.bipush (-3), 2) := by decide +kernel
theorem d_ML_run_9 : decode b_ML_run 9 = .ok (.ireturn, 1) := by decide +kernel
theorem d_ML_run_10 : decode b_ML_run 10 = .ok (.iconst 0, 1) := by decide +kernel
theorem d_ML_run_11 : decode b_ML_run 11 = .ok (.istore_n 1, 1) := by decide +kernel
theorem d_ML_run_12 : decode b_ML_run 12 = .ok (.iconst 0, 1) := by decide +kernel
theorem d_ML_run_13 : decode b_ML_run 13 = .ok (.istore_n 2, 1) := by decide +kernel
theorem d_ML_run_14 : decode b_ML_run 14 = .ok (.iload_n 2, 1) := by decide +kernel
theorem d_ML_run_15 : decode b_ML_run 15 = .ok (.bipush 20, 2) := by decide +kernel
theorem d_ML_run_17 : decode b_ML_run 17 = .ok (.if_icmp .ge 37, 3) := by decide +kernel
theorem d_ML_run_20 : decode b_ML_run 20 = .ok (.aload_n 0, 1) := by decide +kernel
theorem d_ML_run_21 : decode b_ML_run 21 = .ok (.iload_n 2, 1) := by decide +kernel
theorem d_ML_run_22 : decode b_ML_run 22 = .ok (.invokevirtual 33, 3) := by decide +kernel
theorem d_ML_run_25 : decode b_ML_run 25 = .ok (.astore_n 3, 1) := by decide +kernel
theorem d_ML_run_26 : decode b_ML_run 26 = .ok (.aload_n 3, 1) := by decide +kernel
theorem d_ML_run_27 : decode b_ML_run 27 = .ok (.ifnull 21, 3) := by decide +kernel
theorem d_ML_run_30 : decode b_ML_run 30 = .ok (.aload_n 3, 1) := by decide +kernel
theorem d_ML_run_31 : decode b_ML_run 31 = .ok (.getfield 37, 3) := by decide +kernel
theorem d_ML_run_34 : decode b_ML_run 34 = .ok (.ifCond .ne 14, 3) := by decide +kernel
theorem d_ML_run_37 : decode b_ML_run 37 = .ok (.aload_n 0, 1) := by decide +kernel
theorem d_ML_run_38 : decode b_ML_run 38 = .ok (.getfield 20, 3) := by decide +kernel
theorem d_ML_run_41 : decode b_ML_run 41 = .ok (.aload_n 3, 1) := by decide +kernel
theorem d_ML_run_42 : decode b_ML_run 42 = .ok (.invokevirtual 44, 3) := by decide +kernel
theorem d_ML_run_45 : decode b_ML_run 45 = .ok (.iinc 1 1, 3) := by decide +kernel
theorem d_ML_run_48 : decode b_ML_run 48 = .ok (.iinc 2 1, 3) := by decide +kernel
theorem d_ML_run_51 : decode b_ML_run 51 = .ok (.goto (-37), 3) := by decide +kernel
theorem d_ML_run_54 : decode b_ML_run 54 = .ok (.iload_n 1, 1) := by decide +kernel
theorem d_ML_run_55 : decode b_ML_run 55 = .ok (.ireturn, 1) := by decide +kernel
theorem d_ML_ended_0 : decode b_ML_ended 0 = .ok (.aload_n 0, 1) := by decide +kernel
theorem d_ML_ended_1 : decode b_ML_ended 1 = .ok (.iload_n 1, 1) := by decide +kernel
theorem d_ML_ended_2 : decode b_ML_ended 2 = .ok (.invokevirtual 33, 3) := by decide +kernel
theorem d_ML_ended_5 : decode b_ML_ended 5 = .ok (.astore_n 3, 1) := by decide +kernel
theorem d_ML_ended_6 : decode b_ML_ended 6 = .ok (.aload_n 3, 1) := by decide +kernel
theorem d_ML_ended_7 : decode b_ML_ended 7 = .ok (.ifnonnull 5, 3) := by decide +kernel
theorem d_ML_ended_10 : decode b_ML_ended 10 = .ok (.iconst (-1), 1) := by decide +kernel
theorem d_ML_ended_11 : decode b_ML_ended 11 = .ok (.ireturn, 1) := by decide +kernel
theorem d_ML_ended_12 : decode b_ML_ended 12 = .ok (.iload_n 2, 1) := by decide +kernel
theorem d_ML_ended_13 : decode b_ML_ended 13 = .ok (.tableswitch 69 0 5 #[39, 44, 49, 54, 59, 64], 39) := by decide +kernel
theorem d_ML_ended_52 : decode b_ML_ended 52 = .ok (.aload_n 3, 1) := by decide +kernel
theorem d_ML_ended_53 : decode b_ML_ended 53 = .ok (.getfield 37, 3) := by decide +kernel
theorem d_ML_ended_56 : decode b_ML_ended 56 = .ok (.ireturn, 1) := by decide +kernel
theorem d_ML_ended_57 : decode b_ML_ended 57 = .ok (.aload_n 3, 1) := by decide +kernel
theorem d_ML_ended_58 : decode b_ML_ended 58 = .ok (.getfield 48, 3) := by decide +kernel
theorem d_ML_ended_61 : decode b_ML_ended 61 = .ok (.ireturn, 1) := by decide +kernel
theorem d_ML_ended_62 : decode b_ML_ended 62 = .ok (.aload_n 3, 1) := by decide +kernel
theorem d_ML_ended_63 : decode b_ML_ended 63 = .ok (.getfield 51, 3) := by decide +kernel
theorem d_ML_ended_66 : decode b_ML_ended 66 = .ok (.ireturn, 1) := by decide +kernel
theorem d_ML_ended_67 : decode b_ML_ended 67 = .ok (.aload_n 3, 1) := by decide +kernel
theorem d_ML_ended_68 : decode b_ML_ended 68 = .ok (.getfield 54, 3) := by decide +kernel
theorem d_ML_ended_71 : decode b_ML_ended 71 = .ok (.ireturn, 1) := by decide +kernel
theorem d_ML_ended_72 : decode b_ML_ended 72 = .ok (.aload_n 3, 1) := by decide +kernel
theorem d_ML_ended_73 : decode b_ML_ended 73 = .ok (.getfield 57, 3) := by decide +kernel
theorem d_ML_ended_76 : decode b_ML_ended 76 = .ok (.ireturn, 1) := by decide +kernel
theorem d_ML_ended_77 : decode b_ML_ended 77 = .ok (.aload_n 3, 1) := by decide +kernel
theorem d_ML_ended_78 : decode b_ML_ended 78 = .ok (.getfield 60, 3) := by decide +kernel
theorem d_ML_ended_81 : decode b_ML_ended 81 = .ok (.ireturn, 1) := by decide +kernel
theorem d_ML_ended_82 : decode b_ML_ended 82 = .ok (.bipush (-2), 2) := by decide +kernel
theorem d_ML_ended_84 : decode b_ML_ended 84 = .ok (.ireturn, 1) := by decide +kernel
theorem d_Job_marksOf_0 : decode b_Job_marksOf 0 = .ok (.iload_n 1, 1) := by decide +kernel
theorem d_Job_marksOf_1 : decode b_Job_marksOf 1 = .ok (.ifCond .lt 11, 3) := by decide +kernel
theorem d_Job_marksOf_4 : decode b_Job_marksOf 4 = .ok (.iload_n 1, 1) := by decide +kernel
theorem d_Job_marksOf_5 : decode b_Job_marksOf 5 = .ok (.aload_n 0, 1) := by decide +kernel
theorem d_Job_marksOf_6 : decode b_Job_marksOf 6 = .ok (.getfield 23, 3) := by decide +kernel
theorem d_Job_marksOf_9 : decode b_Job_marksOf 9 = .ok (.if_icmp .lt 7, 3) := by decide +kernel
theorem d_Job_marksOf_12 : decode b_Job_marksOf 12 = .ok (.iconst 0, 1) := by decide +kernel
theorem d_Job_marksOf_13 : decode b_Job_marksOf 13 = .ok (.goto 9, 3) := by decide +kernel
theorem d_Job_marksOf_16 : decode b_Job_marksOf 16 = .ok (.aload_n 0, 1) := by decide +kernel
theorem d_Job_marksOf_17 : decode b_Job_marksOf 17 = .ok (.getfield 15, 3) := by decide +kernel
theorem d_Job_marksOf_20 : decode b_Job_marksOf 20 = .ok (.iload_n 1, 1) := by decide +kernel
theorem d_Job_marksOf_21 : decode b_Job_marksOf 21 = .ok (.iaload, 1) := by decide +kernel
theorem d_Job_marksOf_22 : decode b_Job_marksOf 22 = .ok (.ireturn, 1) := by decide +kernel
theorem d_ML_page_0 : decode b_ML_page 0 = .ok (.aload_n 0, 1) := by decide +kernel
theorem d_ML_page_1 : decode b_ML_page 1 = .ok (.iload_n 1, 1) := by decide +kernel
theorem d_ML_page_2 : decode b_ML_page 2 = .ok (.invokevirtual 33, 3) := by decide +kernel
theorem d_ML_page_5 : decode b_ML_page 5 = .ok (.astore_n 3, 1) := by decide +kernel
theorem d_ML_page_6 : decode b_ML_page 6 = .ok (.aload_n 3, 1) := by decide +kernel
theorem d_ML_page_7 : decode b_ML_page 7 = .ok (.ifnonnull 7, 3) := by decide +kernel
theorem d_ML_page_10 : decode b_ML_page 10 = .ok (.iconst 0, 1) := by decide +kernel
theorem d_ML_page_11 : decode b_ML_page 11 = .ok (.goto 8, 3) := by decide +kernel
theorem d_ML_page_14 : decode b_ML_page 14 = .ok (.aload_n 3, 1) := by decide +kernel
theorem d_ML_page_15 : decode b_ML_page 15 = .ok (.iload_n 2, 1) := by decide +kernel
theorem d_ML_page_16 : decode b_ML_page 16 = .ok (.invokevirtual 63, 3) := by decide +kernel
theorem d_ML_page_19 : decode b_ML_page 19 = .ok (.ireturn, 1) := by decide +kernel
theorem d_ML_device_0 : decode b_ML_device 0 = .ok (.aload_n 0, 1) := by decide +kernel
theorem d_ML_device_1 : decode b_ML_device 1 = .ok (.getfield 20, 3) := by decide +kernel
theorem d_ML_device_4 : decode b_ML_device 4 = .ok (.getfield 67, 3) := by decide +kernel
theorem d_ML_device_7 : decode b_ML_device 7 = .ok (.iload_n 1, 1) := by decide +kernel
theorem d_ML_device_8 : decode b_ML_device 8 = .ok (.iload_n 2, 1) := by decide +kernel
theorem d_ML_device_9 : decode b_ML_device 9 = .ok (.invokevirtual 71, 3) := by decide +kernel
theorem d_ML_device_12 : decode b_ML_device 12 = .ok (.ifCond .eq 7, 3) := by decide +kernel
theorem d_ML_device_15 : decode b_ML_device 15 = .ok (.iconst 1, 1) := by decide +kernel
theorem d_ML_device_16 : decode b_ML_device 16 = .ok (.goto 4, 3) := by decide +kernel
theorem d_ML_device_19 : decode b_ML_device 19 = .ok (.iconst 0, 1) := by decide +kernel
theorem d_ML_device_20 : decode b_ML_device 20 = .ok (.ireturn, 1) := by decide +kernel
theorem d_ML_define_0 : decode b_ML_define 0 = .ok (.aload_n 0, 1) := by decide +kernel
theorem d_ML_define_1 : decode b_ML_define 1 = .ok (.getfield 20, 3) := by decide +kernel
theorem d_ML_define_4 : decode b_ML_define 4 = .ok (.getfield 77, 3) := by decide +kernel
theorem d_ML_define_7 : decode b_ML_define 7 = .ok (.iload_n 1, 1) := by decide +kernel
theorem d_ML_define_8 : decode b_ML_define 8 = .ok (.iload_n 2, 1) := by decide +kernel
theorem d_ML_define_9 : decode b_ML_define 9 = .ok (.iload_n 3, 1) := by decide +kernel
theorem d_ML_define_10 : decode b_ML_define 10 = .ok (.invokevirtual 81, 3) := by decide +kernel
theorem d_ML_define_13 : decode b_ML_define 13 = .ok (.ireturn, 1) := by decide +kernel
theorem d_ML_resource_0 : decode b_ML_resource 0 = .ok (.aload_n 0, 1) := by decide +kernel
theorem d_ML_resource_1 : decode b_ML_resource 1 = .ok (.getfield 20, 3) := by decide +kernel
theorem d_ML_resource_4 : decode b_ML_resource 4 = .ok (.getfield 77, 3) := by decide +kernel
theorem d_ML_resource_7 : decode b_ML_resource 7 = .ok (.iload_n 1, 1) := by decide +kernel
theorem d_ML_resource_8 : decode b_ML_resource 8 = .ok (.iload_n 2, 1) := by decide +kernel
theorem d_ML_resource_9 : decode b_ML_resource 9 = .ok (.invokevirtual 87, 3) := by decide +kernel
theorem d_ML_resource_12 : decode b_ML_resource 12 = .ok (.ireturn, 1) := by decide +kernel
theorem d_ML_file_0 : decode b_ML_file 0 = .ok (.aload_n 0, 1) := by decide +kernel
theorem d_ML_file_1 : decode b_ML_file 1 = .ok (.getfield 20, 3) := by decide +kernel
theorem d_ML_file_4 : decode b_ML_file 4 = .ok (.getfield 91, 3) := by decide +kernel
theorem d_ML_file_7 : decode b_ML_file 7 = .ok (.iload_n 1, 1) := by decide +kernel
theorem d_ML_file_8 : decode b_ML_file 8 = .ok (.iload_n 2, 1) := by decide +kernel
theorem d_ML_file_9 : decode b_ML_file 9 = .ok (.iconst 0, 1) := by decide +kernel
theorem d_ML_file_10 : decode b_ML_file 10 = .ok (.invokevirtual 95, 3) := by decide +kernel
theorem d_ML_file_13 : decode b_ML_file 13 = .ok (.ireturn, 1) := by decide +kernel
theorem d_ML_write_0 : decode b_ML_write 0 = .ok (.aload_n 0, 1) := by decide +kernel
theorem d_ML_write_1 : decode b_ML_write 1 = .ok (.getfield 20, 3) := by decide +kernel
theorem d_ML_write_4 : decode b_ML_write 4 = .ok (.getfield 91, 3) := by decide +kernel
theorem d_ML_write_7 : decode b_ML_write 7 = .ok (.iload_n 1, 1) := by decide +kernel
theorem d_ML_write_8 : decode b_ML_write 8 = .ok (.iload_n 2, 1) := by decide +kernel
theorem d_ML_write_9 : decode b_ML_write 9 = .ok (.invokevirtual 101, 3) := by decide +kernel
theorem d_ML_write_12 : decode b_ML_write 12 = .ok (.ireturn, 1) := by decide +kernel
theorem d_ML_read_0 : decode b_ML_read 0 = .ok (.aload_n 0, 1) := by decide +kernel
theorem d_ML_read_1 : decode b_ML_read 1 = .ok (.getfield 20, 3) := by decide +kernel
theorem d_ML_read_4 : decode b_ML_read 4 = .ok (.getfield 91, 3) := by decide +kernel
theorem d_ML_read_7 : decode b_ML_read 7 = .ok (.iload_n 1, 1) := by decide +kernel
theorem d_ML_read_8 : decode b_ML_read 8 = .ok (.invokevirtual 103, 3) := by decide +kernel
theorem d_ML_read_11 : decode b_ML_read 11 = .ok (.ireturn, 1) := by decide +kernel
theorem d_ML_filter_0 : decode b_ML_filter 0 = .ok (.aload_n 0, 1) := by decide +kernel
theorem d_ML_filter_1 : decode b_ML_filter 1 = .ok (.getfield 20, 3) := by decide +kernel
theorem d_ML_filter_4 : decode b_ML_filter 4 = .ok (.getfield 91, 3) := by decide +kernel
theorem d_ML_filter_7 : decode b_ML_filter 7 = .ok (.iload_n 1, 1) := by decide +kernel
theorem d_ML_filter_8 : decode b_ML_filter 8 = .ok (.iload_n 2, 1) := by decide +kernel
theorem d_ML_filter_9 : decode b_ML_filter 9 = .ok (.invokevirtual 106, 3) := by decide +kernel
theorem d_ML_filter_12 : decode b_ML_filter 12 = .ok (.ireturn, 1) := by decide +kernel
theorem d_FileTree_shut_0 : decode b_FileTree_shut 0 = .ok (.aload_n 0, 1) := by decide +kernel
theorem d_FileTree_shut_1 : decode b_FileTree_shut 1 = .ok (.iload_n 1, 1) := by decide +kernel
theorem d_FileTree_shut_2 : decode b_FileTree_shut 2 = .ok (.invokevirtual 58, 3) := by decide +kernel
theorem d_FileTree_shut_5 : decode b_FileTree_shut 5 = .ok (.astore_n 2, 1) := by decide +kernel
theorem d_FileTree_shut_6 : decode b_FileTree_shut 6 = .ok (.aload_n 2, 1) := by decide +kernel
theorem d_FileTree_shut_7 : decode b_FileTree_shut 7 = .ok (.ifnonnull 5, 3) := by decide +kernel
theorem d_FileTree_shut_10 : decode b_FileTree_shut 10 = .ok (.iconst (-1), 1) := by decide +kernel
theorem d_FileTree_shut_11 : decode b_FileTree_shut 11 = .ok (.ireturn, 1) := by decide +kernel
theorem d_FileTree_shut_12 : decode b_FileTree_shut 12 = .ok (.iload_n 1, 1) := by decide +kernel
theorem d_FileTree_shut_13 : decode b_FileTree_shut 13 = .ok (.iconst 1, 1) := by decide +kernel
theorem d_FileTree_shut_14 : decode b_FileTree_shut 14 = .ok (.if_icmp .ne 6, 3) := by decide +kernel
theorem d_FileTree_shut_17 : decode b_FileTree_shut 17 = .ok (.bipush (-3), 2) := by decide +kernel
theorem d_FileTree_shut_19 : decode b_FileTree_shut 19 = .ok (.ireturn, 1) := by decide +kernel
theorem d_FileTree_shut_20 : decode b_FileTree_shut 20 = .ok (.aload_n 2, 1) := by decide +kernel
theorem d_FileTree_shut_21 : decode b_FileTree_shut 21 = .ok (.invokevirtual 86, 3) := by decide +kernel
theorem d_FileTree_shut_24 : decode b_FileTree_shut 24 = .ok (.iconst 1, 1) := by decide +kernel
theorem d_FileTree_shut_25 : decode b_FileTree_shut 25 = .ok (.ireturn, 1) := by decide +kernel
theorem d_ML_close_0 : decode b_ML_close 0 = .ok (.aload_n 0, 1) := by decide +kernel
theorem d_ML_close_1 : decode b_ML_close 1 = .ok (.getfield 20, 3) := by decide +kernel
theorem d_ML_close_4 : decode b_ML_close 4 = .ok (.getfield 91, 3) := by decide +kernel
theorem d_ML_close_7 : decode b_ML_close 7 = .ok (.iload_n 1, 1) := by decide +kernel
theorem d_ML_close_8 : decode b_ML_close 8 = .ok (.invokevirtual 109, 3) := by decide +kernel
theorem d_ML_close_11 : decode b_ML_close 11 = .ok (.ireturn, 1) := by decide +kernel
theorem d_ML_startFails_0 : decode b_ML_startFails 0 = .ok (.aload_n 0, 1) := by decide +kernel
theorem d_ML_startFails_1 : decode b_ML_startFails 1 = .ok (.getfield 28, 3) := by decide +kernel
theorem d_ML_startFails_4 : decode b_ML_startFails 4 = .ok (.istore_n 2, 1) := by decide +kernel
theorem d_ML_startFails_5 : decode b_ML_startFails 5 = .ok (.aload_n 0, 1) := by decide +kernel
theorem d_ML_startFails_6 : decode b_ML_startFails 6 = .ok (.iload_n 1, 1) := by decide +kernel
theorem d_ML_startFails_7 : decode b_ML_startFails 7 = .ok (.putfield 28, 3) := by decide +kernel
theorem d_ML_startFails_10 : decode b_ML_startFails 10 = .ok (.iload_n 2, 1) := by decide +kernel
theorem d_ML_startFails_11 : decode b_ML_startFails 11 = .ok (.ireturn, 1) := by decide +kernel
theorem d_FileTree_outputByte_0 : decode b_FileTree_outputByte 0 = .ok (.aload_n 0, 1) := by decide +kernel
theorem d_FileTree_outputByte_1 : decode b_FileTree_outputByte 1 = .ok (.getfield 20, 3) := by decide +kernel
theorem d_FileTree_outputByte_4 : decode b_FileTree_outputByte 4 = .ok (.iload_n 1, 1) := by decide +kernel
theorem d_FileTree_outputByte_5 : decode b_FileTree_outputByte 5 = .ok (.invokevirtual 92, 3) := by decide +kernel
theorem d_FileTree_outputByte_8 : decode b_FileTree_outputByte 8 = .ok (.ireturn, 1) := by decide +kernel
theorem d_ML_output_0 : decode b_ML_output 0 = .ok (.aload_n 0, 1) := by decide +kernel
theorem d_ML_output_1 : decode b_ML_output 1 = .ok (.getfield 20, 3) := by decide +kernel
theorem d_ML_output_4 : decode b_ML_output 4 = .ok (.getfield 91, 3) := by decide +kernel
theorem d_ML_output_7 : decode b_ML_output 7 = .ok (.iload_n 1, 1) := by decide +kernel
theorem d_ML_output_8 : decode b_ML_output 8 = .ok (.invokevirtual 112, 3) := by decide +kernel
theorem d_ML_output_11 : decode b_ML_output 11 = .ok (.ireturn, 1) := by decide +kernel
theorem d_FileTree_fileByte_0 : decode b_FileTree_fileByte 0 = .ok (.aload_n 0, 1) := by decide +kernel
theorem d_FileTree_fileByte_1 : decode b_FileTree_fileByte 1 = .ok (.iload_n 1, 1) := by decide +kernel
theorem d_FileTree_fileByte_2 : decode b_FileTree_fileByte 2 = .ok (.invokevirtual 35, 3) := by decide +kernel
theorem d_FileTree_fileByte_5 : decode b_FileTree_fileByte 5 = .ok (.astore_n 3, 1) := by decide +kernel
theorem d_FileTree_fileByte_6 : decode b_FileTree_fileByte 6 = .ok (.aload_n 3, 1) := by decide +kernel
theorem d_FileTree_fileByte_7 : decode b_FileTree_fileByte 7 = .ok (.ifnonnull 7, 3) := by decide +kernel
theorem d_FileTree_fileByte_10 : decode b_FileTree_fileByte 10 = .ok (.iconst (-1), 1) := by decide +kernel
theorem d_FileTree_fileByte_11 : decode b_FileTree_fileByte 11 = .ok (.goto 8, 3) := by decide +kernel
theorem d_FileTree_fileByte_14 : decode b_FileTree_fileByte 14 = .ok (.aload_n 3, 1) := by decide +kernel
theorem d_FileTree_fileByte_15 : decode b_FileTree_fileByte 15 = .ok (.iload_n 2, 1) := by decide +kernel
theorem d_FileTree_fileByte_16 : decode b_FileTree_fileByte 16 = .ok (.invokevirtual 92, 3) := by decide +kernel
theorem d_FileTree_fileByte_19 : decode b_FileTree_fileByte 19 = .ok (.ireturn, 1) := by decide +kernel
theorem d_ML_lies_0 : decode b_ML_lies 0 = .ok (.aload_n 0, 1) := by decide +kernel
theorem d_ML_lies_1 : decode b_ML_lies 1 = .ok (.getfield 20, 3) := by decide +kernel
theorem d_ML_lies_4 : decode b_ML_lies 4 = .ok (.getfield 91, 3) := by decide +kernel
theorem d_ML_lies_7 : decode b_ML_lies 7 = .ok (.iload_n 1, 1) := by decide +kernel
theorem d_ML_lies_8 : decode b_ML_lies 8 = .ok (.iload_n 2, 1) := by decide +kernel
theorem d_ML_lies_9 : decode b_ML_lies 9 = .ok (.invokevirtual 115, 3) := by decide +kernel
theorem d_ML_lies_12 : decode b_ML_lies 12 = .ok (.ireturn, 1) := by decide +kernel
theorem d_Mo_init_0 : decode b_Mo_init 0 = .ok (.aload_n 0, 1) := by decide +kernel
theorem d_Mo_init_1 : decode b_Mo_init 1 = .ok (.invokespecial 1, 3) := by decide +kernel
theorem d_Mo_init_4 : decode b_Mo_init 4 = .ok (.aload_n 0, 1) := by decide +kernel
theorem d_Mo_init_5 : decode b_Mo_init 5 = .ok (.sipush 4000, 3) := by decide +kernel
theorem d_Mo_init_8 : decode b_Mo_init 8 = .ok (.newarray .byte, 2) := by decide +kernel
theorem d_Mo_init_10 : decode b_Mo_init 10 = .ok (.putfield 7, 3) := by decide +kernel
theorem d_Mo_init_13 : decode b_Mo_init 13 = .ok (.aload_n 0, 1) := by decide +kernel
theorem d_Mo_init_14 : decode b_Mo_init 14 = .ok (.bipush 20, 2) := by decide +kernel
theorem d_Mo_init_16 : decode b_Mo_init 16 = .ok (.newarray .int, 2) := by decide +kernel
theorem d_Mo_init_18 : decode b_Mo_init 18 = .ok (.putfield 13, 3) := by decide +kernel
theorem d_Mo_init_21 : decode b_Mo_init 21 = .ok (.aload_n 0, 1) := by decide +kernel
theorem d_Mo_init_22 : decode b_Mo_init 22 = .ok (.bipush 120, 2) := by decide +kernel
theorem d_Mo_init_24 : decode b_Mo_init 24 = .ok (.newarray .int, 2) := by decide +kernel
theorem d_Mo_init_26 : decode b_Mo_init 26 = .ok (.putfield 17, 3) := by decide +kernel
theorem d_Mo_init_29 : decode b_Mo_init 29 = .ok (.aload_n 0, 1) := by decide +kernel
theorem d_Mo_init_30 : decode b_Mo_init 30 = .ok (.sipush 800, 3) := by decide +kernel
theorem d_Mo_init_33 : decode b_Mo_init 33 = .ok (.newarray .int, 2) := by decide +kernel
theorem d_Mo_init_35 : decode b_Mo_init 35 = .ok (.putfield 20, 3) := by decide +kernel
theorem d_Mo_init_38 : decode b_Mo_init 38 = .ok (.aload_n 0, 1) := by decide +kernel
theorem d_Mo_init_39 : decode b_Mo_init 39 = .ok (.iconst 4, 1) := by decide +kernel
theorem d_Mo_init_40 : decode b_Mo_init 40 = .ok (.newarray .int, 2) := by decide +kernel
theorem d_Mo_init_42 : decode b_Mo_init 42 = .ok (.dup, 1) := by decide +kernel
theorem d_Mo_init_43 : decode b_Mo_init 43 = .ok (.iconst 0, 1) := by decide +kernel
theorem d_Mo_init_44 : decode b_Mo_init 44 = .ok (.iconst 0, 1) := by decide +kernel
theorem d_Mo_init_45 : decode b_Mo_init 45 = .ok (.iastore, 1) := by decide +kernel
theorem d_Mo_init_46 : decode b_Mo_init 46 = .ok (.dup, 1) := by decide +kernel
theorem d_Mo_init_47 : decode b_Mo_init 47 = .ok (.iconst 1, 1) := by decide +kernel
theorem d_Mo_init_48 : decode b_Mo_init 48 = .ok (.iconst 1, 1) := by decide +kernel
theorem d_Mo_init_49 : decode b_Mo_init 49 = .ok (.iastore, 1) := by decide +kernel
theorem d_Mo_init_50 : decode b_Mo_init 50 = .ok (.dup, 1) := by decide +kernel
theorem d_Mo_init_51 : decode b_Mo_init 51 = .ok (.iconst 2, 1) := by decide +kernel
theorem d_Mo_init_52 : decode b_Mo_init 52 = .ok (.iconst 0, 1) := by decide +kernel
theorem d_Mo_init_53 : decode b_Mo_init 53 = .ok (.iastore, 1) := by decide +kernel
theorem d_Mo_init_54 : decode b_Mo_init 54 = .ok (.dup, 1) := by decide +kernel
theorem d_Mo_init_55 : decode b_Mo_init 55 = .ok (.iconst 3, 1) := by decide +kernel
theorem d_Mo_init_56 : decode b_Mo_init 56 = .ok (.iconst 0, 1) := by decide +kernel
theorem d_Mo_init_57 : decode b_Mo_init 57 = .ok (.iastore, 1) := by decide +kernel
theorem d_Mo_init_58 : decode b_Mo_init 58 = .ok (.putfield 23, 3) := by decide +kernel
theorem d_Mo_init_61 : decode b_Mo_init 61 = .ok (.aload_n 0, 1) := by decide +kernel
theorem d_Mo_init_62 : decode b_Mo_init 62 = .ok (.bipush 40, 2) := by decide +kernel
theorem d_Mo_init_64 : decode b_Mo_init 64 = .ok (.newarray .int, 2) := by decide +kernel
theorem d_Mo_init_66 : decode b_Mo_init 66 = .ok (.putfield 26, 3) := by decide +kernel
theorem d_Mo_init_69 : decode b_Mo_init 69 = .ok (.aload_n 0, 1) := by decide +kernel
theorem d_Mo_init_70 : decode b_Mo_init 70 = .ok (.iconst 4, 1) := by decide +kernel
theorem d_Mo_init_71 : decode b_Mo_init 71 = .ok (.newarray .int, 2) := by decide +kernel
theorem d_Mo_init_73 : decode b_Mo_init 73 = .ok (.putfield 29, 3) := by decide +kernel
theorem d_Mo_init_76 : decode b_Mo_init 76 = .ok (.aload_n 0, 1) := by decide +kernel
theorem d_Mo_init_77 : decode b_Mo_init 77 = .ok (.bipush 40, 2) := by decide +kernel
theorem d_Mo_init_79 : decode b_Mo_init 79 = .ok (.newarray .int, 2) := by decide +kernel
theorem d_Mo_init_81 : decode b_Mo_init 81 = .ok (.putfield 32, 3) := by decide +kernel
theorem d_Mo_init_84 : decode b_Mo_init 84 = .ok (.aload_n 0, 1) := by decide +kernel
theorem d_Mo_init_85 : decode b_Mo_init 85 = .ok (.bipush 10, 2) := by decide +kernel
theorem d_Mo_init_87 : decode b_Mo_init 87 = .ok (.newarray .boolean, 2) := by decide +kernel
theorem d_Mo_init_89 : decode b_Mo_init 89 = .ok (.putfield 35, 3) := by decide +kernel
theorem d_Mo_init_92 : decode b_Mo_init 92 = .ok (.aload_n 0, 1) := by decide +kernel
theorem d_Mo_init_93 : decode b_Mo_init 93 = .ok (.bipush 10, 2) := by decide +kernel
theorem d_Mo_init_95 : decode b_Mo_init 95 = .ok (.newarray .int, 2) := by decide +kernel
theorem d_Mo_init_97 : decode b_Mo_init 97 = .ok (.putfield 39, 3) := by decide +kernel
theorem d_Mo_init_100 : decode b_Mo_init 100 = .ok (.aload_n 0, 1) := by decide +kernel
theorem d_Mo_init_101 : decode b_Mo_init 101 = .ok (.sipush 1000, 3) := by decide +kernel
theorem d_Mo_init_104 : decode b_Mo_init 104 = .ok (.newarray .byte, 2) := by decide +kernel
theorem d_Mo_init_106 : decode b_Mo_init 106 = .ok (.putfield 42, 3) := by decide +kernel
theorem d_Mo_init_109 : decode b_Mo_init 109 = .ok (.aload_n 0, 1) := by decide +kernel
theorem d_Mo_init_110 : decode b_Mo_init 110 = .ok (.sipush 400, 3) := by decide +kernel
theorem d_Mo_init_113 : decode b_Mo_init 113 = .ok (.newarray .byte, 2) := by decide +kernel
theorem d_Mo_init_115 : decode b_Mo_init 115 = .ok (.putfield 45, 3) := by decide +kernel
theorem d_Mo_init_118 : decode b_Mo_init 118 = .ok (.aload_n 0, 1) := by decide +kernel
theorem d_Mo_init_119 : decode b_Mo_init 119 = .ok (.bipush 8, 2) := by decide +kernel
theorem d_Mo_init_121 : decode b_Mo_init 121 = .ok (.newarray .boolean, 2) := by decide +kernel
theorem d_Mo_init_123 : decode b_Mo_init 123 = .ok (.putfield 48, 3) := by decide +kernel
theorem d_Mo_init_126 : decode b_Mo_init 126 = .ok (.aload_n 0, 1) := by decide +kernel
theorem d_Mo_init_127 : decode b_Mo_init 127 = .ok (.bipush 8, 2) := by decide +kernel
theorem d_Mo_init_129 : decode b_Mo_init 129 = .ok (.newarray .int, 2) := by decide +kernel
theorem d_Mo_init_131 : decode b_Mo_init 131 = .ok (.putfield 51, 3) := by decide +kernel
theorem d_Mo_init_134 : decode b_Mo_init 134 = .ok (.aload_n 0, 1) := by decide +kernel
theorem d_Mo_init_135 : decode b_Mo_init 135 = .ok (.bipush 8, 2) := by decide +kernel
theorem d_Mo_init_137 : decode b_Mo_init 137 = .ok (.newarray .int, 2) := by decide +kernel
theorem d_Mo_init_139 : decode b_Mo_init 139 = .ok (.putfield 54, 3) := by decide +kernel
theorem d_Mo_init_142 : decode b_Mo_init 142 = .ok (.aload_n 0, 1) := by decide +kernel
theorem d_Mo_init_143 : decode b_Mo_init 143 = .ok (.bipush 8, 2) := by decide +kernel
theorem d_Mo_init_145 : decode b_Mo_init 145 = .ok (.newarray .int, 2) := by decide +kernel
theorem d_Mo_init_147 : decode b_Mo_init 147 = .ok (.putfield 57, 3) := by decide +kernel
theorem d_Mo_init_150 : decode b_Mo_init 150 = .ok (.aload_n 0, 1) := by decide +kernel
