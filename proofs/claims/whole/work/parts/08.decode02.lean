theorem d_Machine_comeToLoopEnd_80 : decode b_Machine_comeToLoopEnd 80 = .ok (.iconst 0, 1) := by decide +kernel
theorem d_Machine_comeToLoopEnd_81 : decode b_Machine_comeToLoopEnd 81 = .ok (.ireturn, 1) := by decide +kernel
theorem d_Device_copies_0 : decode b_Device_copies 0 = .ok (.aload_n 0, 1) := by decide +kernel
theorem d_Device_copies_1 : decode b_Device_copies 1 = .ok (.getfield 9, 3) := by decide +kernel
theorem d_Device_copies_4 : decode b_Device_copies 4 = .ok (.iconst 1, 1) := by decide +kernel
theorem d_Device_copies_5 : decode b_Device_copies 5 = .ok (.iaload, 1) := by decide +kernel
theorem d_Device_copies_6 : decode b_Device_copies 6 = .ok (.ireturn, 1) := by decide +kernel
theorem d_Job_show_0 : decode b_Job_show 0 = .ok (.iload_n 2, 1) := by decide +kernel
theorem d_Job_show_1 : decode b_Job_show 1 = .ok (.bipush 40, 2) := by decide +kernel
theorem d_Job_show_3 : decode b_Job_show 3 = .ok (.aload_n 0, 1) := by decide +kernel
theorem d_Job_show_4 : decode b_Job_show 4 = .ok (.getfield 23, 3) := by decide +kernel
theorem d_Job_show_7 : decode b_Job_show 7 = .ok (.isub, 1) := by decide +kernel
theorem d_Job_show_8 : decode b_Job_show 8 = .ok (.if_icmp .le 5, 3) := by decide +kernel
theorem d_Job_show_11 : decode b_Job_show 11 = .ok (.iconst 0, 1) := by decide +kernel
theorem d_Job_show_12 : decode b_Job_show 12 = .ok (.ireturn, 1) := by decide +kernel
theorem d_Job_show_13 : decode b_Job_show 13 = .ok (.iconst 0, 1) := by decide +kernel
theorem d_Job_show_14 : decode b_Job_show 14 = .ok (.istore_n 3, 1) := by decide +kernel
theorem d_Job_show_15 : decode b_Job_show 15 = .ok (.iload_n 3, 1) := by decide +kernel
theorem d_Job_show_16 : decode b_Job_show 16 = .ok (.iload_n 2, 1) := by decide +kernel
theorem d_Job_show_17 : decode b_Job_show 17 = .ok (.if_icmp .ge 29, 3) := by decide +kernel
theorem d_Job_show_20 : decode b_Job_show 20 = .ok (.aload_n 0, 1) := by decide +kernel
theorem d_Job_show_21 : decode b_Job_show 21 = .ok (.getfield 15, 3) := by decide +kernel
theorem d_Job_show_24 : decode b_Job_show 24 = .ok (.aload_n 0, 1) := by decide +kernel
theorem d_Job_show_25 : decode b_Job_show 25 = .ok (.getfield 23, 3) := by decide +kernel
theorem d_Job_show_28 : decode b_Job_show 28 = .ok (.iload_n 1, 1) := by decide +kernel
theorem d_Job_show_29 : decode b_Job_show 29 = .ok (.iastore, 1) := by decide +kernel
theorem d_Job_show_30 : decode b_Job_show 30 = .ok (.aload_n 0, 1) := by decide +kernel
theorem d_Job_show_31 : decode b_Job_show 31 = .ok (.dup, 1) := by decide +kernel
theorem d_Job_show_32 : decode b_Job_show 32 = .ok (.getfield 23, 3) := by decide +kernel
theorem d_Job_show_35 : decode b_Job_show 35 = .ok (.iconst 1, 1) := by decide +kernel
theorem d_Job_show_36 : decode b_Job_show 36 = .ok (.iadd, 1) := by decide +kernel
theorem d_Job_show_37 : decode b_Job_show 37 = .ok (.putfield 23, 3) := by decide +kernel
theorem d_Job_show_40 : decode b_Job_show 40 = .ok (.iinc 3 1, 3) := by decide +kernel
theorem d_Job_show_43 : decode b_Job_show 43 = .ok (.goto (-28), 3) := by decide +kernel
theorem d_Job_show_46 : decode b_Job_show 46 = .ok (.iconst 1, 1) := by decide +kernel
theorem d_Job_show_47 : decode b_Job_show 47 = .ok (.ireturn, 1) := by decide +kernel
theorem d_Machine_showPage_0 : decode b_Machine_showPage 0 = .ok (.aload_n 1, 1) := by decide +kernel
theorem d_Machine_showPage_1 : decode b_Machine_showPage 1 = .ok (.aload_n 0, 1) := by decide +kernel
theorem d_Machine_showPage_2 : decode b_Machine_showPage 2 = .ok (.getfield 68, 3) := by decide +kernel
theorem d_Machine_showPage_5 : decode b_Machine_showPage 5 = .ok (.aload_n 0, 1) := by decide +kernel
theorem d_Machine_showPage_6 : decode b_Machine_showPage 6 = .ok (.getfield 12, 3) := by decide +kernel
theorem d_Machine_showPage_9 : decode b_Machine_showPage 9 = .ok (.invokevirtual 198, 3) := by decide +kernel
theorem d_Machine_showPage_12 : decode b_Machine_showPage 12 = .ok (.invokevirtual 201, 3) := by decide +kernel
theorem d_Machine_showPage_15 : decode b_Machine_showPage 15 = .ok (.ifCond .ne 6, 3) := by decide +kernel
theorem d_Machine_showPage_18 : decode b_Machine_showPage 18 = .ok (.bipush 6, 2) := by decide +kernel
theorem d_Machine_showPage_20 : decode b_Machine_showPage 20 = .ok (.ireturn, 1) := by decide +kernel
theorem d_Machine_showPage_21 : decode b_Machine_showPage 21 = .ok (.aload_n 0, 1) := by decide +kernel
theorem d_Machine_showPage_22 : decode b_Machine_showPage 22 = .ok (.iconst 0, 1) := by decide +kernel
theorem d_Machine_showPage_23 : decode b_Machine_showPage 23 = .ok (.putfield 68, 3) := by decide +kernel
theorem d_Machine_showPage_26 : decode b_Machine_showPage 26 = .ok (.iconst 0, 1) := by decide +kernel
theorem d_Machine_showPage_27 : decode b_Machine_showPage 27 = .ok (.ireturn, 1) := by decide +kernel
theorem d_Device_change_0 : decode b_Device_change 0 = .ok (.iload_n 1, 1) := by decide +kernel
theorem d_Device_change_1 : decode b_Device_change 1 = .ok (.ifCond .lt 8, 3) := by decide +kernel
theorem d_Device_change_4 : decode b_Device_change 4 = .ok (.iload_n 1, 1) := by decide +kernel
theorem d_Device_change_5 : decode b_Device_change 5 = .ok (.iconst 4, 1) := by decide +kernel
theorem d_Device_change_6 : decode b_Device_change 6 = .ok (.if_icmp .lt 5, 3) := by decide +kernel
theorem d_Device_change_9 : decode b_Device_change 9 = .ok (.iconst 0, 1) := by decide +kernel
theorem d_Device_change_10 : decode b_Device_change 10 = .ok (.ireturn, 1) := by decide +kernel
theorem d_Device_change_11 : decode b_Device_change 11 = .ok (.iload_n 2, 1) := by decide +kernel
theorem d_Device_change_12 : decode b_Device_change 12 = .ok (.getstatic 21, 3) := by decide +kernel
theorem d_Device_change_15 : decode b_Device_change 15 = .ok (.iload_n 1, 1) := by decide +kernel
theorem d_Device_change_16 : decode b_Device_change 16 = .ok (.iaload, 1) := by decide +kernel
theorem d_Device_change_17 : decode b_Device_change 17 = .ok (.if_icmp .lt 12, 3) := by decide +kernel
theorem d_Device_change_20 : decode b_Device_change 20 = .ok (.iload_n 2, 1) := by decide +kernel
theorem d_Device_change_21 : decode b_Device_change 21 = .ok (.getstatic 24, 3) := by decide +kernel
theorem d_Device_change_24 : decode b_Device_change 24 = .ok (.iload_n 1, 1) := by decide +kernel
theorem d_Device_change_25 : decode b_Device_change 25 = .ok (.iaload, 1) := by decide +kernel
theorem d_Device_change_26 : decode b_Device_change 26 = .ok (.if_icmp .le 5, 3) := by decide +kernel
theorem d_Device_change_29 : decode b_Device_change 29 = .ok (.iconst 0, 1) := by decide +kernel
theorem d_Device_change_30 : decode b_Device_change 30 = .ok (.ireturn, 1) := by decide +kernel
theorem d_Device_change_31 : decode b_Device_change 31 = .ok (.aload_n 0, 1) := by decide +kernel
theorem d_Device_change_32 : decode b_Device_change 32 = .ok (.getfield 9, 3) := by decide +kernel
theorem d_Device_change_35 : decode b_Device_change 35 = .ok (.iload_n 1, 1) := by decide +kernel
theorem d_Device_change_36 : decode b_Device_change 36 = .ok (.iload_n 2, 1) := by decide +kernel
theorem d_Device_change_37 : decode b_Device_change 37 = .ok (.iastore, 1) := by decide +kernel
theorem d_Device_change_38 : decode b_Device_change 38 = .ok (.iconst 1, 1) := by decide +kernel
theorem d_Device_change_39 : decode b_Device_change 39 = .ok (.ireturn, 1) := by decide +kernel
theorem d_Device_passesOverWrongRequests_0 : decode b_Device_passesOverWrongRequests 0 = .ok (.aload_n 0, 1) := by decide +kernel
theorem d_Device_passesOverWrongRequests_1 : decode b_Device_passesOverWrongRequests 1 = .ok (.getfield 9, 3) := by decide +kernel
theorem d_Device_passesOverWrongRequests_4 : decode b_Device_passesOverWrongRequests 4 = .ok (.iconst 3, 1) := by decide +kernel
theorem d_Device_passesOverWrongRequests_5 : decode b_Device_passesOverWrongRequests 5 = .ok (.iaload, 1) := by decide +kernel
theorem d_Device_passesOverWrongRequests_6 : decode b_Device_passesOverWrongRequests 6 = .ok (.iconst 1, 1) := by decide +kernel
theorem d_Device_passesOverWrongRequests_7 : decode b_Device_passesOverWrongRequests 7 = .ok (.if_icmp .ne 7, 3) := by decide +kernel
theorem d_Device_passesOverWrongRequests_10 : decode b_Device_passesOverWrongRequests 10 = .ok (.iconst 1, 1) := by decide +kernel
theorem d_Device_passesOverWrongRequests_11 : decode b_Device_passesOverWrongRequests 11 = .ok (.goto 4, 3) := by decide +kernel
theorem d_Device_passesOverWrongRequests_14 : decode b_Device_passesOverWrongRequests 14 = .ok (.iconst 0, 1) := by decide +kernel
theorem d_Device_passesOverWrongRequests_15 : decode b_Device_passesOverWrongRequests 15 = .ok (.ireturn, 1) := by decide +kernel
theorem d_Machine_request_0 : decode b_Machine_request 0 = .ok (.aload_n 0, 1) := by decide +kernel
theorem d_Machine_request_1 : decode b_Machine_request 1 = .ok (.getfield 12, 3) := by decide +kernel
theorem d_Machine_request_4 : decode b_Machine_request 4 = .ok (.iload_n 1, 1) := by decide +kernel
theorem d_Machine_request_5 : decode b_Machine_request 5 = .ok (.iload_n 2, 1) := by decide +kernel
theorem d_Machine_request_6 : decode b_Machine_request 6 = .ok (.invokevirtual 190, 3) := by decide +kernel
theorem d_Machine_request_9 : decode b_Machine_request 9 = .ok (.ifCond .ne 13, 3) := by decide +kernel
theorem d_Machine_request_12 : decode b_Machine_request 12 = .ok (.aload_n 0, 1) := by decide +kernel
theorem d_Machine_request_13 : decode b_Machine_request 13 = .ok (.getfield 12, 3) := by decide +kernel
theorem d_Machine_request_16 : decode b_Machine_request 16 = .ok (.invokevirtual 194, 3) := by decide +kernel
theorem d_Machine_request_19 : decode b_Machine_request 19 = .ok (.ifCond .eq 7, 3) := by decide +kernel
theorem d_Machine_request_22 : decode b_Machine_request 22 = .ok (.iconst 1, 1) := by decide +kernel
theorem d_Machine_request_23 : decode b_Machine_request 23 = .ok (.goto 4, 3) := by decide +kernel
theorem d_Machine_request_26 : decode b_Machine_request 26 = .ok (.iconst 0, 1) := by decide +kernel
theorem d_Machine_request_27 : decode b_Machine_request 27 = .ok (.istore_n 3, 1) := by decide +kernel
theorem d_Machine_request_28 : decode b_Machine_request 28 = .ok (.iload_n 3, 1) := by decide +kernel
theorem d_Machine_request_29 : decode b_Machine_request 29 = .ok (.ifCond .eq 7, 3) := by decide +kernel
theorem d_Machine_request_32 : decode b_Machine_request 32 = .ok (.iconst 0, 1) := by decide +kernel
theorem d_Machine_request_33 : decode b_Machine_request 33 = .ok (.goto 4, 3) := by decide +kernel
theorem d_Machine_request_36 : decode b_Machine_request 36 = .ok (.iconst 3, 1) := by decide +kernel
theorem d_Machine_request_37 : decode b_Machine_request 37 = .ok (.ireturn, 1) := by decide +kernel
theorem d_Resources_slotOf_0 : decode b_Resources_slotOf 0 = .ok (.iload_n 0, 1) := by decide +kernel
theorem d_Resources_slotOf_1 : decode b_Resources_slotOf 1 = .ok (.ifCond .lt 18, 3) := by decide +kernel
theorem d_Resources_slotOf_4 : decode b_Resources_slotOf 4 = .ok (.iload_n 0, 1) := by decide +kernel
theorem d_Resources_slotOf_5 : decode b_Resources_slotOf 5 = .ok (.iconst 4, 1) := by decide +kernel
theorem d_Resources_slotOf_6 : decode b_Resources_slotOf 6 = .ok (.if_icmp .ge 13, 3) := by decide +kernel
theorem d_Resources_slotOf_9 : decode b_Resources_slotOf 9 = .ok (.iload_n 1, 1) := by decide +kernel
theorem d_Resources_slotOf_10 : decode b_Resources_slotOf 10 = .ok (.ifCond .lt 9, 3) := by decide +kernel
theorem d_Resources_slotOf_13 : decode b_Resources_slotOf 13 = .ok (.iload_n 1, 1) := by decide +kernel
theorem d_Resources_slotOf_14 : decode b_Resources_slotOf 14 = .ok (.bipush 10, 2) := by decide +kernel
theorem d_Resources_slotOf_16 : decode b_Resources_slotOf 16 = .ok (.if_icmp .lt 5, 3) := by decide +kernel
theorem d_Resources_slotOf_19 : decode b_Resources_slotOf 19 = .ok (.iconst (-1), 1) := by decide +kernel
theorem d_Resources_slotOf_20 : decode b_Resources_slotOf 20 = .ok (.ireturn, 1) := by decide +kernel
theorem d_Resources_slotOf_21 : decode b_Resources_slotOf 21 = .ok (.iload_n 0, 1) := by decide +kernel
theorem d_Resources_slotOf_22 : decode b_Resources_slotOf 22 = .ok (.bipush 10, 2) := by decide +kernel
theorem d_Resources_slotOf_24 : decode b_Resources_slotOf 24 = .ok (.imul, 1) := by decide +kernel
theorem d_Resources_slotOf_25 : decode b_Resources_slotOf 25 = .ok (.iload_n 1, 1) := by decide +kernel
theorem d_Resources_slotOf_26 : decode b_Resources_slotOf 26 = .ok (.iadd, 1) := by decide +kernel
theorem d_Resources_slotOf_27 : decode b_Resources_slotOf 27 = .ok (.ireturn, 1) := by decide +kernel
theorem d_Resources_valueAt_0 : decode b_Resources_valueAt 0 = .ok (.iload_n 1, 1) := by decide +kernel
theorem d_Resources_valueAt_1 : decode b_Resources_valueAt 1 = .ok (.iload_n 2, 1) := by decide +kernel
theorem d_Resources_valueAt_2 : decode b_Resources_valueAt 2 = .ok (.invokestatic 18, 3) := by decide +kernel
theorem d_Resources_valueAt_5 : decode b_Resources_valueAt 5 = .ok (.istore_n 3, 1) := by decide +kernel
theorem d_Resources_valueAt_6 : decode b_Resources_valueAt 6 = .ok (.iload_n 3, 1) := by decide +kernel
theorem d_Resources_valueAt_7 : decode b_Resources_valueAt 7 = .ok (.iconst (-1), 1) := by decide +kernel
theorem d_Resources_valueAt_8 : decode b_Resources_valueAt 8 = .ok (.if_icmp .ne 5, 3) := by decide +kernel
theorem d_Resources_valueAt_11 : decode b_Resources_valueAt 11 = .ok (.iconst (-1), 1) := by decide +kernel
theorem d_Resources_valueAt_12 : decode b_Resources_valueAt 12 = .ok (.ireturn, 1) := by decide +kernel
theorem d_Resources_valueAt_13 : decode b_Resources_valueAt 13 = .ok (.aload_n 0, 1) := by decide +kernel
theorem d_Resources_valueAt_14 : decode b_Resources_valueAt 14 = .ok (.getfield 9, 3) := by decide +kernel
theorem d_Resources_valueAt_17 : decode b_Resources_valueAt 17 = .ok (.iload_n 3, 1) := by decide +kernel
theorem d_Resources_valueAt_18 : decode b_Resources_valueAt 18 = .ok (.iaload, 1) := by decide +kernel
theorem d_Resources_valueAt_19 : decode b_Resources_valueAt 19 = .ok (.iconst (-1), 1) := by decide +kernel
theorem d_Resources_valueAt_20 : decode b_Resources_valueAt 20 = .ok (.if_icmp .ne 8, 3) := by decide +kernel
theorem d_Resources_valueAt_23 : decode b_Resources_valueAt 23 = .ok (.bipush (-3), 2) := by decide +kernel
theorem d_Resources_valueAt_25 : decode b_Resources_valueAt 25 = .ok (.goto 9, 3) := by decide +kernel
theorem d_Resources_valueAt_28 : decode b_Resources_valueAt 28 = .ok (.aload_n 0, 1) := by decide +kernel
theorem d_Resources_valueAt_29 : decode b_Resources_valueAt 29 = .ok (.getfield 9, 3) := by decide +kernel
theorem d_Resources_valueAt_32 : decode b_Resources_valueAt 32 = .ok (.iload_n 3, 1) := by decide +kernel
theorem d_Resources_valueAt_33 : decode b_Resources_valueAt 33 = .ok (.iaload, 1) := by decide +kernel
theorem d_Resources_valueAt_34 : decode b_Resources_valueAt 34 = .ok (.ireturn, 1) := by decide +kernel
theorem d_Machine_layUnlessRefused_0 : decode b_Machine_layUnlessRefused 0 = .ok (.iload_n 1, 1) := by decide +kernel
theorem d_Machine_layUnlessRefused_1 : decode b_Machine_layUnlessRefused 1 = .ok (.ifCond .ge 7, 3) := by decide +kernel
theorem d_Machine_layUnlessRefused_4 : decode b_Machine_layUnlessRefused 4 = .ok (.iload_n 2, 1) := by decide +kernel
theorem d_Machine_layUnlessRefused_5 : decode b_Machine_layUnlessRefused 5 = .ok (.goto 11, 3) := by decide +kernel
theorem d_Machine_layUnlessRefused_8 : decode b_Machine_layUnlessRefused 8 = .ok (.aload_n 0, 1) := by decide +kernel
theorem d_Machine_layUnlessRefused_9 : decode b_Machine_layUnlessRefused 9 = .ok (.getfield 50, 3) := by decide +kernel
theorem d_Machine_layUnlessRefused_12 : decode b_Machine_layUnlessRefused 12 = .ok (.iload_n 1, 1) := by decide +kernel
theorem d_Machine_layUnlessRefused_13 : decode b_Machine_layUnlessRefused 13 = .ok (.invokevirtual 123, 3) := by decide +kernel
theorem d_Machine_layUnlessRefused_16 : decode b_Machine_layUnlessRefused 16 = .ok (.ireturn, 1) := by decide +kernel
theorem d_Resources_put_0 : decode b_Resources_put 0 = .ok (.iload_n 1, 1) := by decide +kernel
theorem d_Resources_put_1 : decode b_Resources_put 1 = .ok (.iload_n 2, 1) := by decide +kernel
theorem d_Resources_put_2 : decode b_Resources_put 2 = .ok (.invokestatic 18, 3) := by decide +kernel
theorem d_Resources_put_5 : decode b_Resources_put 5 = .ok (.istore 4, 2) := by decide +kernel
theorem d_Resources_put_7 : decode b_Resources_put 7 = .ok (.iload 4, 2) := by decide +kernel
theorem d_Resources_put_9 : decode b_Resources_put 9 = .ok (.iconst (-1), 1) := by decide +kernel
theorem d_Resources_put_10 : decode b_Resources_put 10 = .ok (.if_icmp .ne 5, 3) := by decide +kernel
theorem d_Resources_put_13 : decode b_Resources_put 13 = .ok (.iconst (-1), 1) := by decide +kernel
theorem d_Resources_put_14 : decode b_Resources_put 14 = .ok (.ireturn, 1) := by decide +kernel
theorem d_Resources_put_15 : decode b_Resources_put 15 = .ok (.iload_n 3, 1) := by decide +kernel
theorem d_Resources_put_16 : decode b_Resources_put 16 = .ok (.ifCond .lt 10, 3) := by decide +kernel
theorem d_Resources_put_19 : decode b_Resources_put 19 = .ok (.iload_n 3, 1) := by decide +kernel
theorem d_Resources_put_20 : decode b_Resources_put 20 = .ok (.sipush 9999, 3) := by decide +kernel
theorem d_Resources_put_23 : decode b_Resources_put 23 = .ok (.if_icmp .le 6, 3) := by decide +kernel
theorem d_Resources_put_26 : decode b_Resources_put 26 = .ok (.bipush (-2), 2) := by decide +kernel
theorem d_Resources_put_28 : decode b_Resources_put 28 = .ok (.ireturn, 1) := by decide +kernel
theorem d_Resources_put_29 : decode b_Resources_put 29 = .ok (.aload_n 0, 1) := by decide +kernel
theorem d_Resources_put_30 : decode b_Resources_put 30 = .ok (.getfield 9, 3) := by decide +kernel
theorem d_Resources_put_33 : decode b_Resources_put 33 = .ok (.iload 4, 2) := by decide +kernel
theorem d_Resources_put_35 : decode b_Resources_put 35 = .ok (.iload_n 3, 1) := by decide +kernel
theorem d_Resources_put_36 : decode b_Resources_put 36 = .ok (.iastore, 1) := by decide +kernel
theorem d_Resources_put_37 : decode b_Resources_put 37 = .ok (.iconst 1, 1) := by decide +kernel
theorem d_Resources_put_38 : decode b_Resources_put 38 = .ok (.ireturn, 1) := by decide +kernel
theorem d_Machine_errorIfRefused_0 : decode b_Machine_errorIfRefused 0 = .ok (.iload_n 0, 1) := by decide +kernel
theorem d_Machine_errorIfRefused_1 : decode b_Machine_errorIfRefused 1 = .ok (.ifCond .ge 7, 3) := by decide +kernel
theorem d_Machine_errorIfRefused_4 : decode b_Machine_errorIfRefused 4 = .ok (.iload_n 1, 1) := by decide +kernel
theorem d_Machine_errorIfRefused_5 : decode b_Machine_errorIfRefused 5 = .ok (.goto 4, 3) := by decide +kernel
theorem d_Machine_errorIfRefused_8 : decode b_Machine_errorIfRefused 8 = .ok (.iconst 0, 1) := by decide +kernel
theorem d_Machine_errorIfRefused_9 : decode b_Machine_errorIfRefused 9 = .ok (.ireturn, 1) := by decide +kernel
theorem d_FileTree_storeOrNull_0 : decode b_FileTree_storeOrNull 0 = .ok (.iload_n 1, 1) := by decide +kernel
theorem d_FileTree_storeOrNull_1 : decode b_FileTree_storeOrNull 1 = .ok (.ifCond .lt 9, 3) := by decide +kernel
theorem d_FileTree_storeOrNull_4 : decode b_FileTree_storeOrNull 4 = .ok (.iload_n 1, 1) := by decide +kernel
theorem d_FileTree_storeOrNull_5 : decode b_FileTree_storeOrNull 5 = .ok (.bipush 10, 2) := by decide +kernel
theorem d_FileTree_storeOrNull_7 : decode b_FileTree_storeOrNull 7 = .ok (.if_icmp .lt 7, 3) := by decide +kernel
theorem d_FileTree_storeOrNull_10 : decode b_FileTree_storeOrNull 10 = .ok (.aconst_null, 1) := by decide +kernel
theorem d_FileTree_storeOrNull_11 : decode b_FileTree_storeOrNull 11 = .ok (.goto 9, 3) := by decide +kernel
theorem d_FileTree_storeOrNull_14 : decode b_FileTree_storeOrNull 14 = .ok (.aload_n 0, 1) := by decide +kernel
theorem d_FileTree_storeOrNull_15 : decode b_FileTree_storeOrNull 15 = .ok (.getfield 11, 3) := by decide +kernel
theorem d_FileTree_storeOrNull_18 : decode b_FileTree_storeOrNull 18 = .ok (.iload_n 1, 1) := by decide +kernel
theorem d_FileTree_storeOrNull_19 : decode b_FileTree_storeOrNull 19 = .ok (.aaload, 1) := by decide +kernel
theorem d_FileTree_storeOrNull_20 : decode b_FileTree_storeOrNull 20 = .ok (.areturn, 1) := by decide +kernel
theorem d_FileTree_isHeldAgainst_0 : decode b_FileTree_isHeldAgainst 0 = .ok (.iconst 2, 1) := by decide +kernel
theorem d_FileTree_isHeldAgainst_1 : decode b_FileTree_isHeldAgainst 1 = .ok (.istore_n 3, 1) := by decide +kernel
theorem d_FileTree_isHeldAgainst_2 : decode b_FileTree_isHeldAgainst 2 = .ok (.iload_n 3, 1) := by decide +kernel
theorem d_FileTree_isHeldAgainst_3 : decode b_FileTree_isHeldAgainst 3 = .ok (.bipush 7, 2) := by decide +kernel
theorem d_FileTree_isHeldAgainst_5 : decode b_FileTree_isHeldAgainst 5 = .ok (.if_icmp .gt 44, 3) := by decide +kernel
theorem d_FileTree_isHeldAgainst_8 : decode b_FileTree_isHeldAgainst 8 = .ok (.aload_n 0, 1) := by decide +kernel
theorem d_FileTree_isHeldAgainst_9 : decode b_FileTree_isHeldAgainst 9 = .ok (.iload_n 3, 1) := by decide +kernel
theorem d_FileTree_isHeldAgainst_10 : decode b_FileTree_isHeldAgainst 10 = .ok (.invokevirtual 51, 3) := by decide +kernel
theorem d_FileTree_isHeldAgainst_13 : decode b_FileTree_isHeldAgainst 13 = .ok (.astore 4, 2) := by decide +kernel
theorem d_FileTree_isHeldAgainst_15 : decode b_FileTree_isHeldAgainst 15 = .ok (.aload 4, 2) := by decide +kernel
theorem d_FileTree_isHeldAgainst_17 : decode b_FileTree_isHeldAgainst 17 = .ok (.ifnull 26, 3) := by decide +kernel
theorem d_FileTree_isHeldAgainst_20 : decode b_FileTree_isHeldAgainst 20 = .ok (.aload 4, 2) := by decide +kernel
theorem d_FileTree_isHeldAgainst_22 : decode b_FileTree_isHeldAgainst 22 = .ok (.getfield 61, 3) := by decide +kernel
theorem d_FileTree_isHeldAgainst_25 : decode b_FileTree_isHeldAgainst 25 = .ok (.aload_n 1, 1) := by decide +kernel
theorem d_FileTree_isHeldAgainst_26 : decode b_FileTree_isHeldAgainst 26 = .ok (.if_acmp .ne 17, 3) := by decide +kernel
theorem d_FileTree_isHeldAgainst_29 : decode b_FileTree_isHeldAgainst 29 = .ok (.iload_n 2, 1) := by decide +kernel
theorem d_FileTree_isHeldAgainst_30 : decode b_FileTree_isHeldAgainst 30 = .ok (.ifCond .ne 11, 3) := by decide +kernel
theorem d_FileTree_isHeldAgainst_33 : decode b_FileTree_isHeldAgainst 33 = .ok (.aload 4, 2) := by decide +kernel
theorem d_FileTree_isHeldAgainst_35 : decode b_FileTree_isHeldAgainst 35 = .ok (.getfield 64, 3) := by decide +kernel
theorem d_FileTree_isHeldAgainst_38 : decode b_FileTree_isHeldAgainst 38 = .ok (.ifCond .eq 5, 3) := by decide +kernel
theorem d_FileTree_isHeldAgainst_41 : decode b_FileTree_isHeldAgainst 41 = .ok (.iconst 1, 1) := by decide +kernel
theorem d_FileTree_isHeldAgainst_42 : decode b_FileTree_isHeldAgainst 42 = .ok (.ireturn, 1) := by decide +kernel
theorem d_FileTree_isHeldAgainst_43 : decode b_FileTree_isHeldAgainst 43 = .ok (.iinc 3 1, 3) := by decide +kernel
theorem d_FileTree_isHeldAgainst_46 : decode b_FileTree_isHeldAgainst 46 = .ok (.goto (-44), 3) := by decide +kernel
theorem d_FileTree_isHeldAgainst_49 : decode b_FileTree_isHeldAgainst 49 = .ok (.iconst 0, 1) := by decide +kernel
theorem d_FileTree_isHeldAgainst_50 : decode b_FileTree_isHeldAgainst 50 = .ok (.ireturn, 1) := by decide +kernel
theorem d_FileTree_freeHandle_0 : decode b_FileTree_freeHandle 0 = .ok (.iconst 2, 1) := by decide +kernel
theorem d_FileTree_freeHandle_1 : decode b_FileTree_freeHandle 1 = .ok (.istore_n 1, 1) := by decide +kernel
theorem d_FileTree_freeHandle_2 : decode b_FileTree_freeHandle 2 = .ok (.iload_n 1, 1) := by decide +kernel
theorem d_FileTree_freeHandle_3 : decode b_FileTree_freeHandle 3 = .ok (.bipush 7, 2) := by decide +kernel
theorem d_FileTree_freeHandle_5 : decode b_FileTree_freeHandle 5 = .ok (.if_icmp .gt 28, 3) := by decide +kernel
theorem d_FileTree_freeHandle_8 : decode b_FileTree_freeHandle 8 = .ok (.aload_n 0, 1) := by decide +kernel
theorem d_FileTree_freeHandle_9 : decode b_FileTree_freeHandle 9 = .ok (.iload_n 1, 1) := by decide +kernel
theorem d_FileTree_freeHandle_10 : decode b_FileTree_freeHandle 10 = .ok (.invokevirtual 51, 3) := by decide +kernel
theorem d_FileTree_freeHandle_13 : decode b_FileTree_freeHandle 13 = .ok (.astore_n 2, 1) := by decide +kernel
theorem d_FileTree_freeHandle_14 : decode b_FileTree_freeHandle 14 = .ok (.aload_n 2, 1) := by decide +kernel
theorem d_FileTree_freeHandle_15 : decode b_FileTree_freeHandle 15 = .ok (.ifnull 12, 3) := by decide +kernel
theorem d_FileTree_freeHandle_18 : decode b_FileTree_freeHandle 18 = .ok (.aload_n 2, 1) := by decide +kernel
theorem d_FileTree_freeHandle_19 : decode b_FileTree_freeHandle 19 = .ok (.getfield 61, 3) := by decide +kernel
theorem d_FileTree_freeHandle_22 : decode b_FileTree_freeHandle 22 = .ok (.ifnonnull 5, 3) := by decide +kernel
theorem d_FileTree_freeHandle_25 : decode b_FileTree_freeHandle 25 = .ok (.iload_n 1, 1) := by decide +kernel
theorem d_FileTree_freeHandle_26 : decode b_FileTree_freeHandle 26 = .ok (.ireturn, 1) := by decide +kernel
theorem d_FileTree_freeHandle_27 : decode b_FileTree_freeHandle 27 = .ok (.iinc 1 1, 3) := by decide +kernel
theorem d_FileTree_freeHandle_30 : decode b_FileTree_freeHandle 30 = .ok (.goto (-28), 3) := by decide +kernel
theorem d_FileTree_freeHandle_33 : decode b_FileTree_freeHandle 33 = .ok (.iconst (-1), 1) := by decide +kernel
theorem d_FileTree_freeHandle_34 : decode b_FileTree_freeHandle 34 = .ok (.ireturn, 1) := by decide +kernel
theorem d_Store_makeEmpty_0 : decode b_Store_makeEmpty 0 = .ok (.aload_n 0, 1) := by decide +kernel
theorem d_Store_makeEmpty_1 : decode b_Store_makeEmpty 1 = .ok (.iconst 1, 1) := by decide +kernel
theorem d_Store_makeEmpty_2 : decode b_Store_makeEmpty 2 = .ok (.putfield 25, 3) := by decide +kernel
theorem d_Store_makeEmpty_5 : decode b_Store_makeEmpty 5 = .ok (.aload_n 0, 1) := by decide +kernel
theorem d_Store_makeEmpty_6 : decode b_Store_makeEmpty 6 = .ok (.iconst 0, 1) := by decide +kernel
theorem d_Store_makeEmpty_7 : decode b_Store_makeEmpty 7 = .ok (.putfield 21, 3) := by decide +kernel
theorem d_Store_makeEmpty_10 : decode b_Store_makeEmpty 10 = .ok (.return_, 1) := by decide +kernel
theorem d_FileTree_open_0 : decode b_FileTree_open 0 = .ok (.aload_n 0, 1) := by decide +kernel
theorem d_FileTree_open_1 : decode b_FileTree_open 1 = .ok (.iload_n 1, 1) := by decide +kernel
theorem d_FileTree_open_2 : decode b_FileTree_open 2 = .ok (.invokevirtual 35, 3) := by decide +kernel
theorem d_FileTree_open_5 : decode b_FileTree_open 5 = .ok (.astore 4, 2) := by decide +kernel
theorem d_FileTree_open_7 : decode b_FileTree_open 7 = .ok (.aload 4, 2) := by decide +kernel
theorem d_FileTree_open_9 : decode b_FileTree_open 9 = .ok (.ifnonnull 5, 3) := by decide +kernel
theorem d_FileTree_open_12 : decode b_FileTree_open 12 = .ok (.iconst (-1), 1) := by decide +kernel
theorem d_FileTree_open_13 : decode b_FileTree_open 13 = .ok (.ireturn, 1) := by decide +kernel
theorem d_FileTree_open_14 : decode b_FileTree_open 14 = .ok (.iload_n 2, 1) := by decide +kernel
theorem d_FileTree_open_15 : decode b_FileTree_open 15 = .ok (.ifCond .lt 8, 3) := by decide +kernel
theorem d_FileTree_open_18 : decode b_FileTree_open 18 = .ok (.iload_n 2, 1) := by decide +kernel
theorem d_FileTree_open_19 : decode b_FileTree_open 19 = .ok (.iconst 2, 1) := by decide +kernel
theorem d_FileTree_open_20 : decode b_FileTree_open 20 = .ok (.if_icmp .le 6, 3) := by decide +kernel
theorem d_FileTree_open_23 : decode b_FileTree_open 23 = .ok (.bipush (-2), 2) := by decide +kernel
theorem d_FileTree_open_25 : decode b_FileTree_open 25 = .ok (.ireturn, 1) := by decide +kernel
theorem d_FileTree_open_26 : decode b_FileTree_open 26 = .ok (.iload_n 2, 1) := by decide +kernel
theorem d_FileTree_open_27 : decode b_FileTree_open 27 = .ok (.ifCond .ne 11, 3) := by decide +kernel
theorem d_FileTree_open_30 : decode b_FileTree_open 30 = .ok (.aload 4, 2) := by decide +kernel
theorem d_FileTree_open_32 : decode b_FileTree_open 32 = .ok (.getfield 39, 3) := by decide +kernel
theorem d_FileTree_open_35 : decode b_FileTree_open 35 = .ok (.ifCond .eq 13, 3) := by decide +kernel
theorem d_FileTree_open_38 : decode b_FileTree_open 38 = .ok (.aload_n 0, 1) := by decide +kernel
theorem d_FileTree_open_39 : decode b_FileTree_open 39 = .ok (.aload 4, 2) := by decide +kernel
theorem d_FileTree_open_41 : decode b_FileTree_open 41 = .ok (.iload_n 2, 1) := by decide +kernel
theorem d_FileTree_open_42 : decode b_FileTree_open 42 = .ok (.invokevirtual 43, 3) := by decide +kernel
theorem d_FileTree_open_45 : decode b_FileTree_open 45 = .ok (.ifCond .eq 6, 3) := by decide +kernel
theorem d_FileTree_open_48 : decode b_FileTree_open 48 = .ok (.bipush (-3), 2) := by decide +kernel
theorem d_FileTree_open_50 : decode b_FileTree_open 50 = .ok (.ireturn, 1) := by decide +kernel
theorem d_FileTree_open_51 : decode b_FileTree_open 51 = .ok (.aload_n 0, 1) := by decide +kernel
theorem d_FileTree_open_52 : decode b_FileTree_open 52 = .ok (.invokevirtual 47, 3) := by decide +kernel
theorem d_FileTree_open_55 : decode b_FileTree_open 55 = .ok (.istore 5, 2) := by decide +kernel
theorem d_FileTree_open_57 : decode b_FileTree_open 57 = .ok (.aload_n 0, 1) := by decide +kernel
theorem d_FileTree_open_58 : decode b_FileTree_open 58 = .ok (.iload 5, 2) := by decide +kernel
theorem d_FileTree_open_60 : decode b_FileTree_open 60 = .ok (.invokevirtual 51, 3) := by decide +kernel
theorem d_FileTree_open_63 : decode b_FileTree_open 63 = .ok (.astore 6, 2) := by decide +kernel
theorem d_FileTree_open_65 : decode b_FileTree_open 65 = .ok (.aload 6, 2) := by decide +kernel
theorem d_FileTree_open_67 : decode b_FileTree_open 67 = .ok (.ifnonnull 6, 3) := by decide +kernel
theorem d_FileTree_open_70 : decode b_FileTree_open 70 = .ok (.bipush (-4), 2) := by decide +kernel
theorem d_FileTree_open_72 : decode b_FileTree_open 72 = .ok (.ireturn, 1) := by decide +kernel
theorem d_FileTree_open_73 : decode b_FileTree_open 73 = .ok (.iload_n 2, 1) := by decide +kernel
theorem d_FileTree_open_74 : decode b_FileTree_open 74 = .ok (.iconst 1, 1) := by decide +kernel
theorem d_FileTree_open_75 : decode b_FileTree_open 75 = .ok (.if_icmp .eq 11, 3) := by decide +kernel
theorem d_FileTree_open_78 : decode b_FileTree_open 78 = .ok (.aload 4, 2) := by decide +kernel
theorem d_FileTree_open_80 : decode b_FileTree_open 80 = .ok (.getfield 39, 3) := by decide +kernel
theorem d_FileTree_open_83 : decode b_FileTree_open 83 = .ok (.ifCond .ne 8, 3) := by decide +kernel
theorem d_FileTree_open_86 : decode b_FileTree_open 86 = .ok (.aload 4, 2) := by decide +kernel
theorem d_FileTree_open_88 : decode b_FileTree_open 88 = .ok (.invokevirtual 55, 3) := by decide +kernel
theorem d_FileTree_open_91 : decode b_FileTree_open 91 = .ok (.aload 6, 2) := by decide +kernel
theorem d_FileTree_open_93 : decode b_FileTree_open 93 = .ok (.aload 4, 2) := by decide +kernel
theorem d_FileTree_open_95 : decode b_FileTree_open 95 = .ok (.iload_n 2, 1) := by decide +kernel
theorem d_FileTree_open_96 : decode b_FileTree_open 96 = .ok (.iload_n 3, 1) := by decide +kernel
theorem d_FileTree_open_97 : decode b_FileTree_open 97 = .ok (.invokevirtual 27, 3) := by decide +kernel
theorem d_FileTree_open_100 : decode b_FileTree_open 100 = .ok (.iload 5, 2) := by decide +kernel
theorem d_FileTree_open_102 : decode b_FileTree_open 102 = .ok (.ireturn, 1) := by decide +kernel
theorem d_FileTree_openOrNull_0 : decode b_FileTree_openOrNull 0 = .ok (.aload_n 0, 1) := by decide +kernel
theorem d_FileTree_openOrNull_1 : decode b_FileTree_openOrNull 1 = .ok (.iload_n 1, 1) := by decide +kernel
theorem d_FileTree_openOrNull_2 : decode b_FileTree_openOrNull 2 = .ok (.invokevirtual 51, 3) := by decide +kernel
theorem d_FileTree_openOrNull_5 : decode b_FileTree_openOrNull 5 = .ok (.astore_n 2, 1) := by decide +kernel
theorem d_FileTree_openOrNull_6 : decode b_FileTree_openOrNull 6 = .ok (.aload_n 2, 1) := by decide +kernel
theorem d_FileTree_openOrNull_7 : decode b_FileTree_openOrNull 7 = .ok (.ifnull 10, 3) := by decide +kernel
theorem d_FileTree_openOrNull_10 : decode b_FileTree_openOrNull 10 = .ok (.aload_n 2, 1) := by decide +kernel
theorem d_FileTree_openOrNull_11 : decode b_FileTree_openOrNull 11 = .ok (.getfield 61, 3) := by decide +kernel
theorem d_FileTree_openOrNull_14 : decode b_FileTree_openOrNull 14 = .ok (.ifnonnull 7, 3) := by decide +kernel
theorem d_FileTree_openOrNull_17 : decode b_FileTree_openOrNull 17 = .ok (.aconst_null, 1) := by decide +kernel
theorem d_FileTree_openOrNull_18 : decode b_FileTree_openOrNull 18 = .ok (.goto 4, 3) := by decide +kernel
theorem d_FileTree_openOrNull_21 : decode b_FileTree_openOrNull 21 = .ok (.aload_n 2, 1) := by decide +kernel
theorem d_FileTree_openOrNull_22 : decode b_FileTree_openOrNull 22 = .ok (.areturn, 1) := by decide +kernel
theorem d_FileTree_shutByJob_0 : decode b_FileTree_shutByJob 0 = .ok (.aload_n 0, 1) := by decide +kernel
theorem d_FileTree_shutByJob_1 : decode b_FileTree_shutByJob 1 = .ok (.iload_n 1, 1) := by decide +kernel
theorem d_FileTree_shutByJob_2 : decode b_FileTree_shutByJob 2 = .ok (.invokevirtual 58, 3) := by decide +kernel
theorem d_FileTree_shutByJob_5 : decode b_FileTree_shutByJob 5 = .ok (.astore_n 2, 1) := by decide +kernel
theorem d_FileTree_shutByJob_6 : decode b_FileTree_shutByJob 6 = .ok (.aload_n 2, 1) := by decide +kernel
theorem d_FileTree_shutByJob_7 : decode b_FileTree_shutByJob 7 = .ok (.ifnull 10, 3) := by decide +kernel
theorem d_FileTree_shutByJob_10 : decode b_FileTree_shutByJob 10 = .ok (.aload_n 2, 1) := by decide +kernel
theorem d_FileTree_shutByJob_11 : decode b_FileTree_shutByJob 11 = .ok (.getfield 89, 3) := by decide +kernel
theorem d_FileTree_shutByJob_14 : decode b_FileTree_shutByJob 14 = .ok (.ifCond .ne 5, 3) := by decide +kernel
theorem d_FileTree_shutByJob_17 : decode b_FileTree_shutByJob 17 = .ok (.iconst (-1), 1) := by decide +kernel
theorem d_FileTree_shutByJob_18 : decode b_FileTree_shutByJob 18 = .ok (.ireturn, 1) := by decide +kernel
theorem d_FileTree_shutByJob_19 : decode b_FileTree_shutByJob 19 = .ok (.aload_n 2, 1) := by decide +kernel
theorem d_FileTree_shutByJob_20 : decode b_FileTree_shutByJob 20 = .ok (.invokevirtual 86, 3) := by decide +kernel
theorem d_FileTree_shutByJob_23 : decode b_FileTree_shutByJob 23 = .ok (.iconst 1, 1) := by decide +kernel
theorem d_FileTree_shutByJob_24 : decode b_FileTree_shutByJob 24 = .ok (.ireturn, 1) := by decide +kernel
theorem d_Store_isFull_0 : decode b_Store_isFull 0 = .ok (.aload_n 0, 1) := by decide +kernel
theorem d_Store_isFull_1 : decode b_Store_isFull 1 = .ok (.getfield 21, 3) := by decide +kernel
theorem d_Store_isFull_4 : decode b_Store_isFull 4 = .ok (.aload_n 0, 1) := by decide +kernel
theorem d_Store_isFull_5 : decode b_Store_isFull 5 = .ok (.getfield 15, 3) := by decide +kernel
theorem d_Store_isFull_8 : decode b_Store_isFull 8 = .ok (.arraylength, 1) := by decide +kernel
theorem d_Store_isFull_9 : decode b_Store_isFull 9 = .ok (.if_icmp .lt 7, 3) := by decide +kernel
theorem d_Store_isFull_12 : decode b_Store_isFull 12 = .ok (.iconst 1, 1) := by decide +kernel
theorem d_Store_isFull_13 : decode b_Store_isFull 13 = .ok (.goto 4, 3) := by decide +kernel
theorem d_Store_isFull_16 : decode b_Store_isFull 16 = .ok (.iconst 0, 1) := by decide +kernel
theorem d_Store_isFull_17 : decode b_Store_isFull 17 = .ok (.ireturn, 1) := by decide +kernel
theorem d_Handle_throughFilter_0 : decode b_Handle_throughFilter 0 = .ok (.iload_n 0, 1) := by decide +kernel
theorem d_Handle_throughFilter_1 : decode b_Handle_throughFilter 1 = .ok (.tableswitch 52 1 3 #[27, 33, 44], 27) := by decide +kernel
theorem d_Handle_throughFilter_28 : decode b_Handle_throughFilter 28 = .ok (.sipush 255, 3) := by decide +kernel
theorem d_Handle_throughFilter_31 : decode b_Handle_throughFilter 31 = .ok (.iload_n 1, 1) := by decide +kernel
theorem d_Handle_throughFilter_32 : decode b_Handle_throughFilter 32 = .ok (.isub, 1) := by decide +kernel
theorem d_Handle_throughFilter_33 : decode b_Handle_throughFilter 33 = .ok (.ireturn, 1) := by decide +kernel
theorem d_Handle_throughFilter_34 : decode b_Handle_throughFilter 34 = .ok (.iload_n 1, 1) := by decide +kernel
theorem d_Handle_throughFilter_35 : decode b_Handle_throughFilter 35 = .ok (.iconst 4, 1) := by decide +kernel
theorem d_Handle_throughFilter_36 : decode b_Handle_throughFilter 36 = .ok (.ishr, 1) := by decide +kernel
theorem d_Handle_throughFilter_37 : decode b_Handle_throughFilter 37 = .ok (.iload_n 1, 1) := by decide +kernel
theorem d_Handle_throughFilter_38 : decode b_Handle_throughFilter 38 = .ok (.bipush 15, 2) := by decide +kernel
theorem d_Handle_throughFilter_40 : decode b_Handle_throughFilter 40 = .ok (.iand, 1) := by decide +kernel
theorem d_Handle_throughFilter_41 : decode b_Handle_throughFilter 41 = .ok (.iconst 4, 1) := by decide +kernel
theorem d_Handle_throughFilter_42 : decode b_Handle_throughFilter 42 = .ok (.ishl, 1) := by decide +kernel
theorem d_Handle_throughFilter_43 : decode b_Handle_throughFilter 43 = .ok (.ior, 1) := by decide +kernel
theorem d_Handle_throughFilter_44 : decode b_Handle_throughFilter 44 = .ok (.ireturn, 1) := by decide +kernel
theorem d_Handle_throughFilter_45 : decode b_Handle_throughFilter 45 = .ok (.iload_n 1, 1) := by decide +kernel
theorem d_Handle_throughFilter_46 : decode b_Handle_throughFilter 46 = .ok (.iload_n 2, 1) := by decide +kernel
theorem d_Handle_throughFilter_47 : decode b_Handle_throughFilter 47 = .ok (.iadd, 1) := by decide +kernel
theorem d_Handle_throughFilter_48 : decode b_Handle_throughFilter 48 = .ok (.sipush 255, 3) := by decide +kernel
theorem d_Handle_throughFilter_51 : decode b_Handle_throughFilter 51 = .ok (.iand, 1) := by decide +kernel
theorem d_Handle_throughFilter_52 : decode b_Handle_throughFilter 52 = .ok (.ireturn, 1) := by decide +kernel
theorem d_Handle_throughFilter_53 : decode b_Handle_throughFilter 53 = .ok (.iload_n 1, 1) := by decide +kernel
theorem d_Handle_throughFilter_54 : decode b_Handle_throughFilter 54 = .ok (.ireturn, 1) := by decide +kernel
theorem d_Handle_asWritten_0 : decode b_Handle_asWritten 0 = .ok (.iload_n 1, 1) := by decide +kernel
theorem d_Handle_asWritten_1 : decode b_Handle_asWritten 1 = .ok (.sipush 255, 3) := by decide +kernel
theorem d_Handle_asWritten_4 : decode b_Handle_asWritten 4 = .ok (.iand, 1) := by decide +kernel
theorem d_Handle_asWritten_5 : decode b_Handle_asWritten 5 = .ok (.istore_n 2, 1) := by decide +kernel
theorem d_Handle_asWritten_6 : decode b_Handle_asWritten 6 = .ok (.aload_n 0, 1) := by decide +kernel
theorem d_Handle_asWritten_7 : decode b_Handle_asWritten 7 = .ok (.getfield 33, 3) := by decide +kernel
theorem d_Handle_asWritten_10 : decode b_Handle_asWritten 10 = .ok (.iconst 1, 1) := by decide +kernel
theorem d_Handle_asWritten_11 : decode b_Handle_asWritten 11 = .ok (.isub, 1) := by decide +kernel
theorem d_Handle_asWritten_12 : decode b_Handle_asWritten 12 = .ok (.istore_n 3, 1) := by decide +kernel
theorem d_Handle_asWritten_13 : decode b_Handle_asWritten 13 = .ok (.iload_n 3, 1) := by decide +kernel
theorem d_Handle_asWritten_14 : decode b_Handle_asWritten 14 = .ok (.ifCond .lt 21, 3) := by decide +kernel
theorem d_Handle_asWritten_17 : decode b_Handle_asWritten 17 = .ok (.aload_n 0, 1) := by decide +kernel
theorem d_Handle_asWritten_18 : decode b_Handle_asWritten 18 = .ok (.getfield 9, 3) := by decide +kernel
theorem d_Handle_asWritten_21 : decode b_Handle_asWritten 21 = .ok (.iload_n 3, 1) := by decide +kernel
theorem d_Handle_asWritten_22 : decode b_Handle_asWritten 22 = .ok (.iaload, 1) := by decide +kernel
theorem d_Handle_asWritten_23 : decode b_Handle_asWritten 23 = .ok (.iload_n 2, 1) := by decide +kernel
theorem d_Handle_asWritten_24 : decode b_Handle_asWritten 24 = .ok (.iconst 1, 1) := by decide +kernel
theorem d_Handle_asWritten_25 : decode b_Handle_asWritten 25 = .ok (.invokestatic 39, 3) := by decide +kernel
theorem d_Handle_asWritten_28 : decode b_Handle_asWritten 28 = .ok (.istore_n 2, 1) := by decide +kernel
theorem d_Handle_asWritten_29 : decode b_Handle_asWritten 29 = .ok (.iinc 3 (-1), 3) := by decide +kernel
theorem d_Handle_asWritten_32 : decode b_Handle_asWritten 32 = .ok (.goto (-19), 3) := by decide +kernel
theorem d_Handle_asWritten_35 : decode b_Handle_asWritten 35 = .ok (.iload_n 2, 1) := by decide +kernel
theorem d_Handle_asWritten_36 : decode b_Handle_asWritten 36 = .ok (.ireturn, 1) := by decide +kernel
theorem d_Store_append_0 : decode b_Store_append 0 = .ok (.aload_n 0, 1) := by decide +kernel
theorem d_Store_append_1 : decode b_Store_append 1 = .ok (.invokevirtual 29, 3) := by decide +kernel
theorem d_Store_append_4 : decode b_Store_append 4 = .ok (.ifCond .ne 24, 3) := by decide +kernel
theorem d_Store_append_7 : decode b_Store_append 7 = .ok (.aload_n 0, 1) := by decide +kernel
theorem d_Store_append_8 : decode b_Store_append 8 = .ok (.getfield 15, 3) := by decide +kernel
theorem d_Store_append_11 : decode b_Store_append 11 = .ok (.aload_n 0, 1) := by decide +kernel
theorem d_Store_append_12 : decode b_Store_append 12 = .ok (.getfield 21, 3) := by decide +kernel
theorem d_Store_append_15 : decode b_Store_append 15 = .ok (.iload_n 1, 1) := by decide +kernel
theorem d_Store_append_16 : decode b_Store_append 16 = .ok (.i2b, 1) := by decide +kernel
theorem d_Store_append_17 : decode b_Store_append 17 = .ok (.bastore, 1) := by decide +kernel
theorem d_Store_append_18 : decode b_Store_append 18 = .ok (.aload_n 0, 1) := by decide +kernel
theorem d_Store_append_19 : decode b_Store_append 19 = .ok (.dup, 1) := by decide +kernel
