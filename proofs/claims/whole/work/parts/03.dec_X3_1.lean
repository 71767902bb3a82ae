theorem dX3_nearest_0 : decode cX3_nearest 0 = .ok (.iload_n 1, 1) := by decide +kernel
theorem dX3_nearest_1 : decode cX3_nearest 1 = .ok (.iload_n 2, 1) := by decide +kernel
theorem dX3_nearest_2 : decode cX3_nearest 2 = .ok (.iload_n 0, 1) := by decide +kernel
theorem dX3_nearest_3 : decode cX3_nearest 3 = .ok (.invokestatic 156, 3) := by decide +kernel
theorem dX3_nearest_6 : decode cX3_nearest 6 = .ok (.invokestatic 161, 3) := by decide +kernel
theorem dX3_nearest_9 : decode cX3_nearest 9 = .ok (.ireturn, 1) := by decide +kernel
theorem dX3_isCodePlace_0 : decode cX3_isCodePlace 0 = .ok (.iload_n 0, 1) := by decide +kernel
theorem dX3_isCodePlace_1 : decode cX3_isCodePlace 1 = .ok (.ifCond .lt 13, 3) := by decide +kernel
theorem dX3_isCodePlace_4 : decode cX3_isCodePlace 4 = .ok (.iload_n 0, 1) := by decide +kernel
theorem dX3_isCodePlace_5 : decode cX3_isCodePlace 5 = .ok (.bipush 64, 2) := by decide +kernel
theorem dX3_isCodePlace_7 : decode cX3_isCodePlace 7 = .ok (.if_icmp .ge 7, 3) := by decide +kernel
theorem dX3_isCodePlace_10 : decode cX3_isCodePlace 10 = .ok (.iconst 1, 1) := by decide +kernel
theorem dX3_isCodePlace_11 : decode cX3_isCodePlace 11 = .ok (.goto 4, 3) := by decide +kernel
theorem dX3_isCodePlace_14 : decode cX3_isCodePlace 14 = .ok (.iconst 0, 1) := by decide +kernel
theorem dX3_isCodePlace_15 : decode cX3_isCodePlace 15 = .ok (.ireturn, 1) := by decide +kernel
theorem dX3_isCell_0 : decode cX3_isCell 0 = .ok (.iload_n 0, 1) := by decide +kernel
theorem dX3_isCell_1 : decode cX3_isCell 1 = .ok (.ifCond .lt 13, 3) := by decide +kernel
theorem dX3_isCell_4 : decode cX3_isCell 4 = .ok (.iload_n 0, 1) := by decide +kernel
theorem dX3_isCell_5 : decode cX3_isCell 5 = .ok (.bipush 16, 2) := by decide +kernel
theorem dX3_isCell_7 : decode cX3_isCell 7 = .ok (.if_icmp .ge 7, 3) := by decide +kernel
theorem dX3_isCell_10 : decode cX3_isCell 10 = .ok (.iconst 1, 1) := by decide +kernel
theorem dX3_isCell_11 : decode cX3_isCell 11 = .ok (.goto 4, 3) := by decide +kernel
theorem dX3_isCell_14 : decode cX3_isCell 14 = .ok (.iconst 0, 1) := by decide +kernel
theorem dX3_isCell_15 : decode cX3_isCell 15 = .ok (.ireturn, 1) := by decide +kernel
theorem dX3_outSlot_0 : decode cX3_outSlot 0 = .ok (.iload_n 0, 1) := by decide +kernel
theorem dX3_outSlot_1 : decode cX3_outSlot 1 = .ok (.bipush 31, 2) := by decide +kernel
theorem dX3_outSlot_3 : decode cX3_outSlot 3 = .ok (.iand, 1) := by decide +kernel
theorem dX3_outSlot_4 : decode cX3_outSlot 4 = .ok (.ireturn, 1) := by decide +kernel
theorem dX3_isQueue_0 : decode cX3_isQueue 0 = .ok (.iload_n 1, 1) := by decide +kernel
theorem dX3_isQueue_1 : decode cX3_isQueue 1 = .ok (.ifCond .lt 16, 3) := by decide +kernel
theorem dX3_isQueue_4 : decode cX3_isQueue 4 = .ok (.iload_n 1, 1) := by decide +kernel
theorem dX3_isQueue_5 : decode cX3_isQueue 5 = .ok (.aload_n 0, 1) := by decide +kernel
theorem dX3_isQueue_6 : decode cX3_isQueue 6 = .ok (.getfield 48, 3) := by decide +kernel
theorem dX3_isQueue_9 : decode cX3_isQueue 9 = .ok (.arraylength, 1) := by decide +kernel
theorem dX3_isQueue_10 : decode cX3_isQueue 10 = .ok (.if_icmp .ge 7, 3) := by decide +kernel
theorem dX3_isQueue_13 : decode cX3_isQueue 13 = .ok (.iconst 1, 1) := by decide +kernel
theorem dX3_isQueue_14 : decode cX3_isQueue 14 = .ok (.goto 4, 3) := by decide +kernel
theorem dX3_isQueue_17 : decode cX3_isQueue 17 = .ok (.iconst 0, 1) := by decide +kernel
theorem dX3_isQueue_18 : decode cX3_isQueue 18 = .ok (.ireturn, 1) := by decide +kernel
theorem dX3_isTask_0 : decode cX3_isTask 0 = .ok (.iload_n 1, 1) := by decide +kernel
theorem dX3_isTask_1 : decode cX3_isTask 1 = .ok (.ifCond .lt 16, 3) := by decide +kernel
theorem dX3_isTask_4 : decode cX3_isTask 4 = .ok (.iload_n 1, 1) := by decide +kernel
theorem dX3_isTask_5 : decode cX3_isTask 5 = .ok (.aload_n 0, 1) := by decide +kernel
theorem dX3_isTask_6 : decode cX3_isTask 6 = .ok (.getfield 39, 3) := by decide +kernel
theorem dX3_isTask_9 : decode cX3_isTask 9 = .ok (.arraylength, 1) := by decide +kernel
theorem dX3_isTask_10 : decode cX3_isTask 10 = .ok (.if_icmp .ge 7, 3) := by decide +kernel
theorem dX3_isTask_13 : decode cX3_isTask 13 = .ok (.iconst 1, 1) := by decide +kernel
theorem dX3_isTask_14 : decode cX3_isTask 14 = .ok (.goto 4, 3) := by decide +kernel
theorem dX3_isTask_17 : decode cX3_isTask 17 = .ok (.iconst 0, 1) := by decide +kernel
theorem dX3_isTask_18 : decode cX3_isTask 18 = .ok (.ireturn, 1) := by decide +kernel
theorem dX3_isLive_0 : decode cX3_isLive 0 = .ok (.aload_n 0, 1) := by decide +kernel
theorem dX3_isLive_1 : decode cX3_isLive 1 = .ok (.iload_n 1, 1) := by decide +kernel
theorem dX3_isLive_2 : decode cX3_isLive 2 = .ok (.invokevirtual 98, 3) := by decide +kernel
theorem dX3_isLive_5 : decode cX3_isLive 5 = .ok (.ifCond .eq 19, 3) := by decide +kernel
theorem dX3_isLive_8 : decode cX3_isLive 8 = .ok (.aload_n 0, 1) := by decide +kernel
theorem dX3_isLive_9 : decode cX3_isLive 9 = .ok (.getfield 39, 3) := by decide +kernel
theorem dX3_isLive_12 : decode cX3_isLive 12 = .ok (.iload_n 1, 1) := by decide +kernel
theorem dX3_isLive_13 : decode cX3_isLive 13 = .ok (.aaload, 1) := by decide +kernel
theorem dX3_isLive_14 : decode cX3_isLive 14 = .ok (.getfield 71, 3) := by decide +kernel
theorem dX3_isLive_17 : decode cX3_isLive 17 = .ok (.ifCond .eq 7, 3) := by decide +kernel
theorem dX3_isLive_20 : decode cX3_isLive 20 = .ok (.iconst 1, 1) := by decide +kernel
theorem dX3_isLive_21 : decode cX3_isLive 21 = .ok (.goto 4, 3) := by decide +kernel
theorem dX3_isLive_24 : decode cX3_isLive 24 = .ok (.iconst 0, 1) := by decide +kernel
theorem dX3_isLive_25 : decode cX3_isLive 25 = .ok (.ireturn, 1) := by decide +kernel
theorem dX3_markOf_0 : decode cX3_markOf 0 = .ok (.iload_n 0, 1) := by decide +kernel
theorem dX3_markOf_1 : decode cX3_markOf 1 = .ok (.iconst 1, 1) := by decide +kernel
theorem dX3_markOf_2 : decode cX3_markOf 2 = .ok (.if_icmp .ne 5, 3) := by decide +kernel
theorem dX3_markOf_5 : decode cX3_markOf 5 = .ok (.iconst 0, 1) := by decide +kernel
theorem dX3_markOf_6 : decode cX3_markOf 6 = .ok (.ireturn, 1) := by decide +kernel
theorem dX3_markOf_7 : decode cX3_markOf 7 = .ok (.iload_n 0, 1) := by decide +kernel
theorem dX3_markOf_8 : decode cX3_markOf 8 = .ok (.ifCond .ne 7, 3) := by decide +kernel
theorem dX3_markOf_11 : decode cX3_markOf 11 = .ok (.iconst 1, 1) := by decide +kernel
theorem dX3_markOf_12 : decode cX3_markOf 12 = .ok (.goto 4, 3) := by decide +kernel
theorem dX3_markOf_15 : decode cX3_markOf 15 = .ok (.iload_n 0, 1) := by decide +kernel
theorem dX3_markOf_16 : decode cX3_markOf 16 = .ok (.ireturn, 1) := by decide +kernel
theorem dX3_tellsAnEnd_0 : decode cX3_tellsAnEnd 0 = .ok (.iload_n 0, 1) := by decide +kernel
theorem dX3_tellsAnEnd_1 : decode cX3_tellsAnEnd 1 = .ok (.iconst 1, 1) := by decide +kernel
theorem dX3_tellsAnEnd_2 : decode cX3_tellsAnEnd 2 = .ok (.if_icmp .eq 9, 3) := by decide +kernel
theorem dX3_tellsAnEnd_5 : decode cX3_tellsAnEnd 5 = .ok (.iload_n 0, 1) := by decide +kernel
theorem dX3_tellsAnEnd_6 : decode cX3_tellsAnEnd 6 = .ok (.bipush 8, 2) := by decide +kernel
theorem dX3_tellsAnEnd_8 : decode cX3_tellsAnEnd 8 = .ok (.if_icmp .lt 7, 3) := by decide +kernel
theorem dX3_tellsAnEnd_11 : decode cX3_tellsAnEnd 11 = .ok (.iconst 1, 1) := by decide +kernel
theorem dX3_tellsAnEnd_12 : decode cX3_tellsAnEnd 12 = .ok (.goto 4, 3) := by decide +kernel
theorem dX3_tellsAnEnd_15 : decode cX3_tellsAnEnd 15 = .ok (.iconst 0, 1) := by decide +kernel
theorem dX3_tellsAnEnd_16 : decode cX3_tellsAnEnd 16 = .ok (.ireturn, 1) := by decide +kernel
theorem dX3_enter_0 : decode cX3_enter 0 = .ok (.aload_n 1, 1) := by decide +kernel
theorem dX3_enter_1 : decode cX3_enter 1 = .ok (.iload_n 2, 1) := by decide +kernel
theorem dX3_enter_2 : decode cX3_enter 2 = .ok (.putfield 71, 3) := by decide +kernel
theorem dX3_enter_5 : decode cX3_enter 5 = .ok (.aload_n 1, 1) := by decide +kernel
theorem dX3_enter_6 : decode cX3_enter 6 = .ok (.aload_n 0, 1) := by decide +kernel
theorem dX3_enter_7 : decode cX3_enter 7 = .ok (.getfield 26, 3) := by decide +kernel
theorem dX3_enter_10 : decode cX3_enter 10 = .ok (.putfield 164, 3) := by decide +kernel
theorem dX3_enter_13 : decode cX3_enter 13 = .ok (.aload_n 0, 1) := by decide +kernel
theorem dX3_enter_14 : decode cX3_enter 14 = .ok (.dup, 1) := by decide +kernel
theorem dX3_enter_15 : decode cX3_enter 15 = .ok (.getfield 26, 3) := by decide +kernel
theorem dX3_enter_18 : decode cX3_enter 18 = .ok (.iconst 1, 1) := by decide +kernel
theorem dX3_enter_19 : decode cX3_enter 19 = .ok (.iadd, 1) := by decide +kernel
theorem dX3_enter_20 : decode cX3_enter 20 = .ok (.putfield 26, 3) := by decide +kernel
theorem dX3_enter_23 : decode cX3_enter 23 = .ok (.aload_n 1, 1) := by decide +kernel
theorem dX3_enter_24 : decode cX3_enter 24 = .ok (.iconst 0, 1) := by decide +kernel
theorem dX3_enter_25 : decode cX3_enter 25 = .ok (.putfield 120, 3) := by decide +kernel
theorem dX3_enter_28 : decode cX3_enter 28 = .ok (.aload_n 1, 1) := by decide +kernel
theorem dX3_enter_29 : decode cX3_enter 29 = .ok (.iconst (-1), 1) := by decide +kernel
theorem dX3_enter_30 : decode cX3_enter 30 = .ok (.putfield 123, 3) := by decide +kernel
theorem dX3_enter_33 : decode cX3_enter 33 = .ok (.return_, 1) := by decide +kernel
theorem dX3_waitAt_0 : decode cX3_waitAt 0 = .ok (.aload_n 0, 1) := by decide +kernel
theorem dX3_waitAt_1 : decode cX3_waitAt 1 = .ok (.aload_n 1, 1) := by decide +kernel
theorem dX3_waitAt_2 : decode cX3_waitAt 2 = .ok (.iload_n 2, 1) := by decide +kernel
theorem dX3_waitAt_3 : decode cX3_waitAt 3 = .ok (.invokevirtual 92, 3) := by decide +kernel
theorem dX3_waitAt_6 : decode cX3_waitAt 6 = .ok (.aload_n 1, 1) := by decide +kernel
theorem dX3_waitAt_7 : decode cX3_waitAt 7 = .ok (.iload_n 3, 1) := by decide +kernel
theorem dX3_waitAt_8 : decode cX3_waitAt 8 = .ok (.putfield 123, 3) := by decide +kernel
theorem dX3_waitAt_11 : decode cX3_waitAt 11 = .ok (.return_, 1) := by decide +kernel
theorem dX3_end_0 : decode cX3_end 0 = .ok (.aload_n 0, 1) := by decide +kernel
theorem dX3_end_1 : decode cX3_end 1 = .ok (.iconst 0, 1) := by decide +kernel
theorem dX3_end_2 : decode cX3_end 2 = .ok (.putfield 71, 3) := by decide +kernel
theorem dX3_end_5 : decode cX3_end 5 = .ok (.aload_n 0, 1) := by decide +kernel
theorem dX3_end_6 : decode cX3_end 6 = .ok (.iload_n 1, 1) := by decide +kernel
theorem dX3_end_7 : decode cX3_end 7 = .ok (.putfield 153, 3) := by decide +kernel
theorem dX3_end_10 : decode cX3_end 10 = .ok (.return_, 1) := by decide +kernel
theorem dX3_beginLeastFree_0 : decode cX3_beginLeastFree 0 = .ok (.iconst 0, 1) := by decide +kernel
theorem dX3_beginLeastFree_1 : decode cX3_beginLeastFree 1 = .ok (.istore_n 3, 1) := by decide +kernel
theorem dX3_beginLeastFree_2 : decode cX3_beginLeastFree 2 = .ok (.iload_n 3, 1) := by decide +kernel
theorem dX3_beginLeastFree_3 : decode cX3_beginLeastFree 3 = .ok (.aload_n 0, 1) := by decide +kernel
theorem dX3_beginLeastFree_4 : decode cX3_beginLeastFree 4 = .ok (.getfield 39, 3) := by decide +kernel
theorem dX3_beginLeastFree_7 : decode cX3_beginLeastFree 7 = .ok (.arraylength, 1) := by decide +kernel
theorem dX3_beginLeastFree_8 : decode cX3_beginLeastFree 8 = .ok (.if_icmp .ge 45, 3) := by decide +kernel
theorem dX3_beginLeastFree_11 : decode cX3_beginLeastFree 11 = .ok (.aload_n 0, 1) := by decide +kernel
theorem dX3_beginLeastFree_12 : decode cX3_beginLeastFree 12 = .ok (.getfield 39, 3) := by decide +kernel
theorem dX3_beginLeastFree_15 : decode cX3_beginLeastFree 15 = .ok (.iload_n 3, 1) := by decide +kernel
theorem dX3_beginLeastFree_16 : decode cX3_beginLeastFree 16 = .ok (.aaload, 1) := by decide +kernel
theorem dX3_beginLeastFree_17 : decode cX3_beginLeastFree 17 = .ok (.getfield 71, 3) := by decide +kernel
theorem dX3_beginLeastFree_20 : decode cX3_beginLeastFree 20 = .ok (.ifCond .ne 27, 3) := by decide +kernel
theorem dX3_beginLeastFree_23 : decode cX3_beginLeastFree 23 = .ok (.aload_n 0, 1) := by decide +kernel
theorem dX3_beginLeastFree_24 : decode cX3_beginLeastFree 24 = .ok (.getfield 39, 3) := by decide +kernel
theorem dX3_beginLeastFree_27 : decode cX3_beginLeastFree 27 = .ok (.iload_n 3, 1) := by decide +kernel
theorem dX3_beginLeastFree_28 : decode cX3_beginLeastFree 28 = .ok (.aaload, 1) := by decide +kernel
theorem dX3_beginLeastFree_29 : decode cX3_beginLeastFree 29 = .ok (.iload_n 1, 1) := by decide +kernel
theorem dX3_beginLeastFree_30 : decode cX3_beginLeastFree 30 = .ok (.iload_n 2, 1) := by decide +kernel
theorem dX3_beginLeastFree_31 : decode cX3_beginLeastFree 31 = .ok (.invokevirtual 167, 3) := by decide +kernel
theorem dX3_beginLeastFree_34 : decode cX3_beginLeastFree 34 = .ok (.aload_n 0, 1) := by decide +kernel
theorem dX3_beginLeastFree_35 : decode cX3_beginLeastFree 35 = .ok (.aload_n 0, 1) := by decide +kernel
theorem dX3_beginLeastFree_36 : decode cX3_beginLeastFree 36 = .ok (.getfield 39, 3) := by decide +kernel
theorem dX3_beginLeastFree_39 : decode cX3_beginLeastFree 39 = .ok (.iload_n 3, 1) := by decide +kernel
theorem dX3_beginLeastFree_40 : decode cX3_beginLeastFree 40 = .ok (.aaload, 1) := by decide +kernel
theorem dX3_beginLeastFree_41 : decode cX3_beginLeastFree 41 = .ok (.iconst 1, 1) := by decide +kernel
theorem dX3_beginLeastFree_42 : decode cX3_beginLeastFree 42 = .ok (.invokevirtual 92, 3) := by decide +kernel
theorem dX3_beginLeastFree_45 : decode cX3_beginLeastFree 45 = .ok (.iload_n 3, 1) := by decide +kernel
theorem dX3_beginLeastFree_46 : decode cX3_beginLeastFree 46 = .ok (.ireturn, 1) := by decide +kernel
theorem dX3_beginLeastFree_47 : decode cX3_beginLeastFree 47 = .ok (.iinc 3 1, 3) := by decide +kernel
theorem dX3_beginLeastFree_50 : decode cX3_beginLeastFree 50 = .ok (.goto (-48), 3) := by decide +kernel
theorem dX3_beginLeastFree_53 : decode cX3_beginLeastFree 53 = .ok (.iconst (-1), 1) := by decide +kernel
theorem dX3_beginLeastFree_54 : decode cX3_beginLeastFree 54 = .ok (.ireturn, 1) := by decide +kernel
theorem dX3_firstDueSleeper_0 : decode cX3_firstDueSleeper 0 = .ok (.aconst_null, 1) := by decide +kernel
theorem dX3_firstDueSleeper_1 : decode cX3_firstDueSleeper 1 = .ok (.astore_n 1, 1) := by decide +kernel
theorem dX3_firstDueSleeper_2 : decode cX3_firstDueSleeper 2 = .ok (.iconst 0, 1) := by decide +kernel
theorem dX3_firstDueSleeper_3 : decode cX3_firstDueSleeper 3 = .ok (.istore_n 2, 1) := by decide +kernel
theorem dX3_firstDueSleeper_4 : decode cX3_firstDueSleeper 4 = .ok (.iload_n 2, 1) := by decide +kernel
theorem dX3_firstDueSleeper_5 : decode cX3_firstDueSleeper 5 = .ok (.aload_n 0, 1) := by decide +kernel
theorem dX3_firstDueSleeper_6 : decode cX3_firstDueSleeper 6 = .ok (.getfield 39, 3) := by decide +kernel
theorem dX3_firstDueSleeper_9 : decode cX3_firstDueSleeper 9 = .ok (.arraylength, 1) := by decide +kernel
theorem dX3_firstDueSleeper_10 : decode cX3_firstDueSleeper 10 = .ok (.if_icmp .ge 52, 3) := by decide +kernel
theorem dX3_firstDueSleeper_13 : decode cX3_firstDueSleeper 13 = .ok (.aload_n 0, 1) := by decide +kernel
theorem dX3_firstDueSleeper_14 : decode cX3_firstDueSleeper 14 = .ok (.getfield 39, 3) := by decide +kernel
theorem dX3_firstDueSleeper_17 : decode cX3_firstDueSleeper 17 = .ok (.iload_n 2, 1) := by decide +kernel
theorem dX3_firstDueSleeper_18 : decode cX3_firstDueSleeper 18 = .ok (.aaload, 1) := by decide +kernel
theorem dX3_firstDueSleeper_19 : decode cX3_firstDueSleeper 19 = .ok (.astore_n 3, 1) := by decide +kernel
theorem dX3_firstDueSleeper_20 : decode cX3_firstDueSleeper 20 = .ok (.aload_n 3, 1) := by decide +kernel
theorem dX3_firstDueSleeper_21 : decode cX3_firstDueSleeper 21 = .ok (.getfield 71, 3) := by decide +kernel
theorem dX3_firstDueSleeper_24 : decode cX3_firstDueSleeper 24 = .ok (.iconst 2, 1) := by decide +kernel
theorem dX3_firstDueSleeper_25 : decode cX3_firstDueSleeper 25 = .ok (.if_icmp .ne 31, 3) := by decide +kernel
theorem dX3_firstDueSleeper_28 : decode cX3_firstDueSleeper 28 = .ok (.aload_n 3, 1) := by decide +kernel
theorem dX3_firstDueSleeper_29 : decode cX3_firstDueSleeper 29 = .ok (.getfield 120, 3) := by decide +kernel
theorem dX3_firstDueSleeper_32 : decode cX3_firstDueSleeper 32 = .ok (.aload_n 0, 1) := by decide +kernel
theorem dX3_firstDueSleeper_33 : decode cX3_firstDueSleeper 33 = .ok (.getfield 23, 3) := by decide +kernel
theorem dX3_firstDueSleeper_36 : decode cX3_firstDueSleeper 36 = .ok (.if_icmp .ne 20, 3) := by decide +kernel
theorem dX3_firstDueSleeper_39 : decode cX3_firstDueSleeper 39 = .ok (.aload_n 1, 1) := by decide +kernel
theorem dX3_firstDueSleeper_40 : decode cX3_firstDueSleeper 40 = .ok (.ifnull 14, 3) := by decide +kernel
theorem dX3_firstDueSleeper_43 : decode cX3_firstDueSleeper 43 = .ok (.aload_n 3, 1) := by decide +kernel
theorem dX3_firstDueSleeper_44 : decode cX3_firstDueSleeper 44 = .ok (.getfield 164, 3) := by decide +kernel
theorem dX3_firstDueSleeper_47 : decode cX3_firstDueSleeper 47 = .ok (.aload_n 1, 1) := by decide +kernel
theorem dX3_firstDueSleeper_48 : decode cX3_firstDueSleeper 48 = .ok (.getfield 164, 3) := by decide +kernel
theorem dX3_firstDueSleeper_51 : decode cX3_firstDueSleeper 51 = .ok (.if_icmp .ge 5, 3) := by decide +kernel
theorem dX3_firstDueSleeper_54 : decode cX3_firstDueSleeper 54 = .ok (.aload_n 3, 1) := by decide +kernel
theorem dX3_firstDueSleeper_55 : decode cX3_firstDueSleeper 55 = .ok (.astore_n 1, 1) := by decide +kernel
theorem dX3_firstDueSleeper_56 : decode cX3_firstDueSleeper 56 = .ok (.iinc 2 1, 3) := by decide +kernel
theorem dX3_firstDueSleeper_59 : decode cX3_firstDueSleeper 59 = .ok (.goto (-55), 3) := by decide +kernel
theorem dX3_firstDueSleeper_62 : decode cX3_firstDueSleeper 62 = .ok (.aload_n 1, 1) := by decide +kernel
theorem dX3_firstDueSleeper_63 : decode cX3_firstDueSleeper 63 = .ok (.areturn, 1) := by decide +kernel
theorem dX3_firstWaiting_0 : decode cX3_firstWaiting 0 = .ok (.aconst_null, 1) := by decide +kernel
theorem dX3_firstWaiting_1 : decode cX3_firstWaiting 1 = .ok (.astore_n 3, 1) := by decide +kernel
theorem dX3_firstWaiting_2 : decode cX3_firstWaiting 2 = .ok (.iconst 0, 1) := by decide +kernel
theorem dX3_firstWaiting_3 : decode cX3_firstWaiting 3 = .ok (.istore 4, 2) := by decide +kernel
theorem dX3_firstWaiting_5 : decode cX3_firstWaiting 5 = .ok (.iload 4, 2) := by decide +kernel
theorem dX3_firstWaiting_7 : decode cX3_firstWaiting 7 = .ok (.aload_n 0, 1) := by decide +kernel
theorem dX3_firstWaiting_8 : decode cX3_firstWaiting 8 = .ok (.getfield 39, 3) := by decide +kernel
theorem dX3_firstWaiting_11 : decode cX3_firstWaiting 11 = .ok (.arraylength, 1) := by decide +kernel
theorem dX3_firstWaiting_12 : decode cX3_firstWaiting 12 = .ok (.if_icmp .ge 47, 3) := by decide +kernel
theorem dX3_firstWaiting_15 : decode cX3_firstWaiting 15 = .ok (.aload_n 0, 1) := by decide +kernel
theorem dX3_firstWaiting_16 : decode cX3_firstWaiting 16 = .ok (.getfield 39, 3) := by decide +kernel
theorem dX3_firstWaiting_19 : decode cX3_firstWaiting 19 = .ok (.iload 4, 2) := by decide +kernel
theorem dX3_firstWaiting_21 : decode cX3_firstWaiting 21 = .ok (.aaload, 1) := by decide +kernel
theorem dX3_firstWaiting_22 : decode cX3_firstWaiting 22 = .ok (.astore 5, 2) := by decide +kernel
theorem dX3_firstWaiting_24 : decode cX3_firstWaiting 24 = .ok (.aload 5, 2) := by decide +kernel
theorem dX3_firstWaiting_26 : decode cX3_firstWaiting 26 = .ok (.iload_n 1, 1) := by decide +kernel
theorem dX3_firstWaiting_27 : decode cX3_firstWaiting 27 = .ok (.iload_n 2, 1) := by decide +kernel
theorem dX3_firstWaiting_28 : decode cX3_firstWaiting 28 = .ok (.invokevirtual 140, 3) := by decide +kernel
theorem dX3_firstWaiting_31 : decode cX3_firstWaiting 31 = .ok (.ifCond .eq 22, 3) := by decide +kernel
theorem dX3_firstWaiting_34 : decode cX3_firstWaiting 34 = .ok (.aload_n 3, 1) := by decide +kernel
theorem dX3_firstWaiting_35 : decode cX3_firstWaiting 35 = .ok (.ifnull 15, 3) := by decide +kernel
theorem dX3_firstWaiting_38 : decode cX3_firstWaiting 38 = .ok (.aload 5, 2) := by decide +kernel
theorem dX3_firstWaiting_40 : decode cX3_firstWaiting 40 = .ok (.getfield 164, 3) := by decide +kernel
theorem dX3_firstWaiting_43 : decode cX3_firstWaiting 43 = .ok (.aload_n 3, 1) := by decide +kernel
theorem dX3_firstWaiting_44 : decode cX3_firstWaiting 44 = .ok (.getfield 164, 3) := by decide +kernel
theorem dX3_firstWaiting_47 : decode cX3_firstWaiting 47 = .ok (.if_icmp .ge 6, 3) := by decide +kernel
theorem dX3_firstWaiting_50 : decode cX3_firstWaiting 50 = .ok (.aload 5, 2) := by decide +kernel
theorem dX3_firstWaiting_52 : decode cX3_firstWaiting 52 = .ok (.astore_n 3, 1) := by decide +kernel
theorem dX3_firstWaiting_53 : decode cX3_firstWaiting 53 = .ok (.iinc 4 1, 3) := by decide +kernel
theorem dX3_firstWaiting_56 : decode cX3_firstWaiting 56 = .ok (.goto (-51), 3) := by decide +kernel
theorem dX3_firstWaiting_59 : decode cX3_firstWaiting 59 = .ok (.aload_n 3, 1) := by decide +kernel
theorem dX3_firstWaiting_60 : decode cX3_firstWaiting 60 = .ok (.areturn, 1) := by decide +kernel
theorem dX3_countBefore_0 : decode cX3_countBefore 0 = .ok (.iconst 0, 1) := by decide +kernel
theorem dX3_countBefore_1 : decode cX3_countBefore 1 = .ok (.istore_n 2, 1) := by decide +kernel
theorem dX3_countBefore_2 : decode cX3_countBefore 2 = .ok (.iconst 0, 1) := by decide +kernel
theorem dX3_countBefore_3 : decode cX3_countBefore 3 = .ok (.istore_n 3, 1) := by decide +kernel
theorem dX3_countBefore_4 : decode cX3_countBefore 4 = .ok (.iload_n 3, 1) := by decide +kernel
theorem dX3_countBefore_5 : decode cX3_countBefore 5 = .ok (.aload_n 0, 1) := by decide +kernel
theorem dX3_countBefore_6 : decode cX3_countBefore 6 = .ok (.getfield 39, 3) := by decide +kernel
theorem dX3_countBefore_9 : decode cX3_countBefore 9 = .ok (.arraylength, 1) := by decide +kernel
theorem dX3_countBefore_10 : decode cX3_countBefore 10 = .ok (.if_icmp .ge 48, 3) := by decide +kernel
theorem dX3_countBefore_13 : decode cX3_countBefore 13 = .ok (.aload_n 0, 1) := by decide +kernel
theorem dX3_countBefore_14 : decode cX3_countBefore 14 = .ok (.getfield 39, 3) := by decide +kernel
theorem dX3_countBefore_17 : decode cX3_countBefore 17 = .ok (.iload_n 3, 1) := by decide +kernel
theorem dX3_countBefore_18 : decode cX3_countBefore 18 = .ok (.aaload, 1) := by decide +kernel
theorem dX3_countBefore_19 : decode cX3_countBefore 19 = .ok (.aload_n 1, 1) := by decide +kernel
theorem dX3_countBefore_20 : decode cX3_countBefore 20 = .ok (.getfield 71, 3) := by decide +kernel
theorem dX3_countBefore_23 : decode cX3_countBefore 23 = .ok (.aload_n 1, 1) := by decide +kernel
theorem dX3_countBefore_24 : decode cX3_countBefore 24 = .ok (.getfield 123, 3) := by decide +kernel
theorem dX3_countBefore_27 : decode cX3_countBefore 27 = .ok (.invokevirtual 140, 3) := by decide +kernel
theorem dX3_countBefore_30 : decode cX3_countBefore 30 = .ok (.ifCond .eq 22, 3) := by decide +kernel
theorem dX3_countBefore_33 : decode cX3_countBefore 33 = .ok (.aload_n 0, 1) := by decide +kernel
theorem dX3_countBefore_34 : decode cX3_countBefore 34 = .ok (.getfield 39, 3) := by decide +kernel
theorem dX3_countBefore_37 : decode cX3_countBefore 37 = .ok (.iload_n 3, 1) := by decide +kernel
theorem dX3_countBefore_38 : decode cX3_countBefore 38 = .ok (.aaload, 1) := by decide +kernel
theorem dX3_countBefore_39 : decode cX3_countBefore 39 = .ok (.getfield 164, 3) := by decide +kernel
theorem dX3_countBefore_42 : decode cX3_countBefore 42 = .ok (.aload_n 1, 1) := by decide +kernel
theorem dX3_countBefore_43 : decode cX3_countBefore 43 = .ok (.getfield 164, 3) := by decide +kernel
theorem dX3_countBefore_46 : decode cX3_countBefore 46 = .ok (.if_icmp .ge 6, 3) := by decide +kernel
theorem dX3_countBefore_49 : decode cX3_countBefore 49 = .ok (.iinc 2 1, 3) := by decide +kernel
theorem dX3_countBefore_52 : decode cX3_countBefore 52 = .ok (.iinc 3 1, 3) := by decide +kernel
theorem dX3_countBefore_55 : decode cX3_countBefore 55 = .ok (.goto (-51), 3) := by decide +kernel
theorem dX3_countBefore_58 : decode cX3_countBefore 58 = .ok (.iload_n 2, 1) := by decide +kernel
theorem dX3_countBefore_59 : decode cX3_countBefore 59 = .ok (.ireturn, 1) := by decide +kernel
theorem dX3_runWord_0 : decode cX3_runWord 0 = .ok (.aload_n 1, 1) := by decide +kernel
theorem dX3_runWord_1 : decode cX3_runWord 1 = .ok (.getfield 102, 3) := by decide +kernel
theorem dX3_runWord_4 : decode cX3_runWord 4 = .ok (.istore_n 2, 1) := by decide +kernel
theorem dX3_runWord_5 : decode cX3_runWord 5 = .ok (.iload_n 2, 1) := by decide +kernel
theorem dX3_runWord_6 : decode cX3_runWord 6 = .ok (.invokestatic 55, 3) := by decide +kernel
theorem dX3_runWord_9 : decode cX3_runWord 9 = .ok (.ifCond .ne 5, 3) := by decide +kernel
theorem dX3_runWord_12 : decode cX3_runWord 12 = .ok (.iconst 2, 1) := by decide +kernel
theorem dX3_runWord_13 : decode cX3_runWord 13 = .ok (.ireturn, 1) := by decide +kernel
theorem dX3_runWord_14 : decode cX3_runWord 14 = .ok (.aload_n 1, 1) := by decide +kernel
theorem dX3_runWord_15 : decode cX3_runWord 15 = .ok (.iload_n 2, 1) := by decide +kernel
theorem dX3_runWord_16 : decode cX3_runWord 16 = .ok (.iconst 1, 1) := by decide +kernel
theorem dX3_runWord_17 : decode cX3_runWord 17 = .ok (.iadd, 1) := by decide +kernel
theorem dX3_runWord_18 : decode cX3_runWord 18 = .ok (.putfield 102, 3) := by decide +kernel
theorem dX3_runWord_21 : decode cX3_runWord 21 = .ok (.aload_n 0, 1) := by decide +kernel
theorem dX3_runWord_22 : decode cX3_runWord 22 = .ok (.getfield 9, 3) := by decide +kernel
theorem dX3_runWord_25 : decode cX3_runWord 25 = .ok (.iload_n 2, 1) := by decide +kernel
theorem dX3_runWord_26 : decode cX3_runWord 26 = .ok (.iaload, 1) := by decide +kernel
theorem dX3_runWord_27 : decode cX3_runWord 27 = .ok (.bipush 31, 2) := by decide +kernel
theorem dX3_runWord_29 : decode cX3_runWord 29 = .ok (.iand, 1) := by decide +kernel
theorem dX3_runWord_30 : decode cX3_runWord 30 = .ok (.istore_n 3, 1) := by decide +kernel
theorem dX3_runWord_31 : decode cX3_runWord 31 = .ok (.aload_n 0, 1) := by decide +kernel
theorem dX3_runWord_32 : decode cX3_runWord 32 = .ok (.getfield 9, 3) := by decide +kernel
theorem dX3_runWord_35 : decode cX3_runWord 35 = .ok (.iload_n 2, 1) := by decide +kernel
theorem dX3_runWord_36 : decode cX3_runWord 36 = .ok (.iaload, 1) := by decide +kernel
theorem dX3_runWord_37 : decode cX3_runWord 37 = .ok (.iconst 5, 1) := by decide +kernel
theorem dX3_runWord_38 : decode cX3_runWord 38 = .ok (.ishr, 1) := by decide +kernel
theorem dX3_runWord_39 : decode cX3_runWord 39 = .ok (.istore 4, 2) := by decide +kernel
theorem dX3_runWord_41 : decode cX3_runWord 41 = .ok (.iload_n 3, 1) := by decide +kernel
theorem dX3_runWord_42 : decode cX3_runWord 42 = .ok (.bipush 10, 2) := by decide +kernel
theorem dX3_runWord_44 : decode cX3_runWord 44 = .ok (.if_icmp .gt 12, 3) := by decide +kernel
theorem dX3_runWord_47 : decode cX3_runWord 47 = .ok (.aload_n 0, 1) := by decide +kernel
theorem dX3_runWord_48 : decode cX3_runWord 48 = .ok (.aload_n 1, 1) := by decide +kernel
theorem dX3_runWord_49 : decode cX3_runWord 49 = .ok (.iload_n 3, 1) := by decide +kernel
theorem dX3_runWord_50 : decode cX3_runWord 50 = .ok (.iload 4, 2) := by decide +kernel
theorem dX3_runWord_52 : decode cX3_runWord 52 = .ok (.invokevirtual 170, 3) := by decide +kernel
theorem dX3_runWord_55 : decode cX3_runWord 55 = .ok (.ireturn, 1) := by decide +kernel
theorem dX3_runWord_56 : decode cX3_runWord 56 = .ok (.iload_n 3, 1) := by decide +kernel
theorem dX3_runWord_57 : decode cX3_runWord 57 = .ok (.bipush 17, 2) := by decide +kernel
theorem dX3_runWord_59 : decode cX3_runWord 59 = .ok (.if_icmp .gt 14, 3) := by decide +kernel
theorem dX3_runWord_62 : decode cX3_runWord 62 = .ok (.aload_n 0, 1) := by decide +kernel
theorem dX3_runWord_63 : decode cX3_runWord 63 = .ok (.aload_n 1, 1) := by decide +kernel
theorem dX3_runWord_64 : decode cX3_runWord 64 = .ok (.iload_n 3, 1) := by decide +kernel
theorem dX3_runWord_65 : decode cX3_runWord 65 = .ok (.iload 4, 2) := by decide +kernel
theorem dX3_runWord_67 : decode cX3_runWord 67 = .ok (.invokevirtual 174, 3) := by decide +kernel
theorem dX3_runWord_70 : decode cX3_runWord 70 = .ok (.goto 11, 3) := by decide +kernel
theorem dX3_runWord_73 : decode cX3_runWord 73 = .ok (.aload_n 0, 1) := by decide +kernel
theorem dX3_runWord_74 : decode cX3_runWord 74 = .ok (.aload_n 1, 1) := by decide +kernel
theorem dX3_runWord_75 : decode cX3_runWord 75 = .ok (.iload_n 3, 1) := by decide +kernel
theorem dX3_runWord_76 : decode cX3_runWord 76 = .ok (.iload 4, 2) := by decide +kernel
theorem dX3_runWord_78 : decode cX3_runWord 78 = .ok (.invokevirtual 177, 3) := by decide +kernel
theorem dX3_runWord_81 : decode cX3_runWord 81 = .ok (.ireturn, 1) := by decide +kernel
theorem dX3_runOnNumbers_0 : decode cX3_runOnNumbers 0 = .ok (.iload_n 2, 1) := by decide +kernel
theorem dX3_runOnNumbers_1 : decode cX3_runOnNumbers 1 = .ok (.tableswitch 102 0 10 #[59, 66, 102, 102, 102, 102, 72, 78, 84, 90, 96], 59) := by decide +kernel
theorem dX3_runOnNumbers_60 : decode cX3_runOnNumbers 60 = .ok (.aload_n 1, 1) := by decide +kernel
theorem dX3_runOnNumbers_61 : decode cX3_runOnNumbers 61 = .ok (.iconst 1, 1) := by decide +kernel
theorem dX3_runOnNumbers_62 : decode cX3_runOnNumbers 62 = .ok (.invokestatic 78, 3) := by decide +kernel
theorem dX3_runOnNumbers_65 : decode cX3_runOnNumbers 65 = .ok (.iconst 0, 1) := by decide +kernel
theorem dX3_runOnNumbers_66 : decode cX3_runOnNumbers 66 = .ok (.ireturn, 1) := by decide +kernel
theorem dX3_runOnNumbers_67 : decode cX3_runOnNumbers 67 = .ok (.aload_n 1, 1) := by decide +kernel
theorem dX3_runOnNumbers_68 : decode cX3_runOnNumbers 68 = .ok (.iload_n 3, 1) := by decide +kernel
theorem dX3_runOnNumbers_69 : decode cX3_runOnNumbers 69 = .ok (.invokevirtual 180, 3) := by decide +kernel
theorem dX3_runOnNumbers_72 : decode cX3_runOnNumbers 72 = .ok (.ireturn, 1) := by decide +kernel
theorem dX3_runOnNumbers_73 : decode cX3_runOnNumbers 73 = .ok (.aload_n 0, 1) := by decide +kernel
theorem dX3_runOnNumbers_74 : decode cX3_runOnNumbers 74 = .ok (.aload_n 1, 1) := by decide +kernel
theorem dX3_runOnNumbers_75 : decode cX3_runOnNumbers 75 = .ok (.invokevirtual 183, 3) := by decide +kernel
theorem dX3_runOnNumbers_78 : decode cX3_runOnNumbers 78 = .ok (.ireturn, 1) := by decide +kernel
theorem dX3_runOnNumbers_79 : decode cX3_runOnNumbers 79 = .ok (.aload_n 0, 1) := by decide +kernel
theorem dX3_runOnNumbers_80 : decode cX3_runOnNumbers 80 = .ok (.aload_n 1, 1) := by decide +kernel
theorem dX3_runOnNumbers_81 : decode cX3_runOnNumbers 81 = .ok (.invokevirtual 186, 3) := by decide +kernel
theorem dX3_runOnNumbers_84 : decode cX3_runOnNumbers 84 = .ok (.ireturn, 1) := by decide +kernel
theorem dX3_runOnNumbers_85 : decode cX3_runOnNumbers 85 = .ok (.aload_n 0, 1) := by decide +kernel
theorem dX3_runOnNumbers_86 : decode cX3_runOnNumbers 86 = .ok (.aload_n 1, 1) := by decide +kernel
theorem dX3_runOnNumbers_87 : decode cX3_runOnNumbers 87 = .ok (.invokevirtual 189, 3) := by decide +kernel
theorem dX3_runOnNumbers_90 : decode cX3_runOnNumbers 90 = .ok (.ireturn, 1) := by decide +kernel
theorem dX3_runOnNumbers_91 : decode cX3_runOnNumbers 91 = .ok (.aload_n 0, 1) := by decide +kernel
theorem dX3_runOnNumbers_92 : decode cX3_runOnNumbers 92 = .ok (.aload_n 1, 1) := by decide +kernel
theorem dX3_runOnNumbers_93 : decode cX3_runOnNumbers 93 = .ok (.invokevirtual 192, 3) := by decide +kernel
theorem dX3_runOnNumbers_96 : decode cX3_runOnNumbers 96 = .ok (.ireturn, 1) := by decide +kernel
theorem dX3_runOnNumbers_97 : decode cX3_runOnNumbers 97 = .ok (.aload_n 0, 1) := by decide +kernel
theorem dX3_runOnNumbers_98 : decode cX3_runOnNumbers 98 = .ok (.aload_n 1, 1) := by decide +kernel
theorem dX3_runOnNumbers_99 : decode cX3_runOnNumbers 99 = .ok (.invokevirtual 195, 3) := by decide +kernel
theorem dX3_runOnNumbers_102 : decode cX3_runOnNumbers 102 = .ok (.ireturn, 1) := by decide +kernel
theorem dX3_runOnNumbers_103 : decode cX3_runOnNumbers 103 = .ok (.aload_n 0, 1) := by decide +kernel
theorem dX3_runOnNumbers_104 : decode cX3_runOnNumbers 104 = .ok (.aload_n 1, 1) := by decide +kernel
theorem dX3_runOnNumbers_105 : decode cX3_runOnNumbers 105 = .ok (.iload_n 2, 1) := by decide +kernel
theorem dX3_runOnNumbers_106 : decode cX3_runOnNumbers 106 = .ok (.invokevirtual 198, 3) := by decide +kernel
theorem dX3_runOnNumbers_109 : decode cX3_runOnNumbers 109 = .ok (.ireturn, 1) := by decide +kernel
theorem dX3_runOnItself_0 : decode cX3_runOnItself 0 = .ok (.iload_n 2, 1) := by decide +kernel
theorem dX3_runOnItself_1 : decode cX3_runOnItself 1 = .ok (.tableswitch 80 11 16 #[39, 46, 53, 60, 66, 72], 39) := by decide +kernel
theorem dX3_runOnItself_40 : decode cX3_runOnItself 40 = .ok (.aload_n 0, 1) := by decide +kernel
theorem dX3_runOnItself_41 : decode cX3_runOnItself 41 = .ok (.aload_n 1, 1) := by decide +kernel
theorem dX3_runOnItself_42 : decode cX3_runOnItself 42 = .ok (.iload_n 3, 1) := by decide +kernel
theorem dX3_runOnItself_43 : decode cX3_runOnItself 43 = .ok (.invokevirtual 202, 3) := by decide +kernel
theorem dX3_runOnItself_46 : decode cX3_runOnItself 46 = .ok (.ireturn, 1) := by decide +kernel
theorem dX3_runOnItself_47 : decode cX3_runOnItself 47 = .ok (.aload_n 0, 1) := by decide +kernel
theorem dX3_runOnItself_48 : decode cX3_runOnItself 48 = .ok (.aload_n 1, 1) := by decide +kernel
theorem dX3_runOnItself_49 : decode cX3_runOnItself 49 = .ok (.iload_n 3, 1) := by decide +kernel
theorem dX3_runOnItself_50 : decode cX3_runOnItself 50 = .ok (.invokevirtual 205, 3) := by decide +kernel
theorem dX3_runOnItself_53 : decode cX3_runOnItself 53 = .ok (.ireturn, 1) := by decide +kernel
theorem dX3_runOnItself_54 : decode cX3_runOnItself 54 = .ok (.aload_n 0, 1) := by decide +kernel
theorem dX3_runOnItself_55 : decode cX3_runOnItself 55 = .ok (.aload_n 1, 1) := by decide +kernel
theorem dX3_runOnItself_56 : decode cX3_runOnItself 56 = .ok (.iload_n 3, 1) := by decide +kernel
theorem dX3_runOnItself_57 : decode cX3_runOnItself 57 = .ok (.invokevirtual 208, 3) := by decide +kernel
theorem dX3_runOnItself_60 : decode cX3_runOnItself 60 = .ok (.ireturn, 1) := by decide +kernel
theorem dX3_runOnItself_61 : decode cX3_runOnItself 61 = .ok (.aload_n 0, 1) := by decide +kernel
theorem dX3_runOnItself_62 : decode cX3_runOnItself 62 = .ok (.aload_n 1, 1) := by decide +kernel
theorem dX3_runOnItself_63 : decode cX3_runOnItself 63 = .ok (.invokevirtual 211, 3) := by decide +kernel
theorem dX3_runOnItself_66 : decode cX3_runOnItself 66 = .ok (.ireturn, 1) := by decide +kernel
theorem dX3_runOnItself_67 : decode cX3_runOnItself 67 = .ok (.aload_n 0, 1) := by decide +kernel
theorem dX3_runOnItself_68 : decode cX3_runOnItself 68 = .ok (.aload_n 1, 1) := by decide +kernel
theorem dX3_runOnItself_69 : decode cX3_runOnItself 69 = .ok (.invokevirtual 214, 3) := by decide +kernel
theorem dX3_runOnItself_72 : decode cX3_runOnItself 72 = .ok (.ireturn, 1) := by decide +kernel
theorem dX3_runOnItself_73 : decode cX3_runOnItself 73 = .ok (.aload_n 0, 1) := by decide +kernel
theorem dX3_runOnItself_74 : decode cX3_runOnItself 74 = .ok (.aload_n 1, 1) := by decide +kernel
theorem dX3_runOnItself_75 : decode cX3_runOnItself 75 = .ok (.iconst 1, 1) := by decide +kernel
theorem dX3_runOnItself_76 : decode cX3_runOnItself 76 = .ok (.invokevirtual 92, 3) := by decide +kernel
theorem dX3_runOnItself_79 : decode cX3_runOnItself 79 = .ok (.iconst 0, 1) := by decide +kernel
theorem dX3_runOnItself_80 : decode cX3_runOnItself 80 = .ok (.ireturn, 1) := by decide +kernel
theorem dX3_runOnItself_81 : decode cX3_runOnItself 81 = .ok (.aload_n 1, 1) := by decide +kernel
theorem dX3_runOnItself_82 : decode cX3_runOnItself 82 = .ok (.iload_n 3, 1) := by decide +kernel
theorem dX3_runOnItself_83 : decode cX3_runOnItself 83 = .ok (.bipush 7, 2) := by decide +kernel
theorem dX3_runOnItself_85 : decode cX3_runOnItself 85 = .ok (.iand, 1) := by decide +kernel
theorem dX3_runOnItself_86 : decode cX3_runOnItself 86 = .ok (.putfield 105, 3) := by decide +kernel
theorem dX3_runOnItself_89 : decode cX3_runOnItself 89 = .ok (.iconst 0, 1) := by decide +kernel
theorem dX3_runOnItself_90 : decode cX3_runOnItself 90 = .ok (.ireturn, 1) := by decide +kernel
theorem dX3_runWithOthers_0 : decode cX3_runWithOthers 0 = .ok (.iload_n 2, 1) := by decide +kernel
theorem dX3_runWithOthers_1 : decode cX3_runWithOthers 1 = .ok (.tableswitch 105 18 25 #[47, 54, 61, 67, 74, 81, 90, 99], 47) := by decide +kernel
theorem dX3_runWithOthers_48 : decode cX3_runWithOthers 48 = .ok (.aload_n 0, 1) := by decide +kernel
theorem dX3_runWithOthers_49 : decode cX3_runWithOthers 49 = .ok (.aload_n 1, 1) := by decide +kernel
theorem dX3_runWithOthers_50 : decode cX3_runWithOthers 50 = .ok (.iload_n 3, 1) := by decide +kernel
theorem dX3_runWithOthers_51 : decode cX3_runWithOthers 51 = .ok (.invokevirtual 217, 3) := by decide +kernel
theorem dX3_runWithOthers_54 : decode cX3_runWithOthers 54 = .ok (.ireturn, 1) := by decide +kernel
theorem dX3_runWithOthers_55 : decode cX3_runWithOthers 55 = .ok (.aload_n 0, 1) := by decide +kernel
theorem dX3_runWithOthers_56 : decode cX3_runWithOthers 56 = .ok (.aload_n 1, 1) := by decide +kernel
theorem dX3_runWithOthers_57 : decode cX3_runWithOthers 57 = .ok (.iload_n 2, 1) := by decide +kernel
theorem dX3_runWithOthers_58 : decode cX3_runWithOthers 58 = .ok (.invokevirtual 198, 3) := by decide +kernel
theorem dX3_runWithOthers_61 : decode cX3_runWithOthers 61 = .ok (.ireturn, 1) := by decide +kernel
theorem dX3_runWithOthers_62 : decode cX3_runWithOthers 62 = .ok (.aload_n 0, 1) := by decide +kernel
theorem dX3_runWithOthers_63 : decode cX3_runWithOthers 63 = .ok (.aload_n 1, 1) := by decide +kernel
theorem dX3_runWithOthers_64 : decode cX3_runWithOthers 64 = .ok (.invokevirtual 220, 3) := by decide +kernel
theorem dX3_runWithOthers_67 : decode cX3_runWithOthers 67 = .ok (.ireturn, 1) := by decide +kernel
theorem dX3_runWithOthers_68 : decode cX3_runWithOthers 68 = .ok (.aload_n 0, 1) := by decide +kernel
theorem dX3_runWithOthers_69 : decode cX3_runWithOthers 69 = .ok (.aload_n 1, 1) := by decide +kernel
theorem dX3_runWithOthers_70 : decode cX3_runWithOthers 70 = .ok (.iload_n 3, 1) := by decide +kernel
theorem dX3_runWithOthers_71 : decode cX3_runWithOthers 71 = .ok (.invokevirtual 223, 3) := by decide +kernel
theorem dX3_runWithOthers_74 : decode cX3_runWithOthers 74 = .ok (.ireturn, 1) := by decide +kernel
theorem dX3_runWithOthers_75 : decode cX3_runWithOthers 75 = .ok (.aload_n 0, 1) := by decide +kernel
theorem dX3_runWithOthers_76 : decode cX3_runWithOthers 76 = .ok (.aload_n 1, 1) := by decide +kernel
theorem dX3_runWithOthers_77 : decode cX3_runWithOthers 77 = .ok (.iload_n 3, 1) := by decide +kernel
theorem dX3_runWithOthers_78 : decode cX3_runWithOthers 78 = .ok (.invokevirtual 226, 3) := by decide +kernel
theorem dX3_runWithOthers_81 : decode cX3_runWithOthers 81 = .ok (.ireturn, 1) := by decide +kernel
theorem dX3_runWithOthers_82 : decode cX3_runWithOthers 82 = .ok (.aload_n 1, 1) := by decide +kernel
theorem dX3_runWithOthers_83 : decode cX3_runWithOthers 83 = .ok (.aload_n 1, 1) := by decide +kernel
theorem dX3_runWithOthers_84 : decode cX3_runWithOthers 84 = .ok (.getfield 229, 3) := by decide +kernel
theorem dX3_runWithOthers_87 : decode cX3_runWithOthers 87 = .ok (.invokevirtual 180, 3) := by decide +kernel
theorem dX3_runWithOthers_90 : decode cX3_runWithOthers 90 = .ok (.ireturn, 1) := by decide +kernel
theorem dX3_runWithOthers_91 : decode cX3_runWithOthers 91 = .ok (.aload_n 1, 1) := by decide +kernel
theorem dX3_runWithOthers_92 : decode cX3_runWithOthers 92 = .ok (.aload_n 0, 1) := by decide +kernel
theorem dX3_runWithOthers_93 : decode cX3_runWithOthers 93 = .ok (.getfield 23, 3) := by decide +kernel
theorem dX3_runWithOthers_96 : decode cX3_runWithOthers 96 = .ok (.invokevirtual 180, 3) := by decide +kernel
theorem dX3_runWithOthers_99 : decode cX3_runWithOthers 99 = .ok (.ireturn, 1) := by decide +kernel
theorem dX3_runWithOthers_100 : decode cX3_runWithOthers 100 = .ok (.aload_n 0, 1) := by decide +kernel
theorem dX3_runWithOthers_101 : decode cX3_runWithOthers 101 = .ok (.aload_n 1, 1) := by decide +kernel
theorem dX3_runWithOthers_102 : decode cX3_runWithOthers 102 = .ok (.invokevirtual 232, 3) := by decide +kernel
theorem dX3_runWithOthers_105 : decode cX3_runWithOthers 105 = .ok (.ireturn, 1) := by decide +kernel
theorem dX3_runWithOthers_106 : decode cX3_runWithOthers 106 = .ok (.iconst 4, 1) := by decide +kernel
theorem dX3_runWithOthers_107 : decode cX3_runWithOthers 107 = .ok (.ireturn, 1) := by decide +kernel
theorem dX3_compute_0 : decode cX3_compute 0 = .ok (.aload_n 1, 1) := by decide +kernel
theorem dX3_compute_1 : decode cX3_compute 1 = .ok (.getfield 108, 3) := by decide +kernel
theorem dX3_compute_4 : decode cX3_compute 4 = .ok (.getfield 112, 3) := by decide +kernel
theorem dX3_compute_7 : decode cX3_compute 7 = .ok (.iconst 2, 1) := by decide +kernel
theorem dX3_compute_8 : decode cX3_compute 8 = .ok (.if_icmp .ge 5, 3) := by decide +kernel
theorem dX3_compute_11 : decode cX3_compute 11 = .ok (.iconst 1, 1) := by decide +kernel
theorem dX3_compute_12 : decode cX3_compute 12 = .ok (.ireturn, 1) := by decide +kernel
theorem dX3_compute_13 : decode cX3_compute 13 = .ok (.aload_n 1, 1) := by decide +kernel
theorem dX3_compute_14 : decode cX3_compute 14 = .ok (.getfield 108, 3) := by decide +kernel
theorem dX3_compute_17 : decode cX3_compute 17 = .ok (.invokevirtual 235, 3) := by decide +kernel
theorem dX3_compute_20 : decode cX3_compute 20 = .ok (.istore_n 3, 1) := by decide +kernel
theorem dX3_compute_21 : decode cX3_compute 21 = .ok (.aload_n 1, 1) := by decide +kernel
theorem dX3_compute_22 : decode cX3_compute 22 = .ok (.getfield 108, 3) := by decide +kernel
theorem dX3_compute_25 : decode cX3_compute 25 = .ok (.invokevirtual 235, 3) := by decide +kernel
theorem dX3_compute_28 : decode cX3_compute 28 = .ok (.istore 4, 2) := by decide +kernel
theorem dX3_compute_30 : decode cX3_compute 30 = .ok (.iload_n 2, 1) := by decide +kernel
theorem dX3_compute_31 : decode cX3_compute 31 = .ok (.tableswitch 73 2 5 #[29, 38, 47, 56], 29) := by decide +kernel
theorem dX3_compute_60 : decode cX3_compute 60 = .ok (.aload_n 1, 1) := by decide +kernel
theorem dX3_compute_61 : decode cX3_compute 61 = .ok (.iload 4, 2) := by decide +kernel
theorem dX3_compute_63 : decode cX3_compute 63 = .ok (.iload_n 3, 1) := by decide +kernel
theorem dX3_compute_64 : decode cX3_compute 64 = .ok (.iadd, 1) := by decide +kernel
theorem dX3_compute_65 : decode cX3_compute 65 = .ok (.invokevirtual 180, 3) := by decide +kernel
theorem dX3_compute_68 : decode cX3_compute 68 = .ok (.ireturn, 1) := by decide +kernel
theorem dX3_compute_69 : decode cX3_compute 69 = .ok (.aload_n 1, 1) := by decide +kernel
theorem dX3_compute_70 : decode cX3_compute 70 = .ok (.iload 4, 2) := by decide +kernel
theorem dX3_compute_72 : decode cX3_compute 72 = .ok (.iload_n 3, 1) := by decide +kernel
theorem dX3_compute_73 : decode cX3_compute 73 = .ok (.isub, 1) := by decide +kernel
theorem dX3_compute_74 : decode cX3_compute 74 = .ok (.invokevirtual 180, 3) := by decide +kernel
theorem dX3_compute_77 : decode cX3_compute 77 = .ok (.ireturn, 1) := by decide +kernel
theorem dX3_compute_78 : decode cX3_compute 78 = .ok (.aload_n 1, 1) := by decide +kernel
