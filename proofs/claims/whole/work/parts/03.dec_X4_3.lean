theorem dX4_state_9 : decode cX4_state 9 = .ok (.if_icmp .lt 7, 3) := by decide +kernel
theorem dX4_state_12 : decode cX4_state 12 = .ok (.iconst (-1), 1) := by decide +kernel
theorem dX4_state_13 : decode cX4_state 13 = .ok (.goto 9, 3) := by decide +kernel
theorem dX4_state_16 : decode cX4_state 16 = .ok (.aload_n 0, 1) := by decide +kernel
theorem dX4_state_17 : decode cX4_state 17 = .ok (.getfield 16, 3) := by decide +kernel
theorem dX4_state_20 : decode cX4_state 20 = .ok (.iload_n 1, 1) := by decide +kernel
theorem dX4_state_21 : decode cX4_state 21 = .ok (.iaload, 1) := by decide +kernel
theorem dX4_state_22 : decode cX4_state 22 = .ok (.ireturn, 1) := by decide +kernel
theorem dX4_task_0 : decode cX4_task 0 = .ok (.aload_n 0, 1) := by decide +kernel
theorem dX4_task_1 : decode cX4_task 1 = .ok (.iload_n 1, 1) := by decide +kernel
theorem dX4_task_2 : decode cX4_task 2 = .ok (.invokevirtual 134, 3) := by decide +kernel
theorem dX4_task_5 : decode cX4_task 5 = .ok (.ifCond .ne 6, 3) := by decide +kernel
theorem dX4_task_8 : decode cX4_task 8 = .ok (.ldc 174, 2) := by decide +kernel
theorem dX4_task_10 : decode cX4_task 10 = .ok (.ireturn, 1) := by decide +kernel
theorem dX4_task_11 : decode cX4_task 11 = .ok (.iload_n 2, 1) := by decide +kernel
theorem dX4_task_12 : decode cX4_task 12 = .ok (.tableswitch 110 0 5 #[40, 47, 54, 61, 68, 89], 40) := by decide +kernel
theorem dX4_task_52 : decode cX4_task 52 = .ok (.aload_n 0, 1) := by decide +kernel
theorem dX4_task_53 : decode cX4_task 53 = .ok (.getfield 22, 3) := by decide +kernel
theorem dX4_task_56 : decode cX4_task 56 = .ok (.iload_n 1, 1) := by decide +kernel
theorem dX4_task_57 : decode cX4_task 57 = .ok (.iaload, 1) := by decide +kernel
theorem dX4_task_58 : decode cX4_task 58 = .ok (.ireturn, 1) := by decide +kernel
theorem dX4_task_59 : decode cX4_task 59 = .ok (.aload_n 0, 1) := by decide +kernel
theorem dX4_task_60 : decode cX4_task 60 = .ok (.getfield 19, 3) := by decide +kernel
theorem dX4_task_63 : decode cX4_task 63 = .ok (.iload_n 1, 1) := by decide +kernel
theorem dX4_task_64 : decode cX4_task 64 = .ok (.iaload, 1) := by decide +kernel
theorem dX4_task_65 : decode cX4_task 65 = .ok (.ireturn, 1) := by decide +kernel
theorem dX4_task_66 : decode cX4_task 66 = .ok (.aload_n 0, 1) := by decide +kernel
theorem dX4_task_67 : decode cX4_task 67 = .ok (.getfield 25, 3) := by decide +kernel
theorem dX4_task_70 : decode cX4_task 70 = .ok (.iload_n 1, 1) := by decide +kernel
theorem dX4_task_71 : decode cX4_task 71 = .ok (.iaload, 1) := by decide +kernel
theorem dX4_task_72 : decode cX4_task 72 = .ok (.ireturn, 1) := by decide +kernel
theorem dX4_task_73 : decode cX4_task 73 = .ok (.aload_n 0, 1) := by decide +kernel
theorem dX4_task_74 : decode cX4_task 74 = .ok (.getfield 31, 3) := by decide +kernel
theorem dX4_task_77 : decode cX4_task 77 = .ok (.iload_n 1, 1) := by decide +kernel
theorem dX4_task_78 : decode cX4_task 78 = .ok (.iaload, 1) := by decide +kernel
theorem dX4_task_79 : decode cX4_task 79 = .ok (.ireturn, 1) := by decide +kernel
theorem dX4_task_80 : decode cX4_task 80 = .ok (.aload_n 0, 1) := by decide +kernel
theorem dX4_task_81 : decode cX4_task 81 = .ok (.getfield 16, 3) := by decide +kernel
theorem dX4_task_84 : decode cX4_task 84 = .ok (.iload_n 1, 1) := by decide +kernel
theorem dX4_task_85 : decode cX4_task 85 = .ok (.iaload, 1) := by decide +kernel
theorem dX4_task_86 : decode cX4_task 86 = .ok (.iconst 2, 1) := by decide +kernel
theorem dX4_task_87 : decode cX4_task 87 = .ok (.if_icmp .ne 12, 3) := by decide +kernel
theorem dX4_task_90 : decode cX4_task 90 = .ok (.aload_n 0, 1) := by decide +kernel
theorem dX4_task_91 : decode cX4_task 91 = .ok (.getfield 37, 3) := by decide +kernel
theorem dX4_task_94 : decode cX4_task 94 = .ok (.iload_n 1, 1) := by decide +kernel
theorem dX4_task_95 : decode cX4_task 95 = .ok (.iaload, 1) := by decide +kernel
theorem dX4_task_96 : decode cX4_task 96 = .ok (.goto 4, 3) := by decide +kernel
theorem dX4_task_99 : decode cX4_task 99 = .ok (.iconst 0, 1) := by decide +kernel
theorem dX4_task_100 : decode cX4_task 100 = .ok (.ireturn, 1) := by decide +kernel
theorem dX4_task_101 : decode cX4_task 101 = .ok (.aload_n 0, 1) := by decide +kernel
theorem dX4_task_102 : decode cX4_task 102 = .ok (.getfield 16, 3) := by decide +kernel
theorem dX4_task_105 : decode cX4_task 105 = .ok (.iload_n 1, 1) := by decide +kernel
theorem dX4_task_106 : decode cX4_task 106 = .ok (.iaload, 1) := by decide +kernel
theorem dX4_task_107 : decode cX4_task 107 = .ok (.iconst 3, 1) := by decide +kernel
theorem dX4_task_108 : decode cX4_task 108 = .ok (.if_icmp .lt 12, 3) := by decide +kernel
theorem dX4_task_111 : decode cX4_task 111 = .ok (.aload_n 0, 1) := by decide +kernel
theorem dX4_task_112 : decode cX4_task 112 = .ok (.getfield 40, 3) := by decide +kernel
theorem dX4_task_115 : decode cX4_task 115 = .ok (.iload_n 1, 1) := by decide +kernel
theorem dX4_task_116 : decode cX4_task 116 = .ok (.iaload, 1) := by decide +kernel
theorem dX4_task_117 : decode cX4_task 117 = .ok (.goto 4, 3) := by decide +kernel
theorem dX4_task_120 : decode cX4_task 120 = .ok (.iconst (-1), 1) := by decide +kernel
theorem dX4_task_121 : decode cX4_task 121 = .ok (.ireturn, 1) := by decide +kernel
theorem dX4_task_122 : decode cX4_task 122 = .ok (.ldc 174, 2) := by decide +kernel
theorem dX4_task_124 : decode cX4_task 124 = .ok (.ireturn, 1) := by decide +kernel
theorem dX4_stack_0 : decode cX4_stack 0 = .ok (.aload_n 0, 1) := by decide +kernel
theorem dX4_stack_1 : decode cX4_stack 1 = .ok (.iload_n 1, 1) := by decide +kernel
theorem dX4_stack_2 : decode cX4_stack 2 = .ok (.invokevirtual 134, 3) := by decide +kernel
theorem dX4_stack_5 : decode cX4_stack 5 = .ok (.ifCond .eq 17, 3) := by decide +kernel
theorem dX4_stack_8 : decode cX4_stack 8 = .ok (.iload_n 2, 1) := by decide +kernel
theorem dX4_stack_9 : decode cX4_stack 9 = .ok (.ifCond .lt 13, 3) := by decide +kernel
theorem dX4_stack_12 : decode cX4_stack 12 = .ok (.iload_n 2, 1) := by decide +kernel
theorem dX4_stack_13 : decode cX4_stack 13 = .ok (.aload_n 0, 1) := by decide +kernel
theorem dX4_stack_14 : decode cX4_stack 14 = .ok (.getfield 25, 3) := by decide +kernel
theorem dX4_stack_17 : decode cX4_stack 17 = .ok (.iload_n 1, 1) := by decide +kernel
theorem dX4_stack_18 : decode cX4_stack 18 = .ok (.iaload, 1) := by decide +kernel
theorem dX4_stack_19 : decode cX4_stack 19 = .ok (.if_icmp .lt 8, 3) := by decide +kernel
theorem dX4_stack_22 : decode cX4_stack 22 = .ok (.ldc 174, 2) := by decide +kernel
theorem dX4_stack_24 : decode cX4_stack 24 = .ok (.goto 23, 3) := by decide +kernel
theorem dX4_stack_27 : decode cX4_stack 27 = .ok (.aload_n 0, 1) := by decide +kernel
theorem dX4_stack_28 : decode cX4_stack 28 = .ok (.getfield 28, 3) := by decide +kernel
theorem dX4_stack_31 : decode cX4_stack 31 = .ok (.bipush 16, 2) := by decide +kernel
theorem dX4_stack_33 : decode cX4_stack 33 = .ok (.iload_n 1, 1) := by decide +kernel
theorem dX4_stack_34 : decode cX4_stack 34 = .ok (.imul, 1) := by decide +kernel
theorem dX4_stack_35 : decode cX4_stack 35 = .ok (.aload_n 0, 1) := by decide +kernel
theorem dX4_stack_36 : decode cX4_stack 36 = .ok (.getfield 25, 3) := by decide +kernel
theorem dX4_stack_39 : decode cX4_stack 39 = .ok (.iload_n 1, 1) := by decide +kernel
theorem dX4_stack_40 : decode cX4_stack 40 = .ok (.iaload, 1) := by decide +kernel
theorem dX4_stack_41 : decode cX4_stack 41 = .ok (.iadd, 1) := by decide +kernel
theorem dX4_stack_42 : decode cX4_stack 42 = .ok (.iconst 1, 1) := by decide +kernel
theorem dX4_stack_43 : decode cX4_stack 43 = .ok (.isub, 1) := by decide +kernel
theorem dX4_stack_44 : decode cX4_stack 44 = .ok (.iload_n 2, 1) := by decide +kernel
theorem dX4_stack_45 : decode cX4_stack 45 = .ok (.isub, 1) := by decide +kernel
theorem dX4_stack_46 : decode cX4_stack 46 = .ok (.iaload, 1) := by decide +kernel
theorem dX4_stack_47 : decode cX4_stack 47 = .ok (.ireturn, 1) := by decide +kernel
theorem dX4_queue_0 : decode cX4_queue 0 = .ok (.iload_n 1, 1) := by decide +kernel
theorem dX4_queue_1 : decode cX4_queue 1 = .ok (.ifCond .lt 11, 3) := by decide +kernel
theorem dX4_queue_4 : decode cX4_queue 4 = .ok (.iload_n 1, 1) := by decide +kernel
theorem dX4_queue_5 : decode cX4_queue 5 = .ok (.aload_n 0, 1) := by decide +kernel
theorem dX4_queue_6 : decode cX4_queue 6 = .ok (.getfield 72, 3) := by decide +kernel
theorem dX4_queue_9 : decode cX4_queue 9 = .ok (.if_icmp .lt 7, 3) := by decide +kernel
theorem dX4_queue_12 : decode cX4_queue 12 = .ok (.iconst (-1), 1) := by decide +kernel
theorem dX4_queue_13 : decode cX4_queue 13 = .ok (.goto 9, 3) := by decide +kernel
theorem dX4_queue_16 : decode cX4_queue 16 = .ok (.aload_n 0, 1) := by decide +kernel
theorem dX4_queue_17 : decode cX4_queue 17 = .ok (.getfield 52, 3) := by decide +kernel
theorem dX4_queue_20 : decode cX4_queue 20 = .ok (.iload_n 1, 1) := by decide +kernel
theorem dX4_queue_21 : decode cX4_queue 21 = .ok (.iaload, 1) := by decide +kernel
theorem dX4_queue_22 : decode cX4_queue 22 = .ok (.ireturn, 1) := by decide +kernel
theorem dX4_queued_0 : decode cX4_queued 0 = .ok (.iload_n 1, 1) := by decide +kernel
theorem dX4_queued_1 : decode cX4_queued 1 = .ok (.ifCond .lt 25, 3) := by decide +kernel
theorem dX4_queued_4 : decode cX4_queued 4 = .ok (.iload_n 1, 1) := by decide +kernel
theorem dX4_queued_5 : decode cX4_queued 5 = .ok (.aload_n 0, 1) := by decide +kernel
theorem dX4_queued_6 : decode cX4_queued 6 = .ok (.getfield 72, 3) := by decide +kernel
theorem dX4_queued_9 : decode cX4_queued 9 = .ok (.if_icmp .ge 17, 3) := by decide +kernel
theorem dX4_queued_12 : decode cX4_queued 12 = .ok (.iload_n 2, 1) := by decide +kernel
theorem dX4_queued_13 : decode cX4_queued 13 = .ok (.ifCond .lt 13, 3) := by decide +kernel
theorem dX4_queued_16 : decode cX4_queued 16 = .ok (.iload_n 2, 1) := by decide +kernel
theorem dX4_queued_17 : decode cX4_queued 17 = .ok (.aload_n 0, 1) := by decide +kernel
theorem dX4_queued_18 : decode cX4_queued 18 = .ok (.getfield 52, 3) := by decide +kernel
theorem dX4_queued_21 : decode cX4_queued 21 = .ok (.iload_n 1, 1) := by decide +kernel
theorem dX4_queued_22 : decode cX4_queued 22 = .ok (.iaload, 1) := by decide +kernel
theorem dX4_queued_23 : decode cX4_queued 23 = .ok (.if_icmp .lt 8, 3) := by decide +kernel
theorem dX4_queued_26 : decode cX4_queued 26 = .ok (.ldc 174, 2) := by decide +kernel
theorem dX4_queued_28 : decode cX4_queued 28 = .ok (.goto 14, 3) := by decide +kernel
theorem dX4_queued_31 : decode cX4_queued 31 = .ok (.aload_n 0, 1) := by decide +kernel
theorem dX4_queued_32 : decode cX4_queued 32 = .ok (.getfield 55, 3) := by decide +kernel
theorem dX4_queued_35 : decode cX4_queued 35 = .ok (.bipush 6, 2) := by decide +kernel
theorem dX4_queued_37 : decode cX4_queued 37 = .ok (.iload_n 1, 1) := by decide +kernel
theorem dX4_queued_38 : decode cX4_queued 38 = .ok (.imul, 1) := by decide +kernel
theorem dX4_queued_39 : decode cX4_queued 39 = .ok (.iload_n 2, 1) := by decide +kernel
theorem dX4_queued_40 : decode cX4_queued 40 = .ok (.iadd, 1) := by decide +kernel
theorem dX4_queued_41 : decode cX4_queued 41 = .ok (.iaload, 1) := by decide +kernel
theorem dX4_queued_42 : decode cX4_queued 42 = .ok (.ireturn, 1) := by decide +kernel
theorem dX4_waiter_0 : decode cX4_waiter 0 = .ok (.iload_n 1, 1) := by decide +kernel
theorem dX4_waiter_1 : decode cX4_waiter 1 = .ok (.ifCond .lt 15, 3) := by decide +kernel
theorem dX4_waiter_4 : decode cX4_waiter 4 = .ok (.iload_n 1, 1) := by decide +kernel
theorem dX4_waiter_5 : decode cX4_waiter 5 = .ok (.aload_n 0, 1) := by decide +kernel
theorem dX4_waiter_6 : decode cX4_waiter 6 = .ok (.getfield 72, 3) := by decide +kernel
theorem dX4_waiter_9 : decode cX4_waiter 9 = .ok (.if_icmp .ge 7, 3) := by decide +kernel
theorem dX4_waiter_12 : decode cX4_waiter 12 = .ok (.iload_n 3, 1) := by decide +kernel
theorem dX4_waiter_13 : decode cX4_waiter 13 = .ok (.ifCond .ge 7, 3) := by decide +kernel
theorem dX4_waiter_16 : decode cX4_waiter 16 = .ok (.iconst (-1), 1) := by decide +kernel
theorem dX4_waiter_17 : decode cX4_waiter 17 = .ok (.goto 18, 3) := by decide +kernel
theorem dX4_waiter_20 : decode cX4_waiter 20 = .ok (.aload_n 0, 1) := by decide +kernel
theorem dX4_waiter_21 : decode cX4_waiter 21 = .ok (.iload_n 2, 1) := by decide +kernel
theorem dX4_waiter_22 : decode cX4_waiter 22 = .ok (.ifCond .eq 7, 3) := by decide +kernel
theorem dX4_waiter_25 : decode cX4_waiter 25 = .ok (.iconst 3, 1) := by decide +kernel
theorem dX4_waiter_26 : decode cX4_waiter 26 = .ok (.goto 4, 3) := by decide +kernel
theorem dX4_waiter_29 : decode cX4_waiter 29 = .ok (.iconst 4, 1) := by decide +kernel
theorem dX4_waiter_30 : decode cX4_waiter 30 = .ok (.iload_n 1, 1) := by decide +kernel
theorem dX4_waiter_31 : decode cX4_waiter 31 = .ok (.iload_n 3, 1) := by decide +kernel
theorem dX4_waiter_32 : decode cX4_waiter 32 = .ok (.invokevirtual 109, 3) := by decide +kernel
theorem dX4_waiter_35 : decode cX4_waiter 35 = .ok (.ireturn, 1) := by decide +kernel
theorem dX4_memory_0 : decode cX4_memory 0 = .ok (.iload_n 1, 1) := by decide +kernel
theorem dX4_memory_1 : decode cX4_memory 1 = .ok (.ifCond .lt 9, 3) := by decide +kernel
theorem dX4_memory_4 : decode cX4_memory 4 = .ok (.iload_n 1, 1) := by decide +kernel
theorem dX4_memory_5 : decode cX4_memory 5 = .ok (.bipush 15, 2) := by decide +kernel
theorem dX4_memory_7 : decode cX4_memory 7 = .ok (.if_icmp .le 8, 3) := by decide +kernel
theorem dX4_memory_10 : decode cX4_memory 10 = .ok (.ldc 174, 2) := by decide +kernel
theorem dX4_memory_12 : decode cX4_memory 12 = .ok (.goto 9, 3) := by decide +kernel
theorem dX4_memory_15 : decode cX4_memory 15 = .ok (.aload_n 0, 1) := by decide +kernel
theorem dX4_memory_16 : decode cX4_memory 16 = .ok (.getfield 13, 3) := by decide +kernel
theorem dX4_memory_19 : decode cX4_memory 19 = .ok (.iload_n 1, 1) := by decide +kernel
theorem dX4_memory_20 : decode cX4_memory 20 = .ok (.iaload, 1) := by decide +kernel
theorem dX4_memory_21 : decode cX4_memory 21 = .ok (.ireturn, 1) := by decide +kernel
theorem dX4_emitted_0 : decode cX4_emitted 0 = .ok (.aload_n 0, 1) := by decide +kernel
theorem dX4_emitted_1 : decode cX4_emitted 1 = .ok (.getfield 127, 3) := by decide +kernel
theorem dX4_emitted_4 : decode cX4_emitted 4 = .ok (.ireturn, 1) := by decide +kernel
theorem dX4_out_0 : decode cX4_out 0 = .ok (.iload_n 1, 1) := by decide +kernel
theorem dX4_out_1 : decode cX4_out 1 = .ok (.ifCond .lt 17, 3) := by decide +kernel
theorem dX4_out_4 : decode cX4_out 4 = .ok (.iload_n 1, 1) := by decide +kernel
theorem dX4_out_5 : decode cX4_out 5 = .ok (.bipush 31, 2) := by decide +kernel
theorem dX4_out_7 : decode cX4_out 7 = .ok (.if_icmp .gt 11, 3) := by decide +kernel
theorem dX4_out_10 : decode cX4_out 10 = .ok (.iload_n 1, 1) := by decide +kernel
theorem dX4_out_11 : decode cX4_out 11 = .ok (.aload_n 0, 1) := by decide +kernel
theorem dX4_out_12 : decode cX4_out 12 = .ok (.getfield 127, 3) := by decide +kernel
theorem dX4_out_15 : decode cX4_out 15 = .ok (.if_icmp .lt 8, 3) := by decide +kernel
theorem dX4_out_18 : decode cX4_out 18 = .ok (.ldc 174, 2) := by decide +kernel
theorem dX4_out_20 : decode cX4_out 20 = .ok (.goto 19, 3) := by decide +kernel
theorem dX4_out_23 : decode cX4_out 23 = .ok (.aload_n 0, 1) := by decide +kernel
theorem dX4_out_24 : decode cX4_out 24 = .ok (.getfield 58, 3) := by decide +kernel
theorem dX4_out_27 : decode cX4_out 27 = .ok (.aload_n 0, 1) := by decide +kernel
theorem dX4_out_28 : decode cX4_out 28 = .ok (.getfield 127, 3) := by decide +kernel
theorem dX4_out_31 : decode cX4_out 31 = .ok (.iconst 1, 1) := by decide +kernel
theorem dX4_out_32 : decode cX4_out 32 = .ok (.isub, 1) := by decide +kernel
theorem dX4_out_33 : decode cX4_out 33 = .ok (.iload_n 1, 1) := by decide +kernel
theorem dX4_out_34 : decode cX4_out 34 = .ok (.isub, 1) := by decide +kernel
theorem dX4_out_35 : decode cX4_out 35 = .ok (.bipush 32, 2) := by decide +kernel
theorem dX4_out_37 : decode cX4_out 37 = .ok (.irem, 1) := by decide +kernel
theorem dX4_out_38 : decode cX4_out 38 = .ok (.iaload, 1) := by decide +kernel
theorem dX4_out_39 : decode cX4_out 39 = .ok (.ireturn, 1) := by decide +kernel
theorem dX4_why_0 : decode cX4_why 0 = .ok (.iload_n 1, 1) := by decide +kernel
theorem dX4_why_1 : decode cX4_why 1 = .ok (.ifCond .lt 11, 3) := by decide +kernel
theorem dX4_why_4 : decode cX4_why 4 = .ok (.iload_n 1, 1) := by decide +kernel
theorem dX4_why_5 : decode cX4_why 5 = .ok (.aload_n 0, 1) := by decide +kernel
theorem dX4_why_6 : decode cX4_why 6 = .ok (.getfield 65, 3) := by decide +kernel
theorem dX4_why_9 : decode cX4_why 9 = .ok (.if_icmp .lt 7, 3) := by decide +kernel
theorem dX4_why_12 : decode cX4_why 12 = .ok (.iconst (-1), 1) := by decide +kernel
theorem dX4_why_13 : decode cX4_why 13 = .ok (.goto 9, 3) := by decide +kernel
theorem dX4_why_16 : decode cX4_why 16 = .ok (.aload_n 0, 1) := by decide +kernel
theorem dX4_why_17 : decode cX4_why 17 = .ok (.getfield 49, 3) := by decide +kernel
theorem dX4_why_20 : decode cX4_why 20 = .ok (.iload_n 1, 1) := by decide +kernel
theorem dX4_why_21 : decode cX4_why 21 = .ok (.iaload, 1) := by decide +kernel
theorem dX4_why_22 : decode cX4_why 22 = .ok (.ireturn, 1) := by decide +kernel
theorem dX4_clock_0 : decode cX4_clock 0 = .ok (.aload_n 0, 1) := by decide +kernel
theorem dX4_clock_1 : decode cX4_clock 1 = .ok (.getfield 121, 3) := by decide +kernel
theorem dX4_clock_4 : decode cX4_clock 4 = .ok (.ireturn, 1) := by decide +kernel
