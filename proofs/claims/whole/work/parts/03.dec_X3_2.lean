theorem dX3_compute_79 : decode cX3_compute 79 = .ok (.iload 4, 2) := by decide +kernel
theorem dX3_compute_81 : decode cX3_compute 81 = .ok (.iload_n 3, 1) := by decide +kernel
theorem dX3_compute_82 : decode cX3_compute 82 = .ok (.imul, 1) := by decide +kernel
theorem dX3_compute_83 : decode cX3_compute 83 = .ok (.invokevirtual 180, 3) := by decide +kernel
theorem dX3_compute_86 : decode cX3_compute 86 = .ok (.ireturn, 1) := by decide +kernel
theorem dX3_compute_87 : decode cX3_compute 87 = .ok (.iload_n 3, 1) := by decide +kernel
theorem dX3_compute_88 : decode cX3_compute 88 = .ok (.ifCond .ne 7, 3) := by decide +kernel
theorem dX3_compute_91 : decode cX3_compute 91 = .ok (.iconst 3, 1) := by decide +kernel
theorem dX3_compute_92 : decode cX3_compute 92 = .ok (.goto 11, 3) := by decide +kernel
theorem dX3_compute_95 : decode cX3_compute 95 = .ok (.aload_n 1, 1) := by decide +kernel
theorem dX3_compute_96 : decode cX3_compute 96 = .ok (.iload 4, 2) := by decide +kernel
theorem dX3_compute_98 : decode cX3_compute 98 = .ok (.iload_n 3, 1) := by decide +kernel
theorem dX3_compute_99 : decode cX3_compute 99 = .ok (.idiv, 1) := by decide +kernel
theorem dX3_compute_100 : decode cX3_compute 100 = .ok (.invokevirtual 180, 3) := by decide +kernel
theorem dX3_compute_103 : decode cX3_compute 103 = .ok (.ireturn, 1) := by decide +kernel
theorem dX3_compute_104 : decode cX3_compute 104 = .ok (.aload_n 1, 1) := by decide +kernel
theorem dX3_compute_105 : decode cX3_compute 105 = .ok (.iload 4, 2) := by decide +kernel
theorem dX3_compute_107 : decode cX3_compute 107 = .ok (.iload_n 3, 1) := by decide +kernel
theorem dX3_compute_108 : decode cX3_compute 108 = .ok (.if_icmp .ge 7, 3) := by decide +kernel
theorem dX3_compute_111 : decode cX3_compute 111 = .ok (.iconst 1, 1) := by decide +kernel
theorem dX3_compute_112 : decode cX3_compute 112 = .ok (.goto 4, 3) := by decide +kernel
theorem dX3_compute_115 : decode cX3_compute 115 = .ok (.iconst 0, 1) := by decide +kernel
theorem dX3_compute_116 : decode cX3_compute 116 = .ok (.invokevirtual 180, 3) := by decide +kernel
theorem dX3_compute_119 : decode cX3_compute 119 = .ok (.ireturn, 1) := by decide +kernel
theorem dX3_copyTop_0 : decode cX3_copyTop 0 = .ok (.aload_n 1, 1) := by decide +kernel
theorem dX3_copyTop_1 : decode cX3_copyTop 1 = .ok (.getfield 108, 3) := by decide +kernel
theorem dX3_copyTop_4 : decode cX3_copyTop 4 = .ok (.getfield 112, 3) := by decide +kernel
theorem dX3_copyTop_7 : decode cX3_copyTop 7 = .ok (.iconst 1, 1) := by decide +kernel
theorem dX3_copyTop_8 : decode cX3_copyTop 8 = .ok (.if_icmp .ge 7, 3) := by decide +kernel
theorem dX3_copyTop_11 : decode cX3_copyTop 11 = .ok (.iconst 1, 1) := by decide +kernel
theorem dX3_copyTop_12 : decode cX3_copyTop 12 = .ok (.goto 15, 3) := by decide +kernel
theorem dX3_copyTop_15 : decode cX3_copyTop 15 = .ok (.aload_n 1, 1) := by decide +kernel
theorem dX3_copyTop_16 : decode cX3_copyTop 16 = .ok (.aload_n 1, 1) := by decide +kernel
theorem dX3_copyTop_17 : decode cX3_copyTop 17 = .ok (.getfield 108, 3) := by decide +kernel
theorem dX3_copyTop_20 : decode cX3_copyTop 20 = .ok (.iconst 0, 1) := by decide +kernel
theorem dX3_copyTop_21 : decode cX3_copyTop 21 = .ok (.invokevirtual 126, 3) := by decide +kernel
theorem dX3_copyTop_24 : decode cX3_copyTop 24 = .ok (.invokevirtual 180, 3) := by decide +kernel
theorem dX3_copyTop_27 : decode cX3_copyTop 27 = .ok (.ireturn, 1) := by decide +kernel
theorem dX3_drop_0 : decode cX3_drop 0 = .ok (.aload_n 1, 1) := by decide +kernel
theorem dX3_drop_1 : decode cX3_drop 1 = .ok (.getfield 108, 3) := by decide +kernel
theorem dX3_drop_4 : decode cX3_drop 4 = .ok (.getfield 112, 3) := by decide +kernel
theorem dX3_drop_7 : decode cX3_drop 7 = .ok (.iconst 1, 1) := by decide +kernel
theorem dX3_drop_8 : decode cX3_drop 8 = .ok (.if_icmp .ge 5, 3) := by decide +kernel
theorem dX3_drop_11 : decode cX3_drop 11 = .ok (.iconst 1, 1) := by decide +kernel
theorem dX3_drop_12 : decode cX3_drop 12 = .ok (.ireturn, 1) := by decide +kernel
theorem dX3_drop_13 : decode cX3_drop 13 = .ok (.aload_n 1, 1) := by decide +kernel
theorem dX3_drop_14 : decode cX3_drop 14 = .ok (.getfield 108, 3) := by decide +kernel
theorem dX3_drop_17 : decode cX3_drop 17 = .ok (.invokevirtual 235, 3) := by decide +kernel
theorem dX3_drop_20 : decode cX3_drop 20 = .ok (.pop, 1) := by decide +kernel
theorem dX3_drop_21 : decode cX3_drop 21 = .ok (.iconst 0, 1) := by decide +kernel
theorem dX3_drop_22 : decode cX3_drop 22 = .ok (.ireturn, 1) := by decide +kernel
theorem dX3_swap_0 : decode cX3_swap 0 = .ok (.aload_n 1, 1) := by decide +kernel
theorem dX3_swap_1 : decode cX3_swap 1 = .ok (.getfield 108, 3) := by decide +kernel
theorem dX3_swap_4 : decode cX3_swap 4 = .ok (.getfield 112, 3) := by decide +kernel
theorem dX3_swap_7 : decode cX3_swap 7 = .ok (.iconst 2, 1) := by decide +kernel
theorem dX3_swap_8 : decode cX3_swap 8 = .ok (.if_icmp .ge 5, 3) := by decide +kernel
theorem dX3_swap_11 : decode cX3_swap 11 = .ok (.iconst 1, 1) := by decide +kernel
theorem dX3_swap_12 : decode cX3_swap 12 = .ok (.ireturn, 1) := by decide +kernel
theorem dX3_swap_13 : decode cX3_swap 13 = .ok (.aload_n 1, 1) := by decide +kernel
theorem dX3_swap_14 : decode cX3_swap 14 = .ok (.getfield 108, 3) := by decide +kernel
theorem dX3_swap_17 : decode cX3_swap 17 = .ok (.invokevirtual 235, 3) := by decide +kernel
theorem dX3_swap_20 : decode cX3_swap 20 = .ok (.istore_n 2, 1) := by decide +kernel
theorem dX3_swap_21 : decode cX3_swap 21 = .ok (.aload_n 1, 1) := by decide +kernel
theorem dX3_swap_22 : decode cX3_swap 22 = .ok (.getfield 108, 3) := by decide +kernel
theorem dX3_swap_25 : decode cX3_swap 25 = .ok (.invokevirtual 235, 3) := by decide +kernel
theorem dX3_swap_28 : decode cX3_swap 28 = .ok (.istore_n 3, 1) := by decide +kernel
theorem dX3_swap_29 : decode cX3_swap 29 = .ok (.aload_n 1, 1) := by decide +kernel
theorem dX3_swap_30 : decode cX3_swap 30 = .ok (.getfield 108, 3) := by decide +kernel
theorem dX3_swap_33 : decode cX3_swap 33 = .ok (.iload_n 2, 1) := by decide +kernel
theorem dX3_swap_34 : decode cX3_swap 34 = .ok (.invokevirtual 238, 3) := by decide +kernel
theorem dX3_swap_37 : decode cX3_swap 37 = .ok (.pop, 1) := by decide +kernel
theorem dX3_swap_38 : decode cX3_swap 38 = .ok (.aload_n 1, 1) := by decide +kernel
theorem dX3_swap_39 : decode cX3_swap 39 = .ok (.getfield 108, 3) := by decide +kernel
theorem dX3_swap_42 : decode cX3_swap 42 = .ok (.iload_n 3, 1) := by decide +kernel
theorem dX3_swap_43 : decode cX3_swap 43 = .ok (.invokevirtual 238, 3) := by decide +kernel
theorem dX3_swap_46 : decode cX3_swap 46 = .ok (.pop, 1) := by decide +kernel
theorem dX3_swap_47 : decode cX3_swap 47 = .ok (.iconst 0, 1) := by decide +kernel
theorem dX3_swap_48 : decode cX3_swap 48 = .ok (.ireturn, 1) := by decide +kernel
theorem dX3_load_0 : decode cX3_load 0 = .ok (.aload_n 1, 1) := by decide +kernel
theorem dX3_load_1 : decode cX3_load 1 = .ok (.getfield 108, 3) := by decide +kernel
theorem dX3_load_4 : decode cX3_load 4 = .ok (.getfield 112, 3) := by decide +kernel
theorem dX3_load_7 : decode cX3_load 7 = .ok (.iconst 1, 1) := by decide +kernel
theorem dX3_load_8 : decode cX3_load 8 = .ok (.if_icmp .ge 5, 3) := by decide +kernel
theorem dX3_load_11 : decode cX3_load 11 = .ok (.iconst 1, 1) := by decide +kernel
theorem dX3_load_12 : decode cX3_load 12 = .ok (.ireturn, 1) := by decide +kernel
theorem dX3_load_13 : decode cX3_load 13 = .ok (.aload_n 1, 1) := by decide +kernel
theorem dX3_load_14 : decode cX3_load 14 = .ok (.getfield 108, 3) := by decide +kernel
theorem dX3_load_17 : decode cX3_load 17 = .ok (.invokevirtual 235, 3) := by decide +kernel
theorem dX3_load_20 : decode cX3_load 20 = .ok (.istore_n 2, 1) := by decide +kernel
theorem dX3_load_21 : decode cX3_load 21 = .ok (.iload_n 2, 1) := by decide +kernel
theorem dX3_load_22 : decode cX3_load 22 = .ok (.invokestatic 147, 3) := by decide +kernel
theorem dX3_load_25 : decode cX3_load 25 = .ok (.ifCond .eq 16, 3) := by decide +kernel
theorem dX3_load_28 : decode cX3_load 28 = .ok (.aload_n 1, 1) := by decide +kernel
theorem dX3_load_29 : decode cX3_load 29 = .ok (.aload_n 0, 1) := by decide +kernel
theorem dX3_load_30 : decode cX3_load 30 = .ok (.getfield 13, 3) := by decide +kernel
theorem dX3_load_33 : decode cX3_load 33 = .ok (.iload_n 2, 1) := by decide +kernel
theorem dX3_load_34 : decode cX3_load 34 = .ok (.iaload, 1) := by decide +kernel
theorem dX3_load_35 : decode cX3_load 35 = .ok (.invokevirtual 180, 3) := by decide +kernel
theorem dX3_load_38 : decode cX3_load 38 = .ok (.goto 4, 3) := by decide +kernel
theorem dX3_load_41 : decode cX3_load 41 = .ok (.iconst 2, 1) := by decide +kernel
theorem dX3_load_42 : decode cX3_load 42 = .ok (.ireturn, 1) := by decide +kernel
theorem dX3_store_0 : decode cX3_store 0 = .ok (.aload_n 1, 1) := by decide +kernel
theorem dX3_store_1 : decode cX3_store 1 = .ok (.getfield 108, 3) := by decide +kernel
theorem dX3_store_4 : decode cX3_store 4 = .ok (.getfield 112, 3) := by decide +kernel
theorem dX3_store_7 : decode cX3_store 7 = .ok (.iconst 1, 1) := by decide +kernel
theorem dX3_store_8 : decode cX3_store 8 = .ok (.if_icmp .ge 5, 3) := by decide +kernel
theorem dX3_store_11 : decode cX3_store 11 = .ok (.iconst 1, 1) := by decide +kernel
theorem dX3_store_12 : decode cX3_store 12 = .ok (.ireturn, 1) := by decide +kernel
theorem dX3_store_13 : decode cX3_store 13 = .ok (.aload_n 1, 1) := by decide +kernel
theorem dX3_store_14 : decode cX3_store 14 = .ok (.getfield 108, 3) := by decide +kernel
theorem dX3_store_17 : decode cX3_store 17 = .ok (.invokevirtual 235, 3) := by decide +kernel
theorem dX3_store_20 : decode cX3_store 20 = .ok (.istore_n 2, 1) := by decide +kernel
theorem dX3_store_21 : decode cX3_store 21 = .ok (.iload_n 2, 1) := by decide +kernel
theorem dX3_store_22 : decode cX3_store 22 = .ok (.invokestatic 147, 3) := by decide +kernel
theorem dX3_store_25 : decode cX3_store 25 = .ok (.ifCond .ne 5, 3) := by decide +kernel
theorem dX3_store_28 : decode cX3_store 28 = .ok (.iconst 2, 1) := by decide +kernel
theorem dX3_store_29 : decode cX3_store 29 = .ok (.ireturn, 1) := by decide +kernel
theorem dX3_store_30 : decode cX3_store 30 = .ok (.aload_n 1, 1) := by decide +kernel
theorem dX3_store_31 : decode cX3_store 31 = .ok (.getfield 108, 3) := by decide +kernel
theorem dX3_store_34 : decode cX3_store 34 = .ok (.getfield 112, 3) := by decide +kernel
theorem dX3_store_37 : decode cX3_store 37 = .ok (.iconst 1, 1) := by decide +kernel
theorem dX3_store_38 : decode cX3_store 38 = .ok (.if_icmp .ge 5, 3) := by decide +kernel
theorem dX3_store_41 : decode cX3_store 41 = .ok (.iconst 1, 1) := by decide +kernel
theorem dX3_store_42 : decode cX3_store 42 = .ok (.ireturn, 1) := by decide +kernel
theorem dX3_store_43 : decode cX3_store 43 = .ok (.aload_n 0, 1) := by decide +kernel
theorem dX3_store_44 : decode cX3_store 44 = .ok (.getfield 13, 3) := by decide +kernel
theorem dX3_store_47 : decode cX3_store 47 = .ok (.iload_n 2, 1) := by decide +kernel
theorem dX3_store_48 : decode cX3_store 48 = .ok (.aload_n 1, 1) := by decide +kernel
theorem dX3_store_49 : decode cX3_store 49 = .ok (.getfield 108, 3) := by decide +kernel
theorem dX3_store_52 : decode cX3_store 52 = .ok (.invokevirtual 235, 3) := by decide +kernel
theorem dX3_store_55 : decode cX3_store 55 = .ok (.iastore, 1) := by decide +kernel
theorem dX3_store_56 : decode cX3_store 56 = .ok (.iconst 0, 1) := by decide +kernel
theorem dX3_store_57 : decode cX3_store 57 = .ok (.ireturn, 1) := by decide +kernel
theorem dX3_jump_0 : decode cX3_jump 0 = .ok (.iload_n 2, 1) := by decide +kernel
theorem dX3_jump_1 : decode cX3_jump 1 = .ok (.invokestatic 55, 3) := by decide +kernel
theorem dX3_jump_4 : decode cX3_jump 4 = .ok (.ifCond .ne 5, 3) := by decide +kernel
theorem dX3_jump_7 : decode cX3_jump 7 = .ok (.iconst 2, 1) := by decide +kernel
theorem dX3_jump_8 : decode cX3_jump 8 = .ok (.ireturn, 1) := by decide +kernel
theorem dX3_jump_9 : decode cX3_jump 9 = .ok (.aload_n 1, 1) := by decide +kernel
theorem dX3_jump_10 : decode cX3_jump 10 = .ok (.iload_n 2, 1) := by decide +kernel
theorem dX3_jump_11 : decode cX3_jump 11 = .ok (.putfield 102, 3) := by decide +kernel
theorem dX3_jump_14 : decode cX3_jump 14 = .ok (.iconst 0, 1) := by decide +kernel
theorem dX3_jump_15 : decode cX3_jump 15 = .ok (.ireturn, 1) := by decide +kernel
theorem dX3_jumpIfZero_0 : decode cX3_jumpIfZero 0 = .ok (.aload_n 1, 1) := by decide +kernel
theorem dX3_jumpIfZero_1 : decode cX3_jumpIfZero 1 = .ok (.getfield 108, 3) := by decide +kernel
theorem dX3_jumpIfZero_4 : decode cX3_jumpIfZero 4 = .ok (.getfield 112, 3) := by decide +kernel
theorem dX3_jumpIfZero_7 : decode cX3_jumpIfZero 7 = .ok (.iconst 1, 1) := by decide +kernel
theorem dX3_jumpIfZero_8 : decode cX3_jumpIfZero 8 = .ok (.if_icmp .ge 5, 3) := by decide +kernel
theorem dX3_jumpIfZero_11 : decode cX3_jumpIfZero 11 = .ok (.iconst 1, 1) := by decide +kernel
theorem dX3_jumpIfZero_12 : decode cX3_jumpIfZero 12 = .ok (.ireturn, 1) := by decide +kernel
theorem dX3_jumpIfZero_13 : decode cX3_jumpIfZero 13 = .ok (.aload_n 1, 1) := by decide +kernel
theorem dX3_jumpIfZero_14 : decode cX3_jumpIfZero 14 = .ok (.getfield 108, 3) := by decide +kernel
theorem dX3_jumpIfZero_17 : decode cX3_jumpIfZero 17 = .ok (.invokevirtual 235, 3) := by decide +kernel
theorem dX3_jumpIfZero_20 : decode cX3_jumpIfZero 20 = .ok (.ifCond .ne 12, 3) := by decide +kernel
theorem dX3_jumpIfZero_23 : decode cX3_jumpIfZero 23 = .ok (.aload_n 0, 1) := by decide +kernel
theorem dX3_jumpIfZero_24 : decode cX3_jumpIfZero 24 = .ok (.aload_n 1, 1) := by decide +kernel
theorem dX3_jumpIfZero_25 : decode cX3_jumpIfZero 25 = .ok (.iload_n 2, 1) := by decide +kernel
theorem dX3_jumpIfZero_26 : decode cX3_jumpIfZero 26 = .ok (.invokevirtual 202, 3) := by decide +kernel
theorem dX3_jumpIfZero_29 : decode cX3_jumpIfZero 29 = .ok (.goto 4, 3) := by decide +kernel
theorem dX3_jumpIfZero_32 : decode cX3_jumpIfZero 32 = .ok (.iconst 0, 1) := by decide +kernel
theorem dX3_jumpIfZero_33 : decode cX3_jumpIfZero 33 = .ok (.ireturn, 1) := by decide +kernel
theorem dX3_callPlace_0 : decode cX3_callPlace 0 = .ok (.iload_n 2, 1) := by decide +kernel
theorem dX3_callPlace_1 : decode cX3_callPlace 1 = .ok (.invokestatic 55, 3) := by decide +kernel
theorem dX3_callPlace_4 : decode cX3_callPlace 4 = .ok (.ifCond .ne 5, 3) := by decide +kernel
theorem dX3_callPlace_7 : decode cX3_callPlace 7 = .ok (.iconst 2, 1) := by decide +kernel
theorem dX3_callPlace_8 : decode cX3_callPlace 8 = .ok (.ireturn, 1) := by decide +kernel
theorem dX3_callPlace_9 : decode cX3_callPlace 9 = .ok (.aload_n 1, 1) := by decide +kernel
theorem dX3_callPlace_10 : decode cX3_callPlace 10 = .ok (.getfield 117, 3) := by decide +kernel
theorem dX3_callPlace_13 : decode cX3_callPlace 13 = .ok (.aload_n 1, 1) := by decide +kernel
theorem dX3_callPlace_14 : decode cX3_callPlace 14 = .ok (.getfield 102, 3) := by decide +kernel
theorem dX3_callPlace_17 : decode cX3_callPlace 17 = .ok (.invokevirtual 238, 3) := by decide +kernel
theorem dX3_callPlace_20 : decode cX3_callPlace 20 = .ok (.ifCond .ne 5, 3) := by decide +kernel
theorem dX3_callPlace_23 : decode cX3_callPlace 23 = .ok (.iconst 5, 1) := by decide +kernel
theorem dX3_callPlace_24 : decode cX3_callPlace 24 = .ok (.ireturn, 1) := by decide +kernel
theorem dX3_callPlace_25 : decode cX3_callPlace 25 = .ok (.aload_n 1, 1) := by decide +kernel
theorem dX3_callPlace_26 : decode cX3_callPlace 26 = .ok (.iload_n 2, 1) := by decide +kernel
theorem dX3_callPlace_27 : decode cX3_callPlace 27 = .ok (.putfield 102, 3) := by decide +kernel
theorem dX3_callPlace_30 : decode cX3_callPlace 30 = .ok (.iconst 0, 1) := by decide +kernel
theorem dX3_callPlace_31 : decode cX3_callPlace 31 = .ok (.ireturn, 1) := by decide +kernel
theorem dX3_goBack_0 : decode cX3_goBack 0 = .ok (.aload_n 1, 1) := by decide +kernel
theorem dX3_goBack_1 : decode cX3_goBack 1 = .ok (.getfield 117, 3) := by decide +kernel
theorem dX3_goBack_4 : decode cX3_goBack 4 = .ok (.getfield 112, 3) := by decide +kernel
theorem dX3_goBack_7 : decode cX3_goBack 7 = .ok (.iconst 1, 1) := by decide +kernel
theorem dX3_goBack_8 : decode cX3_goBack 8 = .ok (.if_icmp .ge 5, 3) := by decide +kernel
theorem dX3_goBack_11 : decode cX3_goBack 11 = .ok (.iconst 5, 1) := by decide +kernel
theorem dX3_goBack_12 : decode cX3_goBack 12 = .ok (.ireturn, 1) := by decide +kernel
theorem dX3_goBack_13 : decode cX3_goBack 13 = .ok (.aload_n 1, 1) := by decide +kernel
theorem dX3_goBack_14 : decode cX3_goBack 14 = .ok (.aload_n 1, 1) := by decide +kernel
theorem dX3_goBack_15 : decode cX3_goBack 15 = .ok (.getfield 117, 3) := by decide +kernel
theorem dX3_goBack_18 : decode cX3_goBack 18 = .ok (.invokevirtual 235, 3) := by decide +kernel
theorem dX3_goBack_21 : decode cX3_goBack 21 = .ok (.putfield 102, 3) := by decide +kernel
theorem dX3_goBack_24 : decode cX3_goBack 24 = .ok (.iconst 0, 1) := by decide +kernel
theorem dX3_goBack_25 : decode cX3_goBack 25 = .ok (.ireturn, 1) := by decide +kernel
theorem dX3_emit_0 : decode cX3_emit 0 = .ok (.aload_n 1, 1) := by decide +kernel
theorem dX3_emit_1 : decode cX3_emit 1 = .ok (.getfield 108, 3) := by decide +kernel
theorem dX3_emit_4 : decode cX3_emit 4 = .ok (.getfield 112, 3) := by decide +kernel
theorem dX3_emit_7 : decode cX3_emit 7 = .ok (.iconst 1, 1) := by decide +kernel
theorem dX3_emit_8 : decode cX3_emit 8 = .ok (.if_icmp .ge 5, 3) := by decide +kernel
theorem dX3_emit_11 : decode cX3_emit 11 = .ok (.iconst 1, 1) := by decide +kernel
theorem dX3_emit_12 : decode cX3_emit 12 = .ok (.ireturn, 1) := by decide +kernel
theorem dX3_emit_13 : decode cX3_emit 13 = .ok (.aload_n 0, 1) := by decide +kernel
theorem dX3_emit_14 : decode cX3_emit 14 = .ok (.getfield 16, 3) := by decide +kernel
theorem dX3_emit_17 : decode cX3_emit 17 = .ok (.aload_n 0, 1) := by decide +kernel
theorem dX3_emit_18 : decode cX3_emit 18 = .ok (.getfield 19, 3) := by decide +kernel
theorem dX3_emit_21 : decode cX3_emit 21 = .ok (.invokestatic 150, 3) := by decide +kernel
theorem dX3_emit_24 : decode cX3_emit 24 = .ok (.aload_n 1, 1) := by decide +kernel
theorem dX3_emit_25 : decode cX3_emit 25 = .ok (.getfield 108, 3) := by decide +kernel
theorem dX3_emit_28 : decode cX3_emit 28 = .ok (.invokevirtual 235, 3) := by decide +kernel
theorem dX3_emit_31 : decode cX3_emit 31 = .ok (.iastore, 1) := by decide +kernel
theorem dX3_emit_32 : decode cX3_emit 32 = .ok (.aload_n 0, 1) := by decide +kernel
theorem dX3_emit_33 : decode cX3_emit 33 = .ok (.dup, 1) := by decide +kernel
theorem dX3_emit_34 : decode cX3_emit 34 = .ok (.getfield 19, 3) := by decide +kernel
theorem dX3_emit_37 : decode cX3_emit 37 = .ok (.iconst 1, 1) := by decide +kernel
theorem dX3_emit_38 : decode cX3_emit 38 = .ok (.iadd, 1) := by decide +kernel
theorem dX3_emit_39 : decode cX3_emit 39 = .ok (.putfield 19, 3) := by decide +kernel
theorem dX3_emit_42 : decode cX3_emit 42 = .ok (.iconst 0, 1) := by decide +kernel
theorem dX3_emit_43 : decode cX3_emit 43 = .ok (.ireturn, 1) := by decide +kernel
theorem dX3_beginOther_0 : decode cX3_beginOther 0 = .ok (.iload_n 2, 1) := by decide +kernel
theorem dX3_beginOther_1 : decode cX3_beginOther 1 = .ok (.invokestatic 55, 3) := by decide +kernel
theorem dX3_beginOther_4 : decode cX3_beginOther 4 = .ok (.ifCond .ne 5, 3) := by decide +kernel
theorem dX3_beginOther_7 : decode cX3_beginOther 7 = .ok (.iconst 2, 1) := by decide +kernel
theorem dX3_beginOther_8 : decode cX3_beginOther 8 = .ok (.ireturn, 1) := by decide +kernel
theorem dX3_beginOther_9 : decode cX3_beginOther 9 = .ok (.aload_n 1, 1) := by decide +kernel
theorem dX3_beginOther_10 : decode cX3_beginOther 10 = .ok (.getfield 108, 3) := by decide +kernel
theorem dX3_beginOther_13 : decode cX3_beginOther 13 = .ok (.getfield 112, 3) := by decide +kernel
theorem dX3_beginOther_16 : decode cX3_beginOther 16 = .ok (.iconst 1, 1) := by decide +kernel
theorem dX3_beginOther_17 : decode cX3_beginOther 17 = .ok (.if_icmp .ge 5, 3) := by decide +kernel
theorem dX3_beginOther_20 : decode cX3_beginOther 20 = .ok (.iconst 1, 1) := by decide +kernel
theorem dX3_beginOther_21 : decode cX3_beginOther 21 = .ok (.ireturn, 1) := by decide +kernel
theorem dX3_beginOther_22 : decode cX3_beginOther 22 = .ok (.aload_n 1, 1) := by decide +kernel
theorem dX3_beginOther_23 : decode cX3_beginOther 23 = .ok (.getfield 108, 3) := by decide +kernel
theorem dX3_beginOther_26 : decode cX3_beginOther 26 = .ok (.invokevirtual 235, 3) := by decide +kernel
theorem dX3_beginOther_29 : decode cX3_beginOther 29 = .ok (.bipush 7, 2) := by decide +kernel
theorem dX3_beginOther_31 : decode cX3_beginOther 31 = .ok (.iand, 1) := by decide +kernel
theorem dX3_beginOther_32 : decode cX3_beginOther 32 = .ok (.istore_n 3, 1) := by decide +kernel
theorem dX3_beginOther_33 : decode cX3_beginOther 33 = .ok (.aload_n 1, 1) := by decide +kernel
theorem dX3_beginOther_34 : decode cX3_beginOther 34 = .ok (.aload_n 0, 1) := by decide +kernel
theorem dX3_beginOther_35 : decode cX3_beginOther 35 = .ok (.iload_n 2, 1) := by decide +kernel
theorem dX3_beginOther_36 : decode cX3_beginOther 36 = .ok (.iload_n 3, 1) := by decide +kernel
theorem dX3_beginOther_37 : decode cX3_beginOther 37 = .ok (.invokevirtual 59, 3) := by decide +kernel
theorem dX3_beginOther_40 : decode cX3_beginOther 40 = .ok (.invokevirtual 180, 3) := by decide +kernel
theorem dX3_beginOther_43 : decode cX3_beginOther 43 = .ok (.ireturn, 1) := by decide +kernel
theorem dX3_sleep_0 : decode cX3_sleep 0 = .ok (.aload_n 1, 1) := by decide +kernel
theorem dX3_sleep_1 : decode cX3_sleep 1 = .ok (.getfield 108, 3) := by decide +kernel
theorem dX3_sleep_4 : decode cX3_sleep 4 = .ok (.getfield 112, 3) := by decide +kernel
theorem dX3_sleep_7 : decode cX3_sleep 7 = .ok (.iconst 1, 1) := by decide +kernel
theorem dX3_sleep_8 : decode cX3_sleep 8 = .ok (.if_icmp .ge 5, 3) := by decide +kernel
theorem dX3_sleep_11 : decode cX3_sleep 11 = .ok (.iconst 1, 1) := by decide +kernel
theorem dX3_sleep_12 : decode cX3_sleep 12 = .ok (.ireturn, 1) := by decide +kernel
theorem dX3_sleep_13 : decode cX3_sleep 13 = .ok (.aload_n 1, 1) := by decide +kernel
theorem dX3_sleep_14 : decode cX3_sleep 14 = .ok (.getfield 108, 3) := by decide +kernel
theorem dX3_sleep_17 : decode cX3_sleep 17 = .ok (.invokevirtual 235, 3) := by decide +kernel
theorem dX3_sleep_20 : decode cX3_sleep 20 = .ok (.istore_n 2, 1) := by decide +kernel
theorem dX3_sleep_21 : decode cX3_sleep 21 = .ok (.iload_n 2, 1) := by decide +kernel
theorem dX3_sleep_22 : decode cX3_sleep 22 = .ok (.ifCond .le 25, 3) := by decide +kernel
theorem dX3_sleep_25 : decode cX3_sleep 25 = .ok (.aload_n 0, 1) := by decide +kernel
theorem dX3_sleep_26 : decode cX3_sleep 26 = .ok (.aload_n 1, 1) := by decide +kernel
theorem dX3_sleep_27 : decode cX3_sleep 27 = .ok (.iconst 2, 1) := by decide +kernel
theorem dX3_sleep_28 : decode cX3_sleep 28 = .ok (.invokevirtual 92, 3) := by decide +kernel
theorem dX3_sleep_31 : decode cX3_sleep 31 = .ok (.aload_n 1, 1) := by decide +kernel
theorem dX3_sleep_32 : decode cX3_sleep 32 = .ok (.aload_n 0, 1) := by decide +kernel
theorem dX3_sleep_33 : decode cX3_sleep 33 = .ok (.getfield 23, 3) := by decide +kernel
theorem dX3_sleep_36 : decode cX3_sleep 36 = .ok (.iload_n 2, 1) := by decide +kernel
theorem dX3_sleep_37 : decode cX3_sleep 37 = .ok (.sipush 1000, 3) := by decide +kernel
theorem dX3_sleep_40 : decode cX3_sleep 40 = .ok (.invokestatic 156, 3) := by decide +kernel
theorem dX3_sleep_43 : decode cX3_sleep 43 = .ok (.iadd, 1) := by decide +kernel
theorem dX3_sleep_44 : decode cX3_sleep 44 = .ok (.putfield 120, 3) := by decide +kernel
theorem dX3_sleep_47 : decode cX3_sleep 47 = .ok (.iconst 0, 1) := by decide +kernel
theorem dX3_sleep_48 : decode cX3_sleep 48 = .ok (.ireturn, 1) := by decide +kernel
theorem dX3_send_0 : decode cX3_send 0 = .ok (.aload_n 0, 1) := by decide +kernel
theorem dX3_send_1 : decode cX3_send 1 = .ok (.iload_n 2, 1) := by decide +kernel
theorem dX3_send_2 : decode cX3_send 2 = .ok (.invokevirtual 133, 3) := by decide +kernel
theorem dX3_send_5 : decode cX3_send 5 = .ok (.ifCond .ne 6, 3) := by decide +kernel
theorem dX3_send_8 : decode cX3_send 8 = .ok (.bipush 6, 2) := by decide +kernel
theorem dX3_send_10 : decode cX3_send 10 = .ok (.ireturn, 1) := by decide +kernel
theorem dX3_send_11 : decode cX3_send 11 = .ok (.aload_n 1, 1) := by decide +kernel
theorem dX3_send_12 : decode cX3_send 12 = .ok (.getfield 108, 3) := by decide +kernel
theorem dX3_send_15 : decode cX3_send 15 = .ok (.getfield 112, 3) := by decide +kernel
theorem dX3_send_18 : decode cX3_send 18 = .ok (.iconst 1, 1) := by decide +kernel
theorem dX3_send_19 : decode cX3_send 19 = .ok (.if_icmp .ge 5, 3) := by decide +kernel
theorem dX3_send_22 : decode cX3_send 22 = .ok (.iconst 1, 1) := by decide +kernel
theorem dX3_send_23 : decode cX3_send 23 = .ok (.ireturn, 1) := by decide +kernel
theorem dX3_send_24 : decode cX3_send 24 = .ok (.aload_n 1, 1) := by decide +kernel
theorem dX3_send_25 : decode cX3_send 25 = .ok (.getfield 108, 3) := by decide +kernel
theorem dX3_send_28 : decode cX3_send 28 = .ok (.invokevirtual 235, 3) := by decide +kernel
theorem dX3_send_31 : decode cX3_send 31 = .ok (.istore_n 3, 1) := by decide +kernel
theorem dX3_send_32 : decode cX3_send 32 = .ok (.aload_n 0, 1) := by decide +kernel
theorem dX3_send_33 : decode cX3_send 33 = .ok (.iconst 4, 1) := by decide +kernel
theorem dX3_send_34 : decode cX3_send 34 = .ok (.iload_n 2, 1) := by decide +kernel
theorem dX3_send_35 : decode cX3_send 35 = .ok (.invokevirtual 241, 3) := by decide +kernel
theorem dX3_send_38 : decode cX3_send 38 = .ok (.astore 4, 2) := by decide +kernel
theorem dX3_send_40 : decode cX3_send 40 = .ok (.aload 4, 2) := by decide +kernel
theorem dX3_send_42 : decode cX3_send 42 = .ok (.ifnull 23, 3) := by decide +kernel
theorem dX3_send_45 : decode cX3_send 45 = .ok (.aload 4, 2) := by decide +kernel
theorem dX3_send_47 : decode cX3_send 47 = .ok (.getfield 108, 3) := by decide +kernel
theorem dX3_send_50 : decode cX3_send 50 = .ok (.iload_n 3, 1) := by decide +kernel
theorem dX3_send_51 : decode cX3_send 51 = .ok (.invokevirtual 238, 3) := by decide +kernel
theorem dX3_send_54 : decode cX3_send 54 = .ok (.pop, 1) := by decide +kernel
theorem dX3_send_55 : decode cX3_send 55 = .ok (.aload_n 0, 1) := by decide +kernel
theorem dX3_send_56 : decode cX3_send 56 = .ok (.aload 4, 2) := by decide +kernel
theorem dX3_send_58 : decode cX3_send 58 = .ok (.iconst 1, 1) := by decide +kernel
theorem dX3_send_59 : decode cX3_send 59 = .ok (.invokevirtual 92, 3) := by decide +kernel
theorem dX3_send_62 : decode cX3_send 62 = .ok (.goto 28, 3) := by decide +kernel
theorem dX3_send_65 : decode cX3_send 65 = .ok (.aload_n 0, 1) := by decide +kernel
theorem dX3_send_66 : decode cX3_send 66 = .ok (.getfield 48, 3) := by decide +kernel
theorem dX3_send_69 : decode cX3_send 69 = .ok (.iload_n 2, 1) := by decide +kernel
theorem dX3_send_70 : decode cX3_send 70 = .ok (.aaload, 1) := by decide +kernel
theorem dX3_send_71 : decode cX3_send 71 = .ok (.iload_n 3, 1) := by decide +kernel
theorem dX3_send_72 : decode cX3_send 72 = .ok (.invokevirtual 245, 3) := by decide +kernel
theorem dX3_send_75 : decode cX3_send 75 = .ok (.ifCond .ne 15, 3) := by decide +kernel
theorem dX3_send_78 : decode cX3_send 78 = .ok (.aload_n 0, 1) := by decide +kernel
theorem dX3_send_79 : decode cX3_send 79 = .ok (.aload_n 1, 1) := by decide +kernel
theorem dX3_send_80 : decode cX3_send 80 = .ok (.iconst 3, 1) := by decide +kernel
theorem dX3_send_81 : decode cX3_send 81 = .ok (.iload_n 2, 1) := by decide +kernel
theorem dX3_send_82 : decode cX3_send 82 = .ok (.invokevirtual 248, 3) := by decide +kernel
theorem dX3_send_85 : decode cX3_send 85 = .ok (.aload_n 1, 1) := by decide +kernel
theorem dX3_send_86 : decode cX3_send 86 = .ok (.iload_n 3, 1) := by decide +kernel
theorem dX3_send_87 : decode cX3_send 87 = .ok (.putfield 252, 3) := by decide +kernel
theorem dX3_send_90 : decode cX3_send 90 = .ok (.iconst 0, 1) := by decide +kernel
theorem dX3_send_91 : decode cX3_send 91 = .ok (.ireturn, 1) := by decide +kernel
theorem dX3_receive_0 : decode cX3_receive 0 = .ok (.aload_n 0, 1) := by decide +kernel
theorem dX3_receive_1 : decode cX3_receive 1 = .ok (.iload_n 2, 1) := by decide +kernel
theorem dX3_receive_2 : decode cX3_receive 2 = .ok (.invokevirtual 133, 3) := by decide +kernel
theorem dX3_receive_5 : decode cX3_receive 5 = .ok (.ifCond .ne 6, 3) := by decide +kernel
theorem dX3_receive_8 : decode cX3_receive 8 = .ok (.bipush 6, 2) := by decide +kernel
theorem dX3_receive_10 : decode cX3_receive 10 = .ok (.ireturn, 1) := by decide +kernel
theorem dX3_receive_11 : decode cX3_receive 11 = .ok (.aload_n 1, 1) := by decide +kernel
theorem dX3_receive_12 : decode cX3_receive 12 = .ok (.getfield 108, 3) := by decide +kernel
theorem dX3_receive_15 : decode cX3_receive 15 = .ok (.invokevirtual 255, 3) := by decide +kernel
theorem dX3_receive_18 : decode cX3_receive 18 = .ok (.ifCond .eq 5, 3) := by decide +kernel
theorem dX3_receive_21 : decode cX3_receive 21 = .ok (.iconst 1, 1) := by decide +kernel
theorem dX3_receive_22 : decode cX3_receive 22 = .ok (.ireturn, 1) := by decide +kernel
theorem dX3_receive_23 : decode cX3_receive 23 = .ok (.aload_n 0, 1) := by decide +kernel
theorem dX3_receive_24 : decode cX3_receive 24 = .ok (.getfield 48, 3) := by decide +kernel
theorem dX3_receive_27 : decode cX3_receive 27 = .ok (.iload_n 2, 1) := by decide +kernel
theorem dX3_receive_28 : decode cX3_receive 28 = .ok (.aaload, 1) := by decide +kernel
theorem dX3_receive_29 : decode cX3_receive 29 = .ok (.astore_n 3, 1) := by decide +kernel
theorem dX3_receive_30 : decode cX3_receive 30 = .ok (.aload_n 3, 1) := by decide +kernel
theorem dX3_receive_31 : decode cX3_receive 31 = .ok (.getfield 136, 3) := by decide +kernel
theorem dX3_receive_34 : decode cX3_receive 34 = .ok (.iconst 1, 1) := by decide +kernel
theorem dX3_receive_35 : decode cX3_receive 35 = .ok (.if_icmp .ge 12, 3) := by decide +kernel
theorem dX3_receive_38 : decode cX3_receive 38 = .ok (.aload_n 0, 1) := by decide +kernel
theorem dX3_receive_39 : decode cX3_receive 39 = .ok (.aload_n 1, 1) := by decide +kernel
theorem dX3_receive_40 : decode cX3_receive 40 = .ok (.iconst 4, 1) := by decide +kernel
theorem dX3_receive_41 : decode cX3_receive 41 = .ok (.iload_n 2, 1) := by decide +kernel
theorem dX3_receive_42 : decode cX3_receive 42 = .ok (.invokevirtual 248, 3) := by decide +kernel
theorem dX3_receive_45 : decode cX3_receive 45 = .ok (.iconst 0, 1) := by decide +kernel
theorem dX3_receive_46 : decode cX3_receive 46 = .ok (.ireturn, 1) := by decide +kernel
theorem dX3_receive_47 : decode cX3_receive 47 = .ok (.aload_n 1, 1) := by decide +kernel
theorem dX3_receive_48 : decode cX3_receive 48 = .ok (.getfield 108, 3) := by decide +kernel
theorem dX3_receive_51 : decode cX3_receive 51 = .ok (.aload_n 3, 1) := by decide +kernel
theorem dX3_receive_52 : decode cX3_receive 52 = .ok (.invokevirtual 259, 3) := by decide +kernel
theorem dX3_receive_55 : decode cX3_receive 55 = .ok (.invokevirtual 238, 3) := by decide +kernel
theorem dX3_receive_58 : decode cX3_receive 58 = .ok (.pop, 1) := by decide +kernel
theorem dX3_receive_59 : decode cX3_receive 59 = .ok (.aload_n 0, 1) := by decide +kernel
theorem dX3_receive_60 : decode cX3_receive 60 = .ok (.iconst 3, 1) := by decide +kernel
theorem dX3_receive_61 : decode cX3_receive 61 = .ok (.iload_n 2, 1) := by decide +kernel
theorem dX3_receive_62 : decode cX3_receive 62 = .ok (.invokevirtual 241, 3) := by decide +kernel
theorem dX3_receive_65 : decode cX3_receive 65 = .ok (.astore 4, 2) := by decide +kernel
theorem dX3_receive_67 : decode cX3_receive 67 = .ok (.aload 4, 2) := by decide +kernel
theorem dX3_receive_69 : decode cX3_receive 69 = .ok (.ifnull 20, 3) := by decide +kernel
theorem dX3_receive_72 : decode cX3_receive 72 = .ok (.aload_n 3, 1) := by decide +kernel
theorem dX3_receive_73 : decode cX3_receive 73 = .ok (.aload 4, 2) := by decide +kernel
theorem dX3_receive_75 : decode cX3_receive 75 = .ok (.getfield 252, 3) := by decide +kernel
theorem dX3_receive_78 : decode cX3_receive 78 = .ok (.invokevirtual 245, 3) := by decide +kernel
theorem dX3_receive_81 : decode cX3_receive 81 = .ok (.pop, 1) := by decide +kernel
theorem dX3_receive_82 : decode cX3_receive 82 = .ok (.aload_n 0, 1) := by decide +kernel
theorem dX3_receive_83 : decode cX3_receive 83 = .ok (.aload 4, 2) := by decide +kernel
theorem dX3_receive_85 : decode cX3_receive 85 = .ok (.iconst 1, 1) := by decide +kernel
theorem dX3_receive_86 : decode cX3_receive 86 = .ok (.invokevirtual 92, 3) := by decide +kernel
theorem dX3_receive_89 : decode cX3_receive 89 = .ok (.iconst 0, 1) := by decide +kernel
theorem dX3_receive_90 : decode cX3_receive 90 = .ok (.ireturn, 1) := by decide +kernel
theorem dX3_killOther_0 : decode cX3_killOther 0 = .ok (.aload_n 1, 1) := by decide +kernel
theorem dX3_killOther_1 : decode cX3_killOther 1 = .ok (.getfield 108, 3) := by decide +kernel
theorem dX3_killOther_4 : decode cX3_killOther 4 = .ok (.getfield 112, 3) := by decide +kernel
theorem dX3_killOther_7 : decode cX3_killOther 7 = .ok (.iconst 1, 1) := by decide +kernel
theorem dX3_killOther_8 : decode cX3_killOther 8 = .ok (.if_icmp .ge 5, 3) := by decide +kernel
theorem dX3_killOther_11 : decode cX3_killOther 11 = .ok (.iconst 1, 1) := by decide +kernel
theorem dX3_killOther_12 : decode cX3_killOther 12 = .ok (.ireturn, 1) := by decide +kernel
theorem dX3_killOther_13 : decode cX3_killOther 13 = .ok (.aload_n 1, 1) := by decide +kernel
theorem dX3_killOther_14 : decode cX3_killOther 14 = .ok (.getfield 108, 3) := by decide +kernel
theorem dX3_killOther_17 : decode cX3_killOther 17 = .ok (.invokevirtual 235, 3) := by decide +kernel
theorem dX3_killOther_20 : decode cX3_killOther 20 = .ok (.istore_n 2, 1) := by decide +kernel
theorem dX3_killOther_21 : decode cX3_killOther 21 = .ok (.aload_n 0, 1) := by decide +kernel
theorem dX3_killOther_22 : decode cX3_killOther 22 = .ok (.iload_n 2, 1) := by decide +kernel
theorem dX3_killOther_23 : decode cX3_killOther 23 = .ok (.invokevirtual 95, 3) := by decide +kernel
theorem dX3_killOther_26 : decode cX3_killOther 26 = .ok (.ifCond .ne 9, 3) := by decide +kernel
theorem dX3_killOther_29 : decode cX3_killOther 29 = .ok (.aload_n 1, 1) := by decide +kernel
theorem dX3_killOther_30 : decode cX3_killOther 30 = .ok (.iconst 0, 1) := by decide +kernel
theorem dX3_killOther_31 : decode cX3_killOther 31 = .ok (.invokevirtual 180, 3) := by decide +kernel
theorem dX3_killOther_34 : decode cX3_killOther 34 = .ok (.ireturn, 1) := by decide +kernel
theorem dX3_killOther_35 : decode cX3_killOther 35 = .ok (.aload_n 0, 1) := by decide +kernel
theorem dX3_killOther_36 : decode cX3_killOther 36 = .ok (.getfield 39, 3) := by decide +kernel
theorem dX3_killOther_39 : decode cX3_killOther 39 = .ok (.iload_n 2, 1) := by decide +kernel
theorem dX3_killOther_40 : decode cX3_killOther 40 = .ok (.aaload, 1) := by decide +kernel
theorem dX3_killOther_41 : decode cX3_killOther 41 = .ok (.iconst 2, 1) := by decide +kernel
theorem dX3_killOther_42 : decode cX3_killOther 42 = .ok (.invokestatic 78, 3) := by decide +kernel
theorem dX3_killOther_45 : decode cX3_killOther 45 = .ok (.iload_n 2, 1) := by decide +kernel
theorem dX3_killOther_46 : decode cX3_killOther 46 = .ok (.aload_n 1, 1) := by decide +kernel
theorem dX3_killOther_47 : decode cX3_killOther 47 = .ok (.getfield 229, 3) := by decide +kernel
theorem dX3_killOther_50 : decode cX3_killOther 50 = .ok (.if_icmp .ne 7, 3) := by decide +kernel
theorem dX3_killOther_53 : decode cX3_killOther 53 = .ok (.iconst 0, 1) := by decide +kernel
theorem dX3_killOther_54 : decode cX3_killOther 54 = .ok (.goto 8, 3) := by decide +kernel
theorem dX3_killOther_57 : decode cX3_killOther 57 = .ok (.aload_n 1, 1) := by decide +kernel
theorem dX3_killOther_58 : decode cX3_killOther 58 = .ok (.iconst 1, 1) := by decide +kernel
theorem dX3_killOther_59 : decode cX3_killOther 59 = .ok (.invokevirtual 180, 3) := by decide +kernel
theorem dX3_killOther_62 : decode cX3_killOther 62 = .ok (.ireturn, 1) := by decide +kernel
