theorem dX1_init_0 : decode cX1_init 0 = .ok (.aload_n 0, 1) := by decide +kernel
theorem dX1_init_1 : decode cX1_init 1 = .ok (.invokespecial 3, 3) := by decide +kernel
theorem dX1_init_4 : decode cX1_init 4 = .ok (.aload_n 0, 1) := by decide +kernel
theorem dX1_init_5 : decode cX1_init 5 = .ok (.iconst 0, 1) := by decide +kernel
theorem dX1_init_6 : decode cX1_init 6 = .ok (.putfield 9, 3) := by decide +kernel
theorem dX1_init_9 : decode cX1_init 9 = .ok (.aload_n 0, 1) := by decide +kernel
theorem dX1_init_10 : decode cX1_init 10 = .ok (.iload_n 1, 1) := by decide +kernel
theorem dX1_init_11 : decode cX1_init 11 = .ok (.newarray .int, 2) := by decide +kernel
theorem dX1_init_13 : decode cX1_init 13 = .ok (.putfield 15, 3) := by decide +kernel
theorem dX1_init_16 : decode cX1_init 16 = .ok (.return_, 1) := by decide +kernel
theorem dX1_isFull_0 : decode cX1_isFull 0 = .ok (.aload_n 0, 1) := by decide +kernel
theorem dX1_isFull_1 : decode cX1_isFull 1 = .ok (.getfield 9, 3) := by decide +kernel
theorem dX1_isFull_4 : decode cX1_isFull 4 = .ok (.aload_n 0, 1) := by decide +kernel
theorem dX1_isFull_5 : decode cX1_isFull 5 = .ok (.getfield 15, 3) := by decide +kernel
theorem dX1_isFull_8 : decode cX1_isFull 8 = .ok (.arraylength, 1) := by decide +kernel
theorem dX1_isFull_9 : decode cX1_isFull 9 = .ok (.if_icmp .lt 7, 3) := by decide +kernel
theorem dX1_isFull_12 : decode cX1_isFull 12 = .ok (.iconst 1, 1) := by decide +kernel
theorem dX1_isFull_13 : decode cX1_isFull 13 = .ok (.goto 4, 3) := by decide +kernel
theorem dX1_isFull_16 : decode cX1_isFull 16 = .ok (.iconst 0, 1) := by decide +kernel
theorem dX1_isFull_17 : decode cX1_isFull 17 = .ok (.ireturn, 1) := by decide +kernel
theorem dX1_push_0 : decode cX1_push 0 = .ok (.aload_n 0, 1) := by decide +kernel
theorem dX1_push_1 : decode cX1_push 1 = .ok (.getfield 9, 3) := by decide +kernel
theorem dX1_push_4 : decode cX1_push 4 = .ok (.aload_n 0, 1) := by decide +kernel
theorem dX1_push_5 : decode cX1_push 5 = .ok (.getfield 15, 3) := by decide +kernel
theorem dX1_push_8 : decode cX1_push 8 = .ok (.arraylength, 1) := by decide +kernel
theorem dX1_push_9 : decode cX1_push 9 = .ok (.if_icmp .lt 5, 3) := by decide +kernel
theorem dX1_push_12 : decode cX1_push 12 = .ok (.iconst 0, 1) := by decide +kernel
theorem dX1_push_13 : decode cX1_push 13 = .ok (.ireturn, 1) := by decide +kernel
theorem dX1_push_14 : decode cX1_push 14 = .ok (.aload_n 0, 1) := by decide +kernel
theorem dX1_push_15 : decode cX1_push 15 = .ok (.getfield 15, 3) := by decide +kernel
theorem dX1_push_18 : decode cX1_push 18 = .ok (.aload_n 0, 1) := by decide +kernel
theorem dX1_push_19 : decode cX1_push 19 = .ok (.getfield 9, 3) := by decide +kernel
theorem dX1_push_22 : decode cX1_push 22 = .ok (.iload_n 1, 1) := by decide +kernel
theorem dX1_push_23 : decode cX1_push 23 = .ok (.iastore, 1) := by decide +kernel
theorem dX1_push_24 : decode cX1_push 24 = .ok (.aload_n 0, 1) := by decide +kernel
theorem dX1_push_25 : decode cX1_push 25 = .ok (.dup, 1) := by decide +kernel
theorem dX1_push_26 : decode cX1_push 26 = .ok (.getfield 9, 3) := by decide +kernel
theorem dX1_push_29 : decode cX1_push 29 = .ok (.iconst 1, 1) := by decide +kernel
theorem dX1_push_30 : decode cX1_push 30 = .ok (.iadd, 1) := by decide +kernel
theorem dX1_push_31 : decode cX1_push 31 = .ok (.putfield 9, 3) := by decide +kernel
theorem dX1_push_34 : decode cX1_push 34 = .ok (.iconst 1, 1) := by decide +kernel
theorem dX1_push_35 : decode cX1_push 35 = .ok (.ireturn, 1) := by decide +kernel
theorem dX1_pop_0 : decode cX1_pop 0 = .ok (.aload_n 0, 1) := by decide +kernel
theorem dX1_pop_1 : decode cX1_pop 1 = .ok (.dup, 1) := by decide +kernel
theorem dX1_pop_2 : decode cX1_pop 2 = .ok (.getfield 9, 3) := by decide +kernel
theorem dX1_pop_5 : decode cX1_pop 5 = .ok (.iconst 1, 1) := by decide +kernel
theorem dX1_pop_6 : decode cX1_pop 6 = .ok (.isub, 1) := by decide +kernel
theorem dX1_pop_7 : decode cX1_pop 7 = .ok (.putfield 9, 3) := by decide +kernel
theorem dX1_pop_10 : decode cX1_pop 10 = .ok (.aload_n 0, 1) := by decide +kernel
theorem dX1_pop_11 : decode cX1_pop 11 = .ok (.getfield 15, 3) := by decide +kernel
theorem dX1_pop_14 : decode cX1_pop 14 = .ok (.aload_n 0, 1) := by decide +kernel
theorem dX1_pop_15 : decode cX1_pop 15 = .ok (.getfield 9, 3) := by decide +kernel
theorem dX1_pop_18 : decode cX1_pop 18 = .ok (.iaload, 1) := by decide +kernel
theorem dX1_pop_19 : decode cX1_pop 19 = .ok (.ireturn, 1) := by decide +kernel
theorem dX1_fromTop_0 : decode cX1_fromTop 0 = .ok (.iload_n 1, 1) := by decide +kernel
theorem dX1_fromTop_1 : decode cX1_fromTop 1 = .ok (.ifCond .lt 27, 3) := by decide +kernel
theorem dX1_fromTop_4 : decode cX1_fromTop 4 = .ok (.iload_n 1, 1) := by decide +kernel
theorem dX1_fromTop_5 : decode cX1_fromTop 5 = .ok (.aload_n 0, 1) := by decide +kernel
theorem dX1_fromTop_6 : decode cX1_fromTop 6 = .ok (.getfield 9, 3) := by decide +kernel
theorem dX1_fromTop_9 : decode cX1_fromTop 9 = .ok (.if_icmp .ge 19, 3) := by decide +kernel
theorem dX1_fromTop_12 : decode cX1_fromTop 12 = .ok (.aload_n 0, 1) := by decide +kernel
theorem dX1_fromTop_13 : decode cX1_fromTop 13 = .ok (.getfield 15, 3) := by decide +kernel
theorem dX1_fromTop_16 : decode cX1_fromTop 16 = .ok (.aload_n 0, 1) := by decide +kernel
theorem dX1_fromTop_17 : decode cX1_fromTop 17 = .ok (.getfield 9, 3) := by decide +kernel
theorem dX1_fromTop_20 : decode cX1_fromTop 20 = .ok (.iconst 1, 1) := by decide +kernel
theorem dX1_fromTop_21 : decode cX1_fromTop 21 = .ok (.isub, 1) := by decide +kernel
theorem dX1_fromTop_22 : decode cX1_fromTop 22 = .ok (.iload_n 1, 1) := by decide +kernel
theorem dX1_fromTop_23 : decode cX1_fromTop 23 = .ok (.isub, 1) := by decide +kernel
theorem dX1_fromTop_24 : decode cX1_fromTop 24 = .ok (.iaload, 1) := by decide +kernel
theorem dX1_fromTop_25 : decode cX1_fromTop 25 = .ok (.goto 5, 3) := by decide +kernel
theorem dX1_fromTop_28 : decode cX1_fromTop 28 = .ok (.ldc 19, 2) := by decide +kernel
theorem dX1_fromTop_30 : decode cX1_fromTop 30 = .ok (.ireturn, 1) := by decide +kernel
