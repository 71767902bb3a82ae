theorem dX0_init_0 : decode cX0_init 0 = .ok (.aload_n 0, 1) := by decide +kernel
theorem dX0_init_1 : decode cX0_init 1 = .ok (.invokespecial 3, 3) := by decide +kernel
theorem dX0_init_4 : decode cX0_init 4 = .ok (.aload_n 0, 1) := by decide +kernel
theorem dX0_init_5 : decode cX0_init 5 = .ok (.iconst 0, 1) := by decide +kernel
theorem dX0_init_6 : decode cX0_init 6 = .ok (.putfield 9, 3) := by decide +kernel
theorem dX0_init_9 : decode cX0_init 9 = .ok (.aload_n 0, 1) := by decide +kernel
theorem dX0_init_10 : decode cX0_init 10 = .ok (.iconst 0, 1) := by decide +kernel
theorem dX0_init_11 : decode cX0_init 11 = .ok (.putfield 15, 3) := by decide +kernel
theorem dX0_init_14 : decode cX0_init 14 = .ok (.aload_n 0, 1) := by decide +kernel
theorem dX0_init_15 : decode cX0_init 15 = .ok (.iload_n 1, 1) := by decide +kernel
theorem dX0_init_16 : decode cX0_init 16 = .ok (.newarray .int, 2) := by decide +kernel
theorem dX0_init_18 : decode cX0_init 18 = .ok (.putfield 18, 3) := by decide +kernel
theorem dX0_init_21 : decode cX0_init 21 = .ok (.return_, 1) := by decide +kernel
theorem dX0_addLast_0 : decode cX0_addLast 0 = .ok (.aload_n 0, 1) := by decide +kernel
theorem dX0_addLast_1 : decode cX0_addLast 1 = .ok (.getfield 15, 3) := by decide +kernel
theorem dX0_addLast_4 : decode cX0_addLast 4 = .ok (.aload_n 0, 1) := by decide +kernel
theorem dX0_addLast_5 : decode cX0_addLast 5 = .ok (.getfield 18, 3) := by decide +kernel
theorem dX0_addLast_8 : decode cX0_addLast 8 = .ok (.arraylength, 1) := by decide +kernel
theorem dX0_addLast_9 : decode cX0_addLast 9 = .ok (.if_icmp .lt 5, 3) := by decide +kernel
theorem dX0_addLast_12 : decode cX0_addLast 12 = .ok (.iconst 0, 1) := by decide +kernel
theorem dX0_addLast_13 : decode cX0_addLast 13 = .ok (.ireturn, 1) := by decide +kernel
theorem dX0_addLast_14 : decode cX0_addLast 14 = .ok (.aload_n 0, 1) := by decide +kernel
theorem dX0_addLast_15 : decode cX0_addLast 15 = .ok (.getfield 18, 3) := by decide +kernel
theorem dX0_addLast_18 : decode cX0_addLast 18 = .ok (.aload_n 0, 1) := by decide +kernel
theorem dX0_addLast_19 : decode cX0_addLast 19 = .ok (.aload_n 0, 1) := by decide +kernel
theorem dX0_addLast_20 : decode cX0_addLast 20 = .ok (.getfield 15, 3) := by decide +kernel
theorem dX0_addLast_23 : decode cX0_addLast 23 = .ok (.invokevirtual 22, 3) := by decide +kernel
theorem dX0_addLast_26 : decode cX0_addLast 26 = .ok (.iload_n 1, 1) := by decide +kernel
theorem dX0_addLast_27 : decode cX0_addLast 27 = .ok (.iastore, 1) := by decide +kernel
theorem dX0_addLast_28 : decode cX0_addLast 28 = .ok (.aload_n 0, 1) := by decide +kernel
theorem dX0_addLast_29 : decode cX0_addLast 29 = .ok (.dup, 1) := by decide +kernel
theorem dX0_addLast_30 : decode cX0_addLast 30 = .ok (.getfield 15, 3) := by decide +kernel
theorem dX0_addLast_33 : decode cX0_addLast 33 = .ok (.iconst 1, 1) := by decide +kernel
theorem dX0_addLast_34 : decode cX0_addLast 34 = .ok (.iadd, 1) := by decide +kernel
theorem dX0_addLast_35 : decode cX0_addLast 35 = .ok (.putfield 15, 3) := by decide +kernel
theorem dX0_addLast_38 : decode cX0_addLast 38 = .ok (.iconst 1, 1) := by decide +kernel
theorem dX0_addLast_39 : decode cX0_addLast 39 = .ok (.ireturn, 1) := by decide +kernel
theorem dX0_removeFirst_0 : decode cX0_removeFirst 0 = .ok (.aload_n 0, 1) := by decide +kernel
theorem dX0_removeFirst_1 : decode cX0_removeFirst 1 = .ok (.getfield 18, 3) := by decide +kernel
theorem dX0_removeFirst_4 : decode cX0_removeFirst 4 = .ok (.aload_n 0, 1) := by decide +kernel
theorem dX0_removeFirst_5 : decode cX0_removeFirst 5 = .ok (.getfield 9, 3) := by decide +kernel
theorem dX0_removeFirst_8 : decode cX0_removeFirst 8 = .ok (.iaload, 1) := by decide +kernel
theorem dX0_removeFirst_9 : decode cX0_removeFirst 9 = .ok (.istore_n 1, 1) := by decide +kernel
theorem dX0_removeFirst_10 : decode cX0_removeFirst 10 = .ok (.aload_n 0, 1) := by decide +kernel
theorem dX0_removeFirst_11 : decode cX0_removeFirst 11 = .ok (.aload_n 0, 1) := by decide +kernel
theorem dX0_removeFirst_12 : decode cX0_removeFirst 12 = .ok (.iconst 1, 1) := by decide +kernel
theorem dX0_removeFirst_13 : decode cX0_removeFirst 13 = .ok (.invokevirtual 22, 3) := by decide +kernel
theorem dX0_removeFirst_16 : decode cX0_removeFirst 16 = .ok (.putfield 9, 3) := by decide +kernel
theorem dX0_removeFirst_19 : decode cX0_removeFirst 19 = .ok (.aload_n 0, 1) := by decide +kernel
theorem dX0_removeFirst_20 : decode cX0_removeFirst 20 = .ok (.dup, 1) := by decide +kernel
theorem dX0_removeFirst_21 : decode cX0_removeFirst 21 = .ok (.getfield 15, 3) := by decide +kernel
theorem dX0_removeFirst_24 : decode cX0_removeFirst 24 = .ok (.iconst 1, 1) := by decide +kernel
theorem dX0_removeFirst_25 : decode cX0_removeFirst 25 = .ok (.isub, 1) := by decide +kernel
theorem dX0_removeFirst_26 : decode cX0_removeFirst 26 = .ok (.putfield 15, 3) := by decide +kernel
theorem dX0_removeFirst_29 : decode cX0_removeFirst 29 = .ok (.iload_n 1, 1) := by decide +kernel
theorem dX0_removeFirst_30 : decode cX0_removeFirst 30 = .ok (.ireturn, 1) := by decide +kernel
theorem dX0_fromFirst_0 : decode cX0_fromFirst 0 = .ok (.iload_n 1, 1) := by decide +kernel
theorem dX0_fromFirst_1 : decode cX0_fromFirst 1 = .ok (.ifCond .lt 24, 3) := by decide +kernel
theorem dX0_fromFirst_4 : decode cX0_fromFirst 4 = .ok (.iload_n 1, 1) := by decide +kernel
theorem dX0_fromFirst_5 : decode cX0_fromFirst 5 = .ok (.aload_n 0, 1) := by decide +kernel
theorem dX0_fromFirst_6 : decode cX0_fromFirst 6 = .ok (.getfield 15, 3) := by decide +kernel
theorem dX0_fromFirst_9 : decode cX0_fromFirst 9 = .ok (.if_icmp .ge 16, 3) := by decide +kernel
theorem dX0_fromFirst_12 : decode cX0_fromFirst 12 = .ok (.aload_n 0, 1) := by decide +kernel
theorem dX0_fromFirst_13 : decode cX0_fromFirst 13 = .ok (.getfield 18, 3) := by decide +kernel
theorem dX0_fromFirst_16 : decode cX0_fromFirst 16 = .ok (.aload_n 0, 1) := by decide +kernel
theorem dX0_fromFirst_17 : decode cX0_fromFirst 17 = .ok (.iload_n 1, 1) := by decide +kernel
theorem dX0_fromFirst_18 : decode cX0_fromFirst 18 = .ok (.invokevirtual 22, 3) := by decide +kernel
theorem dX0_fromFirst_21 : decode cX0_fromFirst 21 = .ok (.iaload, 1) := by decide +kernel
theorem dX0_fromFirst_22 : decode cX0_fromFirst 22 = .ok (.goto 5, 3) := by decide +kernel
theorem dX0_fromFirst_25 : decode cX0_fromFirst 25 = .ok (.ldc 26, 2) := by decide +kernel
theorem dX0_fromFirst_27 : decode cX0_fromFirst 27 = .ok (.ireturn, 1) := by decide +kernel
theorem dX0_slot_0 : decode cX0_slot 0 = .ok (.aload_n 0, 1) := by decide +kernel
theorem dX0_slot_1 : decode cX0_slot 1 = .ok (.getfield 9, 3) := by decide +kernel
theorem dX0_slot_4 : decode cX0_slot 4 = .ok (.iload_n 1, 1) := by decide +kernel
theorem dX0_slot_5 : decode cX0_slot 5 = .ok (.iadd, 1) := by decide +kernel
theorem dX0_slot_6 : decode cX0_slot 6 = .ok (.istore_n 2, 1) := by decide +kernel
theorem dX0_slot_7 : decode cX0_slot 7 = .ok (.iload_n 2, 1) := by decide +kernel
theorem dX0_slot_8 : decode cX0_slot 8 = .ok (.aload_n 0, 1) := by decide +kernel
theorem dX0_slot_9 : decode cX0_slot 9 = .ok (.getfield 18, 3) := by decide +kernel
theorem dX0_slot_12 : decode cX0_slot 12 = .ok (.arraylength, 1) := by decide +kernel
theorem dX0_slot_13 : decode cX0_slot 13 = .ok (.if_icmp .ge 7, 3) := by decide +kernel
theorem dX0_slot_16 : decode cX0_slot 16 = .ok (.iload_n 2, 1) := by decide +kernel
theorem dX0_slot_17 : decode cX0_slot 17 = .ok (.goto 10, 3) := by decide +kernel
theorem dX0_slot_20 : decode cX0_slot 20 = .ok (.iload_n 2, 1) := by decide +kernel
theorem dX0_slot_21 : decode cX0_slot 21 = .ok (.aload_n 0, 1) := by decide +kernel
theorem dX0_slot_22 : decode cX0_slot 22 = .ok (.getfield 18, 3) := by decide +kernel
theorem dX0_slot_25 : decode cX0_slot 25 = .ok (.arraylength, 1) := by decide +kernel
theorem dX0_slot_26 : decode cX0_slot 26 = .ok (.isub, 1) := by decide +kernel
theorem dX0_slot_27 : decode cX0_slot 27 = .ok (.ireturn, 1) := by decide +kernel
