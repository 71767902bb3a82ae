theorem dX3_init_0 : decode cX3_init 0 = .ok (.aload_n 0, 1) := by decide +kernel
theorem dX3_init_1 : decode cX3_init 1 = .ok (.invokespecial 1, 3) := by decide +kernel
theorem dX3_init_4 : decode cX3_init 4 = .ok (.aload_n 0, 1) := by decide +kernel
theorem dX3_init_5 : decode cX3_init 5 = .ok (.bipush 64, 2) := by decide +kernel
theorem dX3_init_7 : decode cX3_init 7 = .ok (.newarray .int, 2) := by decide +kernel
theorem dX3_init_9 : decode cX3_init 9 = .ok (.putfield 9, 3) := by decide +kernel
theorem dX3_init_12 : decode cX3_init 12 = .ok (.aload_n 0, 1) := by decide +kernel
theorem dX3_init_13 : decode cX3_init 13 = .ok (.bipush 16, 2) := by decide +kernel
theorem dX3_init_15 : decode cX3_init 15 = .ok (.newarray .int, 2) := by decide +kernel
theorem dX3_init_17 : decode cX3_init 17 = .ok (.putfield 13, 3) := by decide +kernel
theorem dX3_init_20 : decode cX3_init 20 = .ok (.aload_n 0, 1) := by decide +kernel
theorem dX3_init_21 : decode cX3_init 21 = .ok (.bipush 32, 2) := by decide +kernel
theorem dX3_init_23 : decode cX3_init 23 = .ok (.newarray .int, 2) := by decide +kernel
theorem dX3_init_25 : decode cX3_init 25 = .ok (.putfield 16, 3) := by decide +kernel
theorem dX3_init_28 : decode cX3_init 28 = .ok (.aload_n 0, 1) := by decide +kernel
theorem dX3_init_29 : decode cX3_init 29 = .ok (.iconst 0, 1) := by decide +kernel
theorem dX3_init_30 : decode cX3_init 30 = .ok (.putfield 19, 3) := by decide +kernel
theorem dX3_init_33 : decode cX3_init 33 = .ok (.aload_n 0, 1) := by decide +kernel
theorem dX3_init_34 : decode cX3_init 34 = .ok (.iconst 0, 1) := by decide +kernel
theorem dX3_init_35 : decode cX3_init 35 = .ok (.putfield 23, 3) := by decide +kernel
theorem dX3_init_38 : decode cX3_init 38 = .ok (.aload_n 0, 1) := by decide +kernel
theorem dX3_init_39 : decode cX3_init 39 = .ok (.iconst 0, 1) := by decide +kernel
theorem dX3_init_40 : decode cX3_init 40 = .ok (.putfield 26, 3) := by decide +kernel
theorem dX3_init_43 : decode cX3_init 43 = .ok (.aload_n 0, 1) := by decide +kernel
theorem dX3_init_44 : decode cX3_init 44 = .ok (.iconst 0, 1) := by decide +kernel
theorem dX3_init_45 : decode cX3_init 45 = .ok (.putfield 29, 3) := by decide +kernel
theorem dX3_init_48 : decode cX3_init 48 = .ok (.iload_n 2, 1) := by decide +kernel
theorem dX3_init_49 : decode cX3_init 49 = .ok (.iconst 1, 1) := by decide +kernel
theorem dX3_init_50 : decode cX3_init 50 = .ok (.bipush 16, 2) := by decide +kernel
theorem dX3_init_52 : decode cX3_init 52 = .ok (.invokestatic 33, 3) := by decide +kernel
theorem dX3_init_55 : decode cX3_init 55 = .ok (.istore 5, 2) := by decide +kernel
theorem dX3_init_57 : decode cX3_init 57 = .ok (.iload 4, 2) := by decide +kernel
theorem dX3_init_59 : decode cX3_init 59 = .ok (.iconst 1, 1) := by decide +kernel
theorem dX3_init_60 : decode cX3_init 60 = .ok (.bipush 6, 2) := by decide +kernel
theorem dX3_init_62 : decode cX3_init 62 = .ok (.invokestatic 33, 3) := by decide +kernel
theorem dX3_init_65 : decode cX3_init 65 = .ok (.istore 6, 2) := by decide +kernel
theorem dX3_init_67 : decode cX3_init 67 = .ok (.aload_n 0, 1) := by decide +kernel
theorem dX3_init_68 : decode cX3_init 68 = .ok (.iload_n 1, 1) := by decide +kernel
theorem dX3_init_69 : decode cX3_init 69 = .ok (.iconst 1, 1) := by decide +kernel
theorem dX3_init_70 : decode cX3_init 70 = .ok (.bipush 8, 2) := by decide +kernel
theorem dX3_init_72 : decode cX3_init 72 = .ok (.invokestatic 33, 3) := by decide +kernel
theorem dX3_init_75 : decode cX3_init 75 = .ok (.anewarray 37, 3) := by decide +kernel
theorem dX3_init_78 : decode cX3_init 78 = .ok (.putfield 39, 3) := by decide +kernel
theorem dX3_init_81 : decode cX3_init 81 = .ok (.iconst 0, 1) := by decide +kernel
theorem dX3_init_82 : decode cX3_init 82 = .ok (.istore 7, 2) := by decide +kernel
theorem dX3_init_84 : decode cX3_init 84 = .ok (.iload 7, 2) := by decide +kernel
theorem dX3_init_86 : decode cX3_init 86 = .ok (.aload_n 0, 1) := by decide +kernel
theorem dX3_init_87 : decode cX3_init 87 = .ok (.getfield 39, 3) := by decide +kernel
theorem dX3_init_90 : decode cX3_init 90 = .ok (.arraylength, 1) := by decide +kernel
theorem dX3_init_91 : decode cX3_init 91 = .ok (.if_icmp .ge 27, 3) := by decide +kernel
theorem dX3_init_94 : decode cX3_init 94 = .ok (.aload_n 0, 1) := by decide +kernel
theorem dX3_init_95 : decode cX3_init 95 = .ok (.getfield 39, 3) := by decide +kernel
theorem dX3_init_98 : decode cX3_init 98 = .ok (.iload 7, 2) := by decide +kernel
theorem dX3_init_100 : decode cX3_init 100 = .ok (.new 37, 3) := by decide +kernel
theorem dX3_init_103 : decode cX3_init 103 = .ok (.dup, 1) := by decide +kernel
theorem dX3_init_104 : decode cX3_init 104 = .ok (.iload 7, 2) := by decide +kernel
theorem dX3_init_106 : decode cX3_init 106 = .ok (.iload 5, 2) := by decide +kernel
theorem dX3_init_108 : decode cX3_init 108 = .ok (.invokespecial 43, 3) := by decide +kernel
theorem dX3_init_111 : decode cX3_init 111 = .ok (.aastore, 1) := by decide +kernel
theorem dX3_init_112 : decode cX3_init 112 = .ok (.iinc 7 1, 3) := by decide +kernel
theorem dX3_init_115 : decode cX3_init 115 = .ok (.goto (-31), 3) := by decide +kernel
theorem dX3_init_118 : decode cX3_init 118 = .ok (.aload_n 0, 1) := by decide +kernel
theorem dX3_init_119 : decode cX3_init 119 = .ok (.iload_n 3, 1) := by decide +kernel
theorem dX3_init_120 : decode cX3_init 120 = .ok (.iconst 0, 1) := by decide +kernel
theorem dX3_init_121 : decode cX3_init 121 = .ok (.iconst 4, 1) := by decide +kernel
theorem dX3_init_122 : decode cX3_init 122 = .ok (.invokestatic 33, 3) := by decide +kernel
theorem dX3_init_125 : decode cX3_init 125 = .ok (.anewarray 46, 3) := by decide +kernel
theorem dX3_init_128 : decode cX3_init 128 = .ok (.putfield 48, 3) := by decide +kernel
theorem dX3_init_131 : decode cX3_init 131 = .ok (.iconst 0, 1) := by decide +kernel
theorem dX3_init_132 : decode cX3_init 132 = .ok (.istore 7, 2) := by decide +kernel
theorem dX3_init_134 : decode cX3_init 134 = .ok (.iload 7, 2) := by decide +kernel
theorem dX3_init_136 : decode cX3_init 136 = .ok (.aload_n 0, 1) := by decide +kernel
theorem dX3_init_137 : decode cX3_init 137 = .ok (.getfield 48, 3) := by decide +kernel
theorem dX3_init_140 : decode cX3_init 140 = .ok (.arraylength, 1) := by decide +kernel
theorem dX3_init_141 : decode cX3_init 141 = .ok (.if_icmp .ge 25, 3) := by decide +kernel
theorem dX3_init_144 : decode cX3_init 144 = .ok (.aload_n 0, 1) := by decide +kernel
theorem dX3_init_145 : decode cX3_init 145 = .ok (.getfield 48, 3) := by decide +kernel
theorem dX3_init_148 : decode cX3_init 148 = .ok (.iload 7, 2) := by decide +kernel
theorem dX3_init_150 : decode cX3_init 150 = .ok (.new 46, 3) := by decide +kernel
theorem dX3_init_153 : decode cX3_init 153 = .ok (.dup, 1) := by decide +kernel
theorem dX3_init_154 : decode cX3_init 154 = .ok (.iload 6, 2) := by decide +kernel
theorem dX3_init_156 : decode cX3_init 156 = .ok (.invokespecial 52, 3) := by decide +kernel
theorem dX3_init_159 : decode cX3_init 159 = .ok (.aastore, 1) := by decide +kernel
theorem dX3_init_160 : decode cX3_init 160 = .ok (.iinc 7 1, 3) := by decide +kernel
theorem dX3_init_163 : decode cX3_init 163 = .ok (.goto (-29), 3) := by decide +kernel
theorem dX3_init_166 : decode cX3_init 166 = .ok (.return_, 1) := by decide +kernel
theorem dX3_poke_0 : decode cX3_poke 0 = .ok (.iload_n 1, 1) := by decide +kernel
theorem dX3_poke_1 : decode cX3_poke 1 = .ok (.invokestatic 55, 3) := by decide +kernel
theorem dX3_poke_4 : decode cX3_poke 4 = .ok (.ifCond .eq 10, 3) := by decide +kernel
theorem dX3_poke_7 : decode cX3_poke 7 = .ok (.aload_n 0, 1) := by decide +kernel
theorem dX3_poke_8 : decode cX3_poke 8 = .ok (.getfield 29, 3) := by decide +kernel
theorem dX3_poke_11 : decode cX3_poke 11 = .ok (.ifCond .eq 5, 3) := by decide +kernel
theorem dX3_poke_14 : decode cX3_poke 14 = .ok (.iconst 0, 1) := by decide +kernel
theorem dX3_poke_15 : decode cX3_poke 15 = .ok (.ireturn, 1) := by decide +kernel
theorem dX3_poke_16 : decode cX3_poke 16 = .ok (.aload_n 0, 1) := by decide +kernel
theorem dX3_poke_17 : decode cX3_poke 17 = .ok (.getfield 9, 3) := by decide +kernel
theorem dX3_poke_20 : decode cX3_poke 20 = .ok (.iload_n 1, 1) := by decide +kernel
theorem dX3_poke_21 : decode cX3_poke 21 = .ok (.iload_n 2, 1) := by decide +kernel
theorem dX3_poke_22 : decode cX3_poke 22 = .ok (.iastore, 1) := by decide +kernel
theorem dX3_poke_23 : decode cX3_poke 23 = .ok (.iconst 1, 1) := by decide +kernel
theorem dX3_poke_24 : decode cX3_poke 24 = .ok (.ireturn, 1) := by decide +kernel
theorem dX3_spawn_0 : decode cX3_spawn 0 = .ok (.iload_n 1, 1) := by decide +kernel
theorem dX3_spawn_1 : decode cX3_spawn 1 = .ok (.invokestatic 55, 3) := by decide +kernel
theorem dX3_spawn_4 : decode cX3_spawn 4 = .ok (.ifCond .eq 13, 3) := by decide +kernel
theorem dX3_spawn_7 : decode cX3_spawn 7 = .ok (.iload_n 2, 1) := by decide +kernel
theorem dX3_spawn_8 : decode cX3_spawn 8 = .ok (.ifCond .lt 9, 3) := by decide +kernel
theorem dX3_spawn_11 : decode cX3_spawn 11 = .ok (.iload_n 2, 1) := by decide +kernel
theorem dX3_spawn_12 : decode cX3_spawn 12 = .ok (.bipush 7, 2) := by decide +kernel
theorem dX3_spawn_14 : decode cX3_spawn 14 = .ok (.if_icmp .le 6, 3) := by decide +kernel
theorem dX3_spawn_17 : decode cX3_spawn 17 = .ok (.bipush (-2), 2) := by decide +kernel
theorem dX3_spawn_19 : decode cX3_spawn 19 = .ok (.ireturn, 1) := by decide +kernel
theorem dX3_spawn_20 : decode cX3_spawn 20 = .ok (.aload_n 0, 1) := by decide +kernel
theorem dX3_spawn_21 : decode cX3_spawn 21 = .ok (.iload_n 1, 1) := by decide +kernel
theorem dX3_spawn_22 : decode cX3_spawn 22 = .ok (.iload_n 2, 1) := by decide +kernel
theorem dX3_spawn_23 : decode cX3_spawn 23 = .ok (.invokevirtual 59, 3) := by decide +kernel
theorem dX3_spawn_26 : decode cX3_spawn 26 = .ok (.istore_n 3, 1) := by decide +kernel
theorem dX3_spawn_27 : decode cX3_spawn 27 = .ok (.iload_n 3, 1) := by decide +kernel
theorem dX3_spawn_28 : decode cX3_spawn 28 = .ok (.ifCond .lt 8, 3) := by decide +kernel
theorem dX3_spawn_31 : decode cX3_spawn 31 = .ok (.aload_n 0, 1) := by decide +kernel
theorem dX3_spawn_32 : decode cX3_spawn 32 = .ok (.iconst 1, 1) := by decide +kernel
theorem dX3_spawn_33 : decode cX3_spawn 33 = .ok (.putfield 29, 3) := by decide +kernel
theorem dX3_spawn_36 : decode cX3_spawn 36 = .ok (.iload_n 3, 1) := by decide +kernel
theorem dX3_spawn_37 : decode cX3_spawn 37 = .ok (.ireturn, 1) := by decide +kernel
theorem dX3_step_0 : decode cX3_step 0 = .ok (.aload_n 0, 1) := by decide +kernel
theorem dX3_step_1 : decode cX3_step 1 = .ok (.invokevirtual 63, 3) := by decide +kernel
theorem dX3_step_4 : decode cX3_step 4 = .ok (.istore_n 1, 1) := by decide +kernel
theorem dX3_step_5 : decode cX3_step 5 = .ok (.iload_n 1, 1) := by decide +kernel
theorem dX3_step_6 : decode cX3_step 6 = .ok (.ifCond .ge 5, 3) := by decide +kernel
theorem dX3_step_9 : decode cX3_step 9 = .ok (.iconst (-1), 1) := by decide +kernel
theorem dX3_step_10 : decode cX3_step 10 = .ok (.ireturn, 1) := by decide +kernel
theorem dX3_step_11 : decode cX3_step 11 = .ok (.aload_n 0, 1) := by decide +kernel
theorem dX3_step_12 : decode cX3_step 12 = .ok (.getfield 39, 3) := by decide +kernel
theorem dX3_step_15 : decode cX3_step 15 = .ok (.iload_n 1, 1) := by decide +kernel
theorem dX3_step_16 : decode cX3_step 16 = .ok (.aaload, 1) := by decide +kernel
theorem dX3_step_17 : decode cX3_step 17 = .ok (.astore_n 2, 1) := by decide +kernel
theorem dX3_step_18 : decode cX3_step 18 = .ok (.aload_n 0, 1) := by decide +kernel
theorem dX3_step_19 : decode cX3_step 19 = .ok (.aload_n 2, 1) := by decide +kernel
theorem dX3_step_20 : decode cX3_step 20 = .ok (.invokevirtual 67, 3) := by decide +kernel
theorem dX3_step_23 : decode cX3_step 23 = .ok (.istore_n 3, 1) := by decide +kernel
theorem dX3_step_24 : decode cX3_step 24 = .ok (.iload_n 3, 1) := by decide +kernel
theorem dX3_step_25 : decode cX3_step 25 = .ok (.ifCond .ne 16, 3) := by decide +kernel
theorem dX3_step_28 : decode cX3_step 28 = .ok (.bipush 16, 2) := by decide +kernel
theorem dX3_step_30 : decode cX3_step 30 = .ok (.iload_n 1, 1) := by decide +kernel
theorem dX3_step_31 : decode cX3_step 31 = .ok (.imul, 1) := by decide +kernel
theorem dX3_step_32 : decode cX3_step 32 = .ok (.aload_n 2, 1) := by decide +kernel
theorem dX3_step_33 : decode cX3_step 33 = .ok (.getfield 71, 3) := by decide +kernel
theorem dX3_step_36 : decode cX3_step 36 = .ok (.invokestatic 74, 3) := by decide +kernel
theorem dX3_step_39 : decode cX3_step 39 = .ok (.iadd, 1) := by decide +kernel
theorem dX3_step_40 : decode cX3_step 40 = .ok (.ireturn, 1) := by decide +kernel
theorem dX3_step_41 : decode cX3_step 41 = .ok (.aload_n 2, 1) := by decide +kernel
theorem dX3_step_42 : decode cX3_step 42 = .ok (.iconst 2, 1) := by decide +kernel
theorem dX3_step_43 : decode cX3_step 43 = .ok (.iload_n 3, 1) := by decide +kernel
theorem dX3_step_44 : decode cX3_step 44 = .ok (.iadd, 1) := by decide +kernel
theorem dX3_step_45 : decode cX3_step 45 = .ok (.invokestatic 78, 3) := by decide +kernel
theorem dX3_step_48 : decode cX3_step 48 = .ok (.bipush 16, 2) := by decide +kernel
theorem dX3_step_50 : decode cX3_step 50 = .ok (.iload_n 1, 1) := by decide +kernel
theorem dX3_step_51 : decode cX3_step 51 = .ok (.imul, 1) := by decide +kernel
theorem dX3_step_52 : decode cX3_step 52 = .ok (.bipush 8, 2) := by decide +kernel
theorem dX3_step_54 : decode cX3_step 54 = .ok (.iadd, 1) := by decide +kernel
theorem dX3_step_55 : decode cX3_step 55 = .ok (.iload_n 3, 1) := by decide +kernel
theorem dX3_step_56 : decode cX3_step 56 = .ok (.iadd, 1) := by decide +kernel
theorem dX3_step_57 : decode cX3_step 57 = .ok (.ireturn, 1) := by decide +kernel
theorem dX3_run_0 : decode cX3_run 0 = .ok (.iload_n 1, 1) := by decide +kernel
theorem dX3_run_1 : decode cX3_run 1 = .ok (.iconst 1, 1) := by decide +kernel
theorem dX3_run_2 : decode cX3_run 2 = .ok (.if_icmp .lt 9, 3) := by decide +kernel
theorem dX3_run_5 : decode cX3_run 5 = .ok (.iload_n 1, 1) := by decide +kernel
theorem dX3_run_6 : decode cX3_run 6 = .ok (.bipush 64, 2) := by decide +kernel
theorem dX3_run_8 : decode cX3_run 8 = .ok (.if_icmp .le 5, 3) := by decide +kernel
theorem dX3_run_11 : decode cX3_run 11 = .ok (.iconst (-1), 1) := by decide +kernel
theorem dX3_run_12 : decode cX3_run 12 = .ok (.ireturn, 1) := by decide +kernel
theorem dX3_run_13 : decode cX3_run 13 = .ok (.iconst 0, 1) := by decide +kernel
theorem dX3_run_14 : decode cX3_run 14 = .ok (.istore_n 2, 1) := by decide +kernel
theorem dX3_run_15 : decode cX3_run 15 = .ok (.iload_n 2, 1) := by decide +kernel
theorem dX3_run_16 : decode cX3_run 16 = .ok (.iload_n 1, 1) := by decide +kernel
theorem dX3_run_17 : decode cX3_run 17 = .ok (.if_icmp .ge 34, 3) := by decide +kernel
theorem dX3_run_20 : decode cX3_run 20 = .ok (.aload_n 0, 1) := by decide +kernel
theorem dX3_run_21 : decode cX3_run 21 = .ok (.invokevirtual 82, 3) := by decide +kernel
theorem dX3_run_24 : decode cX3_run 24 = .ok (.istore_n 3, 1) := by decide +kernel
theorem dX3_run_25 : decode cX3_run 25 = .ok (.iload_n 3, 1) := by decide +kernel
theorem dX3_run_26 : decode cX3_run 26 = .ok (.ifCond .ge 5, 3) := by decide +kernel
theorem dX3_run_29 : decode cX3_run 29 = .ok (.iload_n 2, 1) := by decide +kernel
theorem dX3_run_30 : decode cX3_run 30 = .ok (.ireturn, 1) := by decide +kernel
theorem dX3_run_31 : decode cX3_run 31 = .ok (.iload_n 3, 1) := by decide +kernel
theorem dX3_run_32 : decode cX3_run 32 = .ok (.bipush 16, 2) := by decide +kernel
theorem dX3_run_34 : decode cX3_run 34 = .ok (.irem, 1) := by decide +kernel
theorem dX3_run_35 : decode cX3_run 35 = .ok (.invokestatic 85, 3) := by decide +kernel
theorem dX3_run_38 : decode cX3_run 38 = .ok (.ifCond .eq 7, 3) := by decide +kernel
theorem dX3_run_41 : decode cX3_run 41 = .ok (.iload_n 2, 1) := by decide +kernel
theorem dX3_run_42 : decode cX3_run 42 = .ok (.iconst 1, 1) := by decide +kernel
theorem dX3_run_43 : decode cX3_run 43 = .ok (.iadd, 1) := by decide +kernel
theorem dX3_run_44 : decode cX3_run 44 = .ok (.ireturn, 1) := by decide +kernel
theorem dX3_run_45 : decode cX3_run 45 = .ok (.iinc 2 1, 3) := by decide +kernel
theorem dX3_run_48 : decode cX3_run 48 = .ok (.goto (-33), 3) := by decide +kernel
theorem dX3_run_51 : decode cX3_run 51 = .ok (.iload_n 1, 1) := by decide +kernel
theorem dX3_run_52 : decode cX3_run 52 = .ok (.ireturn, 1) := by decide +kernel
theorem dX3_tick_0 : decode cX3_tick 0 = .ok (.aload_n 0, 1) := by decide +kernel
theorem dX3_tick_1 : decode cX3_tick 1 = .ok (.dup, 1) := by decide +kernel
theorem dX3_tick_2 : decode cX3_tick 2 = .ok (.getfield 23, 3) := by decide +kernel
theorem dX3_tick_5 : decode cX3_tick 5 = .ok (.iconst 1, 1) := by decide +kernel
theorem dX3_tick_6 : decode cX3_tick 6 = .ok (.iadd, 1) := by decide +kernel
theorem dX3_tick_7 : decode cX3_tick 7 = .ok (.putfield 23, 3) := by decide +kernel
theorem dX3_tick_10 : decode cX3_tick 10 = .ok (.iconst 0, 1) := by decide +kernel
theorem dX3_tick_11 : decode cX3_tick 11 = .ok (.istore_n 1, 1) := by decide +kernel
theorem dX3_tick_12 : decode cX3_tick 12 = .ok (.iload_n 1, 1) := by decide +kernel
theorem dX3_tick_13 : decode cX3_tick 13 = .ok (.aload_n 0, 1) := by decide +kernel
theorem dX3_tick_14 : decode cX3_tick 14 = .ok (.getfield 39, 3) := by decide +kernel
theorem dX3_tick_17 : decode cX3_tick 17 = .ok (.arraylength, 1) := by decide +kernel
theorem dX3_tick_18 : decode cX3_tick 18 = .ok (.if_icmp .ge 26, 3) := by decide +kernel
theorem dX3_tick_21 : decode cX3_tick 21 = .ok (.aload_n 0, 1) := by decide +kernel
theorem dX3_tick_22 : decode cX3_tick 22 = .ok (.invokevirtual 88, 3) := by decide +kernel
theorem dX3_tick_25 : decode cX3_tick 25 = .ok (.astore_n 2, 1) := by decide +kernel
theorem dX3_tick_26 : decode cX3_tick 26 = .ok (.aload_n 2, 1) := by decide +kernel
theorem dX3_tick_27 : decode cX3_tick 27 = .ok (.ifnonnull 5, 3) := by decide +kernel
theorem dX3_tick_30 : decode cX3_tick 30 = .ok (.iload_n 1, 1) := by decide +kernel
theorem dX3_tick_31 : decode cX3_tick 31 = .ok (.ireturn, 1) := by decide +kernel
theorem dX3_tick_32 : decode cX3_tick 32 = .ok (.aload_n 0, 1) := by decide +kernel
theorem dX3_tick_33 : decode cX3_tick 33 = .ok (.aload_n 2, 1) := by decide +kernel
theorem dX3_tick_34 : decode cX3_tick 34 = .ok (.iconst 1, 1) := by decide +kernel
theorem dX3_tick_35 : decode cX3_tick 35 = .ok (.invokevirtual 92, 3) := by decide +kernel
theorem dX3_tick_38 : decode cX3_tick 38 = .ok (.iinc 1 1, 3) := by decide +kernel
theorem dX3_tick_41 : decode cX3_tick 41 = .ok (.goto (-29), 3) := by decide +kernel
theorem dX3_tick_44 : decode cX3_tick 44 = .ok (.aload_n 0, 1) := by decide +kernel
theorem dX3_tick_45 : decode cX3_tick 45 = .ok (.getfield 39, 3) := by decide +kernel
theorem dX3_tick_48 : decode cX3_tick 48 = .ok (.arraylength, 1) := by decide +kernel
theorem dX3_tick_49 : decode cX3_tick 49 = .ok (.ireturn, 1) := by decide +kernel
theorem dX3_kill_0 : decode cX3_kill 0 = .ok (.aload_n 0, 1) := by decide +kernel
theorem dX3_kill_1 : decode cX3_kill 1 = .ok (.iload_n 1, 1) := by decide +kernel
theorem dX3_kill_2 : decode cX3_kill 2 = .ok (.invokevirtual 95, 3) := by decide +kernel
theorem dX3_kill_5 : decode cX3_kill 5 = .ok (.ifCond .ne 5, 3) := by decide +kernel
theorem dX3_kill_8 : decode cX3_kill 8 = .ok (.iconst 0, 1) := by decide +kernel
theorem dX3_kill_9 : decode cX3_kill 9 = .ok (.ireturn, 1) := by decide +kernel
theorem dX3_kill_10 : decode cX3_kill 10 = .ok (.aload_n 0, 1) := by decide +kernel
theorem dX3_kill_11 : decode cX3_kill 11 = .ok (.getfield 39, 3) := by decide +kernel
theorem dX3_kill_14 : decode cX3_kill 14 = .ok (.iload_n 1, 1) := by decide +kernel
theorem dX3_kill_15 : decode cX3_kill 15 = .ok (.aaload, 1) := by decide +kernel
theorem dX3_kill_16 : decode cX3_kill 16 = .ok (.iconst 2, 1) := by decide +kernel
theorem dX3_kill_17 : decode cX3_kill 17 = .ok (.invokestatic 78, 3) := by decide +kernel
theorem dX3_kill_20 : decode cX3_kill 20 = .ok (.iconst 1, 1) := by decide +kernel
theorem dX3_kill_21 : decode cX3_kill 21 = .ok (.ireturn, 1) := by decide +kernel
theorem dX3_state_0 : decode cX3_state 0 = .ok (.aload_n 0, 1) := by decide +kernel
theorem dX3_state_1 : decode cX3_state 1 = .ok (.iload_n 1, 1) := by decide +kernel
theorem dX3_state_2 : decode cX3_state 2 = .ok (.invokevirtual 98, 3) := by decide +kernel
theorem dX3_state_5 : decode cX3_state 5 = .ok (.ifCond .eq 15, 3) := by decide +kernel
theorem dX3_state_8 : decode cX3_state 8 = .ok (.aload_n 0, 1) := by decide +kernel
theorem dX3_state_9 : decode cX3_state 9 = .ok (.getfield 39, 3) := by decide +kernel
theorem dX3_state_12 : decode cX3_state 12 = .ok (.iload_n 1, 1) := by decide +kernel
theorem dX3_state_13 : decode cX3_state 13 = .ok (.aaload, 1) := by decide +kernel
theorem dX3_state_14 : decode cX3_state 14 = .ok (.getfield 71, 3) := by decide +kernel
theorem dX3_state_17 : decode cX3_state 17 = .ok (.goto 4, 3) := by decide +kernel
theorem dX3_state_20 : decode cX3_state 20 = .ok (.iconst (-1), 1) := by decide +kernel
theorem dX3_state_21 : decode cX3_state 21 = .ok (.ireturn, 1) := by decide +kernel
theorem dX3_task_0 : decode cX3_task 0 = .ok (.aload_n 0, 1) := by decide +kernel
theorem dX3_task_1 : decode cX3_task 1 = .ok (.iload_n 1, 1) := by decide +kernel
theorem dX3_task_2 : decode cX3_task 2 = .ok (.invokevirtual 95, 3) := by decide +kernel
theorem dX3_task_5 : decode cX3_task 5 = .ok (.ifCond .ne 6, 3) := by decide +kernel
theorem dX3_task_8 : decode cX3_task 8 = .ok (.ldc 101, 2) := by decide +kernel
theorem dX3_task_10 : decode cX3_task 10 = .ok (.ireturn, 1) := by decide +kernel
theorem dX3_task_11 : decode cX3_task 11 = .ok (.aload_n 0, 1) := by decide +kernel
theorem dX3_task_12 : decode cX3_task 12 = .ok (.getfield 39, 3) := by decide +kernel
theorem dX3_task_15 : decode cX3_task 15 = .ok (.iload_n 1, 1) := by decide +kernel
theorem dX3_task_16 : decode cX3_task 16 = .ok (.aaload, 1) := by decide +kernel
theorem dX3_task_17 : decode cX3_task 17 = .ok (.astore_n 3, 1) := by decide +kernel
theorem dX3_task_18 : decode cX3_task 18 = .ok (.iload_n 2, 1) := by decide +kernel
theorem dX3_task_19 : decode cX3_task 19 = .ok (.tableswitch 73 0 5 #[37, 42, 47, 55, 63, 68], 37) := by decide +kernel
theorem dX3_task_56 : decode cX3_task 56 = .ok (.aload_n 3, 1) := by decide +kernel
theorem dX3_task_57 : decode cX3_task 57 = .ok (.getfield 102, 3) := by decide +kernel
theorem dX3_task_60 : decode cX3_task 60 = .ok (.ireturn, 1) := by decide +kernel
theorem dX3_task_61 : decode cX3_task 61 = .ok (.aload_n 3, 1) := by decide +kernel
theorem dX3_task_62 : decode cX3_task 62 = .ok (.getfield 105, 3) := by decide +kernel
theorem dX3_task_65 : decode cX3_task 65 = .ok (.ireturn, 1) := by decide +kernel
theorem dX3_task_66 : decode cX3_task 66 = .ok (.aload_n 3, 1) := by decide +kernel
theorem dX3_task_67 : decode cX3_task 67 = .ok (.getfield 108, 3) := by decide +kernel
theorem dX3_task_70 : decode cX3_task 70 = .ok (.getfield 112, 3) := by decide +kernel
theorem dX3_task_73 : decode cX3_task 73 = .ok (.ireturn, 1) := by decide +kernel
theorem dX3_task_74 : decode cX3_task 74 = .ok (.aload_n 3, 1) := by decide +kernel
theorem dX3_task_75 : decode cX3_task 75 = .ok (.getfield 117, 3) := by decide +kernel
theorem dX3_task_78 : decode cX3_task 78 = .ok (.getfield 112, 3) := by decide +kernel
theorem dX3_task_81 : decode cX3_task 81 = .ok (.ireturn, 1) := by decide +kernel
theorem dX3_task_82 : decode cX3_task 82 = .ok (.aload_n 3, 1) := by decide +kernel
theorem dX3_task_83 : decode cX3_task 83 = .ok (.getfield 120, 3) := by decide +kernel
theorem dX3_task_86 : decode cX3_task 86 = .ok (.ireturn, 1) := by decide +kernel
theorem dX3_task_87 : decode cX3_task 87 = .ok (.aload_n 3, 1) := by decide +kernel
theorem dX3_task_88 : decode cX3_task 88 = .ok (.getfield 123, 3) := by decide +kernel
theorem dX3_task_91 : decode cX3_task 91 = .ok (.ireturn, 1) := by decide +kernel
theorem dX3_task_92 : decode cX3_task 92 = .ok (.ldc 101, 2) := by decide +kernel
theorem dX3_task_94 : decode cX3_task 94 = .ok (.ireturn, 1) := by decide +kernel
theorem dX3_stack_0 : decode cX3_stack 0 = .ok (.aload_n 0, 1) := by decide +kernel
theorem dX3_stack_1 : decode cX3_stack 1 = .ok (.iload_n 1, 1) := by decide +kernel
theorem dX3_stack_2 : decode cX3_stack 2 = .ok (.invokevirtual 95, 3) := by decide +kernel
theorem dX3_stack_5 : decode cX3_stack 5 = .ok (.ifCond .eq 19, 3) := by decide +kernel
theorem dX3_stack_8 : decode cX3_stack 8 = .ok (.aload_n 0, 1) := by decide +kernel
theorem dX3_stack_9 : decode cX3_stack 9 = .ok (.getfield 39, 3) := by decide +kernel
theorem dX3_stack_12 : decode cX3_stack 12 = .ok (.iload_n 1, 1) := by decide +kernel
theorem dX3_stack_13 : decode cX3_stack 13 = .ok (.aaload, 1) := by decide +kernel
theorem dX3_stack_14 : decode cX3_stack 14 = .ok (.getfield 108, 3) := by decide +kernel
theorem dX3_stack_17 : decode cX3_stack 17 = .ok (.iload_n 2, 1) := by decide +kernel
theorem dX3_stack_18 : decode cX3_stack 18 = .ok (.invokevirtual 126, 3) := by decide +kernel
theorem dX3_stack_21 : decode cX3_stack 21 = .ok (.goto 5, 3) := by decide +kernel
theorem dX3_stack_24 : decode cX3_stack 24 = .ok (.ldc 101, 2) := by decide +kernel
theorem dX3_stack_26 : decode cX3_stack 26 = .ok (.ireturn, 1) := by decide +kernel
theorem dX3_next_0 : decode cX3_next 0 = .ok (.iconst (-1), 1) := by decide +kernel
theorem dX3_next_1 : decode cX3_next 1 = .ok (.istore_n 1, 1) := by decide +kernel
theorem dX3_next_2 : decode cX3_next 2 = .ok (.iconst 0, 1) := by decide +kernel
theorem dX3_next_3 : decode cX3_next 3 = .ok (.istore_n 2, 1) := by decide +kernel
theorem dX3_next_4 : decode cX3_next 4 = .ok (.iload_n 2, 1) := by decide +kernel
theorem dX3_next_5 : decode cX3_next 5 = .ok (.aload_n 0, 1) := by decide +kernel
theorem dX3_next_6 : decode cX3_next 6 = .ok (.getfield 39, 3) := by decide +kernel
theorem dX3_next_9 : decode cX3_next 9 = .ok (.arraylength, 1) := by decide +kernel
theorem dX3_next_10 : decode cX3_next 10 = .ok (.if_icmp .ge 46, 3) := by decide +kernel
theorem dX3_next_13 : decode cX3_next 13 = .ok (.aload_n 0, 1) := by decide +kernel
theorem dX3_next_14 : decode cX3_next 14 = .ok (.getfield 39, 3) := by decide +kernel
theorem dX3_next_17 : decode cX3_next 17 = .ok (.iload_n 2, 1) := by decide +kernel
theorem dX3_next_18 : decode cX3_next 18 = .ok (.aaload, 1) := by decide +kernel
theorem dX3_next_19 : decode cX3_next 19 = .ok (.getfield 71, 3) := by decide +kernel
theorem dX3_next_22 : decode cX3_next 22 = .ok (.iconst 1, 1) := by decide +kernel
theorem dX3_next_23 : decode cX3_next 23 = .ok (.if_icmp .ne 27, 3) := by decide +kernel
theorem dX3_next_26 : decode cX3_next 26 = .ok (.iload_n 1, 1) := by decide +kernel
theorem dX3_next_27 : decode cX3_next 27 = .ok (.ifCond .lt 21, 3) := by decide +kernel
theorem dX3_next_30 : decode cX3_next 30 = .ok (.aload_n 0, 1) := by decide +kernel
theorem dX3_next_31 : decode cX3_next 31 = .ok (.getfield 39, 3) := by decide +kernel
theorem dX3_next_34 : decode cX3_next 34 = .ok (.iload_n 2, 1) := by decide +kernel
theorem dX3_next_35 : decode cX3_next 35 = .ok (.aaload, 1) := by decide +kernel
theorem dX3_next_36 : decode cX3_next 36 = .ok (.aload_n 0, 1) := by decide +kernel
theorem dX3_next_37 : decode cX3_next 37 = .ok (.getfield 39, 3) := by decide +kernel
theorem dX3_next_40 : decode cX3_next 40 = .ok (.iload_n 1, 1) := by decide +kernel
theorem dX3_next_41 : decode cX3_next 41 = .ok (.aaload, 1) := by decide +kernel
theorem dX3_next_42 : decode cX3_next 42 = .ok (.invokevirtual 129, 3) := by decide +kernel
theorem dX3_next_45 : decode cX3_next 45 = .ok (.ifCond .eq 5, 3) := by decide +kernel
theorem dX3_next_48 : decode cX3_next 48 = .ok (.iload_n 2, 1) := by decide +kernel
theorem dX3_next_49 : decode cX3_next 49 = .ok (.istore_n 1, 1) := by decide +kernel
theorem dX3_next_50 : decode cX3_next 50 = .ok (.iinc 2 1, 3) := by decide +kernel
theorem dX3_next_53 : decode cX3_next 53 = .ok (.goto (-49), 3) := by decide +kernel
theorem dX3_next_56 : decode cX3_next 56 = .ok (.iload_n 1, 1) := by decide +kernel
theorem dX3_next_57 : decode cX3_next 57 = .ok (.ireturn, 1) := by decide +kernel
theorem dX3_queue_0 : decode cX3_queue 0 = .ok (.aload_n 0, 1) := by decide +kernel
theorem dX3_queue_1 : decode cX3_queue 1 = .ok (.iload_n 1, 1) := by decide +kernel
theorem dX3_queue_2 : decode cX3_queue 2 = .ok (.invokevirtual 133, 3) := by decide +kernel
theorem dX3_queue_5 : decode cX3_queue 5 = .ok (.ifCond .eq 15, 3) := by decide +kernel
theorem dX3_queue_8 : decode cX3_queue 8 = .ok (.aload_n 0, 1) := by decide +kernel
theorem dX3_queue_9 : decode cX3_queue 9 = .ok (.getfield 48, 3) := by decide +kernel
theorem dX3_queue_12 : decode cX3_queue 12 = .ok (.iload_n 1, 1) := by decide +kernel
theorem dX3_queue_13 : decode cX3_queue 13 = .ok (.aaload, 1) := by decide +kernel
theorem dX3_queue_14 : decode cX3_queue 14 = .ok (.getfield 136, 3) := by decide +kernel
theorem dX3_queue_17 : decode cX3_queue 17 = .ok (.goto 4, 3) := by decide +kernel
theorem dX3_queue_20 : decode cX3_queue 20 = .ok (.iconst (-1), 1) := by decide +kernel
theorem dX3_queue_21 : decode cX3_queue 21 = .ok (.ireturn, 1) := by decide +kernel
theorem dX3_queued_0 : decode cX3_queued 0 = .ok (.aload_n 0, 1) := by decide +kernel
theorem dX3_queued_1 : decode cX3_queued 1 = .ok (.iload_n 1, 1) := by decide +kernel
theorem dX3_queued_2 : decode cX3_queued 2 = .ok (.invokevirtual 133, 3) := by decide +kernel
theorem dX3_queued_5 : decode cX3_queued 5 = .ok (.ifCond .eq 16, 3) := by decide +kernel
theorem dX3_queued_8 : decode cX3_queued 8 = .ok (.aload_n 0, 1) := by decide +kernel
theorem dX3_queued_9 : decode cX3_queued 9 = .ok (.getfield 48, 3) := by decide +kernel
theorem dX3_queued_12 : decode cX3_queued 12 = .ok (.iload_n 1, 1) := by decide +kernel
theorem dX3_queued_13 : decode cX3_queued 13 = .ok (.aaload, 1) := by decide +kernel
theorem dX3_queued_14 : decode cX3_queued 14 = .ok (.iload_n 2, 1) := by decide +kernel
theorem dX3_queued_15 : decode cX3_queued 15 = .ok (.invokevirtual 137, 3) := by decide +kernel
theorem dX3_queued_18 : decode cX3_queued 18 = .ok (.goto 5, 3) := by decide +kernel
theorem dX3_queued_21 : decode cX3_queued 21 = .ok (.ldc 101, 2) := by decide +kernel
theorem dX3_queued_23 : decode cX3_queued 23 = .ok (.ireturn, 1) := by decide +kernel
theorem dX3_waiter_0 : decode cX3_waiter 0 = .ok (.aload_n 0, 1) := by decide +kernel
theorem dX3_waiter_1 : decode cX3_waiter 1 = .ok (.iload_n 1, 1) := by decide +kernel
theorem dX3_waiter_2 : decode cX3_waiter 2 = .ok (.invokevirtual 133, 3) := by decide +kernel
theorem dX3_waiter_5 : decode cX3_waiter 5 = .ok (.ifCond .ne 5, 3) := by decide +kernel
theorem dX3_waiter_8 : decode cX3_waiter 8 = .ok (.iconst (-1), 1) := by decide +kernel
theorem dX3_waiter_9 : decode cX3_waiter 9 = .ok (.ireturn, 1) := by decide +kernel
theorem dX3_waiter_10 : decode cX3_waiter 10 = .ok (.iload_n 2, 1) := by decide +kernel
theorem dX3_waiter_11 : decode cX3_waiter 11 = .ok (.ifCond .eq 7, 3) := by decide +kernel
theorem dX3_waiter_14 : decode cX3_waiter 14 = .ok (.iconst 3, 1) := by decide +kernel
theorem dX3_waiter_15 : decode cX3_waiter 15 = .ok (.goto 4, 3) := by decide +kernel
theorem dX3_waiter_18 : decode cX3_waiter 18 = .ok (.iconst 4, 1) := by decide +kernel
theorem dX3_waiter_19 : decode cX3_waiter 19 = .ok (.istore 4, 2) := by decide +kernel
theorem dX3_waiter_21 : decode cX3_waiter 21 = .ok (.iconst 0, 1) := by decide +kernel
theorem dX3_waiter_22 : decode cX3_waiter 22 = .ok (.istore 5, 2) := by decide +kernel
theorem dX3_waiter_24 : decode cX3_waiter 24 = .ok (.iload 5, 2) := by decide +kernel
theorem dX3_waiter_26 : decode cX3_waiter 26 = .ok (.aload_n 0, 1) := by decide +kernel
theorem dX3_waiter_27 : decode cX3_waiter 27 = .ok (.getfield 39, 3) := by decide +kernel
theorem dX3_waiter_30 : decode cX3_waiter 30 = .ok (.arraylength, 1) := by decide +kernel
theorem dX3_waiter_31 : decode cX3_waiter 31 = .ok (.if_icmp .ge 43, 3) := by decide +kernel
theorem dX3_waiter_34 : decode cX3_waiter 34 = .ok (.aload_n 0, 1) := by decide +kernel
theorem dX3_waiter_35 : decode cX3_waiter 35 = .ok (.getfield 39, 3) := by decide +kernel
theorem dX3_waiter_38 : decode cX3_waiter 38 = .ok (.iload 5, 2) := by decide +kernel
theorem dX3_waiter_40 : decode cX3_waiter 40 = .ok (.aaload, 1) := by decide +kernel
theorem dX3_waiter_41 : decode cX3_waiter 41 = .ok (.iload 4, 2) := by decide +kernel
theorem dX3_waiter_43 : decode cX3_waiter 43 = .ok (.iload_n 1, 1) := by decide +kernel
theorem dX3_waiter_44 : decode cX3_waiter 44 = .ok (.invokevirtual 140, 3) := by decide +kernel
theorem dX3_waiter_47 : decode cX3_waiter 47 = .ok (.ifCond .eq 21, 3) := by decide +kernel
theorem dX3_waiter_50 : decode cX3_waiter 50 = .ok (.aload_n 0, 1) := by decide +kernel
theorem dX3_waiter_51 : decode cX3_waiter 51 = .ok (.aload_n 0, 1) := by decide +kernel
theorem dX3_waiter_52 : decode cX3_waiter 52 = .ok (.getfield 39, 3) := by decide +kernel
theorem dX3_waiter_55 : decode cX3_waiter 55 = .ok (.iload 5, 2) := by decide +kernel
theorem dX3_waiter_57 : decode cX3_waiter 57 = .ok (.aaload, 1) := by decide +kernel
theorem dX3_waiter_58 : decode cX3_waiter 58 = .ok (.invokevirtual 144, 3) := by decide +kernel
theorem dX3_waiter_61 : decode cX3_waiter 61 = .ok (.iload_n 3, 1) := by decide +kernel
theorem dX3_waiter_62 : decode cX3_waiter 62 = .ok (.if_icmp .ne 6, 3) := by decide +kernel
theorem dX3_waiter_65 : decode cX3_waiter 65 = .ok (.iload 5, 2) := by decide +kernel
theorem dX3_waiter_67 : decode cX3_waiter 67 = .ok (.ireturn, 1) := by decide +kernel
theorem dX3_waiter_68 : decode cX3_waiter 68 = .ok (.iinc 5 1, 3) := by decide +kernel
theorem dX3_waiter_71 : decode cX3_waiter 71 = .ok (.goto (-47), 3) := by decide +kernel
theorem dX3_waiter_74 : decode cX3_waiter 74 = .ok (.iconst (-1), 1) := by decide +kernel
theorem dX3_waiter_75 : decode cX3_waiter 75 = .ok (.ireturn, 1) := by decide +kernel
theorem dX3_memory_0 : decode cX3_memory 0 = .ok (.iload_n 1, 1) := by decide +kernel
theorem dX3_memory_1 : decode cX3_memory 1 = .ok (.invokestatic 147, 3) := by decide +kernel
theorem dX3_memory_4 : decode cX3_memory 4 = .ok (.ifCond .eq 12, 3) := by decide +kernel
theorem dX3_memory_7 : decode cX3_memory 7 = .ok (.aload_n 0, 1) := by decide +kernel
theorem dX3_memory_8 : decode cX3_memory 8 = .ok (.getfield 13, 3) := by decide +kernel
theorem dX3_memory_11 : decode cX3_memory 11 = .ok (.iload_n 1, 1) := by decide +kernel
theorem dX3_memory_12 : decode cX3_memory 12 = .ok (.iaload, 1) := by decide +kernel
theorem dX3_memory_13 : decode cX3_memory 13 = .ok (.goto 5, 3) := by decide +kernel
theorem dX3_memory_16 : decode cX3_memory 16 = .ok (.ldc 101, 2) := by decide +kernel
theorem dX3_memory_18 : decode cX3_memory 18 = .ok (.ireturn, 1) := by decide +kernel
theorem dX3_emitted_0 : decode cX3_emitted 0 = .ok (.aload_n 0, 1) := by decide +kernel
theorem dX3_emitted_1 : decode cX3_emitted 1 = .ok (.getfield 19, 3) := by decide +kernel
theorem dX3_emitted_4 : decode cX3_emitted 4 = .ok (.ireturn, 1) := by decide +kernel
theorem dX3_out_0 : decode cX3_out 0 = .ok (.iload_n 1, 1) := by decide +kernel
theorem dX3_out_1 : decode cX3_out 1 = .ok (.ifCond .lt 17, 3) := by decide +kernel
theorem dX3_out_4 : decode cX3_out 4 = .ok (.iload_n 1, 1) := by decide +kernel
theorem dX3_out_5 : decode cX3_out 5 = .ok (.bipush 32, 2) := by decide +kernel
theorem dX3_out_7 : decode cX3_out 7 = .ok (.if_icmp .ge 11, 3) := by decide +kernel
theorem dX3_out_10 : decode cX3_out 10 = .ok (.iload_n 1, 1) := by decide +kernel
theorem dX3_out_11 : decode cX3_out 11 = .ok (.aload_n 0, 1) := by decide +kernel
theorem dX3_out_12 : decode cX3_out 12 = .ok (.getfield 19, 3) := by decide +kernel
theorem dX3_out_15 : decode cX3_out 15 = .ok (.if_icmp .lt 6, 3) := by decide +kernel
theorem dX3_out_18 : decode cX3_out 18 = .ok (.ldc 101, 2) := by decide +kernel
theorem dX3_out_20 : decode cX3_out 20 = .ok (.ireturn, 1) := by decide +kernel
theorem dX3_out_21 : decode cX3_out 21 = .ok (.aload_n 0, 1) := by decide +kernel
theorem dX3_out_22 : decode cX3_out 22 = .ok (.getfield 16, 3) := by decide +kernel
theorem dX3_out_25 : decode cX3_out 25 = .ok (.aload_n 0, 1) := by decide +kernel
theorem dX3_out_26 : decode cX3_out 26 = .ok (.getfield 19, 3) := by decide +kernel
theorem dX3_out_29 : decode cX3_out 29 = .ok (.iconst 1, 1) := by decide +kernel
theorem dX3_out_30 : decode cX3_out 30 = .ok (.isub, 1) := by decide +kernel
theorem dX3_out_31 : decode cX3_out 31 = .ok (.iload_n 1, 1) := by decide +kernel
theorem dX3_out_32 : decode cX3_out 32 = .ok (.isub, 1) := by decide +kernel
theorem dX3_out_33 : decode cX3_out 33 = .ok (.invokestatic 150, 3) := by decide +kernel
theorem dX3_out_36 : decode cX3_out 36 = .ok (.iaload, 1) := by decide +kernel
theorem dX3_out_37 : decode cX3_out 37 = .ok (.ireturn, 1) := by decide +kernel
theorem dX3_why_0 : decode cX3_why 0 = .ok (.aload_n 0, 1) := by decide +kernel
theorem dX3_why_1 : decode cX3_why 1 = .ok (.iload_n 1, 1) := by decide +kernel
theorem dX3_why_2 : decode cX3_why 2 = .ok (.invokevirtual 98, 3) := by decide +kernel
theorem dX3_why_5 : decode cX3_why 5 = .ok (.ifCond .eq 15, 3) := by decide +kernel
theorem dX3_why_8 : decode cX3_why 8 = .ok (.aload_n 0, 1) := by decide +kernel
theorem dX3_why_9 : decode cX3_why 9 = .ok (.getfield 39, 3) := by decide +kernel
theorem dX3_why_12 : decode cX3_why 12 = .ok (.iload_n 1, 1) := by decide +kernel
theorem dX3_why_13 : decode cX3_why 13 = .ok (.aaload, 1) := by decide +kernel
theorem dX3_why_14 : decode cX3_why 14 = .ok (.getfield 153, 3) := by decide +kernel
theorem dX3_why_17 : decode cX3_why 17 = .ok (.goto 4, 3) := by decide +kernel
theorem dX3_why_20 : decode cX3_why 20 = .ok (.iconst (-1), 1) := by decide +kernel
theorem dX3_why_21 : decode cX3_why 21 = .ok (.ireturn, 1) := by decide +kernel
theorem dX3_clock_0 : decode cX3_clock 0 = .ok (.aload_n 0, 1) := by decide +kernel
theorem dX3_clock_1 : decode cX3_clock 1 = .ok (.getfield 23, 3) := by decide +kernel
theorem dX3_clock_4 : decode cX3_clock 4 = .ok (.ireturn, 1) := by decide +kernel
