theorem dX4_init_0 : decode cX4_init 0 = .ok (.aload_n 0, 1) := by decide +kernel
theorem dX4_init_1 : decode cX4_init 1 = .ok (.invokespecial 1, 3) := by decide +kernel
theorem dX4_init_4 : decode cX4_init 4 = .ok (.aload_n 0, 1) := by decide +kernel
theorem dX4_init_5 : decode cX4_init 5 = .ok (.bipush 64, 2) := by decide +kernel
theorem dX4_init_7 : decode cX4_init 7 = .ok (.newarray .int, 2) := by decide +kernel
theorem dX4_init_9 : decode cX4_init 9 = .ok (.putfield 7, 3) := by decide +kernel
theorem dX4_init_12 : decode cX4_init 12 = .ok (.aload_n 0, 1) := by decide +kernel
theorem dX4_init_13 : decode cX4_init 13 = .ok (.bipush 16, 2) := by decide +kernel
theorem dX4_init_15 : decode cX4_init 15 = .ok (.newarray .int, 2) := by decide +kernel
theorem dX4_init_17 : decode cX4_init 17 = .ok (.putfield 13, 3) := by decide +kernel
theorem dX4_init_20 : decode cX4_init 20 = .ok (.aload_n 0, 1) := by decide +kernel
theorem dX4_init_21 : decode cX4_init 21 = .ok (.bipush 8, 2) := by decide +kernel
theorem dX4_init_23 : decode cX4_init 23 = .ok (.newarray .int, 2) := by decide +kernel
theorem dX4_init_25 : decode cX4_init 25 = .ok (.putfield 16, 3) := by decide +kernel
theorem dX4_init_28 : decode cX4_init 28 = .ok (.aload_n 0, 1) := by decide +kernel
theorem dX4_init_29 : decode cX4_init 29 = .ok (.bipush 8, 2) := by decide +kernel
theorem dX4_init_31 : decode cX4_init 31 = .ok (.newarray .int, 2) := by decide +kernel
theorem dX4_init_33 : decode cX4_init 33 = .ok (.putfield 19, 3) := by decide +kernel
theorem dX4_init_36 : decode cX4_init 36 = .ok (.aload_n 0, 1) := by decide +kernel
theorem dX4_init_37 : decode cX4_init 37 = .ok (.bipush 8, 2) := by decide +kernel
theorem dX4_init_39 : decode cX4_init 39 = .ok (.newarray .int, 2) := by decide +kernel
theorem dX4_init_41 : decode cX4_init 41 = .ok (.putfield 22, 3) := by decide +kernel
theorem dX4_init_44 : decode cX4_init 44 = .ok (.aload_n 0, 1) := by decide +kernel
theorem dX4_init_45 : decode cX4_init 45 = .ok (.bipush 8, 2) := by decide +kernel
theorem dX4_init_47 : decode cX4_init 47 = .ok (.newarray .int, 2) := by decide +kernel
theorem dX4_init_49 : decode cX4_init 49 = .ok (.putfield 25, 3) := by decide +kernel
theorem dX4_init_52 : decode cX4_init 52 = .ok (.aload_n 0, 1) := by decide +kernel
theorem dX4_init_53 : decode cX4_init 53 = .ok (.sipush 128, 3) := by decide +kernel
theorem dX4_init_56 : decode cX4_init 56 = .ok (.newarray .int, 2) := by decide +kernel
theorem dX4_init_58 : decode cX4_init 58 = .ok (.putfield 28, 3) := by decide +kernel
theorem dX4_init_61 : decode cX4_init 61 = .ok (.aload_n 0, 1) := by decide +kernel
theorem dX4_init_62 : decode cX4_init 62 = .ok (.bipush 8, 2) := by decide +kernel
theorem dX4_init_64 : decode cX4_init 64 = .ok (.newarray .int, 2) := by decide +kernel
theorem dX4_init_66 : decode cX4_init 66 = .ok (.putfield 31, 3) := by decide +kernel
theorem dX4_init_69 : decode cX4_init 69 = .ok (.aload_n 0, 1) := by decide +kernel
theorem dX4_init_70 : decode cX4_init 70 = .ok (.bipush 32, 2) := by decide +kernel
theorem dX4_init_72 : decode cX4_init 72 = .ok (.newarray .int, 2) := by decide +kernel
theorem dX4_init_74 : decode cX4_init 74 = .ok (.putfield 34, 3) := by decide +kernel
theorem dX4_init_77 : decode cX4_init 77 = .ok (.aload_n 0, 1) := by decide +kernel
theorem dX4_init_78 : decode cX4_init 78 = .ok (.bipush 8, 2) := by decide +kernel
theorem dX4_init_80 : decode cX4_init 80 = .ok (.newarray .int, 2) := by decide +kernel
theorem dX4_init_82 : decode cX4_init 82 = .ok (.putfield 37, 3) := by decide +kernel
theorem dX4_init_85 : decode cX4_init 85 = .ok (.aload_n 0, 1) := by decide +kernel
theorem dX4_init_86 : decode cX4_init 86 = .ok (.bipush 8, 2) := by decide +kernel
theorem dX4_init_88 : decode cX4_init 88 = .ok (.newarray .int, 2) := by decide +kernel
theorem dX4_init_90 : decode cX4_init 90 = .ok (.putfield 40, 3) := by decide +kernel
theorem dX4_init_93 : decode cX4_init 93 = .ok (.aload_n 0, 1) := by decide +kernel
theorem dX4_init_94 : decode cX4_init 94 = .ok (.bipush 8, 2) := by decide +kernel
theorem dX4_init_96 : decode cX4_init 96 = .ok (.newarray .int, 2) := by decide +kernel
theorem dX4_init_98 : decode cX4_init 98 = .ok (.putfield 43, 3) := by decide +kernel
theorem dX4_init_101 : decode cX4_init 101 = .ok (.aload_n 0, 1) := by decide +kernel
theorem dX4_init_102 : decode cX4_init 102 = .ok (.bipush 8, 2) := by decide +kernel
theorem dX4_init_104 : decode cX4_init 104 = .ok (.newarray .int, 2) := by decide +kernel
theorem dX4_init_106 : decode cX4_init 106 = .ok (.putfield 46, 3) := by decide +kernel
theorem dX4_init_109 : decode cX4_init 109 = .ok (.aload_n 0, 1) := by decide +kernel
theorem dX4_init_110 : decode cX4_init 110 = .ok (.bipush 8, 2) := by decide +kernel
theorem dX4_init_112 : decode cX4_init 112 = .ok (.newarray .int, 2) := by decide +kernel
theorem dX4_init_114 : decode cX4_init 114 = .ok (.putfield 49, 3) := by decide +kernel
theorem dX4_init_117 : decode cX4_init 117 = .ok (.aload_n 0, 1) := by decide +kernel
theorem dX4_init_118 : decode cX4_init 118 = .ok (.iconst 4, 1) := by decide +kernel
theorem dX4_init_119 : decode cX4_init 119 = .ok (.newarray .int, 2) := by decide +kernel
theorem dX4_init_121 : decode cX4_init 121 = .ok (.putfield 52, 3) := by decide +kernel
theorem dX4_init_124 : decode cX4_init 124 = .ok (.aload_n 0, 1) := by decide +kernel
theorem dX4_init_125 : decode cX4_init 125 = .ok (.bipush 24, 2) := by decide +kernel
theorem dX4_init_127 : decode cX4_init 127 = .ok (.newarray .int, 2) := by decide +kernel
theorem dX4_init_129 : decode cX4_init 129 = .ok (.putfield 55, 3) := by decide +kernel
theorem dX4_init_132 : decode cX4_init 132 = .ok (.aload_n 0, 1) := by decide +kernel
theorem dX4_init_133 : decode cX4_init 133 = .ok (.bipush 32, 2) := by decide +kernel
theorem dX4_init_135 : decode cX4_init 135 = .ok (.newarray .int, 2) := by decide +kernel
theorem dX4_init_137 : decode cX4_init 137 = .ok (.putfield 58, 3) := by decide +kernel
theorem dX4_init_140 : decode cX4_init 140 = .ok (.aload_n 0, 1) := by decide +kernel
theorem dX4_init_141 : decode cX4_init 141 = .ok (.iload_n 1, 1) := by decide +kernel
theorem dX4_init_142 : decode cX4_init 142 = .ok (.iconst 1, 1) := by decide +kernel
theorem dX4_init_143 : decode cX4_init 143 = .ok (.bipush 8, 2) := by decide +kernel
theorem dX4_init_145 : decode cX4_init 145 = .ok (.invokestatic 61, 3) := by decide +kernel
theorem dX4_init_148 : decode cX4_init 148 = .ok (.putfield 65, 3) := by decide +kernel
theorem dX4_init_151 : decode cX4_init 151 = .ok (.aload_n 0, 1) := by decide +kernel
theorem dX4_init_152 : decode cX4_init 152 = .ok (.iload_n 2, 1) := by decide +kernel
theorem dX4_init_153 : decode cX4_init 153 = .ok (.iconst 1, 1) := by decide +kernel
theorem dX4_init_154 : decode cX4_init 154 = .ok (.bipush 16, 2) := by decide +kernel
theorem dX4_init_156 : decode cX4_init 156 = .ok (.invokestatic 61, 3) := by decide +kernel
theorem dX4_init_159 : decode cX4_init 159 = .ok (.putfield 69, 3) := by decide +kernel
theorem dX4_init_162 : decode cX4_init 162 = .ok (.aload_n 0, 1) := by decide +kernel
theorem dX4_init_163 : decode cX4_init 163 = .ok (.iload_n 3, 1) := by decide +kernel
theorem dX4_init_164 : decode cX4_init 164 = .ok (.iconst 0, 1) := by decide +kernel
theorem dX4_init_165 : decode cX4_init 165 = .ok (.iconst 4, 1) := by decide +kernel
theorem dX4_init_166 : decode cX4_init 166 = .ok (.invokestatic 61, 3) := by decide +kernel
theorem dX4_init_169 : decode cX4_init 169 = .ok (.putfield 72, 3) := by decide +kernel
theorem dX4_init_172 : decode cX4_init 172 = .ok (.aload_n 0, 1) := by decide +kernel
theorem dX4_init_173 : decode cX4_init 173 = .ok (.iload 4, 2) := by decide +kernel
theorem dX4_init_175 : decode cX4_init 175 = .ok (.iconst 1, 1) := by decide +kernel
theorem dX4_init_176 : decode cX4_init 176 = .ok (.bipush 6, 2) := by decide +kernel
theorem dX4_init_178 : decode cX4_init 178 = .ok (.invokestatic 61, 3) := by decide +kernel
theorem dX4_init_181 : decode cX4_init 181 = .ok (.putfield 75, 3) := by decide +kernel
theorem dX4_init_184 : decode cX4_init 184 = .ok (.return_, 1) := by decide +kernel
theorem dX4_near_0 : decode cX4_near 0 = .ok (.iload_n 0, 1) := by decide +kernel
theorem dX4_near_1 : decode cX4_near 1 = .ok (.iload_n 1, 1) := by decide +kernel
theorem dX4_near_2 : decode cX4_near 2 = .ok (.if_icmp .ge 7, 3) := by decide +kernel
theorem dX4_near_5 : decode cX4_near 5 = .ok (.iload_n 1, 1) := by decide +kernel
theorem dX4_near_6 : decode cX4_near 6 = .ok (.goto 13, 3) := by decide +kernel
theorem dX4_near_9 : decode cX4_near 9 = .ok (.iload_n 0, 1) := by decide +kernel
theorem dX4_near_10 : decode cX4_near 10 = .ok (.iload_n 2, 1) := by decide +kernel
theorem dX4_near_11 : decode cX4_near 11 = .ok (.if_icmp .le 7, 3) := by decide +kernel
theorem dX4_near_14 : decode cX4_near 14 = .ok (.iload_n 2, 1) := by decide +kernel
theorem dX4_near_15 : decode cX4_near 15 = .ok (.goto 4, 3) := by decide +kernel
theorem dX4_near_18 : decode cX4_near 18 = .ok (.iload_n 0, 1) := by decide +kernel
theorem dX4_near_19 : decode cX4_near 19 = .ok (.ireturn, 1) := by decide +kernel
theorem dX4_set_0 : decode cX4_set 0 = .ok (.aload_n 0, 1) := by decide +kernel
theorem dX4_set_1 : decode cX4_set 1 = .ok (.getfield 16, 3) := by decide +kernel
theorem dX4_set_4 : decode cX4_set 4 = .ok (.iload_n 1, 1) := by decide +kernel
theorem dX4_set_5 : decode cX4_set 5 = .ok (.iload_n 2, 1) := by decide +kernel
theorem dX4_set_6 : decode cX4_set 6 = .ok (.iastore, 1) := by decide +kernel
theorem dX4_set_7 : decode cX4_set 7 = .ok (.aload_n 0, 1) := by decide +kernel
theorem dX4_set_8 : decode cX4_set 8 = .ok (.getfield 46, 3) := by decide +kernel
theorem dX4_set_11 : decode cX4_set 11 = .ok (.iload_n 1, 1) := by decide +kernel
theorem dX4_set_12 : decode cX4_set 12 = .ok (.aload_n 0, 1) := by decide +kernel
theorem dX4_set_13 : decode cX4_set 13 = .ok (.getfield 78, 3) := by decide +kernel
theorem dX4_set_16 : decode cX4_set 16 = .ok (.iastore, 1) := by decide +kernel
theorem dX4_set_17 : decode cX4_set 17 = .ok (.aload_n 0, 1) := by decide +kernel
theorem dX4_set_18 : decode cX4_set 18 = .ok (.dup, 1) := by decide +kernel
theorem dX4_set_19 : decode cX4_set 19 = .ok (.getfield 78, 3) := by decide +kernel
theorem dX4_set_22 : decode cX4_set 22 = .ok (.iconst 1, 1) := by decide +kernel
theorem dX4_set_23 : decode cX4_set 23 = .ok (.iadd, 1) := by decide +kernel
theorem dX4_set_24 : decode cX4_set 24 = .ok (.putfield 78, 3) := by decide +kernel
theorem dX4_set_27 : decode cX4_set 27 = .ok (.return_, 1) := by decide +kernel
theorem dX4_freeTask_0 : decode cX4_freeTask 0 = .ok (.iconst 0, 1) := by decide +kernel
theorem dX4_freeTask_1 : decode cX4_freeTask 1 = .ok (.istore_n 1, 1) := by decide +kernel
theorem dX4_freeTask_2 : decode cX4_freeTask 2 = .ok (.iload_n 1, 1) := by decide +kernel
theorem dX4_freeTask_3 : decode cX4_freeTask 3 = .ok (.aload_n 0, 1) := by decide +kernel
theorem dX4_freeTask_4 : decode cX4_freeTask 4 = .ok (.getfield 65, 3) := by decide +kernel
theorem dX4_freeTask_7 : decode cX4_freeTask 7 = .ok (.if_icmp .ge 20, 3) := by decide +kernel
theorem dX4_freeTask_10 : decode cX4_freeTask 10 = .ok (.aload_n 0, 1) := by decide +kernel
theorem dX4_freeTask_11 : decode cX4_freeTask 11 = .ok (.getfield 16, 3) := by decide +kernel
theorem dX4_freeTask_14 : decode cX4_freeTask 14 = .ok (.iload_n 1, 1) := by decide +kernel
theorem dX4_freeTask_15 : decode cX4_freeTask 15 = .ok (.iaload, 1) := by decide +kernel
theorem dX4_freeTask_16 : decode cX4_freeTask 16 = .ok (.ifCond .ne 5, 3) := by decide +kernel
theorem dX4_freeTask_19 : decode cX4_freeTask 19 = .ok (.iload_n 1, 1) := by decide +kernel
theorem dX4_freeTask_20 : decode cX4_freeTask 20 = .ok (.ireturn, 1) := by decide +kernel
theorem dX4_freeTask_21 : decode cX4_freeTask 21 = .ok (.iinc 1 1, 3) := by decide +kernel
theorem dX4_freeTask_24 : decode cX4_freeTask 24 = .ok (.goto (-22), 3) := by decide +kernel
theorem dX4_freeTask_27 : decode cX4_freeTask 27 = .ok (.iconst (-1), 1) := by decide +kernel
theorem dX4_freeTask_28 : decode cX4_freeTask 28 = .ok (.ireturn, 1) := by decide +kernel
theorem dX4_begin_0 : decode cX4_begin 0 = .ok (.aload_n 0, 1) := by decide +kernel
theorem dX4_begin_1 : decode cX4_begin 1 = .ok (.invokevirtual 81, 3) := by decide +kernel
theorem dX4_begin_4 : decode cX4_begin 4 = .ok (.istore_n 3, 1) := by decide +kernel
theorem dX4_begin_5 : decode cX4_begin 5 = .ok (.iload_n 3, 1) := by decide +kernel
theorem dX4_begin_6 : decode cX4_begin 6 = .ok (.ifCond .lt 37, 3) := by decide +kernel
theorem dX4_begin_9 : decode cX4_begin 9 = .ok (.aload_n 0, 1) := by decide +kernel
theorem dX4_begin_10 : decode cX4_begin 10 = .ok (.getfield 22, 3) := by decide +kernel
theorem dX4_begin_13 : decode cX4_begin 13 = .ok (.iload_n 3, 1) := by decide +kernel
theorem dX4_begin_14 : decode cX4_begin 14 = .ok (.iload_n 1, 1) := by decide +kernel
theorem dX4_begin_15 : decode cX4_begin 15 = .ok (.iastore, 1) := by decide +kernel
theorem dX4_begin_16 : decode cX4_begin 16 = .ok (.aload_n 0, 1) := by decide +kernel
theorem dX4_begin_17 : decode cX4_begin 17 = .ok (.getfield 19, 3) := by decide +kernel
theorem dX4_begin_20 : decode cX4_begin 20 = .ok (.iload_n 3, 1) := by decide +kernel
theorem dX4_begin_21 : decode cX4_begin 21 = .ok (.iload_n 2, 1) := by decide +kernel
theorem dX4_begin_22 : decode cX4_begin 22 = .ok (.iastore, 1) := by decide +kernel
theorem dX4_begin_23 : decode cX4_begin 23 = .ok (.aload_n 0, 1) := by decide +kernel
theorem dX4_begin_24 : decode cX4_begin 24 = .ok (.getfield 25, 3) := by decide +kernel
theorem dX4_begin_27 : decode cX4_begin 27 = .ok (.iload_n 3, 1) := by decide +kernel
theorem dX4_begin_28 : decode cX4_begin 28 = .ok (.iconst 0, 1) := by decide +kernel
theorem dX4_begin_29 : decode cX4_begin 29 = .ok (.iastore, 1) := by decide +kernel
theorem dX4_begin_30 : decode cX4_begin 30 = .ok (.aload_n 0, 1) := by decide +kernel
theorem dX4_begin_31 : decode cX4_begin 31 = .ok (.getfield 31, 3) := by decide +kernel
theorem dX4_begin_34 : decode cX4_begin 34 = .ok (.iload_n 3, 1) := by decide +kernel
theorem dX4_begin_35 : decode cX4_begin 35 = .ok (.iconst 0, 1) := by decide +kernel
theorem dX4_begin_36 : decode cX4_begin 36 = .ok (.iastore, 1) := by decide +kernel
theorem dX4_begin_37 : decode cX4_begin 37 = .ok (.aload_n 0, 1) := by decide +kernel
theorem dX4_begin_38 : decode cX4_begin 38 = .ok (.iload_n 3, 1) := by decide +kernel
theorem dX4_begin_39 : decode cX4_begin 39 = .ok (.iconst 1, 1) := by decide +kernel
theorem dX4_begin_40 : decode cX4_begin 40 = .ok (.invokevirtual 85, 3) := by decide +kernel
theorem dX4_begin_43 : decode cX4_begin 43 = .ok (.iload_n 3, 1) := by decide +kernel
theorem dX4_begin_44 : decode cX4_begin 44 = .ok (.ireturn, 1) := by decide +kernel
theorem dX4_end_0 : decode cX4_end 0 = .ok (.aload_n 0, 1) := by decide +kernel
theorem dX4_end_1 : decode cX4_end 1 = .ok (.getfield 16, 3) := by decide +kernel
theorem dX4_end_4 : decode cX4_end 4 = .ok (.iload_n 1, 1) := by decide +kernel
theorem dX4_end_5 : decode cX4_end 5 = .ok (.iconst 0, 1) := by decide +kernel
theorem dX4_end_6 : decode cX4_end 6 = .ok (.iastore, 1) := by decide +kernel
theorem dX4_end_7 : decode cX4_end 7 = .ok (.aload_n 0, 1) := by decide +kernel
theorem dX4_end_8 : decode cX4_end 8 = .ok (.getfield 49, 3) := by decide +kernel
theorem dX4_end_11 : decode cX4_end 11 = .ok (.iload_n 1, 1) := by decide +kernel
theorem dX4_end_12 : decode cX4_end 12 = .ok (.iload_n 2, 1) := by decide +kernel
theorem dX4_end_13 : decode cX4_end 13 = .ok (.iastore, 1) := by decide +kernel
theorem dX4_end_14 : decode cX4_end 14 = .ok (.return_, 1) := by decide +kernel
theorem dX4_isLive_0 : decode cX4_isLive 0 = .ok (.iload_n 1, 1) := by decide +kernel
theorem dX4_isLive_1 : decode cX4_isLive 1 = .ok (.ifCond .lt 24, 3) := by decide +kernel
theorem dX4_isLive_4 : decode cX4_isLive 4 = .ok (.iload_n 1, 1) := by decide +kernel
theorem dX4_isLive_5 : decode cX4_isLive 5 = .ok (.aload_n 0, 1) := by decide +kernel
theorem dX4_isLive_6 : decode cX4_isLive 6 = .ok (.getfield 65, 3) := by decide +kernel
theorem dX4_isLive_9 : decode cX4_isLive 9 = .ok (.if_icmp .ge 16, 3) := by decide +kernel
theorem dX4_isLive_12 : decode cX4_isLive 12 = .ok (.aload_n 0, 1) := by decide +kernel
theorem dX4_isLive_13 : decode cX4_isLive 13 = .ok (.getfield 16, 3) := by decide +kernel
theorem dX4_isLive_16 : decode cX4_isLive 16 = .ok (.iload_n 1, 1) := by decide +kernel
theorem dX4_isLive_17 : decode cX4_isLive 17 = .ok (.iaload, 1) := by decide +kernel
theorem dX4_isLive_18 : decode cX4_isLive 18 = .ok (.ifCond .le 7, 3) := by decide +kernel
theorem dX4_isLive_21 : decode cX4_isLive 21 = .ok (.iconst 1, 1) := by decide +kernel
theorem dX4_isLive_22 : decode cX4_isLive 22 = .ok (.goto 4, 3) := by decide +kernel
theorem dX4_isLive_25 : decode cX4_isLive 25 = .ok (.iconst 0, 1) := by decide +kernel
theorem dX4_isLive_26 : decode cX4_isLive 26 = .ok (.ireturn, 1) := by decide +kernel
theorem dX4_inState_0 : decode cX4_inState 0 = .ok (.iconst 0, 1) := by decide +kernel
theorem dX4_inState_1 : decode cX4_inState 1 = .ok (.istore 4, 2) := by decide +kernel
theorem dX4_inState_3 : decode cX4_inState 3 = .ok (.iload 4, 2) := by decide +kernel
theorem dX4_inState_5 : decode cX4_inState 5 = .ok (.aload_n 0, 1) := by decide +kernel
theorem dX4_inState_6 : decode cX4_inState 6 = .ok (.getfield 65, 3) := by decide +kernel
theorem dX4_inState_9 : decode cX4_inState 9 = .ok (.if_icmp .ge 131, 3) := by decide +kernel
theorem dX4_inState_12 : decode cX4_inState 12 = .ok (.iconst 0, 1) := by decide +kernel
theorem dX4_inState_13 : decode cX4_inState 13 = .ok (.istore 5, 2) := by decide +kernel
theorem dX4_inState_15 : decode cX4_inState 15 = .ok (.iconst 0, 1) := by decide +kernel
theorem dX4_inState_16 : decode cX4_inState 16 = .ok (.istore 6, 2) := by decide +kernel
theorem dX4_inState_18 : decode cX4_inState 18 = .ok (.iload 6, 2) := by decide +kernel
theorem dX4_inState_20 : decode cX4_inState 20 = .ok (.aload_n 0, 1) := by decide +kernel
theorem dX4_inState_21 : decode cX4_inState 21 = .ok (.getfield 65, 3) := by decide +kernel
theorem dX4_inState_24 : decode cX4_inState 24 = .ok (.if_icmp .ge 75, 3) := by decide +kernel
theorem dX4_inState_27 : decode cX4_inState 27 = .ok (.aload_n 0, 1) := by decide +kernel
theorem dX4_inState_28 : decode cX4_inState 28 = .ok (.getfield 16, 3) := by decide +kernel
theorem dX4_inState_31 : decode cX4_inState 31 = .ok (.iload 6, 2) := by decide +kernel
theorem dX4_inState_33 : decode cX4_inState 33 = .ok (.iaload, 1) := by decide +kernel
theorem dX4_inState_34 : decode cX4_inState 34 = .ok (.iload_n 1, 1) := by decide +kernel
theorem dX4_inState_35 : decode cX4_inState 35 = .ok (.if_icmp .ne 39, 3) := by decide +kernel
theorem dX4_inState_38 : decode cX4_inState 38 = .ok (.iload_n 2, 1) := by decide +kernel
theorem dX4_inState_39 : decode cX4_inState 39 = .ok (.ifCond .lt 14, 3) := by decide +kernel
theorem dX4_inState_42 : decode cX4_inState 42 = .ok (.aload_n 0, 1) := by decide +kernel
theorem dX4_inState_43 : decode cX4_inState 43 = .ok (.getfield 40, 3) := by decide +kernel
theorem dX4_inState_46 : decode cX4_inState 46 = .ok (.iload 6, 2) := by decide +kernel
theorem dX4_inState_48 : decode cX4_inState 48 = .ok (.iaload, 1) := by decide +kernel
theorem dX4_inState_49 : decode cX4_inState 49 = .ok (.iload_n 2, 1) := by decide +kernel
theorem dX4_inState_50 : decode cX4_inState 50 = .ok (.if_icmp .ne 24, 3) := by decide +kernel
theorem dX4_inState_53 : decode cX4_inState 53 = .ok (.aload_n 0, 1) := by decide +kernel
theorem dX4_inState_54 : decode cX4_inState 54 = .ok (.getfield 46, 3) := by decide +kernel
theorem dX4_inState_57 : decode cX4_inState 57 = .ok (.iload 6, 2) := by decide +kernel
theorem dX4_inState_59 : decode cX4_inState 59 = .ok (.iaload, 1) := by decide +kernel
theorem dX4_inState_60 : decode cX4_inState 60 = .ok (.aload_n 0, 1) := by decide +kernel
theorem dX4_inState_61 : decode cX4_inState 61 = .ok (.getfield 46, 3) := by decide +kernel
theorem dX4_inState_64 : decode cX4_inState 64 = .ok (.iload 4, 2) := by decide +kernel
theorem dX4_inState_66 : decode cX4_inState 66 = .ok (.iaload, 1) := by decide +kernel
theorem dX4_inState_67 : decode cX4_inState 67 = .ok (.if_icmp .ge 7, 3) := by decide +kernel
theorem dX4_inState_70 : decode cX4_inState 70 = .ok (.iconst 1, 1) := by decide +kernel
theorem dX4_inState_71 : decode cX4_inState 71 = .ok (.goto 4, 3) := by decide +kernel
theorem dX4_inState_74 : decode cX4_inState 74 = .ok (.iconst 0, 1) := by decide +kernel
theorem dX4_inState_75 : decode cX4_inState 75 = .ok (.istore 7, 2) := by decide +kernel
theorem dX4_inState_77 : decode cX4_inState 77 = .ok (.iload 7, 2) := by decide +kernel
theorem dX4_inState_79 : decode cX4_inState 79 = .ok (.ifCond .eq 10, 3) := by decide +kernel
theorem dX4_inState_82 : decode cX4_inState 82 = .ok (.iload 5, 2) := by decide +kernel
theorem dX4_inState_84 : decode cX4_inState 84 = .ok (.iconst 1, 1) := by decide +kernel
theorem dX4_inState_85 : decode cX4_inState 85 = .ok (.iadd, 1) := by decide +kernel
theorem dX4_inState_86 : decode cX4_inState 86 = .ok (.goto 5, 3) := by decide +kernel
theorem dX4_inState_89 : decode cX4_inState 89 = .ok (.iload 5, 2) := by decide +kernel
theorem dX4_inState_91 : decode cX4_inState 91 = .ok (.istore 5, 2) := by decide +kernel
theorem dX4_inState_93 : decode cX4_inState 93 = .ok (.iinc 6 1, 3) := by decide +kernel
theorem dX4_inState_96 : decode cX4_inState 96 = .ok (.goto (-78), 3) := by decide +kernel
theorem dX4_inState_99 : decode cX4_inState 99 = .ok (.aload_n 0, 1) := by decide +kernel
theorem dX4_inState_100 : decode cX4_inState 100 = .ok (.getfield 16, 3) := by decide +kernel
theorem dX4_inState_103 : decode cX4_inState 103 = .ok (.iload 4, 2) := by decide +kernel
theorem dX4_inState_105 : decode cX4_inState 105 = .ok (.iaload, 1) := by decide +kernel
theorem dX4_inState_106 : decode cX4_inState 106 = .ok (.iload_n 1, 1) := by decide +kernel
theorem dX4_inState_107 : decode cX4_inState 107 = .ok (.if_icmp .ne 27, 3) := by decide +kernel
theorem dX4_inState_110 : decode cX4_inState 110 = .ok (.iload_n 2, 1) := by decide +kernel
theorem dX4_inState_111 : decode cX4_inState 111 = .ok (.ifCond .lt 14, 3) := by decide +kernel
theorem dX4_inState_114 : decode cX4_inState 114 = .ok (.aload_n 0, 1) := by decide +kernel
theorem dX4_inState_115 : decode cX4_inState 115 = .ok (.getfield 40, 3) := by decide +kernel
theorem dX4_inState_118 : decode cX4_inState 118 = .ok (.iload 4, 2) := by decide +kernel
theorem dX4_inState_120 : decode cX4_inState 120 = .ok (.iaload, 1) := by decide +kernel
theorem dX4_inState_121 : decode cX4_inState 121 = .ok (.iload_n 2, 1) := by decide +kernel
theorem dX4_inState_122 : decode cX4_inState 122 = .ok (.if_icmp .ne 12, 3) := by decide +kernel
theorem dX4_inState_125 : decode cX4_inState 125 = .ok (.iload 5, 2) := by decide +kernel
theorem dX4_inState_127 : decode cX4_inState 127 = .ok (.iload_n 3, 1) := by decide +kernel
theorem dX4_inState_128 : decode cX4_inState 128 = .ok (.if_icmp .ne 6, 3) := by decide +kernel
theorem dX4_inState_131 : decode cX4_inState 131 = .ok (.iload 4, 2) := by decide +kernel
theorem dX4_inState_133 : decode cX4_inState 133 = .ok (.ireturn, 1) := by decide +kernel
theorem dX4_inState_134 : decode cX4_inState 134 = .ok (.iinc 4 1, 3) := by decide +kernel
theorem dX4_inState_137 : decode cX4_inState 137 = .ok (.goto (-134), 3) := by decide +kernel
theorem dX4_inState_140 : decode cX4_inState 140 = .ok (.iconst (-1), 1) := by decide +kernel
theorem dX4_inState_141 : decode cX4_inState 141 = .ok (.ireturn, 1) := by decide +kernel
theorem dX4_next_0 : decode cX4_next 0 = .ok (.iconst (-1), 1) := by decide +kernel
theorem dX4_next_1 : decode cX4_next 1 = .ok (.istore_n 1, 1) := by decide +kernel
theorem dX4_next_2 : decode cX4_next 2 = .ok (.iconst 0, 1) := by decide +kernel
theorem dX4_next_3 : decode cX4_next 3 = .ok (.istore_n 2, 1) := by decide +kernel
theorem dX4_next_4 : decode cX4_next 4 = .ok (.iload_n 2, 1) := by decide +kernel
theorem dX4_next_5 : decode cX4_next 5 = .ok (.aload_n 0, 1) := by decide +kernel
theorem dX4_next_6 : decode cX4_next 6 = .ok (.getfield 65, 3) := by decide +kernel
theorem dX4_next_9 : decode cX4_next 9 = .ok (.if_icmp .ge 84, 3) := by decide +kernel
theorem dX4_next_12 : decode cX4_next 12 = .ok (.aload_n 0, 1) := by decide +kernel
theorem dX4_next_13 : decode cX4_next 13 = .ok (.getfield 16, 3) := by decide +kernel
theorem dX4_next_16 : decode cX4_next 16 = .ok (.iload_n 2, 1) := by decide +kernel
theorem dX4_next_17 : decode cX4_next 17 = .ok (.iaload, 1) := by decide +kernel
theorem dX4_next_18 : decode cX4_next 18 = .ok (.iconst 1, 1) := by decide +kernel
theorem dX4_next_19 : decode cX4_next 19 = .ok (.if_icmp .ne 56, 3) := by decide +kernel
theorem dX4_next_22 : decode cX4_next 22 = .ok (.iload_n 1, 1) := by decide +kernel
theorem dX4_next_23 : decode cX4_next 23 = .ok (.ifCond .lt 48, 3) := by decide +kernel
theorem dX4_next_26 : decode cX4_next 26 = .ok (.aload_n 0, 1) := by decide +kernel
theorem dX4_next_27 : decode cX4_next 27 = .ok (.getfield 19, 3) := by decide +kernel
theorem dX4_next_30 : decode cX4_next 30 = .ok (.iload_n 2, 1) := by decide +kernel
theorem dX4_next_31 : decode cX4_next 31 = .ok (.iaload, 1) := by decide +kernel
theorem dX4_next_32 : decode cX4_next 32 = .ok (.aload_n 0, 1) := by decide +kernel
theorem dX4_next_33 : decode cX4_next 33 = .ok (.getfield 19, 3) := by decide +kernel
theorem dX4_next_36 : decode cX4_next 36 = .ok (.iload_n 1, 1) := by decide +kernel
theorem dX4_next_37 : decode cX4_next 37 = .ok (.iaload, 1) := by decide +kernel
theorem dX4_next_38 : decode cX4_next 38 = .ok (.if_icmp .gt 33, 3) := by decide +kernel
theorem dX4_next_41 : decode cX4_next 41 = .ok (.aload_n 0, 1) := by decide +kernel
theorem dX4_next_42 : decode cX4_next 42 = .ok (.getfield 19, 3) := by decide +kernel
theorem dX4_next_45 : decode cX4_next 45 = .ok (.iload_n 2, 1) := by decide +kernel
theorem dX4_next_46 : decode cX4_next 46 = .ok (.iaload, 1) := by decide +kernel
theorem dX4_next_47 : decode cX4_next 47 = .ok (.aload_n 0, 1) := by decide +kernel
theorem dX4_next_48 : decode cX4_next 48 = .ok (.getfield 19, 3) := by decide +kernel
theorem dX4_next_51 : decode cX4_next 51 = .ok (.iload_n 1, 1) := by decide +kernel
theorem dX4_next_52 : decode cX4_next 52 = .ok (.iaload, 1) := by decide +kernel
theorem dX4_next_53 : decode cX4_next 53 = .ok (.if_icmp .ne 22, 3) := by decide +kernel
theorem dX4_next_56 : decode cX4_next 56 = .ok (.aload_n 0, 1) := by decide +kernel
theorem dX4_next_57 : decode cX4_next 57 = .ok (.getfield 46, 3) := by decide +kernel
theorem dX4_next_60 : decode cX4_next 60 = .ok (.iload_n 2, 1) := by decide +kernel
theorem dX4_next_61 : decode cX4_next 61 = .ok (.iaload, 1) := by decide +kernel
theorem dX4_next_62 : decode cX4_next 62 = .ok (.aload_n 0, 1) := by decide +kernel
theorem dX4_next_63 : decode cX4_next 63 = .ok (.getfield 46, 3) := by decide +kernel
theorem dX4_next_66 : decode cX4_next 66 = .ok (.iload_n 1, 1) := by decide +kernel
theorem dX4_next_67 : decode cX4_next 67 = .ok (.iaload, 1) := by decide +kernel
theorem dX4_next_68 : decode cX4_next 68 = .ok (.if_icmp .ge 7, 3) := by decide +kernel
theorem dX4_next_71 : decode cX4_next 71 = .ok (.iconst 1, 1) := by decide +kernel
theorem dX4_next_72 : decode cX4_next 72 = .ok (.goto 4, 3) := by decide +kernel
theorem dX4_next_75 : decode cX4_next 75 = .ok (.iconst 0, 1) := by decide +kernel
theorem dX4_next_76 : decode cX4_next 76 = .ok (.istore_n 3, 1) := by decide +kernel
theorem dX4_next_77 : decode cX4_next 77 = .ok (.iload_n 3, 1) := by decide +kernel
theorem dX4_next_78 : decode cX4_next 78 = .ok (.ifCond .eq 7, 3) := by decide +kernel
theorem dX4_next_81 : decode cX4_next 81 = .ok (.iload_n 2, 1) := by decide +kernel
theorem dX4_next_82 : decode cX4_next 82 = .ok (.goto 4, 3) := by decide +kernel
theorem dX4_next_85 : decode cX4_next 85 = .ok (.iload_n 1, 1) := by decide +kernel
theorem dX4_next_86 : decode cX4_next 86 = .ok (.istore_n 1, 1) := by decide +kernel
theorem dX4_next_87 : decode cX4_next 87 = .ok (.iinc 2 1, 3) := by decide +kernel
theorem dX4_next_90 : decode cX4_next 90 = .ok (.goto (-86), 3) := by decide +kernel
theorem dX4_next_93 : decode cX4_next 93 = .ok (.iload_n 1, 1) := by decide +kernel
theorem dX4_next_94 : decode cX4_next 94 = .ok (.ireturn, 1) := by decide +kernel
theorem dX4_fall_0 : decode cX4_fall 0 = .ok (.aload_n 0, 1) := by decide +kernel
theorem dX4_fall_1 : decode cX4_fall 1 = .ok (.aload_n 0, 1) := by decide +kernel
theorem dX4_fall_2 : decode cX4_fall 2 = .ok (.getfield 89, 3) := by decide +kernel
theorem dX4_fall_5 : decode cX4_fall 5 = .ok (.ifCond .ne 7, 3) := by decide +kernel
theorem dX4_fall_8 : decode cX4_fall 8 = .ok (.iload_n 1, 1) := by decide +kernel
theorem dX4_fall_9 : decode cX4_fall 9 = .ok (.goto 7, 3) := by decide +kernel
theorem dX4_fall_12 : decode cX4_fall 12 = .ok (.aload_n 0, 1) := by decide +kernel
theorem dX4_fall_13 : decode cX4_fall 13 = .ok (.getfield 89, 3) := by decide +kernel
theorem dX4_fall_16 : decode cX4_fall 16 = .ok (.putfield 89, 3) := by decide +kernel
theorem dX4_fall_19 : decode cX4_fall 19 = .ok (.return_, 1) := by decide +kernel
theorem dX4_take_0 : decode cX4_take 0 = .ok (.aload_n 0, 1) := by decide +kernel
theorem dX4_take_1 : decode cX4_take 1 = .ok (.getfield 25, 3) := by decide +kernel
theorem dX4_take_4 : decode cX4_take 4 = .ok (.aload_n 0, 1) := by decide +kernel
theorem dX4_take_5 : decode cX4_take 5 = .ok (.getfield 92, 3) := by decide +kernel
theorem dX4_take_8 : decode cX4_take 8 = .ok (.iaload, 1) := by decide +kernel
theorem dX4_take_9 : decode cX4_take 9 = .ok (.ifCond .ne 8, 3) := by decide +kernel
theorem dX4_take_12 : decode cX4_take 12 = .ok (.aload_n 0, 1) := by decide +kernel
theorem dX4_take_13 : decode cX4_take 13 = .ok (.iconst 1, 1) := by decide +kernel
theorem dX4_take_14 : decode cX4_take 14 = .ok (.invokevirtual 95, 3) := by decide +kernel
theorem dX4_take_17 : decode cX4_take 17 = .ok (.aload_n 0, 1) := by decide +kernel
theorem dX4_take_18 : decode cX4_take 18 = .ok (.getfield 89, 3) := by decide +kernel
theorem dX4_take_21 : decode cX4_take 21 = .ok (.ifCond .le 5, 3) := by decide +kernel
theorem dX4_take_24 : decode cX4_take 24 = .ok (.iconst 0, 1) := by decide +kernel
theorem dX4_take_25 : decode cX4_take 25 = .ok (.ireturn, 1) := by decide +kernel
theorem dX4_take_26 : decode cX4_take 26 = .ok (.aload_n 0, 1) := by decide +kernel
theorem dX4_take_27 : decode cX4_take 27 = .ok (.getfield 25, 3) := by decide +kernel
theorem dX4_take_30 : decode cX4_take 30 = .ok (.aload_n 0, 1) := by decide +kernel
theorem dX4_take_31 : decode cX4_take 31 = .ok (.getfield 92, 3) := by decide +kernel
theorem dX4_take_34 : decode cX4_take 34 = .ok (.dup2, 1) := by decide +kernel
theorem dX4_take_35 : decode cX4_take 35 = .ok (.iaload, 1) := by decide +kernel
theorem dX4_take_36 : decode cX4_take 36 = .ok (.iconst 1, 1) := by decide +kernel
theorem dX4_take_37 : decode cX4_take 37 = .ok (.isub, 1) := by decide +kernel
theorem dX4_take_38 : decode cX4_take 38 = .ok (.iastore, 1) := by decide +kernel
theorem dX4_take_39 : decode cX4_take 39 = .ok (.aload_n 0, 1) := by decide +kernel
theorem dX4_take_40 : decode cX4_take 40 = .ok (.getfield 28, 3) := by decide +kernel
theorem dX4_take_43 : decode cX4_take 43 = .ok (.bipush 16, 2) := by decide +kernel
theorem dX4_take_45 : decode cX4_take 45 = .ok (.aload_n 0, 1) := by decide +kernel
theorem dX4_take_46 : decode cX4_take 46 = .ok (.getfield 92, 3) := by decide +kernel
theorem dX4_take_49 : decode cX4_take 49 = .ok (.imul, 1) := by decide +kernel
theorem dX4_take_50 : decode cX4_take 50 = .ok (.aload_n 0, 1) := by decide +kernel
theorem dX4_take_51 : decode cX4_take 51 = .ok (.getfield 25, 3) := by decide +kernel
theorem dX4_take_54 : decode cX4_take 54 = .ok (.aload_n 0, 1) := by decide +kernel
theorem dX4_take_55 : decode cX4_take 55 = .ok (.getfield 92, 3) := by decide +kernel
theorem dX4_take_58 : decode cX4_take 58 = .ok (.iaload, 1) := by decide +kernel
theorem dX4_take_59 : decode cX4_take 59 = .ok (.iadd, 1) := by decide +kernel
theorem dX4_take_60 : decode cX4_take 60 = .ok (.iaload, 1) := by decide +kernel
theorem dX4_take_61 : decode cX4_take 61 = .ok (.ireturn, 1) := by decide +kernel
theorem dX4_give_0 : decode cX4_give 0 = .ok (.aload_n 0, 1) := by decide +kernel
theorem dX4_give_1 : decode cX4_give 1 = .ok (.getfield 28, 3) := by decide +kernel
theorem dX4_give_4 : decode cX4_give 4 = .ok (.bipush 16, 2) := by decide +kernel
theorem dX4_give_6 : decode cX4_give 6 = .ok (.iload_n 1, 1) := by decide +kernel
theorem dX4_give_7 : decode cX4_give 7 = .ok (.imul, 1) := by decide +kernel
theorem dX4_give_8 : decode cX4_give 8 = .ok (.aload_n 0, 1) := by decide +kernel
theorem dX4_give_9 : decode cX4_give 9 = .ok (.getfield 25, 3) := by decide +kernel
theorem dX4_give_12 : decode cX4_give 12 = .ok (.iload_n 1, 1) := by decide +kernel
theorem dX4_give_13 : decode cX4_give 13 = .ok (.iaload, 1) := by decide +kernel
theorem dX4_give_14 : decode cX4_give 14 = .ok (.iadd, 1) := by decide +kernel
theorem dX4_give_15 : decode cX4_give 15 = .ok (.iload_n 2, 1) := by decide +kernel
theorem dX4_give_16 : decode cX4_give 16 = .ok (.iastore, 1) := by decide +kernel
theorem dX4_give_17 : decode cX4_give 17 = .ok (.aload_n 0, 1) := by decide +kernel
theorem dX4_give_18 : decode cX4_give 18 = .ok (.getfield 25, 3) := by decide +kernel
theorem dX4_give_21 : decode cX4_give 21 = .ok (.iload_n 1, 1) := by decide +kernel
theorem dX4_give_22 : decode cX4_give 22 = .ok (.dup2, 1) := by decide +kernel
theorem dX4_give_23 : decode cX4_give 23 = .ok (.iaload, 1) := by decide +kernel
theorem dX4_give_24 : decode cX4_give 24 = .ok (.iconst 1, 1) := by decide +kernel
theorem dX4_give_25 : decode cX4_give 25 = .ok (.iadd, 1) := by decide +kernel
theorem dX4_give_26 : decode cX4_give 26 = .ok (.iastore, 1) := by decide +kernel
theorem dX4_give_27 : decode cX4_give 27 = .ok (.return_, 1) := by decide +kernel
theorem dX4_put_0 : decode cX4_put 0 = .ok (.aload_n 0, 1) := by decide +kernel
theorem dX4_put_1 : decode cX4_put 1 = .ok (.getfield 25, 3) := by decide +kernel
theorem dX4_put_4 : decode cX4_put 4 = .ok (.aload_n 0, 1) := by decide +kernel
theorem dX4_put_5 : decode cX4_put 5 = .ok (.getfield 92, 3) := by decide +kernel
theorem dX4_put_8 : decode cX4_put 8 = .ok (.iaload, 1) := by decide +kernel
theorem dX4_put_9 : decode cX4_put 9 = .ok (.aload_n 0, 1) := by decide +kernel
theorem dX4_put_10 : decode cX4_put 10 = .ok (.getfield 69, 3) := by decide +kernel
theorem dX4_put_13 : decode cX4_put 13 = .ok (.if_icmp .ne 8, 3) := by decide +kernel
theorem dX4_put_16 : decode cX4_put 16 = .ok (.aload_n 0, 1) := by decide +kernel
theorem dX4_put_17 : decode cX4_put 17 = .ok (.iconst 1, 1) := by decide +kernel
theorem dX4_put_18 : decode cX4_put 18 = .ok (.invokevirtual 95, 3) := by decide +kernel
theorem dX4_put_21 : decode cX4_put 21 = .ok (.aload_n 0, 1) := by decide +kernel
theorem dX4_put_22 : decode cX4_put 22 = .ok (.getfield 89, 3) := by decide +kernel
theorem dX4_put_25 : decode cX4_put 25 = .ok (.ifCond .ne 12, 3) := by decide +kernel
theorem dX4_put_28 : decode cX4_put 28 = .ok (.aload_n 0, 1) := by decide +kernel
theorem dX4_put_29 : decode cX4_put 29 = .ok (.aload_n 0, 1) := by decide +kernel
theorem dX4_put_30 : decode cX4_put 30 = .ok (.getfield 92, 3) := by decide +kernel
theorem dX4_put_33 : decode cX4_put 33 = .ok (.iload_n 1, 1) := by decide +kernel
theorem dX4_put_34 : decode cX4_put 34 = .ok (.invokevirtual 99, 3) := by decide +kernel
theorem dX4_put_37 : decode cX4_put 37 = .ok (.return_, 1) := by decide +kernel
theorem dX4_append_0 : decode cX4_append 0 = .ok (.aload_n 0, 1) := by decide +kernel
theorem dX4_append_1 : decode cX4_append 1 = .ok (.getfield 55, 3) := by decide +kernel
theorem dX4_append_4 : decode cX4_append 4 = .ok (.bipush 6, 2) := by decide +kernel
theorem dX4_append_6 : decode cX4_append 6 = .ok (.iload_n 1, 1) := by decide +kernel
theorem dX4_append_7 : decode cX4_append 7 = .ok (.imul, 1) := by decide +kernel
theorem dX4_append_8 : decode cX4_append 8 = .ok (.aload_n 0, 1) := by decide +kernel
theorem dX4_append_9 : decode cX4_append 9 = .ok (.getfield 52, 3) := by decide +kernel
theorem dX4_append_12 : decode cX4_append 12 = .ok (.iload_n 1, 1) := by decide +kernel
theorem dX4_append_13 : decode cX4_append 13 = .ok (.iaload, 1) := by decide +kernel
theorem dX4_append_14 : decode cX4_append 14 = .ok (.iadd, 1) := by decide +kernel
theorem dX4_append_15 : decode cX4_append 15 = .ok (.iload_n 2, 1) := by decide +kernel
theorem dX4_append_16 : decode cX4_append 16 = .ok (.iastore, 1) := by decide +kernel
theorem dX4_append_17 : decode cX4_append 17 = .ok (.aload_n 0, 1) := by decide +kernel
theorem dX4_append_18 : decode cX4_append 18 = .ok (.getfield 52, 3) := by decide +kernel
theorem dX4_append_21 : decode cX4_append 21 = .ok (.iload_n 1, 1) := by decide +kernel
theorem dX4_append_22 : decode cX4_append 22 = .ok (.dup2, 1) := by decide +kernel
theorem dX4_append_23 : decode cX4_append 23 = .ok (.iaload, 1) := by decide +kernel
theorem dX4_append_24 : decode cX4_append 24 = .ok (.iconst 1, 1) := by decide +kernel
theorem dX4_append_25 : decode cX4_append 25 = .ok (.iadd, 1) := by decide +kernel
theorem dX4_append_26 : decode cX4_append 26 = .ok (.iastore, 1) := by decide +kernel
theorem dX4_append_27 : decode cX4_append 27 = .ok (.return_, 1) := by decide +kernel
theorem dX4_noQueue_0 : decode cX4_noQueue 0 = .ok (.iload_n 1, 1) := by decide +kernel
theorem dX4_noQueue_1 : decode cX4_noQueue 1 = .ok (.ifCond .lt 11, 3) := by decide +kernel
theorem dX4_noQueue_4 : decode cX4_noQueue 4 = .ok (.iload_n 1, 1) := by decide +kernel
theorem dX4_noQueue_5 : decode cX4_noQueue 5 = .ok (.aload_n 0, 1) := by decide +kernel
theorem dX4_noQueue_6 : decode cX4_noQueue 6 = .ok (.getfield 72, 3) := by decide +kernel
theorem dX4_noQueue_9 : decode cX4_noQueue 9 = .ok (.if_icmp .lt 9, 3) := by decide +kernel
theorem dX4_noQueue_12 : decode cX4_noQueue 12 = .ok (.aload_n 0, 1) := by decide +kernel
theorem dX4_noQueue_13 : decode cX4_noQueue 13 = .ok (.bipush 6, 2) := by decide +kernel
theorem dX4_noQueue_15 : decode cX4_noQueue 15 = .ok (.invokevirtual 95, 3) := by decide +kernel
theorem dX4_noQueue_18 : decode cX4_noQueue 18 = .ok (.aload_n 0, 1) := by decide +kernel
theorem dX4_noQueue_19 : decode cX4_noQueue 19 = .ok (.getfield 89, 3) := by decide +kernel
