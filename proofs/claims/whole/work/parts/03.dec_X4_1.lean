theorem dX4_noQueue_22 : decode cX4_noQueue 22 = .ok (.ifCond .le 7, 3) := by decide +kernel
theorem dX4_noQueue_25 : decode cX4_noQueue 25 = .ok (.iconst 1, 1) := by decide +kernel
theorem dX4_noQueue_26 : decode cX4_noQueue 26 = .ok (.goto 4, 3) := by decide +kernel
theorem dX4_noQueue_29 : decode cX4_noQueue 29 = .ok (.iconst 0, 1) := by decide +kernel
theorem dX4_noQueue_30 : decode cX4_noQueue 30 = .ok (.ireturn, 1) := by decide +kernel
theorem dX4_send_0 : decode cX4_send 0 = .ok (.aload_n 0, 1) := by decide +kernel
theorem dX4_send_1 : decode cX4_send 1 = .ok (.iload_n 1, 1) := by decide +kernel
theorem dX4_send_2 : decode cX4_send 2 = .ok (.invokevirtual 102, 3) := by decide +kernel
theorem dX4_send_5 : decode cX4_send 5 = .ok (.ifCond .eq 4, 3) := by decide +kernel
theorem dX4_send_8 : decode cX4_send 8 = .ok (.return_, 1) := by decide +kernel
theorem dX4_send_9 : decode cX4_send 9 = .ok (.aload_n 0, 1) := by decide +kernel
theorem dX4_send_10 : decode cX4_send 10 = .ok (.invokevirtual 106, 3) := by decide +kernel
theorem dX4_send_13 : decode cX4_send 13 = .ok (.istore_n 2, 1) := by decide +kernel
theorem dX4_send_14 : decode cX4_send 14 = .ok (.aload_n 0, 1) := by decide +kernel
theorem dX4_send_15 : decode cX4_send 15 = .ok (.getfield 89, 3) := by decide +kernel
theorem dX4_send_18 : decode cX4_send 18 = .ok (.ifCond .le 4, 3) := by decide +kernel
theorem dX4_send_21 : decode cX4_send 21 = .ok (.return_, 1) := by decide +kernel
theorem dX4_send_22 : decode cX4_send 22 = .ok (.aload_n 0, 1) := by decide +kernel
theorem dX4_send_23 : decode cX4_send 23 = .ok (.iconst 4, 1) := by decide +kernel
theorem dX4_send_24 : decode cX4_send 24 = .ok (.iload_n 1, 1) := by decide +kernel
theorem dX4_send_25 : decode cX4_send 25 = .ok (.iconst 0, 1) := by decide +kernel
theorem dX4_send_26 : decode cX4_send 26 = .ok (.invokevirtual 109, 3) := by decide +kernel
theorem dX4_send_29 : decode cX4_send 29 = .ok (.istore_n 3, 1) := by decide +kernel
theorem dX4_send_30 : decode cX4_send 30 = .ok (.iload_n 3, 1) := by decide +kernel
theorem dX4_send_31 : decode cX4_send 31 = .ok (.ifCond .lt 18, 3) := by decide +kernel
theorem dX4_send_34 : decode cX4_send 34 = .ok (.aload_n 0, 1) := by decide +kernel
theorem dX4_send_35 : decode cX4_send 35 = .ok (.iload_n 3, 1) := by decide +kernel
theorem dX4_send_36 : decode cX4_send 36 = .ok (.iload_n 2, 1) := by decide +kernel
theorem dX4_send_37 : decode cX4_send 37 = .ok (.invokevirtual 99, 3) := by decide +kernel
theorem dX4_send_40 : decode cX4_send 40 = .ok (.aload_n 0, 1) := by decide +kernel
theorem dX4_send_41 : decode cX4_send 41 = .ok (.iload_n 3, 1) := by decide +kernel
theorem dX4_send_42 : decode cX4_send 42 = .ok (.iconst 1, 1) := by decide +kernel
theorem dX4_send_43 : decode cX4_send 43 = .ok (.invokevirtual 85, 3) := by decide +kernel
theorem dX4_send_46 : decode cX4_send 46 = .ok (.goto 54, 3) := by decide +kernel
theorem dX4_send_49 : decode cX4_send 49 = .ok (.aload_n 0, 1) := by decide +kernel
theorem dX4_send_50 : decode cX4_send 50 = .ok (.getfield 52, 3) := by decide +kernel
theorem dX4_send_53 : decode cX4_send 53 = .ok (.iload_n 1, 1) := by decide +kernel
theorem dX4_send_54 : decode cX4_send 54 = .ok (.iaload, 1) := by decide +kernel
theorem dX4_send_55 : decode cX4_send 55 = .ok (.aload_n 0, 1) := by decide +kernel
theorem dX4_send_56 : decode cX4_send 56 = .ok (.getfield 75, 3) := by decide +kernel
theorem dX4_send_59 : decode cX4_send 59 = .ok (.if_icmp .ge 12, 3) := by decide +kernel
theorem dX4_send_62 : decode cX4_send 62 = .ok (.aload_n 0, 1) := by decide +kernel
theorem dX4_send_63 : decode cX4_send 63 = .ok (.iload_n 1, 1) := by decide +kernel
theorem dX4_send_64 : decode cX4_send 64 = .ok (.iload_n 2, 1) := by decide +kernel
theorem dX4_send_65 : decode cX4_send 65 = .ok (.invokevirtual 112, 3) := by decide +kernel
theorem dX4_send_68 : decode cX4_send 68 = .ok (.goto 32, 3) := by decide +kernel
theorem dX4_send_71 : decode cX4_send 71 = .ok (.aload_n 0, 1) := by decide +kernel
theorem dX4_send_72 : decode cX4_send 72 = .ok (.getfield 43, 3) := by decide +kernel
theorem dX4_send_75 : decode cX4_send 75 = .ok (.aload_n 0, 1) := by decide +kernel
theorem dX4_send_76 : decode cX4_send 76 = .ok (.getfield 92, 3) := by decide +kernel
theorem dX4_send_79 : decode cX4_send 79 = .ok (.iload_n 2, 1) := by decide +kernel
theorem dX4_send_80 : decode cX4_send 80 = .ok (.iastore, 1) := by decide +kernel
theorem dX4_send_81 : decode cX4_send 81 = .ok (.aload_n 0, 1) := by decide +kernel
theorem dX4_send_82 : decode cX4_send 82 = .ok (.getfield 40, 3) := by decide +kernel
theorem dX4_send_85 : decode cX4_send 85 = .ok (.aload_n 0, 1) := by decide +kernel
theorem dX4_send_86 : decode cX4_send 86 = .ok (.getfield 92, 3) := by decide +kernel
theorem dX4_send_89 : decode cX4_send 89 = .ok (.iload_n 1, 1) := by decide +kernel
theorem dX4_send_90 : decode cX4_send 90 = .ok (.iastore, 1) := by decide +kernel
theorem dX4_send_91 : decode cX4_send 91 = .ok (.aload_n 0, 1) := by decide +kernel
theorem dX4_send_92 : decode cX4_send 92 = .ok (.aload_n 0, 1) := by decide +kernel
theorem dX4_send_93 : decode cX4_send 93 = .ok (.getfield 92, 3) := by decide +kernel
theorem dX4_send_96 : decode cX4_send 96 = .ok (.iconst 3, 1) := by decide +kernel
theorem dX4_send_97 : decode cX4_send 97 = .ok (.invokevirtual 85, 3) := by decide +kernel
theorem dX4_send_100 : decode cX4_send 100 = .ok (.return_, 1) := by decide +kernel
theorem dX4_receive_0 : decode cX4_receive 0 = .ok (.aload_n 0, 1) := by decide +kernel
theorem dX4_receive_1 : decode cX4_receive 1 = .ok (.iload_n 1, 1) := by decide +kernel
theorem dX4_receive_2 : decode cX4_receive 2 = .ok (.invokevirtual 102, 3) := by decide +kernel
theorem dX4_receive_5 : decode cX4_receive 5 = .ok (.ifCond .eq 4, 3) := by decide +kernel
theorem dX4_receive_8 : decode cX4_receive 8 = .ok (.return_, 1) := by decide +kernel
theorem dX4_receive_9 : decode cX4_receive 9 = .ok (.aload_n 0, 1) := by decide +kernel
theorem dX4_receive_10 : decode cX4_receive 10 = .ok (.getfield 25, 3) := by decide +kernel
theorem dX4_receive_13 : decode cX4_receive 13 = .ok (.aload_n 0, 1) := by decide +kernel
theorem dX4_receive_14 : decode cX4_receive 14 = .ok (.getfield 92, 3) := by decide +kernel
theorem dX4_receive_17 : decode cX4_receive 17 = .ok (.iaload, 1) := by decide +kernel
theorem dX4_receive_18 : decode cX4_receive 18 = .ok (.aload_n 0, 1) := by decide +kernel
theorem dX4_receive_19 : decode cX4_receive 19 = .ok (.getfield 69, 3) := by decide +kernel
theorem dX4_receive_22 : decode cX4_receive 22 = .ok (.if_icmp .ne 11, 3) := by decide +kernel
theorem dX4_receive_25 : decode cX4_receive 25 = .ok (.aload_n 0, 1) := by decide +kernel
theorem dX4_receive_26 : decode cX4_receive 26 = .ok (.iconst 1, 1) := by decide +kernel
theorem dX4_receive_27 : decode cX4_receive 27 = .ok (.invokevirtual 95, 3) := by decide +kernel
theorem dX4_receive_30 : decode cX4_receive 30 = .ok (.goto 128, 3) := by decide +kernel
theorem dX4_receive_33 : decode cX4_receive 33 = .ok (.aload_n 0, 1) := by decide +kernel
theorem dX4_receive_34 : decode cX4_receive 34 = .ok (.getfield 52, 3) := by decide +kernel
theorem dX4_receive_37 : decode cX4_receive 37 = .ok (.iload_n 1, 1) := by decide +kernel
theorem dX4_receive_38 : decode cX4_receive 38 = .ok (.iaload, 1) := by decide +kernel
theorem dX4_receive_39 : decode cX4_receive 39 = .ok (.ifCond .le 100, 3) := by decide +kernel
theorem dX4_receive_42 : decode cX4_receive 42 = .ok (.aload_n 0, 1) := by decide +kernel
theorem dX4_receive_43 : decode cX4_receive 43 = .ok (.aload_n 0, 1) := by decide +kernel
theorem dX4_receive_44 : decode cX4_receive 44 = .ok (.getfield 55, 3) := by decide +kernel
theorem dX4_receive_47 : decode cX4_receive 47 = .ok (.bipush 6, 2) := by decide +kernel
theorem dX4_receive_49 : decode cX4_receive 49 = .ok (.iload_n 1, 1) := by decide +kernel
theorem dX4_receive_50 : decode cX4_receive 50 = .ok (.imul, 1) := by decide +kernel
theorem dX4_receive_51 : decode cX4_receive 51 = .ok (.iaload, 1) := by decide +kernel
theorem dX4_receive_52 : decode cX4_receive 52 = .ok (.invokevirtual 115, 3) := by decide +kernel
theorem dX4_receive_55 : decode cX4_receive 55 = .ok (.aload_n 0, 1) := by decide +kernel
theorem dX4_receive_56 : decode cX4_receive 56 = .ok (.getfield 52, 3) := by decide +kernel
theorem dX4_receive_59 : decode cX4_receive 59 = .ok (.iload_n 1, 1) := by decide +kernel
theorem dX4_receive_60 : decode cX4_receive 60 = .ok (.dup2, 1) := by decide +kernel
theorem dX4_receive_61 : decode cX4_receive 61 = .ok (.iaload, 1) := by decide +kernel
theorem dX4_receive_62 : decode cX4_receive 62 = .ok (.iconst 1, 1) := by decide +kernel
theorem dX4_receive_63 : decode cX4_receive 63 = .ok (.isub, 1) := by decide +kernel
theorem dX4_receive_64 : decode cX4_receive 64 = .ok (.iastore, 1) := by decide +kernel
theorem dX4_receive_65 : decode cX4_receive 65 = .ok (.iconst 0, 1) := by decide +kernel
theorem dX4_receive_66 : decode cX4_receive 66 = .ok (.istore_n 2, 1) := by decide +kernel
theorem dX4_receive_67 : decode cX4_receive 67 = .ok (.iload_n 2, 1) := by decide +kernel
theorem dX4_receive_68 : decode cX4_receive 68 = .ok (.aload_n 0, 1) := by decide +kernel
theorem dX4_receive_69 : decode cX4_receive 69 = .ok (.getfield 52, 3) := by decide +kernel
theorem dX4_receive_72 : decode cX4_receive 72 = .ok (.iload_n 1, 1) := by decide +kernel
theorem dX4_receive_73 : decode cX4_receive 73 = .ok (.iaload, 1) := by decide +kernel
theorem dX4_receive_74 : decode cX4_receive 74 = .ok (.if_icmp .ge 33, 3) := by decide +kernel
theorem dX4_receive_77 : decode cX4_receive 77 = .ok (.aload_n 0, 1) := by decide +kernel
theorem dX4_receive_78 : decode cX4_receive 78 = .ok (.getfield 55, 3) := by decide +kernel
theorem dX4_receive_81 : decode cX4_receive 81 = .ok (.bipush 6, 2) := by decide +kernel
theorem dX4_receive_83 : decode cX4_receive 83 = .ok (.iload_n 1, 1) := by decide +kernel
theorem dX4_receive_84 : decode cX4_receive 84 = .ok (.imul, 1) := by decide +kernel
theorem dX4_receive_85 : decode cX4_receive 85 = .ok (.iload_n 2, 1) := by decide +kernel
theorem dX4_receive_86 : decode cX4_receive 86 = .ok (.iadd, 1) := by decide +kernel
theorem dX4_receive_87 : decode cX4_receive 87 = .ok (.aload_n 0, 1) := by decide +kernel
theorem dX4_receive_88 : decode cX4_receive 88 = .ok (.getfield 55, 3) := by decide +kernel
theorem dX4_receive_91 : decode cX4_receive 91 = .ok (.bipush 6, 2) := by decide +kernel
theorem dX4_receive_93 : decode cX4_receive 93 = .ok (.iload_n 1, 1) := by decide +kernel
theorem dX4_receive_94 : decode cX4_receive 94 = .ok (.imul, 1) := by decide +kernel
theorem dX4_receive_95 : decode cX4_receive 95 = .ok (.iload_n 2, 1) := by decide +kernel
theorem dX4_receive_96 : decode cX4_receive 96 = .ok (.iadd, 1) := by decide +kernel
theorem dX4_receive_97 : decode cX4_receive 97 = .ok (.iconst 1, 1) := by decide +kernel
theorem dX4_receive_98 : decode cX4_receive 98 = .ok (.iadd, 1) := by decide +kernel
theorem dX4_receive_99 : decode cX4_receive 99 = .ok (.iaload, 1) := by decide +kernel
theorem dX4_receive_100 : decode cX4_receive 100 = .ok (.iastore, 1) := by decide +kernel
theorem dX4_receive_101 : decode cX4_receive 101 = .ok (.iinc 2 1, 3) := by decide +kernel
theorem dX4_receive_104 : decode cX4_receive 104 = .ok (.goto (-37), 3) := by decide +kernel
theorem dX4_receive_107 : decode cX4_receive 107 = .ok (.aload_n 0, 1) := by decide +kernel
theorem dX4_receive_108 : decode cX4_receive 108 = .ok (.iconst 3, 1) := by decide +kernel
theorem dX4_receive_109 : decode cX4_receive 109 = .ok (.iload_n 1, 1) := by decide +kernel
theorem dX4_receive_110 : decode cX4_receive 110 = .ok (.iconst 0, 1) := by decide +kernel
theorem dX4_receive_111 : decode cX4_receive 111 = .ok (.invokevirtual 109, 3) := by decide +kernel
theorem dX4_receive_114 : decode cX4_receive 114 = .ok (.istore_n 2, 1) := by decide +kernel
theorem dX4_receive_115 : decode cX4_receive 115 = .ok (.iload_n 2, 1) := by decide +kernel
theorem dX4_receive_116 : decode cX4_receive 116 = .ok (.ifCond .lt 20, 3) := by decide +kernel
theorem dX4_receive_119 : decode cX4_receive 119 = .ok (.aload_n 0, 1) := by decide +kernel
theorem dX4_receive_120 : decode cX4_receive 120 = .ok (.iload_n 1, 1) := by decide +kernel
theorem dX4_receive_121 : decode cX4_receive 121 = .ok (.aload_n 0, 1) := by decide +kernel
theorem dX4_receive_122 : decode cX4_receive 122 = .ok (.getfield 43, 3) := by decide +kernel
theorem dX4_receive_125 : decode cX4_receive 125 = .ok (.iload_n 2, 1) := by decide +kernel
theorem dX4_receive_126 : decode cX4_receive 126 = .ok (.iaload, 1) := by decide +kernel
theorem dX4_receive_127 : decode cX4_receive 127 = .ok (.invokevirtual 112, 3) := by decide +kernel
theorem dX4_receive_130 : decode cX4_receive 130 = .ok (.aload_n 0, 1) := by decide +kernel
theorem dX4_receive_131 : decode cX4_receive 131 = .ok (.iload_n 2, 1) := by decide +kernel
theorem dX4_receive_132 : decode cX4_receive 132 = .ok (.iconst 1, 1) := by decide +kernel
theorem dX4_receive_133 : decode cX4_receive 133 = .ok (.invokevirtual 85, 3) := by decide +kernel
theorem dX4_receive_136 : decode cX4_receive 136 = .ok (.goto 22, 3) := by decide +kernel
theorem dX4_receive_139 : decode cX4_receive 139 = .ok (.aload_n 0, 1) := by decide +kernel
theorem dX4_receive_140 : decode cX4_receive 140 = .ok (.getfield 40, 3) := by decide +kernel
theorem dX4_receive_143 : decode cX4_receive 143 = .ok (.aload_n 0, 1) := by decide +kernel
theorem dX4_receive_144 : decode cX4_receive 144 = .ok (.getfield 92, 3) := by decide +kernel
theorem dX4_receive_147 : decode cX4_receive 147 = .ok (.iload_n 1, 1) := by decide +kernel
theorem dX4_receive_148 : decode cX4_receive 148 = .ok (.iastore, 1) := by decide +kernel
theorem dX4_receive_149 : decode cX4_receive 149 = .ok (.aload_n 0, 1) := by decide +kernel
theorem dX4_receive_150 : decode cX4_receive 150 = .ok (.aload_n 0, 1) := by decide +kernel
theorem dX4_receive_151 : decode cX4_receive 151 = .ok (.getfield 92, 3) := by decide +kernel
theorem dX4_receive_154 : decode cX4_receive 154 = .ok (.iconst 4, 1) := by decide +kernel
theorem dX4_receive_155 : decode cX4_receive 155 = .ok (.invokevirtual 85, 3) := by decide +kernel
theorem dX4_receive_158 : decode cX4_receive 158 = .ok (.return_, 1) := by decide +kernel
theorem dX4_isPlace_0 : decode cX4_isPlace 0 = .ok (.iload_n 0, 1) := by decide +kernel
theorem dX4_isPlace_1 : decode cX4_isPlace 1 = .ok (.ifCond .lt 13, 3) := by decide +kernel
theorem dX4_isPlace_4 : decode cX4_isPlace 4 = .ok (.iload_n 0, 1) := by decide +kernel
theorem dX4_isPlace_5 : decode cX4_isPlace 5 = .ok (.bipush 63, 2) := by decide +kernel
theorem dX4_isPlace_7 : decode cX4_isPlace 7 = .ok (.if_icmp .gt 7, 3) := by decide +kernel
theorem dX4_isPlace_10 : decode cX4_isPlace 10 = .ok (.iconst 1, 1) := by decide +kernel
theorem dX4_isPlace_11 : decode cX4_isPlace 11 = .ok (.goto 4, 3) := by decide +kernel
theorem dX4_isPlace_14 : decode cX4_isPlace 14 = .ok (.iconst 0, 1) := by decide +kernel
theorem dX4_isPlace_15 : decode cX4_isPlace 15 = .ok (.ireturn, 1) := by decide +kernel
theorem dX4_jump_0 : decode cX4_jump 0 = .ok (.iload_n 1, 1) := by decide +kernel
theorem dX4_jump_1 : decode cX4_jump 1 = .ok (.invokestatic 118, 3) := by decide +kernel
theorem dX4_jump_4 : decode cX4_jump 4 = .ok (.ifCond .ne 11, 3) := by decide +kernel
theorem dX4_jump_7 : decode cX4_jump 7 = .ok (.aload_n 0, 1) := by decide +kernel
theorem dX4_jump_8 : decode cX4_jump 8 = .ok (.iconst 2, 1) := by decide +kernel
theorem dX4_jump_9 : decode cX4_jump 9 = .ok (.invokevirtual 95, 3) := by decide +kernel
theorem dX4_jump_12 : decode cX4_jump 12 = .ok (.goto 13, 3) := by decide +kernel
theorem dX4_jump_15 : decode cX4_jump 15 = .ok (.aload_n 0, 1) := by decide +kernel
theorem dX4_jump_16 : decode cX4_jump 16 = .ok (.getfield 22, 3) := by decide +kernel
theorem dX4_jump_19 : decode cX4_jump 19 = .ok (.aload_n 0, 1) := by decide +kernel
theorem dX4_jump_20 : decode cX4_jump 20 = .ok (.getfield 92, 3) := by decide +kernel
theorem dX4_jump_23 : decode cX4_jump 23 = .ok (.iload_n 1, 1) := by decide +kernel
theorem dX4_jump_24 : decode cX4_jump 24 = .ok (.iastore, 1) := by decide +kernel
theorem dX4_jump_25 : decode cX4_jump 25 = .ok (.return_, 1) := by decide +kernel
theorem dX4_arithmetic_0 : decode cX4_arithmetic 0 = .ok (.aload_n 0, 1) := by decide +kernel
theorem dX4_arithmetic_1 : decode cX4_arithmetic 1 = .ok (.invokevirtual 106, 3) := by decide +kernel
theorem dX4_arithmetic_4 : decode cX4_arithmetic 4 = .ok (.istore_n 2, 1) := by decide +kernel
theorem dX4_arithmetic_5 : decode cX4_arithmetic 5 = .ok (.aload_n 0, 1) := by decide +kernel
theorem dX4_arithmetic_6 : decode cX4_arithmetic 6 = .ok (.invokevirtual 106, 3) := by decide +kernel
theorem dX4_arithmetic_9 : decode cX4_arithmetic 9 = .ok (.istore_n 3, 1) := by decide +kernel
theorem dX4_arithmetic_10 : decode cX4_arithmetic 10 = .ok (.iload_n 1, 1) := by decide +kernel
theorem dX4_arithmetic_11 : decode cX4_arithmetic 11 = .ok (.iconst 5, 1) := by decide +kernel
theorem dX4_arithmetic_12 : decode cX4_arithmetic 12 = .ok (.if_icmp .ne 12, 3) := by decide +kernel
theorem dX4_arithmetic_15 : decode cX4_arithmetic 15 = .ok (.iload_n 2, 1) := by decide +kernel
theorem dX4_arithmetic_16 : decode cX4_arithmetic 16 = .ok (.ifCond .ne 8, 3) := by decide +kernel
theorem dX4_arithmetic_19 : decode cX4_arithmetic 19 = .ok (.aload_n 0, 1) := by decide +kernel
theorem dX4_arithmetic_20 : decode cX4_arithmetic 20 = .ok (.iconst 3, 1) := by decide +kernel
theorem dX4_arithmetic_21 : decode cX4_arithmetic 21 = .ok (.invokevirtual 95, 3) := by decide +kernel
theorem dX4_arithmetic_24 : decode cX4_arithmetic 24 = .ok (.aload_n 0, 1) := by decide +kernel
theorem dX4_arithmetic_25 : decode cX4_arithmetic 25 = .ok (.getfield 89, 3) := by decide +kernel
theorem dX4_arithmetic_28 : decode cX4_arithmetic 28 = .ok (.ifCond .ne 43, 3) := by decide +kernel
theorem dX4_arithmetic_31 : decode cX4_arithmetic 31 = .ok (.aload_n 0, 1) := by decide +kernel
theorem dX4_arithmetic_32 : decode cX4_arithmetic 32 = .ok (.iload_n 1, 1) := by decide +kernel
theorem dX4_arithmetic_33 : decode cX4_arithmetic 33 = .ok (.iconst 2, 1) := by decide +kernel
theorem dX4_arithmetic_34 : decode cX4_arithmetic 34 = .ok (.if_icmp .ne 9, 3) := by decide +kernel
theorem dX4_arithmetic_37 : decode cX4_arithmetic 37 = .ok (.iload_n 3, 1) := by decide +kernel
theorem dX4_arithmetic_38 : decode cX4_arithmetic 38 = .ok (.iload_n 2, 1) := by decide +kernel
theorem dX4_arithmetic_39 : decode cX4_arithmetic 39 = .ok (.iadd, 1) := by decide +kernel
theorem dX4_arithmetic_40 : decode cX4_arithmetic 40 = .ok (.goto 28, 3) := by decide +kernel
theorem dX4_arithmetic_43 : decode cX4_arithmetic 43 = .ok (.iload_n 1, 1) := by decide +kernel
theorem dX4_arithmetic_44 : decode cX4_arithmetic 44 = .ok (.iconst 3, 1) := by decide +kernel
theorem dX4_arithmetic_45 : decode cX4_arithmetic 45 = .ok (.if_icmp .ne 9, 3) := by decide +kernel
theorem dX4_arithmetic_48 : decode cX4_arithmetic 48 = .ok (.iload_n 3, 1) := by decide +kernel
theorem dX4_arithmetic_49 : decode cX4_arithmetic 49 = .ok (.iload_n 2, 1) := by decide +kernel
theorem dX4_arithmetic_50 : decode cX4_arithmetic 50 = .ok (.isub, 1) := by decide +kernel
theorem dX4_arithmetic_51 : decode cX4_arithmetic 51 = .ok (.goto 17, 3) := by decide +kernel
theorem dX4_arithmetic_54 : decode cX4_arithmetic 54 = .ok (.iload_n 1, 1) := by decide +kernel
theorem dX4_arithmetic_55 : decode cX4_arithmetic 55 = .ok (.iconst 4, 1) := by decide +kernel
theorem dX4_arithmetic_56 : decode cX4_arithmetic 56 = .ok (.if_icmp .ne 9, 3) := by decide +kernel
theorem dX4_arithmetic_59 : decode cX4_arithmetic 59 = .ok (.iload_n 3, 1) := by decide +kernel
theorem dX4_arithmetic_60 : decode cX4_arithmetic 60 = .ok (.iload_n 2, 1) := by decide +kernel
theorem dX4_arithmetic_61 : decode cX4_arithmetic 61 = .ok (.imul, 1) := by decide +kernel
theorem dX4_arithmetic_62 : decode cX4_arithmetic 62 = .ok (.goto 6, 3) := by decide +kernel
theorem dX4_arithmetic_65 : decode cX4_arithmetic 65 = .ok (.iload_n 3, 1) := by decide +kernel
theorem dX4_arithmetic_66 : decode cX4_arithmetic 66 = .ok (.iload_n 2, 1) := by decide +kernel
theorem dX4_arithmetic_67 : decode cX4_arithmetic 67 = .ok (.idiv, 1) := by decide +kernel
theorem dX4_arithmetic_68 : decode cX4_arithmetic 68 = .ok (.invokevirtual 115, 3) := by decide +kernel
theorem dX4_arithmetic_71 : decode cX4_arithmetic 71 = .ok (.return_, 1) := by decide +kernel
theorem dX4_stackOp_0 : decode cX4_stackOp 0 = .ok (.iload_n 1, 1) := by decide +kernel
theorem dX4_stackOp_1 : decode cX4_stackOp 1 = .ok (.iconst 1, 1) := by decide +kernel
theorem dX4_stackOp_2 : decode cX4_stackOp 2 = .ok (.if_icmp .eq 15, 3) := by decide +kernel
theorem dX4_stackOp_5 : decode cX4_stackOp 5 = .ok (.iload_n 1, 1) := by decide +kernel
theorem dX4_stackOp_6 : decode cX4_stackOp 6 = .ok (.bipush 23, 2) := by decide +kernel
theorem dX4_stackOp_8 : decode cX4_stackOp 8 = .ok (.if_icmp .eq 9, 3) := by decide +kernel
theorem dX4_stackOp_11 : decode cX4_stackOp 11 = .ok (.iload_n 1, 1) := by decide +kernel
theorem dX4_stackOp_12 : decode cX4_stackOp 12 = .ok (.bipush 24, 2) := by decide +kernel
theorem dX4_stackOp_14 : decode cX4_stackOp 14 = .ok (.if_icmp .ne 7, 3) := by decide +kernel
theorem dX4_stackOp_17 : decode cX4_stackOp 17 = .ok (.iconst 0, 1) := by decide +kernel
theorem dX4_stackOp_18 : decode cX4_stackOp 18 = .ok (.goto 7, 3) := by decide +kernel
theorem dX4_stackOp_21 : decode cX4_stackOp 21 = .ok (.aload_n 0, 1) := by decide +kernel
theorem dX4_stackOp_22 : decode cX4_stackOp 22 = .ok (.invokevirtual 106, 3) := by decide +kernel
theorem dX4_stackOp_25 : decode cX4_stackOp 25 = .ok (.istore_n 3, 1) := by decide +kernel
theorem dX4_stackOp_26 : decode cX4_stackOp 26 = .ok (.iload_n 1, 1) := by decide +kernel
theorem dX4_stackOp_27 : decode cX4_stackOp 27 = .ok (.bipush 8, 2) := by decide +kernel
theorem dX4_stackOp_29 : decode cX4_stackOp 29 = .ok (.if_icmp .eq 9, 3) := by decide +kernel
theorem dX4_stackOp_32 : decode cX4_stackOp 32 = .ok (.iload_n 1, 1) := by decide +kernel
theorem dX4_stackOp_33 : decode cX4_stackOp 33 = .ok (.bipush 19, 2) := by decide +kernel
theorem dX4_stackOp_35 : decode cX4_stackOp 35 = .ok (.if_icmp .ne 10, 3) := by decide +kernel
theorem dX4_stackOp_38 : decode cX4_stackOp 38 = .ok (.aload_n 0, 1) := by decide +kernel
theorem dX4_stackOp_39 : decode cX4_stackOp 39 = .ok (.invokevirtual 106, 3) := by decide +kernel
theorem dX4_stackOp_42 : decode cX4_stackOp 42 = .ok (.goto 4, 3) := by decide +kernel
theorem dX4_stackOp_45 : decode cX4_stackOp 45 = .ok (.iconst 0, 1) := by decide +kernel
theorem dX4_stackOp_46 : decode cX4_stackOp 46 = .ok (.istore 4, 2) := by decide +kernel
theorem dX4_stackOp_48 : decode cX4_stackOp 48 = .ok (.iload_n 1, 1) := by decide +kernel
theorem dX4_stackOp_49 : decode cX4_stackOp 49 = .ok (.lookupswitch 134 #[(1, 59), (6, 67), (8, 80), (19, 94), (23, 112), (24, 123)], 59) := by decide +kernel
theorem dX4_stackOp_108 : decode cX4_stackOp 108 = .ok (.aload_n 0, 1) := by decide +kernel
theorem dX4_stackOp_109 : decode cX4_stackOp 109 = .ok (.iload_n 2, 1) := by decide +kernel
theorem dX4_stackOp_110 : decode cX4_stackOp 110 = .ok (.invokevirtual 115, 3) := by decide +kernel
theorem dX4_stackOp_113 : decode cX4_stackOp 113 = .ok (.goto 70, 3) := by decide +kernel
theorem dX4_stackOp_116 : decode cX4_stackOp 116 = .ok (.aload_n 0, 1) := by decide +kernel
theorem dX4_stackOp_117 : decode cX4_stackOp 117 = .ok (.iload_n 3, 1) := by decide +kernel
theorem dX4_stackOp_118 : decode cX4_stackOp 118 = .ok (.invokevirtual 115, 3) := by decide +kernel
theorem dX4_stackOp_121 : decode cX4_stackOp 121 = .ok (.aload_n 0, 1) := by decide +kernel
theorem dX4_stackOp_122 : decode cX4_stackOp 122 = .ok (.iload_n 3, 1) := by decide +kernel
theorem dX4_stackOp_123 : decode cX4_stackOp 123 = .ok (.invokevirtual 115, 3) := by decide +kernel
theorem dX4_stackOp_126 : decode cX4_stackOp 126 = .ok (.goto 57, 3) := by decide +kernel
theorem dX4_stackOp_129 : decode cX4_stackOp 129 = .ok (.aload_n 0, 1) := by decide +kernel
theorem dX4_stackOp_130 : decode cX4_stackOp 130 = .ok (.iload_n 3, 1) := by decide +kernel
theorem dX4_stackOp_131 : decode cX4_stackOp 131 = .ok (.invokevirtual 115, 3) := by decide +kernel
theorem dX4_stackOp_134 : decode cX4_stackOp 134 = .ok (.aload_n 0, 1) := by decide +kernel
theorem dX4_stackOp_135 : decode cX4_stackOp 135 = .ok (.iload 4, 2) := by decide +kernel
theorem dX4_stackOp_137 : decode cX4_stackOp 137 = .ok (.invokevirtual 115, 3) := by decide +kernel
theorem dX4_stackOp_140 : decode cX4_stackOp 140 = .ok (.goto 43, 3) := by decide +kernel
theorem dX4_stackOp_143 : decode cX4_stackOp 143 = .ok (.aload_n 0, 1) := by decide +kernel
theorem dX4_stackOp_144 : decode cX4_stackOp 144 = .ok (.iload 4, 2) := by decide +kernel
theorem dX4_stackOp_146 : decode cX4_stackOp 146 = .ok (.iload_n 3, 1) := by decide +kernel
theorem dX4_stackOp_147 : decode cX4_stackOp 147 = .ok (.if_icmp .ge 7, 3) := by decide +kernel
theorem dX4_stackOp_150 : decode cX4_stackOp 150 = .ok (.iconst 1, 1) := by decide +kernel
theorem dX4_stackOp_151 : decode cX4_stackOp 151 = .ok (.goto 4, 3) := by decide +kernel
theorem dX4_stackOp_154 : decode cX4_stackOp 154 = .ok (.iconst 0, 1) := by decide +kernel
theorem dX4_stackOp_155 : decode cX4_stackOp 155 = .ok (.invokevirtual 115, 3) := by decide +kernel
theorem dX4_stackOp_158 : decode cX4_stackOp 158 = .ok (.goto 25, 3) := by decide +kernel
theorem dX4_stackOp_161 : decode cX4_stackOp 161 = .ok (.aload_n 0, 1) := by decide +kernel
theorem dX4_stackOp_162 : decode cX4_stackOp 162 = .ok (.aload_n 0, 1) := by decide +kernel
theorem dX4_stackOp_163 : decode cX4_stackOp 163 = .ok (.getfield 92, 3) := by decide +kernel
theorem dX4_stackOp_166 : decode cX4_stackOp 166 = .ok (.invokevirtual 115, 3) := by decide +kernel
theorem dX4_stackOp_169 : decode cX4_stackOp 169 = .ok (.goto 14, 3) := by decide +kernel
theorem dX4_stackOp_172 : decode cX4_stackOp 172 = .ok (.aload_n 0, 1) := by decide +kernel
theorem dX4_stackOp_173 : decode cX4_stackOp 173 = .ok (.aload_n 0, 1) := by decide +kernel
theorem dX4_stackOp_174 : decode cX4_stackOp 174 = .ok (.getfield 121, 3) := by decide +kernel
theorem dX4_stackOp_177 : decode cX4_stackOp 177 = .ok (.invokevirtual 115, 3) := by decide +kernel
theorem dX4_stackOp_180 : decode cX4_stackOp 180 = .ok (.goto 3, 3) := by decide +kernel
theorem dX4_stackOp_183 : decode cX4_stackOp 183 = .ok (.return_, 1) := by decide +kernel
theorem dX4_memoryOp_0 : decode cX4_memoryOp 0 = .ok (.aload_n 0, 1) := by decide +kernel
theorem dX4_memoryOp_1 : decode cX4_memoryOp 1 = .ok (.invokevirtual 106, 3) := by decide +kernel
theorem dX4_memoryOp_4 : decode cX4_memoryOp 4 = .ok (.istore_n 2, 1) := by decide +kernel
theorem dX4_memoryOp_5 : decode cX4_memoryOp 5 = .ok (.iload_n 2, 1) := by decide +kernel
theorem dX4_memoryOp_6 : decode cX4_memoryOp 6 = .ok (.ifCond .lt 9, 3) := by decide +kernel
theorem dX4_memoryOp_9 : decode cX4_memoryOp 9 = .ok (.iload_n 2, 1) := by decide +kernel
theorem dX4_memoryOp_10 : decode cX4_memoryOp 10 = .ok (.bipush 15, 2) := by decide +kernel
theorem dX4_memoryOp_12 : decode cX4_memoryOp 12 = .ok (.if_icmp .le 8, 3) := by decide +kernel
theorem dX4_memoryOp_15 : decode cX4_memoryOp 15 = .ok (.aload_n 0, 1) := by decide +kernel
theorem dX4_memoryOp_16 : decode cX4_memoryOp 16 = .ok (.iconst 2, 1) := by decide +kernel
theorem dX4_memoryOp_17 : decode cX4_memoryOp 17 = .ok (.invokevirtual 95, 3) := by decide +kernel
theorem dX4_memoryOp_20 : decode cX4_memoryOp 20 = .ok (.aload_n 0, 1) := by decide +kernel
theorem dX4_memoryOp_21 : decode cX4_memoryOp 21 = .ok (.getfield 89, 3) := by decide +kernel
theorem dX4_memoryOp_24 : decode cX4_memoryOp 24 = .ok (.ifCond .ne 22, 3) := by decide +kernel
theorem dX4_memoryOp_27 : decode cX4_memoryOp 27 = .ok (.iload_n 1, 1) := by decide +kernel
theorem dX4_memoryOp_28 : decode cX4_memoryOp 28 = .ok (.bipush 9, 2) := by decide +kernel
theorem dX4_memoryOp_30 : decode cX4_memoryOp 30 = .ok (.if_icmp .ne 16, 3) := by decide +kernel
theorem dX4_memoryOp_33 : decode cX4_memoryOp 33 = .ok (.aload_n 0, 1) := by decide +kernel
theorem dX4_memoryOp_34 : decode cX4_memoryOp 34 = .ok (.aload_n 0, 1) := by decide +kernel
theorem dX4_memoryOp_35 : decode cX4_memoryOp 35 = .ok (.getfield 13, 3) := by decide +kernel
theorem dX4_memoryOp_38 : decode cX4_memoryOp 38 = .ok (.iload_n 2, 1) := by decide +kernel
theorem dX4_memoryOp_39 : decode cX4_memoryOp 39 = .ok (.iaload, 1) := by decide +kernel
theorem dX4_memoryOp_40 : decode cX4_memoryOp 40 = .ok (.invokevirtual 115, 3) := by decide +kernel
theorem dX4_memoryOp_43 : decode cX4_memoryOp 43 = .ok (.goto 38, 3) := by decide +kernel
theorem dX4_memoryOp_46 : decode cX4_memoryOp 46 = .ok (.aload_n 0, 1) := by decide +kernel
theorem dX4_memoryOp_47 : decode cX4_memoryOp 47 = .ok (.getfield 89, 3) := by decide +kernel
theorem dX4_memoryOp_50 : decode cX4_memoryOp 50 = .ok (.ifCond .ne 31, 3) := by decide +kernel
theorem dX4_memoryOp_53 : decode cX4_memoryOp 53 = .ok (.aload_n 0, 1) := by decide +kernel
theorem dX4_memoryOp_54 : decode cX4_memoryOp 54 = .ok (.invokevirtual 106, 3) := by decide +kernel
theorem dX4_memoryOp_57 : decode cX4_memoryOp 57 = .ok (.istore_n 3, 1) := by decide +kernel
theorem dX4_memoryOp_58 : decode cX4_memoryOp 58 = .ok (.aload_n 0, 1) := by decide +kernel
theorem dX4_memoryOp_59 : decode cX4_memoryOp 59 = .ok (.getfield 13, 3) := by decide +kernel
theorem dX4_memoryOp_62 : decode cX4_memoryOp 62 = .ok (.iload_n 2, 1) := by decide +kernel
theorem dX4_memoryOp_63 : decode cX4_memoryOp 63 = .ok (.aload_n 0, 1) := by decide +kernel
theorem dX4_memoryOp_64 : decode cX4_memoryOp 64 = .ok (.getfield 89, 3) := by decide +kernel
theorem dX4_memoryOp_67 : decode cX4_memoryOp 67 = .ok (.ifCond .ne 7, 3) := by decide +kernel
theorem dX4_memoryOp_70 : decode cX4_memoryOp 70 = .ok (.iload_n 3, 1) := by decide +kernel
theorem dX4_memoryOp_71 : decode cX4_memoryOp 71 = .ok (.goto 9, 3) := by decide +kernel
theorem dX4_memoryOp_74 : decode cX4_memoryOp 74 = .ok (.aload_n 0, 1) := by decide +kernel
theorem dX4_memoryOp_75 : decode cX4_memoryOp 75 = .ok (.getfield 13, 3) := by decide +kernel
theorem dX4_memoryOp_78 : decode cX4_memoryOp 78 = .ok (.iload_n 2, 1) := by decide +kernel
theorem dX4_memoryOp_79 : decode cX4_memoryOp 79 = .ok (.iaload, 1) := by decide +kernel
theorem dX4_memoryOp_80 : decode cX4_memoryOp 80 = .ok (.iastore, 1) := by decide +kernel
theorem dX4_memoryOp_81 : decode cX4_memoryOp 81 = .ok (.return_, 1) := by decide +kernel
theorem dX4_jumpOp_0 : decode cX4_jumpOp 0 = .ok (.iload_n 1, 1) := by decide +kernel
theorem dX4_jumpOp_1 : decode cX4_jumpOp 1 = .ok (.bipush 11, 2) := by decide +kernel
theorem dX4_jumpOp_3 : decode cX4_jumpOp 3 = .ok (.if_icmp .ne 11, 3) := by decide +kernel
theorem dX4_jumpOp_6 : decode cX4_jumpOp 6 = .ok (.aload_n 0, 1) := by decide +kernel
theorem dX4_jumpOp_7 : decode cX4_jumpOp 7 = .ok (.iload_n 2, 1) := by decide +kernel
theorem dX4_jumpOp_8 : decode cX4_jumpOp 8 = .ok (.invokevirtual 124, 3) := by decide +kernel
theorem dX4_jumpOp_11 : decode cX4_jumpOp 11 = .ok (.goto 196, 3) := by decide +kernel
theorem dX4_jumpOp_14 : decode cX4_jumpOp 14 = .ok (.iload_n 1, 1) := by decide +kernel
theorem dX4_jumpOp_15 : decode cX4_jumpOp 15 = .ok (.bipush 12, 2) := by decide +kernel
theorem dX4_jumpOp_17 : decode cX4_jumpOp 17 = .ok (.if_icmp .ne 27, 3) := by decide +kernel
theorem dX4_jumpOp_20 : decode cX4_jumpOp 20 = .ok (.aload_n 0, 1) := by decide +kernel
theorem dX4_jumpOp_21 : decode cX4_jumpOp 21 = .ok (.invokevirtual 106, 3) := by decide +kernel
theorem dX4_jumpOp_24 : decode cX4_jumpOp 24 = .ok (.istore_n 3, 1) := by decide +kernel
theorem dX4_jumpOp_25 : decode cX4_jumpOp 25 = .ok (.aload_n 0, 1) := by decide +kernel
theorem dX4_jumpOp_26 : decode cX4_jumpOp 26 = .ok (.getfield 89, 3) := by decide +kernel
theorem dX4_jumpOp_29 : decode cX4_jumpOp 29 = .ok (.ifCond .ne 12, 3) := by decide +kernel
theorem dX4_jumpOp_32 : decode cX4_jumpOp 32 = .ok (.iload_n 3, 1) := by decide +kernel
theorem dX4_jumpOp_33 : decode cX4_jumpOp 33 = .ok (.ifCond .ne 8, 3) := by decide +kernel
theorem dX4_jumpOp_36 : decode cX4_jumpOp 36 = .ok (.aload_n 0, 1) := by decide +kernel
theorem dX4_jumpOp_37 : decode cX4_jumpOp 37 = .ok (.iload_n 2, 1) := by decide +kernel
theorem dX4_jumpOp_38 : decode cX4_jumpOp 38 = .ok (.invokevirtual 124, 3) := by decide +kernel
theorem dX4_jumpOp_41 : decode cX4_jumpOp 41 = .ok (.goto 166, 3) := by decide +kernel
theorem dX4_jumpOp_44 : decode cX4_jumpOp 44 = .ok (.iload_n 1, 1) := by decide +kernel
theorem dX4_jumpOp_45 : decode cX4_jumpOp 45 = .ok (.bipush 13, 2) := by decide +kernel
theorem dX4_jumpOp_47 : decode cX4_jumpOp 47 = .ok (.if_icmp .ne 97, 3) := by decide +kernel
theorem dX4_jumpOp_50 : decode cX4_jumpOp 50 = .ok (.aload_n 0, 1) := by decide +kernel
theorem dX4_jumpOp_51 : decode cX4_jumpOp 51 = .ok (.getfield 22, 3) := by decide +kernel
theorem dX4_jumpOp_54 : decode cX4_jumpOp 54 = .ok (.aload_n 0, 1) := by decide +kernel
theorem dX4_jumpOp_55 : decode cX4_jumpOp 55 = .ok (.getfield 92, 3) := by decide +kernel
theorem dX4_jumpOp_58 : decode cX4_jumpOp 58 = .ok (.iaload, 1) := by decide +kernel
theorem dX4_jumpOp_59 : decode cX4_jumpOp 59 = .ok (.istore_n 3, 1) := by decide +kernel
theorem dX4_jumpOp_60 : decode cX4_jumpOp 60 = .ok (.iload_n 2, 1) := by decide +kernel
theorem dX4_jumpOp_61 : decode cX4_jumpOp 61 = .ok (.invokestatic 118, 3) := by decide +kernel
theorem dX4_jumpOp_64 : decode cX4_jumpOp 64 = .ok (.ifCond .ne 11, 3) := by decide +kernel
theorem dX4_jumpOp_67 : decode cX4_jumpOp 67 = .ok (.aload_n 0, 1) := by decide +kernel
theorem dX4_jumpOp_68 : decode cX4_jumpOp 68 = .ok (.iconst 2, 1) := by decide +kernel
theorem dX4_jumpOp_69 : decode cX4_jumpOp 69 = .ok (.invokevirtual 95, 3) := by decide +kernel
theorem dX4_jumpOp_72 : decode cX4_jumpOp 72 = .ok (.goto 69, 3) := by decide +kernel
theorem dX4_jumpOp_75 : decode cX4_jumpOp 75 = .ok (.aload_n 0, 1) := by decide +kernel
theorem dX4_jumpOp_76 : decode cX4_jumpOp 76 = .ok (.getfield 31, 3) := by decide +kernel
theorem dX4_jumpOp_79 : decode cX4_jumpOp 79 = .ok (.aload_n 0, 1) := by decide +kernel
theorem dX4_jumpOp_80 : decode cX4_jumpOp 80 = .ok (.getfield 92, 3) := by decide +kernel
theorem dX4_jumpOp_83 : decode cX4_jumpOp 83 = .ok (.iaload, 1) := by decide +kernel
theorem dX4_jumpOp_84 : decode cX4_jumpOp 84 = .ok (.iconst 4, 1) := by decide +kernel
theorem dX4_jumpOp_85 : decode cX4_jumpOp 85 = .ok (.if_icmp .ne 11, 3) := by decide +kernel
theorem dX4_jumpOp_88 : decode cX4_jumpOp 88 = .ok (.aload_n 0, 1) := by decide +kernel
theorem dX4_jumpOp_89 : decode cX4_jumpOp 89 = .ok (.iconst 5, 1) := by decide +kernel
theorem dX4_jumpOp_90 : decode cX4_jumpOp 90 = .ok (.invokevirtual 95, 3) := by decide +kernel
theorem dX4_jumpOp_93 : decode cX4_jumpOp 93 = .ok (.goto 48, 3) := by decide +kernel
theorem dX4_jumpOp_96 : decode cX4_jumpOp 96 = .ok (.aload_n 0, 1) := by decide +kernel
theorem dX4_jumpOp_97 : decode cX4_jumpOp 97 = .ok (.getfield 34, 3) := by decide +kernel
theorem dX4_jumpOp_100 : decode cX4_jumpOp 100 = .ok (.iconst 4, 1) := by decide +kernel
theorem dX4_jumpOp_101 : decode cX4_jumpOp 101 = .ok (.aload_n 0, 1) := by decide +kernel
theorem dX4_jumpOp_102 : decode cX4_jumpOp 102 = .ok (.getfield 92, 3) := by decide +kernel
theorem dX4_jumpOp_105 : decode cX4_jumpOp 105 = .ok (.imul, 1) := by decide +kernel
theorem dX4_jumpOp_106 : decode cX4_jumpOp 106 = .ok (.aload_n 0, 1) := by decide +kernel
theorem dX4_jumpOp_107 : decode cX4_jumpOp 107 = .ok (.getfield 31, 3) := by decide +kernel
theorem dX4_jumpOp_110 : decode cX4_jumpOp 110 = .ok (.aload_n 0, 1) := by decide +kernel
theorem dX4_jumpOp_111 : decode cX4_jumpOp 111 = .ok (.getfield 92, 3) := by decide +kernel
theorem dX4_jumpOp_114 : decode cX4_jumpOp 114 = .ok (.iaload, 1) := by decide +kernel
theorem dX4_jumpOp_115 : decode cX4_jumpOp 115 = .ok (.iadd, 1) := by decide +kernel
theorem dX4_jumpOp_116 : decode cX4_jumpOp 116 = .ok (.iload_n 3, 1) := by decide +kernel
theorem dX4_jumpOp_117 : decode cX4_jumpOp 117 = .ok (.iastore, 1) := by decide +kernel
theorem dX4_jumpOp_118 : decode cX4_jumpOp 118 = .ok (.aload_n 0, 1) := by decide +kernel
theorem dX4_jumpOp_119 : decode cX4_jumpOp 119 = .ok (.getfield 31, 3) := by decide +kernel
theorem dX4_jumpOp_122 : decode cX4_jumpOp 122 = .ok (.aload_n 0, 1) := by decide +kernel
theorem dX4_jumpOp_123 : decode cX4_jumpOp 123 = .ok (.getfield 92, 3) := by decide +kernel
theorem dX4_jumpOp_126 : decode cX4_jumpOp 126 = .ok (.dup2, 1) := by decide +kernel
theorem dX4_jumpOp_127 : decode cX4_jumpOp 127 = .ok (.iaload, 1) := by decide +kernel
theorem dX4_jumpOp_128 : decode cX4_jumpOp 128 = .ok (.iconst 1, 1) := by decide +kernel
theorem dX4_jumpOp_129 : decode cX4_jumpOp 129 = .ok (.iadd, 1) := by decide +kernel
theorem dX4_jumpOp_130 : decode cX4_jumpOp 130 = .ok (.iastore, 1) := by decide +kernel
theorem dX4_jumpOp_131 : decode cX4_jumpOp 131 = .ok (.aload_n 0, 1) := by decide +kernel
theorem dX4_jumpOp_132 : decode cX4_jumpOp 132 = .ok (.getfield 22, 3) := by decide +kernel
theorem dX4_jumpOp_135 : decode cX4_jumpOp 135 = .ok (.aload_n 0, 1) := by decide +kernel
theorem dX4_jumpOp_136 : decode cX4_jumpOp 136 = .ok (.getfield 92, 3) := by decide +kernel
theorem dX4_jumpOp_139 : decode cX4_jumpOp 139 = .ok (.iload_n 2, 1) := by decide +kernel
theorem dX4_jumpOp_140 : decode cX4_jumpOp 140 = .ok (.iastore, 1) := by decide +kernel
theorem dX4_jumpOp_141 : decode cX4_jumpOp 141 = .ok (.goto 66, 3) := by decide +kernel
theorem dX4_jumpOp_144 : decode cX4_jumpOp 144 = .ok (.aload_n 0, 1) := by decide +kernel
theorem dX4_jumpOp_145 : decode cX4_jumpOp 145 = .ok (.getfield 31, 3) := by decide +kernel
theorem dX4_jumpOp_148 : decode cX4_jumpOp 148 = .ok (.aload_n 0, 1) := by decide +kernel
theorem dX4_jumpOp_149 : decode cX4_jumpOp 149 = .ok (.getfield 92, 3) := by decide +kernel
theorem dX4_jumpOp_152 : decode cX4_jumpOp 152 = .ok (.iaload, 1) := by decide +kernel
theorem dX4_jumpOp_153 : decode cX4_jumpOp 153 = .ok (.ifCond .ne 11, 3) := by decide +kernel
theorem dX4_jumpOp_156 : decode cX4_jumpOp 156 = .ok (.aload_n 0, 1) := by decide +kernel
theorem dX4_jumpOp_157 : decode cX4_jumpOp 157 = .ok (.iconst 5, 1) := by decide +kernel
theorem dX4_jumpOp_158 : decode cX4_jumpOp 158 = .ok (.invokevirtual 95, 3) := by decide +kernel
theorem dX4_jumpOp_161 : decode cX4_jumpOp 161 = .ok (.goto 46, 3) := by decide +kernel
theorem dX4_jumpOp_164 : decode cX4_jumpOp 164 = .ok (.aload_n 0, 1) := by decide +kernel
theorem dX4_jumpOp_165 : decode cX4_jumpOp 165 = .ok (.getfield 31, 3) := by decide +kernel
theorem dX4_jumpOp_168 : decode cX4_jumpOp 168 = .ok (.aload_n 0, 1) := by decide +kernel
theorem dX4_jumpOp_169 : decode cX4_jumpOp 169 = .ok (.getfield 92, 3) := by decide +kernel
theorem dX4_jumpOp_172 : decode cX4_jumpOp 172 = .ok (.dup2, 1) := by decide +kernel
theorem dX4_jumpOp_173 : decode cX4_jumpOp 173 = .ok (.iaload, 1) := by decide +kernel
theorem dX4_jumpOp_174 : decode cX4_jumpOp 174 = .ok (.iconst 1, 1) := by decide +kernel
theorem dX4_jumpOp_175 : decode cX4_jumpOp 175 = .ok (.isub, 1) := by decide +kernel
theorem dX4_jumpOp_176 : decode cX4_jumpOp 176 = .ok (.iastore, 1) := by decide +kernel
theorem dX4_jumpOp_177 : decode cX4_jumpOp 177 = .ok (.aload_n 0, 1) := by decide +kernel
theorem dX4_jumpOp_178 : decode cX4_jumpOp 178 = .ok (.getfield 22, 3) := by decide +kernel
theorem dX4_jumpOp_181 : decode cX4_jumpOp 181 = .ok (.aload_n 0, 1) := by decide +kernel
theorem dX4_jumpOp_182 : decode cX4_jumpOp 182 = .ok (.getfield 92, 3) := by decide +kernel
theorem dX4_jumpOp_185 : decode cX4_jumpOp 185 = .ok (.aload_n 0, 1) := by decide +kernel
theorem dX4_jumpOp_186 : decode cX4_jumpOp 186 = .ok (.getfield 34, 3) := by decide +kernel
theorem dX4_jumpOp_189 : decode cX4_jumpOp 189 = .ok (.iconst 4, 1) := by decide +kernel
theorem dX4_jumpOp_190 : decode cX4_jumpOp 190 = .ok (.aload_n 0, 1) := by decide +kernel
theorem dX4_jumpOp_191 : decode cX4_jumpOp 191 = .ok (.getfield 92, 3) := by decide +kernel
theorem dX4_jumpOp_194 : decode cX4_jumpOp 194 = .ok (.imul, 1) := by decide +kernel
theorem dX4_jumpOp_195 : decode cX4_jumpOp 195 = .ok (.aload_n 0, 1) := by decide +kernel
theorem dX4_jumpOp_196 : decode cX4_jumpOp 196 = .ok (.getfield 31, 3) := by decide +kernel
theorem dX4_jumpOp_199 : decode cX4_jumpOp 199 = .ok (.aload_n 0, 1) := by decide +kernel
theorem dX4_jumpOp_200 : decode cX4_jumpOp 200 = .ok (.getfield 92, 3) := by decide +kernel
