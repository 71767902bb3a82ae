theorem dX4_jumpOp_203 : decode cX4_jumpOp 203 = .ok (.iaload, 1) := by decide +kernel
theorem dX4_jumpOp_204 : decode cX4_jumpOp 204 = .ok (.iadd, 1) := by decide +kernel
theorem dX4_jumpOp_205 : decode cX4_jumpOp 205 = .ok (.iaload, 1) := by decide +kernel
theorem dX4_jumpOp_206 : decode cX4_jumpOp 206 = .ok (.iastore, 1) := by decide +kernel
theorem dX4_jumpOp_207 : decode cX4_jumpOp 207 = .ok (.return_, 1) := by decide +kernel
theorem dX4_taskOp_0 : decode cX4_taskOp 0 = .ok (.iload_n 1, 1) := by decide +kernel
theorem dX4_taskOp_1 : decode cX4_taskOp 1 = .ok (.bipush 18, 2) := by decide +kernel
theorem dX4_taskOp_3 : decode cX4_taskOp 3 = .ok (.if_icmp .ne 15, 3) := by decide +kernel
theorem dX4_taskOp_6 : decode cX4_taskOp 6 = .ok (.iload_n 2, 1) := by decide +kernel
theorem dX4_taskOp_7 : decode cX4_taskOp 7 = .ok (.invokestatic 118, 3) := by decide +kernel
theorem dX4_taskOp_10 : decode cX4_taskOp 10 = .ok (.ifCond .ne 8, 3) := by decide +kernel
theorem dX4_taskOp_13 : decode cX4_taskOp 13 = .ok (.aload_n 0, 1) := by decide +kernel
theorem dX4_taskOp_14 : decode cX4_taskOp 14 = .ok (.iconst 2, 1) := by decide +kernel
theorem dX4_taskOp_15 : decode cX4_taskOp 15 = .ok (.invokevirtual 95, 3) := by decide +kernel
theorem dX4_taskOp_18 : decode cX4_taskOp 18 = .ok (.iload_n 1, 1) := by decide +kernel
theorem dX4_taskOp_19 : decode cX4_taskOp 19 = .ok (.bipush 16, 2) := by decide +kernel
theorem dX4_taskOp_21 : decode cX4_taskOp 21 = .ok (.if_icmp .eq 9, 3) := by decide +kernel
theorem dX4_taskOp_24 : decode cX4_taskOp 24 = .ok (.iload_n 1, 1) := by decide +kernel
theorem dX4_taskOp_25 : decode cX4_taskOp 25 = .ok (.bipush 17, 2) := by decide +kernel
theorem dX4_taskOp_27 : decode cX4_taskOp 27 = .ok (.if_icmp .ne 7, 3) := by decide +kernel
theorem dX4_taskOp_30 : decode cX4_taskOp 30 = .ok (.iconst 0, 1) := by decide +kernel
theorem dX4_taskOp_31 : decode cX4_taskOp 31 = .ok (.goto 7, 3) := by decide +kernel
theorem dX4_taskOp_34 : decode cX4_taskOp 34 = .ok (.aload_n 0, 1) := by decide +kernel
theorem dX4_taskOp_35 : decode cX4_taskOp 35 = .ok (.invokevirtual 106, 3) := by decide +kernel
theorem dX4_taskOp_38 : decode cX4_taskOp 38 = .ok (.istore_n 3, 1) := by decide +kernel
theorem dX4_taskOp_39 : decode cX4_taskOp 39 = .ok (.aload_n 0, 1) := by decide +kernel
theorem dX4_taskOp_40 : decode cX4_taskOp 40 = .ok (.getfield 89, 3) := by decide +kernel
theorem dX4_taskOp_43 : decode cX4_taskOp 43 = .ok (.ifCond .le 4, 3) := by decide +kernel
theorem dX4_taskOp_46 : decode cX4_taskOp 46 = .ok (.return_, 1) := by decide +kernel
theorem dX4_taskOp_47 : decode cX4_taskOp 47 = .ok (.iload_n 1, 1) := by decide +kernel
theorem dX4_taskOp_48 : decode cX4_taskOp 48 = .ok (.tableswitch 154 15 20 #[40, 66, 78, 94, 154, 110], 40) := by decide +kernel
theorem dX4_taskOp_88 : decode cX4_taskOp 88 = .ok (.aload_n 0, 1) := by decide +kernel
theorem dX4_taskOp_89 : decode cX4_taskOp 89 = .ok (.getfield 58, 3) := by decide +kernel
theorem dX4_taskOp_92 : decode cX4_taskOp 92 = .ok (.aload_n 0, 1) := by decide +kernel
theorem dX4_taskOp_93 : decode cX4_taskOp 93 = .ok (.getfield 127, 3) := by decide +kernel
theorem dX4_taskOp_96 : decode cX4_taskOp 96 = .ok (.bipush 32, 2) := by decide +kernel
theorem dX4_taskOp_98 : decode cX4_taskOp 98 = .ok (.irem, 1) := by decide +kernel
theorem dX4_taskOp_99 : decode cX4_taskOp 99 = .ok (.iload_n 3, 1) := by decide +kernel
theorem dX4_taskOp_100 : decode cX4_taskOp 100 = .ok (.iastore, 1) := by decide +kernel
theorem dX4_taskOp_101 : decode cX4_taskOp 101 = .ok (.aload_n 0, 1) := by decide +kernel
theorem dX4_taskOp_102 : decode cX4_taskOp 102 = .ok (.dup, 1) := by decide +kernel
theorem dX4_taskOp_103 : decode cX4_taskOp 103 = .ok (.getfield 127, 3) := by decide +kernel
theorem dX4_taskOp_106 : decode cX4_taskOp 106 = .ok (.iconst 1, 1) := by decide +kernel
theorem dX4_taskOp_107 : decode cX4_taskOp 107 = .ok (.iadd, 1) := by decide +kernel
theorem dX4_taskOp_108 : decode cX4_taskOp 108 = .ok (.putfield 127, 3) := by decide +kernel
theorem dX4_taskOp_111 : decode cX4_taskOp 111 = .ok (.goto 135, 3) := by decide +kernel
theorem dX4_taskOp_114 : decode cX4_taskOp 114 = .ok (.aload_n 0, 1) := by decide +kernel
theorem dX4_taskOp_115 : decode cX4_taskOp 115 = .ok (.aload_n 0, 1) := by decide +kernel
theorem dX4_taskOp_116 : decode cX4_taskOp 116 = .ok (.getfield 92, 3) := by decide +kernel
theorem dX4_taskOp_119 : decode cX4_taskOp 119 = .ok (.iconst 1, 1) := by decide +kernel
theorem dX4_taskOp_120 : decode cX4_taskOp 120 = .ok (.invokevirtual 85, 3) := by decide +kernel
theorem dX4_taskOp_123 : decode cX4_taskOp 123 = .ok (.goto 123, 3) := by decide +kernel
theorem dX4_taskOp_126 : decode cX4_taskOp 126 = .ok (.aload_n 0, 1) := by decide +kernel
theorem dX4_taskOp_127 : decode cX4_taskOp 127 = .ok (.getfield 19, 3) := by decide +kernel
theorem dX4_taskOp_130 : decode cX4_taskOp 130 = .ok (.aload_n 0, 1) := by decide +kernel
theorem dX4_taskOp_131 : decode cX4_taskOp 131 = .ok (.getfield 92, 3) := by decide +kernel
theorem dX4_taskOp_134 : decode cX4_taskOp 134 = .ok (.iload_n 2, 1) := by decide +kernel
theorem dX4_taskOp_135 : decode cX4_taskOp 135 = .ok (.bipush 7, 2) := by decide +kernel
theorem dX4_taskOp_137 : decode cX4_taskOp 137 = .ok (.iand, 1) := by decide +kernel
theorem dX4_taskOp_138 : decode cX4_taskOp 138 = .ok (.iastore, 1) := by decide +kernel
theorem dX4_taskOp_139 : decode cX4_taskOp 139 = .ok (.goto 107, 3) := by decide +kernel
theorem dX4_taskOp_142 : decode cX4_taskOp 142 = .ok (.aload_n 0, 1) := by decide +kernel
theorem dX4_taskOp_143 : decode cX4_taskOp 143 = .ok (.aload_n 0, 1) := by decide +kernel
theorem dX4_taskOp_144 : decode cX4_taskOp 144 = .ok (.iload_n 2, 1) := by decide +kernel
theorem dX4_taskOp_145 : decode cX4_taskOp 145 = .ok (.iload_n 3, 1) := by decide +kernel
theorem dX4_taskOp_146 : decode cX4_taskOp 146 = .ok (.bipush 7, 2) := by decide +kernel
theorem dX4_taskOp_148 : decode cX4_taskOp 148 = .ok (.iand, 1) := by decide +kernel
theorem dX4_taskOp_149 : decode cX4_taskOp 149 = .ok (.invokevirtual 130, 3) := by decide +kernel
theorem dX4_taskOp_152 : decode cX4_taskOp 152 = .ok (.invokevirtual 115, 3) := by decide +kernel
theorem dX4_taskOp_155 : decode cX4_taskOp 155 = .ok (.goto 91, 3) := by decide +kernel
theorem dX4_taskOp_158 : decode cX4_taskOp 158 = .ok (.iload_n 3, 1) := by decide +kernel
theorem dX4_taskOp_159 : decode cX4_taskOp 159 = .ok (.ifCond .le 87, 3) := by decide +kernel
theorem dX4_taskOp_162 : decode cX4_taskOp 162 = .ok (.aload_n 0, 1) := by decide +kernel
theorem dX4_taskOp_163 : decode cX4_taskOp 163 = .ok (.getfield 37, 3) := by decide +kernel
theorem dX4_taskOp_166 : decode cX4_taskOp 166 = .ok (.aload_n 0, 1) := by decide +kernel
theorem dX4_taskOp_167 : decode cX4_taskOp 167 = .ok (.getfield 92, 3) := by decide +kernel
theorem dX4_taskOp_170 : decode cX4_taskOp 170 = .ok (.aload_n 0, 1) := by decide +kernel
theorem dX4_taskOp_171 : decode cX4_taskOp 171 = .ok (.getfield 121, 3) := by decide +kernel
theorem dX4_taskOp_174 : decode cX4_taskOp 174 = .ok (.iload_n 3, 1) := by decide +kernel
theorem dX4_taskOp_175 : decode cX4_taskOp 175 = .ok (.sipush 1000, 3) := by decide +kernel
theorem dX4_taskOp_178 : decode cX4_taskOp 178 = .ok (.if_icmp .ge 7, 3) := by decide +kernel
theorem dX4_taskOp_181 : decode cX4_taskOp 181 = .ok (.iload_n 3, 1) := by decide +kernel
theorem dX4_taskOp_182 : decode cX4_taskOp 182 = .ok (.goto 6, 3) := by decide +kernel
theorem dX4_taskOp_185 : decode cX4_taskOp 185 = .ok (.sipush 1000, 3) := by decide +kernel
theorem dX4_taskOp_188 : decode cX4_taskOp 188 = .ok (.iadd, 1) := by decide +kernel
theorem dX4_taskOp_189 : decode cX4_taskOp 189 = .ok (.iastore, 1) := by decide +kernel
theorem dX4_taskOp_190 : decode cX4_taskOp 190 = .ok (.aload_n 0, 1) := by decide +kernel
theorem dX4_taskOp_191 : decode cX4_taskOp 191 = .ok (.aload_n 0, 1) := by decide +kernel
theorem dX4_taskOp_192 : decode cX4_taskOp 192 = .ok (.getfield 92, 3) := by decide +kernel
theorem dX4_taskOp_195 : decode cX4_taskOp 195 = .ok (.iconst 2, 1) := by decide +kernel
theorem dX4_taskOp_196 : decode cX4_taskOp 196 = .ok (.invokevirtual 85, 3) := by decide +kernel
theorem dX4_taskOp_199 : decode cX4_taskOp 199 = .ok (.goto 47, 3) := by decide +kernel
theorem dX4_taskOp_202 : decode cX4_taskOp 202 = .ok (.aload_n 0, 1) := by decide +kernel
theorem dX4_taskOp_203 : decode cX4_taskOp 203 = .ok (.iload_n 3, 1) := by decide +kernel
theorem dX4_taskOp_204 : decode cX4_taskOp 204 = .ok (.invokevirtual 134, 3) := by decide +kernel
theorem dX4_taskOp_207 : decode cX4_taskOp 207 = .ok (.istore 4, 2) := by decide +kernel
theorem dX4_taskOp_209 : decode cX4_taskOp 209 = .ok (.iload 4, 2) := by decide +kernel
theorem dX4_taskOp_211 : decode cX4_taskOp 211 = .ok (.ifCond .eq 9, 3) := by decide +kernel
theorem dX4_taskOp_214 : decode cX4_taskOp 214 = .ok (.aload_n 0, 1) := by decide +kernel
theorem dX4_taskOp_215 : decode cX4_taskOp 215 = .ok (.iload_n 3, 1) := by decide +kernel
theorem dX4_taskOp_216 : decode cX4_taskOp 216 = .ok (.iconst 2, 1) := by decide +kernel
theorem dX4_taskOp_217 : decode cX4_taskOp 217 = .ok (.invokevirtual 137, 3) := by decide +kernel
theorem dX4_taskOp_220 : decode cX4_taskOp 220 = .ok (.aload_n 0, 1) := by decide +kernel
theorem dX4_taskOp_221 : decode cX4_taskOp 221 = .ok (.getfield 16, 3) := by decide +kernel
theorem dX4_taskOp_224 : decode cX4_taskOp 224 = .ok (.aload_n 0, 1) := by decide +kernel
theorem dX4_taskOp_225 : decode cX4_taskOp 225 = .ok (.getfield 92, 3) := by decide +kernel
theorem dX4_taskOp_228 : decode cX4_taskOp 228 = .ok (.iaload, 1) := by decide +kernel
theorem dX4_taskOp_229 : decode cX4_taskOp 229 = .ok (.ifCond .le 17, 3) := by decide +kernel
theorem dX4_taskOp_232 : decode cX4_taskOp 232 = .ok (.aload_n 0, 1) := by decide +kernel
theorem dX4_taskOp_233 : decode cX4_taskOp 233 = .ok (.iload 4, 2) := by decide +kernel
theorem dX4_taskOp_235 : decode cX4_taskOp 235 = .ok (.ifCond .eq 7, 3) := by decide +kernel
theorem dX4_taskOp_238 : decode cX4_taskOp 238 = .ok (.iconst 1, 1) := by decide +kernel
theorem dX4_taskOp_239 : decode cX4_taskOp 239 = .ok (.goto 4, 3) := by decide +kernel
theorem dX4_taskOp_242 : decode cX4_taskOp 242 = .ok (.iconst 0, 1) := by decide +kernel
theorem dX4_taskOp_243 : decode cX4_taskOp 243 = .ok (.invokevirtual 115, 3) := by decide +kernel
theorem dX4_taskOp_246 : decode cX4_taskOp 246 = .ok (.return_, 1) := by decide +kernel
theorem dX4_perform_0 : decode cX4_perform 0 = .ok (.iload_n 1, 1) := by decide +kernel
theorem dX4_perform_1 : decode cX4_perform 1 = .ok (.iconst 2, 1) := by decide +kernel
theorem dX4_perform_2 : decode cX4_perform 2 = .ok (.if_icmp .lt 16, 3) := by decide +kernel
theorem dX4_perform_5 : decode cX4_perform 5 = .ok (.iload_n 1, 1) := by decide +kernel
theorem dX4_perform_6 : decode cX4_perform 6 = .ok (.iconst 5, 1) := by decide +kernel
theorem dX4_perform_7 : decode cX4_perform 7 = .ok (.if_icmp .gt 11, 3) := by decide +kernel
theorem dX4_perform_10 : decode cX4_perform 10 = .ok (.aload_n 0, 1) := by decide +kernel
theorem dX4_perform_11 : decode cX4_perform 11 = .ok (.iload_n 1, 1) := by decide +kernel
theorem dX4_perform_12 : decode cX4_perform 12 = .ok (.invokevirtual 140, 3) := by decide +kernel
theorem dX4_perform_15 : decode cX4_perform 15 = .ok (.goto 158, 3) := by decide +kernel
theorem dX4_perform_18 : decode cX4_perform 18 = .ok (.iload_n 1, 1) := by decide +kernel
theorem dX4_perform_19 : decode cX4_perform 19 = .ok (.bipush 9, 2) := by decide +kernel
theorem dX4_perform_21 : decode cX4_perform 21 = .ok (.if_icmp .eq 9, 3) := by decide +kernel
theorem dX4_perform_24 : decode cX4_perform 24 = .ok (.iload_n 1, 1) := by decide +kernel
theorem dX4_perform_25 : decode cX4_perform 25 = .ok (.bipush 10, 2) := by decide +kernel
theorem dX4_perform_27 : decode cX4_perform 27 = .ok (.if_icmp .ne 11, 3) := by decide +kernel
theorem dX4_perform_30 : decode cX4_perform 30 = .ok (.aload_n 0, 1) := by decide +kernel
theorem dX4_perform_31 : decode cX4_perform 31 = .ok (.iload_n 1, 1) := by decide +kernel
theorem dX4_perform_32 : decode cX4_perform 32 = .ok (.invokevirtual 143, 3) := by decide +kernel
theorem dX4_perform_35 : decode cX4_perform 35 = .ok (.goto 138, 3) := by decide +kernel
theorem dX4_perform_38 : decode cX4_perform 38 = .ok (.iload_n 1, 1) := by decide +kernel
theorem dX4_perform_39 : decode cX4_perform 39 = .ok (.bipush 11, 2) := by decide +kernel
theorem dX4_perform_41 : decode cX4_perform 41 = .ok (.if_icmp .lt 18, 3) := by decide +kernel
theorem dX4_perform_44 : decode cX4_perform 44 = .ok (.iload_n 1, 1) := by decide +kernel
theorem dX4_perform_45 : decode cX4_perform 45 = .ok (.bipush 14, 2) := by decide +kernel
theorem dX4_perform_47 : decode cX4_perform 47 = .ok (.if_icmp .gt 12, 3) := by decide +kernel
theorem dX4_perform_50 : decode cX4_perform 50 = .ok (.aload_n 0, 1) := by decide +kernel
theorem dX4_perform_51 : decode cX4_perform 51 = .ok (.iload_n 1, 1) := by decide +kernel
theorem dX4_perform_52 : decode cX4_perform 52 = .ok (.iload_n 2, 1) := by decide +kernel
theorem dX4_perform_53 : decode cX4_perform 53 = .ok (.invokevirtual 146, 3) := by decide +kernel
theorem dX4_perform_56 : decode cX4_perform 56 = .ok (.goto 117, 3) := by decide +kernel
theorem dX4_perform_59 : decode cX4_perform 59 = .ok (.iload_n 1, 1) := by decide +kernel
theorem dX4_perform_60 : decode cX4_perform 60 = .ok (.bipush 21, 2) := by decide +kernel
theorem dX4_perform_62 : decode cX4_perform 62 = .ok (.if_icmp .ne 11, 3) := by decide +kernel
theorem dX4_perform_65 : decode cX4_perform 65 = .ok (.aload_n 0, 1) := by decide +kernel
theorem dX4_perform_66 : decode cX4_perform 66 = .ok (.iload_n 2, 1) := by decide +kernel
theorem dX4_perform_67 : decode cX4_perform 67 = .ok (.invokevirtual 149, 3) := by decide +kernel
theorem dX4_perform_70 : decode cX4_perform 70 = .ok (.goto 103, 3) := by decide +kernel
theorem dX4_perform_73 : decode cX4_perform 73 = .ok (.iload_n 1, 1) := by decide +kernel
theorem dX4_perform_74 : decode cX4_perform 74 = .ok (.bipush 22, 2) := by decide +kernel
theorem dX4_perform_76 : decode cX4_perform 76 = .ok (.if_icmp .ne 11, 3) := by decide +kernel
theorem dX4_perform_79 : decode cX4_perform 79 = .ok (.aload_n 0, 1) := by decide +kernel
theorem dX4_perform_80 : decode cX4_perform 80 = .ok (.iload_n 2, 1) := by decide +kernel
theorem dX4_perform_81 : decode cX4_perform 81 = .ok (.invokevirtual 152, 3) := by decide +kernel
theorem dX4_perform_84 : decode cX4_perform 84 = .ok (.goto 89, 3) := by decide +kernel
theorem dX4_perform_87 : decode cX4_perform 87 = .ok (.iload_n 1, 1) := by decide +kernel
theorem dX4_perform_88 : decode cX4_perform 88 = .ok (.ifCond .ne 15, 3) := by decide +kernel
theorem dX4_perform_91 : decode cX4_perform 91 = .ok (.aload_n 0, 1) := by decide +kernel
theorem dX4_perform_92 : decode cX4_perform 92 = .ok (.aload_n 0, 1) := by decide +kernel
theorem dX4_perform_93 : decode cX4_perform 93 = .ok (.getfield 92, 3) := by decide +kernel
theorem dX4_perform_96 : decode cX4_perform 96 = .ok (.iconst 1, 1) := by decide +kernel
theorem dX4_perform_97 : decode cX4_perform 97 = .ok (.invokevirtual 137, 3) := by decide +kernel
theorem dX4_perform_100 : decode cX4_perform 100 = .ok (.goto 73, 3) := by decide +kernel
theorem dX4_perform_103 : decode cX4_perform 103 = .ok (.iload_n 1, 1) := by decide +kernel
theorem dX4_perform_104 : decode cX4_perform 104 = .ok (.bipush 25, 2) := by decide +kernel
theorem dX4_perform_106 : decode cX4_perform 106 = .ok (.if_icmp .le 11, 3) := by decide +kernel
theorem dX4_perform_109 : decode cX4_perform 109 = .ok (.aload_n 0, 1) := by decide +kernel
theorem dX4_perform_110 : decode cX4_perform 110 = .ok (.iconst 4, 1) := by decide +kernel
theorem dX4_perform_111 : decode cX4_perform 111 = .ok (.invokevirtual 95, 3) := by decide +kernel
theorem dX4_perform_114 : decode cX4_perform 114 = .ok (.goto 59, 3) := by decide +kernel
theorem dX4_perform_117 : decode cX4_perform 117 = .ok (.iload_n 1, 1) := by decide +kernel
theorem dX4_perform_118 : decode cX4_perform 118 = .ok (.iconst 1, 1) := by decide +kernel
theorem dX4_perform_119 : decode cX4_perform 119 = .ok (.if_icmp .eq 39, 3) := by decide +kernel
theorem dX4_perform_122 : decode cX4_perform 122 = .ok (.iload_n 1, 1) := by decide +kernel
theorem dX4_perform_123 : decode cX4_perform 123 = .ok (.bipush 6, 2) := by decide +kernel
theorem dX4_perform_125 : decode cX4_perform 125 = .ok (.if_icmp .eq 33, 3) := by decide +kernel
theorem dX4_perform_128 : decode cX4_perform 128 = .ok (.iload_n 1, 1) := by decide +kernel
theorem dX4_perform_129 : decode cX4_perform 129 = .ok (.bipush 7, 2) := by decide +kernel
theorem dX4_perform_131 : decode cX4_perform 131 = .ok (.if_icmp .eq 27, 3) := by decide +kernel
theorem dX4_perform_134 : decode cX4_perform 134 = .ok (.iload_n 1, 1) := by decide +kernel
theorem dX4_perform_135 : decode cX4_perform 135 = .ok (.bipush 8, 2) := by decide +kernel
theorem dX4_perform_137 : decode cX4_perform 137 = .ok (.if_icmp .eq 21, 3) := by decide +kernel
theorem dX4_perform_140 : decode cX4_perform 140 = .ok (.iload_n 1, 1) := by decide +kernel
theorem dX4_perform_141 : decode cX4_perform 141 = .ok (.bipush 19, 2) := by decide +kernel
theorem dX4_perform_143 : decode cX4_perform 143 = .ok (.if_icmp .eq 15, 3) := by decide +kernel
theorem dX4_perform_146 : decode cX4_perform 146 = .ok (.iload_n 1, 1) := by decide +kernel
theorem dX4_perform_147 : decode cX4_perform 147 = .ok (.bipush 23, 2) := by decide +kernel
theorem dX4_perform_149 : decode cX4_perform 149 = .ok (.if_icmp .eq 9, 3) := by decide +kernel
theorem dX4_perform_152 : decode cX4_perform 152 = .ok (.iload_n 1, 1) := by decide +kernel
theorem dX4_perform_153 : decode cX4_perform 153 = .ok (.bipush 24, 2) := by decide +kernel
theorem dX4_perform_155 : decode cX4_perform 155 = .ok (.if_icmp .ne 12, 3) := by decide +kernel
theorem dX4_perform_158 : decode cX4_perform 158 = .ok (.aload_n 0, 1) := by decide +kernel
theorem dX4_perform_159 : decode cX4_perform 159 = .ok (.iload_n 1, 1) := by decide +kernel
theorem dX4_perform_160 : decode cX4_perform 160 = .ok (.iload_n 2, 1) := by decide +kernel
theorem dX4_perform_161 : decode cX4_perform 161 = .ok (.invokevirtual 155, 3) := by decide +kernel
theorem dX4_perform_164 : decode cX4_perform 164 = .ok (.goto 9, 3) := by decide +kernel
theorem dX4_perform_167 : decode cX4_perform 167 = .ok (.aload_n 0, 1) := by decide +kernel
theorem dX4_perform_168 : decode cX4_perform 168 = .ok (.iload_n 1, 1) := by decide +kernel
theorem dX4_perform_169 : decode cX4_perform 169 = .ok (.iload_n 2, 1) := by decide +kernel
theorem dX4_perform_170 : decode cX4_perform 170 = .ok (.invokevirtual 158, 3) := by decide +kernel
theorem dX4_perform_173 : decode cX4_perform 173 = .ok (.return_, 1) := by decide +kernel
theorem dX4_step_0 : decode cX4_step 0 = .ok (.aload_n 0, 1) := by decide +kernel
theorem dX4_step_1 : decode cX4_step 1 = .ok (.aload_n 0, 1) := by decide +kernel
theorem dX4_step_2 : decode cX4_step 2 = .ok (.invokevirtual 161, 3) := by decide +kernel
theorem dX4_step_5 : decode cX4_step 5 = .ok (.putfield 92, 3) := by decide +kernel
theorem dX4_step_8 : decode cX4_step 8 = .ok (.aload_n 0, 1) := by decide +kernel
theorem dX4_step_9 : decode cX4_step 9 = .ok (.getfield 92, 3) := by decide +kernel
theorem dX4_step_12 : decode cX4_step 12 = .ok (.ifCond .ge 5, 3) := by decide +kernel
theorem dX4_step_15 : decode cX4_step 15 = .ok (.iconst (-1), 1) := by decide +kernel
theorem dX4_step_16 : decode cX4_step 16 = .ok (.ireturn, 1) := by decide +kernel
theorem dX4_step_17 : decode cX4_step 17 = .ok (.aload_n 0, 1) := by decide +kernel
theorem dX4_step_18 : decode cX4_step 18 = .ok (.iconst 0, 1) := by decide +kernel
theorem dX4_step_19 : decode cX4_step 19 = .ok (.putfield 89, 3) := by decide +kernel
theorem dX4_step_22 : decode cX4_step 22 = .ok (.aload_n 0, 1) := by decide +kernel
theorem dX4_step_23 : decode cX4_step 23 = .ok (.getfield 22, 3) := by decide +kernel
theorem dX4_step_26 : decode cX4_step 26 = .ok (.aload_n 0, 1) := by decide +kernel
theorem dX4_step_27 : decode cX4_step 27 = .ok (.getfield 92, 3) := by decide +kernel
theorem dX4_step_30 : decode cX4_step 30 = .ok (.iaload, 1) := by decide +kernel
theorem dX4_step_31 : decode cX4_step 31 = .ok (.istore_n 1, 1) := by decide +kernel
theorem dX4_step_32 : decode cX4_step 32 = .ok (.iload_n 1, 1) := by decide +kernel
theorem dX4_step_33 : decode cX4_step 33 = .ok (.bipush 64, 2) := by decide +kernel
theorem dX4_step_35 : decode cX4_step 35 = .ok (.if_icmp .ne 11, 3) := by decide +kernel
theorem dX4_step_38 : decode cX4_step 38 = .ok (.aload_n 0, 1) := by decide +kernel
theorem dX4_step_39 : decode cX4_step 39 = .ok (.iconst 2, 1) := by decide +kernel
theorem dX4_step_40 : decode cX4_step 40 = .ok (.invokevirtual 95, 3) := by decide +kernel
theorem dX4_step_43 : decode cX4_step 43 = .ok (.goto 36, 3) := by decide +kernel
theorem dX4_step_46 : decode cX4_step 46 = .ok (.aload_n 0, 1) := by decide +kernel
theorem dX4_step_47 : decode cX4_step 47 = .ok (.getfield 22, 3) := by decide +kernel
theorem dX4_step_50 : decode cX4_step 50 = .ok (.aload_n 0, 1) := by decide +kernel
theorem dX4_step_51 : decode cX4_step 51 = .ok (.getfield 92, 3) := by decide +kernel
theorem dX4_step_54 : decode cX4_step 54 = .ok (.iload_n 1, 1) := by decide +kernel
theorem dX4_step_55 : decode cX4_step 55 = .ok (.iconst 1, 1) := by decide +kernel
theorem dX4_step_56 : decode cX4_step 56 = .ok (.iadd, 1) := by decide +kernel
theorem dX4_step_57 : decode cX4_step 57 = .ok (.iastore, 1) := by decide +kernel
theorem dX4_step_58 : decode cX4_step 58 = .ok (.aload_n 0, 1) := by decide +kernel
theorem dX4_step_59 : decode cX4_step 59 = .ok (.aload_n 0, 1) := by decide +kernel
theorem dX4_step_60 : decode cX4_step 60 = .ok (.getfield 7, 3) := by decide +kernel
theorem dX4_step_63 : decode cX4_step 63 = .ok (.iload_n 1, 1) := by decide +kernel
theorem dX4_step_64 : decode cX4_step 64 = .ok (.iaload, 1) := by decide +kernel
theorem dX4_step_65 : decode cX4_step 65 = .ok (.bipush 31, 2) := by decide +kernel
theorem dX4_step_67 : decode cX4_step 67 = .ok (.iand, 1) := by decide +kernel
theorem dX4_step_68 : decode cX4_step 68 = .ok (.aload_n 0, 1) := by decide +kernel
theorem dX4_step_69 : decode cX4_step 69 = .ok (.getfield 7, 3) := by decide +kernel
theorem dX4_step_72 : decode cX4_step 72 = .ok (.iload_n 1, 1) := by decide +kernel
theorem dX4_step_73 : decode cX4_step 73 = .ok (.iaload, 1) := by decide +kernel
theorem dX4_step_74 : decode cX4_step 74 = .ok (.iconst 5, 1) := by decide +kernel
theorem dX4_step_75 : decode cX4_step 75 = .ok (.ishr, 1) := by decide +kernel
theorem dX4_step_76 : decode cX4_step 76 = .ok (.invokevirtual 164, 3) := by decide +kernel
theorem dX4_step_79 : decode cX4_step 79 = .ok (.aload_n 0, 1) := by decide +kernel
theorem dX4_step_80 : decode cX4_step 80 = .ok (.getfield 89, 3) := by decide +kernel
theorem dX4_step_83 : decode cX4_step 83 = .ok (.ifCond .le 33, 3) := by decide +kernel
theorem dX4_step_86 : decode cX4_step 86 = .ok (.aload_n 0, 1) := by decide +kernel
theorem dX4_step_87 : decode cX4_step 87 = .ok (.aload_n 0, 1) := by decide +kernel
theorem dX4_step_88 : decode cX4_step 88 = .ok (.getfield 92, 3) := by decide +kernel
theorem dX4_step_91 : decode cX4_step 91 = .ok (.iconst 2, 1) := by decide +kernel
theorem dX4_step_92 : decode cX4_step 92 = .ok (.aload_n 0, 1) := by decide +kernel
theorem dX4_step_93 : decode cX4_step 93 = .ok (.getfield 89, 3) := by decide +kernel
theorem dX4_step_96 : decode cX4_step 96 = .ok (.iadd, 1) := by decide +kernel
theorem dX4_step_97 : decode cX4_step 97 = .ok (.invokevirtual 137, 3) := by decide +kernel
theorem dX4_step_100 : decode cX4_step 100 = .ok (.bipush 16, 2) := by decide +kernel
theorem dX4_step_102 : decode cX4_step 102 = .ok (.aload_n 0, 1) := by decide +kernel
theorem dX4_step_103 : decode cX4_step 103 = .ok (.getfield 92, 3) := by decide +kernel
theorem dX4_step_106 : decode cX4_step 106 = .ok (.imul, 1) := by decide +kernel
theorem dX4_step_107 : decode cX4_step 107 = .ok (.bipush 8, 2) := by decide +kernel
theorem dX4_step_109 : decode cX4_step 109 = .ok (.iadd, 1) := by decide +kernel
theorem dX4_step_110 : decode cX4_step 110 = .ok (.aload_n 0, 1) := by decide +kernel
theorem dX4_step_111 : decode cX4_step 111 = .ok (.getfield 89, 3) := by decide +kernel
theorem dX4_step_114 : decode cX4_step 114 = .ok (.iadd, 1) := by decide +kernel
theorem dX4_step_115 : decode cX4_step 115 = .ok (.ireturn, 1) := by decide +kernel
theorem dX4_step_116 : decode cX4_step 116 = .ok (.bipush 16, 2) := by decide +kernel
theorem dX4_step_118 : decode cX4_step 118 = .ok (.aload_n 0, 1) := by decide +kernel
theorem dX4_step_119 : decode cX4_step 119 = .ok (.getfield 92, 3) := by decide +kernel
theorem dX4_step_122 : decode cX4_step 122 = .ok (.imul, 1) := by decide +kernel
theorem dX4_step_123 : decode cX4_step 123 = .ok (.aload_n 0, 1) := by decide +kernel
theorem dX4_step_124 : decode cX4_step 124 = .ok (.getfield 16, 3) := by decide +kernel
theorem dX4_step_127 : decode cX4_step 127 = .ok (.aload_n 0, 1) := by decide +kernel
theorem dX4_step_128 : decode cX4_step 128 = .ok (.getfield 92, 3) := by decide +kernel
theorem dX4_step_131 : decode cX4_step 131 = .ok (.iaload, 1) := by decide +kernel
theorem dX4_step_132 : decode cX4_step 132 = .ok (.iconst 1, 1) := by decide +kernel
theorem dX4_step_133 : decode cX4_step 133 = .ok (.if_icmp .ne 7, 3) := by decide +kernel
theorem dX4_step_136 : decode cX4_step 136 = .ok (.iconst 0, 1) := by decide +kernel
theorem dX4_step_137 : decode cX4_step 137 = .ok (.goto 28, 3) := by decide +kernel
theorem dX4_step_140 : decode cX4_step 140 = .ok (.aload_n 0, 1) := by decide +kernel
theorem dX4_step_141 : decode cX4_step 141 = .ok (.getfield 16, 3) := by decide +kernel
theorem dX4_step_144 : decode cX4_step 144 = .ok (.aload_n 0, 1) := by decide +kernel
theorem dX4_step_145 : decode cX4_step 145 = .ok (.getfield 92, 3) := by decide +kernel
theorem dX4_step_148 : decode cX4_step 148 = .ok (.iaload, 1) := by decide +kernel
theorem dX4_step_149 : decode cX4_step 149 = .ok (.ifCond .ne 7, 3) := by decide +kernel
theorem dX4_step_152 : decode cX4_step 152 = .ok (.iconst 1, 1) := by decide +kernel
theorem dX4_step_153 : decode cX4_step 153 = .ok (.goto 12, 3) := by decide +kernel
theorem dX4_step_156 : decode cX4_step 156 = .ok (.aload_n 0, 1) := by decide +kernel
theorem dX4_step_157 : decode cX4_step 157 = .ok (.getfield 16, 3) := by decide +kernel
theorem dX4_step_160 : decode cX4_step 160 = .ok (.aload_n 0, 1) := by decide +kernel
theorem dX4_step_161 : decode cX4_step 161 = .ok (.getfield 92, 3) := by decide +kernel
theorem dX4_step_164 : decode cX4_step 164 = .ok (.iaload, 1) := by decide +kernel
theorem dX4_step_165 : decode cX4_step 165 = .ok (.iadd, 1) := by decide +kernel
theorem dX4_step_166 : decode cX4_step 166 = .ok (.ireturn, 1) := by decide +kernel
theorem dX4_run_0 : decode cX4_run 0 = .ok (.iload_n 1, 1) := by decide +kernel
theorem dX4_run_1 : decode cX4_run 1 = .ok (.iconst 1, 1) := by decide +kernel
theorem dX4_run_2 : decode cX4_run 2 = .ok (.if_icmp .lt 9, 3) := by decide +kernel
theorem dX4_run_5 : decode cX4_run 5 = .ok (.iload_n 1, 1) := by decide +kernel
theorem dX4_run_6 : decode cX4_run 6 = .ok (.bipush 64, 2) := by decide +kernel
theorem dX4_run_8 : decode cX4_run 8 = .ok (.if_icmp .le 5, 3) := by decide +kernel
theorem dX4_run_11 : decode cX4_run 11 = .ok (.iconst (-1), 1) := by decide +kernel
theorem dX4_run_12 : decode cX4_run 12 = .ok (.ireturn, 1) := by decide +kernel
theorem dX4_run_13 : decode cX4_run 13 = .ok (.iconst 0, 1) := by decide +kernel
theorem dX4_run_14 : decode cX4_run 14 = .ok (.istore_n 2, 1) := by decide +kernel
theorem dX4_run_15 : decode cX4_run 15 = .ok (.iconst 1, 1) := by decide +kernel
theorem dX4_run_16 : decode cX4_run 16 = .ok (.istore_n 3, 1) := by decide +kernel
theorem dX4_run_17 : decode cX4_run 17 = .ok (.iload_n 2, 1) := by decide +kernel
theorem dX4_run_18 : decode cX4_run 18 = .ok (.iload_n 1, 1) := by decide +kernel
theorem dX4_run_19 : decode cX4_run 19 = .ok (.if_icmp .ge 60, 3) := by decide +kernel
theorem dX4_run_22 : decode cX4_run 22 = .ok (.iload_n 3, 1) := by decide +kernel
theorem dX4_run_23 : decode cX4_run 23 = .ok (.ifCond .eq 56, 3) := by decide +kernel
theorem dX4_run_26 : decode cX4_run 26 = .ok (.aload_n 0, 1) := by decide +kernel
theorem dX4_run_27 : decode cX4_run 27 = .ok (.invokevirtual 167, 3) := by decide +kernel
theorem dX4_run_30 : decode cX4_run 30 = .ok (.istore 4, 2) := by decide +kernel
theorem dX4_run_32 : decode cX4_run 32 = .ok (.iload 4, 2) := by decide +kernel
theorem dX4_run_34 : decode cX4_run 34 = .ok (.ifCond .ge 7, 3) := by decide +kernel
theorem dX4_run_37 : decode cX4_run 37 = .ok (.iload_n 2, 1) := by decide +kernel
theorem dX4_run_38 : decode cX4_run 38 = .ok (.goto 6, 3) := by decide +kernel
theorem dX4_run_41 : decode cX4_run 41 = .ok (.iload_n 2, 1) := by decide +kernel
theorem dX4_run_42 : decode cX4_run 42 = .ok (.iconst 1, 1) := by decide +kernel
theorem dX4_run_43 : decode cX4_run 43 = .ok (.iadd, 1) := by decide +kernel
theorem dX4_run_44 : decode cX4_run 44 = .ok (.istore_n 2, 1) := by decide +kernel
theorem dX4_run_45 : decode cX4_run 45 = .ok (.iload 4, 2) := by decide +kernel
theorem dX4_run_47 : decode cX4_run 47 = .ok (.bipush 15, 2) := by decide +kernel
theorem dX4_run_49 : decode cX4_run 49 = .ok (.iand, 1) := by decide +kernel
theorem dX4_run_50 : decode cX4_run 50 = .ok (.istore 5, 2) := by decide +kernel
theorem dX4_run_52 : decode cX4_run 52 = .ok (.iload 4, 2) := by decide +kernel
theorem dX4_run_54 : decode cX4_run 54 = .ok (.ifCond .lt 20, 3) := by decide +kernel
theorem dX4_run_57 : decode cX4_run 57 = .ok (.iload 5, 2) := by decide +kernel
theorem dX4_run_59 : decode cX4_run 59 = .ok (.iconst 1, 1) := by decide +kernel
theorem dX4_run_60 : decode cX4_run 60 = .ok (.if_icmp .eq 14, 3) := by decide +kernel
theorem dX4_run_63 : decode cX4_run 63 = .ok (.iload 5, 2) := by decide +kernel
theorem dX4_run_65 : decode cX4_run 65 = .ok (.bipush 8, 2) := by decide +kernel
theorem dX4_run_67 : decode cX4_run 67 = .ok (.if_icmp .ge 7, 3) := by decide +kernel
theorem dX4_run_70 : decode cX4_run 70 = .ok (.iconst 1, 1) := by decide +kernel
theorem dX4_run_71 : decode cX4_run 71 = .ok (.goto 4, 3) := by decide +kernel
theorem dX4_run_74 : decode cX4_run 74 = .ok (.iconst 0, 1) := by decide +kernel
theorem dX4_run_75 : decode cX4_run 75 = .ok (.istore_n 3, 1) := by decide +kernel
theorem dX4_run_76 : decode cX4_run 76 = .ok (.goto (-59), 3) := by decide +kernel
theorem dX4_run_79 : decode cX4_run 79 = .ok (.iload_n 2, 1) := by decide +kernel
theorem dX4_run_80 : decode cX4_run 80 = .ok (.ireturn, 1) := by decide +kernel
theorem dX4_tick_0 : decode cX4_tick 0 = .ok (.aload_n 0, 1) := by decide +kernel
theorem dX4_tick_1 : decode cX4_tick 1 = .ok (.dup, 1) := by decide +kernel
theorem dX4_tick_2 : decode cX4_tick 2 = .ok (.getfield 121, 3) := by decide +kernel
theorem dX4_tick_5 : decode cX4_tick 5 = .ok (.iconst 1, 1) := by decide +kernel
theorem dX4_tick_6 : decode cX4_tick 6 = .ok (.iadd, 1) := by decide +kernel
theorem dX4_tick_7 : decode cX4_tick 7 = .ok (.putfield 121, 3) := by decide +kernel
theorem dX4_tick_10 : decode cX4_tick 10 = .ok (.iconst 0, 1) := by decide +kernel
theorem dX4_tick_11 : decode cX4_tick 11 = .ok (.istore_n 1, 1) := by decide +kernel
theorem dX4_tick_12 : decode cX4_tick 12 = .ok (.iconst 0, 1) := by decide +kernel
theorem dX4_tick_13 : decode cX4_tick 13 = .ok (.istore_n 2, 1) := by decide +kernel
theorem dX4_tick_14 : decode cX4_tick 14 = .ok (.aload_n 0, 1) := by decide +kernel
theorem dX4_tick_15 : decode cX4_tick 15 = .ok (.iconst 2, 1) := by decide +kernel
theorem dX4_tick_16 : decode cX4_tick 16 = .ok (.iconst (-1), 1) := by decide +kernel
theorem dX4_tick_17 : decode cX4_tick 17 = .ok (.iconst 0, 1) := by decide +kernel
theorem dX4_tick_18 : decode cX4_tick 18 = .ok (.invokevirtual 109, 3) := by decide +kernel
theorem dX4_tick_21 : decode cX4_tick 21 = .ok (.istore_n 3, 1) := by decide +kernel
theorem dX4_tick_22 : decode cX4_tick 22 = .ok (.iload_n 3, 1) := by decide +kernel
theorem dX4_tick_23 : decode cX4_tick 23 = .ok (.ifCond .lt 42, 3) := by decide +kernel
theorem dX4_tick_26 : decode cX4_tick 26 = .ok (.aload_n 0, 1) := by decide +kernel
theorem dX4_tick_27 : decode cX4_tick 27 = .ok (.getfield 37, 3) := by decide +kernel
theorem dX4_tick_30 : decode cX4_tick 30 = .ok (.iload_n 3, 1) := by decide +kernel
theorem dX4_tick_31 : decode cX4_tick 31 = .ok (.iaload, 1) := by decide +kernel
theorem dX4_tick_32 : decode cX4_tick 32 = .ok (.aload_n 0, 1) := by decide +kernel
theorem dX4_tick_33 : decode cX4_tick 33 = .ok (.getfield 121, 3) := by decide +kernel
theorem dX4_tick_36 : decode cX4_tick 36 = .ok (.if_icmp .ne 15, 3) := by decide +kernel
theorem dX4_tick_39 : decode cX4_tick 39 = .ok (.aload_n 0, 1) := by decide +kernel
theorem dX4_tick_40 : decode cX4_tick 40 = .ok (.iload_n 3, 1) := by decide +kernel
theorem dX4_tick_41 : decode cX4_tick 41 = .ok (.iconst 1, 1) := by decide +kernel
theorem dX4_tick_42 : decode cX4_tick 42 = .ok (.invokevirtual 85, 3) := by decide +kernel
theorem dX4_tick_45 : decode cX4_tick 45 = .ok (.iinc 1 1, 3) := by decide +kernel
theorem dX4_tick_48 : decode cX4_tick 48 = .ok (.goto 6, 3) := by decide +kernel
theorem dX4_tick_51 : decode cX4_tick 51 = .ok (.iinc 2 1, 3) := by decide +kernel
theorem dX4_tick_54 : decode cX4_tick 54 = .ok (.aload_n 0, 1) := by decide +kernel
theorem dX4_tick_55 : decode cX4_tick 55 = .ok (.iconst 2, 1) := by decide +kernel
theorem dX4_tick_56 : decode cX4_tick 56 = .ok (.iconst (-1), 1) := by decide +kernel
theorem dX4_tick_57 : decode cX4_tick 57 = .ok (.iload_n 2, 1) := by decide +kernel
theorem dX4_tick_58 : decode cX4_tick 58 = .ok (.invokevirtual 109, 3) := by decide +kernel
theorem dX4_tick_61 : decode cX4_tick 61 = .ok (.istore_n 3, 1) := by decide +kernel
theorem dX4_tick_62 : decode cX4_tick 62 = .ok (.goto (-40), 3) := by decide +kernel
theorem dX4_tick_65 : decode cX4_tick 65 = .ok (.iload_n 1, 1) := by decide +kernel
theorem dX4_tick_66 : decode cX4_tick 66 = .ok (.ireturn, 1) := by decide +kernel
theorem dX4_poke_0 : decode cX4_poke 0 = .ok (.iload_n 1, 1) := by decide +kernel
theorem dX4_poke_1 : decode cX4_poke 1 = .ok (.invokestatic 118, 3) := by decide +kernel
theorem dX4_poke_4 : decode cX4_poke 4 = .ok (.ifCond .eq 10, 3) := by decide +kernel
theorem dX4_poke_7 : decode cX4_poke 7 = .ok (.aload_n 0, 1) := by decide +kernel
theorem dX4_poke_8 : decode cX4_poke 8 = .ok (.getfield 170, 3) := by decide +kernel
theorem dX4_poke_11 : decode cX4_poke 11 = .ok (.ifCond .eq 5, 3) := by decide +kernel
theorem dX4_poke_14 : decode cX4_poke 14 = .ok (.iconst 0, 1) := by decide +kernel
theorem dX4_poke_15 : decode cX4_poke 15 = .ok (.ireturn, 1) := by decide +kernel
theorem dX4_poke_16 : decode cX4_poke 16 = .ok (.aload_n 0, 1) := by decide +kernel
theorem dX4_poke_17 : decode cX4_poke 17 = .ok (.getfield 7, 3) := by decide +kernel
theorem dX4_poke_20 : decode cX4_poke 20 = .ok (.iload_n 1, 1) := by decide +kernel
theorem dX4_poke_21 : decode cX4_poke 21 = .ok (.iload_n 2, 1) := by decide +kernel
theorem dX4_poke_22 : decode cX4_poke 22 = .ok (.iastore, 1) := by decide +kernel
theorem dX4_poke_23 : decode cX4_poke 23 = .ok (.iconst 1, 1) := by decide +kernel
theorem dX4_poke_24 : decode cX4_poke 24 = .ok (.ireturn, 1) := by decide +kernel
theorem dX4_spawn_0 : decode cX4_spawn 0 = .ok (.iload_n 1, 1) := by decide +kernel
theorem dX4_spawn_1 : decode cX4_spawn 1 = .ok (.invokestatic 118, 3) := by decide +kernel
theorem dX4_spawn_4 : decode cX4_spawn 4 = .ok (.ifCond .eq 13, 3) := by decide +kernel
theorem dX4_spawn_7 : decode cX4_spawn 7 = .ok (.iload_n 2, 1) := by decide +kernel
theorem dX4_spawn_8 : decode cX4_spawn 8 = .ok (.ifCond .lt 9, 3) := by decide +kernel
theorem dX4_spawn_11 : decode cX4_spawn 11 = .ok (.iload_n 2, 1) := by decide +kernel
theorem dX4_spawn_12 : decode cX4_spawn 12 = .ok (.bipush 7, 2) := by decide +kernel
theorem dX4_spawn_14 : decode cX4_spawn 14 = .ok (.if_icmp .le 6, 3) := by decide +kernel
theorem dX4_spawn_17 : decode cX4_spawn 17 = .ok (.bipush (-2), 2) := by decide +kernel
theorem dX4_spawn_19 : decode cX4_spawn 19 = .ok (.ireturn, 1) := by decide +kernel
theorem dX4_spawn_20 : decode cX4_spawn 20 = .ok (.aload_n 0, 1) := by decide +kernel
theorem dX4_spawn_21 : decode cX4_spawn 21 = .ok (.iload_n 1, 1) := by decide +kernel
theorem dX4_spawn_22 : decode cX4_spawn 22 = .ok (.iload_n 2, 1) := by decide +kernel
theorem dX4_spawn_23 : decode cX4_spawn 23 = .ok (.invokevirtual 130, 3) := by decide +kernel
theorem dX4_spawn_26 : decode cX4_spawn 26 = .ok (.istore_n 3, 1) := by decide +kernel
theorem dX4_spawn_27 : decode cX4_spawn 27 = .ok (.aload_n 0, 1) := by decide +kernel
theorem dX4_spawn_28 : decode cX4_spawn 28 = .ok (.aload_n 0, 1) := by decide +kernel
theorem dX4_spawn_29 : decode cX4_spawn 29 = .ok (.getfield 170, 3) := by decide +kernel
theorem dX4_spawn_32 : decode cX4_spawn 32 = .ok (.ifCond .ne 7, 3) := by decide +kernel
theorem dX4_spawn_35 : decode cX4_spawn 35 = .ok (.iload_n 3, 1) := by decide +kernel
theorem dX4_spawn_36 : decode cX4_spawn 36 = .ok (.ifCond .lt 7, 3) := by decide +kernel
theorem dX4_spawn_39 : decode cX4_spawn 39 = .ok (.iconst 1, 1) := by decide +kernel
theorem dX4_spawn_40 : decode cX4_spawn 40 = .ok (.goto 4, 3) := by decide +kernel
theorem dX4_spawn_43 : decode cX4_spawn 43 = .ok (.iconst 0, 1) := by decide +kernel
theorem dX4_spawn_44 : decode cX4_spawn 44 = .ok (.putfield 170, 3) := by decide +kernel
theorem dX4_spawn_47 : decode cX4_spawn 47 = .ok (.iload_n 3, 1) := by decide +kernel
theorem dX4_spawn_48 : decode cX4_spawn 48 = .ok (.ireturn, 1) := by decide +kernel
theorem dX4_kill_0 : decode cX4_kill 0 = .ok (.aload_n 0, 1) := by decide +kernel
theorem dX4_kill_1 : decode cX4_kill 1 = .ok (.iload_n 1, 1) := by decide +kernel
theorem dX4_kill_2 : decode cX4_kill 2 = .ok (.invokevirtual 134, 3) := by decide +kernel
theorem dX4_kill_5 : decode cX4_kill 5 = .ok (.ifCond .ne 5, 3) := by decide +kernel
theorem dX4_kill_8 : decode cX4_kill 8 = .ok (.iconst 0, 1) := by decide +kernel
theorem dX4_kill_9 : decode cX4_kill 9 = .ok (.ireturn, 1) := by decide +kernel
theorem dX4_kill_10 : decode cX4_kill 10 = .ok (.aload_n 0, 1) := by decide +kernel
theorem dX4_kill_11 : decode cX4_kill 11 = .ok (.iload_n 1, 1) := by decide +kernel
theorem dX4_kill_12 : decode cX4_kill 12 = .ok (.iconst 2, 1) := by decide +kernel
theorem dX4_kill_13 : decode cX4_kill 13 = .ok (.invokevirtual 137, 3) := by decide +kernel
theorem dX4_kill_16 : decode cX4_kill 16 = .ok (.iconst 1, 1) := by decide +kernel
theorem dX4_kill_17 : decode cX4_kill 17 = .ok (.ireturn, 1) := by decide +kernel
theorem dX4_state_0 : decode cX4_state 0 = .ok (.iload_n 1, 1) := by decide +kernel
theorem dX4_state_1 : decode cX4_state 1 = .ok (.ifCond .lt 11, 3) := by decide +kernel
theorem dX4_state_4 : decode cX4_state 4 = .ok (.iload_n 1, 1) := by decide +kernel
theorem dX4_state_5 : decode cX4_state 5 = .ok (.aload_n 0, 1) := by decide +kernel
theorem dX4_state_6 : decode cX4_state 6 = .ok (.getfield 65, 3) := by decide +kernel
