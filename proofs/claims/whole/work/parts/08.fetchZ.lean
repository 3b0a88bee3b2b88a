theorem fX8_init_0 : zf mX8_init 0 = some (.aload_n 0, 1, 1) := by decide +kernel
theorem fX8_init_1 : zf mX8_init 1 = some (.invokespecial 1, 3, 4) := by decide +kernel
theorem fX8_init_4 : zf mX8_init 4 = some (.aload_n 0, 1, 5) := by decide +kernel
theorem fX8_init_5 : zf mX8_init 5 = some (.sipush 1968, 3, 8) := by decide +kernel
theorem fX8_init_8 : zf mX8_init 8 = some (.newarray .int, 2, 10) := by decide +kernel
theorem fX8_init_10 : zf mX8_init 10 = some (.putfield 7, 3, 13) := by decide +kernel
theorem fX8_init_13 : zf mX8_init 13 = some (.aload_n 0, 1, 14) := by decide +kernel
theorem fX8_init_14 : zf mX8_init 14 = some (.sipush 15744, 3, 17) := by decide +kernel
theorem fX8_init_17 : zf mX8_init 17 = some (.newarray .int, 2, 19) := by decide +kernel
theorem fX8_init_19 : zf mX8_init 19 = some (.putfield 13, 3, 22) := by decide +kernel
theorem fX8_init_22 : zf mX8_init 22 = some (.aload_n 0, 1, 23) := by decide +kernel
theorem fX8_init_23 : zf mX8_init 23 = some (.sipush 1968, 3, 26) := by decide +kernel
theorem fX8_init_26 : zf mX8_init 26 = some (.newarray .int, 2, 28) := by decide +kernel
theorem fX8_init_28 : zf mX8_init 28 = some (.putfield 16, 3, 31) := by decide +kernel
theorem fX8_init_31 : zf mX8_init 31 = some (.aload_n 0, 1, 32) := by decide +kernel
theorem fX8_init_32 : zf mX8_init 32 = some (.sipush 1968, 3, 35) := by decide +kernel
theorem fX8_init_35 : zf mX8_init 35 = some (.newarray .int, 2, 37) := by decide +kernel
theorem fX8_init_37 : zf mX8_init 37 = some (.putfield 19, 3, 40) := by decide +kernel
theorem fX8_init_40 : zf mX8_init 40 = some (.aload_n 0, 1, 41) := by decide +kernel
theorem fX8_init_41 : zf mX8_init 41 = some (.bipush 60, 2, 43) := by decide +kernel
theorem fX8_init_43 : zf mX8_init 43 = some (.newarray .int, 2, 45) := by decide +kernel
theorem fX8_init_45 : zf mX8_init 45 = some (.putfield 22, 3, 48) := by decide +kernel
theorem fX8_init_48 : zf mX8_init 48 = some (.aload_n 0, 1, 49) := by decide +kernel
theorem fX8_init_49 : zf mX8_init 49 = some (.iconst (-1), 1, 50) := by decide +kernel
theorem fX8_init_50 : zf mX8_init 50 = some (.putfield 25, 3, 53) := by decide +kernel
theorem fX8_init_53 : zf mX8_init 53 = some (.aload_n 0, 1, 54) := by decide +kernel
theorem fX8_init_54 : zf mX8_init 54 = some (.sipush 160, 3, 57) := by decide +kernel
theorem fX8_init_57 : zf mX8_init 57 = some (.newarray .char, 2, 59) := by decide +kernel
theorem fX8_init_59 : zf mX8_init 59 = some (.putfield 29, 3, 62) := by decide +kernel
theorem fX8_init_62 : zf mX8_init 62 = some (.aload_n 0, 1, 63) := by decide +kernel
theorem fX8_init_63 : zf mX8_init 63 = some (.bipush 31, 2, 65) := by decide +kernel
theorem fX8_init_65 : zf mX8_init 65 = some (.newarray .int, 2, 67) := by decide +kernel
theorem fX8_init_67 : zf mX8_init 67 = some (.putfield 33, 3, 70) := by decide +kernel
theorem fX8_init_70 : zf mX8_init 70 = some (.aload_n 0, 1, 71) := by decide +kernel
theorem fX8_init_71 : zf mX8_init 71 = some (.bipush 31, 2, 73) := by decide +kernel
theorem fX8_init_73 : zf mX8_init 73 = some (.newarray .int, 2, 75) := by decide +kernel
theorem fX8_init_75 : zf mX8_init 75 = some (.putfield 36, 3, 78) := by decide +kernel
theorem fX8_init_78 : zf mX8_init 78 = some (.aload_n 0, 1, 79) := by decide +kernel
theorem fX8_init_79 : zf mX8_init 79 = some (.sipush 155, 3, 82) := by decide +kernel
theorem fX8_init_82 : zf mX8_init 82 = some (.newarray .int, 2, 84) := by decide +kernel
theorem fX8_init_84 : zf mX8_init 84 = some (.putfield 39, 3, 87) := by decide +kernel
theorem fX8_init_87 : zf mX8_init 87 = some (.aload_n 0, 1, 88) := by decide +kernel
theorem fX8_init_88 : zf mX8_init 88 = some (.getfield 7, 3, 91) := by decide +kernel
theorem fX8_init_91 : zf mX8_init 91 = some (.iconst 0, 1, 92) := by decide +kernel
theorem fX8_init_92 : zf mX8_init 92 = some (.iconst 1, 1, 93) := by decide +kernel
theorem fX8_init_93 : zf mX8_init 93 = some (.iastore, 1, 94) := by decide +kernel
theorem fX8_init_94 : zf mX8_init 94 = some (.aload_n 0, 1, 95) := by decide +kernel
theorem fX8_init_95 : zf mX8_init 95 = some (.getfield 7, 3, 98) := by decide +kernel
theorem fX8_init_98 : zf mX8_init 98 = some (.bipush 8, 2, 100) := by decide +kernel
theorem fX8_init_100 : zf mX8_init 100 = some (.iconst (-1), 1, 101) := by decide +kernel
theorem fX8_init_101 : zf mX8_init 101 = some (.iastore, 1, 102) := by decide +kernel
theorem fX8_init_102 : zf mX8_init 102 = some (.aload_n 0, 1, 103) := by decide +kernel
theorem fX8_init_103 : zf mX8_init 103 = some (.getfield 36, 3, 106) := by decide +kernel
theorem fX8_init_106 : zf mX8_init 106 = some (.iconst 0, 1, 107) := by decide +kernel
theorem fX8_init_107 : zf mX8_init 107 = some (.bipush 15, 2, 109) := by decide +kernel
theorem fX8_init_109 : zf mX8_init 109 = some (.iastore, 1, 110) := by decide +kernel
theorem fX8_init_110 : zf mX8_init 110 = some (.iconst 0, 1, 111) := by decide +kernel
theorem fX8_init_111 : zf mX8_init 111 = some (.istore_n 1, 1, 112) := by decide +kernel
theorem fX8_init_112 : zf mX8_init 112 = some (.iload_n 1, 1, 113) := by decide +kernel
theorem fX8_init_113 : zf mX8_init 113 = some (.bipush 15, 2, 115) := by decide +kernel
theorem fX8_init_115 : zf mX8_init 115 = some (.if_icmp .ge 81, 3, 118) := by decide +kernel
theorem fX8_init_118 : zf mX8_init 118 = some (.aload_n 0, 1, 119) := by decide +kernel
theorem fX8_init_119 : zf mX8_init 119 = some (.getfield 33, 3, 122) := by decide +kernel
theorem fX8_init_122 : zf mX8_init 122 = some (.iload_n 1, 1, 123) := by decide +kernel
theorem fX8_init_123 : zf mX8_init 123 = some (.iaload, 1, 124) := by decide +kernel
theorem fX8_init_124 : zf mX8_init 124 = some (.aload_n 0, 1, 125) := by decide +kernel
theorem fX8_init_125 : zf mX8_init 125 = some (.getfield 36, 3, 128) := by decide +kernel
theorem fX8_init_128 : zf mX8_init 128 = some (.iload_n 1, 1, 129) := by decide +kernel
theorem fX8_init_129 : zf mX8_init 129 = some (.iaload, 1, 130) := by decide +kernel
theorem fX8_init_130 : zf mX8_init 130 = some (.iadd, 1, 131) := by decide +kernel
theorem fX8_init_131 : zf mX8_init 131 = some (.iconst 2, 1, 132) := by decide +kernel
theorem fX8_init_132 : zf mX8_init 132 = some (.idiv, 1, 133) := by decide +kernel
theorem fX8_init_133 : zf mX8_init 133 = some (.istore_n 2, 1, 134) := by decide +kernel
theorem fX8_init_134 : zf mX8_init 134 = some (.aload_n 0, 1, 135) := by decide +kernel
theorem fX8_init_135 : zf mX8_init 135 = some (.getfield 33, 3, 138) := by decide +kernel
theorem fX8_init_138 : zf mX8_init 138 = some (.iconst 2, 1, 139) := by decide +kernel
theorem fX8_init_139 : zf mX8_init 139 = some (.iload_n 1, 1, 140) := by decide +kernel
theorem fX8_init_140 : zf mX8_init 140 = some (.imul, 1, 141) := by decide +kernel
theorem fX8_init_141 : zf mX8_init 141 = some (.iconst 1, 1, 142) := by decide +kernel
theorem fX8_init_142 : zf mX8_init 142 = some (.iadd, 1, 143) := by decide +kernel
theorem fX8_init_143 : zf mX8_init 143 = some (.aload_n 0, 1, 144) := by decide +kernel
theorem fX8_init_144 : zf mX8_init 144 = some (.getfield 33, 3, 147) := by decide +kernel
theorem fX8_init_147 : zf mX8_init 147 = some (.iload_n 1, 1, 148) := by decide +kernel
theorem fX8_init_148 : zf mX8_init 148 = some (.iaload, 1, 149) := by decide +kernel
theorem fX8_init_149 : zf mX8_init 149 = some (.iastore, 1, 150) := by decide +kernel
theorem fX8_init_150 : zf mX8_init 150 = some (.aload_n 0, 1, 151) := by decide +kernel
theorem fX8_init_151 : zf mX8_init 151 = some (.getfield 36, 3, 154) := by decide +kernel
theorem fX8_init_154 : zf mX8_init 154 = some (.iconst 2, 1, 155) := by decide +kernel
theorem fX8_init_155 : zf mX8_init 155 = some (.iload_n 1, 1, 156) := by decide +kernel
theorem fX8_init_156 : zf mX8_init 156 = some (.imul, 1, 157) := by decide +kernel
theorem fX8_init_157 : zf mX8_init 157 = some (.iconst 1, 1, 158) := by decide +kernel
theorem fX8_init_158 : zf mX8_init 158 = some (.iadd, 1, 159) := by decide +kernel
theorem fX8_init_159 : zf mX8_init 159 = some (.iload_n 2, 1, 160) := by decide +kernel
theorem fX8_init_160 : zf mX8_init 160 = some (.iastore, 1, 161) := by decide +kernel
theorem fX8_init_161 : zf mX8_init 161 = some (.aload_n 0, 1, 162) := by decide +kernel
theorem fX8_init_162 : zf mX8_init 162 = some (.getfield 33, 3, 165) := by decide +kernel
theorem fX8_init_165 : zf mX8_init 165 = some (.iconst 2, 1, 166) := by decide +kernel
theorem fX8_init_166 : zf mX8_init 166 = some (.iload_n 1, 1, 167) := by decide +kernel
theorem fX8_init_167 : zf mX8_init 167 = some (.imul, 1, 168) := by decide +kernel
theorem fX8_init_168 : zf mX8_init 168 = some (.iconst 2, 1, 169) := by decide +kernel
theorem fX8_init_169 : zf mX8_init 169 = some (.iadd, 1, 170) := by decide +kernel
theorem fX8_init_170 : zf mX8_init 170 = some (.iload_n 2, 1, 171) := by decide +kernel
theorem fX8_init_171 : zf mX8_init 171 = some (.iconst 1, 1, 172) := by decide +kernel
theorem fX8_init_172 : zf mX8_init 172 = some (.iadd, 1, 173) := by decide +kernel
theorem fX8_init_173 : zf mX8_init 173 = some (.iastore, 1, 174) := by decide +kernel
theorem fX8_init_174 : zf mX8_init 174 = some (.aload_n 0, 1, 175) := by decide +kernel
theorem fX8_init_175 : zf mX8_init 175 = some (.getfield 36, 3, 178) := by decide +kernel
theorem fX8_init_178 : zf mX8_init 178 = some (.iconst 2, 1, 179) := by decide +kernel
theorem fX8_init_179 : zf mX8_init 179 = some (.iload_n 1, 1, 180) := by decide +kernel
theorem fX8_init_180 : zf mX8_init 180 = some (.imul, 1, 181) := by decide +kernel
theorem fX8_init_181 : zf mX8_init 181 = some (.iconst 2, 1, 182) := by decide +kernel
theorem fX8_init_182 : zf mX8_init 182 = some (.iadd, 1, 183) := by decide +kernel
theorem fX8_init_183 : zf mX8_init 183 = some (.aload_n 0, 1, 184) := by decide +kernel
theorem fX8_init_184 : zf mX8_init 184 = some (.getfield 36, 3, 187) := by decide +kernel
theorem fX8_init_187 : zf mX8_init 187 = some (.iload_n 1, 1, 188) := by decide +kernel
theorem fX8_init_188 : zf mX8_init 188 = some (.iaload, 1, 189) := by decide +kernel
theorem fX8_init_189 : zf mX8_init 189 = some (.iastore, 1, 190) := by decide +kernel
theorem fX8_init_190 : zf mX8_init 190 = some (.iinc 1 1, 3, 193) := by decide +kernel
theorem fX8_init_193 : zf mX8_init 193 = some (.goto (-81), 3, 196) := by decide +kernel
theorem fX8_init_196 : zf mX8_init 196 = some (.return_, 1, 197) := by decide +kernel
theorem fX8_thrown_0 : zf mX8_thrown 0 = some (.aload_n 0, 1, 1) := by decide +kernel
theorem fX8_thrown_1 : zf mX8_thrown 1 = some (.getfield 42, 3, 4) := by decide +kernel
theorem fX8_thrown_4 : zf mX8_thrown 4 = some (.ireturn, 1, 5) := by decide +kernel
theorem fX8_fails_0 : zf mX8_fails 0 = some (.aload_n 0, 1, 1) := by decide +kernel
theorem fX8_fails_1 : zf mX8_fails 1 = some (.iload_n 1, 1, 2) := by decide +kernel
theorem fX8_fails_2 : zf mX8_fails 2 = some (.putfield 42, 3, 5) := by decide +kernel
theorem fX8_fails_5 : zf mX8_fails 5 = some (.iload_n 1, 1, 6) := by decide +kernel
theorem fX8_fails_6 : zf mX8_fails 6 = some (.ifCond .le 7, 3, 9) := by decide +kernel
theorem fX8_fails_9 : zf mX8_fails 9 = some (.iconst 1, 1, 10) := by decide +kernel
theorem fX8_fails_10 : zf mX8_fails 10 = some (.goto 4, 3, 13) := by decide +kernel
theorem fX8_fails_13 : zf mX8_fails 13 = some (.iconst 0, 1, 14) := by decide +kernel
theorem fX8_fails_14 : zf mX8_fails 14 = some (.ireturn, 1, 15) := by decide +kernel
theorem fX8_refuses_0 : zf mX8_refuses 0 = some (.aload_n 0, 1, 1) := by decide +kernel
theorem fX8_refuses_1 : zf mX8_refuses 1 = some (.iconst 1, 1, 2) := by decide +kernel
theorem fX8_refuses_2 : zf mX8_refuses 2 = some (.putfield 42, 3, 5) := by decide +kernel
theorem fX8_refuses_5 : zf mX8_refuses 5 = some (.aload_n 0, 1, 6) := by decide +kernel
theorem fX8_refuses_6 : zf mX8_refuses 6 = some (.iload_n 1, 1, 7) := by decide +kernel
theorem fX8_refuses_7 : zf mX8_refuses 7 = some (.putfield 45, 3, 10) := by decide +kernel
theorem fX8_refuses_10 : zf mX8_refuses 10 = some (.aload_n 0, 1, 11) := by decide +kernel
theorem fX8_refuses_11 : zf mX8_refuses 11 = some (.iload_n 2, 1, 12) := by decide +kernel
theorem fX8_refuses_12 : zf mX8_refuses 12 = some (.putfield 48, 3, 15) := by decide +kernel
theorem fX8_refuses_15 : zf mX8_refuses 15 = some (.aload_n 0, 1, 16) := by decide +kernel
theorem fX8_refuses_16 : zf mX8_refuses 16 = some (.aload_n 0, 1, 17) := by decide +kernel
theorem fX8_refuses_17 : zf mX8_refuses 17 = some (.getfield 51, 3, 20) := by decide +kernel
theorem fX8_refuses_20 : zf mX8_refuses 20 = some (.ifCond .eq 10, 3, 23) := by decide +kernel
theorem fX8_refuses_23 : zf mX8_refuses 23 = some (.aload_n 0, 1, 24) := by decide +kernel
theorem fX8_refuses_24 : zf mX8_refuses 24 = some (.getfield 55, 3, 27) := by decide +kernel
theorem fX8_refuses_27 : zf mX8_refuses 27 = some (.goto 4, 3, 30) := by decide +kernel
theorem fX8_refuses_30 : zf mX8_refuses 30 = some (.iconst 0, 1, 31) := by decide +kernel
theorem fX8_refuses_31 : zf mX8_refuses 31 = some (.putfield 58, 3, 34) := by decide +kernel
theorem fX8_refuses_34 : zf mX8_refuses 34 = some (.iconst 0, 1, 35) := by decide +kernel
theorem fX8_refuses_35 : zf mX8_refuses 35 = some (.ireturn, 1, 36) := by decide +kernel
theorem fX8_in_0 : zf mX8_in 0 = some (.iload_n 0, 1, 1) := by decide +kernel
theorem fX8_in_1 : zf mX8_in 1 = some (.iload_n 1, 1, 2) := by decide +kernel
theorem fX8_in_2 : zf mX8_in 2 = some (.if_icmp .lt 12, 3, 5) := by decide +kernel
theorem fX8_in_5 : zf mX8_in 5 = some (.iload_n 0, 1, 6) := by decide +kernel
theorem fX8_in_6 : zf mX8_in 6 = some (.iload_n 2, 1, 7) := by decide +kernel
theorem fX8_in_7 : zf mX8_in 7 = some (.if_icmp .gt 7, 3, 10) := by decide +kernel
theorem fX8_in_10 : zf mX8_in 10 = some (.iconst 1, 1, 11) := by decide +kernel
theorem fX8_in_11 : zf mX8_in 11 = some (.goto 4, 3, 14) := by decide +kernel
theorem fX8_in_14 : zf mX8_in 14 = some (.iconst 0, 1, 15) := by decide +kernel
theorem fX8_in_15 : zf mX8_in 15 = some (.ireturn, 1, 16) := by decide +kernel
theorem fX8_copies_0 : zf mX8_copies 0 = some (.iconst 0, 1, 1) := by decide +kernel
theorem fX8_copies_1 : zf mX8_copies 1 = some (.istore 4, 2, 3) := by decide +kernel
theorem fX8_copies_3 : zf mX8_copies 3 = some (.iload 4, 2, 5) := by decide +kernel
theorem fX8_copies_5 : zf mX8_copies 5 = some (.sipush 1968, 3, 8) := by decide +kernel
theorem fX8_copies_8 : zf mX8_copies 8 = some (.if_icmp .ge 21, 3, 11) := by decide +kernel
theorem fX8_copies_11 : zf mX8_copies 11 = some (.aload_n 2, 1, 12) := by decide +kernel
theorem fX8_copies_12 : zf mX8_copies 12 = some (.iload_n 3, 1, 13) := by decide +kernel
theorem fX8_copies_13 : zf mX8_copies 13 = some (.iload 4, 2, 15) := by decide +kernel
theorem fX8_copies_15 : zf mX8_copies 15 = some (.iadd, 1, 16) := by decide +kernel
theorem fX8_copies_16 : zf mX8_copies 16 = some (.aload_n 0, 1, 17) := by decide +kernel
theorem fX8_copies_17 : zf mX8_copies 17 = some (.iload_n 1, 1, 18) := by decide +kernel
theorem fX8_copies_18 : zf mX8_copies 18 = some (.iload 4, 2, 20) := by decide +kernel
theorem fX8_copies_20 : zf mX8_copies 20 = some (.iadd, 1, 21) := by decide +kernel
theorem fX8_copies_21 : zf mX8_copies 21 = some (.iaload, 1, 22) := by decide +kernel
theorem fX8_copies_22 : zf mX8_copies 22 = some (.iastore, 1, 23) := by decide +kernel
theorem fX8_copies_23 : zf mX8_copies 23 = some (.iinc 4 1, 3, 26) := by decide +kernel
theorem fX8_copies_26 : zf mX8_copies 26 = some (.goto (-23), 3, 29) := by decide +kernel
theorem fX8_copies_29 : zf mX8_copies 29 = some (.return_, 1, 30) := by decide +kernel
theorem fX8_keeps_0 : zf mX8_keeps 0 = some (.aload_n 0, 1, 1) := by decide +kernel
theorem fX8_keeps_1 : zf mX8_keeps 1 = some (.iconst 0, 1, 2) := by decide +kernel
theorem fX8_keeps_2 : zf mX8_keeps 2 = some (.putfield 42, 3, 5) := by decide +kernel
theorem fX8_keeps_5 : zf mX8_keeps 5 = some (.aload_n 0, 1, 6) := by decide +kernel
theorem fX8_keeps_6 : zf mX8_keeps 6 = some (.getfield 51, 3, 9) := by decide +kernel
theorem fX8_keeps_9 : zf mX8_keeps 9 = some (.ifCond .eq 4, 3, 12) := by decide +kernel
theorem fX8_keeps_12 : zf mX8_keeps 12 = some (.return_, 1, 13) := by decide +kernel
theorem fX8_keeps_13 : zf mX8_keeps 13 = some (.aload_n 0, 1, 14) := by decide +kernel
theorem fX8_keeps_14 : zf mX8_keeps 14 = some (.getfield 61, 3, 17) := by decide +kernel
theorem fX8_keeps_17 : zf mX8_keeps 17 = some (.bipush 8, 2, 19) := by decide +kernel
theorem fX8_keeps_19 : zf mX8_keeps 19 = some (.if_icmp .ne 44, 3, 22) := by decide +kernel
theorem fX8_keeps_22 : zf mX8_keeps 22 = some (.iconst 0, 1, 23) := by decide +kernel
theorem fX8_keeps_23 : zf mX8_keeps 23 = some (.istore_n 2, 1, 24) := by decide +kernel
theorem fX8_keeps_24 : zf mX8_keeps 24 = some (.iload_n 2, 1, 25) := by decide +kernel
theorem fX8_keeps_25 : zf mX8_keeps 25 = some (.sipush 13776, 3, 28) := by decide +kernel
theorem fX8_keeps_28 : zf mX8_keeps 28 = some (.if_icmp .ge 25, 3, 31) := by decide +kernel
theorem fX8_keeps_31 : zf mX8_keeps 31 = some (.aload_n 0, 1, 32) := by decide +kernel
theorem fX8_keeps_32 : zf mX8_keeps 32 = some (.getfield 13, 3, 35) := by decide +kernel
theorem fX8_keeps_35 : zf mX8_keeps 35 = some (.iload_n 2, 1, 36) := by decide +kernel
theorem fX8_keeps_36 : zf mX8_keeps 36 = some (.aload_n 0, 1, 37) := by decide +kernel
theorem fX8_keeps_37 : zf mX8_keeps 37 = some (.getfield 13, 3, 40) := by decide +kernel
theorem fX8_keeps_40 : zf mX8_keeps 40 = some (.iload_n 2, 1, 41) := by decide +kernel
theorem fX8_keeps_41 : zf mX8_keeps 41 = some (.sipush 1968, 3, 44) := by decide +kernel
theorem fX8_keeps_44 : zf mX8_keeps 44 = some (.iadd, 1, 45) := by decide +kernel
theorem fX8_keeps_45 : zf mX8_keeps 45 = some (.iaload, 1, 46) := by decide +kernel
theorem fX8_keeps_46 : zf mX8_keeps 46 = some (.iastore, 1, 47) := by decide +kernel
theorem fX8_keeps_47 : zf mX8_keeps 47 = some (.iinc 2 1, 3, 50) := by decide +kernel
theorem fX8_keeps_50 : zf mX8_keeps 50 = some (.goto (-26), 3, 53) := by decide +kernel
theorem fX8_keeps_53 : zf mX8_keeps 53 = some (.aload_n 0, 1, 54) := by decide +kernel
theorem fX8_keeps_54 : zf mX8_keeps 54 = some (.dup, 1, 55) := by decide +kernel
theorem fX8_keeps_55 : zf mX8_keeps 55 = some (.getfield 61, 3, 58) := by decide +kernel
theorem fX8_keeps_58 : zf mX8_keeps 58 = some (.iconst 1, 1, 59) := by decide +kernel
theorem fX8_keeps_59 : zf mX8_keeps 59 = some (.isub, 1, 60) := by decide +kernel
theorem fX8_keeps_60 : zf mX8_keeps 60 = some (.putfield 61, 3, 63) := by decide +kernel
theorem fX8_keeps_63 : zf mX8_keeps 63 = some (.aload_n 1, 1, 64) := by decide +kernel
theorem fX8_keeps_64 : zf mX8_keeps 64 = some (.iconst 0, 1, 65) := by decide +kernel
theorem fX8_keeps_65 : zf mX8_keeps 65 = some (.aload_n 0, 1, 66) := by decide +kernel
theorem fX8_keeps_66 : zf mX8_keeps 66 = some (.getfield 13, 3, 69) := by decide +kernel
theorem fX8_keeps_69 : zf mX8_keeps 69 = some (.sipush 1968, 3, 72) := by decide +kernel
theorem fX8_keeps_72 : zf mX8_keeps 72 = some (.aload_n 0, 1, 73) := by decide +kernel
theorem fX8_keeps_73 : zf mX8_keeps 73 = some (.getfield 61, 3, 76) := by decide +kernel
theorem fX8_keeps_76 : zf mX8_keeps 76 = some (.imul, 1, 77) := by decide +kernel
theorem fX8_keeps_77 : zf mX8_keeps 77 = some (.invokestatic 64, 3, 80) := by decide +kernel
theorem fX8_keeps_80 : zf mX8_keeps 80 = some (.aload_n 0, 1, 81) := by decide +kernel
theorem fX8_keeps_81 : zf mX8_keeps 81 = some (.dup, 1, 82) := by decide +kernel
theorem fX8_keeps_82 : zf mX8_keeps 82 = some (.getfield 61, 3, 85) := by decide +kernel
theorem fX8_keeps_85 : zf mX8_keeps 85 = some (.iconst 1, 1, 86) := by decide +kernel
theorem fX8_keeps_86 : zf mX8_keeps 86 = some (.iadd, 1, 87) := by decide +kernel
theorem fX8_keeps_87 : zf mX8_keeps 87 = some (.putfield 61, 3, 90) := by decide +kernel
theorem fX8_keeps_90 : zf mX8_keeps 90 = some (.return_, 1, 91) := by decide +kernel
theorem fX8_of_0 : zf mX8_of 0 = some (.aload_n 0, 1, 1) := by decide +kernel
theorem fX8_of_1 : zf mX8_of 1 = some (.getfield 7, 3, 4) := by decide +kernel
theorem fX8_of_4 : zf mX8_of 4 = some (.bipush 8, 2, 6) := by decide +kernel
theorem fX8_of_6 : zf mX8_of 6 = some (.bipush 49, 2, 8) := by decide +kernel
theorem fX8_of_8 : zf mX8_of 8 = some (.iload_n 1, 1, 9) := by decide +kernel
theorem fX8_of_9 : zf mX8_of 9 = some (.imul, 1, 10) := by decide +kernel
theorem fX8_of_10 : zf mX8_of 10 = some (.iadd, 1, 11) := by decide +kernel
theorem fX8_of_11 : zf mX8_of 11 = some (.iload_n 2, 1, 12) := by decide +kernel
theorem fX8_of_12 : zf mX8_of 12 = some (.iadd, 1, 13) := by decide +kernel
theorem fX8_of_13 : zf mX8_of 13 = some (.iaload, 1, 14) := by decide +kernel
theorem fX8_of_14 : zf mX8_of 14 = some (.ireturn, 1, 15) := by decide +kernel
theorem fX8_lays_0 : zf mX8_lays 0 = some (.aload_n 0, 1, 1) := by decide +kernel
theorem fX8_lays_1 : zf mX8_lays 1 = some (.getfield 7, 3, 4) := by decide +kernel
theorem fX8_lays_4 : zf mX8_lays 4 = some (.bipush 8, 2, 6) := by decide +kernel
theorem fX8_lays_6 : zf mX8_lays 6 = some (.bipush 49, 2, 8) := by decide +kernel
theorem fX8_lays_8 : zf mX8_lays 8 = some (.iload_n 1, 1, 9) := by decide +kernel
theorem fX8_lays_9 : zf mX8_lays 9 = some (.imul, 1, 10) := by decide +kernel
theorem fX8_lays_10 : zf mX8_lays 10 = some (.iadd, 1, 11) := by decide +kernel
theorem fX8_lays_11 : zf mX8_lays 11 = some (.iload_n 2, 1, 12) := by decide +kernel
theorem fX8_lays_12 : zf mX8_lays 12 = some (.iadd, 1, 13) := by decide +kernel
theorem fX8_lays_13 : zf mX8_lays 13 = some (.iload_n 3, 1, 14) := by decide +kernel
theorem fX8_lays_14 : zf mX8_lays 14 = some (.iastore, 1, 15) := by decide +kernel
theorem fX8_lays_15 : zf mX8_lays 15 = some (.return_, 1, 16) := by decide +kernel
theorem fX8_isVersion_0 : zf mX8_isVersion 0 = some (.iload_n 1, 1, 1) := by decide +kernel
theorem fX8_isVersion_1 : zf mX8_isVersion 1 = some (.iconst 0, 1, 2) := by decide +kernel
theorem fX8_isVersion_2 : zf mX8_isVersion 2 = some (.aload_n 0, 1, 3) := by decide +kernel
theorem fX8_isVersion_3 : zf mX8_isVersion 3 = some (.getfield 7, 3, 6) := by decide +kernel
theorem fX8_isVersion_6 : zf mX8_isVersion 6 = some (.iconst 0, 1, 7) := by decide +kernel
theorem fX8_isVersion_7 : zf mX8_isVersion 7 = some (.iaload, 1, 8) := by decide +kernel
theorem fX8_isVersion_8 : zf mX8_isVersion 8 = some (.iconst 1, 1, 9) := by decide +kernel
theorem fX8_isVersion_9 : zf mX8_isVersion 9 = some (.isub, 1, 10) := by decide +kernel
theorem fX8_isVersion_10 : zf mX8_isVersion 10 = some (.invokestatic 68, 3, 13) := by decide +kernel
theorem fX8_isVersion_13 : zf mX8_isVersion 13 = some (.ireturn, 1, 14) := by decide +kernel
theorem fX8_isHouse_0 : zf mX8_isHouse 0 = some (.iload_n 0, 1, 1) := by decide +kernel
theorem fX8_isHouse_1 : zf mX8_isHouse 1 = some (.iconst 0, 1, 2) := by decide +kernel
theorem fX8_isHouse_2 : zf mX8_isHouse 2 = some (.iconst 3, 1, 3) := by decide +kernel
theorem fX8_isHouse_3 : zf mX8_isHouse 3 = some (.invokestatic 68, 3, 6) := by decide +kernel
theorem fX8_isHouse_6 : zf mX8_isHouse 6 = some (.ireturn, 1, 7) := by decide +kernel
theorem fX8_isLine_0 : zf mX8_isLine 0 = some (.iload_n 0, 1, 1) := by decide +kernel
theorem fX8_isLine_1 : zf mX8_isLine 1 = some (.iconst 0, 1, 2) := by decide +kernel
theorem fX8_isLine_2 : zf mX8_isLine 2 = some (.bipush 15, 2, 4) := by decide +kernel
theorem fX8_isLine_4 : zf mX8_isLine 4 = some (.invokestatic 68, 3, 7) := by decide +kernel
theorem fX8_isLine_7 : zf mX8_isLine 7 = some (.ireturn, 1, 8) := by decide +kernel
theorem fX8_amountOf_0 : zf mX8_amountOf 0 = some (.aload_n 0, 1, 1) := by decide +kernel
theorem fX8_amountOf_1 : zf mX8_amountOf 1 = some (.iload_n 1, 1, 2) := by decide +kernel
theorem fX8_amountOf_2 : zf mX8_amountOf 2 = some (.iconst 2, 1, 3) := by decide +kernel
theorem fX8_amountOf_3 : zf mX8_amountOf 3 = some (.iload_n 2, 1, 4) := by decide +kernel
theorem fX8_amountOf_4 : zf mX8_amountOf 4 = some (.iadd, 1, 5) := by decide +kernel
theorem fX8_amountOf_5 : zf mX8_amountOf 5 = some (.invokevirtual 72, 3, 8) := by decide +kernel
theorem fX8_amountOf_8 : zf mX8_amountOf 8 = some (.ireturn, 1, 9) := by decide +kernel
theorem fX8_has_0 : zf mX8_has 0 = some (.aload_n 0, 1, 1) := by decide +kernel
theorem fX8_has_1 : zf mX8_has 1 = some (.getfield 33, 3, 4) := by decide +kernel
theorem fX8_has_4 : zf mX8_has 4 = some (.iload_n 1, 1, 5) := by decide +kernel
theorem fX8_has_5 : zf mX8_has 5 = some (.iaload, 1, 6) := by decide +kernel
theorem fX8_has_6 : zf mX8_has 6 = some (.iload_n 3, 1, 7) := by decide +kernel
theorem fX8_has_7 : zf mX8_has 7 = some (.if_icmp .gt 17, 3, 10) := by decide +kernel
theorem fX8_has_10 : zf mX8_has 10 = some (.iload_n 2, 1, 11) := by decide +kernel
theorem fX8_has_11 : zf mX8_has 11 = some (.aload_n 0, 1, 12) := by decide +kernel
theorem fX8_has_12 : zf mX8_has 12 = some (.getfield 36, 3, 15) := by decide +kernel
theorem fX8_has_15 : zf mX8_has 15 = some (.iload_n 1, 1, 16) := by decide +kernel
theorem fX8_has_16 : zf mX8_has 16 = some (.iaload, 1, 17) := by decide +kernel
theorem fX8_has_17 : zf mX8_has 17 = some (.if_icmp .gt 7, 3, 20) := by decide +kernel
theorem fX8_has_20 : zf mX8_has 20 = some (.iconst 1, 1, 21) := by decide +kernel
theorem fX8_has_21 : zf mX8_has 21 = some (.goto 4, 3, 24) := by decide +kernel
theorem fX8_has_24 : zf mX8_has 24 = some (.iconst 0, 1, 25) := by decide +kernel
theorem fX8_has_25 : zf mX8_has 25 = some (.ireturn, 1, 26) := by decide +kernel
theorem fX8_isWithin0_0 : zf mX8_isWithin0 0 = some (.iload_n 2, 1, 1) := by decide +kernel
theorem fX8_isWithin0_1 : zf mX8_isWithin0 1 = some (.aload_n 0, 1, 2) := by decide +kernel
theorem fX8_isWithin0_2 : zf mX8_isWithin0 2 = some (.getfield 33, 3, 5) := by decide +kernel
theorem fX8_isWithin0_5 : zf mX8_isWithin0 5 = some (.iload_n 1, 1, 6) := by decide +kernel
theorem fX8_isWithin0_6 : zf mX8_isWithin0 6 = some (.iaload, 1, 7) := by decide +kernel
theorem fX8_isWithin0_7 : zf mX8_isWithin0 7 = some (.if_icmp .gt 17, 3, 10) := by decide +kernel
theorem fX8_isWithin0_10 : zf mX8_isWithin0 10 = some (.aload_n 0, 1, 11) := by decide +kernel
theorem fX8_isWithin0_11 : zf mX8_isWithin0 11 = some (.getfield 36, 3, 14) := by decide +kernel
theorem fX8_isWithin0_14 : zf mX8_isWithin0 14 = some (.iload_n 1, 1, 15) := by decide +kernel
theorem fX8_isWithin0_15 : zf mX8_isWithin0 15 = some (.iaload, 1, 16) := by decide +kernel
theorem fX8_isWithin0_16 : zf mX8_isWithin0 16 = some (.iload_n 3, 1, 17) := by decide +kernel
theorem fX8_isWithin0_17 : zf mX8_isWithin0 17 = some (.if_icmp .gt 7, 3, 20) := by decide +kernel
theorem fX8_isWithin0_20 : zf mX8_isWithin0 20 = some (.iconst 1, 1, 21) := by decide +kernel
theorem fX8_isWithin0_21 : zf mX8_isWithin0 21 = some (.goto 4, 3, 24) := by decide +kernel
theorem fX8_isWithin0_24 : zf mX8_isWithin0 24 = some (.iconst 0, 1, 25) := by decide +kernel
theorem fX8_isWithin0_25 : zf mX8_isWithin0 25 = some (.ireturn, 1, 26) := by decide +kernel
theorem fX8_comes_0 : zf mX8_comes 0 = some (.aload_n 0, 1, 1) := by decide +kernel
theorem fX8_comes_1 : zf mX8_comes 1 = some (.getfield 7, 3, 4) := by decide +kernel
theorem fX8_comes_4 : zf mX8_comes 4 = some (.iconst 0, 1, 5) := by decide +kernel
theorem fX8_comes_5 : zf mX8_comes 5 = some (.iaload, 1, 6) := by decide +kernel
theorem fX8_comes_6 : zf mX8_comes 6 = some (.istore_n 2, 1, 7) := by decide +kernel
theorem fX8_comes_7 : zf mX8_comes 7 = some (.aload_n 0, 1, 8) := by decide +kernel
theorem fX8_comes_8 : zf mX8_comes 8 = some (.getfield 7, 3, 11) := by decide +kernel
theorem fX8_comes_11 : zf mX8_comes 11 = some (.iconst 4, 1, 12) := by decide +kernel
theorem fX8_comes_12 : zf mX8_comes 12 = some (.iload_n 1, 1, 13) := by decide +kernel
theorem fX8_comes_13 : zf mX8_comes 13 = some (.iadd, 1, 14) := by decide +kernel
theorem fX8_comes_14 : zf mX8_comes 14 = some (.iaload, 1, 15) := by decide +kernel
theorem fX8_comes_15 : zf mX8_comes 15 = some (.istore_n 3, 1, 16) := by decide +kernel
theorem fX8_comes_16 : zf mX8_comes 16 = some (.aload_n 0, 1, 17) := by decide +kernel
theorem fX8_comes_17 : zf mX8_comes 17 = some (.getfield 7, 3, 20) := by decide +kernel
theorem fX8_comes_20 : zf mX8_comes 20 = some (.iconst 0, 1, 21) := by decide +kernel
theorem fX8_comes_21 : zf mX8_comes 21 = some (.dup2, 1, 22) := by decide +kernel
theorem fX8_comes_22 : zf mX8_comes 22 = some (.iaload, 1, 23) := by decide +kernel
theorem fX8_comes_23 : zf mX8_comes 23 = some (.iconst 1, 1, 24) := by decide +kernel
theorem fX8_comes_24 : zf mX8_comes 24 = some (.iadd, 1, 25) := by decide +kernel
theorem fX8_comes_25 : zf mX8_comes 25 = some (.iastore, 1, 26) := by decide +kernel
theorem fX8_comes_26 : zf mX8_comes 26 = some (.iconst 0, 1, 27) := by decide +kernel
theorem fX8_comes_27 : zf mX8_comes 27 = some (.istore 4, 2, 29) := by decide +kernel
theorem fX8_comes_29 : zf mX8_comes 29 = some (.iload 4, 2, 31) := by decide +kernel
theorem fX8_comes_31 : zf mX8_comes 31 = some (.bipush 49, 2, 33) := by decide +kernel
theorem fX8_comes_33 : zf mX8_comes 33 = some (.if_icmp .ge 23, 3, 36) := by decide +kernel
theorem fX8_comes_36 : zf mX8_comes 36 = some (.aload_n 0, 1, 37) := by decide +kernel
theorem fX8_comes_37 : zf mX8_comes 37 = some (.iload_n 2, 1, 38) := by decide +kernel
theorem fX8_comes_38 : zf mX8_comes 38 = some (.iload 4, 2, 40) := by decide +kernel
theorem fX8_comes_40 : zf mX8_comes 40 = some (.aload_n 0, 1, 41) := by decide +kernel
theorem fX8_comes_41 : zf mX8_comes 41 = some (.iload_n 3, 1, 42) := by decide +kernel
theorem fX8_comes_42 : zf mX8_comes 42 = some (.iload 4, 2, 44) := by decide +kernel
theorem fX8_comes_44 : zf mX8_comes 44 = some (.invokevirtual 72, 3, 47) := by decide +kernel
theorem fX8_comes_47 : zf mX8_comes 47 = some (.invokevirtual 76, 3, 50) := by decide +kernel
theorem fX8_comes_50 : zf mX8_comes 50 = some (.iinc 4 1, 3, 53) := by decide +kernel
theorem fX8_comes_53 : zf mX8_comes 53 = some (.goto (-24), 3, 56) := by decide +kernel
theorem fX8_comes_56 : zf mX8_comes 56 = some (.aload_n 0, 1, 57) := by decide +kernel
theorem fX8_comes_57 : zf mX8_comes 57 = some (.iload_n 2, 1, 58) := by decide +kernel
theorem fX8_comes_58 : zf mX8_comes 58 = some (.iconst 0, 1, 59) := by decide +kernel
theorem fX8_comes_59 : zf mX8_comes 59 = some (.iload_n 3, 1, 60) := by decide +kernel
theorem fX8_comes_60 : zf mX8_comes 60 = some (.invokevirtual 76, 3, 63) := by decide +kernel
theorem fX8_comes_63 : zf mX8_comes 63 = some (.aload_n 0, 1, 64) := by decide +kernel
theorem fX8_comes_64 : zf mX8_comes 64 = some (.iload_n 2, 1, 65) := by decide +kernel
theorem fX8_comes_65 : zf mX8_comes 65 = some (.iconst 1, 1, 66) := by decide +kernel
theorem fX8_comes_66 : zf mX8_comes 66 = some (.aload_n 0, 1, 67) := by decide +kernel
theorem fX8_comes_67 : zf mX8_comes 67 = some (.getfield 7, 3, 70) := by decide +kernel
theorem fX8_comes_70 : zf mX8_comes 70 = some (.iconst 1, 1, 71) := by decide +kernel
theorem fX8_comes_71 : zf mX8_comes 71 = some (.iaload, 1, 72) := by decide +kernel
theorem fX8_comes_72 : zf mX8_comes 72 = some (.invokevirtual 76, 3, 75) := by decide +kernel
theorem fX8_comes_75 : zf mX8_comes 75 = some (.aload_n 0, 1, 76) := by decide +kernel
theorem fX8_comes_76 : zf mX8_comes 76 = some (.getfield 7, 3, 79) := by decide +kernel
theorem fX8_comes_79 : zf mX8_comes 79 = some (.iconst 4, 1, 80) := by decide +kernel
theorem fX8_comes_80 : zf mX8_comes 80 = some (.iload_n 1, 1, 81) := by decide +kernel
theorem fX8_comes_81 : zf mX8_comes 81 = some (.iadd, 1, 82) := by decide +kernel
theorem fX8_comes_82 : zf mX8_comes 82 = some (.iload_n 2, 1, 83) := by decide +kernel
theorem fX8_comes_83 : zf mX8_comes 83 = some (.iastore, 1, 84) := by decide +kernel
theorem fX8_comes_84 : zf mX8_comes 84 = some (.iload_n 2, 1, 85) := by decide +kernel
theorem fX8_comes_85 : zf mX8_comes 85 = some (.ireturn, 1, 86) := by decide +kernel
theorem fX8_write_0 : zf mX8_write 0 = some (.iload_n 1, 1, 1) := by decide +kernel
theorem fX8_write_1 : zf mX8_write 1 = some (.invokestatic 80, 3, 4) := by decide +kernel
theorem fX8_write_4 : zf mX8_write 4 = some (.ifCond .eq 21, 3, 7) := by decide +kernel
theorem fX8_write_7 : zf mX8_write 7 = some (.iload_n 2, 1, 8) := by decide +kernel
theorem fX8_write_8 : zf mX8_write 8 = some (.invokestatic 84, 3, 11) := by decide +kernel
theorem fX8_write_11 : zf mX8_write 11 = some (.ifCond .eq 14, 3, 14) := by decide +kernel
theorem fX8_write_14 : zf mX8_write 14 = some (.iload_n 3, 1, 15) := by decide +kernel
theorem fX8_write_15 : zf mX8_write 15 = some (.iconst 0, 1, 16) := by decide +kernel
theorem fX8_write_16 : zf mX8_write 16 = some (.sipush 999, 3, 19) := by decide +kernel
theorem fX8_write_19 : zf mX8_write 19 = some (.invokestatic 68, 3, 22) := by decide +kernel
theorem fX8_write_22 : zf mX8_write 22 = some (.ifCond .ne 10, 3, 25) := by decide +kernel
theorem fX8_write_25 : zf mX8_write 25 = some (.aload_n 0, 1, 26) := by decide +kernel
theorem fX8_write_26 : zf mX8_write 26 = some (.iconst 1, 1, 27) := by decide +kernel
theorem fX8_write_27 : zf mX8_write 27 = some (.iconst 0, 1, 28) := by decide +kernel
theorem fX8_write_28 : zf mX8_write 28 = some (.invokevirtual 87, 3, 31) := by decide +kernel
theorem fX8_write_31 : zf mX8_write 31 = some (.ireturn, 1, 32) := by decide +kernel
theorem fX8_write_32 : zf mX8_write 32 = some (.aload_n 0, 1, 33) := by decide +kernel
theorem fX8_write_33 : zf mX8_write 33 = some (.aload_n 0, 1, 34) := by decide +kernel
theorem fX8_write_34 : zf mX8_write 34 = some (.getfield 7, 3, 37) := by decide +kernel
theorem fX8_write_37 : zf mX8_write 37 = some (.iconst 4, 1, 38) := by decide +kernel
theorem fX8_write_38 : zf mX8_write 38 = some (.iload_n 1, 1, 39) := by decide +kernel
theorem fX8_write_39 : zf mX8_write 39 = some (.iadd, 1, 40) := by decide +kernel
theorem fX8_write_40 : zf mX8_write 40 = some (.iaload, 1, 41) := by decide +kernel
theorem fX8_write_41 : zf mX8_write 41 = some (.iload_n 2, 1, 42) := by decide +kernel
theorem fX8_write_42 : zf mX8_write 42 = some (.invokevirtual 90, 3, 45) := by decide +kernel
theorem fX8_write_45 : zf mX8_write 45 = some (.iload_n 3, 1, 46) := by decide +kernel
theorem fX8_write_46 : zf mX8_write 46 = some (.if_icmp .ne 17, 3, 49) := by decide +kernel
theorem fX8_write_49 : zf mX8_write 49 = some (.aload_n 0, 1, 50) := by decide +kernel
theorem fX8_write_50 : zf mX8_write 50 = some (.iconst 3, 1, 51) := by decide +kernel
theorem fX8_write_51 : zf mX8_write 51 = some (.aload_n 0, 1, 52) := by decide +kernel
theorem fX8_write_52 : zf mX8_write 52 = some (.getfield 7, 3, 55) := by decide +kernel
theorem fX8_write_55 : zf mX8_write 55 = some (.iconst 4, 1, 56) := by decide +kernel
theorem fX8_write_56 : zf mX8_write 56 = some (.iload_n 1, 1, 57) := by decide +kernel
theorem fX8_write_57 : zf mX8_write 57 = some (.iadd, 1, 58) := by decide +kernel
theorem fX8_write_58 : zf mX8_write 58 = some (.iaload, 1, 59) := by decide +kernel
theorem fX8_write_59 : zf mX8_write 59 = some (.invokevirtual 87, 3, 62) := by decide +kernel
theorem fX8_write_62 : zf mX8_write 62 = some (.ireturn, 1, 63) := by decide +kernel
theorem fX8_write_63 : zf mX8_write 63 = some (.aload_n 0, 1, 64) := by decide +kernel
theorem fX8_write_64 : zf mX8_write 64 = some (.getfield 7, 3, 67) := by decide +kernel
theorem fX8_write_67 : zf mX8_write 67 = some (.iconst 0, 1, 68) := by decide +kernel
theorem fX8_write_68 : zf mX8_write 68 = some (.iaload, 1, 69) := by decide +kernel
theorem fX8_write_69 : zf mX8_write 69 = some (.bipush 40, 2, 71) := by decide +kernel
theorem fX8_write_71 : zf mX8_write 71 = some (.if_icmp .ne 10, 3, 74) := by decide +kernel
theorem fX8_write_74 : zf mX8_write 74 = some (.aload_n 0, 1, 75) := by decide +kernel
theorem fX8_write_75 : zf mX8_write 75 = some (.iconst 2, 1, 76) := by decide +kernel
theorem fX8_write_76 : zf mX8_write 76 = some (.iconst 0, 1, 77) := by decide +kernel
theorem fX8_write_77 : zf mX8_write 77 = some (.invokevirtual 87, 3, 80) := by decide +kernel
theorem fX8_write_80 : zf mX8_write 80 = some (.ireturn, 1, 81) := by decide +kernel
theorem fX8_write_81 : zf mX8_write 81 = some (.aload_n 0, 1, 82) := by decide +kernel
theorem fX8_write_82 : zf mX8_write 82 = some (.aload_n 0, 1, 83) := by decide +kernel
theorem fX8_write_83 : zf mX8_write 83 = some (.getfield 7, 3, 86) := by decide +kernel
theorem fX8_write_86 : zf mX8_write 86 = some (.invokevirtual 93, 3, 89) := by decide +kernel
theorem fX8_write_89 : zf mX8_write 89 = some (.aload_n 0, 1, 90) := by decide +kernel
theorem fX8_write_90 : zf mX8_write 90 = some (.iload_n 1, 1, 91) := by decide +kernel
theorem fX8_write_91 : zf mX8_write 91 = some (.invokevirtual 97, 3, 94) := by decide +kernel
theorem fX8_write_94 : zf mX8_write 94 = some (.istore 4, 2, 96) := by decide +kernel
theorem fX8_write_96 : zf mX8_write 96 = some (.aload_n 0, 1, 97) := by decide +kernel
theorem fX8_write_97 : zf mX8_write 97 = some (.iload 4, 2, 99) := by decide +kernel
theorem fX8_write_99 : zf mX8_write 99 = some (.iconst 2, 1, 100) := by decide +kernel
theorem fX8_write_100 : zf mX8_write 100 = some (.iload_n 2, 1, 101) := by decide +kernel
theorem fX8_write_101 : zf mX8_write 101 = some (.iadd, 1, 102) := by decide +kernel
theorem fX8_write_102 : zf mX8_write 102 = some (.iload_n 3, 1, 103) := by decide +kernel
theorem fX8_write_103 : zf mX8_write 103 = some (.invokevirtual 76, 3, 106) := by decide +kernel
theorem fX8_write_106 : zf mX8_write 106 = some (.iconst 0, 1, 107) := by decide +kernel
theorem fX8_write_107 : zf mX8_write 107 = some (.istore 5, 2, 109) := by decide +kernel
theorem fX8_write_109 : zf mX8_write 109 = some (.iload 5, 2, 111) := by decide +kernel
theorem fX8_write_111 : zf mX8_write 111 = some (.bipush 31, 2, 113) := by decide +kernel
theorem fX8_write_113 : zf mX8_write 113 = some (.if_icmp .ge 33, 3, 116) := by decide +kernel
theorem fX8_write_116 : zf mX8_write 116 = some (.aload_n 0, 1, 117) := by decide +kernel
theorem fX8_write_117 : zf mX8_write 117 = some (.iload 5, 2, 119) := by decide +kernel
theorem fX8_write_119 : zf mX8_write 119 = some (.iload_n 2, 1, 120) := by decide +kernel
theorem fX8_write_120 : zf mX8_write 120 = some (.iload_n 2, 1, 121) := by decide +kernel
theorem fX8_write_121 : zf mX8_write 121 = some (.invokevirtual 101, 3, 124) := by decide +kernel
theorem fX8_write_124 : zf mX8_write 124 = some (.ifCond .eq 16, 3, 127) := by decide +kernel
theorem fX8_write_127 : zf mX8_write 127 = some (.aload_n 0, 1, 128) := by decide +kernel
theorem fX8_write_128 : zf mX8_write 128 = some (.iload 4, 2, 130) := by decide +kernel
theorem fX8_write_130 : zf mX8_write 130 = some (.bipush 18, 2, 132) := by decide +kernel
theorem fX8_write_132 : zf mX8_write 132 = some (.iload 5, 2, 134) := by decide +kernel
theorem fX8_write_134 : zf mX8_write 134 = some (.iadd, 1, 135) := by decide +kernel
theorem fX8_write_135 : zf mX8_write 135 = some (.iload 4, 2, 137) := by decide +kernel
theorem fX8_write_137 : zf mX8_write 137 = some (.invokevirtual 76, 3, 140) := by decide +kernel
theorem fX8_write_140 : zf mX8_write 140 = some (.iinc 5 1, 3, 143) := by decide +kernel
theorem fX8_write_143 : zf mX8_write 143 = some (.goto (-34), 3, 146) := by decide +kernel
theorem fX8_write_146 : zf mX8_write 146 = some (.aload_n 0, 1, 147) := by decide +kernel
theorem fX8_write_147 : zf mX8_write 147 = some (.getfield 7, 3, 150) := by decide +kernel
theorem fX8_write_150 : zf mX8_write 150 = some (.iconst 2, 1, 151) := by decide +kernel
theorem fX8_write_151 : zf mX8_write 151 = some (.dup2, 1, 152) := by decide +kernel
theorem fX8_write_152 : zf mX8_write 152 = some (.iaload, 1, 153) := by decide +kernel
theorem fX8_write_153 : zf mX8_write 153 = some (.iconst 1, 1, 154) := by decide +kernel
theorem fX8_write_154 : zf mX8_write 154 = some (.iadd, 1, 155) := by decide +kernel
theorem fX8_write_155 : zf mX8_write 155 = some (.iastore, 1, 156) := by decide +kernel
theorem fX8_write_156 : zf mX8_write 156 = some (.iload 4, 2, 158) := by decide +kernel
theorem fX8_write_158 : zf mX8_write 158 = some (.ireturn, 1, 159) := by decide +kernel
theorem fX8_areLike_0 : zf mX8_areLike 0 = some (.iload_n 3, 1, 1) := by decide +kernel
theorem fX8_areLike_1 : zf mX8_areLike 1 = some (.istore 5, 2, 3) := by decide +kernel
theorem fX8_areLike_3 : zf mX8_areLike 3 = some (.iload 5, 2, 5) := by decide +kernel
theorem fX8_areLike_5 : zf mX8_areLike 5 = some (.iload 4, 2, 7) := by decide +kernel
theorem fX8_areLike_7 : zf mX8_areLike 7 = some (.if_icmp .gt 28, 3, 10) := by decide +kernel
theorem fX8_areLike_10 : zf mX8_areLike 10 = some (.aload_n 0, 1, 11) := by decide +kernel
theorem fX8_areLike_11 : zf mX8_areLike 11 = some (.iload_n 1, 1, 12) := by decide +kernel
theorem fX8_areLike_12 : zf mX8_areLike 12 = some (.iload 5, 2, 14) := by decide +kernel
theorem fX8_areLike_14 : zf mX8_areLike 14 = some (.invokevirtual 90, 3, 17) := by decide +kernel
theorem fX8_areLike_17 : zf mX8_areLike 17 = some (.aload_n 0, 1, 18) := by decide +kernel
theorem fX8_areLike_18 : zf mX8_areLike 18 = some (.iload_n 2, 1, 19) := by decide +kernel
theorem fX8_areLike_19 : zf mX8_areLike 19 = some (.iload 5, 2, 21) := by decide +kernel
theorem fX8_areLike_21 : zf mX8_areLike 21 = some (.invokevirtual 90, 3, 24) := by decide +kernel
theorem fX8_areLike_24 : zf mX8_areLike 24 = some (.if_icmp .eq 5, 3, 27) := by decide +kernel
theorem fX8_areLike_27 : zf mX8_areLike 27 = some (.iconst 0, 1, 28) := by decide +kernel
theorem fX8_areLike_28 : zf mX8_areLike 28 = some (.ireturn, 1, 29) := by decide +kernel
theorem fX8_areLike_29 : zf mX8_areLike 29 = some (.iinc 5 1, 3, 32) := by decide +kernel
theorem fX8_areLike_32 : zf mX8_areLike 32 = some (.goto (-29), 3, 35) := by decide +kernel
theorem fX8_areLike_35 : zf mX8_areLike 35 = some (.iconst 1, 1, 36) := by decide +kernel
theorem fX8_areLike_36 : zf mX8_areLike 36 = some (.ireturn, 1, 37) := by decide +kernel
theorem fX8_graft_0 : zf mX8_graft 0 = some (.iload_n 1, 1, 1) := by decide +kernel
theorem fX8_graft_1 : zf mX8_graft 1 = some (.invokestatic 80, 3, 4) := by decide +kernel
theorem fX8_graft_4 : zf mX8_graft 4 = some (.ifCond .eq 18, 3, 7) := by decide +kernel
theorem fX8_graft_7 : zf mX8_graft 7 = some (.iload_n 3, 1, 8) := by decide +kernel
theorem fX8_graft_8 : zf mX8_graft 8 = some (.invokestatic 84, 3, 11) := by decide +kernel
theorem fX8_graft_11 : zf mX8_graft 11 = some (.ifCond .eq 11, 3, 14) := by decide +kernel
theorem fX8_graft_14 : zf mX8_graft 14 = some (.iload 4, 2, 16) := by decide +kernel
theorem fX8_graft_16 : zf mX8_graft 16 = some (.invokestatic 84, 3, 19) := by decide +kernel
theorem fX8_graft_19 : zf mX8_graft 19 = some (.ifCond .ne 10, 3, 22) := by decide +kernel
theorem fX8_graft_22 : zf mX8_graft 22 = some (.aload_n 0, 1, 23) := by decide +kernel
theorem fX8_graft_23 : zf mX8_graft 23 = some (.iconst 1, 1, 24) := by decide +kernel
theorem fX8_graft_24 : zf mX8_graft 24 = some (.iconst 0, 1, 25) := by decide +kernel
theorem fX8_graft_25 : zf mX8_graft 25 = some (.invokevirtual 87, 3, 28) := by decide +kernel
theorem fX8_graft_28 : zf mX8_graft 28 = some (.ireturn, 1, 29) := by decide +kernel
theorem fX8_graft_29 : zf mX8_graft 29 = some (.aload_n 0, 1, 30) := by decide +kernel
theorem fX8_graft_30 : zf mX8_graft 30 = some (.iload_n 2, 1, 31) := by decide +kernel
theorem fX8_graft_31 : zf mX8_graft 31 = some (.invokevirtual 104, 3, 34) := by decide +kernel
theorem fX8_graft_34 : zf mX8_graft 34 = some (.ifCond .ne 15, 3, 37) := by decide +kernel
theorem fX8_graft_37 : zf mX8_graft 37 = some (.aload_n 0, 1, 38) := by decide +kernel
theorem fX8_graft_38 : zf mX8_graft 38 = some (.iconst 4, 1, 39) := by decide +kernel
theorem fX8_graft_39 : zf mX8_graft 39 = some (.aload_n 0, 1, 40) := by decide +kernel
theorem fX8_graft_40 : zf mX8_graft 40 = some (.getfield 7, 3, 43) := by decide +kernel
theorem fX8_graft_43 : zf mX8_graft 43 = some (.iconst 0, 1, 44) := by decide +kernel
theorem fX8_graft_44 : zf mX8_graft 44 = some (.iaload, 1, 45) := by decide +kernel
theorem fX8_graft_45 : zf mX8_graft 45 = some (.invokevirtual 87, 3, 48) := by decide +kernel
theorem fX8_graft_48 : zf mX8_graft 48 = some (.ireturn, 1, 49) := by decide +kernel
theorem fX8_graft_49 : zf mX8_graft 49 = some (.iload 4, 2, 51) := by decide +kernel
theorem fX8_graft_51 : zf mX8_graft 51 = some (.iload_n 3, 1, 52) := by decide +kernel
theorem fX8_graft_52 : zf mX8_graft 52 = some (.if_icmp .ge 13, 3, 55) := by decide +kernel
theorem fX8_graft_55 : zf mX8_graft 55 = some (.aload_n 0, 1, 56) := by decide +kernel
theorem fX8_graft_56 : zf mX8_graft 56 = some (.iconst 5, 1, 57) := by decide +kernel
theorem fX8_graft_57 : zf mX8_graft 57 = some (.iload_n 3, 1, 58) := by decide +kernel
theorem fX8_graft_58 : zf mX8_graft 58 = some (.iload 4, 2, 60) := by decide +kernel
theorem fX8_graft_60 : zf mX8_graft 60 = some (.isub, 1, 61) := by decide +kernel
theorem fX8_graft_61 : zf mX8_graft 61 = some (.invokevirtual 87, 3, 64) := by decide +kernel
theorem fX8_graft_64 : zf mX8_graft 64 = some (.ireturn, 1, 65) := by decide +kernel
theorem fX8_graft_65 : zf mX8_graft 65 = some (.aload_n 0, 1, 66) := by decide +kernel
theorem fX8_graft_66 : zf mX8_graft 66 = some (.aload_n 0, 1, 67) := by decide +kernel
theorem fX8_graft_67 : zf mX8_graft 67 = some (.getfield 7, 3, 70) := by decide +kernel
theorem fX8_graft_70 : zf mX8_graft 70 = some (.iconst 4, 1, 71) := by decide +kernel
theorem fX8_graft_71 : zf mX8_graft 71 = some (.iload_n 1, 1, 72) := by decide +kernel
theorem fX8_graft_72 : zf mX8_graft 72 = some (.iadd, 1, 73) := by decide +kernel
theorem fX8_graft_73 : zf mX8_graft 73 = some (.iaload, 1, 74) := by decide +kernel
theorem fX8_graft_74 : zf mX8_graft 74 = some (.iload_n 2, 1, 75) := by decide +kernel
theorem fX8_graft_75 : zf mX8_graft 75 = some (.iload_n 3, 1, 76) := by decide +kernel
theorem fX8_graft_76 : zf mX8_graft 76 = some (.iload 4, 2, 78) := by decide +kernel
theorem fX8_graft_78 : zf mX8_graft 78 = some (.invokevirtual 107, 3, 81) := by decide +kernel
theorem fX8_graft_81 : zf mX8_graft 81 = some (.ifCond .eq 17, 3, 84) := by decide +kernel
theorem fX8_graft_84 : zf mX8_graft 84 = some (.aload_n 0, 1, 85) := by decide +kernel
theorem fX8_graft_85 : zf mX8_graft 85 = some (.iconst 3, 1, 86) := by decide +kernel
theorem fX8_graft_86 : zf mX8_graft 86 = some (.aload_n 0, 1, 87) := by decide +kernel
theorem fX8_graft_87 : zf mX8_graft 87 = some (.getfield 7, 3, 90) := by decide +kernel
theorem fX8_graft_90 : zf mX8_graft 90 = some (.iconst 4, 1, 91) := by decide +kernel
theorem fX8_graft_91 : zf mX8_graft 91 = some (.iload_n 1, 1, 92) := by decide +kernel
theorem fX8_graft_92 : zf mX8_graft 92 = some (.iadd, 1, 93) := by decide +kernel
theorem fX8_graft_93 : zf mX8_graft 93 = some (.iaload, 1, 94) := by decide +kernel
theorem fX8_graft_94 : zf mX8_graft 94 = some (.invokevirtual 87, 3, 97) := by decide +kernel
theorem fX8_graft_97 : zf mX8_graft 97 = some (.ireturn, 1, 98) := by decide +kernel
theorem fX8_graft_98 : zf mX8_graft 98 = some (.aload_n 0, 1, 99) := by decide +kernel
theorem fX8_graft_99 : zf mX8_graft 99 = some (.getfield 7, 3, 102) := by decide +kernel
theorem fX8_graft_102 : zf mX8_graft 102 = some (.iconst 0, 1, 103) := by decide +kernel
theorem fX8_graft_103 : zf mX8_graft 103 = some (.iaload, 1, 104) := by decide +kernel
theorem fX8_graft_104 : zf mX8_graft 104 = some (.bipush 40, 2, 106) := by decide +kernel
theorem fX8_graft_106 : zf mX8_graft 106 = some (.if_icmp .ne 10, 3, 109) := by decide +kernel
theorem fX8_graft_109 : zf mX8_graft 109 = some (.aload_n 0, 1, 110) := by decide +kernel
theorem fX8_graft_110 : zf mX8_graft 110 = some (.iconst 2, 1, 111) := by decide +kernel
theorem fX8_graft_111 : zf mX8_graft 111 = some (.iconst 0, 1, 112) := by decide +kernel
theorem fX8_graft_112 : zf mX8_graft 112 = some (.invokevirtual 87, 3, 115) := by decide +kernel
theorem fX8_graft_115 : zf mX8_graft 115 = some (.ireturn, 1, 116) := by decide +kernel
theorem fX8_graft_116 : zf mX8_graft 116 = some (.aload_n 0, 1, 117) := by decide +kernel
theorem fX8_graft_117 : zf mX8_graft 117 = some (.aload_n 0, 1, 118) := by decide +kernel
theorem fX8_graft_118 : zf mX8_graft 118 = some (.getfield 7, 3, 121) := by decide +kernel
theorem fX8_graft_121 : zf mX8_graft 121 = some (.invokevirtual 93, 3, 124) := by decide +kernel
theorem fX8_graft_124 : zf mX8_graft 124 = some (.aload_n 0, 1, 125) := by decide +kernel
theorem fX8_graft_125 : zf mX8_graft 125 = some (.iload_n 1, 1, 126) := by decide +kernel
theorem fX8_graft_126 : zf mX8_graft 126 = some (.invokevirtual 97, 3, 129) := by decide +kernel
theorem fX8_graft_129 : zf mX8_graft 129 = some (.istore 5, 2, 131) := by decide +kernel
theorem fX8_graft_131 : zf mX8_graft 131 = some (.iload_n 3, 1, 132) := by decide +kernel
theorem fX8_graft_132 : zf mX8_graft 132 = some (.istore 6, 2, 134) := by decide +kernel
theorem fX8_graft_134 : zf mX8_graft 134 = some (.iload 6, 2, 136) := by decide +kernel
theorem fX8_graft_136 : zf mX8_graft 136 = some (.iload 4, 2, 138) := by decide +kernel
theorem fX8_graft_138 : zf mX8_graft 138 = some (.if_icmp .gt 26, 3, 141) := by decide +kernel
theorem fX8_graft_141 : zf mX8_graft 141 = some (.aload_n 0, 1, 142) := by decide +kernel
theorem fX8_graft_142 : zf mX8_graft 142 = some (.iload 5, 2, 144) := by decide +kernel
theorem fX8_graft_144 : zf mX8_graft 144 = some (.iconst 2, 1, 145) := by decide +kernel
theorem fX8_graft_145 : zf mX8_graft 145 = some (.iload 6, 2, 147) := by decide +kernel
theorem fX8_graft_147 : zf mX8_graft 147 = some (.iadd, 1, 148) := by decide +kernel
theorem fX8_graft_148 : zf mX8_graft 148 = some (.aload_n 0, 1, 149) := by decide +kernel
theorem fX8_graft_149 : zf mX8_graft 149 = some (.iload_n 2, 1, 150) := by decide +kernel
theorem fX8_graft_150 : zf mX8_graft 150 = some (.iload 6, 2, 152) := by decide +kernel
theorem fX8_graft_152 : zf mX8_graft 152 = some (.invokevirtual 90, 3, 155) := by decide +kernel
theorem fX8_graft_155 : zf mX8_graft 155 = some (.invokevirtual 76, 3, 158) := by decide +kernel
theorem fX8_graft_158 : zf mX8_graft 158 = some (.iinc 6 1, 3, 161) := by decide +kernel
theorem fX8_graft_161 : zf mX8_graft 161 = some (.goto (-27), 3, 164) := by decide +kernel
theorem fX8_graft_164 : zf mX8_graft 164 = some (.iconst 0, 1, 165) := by decide +kernel
theorem fX8_graft_165 : zf mX8_graft 165 = some (.istore 6, 2, 167) := by decide +kernel
theorem fX8_graft_167 : zf mX8_graft 167 = some (.iload 6, 2, 169) := by decide +kernel
theorem fX8_graft_169 : zf mX8_graft 169 = some (.bipush 31, 2, 171) := by decide +kernel
theorem fX8_graft_171 : zf mX8_graft 171 = some (.if_icmp .ge 59, 3, 174) := by decide +kernel
theorem fX8_graft_174 : zf mX8_graft 174 = some (.aload_n 0, 1, 175) := by decide +kernel
theorem fX8_graft_175 : zf mX8_graft 175 = some (.iload 6, 2, 177) := by decide +kernel
theorem fX8_graft_177 : zf mX8_graft 177 = some (.iload_n 3, 1, 178) := by decide +kernel
theorem fX8_graft_178 : zf mX8_graft 178 = some (.iload 4, 2, 180) := by decide +kernel
theorem fX8_graft_180 : zf mX8_graft 180 = some (.invokevirtual 101, 3, 183) := by decide +kernel
theorem fX8_graft_183 : zf mX8_graft 183 = some (.ifCond .eq 41, 3, 186) := by decide +kernel
theorem fX8_graft_186 : zf mX8_graft 186 = some (.aload_n 0, 1, 187) := by decide +kernel
theorem fX8_graft_187 : zf mX8_graft 187 = some (.iload 5, 2, 189) := by decide +kernel
theorem fX8_graft_189 : zf mX8_graft 189 = some (.bipush 18, 2, 191) := by decide +kernel
theorem fX8_graft_191 : zf mX8_graft 191 = some (.iload 6, 2, 193) := by decide +kernel
theorem fX8_graft_193 : zf mX8_graft 193 = some (.iadd, 1, 194) := by decide +kernel
theorem fX8_graft_194 : zf mX8_graft 194 = some (.aload_n 0, 1, 195) := by decide +kernel
theorem fX8_graft_195 : zf mX8_graft 195 = some (.iload 6, 2, 197) := by decide +kernel
theorem fX8_graft_197 : zf mX8_graft 197 = some (.iload_n 3, 1, 198) := by decide +kernel
theorem fX8_graft_198 : zf mX8_graft 198 = some (.iload 4, 2, 200) := by decide +kernel
theorem fX8_graft_200 : zf mX8_graft 200 = some (.invokevirtual 111, 3, 203) := by decide +kernel
theorem fX8_graft_203 : zf mX8_graft 203 = some (.ifCond .eq 16, 3, 206) := by decide +kernel
theorem fX8_graft_206 : zf mX8_graft 206 = some (.aload_n 0, 1, 207) := by decide +kernel
theorem fX8_graft_207 : zf mX8_graft 207 = some (.iload_n 2, 1, 208) := by decide +kernel
theorem fX8_graft_208 : zf mX8_graft 208 = some (.bipush 18, 2, 210) := by decide +kernel
theorem fX8_graft_210 : zf mX8_graft 210 = some (.iload 6, 2, 212) := by decide +kernel
theorem fX8_graft_212 : zf mX8_graft 212 = some (.iadd, 1, 213) := by decide +kernel
theorem fX8_graft_213 : zf mX8_graft 213 = some (.invokevirtual 72, 3, 216) := by decide +kernel
theorem fX8_graft_216 : zf mX8_graft 216 = some (.goto 5, 3, 219) := by decide +kernel
theorem fX8_graft_219 : zf mX8_graft 219 = some (.iload 5, 2, 221) := by decide +kernel
theorem fX8_graft_221 : zf mX8_graft 221 = some (.invokevirtual 76, 3, 224) := by decide +kernel
theorem fX8_graft_224 : zf mX8_graft 224 = some (.iinc 6 1, 3, 227) := by decide +kernel
theorem fX8_graft_227 : zf mX8_graft 227 = some (.goto (-60), 3, 230) := by decide +kernel
theorem fX8_graft_230 : zf mX8_graft 230 = some (.aload_n 0, 1, 231) := by decide +kernel
theorem fX8_graft_231 : zf mX8_graft 231 = some (.getfield 7, 3, 234) := by decide +kernel
theorem fX8_graft_234 : zf mX8_graft 234 = some (.iconst 3, 1, 235) := by decide +kernel
theorem fX8_graft_235 : zf mX8_graft 235 = some (.dup2, 1, 236) := by decide +kernel
theorem fX8_graft_236 : zf mX8_graft 236 = some (.iaload, 1, 237) := by decide +kernel
theorem fX8_graft_237 : zf mX8_graft 237 = some (.iconst 1, 1, 238) := by decide +kernel
theorem fX8_graft_238 : zf mX8_graft 238 = some (.iadd, 1, 239) := by decide +kernel
theorem fX8_graft_239 : zf mX8_graft 239 = some (.iastore, 1, 240) := by decide +kernel
theorem fX8_graft_240 : zf mX8_graft 240 = some (.iload 5, 2, 242) := by decide +kernel
theorem fX8_graft_242 : zf mX8_graft 242 = some (.ireturn, 1, 243) := by decide +kernel
theorem fX8_fork_0 : zf mX8_fork 0 = some (.iload_n 1, 1, 1) := by decide +kernel
theorem fX8_fork_1 : zf mX8_fork 1 = some (.invokestatic 80, 3, 4) := by decide +kernel
theorem fX8_fork_4 : zf mX8_fork 4 = some (.ifCond .eq 10, 3, 7) := by decide +kernel
theorem fX8_fork_7 : zf mX8_fork 7 = some (.iload_n 2, 1, 8) := by decide +kernel
theorem fX8_fork_8 : zf mX8_fork 8 = some (.invokestatic 80, 3, 11) := by decide +kernel
theorem fX8_fork_11 : zf mX8_fork 11 = some (.ifCond .ne 10, 3, 14) := by decide +kernel
theorem fX8_fork_14 : zf mX8_fork 14 = some (.aload_n 0, 1, 15) := by decide +kernel
theorem fX8_fork_15 : zf mX8_fork 15 = some (.iconst 1, 1, 16) := by decide +kernel
theorem fX8_fork_16 : zf mX8_fork 16 = some (.iconst 0, 1, 17) := by decide +kernel
theorem fX8_fork_17 : zf mX8_fork 17 = some (.invokevirtual 87, 3, 20) := by decide +kernel
theorem fX8_fork_20 : zf mX8_fork 20 = some (.ireturn, 1, 21) := by decide +kernel
theorem fX8_fork_21 : zf mX8_fork 21 = some (.iload_n 1, 1, 22) := by decide +kernel
theorem fX8_fork_22 : zf mX8_fork 22 = some (.iload_n 2, 1, 23) := by decide +kernel
theorem fX8_fork_23 : zf mX8_fork 23 = some (.if_icmp .ne 11, 3, 26) := by decide +kernel
theorem fX8_fork_26 : zf mX8_fork 26 = some (.aload_n 0, 1, 27) := by decide +kernel
theorem fX8_fork_27 : zf mX8_fork 27 = some (.bipush 6, 2, 29) := by decide +kernel
theorem fX8_fork_29 : zf mX8_fork 29 = some (.iload_n 1, 1, 30) := by decide +kernel
theorem fX8_fork_30 : zf mX8_fork 30 = some (.invokevirtual 87, 3, 33) := by decide +kernel
theorem fX8_fork_33 : zf mX8_fork 33 = some (.ireturn, 1, 34) := by decide +kernel
theorem fX8_fork_34 : zf mX8_fork 34 = some (.aload_n 0, 1, 35) := by decide +kernel
theorem fX8_fork_35 : zf mX8_fork 35 = some (.getfield 7, 3, 38) := by decide +kernel
theorem fX8_fork_38 : zf mX8_fork 38 = some (.iconst 4, 1, 39) := by decide +kernel
theorem fX8_fork_39 : zf mX8_fork 39 = some (.iload_n 1, 1, 40) := by decide +kernel
theorem fX8_fork_40 : zf mX8_fork 40 = some (.iadd, 1, 41) := by decide +kernel
theorem fX8_fork_41 : zf mX8_fork 41 = some (.iaload, 1, 42) := by decide +kernel
theorem fX8_fork_42 : zf mX8_fork 42 = some (.aload_n 0, 1, 43) := by decide +kernel
theorem fX8_fork_43 : zf mX8_fork 43 = some (.getfield 7, 3, 46) := by decide +kernel
theorem fX8_fork_46 : zf mX8_fork 46 = some (.iconst 4, 1, 47) := by decide +kernel
theorem fX8_fork_47 : zf mX8_fork 47 = some (.iload_n 2, 1, 48) := by decide +kernel
theorem fX8_fork_48 : zf mX8_fork 48 = some (.iadd, 1, 49) := by decide +kernel
theorem fX8_fork_49 : zf mX8_fork 49 = some (.iaload, 1, 50) := by decide +kernel
theorem fX8_fork_50 : zf mX8_fork 50 = some (.if_icmp .ne 17, 3, 53) := by decide +kernel
theorem fX8_fork_53 : zf mX8_fork 53 = some (.aload_n 0, 1, 54) := by decide +kernel
theorem fX8_fork_54 : zf mX8_fork 54 = some (.iconst 3, 1, 55) := by decide +kernel
theorem fX8_fork_55 : zf mX8_fork 55 = some (.aload_n 0, 1, 56) := by decide +kernel
theorem fX8_fork_56 : zf mX8_fork 56 = some (.getfield 7, 3, 59) := by decide +kernel
theorem fX8_fork_59 : zf mX8_fork 59 = some (.iconst 4, 1, 60) := by decide +kernel
theorem fX8_fork_60 : zf mX8_fork 60 = some (.iload_n 1, 1, 61) := by decide +kernel
theorem fX8_fork_61 : zf mX8_fork 61 = some (.iadd, 1, 62) := by decide +kernel
theorem fX8_fork_62 : zf mX8_fork 62 = some (.iaload, 1, 63) := by decide +kernel
theorem fX8_fork_63 : zf mX8_fork 63 = some (.invokevirtual 87, 3, 66) := by decide +kernel
theorem fX8_fork_66 : zf mX8_fork 66 = some (.ireturn, 1, 67) := by decide +kernel
theorem fX8_fork_67 : zf mX8_fork 67 = some (.aload_n 0, 1, 68) := by decide +kernel
theorem fX8_fork_68 : zf mX8_fork 68 = some (.aload_n 0, 1, 69) := by decide +kernel
theorem fX8_fork_69 : zf mX8_fork 69 = some (.getfield 7, 3, 72) := by decide +kernel
theorem fX8_fork_72 : zf mX8_fork 72 = some (.invokevirtual 93, 3, 75) := by decide +kernel
theorem fX8_fork_75 : zf mX8_fork 75 = some (.aload_n 0, 1, 76) := by decide +kernel
theorem fX8_fork_76 : zf mX8_fork 76 = some (.getfield 7, 3, 79) := by decide +kernel
theorem fX8_fork_79 : zf mX8_fork 79 = some (.iconst 4, 1, 80) := by decide +kernel
theorem fX8_fork_80 : zf mX8_fork 80 = some (.iload_n 1, 1, 81) := by decide +kernel
theorem fX8_fork_81 : zf mX8_fork 81 = some (.iadd, 1, 82) := by decide +kernel
theorem fX8_fork_82 : zf mX8_fork 82 = some (.aload_n 0, 1, 83) := by decide +kernel
theorem fX8_fork_83 : zf mX8_fork 83 = some (.getfield 7, 3, 86) := by decide +kernel
theorem fX8_fork_86 : zf mX8_fork 86 = some (.iconst 4, 1, 87) := by decide +kernel
theorem fX8_fork_87 : zf mX8_fork 87 = some (.iload_n 2, 1, 88) := by decide +kernel
theorem fX8_fork_88 : zf mX8_fork 88 = some (.iadd, 1, 89) := by decide +kernel
theorem fX8_fork_89 : zf mX8_fork 89 = some (.iaload, 1, 90) := by decide +kernel
theorem fX8_fork_90 : zf mX8_fork 90 = some (.iastore, 1, 91) := by decide +kernel
theorem fX8_fork_91 : zf mX8_fork 91 = some (.aload_n 0, 1, 92) := by decide +kernel
theorem fX8_fork_92 : zf mX8_fork 92 = some (.getfield 7, 3, 95) := by decide +kernel
theorem fX8_fork_95 : zf mX8_fork 95 = some (.iconst 4, 1, 96) := by decide +kernel
theorem fX8_fork_96 : zf mX8_fork 96 = some (.iload_n 1, 1, 97) := by decide +kernel
theorem fX8_fork_97 : zf mX8_fork 97 = some (.iadd, 1, 98) := by decide +kernel
theorem fX8_fork_98 : zf mX8_fork 98 = some (.iaload, 1, 99) := by decide +kernel
theorem fX8_fork_99 : zf mX8_fork 99 = some (.ireturn, 1, 100) := by decide +kernel
theorem fX8_ancestors_0 : zf mX8_ancestors 0 = some (.iconst 0, 1, 1) := by decide +kernel
theorem fX8_ancestors_1 : zf mX8_ancestors 1 = some (.istore_n 2, 1, 2) := by decide +kernel
theorem fX8_ancestors_2 : zf mX8_ancestors 2 = some (.aload_n 0, 1, 3) := by decide +kernel
theorem fX8_ancestors_3 : zf mX8_ancestors 3 = some (.iload_n 1, 1, 4) := by decide +kernel
theorem fX8_ancestors_4 : zf mX8_ancestors 4 = some (.iconst 0, 1, 5) := by decide +kernel
theorem fX8_ancestors_5 : zf mX8_ancestors 5 = some (.invokevirtual 72, 3, 8) := by decide +kernel
theorem fX8_ancestors_8 : zf mX8_ancestors 8 = some (.istore_n 3, 1, 9) := by decide +kernel
theorem fX8_ancestors_9 : zf mX8_ancestors 9 = some (.iload_n 3, 1, 10) := by decide +kernel
theorem fX8_ancestors_10 : zf mX8_ancestors 10 = some (.ifCond .lt 16, 3, 13) := by decide +kernel
theorem fX8_ancestors_13 : zf mX8_ancestors 13 = some (.iinc 2 1, 3, 16) := by decide +kernel
theorem fX8_ancestors_16 : zf mX8_ancestors 16 = some (.aload_n 0, 1, 17) := by decide +kernel
theorem fX8_ancestors_17 : zf mX8_ancestors 17 = some (.iload_n 3, 1, 18) := by decide +kernel
theorem fX8_ancestors_18 : zf mX8_ancestors 18 = some (.iconst 0, 1, 19) := by decide +kernel
theorem fX8_ancestors_19 : zf mX8_ancestors 19 = some (.invokevirtual 72, 3, 22) := by decide +kernel
theorem fX8_ancestors_22 : zf mX8_ancestors 22 = some (.istore_n 3, 1, 23) := by decide +kernel
theorem fX8_ancestors_23 : zf mX8_ancestors 23 = some (.goto (-14), 3, 26) := by decide +kernel
theorem fX8_ancestors_26 : zf mX8_ancestors 26 = some (.iload_n 2, 1, 27) := by decide +kernel
theorem fX8_ancestors_27 : zf mX8_ancestors 27 = some (.ireturn, 1, 28) := by decide +kernel
theorem fX8_back_0 : zf mX8_back 0 = some (.iload_n 1, 1, 1) := by decide +kernel
theorem fX8_back_1 : zf mX8_back 1 = some (.invokestatic 80, 3, 4) := by decide +kernel
theorem fX8_back_4 : zf mX8_back 4 = some (.ifCond .eq 13, 3, 7) := by decide +kernel
theorem fX8_back_7 : zf mX8_back 7 = some (.iload_n 2, 1, 8) := by decide +kernel
theorem fX8_back_8 : zf mX8_back 8 = some (.iconst 1, 1, 9) := by decide +kernel
theorem fX8_back_9 : zf mX8_back 9 = some (.bipush 39, 2, 11) := by decide +kernel
theorem fX8_back_11 : zf mX8_back 11 = some (.invokestatic 68, 3, 14) := by decide +kernel
theorem fX8_back_14 : zf mX8_back 14 = some (.ifCond .ne 10, 3, 17) := by decide +kernel
theorem fX8_back_17 : zf mX8_back 17 = some (.aload_n 0, 1, 18) := by decide +kernel
theorem fX8_back_18 : zf mX8_back 18 = some (.iconst 1, 1, 19) := by decide +kernel
theorem fX8_back_19 : zf mX8_back 19 = some (.iconst 0, 1, 20) := by decide +kernel
theorem fX8_back_20 : zf mX8_back 20 = some (.invokevirtual 87, 3, 23) := by decide +kernel
theorem fX8_back_23 : zf mX8_back 23 = some (.ireturn, 1, 24) := by decide +kernel
theorem fX8_back_24 : zf mX8_back 24 = some (.aload_n 0, 1, 25) := by decide +kernel
theorem fX8_back_25 : zf mX8_back 25 = some (.aload_n 0, 1, 26) := by decide +kernel
theorem fX8_back_26 : zf mX8_back 26 = some (.getfield 7, 3, 29) := by decide +kernel
theorem fX8_back_29 : zf mX8_back 29 = some (.iconst 4, 1, 30) := by decide +kernel
theorem fX8_back_30 : zf mX8_back 30 = some (.iload_n 1, 1, 31) := by decide +kernel
theorem fX8_back_31 : zf mX8_back 31 = some (.iadd, 1, 32) := by decide +kernel
theorem fX8_back_32 : zf mX8_back 32 = some (.iaload, 1, 33) := by decide +kernel
theorem fX8_back_33 : zf mX8_back 33 = some (.invokevirtual 114, 3, 36) := by decide +kernel
theorem fX8_back_36 : zf mX8_back 36 = some (.istore_n 3, 1, 37) := by decide +kernel
theorem fX8_back_37 : zf mX8_back 37 = some (.iload_n 3, 1, 38) := by decide +kernel
theorem fX8_back_38 : zf mX8_back 38 = some (.iload_n 2, 1, 39) := by decide +kernel
theorem fX8_back_39 : zf mX8_back 39 = some (.if_icmp .ge 11, 3, 42) := by decide +kernel
theorem fX8_back_42 : zf mX8_back 42 = some (.aload_n 0, 1, 43) := by decide +kernel
theorem fX8_back_43 : zf mX8_back 43 = some (.bipush 7, 2, 45) := by decide +kernel
theorem fX8_back_45 : zf mX8_back 45 = some (.iload_n 3, 1, 46) := by decide +kernel
theorem fX8_back_46 : zf mX8_back 46 = some (.invokevirtual 87, 3, 49) := by decide +kernel
theorem fX8_back_49 : zf mX8_back 49 = some (.ireturn, 1, 50) := by decide +kernel
theorem fX8_back_50 : zf mX8_back 50 = some (.aload_n 0, 1, 51) := by decide +kernel
theorem fX8_back_51 : zf mX8_back 51 = some (.aload_n 0, 1, 52) := by decide +kernel
theorem fX8_back_52 : zf mX8_back 52 = some (.getfield 7, 3, 55) := by decide +kernel
theorem fX8_back_55 : zf mX8_back 55 = some (.invokevirtual 93, 3, 58) := by decide +kernel
theorem fX8_back_58 : zf mX8_back 58 = some (.iconst 0, 1, 59) := by decide +kernel
theorem fX8_back_59 : zf mX8_back 59 = some (.istore 4, 2, 61) := by decide +kernel
theorem fX8_back_61 : zf mX8_back 61 = some (.iload 4, 2, 63) := by decide +kernel
theorem fX8_back_63 : zf mX8_back 63 = some (.iload_n 2, 1, 64) := by decide +kernel
theorem fX8_back_64 : zf mX8_back 64 = some (.if_icmp .ge 30, 3, 67) := by decide +kernel
theorem fX8_back_67 : zf mX8_back 67 = some (.aload_n 0, 1, 68) := by decide +kernel
theorem fX8_back_68 : zf mX8_back 68 = some (.getfield 7, 3, 71) := by decide +kernel
theorem fX8_back_71 : zf mX8_back 71 = some (.iconst 4, 1, 72) := by decide +kernel
theorem fX8_back_72 : zf mX8_back 72 = some (.iload_n 1, 1, 73) := by decide +kernel
theorem fX8_back_73 : zf mX8_back 73 = some (.iadd, 1, 74) := by decide +kernel
theorem fX8_back_74 : zf mX8_back 74 = some (.aload_n 0, 1, 75) := by decide +kernel
theorem fX8_back_75 : zf mX8_back 75 = some (.aload_n 0, 1, 76) := by decide +kernel
theorem fX8_back_76 : zf mX8_back 76 = some (.getfield 7, 3, 79) := by decide +kernel
theorem fX8_back_79 : zf mX8_back 79 = some (.iconst 4, 1, 80) := by decide +kernel
theorem fX8_back_80 : zf mX8_back 80 = some (.iload_n 1, 1, 81) := by decide +kernel
theorem fX8_back_81 : zf mX8_back 81 = some (.iadd, 1, 82) := by decide +kernel
theorem fX8_back_82 : zf mX8_back 82 = some (.iaload, 1, 83) := by decide +kernel
theorem fX8_back_83 : zf mX8_back 83 = some (.iconst 0, 1, 84) := by decide +kernel
theorem fX8_back_84 : zf mX8_back 84 = some (.invokevirtual 72, 3, 87) := by decide +kernel
theorem fX8_back_87 : zf mX8_back 87 = some (.iastore, 1, 88) := by decide +kernel
theorem fX8_back_88 : zf mX8_back 88 = some (.iinc 4 1, 3, 91) := by decide +kernel
theorem fX8_back_91 : zf mX8_back 91 = some (.goto (-30), 3, 94) := by decide +kernel
theorem fX8_back_94 : zf mX8_back 94 = some (.aload_n 0, 1, 95) := by decide +kernel
theorem fX8_back_95 : zf mX8_back 95 = some (.getfield 7, 3, 98) := by decide +kernel
theorem fX8_back_98 : zf mX8_back 98 = some (.iconst 4, 1, 99) := by decide +kernel
theorem fX8_back_99 : zf mX8_back 99 = some (.iload_n 1, 1, 100) := by decide +kernel
theorem fX8_back_100 : zf mX8_back 100 = some (.iadd, 1, 101) := by decide +kernel
theorem fX8_back_101 : zf mX8_back 101 = some (.iaload, 1, 102) := by decide +kernel
theorem fX8_back_102 : zf mX8_back 102 = some (.ireturn, 1, 103) := by decide +kernel
theorem fX8_pass_0 : zf mX8_pass 0 = some (.iload_n 1, 1, 1) := by decide +kernel
theorem fX8_pass_1 : zf mX8_pass 1 = some (.iconst 1, 1, 2) := by decide +kernel
theorem fX8_pass_2 : zf mX8_pass 2 = some (.bipush 99, 2, 4) := by decide +kernel
theorem fX8_pass_4 : zf mX8_pass 4 = some (.invokestatic 68, 3, 7) := by decide +kernel
theorem fX8_pass_7 : zf mX8_pass 7 = some (.ifCond .ne 10, 3, 10) := by decide +kernel
theorem fX8_pass_10 : zf mX8_pass 10 = some (.aload_n 0, 1, 11) := by decide +kernel
theorem fX8_pass_11 : zf mX8_pass 11 = some (.iconst 1, 1, 12) := by decide +kernel
theorem fX8_pass_12 : zf mX8_pass 12 = some (.iconst 0, 1, 13) := by decide +kernel
theorem fX8_pass_13 : zf mX8_pass 13 = some (.invokevirtual 87, 3, 16) := by decide +kernel
theorem fX8_pass_16 : zf mX8_pass 16 = some (.ireturn, 1, 17) := by decide +kernel
theorem fX8_pass_17 : zf mX8_pass 17 = some (.aload_n 0, 1, 18) := by decide +kernel
theorem fX8_pass_18 : zf mX8_pass 18 = some (.getfield 7, 3, 21) := by decide +kernel
theorem fX8_pass_21 : zf mX8_pass 21 = some (.iconst 1, 1, 22) := by decide +kernel
theorem fX8_pass_22 : zf mX8_pass 22 = some (.iaload, 1, 23) := by decide +kernel
theorem fX8_pass_23 : zf mX8_pass 23 = some (.iload_n 1, 1, 24) := by decide +kernel
theorem fX8_pass_24 : zf mX8_pass 24 = some (.iadd, 1, 25) := by decide +kernel
theorem fX8_pass_25 : zf mX8_pass 25 = some (.bipush 99, 2, 27) := by decide +kernel
theorem fX8_pass_27 : zf mX8_pass 27 = some (.if_icmp .le 21, 3, 30) := by decide +kernel
theorem fX8_pass_30 : zf mX8_pass 30 = some (.aload_n 0, 1, 31) := by decide +kernel
theorem fX8_pass_31 : zf mX8_pass 31 = some (.bipush 8, 2, 33) := by decide +kernel
theorem fX8_pass_33 : zf mX8_pass 33 = some (.aload_n 0, 1, 34) := by decide +kernel
theorem fX8_pass_34 : zf mX8_pass 34 = some (.getfield 7, 3, 37) := by decide +kernel
theorem fX8_pass_37 : zf mX8_pass 37 = some (.iconst 1, 1, 38) := by decide +kernel
theorem fX8_pass_38 : zf mX8_pass 38 = some (.iaload, 1, 39) := by decide +kernel
theorem fX8_pass_39 : zf mX8_pass 39 = some (.iload_n 1, 1, 40) := by decide +kernel
theorem fX8_pass_40 : zf mX8_pass 40 = some (.iadd, 1, 41) := by decide +kernel
theorem fX8_pass_41 : zf mX8_pass 41 = some (.bipush 99, 2, 43) := by decide +kernel
theorem fX8_pass_43 : zf mX8_pass 43 = some (.isub, 1, 44) := by decide +kernel
theorem fX8_pass_44 : zf mX8_pass 44 = some (.invokevirtual 87, 3, 47) := by decide +kernel
theorem fX8_pass_47 : zf mX8_pass 47 = some (.ireturn, 1, 48) := by decide +kernel
theorem fX8_pass_48 : zf mX8_pass 48 = some (.aload_n 0, 1, 49) := by decide +kernel
theorem fX8_pass_49 : zf mX8_pass 49 = some (.aload_n 0, 1, 50) := by decide +kernel
theorem fX8_pass_50 : zf mX8_pass 50 = some (.getfield 7, 3, 53) := by decide +kernel
theorem fX8_pass_53 : zf mX8_pass 53 = some (.invokevirtual 93, 3, 56) := by decide +kernel
theorem fX8_pass_56 : zf mX8_pass 56 = some (.aload_n 0, 1, 57) := by decide +kernel
theorem fX8_pass_57 : zf mX8_pass 57 = some (.getfield 7, 3, 60) := by decide +kernel
theorem fX8_pass_60 : zf mX8_pass 60 = some (.iconst 1, 1, 61) := by decide +kernel
theorem fX8_pass_61 : zf mX8_pass 61 = some (.dup2, 1, 62) := by decide +kernel
theorem fX8_pass_62 : zf mX8_pass 62 = some (.iaload, 1, 63) := by decide +kernel
theorem fX8_pass_63 : zf mX8_pass 63 = some (.iload_n 1, 1, 64) := by decide +kernel
theorem fX8_pass_64 : zf mX8_pass 64 = some (.iadd, 1, 65) := by decide +kernel
theorem fX8_pass_65 : zf mX8_pass 65 = some (.iastore, 1, 66) := by decide +kernel
theorem fX8_pass_66 : zf mX8_pass 66 = some (.aload_n 0, 1, 67) := by decide +kernel
theorem fX8_pass_67 : zf mX8_pass 67 = some (.getfield 7, 3, 70) := by decide +kernel
theorem fX8_pass_70 : zf mX8_pass 70 = some (.iconst 1, 1, 71) := by decide +kernel
theorem fX8_pass_71 : zf mX8_pass 71 = some (.iaload, 1, 72) := by decide +kernel
theorem fX8_pass_72 : zf mX8_pass 72 = some (.ireturn, 1, 73) := by decide +kernel
theorem fX8_ledger_0 : zf mX8_ledger 0 = some (.aload_n 0, 1, 1) := by decide +kernel
theorem fX8_ledger_1 : zf mX8_ledger 1 = some (.iload_n 1, 1, 2) := by decide +kernel
theorem fX8_ledger_2 : zf mX8_ledger 2 = some (.invokestatic 80, 3, 5) := by decide +kernel
theorem fX8_ledger_5 : zf mX8_ledger 5 = some (.ifCond .eq 7, 3, 8) := by decide +kernel
theorem fX8_ledger_8 : zf mX8_ledger 8 = some (.iconst 0, 1, 9) := by decide +kernel
theorem fX8_ledger_9 : zf mX8_ledger 9 = some (.goto 4, 3, 12) := by decide +kernel
theorem fX8_ledger_12 : zf mX8_ledger 12 = some (.iconst 1, 1, 13) := by decide +kernel
theorem fX8_ledger_13 : zf mX8_ledger 13 = some (.invokevirtual 117, 3, 16) := by decide +kernel
theorem fX8_ledger_16 : zf mX8_ledger 16 = some (.ifCond .eq 7, 3, 19) := by decide +kernel
theorem fX8_ledger_19 : zf mX8_ledger 19 = some (.iconst 0, 1, 20) := by decide +kernel
theorem fX8_ledger_20 : zf mX8_ledger 20 = some (.goto 11, 3, 23) := by decide +kernel
theorem fX8_ledger_23 : zf mX8_ledger 23 = some (.aload_n 0, 1, 24) := by decide +kernel
theorem fX8_ledger_24 : zf mX8_ledger 24 = some (.getfield 7, 3, 27) := by decide +kernel
theorem fX8_ledger_27 : zf mX8_ledger 27 = some (.iconst 4, 1, 28) := by decide +kernel
theorem fX8_ledger_28 : zf mX8_ledger 28 = some (.iload_n 1, 1, 29) := by decide +kernel
theorem fX8_ledger_29 : zf mX8_ledger 29 = some (.iadd, 1, 30) := by decide +kernel
theorem fX8_ledger_30 : zf mX8_ledger 30 = some (.iaload, 1, 31) := by decide +kernel
theorem fX8_ledger_31 : zf mX8_ledger 31 = some (.ireturn, 1, 32) := by decide +kernel
theorem fX8_amount_0 : zf mX8_amount 0 = some (.aload_n 0, 1, 1) := by decide +kernel
theorem fX8_amount_1 : zf mX8_amount 1 = some (.aload_n 0, 1, 2) := by decide +kernel
theorem fX8_amount_2 : zf mX8_amount 2 = some (.iload_n 1, 1, 3) := by decide +kernel
theorem fX8_amount_3 : zf mX8_amount 3 = some (.invokevirtual 104, 3, 6) := by decide +kernel
theorem fX8_amount_6 : zf mX8_amount 6 = some (.ifCond .ne 7, 3, 9) := by decide +kernel
theorem fX8_amount_9 : zf mX8_amount 9 = some (.iconst 1, 1, 10) := by decide +kernel
theorem fX8_amount_10 : zf mX8_amount 10 = some (.goto 15, 3, 13) := by decide +kernel
theorem fX8_amount_13 : zf mX8_amount 13 = some (.iload_n 2, 1, 14) := by decide +kernel
theorem fX8_amount_14 : zf mX8_amount 14 = some (.invokestatic 84, 3, 17) := by decide +kernel
theorem fX8_amount_17 : zf mX8_amount 17 = some (.ifCond .eq 7, 3, 20) := by decide +kernel
theorem fX8_amount_20 : zf mX8_amount 20 = some (.iconst 0, 1, 21) := by decide +kernel
theorem fX8_amount_21 : zf mX8_amount 21 = some (.goto 4, 3, 24) := by decide +kernel
theorem fX8_amount_24 : zf mX8_amount 24 = some (.iconst 2, 1, 25) := by decide +kernel
theorem fX8_amount_25 : zf mX8_amount 25 = some (.invokevirtual 117, 3, 28) := by decide +kernel
theorem fX8_amount_28 : zf mX8_amount 28 = some (.ifCond .eq 7, 3, 31) := by decide +kernel
theorem fX8_amount_31 : zf mX8_amount 31 = some (.iconst 0, 1, 32) := by decide +kernel
theorem fX8_amount_32 : zf mX8_amount 32 = some (.goto 9, 3, 35) := by decide +kernel
theorem fX8_amount_35 : zf mX8_amount 35 = some (.aload_n 0, 1, 36) := by decide +kernel
theorem fX8_amount_36 : zf mX8_amount 36 = some (.iload_n 1, 1, 37) := by decide +kernel
theorem fX8_amount_37 : zf mX8_amount 37 = some (.iload_n 2, 1, 38) := by decide +kernel
theorem fX8_amount_38 : zf mX8_amount 38 = some (.invokevirtual 90, 3, 41) := by decide +kernel
theorem fX8_amount_41 : zf mX8_amount 41 = some (.ireturn, 1, 42) := by decide +kernel
theorem fX8_sumOf_0 : zf mX8_sumOf 0 = some (.iconst 0, 1, 1) := by decide +kernel
theorem fX8_sumOf_1 : zf mX8_sumOf 1 = some (.istore 4, 2, 3) := by decide +kernel
theorem fX8_sumOf_3 : zf mX8_sumOf 3 = some (.iload_n 2, 1, 4) := by decide +kernel
theorem fX8_sumOf_4 : zf mX8_sumOf 4 = some (.istore 5, 2, 6) := by decide +kernel
theorem fX8_sumOf_6 : zf mX8_sumOf 6 = some (.iload 5, 2, 8) := by decide +kernel
theorem fX8_sumOf_8 : zf mX8_sumOf 8 = some (.iload_n 3, 1, 9) := by decide +kernel
theorem fX8_sumOf_9 : zf mX8_sumOf 9 = some (.if_icmp .gt 21, 3, 12) := by decide +kernel
theorem fX8_sumOf_12 : zf mX8_sumOf 12 = some (.iload 4, 2, 14) := by decide +kernel
theorem fX8_sumOf_14 : zf mX8_sumOf 14 = some (.aload_n 0, 1, 15) := by decide +kernel
theorem fX8_sumOf_15 : zf mX8_sumOf 15 = some (.iload_n 1, 1, 16) := by decide +kernel
theorem fX8_sumOf_16 : zf mX8_sumOf 16 = some (.iload 5, 2, 18) := by decide +kernel
theorem fX8_sumOf_18 : zf mX8_sumOf 18 = some (.invokevirtual 90, 3, 21) := by decide +kernel
theorem fX8_sumOf_21 : zf mX8_sumOf 21 = some (.iadd, 1, 22) := by decide +kernel
theorem fX8_sumOf_22 : zf mX8_sumOf 22 = some (.istore 4, 2, 24) := by decide +kernel
theorem fX8_sumOf_24 : zf mX8_sumOf 24 = some (.iinc 5 1, 3, 27) := by decide +kernel
theorem fX8_sumOf_27 : zf mX8_sumOf 27 = some (.goto (-21), 3, 30) := by decide +kernel
theorem fX8_sumOf_30 : zf mX8_sumOf 30 = some (.iload 4, 2, 32) := by decide +kernel
theorem fX8_sumOf_32 : zf mX8_sumOf 32 = some (.ireturn, 1, 33) := by decide +kernel
theorem fX8_areLines_0 : zf mX8_areLines 0 = some (.iload_n 0, 1, 1) := by decide +kernel
theorem fX8_areLines_1 : zf mX8_areLines 1 = some (.invokestatic 84, 3, 4) := by decide +kernel
theorem fX8_areLines_4 : zf mX8_areLines 4 = some (.ifCond .eq 19, 3, 7) := by decide +kernel
theorem fX8_areLines_7 : zf mX8_areLines 7 = some (.iload_n 1, 1, 8) := by decide +kernel
theorem fX8_areLines_8 : zf mX8_areLines 8 = some (.invokestatic 84, 3, 11) := by decide +kernel
theorem fX8_areLines_11 : zf mX8_areLines 11 = some (.ifCond .eq 12, 3, 14) := by decide +kernel
theorem fX8_areLines_14 : zf mX8_areLines 14 = some (.iload_n 0, 1, 15) := by decide +kernel
theorem fX8_areLines_15 : zf mX8_areLines 15 = some (.iload_n 1, 1, 16) := by decide +kernel
theorem fX8_areLines_16 : zf mX8_areLines 16 = some (.if_icmp .gt 7, 3, 19) := by decide +kernel
theorem fX8_areLines_19 : zf mX8_areLines 19 = some (.iconst 1, 1, 20) := by decide +kernel
theorem fX8_areLines_20 : zf mX8_areLines 20 = some (.goto 4, 3, 23) := by decide +kernel
theorem fX8_areLines_23 : zf mX8_areLines 23 = some (.iconst 0, 1, 24) := by decide +kernel
theorem fX8_areLines_24 : zf mX8_areLines 24 = some (.ireturn, 1, 25) := by decide +kernel
theorem fX8_sum_0 : zf mX8_sum 0 = some (.aload_n 0, 1, 1) := by decide +kernel
theorem fX8_sum_1 : zf mX8_sum 1 = some (.aload_n 0, 1, 2) := by decide +kernel
theorem fX8_sum_2 : zf mX8_sum 2 = some (.iload_n 1, 1, 3) := by decide +kernel
theorem fX8_sum_3 : zf mX8_sum 3 = some (.invokevirtual 104, 3, 6) := by decide +kernel
theorem fX8_sum_6 : zf mX8_sum 6 = some (.ifCond .ne 7, 3, 9) := by decide +kernel
theorem fX8_sum_9 : zf mX8_sum 9 = some (.iconst 1, 1, 10) := by decide +kernel
theorem fX8_sum_10 : zf mX8_sum 10 = some (.goto 16, 3, 13) := by decide +kernel
theorem fX8_sum_13 : zf mX8_sum 13 = some (.iload_n 2, 1, 14) := by decide +kernel
theorem fX8_sum_14 : zf mX8_sum 14 = some (.iload_n 3, 1, 15) := by decide +kernel
theorem fX8_sum_15 : zf mX8_sum 15 = some (.invokestatic 120, 3, 18) := by decide +kernel
theorem fX8_sum_18 : zf mX8_sum 18 = some (.ifCond .eq 7, 3, 21) := by decide +kernel
theorem fX8_sum_21 : zf mX8_sum 21 = some (.iconst 0, 1, 22) := by decide +kernel
theorem fX8_sum_22 : zf mX8_sum 22 = some (.goto 4, 3, 25) := by decide +kernel
theorem fX8_sum_25 : zf mX8_sum 25 = some (.iconst 2, 1, 26) := by decide +kernel
theorem fX8_sum_26 : zf mX8_sum 26 = some (.invokevirtual 117, 3, 29) := by decide +kernel
theorem fX8_sum_29 : zf mX8_sum 29 = some (.ifCond .eq 7, 3, 32) := by decide +kernel
theorem fX8_sum_32 : zf mX8_sum 32 = some (.iconst 0, 1, 33) := by decide +kernel
theorem fX8_sum_33 : zf mX8_sum 33 = some (.goto 10, 3, 36) := by decide +kernel
theorem fX8_sum_36 : zf mX8_sum 36 = some (.aload_n 0, 1, 37) := by decide +kernel
theorem fX8_sum_37 : zf mX8_sum 37 = some (.iload_n 1, 1, 38) := by decide +kernel
theorem fX8_sum_38 : zf mX8_sum 38 = some (.iload_n 2, 1, 39) := by decide +kernel
theorem fX8_sum_39 : zf mX8_sum 39 = some (.iload_n 3, 1, 40) := by decide +kernel
theorem fX8_sum_40 : zf mX8_sum 40 = some (.invokevirtual 124, 3, 43) := by decide +kernel
theorem fX8_sum_43 : zf mX8_sum 43 = some (.ireturn, 1, 44) := by decide +kernel
theorem fX8_sumAgain_0 : zf mX8_sumAgain 0 = some (.aload_n 0, 1, 1) := by decide +kernel
theorem fX8_sumAgain_1 : zf mX8_sumAgain 1 = some (.iload_n 1, 1, 2) := by decide +kernel
theorem fX8_sumAgain_2 : zf mX8_sumAgain 2 = some (.iload_n 2, 1, 3) := by decide +kernel
theorem fX8_sumAgain_3 : zf mX8_sumAgain 3 = some (.iload_n 3, 1, 4) := by decide +kernel
theorem fX8_sumAgain_4 : zf mX8_sumAgain 4 = some (.invokevirtual 128, 3, 7) := by decide +kernel
theorem fX8_sumAgain_7 : zf mX8_sumAgain 7 = some (.ireturn, 1, 8) := by decide +kernel
theorem fX8_most_0 : zf mX8_most 0 = some (.aload_n 0, 1, 1) := by decide +kernel
theorem fX8_most_1 : zf mX8_most 1 = some (.aload_n 0, 1, 2) := by decide +kernel
theorem fX8_most_2 : zf mX8_most 2 = some (.iload_n 1, 1, 3) := by decide +kernel
theorem fX8_most_3 : zf mX8_most 3 = some (.invokevirtual 104, 3, 6) := by decide +kernel
theorem fX8_most_6 : zf mX8_most 6 = some (.ifCond .ne 7, 3, 9) := by decide +kernel
theorem fX8_most_9 : zf mX8_most 9 = some (.iconst 1, 1, 10) := by decide +kernel
theorem fX8_most_10 : zf mX8_most 10 = some (.goto 16, 3, 13) := by decide +kernel
theorem fX8_most_13 : zf mX8_most 13 = some (.iload_n 2, 1, 14) := by decide +kernel
theorem fX8_most_14 : zf mX8_most 14 = some (.iload_n 3, 1, 15) := by decide +kernel
theorem fX8_most_15 : zf mX8_most 15 = some (.invokestatic 120, 3, 18) := by decide +kernel
theorem fX8_most_18 : zf mX8_most 18 = some (.ifCond .eq 7, 3, 21) := by decide +kernel
theorem fX8_most_21 : zf mX8_most 21 = some (.iconst 0, 1, 22) := by decide +kernel
theorem fX8_most_22 : zf mX8_most 22 = some (.goto 4, 3, 25) := by decide +kernel
theorem fX8_most_25 : zf mX8_most 25 = some (.iconst 2, 1, 26) := by decide +kernel
theorem fX8_most_26 : zf mX8_most 26 = some (.invokevirtual 117, 3, 29) := by decide +kernel
theorem fX8_most_29 : zf mX8_most 29 = some (.ifCond .eq 5, 3, 32) := by decide +kernel
theorem fX8_most_32 : zf mX8_most 32 = some (.iconst 0, 1, 33) := by decide +kernel
theorem fX8_most_33 : zf mX8_most 33 = some (.ireturn, 1, 34) := by decide +kernel
theorem fX8_most_34 : zf mX8_most 34 = some (.iload_n 2, 1, 35) := by decide +kernel
theorem fX8_most_35 : zf mX8_most 35 = some (.istore 4, 2, 37) := by decide +kernel
theorem fX8_most_37 : zf mX8_most 37 = some (.iload_n 2, 1, 38) := by decide +kernel
theorem fX8_most_38 : zf mX8_most 38 = some (.istore 5, 2, 40) := by decide +kernel
theorem fX8_most_40 : zf mX8_most 40 = some (.iload 5, 2, 42) := by decide +kernel
theorem fX8_most_42 : zf mX8_most 42 = some (.iload_n 3, 1, 43) := by decide +kernel
theorem fX8_most_43 : zf mX8_most 43 = some (.if_icmp .gt 30, 3, 46) := by decide +kernel
theorem fX8_most_46 : zf mX8_most 46 = some (.aload_n 0, 1, 47) := by decide +kernel
theorem fX8_most_47 : zf mX8_most 47 = some (.iload_n 1, 1, 48) := by decide +kernel
theorem fX8_most_48 : zf mX8_most 48 = some (.iload 5, 2, 50) := by decide +kernel
theorem fX8_most_50 : zf mX8_most 50 = some (.invokevirtual 90, 3, 53) := by decide +kernel
theorem fX8_most_53 : zf mX8_most 53 = some (.aload_n 0, 1, 54) := by decide +kernel
theorem fX8_most_54 : zf mX8_most 54 = some (.iload_n 1, 1, 55) := by decide +kernel
theorem fX8_most_55 : zf mX8_most 55 = some (.iload 4, 2, 57) := by decide +kernel
theorem fX8_most_57 : zf mX8_most 57 = some (.invokevirtual 90, 3, 60) := by decide +kernel
theorem fX8_most_60 : zf mX8_most 60 = some (.if_icmp .le 7, 3, 63) := by decide +kernel
theorem fX8_most_63 : zf mX8_most 63 = some (.iload 5, 2, 65) := by decide +kernel
theorem fX8_most_65 : zf mX8_most 65 = some (.istore 4, 2, 67) := by decide +kernel
theorem fX8_most_67 : zf mX8_most 67 = some (.iinc 5 1, 3, 70) := by decide +kernel
theorem fX8_most_70 : zf mX8_most 70 = some (.goto (-30), 3, 73) := by decide +kernel
theorem fX8_most_73 : zf mX8_most 73 = some (.iload 4, 2, 75) := by decide +kernel
theorem fX8_most_75 : zf mX8_most 75 = some (.ireturn, 1, 76) := by decide +kernel
theorem fX8_reached_0 : zf mX8_reached 0 = some (.aload_n 0, 1, 1) := by decide +kernel
theorem fX8_reached_1 : zf mX8_reached 1 = some (.aload_n 0, 1, 2) := by decide +kernel
theorem fX8_reached_2 : zf mX8_reached 2 = some (.iload_n 1, 1, 3) := by decide +kernel
theorem fX8_reached_3 : zf mX8_reached 3 = some (.invokevirtual 104, 3, 6) := by decide +kernel
theorem fX8_reached_6 : zf mX8_reached 6 = some (.ifCond .eq 7, 3, 9) := by decide +kernel
theorem fX8_reached_9 : zf mX8_reached 9 = some (.iconst 0, 1, 10) := by decide +kernel
theorem fX8_reached_10 : zf mX8_reached 10 = some (.goto 4, 3, 13) := by decide +kernel
theorem fX8_reached_13 : zf mX8_reached 13 = some (.iconst 1, 1, 14) := by decide +kernel
theorem fX8_reached_14 : zf mX8_reached 14 = some (.invokevirtual 117, 3, 17) := by decide +kernel
theorem fX8_reached_17 : zf mX8_reached 17 = some (.ifCond .eq 5, 3, 20) := by decide +kernel
theorem fX8_reached_20 : zf mX8_reached 20 = some (.iconst 0, 1, 21) := by decide +kernel
theorem fX8_reached_21 : zf mX8_reached 21 = some (.ireturn, 1, 22) := by decide +kernel
theorem fX8_reached_22 : zf mX8_reached 22 = some (.iconst 0, 1, 23) := by decide +kernel
theorem fX8_reached_23 : zf mX8_reached 23 = some (.istore_n 3, 1, 24) := by decide +kernel
theorem fX8_reached_24 : zf mX8_reached 24 = some (.iload_n 3, 1, 25) := by decide +kernel
theorem fX8_reached_25 : zf mX8_reached 25 = some (.bipush 16, 2, 27) := by decide +kernel
theorem fX8_reached_27 : zf mX8_reached 27 = some (.if_icmp .ge 22, 3, 30) := by decide +kernel
theorem fX8_reached_30 : zf mX8_reached 30 = some (.aload_n 0, 1, 31) := by decide +kernel
theorem fX8_reached_31 : zf mX8_reached 31 = some (.iload_n 1, 1, 32) := by decide +kernel
theorem fX8_reached_32 : zf mX8_reached 32 = some (.iconst 0, 1, 33) := by decide +kernel
theorem fX8_reached_33 : zf mX8_reached 33 = some (.iload_n 3, 1, 34) := by decide +kernel
theorem fX8_reached_34 : zf mX8_reached 34 = some (.invokevirtual 124, 3, 37) := by decide +kernel
theorem fX8_reached_37 : zf mX8_reached 37 = some (.iload_n 2, 1, 38) := by decide +kernel
theorem fX8_reached_38 : zf mX8_reached 38 = some (.if_icmp .lt 5, 3, 41) := by decide +kernel
theorem fX8_reached_41 : zf mX8_reached 41 = some (.iload_n 3, 1, 42) := by decide +kernel
theorem fX8_reached_42 : zf mX8_reached 42 = some (.ireturn, 1, 43) := by decide +kernel
theorem fX8_reached_43 : zf mX8_reached 43 = some (.iinc 3 1, 3, 46) := by decide +kernel
theorem fX8_reached_46 : zf mX8_reached 46 = some (.goto (-22), 3, 49) := by decide +kernel
theorem fX8_reached_49 : zf mX8_reached 49 = some (.aload_n 0, 1, 50) := by decide +kernel
theorem fX8_reached_50 : zf mX8_reached 50 = some (.iconst 2, 1, 51) := by decide +kernel
theorem fX8_reached_51 : zf mX8_reached 51 = some (.putfield 42, 3, 54) := by decide +kernel
theorem fX8_reached_54 : zf mX8_reached 54 = some (.iconst 0, 1, 55) := by decide +kernel
theorem fX8_reached_55 : zf mX8_reached 55 = some (.ireturn, 1, 56) := by decide +kernel
theorem fX8_children_0 : zf mX8_children 0 = some (.iconst 0, 1, 1) := by decide +kernel
theorem fX8_children_1 : zf mX8_children 1 = some (.istore_n 2, 1, 2) := by decide +kernel
theorem fX8_children_2 : zf mX8_children 2 = some (.iconst 1, 1, 3) := by decide +kernel
theorem fX8_children_3 : zf mX8_children 3 = some (.istore_n 3, 1, 4) := by decide +kernel
theorem fX8_children_4 : zf mX8_children 4 = some (.iload_n 3, 1, 5) := by decide +kernel
theorem fX8_children_5 : zf mX8_children 5 = some (.aload_n 0, 1, 6) := by decide +kernel
theorem fX8_children_6 : zf mX8_children 6 = some (.getfield 7, 3, 9) := by decide +kernel
theorem fX8_children_9 : zf mX8_children 9 = some (.iconst 0, 1, 10) := by decide +kernel
theorem fX8_children_10 : zf mX8_children 10 = some (.iaload, 1, 11) := by decide +kernel
theorem fX8_children_11 : zf mX8_children 11 = some (.if_icmp .ge 27, 3, 14) := by decide +kernel
theorem fX8_children_14 : zf mX8_children 14 = some (.iload_n 2, 1, 15) := by decide +kernel
theorem fX8_children_15 : zf mX8_children 15 = some (.aload_n 0, 1, 16) := by decide +kernel
theorem fX8_children_16 : zf mX8_children 16 = some (.iload_n 3, 1, 17) := by decide +kernel
theorem fX8_children_17 : zf mX8_children 17 = some (.iconst 0, 1, 18) := by decide +kernel
theorem fX8_children_18 : zf mX8_children 18 = some (.invokevirtual 72, 3, 21) := by decide +kernel
theorem fX8_children_21 : zf mX8_children 21 = some (.iload_n 1, 1, 22) := by decide +kernel
theorem fX8_children_22 : zf mX8_children 22 = some (.if_icmp .ne 7, 3, 25) := by decide +kernel
theorem fX8_children_25 : zf mX8_children 25 = some (.iconst 1, 1, 26) := by decide +kernel
theorem fX8_children_26 : zf mX8_children 26 = some (.goto 4, 3, 29) := by decide +kernel
theorem fX8_children_29 : zf mX8_children 29 = some (.iconst 0, 1, 30) := by decide +kernel
theorem fX8_children_30 : zf mX8_children 30 = some (.iadd, 1, 31) := by decide +kernel
theorem fX8_children_31 : zf mX8_children 31 = some (.istore_n 2, 1, 32) := by decide +kernel
theorem fX8_children_32 : zf mX8_children 32 = some (.iinc 3 1, 3, 35) := by decide +kernel
theorem fX8_children_35 : zf mX8_children 35 = some (.goto (-31), 3, 38) := by decide +kernel
theorem fX8_children_38 : zf mX8_children 38 = some (.iload_n 2, 1, 39) := by decide +kernel
theorem fX8_children_39 : zf mX8_children 39 = some (.ireturn, 1, 40) := by decide +kernel
theorem fX8_made_0 : zf mX8_made 0 = some (.iconst 0, 1, 1) := by decide +kernel
theorem fX8_made_1 : zf mX8_made 1 = some (.istore_n 2, 1, 2) := by decide +kernel
theorem fX8_made_2 : zf mX8_made 2 = some (.iconst 0, 1, 3) := by decide +kernel
theorem fX8_made_3 : zf mX8_made 3 = some (.istore_n 3, 1, 4) := by decide +kernel
theorem fX8_made_4 : zf mX8_made 4 = some (.iload_n 3, 1, 5) := by decide +kernel
theorem fX8_made_5 : zf mX8_made 5 = some (.bipush 31, 2, 7) := by decide +kernel
theorem fX8_made_7 : zf mX8_made 7 = some (.if_icmp .ge 30, 3, 10) := by decide +kernel
theorem fX8_made_10 : zf mX8_made 10 = some (.iload_n 2, 1, 11) := by decide +kernel
theorem fX8_made_11 : zf mX8_made 11 = some (.aload_n 0, 1, 12) := by decide +kernel
theorem fX8_made_12 : zf mX8_made 12 = some (.iload_n 1, 1, 13) := by decide +kernel
theorem fX8_made_13 : zf mX8_made 13 = some (.bipush 18, 2, 15) := by decide +kernel
theorem fX8_made_15 : zf mX8_made 15 = some (.iload_n 3, 1, 16) := by decide +kernel
theorem fX8_made_16 : zf mX8_made 16 = some (.iadd, 1, 17) := by decide +kernel
theorem fX8_made_17 : zf mX8_made 17 = some (.invokevirtual 72, 3, 20) := by decide +kernel
theorem fX8_made_20 : zf mX8_made 20 = some (.iload_n 1, 1, 21) := by decide +kernel
theorem fX8_made_21 : zf mX8_made 21 = some (.if_icmp .ne 7, 3, 24) := by decide +kernel
theorem fX8_made_24 : zf mX8_made 24 = some (.iconst 1, 1, 25) := by decide +kernel
theorem fX8_made_25 : zf mX8_made 25 = some (.goto 4, 3, 28) := by decide +kernel
theorem fX8_made_28 : zf mX8_made 28 = some (.iconst 0, 1, 29) := by decide +kernel
theorem fX8_made_29 : zf mX8_made 29 = some (.iadd, 1, 30) := by decide +kernel
theorem fX8_made_30 : zf mX8_made 30 = some (.istore_n 2, 1, 31) := by decide +kernel
theorem fX8_made_31 : zf mX8_made 31 = some (.iinc 3 1, 3, 34) := by decide +kernel
theorem fX8_made_34 : zf mX8_made 34 = some (.goto (-30), 3, 37) := by decide +kernel
theorem fX8_made_37 : zf mX8_made 37 = some (.iload_n 2, 1, 38) := by decide +kernel
theorem fX8_made_38 : zf mX8_made 38 = some (.ireturn, 1, 39) := by decide +kernel
theorem fX8_apart0_0 : zf mX8_apart0 0 = some (.iconst 0, 1, 1) := by decide +kernel
theorem fX8_apart0_1 : zf mX8_apart0 1 = some (.istore_n 3, 1, 2) := by decide +kernel
theorem fX8_apart0_2 : zf mX8_apart0 2 = some (.iconst 0, 1, 3) := by decide +kernel
theorem fX8_apart0_3 : zf mX8_apart0 3 = some (.istore 4, 2, 5) := by decide +kernel
theorem fX8_apart0_5 : zf mX8_apart0 5 = some (.iload 4, 2, 7) := by decide +kernel
theorem fX8_apart0_7 : zf mX8_apart0 7 = some (.bipush 16, 2, 9) := by decide +kernel
theorem fX8_apart0_9 : zf mX8_apart0 9 = some (.if_icmp .ge 34, 3, 12) := by decide +kernel
theorem fX8_apart0_12 : zf mX8_apart0 12 = some (.iload_n 3, 1, 13) := by decide +kernel
theorem fX8_apart0_13 : zf mX8_apart0 13 = some (.aload_n 0, 1, 14) := by decide +kernel
theorem fX8_apart0_14 : zf mX8_apart0 14 = some (.iload_n 1, 1, 15) := by decide +kernel
theorem fX8_apart0_15 : zf mX8_apart0 15 = some (.iload 4, 2, 17) := by decide +kernel
theorem fX8_apart0_17 : zf mX8_apart0 17 = some (.invokevirtual 90, 3, 20) := by decide +kernel
theorem fX8_apart0_20 : zf mX8_apart0 20 = some (.aload_n 0, 1, 21) := by decide +kernel
theorem fX8_apart0_21 : zf mX8_apart0 21 = some (.iload_n 2, 1, 22) := by decide +kernel
theorem fX8_apart0_22 : zf mX8_apart0 22 = some (.iload 4, 2, 24) := by decide +kernel
theorem fX8_apart0_24 : zf mX8_apart0 24 = some (.invokevirtual 90, 3, 27) := by decide +kernel
theorem fX8_apart0_27 : zf mX8_apart0 27 = some (.if_icmp .eq 7, 3, 30) := by decide +kernel
theorem fX8_apart0_30 : zf mX8_apart0 30 = some (.iconst 1, 1, 31) := by decide +kernel
theorem fX8_apart0_31 : zf mX8_apart0 31 = some (.goto 4, 3, 34) := by decide +kernel
theorem fX8_apart0_34 : zf mX8_apart0 34 = some (.iconst 0, 1, 35) := by decide +kernel
theorem fX8_apart0_35 : zf mX8_apart0 35 = some (.iadd, 1, 36) := by decide +kernel
theorem fX8_apart0_36 : zf mX8_apart0 36 = some (.istore_n 3, 1, 37) := by decide +kernel
theorem fX8_apart0_37 : zf mX8_apart0 37 = some (.iinc 4 1, 3, 40) := by decide +kernel
theorem fX8_apart0_40 : zf mX8_apart0 40 = some (.goto (-35), 3, 43) := by decide +kernel
theorem fX8_apart0_43 : zf mX8_apart0 43 = some (.iload_n 3, 1, 44) := by decide +kernel
theorem fX8_apart0_44 : zf mX8_apart0 44 = some (.ireturn, 1, 45) := by decide +kernel
theorem fX8_houses_0 : zf mX8_houses 0 = some (.iconst 0, 1, 1) := by decide +kernel
theorem fX8_houses_1 : zf mX8_houses 1 = some (.istore_n 2, 1, 2) := by decide +kernel
theorem fX8_houses_2 : zf mX8_houses 2 = some (.iconst 0, 1, 3) := by decide +kernel
theorem fX8_houses_3 : zf mX8_houses 3 = some (.istore_n 3, 1, 4) := by decide +kernel
theorem fX8_houses_4 : zf mX8_houses 4 = some (.iload_n 3, 1, 5) := by decide +kernel
theorem fX8_houses_5 : zf mX8_houses 5 = some (.iconst 4, 1, 6) := by decide +kernel
theorem fX8_houses_6 : zf mX8_houses 6 = some (.if_icmp .ge 29, 3, 9) := by decide +kernel
theorem fX8_houses_9 : zf mX8_houses 9 = some (.iload_n 2, 1, 10) := by decide +kernel
theorem fX8_houses_10 : zf mX8_houses 10 = some (.aload_n 0, 1, 11) := by decide +kernel
theorem fX8_houses_11 : zf mX8_houses 11 = some (.getfield 7, 3, 14) := by decide +kernel
theorem fX8_houses_14 : zf mX8_houses 14 = some (.iconst 4, 1, 15) := by decide +kernel
theorem fX8_houses_15 : zf mX8_houses 15 = some (.iload_n 3, 1, 16) := by decide +kernel
theorem fX8_houses_16 : zf mX8_houses 16 = some (.iadd, 1, 17) := by decide +kernel
theorem fX8_houses_17 : zf mX8_houses 17 = some (.iaload, 1, 18) := by decide +kernel
theorem fX8_houses_18 : zf mX8_houses 18 = some (.iload_n 1, 1, 19) := by decide +kernel
theorem fX8_houses_19 : zf mX8_houses 19 = some (.if_icmp .ne 7, 3, 22) := by decide +kernel
theorem fX8_houses_22 : zf mX8_houses 22 = some (.iconst 1, 1, 23) := by decide +kernel
theorem fX8_houses_23 : zf mX8_houses 23 = some (.goto 4, 3, 26) := by decide +kernel
theorem fX8_houses_26 : zf mX8_houses 26 = some (.iconst 0, 1, 27) := by decide +kernel
theorem fX8_houses_27 : zf mX8_houses 27 = some (.iadd, 1, 28) := by decide +kernel
theorem fX8_houses_28 : zf mX8_houses 28 = some (.istore_n 2, 1, 29) := by decide +kernel
theorem fX8_houses_29 : zf mX8_houses 29 = some (.iinc 3 1, 3, 32) := by decide +kernel
theorem fX8_houses_32 : zf mX8_houses 32 = some (.goto (-28), 3, 35) := by decide +kernel
theorem fX8_houses_35 : zf mX8_houses 35 = some (.iload_n 2, 1, 36) := by decide +kernel
theorem fX8_houses_36 : zf mX8_houses 36 = some (.ireturn, 1, 37) := by decide +kernel
theorem fX8_versionOf_0 : zf mX8_versionOf 0 = some (.aload_n 0, 1, 1) := by decide +kernel
theorem fX8_versionOf_1 : zf mX8_versionOf 1 = some (.aload_n 0, 1, 2) := by decide +kernel
theorem fX8_versionOf_2 : zf mX8_versionOf 2 = some (.iload_n 1, 1, 3) := by decide +kernel
theorem fX8_versionOf_3 : zf mX8_versionOf 3 = some (.invokevirtual 104, 3, 6) := by decide +kernel
theorem fX8_versionOf_6 : zf mX8_versionOf 6 = some (.ifCond .ne 7, 3, 9) := by decide +kernel
theorem fX8_versionOf_9 : zf mX8_versionOf 9 = some (.iconst 1, 1, 10) := by decide +kernel
theorem fX8_versionOf_10 : zf mX8_versionOf 10 = some (.goto 18, 3, 13) := by decide +kernel
theorem fX8_versionOf_13 : zf mX8_versionOf 13 = some (.iload_n 2, 1, 14) := by decide +kernel
theorem fX8_versionOf_14 : zf mX8_versionOf 14 = some (.iconst 0, 1, 15) := by decide +kernel
theorem fX8_versionOf_15 : zf mX8_versionOf 15 = some (.bipush 6, 2, 17) := by decide +kernel
theorem fX8_versionOf_17 : zf mX8_versionOf 17 = some (.invokestatic 68, 3, 20) := by decide +kernel
theorem fX8_versionOf_20 : zf mX8_versionOf 20 = some (.ifCond .eq 7, 3, 23) := by decide +kernel
theorem fX8_versionOf_23 : zf mX8_versionOf 23 = some (.iconst 0, 1, 24) := by decide +kernel
theorem fX8_versionOf_24 : zf mX8_versionOf 24 = some (.goto 4, 3, 27) := by decide +kernel
theorem fX8_versionOf_27 : zf mX8_versionOf 27 = some (.iconst 2, 1, 28) := by decide +kernel
theorem fX8_versionOf_28 : zf mX8_versionOf 28 = some (.invokevirtual 117, 3, 31) := by decide +kernel
theorem fX8_versionOf_31 : zf mX8_versionOf 31 = some (.ifCond .eq 5, 3, 34) := by decide +kernel
theorem fX8_versionOf_34 : zf mX8_versionOf 34 = some (.iconst 0, 1, 35) := by decide +kernel
theorem fX8_versionOf_35 : zf mX8_versionOf 35 = some (.ireturn, 1, 36) := by decide +kernel
theorem fX8_versionOf_36 : zf mX8_versionOf 36 = some (.iload_n 2, 1, 37) := by decide +kernel
theorem fX8_versionOf_37 : zf mX8_versionOf 37 = some (.tableswitch 91 0 5 #[39, 46, 53, 59, 65, 71], 39, 76) := by decide +kernel
theorem fX8_versionOf_76 : zf mX8_versionOf 76 = some (.aload_n 0, 1, 77) := by decide +kernel
theorem fX8_versionOf_77 : zf mX8_versionOf 77 = some (.iload_n 1, 1, 78) := by decide +kernel
theorem fX8_versionOf_78 : zf mX8_versionOf 78 = some (.iconst 0, 1, 79) := by decide +kernel
theorem fX8_versionOf_79 : zf mX8_versionOf 79 = some (.invokevirtual 72, 3, 82) := by decide +kernel
theorem fX8_versionOf_82 : zf mX8_versionOf 82 = some (.ireturn, 1, 83) := by decide +kernel
theorem fX8_versionOf_83 : zf mX8_versionOf 83 = some (.aload_n 0, 1, 84) := by decide +kernel
theorem fX8_versionOf_84 : zf mX8_versionOf 84 = some (.iload_n 1, 1, 85) := by decide +kernel
theorem fX8_versionOf_85 : zf mX8_versionOf 85 = some (.iconst 1, 1, 86) := by decide +kernel
theorem fX8_versionOf_86 : zf mX8_versionOf 86 = some (.invokevirtual 72, 3, 89) := by decide +kernel
theorem fX8_versionOf_89 : zf mX8_versionOf 89 = some (.ireturn, 1, 90) := by decide +kernel
theorem fX8_versionOf_90 : zf mX8_versionOf 90 = some (.aload_n 0, 1, 91) := by decide +kernel
theorem fX8_versionOf_91 : zf mX8_versionOf 91 = some (.iload_n 1, 1, 92) := by decide +kernel
theorem fX8_versionOf_92 : zf mX8_versionOf 92 = some (.invokevirtual 114, 3, 95) := by decide +kernel
theorem fX8_versionOf_95 : zf mX8_versionOf 95 = some (.ireturn, 1, 96) := by decide +kernel
theorem fX8_versionOf_96 : zf mX8_versionOf 96 = some (.aload_n 0, 1, 97) := by decide +kernel
theorem fX8_versionOf_97 : zf mX8_versionOf 97 = some (.iload_n 1, 1, 98) := by decide +kernel
theorem fX8_versionOf_98 : zf mX8_versionOf 98 = some (.invokevirtual 131, 3, 101) := by decide +kernel
theorem fX8_versionOf_101 : zf mX8_versionOf 101 = some (.ireturn, 1, 102) := by decide +kernel
theorem fX8_versionOf_102 : zf mX8_versionOf 102 = some (.aload_n 0, 1, 103) := by decide +kernel
theorem fX8_versionOf_103 : zf mX8_versionOf 103 = some (.iload_n 1, 1, 104) := by decide +kernel
theorem fX8_versionOf_104 : zf mX8_versionOf 104 = some (.invokevirtual 134, 3, 107) := by decide +kernel
theorem fX8_versionOf_107 : zf mX8_versionOf 107 = some (.ireturn, 1, 108) := by decide +kernel
theorem fX8_versionOf_108 : zf mX8_versionOf 108 = some (.iload_n 1, 1, 109) := by decide +kernel
theorem fX8_versionOf_109 : zf mX8_versionOf 109 = some (.ifCond .ne 7, 3, 112) := by decide +kernel
theorem fX8_versionOf_112 : zf mX8_versionOf 112 = some (.iconst 0, 1, 113) := by decide +kernel
theorem fX8_versionOf_113 : zf mX8_versionOf 113 = some (.goto 14, 3, 116) := by decide +kernel
theorem fX8_versionOf_116 : zf mX8_versionOf 116 = some (.aload_n 0, 1, 117) := by decide +kernel
theorem fX8_versionOf_117 : zf mX8_versionOf 117 = some (.iload_n 1, 1, 118) := by decide +kernel
theorem fX8_versionOf_118 : zf mX8_versionOf 118 = some (.aload_n 0, 1, 119) := by decide +kernel
theorem fX8_versionOf_119 : zf mX8_versionOf 119 = some (.iload_n 1, 1, 120) := by decide +kernel
theorem fX8_versionOf_120 : zf mX8_versionOf 120 = some (.iconst 0, 1, 121) := by decide +kernel
theorem fX8_versionOf_121 : zf mX8_versionOf 121 = some (.invokevirtual 72, 3, 124) := by decide +kernel
theorem fX8_versionOf_124 : zf mX8_versionOf 124 = some (.invokevirtual 137, 3, 127) := by decide +kernel
theorem fX8_versionOf_127 : zf mX8_versionOf 127 = some (.ireturn, 1, 128) := by decide +kernel
theorem fX8_versionOf_128 : zf mX8_versionOf 128 = some (.aload_n 0, 1, 129) := by decide +kernel
theorem fX8_versionOf_129 : zf mX8_versionOf 129 = some (.iload_n 1, 1, 130) := by decide +kernel
theorem fX8_versionOf_130 : zf mX8_versionOf 130 = some (.invokevirtual 140, 3, 133) := by decide +kernel
theorem fX8_versionOf_133 : zf mX8_versionOf 133 = some (.ireturn, 1, 134) := by decide +kernel
theorem fX8_maker_0 : zf mX8_maker 0 = some (.aload_n 0, 1, 1) := by decide +kernel
theorem fX8_maker_1 : zf mX8_maker 1 = some (.aload_n 0, 1, 2) := by decide +kernel
theorem fX8_maker_2 : zf mX8_maker 2 = some (.iload_n 1, 1, 3) := by decide +kernel
theorem fX8_maker_3 : zf mX8_maker 3 = some (.invokevirtual 104, 3, 6) := by decide +kernel
theorem fX8_maker_6 : zf mX8_maker 6 = some (.ifCond .ne 7, 3, 9) := by decide +kernel
theorem fX8_maker_9 : zf mX8_maker 9 = some (.iconst 1, 1, 10) := by decide +kernel
theorem fX8_maker_10 : zf mX8_maker 10 = some (.goto 18, 3, 13) := by decide +kernel
theorem fX8_maker_13 : zf mX8_maker 13 = some (.iload_n 2, 1, 14) := by decide +kernel
theorem fX8_maker_14 : zf mX8_maker 14 = some (.iconst 0, 1, 15) := by decide +kernel
theorem fX8_maker_15 : zf mX8_maker 15 = some (.bipush 30, 2, 17) := by decide +kernel
theorem fX8_maker_17 : zf mX8_maker 17 = some (.invokestatic 68, 3, 20) := by decide +kernel
theorem fX8_maker_20 : zf mX8_maker 20 = some (.ifCond .eq 7, 3, 23) := by decide +kernel
theorem fX8_maker_23 : zf mX8_maker 23 = some (.iconst 0, 1, 24) := by decide +kernel
theorem fX8_maker_24 : zf mX8_maker 24 = some (.goto 4, 3, 27) := by decide +kernel
theorem fX8_maker_27 : zf mX8_maker 27 = some (.iconst 2, 1, 28) := by decide +kernel
theorem fX8_maker_28 : zf mX8_maker 28 = some (.invokevirtual 117, 3, 31) := by decide +kernel
theorem fX8_maker_31 : zf mX8_maker 31 = some (.ifCond .eq 7, 3, 34) := by decide +kernel
theorem fX8_maker_34 : zf mX8_maker 34 = some (.iconst 0, 1, 35) := by decide +kernel
theorem fX8_maker_35 : zf mX8_maker 35 = some (.goto 12, 3, 38) := by decide +kernel
theorem fX8_maker_38 : zf mX8_maker 38 = some (.aload_n 0, 1, 39) := by decide +kernel
theorem fX8_maker_39 : zf mX8_maker 39 = some (.iload_n 1, 1, 40) := by decide +kernel
theorem fX8_maker_40 : zf mX8_maker 40 = some (.bipush 18, 2, 42) := by decide +kernel
theorem fX8_maker_42 : zf mX8_maker 42 = some (.iload_n 2, 1, 43) := by decide +kernel
theorem fX8_maker_43 : zf mX8_maker 43 = some (.iadd, 1, 44) := by decide +kernel
theorem fX8_maker_44 : zf mX8_maker 44 = some (.invokevirtual 72, 3, 47) := by decide +kernel
theorem fX8_maker_47 : zf mX8_maker 47 = some (.ireturn, 1, 48) := by decide +kernel
theorem fX8_had_0 : zf mX8_had 0 = some (.aload_n 0, 1, 1) := by decide +kernel
theorem fX8_had_1 : zf mX8_had 1 = some (.iload_n 1, 1, 2) := by decide +kernel
theorem fX8_had_2 : zf mX8_had 2 = some (.invokestatic 80, 3, 5) := by decide +kernel
theorem fX8_had_5 : zf mX8_had 5 = some (.ifCond .ne 7, 3, 8) := by decide +kernel
theorem fX8_had_8 : zf mX8_had 8 = some (.iconst 1, 1, 9) := by decide +kernel
theorem fX8_had_9 : zf mX8_had 9 = some (.goto 18, 3, 12) := by decide +kernel
theorem fX8_had_12 : zf mX8_had 12 = some (.iload_n 2, 1, 13) := by decide +kernel
theorem fX8_had_13 : zf mX8_had 13 = some (.iconst 0, 1, 14) := by decide +kernel
theorem fX8_had_14 : zf mX8_had 14 = some (.bipush 99, 2, 16) := by decide +kernel
theorem fX8_had_16 : zf mX8_had 16 = some (.invokestatic 68, 3, 19) := by decide +kernel
theorem fX8_had_19 : zf mX8_had 19 = some (.ifCond .eq 7, 3, 22) := by decide +kernel
theorem fX8_had_22 : zf mX8_had 22 = some (.iconst 0, 1, 23) := by decide +kernel
theorem fX8_had_23 : zf mX8_had 23 = some (.goto 4, 3, 26) := by decide +kernel
theorem fX8_had_26 : zf mX8_had 26 = some (.iconst 2, 1, 27) := by decide +kernel
theorem fX8_had_27 : zf mX8_had 27 = some (.invokevirtual 117, 3, 30) := by decide +kernel
theorem fX8_had_30 : zf mX8_had 30 = some (.ifCond .eq 5, 3, 33) := by decide +kernel
theorem fX8_had_33 : zf mX8_had 33 = some (.iconst 0, 1, 34) := by decide +kernel
theorem fX8_had_34 : zf mX8_had 34 = some (.ireturn, 1, 35) := by decide +kernel
theorem fX8_had_35 : zf mX8_had 35 = some (.aload_n 0, 1, 36) := by decide +kernel
theorem fX8_had_36 : zf mX8_had 36 = some (.getfield 7, 3, 39) := by decide +kernel
theorem fX8_had_39 : zf mX8_had 39 = some (.iconst 4, 1, 40) := by decide +kernel
theorem fX8_had_40 : zf mX8_had 40 = some (.iload_n 1, 1, 41) := by decide +kernel
theorem fX8_had_41 : zf mX8_had 41 = some (.iadd, 1, 42) := by decide +kernel
theorem fX8_had_42 : zf mX8_had 42 = some (.iaload, 1, 43) := by decide +kernel
theorem fX8_had_43 : zf mX8_had 43 = some (.istore_n 3, 1, 44) := by decide +kernel
theorem fX8_had_44 : zf mX8_had 44 = some (.aload_n 0, 1, 45) := by decide +kernel
theorem fX8_had_45 : zf mX8_had 45 = some (.iload_n 3, 1, 46) := by decide +kernel
theorem fX8_had_46 : zf mX8_had 46 = some (.iconst 1, 1, 47) := by decide +kernel
theorem fX8_had_47 : zf mX8_had 47 = some (.invokevirtual 72, 3, 50) := by decide +kernel
theorem fX8_had_50 : zf mX8_had 50 = some (.iload_n 2, 1, 51) := by decide +kernel
theorem fX8_had_51 : zf mX8_had 51 = some (.if_icmp .le 13, 3, 54) := by decide +kernel
theorem fX8_had_54 : zf mX8_had 54 = some (.aload_n 0, 1, 55) := by decide +kernel
theorem fX8_had_55 : zf mX8_had 55 = some (.iload_n 3, 1, 56) := by decide +kernel
theorem fX8_had_56 : zf mX8_had 56 = some (.iconst 0, 1, 57) := by decide +kernel
theorem fX8_had_57 : zf mX8_had 57 = some (.invokevirtual 72, 3, 60) := by decide +kernel
theorem fX8_had_60 : zf mX8_had 60 = some (.istore_n 3, 1, 61) := by decide +kernel
theorem fX8_had_61 : zf mX8_had 61 = some (.goto (-17), 3, 64) := by decide +kernel
theorem fX8_had_64 : zf mX8_had 64 = some (.iload_n 3, 1, 65) := by decide +kernel
theorem fX8_had_65 : zf mX8_had 65 = some (.ireturn, 1, 66) := by decide +kernel
theorem fX8_since_0 : zf mX8_since 0 = some (.aload_n 0, 1, 1) := by decide +kernel
theorem fX8_since_1 : zf mX8_since 1 = some (.aload_n 0, 1, 2) := by decide +kernel
theorem fX8_since_2 : zf mX8_since 2 = some (.iload_n 1, 1, 3) := by decide +kernel
theorem fX8_since_3 : zf mX8_since 3 = some (.invokevirtual 104, 3, 6) := by decide +kernel
theorem fX8_since_6 : zf mX8_since 6 = some (.ifCond .ne 7, 3, 9) := by decide +kernel
theorem fX8_since_9 : zf mX8_since 9 = some (.iconst 1, 1, 10) := by decide +kernel
theorem fX8_since_10 : zf mX8_since 10 = some (.goto 15, 3, 13) := by decide +kernel
theorem fX8_since_13 : zf mX8_since 13 = some (.iload_n 2, 1, 14) := by decide +kernel
theorem fX8_since_14 : zf mX8_since 14 = some (.invokestatic 84, 3, 17) := by decide +kernel
theorem fX8_since_17 : zf mX8_since 17 = some (.ifCond .eq 7, 3, 20) := by decide +kernel
theorem fX8_since_20 : zf mX8_since 20 = some (.iconst 0, 1, 21) := by decide +kernel
theorem fX8_since_21 : zf mX8_since 21 = some (.goto 4, 3, 24) := by decide +kernel
theorem fX8_since_24 : zf mX8_since 24 = some (.iconst 2, 1, 25) := by decide +kernel
theorem fX8_since_25 : zf mX8_since 25 = some (.invokevirtual 117, 3, 28) := by decide +kernel
theorem fX8_since_28 : zf mX8_since 28 = some (.ifCond .eq 5, 3, 31) := by decide +kernel
theorem fX8_since_31 : zf mX8_since 31 = some (.iconst 0, 1, 32) := by decide +kernel
theorem fX8_since_32 : zf mX8_since 32 = some (.ireturn, 1, 33) := by decide +kernel
theorem fX8_since_33 : zf mX8_since 33 = some (.iload_n 1, 1, 34) := by decide +kernel
theorem fX8_since_34 : zf mX8_since 34 = some (.istore_n 3, 1, 35) := by decide +kernel
theorem fX8_since_35 : zf mX8_since 35 = some (.aload_n 0, 1, 36) := by decide +kernel
theorem fX8_since_36 : zf mX8_since 36 = some (.iload_n 3, 1, 37) := by decide +kernel
theorem fX8_since_37 : zf mX8_since 37 = some (.iconst 0, 1, 38) := by decide +kernel
theorem fX8_since_38 : zf mX8_since 38 = some (.invokevirtual 72, 3, 41) := by decide +kernel
theorem fX8_since_41 : zf mX8_since 41 = some (.ifCond .lt 33, 3, 44) := by decide +kernel
theorem fX8_since_44 : zf mX8_since 44 = some (.aload_n 0, 1, 45) := by decide +kernel
theorem fX8_since_45 : zf mX8_since 45 = some (.aload_n 0, 1, 46) := by decide +kernel
theorem fX8_since_46 : zf mX8_since 46 = some (.iload_n 3, 1, 47) := by decide +kernel
theorem fX8_since_47 : zf mX8_since 47 = some (.iconst 0, 1, 48) := by decide +kernel
theorem fX8_since_48 : zf mX8_since 48 = some (.invokevirtual 72, 3, 51) := by decide +kernel
theorem fX8_since_51 : zf mX8_since 51 = some (.iload_n 2, 1, 52) := by decide +kernel
theorem fX8_since_52 : zf mX8_since 52 = some (.invokevirtual 90, 3, 55) := by decide +kernel
theorem fX8_since_55 : zf mX8_since 55 = some (.aload_n 0, 1, 56) := by decide +kernel
theorem fX8_since_56 : zf mX8_since 56 = some (.iload_n 1, 1, 57) := by decide +kernel
theorem fX8_since_57 : zf mX8_since 57 = some (.iload_n 2, 1, 58) := by decide +kernel
theorem fX8_since_58 : zf mX8_since 58 = some (.invokevirtual 90, 3, 61) := by decide +kernel
theorem fX8_since_61 : zf mX8_since 61 = some (.if_icmp .ne 13, 3, 64) := by decide +kernel
theorem fX8_since_64 : zf mX8_since 64 = some (.aload_n 0, 1, 65) := by decide +kernel
theorem fX8_since_65 : zf mX8_since 65 = some (.iload_n 3, 1, 66) := by decide +kernel
theorem fX8_since_66 : zf mX8_since 66 = some (.iconst 0, 1, 67) := by decide +kernel
theorem fX8_since_67 : zf mX8_since 67 = some (.invokevirtual 72, 3, 70) := by decide +kernel
theorem fX8_since_70 : zf mX8_since 70 = some (.istore_n 3, 1, 71) := by decide +kernel
theorem fX8_since_71 : zf mX8_since 71 = some (.goto (-36), 3, 74) := by decide +kernel
theorem fX8_since_74 : zf mX8_since 74 = some (.iload_n 3, 1, 75) := by decide +kernel
theorem fX8_since_75 : zf mX8_since 75 = some (.ireturn, 1, 76) := by decide +kernel
theorem fX8_areVersions_0 : zf mX8_areVersions 0 = some (.aload_n 0, 1, 1) := by decide +kernel
theorem fX8_areVersions_1 : zf mX8_areVersions 1 = some (.aload_n 0, 1, 2) := by decide +kernel
theorem fX8_areVersions_2 : zf mX8_areVersions 2 = some (.iload_n 1, 1, 3) := by decide +kernel
theorem fX8_areVersions_3 : zf mX8_areVersions 3 = some (.invokevirtual 104, 3, 6) := by decide +kernel
theorem fX8_areVersions_6 : zf mX8_areVersions 6 = some (.ifCond .eq 15, 3, 9) := by decide +kernel
theorem fX8_areVersions_9 : zf mX8_areVersions 9 = some (.aload_n 0, 1, 10) := by decide +kernel
theorem fX8_areVersions_10 : zf mX8_areVersions 10 = some (.iload_n 2, 1, 11) := by decide +kernel
theorem fX8_areVersions_11 : zf mX8_areVersions 11 = some (.invokevirtual 104, 3, 14) := by decide +kernel
theorem fX8_areVersions_14 : zf mX8_areVersions 14 = some (.ifCond .eq 7, 3, 17) := by decide +kernel
theorem fX8_areVersions_17 : zf mX8_areVersions 17 = some (.iconst 0, 1, 18) := by decide +kernel
theorem fX8_areVersions_18 : zf mX8_areVersions 18 = some (.goto 4, 3, 21) := by decide +kernel
theorem fX8_areVersions_21 : zf mX8_areVersions 21 = some (.iconst 1, 1, 22) := by decide +kernel
theorem fX8_areVersions_22 : zf mX8_areVersions 22 = some (.invokevirtual 117, 3, 25) := by decide +kernel
theorem fX8_areVersions_25 : zf mX8_areVersions 25 = some (.ifCond .ne 7, 3, 28) := by decide +kernel
theorem fX8_areVersions_28 : zf mX8_areVersions 28 = some (.iconst 1, 1, 29) := by decide +kernel
theorem fX8_areVersions_29 : zf mX8_areVersions 29 = some (.goto 4, 3, 32) := by decide +kernel
theorem fX8_areVersions_32 : zf mX8_areVersions 32 = some (.iconst 0, 1, 33) := by decide +kernel
theorem fX8_areVersions_33 : zf mX8_areVersions 33 = some (.ireturn, 1, 34) := by decide +kernel
theorem fX8_common_0 : zf mX8_common 0 = some (.aload_n 0, 1, 1) := by decide +kernel
theorem fX8_common_1 : zf mX8_common 1 = some (.iload_n 1, 1, 2) := by decide +kernel
theorem fX8_common_2 : zf mX8_common 2 = some (.iload_n 2, 1, 3) := by decide +kernel
theorem fX8_common_3 : zf mX8_common 3 = some (.invokevirtual 143, 3, 6) := by decide +kernel
theorem fX8_common_6 : zf mX8_common 6 = some (.ifCond .ne 5, 3, 9) := by decide +kernel
theorem fX8_common_9 : zf mX8_common 9 = some (.iconst 0, 1, 10) := by decide +kernel
theorem fX8_common_10 : zf mX8_common 10 = some (.ireturn, 1, 11) := by decide +kernel
theorem fX8_common_11 : zf mX8_common 11 = some (.iload_n 1, 1, 12) := by decide +kernel
theorem fX8_common_12 : zf mX8_common 12 = some (.istore_n 3, 1, 13) := by decide +kernel
theorem fX8_common_13 : zf mX8_common 13 = some (.iload_n 2, 1, 14) := by decide +kernel
theorem fX8_common_14 : zf mX8_common 14 = some (.istore 4, 2, 16) := by decide +kernel
theorem fX8_common_16 : zf mX8_common 16 = some (.iload_n 3, 1, 17) := by decide +kernel
theorem fX8_common_17 : zf mX8_common 17 = some (.iload 4, 2, 19) := by decide +kernel
theorem fX8_common_19 : zf mX8_common 19 = some (.if_icmp .eq 31, 3, 22) := by decide +kernel
theorem fX8_common_22 : zf mX8_common 22 = some (.iload_n 3, 1, 23) := by decide +kernel
theorem fX8_common_23 : zf mX8_common 23 = some (.iload 4, 2, 25) := by decide +kernel
theorem fX8_common_25 : zf mX8_common 25 = some (.if_icmp .le 13, 3, 28) := by decide +kernel
theorem fX8_common_28 : zf mX8_common 28 = some (.aload_n 0, 1, 29) := by decide +kernel
theorem fX8_common_29 : zf mX8_common 29 = some (.iload_n 3, 1, 30) := by decide +kernel
theorem fX8_common_30 : zf mX8_common 30 = some (.iconst 0, 1, 31) := by decide +kernel
theorem fX8_common_31 : zf mX8_common 31 = some (.invokevirtual 72, 3, 34) := by decide +kernel
theorem fX8_common_34 : zf mX8_common 34 = some (.istore_n 3, 1, 35) := by decide +kernel
theorem fX8_common_35 : zf mX8_common 35 = some (.goto (-19), 3, 38) := by decide +kernel
theorem fX8_common_38 : zf mX8_common 38 = some (.aload_n 0, 1, 39) := by decide +kernel
theorem fX8_common_39 : zf mX8_common 39 = some (.iload 4, 2, 41) := by decide +kernel
theorem fX8_common_41 : zf mX8_common 41 = some (.iconst 0, 1, 42) := by decide +kernel
theorem fX8_common_42 : zf mX8_common 42 = some (.invokevirtual 72, 3, 45) := by decide +kernel
theorem fX8_common_45 : zf mX8_common 45 = some (.istore 4, 2, 47) := by decide +kernel
theorem fX8_common_47 : zf mX8_common 47 = some (.goto (-31), 3, 50) := by decide +kernel
theorem fX8_common_50 : zf mX8_common 50 = some (.iload_n 3, 1, 51) := by decide +kernel
theorem fX8_common_51 : zf mX8_common 51 = some (.ireturn, 1, 52) := by decide +kernel
theorem fX8_apart_0 : zf mX8_apart 0 = some (.aload_n 0, 1, 1) := by decide +kernel
theorem fX8_apart_1 : zf mX8_apart 1 = some (.iload_n 1, 1, 2) := by decide +kernel
theorem fX8_apart_2 : zf mX8_apart 2 = some (.iload_n 2, 1, 3) := by decide +kernel
theorem fX8_apart_3 : zf mX8_apart 3 = some (.invokevirtual 143, 3, 6) := by decide +kernel
theorem fX8_apart_6 : zf mX8_apart 6 = some (.ifCond .eq 12, 3, 9) := by decide +kernel
theorem fX8_apart_9 : zf mX8_apart 9 = some (.aload_n 0, 1, 10) := by decide +kernel
theorem fX8_apart_10 : zf mX8_apart 10 = some (.iload_n 1, 1, 11) := by decide +kernel
theorem fX8_apart_11 : zf mX8_apart 11 = some (.iload_n 2, 1, 12) := by decide +kernel
theorem fX8_apart_12 : zf mX8_apart 12 = some (.invokevirtual 137, 3, 15) := by decide +kernel
theorem fX8_apart_15 : zf mX8_apart 15 = some (.goto 4, 3, 18) := by decide +kernel
theorem fX8_apart_18 : zf mX8_apart 18 = some (.iconst 0, 1, 19) := by decide +kernel
theorem fX8_apart_19 : zf mX8_apart 19 = some (.ireturn, 1, 20) := by decide +kernel
theorem fX8_shared_0 : zf mX8_shared 0 = some (.aload_n 0, 1, 1) := by decide +kernel
theorem fX8_shared_1 : zf mX8_shared 1 = some (.iload_n 1, 1, 2) := by decide +kernel
theorem fX8_shared_2 : zf mX8_shared 2 = some (.iload_n 2, 1, 3) := by decide +kernel
theorem fX8_shared_3 : zf mX8_shared 3 = some (.invokevirtual 143, 3, 6) := by decide +kernel
theorem fX8_shared_6 : zf mX8_shared 6 = some (.ifCond .ne 5, 3, 9) := by decide +kernel
theorem fX8_shared_9 : zf mX8_shared 9 = some (.iconst 0, 1, 10) := by decide +kernel
theorem fX8_shared_10 : zf mX8_shared 10 = some (.ireturn, 1, 11) := by decide +kernel
theorem fX8_shared_11 : zf mX8_shared 11 = some (.iconst 0, 1, 12) := by decide +kernel
theorem fX8_shared_12 : zf mX8_shared 12 = some (.istore_n 3, 1, 13) := by decide +kernel
theorem fX8_shared_13 : zf mX8_shared 13 = some (.iconst 0, 1, 14) := by decide +kernel
theorem fX8_shared_14 : zf mX8_shared 14 = some (.istore 4, 2, 16) := by decide +kernel
theorem fX8_shared_16 : zf mX8_shared 16 = some (.iload 4, 2, 18) := by decide +kernel
theorem fX8_shared_18 : zf mX8_shared 18 = some (.bipush 31, 2, 20) := by decide +kernel
theorem fX8_shared_20 : zf mX8_shared 20 = some (.if_icmp .ge 40, 3, 23) := by decide +kernel
theorem fX8_shared_23 : zf mX8_shared 23 = some (.iload_n 3, 1, 24) := by decide +kernel
theorem fX8_shared_24 : zf mX8_shared 24 = some (.aload_n 0, 1, 25) := by decide +kernel
theorem fX8_shared_25 : zf mX8_shared 25 = some (.iload_n 1, 1, 26) := by decide +kernel
theorem fX8_shared_26 : zf mX8_shared 26 = some (.bipush 18, 2, 28) := by decide +kernel
theorem fX8_shared_28 : zf mX8_shared 28 = some (.iload 4, 2, 30) := by decide +kernel
theorem fX8_shared_30 : zf mX8_shared 30 = some (.iadd, 1, 31) := by decide +kernel
theorem fX8_shared_31 : zf mX8_shared 31 = some (.invokevirtual 72, 3, 34) := by decide +kernel
theorem fX8_shared_34 : zf mX8_shared 34 = some (.aload_n 0, 1, 35) := by decide +kernel
theorem fX8_shared_35 : zf mX8_shared 35 = some (.iload_n 2, 1, 36) := by decide +kernel
theorem fX8_shared_36 : zf mX8_shared 36 = some (.bipush 18, 2, 38) := by decide +kernel
theorem fX8_shared_38 : zf mX8_shared 38 = some (.iload 4, 2, 40) := by decide +kernel
theorem fX8_shared_40 : zf mX8_shared 40 = some (.iadd, 1, 41) := by decide +kernel
theorem fX8_shared_41 : zf mX8_shared 41 = some (.invokevirtual 72, 3, 44) := by decide +kernel
theorem fX8_shared_44 : zf mX8_shared 44 = some (.if_icmp .ne 7, 3, 47) := by decide +kernel
theorem fX8_shared_47 : zf mX8_shared 47 = some (.iconst 1, 1, 48) := by decide +kernel
theorem fX8_shared_48 : zf mX8_shared 48 = some (.goto 4, 3, 51) := by decide +kernel
theorem fX8_shared_51 : zf mX8_shared 51 = some (.iconst 0, 1, 52) := by decide +kernel
theorem fX8_shared_52 : zf mX8_shared 52 = some (.iadd, 1, 53) := by decide +kernel
theorem fX8_shared_53 : zf mX8_shared 53 = some (.istore_n 3, 1, 54) := by decide +kernel
theorem fX8_shared_54 : zf mX8_shared 54 = some (.iinc 4 1, 3, 57) := by decide +kernel
theorem fX8_shared_57 : zf mX8_shared 57 = some (.goto (-41), 3, 60) := by decide +kernel
theorem fX8_shared_60 : zf mX8_shared 60 = some (.iload_n 3, 1, 61) := by decide +kernel
theorem fX8_shared_61 : zf mX8_shared 61 = some (.ireturn, 1, 62) := by decide +kernel
theorem fX8_isOf_0 : zf mX8_isOf 0 = some (.aload_n 0, 1, 1) := by decide +kernel
theorem fX8_isOf_1 : zf mX8_isOf 1 = some (.iload_n 1, 1, 2) := by decide +kernel
theorem fX8_isOf_2 : zf mX8_isOf 2 = some (.iload_n 2, 1, 3) := by decide +kernel
theorem fX8_isOf_3 : zf mX8_isOf 3 = some (.invokevirtual 143, 3, 6) := by decide +kernel
theorem fX8_isOf_6 : zf mX8_isOf 6 = some (.ifCond .ne 5, 3, 9) := by decide +kernel
theorem fX8_isOf_9 : zf mX8_isOf 9 = some (.iconst 0, 1, 10) := by decide +kernel
theorem fX8_isOf_10 : zf mX8_isOf 10 = some (.ireturn, 1, 11) := by decide +kernel
theorem fX8_isOf_11 : zf mX8_isOf 11 = some (.iload_n 2, 1, 12) := by decide +kernel
theorem fX8_isOf_12 : zf mX8_isOf 12 = some (.istore_n 3, 1, 13) := by decide +kernel
theorem fX8_isOf_13 : zf mX8_isOf 13 = some (.iload_n 3, 1, 14) := by decide +kernel
theorem fX8_isOf_14 : zf mX8_isOf 14 = some (.iload_n 1, 1, 15) := by decide +kernel
theorem fX8_isOf_15 : zf mX8_isOf 15 = some (.if_icmp .le 13, 3, 18) := by decide +kernel
theorem fX8_isOf_18 : zf mX8_isOf 18 = some (.aload_n 0, 1, 19) := by decide +kernel
theorem fX8_isOf_19 : zf mX8_isOf 19 = some (.iload_n 3, 1, 20) := by decide +kernel
theorem fX8_isOf_20 : zf mX8_isOf 20 = some (.iconst 0, 1, 21) := by decide +kernel
theorem fX8_isOf_21 : zf mX8_isOf 21 = some (.invokevirtual 72, 3, 24) := by decide +kernel
theorem fX8_isOf_24 : zf mX8_isOf 24 = some (.istore_n 3, 1, 25) := by decide +kernel
theorem fX8_isOf_25 : zf mX8_isOf 25 = some (.goto (-12), 3, 28) := by decide +kernel
theorem fX8_isOf_28 : zf mX8_isOf 28 = some (.iload_n 3, 1, 29) := by decide +kernel
theorem fX8_isOf_29 : zf mX8_isOf 29 = some (.iload_n 1, 1, 30) := by decide +kernel
theorem fX8_isOf_30 : zf mX8_isOf 30 = some (.if_icmp .ne 7, 3, 33) := by decide +kernel
theorem fX8_isOf_33 : zf mX8_isOf 33 = some (.iconst 1, 1, 34) := by decide +kernel
theorem fX8_isOf_34 : zf mX8_isOf 34 = some (.goto 4, 3, 37) := by decide +kernel
theorem fX8_isOf_37 : zf mX8_isOf 37 = some (.iconst 0, 1, 38) := by decide +kernel
theorem fX8_isOf_38 : zf mX8_isOf 38 = some (.ireturn, 1, 39) := by decide +kernel
theorem fX8_usersOf_0 : zf mX8_usersOf 0 = some (.iconst 0, 1, 1) := by decide +kernel
theorem fX8_usersOf_1 : zf mX8_usersOf 1 = some (.istore_n 3, 1, 2) := by decide +kernel
theorem fX8_usersOf_2 : zf mX8_usersOf 2 = some (.iconst 0, 1, 3) := by decide +kernel
theorem fX8_usersOf_3 : zf mX8_usersOf 3 = some (.istore 4, 2, 5) := by decide +kernel
theorem fX8_usersOf_5 : zf mX8_usersOf 5 = some (.iload 4, 2, 7) := by decide +kernel
theorem fX8_usersOf_7 : zf mX8_usersOf 7 = some (.aload_n 0, 1, 8) := by decide +kernel
theorem fX8_usersOf_8 : zf mX8_usersOf 8 = some (.getfield 7, 3, 11) := by decide +kernel
theorem fX8_usersOf_11 : zf mX8_usersOf 11 = some (.iconst 0, 1, 12) := by decide +kernel
theorem fX8_usersOf_12 : zf mX8_usersOf 12 = some (.iaload, 1, 13) := by decide +kernel
theorem fX8_usersOf_13 : zf mX8_usersOf 13 = some (.if_icmp .ge 31, 3, 16) := by decide +kernel
theorem fX8_usersOf_16 : zf mX8_usersOf 16 = some (.iload_n 3, 1, 17) := by decide +kernel
theorem fX8_usersOf_17 : zf mX8_usersOf 17 = some (.aload_n 0, 1, 18) := by decide +kernel
theorem fX8_usersOf_18 : zf mX8_usersOf 18 = some (.iload 4, 2, 20) := by decide +kernel
theorem fX8_usersOf_20 : zf mX8_usersOf 20 = some (.bipush 18, 2, 22) := by decide +kernel
theorem fX8_usersOf_22 : zf mX8_usersOf 22 = some (.iload_n 2, 1, 23) := by decide +kernel
theorem fX8_usersOf_23 : zf mX8_usersOf 23 = some (.iadd, 1, 24) := by decide +kernel
theorem fX8_usersOf_24 : zf mX8_usersOf 24 = some (.invokevirtual 72, 3, 27) := by decide +kernel
theorem fX8_usersOf_27 : zf mX8_usersOf 27 = some (.iload_n 1, 1, 28) := by decide +kernel
theorem fX8_usersOf_28 : zf mX8_usersOf 28 = some (.if_icmp .ne 7, 3, 31) := by decide +kernel
theorem fX8_usersOf_31 : zf mX8_usersOf 31 = some (.iconst 1, 1, 32) := by decide +kernel
theorem fX8_usersOf_32 : zf mX8_usersOf 32 = some (.goto 4, 3, 35) := by decide +kernel
theorem fX8_usersOf_35 : zf mX8_usersOf 35 = some (.iconst 0, 1, 36) := by decide +kernel
theorem fX8_usersOf_36 : zf mX8_usersOf 36 = some (.iadd, 1, 37) := by decide +kernel
theorem fX8_usersOf_37 : zf mX8_usersOf 37 = some (.istore_n 3, 1, 38) := by decide +kernel
theorem fX8_usersOf_38 : zf mX8_usersOf 38 = some (.iinc 4 1, 3, 41) := by decide +kernel
theorem fX8_usersOf_41 : zf mX8_usersOf 41 = some (.goto (-36), 3, 44) := by decide +kernel
theorem fX8_usersOf_44 : zf mX8_usersOf 44 = some (.iload_n 3, 1, 45) := by decide +kernel
theorem fX8_usersOf_45 : zf mX8_usersOf 45 = some (.ireturn, 1, 46) := by decide +kernel
theorem fX8_users_0 : zf mX8_users 0 = some (.aload_n 0, 1, 1) := by decide +kernel
theorem fX8_users_1 : zf mX8_users 1 = some (.aload_n 0, 1, 2) := by decide +kernel
theorem fX8_users_2 : zf mX8_users 2 = some (.iload_n 1, 1, 3) := by decide +kernel
theorem fX8_users_3 : zf mX8_users 3 = some (.invokevirtual 104, 3, 6) := by decide +kernel
theorem fX8_users_6 : zf mX8_users 6 = some (.ifCond .ne 7, 3, 9) := by decide +kernel
theorem fX8_users_9 : zf mX8_users 9 = some (.iconst 1, 1, 10) := by decide +kernel
theorem fX8_users_10 : zf mX8_users 10 = some (.goto 18, 3, 13) := by decide +kernel
theorem fX8_users_13 : zf mX8_users 13 = some (.iload_n 2, 1, 14) := by decide +kernel
theorem fX8_users_14 : zf mX8_users 14 = some (.iconst 0, 1, 15) := by decide +kernel
theorem fX8_users_15 : zf mX8_users 15 = some (.bipush 30, 2, 17) := by decide +kernel
theorem fX8_users_17 : zf mX8_users 17 = some (.invokestatic 68, 3, 20) := by decide +kernel
theorem fX8_users_20 : zf mX8_users 20 = some (.ifCond .eq 7, 3, 23) := by decide +kernel
theorem fX8_users_23 : zf mX8_users 23 = some (.iconst 0, 1, 24) := by decide +kernel
theorem fX8_users_24 : zf mX8_users 24 = some (.goto 4, 3, 27) := by decide +kernel
theorem fX8_users_27 : zf mX8_users 27 = some (.iconst 2, 1, 28) := by decide +kernel
theorem fX8_users_28 : zf mX8_users 28 = some (.invokevirtual 117, 3, 31) := by decide +kernel
theorem fX8_users_31 : zf mX8_users 31 = some (.ifCond .eq 7, 3, 34) := by decide +kernel
theorem fX8_users_34 : zf mX8_users 34 = some (.iconst 0, 1, 35) := by decide +kernel
theorem fX8_users_35 : zf mX8_users 35 = some (.goto 17, 3, 38) := by decide +kernel
theorem fX8_users_38 : zf mX8_users 38 = some (.aload_n 0, 1, 39) := by decide +kernel
theorem fX8_users_39 : zf mX8_users 39 = some (.aload_n 0, 1, 40) := by decide +kernel
theorem fX8_users_40 : zf mX8_users 40 = some (.iload_n 1, 1, 41) := by decide +kernel
theorem fX8_users_41 : zf mX8_users 41 = some (.bipush 18, 2, 43) := by decide +kernel
theorem fX8_users_43 : zf mX8_users 43 = some (.iload_n 2, 1, 44) := by decide +kernel
theorem fX8_users_44 : zf mX8_users 44 = some (.iadd, 1, 45) := by decide +kernel
theorem fX8_users_45 : zf mX8_users 45 = some (.invokevirtual 72, 3, 48) := by decide +kernel
theorem fX8_users_48 : zf mX8_users 48 = some (.iload_n 2, 1, 49) := by decide +kernel
theorem fX8_users_49 : zf mX8_users 49 = some (.invokevirtual 146, 3, 52) := by decide +kernel
theorem fX8_users_52 : zf mX8_users 52 = some (.ireturn, 1, 53) := by decide +kernel
theorem fX8_wouldMake_0 : zf mX8_wouldMake 0 = some (.aload_n 0, 1, 1) := by decide +kernel
theorem fX8_wouldMake_1 : zf mX8_wouldMake 1 = some (.iload_n 1, 1, 2) := by decide +kernel
theorem fX8_wouldMake_2 : zf mX8_wouldMake 2 = some (.iload_n 2, 1, 3) := by decide +kernel
theorem fX8_wouldMake_3 : zf mX8_wouldMake 3 = some (.invokestatic 120, 3, 6) := by decide +kernel
theorem fX8_wouldMake_6 : zf mX8_wouldMake 6 = some (.ifCond .eq 7, 3, 9) := by decide +kernel
theorem fX8_wouldMake_9 : zf mX8_wouldMake 9 = some (.iconst 0, 1, 10) := by decide +kernel
theorem fX8_wouldMake_10 : zf mX8_wouldMake 10 = some (.goto 4, 3, 13) := by decide +kernel
theorem fX8_wouldMake_13 : zf mX8_wouldMake 13 = some (.iconst 1, 1, 14) := by decide +kernel
theorem fX8_wouldMake_14 : zf mX8_wouldMake 14 = some (.invokevirtual 117, 3, 17) := by decide +kernel
theorem fX8_wouldMake_17 : zf mX8_wouldMake 17 = some (.ifCond .eq 5, 3, 20) := by decide +kernel
theorem fX8_wouldMake_20 : zf mX8_wouldMake 20 = some (.iconst 0, 1, 21) := by decide +kernel
theorem fX8_wouldMake_21 : zf mX8_wouldMake 21 = some (.ireturn, 1, 22) := by decide +kernel
theorem fX8_wouldMake_22 : zf mX8_wouldMake 22 = some (.iconst 0, 1, 23) := by decide +kernel
theorem fX8_wouldMake_23 : zf mX8_wouldMake 23 = some (.istore_n 3, 1, 24) := by decide +kernel
theorem fX8_wouldMake_24 : zf mX8_wouldMake 24 = some (.iconst 0, 1, 25) := by decide +kernel
theorem fX8_wouldMake_25 : zf mX8_wouldMake 25 = some (.istore 4, 2, 27) := by decide +kernel
theorem fX8_wouldMake_27 : zf mX8_wouldMake 27 = some (.iload 4, 2, 29) := by decide +kernel
theorem fX8_wouldMake_29 : zf mX8_wouldMake 29 = some (.bipush 31, 2, 31) := by decide +kernel
theorem fX8_wouldMake_31 : zf mX8_wouldMake 31 = some (.if_icmp .ge 39, 3, 34) := by decide +kernel
theorem fX8_wouldMake_34 : zf mX8_wouldMake 34 = some (.iload_n 3, 1, 35) := by decide +kernel
theorem fX8_wouldMake_35 : zf mX8_wouldMake 35 = some (.aload_n 0, 1, 36) := by decide +kernel
theorem fX8_wouldMake_36 : zf mX8_wouldMake 36 = some (.iload 4, 2, 38) := by decide +kernel
theorem fX8_wouldMake_38 : zf mX8_wouldMake 38 = some (.iload_n 1, 1, 39) := by decide +kernel
theorem fX8_wouldMake_39 : zf mX8_wouldMake 39 = some (.iload_n 2, 1, 40) := by decide +kernel
theorem fX8_wouldMake_40 : zf mX8_wouldMake 40 = some (.invokevirtual 101, 3, 43) := by decide +kernel
theorem fX8_wouldMake_43 : zf mX8_wouldMake 43 = some (.ifCond .eq 18, 3, 46) := by decide +kernel
theorem fX8_wouldMake_46 : zf mX8_wouldMake 46 = some (.aload_n 0, 1, 47) := by decide +kernel
theorem fX8_wouldMake_47 : zf mX8_wouldMake 47 = some (.iload 4, 2, 49) := by decide +kernel
theorem fX8_wouldMake_49 : zf mX8_wouldMake 49 = some (.iload_n 1, 1, 50) := by decide +kernel
theorem fX8_wouldMake_50 : zf mX8_wouldMake 50 = some (.iload_n 2, 1, 51) := by decide +kernel
theorem fX8_wouldMake_51 : zf mX8_wouldMake 51 = some (.invokevirtual 111, 3, 54) := by decide +kernel
theorem fX8_wouldMake_54 : zf mX8_wouldMake 54 = some (.ifCond .ne 7, 3, 57) := by decide +kernel
theorem fX8_wouldMake_57 : zf mX8_wouldMake 57 = some (.iconst 1, 1, 58) := by decide +kernel
theorem fX8_wouldMake_58 : zf mX8_wouldMake 58 = some (.goto 4, 3, 61) := by decide +kernel
theorem fX8_wouldMake_61 : zf mX8_wouldMake 61 = some (.iconst 0, 1, 62) := by decide +kernel
theorem fX8_wouldMake_62 : zf mX8_wouldMake 62 = some (.iadd, 1, 63) := by decide +kernel
theorem fX8_wouldMake_63 : zf mX8_wouldMake 63 = some (.istore_n 3, 1, 64) := by decide +kernel
theorem fX8_wouldMake_64 : zf mX8_wouldMake 64 = some (.iinc 4 1, 3, 67) := by decide +kernel
theorem fX8_wouldMake_67 : zf mX8_wouldMake 67 = some (.goto (-40), 3, 70) := by decide +kernel
theorem fX8_wouldMake_70 : zf mX8_wouldMake 70 = some (.iload_n 3, 1, 71) := by decide +kernel
theorem fX8_wouldMake_71 : zf mX8_wouldMake 71 = some (.ireturn, 1, 72) := by decide +kernel
theorem fX8_alike_0 : zf mX8_alike 0 = some (.aload_n 0, 1, 1) := by decide +kernel
theorem fX8_alike_1 : zf mX8_alike 1 = some (.aload_n 0, 1, 2) := by decide +kernel
theorem fX8_alike_2 : zf mX8_alike 2 = some (.iload_n 1, 1, 3) := by decide +kernel
theorem fX8_alike_3 : zf mX8_alike 3 = some (.invokevirtual 104, 3, 6) := by decide +kernel
theorem fX8_alike_6 : zf mX8_alike 6 = some (.ifCond .eq 7, 3, 9) := by decide +kernel
theorem fX8_alike_9 : zf mX8_alike 9 = some (.iconst 0, 1, 10) := by decide +kernel
theorem fX8_alike_10 : zf mX8_alike 10 = some (.goto 4, 3, 13) := by decide +kernel
theorem fX8_alike_13 : zf mX8_alike 13 = some (.iconst 1, 1, 14) := by decide +kernel
theorem fX8_alike_14 : zf mX8_alike 14 = some (.invokevirtual 117, 3, 17) := by decide +kernel
theorem fX8_alike_17 : zf mX8_alike 17 = some (.ifCond .eq 5, 3, 20) := by decide +kernel
theorem fX8_alike_20 : zf mX8_alike 20 = some (.iconst 0, 1, 21) := by decide +kernel
theorem fX8_alike_21 : zf mX8_alike 21 = some (.ireturn, 1, 22) := by decide +kernel
theorem fX8_alike_22 : zf mX8_alike 22 = some (.iconst 0, 1, 23) := by decide +kernel
theorem fX8_alike_23 : zf mX8_alike 23 = some (.istore_n 2, 1, 24) := by decide +kernel
theorem fX8_alike_24 : zf mX8_alike 24 = some (.iconst 0, 1, 25) := by decide +kernel
theorem fX8_alike_25 : zf mX8_alike 25 = some (.istore_n 3, 1, 26) := by decide +kernel
theorem fX8_alike_26 : zf mX8_alike 26 = some (.iload_n 3, 1, 27) := by decide +kernel
theorem fX8_alike_27 : zf mX8_alike 27 = some (.aload_n 0, 1, 28) := by decide +kernel
theorem fX8_alike_28 : zf mX8_alike 28 = some (.getfield 7, 3, 31) := by decide +kernel
theorem fX8_alike_31 : zf mX8_alike 31 = some (.iconst 0, 1, 32) := by decide +kernel
theorem fX8_alike_32 : zf mX8_alike 32 = some (.iaload, 1, 33) := by decide +kernel
theorem fX8_alike_33 : zf mX8_alike 33 = some (.if_icmp .ge 31, 3, 36) := by decide +kernel
theorem fX8_alike_36 : zf mX8_alike 36 = some (.iload_n 2, 1, 37) := by decide +kernel
theorem fX8_alike_37 : zf mX8_alike 37 = some (.iload_n 3, 1, 38) := by decide +kernel
theorem fX8_alike_38 : zf mX8_alike 38 = some (.iload_n 1, 1, 39) := by decide +kernel
theorem fX8_alike_39 : zf mX8_alike 39 = some (.if_icmp .eq 16, 3, 42) := by decide +kernel
theorem fX8_alike_42 : zf mX8_alike 42 = some (.aload_n 0, 1, 43) := by decide +kernel
theorem fX8_alike_43 : zf mX8_alike 43 = some (.iload_n 3, 1, 44) := by decide +kernel
theorem fX8_alike_44 : zf mX8_alike 44 = some (.iload_n 1, 1, 45) := by decide +kernel
theorem fX8_alike_45 : zf mX8_alike 45 = some (.invokevirtual 137, 3, 48) := by decide +kernel
theorem fX8_alike_48 : zf mX8_alike 48 = some (.ifCond .ne 7, 3, 51) := by decide +kernel
theorem fX8_alike_51 : zf mX8_alike 51 = some (.iconst 1, 1, 52) := by decide +kernel
theorem fX8_alike_52 : zf mX8_alike 52 = some (.goto 4, 3, 55) := by decide +kernel
theorem fX8_alike_55 : zf mX8_alike 55 = some (.iconst 0, 1, 56) := by decide +kernel
theorem fX8_alike_56 : zf mX8_alike 56 = some (.iadd, 1, 57) := by decide +kernel
theorem fX8_alike_57 : zf mX8_alike 57 = some (.istore_n 2, 1, 58) := by decide +kernel
theorem fX8_alike_58 : zf mX8_alike 58 = some (.iinc 3 1, 3, 61) := by decide +kernel
theorem fX8_alike_61 : zf mX8_alike 61 = some (.goto (-35), 3, 64) := by decide +kernel
theorem fX8_alike_64 : zf mX8_alike 64 = some (.iload_n 2, 1, 65) := by decide +kernel
theorem fX8_alike_65 : zf mX8_alike 65 = some (.ireturn, 1, 66) := by decide +kernel
theorem fX8_richest_0 : zf mX8_richest 0 = some (.iconst 0, 1, 1) := by decide +kernel
theorem fX8_richest_1 : zf mX8_richest 1 = some (.istore_n 2, 1, 2) := by decide +kernel
theorem fX8_richest_2 : zf mX8_richest 2 = some (.iload_n 2, 1, 3) := by decide +kernel
theorem fX8_richest_3 : zf mX8_richest 3 = some (.aload_n 0, 1, 4) := by decide +kernel
theorem fX8_richest_4 : zf mX8_richest 4 = some (.getfield 7, 3, 7) := by decide +kernel
theorem fX8_richest_7 : zf mX8_richest 7 = some (.iconst 0, 1, 8) := by decide +kernel
theorem fX8_richest_8 : zf mX8_richest 8 = some (.iaload, 1, 9) := by decide +kernel
theorem fX8_richest_9 : zf mX8_richest 9 = some (.if_icmp .ge 96, 3, 12) := by decide +kernel
theorem fX8_richest_12 : zf mX8_richest 12 = some (.aload_n 0, 1, 13) := by decide +kernel
theorem fX8_richest_13 : zf mX8_richest 13 = some (.iload_n 2, 1, 14) := by decide +kernel
theorem fX8_richest_14 : zf mX8_richest 14 = some (.iconst 0, 1, 15) := by decide +kernel
theorem fX8_richest_15 : zf mX8_richest 15 = some (.bipush 15, 2, 17) := by decide +kernel
theorem fX8_richest_17 : zf mX8_richest 17 = some (.invokevirtual 124, 3, 20) := by decide +kernel
theorem fX8_richest_20 : zf mX8_richest 20 = some (.istore_n 3, 1, 21) := by decide +kernel
theorem fX8_richest_21 : zf mX8_richest 21 = some (.iconst 0, 1, 22) := by decide +kernel
theorem fX8_richest_22 : zf mX8_richest 22 = some (.istore 4, 2, 24) := by decide +kernel
theorem fX8_richest_24 : zf mX8_richest 24 = some (.iconst 0, 1, 25) := by decide +kernel
theorem fX8_richest_25 : zf mX8_richest 25 = some (.istore 5, 2, 27) := by decide +kernel
theorem fX8_richest_27 : zf mX8_richest 27 = some (.iload 5, 2, 29) := by decide +kernel
theorem fX8_richest_29 : zf mX8_richest 29 = some (.aload_n 0, 1, 30) := by decide +kernel
theorem fX8_richest_30 : zf mX8_richest 30 = some (.getfield 7, 3, 33) := by decide +kernel
theorem fX8_richest_33 : zf mX8_richest 33 = some (.iconst 0, 1, 34) := by decide +kernel
theorem fX8_richest_34 : zf mX8_richest 34 = some (.iaload, 1, 35) := by decide +kernel
theorem fX8_richest_35 : zf mX8_richest 35 = some (.if_icmp .ge 48, 3, 38) := by decide +kernel
theorem fX8_richest_38 : zf mX8_richest 38 = some (.aload_n 0, 1, 39) := by decide +kernel
theorem fX8_richest_39 : zf mX8_richest 39 = some (.iload 5, 2, 41) := by decide +kernel
theorem fX8_richest_41 : zf mX8_richest 41 = some (.iconst 0, 1, 42) := by decide +kernel
theorem fX8_richest_42 : zf mX8_richest 42 = some (.bipush 15, 2, 44) := by decide +kernel
theorem fX8_richest_44 : zf mX8_richest 44 = some (.invokevirtual 124, 3, 47) := by decide +kernel
theorem fX8_richest_47 : zf mX8_richest 47 = some (.istore 6, 2, 49) := by decide +kernel
theorem fX8_richest_49 : zf mX8_richest 49 = some (.iload 4, 2, 51) := by decide +kernel
theorem fX8_richest_51 : zf mX8_richest 51 = some (.iload 6, 2, 53) := by decide +kernel
theorem fX8_richest_53 : zf mX8_richest 53 = some (.iload_n 3, 1, 54) := by decide +kernel
theorem fX8_richest_54 : zf mX8_richest 54 = some (.if_icmp .gt 15, 3, 57) := by decide +kernel
theorem fX8_richest_57 : zf mX8_richest 57 = some (.iload 6, 2, 59) := by decide +kernel
theorem fX8_richest_59 : zf mX8_richest 59 = some (.iload_n 3, 1, 60) := by decide +kernel
theorem fX8_richest_60 : zf mX8_richest 60 = some (.if_icmp .ne 13, 3, 63) := by decide +kernel
theorem fX8_richest_63 : zf mX8_richest 63 = some (.iload 5, 2, 65) := by decide +kernel
theorem fX8_richest_65 : zf mX8_richest 65 = some (.iload_n 2, 1, 66) := by decide +kernel
theorem fX8_richest_66 : zf mX8_richest 66 = some (.if_icmp .le 7, 3, 69) := by decide +kernel
theorem fX8_richest_69 : zf mX8_richest 69 = some (.iconst 1, 1, 70) := by decide +kernel
theorem fX8_richest_70 : zf mX8_richest 70 = some (.goto 4, 3, 73) := by decide +kernel
theorem fX8_richest_73 : zf mX8_richest 73 = some (.iconst 0, 1, 74) := by decide +kernel
theorem fX8_richest_74 : zf mX8_richest 74 = some (.iadd, 1, 75) := by decide +kernel
theorem fX8_richest_75 : zf mX8_richest 75 = some (.istore 4, 2, 77) := by decide +kernel
theorem fX8_richest_77 : zf mX8_richest 77 = some (.iinc 5 1, 3, 80) := by decide +kernel
theorem fX8_richest_80 : zf mX8_richest 80 = some (.goto (-53), 3, 83) := by decide +kernel
theorem fX8_richest_83 : zf mX8_richest 83 = some (.iload 4, 2, 85) := by decide +kernel
theorem fX8_richest_85 : zf mX8_richest 85 = some (.iload_n 1, 1, 86) := by decide +kernel
theorem fX8_richest_86 : zf mX8_richest 86 = some (.if_icmp .eq 6, 3, 89) := by decide +kernel
theorem fX8_richest_89 : zf mX8_richest 89 = some (.goto 10, 3, 92) := by decide +kernel
theorem fX8_richest_92 : zf mX8_richest 92 = some (.aload_n 0, 1, 93) := by decide +kernel
theorem fX8_richest_93 : zf mX8_richest 93 = some (.iconst 0, 1, 94) := by decide +kernel
theorem fX8_richest_94 : zf mX8_richest 94 = some (.putfield 42, 3, 97) := by decide +kernel
theorem fX8_richest_97 : zf mX8_richest 97 = some (.iload_n 2, 1, 98) := by decide +kernel
theorem fX8_richest_98 : zf mX8_richest 98 = some (.ireturn, 1, 99) := by decide +kernel
theorem fX8_richest_99 : zf mX8_richest 99 = some (.iinc 2 1, 3, 102) := by decide +kernel
theorem fX8_richest_102 : zf mX8_richest 102 = some (.goto (-100), 3, 105) := by decide +kernel
theorem fX8_richest_105 : zf mX8_richest 105 = some (.aload_n 0, 1, 106) := by decide +kernel
theorem fX8_richest_106 : zf mX8_richest 106 = some (.iconst 1, 1, 107) := by decide +kernel
theorem fX8_richest_107 : zf mX8_richest 107 = some (.putfield 42, 3, 110) := by decide +kernel
theorem fX8_richest_110 : zf mX8_richest 110 = some (.iconst 0, 1, 111) := by decide +kernel
theorem fX8_richest_111 : zf mX8_richest 111 = some (.ireturn, 1, 112) := by decide +kernel
theorem fX8_lent_0 : zf mX8_lent 0 = some (.iconst 0, 1, 1) := by decide +kernel
theorem fX8_lent_1 : zf mX8_lent 1 = some (.istore_n 2, 1, 2) := by decide +kernel
theorem fX8_lent_2 : zf mX8_lent 2 = some (.iconst 0, 1, 3) := by decide +kernel
theorem fX8_lent_3 : zf mX8_lent 3 = some (.istore_n 3, 1, 4) := by decide +kernel
theorem fX8_lent_4 : zf mX8_lent 4 = some (.iload_n 3, 1, 5) := by decide +kernel
theorem fX8_lent_5 : zf mX8_lent 5 = some (.bipush 31, 2, 7) := by decide +kernel
theorem fX8_lent_7 : zf mX8_lent 7 = some (.if_icmp .ge 40, 3, 10) := by decide +kernel
theorem fX8_lent_10 : zf mX8_lent 10 = some (.iload_n 2, 1, 11) := by decide +kernel
theorem fX8_lent_11 : zf mX8_lent 11 = some (.aload_n 0, 1, 12) := by decide +kernel
theorem fX8_lent_12 : zf mX8_lent 12 = some (.iload_n 1, 1, 13) := by decide +kernel
theorem fX8_lent_13 : zf mX8_lent 13 = some (.bipush 18, 2, 15) := by decide +kernel
theorem fX8_lent_15 : zf mX8_lent 15 = some (.iload_n 3, 1, 16) := by decide +kernel
theorem fX8_lent_16 : zf mX8_lent 16 = some (.iadd, 1, 17) := by decide +kernel
theorem fX8_lent_17 : zf mX8_lent 17 = some (.invokevirtual 72, 3, 20) := by decide +kernel
theorem fX8_lent_20 : zf mX8_lent 20 = some (.iload_n 1, 1, 21) := by decide +kernel
theorem fX8_lent_21 : zf mX8_lent 21 = some (.if_icmp .ne 17, 3, 24) := by decide +kernel
theorem fX8_lent_24 : zf mX8_lent 24 = some (.aload_n 0, 1, 25) := by decide +kernel
theorem fX8_lent_25 : zf mX8_lent 25 = some (.iload_n 1, 1, 26) := by decide +kernel
theorem fX8_lent_26 : zf mX8_lent 26 = some (.iload_n 3, 1, 27) := by decide +kernel
theorem fX8_lent_27 : zf mX8_lent 27 = some (.invokevirtual 146, 3, 30) := by decide +kernel
theorem fX8_lent_30 : zf mX8_lent 30 = some (.iconst 1, 1, 31) := by decide +kernel
theorem fX8_lent_31 : zf mX8_lent 31 = some (.if_icmp .le 7, 3, 34) := by decide +kernel
theorem fX8_lent_34 : zf mX8_lent 34 = some (.iconst 1, 1, 35) := by decide +kernel
theorem fX8_lent_35 : zf mX8_lent 35 = some (.goto 4, 3, 38) := by decide +kernel
theorem fX8_lent_38 : zf mX8_lent 38 = some (.iconst 0, 1, 39) := by decide +kernel
theorem fX8_lent_39 : zf mX8_lent 39 = some (.iadd, 1, 40) := by decide +kernel
theorem fX8_lent_40 : zf mX8_lent 40 = some (.istore_n 2, 1, 41) := by decide +kernel
theorem fX8_lent_41 : zf mX8_lent 41 = some (.iinc 3 1, 3, 44) := by decide +kernel
theorem fX8_lent_44 : zf mX8_lent 44 = some (.goto (-40), 3, 47) := by decide +kernel
theorem fX8_lent_47 : zf mX8_lent 47 = some (.iload_n 2, 1, 48) := by decide +kernel
theorem fX8_lent_48 : zf mX8_lent 48 = some (.ireturn, 1, 49) := by decide +kernel
theorem fX8_busiest_0 : zf mX8_busiest 0 = some (.aload_n 0, 1, 1) := by decide +kernel
theorem fX8_busiest_1 : zf mX8_busiest 1 = some (.aload_n 0, 1, 2) := by decide +kernel
theorem fX8_busiest_2 : zf mX8_busiest 2 = some (.getfield 7, 3, 5) := by decide +kernel
theorem fX8_busiest_5 : zf mX8_busiest 5 = some (.iconst 0, 1, 6) := by decide +kernel
theorem fX8_busiest_6 : zf mX8_busiest 6 = some (.iaload, 1, 7) := by decide +kernel
theorem fX8_busiest_7 : zf mX8_busiest 7 = some (.iconst 1, 1, 8) := by decide +kernel
theorem fX8_busiest_8 : zf mX8_busiest 8 = some (.if_icmp .ne 7, 3, 11) := by decide +kernel
theorem fX8_busiest_11 : zf mX8_busiest 11 = some (.iconst 1, 1, 12) := by decide +kernel
theorem fX8_busiest_12 : zf mX8_busiest 12 = some (.goto 4, 3, 15) := by decide +kernel
theorem fX8_busiest_15 : zf mX8_busiest 15 = some (.iconst 0, 1, 16) := by decide +kernel
theorem fX8_busiest_16 : zf mX8_busiest 16 = some (.invokevirtual 117, 3, 19) := by decide +kernel
theorem fX8_busiest_19 : zf mX8_busiest 19 = some (.ifCond .eq 5, 3, 22) := by decide +kernel
theorem fX8_busiest_22 : zf mX8_busiest 22 = some (.iconst 0, 1, 23) := by decide +kernel
theorem fX8_busiest_23 : zf mX8_busiest 23 = some (.ireturn, 1, 24) := by decide +kernel
theorem fX8_busiest_24 : zf mX8_busiest 24 = some (.iconst 1, 1, 25) := by decide +kernel
theorem fX8_busiest_25 : zf mX8_busiest 25 = some (.istore_n 1, 1, 26) := by decide +kernel
theorem fX8_busiest_26 : zf mX8_busiest 26 = some (.iconst 2, 1, 27) := by decide +kernel
theorem fX8_busiest_27 : zf mX8_busiest 27 = some (.istore_n 2, 1, 28) := by decide +kernel
theorem fX8_busiest_28 : zf mX8_busiest 28 = some (.iload_n 2, 1, 29) := by decide +kernel
theorem fX8_busiest_29 : zf mX8_busiest 29 = some (.aload_n 0, 1, 30) := by decide +kernel
theorem fX8_busiest_30 : zf mX8_busiest 30 = some (.getfield 7, 3, 33) := by decide +kernel
theorem fX8_busiest_33 : zf mX8_busiest 33 = some (.iconst 0, 1, 34) := by decide +kernel
theorem fX8_busiest_34 : zf mX8_busiest 34 = some (.iaload, 1, 35) := by decide +kernel
theorem fX8_busiest_35 : zf mX8_busiest 35 = some (.if_icmp .ge 24, 3, 38) := by decide +kernel
theorem fX8_busiest_38 : zf mX8_busiest 38 = some (.aload_n 0, 1, 39) := by decide +kernel
theorem fX8_busiest_39 : zf mX8_busiest 39 = some (.iload_n 2, 1, 40) := by decide +kernel
theorem fX8_busiest_40 : zf mX8_busiest 40 = some (.invokevirtual 149, 3, 43) := by decide +kernel
theorem fX8_busiest_43 : zf mX8_busiest 43 = some (.aload_n 0, 1, 44) := by decide +kernel
theorem fX8_busiest_44 : zf mX8_busiest 44 = some (.iload_n 1, 1, 45) := by decide +kernel
theorem fX8_busiest_45 : zf mX8_busiest 45 = some (.invokevirtual 149, 3, 48) := by decide +kernel
theorem fX8_busiest_48 : zf mX8_busiest 48 = some (.if_icmp .le 5, 3, 51) := by decide +kernel
theorem fX8_busiest_51 : zf mX8_busiest 51 = some (.iload_n 2, 1, 52) := by decide +kernel
theorem fX8_busiest_52 : zf mX8_busiest 52 = some (.istore_n 1, 1, 53) := by decide +kernel
theorem fX8_busiest_53 : zf mX8_busiest 53 = some (.iinc 2 1, 3, 56) := by decide +kernel
theorem fX8_busiest_56 : zf mX8_busiest 56 = some (.goto (-28), 3, 59) := by decide +kernel
theorem fX8_busiest_59 : zf mX8_busiest 59 = some (.iload_n 1, 1, 60) := by decide +kernel
theorem fX8_busiest_60 : zf mX8_busiest 60 = some (.ireturn, 1, 61) := by decide +kernel
theorem fX8_append_0 : zf mX8_append 0 = some (.aload_n 0, 1, 1) := by decide +kernel
theorem fX8_append_1 : zf mX8_append 1 = some (.aload_n 0, 1, 2) := by decide +kernel
theorem fX8_append_2 : zf mX8_append 2 = some (.getfield 152, 3, 5) := by decide +kernel
theorem fX8_append_5 : zf mX8_append 5 = some (.bipush 60, 2, 7) := by decide +kernel
theorem fX8_append_7 : zf mX8_append 7 = some (.if_icmp .ne 7, 3, 10) := by decide +kernel
theorem fX8_append_10 : zf mX8_append 10 = some (.iconst 1, 1, 11) := by decide +kernel
theorem fX8_append_11 : zf mX8_append 11 = some (.goto 4, 3, 14) := by decide +kernel
theorem fX8_append_14 : zf mX8_append 14 = some (.iconst 0, 1, 15) := by decide +kernel
theorem fX8_append_15 : zf mX8_append 15 = some (.invokevirtual 117, 3, 18) := by decide +kernel
theorem fX8_append_18 : zf mX8_append 18 = some (.ifCond .eq 5, 3, 21) := by decide +kernel
theorem fX8_append_21 : zf mX8_append 21 = some (.iconst 0, 1, 22) := by decide +kernel
theorem fX8_append_22 : zf mX8_append 22 = some (.ireturn, 1, 23) := by decide +kernel
theorem fX8_append_23 : zf mX8_append 23 = some (.aload_n 0, 1, 24) := by decide +kernel
theorem fX8_append_24 : zf mX8_append 24 = some (.getfield 22, 3, 27) := by decide +kernel
theorem fX8_append_27 : zf mX8_append 27 = some (.aload_n 0, 1, 28) := by decide +kernel
theorem fX8_append_28 : zf mX8_append 28 = some (.getfield 152, 3, 31) := by decide +kernel
theorem fX8_append_31 : zf mX8_append 31 = some (.iload_n 1, 1, 32) := by decide +kernel
theorem fX8_append_32 : zf mX8_append 32 = some (.iastore, 1, 33) := by decide +kernel
theorem fX8_append_33 : zf mX8_append 33 = some (.aload_n 0, 1, 34) := by decide +kernel
theorem fX8_append_34 : zf mX8_append 34 = some (.dup, 1, 35) := by decide +kernel
theorem fX8_append_35 : zf mX8_append 35 = some (.getfield 152, 3, 38) := by decide +kernel
theorem fX8_append_38 : zf mX8_append 38 = some (.iconst 1, 1, 39) := by decide +kernel
theorem fX8_append_39 : zf mX8_append 39 = some (.iadd, 1, 40) := by decide +kernel
theorem fX8_append_40 : zf mX8_append 40 = some (.putfield 152, 3, 43) := by decide +kernel
theorem fX8_append_43 : zf mX8_append 43 = some (.aload_n 0, 1, 44) := by decide +kernel
theorem fX8_append_44 : zf mX8_append 44 = some (.getfield 152, 3, 47) := by decide +kernel
theorem fX8_append_47 : zf mX8_append 47 = some (.ireturn, 1, 48) := by decide +kernel
theorem fX8_here_0 : zf mX8_here 0 = some (.aload_n 0, 1, 1) := by decide +kernel
theorem fX8_here_1 : zf mX8_here 1 = some (.getfield 155, 3, 4) := by decide +kernel
theorem fX8_here_4 : zf mX8_here 4 = some (.aload_n 0, 1, 5) := by decide +kernel
theorem fX8_here_5 : zf mX8_here 5 = some (.getfield 152, 3, 8) := by decide +kernel
theorem fX8_here_8 : zf mX8_here 8 = some (.if_icmp .ge 15, 3, 11) := by decide +kernel
theorem fX8_here_11 : zf mX8_here 11 = some (.aload_n 0, 1, 12) := by decide +kernel
theorem fX8_here_12 : zf mX8_here 12 = some (.getfield 22, 3, 15) := by decide +kernel
theorem fX8_here_15 : zf mX8_here 15 = some (.aload_n 0, 1, 16) := by decide +kernel
theorem fX8_here_16 : zf mX8_here 16 = some (.getfield 155, 3, 19) := by decide +kernel
theorem fX8_here_19 : zf mX8_here 19 = some (.iaload, 1, 20) := by decide +kernel
theorem fX8_here_20 : zf mX8_here 20 = some (.goto 4, 3, 23) := by decide +kernel
theorem fX8_here_23 : zf mX8_here 23 = some (.iconst (-1), 1, 24) := by decide +kernel
theorem fX8_here_24 : zf mX8_here 24 = some (.ireturn, 1, 25) := by decide +kernel
theorem fX8_skips_0 : zf mX8_skips 0 = some (.aload_n 0, 1, 1) := by decide +kernel
theorem fX8_skips_1 : zf mX8_skips 1 = some (.invokevirtual 158, 3, 4) := by decide +kernel
theorem fX8_skips_4 : zf mX8_skips 4 = some (.iload_n 1, 1, 5) := by decide +kernel
theorem fX8_skips_5 : zf mX8_skips 5 = some (.if_icmp .eq 5, 3, 8) := by decide +kernel
theorem fX8_skips_8 : zf mX8_skips 8 = some (.iconst 0, 1, 9) := by decide +kernel
theorem fX8_skips_9 : zf mX8_skips 9 = some (.ireturn, 1, 10) := by decide +kernel
theorem fX8_skips_10 : zf mX8_skips 10 = some (.aload_n 0, 1, 11) := by decide +kernel
theorem fX8_skips_11 : zf mX8_skips 11 = some (.dup, 1, 12) := by decide +kernel
theorem fX8_skips_12 : zf mX8_skips 12 = some (.getfield 155, 3, 15) := by decide +kernel
theorem fX8_skips_15 : zf mX8_skips 15 = some (.iconst 1, 1, 16) := by decide +kernel
theorem fX8_skips_16 : zf mX8_skips 16 = some (.iadd, 1, 17) := by decide +kernel
theorem fX8_skips_17 : zf mX8_skips 17 = some (.putfield 155, 3, 20) := by decide +kernel
theorem fX8_skips_20 : zf mX8_skips 20 = some (.iconst 1, 1, 21) := by decide +kernel
theorem fX8_skips_21 : zf mX8_skips 21 = some (.ireturn, 1, 22) := by decide +kernel
theorem fX8_figures_0 : zf mX8_figures 0 = some (.aload_n 0, 1, 1) := by decide +kernel
theorem fX8_figures_1 : zf mX8_figures 1 = some (.invokevirtual 158, 3, 4) := by decide +kernel
theorem fX8_figures_4 : zf mX8_figures 4 = some (.bipush 48, 2, 6) := by decide +kernel
theorem fX8_figures_6 : zf mX8_figures 6 = some (.bipush 57, 2, 8) := by decide +kernel
theorem fX8_figures_8 : zf mX8_figures 8 = some (.invokestatic 68, 3, 11) := by decide +kernel
theorem fX8_figures_11 : zf mX8_figures 11 = some (.ifCond .ne 5, 3, 14) := by decide +kernel
theorem fX8_figures_14 : zf mX8_figures 14 = some (.iconst 0, 1, 15) := by decide +kernel
theorem fX8_figures_15 : zf mX8_figures 15 = some (.ireturn, 1, 16) := by decide +kernel
theorem fX8_figures_16 : zf mX8_figures 16 = some (.aload_n 0, 1, 17) := by decide +kernel
theorem fX8_figures_17 : zf mX8_figures 17 = some (.getfield 39, 3, 20) := by decide +kernel
theorem fX8_figures_20 : zf mX8_figures 20 = some (.iload_n 1, 1, 21) := by decide +kernel
theorem fX8_figures_21 : zf mX8_figures 21 = some (.iconst 0, 1, 22) := by decide +kernel
theorem fX8_figures_22 : zf mX8_figures 22 = some (.iastore, 1, 23) := by decide +kernel
theorem fX8_figures_23 : zf mX8_figures 23 = some (.iconst 0, 1, 24) := by decide +kernel
theorem fX8_figures_24 : zf mX8_figures 24 = some (.istore_n 3, 1, 25) := by decide +kernel
theorem fX8_figures_25 : zf mX8_figures 25 = some (.iload_n 3, 1, 26) := by decide +kernel
theorem fX8_figures_26 : zf mX8_figures 26 = some (.iload_n 2, 1, 27) := by decide +kernel
theorem fX8_figures_27 : zf mX8_figures 27 = some (.if_icmp .ge 56, 3, 30) := by decide +kernel
theorem fX8_figures_30 : zf mX8_figures 30 = some (.aload_n 0, 1, 31) := by decide +kernel
theorem fX8_figures_31 : zf mX8_figures 31 = some (.invokevirtual 158, 3, 34) := by decide +kernel
theorem fX8_figures_34 : zf mX8_figures 34 = some (.bipush 48, 2, 36) := by decide +kernel
theorem fX8_figures_36 : zf mX8_figures 36 = some (.bipush 57, 2, 38) := by decide +kernel
theorem fX8_figures_38 : zf mX8_figures 38 = some (.invokestatic 68, 3, 41) := by decide +kernel
theorem fX8_figures_41 : zf mX8_figures 41 = some (.ifCond .eq 42, 3, 44) := by decide +kernel
theorem fX8_figures_44 : zf mX8_figures 44 = some (.aload_n 0, 1, 45) := by decide +kernel
theorem fX8_figures_45 : zf mX8_figures 45 = some (.getfield 39, 3, 48) := by decide +kernel
theorem fX8_figures_48 : zf mX8_figures 48 = some (.iload_n 1, 1, 49) := by decide +kernel
theorem fX8_figures_49 : zf mX8_figures 49 = some (.bipush 10, 2, 51) := by decide +kernel
theorem fX8_figures_51 : zf mX8_figures 51 = some (.aload_n 0, 1, 52) := by decide +kernel
theorem fX8_figures_52 : zf mX8_figures 52 = some (.getfield 39, 3, 55) := by decide +kernel
theorem fX8_figures_55 : zf mX8_figures 55 = some (.iload_n 1, 1, 56) := by decide +kernel
theorem fX8_figures_56 : zf mX8_figures 56 = some (.iaload, 1, 57) := by decide +kernel
theorem fX8_figures_57 : zf mX8_figures 57 = some (.imul, 1, 58) := by decide +kernel
theorem fX8_figures_58 : zf mX8_figures 58 = some (.aload_n 0, 1, 59) := by decide +kernel
theorem fX8_figures_59 : zf mX8_figures 59 = some (.invokevirtual 158, 3, 62) := by decide +kernel
theorem fX8_figures_62 : zf mX8_figures 62 = some (.iadd, 1, 63) := by decide +kernel
theorem fX8_figures_63 : zf mX8_figures 63 = some (.bipush 48, 2, 65) := by decide +kernel
theorem fX8_figures_65 : zf mX8_figures 65 = some (.isub, 1, 66) := by decide +kernel
theorem fX8_figures_66 : zf mX8_figures 66 = some (.iastore, 1, 67) := by decide +kernel
theorem fX8_figures_67 : zf mX8_figures 67 = some (.aload_n 0, 1, 68) := by decide +kernel
theorem fX8_figures_68 : zf mX8_figures 68 = some (.dup, 1, 69) := by decide +kernel
theorem fX8_figures_69 : zf mX8_figures 69 = some (.getfield 155, 3, 72) := by decide +kernel
theorem fX8_figures_72 : zf mX8_figures 72 = some (.iconst 1, 1, 73) := by decide +kernel
theorem fX8_figures_73 : zf mX8_figures 73 = some (.iadd, 1, 74) := by decide +kernel
theorem fX8_figures_74 : zf mX8_figures 74 = some (.putfield 155, 3, 77) := by decide +kernel
theorem fX8_figures_77 : zf mX8_figures 77 = some (.iinc 3 1, 3, 80) := by decide +kernel
theorem fX8_figures_80 : zf mX8_figures 80 = some (.goto (-55), 3, 83) := by decide +kernel
theorem fX8_figures_83 : zf mX8_figures 83 = some (.iconst 1, 1, 84) := by decide +kernel
theorem fX8_figures_84 : zf mX8_figures 84 = some (.ireturn, 1, 85) := by decide +kernel
theorem fX8_commandHere_0 : zf mX8_commandHere 0 = some (.iconst 5, 1, 1) := by decide +kernel
theorem fX8_commandHere_1 : zf mX8_commandHere 1 = some (.aload_n 0, 1, 2) := by decide +kernel
theorem fX8_commandHere_2 : zf mX8_commandHere 2 = some (.getfield 162, 3, 5) := by decide +kernel
theorem fX8_commandHere_5 : zf mX8_commandHere 5 = some (.imul, 1, 6) := by decide +kernel
theorem fX8_commandHere_6 : zf mX8_commandHere 6 = some (.istore_n 1, 1, 7) := by decide +kernel
theorem fX8_commandHere_7 : zf mX8_commandHere 7 = some (.aload_n 0, 1, 8) := by decide +kernel
theorem fX8_commandHere_8 : zf mX8_commandHere 8 = some (.getfield 39, 3, 11) := by decide +kernel
theorem fX8_commandHere_11 : zf mX8_commandHere 11 = some (.iload_n 1, 1, 12) := by decide +kernel
theorem fX8_commandHere_12 : zf mX8_commandHere 12 = some (.aload_n 0, 1, 13) := by decide +kernel
theorem fX8_commandHere_13 : zf mX8_commandHere 13 = some (.invokevirtual 158, 3, 16) := by decide +kernel
theorem fX8_commandHere_16 : zf mX8_commandHere 16 = some (.iastore, 1, 17) := by decide +kernel
theorem fX8_commandHere_17 : zf mX8_commandHere 17 = some (.aload_n 0, 1, 18) := by decide +kernel
theorem fX8_commandHere_18 : zf mX8_commandHere 18 = some (.bipush 121, 2, 20) := by decide +kernel
theorem fX8_commandHere_20 : zf mX8_commandHere 20 = some (.invokevirtual 165, 3, 23) := by decide +kernel
theorem fX8_commandHere_23 : zf mX8_commandHere 23 = some (.ifCond .eq 12, 3, 26) := by decide +kernel
theorem fX8_commandHere_26 : zf mX8_commandHere 26 = some (.aload_n 0, 1, 27) := by decide +kernel
theorem fX8_commandHere_27 : zf mX8_commandHere 27 = some (.iload_n 1, 1, 28) := by decide +kernel
theorem fX8_commandHere_28 : zf mX8_commandHere 28 = some (.iconst 1, 1, 29) := by decide +kernel
theorem fX8_commandHere_29 : zf mX8_commandHere 29 = some (.iadd, 1, 30) := by decide +kernel
theorem fX8_commandHere_30 : zf mX8_commandHere 30 = some (.iconst 2, 1, 31) := by decide +kernel
theorem fX8_commandHere_31 : zf mX8_commandHere 31 = some (.invokevirtual 168, 3, 34) := by decide +kernel
theorem fX8_commandHere_34 : zf mX8_commandHere 34 = some (.ireturn, 1, 35) := by decide +kernel
theorem fX8_commandHere_35 : zf mX8_commandHere 35 = some (.aload_n 0, 1, 36) := by decide +kernel
theorem fX8_commandHere_36 : zf mX8_commandHere 36 = some (.bipush 119, 2, 38) := by decide +kernel
theorem fX8_commandHere_38 : zf mX8_commandHere 38 = some (.invokevirtual 165, 3, 41) := by decide +kernel
theorem fX8_commandHere_41 : zf mX8_commandHere 41 = some (.ifCond .eq 60, 3, 44) := by decide +kernel
theorem fX8_commandHere_44 : zf mX8_commandHere 44 = some (.aload_n 0, 1, 45) := by decide +kernel
theorem fX8_commandHere_45 : zf mX8_commandHere 45 = some (.iload_n 1, 1, 46) := by decide +kernel
theorem fX8_commandHere_46 : zf mX8_commandHere 46 = some (.iconst 1, 1, 47) := by decide +kernel
theorem fX8_commandHere_47 : zf mX8_commandHere 47 = some (.iadd, 1, 48) := by decide +kernel
theorem fX8_commandHere_48 : zf mX8_commandHere 48 = some (.iconst 1, 1, 49) := by decide +kernel
theorem fX8_commandHere_49 : zf mX8_commandHere 49 = some (.invokevirtual 168, 3, 52) := by decide +kernel
theorem fX8_commandHere_52 : zf mX8_commandHere 52 = some (.ifCond .eq 47, 3, 55) := by decide +kernel
theorem fX8_commandHere_55 : zf mX8_commandHere 55 = some (.aload_n 0, 1, 56) := by decide +kernel
theorem fX8_commandHere_56 : zf mX8_commandHere 56 = some (.bipush 47, 2, 58) := by decide +kernel
theorem fX8_commandHere_58 : zf mX8_commandHere 58 = some (.invokevirtual 165, 3, 61) := by decide +kernel
theorem fX8_commandHere_61 : zf mX8_commandHere 61 = some (.ifCond .eq 38, 3, 64) := by decide +kernel
theorem fX8_commandHere_64 : zf mX8_commandHere 64 = some (.aload_n 0, 1, 65) := by decide +kernel
theorem fX8_commandHere_65 : zf mX8_commandHere 65 = some (.iload_n 1, 1, 66) := by decide +kernel
theorem fX8_commandHere_66 : zf mX8_commandHere 66 = some (.iconst 2, 1, 67) := by decide +kernel
theorem fX8_commandHere_67 : zf mX8_commandHere 67 = some (.iadd, 1, 68) := by decide +kernel
theorem fX8_commandHere_68 : zf mX8_commandHere 68 = some (.iconst 2, 1, 69) := by decide +kernel
theorem fX8_commandHere_69 : zf mX8_commandHere 69 = some (.invokevirtual 168, 3, 72) := by decide +kernel
theorem fX8_commandHere_72 : zf mX8_commandHere 72 = some (.ifCond .eq 27, 3, 75) := by decide +kernel
theorem fX8_commandHere_75 : zf mX8_commandHere 75 = some (.aload_n 0, 1, 76) := by decide +kernel
theorem fX8_commandHere_76 : zf mX8_commandHere 76 = some (.bipush 61, 2, 78) := by decide +kernel
theorem fX8_commandHere_78 : zf mX8_commandHere 78 = some (.invokevirtual 165, 3, 81) := by decide +kernel
theorem fX8_commandHere_81 : zf mX8_commandHere 81 = some (.ifCond .eq 18, 3, 84) := by decide +kernel
theorem fX8_commandHere_84 : zf mX8_commandHere 84 = some (.aload_n 0, 1, 85) := by decide +kernel
theorem fX8_commandHere_85 : zf mX8_commandHere 85 = some (.iload_n 1, 1, 86) := by decide +kernel
theorem fX8_commandHere_86 : zf mX8_commandHere 86 = some (.iconst 3, 1, 87) := by decide +kernel
theorem fX8_commandHere_87 : zf mX8_commandHere 87 = some (.iadd, 1, 88) := by decide +kernel
theorem fX8_commandHere_88 : zf mX8_commandHere 88 = some (.iconst 3, 1, 89) := by decide +kernel
theorem fX8_commandHere_89 : zf mX8_commandHere 89 = some (.invokevirtual 168, 3, 92) := by decide +kernel
theorem fX8_commandHere_92 : zf mX8_commandHere 92 = some (.ifCond .eq 7, 3, 95) := by decide +kernel
theorem fX8_commandHere_95 : zf mX8_commandHere 95 = some (.iconst 1, 1, 96) := by decide +kernel
theorem fX8_commandHere_96 : zf mX8_commandHere 96 = some (.goto 4, 3, 99) := by decide +kernel
theorem fX8_commandHere_99 : zf mX8_commandHere 99 = some (.iconst 0, 1, 100) := by decide +kernel
theorem fX8_commandHere_100 : zf mX8_commandHere 100 = some (.ireturn, 1, 101) := by decide +kernel
theorem fX8_commandHere_101 : zf mX8_commandHere 101 = some (.aload_n 0, 1, 102) := by decide +kernel
theorem fX8_commandHere_102 : zf mX8_commandHere 102 = some (.bipush 103, 2, 104) := by decide +kernel
theorem fX8_commandHere_104 : zf mX8_commandHere 104 = some (.invokevirtual 165, 3, 107) := by decide +kernel
theorem fX8_commandHere_107 : zf mX8_commandHere 107 = some (.ifCond .eq 80, 3, 110) := by decide +kernel
theorem fX8_commandHere_110 : zf mX8_commandHere 110 = some (.aload_n 0, 1, 111) := by decide +kernel
theorem fX8_commandHere_111 : zf mX8_commandHere 111 = some (.iload_n 1, 1, 112) := by decide +kernel
theorem fX8_commandHere_112 : zf mX8_commandHere 112 = some (.iconst 1, 1, 113) := by decide +kernel
theorem fX8_commandHere_113 : zf mX8_commandHere 113 = some (.iadd, 1, 114) := by decide +kernel
theorem fX8_commandHere_114 : zf mX8_commandHere 114 = some (.iconst 1, 1, 115) := by decide +kernel
theorem fX8_commandHere_115 : zf mX8_commandHere 115 = some (.invokevirtual 168, 3, 118) := by decide +kernel
theorem fX8_commandHere_118 : zf mX8_commandHere 118 = some (.ifCond .eq 67, 3, 121) := by decide +kernel
theorem fX8_commandHere_121 : zf mX8_commandHere 121 = some (.aload_n 0, 1, 122) := by decide +kernel
theorem fX8_commandHere_122 : zf mX8_commandHere 122 = some (.bipush 47, 2, 124) := by decide +kernel
theorem fX8_commandHere_124 : zf mX8_commandHere 124 = some (.invokevirtual 165, 3, 127) := by decide +kernel
theorem fX8_commandHere_127 : zf mX8_commandHere 127 = some (.ifCond .eq 58, 3, 130) := by decide +kernel
theorem fX8_commandHere_130 : zf mX8_commandHere 130 = some (.aload_n 0, 1, 131) := by decide +kernel
theorem fX8_commandHere_131 : zf mX8_commandHere 131 = some (.iload_n 1, 1, 132) := by decide +kernel
theorem fX8_commandHere_132 : zf mX8_commandHere 132 = some (.iconst 2, 1, 133) := by decide +kernel
theorem fX8_commandHere_133 : zf mX8_commandHere 133 = some (.iadd, 1, 134) := by decide +kernel
theorem fX8_commandHere_134 : zf mX8_commandHere 134 = some (.iconst 2, 1, 135) := by decide +kernel
theorem fX8_commandHere_135 : zf mX8_commandHere 135 = some (.invokevirtual 168, 3, 138) := by decide +kernel
theorem fX8_commandHere_138 : zf mX8_commandHere 138 = some (.ifCond .eq 47, 3, 141) := by decide +kernel
theorem fX8_commandHere_141 : zf mX8_commandHere 141 = some (.aload_n 0, 1, 142) := by decide +kernel
theorem fX8_commandHere_142 : zf mX8_commandHere 142 = some (.bipush 58, 2, 144) := by decide +kernel
theorem fX8_commandHere_144 : zf mX8_commandHere 144 = some (.invokevirtual 165, 3, 147) := by decide +kernel
theorem fX8_commandHere_147 : zf mX8_commandHere 147 = some (.ifCond .eq 38, 3, 150) := by decide +kernel
theorem fX8_commandHere_150 : zf mX8_commandHere 150 = some (.aload_n 0, 1, 151) := by decide +kernel
theorem fX8_commandHere_151 : zf mX8_commandHere 151 = some (.iload_n 1, 1, 152) := by decide +kernel
theorem fX8_commandHere_152 : zf mX8_commandHere 152 = some (.iconst 3, 1, 153) := by decide +kernel
theorem fX8_commandHere_153 : zf mX8_commandHere 153 = some (.iadd, 1, 154) := by decide +kernel
theorem fX8_commandHere_154 : zf mX8_commandHere 154 = some (.iconst 2, 1, 155) := by decide +kernel
theorem fX8_commandHere_155 : zf mX8_commandHere 155 = some (.invokevirtual 168, 3, 158) := by decide +kernel
theorem fX8_commandHere_158 : zf mX8_commandHere 158 = some (.ifCond .eq 27, 3, 161) := by decide +kernel
theorem fX8_commandHere_161 : zf mX8_commandHere 161 = some (.aload_n 0, 1, 162) := by decide +kernel
theorem fX8_commandHere_162 : zf mX8_commandHere 162 = some (.bipush 45, 2, 164) := by decide +kernel
theorem fX8_commandHere_164 : zf mX8_commandHere 164 = some (.invokevirtual 165, 3, 167) := by decide +kernel
theorem fX8_commandHere_167 : zf mX8_commandHere 167 = some (.ifCond .eq 18, 3, 170) := by decide +kernel
theorem fX8_commandHere_170 : zf mX8_commandHere 170 = some (.aload_n 0, 1, 171) := by decide +kernel
theorem fX8_commandHere_171 : zf mX8_commandHere 171 = some (.iload_n 1, 1, 172) := by decide +kernel
theorem fX8_commandHere_172 : zf mX8_commandHere 172 = some (.iconst 4, 1, 173) := by decide +kernel
theorem fX8_commandHere_173 : zf mX8_commandHere 173 = some (.iadd, 1, 174) := by decide +kernel
theorem fX8_commandHere_174 : zf mX8_commandHere 174 = some (.iconst 2, 1, 175) := by decide +kernel
theorem fX8_commandHere_175 : zf mX8_commandHere 175 = some (.invokevirtual 168, 3, 178) := by decide +kernel
theorem fX8_commandHere_178 : zf mX8_commandHere 178 = some (.ifCond .eq 7, 3, 181) := by decide +kernel
theorem fX8_commandHere_181 : zf mX8_commandHere 181 = some (.iconst 1, 1, 182) := by decide +kernel
theorem fX8_commandHere_182 : zf mX8_commandHere 182 = some (.goto 4, 3, 185) := by decide +kernel
theorem fX8_commandHere_185 : zf mX8_commandHere 185 = some (.iconst 0, 1, 186) := by decide +kernel
theorem fX8_commandHere_186 : zf mX8_commandHere 186 = some (.ireturn, 1, 187) := by decide +kernel
theorem fX8_commandHere_187 : zf mX8_commandHere 187 = some (.aload_n 0, 1, 188) := by decide +kernel
theorem fX8_commandHere_188 : zf mX8_commandHere 188 = some (.bipush 102, 2, 190) := by decide +kernel
theorem fX8_commandHere_190 : zf mX8_commandHere 190 = some (.invokevirtual 165, 3, 193) := by decide +kernel
theorem fX8_commandHere_193 : zf mX8_commandHere 193 = some (.ifCond .eq 40, 3, 196) := by decide +kernel
theorem fX8_commandHere_196 : zf mX8_commandHere 196 = some (.aload_n 0, 1, 197) := by decide +kernel
theorem fX8_commandHere_197 : zf mX8_commandHere 197 = some (.iload_n 1, 1, 198) := by decide +kernel
theorem fX8_commandHere_198 : zf mX8_commandHere 198 = some (.iconst 1, 1, 199) := by decide +kernel
theorem fX8_commandHere_199 : zf mX8_commandHere 199 = some (.iadd, 1, 200) := by decide +kernel
theorem fX8_commandHere_200 : zf mX8_commandHere 200 = some (.iconst 1, 1, 201) := by decide +kernel
theorem fX8_commandHere_201 : zf mX8_commandHere 201 = some (.invokevirtual 168, 3, 204) := by decide +kernel
theorem fX8_commandHere_204 : zf mX8_commandHere 204 = some (.ifCond .eq 27, 3, 207) := by decide +kernel
theorem fX8_commandHere_207 : zf mX8_commandHere 207 = some (.aload_n 0, 1, 208) := by decide +kernel
theorem fX8_commandHere_208 : zf mX8_commandHere 208 = some (.bipush 60, 2, 210) := by decide +kernel
theorem fX8_commandHere_210 : zf mX8_commandHere 210 = some (.invokevirtual 165, 3, 213) := by decide +kernel
theorem fX8_commandHere_213 : zf mX8_commandHere 213 = some (.ifCond .eq 18, 3, 216) := by decide +kernel
theorem fX8_commandHere_216 : zf mX8_commandHere 216 = some (.aload_n 0, 1, 217) := by decide +kernel
theorem fX8_commandHere_217 : zf mX8_commandHere 217 = some (.iload_n 1, 1, 218) := by decide +kernel
theorem fX8_commandHere_218 : zf mX8_commandHere 218 = some (.iconst 2, 1, 219) := by decide +kernel
theorem fX8_commandHere_219 : zf mX8_commandHere 219 = some (.iadd, 1, 220) := by decide +kernel
theorem fX8_commandHere_220 : zf mX8_commandHere 220 = some (.iconst 1, 1, 221) := by decide +kernel
theorem fX8_commandHere_221 : zf mX8_commandHere 221 = some (.invokevirtual 168, 3, 224) := by decide +kernel
theorem fX8_commandHere_224 : zf mX8_commandHere 224 = some (.ifCond .eq 7, 3, 227) := by decide +kernel
theorem fX8_commandHere_227 : zf mX8_commandHere 227 = some (.iconst 1, 1, 228) := by decide +kernel
theorem fX8_commandHere_228 : zf mX8_commandHere 228 = some (.goto 4, 3, 231) := by decide +kernel
theorem fX8_commandHere_231 : zf mX8_commandHere 231 = some (.iconst 0, 1, 232) := by decide +kernel
theorem fX8_commandHere_232 : zf mX8_commandHere 232 = some (.ireturn, 1, 233) := by decide +kernel
theorem fX8_commandHere_233 : zf mX8_commandHere 233 = some (.aload_n 0, 1, 234) := by decide +kernel
theorem fX8_commandHere_234 : zf mX8_commandHere 234 = some (.bipush 98, 2, 236) := by decide +kernel
theorem fX8_commandHere_236 : zf mX8_commandHere 236 = some (.invokevirtual 165, 3, 239) := by decide +kernel
theorem fX8_commandHere_239 : zf mX8_commandHere 239 = some (.ifCond .eq 38, 3, 242) := by decide +kernel
theorem fX8_commandHere_242 : zf mX8_commandHere 242 = some (.aload_n 0, 1, 243) := by decide +kernel
theorem fX8_commandHere_243 : zf mX8_commandHere 243 = some (.iload_n 1, 1, 244) := by decide +kernel
theorem fX8_commandHere_244 : zf mX8_commandHere 244 = some (.iconst 1, 1, 245) := by decide +kernel
theorem fX8_commandHere_245 : zf mX8_commandHere 245 = some (.iadd, 1, 246) := by decide +kernel
theorem fX8_commandHere_246 : zf mX8_commandHere 246 = some (.iconst 1, 1, 247) := by decide +kernel
theorem fX8_commandHere_247 : zf mX8_commandHere 247 = some (.invokevirtual 168, 3, 250) := by decide +kernel
theorem fX8_commandHere_250 : zf mX8_commandHere 250 = some (.ifCond .eq 27, 3, 253) := by decide +kernel
theorem fX8_commandHere_253 : zf mX8_commandHere 253 = some (.aload_n 0, 1, 254) := by decide +kernel
theorem fX8_commandHere_254 : zf mX8_commandHere 254 = some (.bipush 42, 2, 256) := by decide +kernel
theorem fX8_commandHere_256 : zf mX8_commandHere 256 = some (.invokevirtual 165, 3, 259) := by decide +kernel
theorem fX8_commandHere_259 : zf mX8_commandHere 259 = some (.ifCond .eq 18, 3, 262) := by decide +kernel
theorem fX8_commandHere_262 : zf mX8_commandHere 262 = some (.aload_n 0, 1, 263) := by decide +kernel
theorem fX8_commandHere_263 : zf mX8_commandHere 263 = some (.iload_n 1, 1, 264) := by decide +kernel
theorem fX8_commandHere_264 : zf mX8_commandHere 264 = some (.iconst 2, 1, 265) := by decide +kernel
theorem fX8_commandHere_265 : zf mX8_commandHere 265 = some (.iadd, 1, 266) := by decide +kernel
theorem fX8_commandHere_266 : zf mX8_commandHere 266 = some (.iconst 2, 1, 267) := by decide +kernel
theorem fX8_commandHere_267 : zf mX8_commandHere 267 = some (.invokevirtual 168, 3, 270) := by decide +kernel
theorem fX8_commandHere_270 : zf mX8_commandHere 270 = some (.ifCond .eq 7, 3, 273) := by decide +kernel
theorem fX8_commandHere_273 : zf mX8_commandHere 273 = some (.iconst 1, 1, 274) := by decide +kernel
theorem fX8_commandHere_274 : zf mX8_commandHere 274 = some (.goto 4, 3, 277) := by decide +kernel
theorem fX8_commandHere_277 : zf mX8_commandHere 277 = some (.iconst 0, 1, 278) := by decide +kernel
theorem fX8_commandHere_278 : zf mX8_commandHere 278 = some (.ireturn, 1, 279) := by decide +kernel
theorem fX8_isText_0 : zf mX8_isText 0 = some (.aload_n 0, 1, 1) := by decide +kernel
theorem fX8_isText_1 : zf mX8_isText 1 = some (.iconst 0, 1, 2) := by decide +kernel
theorem fX8_isText_2 : zf mX8_isText 2 = some (.putfield 155, 3, 5) := by decide +kernel
theorem fX8_isText_5 : zf mX8_isText 5 = some (.aload_n 0, 1, 6) := by decide +kernel
theorem fX8_isText_6 : zf mX8_isText 6 = some (.iconst 0, 1, 7) := by decide +kernel
theorem fX8_isText_7 : zf mX8_isText 7 = some (.putfield 162, 3, 10) := by decide +kernel
theorem fX8_isText_10 : zf mX8_isText 10 = some (.aload_n 0, 1, 11) := by decide +kernel
theorem fX8_isText_11 : zf mX8_isText 11 = some (.invokevirtual 171, 3, 14) := by decide +kernel
theorem fX8_isText_14 : zf mX8_isText 14 = some (.ifCond .ne 5, 3, 17) := by decide +kernel
theorem fX8_isText_17 : zf mX8_isText 17 = some (.iconst 0, 1, 18) := by decide +kernel
theorem fX8_isText_18 : zf mX8_isText 18 = some (.ireturn, 1, 19) := by decide +kernel
theorem fX8_isText_19 : zf mX8_isText 19 = some (.aload_n 0, 1, 20) := by decide +kernel
theorem fX8_isText_20 : zf mX8_isText 20 = some (.dup, 1, 21) := by decide +kernel
theorem fX8_isText_21 : zf mX8_isText 21 = some (.getfield 162, 3, 24) := by decide +kernel
theorem fX8_isText_24 : zf mX8_isText 24 = some (.iconst 1, 1, 25) := by decide +kernel
theorem fX8_isText_25 : zf mX8_isText 25 = some (.iadd, 1, 26) := by decide +kernel
theorem fX8_isText_26 : zf mX8_isText 26 = some (.putfield 162, 3, 29) := by decide +kernel
theorem fX8_isText_29 : zf mX8_isText 29 = some (.aload_n 0, 1, 30) := by decide +kernel
theorem fX8_isText_30 : zf mX8_isText 30 = some (.bipush 59, 2, 32) := by decide +kernel
theorem fX8_isText_32 : zf mX8_isText 32 = some (.invokevirtual 165, 3, 35) := by decide +kernel
theorem fX8_isText_35 : zf mX8_isText 35 = some (.ifCond .ne (-25), 3, 38) := by decide +kernel
theorem fX8_isText_38 : zf mX8_isText 38 = some (.aload_n 0, 1, 39) := by decide +kernel
theorem fX8_isText_39 : zf mX8_isText 39 = some (.getfield 155, 3, 42) := by decide +kernel
theorem fX8_isText_42 : zf mX8_isText 42 = some (.aload_n 0, 1, 43) := by decide +kernel
theorem fX8_isText_43 : zf mX8_isText 43 = some (.getfield 152, 3, 46) := by decide +kernel
theorem fX8_isText_46 : zf mX8_isText 46 = some (.if_icmp .ne 7, 3, 49) := by decide +kernel
theorem fX8_isText_49 : zf mX8_isText 49 = some (.iconst 1, 1, 50) := by decide +kernel
theorem fX8_isText_50 : zf mX8_isText 50 = some (.goto 4, 3, 53) := by decide +kernel
theorem fX8_isText_53 : zf mX8_isText 53 = some (.iconst 0, 1, 54) := by decide +kernel
theorem fX8_isText_54 : zf mX8_isText 54 = some (.ireturn, 1, 55) := by decide +kernel
theorem fX8_carries_0 : zf mX8_carries 0 = some (.aload_n 0, 1, 1) := by decide +kernel
theorem fX8_carries_1 : zf mX8_carries 1 = some (.getfield 39, 3, 4) := by decide +kernel
theorem fX8_carries_4 : zf mX8_carries 4 = some (.iload_n 1, 1, 5) := by decide +kernel
theorem fX8_carries_5 : zf mX8_carries 5 = some (.iaload, 1, 6) := by decide +kernel
theorem fX8_carries_6 : zf mX8_carries 6 = some (.lookupswitch 150 #[(98, 129), (102, 108), (103, 71), (119, 42)], 42, 48) := by decide +kernel
theorem fX8_carries_48 : zf mX8_carries 48 = some (.aload_n 0, 1, 49) := by decide +kernel
theorem fX8_carries_49 : zf mX8_carries 49 = some (.aload_n 0, 1, 50) := by decide +kernel
theorem fX8_carries_50 : zf mX8_carries 50 = some (.getfield 39, 3, 53) := by decide +kernel
theorem fX8_carries_53 : zf mX8_carries 53 = some (.iload_n 1, 1, 54) := by decide +kernel
theorem fX8_carries_54 : zf mX8_carries 54 = some (.iconst 1, 1, 55) := by decide +kernel
theorem fX8_carries_55 : zf mX8_carries 55 = some (.iadd, 1, 56) := by decide +kernel
theorem fX8_carries_56 : zf mX8_carries 56 = some (.iaload, 1, 57) := by decide +kernel
theorem fX8_carries_57 : zf mX8_carries 57 = some (.aload_n 0, 1, 58) := by decide +kernel
theorem fX8_carries_58 : zf mX8_carries 58 = some (.getfield 39, 3, 61) := by decide +kernel
theorem fX8_carries_61 : zf mX8_carries 61 = some (.iload_n 1, 1, 62) := by decide +kernel
theorem fX8_carries_62 : zf mX8_carries 62 = some (.iconst 2, 1, 63) := by decide +kernel
theorem fX8_carries_63 : zf mX8_carries 63 = some (.iadd, 1, 64) := by decide +kernel
theorem fX8_carries_64 : zf mX8_carries 64 = some (.iaload, 1, 65) := by decide +kernel
theorem fX8_carries_65 : zf mX8_carries 65 = some (.aload_n 0, 1, 66) := by decide +kernel
theorem fX8_carries_66 : zf mX8_carries 66 = some (.getfield 39, 3, 69) := by decide +kernel
theorem fX8_carries_69 : zf mX8_carries 69 = some (.iload_n 1, 1, 70) := by decide +kernel
theorem fX8_carries_70 : zf mX8_carries 70 = some (.iconst 3, 1, 71) := by decide +kernel
theorem fX8_carries_71 : zf mX8_carries 71 = some (.iadd, 1, 72) := by decide +kernel
theorem fX8_carries_72 : zf mX8_carries 72 = some (.iaload, 1, 73) := by decide +kernel
theorem fX8_carries_73 : zf mX8_carries 73 = some (.invokevirtual 175, 3, 76) := by decide +kernel
theorem fX8_carries_76 : zf mX8_carries 76 = some (.ireturn, 1, 77) := by decide +kernel
theorem fX8_carries_77 : zf mX8_carries 77 = some (.aload_n 0, 1, 78) := by decide +kernel
theorem fX8_carries_78 : zf mX8_carries 78 = some (.aload_n 0, 1, 79) := by decide +kernel
theorem fX8_carries_79 : zf mX8_carries 79 = some (.getfield 39, 3, 82) := by decide +kernel
theorem fX8_carries_82 : zf mX8_carries 82 = some (.iload_n 1, 1, 83) := by decide +kernel
theorem fX8_carries_83 : zf mX8_carries 83 = some (.iconst 1, 1, 84) := by decide +kernel
theorem fX8_carries_84 : zf mX8_carries 84 = some (.iadd, 1, 85) := by decide +kernel
theorem fX8_carries_85 : zf mX8_carries 85 = some (.iaload, 1, 86) := by decide +kernel
theorem fX8_carries_86 : zf mX8_carries 86 = some (.aload_n 0, 1, 87) := by decide +kernel
theorem fX8_carries_87 : zf mX8_carries 87 = some (.getfield 39, 3, 90) := by decide +kernel
theorem fX8_carries_90 : zf mX8_carries 90 = some (.iload_n 1, 1, 91) := by decide +kernel
theorem fX8_carries_91 : zf mX8_carries 91 = some (.iconst 2, 1, 92) := by decide +kernel
theorem fX8_carries_92 : zf mX8_carries 92 = some (.iadd, 1, 93) := by decide +kernel
theorem fX8_carries_93 : zf mX8_carries 93 = some (.iaload, 1, 94) := by decide +kernel
theorem fX8_carries_94 : zf mX8_carries 94 = some (.aload_n 0, 1, 95) := by decide +kernel
theorem fX8_carries_95 : zf mX8_carries 95 = some (.getfield 39, 3, 98) := by decide +kernel
theorem fX8_carries_98 : zf mX8_carries 98 = some (.iload_n 1, 1, 99) := by decide +kernel
theorem fX8_carries_99 : zf mX8_carries 99 = some (.iconst 3, 1, 100) := by decide +kernel
theorem fX8_carries_100 : zf mX8_carries 100 = some (.iadd, 1, 101) := by decide +kernel
theorem fX8_carries_101 : zf mX8_carries 101 = some (.iaload, 1, 102) := by decide +kernel
theorem fX8_carries_102 : zf mX8_carries 102 = some (.aload_n 0, 1, 103) := by decide +kernel
theorem fX8_carries_103 : zf mX8_carries 103 = some (.getfield 39, 3, 106) := by decide +kernel
theorem fX8_carries_106 : zf mX8_carries 106 = some (.iload_n 1, 1, 107) := by decide +kernel
theorem fX8_carries_107 : zf mX8_carries 107 = some (.iconst 4, 1, 108) := by decide +kernel
theorem fX8_carries_108 : zf mX8_carries 108 = some (.iadd, 1, 109) := by decide +kernel
theorem fX8_carries_109 : zf mX8_carries 109 = some (.iaload, 1, 110) := by decide +kernel
theorem fX8_carries_110 : zf mX8_carries 110 = some (.invokevirtual 178, 3, 113) := by decide +kernel
theorem fX8_carries_113 : zf mX8_carries 113 = some (.ireturn, 1, 114) := by decide +kernel
theorem fX8_carries_114 : zf mX8_carries 114 = some (.aload_n 0, 1, 115) := by decide +kernel
theorem fX8_carries_115 : zf mX8_carries 115 = some (.aload_n 0, 1, 116) := by decide +kernel
theorem fX8_carries_116 : zf mX8_carries 116 = some (.getfield 39, 3, 119) := by decide +kernel
theorem fX8_carries_119 : zf mX8_carries 119 = some (.iload_n 1, 1, 120) := by decide +kernel
theorem fX8_carries_120 : zf mX8_carries 120 = some (.iconst 1, 1, 121) := by decide +kernel
theorem fX8_carries_121 : zf mX8_carries 121 = some (.iadd, 1, 122) := by decide +kernel
theorem fX8_carries_122 : zf mX8_carries 122 = some (.iaload, 1, 123) := by decide +kernel
theorem fX8_carries_123 : zf mX8_carries 123 = some (.aload_n 0, 1, 124) := by decide +kernel
theorem fX8_carries_124 : zf mX8_carries 124 = some (.getfield 39, 3, 127) := by decide +kernel
theorem fX8_carries_127 : zf mX8_carries 127 = some (.iload_n 1, 1, 128) := by decide +kernel
theorem fX8_carries_128 : zf mX8_carries 128 = some (.iconst 2, 1, 129) := by decide +kernel
theorem fX8_carries_129 : zf mX8_carries 129 = some (.iadd, 1, 130) := by decide +kernel
theorem fX8_carries_130 : zf mX8_carries 130 = some (.iaload, 1, 131) := by decide +kernel
theorem fX8_carries_131 : zf mX8_carries 131 = some (.invokevirtual 182, 3, 134) := by decide +kernel
theorem fX8_carries_134 : zf mX8_carries 134 = some (.ireturn, 1, 135) := by decide +kernel
theorem fX8_carries_135 : zf mX8_carries 135 = some (.aload_n 0, 1, 136) := by decide +kernel
theorem fX8_carries_136 : zf mX8_carries 136 = some (.aload_n 0, 1, 137) := by decide +kernel
theorem fX8_carries_137 : zf mX8_carries 137 = some (.getfield 39, 3, 140) := by decide +kernel
theorem fX8_carries_140 : zf mX8_carries 140 = some (.iload_n 1, 1, 141) := by decide +kernel
theorem fX8_carries_141 : zf mX8_carries 141 = some (.iconst 1, 1, 142) := by decide +kernel
theorem fX8_carries_142 : zf mX8_carries 142 = some (.iadd, 1, 143) := by decide +kernel
theorem fX8_carries_143 : zf mX8_carries 143 = some (.iaload, 1, 144) := by decide +kernel
theorem fX8_carries_144 : zf mX8_carries 144 = some (.aload_n 0, 1, 145) := by decide +kernel
theorem fX8_carries_145 : zf mX8_carries 145 = some (.getfield 39, 3, 148) := by decide +kernel
theorem fX8_carries_148 : zf mX8_carries 148 = some (.iload_n 1, 1, 149) := by decide +kernel
theorem fX8_carries_149 : zf mX8_carries 149 = some (.iconst 2, 1, 150) := by decide +kernel
theorem fX8_carries_150 : zf mX8_carries 150 = some (.iadd, 1, 151) := by decide +kernel
theorem fX8_carries_151 : zf mX8_carries 151 = some (.iaload, 1, 152) := by decide +kernel
theorem fX8_carries_152 : zf mX8_carries 152 = some (.invokevirtual 185, 3, 155) := by decide +kernel
theorem fX8_carries_155 : zf mX8_carries 155 = some (.ireturn, 1, 156) := by decide +kernel
theorem fX8_carries_156 : zf mX8_carries 156 = some (.aload_n 0, 1, 157) := by decide +kernel
theorem fX8_carries_157 : zf mX8_carries 157 = some (.aload_n 0, 1, 158) := by decide +kernel
theorem fX8_carries_158 : zf mX8_carries 158 = some (.getfield 39, 3, 161) := by decide +kernel
theorem fX8_carries_161 : zf mX8_carries 161 = some (.iload_n 1, 1, 162) := by decide +kernel
theorem fX8_carries_162 : zf mX8_carries 162 = some (.iconst 1, 1, 163) := by decide +kernel
theorem fX8_carries_163 : zf mX8_carries 163 = some (.iadd, 1, 164) := by decide +kernel
theorem fX8_carries_164 : zf mX8_carries 164 = some (.iaload, 1, 165) := by decide +kernel
theorem fX8_carries_165 : zf mX8_carries 165 = some (.invokevirtual 188, 3, 168) := by decide +kernel
theorem fX8_carries_168 : zf mX8_carries 168 = some (.ireturn, 1, 169) := by decide +kernel
theorem fX8_commands_0 : zf mX8_commands 0 = some (.aload_n 0, 1, 1) := by decide +kernel
theorem fX8_commands_1 : zf mX8_commands 1 = some (.invokevirtual 191, 3, 4) := by decide +kernel
theorem fX8_commands_4 : zf mX8_commands 4 = some (.istore_n 1, 1, 5) := by decide +kernel
theorem fX8_commands_5 : zf mX8_commands 5 = some (.aload_n 0, 1, 6) := by decide +kernel
theorem fX8_commands_6 : zf mX8_commands 6 = some (.iload_n 1, 1, 7) := by decide +kernel
theorem fX8_commands_7 : zf mX8_commands 7 = some (.ifCond .eq 7, 3, 10) := by decide +kernel
theorem fX8_commands_10 : zf mX8_commands 10 = some (.iconst (-1), 1, 11) := by decide +kernel
theorem fX8_commands_11 : zf mX8_commands 11 = some (.goto 7, 3, 14) := by decide +kernel
theorem fX8_commands_14 : zf mX8_commands 14 = some (.aload_n 0, 1, 15) := by decide +kernel
theorem fX8_commands_15 : zf mX8_commands 15 = some (.getfield 155, 3, 18) := by decide +kernel
theorem fX8_commands_18 : zf mX8_commands 18 = some (.putfield 25, 3, 21) := by decide +kernel
theorem fX8_commands_21 : zf mX8_commands 21 = some (.aload_n 0, 1, 22) := by decide +kernel
theorem fX8_commands_22 : zf mX8_commands 22 = some (.iconst 0, 1, 23) := by decide +kernel
theorem fX8_commands_23 : zf mX8_commands 23 = some (.putfield 152, 3, 26) := by decide +kernel
theorem fX8_commands_26 : zf mX8_commands 26 = some (.aload_n 0, 1, 27) := by decide +kernel
theorem fX8_commands_27 : zf mX8_commands 27 = some (.iload_n 1, 1, 28) := by decide +kernel
theorem fX8_commands_28 : zf mX8_commands 28 = some (.ifCond .eq 7, 3, 31) := by decide +kernel
theorem fX8_commands_31 : zf mX8_commands 31 = some (.iconst 0, 1, 32) := by decide +kernel
theorem fX8_commands_32 : zf mX8_commands 32 = some (.goto 4, 3, 35) := by decide +kernel
theorem fX8_commands_35 : zf mX8_commands 35 = some (.iconst 1, 1, 36) := by decide +kernel
theorem fX8_commands_36 : zf mX8_commands 36 = some (.invokevirtual 117, 3, 39) := by decide +kernel
theorem fX8_commands_39 : zf mX8_commands 39 = some (.ifCond .eq 5, 3, 42) := by decide +kernel
theorem fX8_commands_42 : zf mX8_commands 42 = some (.iconst 0, 1, 43) := by decide +kernel
theorem fX8_commands_43 : zf mX8_commands 43 = some (.ireturn, 1, 44) := by decide +kernel
theorem fX8_commands_44 : zf mX8_commands 44 = some (.aload_n 0, 1, 45) := by decide +kernel
theorem fX8_commands_45 : zf mX8_commands 45 = some (.getfield 7, 3, 48) := by decide +kernel
theorem fX8_commands_48 : zf mX8_commands 48 = some (.iconst 0, 1, 49) := by decide +kernel
theorem fX8_commands_49 : zf mX8_commands 49 = some (.aload_n 0, 1, 50) := by decide +kernel
theorem fX8_commands_50 : zf mX8_commands 50 = some (.getfield 19, 3, 53) := by decide +kernel
theorem fX8_commands_53 : zf mX8_commands 53 = some (.iconst 0, 1, 54) := by decide +kernel
theorem fX8_commands_54 : zf mX8_commands 54 = some (.invokestatic 64, 3, 57) := by decide +kernel
theorem fX8_commands_57 : zf mX8_commands 57 = some (.aload_n 0, 1, 58) := by decide +kernel
theorem fX8_commands_58 : zf mX8_commands 58 = some (.iconst 1, 1, 59) := by decide +kernel
theorem fX8_commands_59 : zf mX8_commands 59 = some (.putfield 51, 3, 62) := by decide +kernel
theorem fX8_commands_62 : zf mX8_commands 62 = some (.aload_n 0, 1, 63) := by decide +kernel
theorem fX8_commands_63 : zf mX8_commands 63 = some (.iconst 0, 1, 64) := by decide +kernel
theorem fX8_commands_64 : zf mX8_commands 64 = some (.putfield 55, 3, 67) := by decide +kernel
theorem fX8_commands_67 : zf mX8_commands 67 = some (.iconst 0, 1, 68) := by decide +kernel
theorem fX8_commands_68 : zf mX8_commands 68 = some (.istore_n 2, 1, 69) := by decide +kernel
theorem fX8_commands_69 : zf mX8_commands 69 = some (.aload_n 0, 1, 70) := by decide +kernel
theorem fX8_commands_70 : zf mX8_commands 70 = some (.getfield 55, 3, 73) := by decide +kernel
theorem fX8_commands_73 : zf mX8_commands 73 = some (.aload_n 0, 1, 74) := by decide +kernel
theorem fX8_commands_74 : zf mX8_commands 74 = some (.getfield 162, 3, 77) := by decide +kernel
theorem fX8_commands_77 : zf mX8_commands 77 = some (.if_icmp .ge 41, 3, 80) := by decide +kernel
theorem fX8_commands_80 : zf mX8_commands 80 = some (.aload_n 0, 1, 81) := by decide +kernel
theorem fX8_commands_81 : zf mX8_commands 81 = some (.getfield 42, 3, 84) := by decide +kernel
theorem fX8_commands_84 : zf mX8_commands 84 = some (.ifCond .ne 34, 3, 87) := by decide +kernel
theorem fX8_commands_87 : zf mX8_commands 87 = some (.aload_n 0, 1, 88) := by decide +kernel
theorem fX8_commands_88 : zf mX8_commands 88 = some (.iconst 5, 1, 89) := by decide +kernel
theorem fX8_commands_89 : zf mX8_commands 89 = some (.aload_n 0, 1, 90) := by decide +kernel
theorem fX8_commands_90 : zf mX8_commands 90 = some (.getfield 55, 3, 93) := by decide +kernel
theorem fX8_commands_93 : zf mX8_commands 93 = some (.imul, 1, 94) := by decide +kernel
theorem fX8_commands_94 : zf mX8_commands 94 = some (.invokevirtual 194, 3, 97) := by decide +kernel
theorem fX8_commands_97 : zf mX8_commands 97 = some (.istore_n 2, 1, 98) := by decide +kernel
theorem fX8_commands_98 : zf mX8_commands 98 = some (.aload_n 0, 1, 99) := by decide +kernel
theorem fX8_commands_99 : zf mX8_commands 99 = some (.getfield 42, 3, 102) := by decide +kernel
theorem fX8_commands_102 : zf mX8_commands 102 = some (.ifCond .ne (-33), 3, 105) := by decide +kernel
theorem fX8_commands_105 : zf mX8_commands 105 = some (.aload_n 0, 1, 106) := by decide +kernel
theorem fX8_commands_106 : zf mX8_commands 106 = some (.dup, 1, 107) := by decide +kernel
theorem fX8_commands_107 : zf mX8_commands 107 = some (.getfield 55, 3, 110) := by decide +kernel
theorem fX8_commands_110 : zf mX8_commands 110 = some (.iconst 1, 1, 111) := by decide +kernel
theorem fX8_commands_111 : zf mX8_commands 111 = some (.iadd, 1, 112) := by decide +kernel
theorem fX8_commands_112 : zf mX8_commands 112 = some (.putfield 55, 3, 115) := by decide +kernel
theorem fX8_commands_115 : zf mX8_commands 115 = some (.goto (-46), 3, 118) := by decide +kernel
theorem fX8_commands_118 : zf mX8_commands 118 = some (.aload_n 0, 1, 119) := by decide +kernel
theorem fX8_commands_119 : zf mX8_commands 119 = some (.iconst 0, 1, 120) := by decide +kernel
theorem fX8_commands_120 : zf mX8_commands 120 = some (.putfield 51, 3, 123) := by decide +kernel
theorem fX8_commands_123 : zf mX8_commands 123 = some (.aload_n 0, 1, 124) := by decide +kernel
theorem fX8_commands_124 : zf mX8_commands 124 = some (.getfield 42, 3, 127) := by decide +kernel
theorem fX8_commands_127 : zf mX8_commands 127 = some (.ifCond .le 31, 3, 130) := by decide +kernel
theorem fX8_commands_130 : zf mX8_commands 130 = some (.aload_n 0, 1, 131) := by decide +kernel
theorem fX8_commands_131 : zf mX8_commands 131 = some (.getfield 19, 3, 134) := by decide +kernel
theorem fX8_commands_134 : zf mX8_commands 134 = some (.iconst 0, 1, 135) := by decide +kernel
theorem fX8_commands_135 : zf mX8_commands 135 = some (.aload_n 0, 1, 136) := by decide +kernel
theorem fX8_commands_136 : zf mX8_commands 136 = some (.getfield 7, 3, 139) := by decide +kernel
theorem fX8_commands_139 : zf mX8_commands 139 = some (.iconst 0, 1, 140) := by decide +kernel
theorem fX8_commands_140 : zf mX8_commands 140 = some (.invokestatic 64, 3, 143) := by decide +kernel
theorem fX8_commands_143 : zf mX8_commands 143 = some (.aload_n 0, 1, 144) := by decide +kernel
theorem fX8_commands_144 : zf mX8_commands 144 = some (.iconst 2, 1, 145) := by decide +kernel
theorem fX8_commands_145 : zf mX8_commands 145 = some (.putfield 42, 3, 148) := by decide +kernel
theorem fX8_commands_148 : zf mX8_commands 148 = some (.iload_n 2, 1, 149) := by decide +kernel
theorem fX8_commands_149 : zf mX8_commands 149 = some (.ifCond .le 7, 3, 152) := by decide +kernel
theorem fX8_commands_152 : zf mX8_commands 152 = some (.iconst 0, 1, 153) := by decide +kernel
theorem fX8_commands_153 : zf mX8_commands 153 = some (.goto 4, 3, 156) := by decide +kernel
theorem fX8_commands_156 : zf mX8_commands 156 = some (.iload_n 2, 1, 157) := by decide +kernel
theorem fX8_commands_157 : zf mX8_commands 157 = some (.ireturn, 1, 158) := by decide +kernel
theorem fX8_commands_158 : zf mX8_commands 158 = some (.aload_n 0, 1, 159) := by decide +kernel
theorem fX8_commands_159 : zf mX8_commands 159 = some (.aload_n 0, 1, 160) := by decide +kernel
theorem fX8_commands_160 : zf mX8_commands 160 = some (.getfield 19, 3, 163) := by decide +kernel
theorem fX8_commands_163 : zf mX8_commands 163 = some (.invokevirtual 93, 3, 166) := by decide +kernel
theorem fX8_commands_166 : zf mX8_commands 166 = some (.aload_n 0, 1, 167) := by decide +kernel
theorem fX8_commands_167 : zf mX8_commands 167 = some (.getfield 162, 3, 170) := by decide +kernel
theorem fX8_commands_170 : zf mX8_commands 170 = some (.ireturn, 1, 171) := by decide +kernel
theorem fX8_faultPosition_0 : zf mX8_faultPosition 0 = some (.aload_n 0, 1, 1) := by decide +kernel
theorem fX8_faultPosition_1 : zf mX8_faultPosition 1 = some (.iconst 0, 1, 2) := by decide +kernel
theorem fX8_faultPosition_2 : zf mX8_faultPosition 2 = some (.putfield 42, 3, 5) := by decide +kernel
theorem fX8_faultPosition_5 : zf mX8_faultPosition 5 = some (.aload_n 0, 1, 6) := by decide +kernel
theorem fX8_faultPosition_6 : zf mX8_faultPosition 6 = some (.getfield 25, 3, 9) := by decide +kernel
theorem fX8_faultPosition_9 : zf mX8_faultPosition 9 = some (.ireturn, 1, 10) := by decide +kernel
theorem fX8_reason_0 : zf mX8_reason 0 = some (.aload_n 0, 1, 1) := by decide +kernel
theorem fX8_reason_1 : zf mX8_reason 1 = some (.iload_n 1, 1, 2) := by decide +kernel
theorem fX8_reason_2 : zf mX8_reason 2 = some (.iconst 0, 1, 3) := by decide +kernel
theorem fX8_reason_3 : zf mX8_reason 3 = some (.iconst 2, 1, 4) := by decide +kernel
theorem fX8_reason_4 : zf mX8_reason 4 = some (.invokestatic 68, 3, 7) := by decide +kernel
theorem fX8_reason_7 : zf mX8_reason 7 = some (.ifCond .ne 7, 3, 10) := by decide +kernel
theorem fX8_reason_10 : zf mX8_reason 10 = some (.iconst 1, 1, 11) := by decide +kernel
theorem fX8_reason_11 : zf mX8_reason 11 = some (.goto 15, 3, 14) := by decide +kernel
theorem fX8_reason_14 : zf mX8_reason 14 = some (.aload_n 0, 1, 15) := by decide +kernel
theorem fX8_reason_15 : zf mX8_reason 15 = some (.getfield 45, 3, 18) := by decide +kernel
theorem fX8_reason_18 : zf mX8_reason 18 = some (.ifCond .ne 7, 3, 21) := by decide +kernel
theorem fX8_reason_21 : zf mX8_reason 21 = some (.iconst 2, 1, 22) := by decide +kernel
theorem fX8_reason_22 : zf mX8_reason 22 = some (.goto 4, 3, 25) := by decide +kernel
theorem fX8_reason_25 : zf mX8_reason 25 = some (.iconst 0, 1, 26) := by decide +kernel
theorem fX8_reason_26 : zf mX8_reason 26 = some (.invokevirtual 117, 3, 29) := by decide +kernel
theorem fX8_reason_29 : zf mX8_reason 29 = some (.ifCond .eq 7, 3, 32) := by decide +kernel
theorem fX8_reason_32 : zf mX8_reason 32 = some (.iconst 0, 1, 33) := by decide +kernel
theorem fX8_reason_33 : zf mX8_reason 33 = some (.goto 30, 3, 36) := by decide +kernel
theorem fX8_reason_36 : zf mX8_reason 36 = some (.iload_n 1, 1, 37) := by decide +kernel
theorem fX8_reason_37 : zf mX8_reason 37 = some (.ifCond .ne 10, 3, 40) := by decide +kernel
theorem fX8_reason_40 : zf mX8_reason 40 = some (.aload_n 0, 1, 41) := by decide +kernel
theorem fX8_reason_41 : zf mX8_reason 41 = some (.getfield 45, 3, 44) := by decide +kernel
theorem fX8_reason_44 : zf mX8_reason 44 = some (.goto 19, 3, 47) := by decide +kernel
theorem fX8_reason_47 : zf mX8_reason 47 = some (.iload_n 1, 1, 48) := by decide +kernel
theorem fX8_reason_48 : zf mX8_reason 48 = some (.iconst 1, 1, 49) := by decide +kernel
theorem fX8_reason_49 : zf mX8_reason 49 = some (.if_icmp .ne 10, 3, 52) := by decide +kernel
theorem fX8_reason_52 : zf mX8_reason 52 = some (.aload_n 0, 1, 53) := by decide +kernel
theorem fX8_reason_53 : zf mX8_reason 53 = some (.getfield 48, 3, 56) := by decide +kernel
theorem fX8_reason_56 : zf mX8_reason 56 = some (.goto 7, 3, 59) := by decide +kernel
theorem fX8_reason_59 : zf mX8_reason 59 = some (.aload_n 0, 1, 60) := by decide +kernel
theorem fX8_reason_60 : zf mX8_reason 60 = some (.getfield 58, 3, 63) := by decide +kernel
theorem fX8_reason_63 : zf mX8_reason 63 = some (.ireturn, 1, 64) := by decide +kernel
theorem fX8_writes_0 : zf mX8_writes 0 = some (.aload_n 0, 1, 1) := by decide +kernel
theorem fX8_writes_1 : zf mX8_writes 1 = some (.getfield 29, 3, 4) := by decide +kernel
theorem fX8_writes_4 : zf mX8_writes 4 = some (.aload_n 0, 1, 5) := by decide +kernel
theorem fX8_writes_5 : zf mX8_writes 5 = some (.getfield 197, 3, 8) := by decide +kernel
theorem fX8_writes_8 : zf mX8_writes 8 = some (.iload_n 1, 1, 9) := by decide +kernel
theorem fX8_writes_9 : zf mX8_writes 9 = some (.i2c, 1, 10) := by decide +kernel
theorem fX8_writes_10 : zf mX8_writes 10 = some (.castore, 1, 11) := by decide +kernel
theorem fX8_writes_11 : zf mX8_writes 11 = some (.aload_n 0, 1, 12) := by decide +kernel
theorem fX8_writes_12 : zf mX8_writes 12 = some (.dup, 1, 13) := by decide +kernel
theorem fX8_writes_13 : zf mX8_writes 13 = some (.getfield 197, 3, 16) := by decide +kernel
theorem fX8_writes_16 : zf mX8_writes 16 = some (.iconst 1, 1, 17) := by decide +kernel
theorem fX8_writes_17 : zf mX8_writes 17 = some (.iadd, 1, 18) := by decide +kernel
theorem fX8_writes_18 : zf mX8_writes 18 = some (.putfield 197, 3, 21) := by decide +kernel
theorem fX8_writes_21 : zf mX8_writes 21 = some (.return_, 1, 22) := by decide +kernel
theorem fX8_writesNumber_0 : zf mX8_writesNumber 0 = some (.iload_n 1, 1, 1) := by decide +kernel
theorem fX8_writesNumber_1 : zf mX8_writesNumber 1 = some (.bipush 99, 2, 3) := by decide +kernel
theorem fX8_writesNumber_3 : zf mX8_writesNumber 3 = some (.if_icmp .le 14, 3, 6) := by decide +kernel
theorem fX8_writesNumber_6 : zf mX8_writesNumber 6 = some (.aload_n 0, 1, 7) := by decide +kernel
theorem fX8_writesNumber_7 : zf mX8_writesNumber 7 = some (.bipush 48, 2, 9) := by decide +kernel
theorem fX8_writesNumber_9 : zf mX8_writesNumber 9 = some (.iload_n 1, 1, 10) := by decide +kernel
theorem fX8_writesNumber_10 : zf mX8_writesNumber 10 = some (.bipush 100, 2, 12) := by decide +kernel
theorem fX8_writesNumber_12 : zf mX8_writesNumber 12 = some (.idiv, 1, 13) := by decide +kernel
theorem fX8_writesNumber_13 : zf mX8_writesNumber 13 = some (.iadd, 1, 14) := by decide +kernel
theorem fX8_writesNumber_14 : zf mX8_writesNumber 14 = some (.invokevirtual 200, 3, 17) := by decide +kernel
theorem fX8_writesNumber_17 : zf mX8_writesNumber 17 = some (.iload_n 1, 1, 18) := by decide +kernel
theorem fX8_writesNumber_18 : zf mX8_writesNumber 18 = some (.bipush 9, 2, 20) := by decide +kernel
theorem fX8_writesNumber_20 : zf mX8_writesNumber 20 = some (.if_icmp .le 17, 3, 23) := by decide +kernel
theorem fX8_writesNumber_23 : zf mX8_writesNumber 23 = some (.aload_n 0, 1, 24) := by decide +kernel
theorem fX8_writesNumber_24 : zf mX8_writesNumber 24 = some (.bipush 48, 2, 26) := by decide +kernel
theorem fX8_writesNumber_26 : zf mX8_writesNumber 26 = some (.iload_n 1, 1, 27) := by decide +kernel
theorem fX8_writesNumber_27 : zf mX8_writesNumber 27 = some (.bipush 10, 2, 29) := by decide +kernel
theorem fX8_writesNumber_29 : zf mX8_writesNumber 29 = some (.idiv, 1, 30) := by decide +kernel
theorem fX8_writesNumber_30 : zf mX8_writesNumber 30 = some (.bipush 10, 2, 32) := by decide +kernel
theorem fX8_writesNumber_32 : zf mX8_writesNumber 32 = some (.irem, 1, 33) := by decide +kernel
theorem fX8_writesNumber_33 : zf mX8_writesNumber 33 = some (.iadd, 1, 34) := by decide +kernel
theorem fX8_writesNumber_34 : zf mX8_writesNumber 34 = some (.invokevirtual 200, 3, 37) := by decide +kernel
theorem fX8_writesNumber_37 : zf mX8_writesNumber 37 = some (.aload_n 0, 1, 38) := by decide +kernel
theorem fX8_writesNumber_38 : zf mX8_writesNumber 38 = some (.bipush 48, 2, 40) := by decide +kernel
theorem fX8_writesNumber_40 : zf mX8_writesNumber 40 = some (.iload_n 1, 1, 41) := by decide +kernel
theorem fX8_writesNumber_41 : zf mX8_writesNumber 41 = some (.bipush 10, 2, 43) := by decide +kernel
theorem fX8_writesNumber_43 : zf mX8_writesNumber 43 = some (.irem, 1, 44) := by decide +kernel
theorem fX8_writesNumber_44 : zf mX8_writesNumber 44 = some (.iadd, 1, 45) := by decide +kernel
theorem fX8_writesNumber_45 : zf mX8_writesNumber 45 = some (.invokevirtual 200, 3, 48) := by decide +kernel
theorem fX8_writesNumber_48 : zf mX8_writesNumber 48 = some (.return_, 1, 49) := by decide +kernel
theorem fX8_line_0 : zf mX8_line 0 = some (.aload_n 0, 1, 1) := by decide +kernel
theorem fX8_line_1 : zf mX8_line 1 = some (.aload_n 0, 1, 2) := by decide +kernel
theorem fX8_line_2 : zf mX8_line 2 = some (.iload_n 1, 1, 3) := by decide +kernel
theorem fX8_line_3 : zf mX8_line 3 = some (.invokevirtual 104, 3, 6) := by decide +kernel
theorem fX8_line_6 : zf mX8_line 6 = some (.ifCond .eq 7, 3, 9) := by decide +kernel
theorem fX8_line_9 : zf mX8_line 9 = some (.iconst 0, 1, 10) := by decide +kernel
theorem fX8_line_10 : zf mX8_line 10 = some (.goto 4, 3, 13) := by decide +kernel
theorem fX8_line_13 : zf mX8_line 13 = some (.iconst 1, 1, 14) := by decide +kernel
theorem fX8_line_14 : zf mX8_line 14 = some (.invokevirtual 117, 3, 17) := by decide +kernel
theorem fX8_line_17 : zf mX8_line 17 = some (.ifCond .eq 5, 3, 20) := by decide +kernel
theorem fX8_line_20 : zf mX8_line 20 = some (.iconst 0, 1, 21) := by decide +kernel
theorem fX8_line_21 : zf mX8_line 21 = some (.ireturn, 1, 22) := by decide +kernel
theorem fX8_line_22 : zf mX8_line 22 = some (.aload_n 0, 1, 23) := by decide +kernel
theorem fX8_line_23 : zf mX8_line 23 = some (.iconst 0, 1, 24) := by decide +kernel
theorem fX8_line_24 : zf mX8_line 24 = some (.putfield 197, 3, 27) := by decide +kernel
theorem fX8_line_27 : zf mX8_line 27 = some (.iconst 0, 1, 28) := by decide +kernel
theorem fX8_line_28 : zf mX8_line 28 = some (.istore_n 2, 1, 29) := by decide +kernel
theorem fX8_line_29 : zf mX8_line 29 = some (.iload_n 2, 1, 30) := by decide +kernel
theorem fX8_line_30 : zf mX8_line 30 = some (.bipush 16, 2, 32) := by decide +kernel
theorem fX8_line_32 : zf mX8_line 32 = some (.if_icmp .ge 55, 3, 35) := by decide +kernel
theorem fX8_line_35 : zf mX8_line 35 = some (.aload_n 0, 1, 36) := by decide +kernel
theorem fX8_line_36 : zf mX8_line 36 = some (.iload_n 1, 1, 37) := by decide +kernel
theorem fX8_line_37 : zf mX8_line 37 = some (.iload_n 2, 1, 38) := by decide +kernel
theorem fX8_line_38 : zf mX8_line 38 = some (.invokevirtual 90, 3, 41) := by decide +kernel
theorem fX8_line_41 : zf mX8_line 41 = some (.ifCond .ne 6, 3, 44) := by decide +kernel
theorem fX8_line_44 : zf mX8_line 44 = some (.goto 37, 3, 47) := by decide +kernel
theorem fX8_line_47 : zf mX8_line 47 = some (.aload_n 0, 1, 48) := by decide +kernel
theorem fX8_line_48 : zf mX8_line 48 = some (.getfield 197, 3, 51) := by decide +kernel
theorem fX8_line_51 : zf mX8_line 51 = some (.ifCond .le 9, 3, 54) := by decide +kernel
theorem fX8_line_54 : zf mX8_line 54 = some (.aload_n 0, 1, 55) := by decide +kernel
theorem fX8_line_55 : zf mX8_line 55 = some (.bipush 44, 2, 57) := by decide +kernel
theorem fX8_line_57 : zf mX8_line 57 = some (.invokevirtual 200, 3, 60) := by decide +kernel
theorem fX8_line_60 : zf mX8_line 60 = some (.aload_n 0, 1, 61) := by decide +kernel
theorem fX8_line_61 : zf mX8_line 61 = some (.iload_n 2, 1, 62) := by decide +kernel
theorem fX8_line_62 : zf mX8_line 62 = some (.invokevirtual 204, 3, 65) := by decide +kernel
theorem fX8_line_65 : zf mX8_line 65 = some (.aload_n 0, 1, 66) := by decide +kernel
theorem fX8_line_66 : zf mX8_line 66 = some (.bipush 61, 2, 68) := by decide +kernel
theorem fX8_line_68 : zf mX8_line 68 = some (.invokevirtual 200, 3, 71) := by decide +kernel
theorem fX8_line_71 : zf mX8_line 71 = some (.aload_n 0, 1, 72) := by decide +kernel
theorem fX8_line_72 : zf mX8_line 72 = some (.aload_n 0, 1, 73) := by decide +kernel
theorem fX8_line_73 : zf mX8_line 73 = some (.iload_n 1, 1, 74) := by decide +kernel
theorem fX8_line_74 : zf mX8_line 74 = some (.iload_n 2, 1, 75) := by decide +kernel
theorem fX8_line_75 : zf mX8_line 75 = some (.invokevirtual 90, 3, 78) := by decide +kernel
theorem fX8_line_78 : zf mX8_line 78 = some (.invokevirtual 204, 3, 81) := by decide +kernel
theorem fX8_line_81 : zf mX8_line 81 = some (.iinc 2 1, 3, 84) := by decide +kernel
theorem fX8_line_84 : zf mX8_line 84 = some (.goto (-55), 3, 87) := by decide +kernel
theorem fX8_line_87 : zf mX8_line 87 = some (.aload_n 0, 1, 88) := by decide +kernel
theorem fX8_line_88 : zf mX8_line 88 = some (.getfield 197, 3, 91) := by decide +kernel
theorem fX8_line_91 : zf mX8_line 91 = some (.ireturn, 1, 92) := by decide +kernel
theorem fX8_lineage_0 : zf mX8_lineage 0 = some (.aload_n 0, 1, 1) := by decide +kernel
theorem fX8_lineage_1 : zf mX8_lineage 1 = some (.aload_n 0, 1, 2) := by decide +kernel
theorem fX8_lineage_2 : zf mX8_lineage 2 = some (.iload_n 1, 1, 3) := by decide +kernel
theorem fX8_lineage_3 : zf mX8_lineage 3 = some (.invokevirtual 104, 3, 6) := by decide +kernel
theorem fX8_lineage_6 : zf mX8_lineage 6 = some (.ifCond .eq 7, 3, 9) := by decide +kernel
theorem fX8_lineage_9 : zf mX8_lineage 9 = some (.iconst 0, 1, 10) := by decide +kernel
theorem fX8_lineage_10 : zf mX8_lineage 10 = some (.goto 4, 3, 13) := by decide +kernel
theorem fX8_lineage_13 : zf mX8_lineage 13 = some (.iconst 1, 1, 14) := by decide +kernel
theorem fX8_lineage_14 : zf mX8_lineage 14 = some (.invokevirtual 117, 3, 17) := by decide +kernel
theorem fX8_lineage_17 : zf mX8_lineage 17 = some (.ifCond .eq 5, 3, 20) := by decide +kernel
theorem fX8_lineage_20 : zf mX8_lineage 20 = some (.iconst 0, 1, 21) := by decide +kernel
theorem fX8_lineage_21 : zf mX8_lineage 21 = some (.ireturn, 1, 22) := by decide +kernel
theorem fX8_lineage_22 : zf mX8_lineage 22 = some (.aload_n 0, 1, 23) := by decide +kernel
theorem fX8_lineage_23 : zf mX8_lineage 23 = some (.iconst 0, 1, 24) := by decide +kernel
theorem fX8_lineage_24 : zf mX8_lineage 24 = some (.putfield 197, 3, 27) := by decide +kernel
theorem fX8_lineage_27 : zf mX8_lineage 27 = some (.iload_n 1, 1, 28) := by decide +kernel
theorem fX8_lineage_28 : zf mX8_lineage 28 = some (.istore_n 2, 1, 29) := by decide +kernel
theorem fX8_lineage_29 : zf mX8_lineage 29 = some (.iload_n 2, 1, 30) := by decide +kernel
theorem fX8_lineage_30 : zf mX8_lineage 30 = some (.ifCond .lt 31, 3, 33) := by decide +kernel
theorem fX8_lineage_33 : zf mX8_lineage 33 = some (.aload_n 0, 1, 34) := by decide +kernel
theorem fX8_lineage_34 : zf mX8_lineage 34 = some (.getfield 197, 3, 37) := by decide +kernel
theorem fX8_lineage_37 : zf mX8_lineage 37 = some (.ifCond .le 9, 3, 40) := by decide +kernel
theorem fX8_lineage_40 : zf mX8_lineage 40 = some (.aload_n 0, 1, 41) := by decide +kernel
theorem fX8_lineage_41 : zf mX8_lineage 41 = some (.bipush 60, 2, 43) := by decide +kernel
theorem fX8_lineage_43 : zf mX8_lineage 43 = some (.invokevirtual 200, 3, 46) := by decide +kernel
theorem fX8_lineage_46 : zf mX8_lineage 46 = some (.aload_n 0, 1, 47) := by decide +kernel
theorem fX8_lineage_47 : zf mX8_lineage 47 = some (.iload_n 2, 1, 48) := by decide +kernel
theorem fX8_lineage_48 : zf mX8_lineage 48 = some (.invokevirtual 204, 3, 51) := by decide +kernel
theorem fX8_lineage_51 : zf mX8_lineage 51 = some (.aload_n 0, 1, 52) := by decide +kernel
theorem fX8_lineage_52 : zf mX8_lineage 52 = some (.iload_n 2, 1, 53) := by decide +kernel
theorem fX8_lineage_53 : zf mX8_lineage 53 = some (.iconst 0, 1, 54) := by decide +kernel
theorem fX8_lineage_54 : zf mX8_lineage 54 = some (.invokevirtual 72, 3, 57) := by decide +kernel
theorem fX8_lineage_57 : zf mX8_lineage 57 = some (.istore_n 2, 1, 58) := by decide +kernel
theorem fX8_lineage_58 : zf mX8_lineage 58 = some (.goto (-29), 3, 61) := by decide +kernel
theorem fX8_lineage_61 : zf mX8_lineage 61 = some (.aload_n 0, 1, 62) := by decide +kernel
theorem fX8_lineage_62 : zf mX8_lineage 62 = some (.getfield 197, 3, 65) := by decide +kernel
theorem fX8_lineage_65 : zf mX8_lineage 65 = some (.ireturn, 1, 66) := by decide +kernel
theorem fX8_character_0 : zf mX8_character 0 = some (.aload_n 0, 1, 1) := by decide +kernel
theorem fX8_character_1 : zf mX8_character 1 = some (.iload_n 1, 1, 2) := by decide +kernel
theorem fX8_character_2 : zf mX8_character 2 = some (.iconst 0, 1, 3) := by decide +kernel
theorem fX8_character_3 : zf mX8_character 3 = some (.aload_n 0, 1, 4) := by decide +kernel
theorem fX8_character_4 : zf mX8_character 4 = some (.getfield 197, 3, 7) := by decide +kernel
theorem fX8_character_7 : zf mX8_character 7 = some (.iconst 1, 1, 8) := by decide +kernel
theorem fX8_character_8 : zf mX8_character 8 = some (.isub, 1, 9) := by decide +kernel
theorem fX8_character_9 : zf mX8_character 9 = some (.invokestatic 68, 3, 12) := by decide +kernel
theorem fX8_character_12 : zf mX8_character 12 = some (.ifCond .eq 7, 3, 15) := by decide +kernel
theorem fX8_character_15 : zf mX8_character 15 = some (.iconst 0, 1, 16) := by decide +kernel
theorem fX8_character_16 : zf mX8_character 16 = some (.goto 4, 3, 19) := by decide +kernel
theorem fX8_character_19 : zf mX8_character 19 = some (.iconst 1, 1, 20) := by decide +kernel
theorem fX8_character_20 : zf mX8_character 20 = some (.invokevirtual 117, 3, 23) := by decide +kernel
theorem fX8_character_23 : zf mX8_character 23 = some (.ifCond .eq 8, 3, 26) := by decide +kernel
theorem fX8_character_26 : zf mX8_character 26 = some (.bipush 32, 2, 28) := by decide +kernel
theorem fX8_character_28 : zf mX8_character 28 = some (.goto 9, 3, 31) := by decide +kernel
theorem fX8_character_31 : zf mX8_character 31 = some (.aload_n 0, 1, 32) := by decide +kernel
theorem fX8_character_32 : zf mX8_character 32 = some (.getfield 29, 3, 35) := by decide +kernel
theorem fX8_character_35 : zf mX8_character 35 = some (.iload_n 1, 1, 36) := by decide +kernel
theorem fX8_character_36 : zf mX8_character 36 = some (.caload, 1, 37) := by decide +kernel
theorem fX8_character_37 : zf mX8_character 37 = some (.ireturn, 1, 38) := by decide +kernel
theorem fX8_mean_0 : zf mX8_mean 0 = some (.aload_n 0, 1, 1) := by decide +kernel
theorem fX8_mean_1 : zf mX8_mean 1 = some (.aload_n 0, 1, 2) := by decide +kernel
theorem fX8_mean_2 : zf mX8_mean 2 = some (.iload_n 1, 1, 3) := by decide +kernel
theorem fX8_mean_3 : zf mX8_mean 3 = some (.invokevirtual 104, 3, 6) := by decide +kernel
theorem fX8_mean_6 : zf mX8_mean 6 = some (.ifCond .eq 7, 3, 9) := by decide +kernel
theorem fX8_mean_9 : zf mX8_mean 9 = some (.iconst 0, 1, 10) := by decide +kernel
theorem fX8_mean_10 : zf mX8_mean 10 = some (.goto 4, 3, 13) := by decide +kernel
theorem fX8_mean_13 : zf mX8_mean 13 = some (.iconst 1, 1, 14) := by decide +kernel
theorem fX8_mean_14 : zf mX8_mean 14 = some (.invokevirtual 117, 3, 17) := by decide +kernel
theorem fX8_mean_17 : zf mX8_mean 17 = some (.ifCond .eq 7, 3, 20) := by decide +kernel
theorem fX8_mean_20 : zf mX8_mean 20 = some (.dconst 0, 1, 21) := by decide +kernel
theorem fX8_mean_21 : zf mX8_mean 21 = some (.goto 16, 3, 24) := by decide +kernel
theorem fX8_mean_24 : zf mX8_mean 24 = some (.aload_n 0, 1, 25) := by decide +kernel
theorem fX8_mean_25 : zf mX8_mean 25 = some (.iload_n 1, 1, 26) := by decide +kernel
theorem fX8_mean_26 : zf mX8_mean 26 = some (.iconst 0, 1, 27) := by decide +kernel
theorem fX8_mean_27 : zf mX8_mean 27 = some (.bipush 15, 2, 29) := by decide +kernel
theorem fX8_mean_29 : zf mX8_mean 29 = some (.invokevirtual 124, 3, 32) := by decide +kernel
theorem fX8_mean_32 : zf mX8_mean 32 = some (.i2d, 1, 33) := by decide +kernel
theorem fX8_mean_33 : zf mX8_mean 33 = some (.ldc2_w 207, 3, 36) := by decide +kernel
theorem fX8_mean_36 : zf mX8_mean 36 = some (.ddiv, 1, 37) := by decide +kernel
theorem fX8_mean_37 : zf mX8_mean 37 = some (.dreturn, 1, 38) := by decide +kernel
theorem fX8_allMade_0 : zf mX8_allMade 0 = some (.iconst 0, 1, 1) := by decide +kernel
theorem fX8_allMade_1 : zf mX8_allMade 1 = some (.istore_n 1, 1, 2) := by decide +kernel
theorem fX8_allMade_2 : zf mX8_allMade 2 = some (.iconst 0, 1, 3) := by decide +kernel
theorem fX8_allMade_3 : zf mX8_allMade 3 = some (.istore_n 2, 1, 4) := by decide +kernel
theorem fX8_allMade_4 : zf mX8_allMade 4 = some (.iload_n 2, 1, 5) := by decide +kernel
theorem fX8_allMade_5 : zf mX8_allMade 5 = some (.aload_n 0, 1, 6) := by decide +kernel
theorem fX8_allMade_6 : zf mX8_allMade 6 = some (.getfield 7, 3, 9) := by decide +kernel
theorem fX8_allMade_9 : zf mX8_allMade 9 = some (.iconst 0, 1, 10) := by decide +kernel
theorem fX8_allMade_10 : zf mX8_allMade 10 = some (.iaload, 1, 11) := by decide +kernel
theorem fX8_allMade_11 : zf mX8_allMade 11 = some (.if_icmp .ge 17, 3, 14) := by decide +kernel
theorem fX8_allMade_14 : zf mX8_allMade 14 = some (.iload_n 1, 1, 15) := by decide +kernel
theorem fX8_allMade_15 : zf mX8_allMade 15 = some (.aload_n 0, 1, 16) := by decide +kernel
theorem fX8_allMade_16 : zf mX8_allMade 16 = some (.iload_n 2, 1, 17) := by decide +kernel
theorem fX8_allMade_17 : zf mX8_allMade 17 = some (.invokevirtual 134, 3, 20) := by decide +kernel
theorem fX8_allMade_20 : zf mX8_allMade 20 = some (.iadd, 1, 21) := by decide +kernel
theorem fX8_allMade_21 : zf mX8_allMade 21 = some (.istore_n 1, 1, 22) := by decide +kernel
theorem fX8_allMade_22 : zf mX8_allMade 22 = some (.iinc 2 1, 3, 25) := by decide +kernel
theorem fX8_allMade_25 : zf mX8_allMade 25 = some (.goto (-21), 3, 28) := by decide +kernel
theorem fX8_allMade_28 : zf mX8_allMade 28 = some (.iload_n 1, 1, 29) := by decide +kernel
theorem fX8_allMade_29 : zf mX8_allMade 29 = some (.ireturn, 1, 30) := by decide +kernel
theorem fX8_spared_0 : zf mX8_spared 0 = some (.aload_n 0, 1, 1) := by decide +kernel
theorem fX8_spared_1 : zf mX8_spared 1 = some (.iconst 0, 1, 2) := by decide +kernel
theorem fX8_spared_2 : zf mX8_spared 2 = some (.putfield 42, 3, 5) := by decide +kernel
theorem fX8_spared_5 : zf mX8_spared 5 = some (.bipush 31, 2, 7) := by decide +kernel
theorem fX8_spared_7 : zf mX8_spared 7 = some (.aload_n 0, 1, 8) := by decide +kernel
theorem fX8_spared_8 : zf mX8_spared 8 = some (.getfield 7, 3, 11) := by decide +kernel
theorem fX8_spared_11 : zf mX8_spared 11 = some (.iconst 0, 1, 12) := by decide +kernel
theorem fX8_spared_12 : zf mX8_spared 12 = some (.iaload, 1, 13) := by decide +kernel
theorem fX8_spared_13 : zf mX8_spared 13 = some (.imul, 1, 14) := by decide +kernel
theorem fX8_spared_14 : zf mX8_spared 14 = some (.aload_n 0, 1, 15) := by decide +kernel
theorem fX8_spared_15 : zf mX8_spared 15 = some (.invokevirtual 209, 3, 18) := by decide +kernel
theorem fX8_spared_18 : zf mX8_spared 18 = some (.isub, 1, 19) := by decide +kernel
theorem fX8_spared_19 : zf mX8_spared 19 = some (.i2f, 1, 20) := by decide +kernel
theorem fX8_spared_20 : zf mX8_spared 20 = some (.bipush 31, 2, 22) := by decide +kernel
theorem fX8_spared_22 : zf mX8_spared 22 = some (.aload_n 0, 1, 23) := by decide +kernel
theorem fX8_spared_23 : zf mX8_spared 23 = some (.getfield 7, 3, 26) := by decide +kernel
theorem fX8_spared_26 : zf mX8_spared 26 = some (.iconst 0, 1, 27) := by decide +kernel
theorem fX8_spared_27 : zf mX8_spared 27 = some (.iaload, 1, 28) := by decide +kernel
theorem fX8_spared_28 : zf mX8_spared 28 = some (.imul, 1, 29) := by decide +kernel
theorem fX8_spared_29 : zf mX8_spared 29 = some (.i2f, 1, 30) := by decide +kernel
theorem fX8_spared_30 : zf mX8_spared 30 = some (.fdiv, 1, 31) := by decide +kernel
theorem fX8_spared_31 : zf mX8_spared 31 = some (.freturn, 1, 32) := by decide +kernel
theorem fX8_versionsThat_0 : zf mX8_versionsThat 0 = some (.iconst 0, 1, 1) := by decide +kernel
theorem fX8_versionsThat_1 : zf mX8_versionsThat 1 = some (.istore_n 2, 1, 2) := by decide +kernel
theorem fX8_versionsThat_2 : zf mX8_versionsThat 2 = some (.iconst 0, 1, 3) := by decide +kernel
theorem fX8_versionsThat_3 : zf mX8_versionsThat 3 = some (.istore_n 3, 1, 4) := by decide +kernel
theorem fX8_versionsThat_4 : zf mX8_versionsThat 4 = some (.iload_n 3, 1, 5) := by decide +kernel
theorem fX8_versionsThat_5 : zf mX8_versionsThat 5 = some (.aload_n 0, 1, 6) := by decide +kernel
theorem fX8_versionsThat_6 : zf mX8_versionsThat 6 = some (.getfield 7, 3, 9) := by decide +kernel
theorem fX8_versionsThat_9 : zf mX8_versionsThat 9 = some (.iconst 0, 1, 10) := by decide +kernel
theorem fX8_versionsThat_10 : zf mX8_versionsThat 10 = some (.iaload, 1, 11) := by decide +kernel
theorem fX8_versionsThat_11 : zf mX8_versionsThat 11 = some (.if_icmp .ge 45, 3, 14) := by decide +kernel
theorem fX8_versionsThat_14 : zf mX8_versionsThat 14 = some (.iload_n 2, 1, 15) := by decide +kernel
theorem fX8_versionsThat_15 : zf mX8_versionsThat 15 = some (.iload_n 1, 1, 16) := by decide +kernel
theorem fX8_versionsThat_16 : zf mX8_versionsThat 16 = some (.ifCond .eq 19, 3, 19) := by decide +kernel
theorem fX8_versionsThat_19 : zf mX8_versionsThat 19 = some (.aload_n 0, 1, 20) := by decide +kernel
theorem fX8_versionsThat_20 : zf mX8_versionsThat 20 = some (.iload_n 3, 1, 21) := by decide +kernel
theorem fX8_versionsThat_21 : zf mX8_versionsThat 21 = some (.invokevirtual 140, 3, 24) := by decide +kernel
theorem fX8_versionsThat_24 : zf mX8_versionsThat 24 = some (.ifCond .le 7, 3, 27) := by decide +kernel
theorem fX8_versionsThat_27 : zf mX8_versionsThat 27 = some (.iconst 1, 1, 28) := by decide +kernel
theorem fX8_versionsThat_28 : zf mX8_versionsThat 28 = some (.goto 20, 3, 31) := by decide +kernel
theorem fX8_versionsThat_31 : zf mX8_versionsThat 31 = some (.iconst 0, 1, 32) := by decide +kernel
theorem fX8_versionsThat_32 : zf mX8_versionsThat 32 = some (.goto 16, 3, 35) := by decide +kernel
theorem fX8_versionsThat_35 : zf mX8_versionsThat 35 = some (.aload_n 0, 1, 36) := by decide +kernel
theorem fX8_versionsThat_36 : zf mX8_versionsThat 36 = some (.iload_n 3, 1, 37) := by decide +kernel
theorem fX8_versionsThat_37 : zf mX8_versionsThat 37 = some (.invokevirtual 131, 3, 40) := by decide +kernel
theorem fX8_versionsThat_40 : zf mX8_versionsThat 40 = some (.ifCond .ne 7, 3, 43) := by decide +kernel
theorem fX8_versionsThat_43 : zf mX8_versionsThat 43 = some (.iconst 1, 1, 44) := by decide +kernel
theorem fX8_versionsThat_44 : zf mX8_versionsThat 44 = some (.goto 4, 3, 47) := by decide +kernel
theorem fX8_versionsThat_47 : zf mX8_versionsThat 47 = some (.iconst 0, 1, 48) := by decide +kernel
theorem fX8_versionsThat_48 : zf mX8_versionsThat 48 = some (.iadd, 1, 49) := by decide +kernel
theorem fX8_versionsThat_49 : zf mX8_versionsThat 49 = some (.istore_n 2, 1, 50) := by decide +kernel
theorem fX8_versionsThat_50 : zf mX8_versionsThat 50 = some (.iinc 3 1, 3, 53) := by decide +kernel
theorem fX8_versionsThat_53 : zf mX8_versionsThat 53 = some (.goto (-49), 3, 56) := by decide +kernel
theorem fX8_versionsThat_56 : zf mX8_versionsThat 56 = some (.iload_n 2, 1, 57) := by decide +kernel
theorem fX8_versionsThat_57 : zf mX8_versionsThat 57 = some (.ireturn, 1, 58) := by decide +kernel
theorem fX8_account_0 : zf mX8_account 0 = some (.aload_n 0, 1, 1) := by decide +kernel
theorem fX8_account_1 : zf mX8_account 1 = some (.iload_n 1, 1, 2) := by decide +kernel
theorem fX8_account_2 : zf mX8_account 2 = some (.iconst 0, 1, 3) := by decide +kernel
theorem fX8_account_3 : zf mX8_account 3 = some (.bipush 8, 2, 5) := by decide +kernel
theorem fX8_account_5 : zf mX8_account 5 = some (.invokestatic 68, 3, 8) := by decide +kernel
theorem fX8_account_8 : zf mX8_account 8 = some (.ifCond .eq 7, 3, 11) := by decide +kernel
theorem fX8_account_11 : zf mX8_account 11 = some (.iconst 0, 1, 12) := by decide +kernel
theorem fX8_account_12 : zf mX8_account 12 = some (.goto 4, 3, 15) := by decide +kernel
theorem fX8_account_15 : zf mX8_account 15 = some (.iconst 1, 1, 16) := by decide +kernel
theorem fX8_account_16 : zf mX8_account 16 = some (.invokevirtual 117, 3, 19) := by decide +kernel
theorem fX8_account_19 : zf mX8_account 19 = some (.ifCond .eq 5, 3, 22) := by decide +kernel
theorem fX8_account_22 : zf mX8_account 22 = some (.iconst 0, 1, 23) := by decide +kernel
theorem fX8_account_23 : zf mX8_account 23 = some (.ireturn, 1, 24) := by decide +kernel
theorem fX8_account_24 : zf mX8_account 24 = some (.iload_n 1, 1, 25) := by decide +kernel
theorem fX8_account_25 : zf mX8_account 25 = some (.tableswitch 97 0 7 #[47, 54, 61, 66, 72, 78, 85, 92], 47, 72) := by decide +kernel
theorem fX8_account_72 : zf mX8_account 72 = some (.aload_n 0, 1, 73) := by decide +kernel
theorem fX8_account_73 : zf mX8_account 73 = some (.getfield 7, 3, 76) := by decide +kernel
theorem fX8_account_76 : zf mX8_account 76 = some (.iconst 0, 1, 77) := by decide +kernel
theorem fX8_account_77 : zf mX8_account 77 = some (.iaload, 1, 78) := by decide +kernel
theorem fX8_account_78 : zf mX8_account 78 = some (.ireturn, 1, 79) := by decide +kernel
theorem fX8_account_79 : zf mX8_account 79 = some (.aload_n 0, 1, 80) := by decide +kernel
theorem fX8_account_80 : zf mX8_account 80 = some (.getfield 7, 3, 83) := by decide +kernel
theorem fX8_account_83 : zf mX8_account 83 = some (.iconst 1, 1, 84) := by decide +kernel
theorem fX8_account_84 : zf mX8_account 84 = some (.iaload, 1, 85) := by decide +kernel
theorem fX8_account_85 : zf mX8_account 85 = some (.ireturn, 1, 86) := by decide +kernel
theorem fX8_account_86 : zf mX8_account 86 = some (.aload_n 0, 1, 87) := by decide +kernel
theorem fX8_account_87 : zf mX8_account 87 = some (.invokevirtual 209, 3, 90) := by decide +kernel
theorem fX8_account_90 : zf mX8_account 90 = some (.ireturn, 1, 91) := by decide +kernel
theorem fX8_account_91 : zf mX8_account 91 = some (.aload_n 0, 1, 92) := by decide +kernel
theorem fX8_account_92 : zf mX8_account 92 = some (.iconst 1, 1, 93) := by decide +kernel
theorem fX8_account_93 : zf mX8_account 93 = some (.invokevirtual 212, 3, 96) := by decide +kernel
theorem fX8_account_96 : zf mX8_account 96 = some (.ireturn, 1, 97) := by decide +kernel
theorem fX8_account_97 : zf mX8_account 97 = some (.aload_n 0, 1, 98) := by decide +kernel
theorem fX8_account_98 : zf mX8_account 98 = some (.iconst 0, 1, 99) := by decide +kernel
theorem fX8_account_99 : zf mX8_account 99 = some (.invokevirtual 212, 3, 102) := by decide +kernel
theorem fX8_account_102 : zf mX8_account 102 = some (.ireturn, 1, 103) := by decide +kernel
theorem fX8_account_103 : zf mX8_account 103 = some (.aload_n 0, 1, 104) := by decide +kernel
theorem fX8_account_104 : zf mX8_account 104 = some (.getfield 7, 3, 107) := by decide +kernel
theorem fX8_account_107 : zf mX8_account 107 = some (.iconst 2, 1, 108) := by decide +kernel
theorem fX8_account_108 : zf mX8_account 108 = some (.iaload, 1, 109) := by decide +kernel
theorem fX8_account_109 : zf mX8_account 109 = some (.ireturn, 1, 110) := by decide +kernel
theorem fX8_account_110 : zf mX8_account 110 = some (.aload_n 0, 1, 111) := by decide +kernel
theorem fX8_account_111 : zf mX8_account 111 = some (.getfield 7, 3, 114) := by decide +kernel
theorem fX8_account_114 : zf mX8_account 114 = some (.iconst 3, 1, 115) := by decide +kernel
theorem fX8_account_115 : zf mX8_account 115 = some (.iaload, 1, 116) := by decide +kernel
theorem fX8_account_116 : zf mX8_account 116 = some (.ireturn, 1, 117) := by decide +kernel
theorem fX8_account_117 : zf mX8_account 117 = some (.aload_n 0, 1, 118) := by decide +kernel
theorem fX8_account_118 : zf mX8_account 118 = some (.getfield 61, 3, 121) := by decide +kernel
theorem fX8_account_121 : zf mX8_account 121 = some (.ireturn, 1, 122) := by decide +kernel
theorem fX8_account_122 : zf mX8_account 122 = some (.aload_n 0, 1, 123) := by decide +kernel
theorem fX8_account_123 : zf mX8_account 123 = some (.getfield 152, 3, 126) := by decide +kernel
theorem fX8_account_126 : zf mX8_account 126 = some (.ireturn, 1, 127) := by decide +kernel
theorem fX8_undo_0 : zf mX8_undo 0 = some (.aload_n 0, 1, 1) := by decide +kernel
theorem fX8_undo_1 : zf mX8_undo 1 = some (.aload_n 0, 1, 2) := by decide +kernel
theorem fX8_undo_2 : zf mX8_undo 2 = some (.getfield 61, 3, 5) := by decide +kernel
theorem fX8_undo_5 : zf mX8_undo 5 = some (.ifCond .ne 7, 3, 8) := by decide +kernel
theorem fX8_undo_8 : zf mX8_undo 8 = some (.iconst 1, 1, 9) := by decide +kernel
theorem fX8_undo_9 : zf mX8_undo 9 = some (.goto 4, 3, 12) := by decide +kernel
theorem fX8_undo_12 : zf mX8_undo 12 = some (.iconst 0, 1, 13) := by decide +kernel
theorem fX8_undo_13 : zf mX8_undo 13 = some (.invokevirtual 117, 3, 16) := by decide +kernel
theorem fX8_undo_16 : zf mX8_undo 16 = some (.ifCond .eq 5, 3, 19) := by decide +kernel
theorem fX8_undo_19 : zf mX8_undo 19 = some (.iconst 0, 1, 20) := by decide +kernel
theorem fX8_undo_20 : zf mX8_undo 20 = some (.ireturn, 1, 21) := by decide +kernel
theorem fX8_undo_21 : zf mX8_undo 21 = some (.aload_n 0, 1, 22) := by decide +kernel
theorem fX8_undo_22 : zf mX8_undo 22 = some (.dup, 1, 23) := by decide +kernel
theorem fX8_undo_23 : zf mX8_undo 23 = some (.getfield 61, 3, 26) := by decide +kernel
theorem fX8_undo_26 : zf mX8_undo 26 = some (.iconst 1, 1, 27) := by decide +kernel
theorem fX8_undo_27 : zf mX8_undo 27 = some (.isub, 1, 28) := by decide +kernel
theorem fX8_undo_28 : zf mX8_undo 28 = some (.putfield 61, 3, 31) := by decide +kernel
theorem fX8_undo_31 : zf mX8_undo 31 = some (.aload_n 0, 1, 32) := by decide +kernel
theorem fX8_undo_32 : zf mX8_undo 32 = some (.getfield 13, 3, 35) := by decide +kernel
theorem fX8_undo_35 : zf mX8_undo 35 = some (.sipush 1968, 3, 38) := by decide +kernel
theorem fX8_undo_38 : zf mX8_undo 38 = some (.aload_n 0, 1, 39) := by decide +kernel
theorem fX8_undo_39 : zf mX8_undo 39 = some (.getfield 61, 3, 42) := by decide +kernel
theorem fX8_undo_42 : zf mX8_undo 42 = some (.imul, 1, 43) := by decide +kernel
theorem fX8_undo_43 : zf mX8_undo 43 = some (.aload_n 0, 1, 44) := by decide +kernel
theorem fX8_undo_44 : zf mX8_undo 44 = some (.getfield 7, 3, 47) := by decide +kernel
theorem fX8_undo_47 : zf mX8_undo 47 = some (.iconst 0, 1, 48) := by decide +kernel
theorem fX8_undo_48 : zf mX8_undo 48 = some (.invokestatic 64, 3, 51) := by decide +kernel
theorem fX8_undo_51 : zf mX8_undo 51 = some (.aload_n 0, 1, 52) := by decide +kernel
theorem fX8_undo_52 : zf mX8_undo 52 = some (.getfield 61, 3, 55) := by decide +kernel
theorem fX8_undo_55 : zf mX8_undo 55 = some (.ireturn, 1, 56) := by decide +kernel
theorem fX8_save_0 : zf mX8_save 0 = some (.aload_n 0, 1, 1) := by decide +kernel
theorem fX8_save_1 : zf mX8_save 1 = some (.iconst 0, 1, 2) := by decide +kernel
theorem fX8_save_2 : zf mX8_save 2 = some (.putfield 42, 3, 5) := by decide +kernel
theorem fX8_save_5 : zf mX8_save 5 = some (.aload_n 0, 1, 6) := by decide +kernel
theorem fX8_save_6 : zf mX8_save 6 = some (.iconst 1, 1, 7) := by decide +kernel
theorem fX8_save_7 : zf mX8_save 7 = some (.putfield 216, 3, 10) := by decide +kernel
theorem fX8_save_10 : zf mX8_save 10 = some (.aload_n 0, 1, 11) := by decide +kernel
theorem fX8_save_11 : zf mX8_save 11 = some (.getfield 7, 3, 14) := by decide +kernel
theorem fX8_save_14 : zf mX8_save 14 = some (.iconst 0, 1, 15) := by decide +kernel
theorem fX8_save_15 : zf mX8_save 15 = some (.aload_n 0, 1, 16) := by decide +kernel
theorem fX8_save_16 : zf mX8_save 16 = some (.getfield 16, 3, 19) := by decide +kernel
theorem fX8_save_19 : zf mX8_save 19 = some (.iconst 0, 1, 20) := by decide +kernel
theorem fX8_save_20 : zf mX8_save 20 = some (.invokestatic 64, 3, 23) := by decide +kernel
theorem fX8_save_23 : zf mX8_save 23 = some (.aload_n 0, 1, 24) := by decide +kernel
theorem fX8_save_24 : zf mX8_save 24 = some (.getfield 7, 3, 27) := by decide +kernel
theorem fX8_save_27 : zf mX8_save 27 = some (.iconst 0, 1, 28) := by decide +kernel
theorem fX8_save_28 : zf mX8_save 28 = some (.iaload, 1, 29) := by decide +kernel
theorem fX8_save_29 : zf mX8_save 29 = some (.ireturn, 1, 30) := by decide +kernel
theorem fX8_restore_0 : zf mX8_restore 0 = some (.aload_n 0, 1, 1) := by decide +kernel
theorem fX8_restore_1 : zf mX8_restore 1 = some (.aload_n 0, 1, 2) := by decide +kernel
theorem fX8_restore_2 : zf mX8_restore 2 = some (.getfield 216, 3, 5) := by decide +kernel
theorem fX8_restore_5 : zf mX8_restore 5 = some (.ifCond .eq 7, 3, 8) := by decide +kernel
theorem fX8_restore_8 : zf mX8_restore 8 = some (.iconst 0, 1, 9) := by decide +kernel
theorem fX8_restore_9 : zf mX8_restore 9 = some (.goto 4, 3, 12) := by decide +kernel
theorem fX8_restore_12 : zf mX8_restore 12 = some (.iconst 1, 1, 13) := by decide +kernel
theorem fX8_restore_13 : zf mX8_restore 13 = some (.invokevirtual 117, 3, 16) := by decide +kernel
theorem fX8_restore_16 : zf mX8_restore 16 = some (.ifCond .eq 5, 3, 19) := by decide +kernel
theorem fX8_restore_19 : zf mX8_restore 19 = some (.iconst 0, 1, 20) := by decide +kernel
theorem fX8_restore_20 : zf mX8_restore 20 = some (.ireturn, 1, 21) := by decide +kernel
theorem fX8_restore_21 : zf mX8_restore 21 = some (.aload_n 0, 1, 22) := by decide +kernel
theorem fX8_restore_22 : zf mX8_restore 22 = some (.getfield 16, 3, 25) := by decide +kernel
theorem fX8_restore_25 : zf mX8_restore 25 = some (.iconst 0, 1, 26) := by decide +kernel
theorem fX8_restore_26 : zf mX8_restore 26 = some (.aload_n 0, 1, 27) := by decide +kernel
theorem fX8_restore_27 : zf mX8_restore 27 = some (.getfield 7, 3, 30) := by decide +kernel
theorem fX8_restore_30 : zf mX8_restore 30 = some (.iconst 0, 1, 31) := by decide +kernel
theorem fX8_restore_31 : zf mX8_restore 31 = some (.invokestatic 64, 3, 34) := by decide +kernel
theorem fX8_restore_34 : zf mX8_restore 34 = some (.aload_n 0, 1, 35) := by decide +kernel
theorem fX8_restore_35 : zf mX8_restore 35 = some (.iconst 0, 1, 36) := by decide +kernel
theorem fX8_restore_36 : zf mX8_restore 36 = some (.putfield 61, 3, 39) := by decide +kernel
theorem fX8_restore_39 : zf mX8_restore 39 = some (.aload_n 0, 1, 40) := by decide +kernel
theorem fX8_restore_40 : zf mX8_restore 40 = some (.getfield 7, 3, 43) := by decide +kernel
theorem fX8_restore_43 : zf mX8_restore 43 = some (.iconst 0, 1, 44) := by decide +kernel
theorem fX8_restore_44 : zf mX8_restore 44 = some (.iaload, 1, 45) := by decide +kernel
theorem fX8_restore_45 : zf mX8_restore 45 = some (.ireturn, 1, 46) := by decide +kernel
