theorem dX5_init_0 : decode cX5_init 0 = .ok (.aload_n 0, 1) := by decide +kernel
theorem dX5_init_1 : decode cX5_init 1 = .ok (.invokespecial 1, 3) := by decide +kernel
theorem dX5_init_4 : decode cX5_init 4 = .ok (.aload_n 0, 1) := by decide +kernel
theorem dX5_init_5 : decode cX5_init 5 = .ok (.bipush 8, 2) := by decide +kernel
theorem dX5_init_7 : decode cX5_init 7 = .ok (.newarray .int, 2) := by decide +kernel
theorem dX5_init_9 : decode cX5_init 9 = .ok (.putfield 7, 3) := by decide +kernel
theorem dX5_init_12 : decode cX5_init 12 = .ok (.aload_n 0, 1) := by decide +kernel
theorem dX5_init_13 : decode cX5_init 13 = .ok (.bipush 8, 2) := by decide +kernel
theorem dX5_init_15 : decode cX5_init 15 = .ok (.newarray .int, 2) := by decide +kernel
theorem dX5_init_17 : decode cX5_init 17 = .ok (.putfield 13, 3) := by decide +kernel
theorem dX5_init_20 : decode cX5_init 20 = .ok (.aload_n 0, 1) := by decide +kernel
theorem dX5_init_21 : decode cX5_init 21 = .ok (.bipush 8, 2) := by decide +kernel
theorem dX5_init_23 : decode cX5_init 23 = .ok (.newarray .int, 2) := by decide +kernel
theorem dX5_init_25 : decode cX5_init 25 = .ok (.putfield 16, 3) := by decide +kernel
theorem dX5_init_28 : decode cX5_init 28 = .ok (.aload_n 0, 1) := by decide +kernel
theorem dX5_init_29 : decode cX5_init 29 = .ok (.bipush 8, 2) := by decide +kernel
theorem dX5_init_31 : decode cX5_init 31 = .ok (.newarray .int, 2) := by decide +kernel
theorem dX5_init_33 : decode cX5_init 33 = .ok (.putfield 19, 3) := by decide +kernel
theorem dX5_init_36 : decode cX5_init 36 = .ok (.aload_n 0, 1) := by decide +kernel
theorem dX5_init_37 : decode cX5_init 37 = .ok (.bipush 6, 2) := by decide +kernel
theorem dX5_init_39 : decode cX5_init 39 = .ok (.newarray .int, 2) := by decide +kernel
theorem dX5_init_41 : decode cX5_init 41 = .ok (.putfield 22, 3) := by decide +kernel
theorem dX5_init_44 : decode cX5_init 44 = .ok (.aload_n 0, 1) := by decide +kernel
theorem dX5_init_45 : decode cX5_init 45 = .ok (.bipush 6, 2) := by decide +kernel
theorem dX5_init_47 : decode cX5_init 47 = .ok (.newarray .int, 2) := by decide +kernel
theorem dX5_init_49 : decode cX5_init 49 = .ok (.putfield 25, 3) := by decide +kernel
theorem dX5_init_52 : decode cX5_init 52 = .ok (.aload_n 0, 1) := by decide +kernel
theorem dX5_init_53 : decode cX5_init 53 = .ok (.bipush 6, 2) := by decide +kernel
theorem dX5_init_55 : decode cX5_init 55 = .ok (.newarray .int, 2) := by decide +kernel
theorem dX5_init_57 : decode cX5_init 57 = .ok (.putfield 28, 3) := by decide +kernel
theorem dX5_init_60 : decode cX5_init 60 = .ok (.aload_n 0, 1) := by decide +kernel
theorem dX5_init_61 : decode cX5_init 61 = .ok (.bipush 8, 2) := by decide +kernel
theorem dX5_init_63 : decode cX5_init 63 = .ok (.newarray .int, 2) := by decide +kernel
theorem dX5_init_65 : decode cX5_init 65 = .ok (.putfield 31, 3) := by decide +kernel
theorem dX5_init_68 : decode cX5_init 68 = .ok (.aload_n 0, 1) := by decide +kernel
theorem dX5_init_69 : decode cX5_init 69 = .ok (.bipush 8, 2) := by decide +kernel
theorem dX5_init_71 : decode cX5_init 71 = .ok (.newarray .int, 2) := by decide +kernel
theorem dX5_init_73 : decode cX5_init 73 = .ok (.putfield 34, 3) := by decide +kernel
theorem dX5_init_76 : decode cX5_init 76 = .ok (.aload_n 0, 1) := by decide +kernel
theorem dX5_init_77 : decode cX5_init 77 = .ok (.bipush 6, 2) := by decide +kernel
theorem dX5_init_79 : decode cX5_init 79 = .ok (.newarray .int, 2) := by decide +kernel
theorem dX5_init_81 : decode cX5_init 81 = .ok (.putfield 37, 3) := by decide +kernel
theorem dX5_init_84 : decode cX5_init 84 = .ok (.aload_n 0, 1) := by decide +kernel
theorem dX5_init_85 : decode cX5_init 85 = .ok (.bipush 6, 2) := by decide +kernel
theorem dX5_init_87 : decode cX5_init 87 = .ok (.newarray .int, 2) := by decide +kernel
theorem dX5_init_89 : decode cX5_init 89 = .ok (.putfield 40, 3) := by decide +kernel
theorem dX5_init_92 : decode cX5_init 92 = .ok (.aload_n 0, 1) := by decide +kernel
theorem dX5_init_93 : decode cX5_init 93 = .ok (.bipush 60, 2) := by decide +kernel
theorem dX5_init_95 : decode cX5_init 95 = .ok (.newarray .int, 2) := by decide +kernel
theorem dX5_init_97 : decode cX5_init 97 = .ok (.putfield 43, 3) := by decide +kernel
theorem dX5_init_100 : decode cX5_init 100 = .ok (.aload_n 0, 1) := by decide +kernel
theorem dX5_init_101 : decode cX5_init 101 = .ok (.bipush 60, 2) := by decide +kernel
theorem dX5_init_103 : decode cX5_init 103 = .ok (.newarray .int, 2) := by decide +kernel
theorem dX5_init_105 : decode cX5_init 105 = .ok (.putfield 46, 3) := by decide +kernel
theorem dX5_init_108 : decode cX5_init 108 = .ok (.aload_n 0, 1) := by decide +kernel
theorem dX5_init_109 : decode cX5_init 109 = .ok (.bipush 60, 2) := by decide +kernel
theorem dX5_init_111 : decode cX5_init 111 = .ok (.newarray .int, 2) := by decide +kernel
theorem dX5_init_113 : decode cX5_init 113 = .ok (.putfield 49, 3) := by decide +kernel
theorem dX5_init_116 : decode cX5_init 116 = .ok (.aload_n 0, 1) := by decide +kernel
theorem dX5_init_117 : decode cX5_init 117 = .ok (.bipush 60, 2) := by decide +kernel
theorem dX5_init_119 : decode cX5_init 119 = .ok (.newarray .int, 2) := by decide +kernel
theorem dX5_init_121 : decode cX5_init 121 = .ok (.putfield 52, 3) := by decide +kernel
theorem dX5_init_124 : decode cX5_init 124 = .ok (.aload_n 0, 1) := by decide +kernel
theorem dX5_init_125 : decode cX5_init 125 = .ok (.bipush 60, 2) := by decide +kernel
theorem dX5_init_127 : decode cX5_init 127 = .ok (.newarray .int, 2) := by decide +kernel
theorem dX5_init_129 : decode cX5_init 129 = .ok (.putfield 55, 3) := by decide +kernel
theorem dX5_init_132 : decode cX5_init 132 = .ok (.aload_n 0, 1) := by decide +kernel
theorem dX5_init_133 : decode cX5_init 133 = .ok (.bipush 6, 2) := by decide +kernel
theorem dX5_init_135 : decode cX5_init 135 = .ok (.newarray .int, 2) := by decide +kernel
theorem dX5_init_137 : decode cX5_init 137 = .ok (.putfield 58, 3) := by decide +kernel
theorem dX5_init_140 : decode cX5_init 140 = .ok (.aload_n 0, 1) := by decide +kernel
theorem dX5_init_141 : decode cX5_init 141 = .ok (.bipush 6, 2) := by decide +kernel
theorem dX5_init_143 : decode cX5_init 143 = .ok (.newarray .int, 2) := by decide +kernel
theorem dX5_init_145 : decode cX5_init 145 = .ok (.putfield 61, 3) := by decide +kernel
theorem dX5_init_148 : decode cX5_init 148 = .ok (.aload_n 0, 1) := by decide +kernel
theorem dX5_init_149 : decode cX5_init 149 = .ok (.bipush 8, 2) := by decide +kernel
theorem dX5_init_151 : decode cX5_init 151 = .ok (.newarray .int, 2) := by decide +kernel
theorem dX5_init_153 : decode cX5_init 153 = .ok (.putfield 64, 3) := by decide +kernel
theorem dX5_init_156 : decode cX5_init 156 = .ok (.aload_n 0, 1) := by decide +kernel
theorem dX5_init_157 : decode cX5_init 157 = .ok (.bipush 8, 2) := by decide +kernel
theorem dX5_init_159 : decode cX5_init 159 = .ok (.newarray .int, 2) := by decide +kernel
theorem dX5_init_161 : decode cX5_init 161 = .ok (.putfield 67, 3) := by decide +kernel
theorem dX5_init_164 : decode cX5_init 164 = .ok (.aload_n 0, 1) := by decide +kernel
theorem dX5_init_165 : decode cX5_init 165 = .ok (.bipush 6, 2) := by decide +kernel
theorem dX5_init_167 : decode cX5_init 167 = .ok (.newarray .int, 2) := by decide +kernel
theorem dX5_init_169 : decode cX5_init 169 = .ok (.putfield 70, 3) := by decide +kernel
theorem dX5_init_172 : decode cX5_init 172 = .ok (.aload_n 0, 1) := by decide +kernel
theorem dX5_init_173 : decode cX5_init 173 = .ok (.bipush 6, 2) := by decide +kernel
theorem dX5_init_175 : decode cX5_init 175 = .ok (.newarray .int, 2) := by decide +kernel
theorem dX5_init_177 : decode cX5_init 177 = .ok (.putfield 73, 3) := by decide +kernel
theorem dX5_init_180 : decode cX5_init 180 = .ok (.aload_n 0, 1) := by decide +kernel
theorem dX5_init_181 : decode cX5_init 181 = .ok (.bipush 6, 2) := by decide +kernel
theorem dX5_init_183 : decode cX5_init 183 = .ok (.newarray .int, 2) := by decide +kernel
theorem dX5_init_185 : decode cX5_init 185 = .ok (.putfield 76, 3) := by decide +kernel
theorem dX5_init_188 : decode cX5_init 188 = .ok (.aload_n 0, 1) := by decide +kernel
theorem dX5_init_189 : decode cX5_init 189 = .ok (.bipush 6, 2) := by decide +kernel
theorem dX5_init_191 : decode cX5_init 191 = .ok (.newarray .int, 2) := by decide +kernel
theorem dX5_init_193 : decode cX5_init 193 = .ok (.putfield 79, 3) := by decide +kernel
theorem dX5_init_196 : decode cX5_init 196 = .ok (.aload_n 0, 1) := by decide +kernel
theorem dX5_init_197 : decode cX5_init 197 = .ok (.bipush 6, 2) := by decide +kernel
theorem dX5_init_199 : decode cX5_init 199 = .ok (.newarray .int, 2) := by decide +kernel
theorem dX5_init_201 : decode cX5_init 201 = .ok (.putfield 82, 3) := by decide +kernel
theorem dX5_init_204 : decode cX5_init 204 = .ok (.aload_n 0, 1) := by decide +kernel
theorem dX5_init_205 : decode cX5_init 205 = .ok (.bipush 6, 2) := by decide +kernel
theorem dX5_init_207 : decode cX5_init 207 = .ok (.newarray .int, 2) := by decide +kernel
theorem dX5_init_209 : decode cX5_init 209 = .ok (.putfield 85, 3) := by decide +kernel
theorem dX5_init_212 : decode cX5_init 212 = .ok (.aload_n 0, 1) := by decide +kernel
theorem dX5_init_213 : decode cX5_init 213 = .ok (.sipush 200, 3) := by decide +kernel
theorem dX5_init_216 : decode cX5_init 216 = .ok (.newarray .int, 2) := by decide +kernel
theorem dX5_init_218 : decode cX5_init 218 = .ok (.putfield 88, 3) := by decide +kernel
theorem dX5_init_221 : decode cX5_init 221 = .ok (.aload_n 0, 1) := by decide +kernel
theorem dX5_init_222 : decode cX5_init 222 = .ok (.iconst 2, 1) := by decide +kernel
theorem dX5_init_223 : decode cX5_init 223 = .ok (.newarray .boolean, 2) := by decide +kernel
theorem dX5_init_225 : decode cX5_init 225 = .ok (.putfield 91, 3) := by decide +kernel
theorem dX5_init_228 : decode cX5_init 228 = .ok (.aload_n 0, 1) := by decide +kernel
theorem dX5_init_229 : decode cX5_init 229 = .ok (.iconst 1, 1) := by decide +kernel
theorem dX5_init_230 : decode cX5_init 230 = .ok (.putfield 95, 3) := by decide +kernel
theorem dX5_init_233 : decode cX5_init 233 = .ok (.aload_n 0, 1) := by decide +kernel
theorem dX5_init_234 : decode cX5_init 234 = .ok (.iconst 4, 1) := by decide +kernel
theorem dX5_init_235 : decode cX5_init 235 = .ok (.invokevirtual 99, 3) := by decide +kernel
theorem dX5_init_238 : decode cX5_init 238 = .ok (.return_, 1) := by decide +kernel
theorem dX5_in_0 : decode cX5_in 0 = .ok (.lload_n 0, 1) := by decide +kernel
theorem dX5_in_1 : decode cX5_in 1 = .ok (.lload_n 2, 1) := by decide +kernel
theorem dX5_in_2 : decode cX5_in 2 = .ok (.lcmp, 1) := by decide +kernel
theorem dX5_in_3 : decode cX5_in 3 = .ok (.ifCond .lt 14, 3) := by decide +kernel
theorem dX5_in_6 : decode cX5_in 6 = .ok (.lload_n 0, 1) := by decide +kernel
theorem dX5_in_7 : decode cX5_in 7 = .ok (.lload 4, 2) := by decide +kernel
theorem dX5_in_9 : decode cX5_in 9 = .ok (.lcmp, 1) := by decide +kernel
theorem dX5_in_10 : decode cX5_in 10 = .ok (.ifCond .gt 7, 3) := by decide +kernel
theorem dX5_in_13 : decode cX5_in 13 = .ok (.iconst 1, 1) := by decide +kernel
theorem dX5_in_14 : decode cX5_in 14 = .ok (.goto 4, 3) := by decide +kernel
theorem dX5_in_17 : decode cX5_in 17 = .ok (.iconst 0, 1) := by decide +kernel
theorem dX5_in_18 : decode cX5_in 18 = .ok (.ireturn, 1) := by decide +kernel
theorem dX5_ones_0 : decode cX5_ones 0 = .ok (.iconst 0, 1) := by decide +kernel
theorem dX5_ones_1 : decode cX5_ones 1 = .ok (.istore_n 1, 1) := by decide +kernel
theorem dX5_ones_2 : decode cX5_ones 2 = .ok (.iload_n 0, 1) := by decide +kernel
theorem dX5_ones_3 : decode cX5_ones 3 = .ok (.istore_n 2, 1) := by decide +kernel
theorem dX5_ones_4 : decode cX5_ones 4 = .ok (.iload_n 2, 1) := by decide +kernel
theorem dX5_ones_5 : decode cX5_ones 5 = .ok (.ifCond .eq 15, 3) := by decide +kernel
theorem dX5_ones_8 : decode cX5_ones 8 = .ok (.iinc 1 1, 3) := by decide +kernel
theorem dX5_ones_11 : decode cX5_ones 11 = .ok (.iload_n 2, 1) := by decide +kernel
theorem dX5_ones_12 : decode cX5_ones 12 = .ok (.iload_n 2, 1) := by decide +kernel
theorem dX5_ones_13 : decode cX5_ones 13 = .ok (.iconst 1, 1) := by decide +kernel
theorem dX5_ones_14 : decode cX5_ones 14 = .ok (.isub, 1) := by decide +kernel
theorem dX5_ones_15 : decode cX5_ones 15 = .ok (.iand, 1) := by decide +kernel
theorem dX5_ones_16 : decode cX5_ones 16 = .ok (.istore_n 2, 1) := by decide +kernel
theorem dX5_ones_17 : decode cX5_ones 17 = .ok (.goto (-13), 3) := by decide +kernel
theorem dX5_ones_20 : decode cX5_ones 20 = .ok (.iload_n 1, 1) := by decide +kernel
theorem dX5_ones_21 : decode cX5_ones 21 = .ok (.ireturn, 1) := by decide +kernel
theorem dX5_begin_0 : decode cX5_begin 0 = .ok (.aload_n 0, 1) := by decide +kernel
theorem dX5_begin_1 : decode cX5_begin 1 = .ok (.iload_n 1, 1) := by decide +kernel
theorem dX5_begin_2 : decode cX5_begin 2 = .ok (.putfield 103, 3) := by decide +kernel
theorem dX5_begin_5 : decode cX5_begin 5 = .ok (.aload_n 0, 1) := by decide +kernel
theorem dX5_begin_6 : decode cX5_begin 6 = .ok (.iconst 0, 1) := by decide +kernel
theorem dX5_begin_7 : decode cX5_begin 7 = .ok (.putfield 106, 3) := by decide +kernel
theorem dX5_begin_10 : decode cX5_begin 10 = .ok (.aload_n 0, 1) := by decide +kernel
theorem dX5_begin_11 : decode cX5_begin 11 = .ok (.iconst 0, 1) := by decide +kernel
theorem dX5_begin_12 : decode cX5_begin 12 = .ok (.putfield 109, 3) := by decide +kernel
theorem dX5_begin_15 : decode cX5_begin 15 = .ok (.aload_n 0, 1) := by decide +kernel
theorem dX5_begin_16 : decode cX5_begin 16 = .ok (.iconst 0, 1) := by decide +kernel
theorem dX5_begin_17 : decode cX5_begin 17 = .ok (.putfield 112, 3) := by decide +kernel
theorem dX5_begin_20 : decode cX5_begin 20 = .ok (.aload_n 0, 1) := by decide +kernel
theorem dX5_begin_21 : decode cX5_begin 21 = .ok (.iconst 0, 1) := by decide +kernel
theorem dX5_begin_22 : decode cX5_begin 22 = .ok (.putfield 115, 3) := by decide +kernel
theorem dX5_begin_25 : decode cX5_begin 25 = .ok (.iconst 0, 1) := by decide +kernel
theorem dX5_begin_26 : decode cX5_begin 26 = .ok (.istore_n 2, 1) := by decide +kernel
theorem dX5_begin_27 : decode cX5_begin 27 = .ok (.iload_n 2, 1) := by decide +kernel
theorem dX5_begin_28 : decode cX5_begin 28 = .ok (.bipush 8, 2) := by decide +kernel
theorem dX5_begin_30 : decode cX5_begin 30 = .ok (.if_icmp .ge 23, 3) := by decide +kernel
theorem dX5_begin_33 : decode cX5_begin 33 = .ok (.aload_n 0, 1) := by decide +kernel
theorem dX5_begin_34 : decode cX5_begin 34 = .ok (.getfield 31, 3) := by decide +kernel
theorem dX5_begin_37 : decode cX5_begin 37 = .ok (.iload_n 2, 1) := by decide +kernel
theorem dX5_begin_38 : decode cX5_begin 38 = .ok (.iconst 0, 1) := by decide +kernel
theorem dX5_begin_39 : decode cX5_begin 39 = .ok (.iastore, 1) := by decide +kernel
theorem dX5_begin_40 : decode cX5_begin 40 = .ok (.aload_n 0, 1) := by decide +kernel
theorem dX5_begin_41 : decode cX5_begin 41 = .ok (.getfield 34, 3) := by decide +kernel
theorem dX5_begin_44 : decode cX5_begin 44 = .ok (.iload_n 2, 1) := by decide +kernel
theorem dX5_begin_45 : decode cX5_begin 45 = .ok (.iconst 3, 1) := by decide +kernel
theorem dX5_begin_46 : decode cX5_begin 46 = .ok (.iastore, 1) := by decide +kernel
theorem dX5_begin_47 : decode cX5_begin 47 = .ok (.iinc 2 1, 3) := by decide +kernel
theorem dX5_begin_50 : decode cX5_begin 50 = .ok (.goto (-23), 3) := by decide +kernel
theorem dX5_begin_53 : decode cX5_begin 53 = .ok (.return_, 1) := by decide +kernel
theorem dX5_isTerrace_0 : decode cX5_isTerrace 0 = .ok (.iload_n 1, 1) := by decide +kernel
theorem dX5_isTerrace_1 : decode cX5_isTerrace 1 = .ok (.i2l, 1) := by decide +kernel
theorem dX5_isTerrace_2 : decode cX5_isTerrace 2 = .ok (.lconst 0, 1) := by decide +kernel
theorem dX5_isTerrace_3 : decode cX5_isTerrace 3 = .ok (.aload_n 0, 1) := by decide +kernel
theorem dX5_isTerrace_4 : decode cX5_isTerrace 4 = .ok (.getfield 103, 3) := by decide +kernel
theorem dX5_isTerrace_7 : decode cX5_isTerrace 7 = .ok (.iconst 1, 1) := by decide +kernel
theorem dX5_isTerrace_8 : decode cX5_isTerrace 8 = .ok (.isub, 1) := by decide +kernel
theorem dX5_isTerrace_9 : decode cX5_isTerrace 9 = .ok (.i2l, 1) := by decide +kernel
theorem dX5_isTerrace_10 : decode cX5_isTerrace 10 = .ok (.invokestatic 118, 3) := by decide +kernel
theorem dX5_isTerrace_13 : decode cX5_isTerrace 13 = .ok (.ireturn, 1) := by decide +kernel
theorem dX5_isBridge_0 : decode cX5_isBridge 0 = .ok (.iload_n 1, 1) := by decide +kernel
theorem dX5_isBridge_1 : decode cX5_isBridge 1 = .ok (.i2l, 1) := by decide +kernel
theorem dX5_isBridge_2 : decode cX5_isBridge 2 = .ok (.lconst 0, 1) := by decide +kernel
theorem dX5_isBridge_3 : decode cX5_isBridge 3 = .ok (.ldc2_w 122, 3) := by decide +kernel
theorem dX5_isBridge_6 : decode cX5_isBridge 6 = .ok (.invokestatic 118, 3) := by decide +kernel
theorem dX5_isBridge_9 : decode cX5_isBridge 9 = .ok (.ifCond .eq 19, 3) := by decide +kernel
theorem dX5_isBridge_12 : decode cX5_isBridge 12 = .ok (.aload_n 0, 1) := by decide +kernel
theorem dX5_isBridge_13 : decode cX5_isBridge 13 = .ok (.getfield 106, 3) := by decide +kernel
theorem dX5_isBridge_16 : decode cX5_isBridge 16 = .ok (.iload_n 1, 1) := by decide +kernel
theorem dX5_isBridge_17 : decode cX5_isBridge 17 = .ok (.ishr, 1) := by decide +kernel
theorem dX5_isBridge_18 : decode cX5_isBridge 18 = .ok (.iconst 1, 1) := by decide +kernel
theorem dX5_isBridge_19 : decode cX5_isBridge 19 = .ok (.iand, 1) := by decide +kernel
theorem dX5_isBridge_20 : decode cX5_isBridge 20 = .ok (.iconst 1, 1) := by decide +kernel
theorem dX5_isBridge_21 : decode cX5_isBridge 21 = .ok (.if_icmp .ne 7, 3) := by decide +kernel
theorem dX5_isBridge_24 : decode cX5_isBridge 24 = .ok (.iconst 1, 1) := by decide +kernel
theorem dX5_isBridge_25 : decode cX5_isBridge 25 = .ok (.goto 4, 3) := by decide +kernel
theorem dX5_isBridge_28 : decode cX5_isBridge 28 = .ok (.iconst 0, 1) := by decide +kernel
theorem dX5_isBridge_29 : decode cX5_isBridge 29 = .ok (.ireturn, 1) := by decide +kernel
theorem dX5_isThere_0 : decode cX5_isThere 0 = .ok (.iload_n 1, 1) := by decide +kernel
theorem dX5_isThere_1 : decode cX5_isThere 1 = .ok (.i2l, 1) := by decide +kernel
theorem dX5_isThere_2 : decode cX5_isThere 2 = .ok (.lconst 0, 1) := by decide +kernel
theorem dX5_isThere_3 : decode cX5_isThere 3 = .ok (.ldc2_w 124, 3) := by decide +kernel
theorem dX5_isThere_6 : decode cX5_isThere 6 = .ok (.invokestatic 118, 3) := by decide +kernel
theorem dX5_isThere_9 : decode cX5_isThere 9 = .ok (.ifCond .eq 19, 3) := by decide +kernel
theorem dX5_isThere_12 : decode cX5_isThere 12 = .ok (.aload_n 0, 1) := by decide +kernel
theorem dX5_isThere_13 : decode cX5_isThere 13 = .ok (.getfield 109, 3) := by decide +kernel
theorem dX5_isThere_16 : decode cX5_isThere 16 = .ok (.iload_n 1, 1) := by decide +kernel
theorem dX5_isThere_17 : decode cX5_isThere 17 = .ok (.ishr, 1) := by decide +kernel
theorem dX5_isThere_18 : decode cX5_isThere 18 = .ok (.iconst 1, 1) := by decide +kernel
theorem dX5_isThere_19 : decode cX5_isThere 19 = .ok (.iand, 1) := by decide +kernel
theorem dX5_isThere_20 : decode cX5_isThere 20 = .ok (.iconst 1, 1) := by decide +kernel
theorem dX5_isThere_21 : decode cX5_isThere 21 = .ok (.if_icmp .ne 7, 3) := by decide +kernel
theorem dX5_isThere_24 : decode cX5_isThere 24 = .ok (.iconst 1, 1) := by decide +kernel
theorem dX5_isThere_25 : decode cX5_isThere 25 = .ok (.goto 4, 3) := by decide +kernel
theorem dX5_isThere_28 : decode cX5_isThere 28 = .ok (.iconst 0, 1) := by decide +kernel
theorem dX5_isThere_29 : decode cX5_isThere 29 = .ok (.ireturn, 1) := by decide +kernel
theorem dX5_isNews_0 : decode cX5_isNews 0 = .ok (.iload_n 0, 1) := by decide +kernel
theorem dX5_isNews_1 : decode cX5_isNews 1 = .ok (.i2l, 1) := by decide +kernel
theorem dX5_isNews_2 : decode cX5_isNews 2 = .ok (.lconst 0, 1) := by decide +kernel
theorem dX5_isNews_3 : decode cX5_isNews 3 = .ok (.ldc2_w 122, 3) := by decide +kernel
theorem dX5_isNews_6 : decode cX5_isNews 6 = .ok (.invokestatic 118, 3) := by decide +kernel
theorem dX5_isNews_9 : decode cX5_isNews 9 = .ok (.ireturn, 1) := by decide +kernel
theorem dX5_terraces_0 : decode cX5_terraces 0 = .ok (.iload_n 1, 1) := by decide +kernel
theorem dX5_terraces_1 : decode cX5_terraces 1 = .ok (.i2l, 1) := by decide +kernel
theorem dX5_terraces_2 : decode cX5_terraces 2 = .ok (.ldc2_w 126, 3) := by decide +kernel
theorem dX5_terraces_5 : decode cX5_terraces 5 = .ok (.ldc2_w 128, 3) := by decide +kernel
theorem dX5_terraces_8 : decode cX5_terraces 8 = .ok (.invokestatic 118, 3) := by decide +kernel
theorem dX5_terraces_11 : decode cX5_terraces 11 = .ok (.ifCond .ne 6, 3) := by decide +kernel
theorem dX5_terraces_14 : decode cX5_terraces 14 = .ok (.bipush (-2), 2) := by decide +kernel
theorem dX5_terraces_16 : decode cX5_terraces 16 = .ok (.ireturn, 1) := by decide +kernel
theorem dX5_terraces_17 : decode cX5_terraces 17 = .ok (.aload_n 0, 1) := by decide +kernel
theorem dX5_terraces_18 : decode cX5_terraces 18 = .ok (.getfield 103, 3) := by decide +kernel
theorem dX5_terraces_21 : decode cX5_terraces 21 = .ok (.istore_n 2, 1) := by decide +kernel
theorem dX5_terraces_22 : decode cX5_terraces 22 = .ok (.aload_n 0, 1) := by decide +kernel
theorem dX5_terraces_23 : decode cX5_terraces 23 = .ok (.iload_n 1, 1) := by decide +kernel
theorem dX5_terraces_24 : decode cX5_terraces 24 = .ok (.invokevirtual 99, 3) := by decide +kernel
theorem dX5_terraces_27 : decode cX5_terraces 27 = .ok (.iload_n 2, 1) := by decide +kernel
theorem dX5_terraces_28 : decode cX5_terraces 28 = .ok (.ireturn, 1) := by decide +kernel
theorem dX5_bridge_0 : decode cX5_bridge 0 = .ok (.iload_n 1, 1) := by decide +kernel
theorem dX5_bridge_1 : decode cX5_bridge 1 = .ok (.i2l, 1) := by decide +kernel
theorem dX5_bridge_2 : decode cX5_bridge 2 = .ok (.lconst 0, 1) := by decide +kernel
theorem dX5_bridge_3 : decode cX5_bridge 3 = .ok (.ldc2_w 122, 3) := by decide +kernel
theorem dX5_bridge_6 : decode cX5_bridge 6 = .ok (.invokestatic 118, 3) := by decide +kernel
theorem dX5_bridge_9 : decode cX5_bridge 9 = .ok (.ifCond .eq 24, 3) := by decide +kernel
theorem dX5_bridge_12 : decode cX5_bridge 12 = .ok (.aload_n 0, 1) := by decide +kernel
theorem dX5_bridge_13 : decode cX5_bridge 13 = .ok (.iload_n 2, 1) := by decide +kernel
theorem dX5_bridge_14 : decode cX5_bridge 14 = .ok (.invokevirtual 130, 3) := by decide +kernel
theorem dX5_bridge_17 : decode cX5_bridge 17 = .ok (.ifCond .eq 16, 3) := by decide +kernel
theorem dX5_bridge_20 : decode cX5_bridge 20 = .ok (.aload_n 0, 1) := by decide +kernel
theorem dX5_bridge_21 : decode cX5_bridge 21 = .ok (.iload_n 3, 1) := by decide +kernel
theorem dX5_bridge_22 : decode cX5_bridge 22 = .ok (.invokevirtual 130, 3) := by decide +kernel
theorem dX5_bridge_25 : decode cX5_bridge 25 = .ok (.ifCond .eq 8, 3) := by decide +kernel
theorem dX5_bridge_28 : decode cX5_bridge 28 = .ok (.iload_n 2, 1) := by decide +kernel
theorem dX5_bridge_29 : decode cX5_bridge 29 = .ok (.iload_n 3, 1) := by decide +kernel
theorem dX5_bridge_30 : decode cX5_bridge 30 = .ok (.if_icmp .ne 5, 3) := by decide +kernel
theorem dX5_bridge_33 : decode cX5_bridge 33 = .ok (.iconst (-1), 1) := by decide +kernel
theorem dX5_bridge_34 : decode cX5_bridge 34 = .ok (.ireturn, 1) := by decide +kernel
theorem dX5_bridge_35 : decode cX5_bridge 35 = .ok (.iload 4, 2) := by decide +kernel
theorem dX5_bridge_37 : decode cX5_bridge 37 = .ok (.i2l, 1) := by decide +kernel
theorem dX5_bridge_38 : decode cX5_bridge 38 = .ok (.lconst 0, 1) := by decide +kernel
theorem dX5_bridge_39 : decode cX5_bridge 39 = .ok (.ldc2_w 134, 3) := by decide +kernel
theorem dX5_bridge_42 : decode cX5_bridge 42 = .ok (.invokestatic 118, 3) := by decide +kernel
theorem dX5_bridge_45 : decode cX5_bridge 45 = .ok (.ifCond .ne 6, 3) := by decide +kernel
theorem dX5_bridge_48 : decode cX5_bridge 48 = .ok (.bipush (-2), 2) := by decide +kernel
theorem dX5_bridge_50 : decode cX5_bridge 50 = .ok (.ireturn, 1) := by decide +kernel
theorem dX5_bridge_51 : decode cX5_bridge 51 = .ok (.aload_n 0, 1) := by decide +kernel
theorem dX5_bridge_52 : decode cX5_bridge 52 = .ok (.getfield 7, 3) := by decide +kernel
theorem dX5_bridge_55 : decode cX5_bridge 55 = .ok (.iload_n 1, 1) := by decide +kernel
theorem dX5_bridge_56 : decode cX5_bridge 56 = .ok (.iload_n 2, 1) := by decide +kernel
theorem dX5_bridge_57 : decode cX5_bridge 57 = .ok (.iload_n 3, 1) := by decide +kernel
theorem dX5_bridge_58 : decode cX5_bridge 58 = .ok (.if_icmp .ge 7, 3) := by decide +kernel
theorem dX5_bridge_61 : decode cX5_bridge 61 = .ok (.iload_n 2, 1) := by decide +kernel
theorem dX5_bridge_62 : decode cX5_bridge 62 = .ok (.goto 4, 3) := by decide +kernel
theorem dX5_bridge_65 : decode cX5_bridge 65 = .ok (.iload_n 3, 1) := by decide +kernel
theorem dX5_bridge_66 : decode cX5_bridge 66 = .ok (.iastore, 1) := by decide +kernel
theorem dX5_bridge_67 : decode cX5_bridge 67 = .ok (.aload_n 0, 1) := by decide +kernel
theorem dX5_bridge_68 : decode cX5_bridge 68 = .ok (.getfield 13, 3) := by decide +kernel
theorem dX5_bridge_71 : decode cX5_bridge 71 = .ok (.iload_n 1, 1) := by decide +kernel
theorem dX5_bridge_72 : decode cX5_bridge 72 = .ok (.iload_n 2, 1) := by decide +kernel
theorem dX5_bridge_73 : decode cX5_bridge 73 = .ok (.iload_n 3, 1) := by decide +kernel
theorem dX5_bridge_74 : decode cX5_bridge 74 = .ok (.if_icmp .ge 7, 3) := by decide +kernel
theorem dX5_bridge_77 : decode cX5_bridge 77 = .ok (.iload_n 3, 1) := by decide +kernel
theorem dX5_bridge_78 : decode cX5_bridge 78 = .ok (.goto 4, 3) := by decide +kernel
theorem dX5_bridge_81 : decode cX5_bridge 81 = .ok (.iload_n 2, 1) := by decide +kernel
theorem dX5_bridge_82 : decode cX5_bridge 82 = .ok (.iastore, 1) := by decide +kernel
theorem dX5_bridge_83 : decode cX5_bridge 83 = .ok (.aload_n 0, 1) := by decide +kernel
theorem dX5_bridge_84 : decode cX5_bridge 84 = .ok (.getfield 16, 3) := by decide +kernel
theorem dX5_bridge_87 : decode cX5_bridge 87 = .ok (.iload_n 1, 1) := by decide +kernel
theorem dX5_bridge_88 : decode cX5_bridge 88 = .ok (.iload 4, 2) := by decide +kernel
theorem dX5_bridge_90 : decode cX5_bridge 90 = .ok (.iastore, 1) := by decide +kernel
theorem dX5_bridge_91 : decode cX5_bridge 91 = .ok (.aload_n 0, 1) := by decide +kernel
theorem dX5_bridge_92 : decode cX5_bridge 92 = .ok (.getfield 19, 3) := by decide +kernel
theorem dX5_bridge_95 : decode cX5_bridge 95 = .ok (.iload_n 1, 1) := by decide +kernel
theorem dX5_bridge_96 : decode cX5_bridge 96 = .ok (.iconst 0, 1) := by decide +kernel
theorem dX5_bridge_97 : decode cX5_bridge 97 = .ok (.iastore, 1) := by decide +kernel
theorem dX5_bridge_98 : decode cX5_bridge 98 = .ok (.aload_n 0, 1) := by decide +kernel
theorem dX5_bridge_99 : decode cX5_bridge 99 = .ok (.dup, 1) := by decide +kernel
theorem dX5_bridge_100 : decode cX5_bridge 100 = .ok (.getfield 106, 3) := by decide +kernel
theorem dX5_bridge_103 : decode cX5_bridge 103 = .ok (.iconst 1, 1) := by decide +kernel
theorem dX5_bridge_104 : decode cX5_bridge 104 = .ok (.iload_n 1, 1) := by decide +kernel
theorem dX5_bridge_105 : decode cX5_bridge 105 = .ok (.ishl, 1) := by decide +kernel
theorem dX5_bridge_106 : decode cX5_bridge 106 = .ok (.ior, 1) := by decide +kernel
theorem dX5_bridge_107 : decode cX5_bridge 107 = .ok (.putfield 106, 3) := by decide +kernel
theorem dX5_bridge_110 : decode cX5_bridge 110 = .ok (.aload_n 0, 1) := by decide +kernel
theorem dX5_bridge_111 : decode cX5_bridge 111 = .ok (.getfield 106, 3) := by decide +kernel
theorem dX5_bridge_114 : decode cX5_bridge 114 = .ok (.invokestatic 136, 3) := by decide +kernel
theorem dX5_bridge_117 : decode cX5_bridge 117 = .ok (.ireturn, 1) := by decide +kernel
theorem dX5_fall_0 : decode cX5_fall 0 = .ok (.aload_n 0, 1) := by decide +kernel
theorem dX5_fall_1 : decode cX5_fall 1 = .ok (.iload_n 1, 1) := by decide +kernel
theorem dX5_fall_2 : decode cX5_fall 2 = .ok (.invokevirtual 140, 3) := by decide +kernel
theorem dX5_fall_5 : decode cX5_fall 5 = .ok (.ifCond .ne 5, 3) := by decide +kernel
theorem dX5_fall_8 : decode cX5_fall 8 = .ok (.iconst (-1), 1) := by decide +kernel
theorem dX5_fall_9 : decode cX5_fall 9 = .ok (.ireturn, 1) := by decide +kernel
theorem dX5_fall_10 : decode cX5_fall 10 = .ok (.aload_n 0, 1) := by decide +kernel
theorem dX5_fall_11 : decode cX5_fall 11 = .ok (.dup, 1) := by decide +kernel
theorem dX5_fall_12 : decode cX5_fall 12 = .ok (.getfield 106, 3) := by decide +kernel
theorem dX5_fall_15 : decode cX5_fall 15 = .ok (.iconst 1, 1) := by decide +kernel
theorem dX5_fall_16 : decode cX5_fall 16 = .ok (.iload_n 1, 1) := by decide +kernel
theorem dX5_fall_17 : decode cX5_fall 17 = .ok (.ishl, 1) := by decide +kernel
theorem dX5_fall_18 : decode cX5_fall 18 = .ok (.iconst (-1), 1) := by decide +kernel
theorem dX5_fall_19 : decode cX5_fall 19 = .ok (.ixor, 1) := by decide +kernel
theorem dX5_fall_20 : decode cX5_fall 20 = .ok (.iand, 1) := by decide +kernel
theorem dX5_fall_21 : decode cX5_fall 21 = .ok (.putfield 106, 3) := by decide +kernel
theorem dX5_fall_24 : decode cX5_fall 24 = .ok (.aload_n 0, 1) := by decide +kernel
theorem dX5_fall_25 : decode cX5_fall 25 = .ok (.getfield 106, 3) := by decide +kernel
theorem dX5_fall_28 : decode cX5_fall 28 = .ok (.invokestatic 136, 3) := by decide +kernel
theorem dX5_fall_31 : decode cX5_fall 31 = .ok (.ireturn, 1) := by decide +kernel
theorem dX5_person_0 : decode cX5_person 0 = .ok (.iload_n 1, 1) := by decide +kernel
theorem dX5_person_1 : decode cX5_person 1 = .ok (.i2l, 1) := by decide +kernel
theorem dX5_person_2 : decode cX5_person 2 = .ok (.lconst 0, 1) := by decide +kernel
theorem dX5_person_3 : decode cX5_person 3 = .ok (.ldc2_w 124, 3) := by decide +kernel
theorem dX5_person_6 : decode cX5_person 6 = .ok (.invokestatic 118, 3) := by decide +kernel
theorem dX5_person_9 : decode cX5_person 9 = .ok (.ifCond .eq 11, 3) := by decide +kernel
theorem dX5_person_12 : decode cX5_person 12 = .ok (.aload_n 0, 1) := by decide +kernel
theorem dX5_person_13 : decode cX5_person 13 = .ok (.iload_n 2, 1) := by decide +kernel
theorem dX5_person_14 : decode cX5_person 14 = .ok (.invokevirtual 130, 3) := by decide +kernel
theorem dX5_person_17 : decode cX5_person 17 = .ok (.ifCond .ne 5, 3) := by decide +kernel
theorem dX5_person_20 : decode cX5_person 20 = .ok (.iconst (-1), 1) := by decide +kernel
theorem dX5_person_21 : decode cX5_person 21 = .ok (.ireturn, 1) := by decide +kernel
theorem dX5_person_22 : decode cX5_person 22 = .ok (.iload_n 3, 1) := by decide +kernel
theorem dX5_person_23 : decode cX5_person 23 = .ok (.i2l, 1) := by decide +kernel
theorem dX5_person_24 : decode cX5_person 24 = .ok (.lconst 0, 1) := by decide +kernel
theorem dX5_person_25 : decode cX5_person 25 = .ok (.ldc2_w 126, 3) := by decide +kernel
theorem dX5_person_28 : decode cX5_person 28 = .ok (.invokestatic 118, 3) := by decide +kernel
theorem dX5_person_31 : decode cX5_person 31 = .ok (.ifCond .ne 6, 3) := by decide +kernel
theorem dX5_person_34 : decode cX5_person 34 = .ok (.bipush (-2), 2) := by decide +kernel
theorem dX5_person_36 : decode cX5_person 36 = .ok (.ireturn, 1) := by decide +kernel
theorem dX5_person_37 : decode cX5_person 37 = .ok (.aload_n 0, 1) := by decide +kernel
theorem dX5_person_38 : decode cX5_person 38 = .ok (.getfield 22, 3) := by decide +kernel
theorem dX5_person_41 : decode cX5_person 41 = .ok (.iload_n 1, 1) := by decide +kernel
theorem dX5_person_42 : decode cX5_person 42 = .ok (.iload_n 2, 1) := by decide +kernel
theorem dX5_person_43 : decode cX5_person 43 = .ok (.iastore, 1) := by decide +kernel
theorem dX5_person_44 : decode cX5_person 44 = .ok (.aload_n 0, 1) := by decide +kernel
theorem dX5_person_45 : decode cX5_person 45 = .ok (.getfield 25, 3) := by decide +kernel
theorem dX5_person_48 : decode cX5_person 48 = .ok (.iload_n 1, 1) := by decide +kernel
theorem dX5_person_49 : decode cX5_person 49 = .ok (.iload_n 3, 1) := by decide +kernel
theorem dX5_person_50 : decode cX5_person 50 = .ok (.iastore, 1) := by decide +kernel
theorem dX5_person_51 : decode cX5_person 51 = .ok (.aload_n 0, 1) := by decide +kernel
theorem dX5_person_52 : decode cX5_person 52 = .ok (.getfield 28, 3) := by decide +kernel
theorem dX5_person_55 : decode cX5_person 55 = .ok (.iload_n 1, 1) := by decide +kernel
theorem dX5_person_56 : decode cX5_person 56 = .ok (.iconst 0, 1) := by decide +kernel
theorem dX5_person_57 : decode cX5_person 57 = .ok (.iastore, 1) := by decide +kernel
theorem dX5_person_58 : decode cX5_person 58 = .ok (.aload_n 0, 1) := by decide +kernel
theorem dX5_person_59 : decode cX5_person 59 = .ok (.dup, 1) := by decide +kernel
theorem dX5_person_60 : decode cX5_person 60 = .ok (.getfield 109, 3) := by decide +kernel
theorem dX5_person_63 : decode cX5_person 63 = .ok (.iconst 1, 1) := by decide +kernel
theorem dX5_person_64 : decode cX5_person 64 = .ok (.iload_n 1, 1) := by decide +kernel
theorem dX5_person_65 : decode cX5_person 65 = .ok (.ishl, 1) := by decide +kernel
theorem dX5_person_66 : decode cX5_person 66 = .ok (.ior, 1) := by decide +kernel
theorem dX5_person_67 : decode cX5_person 67 = .ok (.putfield 109, 3) := by decide +kernel
theorem dX5_person_70 : decode cX5_person 70 = .ok (.aload_n 0, 1) := by decide +kernel
theorem dX5_person_71 : decode cX5_person 71 = .ok (.getfield 109, 3) := by decide +kernel
theorem dX5_person_74 : decode cX5_person 74 = .ok (.invokestatic 136, 3) := by decide +kernel
theorem dX5_person_77 : decode cX5_person 77 = .ok (.ireturn, 1) := by decide +kernel
theorem dX5_leave_0 : decode cX5_leave 0 = .ok (.aload_n 0, 1) := by decide +kernel
theorem dX5_leave_1 : decode cX5_leave 1 = .ok (.iload_n 1, 1) := by decide +kernel
theorem dX5_leave_2 : decode cX5_leave 2 = .ok (.invokevirtual 143, 3) := by decide +kernel
theorem dX5_leave_5 : decode cX5_leave 5 = .ok (.ifCond .ne 5, 3) := by decide +kernel
theorem dX5_leave_8 : decode cX5_leave 8 = .ok (.iconst (-1), 1) := by decide +kernel
theorem dX5_leave_9 : decode cX5_leave 9 = .ok (.ireturn, 1) := by decide +kernel
theorem dX5_leave_10 : decode cX5_leave 10 = .ok (.aload_n 0, 1) := by decide +kernel
theorem dX5_leave_11 : decode cX5_leave 11 = .ok (.dup, 1) := by decide +kernel
theorem dX5_leave_12 : decode cX5_leave 12 = .ok (.getfield 109, 3) := by decide +kernel
theorem dX5_leave_15 : decode cX5_leave 15 = .ok (.iconst 1, 1) := by decide +kernel
theorem dX5_leave_16 : decode cX5_leave 16 = .ok (.iload_n 1, 1) := by decide +kernel
theorem dX5_leave_17 : decode cX5_leave 17 = .ok (.ishl, 1) := by decide +kernel
theorem dX5_leave_18 : decode cX5_leave 18 = .ok (.iconst (-1), 1) := by decide +kernel
theorem dX5_leave_19 : decode cX5_leave 19 = .ok (.ixor, 1) := by decide +kernel
theorem dX5_leave_20 : decode cX5_leave 20 = .ok (.iand, 1) := by decide +kernel
theorem dX5_leave_21 : decode cX5_leave 21 = .ok (.putfield 109, 3) := by decide +kernel
theorem dX5_leave_24 : decode cX5_leave 24 = .ok (.aload_n 0, 1) := by decide +kernel
theorem dX5_leave_25 : decode cX5_leave 25 = .ok (.getfield 109, 3) := by decide +kernel
theorem dX5_leave_28 : decode cX5_leave 28 = .ok (.invokestatic 136, 3) := by decide +kernel
theorem dX5_leave_31 : decode cX5_leave 31 = .ok (.ireturn, 1) := by decide +kernel
theorem dX5_news_0 : decode cX5_news 0 = .ok (.iload_n 1, 1) := by decide +kernel
theorem dX5_news_1 : decode cX5_news 1 = .ok (.invokestatic 146, 3) := by decide +kernel
theorem dX5_news_4 : decode cX5_news 4 = .ok (.ifCond .ne 5, 3) := by decide +kernel
theorem dX5_news_7 : decode cX5_news 7 = .ok (.iconst (-1), 1) := by decide +kernel
theorem dX5_news_8 : decode cX5_news 8 = .ok (.ireturn, 1) := by decide +kernel
theorem dX5_news_9 : decode cX5_news 9 = .ok (.iload_n 2, 1) := by decide +kernel
theorem dX5_news_10 : decode cX5_news 10 = .ok (.i2l, 1) := by decide +kernel
theorem dX5_news_11 : decode cX5_news 11 = .ok (.ldc2_w 149, 3) := by decide +kernel
theorem dX5_news_14 : decode cX5_news 14 = .ok (.ldc2_w 134, 3) := by decide +kernel
theorem dX5_news_17 : decode cX5_news 17 = .ok (.invokestatic 118, 3) := by decide +kernel
theorem dX5_news_20 : decode cX5_news 20 = .ok (.ifCond .eq 15, 3) := by decide +kernel
theorem dX5_news_23 : decode cX5_news 23 = .ok (.iload_n 3, 1) := by decide +kernel
theorem dX5_news_24 : decode cX5_news 24 = .ok (.i2l, 1) := by decide +kernel
theorem dX5_news_25 : decode cX5_news 25 = .ok (.lconst 0, 1) := by decide +kernel
theorem dX5_news_26 : decode cX5_news 26 = .ok (.ldc2_w 151, 3) := by decide +kernel
theorem dX5_news_29 : decode cX5_news 29 = .ok (.invokestatic 118, 3) := by decide +kernel
theorem dX5_news_32 : decode cX5_news 32 = .ok (.ifCond .ne 6, 3) := by decide +kernel
theorem dX5_news_35 : decode cX5_news 35 = .ok (.bipush (-2), 2) := by decide +kernel
theorem dX5_news_37 : decode cX5_news 37 = .ok (.ireturn, 1) := by decide +kernel
theorem dX5_news_38 : decode cX5_news 38 = .ok (.aload_n 0, 1) := by decide +kernel
theorem dX5_news_39 : decode cX5_news 39 = .ok (.getfield 31, 3) := by decide +kernel
theorem dX5_news_42 : decode cX5_news 42 = .ok (.iload_n 1, 1) := by decide +kernel
theorem dX5_news_43 : decode cX5_news 43 = .ok (.iaload, 1) := by decide +kernel
theorem dX5_news_44 : decode cX5_news 44 = .ok (.istore 4, 2) := by decide +kernel
theorem dX5_news_46 : decode cX5_news 46 = .ok (.aload_n 0, 1) := by decide +kernel
theorem dX5_news_47 : decode cX5_news 47 = .ok (.getfield 31, 3) := by decide +kernel
theorem dX5_news_50 : decode cX5_news 50 = .ok (.iload_n 1, 1) := by decide +kernel
theorem dX5_news_51 : decode cX5_news 51 = .ok (.iload_n 2, 1) := by decide +kernel
theorem dX5_news_52 : decode cX5_news 52 = .ok (.iastore, 1) := by decide +kernel
theorem dX5_news_53 : decode cX5_news 53 = .ok (.aload_n 0, 1) := by decide +kernel
theorem dX5_news_54 : decode cX5_news 54 = .ok (.getfield 34, 3) := by decide +kernel
theorem dX5_news_57 : decode cX5_news 57 = .ok (.iload_n 1, 1) := by decide +kernel
theorem dX5_news_58 : decode cX5_news 58 = .ok (.iload_n 3, 1) := by decide +kernel
theorem dX5_news_59 : decode cX5_news 59 = .ok (.iastore, 1) := by decide +kernel
theorem dX5_news_60 : decode cX5_news 60 = .ok (.aload_n 0, 1) := by decide +kernel
theorem dX5_news_61 : decode cX5_news 61 = .ok (.dup, 1) := by decide +kernel
theorem dX5_news_62 : decode cX5_news 62 = .ok (.getfield 112, 3) := by decide +kernel
theorem dX5_news_65 : decode cX5_news 65 = .ok (.iconst 1, 1) := by decide +kernel
theorem dX5_news_66 : decode cX5_news 66 = .ok (.iload_n 1, 1) := by decide +kernel
theorem dX5_news_67 : decode cX5_news 67 = .ok (.ishl, 1) := by decide +kernel
theorem dX5_news_68 : decode cX5_news 68 = .ok (.iconst (-1), 1) := by decide +kernel
theorem dX5_news_69 : decode cX5_news 69 = .ok (.ixor, 1) := by decide +kernel
theorem dX5_news_70 : decode cX5_news 70 = .ok (.iand, 1) := by decide +kernel
theorem dX5_news_71 : decode cX5_news 71 = .ok (.putfield 112, 3) := by decide +kernel
theorem dX5_news_74 : decode cX5_news 74 = .ok (.iload 4, 2) := by decide +kernel
theorem dX5_news_76 : decode cX5_news 76 = .ok (.sipush 1000, 3) := by decide +kernel
theorem dX5_news_79 : decode cX5_news 79 = .ok (.iadd, 1) := by decide +kernel
theorem dX5_news_80 : decode cX5_news 80 = .ok (.ireturn, 1) := by decide +kernel
theorem dX5_learn_0 : decode cX5_learn 0 = .ok (.aload_n 0, 1) := by decide +kernel
theorem dX5_learn_1 : decode cX5_learn 1 = .ok (.iload_n 1, 1) := by decide +kernel
theorem dX5_learn_2 : decode cX5_learn 2 = .ok (.invokevirtual 143, 3) := by decide +kernel
theorem dX5_learn_5 : decode cX5_learn 5 = .ok (.ifCond .eq 10, 3) := by decide +kernel
theorem dX5_learn_8 : decode cX5_learn 8 = .ok (.iload_n 2, 1) := by decide +kernel
theorem dX5_learn_9 : decode cX5_learn 9 = .ok (.invokestatic 146, 3) := by decide +kernel
theorem dX5_learn_12 : decode cX5_learn 12 = .ok (.ifCond .ne 5, 3) := by decide +kernel
theorem dX5_learn_15 : decode cX5_learn 15 = .ok (.iconst (-1), 1) := by decide +kernel
theorem dX5_learn_16 : decode cX5_learn 16 = .ok (.ireturn, 1) := by decide +kernel
theorem dX5_learn_17 : decode cX5_learn 17 = .ok (.iconst 1, 1) := by decide +kernel
theorem dX5_learn_18 : decode cX5_learn 18 = .ok (.iload_n 2, 1) := by decide +kernel
theorem dX5_learn_19 : decode cX5_learn 19 = .ok (.ishl, 1) := by decide +kernel
theorem dX5_learn_20 : decode cX5_learn 20 = .ok (.istore 4, 2) := by decide +kernel
theorem dX5_learn_22 : decode cX5_learn 22 = .ok (.aload_n 0, 1) := by decide +kernel
theorem dX5_learn_23 : decode cX5_learn 23 = .ok (.getfield 28, 3) := by decide +kernel
theorem dX5_learn_26 : decode cX5_learn 26 = .ok (.iload_n 1, 1) := by decide +kernel
theorem dX5_learn_27 : decode cX5_learn 27 = .ok (.iload_n 3, 1) := by decide +kernel
theorem dX5_learn_28 : decode cX5_learn 28 = .ok (.ifCond .eq 15, 3) := by decide +kernel
theorem dX5_learn_31 : decode cX5_learn 31 = .ok (.aload_n 0, 1) := by decide +kernel
theorem dX5_learn_32 : decode cX5_learn 32 = .ok (.getfield 28, 3) := by decide +kernel
theorem dX5_learn_35 : decode cX5_learn 35 = .ok (.iload_n 1, 1) := by decide +kernel
theorem dX5_learn_36 : decode cX5_learn 36 = .ok (.iaload, 1) := by decide +kernel
theorem dX5_learn_37 : decode cX5_learn 37 = .ok (.iload 4, 2) := by decide +kernel
theorem dX5_learn_39 : decode cX5_learn 39 = .ok (.ior, 1) := by decide +kernel
theorem dX5_learn_40 : decode cX5_learn 40 = .ok (.goto 14, 3) := by decide +kernel
theorem dX5_learn_43 : decode cX5_learn 43 = .ok (.aload_n 0, 1) := by decide +kernel
theorem dX5_learn_44 : decode cX5_learn 44 = .ok (.getfield 28, 3) := by decide +kernel
theorem dX5_learn_47 : decode cX5_learn 47 = .ok (.iload_n 1, 1) := by decide +kernel
theorem dX5_learn_48 : decode cX5_learn 48 = .ok (.iaload, 1) := by decide +kernel
theorem dX5_learn_49 : decode cX5_learn 49 = .ok (.iload 4, 2) := by decide +kernel
theorem dX5_learn_51 : decode cX5_learn 51 = .ok (.iconst (-1), 1) := by decide +kernel
theorem dX5_learn_52 : decode cX5_learn 52 = .ok (.ixor, 1) := by decide +kernel
theorem dX5_learn_53 : decode cX5_learn 53 = .ok (.iand, 1) := by decide +kernel
theorem dX5_learn_54 : decode cX5_learn 54 = .ok (.iastore, 1) := by decide +kernel
theorem dX5_learn_55 : decode cX5_learn 55 = .ok (.aload_n 0, 1) := by decide +kernel
theorem dX5_learn_56 : decode cX5_learn 56 = .ok (.getfield 28, 3) := by decide +kernel
theorem dX5_learn_59 : decode cX5_learn 59 = .ok (.iload_n 1, 1) := by decide +kernel
theorem dX5_learn_60 : decode cX5_learn 60 = .ok (.iaload, 1) := by decide +kernel
theorem dX5_learn_61 : decode cX5_learn 61 = .ok (.ireturn, 1) := by decide +kernel
theorem dX5_fade_0 : decode cX5_fade 0 = .ok (.iload_n 1, 1) := by decide +kernel
theorem dX5_fade_1 : decode cX5_fade 1 = .ok (.i2l, 1) := by decide +kernel
theorem dX5_fade_2 : decode cX5_fade 2 = .ok (.lconst 0, 1) := by decide +kernel
theorem dX5_fade_3 : decode cX5_fade 3 = .ok (.ldc2_w 153, 3) := by decide +kernel
theorem dX5_fade_6 : decode cX5_fade 6 = .ok (.invokestatic 118, 3) := by decide +kernel
theorem dX5_fade_9 : decode cX5_fade 9 = .ok (.ifCond .ne 6, 3) := by decide +kernel
theorem dX5_fade_12 : decode cX5_fade 12 = .ok (.bipush (-2), 2) := by decide +kernel
theorem dX5_fade_14 : decode cX5_fade 14 = .ok (.ireturn, 1) := by decide +kernel
theorem dX5_fade_15 : decode cX5_fade 15 = .ok (.aload_n 0, 1) := by decide +kernel
theorem dX5_fade_16 : decode cX5_fade 16 = .ok (.getfield 95, 3) := by decide +kernel
theorem dX5_fade_19 : decode cX5_fade 19 = .ok (.istore_n 2, 1) := by decide +kernel
theorem dX5_fade_20 : decode cX5_fade 20 = .ok (.aload_n 0, 1) := by decide +kernel
theorem dX5_fade_21 : decode cX5_fade 21 = .ok (.iload_n 1, 1) := by decide +kernel
theorem dX5_fade_22 : decode cX5_fade 22 = .ok (.putfield 95, 3) := by decide +kernel
theorem dX5_fade_25 : decode cX5_fade 25 = .ok (.iload_n 2, 1) := by decide +kernel
theorem dX5_fade_26 : decode cX5_fade 26 = .ok (.ireturn, 1) := by decide +kernel
theorem dX5_say_0 : decode cX5_say 0 = .ok (.iload_n 1, 1) := by decide +kernel
theorem dX5_say_1 : decode cX5_say 1 = .ok (.i2l, 1) := by decide +kernel
theorem dX5_say_2 : decode cX5_say 2 = .ok (.ldc2_w 155, 3) := by decide +kernel
theorem dX5_say_5 : decode cX5_say 5 = .ok (.ldc2_w 157, 3) := by decide +kernel
theorem dX5_say_8 : decode cX5_say 8 = .ok (.invokestatic 118, 3) := by decide +kernel
theorem dX5_say_11 : decode cX5_say 11 = .ok (.ifCond .ne 6, 3) := by decide +kernel
theorem dX5_say_14 : decode cX5_say 14 = .ok (.bipush (-2), 2) := by decide +kernel
theorem dX5_say_16 : decode cX5_say 16 = .ok (.ireturn, 1) := by decide +kernel
theorem dX5_say_17 : decode cX5_say 17 = .ok (.aload_n 0, 1) := by decide +kernel
theorem dX5_say_18 : decode cX5_say 18 = .ok (.getfield 159, 3) := by decide +kernel
theorem dX5_say_21 : decode cX5_say 21 = .ok (.bipush 60, 2) := by decide +kernel
theorem dX5_say_23 : decode cX5_say 23 = .ok (.if_icmp .ne 6, 3) := by decide +kernel
theorem dX5_say_26 : decode cX5_say 26 = .ok (.bipush (-4), 2) := by decide +kernel
theorem dX5_say_28 : decode cX5_say 28 = .ok (.ireturn, 1) := by decide +kernel
theorem dX5_say_29 : decode cX5_say 29 = .ok (.aload_n 0, 1) := by decide +kernel
theorem dX5_say_30 : decode cX5_say 30 = .ok (.getfield 43, 3) := by decide +kernel
theorem dX5_say_33 : decode cX5_say 33 = .ok (.aload_n 0, 1) := by decide +kernel
theorem dX5_say_34 : decode cX5_say 34 = .ok (.getfield 159, 3) := by decide +kernel
theorem dX5_say_37 : decode cX5_say 37 = .ok (.iload_n 1, 1) := by decide +kernel
theorem dX5_say_38 : decode cX5_say 38 = .ok (.iastore, 1) := by decide +kernel
theorem dX5_say_39 : decode cX5_say 39 = .ok (.aload_n 0, 1) := by decide +kernel
theorem dX5_say_40 : decode cX5_say 40 = .ok (.dup, 1) := by decide +kernel
theorem dX5_say_41 : decode cX5_say 41 = .ok (.getfield 159, 3) := by decide +kernel
theorem dX5_say_44 : decode cX5_say 44 = .ok (.iconst 1, 1) := by decide +kernel
theorem dX5_say_45 : decode cX5_say 45 = .ok (.iadd, 1) := by decide +kernel
theorem dX5_say_46 : decode cX5_say 46 = .ok (.putfield 159, 3) := by decide +kernel
theorem dX5_say_49 : decode cX5_say 49 = .ok (.aload_n 0, 1) := by decide +kernel
theorem dX5_say_50 : decode cX5_say 50 = .ok (.getfield 159, 3) := by decide +kernel
theorem dX5_say_53 : decode cX5_say 53 = .ok (.ireturn, 1) := by decide +kernel
theorem dX5_wipe_0 : decode cX5_wipe 0 = .ok (.aload_n 0, 1) := by decide +kernel
theorem dX5_wipe_1 : decode cX5_wipe 1 = .ok (.getfield 159, 3) := by decide +kernel
theorem dX5_wipe_4 : decode cX5_wipe 4 = .ok (.istore_n 1, 1) := by decide +kernel
theorem dX5_wipe_5 : decode cX5_wipe 5 = .ok (.aload_n 0, 1) := by decide +kernel
theorem dX5_wipe_6 : decode cX5_wipe 6 = .ok (.iconst 0, 1) := by decide +kernel
theorem dX5_wipe_7 : decode cX5_wipe 7 = .ok (.putfield 159, 3) := by decide +kernel
theorem dX5_wipe_10 : decode cX5_wipe 10 = .ok (.iload_n 1, 1) := by decide +kernel
theorem dX5_wipe_11 : decode cX5_wipe 11 = .ok (.ireturn, 1) := by decide +kernel
theorem dX5_isName_0 : decode cX5_isName 0 = .ok (.iload_n 0, 1) := by decide +kernel
theorem dX5_isName_1 : decode cX5_isName 1 = .ok (.i2l, 1) := by decide +kernel
theorem dX5_isName_2 : decode cX5_isName 2 = .ok (.ldc2_w 162, 3) := by decide +kernel
theorem dX5_isName_5 : decode cX5_isName 5 = .ok (.ldc2_w 164, 3) := by decide +kernel
theorem dX5_isName_8 : decode cX5_isName 8 = .ok (.invokestatic 118, 3) := by decide +kernel
theorem dX5_isName_11 : decode cX5_isName 11 = .ok (.ireturn, 1) := by decide +kernel
theorem dX5_isLetter_0 : decode cX5_isLetter 0 = .ok (.iload_n 0, 1) := by decide +kernel
theorem dX5_isLetter_1 : decode cX5_isLetter 1 = .ok (.i2l, 1) := by decide +kernel
theorem dX5_isLetter_2 : decode cX5_isLetter 2 = .ok (.ldc2_w 166, 3) := by decide +kernel
theorem dX5_isLetter_5 : decode cX5_isLetter 5 = .ok (.ldc2_w 168, 3) := by decide +kernel
theorem dX5_isLetter_8 : decode cX5_isLetter 8 = .ok (.invokestatic 118, 3) := by decide +kernel
theorem dX5_isLetter_11 : decode cX5_isLetter 11 = .ok (.ireturn, 1) := by decide +kernel
theorem dX5_readFirst_0 : decode cX5_readFirst 0 = .ok (.aload_n 0, 1) := by decide +kernel
theorem dX5_readFirst_1 : decode cX5_readFirst 1 = .ok (.getfield 46, 3) := by decide +kernel
theorem dX5_readFirst_4 : decode cX5_readFirst 4 = .ok (.aload_n 0, 1) := by decide +kernel
theorem dX5_readFirst_5 : decode cX5_readFirst 5 = .ok (.getfield 170, 3) := by decide +kernel
theorem dX5_readFirst_8 : decode cX5_readFirst 8 = .ok (.iload_n 1, 1) := by decide +kernel
theorem dX5_readFirst_9 : decode cX5_readFirst 9 = .ok (.bipush 46, 2) := by decide +kernel
theorem dX5_readFirst_11 : decode cX5_readFirst 11 = .ok (.if_icmp .ne 7, 3) := by decide +kernel
theorem dX5_readFirst_14 : decode cX5_readFirst 14 = .ok (.iconst 3, 1) := by decide +kernel
theorem dX5_readFirst_15 : decode cX5_readFirst 15 = .ok (.goto 4, 3) := by decide +kernel
theorem dX5_readFirst_18 : decode cX5_readFirst 18 = .ok (.iconst 2, 1) := by decide +kernel
theorem dX5_readFirst_19 : decode cX5_readFirst 19 = .ok (.iastore, 1) := by decide +kernel
theorem dX5_readFirst_20 : decode cX5_readFirst 20 = .ok (.aload_n 0, 1) := by decide +kernel
theorem dX5_readFirst_21 : decode cX5_readFirst 21 = .ok (.getfield 49, 3) := by decide +kernel
theorem dX5_readFirst_24 : decode cX5_readFirst 24 = .ok (.aload_n 0, 1) := by decide +kernel
theorem dX5_readFirst_25 : decode cX5_readFirst 25 = .ok (.getfield 170, 3) := by decide +kernel
theorem dX5_readFirst_28 : decode cX5_readFirst 28 = .ok (.iload_n 1, 1) := by decide +kernel
theorem dX5_readFirst_29 : decode cX5_readFirst 29 = .ok (.bipush 65, 2) := by decide +kernel
theorem dX5_readFirst_31 : decode cX5_readFirst 31 = .ok (.isub, 1) := by decide +kernel
theorem dX5_readFirst_32 : decode cX5_readFirst 32 = .ok (.iastore, 1) := by decide +kernel
theorem dX5_readFirst_33 : decode cX5_readFirst 33 = .ok (.aload_n 0, 1) := by decide +kernel
theorem dX5_readFirst_34 : decode cX5_readFirst 34 = .ok (.iload_n 1, 1) := by decide +kernel
theorem dX5_readFirst_35 : decode cX5_readFirst 35 = .ok (.bipush 46, 2) := by decide +kernel
theorem dX5_readFirst_37 : decode cX5_readFirst 37 = .ok (.if_icmp .ne 7, 3) := by decide +kernel
theorem dX5_readFirst_40 : decode cX5_readFirst 40 = .ok (.iconst 0, 1) := by decide +kernel
theorem dX5_readFirst_41 : decode cX5_readFirst 41 = .ok (.goto 14, 3) := by decide +kernel
theorem dX5_readFirst_44 : decode cX5_readFirst 44 = .ok (.iload_n 1, 1) := by decide +kernel
theorem dX5_readFirst_45 : decode cX5_readFirst 45 = .ok (.bipush 33, 2) := by decide +kernel
theorem dX5_readFirst_47 : decode cX5_readFirst 47 = .ok (.if_icmp .ne 7, 3) := by decide +kernel
theorem dX5_readFirst_50 : decode cX5_readFirst 50 = .ok (.iconst 3, 1) := by decide +kernel
theorem dX5_readFirst_51 : decode cX5_readFirst 51 = .ok (.goto 4, 3) := by decide +kernel
theorem dX5_readFirst_54 : decode cX5_readFirst 54 = .ok (.iconst 1, 1) := by decide +kernel
theorem dX5_readFirst_55 : decode cX5_readFirst 55 = .ok (.putfield 173, 3) := by decide +kernel
theorem dX5_readFirst_58 : decode cX5_readFirst 58 = .ok (.aload_n 0, 1) := by decide +kernel
theorem dX5_readFirst_59 : decode cX5_readFirst 59 = .ok (.dup, 1) := by decide +kernel
theorem dX5_readFirst_60 : decode cX5_readFirst 60 = .ok (.getfield 170, 3) := by decide +kernel
theorem dX5_readFirst_63 : decode cX5_readFirst 63 = .ok (.iload_n 1, 1) := by decide +kernel
theorem dX5_readFirst_64 : decode cX5_readFirst 64 = .ok (.bipush 46, 2) := by decide +kernel
theorem dX5_readFirst_66 : decode cX5_readFirst 66 = .ok (.if_icmp .ne 7, 3) := by decide +kernel
theorem dX5_readFirst_69 : decode cX5_readFirst 69 = .ok (.iconst 1, 1) := by decide +kernel
theorem dX5_readFirst_70 : decode cX5_readFirst 70 = .ok (.goto 4, 3) := by decide +kernel
theorem dX5_readFirst_73 : decode cX5_readFirst 73 = .ok (.iconst 0, 1) := by decide +kernel
theorem dX5_readFirst_74 : decode cX5_readFirst 74 = .ok (.iadd, 1) := by decide +kernel
theorem dX5_readFirst_75 : decode cX5_readFirst 75 = .ok (.putfield 170, 3) := by decide +kernel
theorem dX5_readFirst_78 : decode cX5_readFirst 78 = .ok (.iload_n 1, 1) := by decide +kernel
theorem dX5_readFirst_79 : decode cX5_readFirst 79 = .ok (.bipush 46, 2) := by decide +kernel
theorem dX5_readFirst_81 : decode cX5_readFirst 81 = .ok (.if_icmp .eq 16, 3) := by decide +kernel
theorem dX5_readFirst_84 : decode cX5_readFirst 84 = .ok (.iload_n 1, 1) := by decide +kernel
theorem dX5_readFirst_85 : decode cX5_readFirst 85 = .ok (.bipush 33, 2) := by decide +kernel
theorem dX5_readFirst_87 : decode cX5_readFirst 87 = .ok (.if_icmp .eq 10, 3) := by decide +kernel
theorem dX5_readFirst_90 : decode cX5_readFirst 90 = .ok (.iload_n 1, 1) := by decide +kernel
theorem dX5_readFirst_91 : decode cX5_readFirst 91 = .ok (.invokestatic 176, 3) := by decide +kernel
theorem dX5_readFirst_94 : decode cX5_readFirst 94 = .ok (.ifCond .eq 7, 3) := by decide +kernel
theorem dX5_readFirst_97 : decode cX5_readFirst 97 = .ok (.iconst 1, 1) := by decide +kernel
theorem dX5_readFirst_98 : decode cX5_readFirst 98 = .ok (.goto 4, 3) := by decide +kernel
theorem dX5_readFirst_101 : decode cX5_readFirst 101 = .ok (.iconst 0, 1) := by decide +kernel
theorem dX5_readFirst_102 : decode cX5_readFirst 102 = .ok (.ireturn, 1) := by decide +kernel
theorem dX5_readSecond_0 : decode cX5_readSecond 0 = .ok (.iload_n 1, 1) := by decide +kernel
theorem dX5_readSecond_1 : decode cX5_readSecond 1 = .ok (.i2l, 1) := by decide +kernel
theorem dX5_readSecond_2 : decode cX5_readSecond 2 = .ok (.ldc2_w 179, 3) := by decide +kernel
theorem dX5_readSecond_5 : decode cX5_readSecond 5 = .ok (.ldc2_w 181, 3) := by decide +kernel
theorem dX5_readSecond_8 : decode cX5_readSecond 8 = .ok (.invokestatic 118, 3) := by decide +kernel
theorem dX5_readSecond_11 : decode cX5_readSecond 11 = .ok (.istore_n 2, 1) := by decide +kernel
theorem dX5_readSecond_12 : decode cX5_readSecond 12 = .ok (.aload_n 0, 1) := by decide +kernel
theorem dX5_readSecond_13 : decode cX5_readSecond 13 = .ok (.getfield 46, 3) := by decide +kernel
theorem dX5_readSecond_16 : decode cX5_readSecond 16 = .ok (.aload_n 0, 1) := by decide +kernel
theorem dX5_readSecond_17 : decode cX5_readSecond 17 = .ok (.getfield 170, 3) := by decide +kernel
theorem dX5_readSecond_20 : decode cX5_readSecond 20 = .ok (.iload_n 2, 1) := by decide +kernel
theorem dX5_readSecond_21 : decode cX5_readSecond 21 = .ok (.ifCond .eq 7, 3) := by decide +kernel
theorem dX5_readSecond_24 : decode cX5_readSecond 24 = .ok (.iconst 1, 1) := by decide +kernel
theorem dX5_readSecond_25 : decode cX5_readSecond 25 = .ok (.goto 4, 3) := by decide +kernel
theorem dX5_readSecond_28 : decode cX5_readSecond 28 = .ok (.iconst 0, 1) := by decide +kernel
theorem dX5_readSecond_29 : decode cX5_readSecond 29 = .ok (.iastore, 1) := by decide +kernel
theorem dX5_readSecond_30 : decode cX5_readSecond 30 = .ok (.aload_n 0, 1) := by decide +kernel
theorem dX5_readSecond_31 : decode cX5_readSecond 31 = .ok (.getfield 52, 3) := by decide +kernel
theorem dX5_readSecond_34 : decode cX5_readSecond 34 = .ok (.aload_n 0, 1) := by decide +kernel
theorem dX5_readSecond_35 : decode cX5_readSecond 35 = .ok (.getfield 170, 3) := by decide +kernel
theorem dX5_readSecond_38 : decode cX5_readSecond 38 = .ok (.iload_n 1, 1) := by decide +kernel
theorem dX5_readSecond_39 : decode cX5_readSecond 39 = .ok (.bipush 65, 2) := by decide +kernel
theorem dX5_readSecond_41 : decode cX5_readSecond 41 = .ok (.isub, 1) := by decide +kernel
theorem dX5_readSecond_42 : decode cX5_readSecond 42 = .ok (.iastore, 1) := by decide +kernel
theorem dX5_readSecond_43 : decode cX5_readSecond 43 = .ok (.aload_n 0, 1) := by decide +kernel
theorem dX5_readSecond_44 : decode cX5_readSecond 44 = .ok (.getfield 55, 3) := by decide +kernel
theorem dX5_readSecond_47 : decode cX5_readSecond 47 = .ok (.aload_n 0, 1) := by decide +kernel
theorem dX5_readSecond_48 : decode cX5_readSecond 48 = .ok (.getfield 170, 3) := by decide +kernel
theorem dX5_readSecond_51 : decode cX5_readSecond 51 = .ok (.iload_n 1, 1) := by decide +kernel
theorem dX5_readSecond_52 : decode cX5_readSecond 52 = .ok (.bipush 48, 2) := by decide +kernel
theorem dX5_readSecond_54 : decode cX5_readSecond 54 = .ok (.isub, 1) := by decide +kernel
theorem dX5_readSecond_55 : decode cX5_readSecond 55 = .ok (.iastore, 1) := by decide +kernel
theorem dX5_readSecond_56 : decode cX5_readSecond 56 = .ok (.aload_n 0, 1) := by decide +kernel
theorem dX5_readSecond_57 : decode cX5_readSecond 57 = .ok (.dup, 1) := by decide +kernel
theorem dX5_readSecond_58 : decode cX5_readSecond 58 = .ok (.getfield 170, 3) := by decide +kernel
theorem dX5_readSecond_61 : decode cX5_readSecond 61 = .ok (.iload_n 2, 1) := by decide +kernel
theorem dX5_readSecond_62 : decode cX5_readSecond 62 = .ok (.ifCond .eq 7, 3) := by decide +kernel
theorem dX5_readSecond_65 : decode cX5_readSecond 65 = .ok (.iconst 1, 1) := by decide +kernel
theorem dX5_readSecond_66 : decode cX5_readSecond 66 = .ok (.goto 4, 3) := by decide +kernel
theorem dX5_readSecond_69 : decode cX5_readSecond 69 = .ok (.iconst 0, 1) := by decide +kernel
theorem dX5_readSecond_70 : decode cX5_readSecond 70 = .ok (.iadd, 1) := by decide +kernel
theorem dX5_readSecond_71 : decode cX5_readSecond 71 = .ok (.putfield 170, 3) := by decide +kernel
theorem dX5_readSecond_74 : decode cX5_readSecond 74 = .ok (.aload_n 0, 1) := by decide +kernel
theorem dX5_readSecond_75 : decode cX5_readSecond 75 = .ok (.iload_n 2, 1) := by decide +kernel
theorem dX5_readSecond_76 : decode cX5_readSecond 76 = .ok (.ifCond .eq 7, 3) := by decide +kernel
theorem dX5_readSecond_79 : decode cX5_readSecond 79 = .ok (.iconst 0, 1) := by decide +kernel
theorem dX5_readSecond_80 : decode cX5_readSecond 80 = .ok (.goto 4, 3) := by decide +kernel
theorem dX5_readSecond_83 : decode cX5_readSecond 83 = .ok (.iconst 2, 1) := by decide +kernel
theorem dX5_readSecond_84 : decode cX5_readSecond 84 = .ok (.putfield 173, 3) := by decide +kernel
theorem dX5_readSecond_87 : decode cX5_readSecond 87 = .ok (.iload_n 2, 1) := by decide +kernel
theorem dX5_readSecond_88 : decode cX5_readSecond 88 = .ok (.ifCond .ne 10, 3) := by decide +kernel
theorem dX5_readSecond_91 : decode cX5_readSecond 91 = .ok (.iload_n 1, 1) := by decide +kernel
theorem dX5_readSecond_92 : decode cX5_readSecond 92 = .ok (.invokestatic 176, 3) := by decide +kernel
theorem dX5_readSecond_95 : decode cX5_readSecond 95 = .ok (.ifCond .eq 7, 3) := by decide +kernel
theorem dX5_readSecond_98 : decode cX5_readSecond 98 = .ok (.iconst 1, 1) := by decide +kernel
theorem dX5_readSecond_99 : decode cX5_readSecond 99 = .ok (.goto 4, 3) := by decide +kernel
theorem dX5_readSecond_102 : decode cX5_readSecond 102 = .ok (.iconst 0, 1) := by decide +kernel
theorem dX5_readSecond_103 : decode cX5_readSecond 103 = .ok (.ireturn, 1) := by decide +kernel
theorem dX5_readNews_0 : decode cX5_readNews 0 = .ok (.aload_n 0, 1) := by decide +kernel
theorem dX5_readNews_1 : decode cX5_readNews 1 = .ok (.getfield 55, 3) := by decide +kernel
theorem dX5_readNews_4 : decode cX5_readNews 4 = .ok (.aload_n 0, 1) := by decide +kernel
theorem dX5_readNews_5 : decode cX5_readNews 5 = .ok (.getfield 170, 3) := by decide +kernel
theorem dX5_readNews_8 : decode cX5_readNews 8 = .ok (.iload_n 1, 1) := by decide +kernel
theorem dX5_readNews_9 : decode cX5_readNews 9 = .ok (.bipush 97, 2) := by decide +kernel
theorem dX5_readNews_11 : decode cX5_readNews 11 = .ok (.isub, 1) := by decide +kernel
theorem dX5_readNews_12 : decode cX5_readNews 12 = .ok (.iastore, 1) := by decide +kernel
theorem dX5_readNews_13 : decode cX5_readNews 13 = .ok (.aload_n 0, 1) := by decide +kernel
theorem dX5_readNews_14 : decode cX5_readNews 14 = .ok (.dup, 1) := by decide +kernel
theorem dX5_readNews_15 : decode cX5_readNews 15 = .ok (.getfield 170, 3) := by decide +kernel
theorem dX5_readNews_18 : decode cX5_readNews 18 = .ok (.iconst 1, 1) := by decide +kernel
theorem dX5_readNews_19 : decode cX5_readNews 19 = .ok (.iadd, 1) := by decide +kernel
theorem dX5_readNews_20 : decode cX5_readNews 20 = .ok (.putfield 170, 3) := by decide +kernel
theorem dX5_readNews_23 : decode cX5_readNews 23 = .ok (.aload_n 0, 1) := by decide +kernel
theorem dX5_readNews_24 : decode cX5_readNews 24 = .ok (.iconst 0, 1) := by decide +kernel
theorem dX5_readNews_25 : decode cX5_readNews 25 = .ok (.putfield 173, 3) := by decide +kernel
theorem dX5_readNews_28 : decode cX5_readNews 28 = .ok (.iload_n 1, 1) := by decide +kernel
theorem dX5_readNews_29 : decode cX5_readNews 29 = .ok (.invokestatic 183, 3) := by decide +kernel
theorem dX5_readNews_32 : decode cX5_readNews 32 = .ok (.ireturn, 1) := by decide +kernel
theorem dX5_fault_0 : decode cX5_fault 0 = .ok (.aload_n 0, 1) := by decide +kernel
theorem dX5_fault_1 : decode cX5_fault 1 = .ok (.iconst 0, 1) := by decide +kernel
theorem dX5_fault_2 : decode cX5_fault 2 = .ok (.putfield 170, 3) := by decide +kernel
theorem dX5_fault_5 : decode cX5_fault 5 = .ok (.aload_n 0, 1) := by decide +kernel
theorem dX5_fault_6 : decode cX5_fault 6 = .ok (.iconst 0, 1) := by decide +kernel
theorem dX5_fault_7 : decode cX5_fault 7 = .ok (.putfield 173, 3) := by decide +kernel
theorem dX5_fault_10 : decode cX5_fault 10 = .ok (.iconst 0, 1) := by decide +kernel
theorem dX5_fault_11 : decode cX5_fault 11 = .ok (.istore_n 1, 1) := by decide +kernel
theorem dX5_fault_12 : decode cX5_fault 12 = .ok (.iload_n 1, 1) := by decide +kernel
theorem dX5_fault_13 : decode cX5_fault 13 = .ok (.aload_n 0, 1) := by decide +kernel
theorem dX5_fault_14 : decode cX5_fault 14 = .ok (.getfield 159, 3) := by decide +kernel
theorem dX5_fault_17 : decode cX5_fault 17 = .ok (.if_icmp .ge 67, 3) := by decide +kernel
theorem dX5_fault_20 : decode cX5_fault 20 = .ok (.aload_n 0, 1) := by decide +kernel
theorem dX5_fault_21 : decode cX5_fault 21 = .ok (.getfield 173, 3) := by decide +kernel
theorem dX5_fault_24 : decode cX5_fault 24 = .ok (.ifCond .ne 16, 3) := by decide +kernel
theorem dX5_fault_27 : decode cX5_fault 27 = .ok (.aload_n 0, 1) := by decide +kernel
theorem dX5_fault_28 : decode cX5_fault 28 = .ok (.aload_n 0, 1) := by decide +kernel
theorem dX5_fault_29 : decode cX5_fault 29 = .ok (.getfield 43, 3) := by decide +kernel
theorem dX5_fault_32 : decode cX5_fault 32 = .ok (.iload_n 1, 1) := by decide +kernel
theorem dX5_fault_33 : decode cX5_fault 33 = .ok (.iaload, 1) := by decide +kernel
theorem dX5_fault_34 : decode cX5_fault 34 = .ok (.invokevirtual 186, 3) := by decide +kernel
theorem dX5_fault_37 : decode cX5_fault 37 = .ok (.goto 34, 3) := by decide +kernel
theorem dX5_fault_40 : decode cX5_fault 40 = .ok (.aload_n 0, 1) := by decide +kernel
theorem dX5_fault_41 : decode cX5_fault 41 = .ok (.getfield 173, 3) := by decide +kernel
theorem dX5_fault_44 : decode cX5_fault 44 = .ok (.iconst 1, 1) := by decide +kernel
theorem dX5_fault_45 : decode cX5_fault 45 = .ok (.if_icmp .ne 16, 3) := by decide +kernel
theorem dX5_fault_48 : decode cX5_fault 48 = .ok (.aload_n 0, 1) := by decide +kernel
theorem dX5_fault_49 : decode cX5_fault 49 = .ok (.aload_n 0, 1) := by decide +kernel
theorem dX5_fault_50 : decode cX5_fault 50 = .ok (.getfield 43, 3) := by decide +kernel
theorem dX5_fault_53 : decode cX5_fault 53 = .ok (.iload_n 1, 1) := by decide +kernel
theorem dX5_fault_54 : decode cX5_fault 54 = .ok (.iaload, 1) := by decide +kernel
theorem dX5_fault_55 : decode cX5_fault 55 = .ok (.invokevirtual 189, 3) := by decide +kernel
theorem dX5_fault_58 : decode cX5_fault 58 = .ok (.goto 13, 3) := by decide +kernel
theorem dX5_fault_61 : decode cX5_fault 61 = .ok (.aload_n 0, 1) := by decide +kernel
theorem dX5_fault_62 : decode cX5_fault 62 = .ok (.aload_n 0, 1) := by decide +kernel
theorem dX5_fault_63 : decode cX5_fault 63 = .ok (.getfield 43, 3) := by decide +kernel
theorem dX5_fault_66 : decode cX5_fault 66 = .ok (.iload_n 1, 1) := by decide +kernel
theorem dX5_fault_67 : decode cX5_fault 67 = .ok (.iaload, 1) := by decide +kernel
theorem dX5_fault_68 : decode cX5_fault 68 = .ok (.invokevirtual 192, 3) := by decide +kernel
theorem dX5_fault_71 : decode cX5_fault 71 = .ok (.istore_n 2, 1) := by decide +kernel
theorem dX5_fault_72 : decode cX5_fault 72 = .ok (.iload_n 2, 1) := by decide +kernel
theorem dX5_fault_73 : decode cX5_fault 73 = .ok (.ifCond .ne 5, 3) := by decide +kernel
theorem dX5_fault_76 : decode cX5_fault 76 = .ok (.iload_n 1, 1) := by decide +kernel
theorem dX5_fault_77 : decode cX5_fault 77 = .ok (.ireturn, 1) := by decide +kernel
theorem dX5_fault_78 : decode cX5_fault 78 = .ok (.iinc 1 1, 3) := by decide +kernel
theorem dX5_fault_81 : decode cX5_fault 81 = .ok (.goto (-69), 3) := by decide +kernel
theorem dX5_fault_84 : decode cX5_fault 84 = .ok (.aload_n 0, 1) := by decide +kernel
theorem dX5_fault_85 : decode cX5_fault 85 = .ok (.getfield 173, 3) := by decide +kernel
theorem dX5_fault_88 : decode cX5_fault 88 = .ok (.ifCond .ne 8, 3) := by decide +kernel
theorem dX5_fault_91 : decode cX5_fault 91 = .ok (.bipush (-6), 2) := by decide +kernel
theorem dX5_fault_93 : decode cX5_fault 93 = .ok (.goto 7, 3) := by decide +kernel
theorem dX5_fault_96 : decode cX5_fault 96 = .ok (.aload_n 0, 1) := by decide +kernel
theorem dX5_fault_97 : decode cX5_fault 97 = .ok (.getfield 159, 3) := by decide +kernel
theorem dX5_fault_100 : decode cX5_fault 100 = .ok (.ireturn, 1) := by decide +kernel
theorem dX5_knowers_0 : decode cX5_knowers 0 = .ok (.iconst 0, 1) := by decide +kernel
theorem dX5_knowers_1 : decode cX5_knowers 1 = .ok (.istore_n 2, 1) := by decide +kernel
theorem dX5_knowers_2 : decode cX5_knowers 2 = .ok (.iconst 0, 1) := by decide +kernel
theorem dX5_knowers_3 : decode cX5_knowers 3 = .ok (.istore_n 3, 1) := by decide +kernel
theorem dX5_knowers_4 : decode cX5_knowers 4 = .ok (.iload_n 3, 1) := by decide +kernel
theorem dX5_knowers_5 : decode cX5_knowers 5 = .ok (.bipush 6, 2) := by decide +kernel
theorem dX5_knowers_7 : decode cX5_knowers 7 = .ok (.if_icmp .ge 34, 3) := by decide +kernel
theorem dX5_knowers_10 : decode cX5_knowers 10 = .ok (.iload_n 2, 1) := by decide +kernel
theorem dX5_knowers_11 : decode cX5_knowers 11 = .ok (.aload_n 0, 1) := by decide +kernel
theorem dX5_knowers_12 : decode cX5_knowers 12 = .ok (.iload_n 3, 1) := by decide +kernel
theorem dX5_knowers_13 : decode cX5_knowers 13 = .ok (.invokevirtual 143, 3) := by decide +kernel
theorem dX5_knowers_16 : decode cX5_knowers 16 = .ok (.ifCond .eq 16, 3) := by decide +kernel
theorem dX5_knowers_19 : decode cX5_knowers 19 = .ok (.aload_n 0, 1) := by decide +kernel
theorem dX5_knowers_20 : decode cX5_knowers 20 = .ok (.getfield 28, 3) := by decide +kernel
theorem dX5_knowers_23 : decode cX5_knowers 23 = .ok (.iload_n 3, 1) := by decide +kernel
theorem dX5_knowers_24 : decode cX5_knowers 24 = .ok (.iaload, 1) := by decide +kernel
theorem dX5_knowers_25 : decode cX5_knowers 25 = .ok (.iload_n 1, 1) := by decide +kernel
theorem dX5_knowers_26 : decode cX5_knowers 26 = .ok (.ishr, 1) := by decide +kernel
theorem dX5_knowers_27 : decode cX5_knowers 27 = .ok (.iconst 1, 1) := by decide +kernel
theorem dX5_knowers_28 : decode cX5_knowers 28 = .ok (.iand, 1) := by decide +kernel
theorem dX5_knowers_29 : decode cX5_knowers 29 = .ok (.goto 4, 3) := by decide +kernel
theorem dX5_knowers_32 : decode cX5_knowers 32 = .ok (.iconst 0, 1) := by decide +kernel
theorem dX5_knowers_33 : decode cX5_knowers 33 = .ok (.iadd, 1) := by decide +kernel
theorem dX5_knowers_34 : decode cX5_knowers 34 = .ok (.istore_n 2, 1) := by decide +kernel
theorem dX5_knowers_35 : decode cX5_knowers 35 = .ok (.iinc 3 1, 3) := by decide +kernel
theorem dX5_knowers_38 : decode cX5_knowers 38 = .ok (.goto (-34), 3) := by decide +kernel
theorem dX5_knowers_41 : decode cX5_knowers 41 = .ok (.iload_n 2, 1) := by decide +kernel
theorem dX5_knowers_42 : decode cX5_knowers 42 = .ok (.ireturn, 1) := by decide +kernel
theorem dX5_heavyBy_0 : decode cX5_heavyBy 0 = .ok (.aload_n 0, 1) := by decide +kernel
theorem dX5_heavyBy_1 : decode cX5_heavyBy 1 = .ok (.getfield 34, 3) := by decide +kernel
theorem dX5_heavyBy_4 : decode cX5_heavyBy 4 = .ok (.iload_n 2, 1) := by decide +kernel
theorem dX5_heavyBy_5 : decode cX5_heavyBy 5 = .ok (.iaload, 1) := by decide +kernel
theorem dX5_heavyBy_6 : decode cX5_heavyBy 6 = .ok (.aload_n 0, 1) := by decide +kernel
theorem dX5_heavyBy_7 : decode cX5_heavyBy 7 = .ok (.getfield 25, 3) := by decide +kernel
theorem dX5_heavyBy_10 : decode cX5_heavyBy 10 = .ok (.iload_n 1, 1) := by decide +kernel
theorem dX5_heavyBy_11 : decode cX5_heavyBy 11 = .ok (.iaload, 1) := by decide +kernel
theorem dX5_heavyBy_12 : decode cX5_heavyBy 12 = .ok (.if_icmp .ne 7, 3) := by decide +kernel
theorem dX5_heavyBy_15 : decode cX5_heavyBy 15 = .ok (.iconst 2, 1) := by decide +kernel
theorem dX5_heavyBy_16 : decode cX5_heavyBy 16 = .ok (.goto 4, 3) := by decide +kernel
theorem dX5_heavyBy_19 : decode cX5_heavyBy 19 = .ok (.iconst 1, 1) := by decide +kernel
theorem dX5_heavyBy_20 : decode cX5_heavyBy 20 = .ok (.istore 4, 2) := by decide +kernel
theorem dX5_heavyBy_22 : decode cX5_heavyBy 22 = .ok (.aload_n 0, 1) := by decide +kernel
theorem dX5_heavyBy_23 : decode cX5_heavyBy 23 = .ok (.getfield 112, 3) := by decide +kernel
theorem dX5_heavyBy_26 : decode cX5_heavyBy 26 = .ok (.iload_n 2, 1) := by decide +kernel
theorem dX5_heavyBy_27 : decode cX5_heavyBy 27 = .ok (.ishr, 1) := by decide +kernel
theorem dX5_heavyBy_28 : decode cX5_heavyBy 28 = .ok (.iconst 1, 1) := by decide +kernel
theorem dX5_heavyBy_29 : decode cX5_heavyBy 29 = .ok (.iand, 1) := by decide +kernel
theorem dX5_heavyBy_30 : decode cX5_heavyBy 30 = .ok (.iconst 1, 1) := by decide +kernel
theorem dX5_heavyBy_31 : decode cX5_heavyBy 31 = .ok (.if_icmp .ne 7, 3) := by decide +kernel
theorem dX5_heavyBy_34 : decode cX5_heavyBy 34 = .ok (.iconst 0, 1) := by decide +kernel
theorem dX5_heavyBy_35 : decode cX5_heavyBy 35 = .ok (.goto 14, 3) := by decide +kernel
theorem dX5_heavyBy_38 : decode cX5_heavyBy 38 = .ok (.aload_n 0, 1) := by decide +kernel
theorem dX5_heavyBy_39 : decode cX5_heavyBy 39 = .ok (.getfield 31, 3) := by decide +kernel
theorem dX5_heavyBy_42 : decode cX5_heavyBy 42 = .ok (.iload_n 2, 1) := by decide +kernel
theorem dX5_heavyBy_43 : decode cX5_heavyBy 43 = .ok (.iaload, 1) := by decide +kernel
theorem dX5_heavyBy_44 : decode cX5_heavyBy 44 = .ok (.iload 4, 2) := by decide +kernel
theorem dX5_heavyBy_46 : decode cX5_heavyBy 46 = .ok (.imul, 1) := by decide +kernel
theorem dX5_heavyBy_47 : decode cX5_heavyBy 47 = .ok (.iload_n 3, 1) := by decide +kernel
theorem dX5_heavyBy_48 : decode cX5_heavyBy 48 = .ok (.idiv, 1) := by decide +kernel
theorem dX5_heavyBy_49 : decode cX5_heavyBy 49 = .ok (.ireturn, 1) := by decide +kernel
theorem dX5_sumOf_0 : decode cX5_sumOf 0 = .ok (.iconst 0, 1) := by decide +kernel
theorem dX5_sumOf_1 : decode cX5_sumOf 1 = .ok (.istore_n 3, 1) := by decide +kernel
theorem dX5_sumOf_2 : decode cX5_sumOf 2 = .ok (.iconst 0, 1) := by decide +kernel
theorem dX5_sumOf_3 : decode cX5_sumOf 3 = .ok (.istore 4, 2) := by decide +kernel
theorem dX5_sumOf_5 : decode cX5_sumOf 5 = .ok (.iload 4, 2) := by decide +kernel
theorem dX5_sumOf_7 : decode cX5_sumOf 7 = .ok (.bipush 8, 2) := by decide +kernel
theorem dX5_sumOf_9 : decode cX5_sumOf 9 = .ok (.if_icmp .ge 39, 3) := by decide +kernel
theorem dX5_sumOf_12 : decode cX5_sumOf 12 = .ok (.iload_n 3, 1) := by decide +kernel
theorem dX5_sumOf_13 : decode cX5_sumOf 13 = .ok (.iload_n 2, 1) := by decide +kernel
theorem dX5_sumOf_14 : decode cX5_sumOf 14 = .ok (.iload 4, 2) := by decide +kernel
theorem dX5_sumOf_16 : decode cX5_sumOf 16 = .ok (.ishr, 1) := by decide +kernel
theorem dX5_sumOf_17 : decode cX5_sumOf 17 = .ok (.iconst 1, 1) := by decide +kernel
theorem dX5_sumOf_18 : decode cX5_sumOf 18 = .ok (.iand, 1) := by decide +kernel
theorem dX5_sumOf_19 : decode cX5_sumOf 19 = .ok (.iconst 1, 1) := by decide +kernel
theorem dX5_sumOf_20 : decode cX5_sumOf 20 = .ok (.if_icmp .ne 19, 3) := by decide +kernel
theorem dX5_sumOf_23 : decode cX5_sumOf 23 = .ok (.aload_n 0, 1) := by decide +kernel
theorem dX5_sumOf_24 : decode cX5_sumOf 24 = .ok (.iload_n 1, 1) := by decide +kernel
theorem dX5_sumOf_25 : decode cX5_sumOf 25 = .ok (.iload 4, 2) := by decide +kernel
theorem dX5_sumOf_27 : decode cX5_sumOf 27 = .ok (.aload_n 0, 1) := by decide +kernel
theorem dX5_sumOf_28 : decode cX5_sumOf 28 = .ok (.iload 4, 2) := by decide +kernel
theorem dX5_sumOf_30 : decode cX5_sumOf 30 = .ok (.invokevirtual 195, 3) := by decide +kernel
theorem dX5_sumOf_33 : decode cX5_sumOf 33 = .ok (.invokevirtual 198, 3) := by decide +kernel
theorem dX5_sumOf_36 : decode cX5_sumOf 36 = .ok (.goto 4, 3) := by decide +kernel
theorem dX5_sumOf_39 : decode cX5_sumOf 39 = .ok (.iconst 0, 1) := by decide +kernel
theorem dX5_sumOf_40 : decode cX5_sumOf 40 = .ok (.iadd, 1) := by decide +kernel
theorem dX5_sumOf_41 : decode cX5_sumOf 41 = .ok (.istore_n 3, 1) := by decide +kernel
theorem dX5_sumOf_42 : decode cX5_sumOf 42 = .ok (.iinc 4 1, 3) := by decide +kernel
theorem dX5_sumOf_45 : decode cX5_sumOf 45 = .ok (.goto (-40), 3) := by decide +kernel
theorem dX5_sumOf_48 : decode cX5_sumOf 48 = .ok (.iload_n 3, 1) := by decide +kernel
theorem dX5_sumOf_49 : decode cX5_sumOf 49 = .ok (.ireturn, 1) := by decide +kernel
theorem dX5_carriedBy_0 : decode cX5_carriedBy 0 = .ok (.aload_n 0, 1) := by decide +kernel
theorem dX5_carriedBy_1 : decode cX5_carriedBy 1 = .ok (.iload_n 1, 1) := by decide +kernel
theorem dX5_carriedBy_2 : decode cX5_carriedBy 2 = .ok (.aload_n 0, 1) := by decide +kernel
theorem dX5_carriedBy_3 : decode cX5_carriedBy 3 = .ok (.getfield 28, 3) := by decide +kernel
theorem dX5_carriedBy_6 : decode cX5_carriedBy 6 = .ok (.iload_n 1, 1) := by decide +kernel
theorem dX5_carriedBy_7 : decode cX5_carriedBy 7 = .ok (.iaload, 1) := by decide +kernel
theorem dX5_carriedBy_8 : decode cX5_carriedBy 8 = .ok (.invokevirtual 202, 3) := by decide +kernel
theorem dX5_carriedBy_11 : decode cX5_carriedBy 11 = .ok (.istore_n 2, 1) := by decide +kernel
theorem dX5_carriedBy_12 : decode cX5_carriedBy 12 = .ok (.iload_n 2, 1) := by decide +kernel
theorem dX5_carriedBy_13 : decode cX5_carriedBy 13 = .ok (.ifCond .le 7, 3) := by decide +kernel
theorem dX5_carriedBy_16 : decode cX5_carriedBy 16 = .ok (.iload_n 2, 1) := by decide +kernel
theorem dX5_carriedBy_17 : decode cX5_carriedBy 17 = .ok (.goto 4, 3) := by decide +kernel
theorem dX5_carriedBy_20 : decode cX5_carriedBy 20 = .ok (.iconst 0, 1) := by decide +kernel
theorem dX5_carriedBy_21 : decode cX5_carriedBy 21 = .ok (.ireturn, 1) := by decide +kernel
theorem dX5_passNight_0 : decode cX5_passNight 0 = .ok (.iconst 0, 1) := by decide +kernel
theorem dX5_passNight_1 : decode cX5_passNight 1 = .ok (.istore_n 1, 1) := by decide +kernel
theorem dX5_passNight_2 : decode cX5_passNight 2 = .ok (.iload_n 1, 1) := by decide +kernel
theorem dX5_passNight_3 : decode cX5_passNight 3 = .ok (.bipush 8, 2) := by decide +kernel
theorem dX5_passNight_5 : decode cX5_passNight 5 = .ok (.if_icmp .ge 54, 3) := by decide +kernel
theorem dX5_passNight_8 : decode cX5_passNight 8 = .ok (.aload_n 0, 1) := by decide +kernel
theorem dX5_passNight_9 : decode cX5_passNight 9 = .ok (.getfield 31, 3) := by decide +kernel
theorem dX5_passNight_12 : decode cX5_passNight 12 = .ok (.iload_n 1, 1) := by decide +kernel
theorem dX5_passNight_13 : decode cX5_passNight 13 = .ok (.iaload, 1) := by decide +kernel
theorem dX5_passNight_14 : decode cX5_passNight 14 = .ok (.aload_n 0, 1) := by decide +kernel
theorem dX5_passNight_15 : decode cX5_passNight 15 = .ok (.getfield 95, 3) := by decide +kernel
theorem dX5_passNight_18 : decode cX5_passNight 18 = .ok (.isub, 1) := by decide +kernel
theorem dX5_passNight_19 : decode cX5_passNight 19 = .ok (.istore_n 2, 1) := by decide +kernel
theorem dX5_passNight_20 : decode cX5_passNight 20 = .ok (.aload_n 0, 1) := by decide +kernel
theorem dX5_passNight_21 : decode cX5_passNight 21 = .ok (.getfield 31, 3) := by decide +kernel
theorem dX5_passNight_24 : decode cX5_passNight 24 = .ok (.iload_n 1, 1) := by decide +kernel
theorem dX5_passNight_25 : decode cX5_passNight 25 = .ok (.aload_n 0, 1) := by decide +kernel
theorem dX5_passNight_26 : decode cX5_passNight 26 = .ok (.getfield 31, 3) := by decide +kernel
theorem dX5_passNight_29 : decode cX5_passNight 29 = .ok (.iload_n 1, 1) := by decide +kernel
theorem dX5_passNight_30 : decode cX5_passNight 30 = .ok (.iaload, 1) := by decide +kernel
theorem dX5_passNight_31 : decode cX5_passNight 31 = .ok (.ifCond .gt 12, 3) := by decide +kernel
theorem dX5_passNight_34 : decode cX5_passNight 34 = .ok (.aload_n 0, 1) := by decide +kernel
theorem dX5_passNight_35 : decode cX5_passNight 35 = .ok (.getfield 31, 3) := by decide +kernel
theorem dX5_passNight_38 : decode cX5_passNight 38 = .ok (.iload_n 1, 1) := by decide +kernel
theorem dX5_passNight_39 : decode cX5_passNight 39 = .ok (.iaload, 1) := by decide +kernel
theorem dX5_passNight_40 : decode cX5_passNight 40 = .ok (.goto 12, 3) := by decide +kernel
theorem dX5_passNight_43 : decode cX5_passNight 43 = .ok (.iload_n 2, 1) := by decide +kernel
theorem dX5_passNight_44 : decode cX5_passNight 44 = .ok (.ifCond .le 7, 3) := by decide +kernel
theorem dX5_passNight_47 : decode cX5_passNight 47 = .ok (.iload_n 2, 1) := by decide +kernel
theorem dX5_passNight_48 : decode cX5_passNight 48 = .ok (.goto 4, 3) := by decide +kernel
theorem dX5_passNight_51 : decode cX5_passNight 51 = .ok (.iconst 0, 1) := by decide +kernel
theorem dX5_passNight_52 : decode cX5_passNight 52 = .ok (.iastore, 1) := by decide +kernel
theorem dX5_passNight_53 : decode cX5_passNight 53 = .ok (.iinc 1 1, 3) := by decide +kernel
theorem dX5_passNight_56 : decode cX5_passNight 56 = .ok (.goto (-54), 3) := by decide +kernel
theorem dX5_passNight_59 : decode cX5_passNight 59 = .ok (.return_, 1) := by decide +kernel
theorem dX5_heavy_0 : decode cX5_heavy 0 = .ok (.aload_n 0, 1) := by decide +kernel
theorem dX5_heavy_1 : decode cX5_heavy 1 = .ok (.iload_n 1, 1) := by decide +kernel
theorem dX5_heavy_2 : decode cX5_heavy 2 = .ok (.invokevirtual 143, 3) := by decide +kernel
theorem dX5_heavy_5 : decode cX5_heavy 5 = .ok (.ifCond .eq 10, 3) := by decide +kernel
theorem dX5_heavy_8 : decode cX5_heavy 8 = .ok (.iload_n 2, 1) := by decide +kernel
theorem dX5_heavy_9 : decode cX5_heavy 9 = .ok (.invokestatic 146, 3) := by decide +kernel
theorem dX5_heavy_12 : decode cX5_heavy 12 = .ok (.ifCond .ne 5, 3) := by decide +kernel
theorem dX5_heavy_15 : decode cX5_heavy 15 = .ok (.iconst (-1), 1) := by decide +kernel
theorem dX5_heavy_16 : decode cX5_heavy 16 = .ok (.ireturn, 1) := by decide +kernel
theorem dX5_heavy_17 : decode cX5_heavy 17 = .ok (.aload_n 0, 1) := by decide +kernel
theorem dX5_heavy_18 : decode cX5_heavy 18 = .ok (.getfield 28, 3) := by decide +kernel
theorem dX5_heavy_21 : decode cX5_heavy 21 = .ok (.iload_n 1, 1) := by decide +kernel
theorem dX5_heavy_22 : decode cX5_heavy 22 = .ok (.iaload, 1) := by decide +kernel
theorem dX5_heavy_23 : decode cX5_heavy 23 = .ok (.iload_n 2, 1) := by decide +kernel
theorem dX5_heavy_24 : decode cX5_heavy 24 = .ok (.ishr, 1) := by decide +kernel
theorem dX5_heavy_25 : decode cX5_heavy 25 = .ok (.iconst 1, 1) := by decide +kernel
theorem dX5_heavy_26 : decode cX5_heavy 26 = .ok (.iand, 1) := by decide +kernel
theorem dX5_heavy_27 : decode cX5_heavy 27 = .ok (.ifCond .ne 8, 3) := by decide +kernel
theorem dX5_heavy_30 : decode cX5_heavy 30 = .ok (.bipush (-6), 2) := by decide +kernel
theorem dX5_heavy_32 : decode cX5_heavy 32 = .ok (.goto 18, 3) := by decide +kernel
theorem dX5_heavy_35 : decode cX5_heavy 35 = .ok (.aload_n 0, 1) := by decide +kernel
theorem dX5_heavy_36 : decode cX5_heavy 36 = .ok (.iload_n 1, 1) := by decide +kernel
theorem dX5_heavy_37 : decode cX5_heavy 37 = .ok (.iload_n 2, 1) := by decide +kernel
theorem dX5_heavy_38 : decode cX5_heavy 38 = .ok (.aload_n 0, 1) := by decide +kernel
theorem dX5_heavy_39 : decode cX5_heavy 39 = .ok (.iload_n 2, 1) := by decide +kernel
theorem dX5_heavy_40 : decode cX5_heavy 40 = .ok (.invokevirtual 195, 3) := by decide +kernel
theorem dX5_heavy_43 : decode cX5_heavy 43 = .ok (.invokevirtual 198, 3) := by decide +kernel
theorem dX5_heavy_46 : decode cX5_heavy 46 = .ok (.sipush 1000, 3) := by decide +kernel
theorem dX5_heavy_49 : decode cX5_heavy 49 = .ok (.iadd, 1) := by decide +kernel
theorem dX5_heavy_50 : decode cX5_heavy 50 = .ok (.ireturn, 1) := by decide +kernel
theorem dX5_carries_0 : decode cX5_carries 0 = .ok (.aload_n 0, 1) := by decide +kernel
theorem dX5_carries_1 : decode cX5_carries 1 = .ok (.iload_n 1, 1) := by decide +kernel
theorem dX5_carries_2 : decode cX5_carries 2 = .ok (.invokevirtual 143, 3) := by decide +kernel
theorem dX5_carries_5 : decode cX5_carries 5 = .ok (.ifCond .eq 11, 3) := by decide +kernel
theorem dX5_carries_8 : decode cX5_carries 8 = .ok (.aload_n 0, 1) := by decide +kernel
theorem dX5_carries_9 : decode cX5_carries 9 = .ok (.iload_n 1, 1) := by decide +kernel
theorem dX5_carries_10 : decode cX5_carries 10 = .ok (.invokevirtual 206, 3) := by decide +kernel
theorem dX5_carries_13 : decode cX5_carries 13 = .ok (.goto 4, 3) := by decide +kernel
theorem dX5_carries_16 : decode cX5_carries 16 = .ok (.iconst (-1), 1) := by decide +kernel
theorem dX5_carries_17 : decode cX5_carries 17 = .ok (.ireturn, 1) := by decide +kernel
theorem dX5_bent_0 : decode cX5_bent 0 = .ok (.aload_n 0, 1) := by decide +kernel
theorem dX5_bent_1 : decode cX5_bent 1 = .ok (.iload_n 1, 1) := by decide +kernel
theorem dX5_bent_2 : decode cX5_bent 2 = .ok (.invokevirtual 140, 3) := by decide +kernel
theorem dX5_bent_5 : decode cX5_bent 5 = .ok (.ifCond .eq 12, 3) := by decide +kernel
theorem dX5_bent_8 : decode cX5_bent 8 = .ok (.aload_n 0, 1) := by decide +kernel
theorem dX5_bent_9 : decode cX5_bent 9 = .ok (.getfield 19, 3) := by decide +kernel
theorem dX5_bent_12 : decode cX5_bent 12 = .ok (.iload_n 1, 1) := by decide +kernel
theorem dX5_bent_13 : decode cX5_bent 13 = .ok (.iaload, 1) := by decide +kernel
theorem dX5_bent_14 : decode cX5_bent 14 = .ok (.goto 4, 3) := by decide +kernel
theorem dX5_bent_17 : decode cX5_bent 17 = .ok (.iconst (-1), 1) := by decide +kernel
theorem dX5_bent_18 : decode cX5_bent 18 = .ok (.ireturn, 1) := by decide +kernel
theorem dX5_tell_0 : decode cX5_tell 0 = .ok (.aload_n 0, 1) := by decide +kernel
theorem dX5_tell_1 : decode cX5_tell 1 = .ok (.iload_n 1, 1) := by decide +kernel
theorem dX5_tell_2 : decode cX5_tell 2 = .ok (.invokevirtual 143, 3) := by decide +kernel
theorem dX5_tell_5 : decode cX5_tell 5 = .ok (.ifCond .eq 11, 3) := by decide +kernel
theorem dX5_tell_8 : decode cX5_tell 8 = .ok (.aload_n 0, 1) := by decide +kernel
theorem dX5_tell_9 : decode cX5_tell 9 = .ok (.iload_n 2, 1) := by decide +kernel
theorem dX5_tell_10 : decode cX5_tell 10 = .ok (.invokevirtual 143, 3) := by decide +kernel
theorem dX5_tell_13 : decode cX5_tell 13 = .ok (.ifCond .ne 5, 3) := by decide +kernel
theorem dX5_tell_16 : decode cX5_tell 16 = .ok (.iconst 1, 1) := by decide +kernel
theorem dX5_tell_17 : decode cX5_tell 17 = .ok (.ireturn, 1) := by decide +kernel
theorem dX5_tell_18 : decode cX5_tell 18 = .ok (.iload_n 1, 1) := by decide +kernel
theorem dX5_tell_19 : decode cX5_tell 19 = .ok (.iload_n 2, 1) := by decide +kernel
theorem dX5_tell_20 : decode cX5_tell 20 = .ok (.if_icmp .eq 18, 3) := by decide +kernel
theorem dX5_tell_23 : decode cX5_tell 23 = .ok (.aload_n 0, 1) := by decide +kernel
theorem dX5_tell_24 : decode cX5_tell 24 = .ok (.getfield 22, 3) := by decide +kernel
theorem dX5_tell_27 : decode cX5_tell 27 = .ok (.iload_n 1, 1) := by decide +kernel
theorem dX5_tell_28 : decode cX5_tell 28 = .ok (.iaload, 1) := by decide +kernel
theorem dX5_tell_29 : decode cX5_tell 29 = .ok (.aload_n 0, 1) := by decide +kernel
theorem dX5_tell_30 : decode cX5_tell 30 = .ok (.getfield 22, 3) := by decide +kernel
theorem dX5_tell_33 : decode cX5_tell 33 = .ok (.iload_n 2, 1) := by decide +kernel
theorem dX5_tell_34 : decode cX5_tell 34 = .ok (.iaload, 1) := by decide +kernel
theorem dX5_tell_35 : decode cX5_tell 35 = .ok (.if_icmp .eq 5, 3) := by decide +kernel
theorem dX5_tell_38 : decode cX5_tell 38 = .ok (.iconst 2, 1) := by decide +kernel
theorem dX5_tell_39 : decode cX5_tell 39 = .ok (.ireturn, 1) := by decide +kernel
theorem dX5_tell_40 : decode cX5_tell 40 = .ok (.aload_n 0, 1) := by decide +kernel
theorem dX5_tell_41 : decode cX5_tell 41 = .ok (.getfield 28, 3) := by decide +kernel
theorem dX5_tell_44 : decode cX5_tell 44 = .ok (.iload_n 1, 1) := by decide +kernel
theorem dX5_tell_45 : decode cX5_tell 45 = .ok (.iaload, 1) := by decide +kernel
theorem dX5_tell_46 : decode cX5_tell 46 = .ok (.iload_n 3, 1) := by decide +kernel
theorem dX5_tell_47 : decode cX5_tell 47 = .ok (.ishr, 1) := by decide +kernel
theorem dX5_tell_48 : decode cX5_tell 48 = .ok (.iconst 1, 1) := by decide +kernel
theorem dX5_tell_49 : decode cX5_tell 49 = .ok (.iand, 1) := by decide +kernel
theorem dX5_tell_50 : decode cX5_tell 50 = .ok (.ifCond .ne 5, 3) := by decide +kernel
theorem dX5_tell_53 : decode cX5_tell 53 = .ok (.iconst 3, 1) := by decide +kernel
theorem dX5_tell_54 : decode cX5_tell 54 = .ok (.ireturn, 1) := by decide +kernel
theorem dX5_tell_55 : decode cX5_tell 55 = .ok (.aload_n 0, 1) := by decide +kernel
theorem dX5_tell_56 : decode cX5_tell 56 = .ok (.getfield 28, 3) := by decide +kernel
theorem dX5_tell_59 : decode cX5_tell 59 = .ok (.iload_n 2, 1) := by decide +kernel
theorem dX5_tell_60 : decode cX5_tell 60 = .ok (.iaload, 1) := by decide +kernel
theorem dX5_tell_61 : decode cX5_tell 61 = .ok (.iload_n 3, 1) := by decide +kernel
theorem dX5_tell_62 : decode cX5_tell 62 = .ok (.ishr, 1) := by decide +kernel
theorem dX5_tell_63 : decode cX5_tell 63 = .ok (.iconst 1, 1) := by decide +kernel
theorem dX5_tell_64 : decode cX5_tell 64 = .ok (.iand, 1) := by decide +kernel
theorem dX5_tell_65 : decode cX5_tell 65 = .ok (.iconst 1, 1) := by decide +kernel
theorem dX5_tell_66 : decode cX5_tell 66 = .ok (.if_icmp .ne 5, 3) := by decide +kernel
theorem dX5_tell_69 : decode cX5_tell 69 = .ok (.iconst 4, 1) := by decide +kernel
theorem dX5_tell_70 : decode cX5_tell 70 = .ok (.ireturn, 1) := by decide +kernel
theorem dX5_tell_71 : decode cX5_tell 71 = .ok (.aload_n 0, 1) := by decide +kernel
theorem dX5_tell_72 : decode cX5_tell 72 = .ok (.getfield 28, 3) := by decide +kernel
theorem dX5_tell_75 : decode cX5_tell 75 = .ok (.iload_n 2, 1) := by decide +kernel
theorem dX5_tell_76 : decode cX5_tell 76 = .ok (.dup2, 1) := by decide +kernel
theorem dX5_tell_77 : decode cX5_tell 77 = .ok (.iaload, 1) := by decide +kernel
theorem dX5_tell_78 : decode cX5_tell 78 = .ok (.iconst 1, 1) := by decide +kernel
theorem dX5_tell_79 : decode cX5_tell 79 = .ok (.iload_n 3, 1) := by decide +kernel
theorem dX5_tell_80 : decode cX5_tell 80 = .ok (.ishl, 1) := by decide +kernel
theorem dX5_tell_81 : decode cX5_tell 81 = .ok (.ior, 1) := by decide +kernel
theorem dX5_tell_82 : decode cX5_tell 82 = .ok (.iastore, 1) := by decide +kernel
theorem dX5_tell_83 : decode cX5_tell 83 = .ok (.aload_n 0, 1) := by decide +kernel
theorem dX5_tell_84 : decode cX5_tell 84 = .ok (.dup, 1) := by decide +kernel
theorem dX5_tell_85 : decode cX5_tell 85 = .ok (.getfield 209, 3) := by decide +kernel
theorem dX5_tell_88 : decode cX5_tell 88 = .ok (.iconst 1, 1) := by decide +kernel
theorem dX5_tell_89 : decode cX5_tell 89 = .ok (.iadd, 1) := by decide +kernel
theorem dX5_tell_90 : decode cX5_tell 90 = .ok (.putfield 209, 3) := by decide +kernel
theorem dX5_tell_93 : decode cX5_tell 93 = .ok (.iconst 0, 1) := by decide +kernel
theorem dX5_tell_94 : decode cX5_tell 94 = .ok (.ireturn, 1) := by decide +kernel
theorem dX5_cross_0 : decode cX5_cross 0 = .ok (.aload_n 0, 1) := by decide +kernel
theorem dX5_cross_1 : decode cX5_cross 1 = .ok (.iload_n 1, 1) := by decide +kernel
theorem dX5_cross_2 : decode cX5_cross 2 = .ok (.invokevirtual 143, 3) := by decide +kernel
theorem dX5_cross_5 : decode cX5_cross 5 = .ok (.ifCond .ne 5, 3) := by decide +kernel
theorem dX5_cross_8 : decode cX5_cross 8 = .ok (.iconst 1, 1) := by decide +kernel
theorem dX5_cross_9 : decode cX5_cross 9 = .ok (.ireturn, 1) := by decide +kernel
theorem dX5_cross_10 : decode cX5_cross 10 = .ok (.aload_n 0, 1) := by decide +kernel
theorem dX5_cross_11 : decode cX5_cross 11 = .ok (.iload_n 2, 1) := by decide +kernel
theorem dX5_cross_12 : decode cX5_cross 12 = .ok (.invokevirtual 140, 3) := by decide +kernel
theorem dX5_cross_15 : decode cX5_cross 15 = .ok (.ifCond .ne 5, 3) := by decide +kernel
theorem dX5_cross_18 : decode cX5_cross 18 = .ok (.iconst 5, 1) := by decide +kernel
theorem dX5_cross_19 : decode cX5_cross 19 = .ok (.ireturn, 1) := by decide +kernel
theorem dX5_cross_20 : decode cX5_cross 20 = .ok (.aload_n 0, 1) := by decide +kernel
theorem dX5_cross_21 : decode cX5_cross 21 = .ok (.getfield 22, 3) := by decide +kernel
theorem dX5_cross_24 : decode cX5_cross 24 = .ok (.iload_n 1, 1) := by decide +kernel
theorem dX5_cross_25 : decode cX5_cross 25 = .ok (.iaload, 1) := by decide +kernel
theorem dX5_cross_26 : decode cX5_cross 26 = .ok (.aload_n 0, 1) := by decide +kernel
theorem dX5_cross_27 : decode cX5_cross 27 = .ok (.getfield 7, 3) := by decide +kernel
theorem dX5_cross_30 : decode cX5_cross 30 = .ok (.iload_n 2, 1) := by decide +kernel
theorem dX5_cross_31 : decode cX5_cross 31 = .ok (.iaload, 1) := by decide +kernel
theorem dX5_cross_32 : decode cX5_cross 32 = .ok (.if_icmp .eq 21, 3) := by decide +kernel
theorem dX5_cross_35 : decode cX5_cross 35 = .ok (.aload_n 0, 1) := by decide +kernel
theorem dX5_cross_36 : decode cX5_cross 36 = .ok (.getfield 22, 3) := by decide +kernel
theorem dX5_cross_39 : decode cX5_cross 39 = .ok (.iload_n 1, 1) := by decide +kernel
theorem dX5_cross_40 : decode cX5_cross 40 = .ok (.iaload, 1) := by decide +kernel
theorem dX5_cross_41 : decode cX5_cross 41 = .ok (.aload_n 0, 1) := by decide +kernel
theorem dX5_cross_42 : decode cX5_cross 42 = .ok (.getfield 13, 3) := by decide +kernel
theorem dX5_cross_45 : decode cX5_cross 45 = .ok (.iload_n 2, 1) := by decide +kernel
theorem dX5_cross_46 : decode cX5_cross 46 = .ok (.iaload, 1) := by decide +kernel
theorem dX5_cross_47 : decode cX5_cross 47 = .ok (.if_icmp .eq 6, 3) := by decide +kernel
theorem dX5_cross_50 : decode cX5_cross 50 = .ok (.bipush 6, 2) := by decide +kernel
theorem dX5_cross_52 : decode cX5_cross 52 = .ok (.ireturn, 1) := by decide +kernel
theorem dX5_cross_53 : decode cX5_cross 53 = .ok (.aload_n 0, 1) := by decide +kernel
theorem dX5_cross_54 : decode cX5_cross 54 = .ok (.iload_n 1, 1) := by decide +kernel
theorem dX5_cross_55 : decode cX5_cross 55 = .ok (.invokevirtual 206, 3) := by decide +kernel
theorem dX5_cross_58 : decode cX5_cross 58 = .ok (.istore_n 3, 1) := by decide +kernel
theorem dX5_cross_59 : decode cX5_cross 59 = .ok (.iload_n 3, 1) := by decide +kernel
theorem dX5_cross_60 : decode cX5_cross 60 = .ok (.aload_n 0, 1) := by decide +kernel
theorem dX5_cross_61 : decode cX5_cross 61 = .ok (.getfield 16, 3) := by decide +kernel
theorem dX5_cross_64 : decode cX5_cross 64 = .ok (.iload_n 2, 1) := by decide +kernel
theorem dX5_cross_65 : decode cX5_cross 65 = .ok (.iaload, 1) := by decide +kernel
theorem dX5_cross_66 : decode cX5_cross 66 = .ok (.if_icmp .le 6, 3) := by decide +kernel
theorem dX5_cross_69 : decode cX5_cross 69 = .ok (.bipush 7, 2) := by decide +kernel
theorem dX5_cross_71 : decode cX5_cross 71 = .ok (.ireturn, 1) := by decide +kernel
theorem dX5_cross_72 : decode cX5_cross 72 = .ok (.aload_n 0, 1) := by decide +kernel
theorem dX5_cross_73 : decode cX5_cross 73 = .ok (.getfield 19, 3) := by decide +kernel
theorem dX5_cross_76 : decode cX5_cross 76 = .ok (.iload_n 2, 1) := by decide +kernel
theorem dX5_cross_77 : decode cX5_cross 77 = .ok (.iload_n 3, 1) := by decide +kernel
theorem dX5_cross_78 : decode cX5_cross 78 = .ok (.aload_n 0, 1) := by decide +kernel
theorem dX5_cross_79 : decode cX5_cross 79 = .ok (.getfield 19, 3) := by decide +kernel
theorem dX5_cross_82 : decode cX5_cross 82 = .ok (.iload_n 2, 1) := by decide +kernel
theorem dX5_cross_83 : decode cX5_cross 83 = .ok (.iaload, 1) := by decide +kernel
theorem dX5_cross_84 : decode cX5_cross 84 = .ok (.if_icmp .le 7, 3) := by decide +kernel
theorem dX5_cross_87 : decode cX5_cross 87 = .ok (.iload_n 3, 1) := by decide +kernel
theorem dX5_cross_88 : decode cX5_cross 88 = .ok (.goto 9, 3) := by decide +kernel
theorem dX5_cross_91 : decode cX5_cross 91 = .ok (.aload_n 0, 1) := by decide +kernel
theorem dX5_cross_92 : decode cX5_cross 92 = .ok (.getfield 19, 3) := by decide +kernel
theorem dX5_cross_95 : decode cX5_cross 95 = .ok (.iload_n 2, 1) := by decide +kernel
theorem dX5_cross_96 : decode cX5_cross 96 = .ok (.iaload, 1) := by decide +kernel
theorem dX5_cross_97 : decode cX5_cross 97 = .ok (.iastore, 1) := by decide +kernel
theorem dX5_cross_98 : decode cX5_cross 98 = .ok (.aload_n 0, 1) := by decide +kernel
theorem dX5_cross_99 : decode cX5_cross 99 = .ok (.getfield 22, 3) := by decide +kernel
theorem dX5_cross_102 : decode cX5_cross 102 = .ok (.iload_n 1, 1) := by decide +kernel
theorem dX5_cross_103 : decode cX5_cross 103 = .ok (.aload_n 0, 1) := by decide +kernel
theorem dX5_cross_104 : decode cX5_cross 104 = .ok (.getfield 7, 3) := by decide +kernel
theorem dX5_cross_107 : decode cX5_cross 107 = .ok (.iload_n 2, 1) := by decide +kernel
theorem dX5_cross_108 : decode cX5_cross 108 = .ok (.iaload, 1) := by decide +kernel
theorem dX5_cross_109 : decode cX5_cross 109 = .ok (.aload_n 0, 1) := by decide +kernel
theorem dX5_cross_110 : decode cX5_cross 110 = .ok (.getfield 13, 3) := by decide +kernel
theorem dX5_cross_113 : decode cX5_cross 113 = .ok (.iload_n 2, 1) := by decide +kernel
theorem dX5_cross_114 : decode cX5_cross 114 = .ok (.iaload, 1) := by decide +kernel
theorem dX5_cross_115 : decode cX5_cross 115 = .ok (.iadd, 1) := by decide +kernel
theorem dX5_cross_116 : decode cX5_cross 116 = .ok (.aload_n 0, 1) := by decide +kernel
theorem dX5_cross_117 : decode cX5_cross 117 = .ok (.getfield 22, 3) := by decide +kernel
theorem dX5_cross_120 : decode cX5_cross 120 = .ok (.iload_n 1, 1) := by decide +kernel
theorem dX5_cross_121 : decode cX5_cross 121 = .ok (.iaload, 1) := by decide +kernel
theorem dX5_cross_122 : decode cX5_cross 122 = .ok (.isub, 1) := by decide +kernel
theorem dX5_cross_123 : decode cX5_cross 123 = .ok (.iastore, 1) := by decide +kernel
theorem dX5_cross_124 : decode cX5_cross 124 = .ok (.aload_n 0, 1) := by decide +kernel
theorem dX5_cross_125 : decode cX5_cross 125 = .ok (.dup, 1) := by decide +kernel
theorem dX5_cross_126 : decode cX5_cross 126 = .ok (.getfield 212, 3) := by decide +kernel
theorem dX5_cross_129 : decode cX5_cross 129 = .ok (.iconst 1, 1) := by decide +kernel
theorem dX5_cross_130 : decode cX5_cross 130 = .ok (.iadd, 1) := by decide +kernel
theorem dX5_cross_131 : decode cX5_cross 131 = .ok (.putfield 212, 3) := by decide +kernel
theorem dX5_cross_134 : decode cX5_cross 134 = .ok (.iconst 0, 1) := by decide +kernel
theorem dX5_cross_135 : decode cX5_cross 135 = .ok (.ireturn, 1) := by decide +kernel
theorem dX5_publish_0 : decode cX5_publish 0 = .ok (.aload_n 0, 1) := by decide +kernel
theorem dX5_publish_1 : decode cX5_publish 1 = .ok (.getfield 112, 3) := by decide +kernel
theorem dX5_publish_4 : decode cX5_publish 4 = .ok (.iload_n 1, 1) := by decide +kernel
theorem dX5_publish_5 : decode cX5_publish 5 = .ok (.ishr, 1) := by decide +kernel
theorem dX5_publish_6 : decode cX5_publish 6 = .ok (.iconst 1, 1) := by decide +kernel
theorem dX5_publish_7 : decode cX5_publish 7 = .ok (.iand, 1) := by decide +kernel
theorem dX5_publish_8 : decode cX5_publish 8 = .ok (.iconst 1, 1) := by decide +kernel
theorem dX5_publish_9 : decode cX5_publish 9 = .ok (.if_icmp .ne 6, 3) := by decide +kernel
theorem dX5_publish_12 : decode cX5_publish 12 = .ok (.bipush 8, 2) := by decide +kernel
theorem dX5_publish_14 : decode cX5_publish 14 = .ok (.ireturn, 1) := by decide +kernel
theorem dX5_publish_15 : decode cX5_publish 15 = .ok (.aload_n 0, 1) := by decide +kernel
theorem dX5_publish_16 : decode cX5_publish 16 = .ok (.dup, 1) := by decide +kernel
theorem dX5_publish_17 : decode cX5_publish 17 = .ok (.getfield 112, 3) := by decide +kernel
theorem dX5_publish_20 : decode cX5_publish 20 = .ok (.iconst 1, 1) := by decide +kernel
theorem dX5_publish_21 : decode cX5_publish 21 = .ok (.iload_n 1, 1) := by decide +kernel
theorem dX5_publish_22 : decode cX5_publish 22 = .ok (.ishl, 1) := by decide +kernel
theorem dX5_publish_23 : decode cX5_publish 23 = .ok (.ior, 1) := by decide +kernel
theorem dX5_publish_24 : decode cX5_publish 24 = .ok (.putfield 112, 3) := by decide +kernel
theorem dX5_publish_27 : decode cX5_publish 27 = .ok (.iconst 0, 1) := by decide +kernel
theorem dX5_publish_28 : decode cX5_publish 28 = .ok (.ireturn, 1) := by decide +kernel
theorem dX5_happen_0 : decode cX5_happen 0 = .ok (.aload_n 0, 1) := by decide +kernel
theorem dX5_happen_1 : decode cX5_happen 1 = .ok (.getfield 46, 3) := by decide +kernel
theorem dX5_happen_4 : decode cX5_happen 4 = .ok (.iload_n 1, 1) := by decide +kernel
theorem dX5_happen_5 : decode cX5_happen 5 = .ok (.iaload, 1) := by decide +kernel
theorem dX5_happen_6 : decode cX5_happen 6 = .ok (.ifCond .ne 26, 3) := by decide +kernel
theorem dX5_happen_9 : decode cX5_happen 9 = .ok (.aload_n 0, 1) := by decide +kernel
theorem dX5_happen_10 : decode cX5_happen 10 = .ok (.aload_n 0, 1) := by decide +kernel
theorem dX5_happen_11 : decode cX5_happen 11 = .ok (.getfield 49, 3) := by decide +kernel
theorem dX5_happen_14 : decode cX5_happen 14 = .ok (.iload_n 1, 1) := by decide +kernel
theorem dX5_happen_15 : decode cX5_happen 15 = .ok (.iaload, 1) := by decide +kernel
theorem dX5_happen_16 : decode cX5_happen 16 = .ok (.aload_n 0, 1) := by decide +kernel
theorem dX5_happen_17 : decode cX5_happen 17 = .ok (.getfield 52, 3) := by decide +kernel
theorem dX5_happen_20 : decode cX5_happen 20 = .ok (.iload_n 1, 1) := by decide +kernel
theorem dX5_happen_21 : decode cX5_happen 21 = .ok (.iaload, 1) := by decide +kernel
theorem dX5_happen_22 : decode cX5_happen 22 = .ok (.aload_n 0, 1) := by decide +kernel
theorem dX5_happen_23 : decode cX5_happen 23 = .ok (.getfield 55, 3) := by decide +kernel
theorem dX5_happen_26 : decode cX5_happen 26 = .ok (.iload_n 1, 1) := by decide +kernel
theorem dX5_happen_27 : decode cX5_happen 27 = .ok (.iaload, 1) := by decide +kernel
theorem dX5_happen_28 : decode cX5_happen 28 = .ok (.invokevirtual 215, 3) := by decide +kernel
theorem dX5_happen_31 : decode cX5_happen 31 = .ok (.ireturn, 1) := by decide +kernel
theorem dX5_happen_32 : decode cX5_happen 32 = .ok (.aload_n 0, 1) := by decide +kernel
theorem dX5_happen_33 : decode cX5_happen 33 = .ok (.getfield 46, 3) := by decide +kernel
theorem dX5_happen_36 : decode cX5_happen 36 = .ok (.iload_n 1, 1) := by decide +kernel
theorem dX5_happen_37 : decode cX5_happen 37 = .ok (.iaload, 1) := by decide +kernel
theorem dX5_happen_38 : decode cX5_happen 38 = .ok (.iconst 1, 1) := by decide +kernel
theorem dX5_happen_39 : decode cX5_happen 39 = .ok (.if_icmp .ne 20, 3) := by decide +kernel
theorem dX5_happen_42 : decode cX5_happen 42 = .ok (.aload_n 0, 1) := by decide +kernel
theorem dX5_happen_43 : decode cX5_happen 43 = .ok (.aload_n 0, 1) := by decide +kernel
theorem dX5_happen_44 : decode cX5_happen 44 = .ok (.getfield 49, 3) := by decide +kernel
theorem dX5_happen_47 : decode cX5_happen 47 = .ok (.iload_n 1, 1) := by decide +kernel
theorem dX5_happen_48 : decode cX5_happen 48 = .ok (.iaload, 1) := by decide +kernel
theorem dX5_happen_49 : decode cX5_happen 49 = .ok (.aload_n 0, 1) := by decide +kernel
theorem dX5_happen_50 : decode cX5_happen 50 = .ok (.getfield 55, 3) := by decide +kernel
theorem dX5_happen_53 : decode cX5_happen 53 = .ok (.iload_n 1, 1) := by decide +kernel
theorem dX5_happen_54 : decode cX5_happen 54 = .ok (.iaload, 1) := by decide +kernel
theorem dX5_happen_55 : decode cX5_happen 55 = .ok (.invokevirtual 218, 3) := by decide +kernel
theorem dX5_happen_58 : decode cX5_happen 58 = .ok (.ireturn, 1) := by decide +kernel
theorem dX5_happen_59 : decode cX5_happen 59 = .ok (.aload_n 0, 1) := by decide +kernel
theorem dX5_happen_60 : decode cX5_happen 60 = .ok (.getfield 46, 3) := by decide +kernel
theorem dX5_happen_63 : decode cX5_happen 63 = .ok (.iload_n 1, 1) := by decide +kernel
theorem dX5_happen_64 : decode cX5_happen 64 = .ok (.iaload, 1) := by decide +kernel
theorem dX5_happen_65 : decode cX5_happen 65 = .ok (.iconst 2, 1) := by decide +kernel
theorem dX5_happen_66 : decode cX5_happen 66 = .ok (.if_icmp .ne 14, 3) := by decide +kernel
theorem dX5_happen_69 : decode cX5_happen 69 = .ok (.aload_n 0, 1) := by decide +kernel
theorem dX5_happen_70 : decode cX5_happen 70 = .ok (.aload_n 0, 1) := by decide +kernel
theorem dX5_happen_71 : decode cX5_happen 71 = .ok (.getfield 55, 3) := by decide +kernel
theorem dX5_happen_74 : decode cX5_happen 74 = .ok (.iload_n 1, 1) := by decide +kernel
theorem dX5_happen_75 : decode cX5_happen 75 = .ok (.iaload, 1) := by decide +kernel
theorem dX5_happen_76 : decode cX5_happen 76 = .ok (.invokevirtual 221, 3) := by decide +kernel
theorem dX5_happen_79 : decode cX5_happen 79 = .ok (.ireturn, 1) := by decide +kernel
theorem dX5_happen_80 : decode cX5_happen 80 = .ok (.aload_n 0, 1) := by decide +kernel
theorem dX5_happen_81 : decode cX5_happen 81 = .ok (.invokevirtual 224, 3) := by decide +kernel
theorem dX5_happen_84 : decode cX5_happen 84 = .ok (.aload_n 0, 1) := by decide +kernel
theorem dX5_happen_85 : decode cX5_happen 85 = .ok (.dup, 1) := by decide +kernel
theorem dX5_happen_86 : decode cX5_happen 86 = .ok (.getfield 227, 3) := by decide +kernel
theorem dX5_happen_89 : decode cX5_happen 89 = .ok (.iconst 1, 1) := by decide +kernel
theorem dX5_happen_90 : decode cX5_happen 90 = .ok (.iadd, 1) := by decide +kernel
theorem dX5_happen_91 : decode cX5_happen 91 = .ok (.putfield 227, 3) := by decide +kernel
theorem dX5_happen_94 : decode cX5_happen 94 = .ok (.iconst 0, 1) := by decide +kernel
theorem dX5_happen_95 : decode cX5_happen 95 = .ok (.ireturn, 1) := by decide +kernel
theorem dX5_keepNow_0 : decode cX5_keepNow 0 = .ok (.iconst 0, 1) := by decide +kernel
theorem dX5_keepNow_1 : decode cX5_keepNow 1 = .ok (.istore_n 1, 1) := by decide +kernel
theorem dX5_keepNow_2 : decode cX5_keepNow 2 = .ok (.iload_n 1, 1) := by decide +kernel
theorem dX5_keepNow_3 : decode cX5_keepNow 3 = .ok (.bipush 6, 2) := by decide +kernel
theorem dX5_keepNow_5 : decode cX5_keepNow 5 = .ok (.if_icmp .ge 33, 3) := by decide +kernel
theorem dX5_keepNow_8 : decode cX5_keepNow 8 = .ok (.aload_n 0, 1) := by decide +kernel
theorem dX5_keepNow_9 : decode cX5_keepNow 9 = .ok (.getfield 58, 3) := by decide +kernel
theorem dX5_keepNow_12 : decode cX5_keepNow 12 = .ok (.iload_n 1, 1) := by decide +kernel
theorem dX5_keepNow_13 : decode cX5_keepNow 13 = .ok (.aload_n 0, 1) := by decide +kernel
theorem dX5_keepNow_14 : decode cX5_keepNow 14 = .ok (.getfield 22, 3) := by decide +kernel
theorem dX5_keepNow_17 : decode cX5_keepNow 17 = .ok (.iload_n 1, 1) := by decide +kernel
theorem dX5_keepNow_18 : decode cX5_keepNow 18 = .ok (.iaload, 1) := by decide +kernel
theorem dX5_keepNow_19 : decode cX5_keepNow 19 = .ok (.iastore, 1) := by decide +kernel
theorem dX5_keepNow_20 : decode cX5_keepNow 20 = .ok (.aload_n 0, 1) := by decide +kernel
theorem dX5_keepNow_21 : decode cX5_keepNow 21 = .ok (.getfield 61, 3) := by decide +kernel
theorem dX5_keepNow_24 : decode cX5_keepNow 24 = .ok (.iload_n 1, 1) := by decide +kernel
theorem dX5_keepNow_25 : decode cX5_keepNow 25 = .ok (.aload_n 0, 1) := by decide +kernel
theorem dX5_keepNow_26 : decode cX5_keepNow 26 = .ok (.getfield 28, 3) := by decide +kernel
theorem dX5_keepNow_29 : decode cX5_keepNow 29 = .ok (.iload_n 1, 1) := by decide +kernel
theorem dX5_keepNow_30 : decode cX5_keepNow 30 = .ok (.iaload, 1) := by decide +kernel
theorem dX5_keepNow_31 : decode cX5_keepNow 31 = .ok (.iastore, 1) := by decide +kernel
theorem dX5_keepNow_32 : decode cX5_keepNow 32 = .ok (.iinc 1 1, 3) := by decide +kernel
theorem dX5_keepNow_35 : decode cX5_keepNow 35 = .ok (.goto (-33), 3) := by decide +kernel
theorem dX5_keepNow_38 : decode cX5_keepNow 38 = .ok (.iconst 0, 1) := by decide +kernel
theorem dX5_keepNow_39 : decode cX5_keepNow 39 = .ok (.istore_n 1, 1) := by decide +kernel
theorem dX5_keepNow_40 : decode cX5_keepNow 40 = .ok (.iload_n 1, 1) := by decide +kernel
theorem dX5_keepNow_41 : decode cX5_keepNow 41 = .ok (.bipush 8, 2) := by decide +kernel
theorem dX5_keepNow_43 : decode cX5_keepNow 43 = .ok (.if_icmp .ge 33, 3) := by decide +kernel
theorem dX5_keepNow_46 : decode cX5_keepNow 46 = .ok (.aload_n 0, 1) := by decide +kernel
theorem dX5_keepNow_47 : decode cX5_keepNow 47 = .ok (.getfield 64, 3) := by decide +kernel
theorem dX5_keepNow_50 : decode cX5_keepNow 50 = .ok (.iload_n 1, 1) := by decide +kernel
theorem dX5_keepNow_51 : decode cX5_keepNow 51 = .ok (.aload_n 0, 1) := by decide +kernel
theorem dX5_keepNow_52 : decode cX5_keepNow 52 = .ok (.getfield 31, 3) := by decide +kernel
theorem dX5_keepNow_55 : decode cX5_keepNow 55 = .ok (.iload_n 1, 1) := by decide +kernel
theorem dX5_keepNow_56 : decode cX5_keepNow 56 = .ok (.iaload, 1) := by decide +kernel
theorem dX5_keepNow_57 : decode cX5_keepNow 57 = .ok (.iastore, 1) := by decide +kernel
theorem dX5_keepNow_58 : decode cX5_keepNow 58 = .ok (.aload_n 0, 1) := by decide +kernel
theorem dX5_keepNow_59 : decode cX5_keepNow 59 = .ok (.getfield 67, 3) := by decide +kernel
theorem dX5_keepNow_62 : decode cX5_keepNow 62 = .ok (.iload_n 1, 1) := by decide +kernel
theorem dX5_keepNow_63 : decode cX5_keepNow 63 = .ok (.aload_n 0, 1) := by decide +kernel
theorem dX5_keepNow_64 : decode cX5_keepNow 64 = .ok (.getfield 19, 3) := by decide +kernel
theorem dX5_keepNow_67 : decode cX5_keepNow 67 = .ok (.iload_n 1, 1) := by decide +kernel
theorem dX5_keepNow_68 : decode cX5_keepNow 68 = .ok (.iaload, 1) := by decide +kernel
theorem dX5_keepNow_69 : decode cX5_keepNow 69 = .ok (.iastore, 1) := by decide +kernel
theorem dX5_keepNow_70 : decode cX5_keepNow 70 = .ok (.iinc 1 1, 3) := by decide +kernel
theorem dX5_keepNow_73 : decode cX5_keepNow 73 = .ok (.goto (-33), 3) := by decide +kernel
theorem dX5_keepNow_76 : decode cX5_keepNow 76 = .ok (.aload_n 0, 1) := by decide +kernel
theorem dX5_keepNow_77 : decode cX5_keepNow 77 = .ok (.aload_n 0, 1) := by decide +kernel
theorem dX5_keepNow_78 : decode cX5_keepNow 78 = .ok (.getfield 112, 3) := by decide +kernel
theorem dX5_keepNow_81 : decode cX5_keepNow 81 = .ok (.putfield 230, 3) := by decide +kernel
theorem dX5_keepNow_84 : decode cX5_keepNow 84 = .ok (.return_, 1) := by decide +kernel
theorem dX5_putBack_0 : decode cX5_putBack 0 = .ok (.iconst 0, 1) := by decide +kernel
theorem dX5_putBack_1 : decode cX5_putBack 1 = .ok (.istore_n 1, 1) := by decide +kernel
theorem dX5_putBack_2 : decode cX5_putBack 2 = .ok (.iload_n 1, 1) := by decide +kernel
theorem dX5_putBack_3 : decode cX5_putBack 3 = .ok (.bipush 6, 2) := by decide +kernel
theorem dX5_putBack_5 : decode cX5_putBack 5 = .ok (.if_icmp .ge 33, 3) := by decide +kernel
theorem dX5_putBack_8 : decode cX5_putBack 8 = .ok (.aload_n 0, 1) := by decide +kernel
theorem dX5_putBack_9 : decode cX5_putBack 9 = .ok (.getfield 22, 3) := by decide +kernel
theorem dX5_putBack_12 : decode cX5_putBack 12 = .ok (.iload_n 1, 1) := by decide +kernel
theorem dX5_putBack_13 : decode cX5_putBack 13 = .ok (.aload_n 0, 1) := by decide +kernel
theorem dX5_putBack_14 : decode cX5_putBack 14 = .ok (.getfield 58, 3) := by decide +kernel
theorem dX5_putBack_17 : decode cX5_putBack 17 = .ok (.iload_n 1, 1) := by decide +kernel
theorem dX5_putBack_18 : decode cX5_putBack 18 = .ok (.iaload, 1) := by decide +kernel
theorem dX5_putBack_19 : decode cX5_putBack 19 = .ok (.iastore, 1) := by decide +kernel
theorem dX5_putBack_20 : decode cX5_putBack 20 = .ok (.aload_n 0, 1) := by decide +kernel
theorem dX5_putBack_21 : decode cX5_putBack 21 = .ok (.getfield 28, 3) := by decide +kernel
theorem dX5_putBack_24 : decode cX5_putBack 24 = .ok (.iload_n 1, 1) := by decide +kernel
theorem dX5_putBack_25 : decode cX5_putBack 25 = .ok (.aload_n 0, 1) := by decide +kernel
theorem dX5_putBack_26 : decode cX5_putBack 26 = .ok (.getfield 61, 3) := by decide +kernel
theorem dX5_putBack_29 : decode cX5_putBack 29 = .ok (.iload_n 1, 1) := by decide +kernel
theorem dX5_putBack_30 : decode cX5_putBack 30 = .ok (.iaload, 1) := by decide +kernel
theorem dX5_putBack_31 : decode cX5_putBack 31 = .ok (.iastore, 1) := by decide +kernel
theorem dX5_putBack_32 : decode cX5_putBack 32 = .ok (.iinc 1 1, 3) := by decide +kernel
theorem dX5_putBack_35 : decode cX5_putBack 35 = .ok (.goto (-33), 3) := by decide +kernel
theorem dX5_putBack_38 : decode cX5_putBack 38 = .ok (.iconst 0, 1) := by decide +kernel
theorem dX5_putBack_39 : decode cX5_putBack 39 = .ok (.istore_n 1, 1) := by decide +kernel
theorem dX5_putBack_40 : decode cX5_putBack 40 = .ok (.iload_n 1, 1) := by decide +kernel
theorem dX5_putBack_41 : decode cX5_putBack 41 = .ok (.bipush 8, 2) := by decide +kernel
theorem dX5_putBack_43 : decode cX5_putBack 43 = .ok (.if_icmp .ge 33, 3) := by decide +kernel
theorem dX5_putBack_46 : decode cX5_putBack 46 = .ok (.aload_n 0, 1) := by decide +kernel
theorem dX5_putBack_47 : decode cX5_putBack 47 = .ok (.getfield 31, 3) := by decide +kernel
theorem dX5_putBack_50 : decode cX5_putBack 50 = .ok (.iload_n 1, 1) := by decide +kernel
theorem dX5_putBack_51 : decode cX5_putBack 51 = .ok (.aload_n 0, 1) := by decide +kernel
theorem dX5_putBack_52 : decode cX5_putBack 52 = .ok (.getfield 64, 3) := by decide +kernel
theorem dX5_putBack_55 : decode cX5_putBack 55 = .ok (.iload_n 1, 1) := by decide +kernel
theorem dX5_putBack_56 : decode cX5_putBack 56 = .ok (.iaload, 1) := by decide +kernel
theorem dX5_putBack_57 : decode cX5_putBack 57 = .ok (.iastore, 1) := by decide +kernel
theorem dX5_putBack_58 : decode cX5_putBack 58 = .ok (.aload_n 0, 1) := by decide +kernel
theorem dX5_putBack_59 : decode cX5_putBack 59 = .ok (.getfield 19, 3) := by decide +kernel
theorem dX5_putBack_62 : decode cX5_putBack 62 = .ok (.iload_n 1, 1) := by decide +kernel
theorem dX5_putBack_63 : decode cX5_putBack 63 = .ok (.aload_n 0, 1) := by decide +kernel
theorem dX5_putBack_64 : decode cX5_putBack 64 = .ok (.getfield 67, 3) := by decide +kernel
theorem dX5_putBack_67 : decode cX5_putBack 67 = .ok (.iload_n 1, 1) := by decide +kernel
theorem dX5_putBack_68 : decode cX5_putBack 68 = .ok (.iaload, 1) := by decide +kernel
theorem dX5_putBack_69 : decode cX5_putBack 69 = .ok (.iastore, 1) := by decide +kernel
theorem dX5_putBack_70 : decode cX5_putBack 70 = .ok (.iinc 1 1, 3) := by decide +kernel
theorem dX5_putBack_73 : decode cX5_putBack 73 = .ok (.goto (-33), 3) := by decide +kernel
theorem dX5_putBack_76 : decode cX5_putBack 76 = .ok (.aload_n 0, 1) := by decide +kernel
theorem dX5_putBack_77 : decode cX5_putBack 77 = .ok (.aload_n 0, 1) := by decide +kernel
theorem dX5_putBack_78 : decode cX5_putBack 78 = .ok (.getfield 230, 3) := by decide +kernel
theorem dX5_putBack_81 : decode cX5_putBack 81 = .ok (.putfield 112, 3) := by decide +kernel
theorem dX5_putBack_84 : decode cX5_putBack 84 = .ok (.return_, 1) := by decide +kernel
theorem dX5_goDay_0 : decode cX5_goDay 0 = .ok (.aload_n 0, 1) := by decide +kernel
theorem dX5_goDay_1 : decode cX5_goDay 1 = .ok (.bipush (-6), 2) := by decide +kernel
theorem dX5_goDay_3 : decode cX5_goDay 3 = .ok (.putfield 233, 3) := by decide +kernel
theorem dX5_goDay_6 : decode cX5_goDay 6 = .ok (.aload_n 0, 1) := by decide +kernel
theorem dX5_goDay_7 : decode cX5_goDay 7 = .ok (.bipush (-6), 2) := by decide +kernel
theorem dX5_goDay_9 : decode cX5_goDay 9 = .ok (.putfield 236, 3) := by decide +kernel
theorem dX5_goDay_12 : decode cX5_goDay 12 = .ok (.aload_n 0, 1) := by decide +kernel
theorem dX5_goDay_13 : decode cX5_goDay 13 = .ok (.iconst 0, 1) := by decide +kernel
theorem dX5_goDay_14 : decode cX5_goDay 14 = .ok (.putfield 209, 3) := by decide +kernel
theorem dX5_goDay_17 : decode cX5_goDay 17 = .ok (.aload_n 0, 1) := by decide +kernel
theorem dX5_goDay_18 : decode cX5_goDay 18 = .ok (.iconst 0, 1) := by decide +kernel
theorem dX5_goDay_19 : decode cX5_goDay 19 = .ok (.putfield 212, 3) := by decide +kernel
theorem dX5_goDay_22 : decode cX5_goDay 22 = .ok (.aload_n 0, 1) := by decide +kernel
theorem dX5_goDay_23 : decode cX5_goDay 23 = .ok (.iconst 0, 1) := by decide +kernel
theorem dX5_goDay_24 : decode cX5_goDay 24 = .ok (.putfield 227, 3) := by decide +kernel
theorem dX5_goDay_27 : decode cX5_goDay 27 = .ok (.iconst 0, 1) := by decide +kernel
theorem dX5_goDay_28 : decode cX5_goDay 28 = .ok (.istore_n 1, 1) := by decide +kernel
theorem dX5_goDay_29 : decode cX5_goDay 29 = .ok (.iload_n 1, 1) := by decide +kernel
theorem dX5_goDay_30 : decode cX5_goDay 30 = .ok (.aload_n 0, 1) := by decide +kernel
theorem dX5_goDay_31 : decode cX5_goDay 31 = .ok (.getfield 170, 3) := by decide +kernel
theorem dX5_goDay_34 : decode cX5_goDay 34 = .ok (.if_icmp .ge 50, 3) := by decide +kernel
theorem dX5_goDay_37 : decode cX5_goDay 37 = .ok (.aload_n 0, 1) := by decide +kernel
theorem dX5_goDay_38 : decode cX5_goDay 38 = .ok (.getfield 233, 3) := by decide +kernel
theorem dX5_goDay_41 : decode cX5_goDay 41 = .ok (.ifCond .ge 43, 3) := by decide +kernel
theorem dX5_goDay_44 : decode cX5_goDay 44 = .ok (.aload_n 0, 1) := by decide +kernel
theorem dX5_goDay_45 : decode cX5_goDay 45 = .ok (.iload_n 1, 1) := by decide +kernel
theorem dX5_goDay_46 : decode cX5_goDay 46 = .ok (.invokevirtual 239, 3) := by decide +kernel
theorem dX5_goDay_49 : decode cX5_goDay 49 = .ok (.istore_n 2, 1) := by decide +kernel
theorem dX5_goDay_50 : decode cX5_goDay 50 = .ok (.aload_n 0, 1) := by decide +kernel
theorem dX5_goDay_51 : decode cX5_goDay 51 = .ok (.iload_n 2, 1) := by decide +kernel
theorem dX5_goDay_52 : decode cX5_goDay 52 = .ok (.ifCond .le 7, 3) := by decide +kernel
theorem dX5_goDay_55 : decode cX5_goDay 55 = .ok (.iload_n 1, 1) := by decide +kernel
theorem dX5_goDay_56 : decode cX5_goDay 56 = .ok (.goto 5, 3) := by decide +kernel
theorem dX5_goDay_59 : decode cX5_goDay 59 = .ok (.bipush (-6), 2) := by decide +kernel
theorem dX5_goDay_61 : decode cX5_goDay 61 = .ok (.putfield 233, 3) := by decide +kernel
theorem dX5_goDay_64 : decode cX5_goDay 64 = .ok (.aload_n 0, 1) := by decide +kernel
theorem dX5_goDay_65 : decode cX5_goDay 65 = .ok (.iload_n 2, 1) := by decide +kernel
theorem dX5_goDay_66 : decode cX5_goDay 66 = .ok (.ifCond .le 7, 3) := by decide +kernel
theorem dX5_goDay_69 : decode cX5_goDay 69 = .ok (.iload_n 2, 1) := by decide +kernel
theorem dX5_goDay_70 : decode cX5_goDay 70 = .ok (.goto 5, 3) := by decide +kernel
theorem dX5_goDay_73 : decode cX5_goDay 73 = .ok (.bipush (-6), 2) := by decide +kernel
theorem dX5_goDay_75 : decode cX5_goDay 75 = .ok (.putfield 236, 3) := by decide +kernel
theorem dX5_goDay_78 : decode cX5_goDay 78 = .ok (.iinc 1 1, 3) := by decide +kernel
theorem dX5_goDay_81 : decode cX5_goDay 81 = .ok (.goto (-52), 3) := by decide +kernel
theorem dX5_goDay_84 : decode cX5_goDay 84 = .ok (.return_, 1) := by decide +kernel
theorem dX5_judge_0 : decode cX5_judge 0 = .ok (.iload_n 1, 1) := by decide +kernel
theorem dX5_judge_1 : decode cX5_judge 1 = .ok (.i2l, 1) := by decide +kernel
theorem dX5_judge_2 : decode cX5_judge 2 = .ok (.lconst 0, 1) := by decide +kernel
theorem dX5_judge_3 : decode cX5_judge 3 = .ok (.ldc2_w 242, 3) := by decide +kernel
theorem dX5_judge_6 : decode cX5_judge 6 = .ok (.invokestatic 118, 3) := by decide +kernel
theorem dX5_judge_9 : decode cX5_judge 9 = .ok (.ifCond .ne 6, 3) := by decide +kernel
theorem dX5_judge_12 : decode cX5_judge 12 = .ok (.bipush (-2), 2) := by decide +kernel
theorem dX5_judge_14 : decode cX5_judge 14 = .ok (.ireturn, 1) := by decide +kernel
theorem dX5_judge_15 : decode cX5_judge 15 = .ok (.aload_n 0, 1) := by decide +kernel
theorem dX5_judge_16 : decode cX5_judge 16 = .ok (.invokevirtual 244, 3) := by decide +kernel
theorem dX5_judge_19 : decode cX5_judge 19 = .ok (.ifCond .lt 6, 3) := by decide +kernel
theorem dX5_judge_22 : decode cX5_judge 22 = .ok (.bipush (-5), 2) := by decide +kernel
theorem dX5_judge_24 : decode cX5_judge 24 = .ok (.ireturn, 1) := by decide +kernel
theorem dX5_judge_25 : decode cX5_judge 25 = .ok (.aload_n 0, 1) := by decide +kernel
theorem dX5_judge_26 : decode cX5_judge 26 = .ok (.invokevirtual 248, 3) := by decide +kernel
theorem dX5_judge_29 : decode cX5_judge 29 = .ok (.aload_n 0, 1) := by decide +kernel
theorem dX5_judge_30 : decode cX5_judge 30 = .ok (.invokevirtual 251, 3) := by decide +kernel
theorem dX5_judge_33 : decode cX5_judge 33 = .ok (.aload_n 0, 1) := by decide +kernel
theorem dX5_judge_34 : decode cX5_judge 34 = .ok (.invokevirtual 254, 3) := by decide +kernel
theorem dX5_judge_37 : decode cX5_judge 37 = .ok (.iload_n 1, 1) := by decide +kernel
theorem dX5_judge_38 : decode cX5_judge 38 = .ok (.iconst 1, 1) := by decide +kernel
theorem dX5_judge_39 : decode cX5_judge 39 = .ok (.if_icmp .le 13, 3) := by decide +kernel
theorem dX5_judge_42 : decode cX5_judge 42 = .ok (.aload_n 0, 1) := by decide +kernel
theorem dX5_judge_43 : decode cX5_judge 43 = .ok (.getfield 233, 3) := by decide +kernel
theorem dX5_judge_46 : decode cX5_judge 46 = .ok (.ifCond .lt 6, 3) := by decide +kernel
theorem dX5_judge_49 : decode cX5_judge 49 = .ok (.bipush (-3), 2) := by decide +kernel
theorem dX5_judge_51 : decode cX5_judge 51 = .ok (.ireturn, 1) := by decide +kernel
theorem dX5_judge_52 : decode cX5_judge 52 = .ok (.iload_n 1, 1) := by decide +kernel
theorem dX5_judge_53 : decode cX5_judge 53 = .ok (.tableswitch 51 0 3 #[31, 36, 41, 46], 31) := by decide +kernel
theorem dX5_judge_84 : decode cX5_judge 84 = .ok (.aload_n 0, 1) := by decide +kernel
theorem dX5_judge_85 : decode cX5_judge 85 = .ok (.getfield 233, 3) := by decide +kernel
theorem dX5_judge_88 : decode cX5_judge 88 = .ok (.ireturn, 1) := by decide +kernel
theorem dX5_judge_89 : decode cX5_judge 89 = .ok (.aload_n 0, 1) := by decide +kernel
theorem dX5_judge_90 : decode cX5_judge 90 = .ok (.getfield 236, 3) := by decide +kernel
theorem dX5_judge_93 : decode cX5_judge 93 = .ok (.ireturn, 1) := by decide +kernel
theorem dX5_judge_94 : decode cX5_judge 94 = .ok (.aload_n 0, 1) := by decide +kernel
theorem dX5_judge_95 : decode cX5_judge 95 = .ok (.getfield 209, 3) := by decide +kernel
theorem dX5_judge_98 : decode cX5_judge 98 = .ok (.ireturn, 1) := by decide +kernel
theorem dX5_judge_99 : decode cX5_judge 99 = .ok (.aload_n 0, 1) := by decide +kernel
theorem dX5_judge_100 : decode cX5_judge 100 = .ok (.getfield 212, 3) := by decide +kernel
theorem dX5_judge_103 : decode cX5_judge 103 = .ok (.ireturn, 1) := by decide +kernel
theorem dX5_judge_104 : decode cX5_judge 104 = .ok (.aload_n 0, 1) := by decide +kernel
theorem dX5_judge_105 : decode cX5_judge 105 = .ok (.getfield 227, 3) := by decide +kernel
theorem dX5_judge_108 : decode cX5_judge 108 = .ok (.ireturn, 1) := by decide +kernel
theorem dX5_behind_0 : decode cX5_behind 0 = .ok (.aload_n 0, 1) := by decide +kernel
theorem dX5_behind_1 : decode cX5_behind 1 = .ok (.iload_n 1, 1) := by decide +kernel
theorem dX5_behind_2 : decode cX5_behind 2 = .ok (.invokevirtual 143, 3) := by decide +kernel
theorem dX5_behind_5 : decode cX5_behind 5 = .ok (.ifCond .ne 5, 3) := by decide +kernel
theorem dX5_behind_8 : decode cX5_behind 8 = .ok (.iconst (-1), 1) := by decide +kernel
theorem dX5_behind_9 : decode cX5_behind 9 = .ok (.ireturn, 1) := by decide +kernel
theorem dX5_behind_10 : decode cX5_behind 10 = .ok (.iload_n 2, 1) := by decide +kernel
theorem dX5_behind_11 : decode cX5_behind 11 = .ok (.i2l, 1) := by decide +kernel
theorem dX5_behind_12 : decode cX5_behind 12 = .ok (.lconst 0, 1) := by decide +kernel
theorem dX5_behind_13 : decode cX5_behind 13 = .ok (.ldc2_w 126, 3) := by decide +kernel
theorem dX5_behind_16 : decode cX5_behind 16 = .ok (.invokestatic 118, 3) := by decide +kernel
theorem dX5_behind_19 : decode cX5_behind 19 = .ok (.ifCond .ne 6, 3) := by decide +kernel
theorem dX5_behind_22 : decode cX5_behind 22 = .ok (.bipush (-2), 2) := by decide +kernel
theorem dX5_behind_24 : decode cX5_behind 24 = .ok (.ireturn, 1) := by decide +kernel
theorem dX5_behind_25 : decode cX5_behind 25 = .ok (.aload_n 0, 1) := by decide +kernel
theorem dX5_behind_26 : decode cX5_behind 26 = .ok (.invokevirtual 244, 3) := by decide +kernel
theorem dX5_behind_29 : decode cX5_behind 29 = .ok (.ifCond .lt 6, 3) := by decide +kernel
theorem dX5_behind_32 : decode cX5_behind 32 = .ok (.bipush (-5), 2) := by decide +kernel
theorem dX5_behind_34 : decode cX5_behind 34 = .ok (.ireturn, 1) := by decide +kernel
theorem dX5_behind_35 : decode cX5_behind 35 = .ok (.aload_n 0, 1) := by decide +kernel
theorem dX5_behind_36 : decode cX5_behind 36 = .ok (.invokevirtual 248, 3) := by decide +kernel
theorem dX5_behind_39 : decode cX5_behind 39 = .ok (.aload_n 0, 1) := by decide +kernel
theorem dX5_behind_40 : decode cX5_behind 40 = .ok (.invokevirtual 251, 3) := by decide +kernel
theorem dX5_behind_43 : decode cX5_behind 43 = .ok (.iload_n 2, 1) := by decide +kernel
theorem dX5_behind_44 : decode cX5_behind 44 = .ok (.ifCond .ne 12, 3) := by decide +kernel
theorem dX5_behind_47 : decode cX5_behind 47 = .ok (.aload_n 0, 1) := by decide +kernel
theorem dX5_behind_48 : decode cX5_behind 48 = .ok (.getfield 22, 3) := by decide +kernel
theorem dX5_behind_51 : decode cX5_behind 51 = .ok (.iload_n 1, 1) := by decide +kernel
theorem dX5_behind_52 : decode cX5_behind 52 = .ok (.iaload, 1) := by decide +kernel
theorem dX5_behind_53 : decode cX5_behind 53 = .ok (.goto 22, 3) := by decide +kernel
theorem dX5_behind_56 : decode cX5_behind 56 = .ok (.iload_n 2, 1) := by decide +kernel
theorem dX5_behind_57 : decode cX5_behind 57 = .ok (.iconst 1, 1) := by decide +kernel
theorem dX5_behind_58 : decode cX5_behind 58 = .ok (.if_icmp .ne 11, 3) := by decide +kernel
theorem dX5_behind_61 : decode cX5_behind 61 = .ok (.aload_n 0, 1) := by decide +kernel
theorem dX5_behind_62 : decode cX5_behind 62 = .ok (.iload_n 1, 1) := by decide +kernel
theorem dX5_behind_63 : decode cX5_behind 63 = .ok (.invokevirtual 206, 3) := by decide +kernel
theorem dX5_behind_66 : decode cX5_behind 66 = .ok (.goto 9, 3) := by decide +kernel
theorem dX5_behind_69 : decode cX5_behind 69 = .ok (.aload_n 0, 1) := by decide +kernel
theorem dX5_behind_70 : decode cX5_behind 70 = .ok (.getfield 28, 3) := by decide +kernel
theorem dX5_behind_73 : decode cX5_behind 73 = .ok (.iload_n 1, 1) := by decide +kernel
theorem dX5_behind_74 : decode cX5_behind 74 = .ok (.iaload, 1) := by decide +kernel
theorem dX5_behind_75 : decode cX5_behind 75 = .ok (.istore_n 3, 1) := by decide +kernel
theorem dX5_behind_76 : decode cX5_behind 76 = .ok (.aload_n 0, 1) := by decide +kernel
theorem dX5_behind_77 : decode cX5_behind 77 = .ok (.invokevirtual 254, 3) := by decide +kernel
theorem dX5_behind_80 : decode cX5_behind 80 = .ok (.aload_n 0, 1) := by decide +kernel
theorem dX5_behind_81 : decode cX5_behind 81 = .ok (.getfield 233, 3) := by decide +kernel
theorem dX5_behind_84 : decode cX5_behind 84 = .ok (.ifCond .lt 8, 3) := by decide +kernel
theorem dX5_behind_87 : decode cX5_behind 87 = .ok (.bipush (-3), 2) := by decide +kernel
theorem dX5_behind_89 : decode cX5_behind 89 = .ok (.goto 4, 3) := by decide +kernel
theorem dX5_behind_92 : decode cX5_behind 92 = .ok (.iload_n 3, 1) := by decide +kernel
theorem dX5_behind_93 : decode cX5_behind 93 = .ok (.ireturn, 1) := by decide +kernel
theorem dX5_done_0 : decode cX5_done 0 = .ok (.aload_n 0, 1) := by decide +kernel
theorem dX5_done_1 : decode cX5_done 1 = .ok (.invokevirtual 244, 3) := by decide +kernel
theorem dX5_done_4 : decode cX5_done 4 = .ok (.ifCond .lt 6, 3) := by decide +kernel
theorem dX5_done_7 : decode cX5_done 7 = .ok (.bipush (-5), 2) := by decide +kernel
theorem dX5_done_9 : decode cX5_done 9 = .ok (.ireturn, 1) := by decide +kernel
theorem dX5_done_10 : decode cX5_done 10 = .ok (.aload_n 0, 1) := by decide +kernel
theorem dX5_done_11 : decode cX5_done 11 = .ok (.invokevirtual 248, 3) := by decide +kernel
theorem dX5_done_14 : decode cX5_done 14 = .ok (.aload_n 0, 1) := by decide +kernel
theorem dX5_done_15 : decode cX5_done 15 = .ok (.invokevirtual 251, 3) := by decide +kernel
theorem dX5_done_18 : decode cX5_done 18 = .ok (.aload_n 0, 1) := by decide +kernel
theorem dX5_done_19 : decode cX5_done 19 = .ok (.getfield 233, 3) := by decide +kernel
theorem dX5_done_22 : decode cX5_done 22 = .ok (.ifCond .lt 10, 3) := by decide +kernel
theorem dX5_done_25 : decode cX5_done 25 = .ok (.aload_n 0, 1) := by decide +kernel
theorem dX5_done_26 : decode cX5_done 26 = .ok (.invokevirtual 254, 3) := by decide +kernel
theorem dX5_done_29 : decode cX5_done 29 = .ok (.bipush (-3), 2) := by decide +kernel
theorem dX5_done_31 : decode cX5_done 31 = .ok (.ireturn, 1) := by decide +kernel
theorem dX5_done_32 : decode cX5_done 32 = .ok (.aload_n 0, 1) := by decide +kernel
theorem dX5_done_33 : decode cX5_done 33 = .ok (.iconst 0, 1) := by decide +kernel
theorem dX5_done_34 : decode cX5_done 34 = .ok (.putfield 159, 3) := by decide +kernel
theorem dX5_done_37 : decode cX5_done 37 = .ok (.aload_n 0, 1) := by decide +kernel
theorem dX5_done_38 : decode cX5_done 38 = .ok (.getfield 170, 3) := by decide +kernel
theorem dX5_done_41 : decode cX5_done 41 = .ok (.ireturn, 1) := by decide +kernel
theorem dX5_bearing_0 : decode cX5_bearing 0 = .ok (.iconst 0, 1) := by decide +kernel
theorem dX5_bearing_1 : decode cX5_bearing 1 = .ok (.istore_n 2, 1) := by decide +kernel
theorem dX5_bearing_2 : decode cX5_bearing 2 = .ok (.iconst 0, 1) := by decide +kernel
theorem dX5_bearing_3 : decode cX5_bearing 3 = .ok (.istore_n 3, 1) := by decide +kernel
theorem dX5_bearing_4 : decode cX5_bearing 4 = .ok (.iload_n 3, 1) := by decide +kernel
theorem dX5_bearing_5 : decode cX5_bearing 5 = .ok (.bipush 8, 2) := by decide +kernel
theorem dX5_bearing_7 : decode cX5_bearing 7 = .ok (.if_icmp .ge 37, 3) := by decide +kernel
theorem dX5_bearing_10 : decode cX5_bearing 10 = .ok (.iload_n 2, 1) := by decide +kernel
theorem dX5_bearing_11 : decode cX5_bearing 11 = .ok (.aload_n 0, 1) := by decide +kernel
theorem dX5_bearing_12 : decode cX5_bearing 12 = .ok (.iload_n 3, 1) := by decide +kernel
theorem dX5_bearing_13 : decode cX5_bearing 13 = .ok (.invokevirtual 140, 3) := by decide +kernel
theorem dX5_bearing_16 : decode cX5_bearing 16 = .ok (.ifCond .eq 19, 3) := by decide +kernel
theorem dX5_bearing_19 : decode cX5_bearing 19 = .ok (.aload_n 0, 1) := by decide +kernel
theorem dX5_bearing_20 : decode cX5_bearing 20 = .ok (.getfield 16, 3) := by decide +kernel
theorem dX5_bearing_23 : decode cX5_bearing 23 = .ok (.iload_n 3, 1) := by decide +kernel
theorem dX5_bearing_24 : decode cX5_bearing 24 = .ok (.iaload, 1) := by decide +kernel
theorem dX5_bearing_25 : decode cX5_bearing 25 = .ok (.iload_n 1, 1) := by decide +kernel
theorem dX5_bearing_26 : decode cX5_bearing 26 = .ok (.if_icmp .lt 9, 3) := by decide +kernel
theorem dX5_bearing_29 : decode cX5_bearing 29 = .ok (.iconst 1, 1) := by decide +kernel
theorem dX5_bearing_30 : decode cX5_bearing 30 = .ok (.iload_n 3, 1) := by decide +kernel
theorem dX5_bearing_31 : decode cX5_bearing 31 = .ok (.ishl, 1) := by decide +kernel
theorem dX5_bearing_32 : decode cX5_bearing 32 = .ok (.goto 4, 3) := by decide +kernel
theorem dX5_bearing_35 : decode cX5_bearing 35 = .ok (.iconst 0, 1) := by decide +kernel
theorem dX5_bearing_36 : decode cX5_bearing 36 = .ok (.ior, 1) := by decide +kernel
theorem dX5_bearing_37 : decode cX5_bearing 37 = .ok (.istore_n 2, 1) := by decide +kernel
theorem dX5_bearing_38 : decode cX5_bearing 38 = .ok (.iinc 3 1, 3) := by decide +kernel
theorem dX5_bearing_41 : decode cX5_bearing 41 = .ok (.goto (-37), 3) := by decide +kernel
theorem dX5_bearing_44 : decode cX5_bearing 44 = .ok (.iload_n 2, 1) := by decide +kernel
theorem dX5_bearing_45 : decode cX5_bearing 45 = .ok (.ireturn, 1) := by decide +kernel
theorem dX5_findFar_0 : decode cX5_findFar 0 = .ok (.iconst 0, 1) := by decide +kernel
theorem dX5_findFar_1 : decode cX5_findFar 1 = .ok (.istore_n 3, 1) := by decide +kernel
theorem dX5_findFar_2 : decode cX5_findFar 2 = .ok (.iload_n 3, 1) := by decide +kernel
theorem dX5_findFar_3 : decode cX5_findFar 3 = .ok (.bipush 6, 2) := by decide +kernel
theorem dX5_findFar_5 : decode cX5_findFar 5 = .ok (.if_icmp .ge 27, 3) := by decide +kernel
theorem dX5_findFar_8 : decode cX5_findFar 8 = .ok (.aload_n 0, 1) := by decide +kernel
theorem dX5_findFar_9 : decode cX5_findFar 9 = .ok (.getfield 70, 3) := by decide +kernel
theorem dX5_findFar_12 : decode cX5_findFar 12 = .ok (.iload_n 3, 1) := by decide +kernel
theorem dX5_findFar_13 : decode cX5_findFar 13 = .ok (.iload_n 3, 1) := by decide +kernel
theorem dX5_findFar_14 : decode cX5_findFar 14 = .ok (.iload_n 1, 1) := by decide +kernel
theorem dX5_findFar_15 : decode cX5_findFar 15 = .ok (.if_icmp .ne 7, 3) := by decide +kernel
theorem dX5_findFar_18 : decode cX5_findFar 18 = .ok (.iconst 0, 1) := by decide +kernel
theorem dX5_findFar_19 : decode cX5_findFar 19 = .ok (.goto 6, 3) := by decide +kernel
theorem dX5_findFar_22 : decode cX5_findFar 22 = .ok (.sipush 1000, 3) := by decide +kernel
theorem dX5_findFar_25 : decode cX5_findFar 25 = .ok (.iastore, 1) := by decide +kernel
theorem dX5_findFar_26 : decode cX5_findFar 26 = .ok (.iinc 3 1, 3) := by decide +kernel
theorem dX5_findFar_29 : decode cX5_findFar 29 = .ok (.goto (-27), 3) := by decide +kernel
theorem dX5_findFar_32 : decode cX5_findFar 32 = .ok (.iconst 0, 1) := by decide +kernel
theorem dX5_findFar_33 : decode cX5_findFar 33 = .ok (.istore_n 3, 1) := by decide +kernel
theorem dX5_findFar_34 : decode cX5_findFar 34 = .ok (.iload_n 3, 1) := by decide +kernel
theorem dX5_findFar_35 : decode cX5_findFar 35 = .ok (.bipush 6, 2) := by decide +kernel
theorem dX5_findFar_37 : decode cX5_findFar 37 = .ok (.if_icmp .ge 143, 3) := by decide +kernel
theorem dX5_findFar_40 : decode cX5_findFar 40 = .ok (.iconst 0, 1) := by decide +kernel
theorem dX5_findFar_41 : decode cX5_findFar 41 = .ok (.istore 4, 2) := by decide +kernel
theorem dX5_findFar_43 : decode cX5_findFar 43 = .ok (.iload 4, 2) := by decide +kernel
theorem dX5_findFar_45 : decode cX5_findFar 45 = .ok (.bipush 8, 2) := by decide +kernel
theorem dX5_findFar_47 : decode cX5_findFar 47 = .ok (.if_icmp .ge 127, 3) := by decide +kernel
theorem dX5_findFar_50 : decode cX5_findFar 50 = .ok (.iload_n 2, 1) := by decide +kernel
theorem dX5_findFar_51 : decode cX5_findFar 51 = .ok (.iload 4, 2) := by decide +kernel
theorem dX5_findFar_53 : decode cX5_findFar 53 = .ok (.ishr, 1) := by decide +kernel
theorem dX5_findFar_54 : decode cX5_findFar 54 = .ok (.iconst 1, 1) := by decide +kernel
theorem dX5_findFar_55 : decode cX5_findFar 55 = .ok (.iand, 1) := by decide +kernel
theorem dX5_findFar_56 : decode cX5_findFar 56 = .ok (.iconst 1, 1) := by decide +kernel
theorem dX5_findFar_57 : decode cX5_findFar 57 = .ok (.if_icmp .ne 111, 3) := by decide +kernel
theorem dX5_findFar_60 : decode cX5_findFar 60 = .ok (.aload_n 0, 1) := by decide +kernel
theorem dX5_findFar_61 : decode cX5_findFar 61 = .ok (.getfield 7, 3) := by decide +kernel
theorem dX5_findFar_64 : decode cX5_findFar 64 = .ok (.iload 4, 2) := by decide +kernel
theorem dX5_findFar_66 : decode cX5_findFar 66 = .ok (.iaload, 1) := by decide +kernel
theorem dX5_findFar_67 : decode cX5_findFar 67 = .ok (.istore 5, 2) := by decide +kernel
theorem dX5_findFar_69 : decode cX5_findFar 69 = .ok (.aload_n 0, 1) := by decide +kernel
theorem dX5_findFar_70 : decode cX5_findFar 70 = .ok (.getfield 13, 3) := by decide +kernel
theorem dX5_findFar_73 : decode cX5_findFar 73 = .ok (.iload 4, 2) := by decide +kernel
theorem dX5_findFar_75 : decode cX5_findFar 75 = .ok (.iaload, 1) := by decide +kernel
theorem dX5_findFar_76 : decode cX5_findFar 76 = .ok (.istore 6, 2) := by decide +kernel
theorem dX5_findFar_78 : decode cX5_findFar 78 = .ok (.aload_n 0, 1) := by decide +kernel
theorem dX5_findFar_79 : decode cX5_findFar 79 = .ok (.getfield 70, 3) := by decide +kernel
theorem dX5_findFar_82 : decode cX5_findFar 82 = .ok (.iload 5, 2) := by decide +kernel
theorem dX5_findFar_84 : decode cX5_findFar 84 = .ok (.aload_n 0, 1) := by decide +kernel
theorem dX5_findFar_85 : decode cX5_findFar 85 = .ok (.getfield 70, 3) := by decide +kernel
theorem dX5_findFar_88 : decode cX5_findFar 88 = .ok (.iload 6, 2) := by decide +kernel
theorem dX5_findFar_90 : decode cX5_findFar 90 = .ok (.iaload, 1) := by decide +kernel
theorem dX5_findFar_91 : decode cX5_findFar 91 = .ok (.iconst 1, 1) := by decide +kernel
theorem dX5_findFar_92 : decode cX5_findFar 92 = .ok (.iadd, 1) := by decide +kernel
theorem dX5_findFar_93 : decode cX5_findFar 93 = .ok (.aload_n 0, 1) := by decide +kernel
theorem dX5_findFar_94 : decode cX5_findFar 94 = .ok (.getfield 70, 3) := by decide +kernel
theorem dX5_findFar_97 : decode cX5_findFar 97 = .ok (.iload 5, 2) := by decide +kernel
theorem dX5_findFar_99 : decode cX5_findFar 99 = .ok (.iaload, 1) := by decide +kernel
theorem dX5_findFar_100 : decode cX5_findFar 100 = .ok (.if_icmp .ge 15, 3) := by decide +kernel
theorem dX5_findFar_103 : decode cX5_findFar 103 = .ok (.aload_n 0, 1) := by decide +kernel
theorem dX5_findFar_104 : decode cX5_findFar 104 = .ok (.getfield 70, 3) := by decide +kernel
theorem dX5_findFar_107 : decode cX5_findFar 107 = .ok (.iload 6, 2) := by decide +kernel
theorem dX5_findFar_109 : decode cX5_findFar 109 = .ok (.iaload, 1) := by decide +kernel
theorem dX5_findFar_110 : decode cX5_findFar 110 = .ok (.iconst 1, 1) := by decide +kernel
theorem dX5_findFar_111 : decode cX5_findFar 111 = .ok (.iadd, 1) := by decide +kernel
theorem dX5_findFar_112 : decode cX5_findFar 112 = .ok (.goto 10, 3) := by decide +kernel
theorem dX5_findFar_115 : decode cX5_findFar 115 = .ok (.aload_n 0, 1) := by decide +kernel
theorem dX5_findFar_116 : decode cX5_findFar 116 = .ok (.getfield 70, 3) := by decide +kernel
theorem dX5_findFar_119 : decode cX5_findFar 119 = .ok (.iload 5, 2) := by decide +kernel
theorem dX5_findFar_121 : decode cX5_findFar 121 = .ok (.iaload, 1) := by decide +kernel
theorem dX5_findFar_122 : decode cX5_findFar 122 = .ok (.iastore, 1) := by decide +kernel
theorem dX5_findFar_123 : decode cX5_findFar 123 = .ok (.aload_n 0, 1) := by decide +kernel
theorem dX5_findFar_124 : decode cX5_findFar 124 = .ok (.getfield 70, 3) := by decide +kernel
theorem dX5_findFar_127 : decode cX5_findFar 127 = .ok (.iload 6, 2) := by decide +kernel
theorem dX5_findFar_129 : decode cX5_findFar 129 = .ok (.aload_n 0, 1) := by decide +kernel
theorem dX5_findFar_130 : decode cX5_findFar 130 = .ok (.getfield 70, 3) := by decide +kernel
theorem dX5_findFar_133 : decode cX5_findFar 133 = .ok (.iload 5, 2) := by decide +kernel
theorem dX5_findFar_135 : decode cX5_findFar 135 = .ok (.iaload, 1) := by decide +kernel
theorem dX5_findFar_136 : decode cX5_findFar 136 = .ok (.iconst 1, 1) := by decide +kernel
theorem dX5_findFar_137 : decode cX5_findFar 137 = .ok (.iadd, 1) := by decide +kernel
theorem dX5_findFar_138 : decode cX5_findFar 138 = .ok (.aload_n 0, 1) := by decide +kernel
theorem dX5_findFar_139 : decode cX5_findFar 139 = .ok (.getfield 70, 3) := by decide +kernel
theorem dX5_findFar_142 : decode cX5_findFar 142 = .ok (.iload 6, 2) := by decide +kernel
theorem dX5_findFar_144 : decode cX5_findFar 144 = .ok (.iaload, 1) := by decide +kernel
theorem dX5_findFar_145 : decode cX5_findFar 145 = .ok (.if_icmp .ge 15, 3) := by decide +kernel
theorem dX5_findFar_148 : decode cX5_findFar 148 = .ok (.aload_n 0, 1) := by decide +kernel
theorem dX5_findFar_149 : decode cX5_findFar 149 = .ok (.getfield 70, 3) := by decide +kernel
theorem dX5_findFar_152 : decode cX5_findFar 152 = .ok (.iload 5, 2) := by decide +kernel
theorem dX5_findFar_154 : decode cX5_findFar 154 = .ok (.iaload, 1) := by decide +kernel
theorem dX5_findFar_155 : decode cX5_findFar 155 = .ok (.iconst 1, 1) := by decide +kernel
theorem dX5_findFar_156 : decode cX5_findFar 156 = .ok (.iadd, 1) := by decide +kernel
theorem dX5_findFar_157 : decode cX5_findFar 157 = .ok (.goto 10, 3) := by decide +kernel
theorem dX5_findFar_160 : decode cX5_findFar 160 = .ok (.aload_n 0, 1) := by decide +kernel
theorem dX5_findFar_161 : decode cX5_findFar 161 = .ok (.getfield 70, 3) := by decide +kernel
theorem dX5_findFar_164 : decode cX5_findFar 164 = .ok (.iload 6, 2) := by decide +kernel
theorem dX5_findFar_166 : decode cX5_findFar 166 = .ok (.iaload, 1) := by decide +kernel
theorem dX5_findFar_167 : decode cX5_findFar 167 = .ok (.iastore, 1) := by decide +kernel
theorem dX5_findFar_168 : decode cX5_findFar 168 = .ok (.iinc 4 1, 3) := by decide +kernel
theorem dX5_findFar_171 : decode cX5_findFar 171 = .ok (.goto (-128), 3) := by decide +kernel
theorem dX5_findFar_174 : decode cX5_findFar 174 = .ok (.iinc 3 1, 3) := by decide +kernel
theorem dX5_findFar_177 : decode cX5_findFar 177 = .ok (.goto (-143), 3) := by decide +kernel
theorem dX5_findFar_180 : decode cX5_findFar 180 = .ok (.return_, 1) := by decide +kernel
theorem dX5_farBy_0 : decode cX5_farBy 0 = .ok (.aload_n 0, 1) := by decide +kernel
theorem dX5_farBy_1 : decode cX5_farBy 1 = .ok (.iload_n 2, 1) := by decide +kernel
theorem dX5_farBy_2 : decode cX5_farBy 2 = .ok (.aload_n 0, 1) := by decide +kernel
theorem dX5_farBy_3 : decode cX5_farBy 3 = .ok (.iload_n 3, 1) := by decide +kernel
theorem dX5_farBy_4 : decode cX5_farBy 4 = .ok (.invokevirtual 257, 3) := by decide +kernel
theorem dX5_farBy_7 : decode cX5_farBy 7 = .ok (.invokevirtual 260, 3) := by decide +kernel
theorem dX5_farBy_10 : decode cX5_farBy 10 = .ok (.aload_n 0, 1) := by decide +kernel
theorem dX5_farBy_11 : decode cX5_farBy 11 = .ok (.getfield 70, 3) := by decide +kernel
theorem dX5_farBy_14 : decode cX5_farBy 14 = .ok (.iload_n 1, 1) := by decide +kernel
theorem dX5_farBy_15 : decode cX5_farBy 15 = .ok (.iaload, 1) := by decide +kernel
theorem dX5_farBy_16 : decode cX5_farBy 16 = .ok (.ireturn, 1) := by decide +kernel
theorem dX5_hasWay_0 : decode cX5_hasWay 0 = .ok (.aload_n 0, 1) := by decide +kernel
theorem dX5_hasWay_1 : decode cX5_hasWay 1 = .ok (.aload_n 0, 1) := by decide +kernel
theorem dX5_hasWay_2 : decode cX5_hasWay 2 = .ok (.getfield 22, 3) := by decide +kernel
theorem dX5_hasWay_5 : decode cX5_hasWay 5 = .ok (.iload_n 1, 1) := by decide +kernel
theorem dX5_hasWay_6 : decode cX5_hasWay 6 = .ok (.iaload, 1) := by decide +kernel
theorem dX5_hasWay_7 : decode cX5_hasWay 7 = .ok (.iload_n 2, 1) := by decide +kernel
theorem dX5_hasWay_8 : decode cX5_hasWay 8 = .ok (.iload_n 3, 1) := by decide +kernel
theorem dX5_hasWay_9 : decode cX5_hasWay 9 = .ok (.invokevirtual 264, 3) := by decide +kernel
theorem dX5_hasWay_12 : decode cX5_hasWay 12 = .ok (.sipush 1000, 3) := by decide +kernel
theorem dX5_hasWay_15 : decode cX5_hasWay 15 = .ok (.if_icmp .ge 7, 3) := by decide +kernel
theorem dX5_hasWay_18 : decode cX5_hasWay 18 = .ok (.iconst 1, 1) := by decide +kernel
theorem dX5_hasWay_19 : decode cX5_hasWay 19 = .ok (.goto 4, 3) := by decide +kernel
theorem dX5_hasWay_22 : decode cX5_hasWay 22 = .ok (.iconst 0, 1) := by decide +kernel
theorem dX5_hasWay_23 : decode cX5_hasWay 23 = .ok (.ireturn, 1) := by decide +kernel
theorem dX5_isAsked_0 : decode cX5_isAsked 0 = .ok (.aload_n 0, 1) := by decide +kernel
theorem dX5_isAsked_1 : decode cX5_isAsked 1 = .ok (.iload_n 1, 1) := by decide +kernel
theorem dX5_isAsked_2 : decode cX5_isAsked 2 = .ok (.invokevirtual 143, 3) := by decide +kernel
theorem dX5_isAsked_5 : decode cX5_isAsked 5 = .ok (.ifCond .eq 15, 3) := by decide +kernel
theorem dX5_isAsked_8 : decode cX5_isAsked 8 = .ok (.aload_n 0, 1) := by decide +kernel
theorem dX5_isAsked_9 : decode cX5_isAsked 9 = .ok (.iload_n 2, 1) := by decide +kernel
theorem dX5_isAsked_10 : decode cX5_isAsked 10 = .ok (.invokevirtual 130, 3) := by decide +kernel
theorem dX5_isAsked_13 : decode cX5_isAsked 13 = .ok (.ifCond .eq 7, 3) := by decide +kernel
theorem dX5_isAsked_16 : decode cX5_isAsked 16 = .ok (.iconst 1, 1) := by decide +kernel
theorem dX5_isAsked_17 : decode cX5_isAsked 17 = .ok (.goto 4, 3) := by decide +kernel
theorem dX5_isAsked_20 : decode cX5_isAsked 20 = .ok (.iconst 0, 1) := by decide +kernel
theorem dX5_isAsked_21 : decode cX5_isAsked 21 = .ok (.ireturn, 1) := by decide +kernel
theorem dX5_way_0 : decode cX5_way 0 = .ok (.aload_n 0, 1) := by decide +kernel
theorem dX5_way_1 : decode cX5_way 1 = .ok (.iload_n 1, 1) := by decide +kernel
theorem dX5_way_2 : decode cX5_way 2 = .ok (.iload_n 2, 1) := by decide +kernel
theorem dX5_way_3 : decode cX5_way 3 = .ok (.invokevirtual 267, 3) := by decide +kernel
theorem dX5_way_6 : decode cX5_way 6 = .ok (.ifCond .ne 5, 3) := by decide +kernel
theorem dX5_way_9 : decode cX5_way 9 = .ok (.iconst (-1), 1) := by decide +kernel
theorem dX5_way_10 : decode cX5_way 10 = .ok (.ireturn, 1) := by decide +kernel
theorem dX5_way_11 : decode cX5_way 11 = .ok (.aload_n 0, 1) := by decide +kernel
theorem dX5_way_12 : decode cX5_way 12 = .ok (.aload_n 0, 1) := by decide +kernel
theorem dX5_way_13 : decode cX5_way 13 = .ok (.iload_n 1, 1) := by decide +kernel
theorem dX5_way_14 : decode cX5_way 14 = .ok (.invokevirtual 206, 3) := by decide +kernel
theorem dX5_way_17 : decode cX5_way 17 = .ok (.invokevirtual 257, 3) := by decide +kernel
theorem dX5_way_20 : decode cX5_way 20 = .ok (.istore 4, 2) := by decide +kernel
theorem dX5_way_22 : decode cX5_way 22 = .ok (.aload_n 0, 1) := by decide +kernel
theorem dX5_way_23 : decode cX5_way 23 = .ok (.iload_n 2, 1) := by decide +kernel
theorem dX5_way_24 : decode cX5_way 24 = .ok (.iload 4, 2) := by decide +kernel
theorem dX5_way_26 : decode cX5_way 26 = .ok (.invokevirtual 260, 3) := by decide +kernel
theorem dX5_way_29 : decode cX5_way 29 = .ok (.aload_n 0, 1) := by decide +kernel
theorem dX5_way_30 : decode cX5_way 30 = .ok (.getfield 22, 3) := by decide +kernel
theorem dX5_way_33 : decode cX5_way 33 = .ok (.iload_n 1, 1) := by decide +kernel
theorem dX5_way_34 : decode cX5_way 34 = .ok (.iaload, 1) := by decide +kernel
theorem dX5_way_35 : decode cX5_way 35 = .ok (.istore 5, 2) := by decide +kernel
theorem dX5_way_37 : decode cX5_way 37 = .ok (.aload_n 0, 1) := by decide +kernel
theorem dX5_way_38 : decode cX5_way 38 = .ok (.getfield 70, 3) := by decide +kernel
theorem dX5_way_41 : decode cX5_way 41 = .ok (.iload 5, 2) := by decide +kernel
theorem dX5_way_43 : decode cX5_way 43 = .ok (.iaload, 1) := by decide +kernel
theorem dX5_way_44 : decode cX5_way 44 = .ok (.istore 6, 2) := by decide +kernel
theorem dX5_way_46 : decode cX5_way 46 = .ok (.iload 6, 2) := by decide +kernel
theorem dX5_way_48 : decode cX5_way 48 = .ok (.sipush 1000, 3) := by decide +kernel
theorem dX5_way_51 : decode cX5_way 51 = .ok (.if_icmp .eq 8, 3) := by decide +kernel
theorem dX5_way_54 : decode cX5_way 54 = .ok (.iload_n 3, 1) := by decide +kernel
theorem dX5_way_55 : decode cX5_way 55 = .ok (.iconst (-1), 1) := by decide +kernel
theorem dX5_way_56 : decode cX5_way 56 = .ok (.if_icmp .ne 19, 3) := by decide +kernel
theorem dX5_way_59 : decode cX5_way 59 = .ok (.iload 6, 2) := by decide +kernel
theorem dX5_way_61 : decode cX5_way 61 = .ok (.sipush 1000, 3) := by decide +kernel
theorem dX5_way_64 : decode cX5_way 64 = .ok (.if_icmp .ne 8, 3) := by decide +kernel
theorem dX5_way_67 : decode cX5_way 67 = .ok (.bipush (-6), 2) := by decide +kernel
theorem dX5_way_69 : decode cX5_way 69 = .ok (.goto 5, 3) := by decide +kernel
theorem dX5_way_72 : decode cX5_way 72 = .ok (.iload 6, 2) := by decide +kernel
theorem dX5_way_74 : decode cX5_way 74 = .ok (.ireturn, 1) := by decide +kernel
theorem dX5_way_75 : decode cX5_way 75 = .ok (.iload_n 3, 1) := by decide +kernel
theorem dX5_way_76 : decode cX5_way 76 = .ok (.i2l, 1) := by decide +kernel
theorem dX5_way_77 : decode cX5_way 77 = .ok (.lconst 0, 1) := by decide +kernel
theorem dX5_way_78 : decode cX5_way 78 = .ok (.iload 6, 2) := by decide +kernel
theorem dX5_way_80 : decode cX5_way 80 = .ok (.iconst 1, 1) := by decide +kernel
theorem dX5_way_81 : decode cX5_way 81 = .ok (.isub, 1) := by decide +kernel
theorem dX5_way_82 : decode cX5_way 82 = .ok (.i2l, 1) := by decide +kernel
theorem dX5_way_83 : decode cX5_way 83 = .ok (.invokestatic 118, 3) := by decide +kernel
theorem dX5_way_86 : decode cX5_way 86 = .ok (.ifCond .ne 6, 3) := by decide +kernel
theorem dX5_way_89 : decode cX5_way 89 = .ok (.bipush (-6), 2) := by decide +kernel
theorem dX5_way_91 : decode cX5_way 91 = .ok (.ireturn, 1) := by decide +kernel
theorem dX5_way_92 : decode cX5_way 92 = .ok (.bipush (-6), 2) := by decide +kernel
theorem dX5_way_94 : decode cX5_way 94 = .ok (.istore 7, 2) := by decide +kernel
theorem dX5_way_96 : decode cX5_way 96 = .ok (.iconst 0, 1) := by decide +kernel
theorem dX5_way_97 : decode cX5_way 97 = .ok (.istore 8, 2) := by decide +kernel
theorem dX5_way_99 : decode cX5_way 99 = .ok (.iload 8, 2) := by decide +kernel
theorem dX5_way_101 : decode cX5_way 101 = .ok (.iload_n 3, 1) := by decide +kernel
theorem dX5_way_102 : decode cX5_way 102 = .ok (.if_icmp .gt 55, 3) := by decide +kernel
theorem dX5_way_105 : decode cX5_way 105 = .ok (.iconst 0, 1) := by decide +kernel
theorem dX5_way_106 : decode cX5_way 106 = .ok (.istore 9, 2) := by decide +kernel
theorem dX5_way_108 : decode cX5_way 108 = .ok (.aload_n 0, 1) := by decide +kernel
theorem dX5_way_109 : decode cX5_way 109 = .ok (.iload 9, 2) := by decide +kernel
theorem dX5_way_111 : decode cX5_way 111 = .ok (.iload 5, 2) := by decide +kernel
theorem dX5_way_113 : decode cX5_way 113 = .ok (.iload 4, 2) := by decide +kernel
theorem dX5_way_115 : decode cX5_way 115 = .ok (.invokevirtual 271, 3) := by decide +kernel
theorem dX5_way_118 : decode cX5_way 118 = .ok (.ifCond .ne 9, 3) := by decide +kernel
theorem dX5_way_121 : decode cX5_way 121 = .ok (.iinc 9 1, 3) := by decide +kernel
theorem dX5_way_124 : decode cX5_way 124 = .ok (.goto (-16), 3) := by decide +kernel
theorem dX5_way_127 : decode cX5_way 127 = .ok (.iload 9, 2) := by decide +kernel
theorem dX5_way_129 : decode cX5_way 129 = .ok (.istore 7, 2) := by decide +kernel
theorem dX5_way_131 : decode cX5_way 131 = .ok (.aload_n 0, 1) := by decide +kernel
theorem dX5_way_132 : decode cX5_way 132 = .ok (.getfield 7, 3) := by decide +kernel
theorem dX5_way_135 : decode cX5_way 135 = .ok (.iload 9, 2) := by decide +kernel
theorem dX5_way_137 : decode cX5_way 137 = .ok (.iaload, 1) := by decide +kernel
theorem dX5_way_138 : decode cX5_way 138 = .ok (.aload_n 0, 1) := by decide +kernel
theorem dX5_way_139 : decode cX5_way 139 = .ok (.getfield 13, 3) := by decide +kernel
theorem dX5_way_142 : decode cX5_way 142 = .ok (.iload 9, 2) := by decide +kernel
theorem dX5_way_144 : decode cX5_way 144 = .ok (.iaload, 1) := by decide +kernel
theorem dX5_way_145 : decode cX5_way 145 = .ok (.iadd, 1) := by decide +kernel
theorem dX5_way_146 : decode cX5_way 146 = .ok (.iload 5, 2) := by decide +kernel
theorem dX5_way_148 : decode cX5_way 148 = .ok (.isub, 1) := by decide +kernel
theorem dX5_way_149 : decode cX5_way 149 = .ok (.istore 5, 2) := by decide +kernel
theorem dX5_way_151 : decode cX5_way 151 = .ok (.iinc 8 1, 3) := by decide +kernel
theorem dX5_way_154 : decode cX5_way 154 = .ok (.goto (-55), 3) := by decide +kernel
theorem dX5_way_157 : decode cX5_way 157 = .ok (.iload 7, 2) := by decide +kernel
theorem dX5_way_159 : decode cX5_way 159 = .ok (.ireturn, 1) := by decide +kernel
theorem dX5_leadsOn_0 : decode cX5_leadsOn 0 = .ok (.iload_n 3, 1) := by decide +kernel
theorem dX5_leadsOn_1 : decode cX5_leadsOn 1 = .ok (.iload_n 1, 1) := by decide +kernel
theorem dX5_leadsOn_2 : decode cX5_leadsOn 2 = .ok (.ishr, 1) := by decide +kernel
theorem dX5_leadsOn_3 : decode cX5_leadsOn 3 = .ok (.iconst 1, 1) := by decide +kernel
theorem dX5_leadsOn_4 : decode cX5_leadsOn 4 = .ok (.iand, 1) := by decide +kernel
theorem dX5_leadsOn_5 : decode cX5_leadsOn 5 = .ok (.iconst 1, 1) := by decide +kernel
theorem dX5_leadsOn_6 : decode cX5_leadsOn 6 = .ok (.if_icmp .ne 27, 3) := by decide +kernel
theorem dX5_leadsOn_9 : decode cX5_leadsOn 9 = .ok (.aload_n 0, 1) := by decide +kernel
theorem dX5_leadsOn_10 : decode cX5_leadsOn 10 = .ok (.getfield 7, 3) := by decide +kernel
theorem dX5_leadsOn_13 : decode cX5_leadsOn 13 = .ok (.iload_n 1, 1) := by decide +kernel
theorem dX5_leadsOn_14 : decode cX5_leadsOn 14 = .ok (.iaload, 1) := by decide +kernel
theorem dX5_leadsOn_15 : decode cX5_leadsOn 15 = .ok (.iload_n 2, 1) := by decide +kernel
theorem dX5_leadsOn_16 : decode cX5_leadsOn 16 = .ok (.if_icmp .eq 13, 3) := by decide +kernel
theorem dX5_leadsOn_19 : decode cX5_leadsOn 19 = .ok (.aload_n 0, 1) := by decide +kernel
theorem dX5_leadsOn_20 : decode cX5_leadsOn 20 = .ok (.getfield 13, 3) := by decide +kernel
theorem dX5_leadsOn_23 : decode cX5_leadsOn 23 = .ok (.iload_n 1, 1) := by decide +kernel
theorem dX5_leadsOn_24 : decode cX5_leadsOn 24 = .ok (.iaload, 1) := by decide +kernel
theorem dX5_leadsOn_25 : decode cX5_leadsOn 25 = .ok (.iload_n 2, 1) := by decide +kernel
theorem dX5_leadsOn_26 : decode cX5_leadsOn 26 = .ok (.if_icmp .ne 7, 3) := by decide +kernel
theorem dX5_leadsOn_29 : decode cX5_leadsOn 29 = .ok (.iconst 1, 1) := by decide +kernel
theorem dX5_leadsOn_30 : decode cX5_leadsOn 30 = .ok (.goto 4, 3) := by decide +kernel
theorem dX5_leadsOn_33 : decode cX5_leadsOn 33 = .ok (.iconst 0, 1) := by decide +kernel
theorem dX5_leadsOn_34 : decode cX5_leadsOn 34 = .ok (.istore 4, 2) := by decide +kernel
theorem dX5_leadsOn_36 : decode cX5_leadsOn 36 = .ok (.iload 4, 2) := by decide +kernel
theorem dX5_leadsOn_38 : decode cX5_leadsOn 38 = .ok (.ifCond .eq 38, 3) := by decide +kernel
theorem dX5_leadsOn_41 : decode cX5_leadsOn 41 = .ok (.aload_n 0, 1) := by decide +kernel
theorem dX5_leadsOn_42 : decode cX5_leadsOn 42 = .ok (.getfield 70, 3) := by decide +kernel
theorem dX5_leadsOn_45 : decode cX5_leadsOn 45 = .ok (.aload_n 0, 1) := by decide +kernel
theorem dX5_leadsOn_46 : decode cX5_leadsOn 46 = .ok (.getfield 7, 3) := by decide +kernel
theorem dX5_leadsOn_49 : decode cX5_leadsOn 49 = .ok (.iload_n 1, 1) := by decide +kernel
theorem dX5_leadsOn_50 : decode cX5_leadsOn 50 = .ok (.iaload, 1) := by decide +kernel
theorem dX5_leadsOn_51 : decode cX5_leadsOn 51 = .ok (.aload_n 0, 1) := by decide +kernel
theorem dX5_leadsOn_52 : decode cX5_leadsOn 52 = .ok (.getfield 13, 3) := by decide +kernel
theorem dX5_leadsOn_55 : decode cX5_leadsOn 55 = .ok (.iload_n 1, 1) := by decide +kernel
theorem dX5_leadsOn_56 : decode cX5_leadsOn 56 = .ok (.iaload, 1) := by decide +kernel
theorem dX5_leadsOn_57 : decode cX5_leadsOn 57 = .ok (.iadd, 1) := by decide +kernel
theorem dX5_leadsOn_58 : decode cX5_leadsOn 58 = .ok (.iload_n 2, 1) := by decide +kernel
theorem dX5_leadsOn_59 : decode cX5_leadsOn 59 = .ok (.isub, 1) := by decide +kernel
theorem dX5_leadsOn_60 : decode cX5_leadsOn 60 = .ok (.iaload, 1) := by decide +kernel
theorem dX5_leadsOn_61 : decode cX5_leadsOn 61 = .ok (.aload_n 0, 1) := by decide +kernel
theorem dX5_leadsOn_62 : decode cX5_leadsOn 62 = .ok (.getfield 70, 3) := by decide +kernel
theorem dX5_leadsOn_65 : decode cX5_leadsOn 65 = .ok (.iload_n 2, 1) := by decide +kernel
theorem dX5_leadsOn_66 : decode cX5_leadsOn 66 = .ok (.iaload, 1) := by decide +kernel
theorem dX5_leadsOn_67 : decode cX5_leadsOn 67 = .ok (.iconst 1, 1) := by decide +kernel
theorem dX5_leadsOn_68 : decode cX5_leadsOn 68 = .ok (.isub, 1) := by decide +kernel
theorem dX5_leadsOn_69 : decode cX5_leadsOn 69 = .ok (.if_icmp .ne 7, 3) := by decide +kernel
theorem dX5_leadsOn_72 : decode cX5_leadsOn 72 = .ok (.iconst 1, 1) := by decide +kernel
theorem dX5_leadsOn_73 : decode cX5_leadsOn 73 = .ok (.goto 4, 3) := by decide +kernel
theorem dX5_leadsOn_76 : decode cX5_leadsOn 76 = .ok (.iconst 0, 1) := by decide +kernel
theorem dX5_leadsOn_77 : decode cX5_leadsOn 77 = .ok (.ireturn, 1) := by decide +kernel
theorem dX5_offerSet_0 : decode cX5_offerSet 0 = .ok (.aload_n 0, 1) := by decide +kernel
theorem dX5_offerSet_1 : decode cX5_offerSet 1 = .ok (.getfield 275, 3) := by decide +kernel
theorem dX5_offerSet_4 : decode cX5_offerSet 4 = .ok (.ifCond .lt 17, 3) := by decide +kernel
theorem dX5_offerSet_7 : decode cX5_offerSet 7 = .ok (.iload_n 1, 1) := by decide +kernel
theorem dX5_offerSet_8 : decode cX5_offerSet 8 = .ok (.invokestatic 136, 3) := by decide +kernel
theorem dX5_offerSet_11 : decode cX5_offerSet 11 = .ok (.aload_n 0, 1) := by decide +kernel
theorem dX5_offerSet_12 : decode cX5_offerSet 12 = .ok (.getfield 275, 3) := by decide +kernel
theorem dX5_offerSet_15 : decode cX5_offerSet 15 = .ok (.invokestatic 136, 3) := by decide +kernel
theorem dX5_offerSet_18 : decode cX5_offerSet 18 = .ok (.if_icmp .ge 7, 3) := by decide +kernel
theorem dX5_offerSet_21 : decode cX5_offerSet 21 = .ok (.iconst 1, 1) := by decide +kernel
theorem dX5_offerSet_22 : decode cX5_offerSet 22 = .ok (.goto 4, 3) := by decide +kernel
theorem dX5_offerSet_25 : decode cX5_offerSet 25 = .ok (.iconst 0, 1) := by decide +kernel
theorem dX5_offerSet_26 : decode cX5_offerSet 26 = .ok (.istore_n 3, 1) := by decide +kernel
theorem dX5_offerSet_27 : decode cX5_offerSet 27 = .ok (.aload_n 0, 1) := by decide +kernel
theorem dX5_offerSet_28 : decode cX5_offerSet 28 = .ok (.iload_n 2, 1) := by decide +kernel
theorem dX5_offerSet_29 : decode cX5_offerSet 29 = .ok (.ifCond .eq 11, 3) := by decide +kernel
theorem dX5_offerSet_32 : decode cX5_offerSet 32 = .ok (.iload_n 3, 1) := by decide +kernel
theorem dX5_offerSet_33 : decode cX5_offerSet 33 = .ok (.ifCond .eq 7, 3) := by decide +kernel
theorem dX5_offerSet_36 : decode cX5_offerSet 36 = .ok (.iload_n 1, 1) := by decide +kernel
theorem dX5_offerSet_37 : decode cX5_offerSet 37 = .ok (.goto 7, 3) := by decide +kernel
theorem dX5_offerSet_40 : decode cX5_offerSet 40 = .ok (.aload_n 0, 1) := by decide +kernel
theorem dX5_offerSet_41 : decode cX5_offerSet 41 = .ok (.getfield 275, 3) := by decide +kernel
theorem dX5_offerSet_44 : decode cX5_offerSet 44 = .ok (.putfield 275, 3) := by decide +kernel
theorem dX5_offerSet_47 : decode cX5_offerSet 47 = .ok (.return_, 1) := by decide +kernel
theorem dX5_tellSet_0 : decode cX5_tellSet 0 = .ok (.aload_n 0, 1) := by decide +kernel
theorem dX5_tellSet_1 : decode cX5_tellSet 1 = .ok (.getfield 275, 3) := by decide +kernel
theorem dX5_tellSet_4 : decode cX5_tellSet 4 = .ok (.ifCond .lt 8, 3) := by decide +kernel
theorem dX5_tellSet_7 : decode cX5_tellSet 7 = .ok (.iload_n 1, 1) := by decide +kernel
theorem dX5_tellSet_8 : decode cX5_tellSet 8 = .ok (.iconst 1, 1) := by decide +kernel
theorem dX5_tellSet_9 : decode cX5_tellSet 9 = .ok (.if_icmp .ne 10, 3) := by decide +kernel
theorem dX5_tellSet_12 : decode cX5_tellSet 12 = .ok (.aload_n 0, 1) := by decide +kernel
theorem dX5_tellSet_13 : decode cX5_tellSet 13 = .ok (.getfield 275, 3) := by decide +kernel
theorem dX5_tellSet_16 : decode cX5_tellSet 16 = .ok (.goto 10, 3) := by decide +kernel
theorem dX5_tellSet_19 : decode cX5_tellSet 19 = .ok (.aload_n 0, 1) := by decide +kernel
theorem dX5_tellSet_20 : decode cX5_tellSet 20 = .ok (.getfield 275, 3) := by decide +kernel
theorem dX5_tellSet_23 : decode cX5_tellSet 23 = .ok (.invokestatic 136, 3) := by decide +kernel
theorem dX5_tellSet_26 : decode cX5_tellSet 26 = .ok (.ireturn, 1) := by decide +kernel
theorem dX5_least0_0 : decode cX5_least0 0 = .ok (.iload_n 0, 1) := by decide +kernel
theorem dX5_least0_1 : decode cX5_least0 1 = .ok (.ifCond .le 7, 3) := by decide +kernel
theorem dX5_least0_4 : decode cX5_least0 4 = .ok (.iload_n 0, 1) := by decide +kernel
theorem dX5_least0_5 : decode cX5_least0 5 = .ok (.goto 4, 3) := by decide +kernel
theorem dX5_least0_8 : decode cX5_least0 8 = .ok (.iconst 0, 1) := by decide +kernel
theorem dX5_least0_9 : decode cX5_least0 9 = .ok (.ireturn, 1) := by decide +kernel
theorem dX5_left_0 : decode cX5_left 0 = .ok (.aload_n 0, 1) := by decide +kernel
theorem dX5_left_1 : decode cX5_left 1 = .ok (.iload_n 1, 1) := by decide +kernel
theorem dX5_left_2 : decode cX5_left 2 = .ok (.iload_n 2, 1) := by decide +kernel
theorem dX5_left_3 : decode cX5_left 3 = .ok (.invokevirtual 267, 3) := by decide +kernel
theorem dX5_left_6 : decode cX5_left 6 = .ok (.ifCond .ne 5, 3) := by decide +kernel
theorem dX5_left_9 : decode cX5_left 9 = .ok (.iconst (-1), 1) := by decide +kernel
theorem dX5_left_10 : decode cX5_left 10 = .ok (.ireturn, 1) := by decide +kernel
theorem dX5_left_11 : decode cX5_left 11 = .ok (.iload_n 3, 1) := by decide +kernel
theorem dX5_left_12 : decode cX5_left 12 = .ok (.i2l, 1) := by decide +kernel
theorem dX5_left_13 : decode cX5_left 13 = .ok (.lconst 0, 1) := by decide +kernel
theorem dX5_left_14 : decode cX5_left 14 = .ok (.lconst 1, 1) := by decide +kernel
theorem dX5_left_15 : decode cX5_left 15 = .ok (.invokestatic 118, 3) := by decide +kernel
theorem dX5_left_18 : decode cX5_left 18 = .ok (.ifCond .ne 6, 3) := by decide +kernel
theorem dX5_left_21 : decode cX5_left 21 = .ok (.bipush (-2), 2) := by decide +kernel
theorem dX5_left_23 : decode cX5_left 23 = .ok (.ireturn, 1) := by decide +kernel
theorem dX5_left_24 : decode cX5_left 24 = .ok (.aload_n 0, 1) := by decide +kernel
theorem dX5_left_25 : decode cX5_left 25 = .ok (.bipush (-6), 2) := by decide +kernel
theorem dX5_left_27 : decode cX5_left 27 = .ok (.putfield 275, 3) := by decide +kernel
theorem dX5_left_30 : decode cX5_left 30 = .ok (.iconst 0, 1) := by decide +kernel
theorem dX5_left_31 : decode cX5_left 31 = .ok (.istore 4, 2) := by decide +kernel
theorem dX5_left_33 : decode cX5_left 33 = .ok (.iload 4, 2) := by decide +kernel
theorem dX5_left_35 : decode cX5_left 35 = .ok (.sipush 256, 3) := by decide +kernel
theorem dX5_left_38 : decode cX5_left 38 = .ok (.if_icmp .ge 54, 3) := by decide +kernel
theorem dX5_left_41 : decode cX5_left 41 = .ok (.iload 4, 2) := by decide +kernel
theorem dX5_left_43 : decode cX5_left 43 = .ok (.aload_n 0, 1) := by decide +kernel
theorem dX5_left_44 : decode cX5_left 44 = .ok (.getfield 28, 3) := by decide +kernel
theorem dX5_left_47 : decode cX5_left 47 = .ok (.iload_n 1, 1) := by decide +kernel
theorem dX5_left_48 : decode cX5_left 48 = .ok (.iaload, 1) := by decide +kernel
theorem dX5_left_49 : decode cX5_left 49 = .ok (.iconst (-1), 1) := by decide +kernel
theorem dX5_left_50 : decode cX5_left 50 = .ok (.ixor, 1) := by decide +kernel
theorem dX5_left_51 : decode cX5_left 51 = .ok (.iand, 1) := by decide +kernel
theorem dX5_left_52 : decode cX5_left 52 = .ok (.ifCond .ne 34, 3) := by decide +kernel
theorem dX5_left_55 : decode cX5_left 55 = .ok (.aload_n 0, 1) := by decide +kernel
theorem dX5_left_56 : decode cX5_left 56 = .ok (.iload 4, 2) := by decide +kernel
theorem dX5_left_58 : decode cX5_left 58 = .ok (.aload_n 0, 1) := by decide +kernel
theorem dX5_left_59 : decode cX5_left 59 = .ok (.iload_n 1, 1) := by decide +kernel
theorem dX5_left_60 : decode cX5_left 60 = .ok (.iload_n 2, 1) := by decide +kernel
theorem dX5_left_61 : decode cX5_left 61 = .ok (.aload_n 0, 1) := by decide +kernel
