theorem dX12_init_0 : decode cX12_init 0 = .ok (.aload_n 0, 1) := by decide +kernel
theorem dX12_init_1 : decode cX12_init 1 = .ok (.invokespecial 1, 3) := by decide +kernel
theorem dX12_init_4 : decode cX12_init 4 = .ok (.aload_n 0, 1) := by decide +kernel
theorem dX12_init_5 : decode cX12_init 5 = .ok (.sipush 6894, 3) := by decide +kernel
theorem dX12_init_8 : decode cX12_init 8 = .ok (.newarray .int, 2) := by decide +kernel
theorem dX12_init_10 : decode cX12_init 10 = .ok (.putfield 7, 3) := by decide +kernel
theorem dX12_init_13 : decode cX12_init 13 = .ok (.aload_n 0, 1) := by decide +kernel
theorem dX12_init_14 : decode cX12_init 14 = .ok (.sipush 6894, 3) := by decide +kernel
theorem dX12_init_17 : decode cX12_init 17 = .ok (.newarray .int, 2) := by decide +kernel
theorem dX12_init_19 : decode cX12_init 19 = .ok (.putfield 13, 3) := by decide +kernel
theorem dX12_init_22 : decode cX12_init 22 = .ok (.aload_n 0, 1) := by decide +kernel
theorem dX12_init_23 : decode cX12_init 23 = .ok (.sipush 12820, 3) := by decide +kernel
theorem dX12_init_26 : decode cX12_init 26 = .ok (.newarray .int, 2) := by decide +kernel
theorem dX12_init_28 : decode cX12_init 28 = .ok (.putfield 16, 3) := by decide +kernel
theorem dX12_init_31 : decode cX12_init 31 = .ok (.aload_n 0, 1) := by decide +kernel
theorem dX12_init_32 : decode cX12_init 32 = .ok (.sipush 2564, 3) := by decide +kernel
theorem dX12_init_35 : decode cX12_init 35 = .ok (.newarray .int, 2) := by decide +kernel
theorem dX12_init_37 : decode cX12_init 37 = .ok (.putfield 19, 3) := by decide +kernel
theorem dX12_init_40 : decode cX12_init 40 = .ok (.aload_n 0, 1) := by decide +kernel
theorem dX12_init_41 : decode cX12_init 41 = .ok (.bipush 48, 2) := by decide +kernel
theorem dX12_init_43 : decode cX12_init 43 = .ok (.newarray .int, 2) := by decide +kernel
theorem dX12_init_45 : decode cX12_init 45 = .ok (.putfield 22, 3) := by decide +kernel
theorem dX12_init_48 : decode cX12_init 48 = .ok (.aload_n 0, 1) := by decide +kernel
theorem dX12_init_49 : decode cX12_init 49 = .ok (.sipush 820, 3) := by decide +kernel
theorem dX12_init_52 : decode cX12_init 52 = .ok (.newarray .int, 2) := by decide +kernel
theorem dX12_init_54 : decode cX12_init 54 = .ok (.putfield 25, 3) := by decide +kernel
theorem dX12_init_57 : decode cX12_init 57 = .ok (.aload_n 0, 1) := by decide +kernel
theorem dX12_init_58 : decode cX12_init 58 = .ok (.sipush 450, 3) := by decide +kernel
theorem dX12_init_61 : decode cX12_init 61 = .ok (.newarray .int, 2) := by decide +kernel
theorem dX12_init_63 : decode cX12_init 63 = .ok (.putfield 28, 3) := by decide +kernel
theorem dX12_init_66 : decode cX12_init 66 = .ok (.aload_n 0, 1) := by decide +kernel
theorem dX12_init_67 : decode cX12_init 67 = .ok (.bipush 7, 2) := by decide +kernel
theorem dX12_init_69 : decode cX12_init 69 = .ok (.newarray .int, 2) := by decide +kernel
theorem dX12_init_71 : decode cX12_init 71 = .ok (.putfield 31, 3) := by decide +kernel
theorem dX12_init_74 : decode cX12_init 74 = .ok (.aload_n 0, 1) := by decide +kernel
theorem dX12_init_75 : decode cX12_init 75 = .ok (.sipush 400, 3) := by decide +kernel
theorem dX12_init_78 : decode cX12_init 78 = .ok (.newarray .int, 2) := by decide +kernel
theorem dX12_init_80 : decode cX12_init 80 = .ok (.putfield 34, 3) := by decide +kernel
theorem dX12_init_83 : decode cX12_init 83 = .ok (.aload_n 0, 1) := by decide +kernel
theorem dX12_init_84 : decode cX12_init 84 = .ok (.sipush 420, 3) := by decide +kernel
theorem dX12_init_87 : decode cX12_init 87 = .ok (.newarray .int, 2) := by decide +kernel
theorem dX12_init_89 : decode cX12_init 89 = .ok (.putfield 37, 3) := by decide +kernel
theorem dX12_init_92 : decode cX12_init 92 = .ok (.aload_n 0, 1) := by decide +kernel
theorem dX12_init_93 : decode cX12_init 93 = .ok (.bipush 14, 2) := by decide +kernel
theorem dX12_init_95 : decode cX12_init 95 = .ok (.newarray .int, 2) := by decide +kernel
theorem dX12_init_97 : decode cX12_init 97 = .ok (.putfield 40, 3) := by decide +kernel
theorem dX12_init_100 : decode cX12_init 100 = .ok (.aload_n 0, 1) := by decide +kernel
theorem dX12_init_101 : decode cX12_init 101 = .ok (.iconst (-1), 1) := by decide +kernel
theorem dX12_init_102 : decode cX12_init 102 = .ok (.putfield 43, 3) := by decide +kernel
theorem dX12_init_105 : decode cX12_init 105 = .ok (.aload_n 0, 1) := by decide +kernel
theorem dX12_init_106 : decode cX12_init 106 = .ok (.bipush 24, 2) := by decide +kernel
theorem dX12_init_108 : decode cX12_init 108 = .ok (.newarray .int, 2) := by decide +kernel
theorem dX12_init_110 : decode cX12_init 110 = .ok (.putfield 47, 3) := by decide +kernel
theorem dX12_init_113 : decode cX12_init 113 = .ok (.aload_n 0, 1) := by decide +kernel
theorem dX12_init_114 : decode cX12_init 114 = .ok (.bipush 24, 2) := by decide +kernel
theorem dX12_init_116 : decode cX12_init 116 = .ok (.newarray .int, 2) := by decide +kernel
theorem dX12_init_118 : decode cX12_init 118 = .ok (.putfield 50, 3) := by decide +kernel
theorem dX12_init_121 : decode cX12_init 121 = .ok (.aload_n 0, 1) := by decide +kernel
theorem dX12_init_122 : decode cX12_init 122 = .ok (.sipush 600, 3) := by decide +kernel
theorem dX12_init_125 : decode cX12_init 125 = .ok (.newarray .int, 2) := by decide +kernel
theorem dX12_init_127 : decode cX12_init 127 = .ok (.putfield 53, 3) := by decide +kernel
theorem dX12_init_130 : decode cX12_init 130 = .ok (.aload_n 0, 1) := by decide +kernel
theorem dX12_init_131 : decode cX12_init 131 = .ok (.bipush 8, 2) := by decide +kernel
theorem dX12_init_133 : decode cX12_init 133 = .ok (.newarray .int, 2) := by decide +kernel
theorem dX12_init_135 : decode cX12_init 135 = .ok (.putfield 56, 3) := by decide +kernel
theorem dX12_init_138 : decode cX12_init 138 = .ok (.aload_n 0, 1) := by decide +kernel
theorem dX12_init_139 : decode cX12_init 139 = .ok (.bipush 7, 2) := by decide +kernel
theorem dX12_init_141 : decode cX12_init 141 = .ok (.newarray .int, 2) := by decide +kernel
theorem dX12_init_143 : decode cX12_init 143 = .ok (.putfield 59, 3) := by decide +kernel
theorem dX12_init_146 : decode cX12_init 146 = .ok (.aload_n 0, 1) := by decide +kernel
theorem dX12_init_147 : decode cX12_init 147 = .ok (.bipush 7, 2) := by decide +kernel
theorem dX12_init_149 : decode cX12_init 149 = .ok (.newarray .int, 2) := by decide +kernel
theorem dX12_init_151 : decode cX12_init 151 = .ok (.putfield 62, 3) := by decide +kernel
theorem dX12_init_154 : decode cX12_init 154 = .ok (.aload_n 0, 1) := by decide +kernel
theorem dX12_init_155 : decode cX12_init 155 = .ok (.sipush 17496, 3) := by decide +kernel
theorem dX12_init_158 : decode cX12_init 158 = .ok (.newarray .int, 2) := by decide +kernel
theorem dX12_init_160 : decode cX12_init 160 = .ok (.putfield 65, 3) := by decide +kernel
theorem dX12_init_163 : decode cX12_init 163 = .ok (.aload_n 0, 1) := by decide +kernel
theorem dX12_init_164 : decode cX12_init 164 = .ok (.sipush 17496, 3) := by decide +kernel
theorem dX12_init_167 : decode cX12_init 167 = .ok (.newarray .int, 2) := by decide +kernel
theorem dX12_init_169 : decode cX12_init 169 = .ok (.putfield 68, 3) := by decide +kernel
theorem dX12_init_172 : decode cX12_init 172 = .ok (.aload_n 0, 1) := by decide +kernel
theorem dX12_init_173 : decode cX12_init 173 = .ok (.bipush 10, 2) := by decide +kernel
theorem dX12_init_175 : decode cX12_init 175 = .ok (.newarray .int, 2) := by decide +kernel
theorem dX12_init_177 : decode cX12_init 177 = .ok (.putfield 71, 3) := by decide +kernel
theorem dX12_init_180 : decode cX12_init 180 = .ok (.iconst 0, 1) := by decide +kernel
theorem dX12_init_181 : decode cX12_init 181 = .ok (.istore_n 1, 1) := by decide +kernel
theorem dX12_init_182 : decode cX12_init 182 = .ok (.iload_n 1, 1) := by decide +kernel
theorem dX12_init_183 : decode cX12_init 183 = .ok (.bipush 6, 2) := by decide +kernel
theorem dX12_init_185 : decode cX12_init 185 = .ok (.if_icmp .ge 31, 3) := by decide +kernel
theorem dX12_init_188 : decode cX12_init 188 = .ok (.aload_n 0, 1) := by decide +kernel
theorem dX12_init_189 : decode cX12_init 189 = .ok (.getfield 7, 3) := by decide +kernel
theorem dX12_init_192 : decode cX12_init 192 = .ok (.sipush 2564, 3) := by decide +kernel
theorem dX12_init_195 : decode cX12_init 195 = .ok (.iload_n 1, 1) := by decide +kernel
theorem dX12_init_196 : decode cX12_init 196 = .ok (.iadd, 1) := by decide +kernel
theorem dX12_init_197 : decode cX12_init 197 = .ok (.iconst 3, 1) := by decide +kernel
theorem dX12_init_198 : decode cX12_init 198 = .ok (.iastore, 1) := by decide +kernel
theorem dX12_init_199 : decode cX12_init 199 = .ok (.aload_n 0, 1) := by decide +kernel
theorem dX12_init_200 : decode cX12_init 200 = .ok (.getfield 7, 3) := by decide +kernel
theorem dX12_init_203 : decode cX12_init 203 = .ok (.sipush 2570, 3) := by decide +kernel
theorem dX12_init_206 : decode cX12_init 206 = .ok (.iload_n 1, 1) := by decide +kernel
theorem dX12_init_207 : decode cX12_init 207 = .ok (.iadd, 1) := by decide +kernel
theorem dX12_init_208 : decode cX12_init 208 = .ok (.iconst 2, 1) := by decide +kernel
theorem dX12_init_209 : decode cX12_init 209 = .ok (.iastore, 1) := by decide +kernel
theorem dX12_init_210 : decode cX12_init 210 = .ok (.iinc 1 1, 3) := by decide +kernel
theorem dX12_init_213 : decode cX12_init 213 = .ok (.goto (-31), 3) := by decide +kernel
theorem dX12_init_216 : decode cX12_init 216 = .ok (.return_, 1) := by decide +kernel
theorem dX12_isIn_0 : decode cX12_isIn 0 = .ok (.iload_n 0, 1) := by decide +kernel
theorem dX12_isIn_1 : decode cX12_isIn 1 = .ok (.iload_n 1, 1) := by decide +kernel
theorem dX12_isIn_2 : decode cX12_isIn 2 = .ok (.if_icmp .lt 12, 3) := by decide +kernel
theorem dX12_isIn_5 : decode cX12_isIn 5 = .ok (.iload_n 0, 1) := by decide +kernel
theorem dX12_isIn_6 : decode cX12_isIn 6 = .ok (.iload_n 2, 1) := by decide +kernel
theorem dX12_isIn_7 : decode cX12_isIn 7 = .ok (.if_icmp .gt 7, 3) := by decide +kernel
theorem dX12_isIn_10 : decode cX12_isIn 10 = .ok (.iconst 1, 1) := by decide +kernel
theorem dX12_isIn_11 : decode cX12_isIn 11 = .ok (.goto 4, 3) := by decide +kernel
theorem dX12_isIn_14 : decode cX12_isIn 14 = .ok (.iconst 0, 1) := by decide +kernel
theorem dX12_isIn_15 : decode cX12_isIn 15 = .ok (.ireturn, 1) := by decide +kernel
theorem dX12_lesser_0 : decode cX12_lesser 0 = .ok (.iload_n 0, 1) := by decide +kernel
theorem dX12_lesser_1 : decode cX12_lesser 1 = .ok (.iload_n 1, 1) := by decide +kernel
theorem dX12_lesser_2 : decode cX12_lesser 2 = .ok (.if_icmp .ge 7, 3) := by decide +kernel
theorem dX12_lesser_5 : decode cX12_lesser 5 = .ok (.iload_n 0, 1) := by decide +kernel
theorem dX12_lesser_6 : decode cX12_lesser 6 = .ok (.goto 4, 3) := by decide +kernel
theorem dX12_lesser_9 : decode cX12_lesser 9 = .ok (.iload_n 1, 1) := by decide +kernel
theorem dX12_lesser_10 : decode cX12_lesser 10 = .ok (.ireturn, 1) := by decide +kernel
theorem dX12_greater_0 : decode cX12_greater 0 = .ok (.iload_n 0, 1) := by decide +kernel
theorem dX12_greater_1 : decode cX12_greater 1 = .ok (.iload_n 1, 1) := by decide +kernel
theorem dX12_greater_2 : decode cX12_greater 2 = .ok (.if_icmp .le 7, 3) := by decide +kernel
theorem dX12_greater_5 : decode cX12_greater 5 = .ok (.iload_n 0, 1) := by decide +kernel
theorem dX12_greater_6 : decode cX12_greater 6 = .ok (.goto 4, 3) := by decide +kernel
theorem dX12_greater_9 : decode cX12_greater 9 = .ok (.iload_n 1, 1) := by decide +kernel
theorem dX12_greater_10 : decode cX12_greater 10 = .ok (.ireturn, 1) := by decide +kernel
theorem dX12_ofRope_0 : decode cX12_ofRope 0 = .ok (.aload_n 0, 1) := by decide +kernel
theorem dX12_ofRope_1 : decode cX12_ofRope 1 = .ok (.getfield 7, 3) := by decide +kernel
theorem dX12_ofRope_4 : decode cX12_ofRope 4 = .ok (.iconst 4, 1) := by decide +kernel
theorem dX12_ofRope_5 : decode cX12_ofRope 5 = .ok (.sipush 320, 3) := by decide +kernel
theorem dX12_ofRope_8 : decode cX12_ofRope 8 = .ok (.iload_n 1, 1) := by decide +kernel
theorem dX12_ofRope_9 : decode cX12_ofRope 9 = .ok (.imul, 1) := by decide +kernel
theorem dX12_ofRope_10 : decode cX12_ofRope 10 = .ok (.iadd, 1) := by decide +kernel
theorem dX12_ofRope_11 : decode cX12_ofRope 11 = .ok (.iload_n 2, 1) := by decide +kernel
theorem dX12_ofRope_12 : decode cX12_ofRope 12 = .ok (.iadd, 1) := by decide +kernel
theorem dX12_ofRope_13 : decode cX12_ofRope 13 = .ok (.iaload, 1) := by decide +kernel
theorem dX12_ofRope_14 : decode cX12_ofRope 14 = .ok (.ireturn, 1) := by decide +kernel
theorem dX12_ropes_0 : decode cX12_ropes 0 = .ok (.aload_n 0, 1) := by decide +kernel
theorem dX12_ropes_1 : decode cX12_ropes 1 = .ok (.getfield 7, 3) := by decide +kernel
theorem dX12_ropes_4 : decode cX12_ropes 4 = .ok (.iconst 4, 1) := by decide +kernel
theorem dX12_ropes_5 : decode cX12_ropes 5 = .ok (.sipush 320, 3) := by decide +kernel
theorem dX12_ropes_8 : decode cX12_ropes 8 = .ok (.iload_n 1, 1) := by decide +kernel
theorem dX12_ropes_9 : decode cX12_ropes 9 = .ok (.imul, 1) := by decide +kernel
theorem dX12_ropes_10 : decode cX12_ropes 10 = .ok (.iadd, 1) := by decide +kernel
theorem dX12_ropes_11 : decode cX12_ropes 11 = .ok (.iload_n 2, 1) := by decide +kernel
theorem dX12_ropes_12 : decode cX12_ropes 12 = .ok (.iadd, 1) := by decide +kernel
theorem dX12_ropes_13 : decode cX12_ropes 13 = .ok (.iload_n 3, 1) := by decide +kernel
theorem dX12_ropes_14 : decode cX12_ropes 14 = .ok (.iastore, 1) := by decide +kernel
theorem dX12_ropes_15 : decode cX12_ropes 15 = .ok (.return_, 1) := by decide +kernel
theorem dX12_ofPlace_0 : decode cX12_ofPlace 0 = .ok (.aload_n 0, 1) := by decide +kernel
theorem dX12_ofPlace_1 : decode cX12_ofPlace 1 = .ok (.getfield 7, 3) := by decide +kernel
theorem dX12_ofPlace_4 : decode cX12_ofPlace 4 = .ok (.iconst 4, 1) := by decide +kernel
theorem dX12_ofPlace_5 : decode cX12_ofPlace 5 = .ok (.sipush 320, 3) := by decide +kernel
theorem dX12_ofPlace_8 : decode cX12_ofPlace 8 = .ok (.iload_n 1, 1) := by decide +kernel
theorem dX12_ofPlace_9 : decode cX12_ofPlace 9 = .ok (.imul, 1) := by decide +kernel
theorem dX12_ofPlace_10 : decode cX12_ofPlace 10 = .ok (.iadd, 1) := by decide +kernel
theorem dX12_ofPlace_11 : decode cX12_ofPlace 11 = .ok (.bipush 8, 2) := by decide +kernel
theorem dX12_ofPlace_13 : decode cX12_ofPlace 13 = .ok (.iadd, 1) := by decide +kernel
theorem dX12_ofPlace_14 : decode cX12_ofPlace 14 = .ok (.bipush 13, 2) := by decide +kernel
theorem dX12_ofPlace_16 : decode cX12_ofPlace 16 = .ok (.iload_n 2, 1) := by decide +kernel
theorem dX12_ofPlace_17 : decode cX12_ofPlace 17 = .ok (.imul, 1) := by decide +kernel
theorem dX12_ofPlace_18 : decode cX12_ofPlace 18 = .ok (.iadd, 1) := by decide +kernel
theorem dX12_ofPlace_19 : decode cX12_ofPlace 19 = .ok (.iload_n 3, 1) := by decide +kernel
theorem dX12_ofPlace_20 : decode cX12_ofPlace 20 = .ok (.iadd, 1) := by decide +kernel
theorem dX12_ofPlace_21 : decode cX12_ofPlace 21 = .ok (.iaload, 1) := by decide +kernel
theorem dX12_ofPlace_22 : decode cX12_ofPlace 22 = .ok (.ireturn, 1) := by decide +kernel
theorem dX12_places_0 : decode cX12_places 0 = .ok (.aload_n 0, 1) := by decide +kernel
theorem dX12_places_1 : decode cX12_places 1 = .ok (.getfield 7, 3) := by decide +kernel
theorem dX12_places_4 : decode cX12_places 4 = .ok (.iconst 4, 1) := by decide +kernel
theorem dX12_places_5 : decode cX12_places 5 = .ok (.sipush 320, 3) := by decide +kernel
theorem dX12_places_8 : decode cX12_places 8 = .ok (.iload_n 1, 1) := by decide +kernel
theorem dX12_places_9 : decode cX12_places 9 = .ok (.imul, 1) := by decide +kernel
theorem dX12_places_10 : decode cX12_places 10 = .ok (.iadd, 1) := by decide +kernel
theorem dX12_places_11 : decode cX12_places 11 = .ok (.bipush 8, 2) := by decide +kernel
theorem dX12_places_13 : decode cX12_places 13 = .ok (.iadd, 1) := by decide +kernel
theorem dX12_places_14 : decode cX12_places 14 = .ok (.bipush 13, 2) := by decide +kernel
theorem dX12_places_16 : decode cX12_places 16 = .ok (.iload_n 2, 1) := by decide +kernel
theorem dX12_places_17 : decode cX12_places 17 = .ok (.imul, 1) := by decide +kernel
theorem dX12_places_18 : decode cX12_places 18 = .ok (.iadd, 1) := by decide +kernel
theorem dX12_places_19 : decode cX12_places 19 = .ok (.iload_n 3, 1) := by decide +kernel
theorem dX12_places_20 : decode cX12_places 20 = .ok (.iadd, 1) := by decide +kernel
theorem dX12_places_21 : decode cX12_places 21 = .ok (.iload 4, 2) := by decide +kernel
theorem dX12_places_23 : decode cX12_places 23 = .ok (.iastore, 1) := by decide +kernel
theorem dX12_places_24 : decode cX12_places 24 = .ok (.return_, 1) := by decide +kernel
theorem dX12_isRope_0 : decode cX12_isRope 0 = .ok (.iload_n 1, 1) := by decide +kernel
theorem dX12_isRope_1 : decode cX12_isRope 1 = .ok (.iconst 0, 1) := by decide +kernel
theorem dX12_isRope_2 : decode cX12_isRope 2 = .ok (.bipush 7, 2) := by decide +kernel
theorem dX12_isRope_4 : decode cX12_isRope 4 = .ok (.invokestatic 74, 3) := by decide +kernel
theorem dX12_isRope_7 : decode cX12_isRope 7 = .ok (.ifCond .eq 17, 3) := by decide +kernel
theorem dX12_isRope_10 : decode cX12_isRope 10 = .ok (.aload_n 0, 1) := by decide +kernel
theorem dX12_isRope_11 : decode cX12_isRope 11 = .ok (.iload_n 1, 1) := by decide +kernel
theorem dX12_isRope_12 : decode cX12_isRope 12 = .ok (.iconst 0, 1) := by decide +kernel
theorem dX12_isRope_13 : decode cX12_isRope 13 = .ok (.invokevirtual 78, 3) := by decide +kernel
theorem dX12_isRope_16 : decode cX12_isRope 16 = .ok (.iconst 1, 1) := by decide +kernel
theorem dX12_isRope_17 : decode cX12_isRope 17 = .ok (.if_icmp .ne 7, 3) := by decide +kernel
theorem dX12_isRope_20 : decode cX12_isRope 20 = .ok (.iconst 1, 1) := by decide +kernel
theorem dX12_isRope_21 : decode cX12_isRope 21 = .ok (.goto 4, 3) := by decide +kernel
theorem dX12_isRope_24 : decode cX12_isRope 24 = .ok (.iconst 0, 1) := by decide +kernel
theorem dX12_isRope_25 : decode cX12_isRope 25 = .ok (.ireturn, 1) := by decide +kernel
theorem dX12_isPlace_0 : decode cX12_isPlace 0 = .ok (.aload_n 0, 1) := by decide +kernel
theorem dX12_isPlace_1 : decode cX12_isPlace 1 = .ok (.iload_n 1, 1) := by decide +kernel
theorem dX12_isPlace_2 : decode cX12_isPlace 2 = .ok (.invokevirtual 82, 3) := by decide +kernel
theorem dX12_isPlace_5 : decode cX12_isPlace 5 = .ok (.ifCond .eq 23, 3) := by decide +kernel
theorem dX12_isPlace_8 : decode cX12_isPlace 8 = .ok (.iload_n 2, 1) := by decide +kernel
theorem dX12_isPlace_9 : decode cX12_isPlace 9 = .ok (.iconst 0, 1) := by decide +kernel
theorem dX12_isPlace_10 : decode cX12_isPlace 10 = .ok (.aload_n 0, 1) := by decide +kernel
theorem dX12_isPlace_11 : decode cX12_isPlace 11 = .ok (.iload_n 1, 1) := by decide +kernel
theorem dX12_isPlace_12 : decode cX12_isPlace 12 = .ok (.iconst 1, 1) := by decide +kernel
theorem dX12_isPlace_13 : decode cX12_isPlace 13 = .ok (.invokevirtual 78, 3) := by decide +kernel
theorem dX12_isPlace_16 : decode cX12_isPlace 16 = .ok (.iconst 1, 1) := by decide +kernel
theorem dX12_isPlace_17 : decode cX12_isPlace 17 = .ok (.isub, 1) := by decide +kernel
theorem dX12_isPlace_18 : decode cX12_isPlace 18 = .ok (.invokestatic 74, 3) := by decide +kernel
theorem dX12_isPlace_21 : decode cX12_isPlace 21 = .ok (.ifCond .eq 7, 3) := by decide +kernel
theorem dX12_isPlace_24 : decode cX12_isPlace 24 = .ok (.iconst 1, 1) := by decide +kernel
theorem dX12_isPlace_25 : decode cX12_isPlace 25 = .ok (.goto 4, 3) := by decide +kernel
theorem dX12_isPlace_28 : decode cX12_isPlace 28 = .ok (.iconst 0, 1) := by decide +kernel
theorem dX12_isPlace_29 : decode cX12_isPlace 29 = .ok (.ireturn, 1) := by decide +kernel
theorem dX12_isKnot_0 : decode cX12_isKnot 0 = .ok (.iload_n 0, 1) := by decide +kernel
theorem dX12_isKnot_1 : decode cX12_isKnot 1 = .ok (.iconst 0, 1) := by decide +kernel
theorem dX12_isKnot_2 : decode cX12_isKnot 2 = .ok (.iconst 5, 1) := by decide +kernel
theorem dX12_isKnot_3 : decode cX12_isKnot 3 = .ok (.invokestatic 74, 3) := by decide +kernel
theorem dX12_isKnot_6 : decode cX12_isKnot 6 = .ok (.ireturn, 1) := by decide +kernel
theorem dX12_isTied_0 : decode cX12_isTied 0 = .ok (.aload_n 0, 1) := by decide +kernel
theorem dX12_isTied_1 : decode cX12_isTied 1 = .ok (.iload_n 1, 1) := by decide +kernel
theorem dX12_isTied_2 : decode cX12_isTied 2 = .ok (.iload_n 2, 1) := by decide +kernel
theorem dX12_isTied_3 : decode cX12_isTied 3 = .ok (.iconst 0, 1) := by decide +kernel
theorem dX12_isTied_4 : decode cX12_isTied 4 = .ok (.invokevirtual 86, 3) := by decide +kernel
theorem dX12_isTied_7 : decode cX12_isTied 7 = .ok (.iconst (-1), 1) := by decide +kernel
theorem dX12_isTied_8 : decode cX12_isTied 8 = .ok (.if_icmp .eq 7, 3) := by decide +kernel
theorem dX12_isTied_11 : decode cX12_isTied 11 = .ok (.iconst 1, 1) := by decide +kernel
theorem dX12_isTied_12 : decode cX12_isTied 12 = .ok (.goto 4, 3) := by decide +kernel
theorem dX12_isTied_15 : decode cX12_isTied 15 = .ok (.iconst 0, 1) := by decide +kernel
theorem dX12_isTied_16 : decode cX12_isTied 16 = .ok (.ireturn, 1) := by decide +kernel
theorem dX12_habitOf_0 : decode cX12_habitOf 0 = .ok (.aload_n 0, 1) := by decide +kernel
theorem dX12_habitOf_1 : decode cX12_habitOf 1 = .ok (.iload_n 1, 1) := by decide +kernel
theorem dX12_habitOf_2 : decode cX12_habitOf 2 = .ok (.iload_n 2, 1) := by decide +kernel
theorem dX12_habitOf_3 : decode cX12_habitOf 3 = .ok (.iconst 1, 1) := by decide +kernel
theorem dX12_habitOf_4 : decode cX12_habitOf 4 = .ok (.iload_n 3, 1) := by decide +kernel
theorem dX12_habitOf_5 : decode cX12_habitOf 5 = .ok (.iadd, 1) := by decide +kernel
theorem dX12_habitOf_6 : decode cX12_habitOf 6 = .ok (.invokevirtual 86, 3) := by decide +kernel
theorem dX12_habitOf_9 : decode cX12_habitOf 9 = .ok (.ireturn, 1) := by decide +kernel
theorem dX12_forgets_0 : decode cX12_forgets 0 = .ok (.aload_n 0, 1) := by decide +kernel
theorem dX12_forgets_1 : decode cX12_forgets 1 = .ok (.iconst 0, 1) := by decide +kernel
theorem dX12_forgets_2 : decode cX12_forgets 2 = .ok (.putfield 90, 3) := by decide +kernel
theorem dX12_forgets_5 : decode cX12_forgets 5 = .ok (.return_, 1) := by decide +kernel
theorem dX12_state_0 : decode cX12_state 0 = .ok (.aload_n 0, 1) := by decide +kernel
theorem dX12_state_1 : decode cX12_state 1 = .ok (.getfield 7, 3) := by decide +kernel
theorem dX12_state_4 : decode cX12_state 4 = .ok (.iconst 2, 1) := by decide +kernel
theorem dX12_state_5 : decode cX12_state 5 = .ok (.iaload, 1) := by decide +kernel
theorem dX12_state_6 : decode cX12_state 6 = .ok (.istore_n 2, 1) := by decide +kernel
theorem dX12_state_7 : decode cX12_state 7 = .ok (.aload_n 0, 1) := by decide +kernel
theorem dX12_state_8 : decode cX12_state 8 = .ok (.getfield 7, 3) := by decide +kernel
theorem dX12_state_11 : decode cX12_state 11 = .ok (.iconst 2, 1) := by decide +kernel
theorem dX12_state_12 : decode cX12_state 12 = .ok (.iload_n 1, 1) := by decide +kernel
theorem dX12_state_13 : decode cX12_state 13 = .ok (.iastore, 1) := by decide +kernel
theorem dX12_state_14 : decode cX12_state 14 = .ok (.aload_n 0, 1) := by decide +kernel
theorem dX12_state_15 : decode cX12_state 15 = .ok (.invokevirtual 93, 3) := by decide +kernel
theorem dX12_state_18 : decode cX12_state 18 = .ok (.iload_n 2, 1) := by decide +kernel
theorem dX12_state_19 : decode cX12_state 19 = .ok (.ireturn, 1) := by decide +kernel
theorem dX12_draw_0 : decode cX12_draw 0 = .ok (.aload_n 0, 1) := by decide +kernel
theorem dX12_draw_1 : decode cX12_draw 1 = .ok (.getfield 7, 3) := by decide +kernel
theorem dX12_draw_4 : decode cX12_draw 4 = .ok (.iconst 2, 1) := by decide +kernel
theorem dX12_draw_5 : decode cX12_draw 5 = .ok (.ldc 96, 2) := by decide +kernel
theorem dX12_draw_7 : decode cX12_draw 7 = .ok (.aload_n 0, 1) := by decide +kernel
theorem dX12_draw_8 : decode cX12_draw 8 = .ok (.getfield 7, 3) := by decide +kernel
theorem dX12_draw_11 : decode cX12_draw 11 = .ok (.iconst 2, 1) := by decide +kernel
theorem dX12_draw_12 : decode cX12_draw 12 = .ok (.iaload, 1) := by decide +kernel
theorem dX12_draw_13 : decode cX12_draw 13 = .ok (.imul, 1) := by decide +kernel
theorem dX12_draw_14 : decode cX12_draw 14 = .ok (.ldc 97, 2) := by decide +kernel
theorem dX12_draw_16 : decode cX12_draw 16 = .ok (.iadd, 1) := by decide +kernel
theorem dX12_draw_17 : decode cX12_draw 17 = .ok (.iastore, 1) := by decide +kernel
theorem dX12_draw_18 : decode cX12_draw 18 = .ok (.aload_n 0, 1) := by decide +kernel
theorem dX12_draw_19 : decode cX12_draw 19 = .ok (.getfield 7, 3) := by decide +kernel
theorem dX12_draw_22 : decode cX12_draw 22 = .ok (.iconst 2, 1) := by decide +kernel
theorem dX12_draw_23 : decode cX12_draw 23 = .ok (.iaload, 1) := by decide +kernel
theorem dX12_draw_24 : decode cX12_draw 24 = .ok (.bipush 8, 2) := by decide +kernel
theorem dX12_draw_26 : decode cX12_draw 26 = .ok (.iushr, 1) := by decide +kernel
theorem dX12_draw_27 : decode cX12_draw 27 = .ok (.iload_n 1, 1) := by decide +kernel
theorem dX12_draw_28 : decode cX12_draw 28 = .ok (.irem, 1) := by decide +kernel
theorem dX12_draw_29 : decode cX12_draw 29 = .ok (.ireturn, 1) := by decide +kernel
theorem dX12_freeRope_0 : decode cX12_freeRope 0 = .ok (.iconst 0, 1) := by decide +kernel
theorem dX12_freeRope_1 : decode cX12_freeRope 1 = .ok (.istore_n 1, 1) := by decide +kernel
theorem dX12_freeRope_2 : decode cX12_freeRope 2 = .ok (.iload_n 1, 1) := by decide +kernel
theorem dX12_freeRope_3 : decode cX12_freeRope 3 = .ok (.bipush 8, 2) := by decide +kernel
theorem dX12_freeRope_5 : decode cX12_freeRope 5 = .ok (.if_icmp .ge 20, 3) := by decide +kernel
theorem dX12_freeRope_8 : decode cX12_freeRope 8 = .ok (.aload_n 0, 1) := by decide +kernel
theorem dX12_freeRope_9 : decode cX12_freeRope 9 = .ok (.iload_n 1, 1) := by decide +kernel
theorem dX12_freeRope_10 : decode cX12_freeRope 10 = .ok (.iconst 0, 1) := by decide +kernel
theorem dX12_freeRope_11 : decode cX12_freeRope 11 = .ok (.invokevirtual 78, 3) := by decide +kernel
theorem dX12_freeRope_14 : decode cX12_freeRope 14 = .ok (.ifCond .ne 5, 3) := by decide +kernel
theorem dX12_freeRope_17 : decode cX12_freeRope 17 = .ok (.iload_n 1, 1) := by decide +kernel
theorem dX12_freeRope_18 : decode cX12_freeRope 18 = .ok (.ireturn, 1) := by decide +kernel
theorem dX12_freeRope_19 : decode cX12_freeRope 19 = .ok (.iinc 1 1, 3) := by decide +kernel
theorem dX12_freeRope_22 : decode cX12_freeRope 22 = .ok (.goto (-20), 3) := by decide +kernel
theorem dX12_freeRope_25 : decode cX12_freeRope 25 = .ok (.iconst (-1), 1) := by decide +kernel
theorem dX12_freeRope_26 : decode cX12_freeRope 26 = .ok (.ireturn, 1) := by decide +kernel
theorem dX12_begins_0 : decode cX12_begins 0 = .ok (.aload_n 0, 1) := by decide +kernel
theorem dX12_begins_1 : decode cX12_begins 1 = .ok (.iload_n 1, 1) := by decide +kernel
theorem dX12_begins_2 : decode cX12_begins 2 = .ok (.iconst 0, 1) := by decide +kernel
theorem dX12_begins_3 : decode cX12_begins 3 = .ok (.iconst 1, 1) := by decide +kernel
theorem dX12_begins_4 : decode cX12_begins 4 = .ok (.invokevirtual 98, 3) := by decide +kernel
theorem dX12_begins_7 : decode cX12_begins 7 = .ok (.aload_n 0, 1) := by decide +kernel
theorem dX12_begins_8 : decode cX12_begins 8 = .ok (.iload_n 1, 1) := by decide +kernel
theorem dX12_begins_9 : decode cX12_begins 9 = .ok (.iconst 1, 1) := by decide +kernel
theorem dX12_begins_10 : decode cX12_begins 10 = .ok (.iload_n 2, 1) := by decide +kernel
theorem dX12_begins_11 : decode cX12_begins 11 = .ok (.invokevirtual 98, 3) := by decide +kernel
theorem dX12_begins_14 : decode cX12_begins 14 = .ok (.aload_n 0, 1) := by decide +kernel
theorem dX12_begins_15 : decode cX12_begins 15 = .ok (.iload_n 1, 1) := by decide +kernel
theorem dX12_begins_16 : decode cX12_begins 16 = .ok (.iconst 2, 1) := by decide +kernel
theorem dX12_begins_17 : decode cX12_begins 17 = .ok (.iload_n 3, 1) := by decide +kernel
theorem dX12_begins_18 : decode cX12_begins 18 = .ok (.invokevirtual 98, 3) := by decide +kernel
theorem dX12_begins_21 : decode cX12_begins 21 = .ok (.aload_n 0, 1) := by decide +kernel
theorem dX12_begins_22 : decode cX12_begins 22 = .ok (.iload_n 1, 1) := by decide +kernel
theorem dX12_begins_23 : decode cX12_begins 23 = .ok (.iconst 3, 1) := by decide +kernel
theorem dX12_begins_24 : decode cX12_begins 24 = .ok (.iload 4, 2) := by decide +kernel
theorem dX12_begins_26 : decode cX12_begins 26 = .ok (.invokevirtual 98, 3) := by decide +kernel
theorem dX12_begins_29 : decode cX12_begins 29 = .ok (.aload_n 0, 1) := by decide +kernel
theorem dX12_begins_30 : decode cX12_begins 30 = .ok (.iload_n 1, 1) := by decide +kernel
theorem dX12_begins_31 : decode cX12_begins 31 = .ok (.iconst 4, 1) := by decide +kernel
theorem dX12_begins_32 : decode cX12_begins 32 = .ok (.iload 5, 2) := by decide +kernel
theorem dX12_begins_34 : decode cX12_begins 34 = .ok (.invokevirtual 98, 3) := by decide +kernel
theorem dX12_begins_37 : decode cX12_begins 37 = .ok (.iconst 0, 1) := by decide +kernel
theorem dX12_begins_38 : decode cX12_begins 38 = .ok (.istore 6, 2) := by decide +kernel
theorem dX12_begins_40 : decode cX12_begins 40 = .ok (.iload 6, 2) := by decide +kernel
theorem dX12_begins_42 : decode cX12_begins 42 = .ok (.bipush 24, 2) := by decide +kernel
theorem dX12_begins_44 : decode cX12_begins 44 = .ok (.if_icmp .ge 45, 3) := by decide +kernel
theorem dX12_begins_47 : decode cX12_begins 47 = .ok (.aload_n 0, 1) := by decide +kernel
theorem dX12_begins_48 : decode cX12_begins 48 = .ok (.iload_n 1, 1) := by decide +kernel
theorem dX12_begins_49 : decode cX12_begins 49 = .ok (.iload 6, 2) := by decide +kernel
theorem dX12_begins_51 : decode cX12_begins 51 = .ok (.iconst 0, 1) := by decide +kernel
theorem dX12_begins_52 : decode cX12_begins 52 = .ok (.iconst (-1), 1) := by decide +kernel
theorem dX12_begins_53 : decode cX12_begins 53 = .ok (.invokevirtual 102, 3) := by decide +kernel
theorem dX12_begins_56 : decode cX12_begins 56 = .ok (.iconst 0, 1) := by decide +kernel
theorem dX12_begins_57 : decode cX12_begins 57 = .ok (.istore 7, 2) := by decide +kernel
theorem dX12_begins_59 : decode cX12_begins 59 = .ok (.iload 7, 2) := by decide +kernel
theorem dX12_begins_61 : decode cX12_begins 61 = .ok (.bipush 6, 2) := by decide +kernel
theorem dX12_begins_63 : decode cX12_begins 63 = .ok (.if_icmp .ge 20, 3) := by decide +kernel
theorem dX12_begins_66 : decode cX12_begins 66 = .ok (.aload_n 0, 1) := by decide +kernel
theorem dX12_begins_67 : decode cX12_begins 67 = .ok (.iload_n 1, 1) := by decide +kernel
theorem dX12_begins_68 : decode cX12_begins 68 = .ok (.iload 6, 2) := by decide +kernel
theorem dX12_begins_70 : decode cX12_begins 70 = .ok (.iload 7, 2) := by decide +kernel
theorem dX12_begins_72 : decode cX12_begins 72 = .ok (.iconst 0, 1) := by decide +kernel
theorem dX12_begins_73 : decode cX12_begins 73 = .ok (.iconst 0, 1) := by decide +kernel
theorem dX12_begins_74 : decode cX12_begins 74 = .ok (.invokevirtual 106, 3) := by decide +kernel
theorem dX12_begins_77 : decode cX12_begins 77 = .ok (.iinc 7 1, 3) := by decide +kernel
theorem dX12_begins_80 : decode cX12_begins 80 = .ok (.goto (-21), 3) := by decide +kernel
theorem dX12_begins_83 : decode cX12_begins 83 = .ok (.iinc 6 1, 3) := by decide +kernel
theorem dX12_begins_86 : decode cX12_begins 86 = .ok (.goto (-46), 3) := by decide +kernel
theorem dX12_begins_89 : decode cX12_begins 89 = .ok (.return_, 1) := by decide +kernel
theorem dX12_habits_0 : decode cX12_habits 0 = .ok (.aload_n 0, 1) := by decide +kernel
theorem dX12_habits_1 : decode cX12_habits 1 = .ok (.iload_n 1, 1) := by decide +kernel
theorem dX12_habits_2 : decode cX12_habits 2 = .ok (.iload_n 2, 1) := by decide +kernel
theorem dX12_habits_3 : decode cX12_habits 3 = .ok (.iconst 1, 1) := by decide +kernel
theorem dX12_habits_4 : decode cX12_habits 4 = .ok (.iload_n 3, 1) := by decide +kernel
theorem dX12_habits_5 : decode cX12_habits 5 = .ok (.iadd, 1) := by decide +kernel
theorem dX12_habits_6 : decode cX12_habits 6 = .ok (.iload 4, 2) := by decide +kernel
theorem dX12_habits_8 : decode cX12_habits 8 = .ok (.invokevirtual 102, 3) := by decide +kernel
theorem dX12_habits_11 : decode cX12_habits 11 = .ok (.aload_n 0, 1) := by decide +kernel
theorem dX12_habits_12 : decode cX12_habits 12 = .ok (.iload_n 1, 1) := by decide +kernel
theorem dX12_habits_13 : decode cX12_habits 13 = .ok (.iload_n 2, 1) := by decide +kernel
theorem dX12_habits_14 : decode cX12_habits 14 = .ok (.bipush 7, 2) := by decide +kernel
theorem dX12_habits_16 : decode cX12_habits 16 = .ok (.iload_n 3, 1) := by decide +kernel
theorem dX12_habits_17 : decode cX12_habits 17 = .ok (.iadd, 1) := by decide +kernel
theorem dX12_habits_18 : decode cX12_habits 18 = .ok (.iload 4, 2) := by decide +kernel
theorem dX12_habits_20 : decode cX12_habits 20 = .ok (.ifCond .ne 7, 3) := by decide +kernel
theorem dX12_habits_23 : decode cX12_habits 23 = .ok (.iconst 0, 1) := by decide +kernel
theorem dX12_habits_24 : decode cX12_habits 24 = .ok (.goto 5, 3) := by decide +kernel
theorem dX12_habits_27 : decode cX12_habits 27 = .ok (.iload 5, 2) := by decide +kernel
theorem dX12_habits_29 : decode cX12_habits 29 = .ok (.invokevirtual 102, 3) := by decide +kernel
theorem dX12_habits_32 : decode cX12_habits 32 = .ok (.return_, 1) := by decide +kernel
theorem dX12_rope_0 : decode cX12_rope 0 = .ok (.aload_n 0, 1) := by decide +kernel
theorem dX12_rope_1 : decode cX12_rope 1 = .ok (.invokevirtual 110, 3) := by decide +kernel
theorem dX12_rope_4 : decode cX12_rope 4 = .ok (.istore_n 3, 1) := by decide +kernel
theorem dX12_rope_5 : decode cX12_rope 5 = .ok (.iload_n 3, 1) := by decide +kernel
theorem dX12_rope_6 : decode cX12_rope 6 = .ok (.iconst (-1), 1) := by decide +kernel
theorem dX12_rope_7 : decode cX12_rope 7 = .ok (.if_icmp .eq 23, 3) := by decide +kernel
theorem dX12_rope_10 : decode cX12_rope 10 = .ok (.iload_n 1, 1) := by decide +kernel
theorem dX12_rope_11 : decode cX12_rope 11 = .ok (.iconst 2, 1) := by decide +kernel
theorem dX12_rope_12 : decode cX12_rope 12 = .ok (.bipush 24, 2) := by decide +kernel
theorem dX12_rope_14 : decode cX12_rope 14 = .ok (.invokestatic 74, 3) := by decide +kernel
theorem dX12_rope_17 : decode cX12_rope 17 = .ok (.ifCond .eq 13, 3) := by decide +kernel
theorem dX12_rope_20 : decode cX12_rope 20 = .ok (.iload_n 2, 1) := by decide +kernel
theorem dX12_rope_21 : decode cX12_rope 21 = .ok (.iconst 0, 1) := by decide +kernel
theorem dX12_rope_22 : decode cX12_rope 22 = .ok (.bipush 9, 2) := by decide +kernel
theorem dX12_rope_24 : decode cX12_rope 24 = .ok (.invokestatic 74, 3) := by decide +kernel
theorem dX12_rope_27 : decode cX12_rope 27 = .ok (.ifCond .ne 5, 3) := by decide +kernel
theorem dX12_rope_30 : decode cX12_rope 30 = .ok (.iconst (-1), 1) := by decide +kernel
theorem dX12_rope_31 : decode cX12_rope 31 = .ok (.ireturn, 1) := by decide +kernel
theorem dX12_rope_32 : decode cX12_rope 32 = .ok (.aload_n 0, 1) := by decide +kernel
theorem dX12_rope_33 : decode cX12_rope 33 = .ok (.iload_n 3, 1) := by decide +kernel
theorem dX12_rope_34 : decode cX12_rope 34 = .ok (.iload_n 1, 1) := by decide +kernel
theorem dX12_rope_35 : decode cX12_rope 35 = .ok (.iload_n 2, 1) := by decide +kernel
theorem dX12_rope_36 : decode cX12_rope 36 = .ok (.aload_n 0, 1) := by decide +kernel
theorem dX12_rope_37 : decode cX12_rope 37 = .ok (.getfield 7, 3) := by decide +kernel
theorem dX12_rope_40 : decode cX12_rope 40 = .ok (.iconst 0, 1) := by decide +kernel
theorem dX12_rope_41 : decode cX12_rope 41 = .ok (.iaload, 1) := by decide +kernel
theorem dX12_rope_42 : decode cX12_rope 42 = .ok (.iconst 0, 1) := by decide +kernel
theorem dX12_rope_43 : decode cX12_rope 43 = .ok (.invokevirtual 114, 3) := by decide +kernel
theorem dX12_rope_46 : decode cX12_rope 46 = .ok (.aload_n 0, 1) := by decide +kernel
theorem dX12_rope_47 : decode cX12_rope 47 = .ok (.invokevirtual 93, 3) := by decide +kernel
theorem dX12_rope_50 : decode cX12_rope 50 = .ok (.iload_n 3, 1) := by decide +kernel
theorem dX12_rope_51 : decode cX12_rope 51 = .ok (.ireturn, 1) := by decide +kernel
theorem dX12_set_0 : decode cX12_set 0 = .ok (.iload_n 1, 1) := by decide +kernel
theorem dX12_set_1 : decode cX12_set 1 = .ok (.ifCond .ne 34, 3) := by decide +kernel
theorem dX12_set_4 : decode cX12_set 4 = .ok (.iload_n 2, 1) := by decide +kernel
theorem dX12_set_5 : decode cX12_set 5 = .ok (.invokestatic 117, 3) := by decide +kernel
theorem dX12_set_8 : decode cX12_set 8 = .ok (.ifCond .eq 27, 3) := by decide +kernel
theorem dX12_set_11 : decode cX12_set 11 = .ok (.iload_n 3, 1) := by decide +kernel
theorem dX12_set_12 : decode cX12_set 12 = .ok (.iconst 1, 1) := by decide +kernel
theorem dX12_set_13 : decode cX12_set 13 = .ok (.bipush 9, 2) := by decide +kernel
theorem dX12_set_15 : decode cX12_set 15 = .ok (.invokestatic 74, 3) := by decide +kernel
theorem dX12_set_18 : decode cX12_set 18 = .ok (.ifCond .eq 17, 3) := by decide +kernel
theorem dX12_set_21 : decode cX12_set 21 = .ok (.aload_n 0, 1) := by decide +kernel
theorem dX12_set_22 : decode cX12_set 22 = .ok (.getfield 7, 3) := by decide +kernel
theorem dX12_set_25 : decode cX12_set 25 = .ok (.sipush 2564, 3) := by decide +kernel
theorem dX12_set_28 : decode cX12_set 28 = .ok (.iload_n 2, 1) := by decide +kernel
theorem dX12_set_29 : decode cX12_set 29 = .ok (.iadd, 1) := by decide +kernel
theorem dX12_set_30 : decode cX12_set 30 = .ok (.iload_n 3, 1) := by decide +kernel
theorem dX12_set_31 : decode cX12_set 31 = .ok (.iastore, 1) := by decide +kernel
theorem dX12_set_32 : decode cX12_set 32 = .ok (.goto 69, 3) := by decide +kernel
theorem dX12_set_35 : decode cX12_set 35 = .ok (.iload_n 1, 1) := by decide +kernel
theorem dX12_set_36 : decode cX12_set 36 = .ok (.iconst 1, 1) := by decide +kernel
theorem dX12_set_37 : decode cX12_set 37 = .ok (.if_icmp .ne 34, 3) := by decide +kernel
theorem dX12_set_40 : decode cX12_set 40 = .ok (.iload_n 2, 1) := by decide +kernel
theorem dX12_set_41 : decode cX12_set 41 = .ok (.invokestatic 117, 3) := by decide +kernel
theorem dX12_set_44 : decode cX12_set 44 = .ok (.ifCond .eq 27, 3) := by decide +kernel
theorem dX12_set_47 : decode cX12_set 47 = .ok (.iload_n 3, 1) := by decide +kernel
theorem dX12_set_48 : decode cX12_set 48 = .ok (.iconst 0, 1) := by decide +kernel
theorem dX12_set_49 : decode cX12_set 49 = .ok (.bipush 9, 2) := by decide +kernel
theorem dX12_set_51 : decode cX12_set 51 = .ok (.invokestatic 74, 3) := by decide +kernel
theorem dX12_set_54 : decode cX12_set 54 = .ok (.ifCond .eq 17, 3) := by decide +kernel
theorem dX12_set_57 : decode cX12_set 57 = .ok (.aload_n 0, 1) := by decide +kernel
theorem dX12_set_58 : decode cX12_set 58 = .ok (.getfield 7, 3) := by decide +kernel
theorem dX12_set_61 : decode cX12_set 61 = .ok (.sipush 2570, 3) := by decide +kernel
theorem dX12_set_64 : decode cX12_set 64 = .ok (.iload_n 2, 1) := by decide +kernel
theorem dX12_set_65 : decode cX12_set 65 = .ok (.iadd, 1) := by decide +kernel
theorem dX12_set_66 : decode cX12_set 66 = .ok (.iload_n 3, 1) := by decide +kernel
theorem dX12_set_67 : decode cX12_set 67 = .ok (.iastore, 1) := by decide +kernel
theorem dX12_set_68 : decode cX12_set 68 = .ok (.goto 33, 3) := by decide +kernel
theorem dX12_set_71 : decode cX12_set 71 = .ok (.iload_n 1, 1) := by decide +kernel
theorem dX12_set_72 : decode cX12_set 72 = .ok (.iconst 2, 1) := by decide +kernel
theorem dX12_set_73 : decode cX12_set 73 = .ok (.if_icmp .ne 26, 3) := by decide +kernel
theorem dX12_set_76 : decode cX12_set 76 = .ok (.iload_n 3, 1) := by decide +kernel
theorem dX12_set_77 : decode cX12_set 77 = .ok (.iconst 0, 1) := by decide +kernel
theorem dX12_set_78 : decode cX12_set 78 = .ok (.sipush 1000, 3) := by decide +kernel
theorem dX12_set_81 : decode cX12_set 81 = .ok (.invokestatic 74, 3) := by decide +kernel
theorem dX12_set_84 : decode cX12_set 84 = .ok (.ifCond .eq 15, 3) := by decide +kernel
theorem dX12_set_87 : decode cX12_set 87 = .ok (.aload_n 0, 1) := by decide +kernel
theorem dX12_set_88 : decode cX12_set 88 = .ok (.getfield 7, 3) := by decide +kernel
theorem dX12_set_91 : decode cX12_set 91 = .ok (.sipush 2576, 3) := by decide +kernel
theorem dX12_set_94 : decode cX12_set 94 = .ok (.iload_n 3, 1) := by decide +kernel
theorem dX12_set_95 : decode cX12_set 95 = .ok (.iastore, 1) := by decide +kernel
theorem dX12_set_96 : decode cX12_set 96 = .ok (.goto 5, 3) := by decide +kernel
theorem dX12_set_99 : decode cX12_set 99 = .ok (.iconst 0, 1) := by decide +kernel
theorem dX12_set_100 : decode cX12_set 100 = .ok (.ireturn, 1) := by decide +kernel
theorem dX12_set_101 : decode cX12_set 101 = .ok (.aload_n 0, 1) := by decide +kernel
theorem dX12_set_102 : decode cX12_set 102 = .ok (.invokevirtual 93, 3) := by decide +kernel
theorem dX12_set_105 : decode cX12_set 105 = .ok (.iconst 1, 1) := by decide +kernel
theorem dX12_set_106 : decode cX12_set 106 = .ok (.ireturn, 1) := by decide +kernel
theorem dX12_feed_0 : decode cX12_feed 0 = .ok (.aload_n 0, 1) := by decide +kernel
theorem dX12_feed_1 : decode cX12_feed 1 = .ok (.getfield 120, 3) := by decide +kernel
theorem dX12_feed_4 : decode cX12_feed 4 = .ok (.bipush 20, 2) := by decide +kernel
theorem dX12_feed_6 : decode cX12_feed 6 = .ok (.iadd, 1) := by decide +kernel
theorem dX12_feed_7 : decode cX12_feed 7 = .ok (.sipush 400, 3) := by decide +kernel
theorem dX12_feed_10 : decode cX12_feed 10 = .ok (.if_icmp .le 5, 3) := by decide +kernel
theorem dX12_feed_13 : decode cX12_feed 13 = .ok (.iconst (-1), 1) := by decide +kernel
theorem dX12_feed_14 : decode cX12_feed 14 = .ok (.ireturn, 1) := by decide +kernel
theorem dX12_feed_15 : decode cX12_feed 15 = .ok (.iconst 0, 1) := by decide +kernel
theorem dX12_feed_16 : decode cX12_feed 16 = .ok (.istore 6, 2) := by decide +kernel
theorem dX12_feed_18 : decode cX12_feed 18 = .ok (.iload 6, 2) := by decide +kernel
theorem dX12_feed_20 : decode cX12_feed 20 = .ok (.bipush 20, 2) := by decide +kernel
theorem dX12_feed_22 : decode cX12_feed 22 = .ok (.if_icmp .ge 93, 3) := by decide +kernel
theorem dX12_feed_25 : decode cX12_feed 25 = .ok (.iload 6, 2) := by decide +kernel
theorem dX12_feed_27 : decode cX12_feed 27 = .ok (.iconst 4, 1) := by decide +kernel
theorem dX12_feed_28 : decode cX12_feed 28 = .ok (.if_icmp .ge 7, 3) := by decide +kernel
theorem dX12_feed_31 : decode cX12_feed 31 = .ok (.iload_n 1, 1) := by decide +kernel
theorem dX12_feed_32 : decode cX12_feed 32 = .ok (.goto 39, 3) := by decide +kernel
theorem dX12_feed_35 : decode cX12_feed 35 = .ok (.iload 6, 2) := by decide +kernel
theorem dX12_feed_37 : decode cX12_feed 37 = .ok (.bipush 8, 2) := by decide +kernel
theorem dX12_feed_39 : decode cX12_feed 39 = .ok (.if_icmp .ge 7, 3) := by decide +kernel
theorem dX12_feed_42 : decode cX12_feed 42 = .ok (.iload_n 2, 1) := by decide +kernel
theorem dX12_feed_43 : decode cX12_feed 43 = .ok (.goto 28, 3) := by decide +kernel
theorem dX12_feed_46 : decode cX12_feed 46 = .ok (.iload 6, 2) := by decide +kernel
theorem dX12_feed_48 : decode cX12_feed 48 = .ok (.bipush 12, 2) := by decide +kernel
theorem dX12_feed_50 : decode cX12_feed 50 = .ok (.if_icmp .ge 7, 3) := by decide +kernel
theorem dX12_feed_53 : decode cX12_feed 53 = .ok (.iload_n 3, 1) := by decide +kernel
theorem dX12_feed_54 : decode cX12_feed 54 = .ok (.goto 17, 3) := by decide +kernel
theorem dX12_feed_57 : decode cX12_feed 57 = .ok (.iload 6, 2) := by decide +kernel
theorem dX12_feed_59 : decode cX12_feed 59 = .ok (.bipush 16, 2) := by decide +kernel
theorem dX12_feed_61 : decode cX12_feed 61 = .ok (.if_icmp .ge 8, 3) := by decide +kernel
theorem dX12_feed_64 : decode cX12_feed 64 = .ok (.iload 4, 2) := by decide +kernel
theorem dX12_feed_66 : decode cX12_feed 66 = .ok (.goto 5, 3) := by decide +kernel
theorem dX12_feed_69 : decode cX12_feed 69 = .ok (.iload 5, 2) := by decide +kernel
theorem dX12_feed_71 : decode cX12_feed 71 = .ok (.istore 7, 2) := by decide +kernel
theorem dX12_feed_73 : decode cX12_feed 73 = .ok (.aload_n 0, 1) := by decide +kernel
theorem dX12_feed_74 : decode cX12_feed 74 = .ok (.getfield 34, 3) := by decide +kernel
theorem dX12_feed_77 : decode cX12_feed 77 = .ok (.aload_n 0, 1) := by decide +kernel
theorem dX12_feed_78 : decode cX12_feed 78 = .ok (.getfield 120, 3) := by decide +kernel
theorem dX12_feed_81 : decode cX12_feed 81 = .ok (.iload 7, 2) := by decide +kernel
theorem dX12_feed_83 : decode cX12_feed 83 = .ok (.bipush 24, 2) := by decide +kernel
theorem dX12_feed_85 : decode cX12_feed 85 = .ok (.bipush 8, 2) := by decide +kernel
theorem dX12_feed_87 : decode cX12_feed 87 = .ok (.iload 6, 2) := by decide +kernel
theorem dX12_feed_89 : decode cX12_feed 89 = .ok (.iconst 4, 1) := by decide +kernel
theorem dX12_feed_90 : decode cX12_feed 90 = .ok (.irem, 1) := by decide +kernel
theorem dX12_feed_91 : decode cX12_feed 91 = .ok (.imul, 1) := by decide +kernel
theorem dX12_feed_92 : decode cX12_feed 92 = .ok (.isub, 1) := by decide +kernel
theorem dX12_feed_93 : decode cX12_feed 93 = .ok (.ishr, 1) := by decide +kernel
theorem dX12_feed_94 : decode cX12_feed 94 = .ok (.sipush 255, 3) := by decide +kernel
theorem dX12_feed_97 : decode cX12_feed 97 = .ok (.iand, 1) := by decide +kernel
theorem dX12_feed_98 : decode cX12_feed 98 = .ok (.iastore, 1) := by decide +kernel
theorem dX12_feed_99 : decode cX12_feed 99 = .ok (.aload_n 0, 1) := by decide +kernel
theorem dX12_feed_100 : decode cX12_feed 100 = .ok (.dup, 1) := by decide +kernel
theorem dX12_feed_101 : decode cX12_feed 101 = .ok (.getfield 120, 3) := by decide +kernel
theorem dX12_feed_104 : decode cX12_feed 104 = .ok (.iconst 1, 1) := by decide +kernel
theorem dX12_feed_105 : decode cX12_feed 105 = .ok (.iadd, 1) := by decide +kernel
theorem dX12_feed_106 : decode cX12_feed 106 = .ok (.putfield 120, 3) := by decide +kernel
theorem dX12_feed_109 : decode cX12_feed 109 = .ok (.iinc 6 1, 3) := by decide +kernel
theorem dX12_feed_112 : decode cX12_feed 112 = .ok (.goto (-94), 3) := by decide +kernel
theorem dX12_feed_115 : decode cX12_feed 115 = .ok (.aload_n 0, 1) := by decide +kernel
theorem dX12_feed_116 : decode cX12_feed 116 = .ok (.getfield 120, 3) := by decide +kernel
theorem dX12_feed_119 : decode cX12_feed 119 = .ok (.ireturn, 1) := by decide +kernel
theorem dX12_end_0 : decode cX12_end 0 = .ok (.iload_n 1, 1) := by decide +kernel
theorem dX12_end_1 : decode cX12_end 1 = .ok (.iconst 0, 1) := by decide +kernel
theorem dX12_end_2 : decode cX12_end 2 = .ok (.aload_n 0, 1) := by decide +kernel
theorem dX12_end_3 : decode cX12_end 3 = .ok (.getfield 120, 3) := by decide +kernel
theorem dX12_end_6 : decode cX12_end 6 = .ok (.invokestatic 74, 3) := by decide +kernel
theorem dX12_end_9 : decode cX12_end 9 = .ok (.ifCond .ne 5, 3) := by decide +kernel
theorem dX12_end_12 : decode cX12_end 12 = .ok (.iconst 0, 1) := by decide +kernel
theorem dX12_end_13 : decode cX12_end 13 = .ok (.ireturn, 1) := by decide +kernel
theorem dX12_end_14 : decode cX12_end 14 = .ok (.aload_n 0, 1) := by decide +kernel
theorem dX12_end_15 : decode cX12_end 15 = .ok (.iload_n 1, 1) := by decide +kernel
theorem dX12_end_16 : decode cX12_end 16 = .ok (.putfield 120, 3) := by decide +kernel
theorem dX12_end_19 : decode cX12_end 19 = .ok (.iconst 1, 1) := by decide +kernel
theorem dX12_end_20 : decode cX12_end 20 = .ok (.ireturn, 1) := by decide +kernel
theorem dX12_see_0 : decode cX12_see 0 = .ok (.iload_n 1, 1) := by decide +kernel
theorem dX12_see_1 : decode cX12_see 1 = .ok (.aload_n 0, 1) := by decide +kernel
theorem dX12_see_2 : decode cX12_see 2 = .ok (.getfield 120, 3) := by decide +kernel
theorem dX12_see_5 : decode cX12_see 5 = .ok (.if_icmp .ge 12, 3) := by decide +kernel
theorem dX12_see_8 : decode cX12_see 8 = .ok (.aload_n 0, 1) := by decide +kernel
theorem dX12_see_9 : decode cX12_see 9 = .ok (.getfield 34, 3) := by decide +kernel
theorem dX12_see_12 : decode cX12_see 12 = .ok (.iload_n 1, 1) := by decide +kernel
theorem dX12_see_13 : decode cX12_see 13 = .ok (.iaload, 1) := by decide +kernel
theorem dX12_see_14 : decode cX12_see 14 = .ok (.goto 4, 3) := by decide +kernel
theorem dX12_see_17 : decode cX12_see 17 = .ok (.iconst (-1), 1) := by decide +kernel
theorem dX12_see_18 : decode cX12_see 18 = .ok (.ireturn, 1) := by decide +kernel
theorem dX12_isLetter_0 : decode cX12_isLetter 0 = .ok (.iload_n 0, 1) := by decide +kernel
theorem dX12_isLetter_1 : decode cX12_isLetter 1 = .ok (.bipush 97, 2) := by decide +kernel
theorem dX12_isLetter_3 : decode cX12_isLetter 3 = .ok (.bipush 122, 2) := by decide +kernel
theorem dX12_isLetter_5 : decode cX12_isLetter 5 = .ok (.invokestatic 74, 3) := by decide +kernel
theorem dX12_isLetter_8 : decode cX12_isLetter 8 = .ok (.ifCond .ne 14, 3) := by decide +kernel
theorem dX12_isLetter_11 : decode cX12_isLetter 11 = .ok (.iload_n 0, 1) := by decide +kernel
theorem dX12_isLetter_12 : decode cX12_isLetter 12 = .ok (.bipush 65, 2) := by decide +kernel
theorem dX12_isLetter_14 : decode cX12_isLetter 14 = .ok (.bipush 90, 2) := by decide +kernel
theorem dX12_isLetter_16 : decode cX12_isLetter 16 = .ok (.invokestatic 74, 3) := by decide +kernel
theorem dX12_isLetter_19 : decode cX12_isLetter 19 = .ok (.ifCond .eq 7, 3) := by decide +kernel
theorem dX12_isLetter_22 : decode cX12_isLetter 22 = .ok (.iconst 1, 1) := by decide +kernel
theorem dX12_isLetter_23 : decode cX12_isLetter 23 = .ok (.goto 4, 3) := by decide +kernel
theorem dX12_isLetter_26 : decode cX12_isLetter 26 = .ok (.iconst 0, 1) := by decide +kernel
theorem dX12_isLetter_27 : decode cX12_isLetter 27 = .ok (.ireturn, 1) := by decide +kernel
theorem dX12_isDigit_0 : decode cX12_isDigit 0 = .ok (.iload_n 0, 1) := by decide +kernel
theorem dX12_isDigit_1 : decode cX12_isDigit 1 = .ok (.bipush 48, 2) := by decide +kernel
theorem dX12_isDigit_3 : decode cX12_isDigit 3 = .ok (.bipush 57, 2) := by decide +kernel
theorem dX12_isDigit_5 : decode cX12_isDigit 5 = .ok (.invokestatic 74, 3) := by decide +kernel
theorem dX12_isDigit_8 : decode cX12_isDigit 8 = .ok (.ireturn, 1) := by decide +kernel
theorem dX12_is_0 : decode cX12_is 0 = .ok (.aload_n 0, 1) := by decide +kernel
theorem dX12_is_1 : decode cX12_is 1 = .ok (.getfield 123, 3) := by decide +kernel
theorem dX12_is_4 : decode cX12_is 4 = .ok (.aload_n 0, 1) := by decide +kernel
theorem dX12_is_5 : decode cX12_is 5 = .ok (.getfield 126, 3) := by decide +kernel
theorem dX12_is_8 : decode cX12_is 8 = .ok (.isub, 1) := by decide +kernel
theorem dX12_is_9 : decode cX12_is 9 = .ok (.aload_n 1, 1) := by decide +kernel
theorem dX12_is_10 : decode cX12_is 10 = .ok (.invokevirtual 129, 3) := by decide +kernel
theorem dX12_is_13 : decode cX12_is 13 = .ok (.if_icmp .ne 7, 3) := by decide +kernel
theorem dX12_is_16 : decode cX12_is 16 = .ok (.iconst 1, 1) := by decide +kernel
theorem dX12_is_17 : decode cX12_is 17 = .ok (.goto 4, 3) := by decide +kernel
theorem dX12_is_20 : decode cX12_is 20 = .ok (.iconst 0, 1) := by decide +kernel
theorem dX12_is_21 : decode cX12_is 21 = .ok (.istore_n 2, 1) := by decide +kernel
theorem dX12_is_22 : decode cX12_is 22 = .ok (.iconst 0, 1) := by decide +kernel
theorem dX12_is_23 : decode cX12_is 23 = .ok (.istore_n 3, 1) := by decide +kernel
theorem dX12_is_24 : decode cX12_is 24 = .ok (.iload_n 3, 1) := by decide +kernel
theorem dX12_is_25 : decode cX12_is 25 = .ok (.aload_n 1, 1) := by decide +kernel
theorem dX12_is_26 : decode cX12_is 26 = .ok (.invokevirtual 129, 3) := by decide +kernel
theorem dX12_is_29 : decode cX12_is 29 = .ok (.if_icmp .ge 38, 3) := by decide +kernel
theorem dX12_is_32 : decode cX12_is 32 = .ok (.iload_n 2, 1) := by decide +kernel
theorem dX12_is_33 : decode cX12_is 33 = .ok (.ifCond .eq 34, 3) := by decide +kernel
theorem dX12_is_36 : decode cX12_is 36 = .ok (.aload_n 0, 1) := by decide +kernel
theorem dX12_is_37 : decode cX12_is 37 = .ok (.getfield 34, 3) := by decide +kernel
theorem dX12_is_40 : decode cX12_is 40 = .ok (.aload_n 0, 1) := by decide +kernel
theorem dX12_is_41 : decode cX12_is 41 = .ok (.getfield 126, 3) := by decide +kernel
theorem dX12_is_44 : decode cX12_is 44 = .ok (.iload_n 3, 1) := by decide +kernel
theorem dX12_is_45 : decode cX12_is 45 = .ok (.iadd, 1) := by decide +kernel
theorem dX12_is_46 : decode cX12_is 46 = .ok (.iaload, 1) := by decide +kernel
theorem dX12_is_47 : decode cX12_is 47 = .ok (.aload_n 1, 1) := by decide +kernel
theorem dX12_is_48 : decode cX12_is 48 = .ok (.iload_n 3, 1) := by decide +kernel
theorem dX12_is_49 : decode cX12_is 49 = .ok (.invokevirtual 134, 3) := by decide +kernel
theorem dX12_is_52 : decode cX12_is 52 = .ok (.if_icmp .ne 7, 3) := by decide +kernel
theorem dX12_is_55 : decode cX12_is 55 = .ok (.iconst 1, 1) := by decide +kernel
theorem dX12_is_56 : decode cX12_is 56 = .ok (.goto 4, 3) := by decide +kernel
theorem dX12_is_59 : decode cX12_is 59 = .ok (.iconst 0, 1) := by decide +kernel
theorem dX12_is_60 : decode cX12_is 60 = .ok (.istore_n 2, 1) := by decide +kernel
theorem dX12_is_61 : decode cX12_is 61 = .ok (.iinc 3 1, 3) := by decide +kernel
theorem dX12_is_64 : decode cX12_is 64 = .ok (.goto (-40), 3) := by decide +kernel
theorem dX12_is_67 : decode cX12_is 67 = .ok (.iload_n 2, 1) := by decide +kernel
theorem dX12_is_68 : decode cX12_is 68 = .ok (.ireturn, 1) := by decide +kernel
theorem dX12_bothName_0 : decode cX12_bothName 0 = .ok (.aload_n 0, 1) := by decide +kernel
theorem dX12_bothName_1 : decode cX12_bothName 1 = .ok (.ldc 138, 2) := by decide +kernel
theorem dX12_bothName_3 : decode cX12_bothName 3 = .ok (.invokevirtual 140, 3) := by decide +kernel
theorem dX12_bothName_6 : decode cX12_bothName 6 = .ok (.ifCond .eq 6, 3) := by decide +kernel
theorem dX12_bothName_9 : decode cX12_bothName 9 = .ok (.bipush 41, 2) := by decide +kernel
theorem dX12_bothName_11 : decode cX12_bothName 11 = .ok (.ireturn, 1) := by decide +kernel
theorem dX12_bothName_12 : decode cX12_bothName 12 = .ok (.aload_n 0, 1) := by decide +kernel
theorem dX12_bothName_13 : decode cX12_bothName 13 = .ok (.ldc 144, 2) := by decide +kernel
theorem dX12_bothName_15 : decode cX12_bothName 15 = .ok (.invokevirtual 140, 3) := by decide +kernel
theorem dX12_bothName_18 : decode cX12_bothName 18 = .ok (.ifCond .eq 6, 3) := by decide +kernel
theorem dX12_bothName_21 : decode cX12_bothName 21 = .ok (.bipush 42, 2) := by decide +kernel
theorem dX12_bothName_23 : decode cX12_bothName 23 = .ok (.ireturn, 1) := by decide +kernel
theorem dX12_bothName_24 : decode cX12_bothName 24 = .ok (.aload_n 0, 1) := by decide +kernel
theorem dX12_bothName_25 : decode cX12_bothName 25 = .ok (.ldc 146, 2) := by decide +kernel
theorem dX12_bothName_27 : decode cX12_bothName 27 = .ok (.invokevirtual 140, 3) := by decide +kernel
theorem dX12_bothName_30 : decode cX12_bothName 30 = .ok (.ifCond .eq 6, 3) := by decide +kernel
theorem dX12_bothName_33 : decode cX12_bothName 33 = .ok (.bipush 43, 2) := by decide +kernel
theorem dX12_bothName_35 : decode cX12_bothName 35 = .ok (.ireturn, 1) := by decide +kernel
theorem dX12_bothName_36 : decode cX12_bothName 36 = .ok (.aload_n 0, 1) := by decide +kernel
theorem dX12_bothName_37 : decode cX12_bothName 37 = .ok (.ldc 148, 2) := by decide +kernel
theorem dX12_bothName_39 : decode cX12_bothName 39 = .ok (.invokevirtual 140, 3) := by decide +kernel
theorem dX12_bothName_42 : decode cX12_bothName 42 = .ok (.ifCond .eq 6, 3) := by decide +kernel
theorem dX12_bothName_45 : decode cX12_bothName 45 = .ok (.bipush 44, 2) := by decide +kernel
theorem dX12_bothName_47 : decode cX12_bothName 47 = .ok (.ireturn, 1) := by decide +kernel
theorem dX12_bothName_48 : decode cX12_bothName 48 = .ok (.aload_n 0, 1) := by decide +kernel
theorem dX12_bothName_49 : decode cX12_bothName 49 = .ok (.ldc 150, 2) := by decide +kernel
theorem dX12_bothName_51 : decode cX12_bothName 51 = .ok (.invokevirtual 140, 3) := by decide +kernel
theorem dX12_bothName_54 : decode cX12_bothName 54 = .ok (.ifCond .eq 6, 3) := by decide +kernel
theorem dX12_bothName_57 : decode cX12_bothName 57 = .ok (.bipush 45, 2) := by decide +kernel
theorem dX12_bothName_59 : decode cX12_bothName 59 = .ok (.ireturn, 1) := by decide +kernel
theorem dX12_bothName_60 : decode cX12_bothName 60 = .ok (.aload_n 0, 1) := by decide +kernel
theorem dX12_bothName_61 : decode cX12_bothName 61 = .ok (.ldc 152, 2) := by decide +kernel
theorem dX12_bothName_63 : decode cX12_bothName 63 = .ok (.invokevirtual 140, 3) := by decide +kernel
theorem dX12_bothName_66 : decode cX12_bothName 66 = .ok (.ifCond .eq 8, 3) := by decide +kernel
theorem dX12_bothName_69 : decode cX12_bothName 69 = .ok (.bipush 46, 2) := by decide +kernel
theorem dX12_bothName_71 : decode cX12_bothName 71 = .ok (.goto 4, 3) := by decide +kernel
theorem dX12_bothName_74 : decode cX12_bothName 74 = .ok (.iconst 1, 1) := by decide +kernel
theorem dX12_bothName_75 : decode cX12_bothName 75 = .ok (.ireturn, 1) := by decide +kernel
theorem dX12_tieName_0 : decode cX12_tieName 0 = .ok (.aload_n 0, 1) := by decide +kernel
theorem dX12_tieName_1 : decode cX12_tieName 1 = .ok (.ldc 154, 2) := by decide +kernel
theorem dX12_tieName_3 : decode cX12_tieName 3 = .ok (.invokevirtual 140, 3) := by decide +kernel
theorem dX12_tieName_6 : decode cX12_tieName 6 = .ok (.ifCond .eq 6, 3) := by decide +kernel
theorem dX12_tieName_9 : decode cX12_tieName 9 = .ok (.bipush 7, 2) := by decide +kernel
theorem dX12_tieName_11 : decode cX12_tieName 11 = .ok (.ireturn, 1) := by decide +kernel
theorem dX12_tieName_12 : decode cX12_tieName 12 = .ok (.aload_n 0, 1) := by decide +kernel
theorem dX12_tieName_13 : decode cX12_tieName 13 = .ok (.ldc 156, 2) := by decide +kernel
theorem dX12_tieName_15 : decode cX12_tieName 15 = .ok (.invokevirtual 140, 3) := by decide +kernel
theorem dX12_tieName_18 : decode cX12_tieName 18 = .ok (.ifCond .eq 6, 3) := by decide +kernel
theorem dX12_tieName_21 : decode cX12_tieName 21 = .ok (.bipush 47, 2) := by decide +kernel
theorem dX12_tieName_23 : decode cX12_tieName 23 = .ok (.ireturn, 1) := by decide +kernel
theorem dX12_tieName_24 : decode cX12_tieName 24 = .ok (.aload_n 0, 1) := by decide +kernel
theorem dX12_tieName_25 : decode cX12_tieName 25 = .ok (.ldc 158, 2) := by decide +kernel
theorem dX12_tieName_27 : decode cX12_tieName 27 = .ok (.invokevirtual 140, 3) := by decide +kernel
theorem dX12_tieName_30 : decode cX12_tieName 30 = .ok (.ifCond .eq 8, 3) := by decide +kernel
theorem dX12_tieName_33 : decode cX12_tieName 33 = .ok (.bipush 48, 2) := by decide +kernel
theorem dX12_tieName_35 : decode cX12_tieName 35 = .ok (.goto 7, 3) := by decide +kernel
theorem dX12_tieName_38 : decode cX12_tieName 38 = .ok (.aload_n 0, 1) := by decide +kernel
theorem dX12_tieName_39 : decode cX12_tieName 39 = .ok (.invokevirtual 160, 3) := by decide +kernel
theorem dX12_tieName_42 : decode cX12_tieName 42 = .ok (.ireturn, 1) := by decide +kernel
theorem dX12_holdName_0 : decode cX12_holdName 0 = .ok (.aload_n 0, 1) := by decide +kernel
theorem dX12_holdName_1 : decode cX12_holdName 1 = .ok (.ldc 163, 2) := by decide +kernel
theorem dX12_holdName_3 : decode cX12_holdName 3 = .ok (.invokevirtual 140, 3) := by decide +kernel
theorem dX12_holdName_6 : decode cX12_holdName 6 = .ok (.ifCond .eq 6, 3) := by decide +kernel
theorem dX12_holdName_9 : decode cX12_holdName 9 = .ok (.bipush 7, 2) := by decide +kernel
theorem dX12_holdName_11 : decode cX12_holdName 11 = .ok (.ireturn, 1) := by decide +kernel
theorem dX12_holdName_12 : decode cX12_holdName 12 = .ok (.aload_n 0, 1) := by decide +kernel
theorem dX12_holdName_13 : decode cX12_holdName 13 = .ok (.ldc 165, 2) := by decide +kernel
theorem dX12_holdName_15 : decode cX12_holdName 15 = .ok (.invokevirtual 140, 3) := by decide +kernel
theorem dX12_holdName_18 : decode cX12_holdName 18 = .ok (.ifCond .eq 6, 3) := by decide +kernel
theorem dX12_holdName_21 : decode cX12_holdName 21 = .ok (.bipush 49, 2) := by decide +kernel
theorem dX12_holdName_23 : decode cX12_holdName 23 = .ok (.ireturn, 1) := by decide +kernel
theorem dX12_holdName_24 : decode cX12_holdName 24 = .ok (.aload_n 0, 1) := by decide +kernel
theorem dX12_holdName_25 : decode cX12_holdName 25 = .ok (.ldc 150, 2) := by decide +kernel
theorem dX12_holdName_27 : decode cX12_holdName 27 = .ok (.invokevirtual 140, 3) := by decide +kernel
theorem dX12_holdName_30 : decode cX12_holdName 30 = .ok (.ifCond .eq 6, 3) := by decide +kernel
theorem dX12_holdName_33 : decode cX12_holdName 33 = .ok (.bipush 45, 2) := by decide +kernel
theorem dX12_holdName_35 : decode cX12_holdName 35 = .ok (.ireturn, 1) := by decide +kernel
theorem dX12_holdName_36 : decode cX12_holdName 36 = .ok (.aload_n 0, 1) := by decide +kernel
theorem dX12_holdName_37 : decode cX12_holdName 37 = .ok (.ldc 167, 2) := by decide +kernel
theorem dX12_holdName_39 : decode cX12_holdName 39 = .ok (.invokevirtual 140, 3) := by decide +kernel
theorem dX12_holdName_42 : decode cX12_holdName 42 = .ok (.ifCond .eq 6, 3) := by decide +kernel
theorem dX12_holdName_45 : decode cX12_holdName 45 = .ok (.bipush 50, 2) := by decide +kernel
theorem dX12_holdName_47 : decode cX12_holdName 47 = .ok (.ireturn, 1) := by decide +kernel
theorem dX12_holdName_48 : decode cX12_holdName 48 = .ok (.aload_n 0, 1) := by decide +kernel
theorem dX12_holdName_49 : decode cX12_holdName 49 = .ok (.ldc 169, 2) := by decide +kernel
theorem dX12_holdName_51 : decode cX12_holdName 51 = .ok (.invokevirtual 140, 3) := by decide +kernel
theorem dX12_holdName_54 : decode cX12_holdName 54 = .ok (.ifCond .eq 6, 3) := by decide +kernel
theorem dX12_holdName_57 : decode cX12_holdName 57 = .ok (.bipush 51, 2) := by decide +kernel
theorem dX12_holdName_59 : decode cX12_holdName 59 = .ok (.ireturn, 1) := by decide +kernel
theorem dX12_holdName_60 : decode cX12_holdName 60 = .ok (.aload_n 0, 1) := by decide +kernel
theorem dX12_holdName_61 : decode cX12_holdName 61 = .ok (.ldc 146, 2) := by decide +kernel
theorem dX12_holdName_63 : decode cX12_holdName 63 = .ok (.invokevirtual 140, 3) := by decide +kernel
theorem dX12_holdName_66 : decode cX12_holdName 66 = .ok (.ifCond .eq 6, 3) := by decide +kernel
theorem dX12_holdName_69 : decode cX12_holdName 69 = .ok (.bipush 43, 2) := by decide +kernel
theorem dX12_holdName_71 : decode cX12_holdName 71 = .ok (.ireturn, 1) := by decide +kernel
theorem dX12_holdName_72 : decode cX12_holdName 72 = .ok (.aload_n 0, 1) := by decide +kernel
theorem dX12_holdName_73 : decode cX12_holdName 73 = .ok (.ldc 171, 2) := by decide +kernel
theorem dX12_holdName_75 : decode cX12_holdName 75 = .ok (.invokevirtual 140, 3) := by decide +kernel
theorem dX12_holdName_78 : decode cX12_holdName 78 = .ok (.ifCond .eq 6, 3) := by decide +kernel
theorem dX12_holdName_81 : decode cX12_holdName 81 = .ok (.bipush 52, 2) := by decide +kernel
theorem dX12_holdName_83 : decode cX12_holdName 83 = .ok (.ireturn, 1) := by decide +kernel
theorem dX12_holdName_84 : decode cX12_holdName 84 = .ok (.aload_n 0, 1) := by decide +kernel
theorem dX12_holdName_85 : decode cX12_holdName 85 = .ok (.ldc 152, 2) := by decide +kernel
theorem dX12_holdName_87 : decode cX12_holdName 87 = .ok (.invokevirtual 140, 3) := by decide +kernel
theorem dX12_holdName_90 : decode cX12_holdName 90 = .ok (.ifCond .eq 6, 3) := by decide +kernel
theorem dX12_holdName_93 : decode cX12_holdName 93 = .ok (.bipush 46, 2) := by decide +kernel
theorem dX12_holdName_95 : decode cX12_holdName 95 = .ok (.ireturn, 1) := by decide +kernel
theorem dX12_holdName_96 : decode cX12_holdName 96 = .ok (.aload_n 0, 1) := by decide +kernel
theorem dX12_holdName_97 : decode cX12_holdName 97 = .ok (.ldc 172, 2) := by decide +kernel
theorem dX12_holdName_99 : decode cX12_holdName 99 = .ok (.invokevirtual 140, 3) := by decide +kernel
theorem dX12_holdName_102 : decode cX12_holdName 102 = .ok (.ifCond .eq 8, 3) := by decide +kernel
theorem dX12_holdName_105 : decode cX12_holdName 105 = .ok (.bipush 53, 2) := by decide +kernel
theorem dX12_holdName_107 : decode cX12_holdName 107 = .ok (.goto 4, 3) := by decide +kernel
theorem dX12_holdName_110 : decode cX12_holdName 110 = .ok (.iconst 1, 1) := by decide +kernel
theorem dX12_holdName_111 : decode cX12_holdName 111 = .ok (.ireturn, 1) := by decide +kernel
theorem dX12_drillWord_0 : decode cX12_drillWord 0 = .ok (.aload_n 0, 1) := by decide +kernel
theorem dX12_drillWord_1 : decode cX12_drillWord 1 = .ok (.ldc 154, 2) := by decide +kernel
theorem dX12_drillWord_3 : decode cX12_drillWord 3 = .ok (.invokevirtual 140, 3) := by decide +kernel
theorem dX12_drillWord_6 : decode cX12_drillWord 6 = .ok (.ifCond .eq 6, 3) := by decide +kernel
theorem dX12_drillWord_9 : decode cX12_drillWord 9 = .ok (.bipush 10, 2) := by decide +kernel
theorem dX12_drillWord_11 : decode cX12_drillWord 11 = .ok (.ireturn, 1) := by decide +kernel
theorem dX12_drillWord_12 : decode cX12_drillWord 12 = .ok (.aload_n 0, 1) := by decide +kernel
theorem dX12_drillWord_13 : decode cX12_drillWord 13 = .ok (.ldc 173, 2) := by decide +kernel
theorem dX12_drillWord_15 : decode cX12_drillWord 15 = .ok (.invokevirtual 140, 3) := by decide +kernel
theorem dX12_drillWord_18 : decode cX12_drillWord 18 = .ok (.ifCond .eq 6, 3) := by decide +kernel
theorem dX12_drillWord_21 : decode cX12_drillWord 21 = .ok (.bipush 11, 2) := by decide +kernel
theorem dX12_drillWord_23 : decode cX12_drillWord 23 = .ok (.ireturn, 1) := by decide +kernel
theorem dX12_drillWord_24 : decode cX12_drillWord 24 = .ok (.aload_n 0, 1) := by decide +kernel
theorem dX12_drillWord_25 : decode cX12_drillWord 25 = .ok (.ldc 175, 2) := by decide +kernel
theorem dX12_drillWord_27 : decode cX12_drillWord 27 = .ok (.invokevirtual 140, 3) := by decide +kernel
theorem dX12_drillWord_30 : decode cX12_drillWord 30 = .ok (.ifCond .eq 6, 3) := by decide +kernel
theorem dX12_drillWord_33 : decode cX12_drillWord 33 = .ok (.bipush 12, 2) := by decide +kernel
theorem dX12_drillWord_35 : decode cX12_drillWord 35 = .ok (.ireturn, 1) := by decide +kernel
theorem dX12_drillWord_36 : decode cX12_drillWord 36 = .ok (.aload_n 0, 1) := by decide +kernel
theorem dX12_drillWord_37 : decode cX12_drillWord 37 = .ok (.ldc 152, 2) := by decide +kernel
theorem dX12_drillWord_39 : decode cX12_drillWord 39 = .ok (.invokevirtual 140, 3) := by decide +kernel
theorem dX12_drillWord_42 : decode cX12_drillWord 42 = .ok (.ifCond .eq 6, 3) := by decide +kernel
theorem dX12_drillWord_45 : decode cX12_drillWord 45 = .ok (.bipush 13, 2) := by decide +kernel
theorem dX12_drillWord_47 : decode cX12_drillWord 47 = .ok (.ireturn, 1) := by decide +kernel
theorem dX12_drillWord_48 : decode cX12_drillWord 48 = .ok (.aload_n 0, 1) := by decide +kernel
theorem dX12_drillWord_49 : decode cX12_drillWord 49 = .ok (.ldc 177, 2) := by decide +kernel
theorem dX12_drillWord_51 : decode cX12_drillWord 51 = .ok (.invokevirtual 140, 3) := by decide +kernel
theorem dX12_drillWord_54 : decode cX12_drillWord 54 = .ok (.ifCond .eq 6, 3) := by decide +kernel
theorem dX12_drillWord_57 : decode cX12_drillWord 57 = .ok (.bipush 14, 2) := by decide +kernel
theorem dX12_drillWord_59 : decode cX12_drillWord 59 = .ok (.ireturn, 1) := by decide +kernel
theorem dX12_drillWord_60 : decode cX12_drillWord 60 = .ok (.aload_n 0, 1) := by decide +kernel
theorem dX12_drillWord_61 : decode cX12_drillWord 61 = .ok (.ldc 179, 2) := by decide +kernel
theorem dX12_drillWord_63 : decode cX12_drillWord 63 = .ok (.invokevirtual 140, 3) := by decide +kernel
theorem dX12_drillWord_66 : decode cX12_drillWord 66 = .ok (.ifCond .eq 6, 3) := by decide +kernel
theorem dX12_drillWord_69 : decode cX12_drillWord 69 = .ok (.bipush 15, 2) := by decide +kernel
theorem dX12_drillWord_71 : decode cX12_drillWord 71 = .ok (.ireturn, 1) := by decide +kernel
theorem dX12_drillWord_72 : decode cX12_drillWord 72 = .ok (.aload_n 0, 1) := by decide +kernel
theorem dX12_drillWord_73 : decode cX12_drillWord 73 = .ok (.ldc 181, 2) := by decide +kernel
theorem dX12_drillWord_75 : decode cX12_drillWord 75 = .ok (.invokevirtual 140, 3) := by decide +kernel
theorem dX12_drillWord_78 : decode cX12_drillWord 78 = .ok (.ifCond .eq 8, 3) := by decide +kernel
theorem dX12_drillWord_81 : decode cX12_drillWord 81 = .ok (.bipush 16, 2) := by decide +kernel
theorem dX12_drillWord_83 : decode cX12_drillWord 83 = .ok (.goto 4, 3) := by decide +kernel
theorem dX12_drillWord_86 : decode cX12_drillWord 86 = .ok (.iconst 1, 1) := by decide +kernel
theorem dX12_drillWord_87 : decode cX12_drillWord 87 = .ok (.ireturn, 1) := by decide +kernel
theorem dX12_word_0 : decode cX12_word 0 = .ok (.aload_n 0, 1) := by decide +kernel
theorem dX12_word_1 : decode cX12_word 1 = .ok (.getfield 182, 3) := by decide +kernel
theorem dX12_word_4 : decode cX12_word 4 = .ok (.iconst 3, 1) := by decide +kernel
theorem dX12_word_5 : decode cX12_word 5 = .ok (.if_icmp .ne 8, 3) := by decide +kernel
theorem dX12_word_8 : decode cX12_word 8 = .ok (.aload_n 0, 1) := by decide +kernel
theorem dX12_word_9 : decode cX12_word 9 = .ok (.invokevirtual 185, 3) := by decide +kernel
theorem dX12_word_12 : decode cX12_word 12 = .ok (.ireturn, 1) := by decide +kernel
theorem dX12_word_13 : decode cX12_word 13 = .ok (.aload_n 0, 1) := by decide +kernel
theorem dX12_word_14 : decode cX12_word 14 = .ok (.ldc 188, 2) := by decide +kernel
theorem dX12_word_16 : decode cX12_word 16 = .ok (.invokevirtual 140, 3) := by decide +kernel
theorem dX12_word_19 : decode cX12_word 19 = .ok (.ifCond .eq 5, 3) := by decide +kernel
theorem dX12_word_22 : decode cX12_word 22 = .ok (.iconst 3, 1) := by decide +kernel
theorem dX12_word_23 : decode cX12_word 23 = .ok (.ireturn, 1) := by decide +kernel
theorem dX12_word_24 : decode cX12_word 24 = .ok (.aload_n 0, 1) := by decide +kernel
theorem dX12_word_25 : decode cX12_word 25 = .ok (.ldc 190, 2) := by decide +kernel
theorem dX12_word_27 : decode cX12_word 27 = .ok (.invokevirtual 140, 3) := by decide +kernel
theorem dX12_word_30 : decode cX12_word 30 = .ok (.ifCond .eq 5, 3) := by decide +kernel
theorem dX12_word_33 : decode cX12_word 33 = .ok (.iconst 4, 1) := by decide +kernel
theorem dX12_word_34 : decode cX12_word 34 = .ok (.ireturn, 1) := by decide +kernel
theorem dX12_word_35 : decode cX12_word 35 = .ok (.aload_n 0, 1) := by decide +kernel
theorem dX12_word_36 : decode cX12_word 36 = .ok (.ldc 192, 2) := by decide +kernel
theorem dX12_word_38 : decode cX12_word 38 = .ok (.invokevirtual 140, 3) := by decide +kernel
theorem dX12_word_41 : decode cX12_word 41 = .ok (.ifCond .eq 5, 3) := by decide +kernel
theorem dX12_word_44 : decode cX12_word 44 = .ok (.iconst 5, 1) := by decide +kernel
theorem dX12_word_45 : decode cX12_word 45 = .ok (.ireturn, 1) := by decide +kernel
theorem dX12_word_46 : decode cX12_word 46 = .ok (.aload_n 0, 1) := by decide +kernel
theorem dX12_word_47 : decode cX12_word 47 = .ok (.ldc 194, 2) := by decide +kernel
theorem dX12_word_49 : decode cX12_word 49 = .ok (.invokevirtual 140, 3) := by decide +kernel
theorem dX12_word_52 : decode cX12_word 52 = .ok (.ifCond .eq 6, 3) := by decide +kernel
theorem dX12_word_55 : decode cX12_word 55 = .ok (.bipush 6, 2) := by decide +kernel
theorem dX12_word_57 : decode cX12_word 57 = .ok (.ireturn, 1) := by decide +kernel
theorem dX12_word_58 : decode cX12_word 58 = .ok (.aload_n 0, 1) := by decide +kernel
theorem dX12_word_59 : decode cX12_word 59 = .ok (.getfield 182, 3) := by decide +kernel
theorem dX12_word_62 : decode cX12_word 62 = .ok (.ifCond .ne 8, 3) := by decide +kernel
theorem dX12_word_65 : decode cX12_word 65 = .ok (.aload_n 0, 1) := by decide +kernel
theorem dX12_word_66 : decode cX12_word 66 = .ok (.invokevirtual 196, 3) := by decide +kernel
theorem dX12_word_69 : decode cX12_word 69 = .ok (.ireturn, 1) := by decide +kernel
theorem dX12_word_70 : decode cX12_word 70 = .ok (.aload_n 0, 1) := by decide +kernel
theorem dX12_word_71 : decode cX12_word 71 = .ok (.getfield 182, 3) := by decide +kernel
theorem dX12_word_74 : decode cX12_word 74 = .ok (.iconst 2, 1) := by decide +kernel
theorem dX12_word_75 : decode cX12_word 75 = .ok (.if_icmp .ne 10, 3) := by decide +kernel
theorem dX12_word_78 : decode cX12_word 78 = .ok (.aload_n 0, 1) := by decide +kernel
theorem dX12_word_79 : decode cX12_word 79 = .ok (.invokevirtual 199, 3) := by decide +kernel
theorem dX12_word_82 : decode cX12_word 82 = .ok (.goto 21, 3) := by decide +kernel
theorem dX12_word_85 : decode cX12_word 85 = .ok (.aload_n 0, 1) := by decide +kernel
theorem dX12_word_86 : decode cX12_word 86 = .ok (.ldc 202, 2) := by decide +kernel
theorem dX12_word_88 : decode cX12_word 88 = .ok (.invokevirtual 140, 3) := by decide +kernel
theorem dX12_word_91 : decode cX12_word 91 = .ok (.ifCond .eq 8, 3) := by decide +kernel
theorem dX12_word_94 : decode cX12_word 94 = .ok (.bipush 7, 2) := by decide +kernel
theorem dX12_word_96 : decode cX12_word 96 = .ok (.goto 7, 3) := by decide +kernel
theorem dX12_word_99 : decode cX12_word 99 = .ok (.aload_n 0, 1) := by decide +kernel
theorem dX12_word_100 : decode cX12_word 100 = .ok (.invokevirtual 160, 3) := by decide +kernel
theorem dX12_word_103 : decode cX12_word 103 = .ok (.ireturn, 1) := by decide +kernel
theorem dX12_next0_0 : decode cX12_next0 0 = .ok (.aload_n 0, 1) := by decide +kernel
theorem dX12_next0_1 : decode cX12_next0 1 = .ok (.aload_n 0, 1) := by decide +kernel
theorem dX12_next0_2 : decode cX12_next0 2 = .ok (.getfield 123, 3) := by decide +kernel
theorem dX12_next0_5 : decode cX12_next0 5 = .ok (.invokevirtual 204, 3) := by decide +kernel
theorem dX12_next0_8 : decode cX12_next0 8 = .ok (.bipush 32, 2) := by decide +kernel
theorem dX12_next0_10 : decode cX12_next0 10 = .ok (.if_icmp .eq 16, 3) := by decide +kernel
theorem dX12_next0_13 : decode cX12_next0 13 = .ok (.aload_n 0, 1) := by decide +kernel
theorem dX12_next0_14 : decode cX12_next0 14 = .ok (.aload_n 0, 1) := by decide +kernel
theorem dX12_next0_15 : decode cX12_next0 15 = .ok (.getfield 123, 3) := by decide +kernel
theorem dX12_next0_18 : decode cX12_next0 18 = .ok (.invokevirtual 204, 3) := by decide +kernel
theorem dX12_next0_21 : decode cX12_next0 21 = .ok (.bipush 10, 2) := by decide +kernel
theorem dX12_next0_23 : decode cX12_next0 23 = .ok (.if_icmp .ne 16, 3) := by decide +kernel
theorem dX12_next0_26 : decode cX12_next0 26 = .ok (.aload_n 0, 1) := by decide +kernel
theorem dX12_next0_27 : decode cX12_next0 27 = .ok (.dup, 1) := by decide +kernel
theorem dX12_next0_28 : decode cX12_next0 28 = .ok (.getfield 123, 3) := by decide +kernel
theorem dX12_next0_31 : decode cX12_next0 31 = .ok (.iconst 1, 1) := by decide +kernel
theorem dX12_next0_32 : decode cX12_next0 32 = .ok (.iadd, 1) := by decide +kernel
theorem dX12_next0_33 : decode cX12_next0 33 = .ok (.putfield 123, 3) := by decide +kernel
theorem dX12_next0_36 : decode cX12_next0 36 = .ok (.goto (-36), 3) := by decide +kernel
theorem dX12_next0_39 : decode cX12_next0 39 = .ok (.aload_n 0, 1) := by decide +kernel
theorem dX12_next0_40 : decode cX12_next0 40 = .ok (.aload_n 0, 1) := by decide +kernel
theorem dX12_next0_41 : decode cX12_next0 41 = .ok (.getfield 123, 3) := by decide +kernel
theorem dX12_next0_44 : decode cX12_next0 44 = .ok (.putfield 126, 3) := by decide +kernel
theorem dX12_next0_47 : decode cX12_next0 47 = .ok (.aload_n 0, 1) := by decide +kernel
theorem dX12_next0_48 : decode cX12_next0 48 = .ok (.aload_n 0, 1) := by decide +kernel
theorem dX12_next0_49 : decode cX12_next0 49 = .ok (.getfield 123, 3) := by decide +kernel
theorem dX12_next0_52 : decode cX12_next0 52 = .ok (.invokevirtual 204, 3) := by decide +kernel
theorem dX12_next0_55 : decode cX12_next0 55 = .ok (.istore_n 1, 1) := by decide +kernel
theorem dX12_next0_56 : decode cX12_next0 56 = .ok (.iload_n 1, 1) := by decide +kernel
theorem dX12_next0_57 : decode cX12_next0 57 = .ok (.iconst (-1), 1) := by decide +kernel
theorem dX12_next0_58 : decode cX12_next0 58 = .ok (.if_icmp .ne 11, 3) := by decide +kernel
theorem dX12_next0_61 : decode cX12_next0 61 = .ok (.aload_n 0, 1) := by decide +kernel
theorem dX12_next0_62 : decode cX12_next0 62 = .ok (.iconst 0, 1) := by decide +kernel
theorem dX12_next0_63 : decode cX12_next0 63 = .ok (.putfield 208, 3) := by decide +kernel
theorem dX12_next0_66 : decode cX12_next0 66 = .ok (.goto 240, 3) := by decide +kernel
theorem dX12_next0_69 : decode cX12_next0 69 = .ok (.iload_n 1, 1) := by decide +kernel
theorem dX12_next0_70 : decode cX12_next0 70 = .ok (.invokestatic 211, 3) := by decide +kernel
theorem dX12_next0_73 : decode cX12_next0 73 = .ok (.ifCond .eq 41, 3) := by decide +kernel
theorem dX12_next0_76 : decode cX12_next0 76 = .ok (.aload_n 0, 1) := by decide +kernel
theorem dX12_next0_77 : decode cX12_next0 77 = .ok (.aload_n 0, 1) := by decide +kernel
theorem dX12_next0_78 : decode cX12_next0 78 = .ok (.getfield 123, 3) := by decide +kernel
theorem dX12_next0_81 : decode cX12_next0 81 = .ok (.invokevirtual 204, 3) := by decide +kernel
theorem dX12_next0_84 : decode cX12_next0 84 = .ok (.invokestatic 211, 3) := by decide +kernel
theorem dX12_next0_87 : decode cX12_next0 87 = .ok (.ifCond .eq 16, 3) := by decide +kernel
theorem dX12_next0_90 : decode cX12_next0 90 = .ok (.aload_n 0, 1) := by decide +kernel
theorem dX12_next0_91 : decode cX12_next0 91 = .ok (.dup, 1) := by decide +kernel
theorem dX12_next0_92 : decode cX12_next0 92 = .ok (.getfield 123, 3) := by decide +kernel
theorem dX12_next0_95 : decode cX12_next0 95 = .ok (.iconst 1, 1) := by decide +kernel
theorem dX12_next0_96 : decode cX12_next0 96 = .ok (.iadd, 1) := by decide +kernel
theorem dX12_next0_97 : decode cX12_next0 97 = .ok (.putfield 123, 3) := by decide +kernel
theorem dX12_next0_100 : decode cX12_next0 100 = .ok (.goto (-24), 3) := by decide +kernel
theorem dX12_next0_103 : decode cX12_next0 103 = .ok (.aload_n 0, 1) := by decide +kernel
theorem dX12_next0_104 : decode cX12_next0 104 = .ok (.aload_n 0, 1) := by decide +kernel
theorem dX12_next0_105 : decode cX12_next0 105 = .ok (.invokevirtual 214, 3) := by decide +kernel
theorem dX12_next0_108 : decode cX12_next0 108 = .ok (.putfield 208, 3) := by decide +kernel
theorem dX12_next0_111 : decode cX12_next0 111 = .ok (.goto 195, 3) := by decide +kernel
theorem dX12_next0_114 : decode cX12_next0 114 = .ok (.iload_n 1, 1) := by decide +kernel
theorem dX12_next0_115 : decode cX12_next0 115 = .ok (.invokestatic 217, 3) := by decide +kernel
theorem dX12_next0_118 : decode cX12_next0 118 = .ok (.ifCond .eq 96, 3) := by decide +kernel
theorem dX12_next0_121 : decode cX12_next0 121 = .ok (.aload_n 0, 1) := by decide +kernel
theorem dX12_next0_122 : decode cX12_next0 122 = .ok (.iconst 0, 1) := by decide +kernel
theorem dX12_next0_123 : decode cX12_next0 123 = .ok (.putfield 220, 3) := by decide +kernel
theorem dX12_next0_126 : decode cX12_next0 126 = .ok (.aload_n 0, 1) := by decide +kernel
theorem dX12_next0_127 : decode cX12_next0 127 = .ok (.aload_n 0, 1) := by decide +kernel
theorem dX12_next0_128 : decode cX12_next0 128 = .ok (.getfield 123, 3) := by decide +kernel
theorem dX12_next0_131 : decode cX12_next0 131 = .ok (.invokevirtual 204, 3) := by decide +kernel
theorem dX12_next0_134 : decode cX12_next0 134 = .ok (.invokestatic 217, 3) := by decide +kernel
theorem dX12_next0_137 : decode cX12_next0 137 = .ok (.ifCond .eq 52, 3) := by decide +kernel
theorem dX12_next0_140 : decode cX12_next0 140 = .ok (.aload_n 0, 1) := by decide +kernel
theorem dX12_next0_141 : decode cX12_next0 141 = .ok (.getfield 123, 3) := by decide +kernel
theorem dX12_next0_144 : decode cX12_next0 144 = .ok (.aload_n 0, 1) := by decide +kernel
theorem dX12_next0_145 : decode cX12_next0 145 = .ok (.getfield 126, 3) := by decide +kernel
theorem dX12_next0_148 : decode cX12_next0 148 = .ok (.iconst 4, 1) := by decide +kernel
theorem dX12_next0_149 : decode cX12_next0 149 = .ok (.iadd, 1) := by decide +kernel
theorem dX12_next0_150 : decode cX12_next0 150 = .ok (.if_icmp .ge 26, 3) := by decide +kernel
theorem dX12_next0_153 : decode cX12_next0 153 = .ok (.aload_n 0, 1) := by decide +kernel
theorem dX12_next0_154 : decode cX12_next0 154 = .ok (.bipush 10, 2) := by decide +kernel
theorem dX12_next0_156 : decode cX12_next0 156 = .ok (.aload_n 0, 1) := by decide +kernel
theorem dX12_next0_157 : decode cX12_next0 157 = .ok (.getfield 220, 3) := by decide +kernel
theorem dX12_next0_160 : decode cX12_next0 160 = .ok (.imul, 1) := by decide +kernel
theorem dX12_next0_161 : decode cX12_next0 161 = .ok (.aload_n 0, 1) := by decide +kernel
theorem dX12_next0_162 : decode cX12_next0 162 = .ok (.aload_n 0, 1) := by decide +kernel
theorem dX12_next0_163 : decode cX12_next0 163 = .ok (.getfield 123, 3) := by decide +kernel
theorem dX12_next0_166 : decode cX12_next0 166 = .ok (.invokevirtual 204, 3) := by decide +kernel
theorem dX12_next0_169 : decode cX12_next0 169 = .ok (.iadd, 1) := by decide +kernel
theorem dX12_next0_170 : decode cX12_next0 170 = .ok (.bipush 48, 2) := by decide +kernel
theorem dX12_next0_172 : decode cX12_next0 172 = .ok (.isub, 1) := by decide +kernel
theorem dX12_next0_173 : decode cX12_next0 173 = .ok (.putfield 220, 3) := by decide +kernel
theorem dX12_next0_176 : decode cX12_next0 176 = .ok (.aload_n 0, 1) := by decide +kernel
theorem dX12_next0_177 : decode cX12_next0 177 = .ok (.dup, 1) := by decide +kernel
theorem dX12_next0_178 : decode cX12_next0 178 = .ok (.getfield 123, 3) := by decide +kernel
theorem dX12_next0_181 : decode cX12_next0 181 = .ok (.iconst 1, 1) := by decide +kernel
theorem dX12_next0_182 : decode cX12_next0 182 = .ok (.iadd, 1) := by decide +kernel
theorem dX12_next0_183 : decode cX12_next0 183 = .ok (.putfield 123, 3) := by decide +kernel
theorem dX12_next0_186 : decode cX12_next0 186 = .ok (.goto (-60), 3) := by decide +kernel
theorem dX12_next0_189 : decode cX12_next0 189 = .ok (.aload_n 0, 1) := by decide +kernel
theorem dX12_next0_190 : decode cX12_next0 190 = .ok (.aload_n 0, 1) := by decide +kernel
theorem dX12_next0_191 : decode cX12_next0 191 = .ok (.getfield 123, 3) := by decide +kernel
theorem dX12_next0_194 : decode cX12_next0 194 = .ok (.aload_n 0, 1) := by decide +kernel
theorem dX12_next0_195 : decode cX12_next0 195 = .ok (.getfield 126, 3) := by decide +kernel
theorem dX12_next0_198 : decode cX12_next0 198 = .ok (.isub, 1) := by decide +kernel
theorem dX12_next0_199 : decode cX12_next0 199 = .ok (.iconst 5, 1) := by decide +kernel
theorem dX12_next0_200 : decode cX12_next0 200 = .ok (.if_icmp .ge 7, 3) := by decide +kernel
theorem dX12_next0_203 : decode cX12_next0 203 = .ok (.iconst 2, 1) := by decide +kernel
theorem dX12_next0_204 : decode cX12_next0 204 = .ok (.goto 4, 3) := by decide +kernel
theorem dX12_next0_207 : decode cX12_next0 207 = .ok (.iconst 1, 1) := by decide +kernel
theorem dX12_next0_208 : decode cX12_next0 208 = .ok (.putfield 208, 3) := by decide +kernel
theorem dX12_next0_211 : decode cX12_next0 211 = .ok (.goto 95, 3) := by decide +kernel
theorem dX12_next0_214 : decode cX12_next0 214 = .ok (.aload_n 0, 1) := by decide +kernel
theorem dX12_next0_215 : decode cX12_next0 215 = .ok (.dup, 1) := by decide +kernel
theorem dX12_next0_216 : decode cX12_next0 216 = .ok (.getfield 123, 3) := by decide +kernel
theorem dX12_next0_219 : decode cX12_next0 219 = .ok (.iconst 1, 1) := by decide +kernel
theorem dX12_next0_220 : decode cX12_next0 220 = .ok (.iadd, 1) := by decide +kernel
theorem dX12_next0_221 : decode cX12_next0 221 = .ok (.putfield 123, 3) := by decide +kernel
theorem dX12_next0_224 : decode cX12_next0 224 = .ok (.iload_n 1, 1) := by decide +kernel
theorem dX12_next0_225 : decode cX12_next0 225 = .ok (.bipush 59, 2) := by decide +kernel
theorem dX12_next0_227 : decode cX12_next0 227 = .ok (.if_icmp .eq 57, 3) := by decide +kernel
theorem dX12_next0_230 : decode cX12_next0 230 = .ok (.iload_n 1, 1) := by decide +kernel
theorem dX12_next0_231 : decode cX12_next0 231 = .ok (.bipush 43, 2) := by decide +kernel
theorem dX12_next0_233 : decode cX12_next0 233 = .ok (.if_icmp .eq 51, 3) := by decide +kernel
theorem dX12_next0_236 : decode cX12_next0 236 = .ok (.iload_n 1, 1) := by decide +kernel
theorem dX12_next0_237 : decode cX12_next0 237 = .ok (.bipush 45, 2) := by decide +kernel
theorem dX12_next0_239 : decode cX12_next0 239 = .ok (.if_icmp .eq 45, 3) := by decide +kernel
theorem dX12_next0_242 : decode cX12_next0 242 = .ok (.iload_n 1, 1) := by decide +kernel
theorem dX12_next0_243 : decode cX12_next0 243 = .ok (.bipush 42, 2) := by decide +kernel
theorem dX12_next0_245 : decode cX12_next0 245 = .ok (.if_icmp .eq 39, 3) := by decide +kernel
theorem dX12_next0_248 : decode cX12_next0 248 = .ok (.iload_n 1, 1) := by decide +kernel
theorem dX12_next0_249 : decode cX12_next0 249 = .ok (.bipush 47, 2) := by decide +kernel
theorem dX12_next0_251 : decode cX12_next0 251 = .ok (.if_icmp .eq 33, 3) := by decide +kernel
theorem dX12_next0_254 : decode cX12_next0 254 = .ok (.iload_n 1, 1) := by decide +kernel
theorem dX12_next0_255 : decode cX12_next0 255 = .ok (.bipush 40, 2) := by decide +kernel
theorem dX12_next0_257 : decode cX12_next0 257 = .ok (.if_icmp .eq 27, 3) := by decide +kernel
theorem dX12_next0_260 : decode cX12_next0 260 = .ok (.iload_n 1, 1) := by decide +kernel
theorem dX12_next0_261 : decode cX12_next0 261 = .ok (.bipush 41, 2) := by decide +kernel
theorem dX12_next0_263 : decode cX12_next0 263 = .ok (.if_icmp .eq 21, 3) := by decide +kernel
theorem dX12_next0_266 : decode cX12_next0 266 = .ok (.iload_n 1, 1) := by decide +kernel
theorem dX12_next0_267 : decode cX12_next0 267 = .ok (.bipush 60, 2) := by decide +kernel
theorem dX12_next0_269 : decode cX12_next0 269 = .ok (.if_icmp .eq 15, 3) := by decide +kernel
theorem dX12_next0_272 : decode cX12_next0 272 = .ok (.iload_n 1, 1) := by decide +kernel
theorem dX12_next0_273 : decode cX12_next0 273 = .ok (.bipush 61, 2) := by decide +kernel
theorem dX12_next0_275 : decode cX12_next0 275 = .ok (.if_icmp .eq 9, 3) := by decide +kernel
theorem dX12_next0_278 : decode cX12_next0 278 = .ok (.iload_n 1, 1) := by decide +kernel
theorem dX12_next0_279 : decode cX12_next0 279 = .ok (.bipush 62, 2) := by decide +kernel
theorem dX12_next0_281 : decode cX12_next0 281 = .ok (.if_icmp .ne 7, 3) := by decide +kernel
theorem dX12_next0_284 : decode cX12_next0 284 = .ok (.iconst 1, 1) := by decide +kernel
theorem dX12_next0_285 : decode cX12_next0 285 = .ok (.goto 4, 3) := by decide +kernel
theorem dX12_next0_288 : decode cX12_next0 288 = .ok (.iconst 0, 1) := by decide +kernel
theorem dX12_next0_289 : decode cX12_next0 289 = .ok (.istore_n 2, 1) := by decide +kernel
theorem dX12_next0_290 : decode cX12_next0 290 = .ok (.aload_n 0, 1) := by decide +kernel
theorem dX12_next0_291 : decode cX12_next0 291 = .ok (.iload_n 2, 1) := by decide +kernel
theorem dX12_next0_292 : decode cX12_next0 292 = .ok (.ifCond .eq 10, 3) := by decide +kernel
theorem dX12_next0_295 : decode cX12_next0 295 = .ok (.bipush 100, 2) := by decide +kernel
theorem dX12_next0_297 : decode cX12_next0 297 = .ok (.iload_n 1, 1) := by decide +kernel
theorem dX12_next0_298 : decode cX12_next0 298 = .ok (.iadd, 1) := by decide +kernel
theorem dX12_next0_299 : decode cX12_next0 299 = .ok (.goto 4, 3) := by decide +kernel
theorem dX12_next0_302 : decode cX12_next0 302 = .ok (.iconst 1, 1) := by decide +kernel
theorem dX12_next0_303 : decode cX12_next0 303 = .ok (.putfield 208, 3) := by decide +kernel
theorem dX12_next0_306 : decode cX12_next0 306 = .ok (.return_, 1) := by decide +kernel
theorem dX12_bad_0 : decode cX12_bad 0 = .ok (.aload_n 0, 1) := by decide +kernel
theorem dX12_bad_1 : decode cX12_bad 1 = .ok (.iload_n 1, 1) := by decide +kernel
theorem dX12_bad_2 : decode cX12_bad 2 = .ok (.putfield 223, 3) := by decide +kernel
theorem dX12_bad_5 : decode cX12_bad 5 = .ok (.aload_n 0, 1) := by decide +kernel
theorem dX12_bad_6 : decode cX12_bad 6 = .ok (.aload_n 0, 1) := by decide +kernel
theorem dX12_bad_7 : decode cX12_bad 7 = .ok (.getfield 126, 3) := by decide +kernel
theorem dX12_bad_10 : decode cX12_bad 10 = .ok (.putfield 226, 3) := by decide +kernel
theorem dX12_bad_13 : decode cX12_bad 13 = .ok (.iconst 0, 1) := by decide +kernel
theorem dX12_bad_14 : decode cX12_bad 14 = .ok (.ireturn, 1) := by decide +kernel
theorem dX12_need_0 : decode cX12_need 0 = .ok (.aload_n 0, 1) := by decide +kernel
theorem dX12_need_1 : decode cX12_need 1 = .ok (.getfield 208, 3) := by decide +kernel
theorem dX12_need_4 : decode cX12_need 4 = .ok (.iload_n 1, 1) := by decide +kernel
theorem dX12_need_5 : decode cX12_need 5 = .ok (.if_icmp .eq 9, 3) := by decide +kernel
theorem dX12_need_8 : decode cX12_need 8 = .ok (.aload_n 0, 1) := by decide +kernel
theorem dX12_need_9 : decode cX12_need 9 = .ok (.iconst 1, 1) := by decide +kernel
theorem dX12_need_10 : decode cX12_need 10 = .ok (.invokevirtual 229, 3) := by decide +kernel
theorem dX12_need_13 : decode cX12_need 13 = .ok (.ireturn, 1) := by decide +kernel
theorem dX12_need_14 : decode cX12_need 14 = .ok (.aload_n 0, 1) := by decide +kernel
theorem dX12_need_15 : decode cX12_need 15 = .ok (.invokevirtual 232, 3) := by decide +kernel
theorem dX12_need_18 : decode cX12_need 18 = .ok (.iconst 1, 1) := by decide +kernel
theorem dX12_need_19 : decode cX12_need 19 = .ok (.ireturn, 1) := by decide +kernel
theorem dX12_lay_0 : decode cX12_lay 0 = .ok (.aload_n 0, 1) := by decide +kernel
theorem dX12_lay_1 : decode cX12_lay 1 = .ok (.getfield 25, 3) := by decide +kernel
theorem dX12_lay_4 : decode cX12_lay 4 = .ok (.iconst 2, 1) := by decide +kernel
theorem dX12_lay_5 : decode cX12_lay 5 = .ok (.aload_n 0, 1) := by decide +kernel
theorem dX12_lay_6 : decode cX12_lay 6 = .ok (.getfield 235, 3) := by decide +kernel
theorem dX12_lay_9 : decode cX12_lay 9 = .ok (.imul, 1) := by decide +kernel
theorem dX12_lay_10 : decode cX12_lay 10 = .ok (.iload_n 1, 1) := by decide +kernel
theorem dX12_lay_11 : decode cX12_lay 11 = .ok (.iastore, 1) := by decide +kernel
theorem dX12_lay_12 : decode cX12_lay 12 = .ok (.aload_n 0, 1) := by decide +kernel
theorem dX12_lay_13 : decode cX12_lay 13 = .ok (.getfield 25, 3) := by decide +kernel
theorem dX12_lay_16 : decode cX12_lay 16 = .ok (.iconst 2, 1) := by decide +kernel
theorem dX12_lay_17 : decode cX12_lay 17 = .ok (.aload_n 0, 1) := by decide +kernel
theorem dX12_lay_18 : decode cX12_lay 18 = .ok (.getfield 235, 3) := by decide +kernel
theorem dX12_lay_21 : decode cX12_lay 21 = .ok (.imul, 1) := by decide +kernel
theorem dX12_lay_22 : decode cX12_lay 22 = .ok (.iconst 1, 1) := by decide +kernel
theorem dX12_lay_23 : decode cX12_lay 23 = .ok (.iadd, 1) := by decide +kernel
theorem dX12_lay_24 : decode cX12_lay 24 = .ok (.iload_n 2, 1) := by decide +kernel
theorem dX12_lay_25 : decode cX12_lay 25 = .ok (.iastore, 1) := by decide +kernel
theorem dX12_lay_26 : decode cX12_lay 26 = .ok (.aload_n 0, 1) := by decide +kernel
theorem dX12_lay_27 : decode cX12_lay 27 = .ok (.dup, 1) := by decide +kernel
theorem dX12_lay_28 : decode cX12_lay 28 = .ok (.getfield 235, 3) := by decide +kernel
theorem dX12_lay_31 : decode cX12_lay 31 = .ok (.iconst 1, 1) := by decide +kernel
theorem dX12_lay_32 : decode cX12_lay 32 = .ok (.iadd, 1) := by decide +kernel
theorem dX12_lay_33 : decode cX12_lay 33 = .ok (.putfield 235, 3) := by decide +kernel
theorem dX12_lay_36 : decode cX12_lay 36 = .ok (.return_, 1) := by decide +kernel
theorem dX12_opens_0 : decode cX12_opens 0 = .ok (.aload_n 0, 1) := by decide +kernel
theorem dX12_opens_1 : decode cX12_opens 1 = .ok (.getfield 238, 3) := by decide +kernel
theorem dX12_opens_4 : decode cX12_opens 4 = .ok (.bipush 8, 2) := by decide +kernel
theorem dX12_opens_6 : decode cX12_opens 6 = .ok (.if_icmp .ne 9, 3) := by decide +kernel
theorem dX12_opens_9 : decode cX12_opens 9 = .ok (.aload_n 0, 1) := by decide +kernel
theorem dX12_opens_10 : decode cX12_opens 10 = .ok (.iconst 3, 1) := by decide +kernel
theorem dX12_opens_11 : decode cX12_opens 11 = .ok (.invokevirtual 229, 3) := by decide +kernel
theorem dX12_opens_14 : decode cX12_opens 14 = .ok (.ireturn, 1) := by decide +kernel
theorem dX12_opens_15 : decode cX12_opens 15 = .ok (.aload_n 0, 1) := by decide +kernel
theorem dX12_opens_16 : decode cX12_opens 16 = .ok (.dup, 1) := by decide +kernel
theorem dX12_opens_17 : decode cX12_opens 17 = .ok (.getfield 238, 3) := by decide +kernel
theorem dX12_opens_20 : decode cX12_opens 20 = .ok (.iconst 1, 1) := by decide +kernel
theorem dX12_opens_21 : decode cX12_opens 21 = .ok (.iadd, 1) := by decide +kernel
theorem dX12_opens_22 : decode cX12_opens 22 = .ok (.putfield 238, 3) := by decide +kernel
theorem dX12_opens_25 : decode cX12_opens 25 = .ok (.aload_n 0, 1) := by decide +kernel
theorem dX12_opens_26 : decode cX12_opens 26 = .ok (.invokevirtual 232, 3) := by decide +kernel
theorem dX12_opens_29 : decode cX12_opens 29 = .ok (.iconst 1, 1) := by decide +kernel
theorem dX12_opens_30 : decode cX12_opens 30 = .ok (.ireturn, 1) := by decide +kernel
theorem dX12_sumUp_0 : decode cX12_sumUp 0 = .ok (.aload_n 0, 1) := by decide +kernel
theorem dX12_sumUp_1 : decode cX12_sumUp 1 = .ok (.invokevirtual 241, 3) := by decide +kernel
theorem dX12_sumUp_4 : decode cX12_sumUp 4 = .ok (.ifCond .ne 5, 3) := by decide +kernel
theorem dX12_sumUp_7 : decode cX12_sumUp 7 = .ok (.iconst 0, 1) := by decide +kernel
theorem dX12_sumUp_8 : decode cX12_sumUp 8 = .ok (.ireturn, 1) := by decide +kernel
theorem dX12_sumUp_9 : decode cX12_sumUp 9 = .ok (.aload_n 0, 1) := by decide +kernel
theorem dX12_sumUp_10 : decode cX12_sumUp 10 = .ok (.getfield 208, 3) := by decide +kernel
theorem dX12_sumUp_13 : decode cX12_sumUp 13 = .ok (.sipush 143, 3) := by decide +kernel
theorem dX12_sumUp_16 : decode cX12_sumUp 16 = .ok (.if_icmp .eq 13, 3) := by decide +kernel
theorem dX12_sumUp_19 : decode cX12_sumUp 19 = .ok (.aload_n 0, 1) := by decide +kernel
theorem dX12_sumUp_20 : decode cX12_sumUp 20 = .ok (.getfield 208, 3) := by decide +kernel
theorem dX12_sumUp_23 : decode cX12_sumUp 23 = .ok (.sipush 145, 3) := by decide +kernel
theorem dX12_sumUp_26 : decode cX12_sumUp 26 = .ok (.if_icmp .ne 43, 3) := by decide +kernel
theorem dX12_sumUp_29 : decode cX12_sumUp 29 = .ok (.aload_n 0, 1) := by decide +kernel
theorem dX12_sumUp_30 : decode cX12_sumUp 30 = .ok (.getfield 208, 3) := by decide +kernel
theorem dX12_sumUp_33 : decode cX12_sumUp 33 = .ok (.sipush 143, 3) := by decide +kernel
theorem dX12_sumUp_36 : decode cX12_sumUp 36 = .ok (.if_icmp .ne 8, 3) := by decide +kernel
theorem dX12_sumUp_39 : decode cX12_sumUp 39 = .ok (.bipush 23, 2) := by decide +kernel
theorem dX12_sumUp_41 : decode cX12_sumUp 41 = .ok (.goto 5, 3) := by decide +kernel
theorem dX12_sumUp_44 : decode cX12_sumUp 44 = .ok (.bipush 24, 2) := by decide +kernel
theorem dX12_sumUp_46 : decode cX12_sumUp 46 = .ok (.istore_n 1, 1) := by decide +kernel
theorem dX12_sumUp_47 : decode cX12_sumUp 47 = .ok (.aload_n 0, 1) := by decide +kernel
theorem dX12_sumUp_48 : decode cX12_sumUp 48 = .ok (.invokevirtual 232, 3) := by decide +kernel
theorem dX12_sumUp_51 : decode cX12_sumUp 51 = .ok (.aload_n 0, 1) := by decide +kernel
theorem dX12_sumUp_52 : decode cX12_sumUp 52 = .ok (.invokevirtual 241, 3) := by decide +kernel
theorem dX12_sumUp_55 : decode cX12_sumUp 55 = .ok (.ifCond .ne 5, 3) := by decide +kernel
theorem dX12_sumUp_58 : decode cX12_sumUp 58 = .ok (.iconst 0, 1) := by decide +kernel
theorem dX12_sumUp_59 : decode cX12_sumUp 59 = .ok (.ireturn, 1) := by decide +kernel
theorem dX12_sumUp_60 : decode cX12_sumUp 60 = .ok (.aload_n 0, 1) := by decide +kernel
theorem dX12_sumUp_61 : decode cX12_sumUp 61 = .ok (.iload_n 1, 1) := by decide +kernel
theorem dX12_sumUp_62 : decode cX12_sumUp 62 = .ok (.iconst 0, 1) := by decide +kernel
theorem dX12_sumUp_63 : decode cX12_sumUp 63 = .ok (.invokevirtual 245, 3) := by decide +kernel
theorem dX12_sumUp_66 : decode cX12_sumUp 66 = .ok (.goto (-57), 3) := by decide +kernel
theorem dX12_sumUp_69 : decode cX12_sumUp 69 = .ok (.iconst 1, 1) := by decide +kernel
theorem dX12_sumUp_70 : decode cX12_sumUp 70 = .ok (.ireturn, 1) := by decide +kernel
theorem dX12_product_0 : decode cX12_product 0 = .ok (.aload_n 0, 1) := by decide +kernel
theorem dX12_product_1 : decode cX12_product 1 = .ok (.invokevirtual 249, 3) := by decide +kernel
theorem dX12_product_4 : decode cX12_product 4 = .ok (.ifCond .ne 5, 3) := by decide +kernel
theorem dX12_product_7 : decode cX12_product 7 = .ok (.iconst 0, 1) := by decide +kernel
theorem dX12_product_8 : decode cX12_product 8 = .ok (.ireturn, 1) := by decide +kernel
theorem dX12_product_9 : decode cX12_product 9 = .ok (.aload_n 0, 1) := by decide +kernel
theorem dX12_product_10 : decode cX12_product 10 = .ok (.getfield 208, 3) := by decide +kernel
theorem dX12_product_13 : decode cX12_product 13 = .ok (.sipush 142, 3) := by decide +kernel
theorem dX12_product_16 : decode cX12_product 16 = .ok (.if_icmp .eq 13, 3) := by decide +kernel
theorem dX12_product_19 : decode cX12_product 19 = .ok (.aload_n 0, 1) := by decide +kernel
theorem dX12_product_20 : decode cX12_product 20 = .ok (.getfield 208, 3) := by decide +kernel
theorem dX12_product_23 : decode cX12_product 23 = .ok (.sipush 147, 3) := by decide +kernel
theorem dX12_product_26 : decode cX12_product 26 = .ok (.if_icmp .ne 89, 3) := by decide +kernel
theorem dX12_product_29 : decode cX12_product 29 = .ok (.aload_n 0, 1) := by decide +kernel
theorem dX12_product_30 : decode cX12_product 30 = .ok (.getfield 208, 3) := by decide +kernel
theorem dX12_product_33 : decode cX12_product 33 = .ok (.sipush 147, 3) := by decide +kernel
theorem dX12_product_36 : decode cX12_product 36 = .ok (.if_icmp .ne 7, 3) := by decide +kernel
theorem dX12_product_39 : decode cX12_product 39 = .ok (.iconst 1, 1) := by decide +kernel
theorem dX12_product_40 : decode cX12_product 40 = .ok (.goto 4, 3) := by decide +kernel
theorem dX12_product_43 : decode cX12_product 43 = .ok (.iconst 0, 1) := by decide +kernel
theorem dX12_product_44 : decode cX12_product 44 = .ok (.istore_n 1, 1) := by decide +kernel
theorem dX12_product_45 : decode cX12_product 45 = .ok (.aload_n 0, 1) := by decide +kernel
theorem dX12_product_46 : decode cX12_product 46 = .ok (.invokevirtual 232, 3) := by decide +kernel
theorem dX12_product_49 : decode cX12_product 49 = .ok (.iload_n 1, 1) := by decide +kernel
theorem dX12_product_50 : decode cX12_product 50 = .ok (.ifCond .eq 46, 3) := by decide +kernel
theorem dX12_product_53 : decode cX12_product 53 = .ok (.aload_n 0, 1) := by decide +kernel
theorem dX12_product_54 : decode cX12_product 54 = .ok (.getfield 220, 3) := by decide +kernel
theorem dX12_product_57 : decode cX12_product 57 = .ok (.istore_n 2, 1) := by decide +kernel
theorem dX12_product_58 : decode cX12_product 58 = .ok (.aload_n 0, 1) := by decide +kernel
theorem dX12_product_59 : decode cX12_product 59 = .ok (.getfield 208, 3) := by decide +kernel
theorem dX12_product_62 : decode cX12_product 62 = .ok (.iconst 2, 1) := by decide +kernel
theorem dX12_product_63 : decode cX12_product 63 = .ok (.if_icmp .eq 9, 3) := by decide +kernel
theorem dX12_product_66 : decode cX12_product 66 = .ok (.aload_n 0, 1) := by decide +kernel
theorem dX12_product_67 : decode cX12_product 67 = .ok (.iconst 1, 1) := by decide +kernel
theorem dX12_product_68 : decode cX12_product 68 = .ok (.invokevirtual 229, 3) := by decide +kernel
theorem dX12_product_71 : decode cX12_product 71 = .ok (.ireturn, 1) := by decide +kernel
theorem dX12_product_72 : decode cX12_product 72 = .ok (.iload_n 2, 1) := by decide +kernel
theorem dX12_product_73 : decode cX12_product 73 = .ok (.ifCond .ne 9, 3) := by decide +kernel
theorem dX12_product_76 : decode cX12_product 76 = .ok (.aload_n 0, 1) := by decide +kernel
theorem dX12_product_77 : decode cX12_product 77 = .ok (.iconst 2, 1) := by decide +kernel
theorem dX12_product_78 : decode cX12_product 78 = .ok (.invokevirtual 229, 3) := by decide +kernel
theorem dX12_product_81 : decode cX12_product 81 = .ok (.ireturn, 1) := by decide +kernel
theorem dX12_product_82 : decode cX12_product 82 = .ok (.aload_n 0, 1) := by decide +kernel
theorem dX12_product_83 : decode cX12_product 83 = .ok (.invokevirtual 232, 3) := by decide +kernel
theorem dX12_product_86 : decode cX12_product 86 = .ok (.aload_n 0, 1) := by decide +kernel
theorem dX12_product_87 : decode cX12_product 87 = .ok (.bipush 26, 2) := by decide +kernel
theorem dX12_product_89 : decode cX12_product 89 = .ok (.iload_n 2, 1) := by decide +kernel
theorem dX12_product_90 : decode cX12_product 90 = .ok (.invokevirtual 245, 3) := by decide +kernel
theorem dX12_product_93 : decode cX12_product 93 = .ok (.goto 19, 3) := by decide +kernel
theorem dX12_product_96 : decode cX12_product 96 = .ok (.aload_n 0, 1) := by decide +kernel
theorem dX12_product_97 : decode cX12_product 97 = .ok (.invokevirtual 249, 3) := by decide +kernel
theorem dX12_product_100 : decode cX12_product 100 = .ok (.ifCond .ne 5, 3) := by decide +kernel
theorem dX12_product_103 : decode cX12_product 103 = .ok (.iconst 0, 1) := by decide +kernel
theorem dX12_product_104 : decode cX12_product 104 = .ok (.ireturn, 1) := by decide +kernel
theorem dX12_product_105 : decode cX12_product 105 = .ok (.aload_n 0, 1) := by decide +kernel
theorem dX12_product_106 : decode cX12_product 106 = .ok (.bipush 25, 2) := by decide +kernel
theorem dX12_product_108 : decode cX12_product 108 = .ok (.iconst 0, 1) := by decide +kernel
theorem dX12_product_109 : decode cX12_product 109 = .ok (.invokevirtual 245, 3) := by decide +kernel
theorem dX12_product_112 : decode cX12_product 112 = .ok (.goto (-103), 3) := by decide +kernel
theorem dX12_product_115 : decode cX12_product 115 = .ok (.iconst 1, 1) := by decide +kernel
theorem dX12_product_116 : decode cX12_product 116 = .ok (.ireturn, 1) := by decide +kernel
theorem dX12_unit_0 : decode cX12_unit 0 = .ok (.aload_n 0, 1) := by decide +kernel
theorem dX12_unit_1 : decode cX12_unit 1 = .ok (.getfield 208, 3) := by decide +kernel
theorem dX12_unit_4 : decode cX12_unit 4 = .ok (.bipush 41, 2) := by decide +kernel
theorem dX12_unit_6 : decode cX12_unit 6 = .ok (.bipush 53, 2) := by decide +kernel
theorem dX12_unit_8 : decode cX12_unit 8 = .ok (.invokestatic 74, 3) := by decide +kernel
theorem dX12_unit_11 : decode cX12_unit 11 = .ok (.istore_n 1, 1) := by decide +kernel
theorem dX12_unit_12 : decode cX12_unit 12 = .ok (.aload_n 0, 1) := by decide +kernel
theorem dX12_unit_13 : decode cX12_unit 13 = .ok (.getfield 208, 3) := by decide +kernel
theorem dX12_unit_16 : decode cX12_unit 16 = .ok (.iconst 2, 1) := by decide +kernel
theorem dX12_unit_17 : decode cX12_unit 17 = .ok (.if_icmp .eq 13, 3) := by decide +kernel
theorem dX12_unit_20 : decode cX12_unit 20 = .ok (.iload_n 1, 1) := by decide +kernel
theorem dX12_unit_21 : decode cX12_unit 21 = .ok (.ifCond .ne 9, 3) := by decide +kernel
theorem dX12_unit_24 : decode cX12_unit 24 = .ok (.aload_n 0, 1) := by decide +kernel
theorem dX12_unit_25 : decode cX12_unit 25 = .ok (.iconst 1, 1) := by decide +kernel
theorem dX12_unit_26 : decode cX12_unit 26 = .ok (.invokevirtual 229, 3) := by decide +kernel
theorem dX12_unit_29 : decode cX12_unit 29 = .ok (.ireturn, 1) := by decide +kernel
theorem dX12_unit_30 : decode cX12_unit 30 = .ok (.aload_n 0, 1) := by decide +kernel
theorem dX12_unit_31 : decode cX12_unit 31 = .ok (.iload_n 1, 1) := by decide +kernel
theorem dX12_unit_32 : decode cX12_unit 32 = .ok (.ifCond .eq 13, 3) := by decide +kernel
theorem dX12_unit_35 : decode cX12_unit 35 = .ok (.aload_n 0, 1) := by decide +kernel
theorem dX12_unit_36 : decode cX12_unit 36 = .ok (.getfield 208, 3) := by decide +kernel
theorem dX12_unit_39 : decode cX12_unit 39 = .ok (.bipush 40, 2) := by decide +kernel
theorem dX12_unit_41 : decode cX12_unit 41 = .ok (.isub, 1) := by decide +kernel
theorem dX12_unit_42 : decode cX12_unit 42 = .ok (.goto 4, 3) := by decide +kernel
theorem dX12_unit_45 : decode cX12_unit 45 = .ok (.iconst 0, 1) := by decide +kernel
theorem dX12_unit_46 : decode cX12_unit 46 = .ok (.aload_n 0, 1) := by decide +kernel
theorem dX12_unit_47 : decode cX12_unit 47 = .ok (.getfield 220, 3) := by decide +kernel
theorem dX12_unit_50 : decode cX12_unit 50 = .ok (.invokevirtual 245, 3) := by decide +kernel
theorem dX12_unit_53 : decode cX12_unit 53 = .ok (.aload_n 0, 1) := by decide +kernel
theorem dX12_unit_54 : decode cX12_unit 54 = .ok (.invokevirtual 232, 3) := by decide +kernel
theorem dX12_unit_57 : decode cX12_unit 57 = .ok (.iconst 1, 1) := by decide +kernel
theorem dX12_unit_58 : decode cX12_unit 58 = .ok (.ireturn, 1) := by decide +kernel
theorem dX12_any_0 : decode cX12_any 0 = .ok (.aload_n 0, 1) := by decide +kernel
theorem dX12_any_1 : decode cX12_any 1 = .ok (.invokevirtual 252, 3) := by decide +kernel
theorem dX12_any_4 : decode cX12_any 4 = .ok (.ifCond .ne 5, 3) := by decide +kernel
theorem dX12_any_7 : decode cX12_any 7 = .ok (.iconst 0, 1) := by decide +kernel
theorem dX12_any_8 : decode cX12_any 8 = .ok (.ireturn, 1) := by decide +kernel
theorem dX12_any_9 : decode cX12_any 9 = .ok (.aload_n 0, 1) := by decide +kernel
theorem dX12_any_10 : decode cX12_any 10 = .ok (.getfield 208, 3) := by decide +kernel
theorem dX12_any_13 : decode cX12_any 13 = .ok (.iconst 4, 1) := by decide +kernel
theorem dX12_any_14 : decode cX12_any 14 = .ok (.if_icmp .ne 26, 3) := by decide +kernel
theorem dX12_any_17 : decode cX12_any 17 = .ok (.aload_n 0, 1) := by decide +kernel
theorem dX12_any_18 : decode cX12_any 18 = .ok (.invokevirtual 232, 3) := by decide +kernel
theorem dX12_any_21 : decode cX12_any 21 = .ok (.aload_n 0, 1) := by decide +kernel
theorem dX12_any_22 : decode cX12_any 22 = .ok (.invokevirtual 252, 3) := by decide +kernel
theorem dX12_any_25 : decode cX12_any 25 = .ok (.ifCond .ne 5, 3) := by decide +kernel
theorem dX12_any_28 : decode cX12_any 28 = .ok (.iconst 0, 1) := by decide +kernel
theorem dX12_any_29 : decode cX12_any 29 = .ok (.ireturn, 1) := by decide +kernel
theorem dX12_any_30 : decode cX12_any 30 = .ok (.aload_n 0, 1) := by decide +kernel
theorem dX12_any_31 : decode cX12_any 31 = .ok (.bipush 32, 2) := by decide +kernel
theorem dX12_any_33 : decode cX12_any 33 = .ok (.iconst 0, 1) := by decide +kernel
theorem dX12_any_34 : decode cX12_any 34 = .ok (.invokevirtual 245, 3) := by decide +kernel
theorem dX12_any_37 : decode cX12_any 37 = .ok (.goto (-28), 3) := by decide +kernel
theorem dX12_any_40 : decode cX12_any 40 = .ok (.iconst 1, 1) := by decide +kernel
theorem dX12_any_41 : decode cX12_any 41 = .ok (.ireturn, 1) := by decide +kernel
theorem dX12_every_0 : decode cX12_every 0 = .ok (.aload_n 0, 1) := by decide +kernel
theorem dX12_every_1 : decode cX12_every 1 = .ok (.invokevirtual 255, 3) := by decide +kernel
theorem dX12_every_4 : decode cX12_every 4 = .ok (.ifCond .ne 5, 3) := by decide +kernel
theorem dX12_every_7 : decode cX12_every 7 = .ok (.iconst 0, 1) := by decide +kernel
theorem dX12_every_8 : decode cX12_every 8 = .ok (.ireturn, 1) := by decide +kernel
theorem dX12_every_9 : decode cX12_every 9 = .ok (.aload_n 0, 1) := by decide +kernel
theorem dX12_every_10 : decode cX12_every 10 = .ok (.getfield 208, 3) := by decide +kernel
theorem dX12_every_13 : decode cX12_every 13 = .ok (.iconst 5, 1) := by decide +kernel
theorem dX12_every_14 : decode cX12_every 14 = .ok (.if_icmp .ne 26, 3) := by decide +kernel
theorem dX12_every_17 : decode cX12_every 17 = .ok (.aload_n 0, 1) := by decide +kernel
theorem dX12_every_18 : decode cX12_every 18 = .ok (.invokevirtual 232, 3) := by decide +kernel
theorem dX12_every_21 : decode cX12_every 21 = .ok (.aload_n 0, 1) := by decide +kernel
theorem dX12_every_22 : decode cX12_every 22 = .ok (.invokevirtual 255, 3) := by decide +kernel
theorem dX12_every_25 : decode cX12_every 25 = .ok (.ifCond .ne 5, 3) := by decide +kernel
theorem dX12_every_28 : decode cX12_every 28 = .ok (.iconst 0, 1) := by decide +kernel
theorem dX12_every_29 : decode cX12_every 29 = .ok (.ireturn, 1) := by decide +kernel
theorem dX12_every_30 : decode cX12_every 30 = .ok (.aload_n 0, 1) := by decide +kernel
theorem dX12_every_31 : decode cX12_every 31 = .ok (.bipush 31, 2) := by decide +kernel
theorem dX12_every_33 : decode cX12_every 33 = .ok (.iconst 0, 1) := by decide +kernel
theorem dX12_every_34 : decode cX12_every 34 = .ok (.invokevirtual 245, 3) := by decide +kernel
theorem dX12_every_37 : decode cX12_every 37 = .ok (.goto (-28), 3) := by decide +kernel
theorem dX12_every_40 : decode cX12_every 40 = .ok (.iconst 1, 1) := by decide +kernel
theorem dX12_every_41 : decode cX12_every 41 = .ok (.ireturn, 1) := by decide +kernel
theorem dX12_oneTest_0 : decode cX12_oneTest 0 = .ok (.aload_n 0, 1) := by decide +kernel
theorem dX12_oneTest_1 : decode cX12_oneTest 1 = .ok (.getfield 208, 3) := by decide +kernel
theorem dX12_oneTest_4 : decode cX12_oneTest 4 = .ok (.bipush 6, 2) := by decide +kernel
theorem dX12_oneTest_6 : decode cX12_oneTest 6 = .ok (.if_icmp .ne 38, 3) := by decide +kernel
theorem dX12_oneTest_9 : decode cX12_oneTest 9 = .ok (.aload_n 0, 1) := by decide +kernel
theorem dX12_oneTest_10 : decode cX12_oneTest 10 = .ok (.invokevirtual 258, 3) := by decide +kernel
theorem dX12_oneTest_13 : decode cX12_oneTest 13 = .ok (.ifCond .eq 10, 3) := by decide +kernel
theorem dX12_oneTest_16 : decode cX12_oneTest 16 = .ok (.aload_n 0, 1) := by decide +kernel
theorem dX12_oneTest_17 : decode cX12_oneTest 17 = .ok (.invokevirtual 255, 3) := by decide +kernel
theorem dX12_oneTest_20 : decode cX12_oneTest 20 = .ok (.ifCond .ne 5, 3) := by decide +kernel
theorem dX12_oneTest_23 : decode cX12_oneTest 23 = .ok (.iconst 0, 1) := by decide +kernel
theorem dX12_oneTest_24 : decode cX12_oneTest 24 = .ok (.ireturn, 1) := by decide +kernel
theorem dX12_oneTest_25 : decode cX12_oneTest 25 = .ok (.aload_n 0, 1) := by decide +kernel
theorem dX12_oneTest_26 : decode cX12_oneTest 26 = .ok (.dup, 1) := by decide +kernel
theorem dX12_oneTest_27 : decode cX12_oneTest 27 = .ok (.getfield 238, 3) := by decide +kernel
theorem dX12_oneTest_30 : decode cX12_oneTest 30 = .ok (.iconst 1, 1) := by decide +kernel
theorem dX12_oneTest_31 : decode cX12_oneTest 31 = .ok (.isub, 1) := by decide +kernel
theorem dX12_oneTest_32 : decode cX12_oneTest 32 = .ok (.putfield 238, 3) := by decide +kernel
theorem dX12_oneTest_35 : decode cX12_oneTest 35 = .ok (.aload_n 0, 1) := by decide +kernel
theorem dX12_oneTest_36 : decode cX12_oneTest 36 = .ok (.bipush 30, 2) := by decide +kernel
theorem dX12_oneTest_38 : decode cX12_oneTest 38 = .ok (.iconst 0, 1) := by decide +kernel
theorem dX12_oneTest_39 : decode cX12_oneTest 39 = .ok (.invokevirtual 245, 3) := by decide +kernel
theorem dX12_oneTest_42 : decode cX12_oneTest 42 = .ok (.iconst 1, 1) := by decide +kernel
theorem dX12_oneTest_43 : decode cX12_oneTest 43 = .ok (.ireturn, 1) := by decide +kernel
theorem dX12_oneTest_44 : decode cX12_oneTest 44 = .ok (.aload_n 0, 1) := by decide +kernel
theorem dX12_oneTest_45 : decode cX12_oneTest 45 = .ok (.getfield 208, 3) := by decide +kernel
theorem dX12_oneTest_48 : decode cX12_oneTest 48 = .ok (.sipush 140, 3) := by decide +kernel
theorem dX12_oneTest_51 : decode cX12_oneTest 51 = .ok (.if_icmp .ne 41, 3) := by decide +kernel
theorem dX12_oneTest_54 : decode cX12_oneTest 54 = .ok (.aload_n 0, 1) := by decide +kernel
theorem dX12_oneTest_55 : decode cX12_oneTest 55 = .ok (.invokevirtual 258, 3) := by decide +kernel
theorem dX12_oneTest_58 : decode cX12_oneTest 58 = .ok (.ifCond .eq 20, 3) := by decide +kernel
theorem dX12_oneTest_61 : decode cX12_oneTest 61 = .ok (.aload_n 0, 1) := by decide +kernel
theorem dX12_oneTest_62 : decode cX12_oneTest 62 = .ok (.invokevirtual 261, 3) := by decide +kernel
theorem dX12_oneTest_65 : decode cX12_oneTest 65 = .ok (.ifCond .eq 13, 3) := by decide +kernel
theorem dX12_oneTest_68 : decode cX12_oneTest 68 = .ok (.aload_n 0, 1) := by decide +kernel
theorem dX12_oneTest_69 : decode cX12_oneTest 69 = .ok (.sipush 141, 3) := by decide +kernel
theorem dX12_oneTest_72 : decode cX12_oneTest 72 = .ok (.invokevirtual 264, 3) := by decide +kernel
theorem dX12_oneTest_75 : decode cX12_oneTest 75 = .ok (.ifCond .ne 5, 3) := by decide +kernel
theorem dX12_oneTest_78 : decode cX12_oneTest 78 = .ok (.iconst 0, 1) := by decide +kernel
theorem dX12_oneTest_79 : decode cX12_oneTest 79 = .ok (.ireturn, 1) := by decide +kernel
theorem dX12_oneTest_80 : decode cX12_oneTest 80 = .ok (.aload_n 0, 1) := by decide +kernel
theorem dX12_oneTest_81 : decode cX12_oneTest 81 = .ok (.dup, 1) := by decide +kernel
theorem dX12_oneTest_82 : decode cX12_oneTest 82 = .ok (.getfield 238, 3) := by decide +kernel
theorem dX12_oneTest_85 : decode cX12_oneTest 85 = .ok (.iconst 1, 1) := by decide +kernel
theorem dX12_oneTest_86 : decode cX12_oneTest 86 = .ok (.isub, 1) := by decide +kernel
theorem dX12_oneTest_87 : decode cX12_oneTest 87 = .ok (.putfield 238, 3) := by decide +kernel
theorem dX12_oneTest_90 : decode cX12_oneTest 90 = .ok (.iconst 1, 1) := by decide +kernel
theorem dX12_oneTest_91 : decode cX12_oneTest 91 = .ok (.ireturn, 1) := by decide +kernel
theorem dX12_oneTest_92 : decode cX12_oneTest 92 = .ok (.aload_n 0, 1) := by decide +kernel
theorem dX12_oneTest_93 : decode cX12_oneTest 93 = .ok (.invokevirtual 267, 3) := by decide +kernel
theorem dX12_oneTest_96 : decode cX12_oneTest 96 = .ok (.ifCond .ne 5, 3) := by decide +kernel
theorem dX12_oneTest_99 : decode cX12_oneTest 99 = .ok (.iconst 0, 1) := by decide +kernel
theorem dX12_oneTest_100 : decode cX12_oneTest 100 = .ok (.ireturn, 1) := by decide +kernel
theorem dX12_oneTest_101 : decode cX12_oneTest 101 = .ok (.aload_n 0, 1) := by decide +kernel
theorem dX12_oneTest_102 : decode cX12_oneTest 102 = .ok (.getfield 208, 3) := by decide +kernel
theorem dX12_oneTest_105 : decode cX12_oneTest 105 = .ok (.sipush 160, 3) := by decide +kernel
theorem dX12_oneTest_108 : decode cX12_oneTest 108 = .ok (.if_icmp .ne 8, 3) := by decide +kernel
theorem dX12_oneTest_111 : decode cX12_oneTest 111 = .ok (.bipush 27, 2) := by decide +kernel
theorem dX12_oneTest_113 : decode cX12_oneTest 113 = .ok (.goto 34, 3) := by decide +kernel
theorem dX12_oneTest_116 : decode cX12_oneTest 116 = .ok (.aload_n 0, 1) := by decide +kernel
theorem dX12_oneTest_117 : decode cX12_oneTest 117 = .ok (.getfield 208, 3) := by decide +kernel
theorem dX12_oneTest_120 : decode cX12_oneTest 120 = .ok (.sipush 161, 3) := by decide +kernel
theorem dX12_oneTest_123 : decode cX12_oneTest 123 = .ok (.if_icmp .ne 8, 3) := by decide +kernel
theorem dX12_oneTest_126 : decode cX12_oneTest 126 = .ok (.bipush 28, 2) := by decide +kernel
theorem dX12_oneTest_128 : decode cX12_oneTest 128 = .ok (.goto 19, 3) := by decide +kernel
theorem dX12_oneTest_131 : decode cX12_oneTest 131 = .ok (.aload_n 0, 1) := by decide +kernel
theorem dX12_oneTest_132 : decode cX12_oneTest 132 = .ok (.getfield 208, 3) := by decide +kernel
theorem dX12_oneTest_135 : decode cX12_oneTest 135 = .ok (.sipush 162, 3) := by decide +kernel
theorem dX12_oneTest_138 : decode cX12_oneTest 138 = .ok (.if_icmp .ne 8, 3) := by decide +kernel
theorem dX12_oneTest_141 : decode cX12_oneTest 141 = .ok (.bipush 29, 2) := by decide +kernel
theorem dX12_oneTest_143 : decode cX12_oneTest 143 = .ok (.goto 4, 3) := by decide +kernel
theorem dX12_oneTest_146 : decode cX12_oneTest 146 = .ok (.iconst (-1), 1) := by decide +kernel
theorem dX12_oneTest_147 : decode cX12_oneTest 147 = .ok (.istore_n 1, 1) := by decide +kernel
theorem dX12_oneTest_148 : decode cX12_oneTest 148 = .ok (.iload_n 1, 1) := by decide +kernel
theorem dX12_oneTest_149 : decode cX12_oneTest 149 = .ok (.iconst (-1), 1) := by decide +kernel
theorem dX12_oneTest_150 : decode cX12_oneTest 150 = .ok (.if_icmp .ne 9, 3) := by decide +kernel
theorem dX12_oneTest_153 : decode cX12_oneTest 153 = .ok (.aload_n 0, 1) := by decide +kernel
theorem dX12_oneTest_154 : decode cX12_oneTest 154 = .ok (.iconst 1, 1) := by decide +kernel
theorem dX12_oneTest_155 : decode cX12_oneTest 155 = .ok (.invokevirtual 229, 3) := by decide +kernel
theorem dX12_oneTest_158 : decode cX12_oneTest 158 = .ok (.ireturn, 1) := by decide +kernel
theorem dX12_oneTest_159 : decode cX12_oneTest 159 = .ok (.aload_n 0, 1) := by decide +kernel
theorem dX12_oneTest_160 : decode cX12_oneTest 160 = .ok (.invokevirtual 232, 3) := by decide +kernel
theorem dX12_oneTest_163 : decode cX12_oneTest 163 = .ok (.aload_n 0, 1) := by decide +kernel
theorem dX12_oneTest_164 : decode cX12_oneTest 164 = .ok (.invokevirtual 267, 3) := by decide +kernel
theorem dX12_oneTest_167 : decode cX12_oneTest 167 = .ok (.ifCond .ne 5, 3) := by decide +kernel
theorem dX12_oneTest_170 : decode cX12_oneTest 170 = .ok (.iconst 0, 1) := by decide +kernel
theorem dX12_oneTest_171 : decode cX12_oneTest 171 = .ok (.ireturn, 1) := by decide +kernel
theorem dX12_oneTest_172 : decode cX12_oneTest 172 = .ok (.aload_n 0, 1) := by decide +kernel
theorem dX12_oneTest_173 : decode cX12_oneTest 173 = .ok (.iload_n 1, 1) := by decide +kernel
theorem dX12_oneTest_174 : decode cX12_oneTest 174 = .ok (.iconst 0, 1) := by decide +kernel
theorem dX12_oneTest_175 : decode cX12_oneTest 175 = .ok (.invokevirtual 245, 3) := by decide +kernel
theorem dX12_oneTest_178 : decode cX12_oneTest 178 = .ok (.iconst 1, 1) := by decide +kernel
theorem dX12_oneTest_179 : decode cX12_oneTest 179 = .ok (.ireturn, 1) := by decide +kernel
theorem dX12_aLine_0 : decode cX12_aLine 0 = .ok (.aload_n 0, 1) := by decide +kernel
theorem dX12_aLine_1 : decode cX12_aLine 1 = .ok (.getfield 208, 3) := by decide +kernel
theorem dX12_aLine_4 : decode cX12_aLine 4 = .ok (.bipush 7, 2) := by decide +kernel
theorem dX12_aLine_6 : decode cX12_aLine 6 = .ok (.if_icmp .eq 9, 3) := by decide +kernel
theorem dX12_aLine_9 : decode cX12_aLine 9 = .ok (.aload_n 0, 1) := by decide +kernel
theorem dX12_aLine_10 : decode cX12_aLine 10 = .ok (.iconst 1, 1) := by decide +kernel
theorem dX12_aLine_11 : decode cX12_aLine 11 = .ok (.invokevirtual 229, 3) := by decide +kernel
theorem dX12_aLine_14 : decode cX12_aLine 14 = .ok (.ireturn, 1) := by decide +kernel
theorem dX12_aLine_15 : decode cX12_aLine 15 = .ok (.aload_n 0, 1) := by decide +kernel
theorem dX12_aLine_16 : decode cX12_aLine 16 = .ok (.getfield 270, 3) := by decide +kernel
theorem dX12_aLine_19 : decode cX12_aLine 19 = .ok (.bipush 16, 2) := by decide +kernel
theorem dX12_aLine_21 : decode cX12_aLine 21 = .ok (.if_icmp .ne 9, 3) := by decide +kernel
theorem dX12_aLine_24 : decode cX12_aLine 24 = .ok (.aload_n 0, 1) := by decide +kernel
theorem dX12_aLine_25 : decode cX12_aLine 25 = .ok (.iconst 3, 1) := by decide +kernel
theorem dX12_aLine_26 : decode cX12_aLine 26 = .ok (.invokevirtual 229, 3) := by decide +kernel
theorem dX12_aLine_29 : decode cX12_aLine 29 = .ok (.ireturn, 1) := by decide +kernel
theorem dX12_aLine_30 : decode cX12_aLine 30 = .ok (.aload_n 0, 1) := by decide +kernel
theorem dX12_aLine_31 : decode cX12_aLine 31 = .ok (.iconst 0, 1) := by decide +kernel
theorem dX12_aLine_32 : decode cX12_aLine 32 = .ok (.putfield 238, 3) := by decide +kernel
theorem dX12_aLine_35 : decode cX12_aLine 35 = .ok (.aload_n 0, 1) := by decide +kernel
theorem dX12_aLine_36 : decode cX12_aLine 36 = .ok (.invokevirtual 232, 3) := by decide +kernel
theorem dX12_aLine_39 : decode cX12_aLine 39 = .ok (.aload_n 0, 1) := by decide +kernel
theorem dX12_aLine_40 : decode cX12_aLine 40 = .ok (.getfield 22, 3) := by decide +kernel
theorem dX12_aLine_43 : decode cX12_aLine 43 = .ok (.iconst 3, 1) := by decide +kernel
theorem dX12_aLine_44 : decode cX12_aLine 44 = .ok (.aload_n 0, 1) := by decide +kernel
theorem dX12_aLine_45 : decode cX12_aLine 45 = .ok (.getfield 270, 3) := by decide +kernel
theorem dX12_aLine_48 : decode cX12_aLine 48 = .ok (.imul, 1) := by decide +kernel
theorem dX12_aLine_49 : decode cX12_aLine 49 = .ok (.aload_n 0, 1) := by decide +kernel
theorem dX12_aLine_50 : decode cX12_aLine 50 = .ok (.getfield 235, 3) := by decide +kernel
theorem dX12_aLine_53 : decode cX12_aLine 53 = .ok (.iastore, 1) := by decide +kernel
theorem dX12_aLine_54 : decode cX12_aLine 54 = .ok (.aload_n 0, 1) := by decide +kernel
theorem dX12_aLine_55 : decode cX12_aLine 55 = .ok (.invokevirtual 267, 3) := by decide +kernel
theorem dX12_aLine_58 : decode cX12_aLine 58 = .ok (.ifCond .ne 5, 3) := by decide +kernel
theorem dX12_aLine_61 : decode cX12_aLine 61 = .ok (.iconst 0, 1) := by decide +kernel
theorem dX12_aLine_62 : decode cX12_aLine 62 = .ok (.ireturn, 1) := by decide +kernel
theorem dX12_aLine_63 : decode cX12_aLine 63 = .ok (.aload_n 0, 1) := by decide +kernel
theorem dX12_aLine_64 : decode cX12_aLine 64 = .ok (.getfield 22, 3) := by decide +kernel
theorem dX12_aLine_67 : decode cX12_aLine 67 = .ok (.iconst 3, 1) := by decide +kernel
theorem dX12_aLine_68 : decode cX12_aLine 68 = .ok (.aload_n 0, 1) := by decide +kernel
theorem dX12_aLine_69 : decode cX12_aLine 69 = .ok (.getfield 270, 3) := by decide +kernel
theorem dX12_aLine_72 : decode cX12_aLine 72 = .ok (.imul, 1) := by decide +kernel
theorem dX12_aLine_73 : decode cX12_aLine 73 = .ok (.iconst 1, 1) := by decide +kernel
theorem dX12_aLine_74 : decode cX12_aLine 74 = .ok (.iadd, 1) := by decide +kernel
theorem dX12_aLine_75 : decode cX12_aLine 75 = .ok (.aload_n 0, 1) := by decide +kernel
theorem dX12_aLine_76 : decode cX12_aLine 76 = .ok (.getfield 235, 3) := by decide +kernel
theorem dX12_aLine_79 : decode cX12_aLine 79 = .ok (.iastore, 1) := by decide +kernel
theorem dX12_aLine_80 : decode cX12_aLine 80 = .ok (.aload_n 0, 1) := by decide +kernel
theorem dX12_aLine_81 : decode cX12_aLine 81 = .ok (.getfield 208, 3) := by decide +kernel
theorem dX12_aLine_84 : decode cX12_aLine 84 = .ok (.iconst 3, 1) := by decide +kernel
theorem dX12_aLine_85 : decode cX12_aLine 85 = .ok (.if_icmp .ne 16, 3) := by decide +kernel
theorem dX12_aLine_88 : decode cX12_aLine 88 = .ok (.aload_n 0, 1) := by decide +kernel
theorem dX12_aLine_89 : decode cX12_aLine 89 = .ok (.invokevirtual 232, 3) := by decide +kernel
theorem dX12_aLine_92 : decode cX12_aLine 92 = .ok (.aload_n 0, 1) := by decide +kernel
theorem dX12_aLine_93 : decode cX12_aLine 93 = .ok (.invokevirtual 261, 3) := by decide +kernel
theorem dX12_aLine_96 : decode cX12_aLine 96 = .ok (.ifCond .ne 5, 3) := by decide +kernel
theorem dX12_aLine_99 : decode cX12_aLine 99 = .ok (.iconst 0, 1) := by decide +kernel
theorem dX12_aLine_100 : decode cX12_aLine 100 = .ok (.ireturn, 1) := by decide +kernel
theorem dX12_aLine_101 : decode cX12_aLine 101 = .ok (.aload_n 0, 1) := by decide +kernel
theorem dX12_aLine_102 : decode cX12_aLine 102 = .ok (.getfield 22, 3) := by decide +kernel
theorem dX12_aLine_105 : decode cX12_aLine 105 = .ok (.iconst 3, 1) := by decide +kernel
theorem dX12_aLine_106 : decode cX12_aLine 106 = .ok (.aload_n 0, 1) := by decide +kernel
theorem dX12_aLine_107 : decode cX12_aLine 107 = .ok (.getfield 270, 3) := by decide +kernel
theorem dX12_aLine_110 : decode cX12_aLine 110 = .ok (.imul, 1) := by decide +kernel
theorem dX12_aLine_111 : decode cX12_aLine 111 = .ok (.iconst 2, 1) := by decide +kernel
theorem dX12_aLine_112 : decode cX12_aLine 112 = .ok (.iadd, 1) := by decide +kernel
theorem dX12_aLine_113 : decode cX12_aLine 113 = .ok (.aload_n 0, 1) := by decide +kernel
theorem dX12_aLine_114 : decode cX12_aLine 114 = .ok (.getfield 235, 3) := by decide +kernel
theorem dX12_aLine_117 : decode cX12_aLine 117 = .ok (.iastore, 1) := by decide +kernel
theorem dX12_aLine_118 : decode cX12_aLine 118 = .ok (.aload_n 0, 1) := by decide +kernel
theorem dX12_aLine_119 : decode cX12_aLine 119 = .ok (.sipush 159, 3) := by decide +kernel
theorem dX12_aLine_122 : decode cX12_aLine 122 = .ok (.invokevirtual 264, 3) := by decide +kernel
theorem dX12_aLine_125 : decode cX12_aLine 125 = .ok (.ireturn, 1) := by decide +kernel
theorem dX12_readsLaw_0 : decode cX12_readsLaw 0 = .ok (.aload_n 0, 1) := by decide +kernel
theorem dX12_readsLaw_1 : decode cX12_readsLaw 1 = .ok (.iconst 0, 1) := by decide +kernel
theorem dX12_readsLaw_2 : decode cX12_readsLaw 2 = .ok (.putfield 270, 3) := by decide +kernel
theorem dX12_readsLaw_5 : decode cX12_readsLaw 5 = .ok (.aload_n 0, 1) := by decide +kernel
theorem dX12_readsLaw_6 : decode cX12_readsLaw 6 = .ok (.iconst 0, 1) := by decide +kernel
theorem dX12_readsLaw_7 : decode cX12_readsLaw 7 = .ok (.putfield 235, 3) := by decide +kernel
theorem dX12_readsLaw_10 : decode cX12_readsLaw 10 = .ok (.iconst 1, 1) := by decide +kernel
theorem dX12_readsLaw_11 : decode cX12_readsLaw 11 = .ok (.istore_n 1, 1) := by decide +kernel
theorem dX12_readsLaw_12 : decode cX12_readsLaw 12 = .ok (.iload_n 1, 1) := by decide +kernel
theorem dX12_readsLaw_13 : decode cX12_readsLaw 13 = .ok (.ifCond .eq 36, 3) := by decide +kernel
theorem dX12_readsLaw_16 : decode cX12_readsLaw 16 = .ok (.aload_n 0, 1) := by decide +kernel
theorem dX12_readsLaw_17 : decode cX12_readsLaw 17 = .ok (.getfield 208, 3) := by decide +kernel
theorem dX12_readsLaw_20 : decode cX12_readsLaw 20 = .ok (.ifCond .eq 29, 3) := by decide +kernel
theorem dX12_readsLaw_23 : decode cX12_readsLaw 23 = .ok (.aload_n 0, 1) := by decide +kernel
theorem dX12_readsLaw_24 : decode cX12_readsLaw 24 = .ok (.invokevirtual 273, 3) := by decide +kernel
theorem dX12_readsLaw_27 : decode cX12_readsLaw 27 = .ok (.istore_n 1, 1) := by decide +kernel
theorem dX12_readsLaw_28 : decode cX12_readsLaw 28 = .ok (.aload_n 0, 1) := by decide +kernel
theorem dX12_readsLaw_29 : decode cX12_readsLaw 29 = .ok (.dup, 1) := by decide +kernel
theorem dX12_readsLaw_30 : decode cX12_readsLaw 30 = .ok (.getfield 270, 3) := by decide +kernel
theorem dX12_readsLaw_33 : decode cX12_readsLaw 33 = .ok (.iload_n 1, 1) := by decide +kernel
theorem dX12_readsLaw_34 : decode cX12_readsLaw 34 = .ok (.ifCond .eq 7, 3) := by decide +kernel
theorem dX12_readsLaw_37 : decode cX12_readsLaw 37 = .ok (.iconst 1, 1) := by decide +kernel
theorem dX12_readsLaw_38 : decode cX12_readsLaw 38 = .ok (.goto 4, 3) := by decide +kernel
theorem dX12_readsLaw_41 : decode cX12_readsLaw 41 = .ok (.iconst 0, 1) := by decide +kernel
theorem dX12_readsLaw_42 : decode cX12_readsLaw 42 = .ok (.iadd, 1) := by decide +kernel
theorem dX12_readsLaw_43 : decode cX12_readsLaw 43 = .ok (.putfield 270, 3) := by decide +kernel
theorem dX12_readsLaw_46 : decode cX12_readsLaw 46 = .ok (.goto (-34), 3) := by decide +kernel
theorem dX12_readsLaw_49 : decode cX12_readsLaw 49 = .ok (.iload_n 1, 1) := by decide +kernel
theorem dX12_readsLaw_50 : decode cX12_readsLaw 50 = .ok (.ireturn, 1) := by decide +kernel
theorem dX12_number_0 : decode cX12_number 0 = .ok (.aload_n 0, 1) := by decide +kernel
theorem dX12_number_1 : decode cX12_number 1 = .ok (.getfield 208, 3) := by decide +kernel
theorem dX12_number_4 : decode cX12_number 4 = .ok (.iconst 2, 1) := by decide +kernel
theorem dX12_number_5 : decode cX12_number 5 = .ok (.if_icmp .eq 9, 3) := by decide +kernel
theorem dX12_number_8 : decode cX12_number 8 = .ok (.aload_n 0, 1) := by decide +kernel
theorem dX12_number_9 : decode cX12_number 9 = .ok (.iconst 1, 1) := by decide +kernel
theorem dX12_number_10 : decode cX12_number 10 = .ok (.invokevirtual 229, 3) := by decide +kernel
theorem dX12_number_13 : decode cX12_number 13 = .ok (.ireturn, 1) := by decide +kernel
theorem dX12_number_14 : decode cX12_number 14 = .ok (.aload_n 0, 1) := by decide +kernel
theorem dX12_number_15 : decode cX12_number 15 = .ok (.getfield 220, 3) := by decide +kernel
theorem dX12_number_18 : decode cX12_number 18 = .ok (.iload_n 1, 1) := by decide +kernel
theorem dX12_number_19 : decode cX12_number 19 = .ok (.iload_n 2, 1) := by decide +kernel
theorem dX12_number_20 : decode cX12_number 20 = .ok (.invokestatic 74, 3) := by decide +kernel
theorem dX12_number_23 : decode cX12_number 23 = .ok (.ifCond .ne 9, 3) := by decide +kernel
theorem dX12_number_26 : decode cX12_number 26 = .ok (.aload_n 0, 1) := by decide +kernel
theorem dX12_number_27 : decode cX12_number 27 = .ok (.iconst 2, 1) := by decide +kernel
theorem dX12_number_28 : decode cX12_number 28 = .ok (.invokevirtual 229, 3) := by decide +kernel
theorem dX12_number_31 : decode cX12_number 31 = .ok (.ireturn, 1) := by decide +kernel
theorem dX12_number_32 : decode cX12_number 32 = .ok (.aload_n 0, 1) := by decide +kernel
theorem dX12_number_33 : decode cX12_number 33 = .ok (.aload_n 0, 1) := by decide +kernel
theorem dX12_number_34 : decode cX12_number 34 = .ok (.getfield 220, 3) := by decide +kernel
theorem dX12_number_37 : decode cX12_number 37 = .ok (.putfield 276, 3) := by decide +kernel
theorem dX12_number_40 : decode cX12_number 40 = .ok (.aload_n 0, 1) := by decide +kernel
theorem dX12_number_41 : decode cX12_number 41 = .ok (.invokevirtual 232, 3) := by decide +kernel
theorem dX12_number_44 : decode cX12_number 44 = .ok (.iconst 1, 1) := by decide +kernel
theorem dX12_number_45 : decode cX12_number 45 = .ok (.ireturn, 1) := by decide +kernel
theorem dX12_tells_0 : decode cX12_tells 0 = .ok (.aload_n 0, 1) := by decide +kernel
theorem dX12_tells_1 : decode cX12_tells 1 = .ok (.getfield 279, 3) := by decide +kernel
theorem dX12_tells_4 : decode cX12_tells 4 = .ok (.sipush 150, 3) := by decide +kernel
theorem dX12_tells_7 : decode cX12_tells 7 = .ok (.if_icmp .ge 43, 3) := by decide +kernel
theorem dX12_tells_10 : decode cX12_tells 10 = .ok (.aload_n 0, 1) := by decide +kernel
theorem dX12_tells_11 : decode cX12_tells 11 = .ok (.getfield 28, 3) := by decide +kernel
theorem dX12_tells_14 : decode cX12_tells 14 = .ok (.iconst 3, 1) := by decide +kernel
theorem dX12_tells_15 : decode cX12_tells 15 = .ok (.aload_n 0, 1) := by decide +kernel
theorem dX12_tells_16 : decode cX12_tells 16 = .ok (.getfield 279, 3) := by decide +kernel
theorem dX12_tells_19 : decode cX12_tells 19 = .ok (.imul, 1) := by decide +kernel
theorem dX12_tells_20 : decode cX12_tells 20 = .ok (.iload_n 1, 1) := by decide +kernel
theorem dX12_tells_21 : decode cX12_tells 21 = .ok (.iastore, 1) := by decide +kernel
theorem dX12_tells_22 : decode cX12_tells 22 = .ok (.aload_n 0, 1) := by decide +kernel
theorem dX12_tells_23 : decode cX12_tells 23 = .ok (.getfield 28, 3) := by decide +kernel
theorem dX12_tells_26 : decode cX12_tells 26 = .ok (.iconst 3, 1) := by decide +kernel
theorem dX12_tells_27 : decode cX12_tells 27 = .ok (.aload_n 0, 1) := by decide +kernel
theorem dX12_tells_28 : decode cX12_tells 28 = .ok (.getfield 279, 3) := by decide +kernel
theorem dX12_tells_31 : decode cX12_tells 31 = .ok (.imul, 1) := by decide +kernel
theorem dX12_tells_32 : decode cX12_tells 32 = .ok (.iconst 1, 1) := by decide +kernel
theorem dX12_tells_33 : decode cX12_tells 33 = .ok (.iadd, 1) := by decide +kernel
theorem dX12_tells_34 : decode cX12_tells 34 = .ok (.iload_n 2, 1) := by decide +kernel
theorem dX12_tells_35 : decode cX12_tells 35 = .ok (.iastore, 1) := by decide +kernel
theorem dX12_tells_36 : decode cX12_tells 36 = .ok (.aload_n 0, 1) := by decide +kernel
theorem dX12_tells_37 : decode cX12_tells 37 = .ok (.getfield 28, 3) := by decide +kernel
theorem dX12_tells_40 : decode cX12_tells 40 = .ok (.iconst 3, 1) := by decide +kernel
theorem dX12_tells_41 : decode cX12_tells 41 = .ok (.aload_n 0, 1) := by decide +kernel
theorem dX12_tells_42 : decode cX12_tells 42 = .ok (.getfield 279, 3) := by decide +kernel
theorem dX12_tells_45 : decode cX12_tells 45 = .ok (.imul, 1) := by decide +kernel
theorem dX12_tells_46 : decode cX12_tells 46 = .ok (.iconst 2, 1) := by decide +kernel
theorem dX12_tells_47 : decode cX12_tells 47 = .ok (.iadd, 1) := by decide +kernel
theorem dX12_tells_48 : decode cX12_tells 48 = .ok (.iload_n 3, 1) := by decide +kernel
theorem dX12_tells_49 : decode cX12_tells 49 = .ok (.iastore, 1) := by decide +kernel
theorem dX12_tells_50 : decode cX12_tells 50 = .ok (.aload_n 0, 1) := by decide +kernel
theorem dX12_tells_51 : decode cX12_tells 51 = .ok (.dup, 1) := by decide +kernel
theorem dX12_tells_52 : decode cX12_tells 52 = .ok (.getfield 279, 3) := by decide +kernel
theorem dX12_tells_55 : decode cX12_tells 55 = .ok (.iconst 1, 1) := by decide +kernel
theorem dX12_tells_56 : decode cX12_tells 56 = .ok (.iadd, 1) := by decide +kernel
theorem dX12_tells_57 : decode cX12_tells 57 = .ok (.putfield 279, 3) := by decide +kernel
theorem dX12_tells_60 : decode cX12_tells 60 = .ok (.return_, 1) := by decide +kernel
theorem dX12_greatestOf_0 : decode cX12_greatestOf 0 = .ok (.iload_n 0, 1) := by decide +kernel
theorem dX12_greatestOf_1 : decode cX12_greatestOf 1 = .ok (.tableswitch 42 10 13 #[31, 33, 36, 39], 31) := by decide +kernel
theorem dX12_greatestOf_32 : decode cX12_greatestOf 32 = .ok (.iconst 5, 1) := by decide +kernel
theorem dX12_greatestOf_33 : decode cX12_greatestOf 33 = .ok (.ireturn, 1) := by decide +kernel
theorem dX12_greatestOf_34 : decode cX12_greatestOf 34 = .ok (.bipush 23, 2) := by decide +kernel
theorem dX12_greatestOf_36 : decode cX12_greatestOf 36 = .ok (.ireturn, 1) := by decide +kernel
theorem dX12_greatestOf_37 : decode cX12_greatestOf 37 = .ok (.bipush 99, 2) := by decide +kernel
theorem dX12_greatestOf_39 : decode cX12_greatestOf 39 = .ok (.ireturn, 1) := by decide +kernel
theorem dX12_greatestOf_40 : decode cX12_greatestOf 40 = .ok (.bipush 9, 2) := by decide +kernel
theorem dX12_greatestOf_42 : decode cX12_greatestOf 42 = .ok (.ireturn, 1) := by decide +kernel
theorem dX12_greatestOf_43 : decode cX12_greatestOf 43 = .ok (.bipush 30, 2) := by decide +kernel
theorem dX12_greatestOf_45 : decode cX12_greatestOf 45 = .ok (.ireturn, 1) := by decide +kernel
theorem dX12_aStep_0 : decode cX12_aStep 0 = .ok (.aload_n 0, 1) := by decide +kernel
theorem dX12_aStep_1 : decode cX12_aStep 1 = .ok (.getfield 208, 3) := by decide +kernel
theorem dX12_aStep_4 : decode cX12_aStep 4 = .ok (.istore_n 1, 1) := by decide +kernel
theorem dX12_aStep_5 : decode cX12_aStep 5 = .ok (.aload_n 0, 1) := by decide +kernel
theorem dX12_aStep_6 : decode cX12_aStep 6 = .ok (.invokevirtual 232, 3) := by decide +kernel
theorem dX12_aStep_9 : decode cX12_aStep 9 = .ok (.aload_n 0, 1) := by decide +kernel
theorem dX12_aStep_10 : decode cX12_aStep 10 = .ok (.iload_n 1, 1) := by decide +kernel
theorem dX12_aStep_11 : decode cX12_aStep 11 = .ok (.bipush 14, 2) := by decide +kernel
theorem dX12_aStep_13 : decode cX12_aStep 13 = .ok (.if_icmp .ne 7, 3) := by decide +kernel
theorem dX12_aStep_16 : decode cX12_aStep 16 = .ok (.iconst 1, 1) := by decide +kernel
theorem dX12_aStep_17 : decode cX12_aStep 17 = .ok (.goto 4, 3) := by decide +kernel
theorem dX12_aStep_20 : decode cX12_aStep 20 = .ok (.iconst 0, 1) := by decide +kernel
theorem dX12_aStep_21 : decode cX12_aStep 21 = .ok (.iload_n 1, 1) := by decide +kernel
theorem dX12_aStep_22 : decode cX12_aStep 22 = .ok (.invokestatic 282, 3) := by decide +kernel
theorem dX12_aStep_25 : decode cX12_aStep 25 = .ok (.invokevirtual 285, 3) := by decide +kernel
theorem dX12_aStep_28 : decode cX12_aStep 28 = .ok (.ifCond .ne 5, 3) := by decide +kernel
theorem dX12_aStep_31 : decode cX12_aStep 31 = .ok (.iconst 0, 1) := by decide +kernel
theorem dX12_aStep_32 : decode cX12_aStep 32 = .ok (.ireturn, 1) := by decide +kernel
theorem dX12_aStep_33 : decode cX12_aStep 33 = .ok (.aload_n 0, 1) := by decide +kernel
theorem dX12_aStep_34 : decode cX12_aStep 34 = .ok (.getfield 276, 3) := by decide +kernel
theorem dX12_aStep_37 : decode cX12_aStep 37 = .ok (.istore_n 2, 1) := by decide +kernel
theorem dX12_aStep_38 : decode cX12_aStep 38 = .ok (.aload_n 0, 1) := by decide +kernel
theorem dX12_aStep_39 : decode cX12_aStep 39 = .ok (.iconst 0, 1) := by decide +kernel
theorem dX12_aStep_40 : decode cX12_aStep 40 = .ok (.putfield 276, 3) := by decide +kernel
theorem dX12_aStep_43 : decode cX12_aStep 43 = .ok (.iload_n 1, 1) := by decide +kernel
theorem dX12_aStep_44 : decode cX12_aStep 44 = .ok (.bipush 10, 2) := by decide +kernel
theorem dX12_aStep_46 : decode cX12_aStep 46 = .ok (.if_icmp .ne 24, 3) := by decide +kernel
theorem dX12_aStep_49 : decode cX12_aStep 49 = .ok (.aload_n 0, 1) := by decide +kernel
theorem dX12_aStep_50 : decode cX12_aStep 50 = .ok (.bipush 16, 2) := by decide +kernel
theorem dX12_aStep_52 : decode cX12_aStep 52 = .ok (.invokevirtual 264, 3) := by decide +kernel
theorem dX12_aStep_55 : decode cX12_aStep 55 = .ok (.ifCond .eq 13, 3) := by decide +kernel
theorem dX12_aStep_58 : decode cX12_aStep 58 = .ok (.aload_n 0, 1) := by decide +kernel
theorem dX12_aStep_59 : decode cX12_aStep 59 = .ok (.iconst 0, 1) := by decide +kernel
theorem dX12_aStep_60 : decode cX12_aStep 60 = .ok (.bipush 23, 2) := by decide +kernel
theorem dX12_aStep_62 : decode cX12_aStep 62 = .ok (.invokevirtual 285, 3) := by decide +kernel
theorem dX12_aStep_65 : decode cX12_aStep 65 = .ok (.ifCond .ne 5, 3) := by decide +kernel
theorem dX12_aStep_68 : decode cX12_aStep 68 = .ok (.iconst 0, 1) := by decide +kernel
theorem dX12_aStep_69 : decode cX12_aStep 69 = .ok (.ireturn, 1) := by decide +kernel
theorem dX12_aStep_70 : decode cX12_aStep 70 = .ok (.aload_n 0, 1) := by decide +kernel
theorem dX12_aStep_71 : decode cX12_aStep 71 = .ok (.getfield 276, 3) := by decide +kernel
theorem dX12_aStep_74 : decode cX12_aStep 74 = .ok (.istore_n 3, 1) := by decide +kernel
theorem dX12_aStep_75 : decode cX12_aStep 75 = .ok (.aload_n 0, 1) := by decide +kernel
theorem dX12_aStep_76 : decode cX12_aStep 76 = .ok (.sipush 159, 3) := by decide +kernel
theorem dX12_aStep_79 : decode cX12_aStep 79 = .ok (.invokevirtual 264, 3) := by decide +kernel
theorem dX12_aStep_82 : decode cX12_aStep 82 = .ok (.ifCond .ne 5, 3) := by decide +kernel
theorem dX12_aStep_85 : decode cX12_aStep 85 = .ok (.iconst 0, 1) := by decide +kernel
theorem dX12_aStep_86 : decode cX12_aStep 86 = .ok (.ireturn, 1) := by decide +kernel
theorem dX12_aStep_87 : decode cX12_aStep 87 = .ok (.aload_n 0, 1) := by decide +kernel
theorem dX12_aStep_88 : decode cX12_aStep 88 = .ok (.iload_n 1, 1) := by decide +kernel
theorem dX12_aStep_89 : decode cX12_aStep 89 = .ok (.iload_n 2, 1) := by decide +kernel
theorem dX12_aStep_90 : decode cX12_aStep 90 = .ok (.iload_n 3, 1) := by decide +kernel
theorem dX12_aStep_91 : decode cX12_aStep 91 = .ok (.invokevirtual 289, 3) := by decide +kernel
theorem dX12_aStep_94 : decode cX12_aStep 94 = .ok (.iconst 1, 1) := by decide +kernel
theorem dX12_aStep_95 : decode cX12_aStep 95 = .ok (.ireturn, 1) := by decide +kernel
theorem dX12_someAgain_0 : decode cX12_someAgain 0 = .ok (.iload_n 1, 1) := by decide +kernel
theorem dX12_someAgain_1 : decode cX12_someAgain 1 = .ok (.iconst 4, 1) := by decide +kernel
theorem dX12_someAgain_2 : decode cX12_someAgain 2 = .ok (.if_icmp .ne 9, 3) := by decide +kernel
theorem dX12_someAgain_5 : decode cX12_someAgain 5 = .ok (.aload_n 0, 1) := by decide +kernel
theorem dX12_someAgain_6 : decode cX12_someAgain 6 = .ok (.iconst 3, 1) := by decide +kernel
theorem dX12_someAgain_7 : decode cX12_someAgain 7 = .ok (.invokevirtual 229, 3) := by decide +kernel
theorem dX12_someAgain_10 : decode cX12_someAgain 10 = .ok (.ireturn, 1) := by decide +kernel
theorem dX12_someAgain_11 : decode cX12_someAgain 11 = .ok (.aload_n 0, 1) := by decide +kernel
theorem dX12_someAgain_12 : decode cX12_someAgain 12 = .ok (.invokevirtual 232, 3) := by decide +kernel
theorem dX12_someAgain_15 : decode cX12_someAgain 15 = .ok (.aload_n 0, 1) := by decide +kernel
theorem dX12_someAgain_16 : decode cX12_someAgain 16 = .ok (.iconst 1, 1) := by decide +kernel
theorem dX12_someAgain_17 : decode cX12_someAgain 17 = .ok (.bipush 9, 2) := by decide +kernel
theorem dX12_someAgain_19 : decode cX12_someAgain 19 = .ok (.invokevirtual 285, 3) := by decide +kernel
theorem dX12_someAgain_22 : decode cX12_someAgain 22 = .ok (.ifCond .ne 5, 3) := by decide +kernel
theorem dX12_someAgain_25 : decode cX12_someAgain 25 = .ok (.iconst 0, 1) := by decide +kernel
theorem dX12_someAgain_26 : decode cX12_someAgain 26 = .ok (.ireturn, 1) := by decide +kernel
theorem dX12_someAgain_27 : decode cX12_someAgain 27 = .ok (.aload_n 0, 1) := by decide +kernel
theorem dX12_someAgain_28 : decode cX12_someAgain 28 = .ok (.getfield 276, 3) := by decide +kernel
theorem dX12_someAgain_31 : decode cX12_someAgain 31 = .ok (.istore_n 2, 1) := by decide +kernel
theorem dX12_someAgain_32 : decode cX12_someAgain 32 = .ok (.aload_n 0, 1) := by decide +kernel
theorem dX12_someAgain_33 : decode cX12_someAgain 33 = .ok (.sipush 140, 3) := by decide +kernel
theorem dX12_someAgain_36 : decode cX12_someAgain 36 = .ok (.invokevirtual 264, 3) := by decide +kernel
theorem dX12_someAgain_39 : decode cX12_someAgain 39 = .ok (.ifCond .ne 5, 3) := by decide +kernel
theorem dX12_someAgain_42 : decode cX12_someAgain 42 = .ok (.iconst 0, 1) := by decide +kernel
theorem dX12_someAgain_43 : decode cX12_someAgain 43 = .ok (.ireturn, 1) := by decide +kernel
theorem dX12_someAgain_44 : decode cX12_someAgain 44 = .ok (.aload_n 0, 1) := by decide +kernel
theorem dX12_someAgain_45 : decode cX12_someAgain 45 = .ok (.getfield 279, 3) := by decide +kernel
theorem dX12_someAgain_48 : decode cX12_someAgain 48 = .ok (.istore_n 3, 1) := by decide +kernel
theorem dX12_someAgain_49 : decode cX12_someAgain 49 = .ok (.aload_n 0, 1) := by decide +kernel
theorem dX12_someAgain_50 : decode cX12_someAgain 50 = .ok (.iload_n 1, 1) := by decide +kernel
theorem dX12_someAgain_51 : decode cX12_someAgain 51 = .ok (.iconst 1, 1) := by decide +kernel
theorem dX12_someAgain_52 : decode cX12_someAgain 52 = .ok (.iadd, 1) := by decide +kernel
theorem dX12_someAgain_53 : decode cX12_someAgain 53 = .ok (.invokevirtual 292, 3) := by decide +kernel
theorem dX12_someAgain_56 : decode cX12_someAgain 56 = .ok (.ifCond .eq 13, 3) := by decide +kernel
theorem dX12_someAgain_59 : decode cX12_someAgain 59 = .ok (.aload_n 0, 1) := by decide +kernel
theorem dX12_someAgain_60 : decode cX12_someAgain 60 = .ok (.sipush 141, 3) := by decide +kernel
theorem dX12_someAgain_63 : decode cX12_someAgain 63 = .ok (.invokevirtual 264, 3) := by decide +kernel
theorem dX12_someAgain_66 : decode cX12_someAgain 66 = .ok (.ifCond .ne 5, 3) := by decide +kernel
theorem dX12_someAgain_69 : decode cX12_someAgain 69 = .ok (.iconst 0, 1) := by decide +kernel
theorem dX12_someAgain_70 : decode cX12_someAgain 70 = .ok (.ireturn, 1) := by decide +kernel
theorem dX12_someAgain_71 : decode cX12_someAgain 71 = .ok (.aload_n 0, 1) := by decide +kernel
theorem dX12_someAgain_72 : decode cX12_someAgain 72 = .ok (.getfield 279, 3) := by decide +kernel
theorem dX12_someAgain_75 : decode cX12_someAgain 75 = .ok (.iload_n 3, 1) := by decide +kernel
theorem dX12_someAgain_76 : decode cX12_someAgain 76 = .ok (.isub, 1) := by decide +kernel
theorem dX12_someAgain_77 : decode cX12_someAgain 77 = .ok (.iload_n 2, 1) := by decide +kernel
theorem dX12_someAgain_78 : decode cX12_someAgain 78 = .ok (.iconst 1, 1) := by decide +kernel
theorem dX12_someAgain_79 : decode cX12_someAgain 79 = .ok (.isub, 1) := by decide +kernel
theorem dX12_someAgain_80 : decode cX12_someAgain 80 = .ok (.imul, 1) := by decide +kernel
theorem dX12_someAgain_81 : decode cX12_someAgain 81 = .ok (.istore 4, 2) := by decide +kernel
theorem dX12_someAgain_83 : decode cX12_someAgain 83 = .ok (.iconst 0, 1) := by decide +kernel
theorem dX12_someAgain_84 : decode cX12_someAgain 84 = .ok (.istore 5, 2) := by decide +kernel
theorem dX12_someAgain_86 : decode cX12_someAgain 86 = .ok (.iload 5, 2) := by decide +kernel
theorem dX12_someAgain_88 : decode cX12_someAgain 88 = .ok (.iload 4, 2) := by decide +kernel
theorem dX12_someAgain_90 : decode cX12_someAgain 90 = .ok (.if_icmp .ge 69, 3) := by decide +kernel
theorem dX12_someAgain_93 : decode cX12_someAgain 93 = .ok (.iconst 3, 1) := by decide +kernel
theorem dX12_someAgain_94 : decode cX12_someAgain 94 = .ok (.iload_n 3, 1) := by decide +kernel
theorem dX12_someAgain_95 : decode cX12_someAgain 95 = .ok (.iload 5, 2) := by decide +kernel
theorem dX12_someAgain_97 : decode cX12_someAgain 97 = .ok (.iadd, 1) := by decide +kernel
theorem dX12_someAgain_98 : decode cX12_someAgain 98 = .ok (.imul, 1) := by decide +kernel
theorem dX12_someAgain_99 : decode cX12_someAgain 99 = .ok (.istore 6, 2) := by decide +kernel
theorem dX12_someAgain_101 : decode cX12_someAgain 101 = .ok (.aload_n 0, 1) := by decide +kernel
theorem dX12_someAgain_102 : decode cX12_someAgain 102 = .ok (.getfield 279, 3) := by decide +kernel
theorem dX12_someAgain_105 : decode cX12_someAgain 105 = .ok (.sipush 150, 3) := by decide +kernel
theorem dX12_someAgain_108 : decode cX12_someAgain 108 = .ok (.if_icmp .ge 35, 3) := by decide +kernel
theorem dX12_someAgain_111 : decode cX12_someAgain 111 = .ok (.aload_n 0, 1) := by decide +kernel
theorem dX12_someAgain_112 : decode cX12_someAgain 112 = .ok (.aload_n 0, 1) := by decide +kernel
theorem dX12_someAgain_113 : decode cX12_someAgain 113 = .ok (.getfield 28, 3) := by decide +kernel
theorem dX12_someAgain_116 : decode cX12_someAgain 116 = .ok (.iload 6, 2) := by decide +kernel
theorem dX12_someAgain_118 : decode cX12_someAgain 118 = .ok (.iaload, 1) := by decide +kernel
theorem dX12_someAgain_119 : decode cX12_someAgain 119 = .ok (.aload_n 0, 1) := by decide +kernel
theorem dX12_someAgain_120 : decode cX12_someAgain 120 = .ok (.getfield 28, 3) := by decide +kernel
theorem dX12_someAgain_123 : decode cX12_someAgain 123 = .ok (.iload 6, 2) := by decide +kernel
theorem dX12_someAgain_125 : decode cX12_someAgain 125 = .ok (.iconst 1, 1) := by decide +kernel
theorem dX12_someAgain_126 : decode cX12_someAgain 126 = .ok (.iadd, 1) := by decide +kernel
theorem dX12_someAgain_127 : decode cX12_someAgain 127 = .ok (.iaload, 1) := by decide +kernel
theorem dX12_someAgain_128 : decode cX12_someAgain 128 = .ok (.aload_n 0, 1) := by decide +kernel
theorem dX12_someAgain_129 : decode cX12_someAgain 129 = .ok (.getfield 28, 3) := by decide +kernel
theorem dX12_someAgain_132 : decode cX12_someAgain 132 = .ok (.iload 6, 2) := by decide +kernel
theorem dX12_someAgain_134 : decode cX12_someAgain 134 = .ok (.iconst 2, 1) := by decide +kernel
theorem dX12_someAgain_135 : decode cX12_someAgain 135 = .ok (.iadd, 1) := by decide +kernel
theorem dX12_someAgain_136 : decode cX12_someAgain 136 = .ok (.iaload, 1) := by decide +kernel
theorem dX12_someAgain_137 : decode cX12_someAgain 137 = .ok (.invokevirtual 289, 3) := by decide +kernel
theorem dX12_someAgain_140 : decode cX12_someAgain 140 = .ok (.goto 13, 3) := by decide +kernel
theorem dX12_someAgain_143 : decode cX12_someAgain 143 = .ok (.aload_n 0, 1) := by decide +kernel
theorem dX12_someAgain_144 : decode cX12_someAgain 144 = .ok (.dup, 1) := by decide +kernel
theorem dX12_someAgain_145 : decode cX12_someAgain 145 = .ok (.getfield 279, 3) := by decide +kernel
theorem dX12_someAgain_148 : decode cX12_someAgain 148 = .ok (.iconst 1, 1) := by decide +kernel
theorem dX12_someAgain_149 : decode cX12_someAgain 149 = .ok (.iadd, 1) := by decide +kernel
theorem dX12_someAgain_150 : decode cX12_someAgain 150 = .ok (.putfield 279, 3) := by decide +kernel
theorem dX12_someAgain_153 : decode cX12_someAgain 153 = .ok (.iinc 5 1, 3) := by decide +kernel
theorem dX12_someAgain_156 : decode cX12_someAgain 156 = .ok (.goto (-70), 3) := by decide +kernel
theorem dX12_someAgain_159 : decode cX12_someAgain 159 = .ok (.iconst 1, 1) := by decide +kernel
theorem dX12_someAgain_160 : decode cX12_someAgain 160 = .ok (.ireturn, 1) := by decide +kernel
theorem dX12_someSteps_0 : decode cX12_someSteps 0 = .ok (.iconst 1, 1) := by decide +kernel
theorem dX12_someSteps_1 : decode cX12_someSteps 1 = .ok (.istore_n 2, 1) := by decide +kernel
theorem dX12_someSteps_2 : decode cX12_someSteps 2 = .ok (.iload_n 2, 1) := by decide +kernel
theorem dX12_someSteps_3 : decode cX12_someSteps 3 = .ok (.ifCond .eq 42, 3) := by decide +kernel
theorem dX12_someSteps_6 : decode cX12_someSteps 6 = .ok (.aload_n 0, 1) := by decide +kernel
theorem dX12_someSteps_7 : decode cX12_someSteps 7 = .ok (.getfield 208, 3) := by decide +kernel
theorem dX12_someSteps_10 : decode cX12_someSteps 10 = .ok (.bipush 10, 2) := by decide +kernel
theorem dX12_someSteps_12 : decode cX12_someSteps 12 = .ok (.bipush 15, 2) := by decide +kernel
theorem dX12_someSteps_14 : decode cX12_someSteps 14 = .ok (.invokestatic 74, 3) := by decide +kernel
theorem dX12_someSteps_17 : decode cX12_someSteps 17 = .ok (.ifCond .eq 28, 3) := by decide +kernel
theorem dX12_someSteps_20 : decode cX12_someSteps 20 = .ok (.aload_n 0, 1) := by decide +kernel
theorem dX12_someSteps_21 : decode cX12_someSteps 21 = .ok (.getfield 208, 3) := by decide +kernel
theorem dX12_someSteps_24 : decode cX12_someSteps 24 = .ok (.bipush 15, 2) := by decide +kernel
theorem dX12_someSteps_26 : decode cX12_someSteps 26 = .ok (.if_icmp .ne 11, 3) := by decide +kernel
theorem dX12_someSteps_29 : decode cX12_someSteps 29 = .ok (.aload_n 0, 1) := by decide +kernel
theorem dX12_someSteps_30 : decode cX12_someSteps 30 = .ok (.iload_n 1, 1) := by decide +kernel
theorem dX12_someSteps_31 : decode cX12_someSteps 31 = .ok (.invokevirtual 295, 3) := by decide +kernel
theorem dX12_someSteps_34 : decode cX12_someSteps 34 = .ok (.goto 7, 3) := by decide +kernel
theorem dX12_someSteps_37 : decode cX12_someSteps 37 = .ok (.aload_n 0, 1) := by decide +kernel
theorem dX12_someSteps_38 : decode cX12_someSteps 38 = .ok (.invokevirtual 298, 3) := by decide +kernel
theorem dX12_someSteps_41 : decode cX12_someSteps 41 = .ok (.istore_n 2, 1) := by decide +kernel
theorem dX12_someSteps_42 : decode cX12_someSteps 42 = .ok (.goto (-40), 3) := by decide +kernel
theorem dX12_someSteps_45 : decode cX12_someSteps 45 = .ok (.iload_n 2, 1) := by decide +kernel
theorem dX12_someSteps_46 : decode cX12_someSteps 46 = .ok (.ireturn, 1) := by decide +kernel
theorem dX12_readsDrill_0 : decode cX12_readsDrill 0 = .ok (.aload_n 0, 1) := by decide +kernel
theorem dX12_readsDrill_1 : decode cX12_readsDrill 1 = .ok (.iconst 0, 1) := by decide +kernel
theorem dX12_readsDrill_2 : decode cX12_readsDrill 2 = .ok (.putfield 279, 3) := by decide +kernel
theorem dX12_readsDrill_5 : decode cX12_readsDrill 5 = .ok (.aload_n 0, 1) := by decide +kernel
theorem dX12_readsDrill_6 : decode cX12_readsDrill 6 = .ok (.iconst 0, 1) := by decide +kernel
theorem dX12_readsDrill_7 : decode cX12_readsDrill 7 = .ok (.invokevirtual 292, 3) := by decide +kernel
theorem dX12_readsDrill_10 : decode cX12_readsDrill 10 = .ok (.ifCond .ne 5, 3) := by decide +kernel
theorem dX12_readsDrill_13 : decode cX12_readsDrill 13 = .ok (.iconst 0, 1) := by decide +kernel
theorem dX12_readsDrill_14 : decode cX12_readsDrill 14 = .ok (.ireturn, 1) := by decide +kernel
theorem dX12_readsDrill_15 : decode cX12_readsDrill 15 = .ok (.aload_n 0, 1) := by decide +kernel
theorem dX12_readsDrill_16 : decode cX12_readsDrill 16 = .ok (.getfield 208, 3) := by decide +kernel
theorem dX12_readsDrill_19 : decode cX12_readsDrill 19 = .ok (.ifCond .eq 9, 3) := by decide +kernel
theorem dX12_readsDrill_22 : decode cX12_readsDrill 22 = .ok (.aload_n 0, 1) := by decide +kernel
theorem dX12_readsDrill_23 : decode cX12_readsDrill 23 = .ok (.iconst 1, 1) := by decide +kernel
theorem dX12_readsDrill_24 : decode cX12_readsDrill 24 = .ok (.invokevirtual 229, 3) := by decide +kernel
theorem dX12_readsDrill_27 : decode cX12_readsDrill 27 = .ok (.ireturn, 1) := by decide +kernel
theorem dX12_readsDrill_28 : decode cX12_readsDrill 28 = .ok (.aload_n 0, 1) := by decide +kernel
theorem dX12_readsDrill_29 : decode cX12_readsDrill 29 = .ok (.getfield 279, 3) := by decide +kernel
theorem dX12_readsDrill_32 : decode cX12_readsDrill 32 = .ok (.sipush 150, 3) := by decide +kernel
theorem dX12_readsDrill_35 : decode cX12_readsDrill 35 = .ok (.if_icmp .le 11, 3) := by decide +kernel
theorem dX12_readsDrill_38 : decode cX12_readsDrill 38 = .ok (.aload_n 0, 1) := by decide +kernel
theorem dX12_readsDrill_39 : decode cX12_readsDrill 39 = .ok (.iconst 4, 1) := by decide +kernel
theorem dX12_readsDrill_40 : decode cX12_readsDrill 40 = .ok (.invokevirtual 229, 3) := by decide +kernel
theorem dX12_readsDrill_43 : decode cX12_readsDrill 43 = .ok (.ifCond .eq 7, 3) := by decide +kernel
theorem dX12_readsDrill_46 : decode cX12_readsDrill 46 = .ok (.iconst 1, 1) := by decide +kernel
theorem dX12_readsDrill_47 : decode cX12_readsDrill 47 = .ok (.goto 4, 3) := by decide +kernel
theorem dX12_readsDrill_50 : decode cX12_readsDrill 50 = .ok (.iconst 0, 1) := by decide +kernel
theorem dX12_readsDrill_51 : decode cX12_readsDrill 51 = .ok (.ireturn, 1) := by decide +kernel
theorem dX12_wrongHere_0 : decode cX12_wrongHere 0 = .ok (.aload_n 0, 1) := by decide +kernel
theorem dX12_wrongHere_1 : decode cX12_wrongHere 1 = .ok (.iload_n 1, 1) := by decide +kernel
theorem dX12_wrongHere_2 : decode cX12_wrongHere 2 = .ok (.putfield 223, 3) := by decide +kernel
theorem dX12_wrongHere_5 : decode cX12_wrongHere 5 = .ok (.aload_n 0, 1) := by decide +kernel
theorem dX12_wrongHere_6 : decode cX12_wrongHere 6 = .ok (.iload_n 2, 1) := by decide +kernel
theorem dX12_wrongHere_7 : decode cX12_wrongHere 7 = .ok (.putfield 226, 3) := by decide +kernel
theorem dX12_wrongHere_10 : decode cX12_wrongHere 10 = .ok (.iconst 0, 1) := by decide +kernel
theorem dX12_wrongHere_11 : decode cX12_wrongHere 11 = .ok (.ireturn, 1) := by decide +kernel
theorem dX12_readsShape_0 : decode cX12_readsShape 0 = .ok (.aload_n 0, 1) := by decide +kernel
theorem dX12_readsShape_1 : decode cX12_readsShape 1 = .ok (.iconst 0, 1) := by decide +kernel
theorem dX12_readsShape_2 : decode cX12_readsShape 2 = .ok (.putfield 279, 3) := by decide +kernel
theorem dX12_readsShape_5 : decode cX12_readsShape 5 = .ok (.iconst 0, 1) := by decide +kernel
theorem dX12_readsShape_6 : decode cX12_readsShape 6 = .ok (.istore_n 1, 1) := by decide +kernel
theorem dX12_readsShape_7 : decode cX12_readsShape 7 = .ok (.iload_n 1, 1) := by decide +kernel
theorem dX12_readsShape_8 : decode cX12_readsShape 8 = .ok (.aload_n 0, 1) := by decide +kernel
theorem dX12_readsShape_9 : decode cX12_readsShape 9 = .ok (.getfield 120, 3) := by decide +kernel
theorem dX12_readsShape_12 : decode cX12_readsShape 12 = .ok (.if_icmp .ge 111, 3) := by decide +kernel
theorem dX12_readsShape_15 : decode cX12_readsShape 15 = .ok (.aload_n 0, 1) := by decide +kernel
theorem dX12_readsShape_16 : decode cX12_readsShape 16 = .ok (.getfield 34, 3) := by decide +kernel
theorem dX12_readsShape_19 : decode cX12_readsShape 19 = .ok (.iload_n 1, 1) := by decide +kernel
theorem dX12_readsShape_20 : decode cX12_readsShape 20 = .ok (.iaload, 1) := by decide +kernel
theorem dX12_readsShape_21 : decode cX12_readsShape 21 = .ok (.istore_n 2, 1) := by decide +kernel
theorem dX12_readsShape_22 : decode cX12_readsShape 22 = .ok (.iload_n 2, 1) := by decide +kernel
theorem dX12_readsShape_23 : decode cX12_readsShape 23 = .ok (.bipush 32, 2) := by decide +kernel
theorem dX12_readsShape_25 : decode cX12_readsShape 25 = .ok (.if_icmp .eq 92, 3) := by decide +kernel
theorem dX12_readsShape_28 : decode cX12_readsShape 28 = .ok (.iload_n 2, 1) := by decide +kernel
theorem dX12_readsShape_29 : decode cX12_readsShape 29 = .ok (.bipush 10, 2) := by decide +kernel
theorem dX12_readsShape_31 : decode cX12_readsShape 31 = .ok (.if_icmp .ne 6, 3) := by decide +kernel
theorem dX12_readsShape_34 : decode cX12_readsShape 34 = .ok (.goto 83, 3) := by decide +kernel
theorem dX12_readsShape_37 : decode cX12_readsShape 37 = .ok (.iload_n 2, 1) := by decide +kernel
theorem dX12_readsShape_38 : decode cX12_readsShape 38 = .ok (.bipush 111, 2) := by decide +kernel
theorem dX12_readsShape_40 : decode cX12_readsShape 40 = .ok (.if_icmp .ne 7, 3) := by decide +kernel
theorem dX12_readsShape_43 : decode cX12_readsShape 43 = .ok (.iconst 0, 1) := by decide +kernel
theorem dX12_readsShape_44 : decode cX12_readsShape 44 = .ok (.goto 24, 3) := by decide +kernel
theorem dX12_readsShape_47 : decode cX12_readsShape 47 = .ok (.iload_n 2, 1) := by decide +kernel
theorem dX12_readsShape_48 : decode cX12_readsShape 48 = .ok (.bipush 117, 2) := by decide +kernel
theorem dX12_readsShape_50 : decode cX12_readsShape 50 = .ok (.if_icmp .ne 7, 3) := by decide +kernel
theorem dX12_readsShape_53 : decode cX12_readsShape 53 = .ok (.iconst 1, 1) := by decide +kernel
theorem dX12_readsShape_54 : decode cX12_readsShape 54 = .ok (.goto 14, 3) := by decide +kernel
theorem dX12_readsShape_57 : decode cX12_readsShape 57 = .ok (.iload_n 2, 1) := by decide +kernel
theorem dX12_readsShape_58 : decode cX12_readsShape 58 = .ok (.bipush 116, 2) := by decide +kernel
theorem dX12_readsShape_60 : decode cX12_readsShape 60 = .ok (.if_icmp .ne 7, 3) := by decide +kernel
theorem dX12_readsShape_63 : decode cX12_readsShape 63 = .ok (.iconst 2, 1) := by decide +kernel
theorem dX12_readsShape_64 : decode cX12_readsShape 64 = .ok (.goto 4, 3) := by decide +kernel
theorem dX12_readsShape_67 : decode cX12_readsShape 67 = .ok (.iconst (-1), 1) := by decide +kernel
theorem dX12_readsShape_68 : decode cX12_readsShape 68 = .ok (.istore_n 3, 1) := by decide +kernel
theorem dX12_readsShape_69 : decode cX12_readsShape 69 = .ok (.iload_n 3, 1) := by decide +kernel
theorem dX12_readsShape_70 : decode cX12_readsShape 70 = .ok (.iconst (-1), 1) := by decide +kernel
theorem dX12_readsShape_71 : decode cX12_readsShape 71 = .ok (.if_icmp .ne 10, 3) := by decide +kernel
theorem dX12_readsShape_74 : decode cX12_readsShape 74 = .ok (.aload_n 0, 1) := by decide +kernel
theorem dX12_readsShape_75 : decode cX12_readsShape 75 = .ok (.iconst 1, 1) := by decide +kernel
theorem dX12_readsShape_76 : decode cX12_readsShape 76 = .ok (.iload_n 1, 1) := by decide +kernel
theorem dX12_readsShape_77 : decode cX12_readsShape 77 = .ok (.invokevirtual 301, 3) := by decide +kernel
theorem dX12_readsShape_80 : decode cX12_readsShape 80 = .ok (.ireturn, 1) := by decide +kernel
theorem dX12_readsShape_81 : decode cX12_readsShape 81 = .ok (.aload_n 0, 1) := by decide +kernel
theorem dX12_readsShape_82 : decode cX12_readsShape 82 = .ok (.getfield 279, 3) := by decide +kernel
theorem dX12_readsShape_85 : decode cX12_readsShape 85 = .ok (.bipush 7, 2) := by decide +kernel
theorem dX12_readsShape_87 : decode cX12_readsShape 87 = .ok (.if_icmp .ne 10, 3) := by decide +kernel
theorem dX12_readsShape_90 : decode cX12_readsShape 90 = .ok (.aload_n 0, 1) := by decide +kernel
theorem dX12_readsShape_91 : decode cX12_readsShape 91 = .ok (.iconst 3, 1) := by decide +kernel
theorem dX12_readsShape_92 : decode cX12_readsShape 92 = .ok (.iload_n 1, 1) := by decide +kernel
theorem dX12_readsShape_93 : decode cX12_readsShape 93 = .ok (.invokevirtual 301, 3) := by decide +kernel
theorem dX12_readsShape_96 : decode cX12_readsShape 96 = .ok (.ireturn, 1) := by decide +kernel
theorem dX12_readsShape_97 : decode cX12_readsShape 97 = .ok (.aload_n 0, 1) := by decide +kernel
theorem dX12_readsShape_98 : decode cX12_readsShape 98 = .ok (.getfield 31, 3) := by decide +kernel
theorem dX12_readsShape_101 : decode cX12_readsShape 101 = .ok (.aload_n 0, 1) := by decide +kernel
theorem dX12_readsShape_102 : decode cX12_readsShape 102 = .ok (.getfield 279, 3) := by decide +kernel
theorem dX12_readsShape_105 : decode cX12_readsShape 105 = .ok (.iload_n 3, 1) := by decide +kernel
theorem dX12_readsShape_106 : decode cX12_readsShape 106 = .ok (.iastore, 1) := by decide +kernel
theorem dX12_readsShape_107 : decode cX12_readsShape 107 = .ok (.aload_n 0, 1) := by decide +kernel
theorem dX12_readsShape_108 : decode cX12_readsShape 108 = .ok (.dup, 1) := by decide +kernel
theorem dX12_readsShape_109 : decode cX12_readsShape 109 = .ok (.getfield 279, 3) := by decide +kernel
theorem dX12_readsShape_112 : decode cX12_readsShape 112 = .ok (.iconst 1, 1) := by decide +kernel
theorem dX12_readsShape_113 : decode cX12_readsShape 113 = .ok (.iadd, 1) := by decide +kernel
theorem dX12_readsShape_114 : decode cX12_readsShape 114 = .ok (.putfield 279, 3) := by decide +kernel
theorem dX12_readsShape_117 : decode cX12_readsShape 117 = .ok (.iinc 1 1, 3) := by decide +kernel
theorem dX12_readsShape_120 : decode cX12_readsShape 120 = .ok (.goto (-113), 3) := by decide +kernel
theorem dX12_readsShape_123 : decode cX12_readsShape 123 = .ok (.iconst 1, 1) := by decide +kernel
theorem dX12_readsShape_124 : decode cX12_readsShape 124 = .ok (.ireturn, 1) := by decide +kernel
theorem dX12_putsLaw_0 : decode cX12_putsLaw 0 = .ok (.aload_n 0, 1) := by decide +kernel
theorem dX12_putsLaw_1 : decode cX12_putsLaw 1 = .ok (.getfield 7, 3) := by decide +kernel
theorem dX12_putsLaw_4 : decode cX12_putsLaw 4 = .ok (.sipush 2634, 3) := by decide +kernel
theorem dX12_putsLaw_7 : decode cX12_putsLaw 7 = .ok (.iload_n 1, 1) := by decide +kernel
theorem dX12_putsLaw_8 : decode cX12_putsLaw 8 = .ok (.iadd, 1) := by decide +kernel
theorem dX12_putsLaw_9 : decode cX12_putsLaw 9 = .ok (.aload_n 0, 1) := by decide +kernel
theorem dX12_putsLaw_10 : decode cX12_putsLaw 10 = .ok (.getfield 270, 3) := by decide +kernel
theorem dX12_putsLaw_13 : decode cX12_putsLaw 13 = .ok (.iastore, 1) := by decide +kernel
theorem dX12_putsLaw_14 : decode cX12_putsLaw 14 = .ok (.iconst 0, 1) := by decide +kernel
theorem dX12_putsLaw_15 : decode cX12_putsLaw 15 = .ok (.istore_n 2, 1) := by decide +kernel
theorem dX12_putsLaw_16 : decode cX12_putsLaw 16 = .ok (.iload_n 2, 1) := by decide +kernel
theorem dX12_putsLaw_17 : decode cX12_putsLaw 17 = .ok (.aload_n 0, 1) := by decide +kernel
theorem dX12_putsLaw_18 : decode cX12_putsLaw 18 = .ok (.getfield 270, 3) := by decide +kernel
theorem dX12_putsLaw_21 : decode cX12_putsLaw 21 = .ok (.if_icmp .ge 82, 3) := by decide +kernel
theorem dX12_putsLaw_24 : decode cX12_putsLaw 24 = .ok (.aload_n 0, 1) := by decide +kernel
theorem dX12_putsLaw_25 : decode cX12_putsLaw 25 = .ok (.getfield 7, 3) := by decide +kernel
theorem dX12_putsLaw_28 : decode cX12_putsLaw 28 = .ok (.sipush 3840, 3) := by decide +kernel
theorem dX12_putsLaw_31 : decode cX12_putsLaw 31 = .ok (.bipush 16, 2) := by decide +kernel
theorem dX12_putsLaw_33 : decode cX12_putsLaw 33 = .ok (.iload_n 1, 1) := by decide +kernel
theorem dX12_putsLaw_34 : decode cX12_putsLaw 34 = .ok (.imul, 1) := by decide +kernel
theorem dX12_putsLaw_35 : decode cX12_putsLaw 35 = .ok (.iadd, 1) := by decide +kernel
theorem dX12_putsLaw_36 : decode cX12_putsLaw 36 = .ok (.iload_n 2, 1) := by decide +kernel
theorem dX12_putsLaw_37 : decode cX12_putsLaw 37 = .ok (.iadd, 1) := by decide +kernel
theorem dX12_putsLaw_38 : decode cX12_putsLaw 38 = .ok (.aload_n 0, 1) := by decide +kernel
theorem dX12_putsLaw_39 : decode cX12_putsLaw 39 = .ok (.getfield 22, 3) := by decide +kernel
theorem dX12_putsLaw_42 : decode cX12_putsLaw 42 = .ok (.iconst 3, 1) := by decide +kernel
theorem dX12_putsLaw_43 : decode cX12_putsLaw 43 = .ok (.iload_n 2, 1) := by decide +kernel
theorem dX12_putsLaw_44 : decode cX12_putsLaw 44 = .ok (.imul, 1) := by decide +kernel
theorem dX12_putsLaw_45 : decode cX12_putsLaw 45 = .ok (.iaload, 1) := by decide +kernel
theorem dX12_putsLaw_46 : decode cX12_putsLaw 46 = .ok (.iastore, 1) := by decide +kernel
theorem dX12_putsLaw_47 : decode cX12_putsLaw 47 = .ok (.aload_n 0, 1) := by decide +kernel
theorem dX12_putsLaw_48 : decode cX12_putsLaw 48 = .ok (.getfield 7, 3) := by decide +kernel
theorem dX12_putsLaw_51 : decode cX12_putsLaw 51 = .ok (.sipush 3888, 3) := by decide +kernel
theorem dX12_putsLaw_54 : decode cX12_putsLaw 54 = .ok (.bipush 16, 2) := by decide +kernel
theorem dX12_putsLaw_56 : decode cX12_putsLaw 56 = .ok (.iload_n 1, 1) := by decide +kernel
theorem dX12_putsLaw_57 : decode cX12_putsLaw 57 = .ok (.imul, 1) := by decide +kernel
theorem dX12_putsLaw_58 : decode cX12_putsLaw 58 = .ok (.iadd, 1) := by decide +kernel
theorem dX12_putsLaw_59 : decode cX12_putsLaw 59 = .ok (.iload_n 2, 1) := by decide +kernel
theorem dX12_putsLaw_60 : decode cX12_putsLaw 60 = .ok (.iadd, 1) := by decide +kernel
theorem dX12_putsLaw_61 : decode cX12_putsLaw 61 = .ok (.aload_n 0, 1) := by decide +kernel
theorem dX12_putsLaw_62 : decode cX12_putsLaw 62 = .ok (.getfield 22, 3) := by decide +kernel
theorem dX12_putsLaw_65 : decode cX12_putsLaw 65 = .ok (.iconst 3, 1) := by decide +kernel
theorem dX12_putsLaw_66 : decode cX12_putsLaw 66 = .ok (.iload_n 2, 1) := by decide +kernel
theorem dX12_putsLaw_67 : decode cX12_putsLaw 67 = .ok (.imul, 1) := by decide +kernel
theorem dX12_putsLaw_68 : decode cX12_putsLaw 68 = .ok (.iconst 1, 1) := by decide +kernel
theorem dX12_putsLaw_69 : decode cX12_putsLaw 69 = .ok (.iadd, 1) := by decide +kernel
theorem dX12_putsLaw_70 : decode cX12_putsLaw 70 = .ok (.iaload, 1) := by decide +kernel
theorem dX12_putsLaw_71 : decode cX12_putsLaw 71 = .ok (.iastore, 1) := by decide +kernel
theorem dX12_putsLaw_72 : decode cX12_putsLaw 72 = .ok (.aload_n 0, 1) := by decide +kernel
theorem dX12_putsLaw_73 : decode cX12_putsLaw 73 = .ok (.getfield 7, 3) := by decide +kernel
theorem dX12_putsLaw_76 : decode cX12_putsLaw 76 = .ok (.sipush 3936, 3) := by decide +kernel
theorem dX12_putsLaw_79 : decode cX12_putsLaw 79 = .ok (.bipush 16, 2) := by decide +kernel
theorem dX12_putsLaw_81 : decode cX12_putsLaw 81 = .ok (.iload_n 1, 1) := by decide +kernel
theorem dX12_putsLaw_82 : decode cX12_putsLaw 82 = .ok (.imul, 1) := by decide +kernel
theorem dX12_putsLaw_83 : decode cX12_putsLaw 83 = .ok (.iadd, 1) := by decide +kernel
theorem dX12_putsLaw_84 : decode cX12_putsLaw 84 = .ok (.iload_n 2, 1) := by decide +kernel
theorem dX12_putsLaw_85 : decode cX12_putsLaw 85 = .ok (.iadd, 1) := by decide +kernel
theorem dX12_putsLaw_86 : decode cX12_putsLaw 86 = .ok (.aload_n 0, 1) := by decide +kernel
theorem dX12_putsLaw_87 : decode cX12_putsLaw 87 = .ok (.getfield 22, 3) := by decide +kernel
theorem dX12_putsLaw_90 : decode cX12_putsLaw 90 = .ok (.iconst 3, 1) := by decide +kernel
theorem dX12_putsLaw_91 : decode cX12_putsLaw 91 = .ok (.iload_n 2, 1) := by decide +kernel
theorem dX12_putsLaw_92 : decode cX12_putsLaw 92 = .ok (.imul, 1) := by decide +kernel
theorem dX12_putsLaw_93 : decode cX12_putsLaw 93 = .ok (.iconst 2, 1) := by decide +kernel
theorem dX12_putsLaw_94 : decode cX12_putsLaw 94 = .ok (.iadd, 1) := by decide +kernel
theorem dX12_putsLaw_95 : decode cX12_putsLaw 95 = .ok (.iaload, 1) := by decide +kernel
theorem dX12_putsLaw_96 : decode cX12_putsLaw 96 = .ok (.iastore, 1) := by decide +kernel
theorem dX12_putsLaw_97 : decode cX12_putsLaw 97 = .ok (.iinc 2 1, 3) := by decide +kernel
theorem dX12_putsLaw_100 : decode cX12_putsLaw 100 = .ok (.goto (-84), 3) := by decide +kernel
theorem dX12_putsLaw_103 : decode cX12_putsLaw 103 = .ok (.iconst 0, 1) := by decide +kernel
theorem dX12_putsLaw_104 : decode cX12_putsLaw 104 = .ok (.istore_n 2, 1) := by decide +kernel
theorem dX12_putsLaw_105 : decode cX12_putsLaw 105 = .ok (.iload_n 2, 1) := by decide +kernel
theorem dX12_putsLaw_106 : decode cX12_putsLaw 106 = .ok (.iconst 2, 1) := by decide +kernel
theorem dX12_putsLaw_107 : decode cX12_putsLaw 107 = .ok (.aload_n 0, 1) := by decide +kernel
theorem dX12_putsLaw_108 : decode cX12_putsLaw 108 = .ok (.getfield 235, 3) := by decide +kernel
theorem dX12_putsLaw_111 : decode cX12_putsLaw 111 = .ok (.imul, 1) := by decide +kernel
theorem dX12_putsLaw_112 : decode cX12_putsLaw 112 = .ok (.if_icmp .ge 31, 3) := by decide +kernel
theorem dX12_putsLaw_115 : decode cX12_putsLaw 115 = .ok (.aload_n 0, 1) := by decide +kernel
theorem dX12_putsLaw_116 : decode cX12_putsLaw 116 = .ok (.getfield 7, 3) := by decide +kernel
theorem dX12_putsLaw_119 : decode cX12_putsLaw 119 = .ok (.sipush 4434, 3) := by decide +kernel
theorem dX12_putsLaw_122 : decode cX12_putsLaw 122 = .ok (.sipush 820, 3) := by decide +kernel
theorem dX12_putsLaw_125 : decode cX12_putsLaw 125 = .ok (.iload_n 1, 1) := by decide +kernel
theorem dX12_putsLaw_126 : decode cX12_putsLaw 126 = .ok (.imul, 1) := by decide +kernel
theorem dX12_putsLaw_127 : decode cX12_putsLaw 127 = .ok (.iadd, 1) := by decide +kernel
theorem dX12_putsLaw_128 : decode cX12_putsLaw 128 = .ok (.iload_n 2, 1) := by decide +kernel
theorem dX12_putsLaw_129 : decode cX12_putsLaw 129 = .ok (.iadd, 1) := by decide +kernel
theorem dX12_putsLaw_130 : decode cX12_putsLaw 130 = .ok (.aload_n 0, 1) := by decide +kernel
theorem dX12_putsLaw_131 : decode cX12_putsLaw 131 = .ok (.getfield 25, 3) := by decide +kernel
theorem dX12_putsLaw_134 : decode cX12_putsLaw 134 = .ok (.iload_n 2, 1) := by decide +kernel
theorem dX12_putsLaw_135 : decode cX12_putsLaw 135 = .ok (.iaload, 1) := by decide +kernel
theorem dX12_putsLaw_136 : decode cX12_putsLaw 136 = .ok (.iastore, 1) := by decide +kernel
theorem dX12_putsLaw_137 : decode cX12_putsLaw 137 = .ok (.iinc 2 1, 3) := by decide +kernel
theorem dX12_putsLaw_140 : decode cX12_putsLaw 140 = .ok (.goto (-35), 3) := by decide +kernel
theorem dX12_putsLaw_143 : decode cX12_putsLaw 143 = .ok (.aload_n 0, 1) := by decide +kernel
theorem dX12_putsLaw_144 : decode cX12_putsLaw 144 = .ok (.getfield 270, 3) := by decide +kernel
theorem dX12_putsLaw_147 : decode cX12_putsLaw 147 = .ok (.ireturn, 1) := by decide +kernel
theorem dX12_putsDrill_0 : decode cX12_putsDrill 0 = .ok (.aload_n 0, 1) := by decide +kernel
theorem dX12_putsDrill_1 : decode cX12_putsDrill 1 = .ok (.getfield 7, 3) := by decide +kernel
theorem dX12_putsDrill_4 : decode cX12_putsDrill 4 = .ok (.sipush 2600, 3) := by decide +kernel
theorem dX12_putsDrill_7 : decode cX12_putsDrill 7 = .ok (.aload_n 0, 1) := by decide +kernel
theorem dX12_putsDrill_8 : decode cX12_putsDrill 8 = .ok (.getfield 279, 3) := by decide +kernel
theorem dX12_putsDrill_11 : decode cX12_putsDrill 11 = .ok (.iastore, 1) := by decide +kernel
theorem dX12_putsDrill_12 : decode cX12_putsDrill 12 = .ok (.iconst 0, 1) := by decide +kernel
theorem dX12_putsDrill_13 : decode cX12_putsDrill 13 = .ok (.istore_n 1, 1) := by decide +kernel
theorem dX12_putsDrill_14 : decode cX12_putsDrill 14 = .ok (.iload_n 1, 1) := by decide +kernel
theorem dX12_putsDrill_15 : decode cX12_putsDrill 15 = .ok (.iconst 3, 1) := by decide +kernel
theorem dX12_putsDrill_16 : decode cX12_putsDrill 16 = .ok (.aload_n 0, 1) := by decide +kernel
theorem dX12_putsDrill_17 : decode cX12_putsDrill 17 = .ok (.getfield 279, 3) := by decide +kernel
theorem dX12_putsDrill_20 : decode cX12_putsDrill 20 = .ok (.imul, 1) := by decide +kernel
theorem dX12_putsDrill_21 : decode cX12_putsDrill 21 = .ok (.if_icmp .ge 25, 3) := by decide +kernel
theorem dX12_putsDrill_24 : decode cX12_putsDrill 24 = .ok (.aload_n 0, 1) := by decide +kernel
theorem dX12_putsDrill_25 : decode cX12_putsDrill 25 = .ok (.getfield 7, 3) := by decide +kernel
theorem dX12_putsDrill_28 : decode cX12_putsDrill 28 = .ok (.sipush 3984, 3) := by decide +kernel
theorem dX12_putsDrill_31 : decode cX12_putsDrill 31 = .ok (.iload_n 1, 1) := by decide +kernel
theorem dX12_putsDrill_32 : decode cX12_putsDrill 32 = .ok (.iadd, 1) := by decide +kernel
theorem dX12_putsDrill_33 : decode cX12_putsDrill 33 = .ok (.aload_n 0, 1) := by decide +kernel
theorem dX12_putsDrill_34 : decode cX12_putsDrill 34 = .ok (.getfield 28, 3) := by decide +kernel
theorem dX12_putsDrill_37 : decode cX12_putsDrill 37 = .ok (.iload_n 1, 1) := by decide +kernel
theorem dX12_putsDrill_38 : decode cX12_putsDrill 38 = .ok (.iaload, 1) := by decide +kernel
theorem dX12_putsDrill_39 : decode cX12_putsDrill 39 = .ok (.iastore, 1) := by decide +kernel
theorem dX12_putsDrill_40 : decode cX12_putsDrill 40 = .ok (.iinc 1 1, 3) := by decide +kernel
theorem dX12_putsDrill_43 : decode cX12_putsDrill 43 = .ok (.goto (-29), 3) := by decide +kernel
theorem dX12_putsDrill_46 : decode cX12_putsDrill 46 = .ok (.aload_n 0, 1) := by decide +kernel
theorem dX12_putsDrill_47 : decode cX12_putsDrill 47 = .ok (.getfield 279, 3) := by decide +kernel
theorem dX12_putsDrill_50 : decode cX12_putsDrill 50 = .ok (.ireturn, 1) := by decide +kernel
theorem dX12_putsShape_0 : decode cX12_putsShape 0 = .ok (.aload_n 0, 1) := by decide +kernel
theorem dX12_putsShape_1 : decode cX12_putsShape 1 = .ok (.getfield 7, 3) := by decide +kernel
theorem dX12_putsShape_4 : decode cX12_putsShape 4 = .ok (.sipush 2601, 3) := by decide +kernel
theorem dX12_putsShape_7 : decode cX12_putsShape 7 = .ok (.iload_n 1, 1) := by decide +kernel
theorem dX12_putsShape_8 : decode cX12_putsShape 8 = .ok (.iadd, 1) := by decide +kernel
theorem dX12_putsShape_9 : decode cX12_putsShape 9 = .ok (.aload_n 0, 1) := by decide +kernel
theorem dX12_putsShape_10 : decode cX12_putsShape 10 = .ok (.getfield 279, 3) := by decide +kernel
theorem dX12_putsShape_13 : decode cX12_putsShape 13 = .ok (.iastore, 1) := by decide +kernel
theorem dX12_putsShape_14 : decode cX12_putsShape 14 = .ok (.iconst 0, 1) := by decide +kernel
theorem dX12_putsShape_15 : decode cX12_putsShape 15 = .ok (.istore_n 2, 1) := by decide +kernel
theorem dX12_putsShape_16 : decode cX12_putsShape 16 = .ok (.iload_n 2, 1) := by decide +kernel
theorem dX12_putsShape_17 : decode cX12_putsShape 17 = .ok (.aload_n 0, 1) := by decide +kernel
theorem dX12_putsShape_18 : decode cX12_putsShape 18 = .ok (.getfield 279, 3) := by decide +kernel
theorem dX12_putsShape_21 : decode cX12_putsShape 21 = .ok (.if_icmp .ge 30, 3) := by decide +kernel
theorem dX12_putsShape_24 : decode cX12_putsShape 24 = .ok (.aload_n 0, 1) := by decide +kernel
theorem dX12_putsShape_25 : decode cX12_putsShape 25 = .ok (.getfield 7, 3) := by decide +kernel
theorem dX12_putsShape_28 : decode cX12_putsShape 28 = .ok (.sipush 2606, 3) := by decide +kernel
theorem dX12_putsShape_31 : decode cX12_putsShape 31 = .ok (.bipush 7, 2) := by decide +kernel
theorem dX12_putsShape_33 : decode cX12_putsShape 33 = .ok (.iload_n 1, 1) := by decide +kernel
theorem dX12_putsShape_34 : decode cX12_putsShape 34 = .ok (.imul, 1) := by decide +kernel
theorem dX12_putsShape_35 : decode cX12_putsShape 35 = .ok (.iadd, 1) := by decide +kernel
theorem dX12_putsShape_36 : decode cX12_putsShape 36 = .ok (.iload_n 2, 1) := by decide +kernel
theorem dX12_putsShape_37 : decode cX12_putsShape 37 = .ok (.iadd, 1) := by decide +kernel
theorem dX12_putsShape_38 : decode cX12_putsShape 38 = .ok (.aload_n 0, 1) := by decide +kernel
theorem dX12_putsShape_39 : decode cX12_putsShape 39 = .ok (.getfield 31, 3) := by decide +kernel
theorem dX12_putsShape_42 : decode cX12_putsShape 42 = .ok (.iload_n 2, 1) := by decide +kernel
theorem dX12_putsShape_43 : decode cX12_putsShape 43 = .ok (.iaload, 1) := by decide +kernel
theorem dX12_putsShape_44 : decode cX12_putsShape 44 = .ok (.iastore, 1) := by decide +kernel
theorem dX12_putsShape_45 : decode cX12_putsShape 45 = .ok (.iinc 2 1, 3) := by decide +kernel
theorem dX12_putsShape_48 : decode cX12_putsShape 48 = .ok (.goto (-32), 3) := by decide +kernel
theorem dX12_putsShape_51 : decode cX12_putsShape 51 = .ok (.aload_n 0, 1) := by decide +kernel
theorem dX12_putsShape_52 : decode cX12_putsShape 52 = .ok (.getfield 279, 3) := by decide +kernel
theorem dX12_putsShape_55 : decode cX12_putsShape 55 = .ok (.ireturn, 1) := by decide +kernel
theorem dX12_reads_0 : decode cX12_reads 0 = .ok (.iload_n 1, 1) := by decide +kernel
theorem dX12_reads_1 : decode cX12_reads 1 = .ok (.iconst 3, 1) := by decide +kernel
theorem dX12_reads_2 : decode cX12_reads 2 = .ok (.if_icmp .le 8, 3) := by decide +kernel
theorem dX12_reads_5 : decode cX12_reads 5 = .ok (.aload_n 0, 1) := by decide +kernel
theorem dX12_reads_6 : decode cX12_reads 6 = .ok (.invokevirtual 304, 3) := by decide +kernel
theorem dX12_reads_9 : decode cX12_reads 9 = .ok (.ireturn, 1) := by decide +kernel
theorem dX12_reads_10 : decode cX12_reads 10 = .ok (.aload_n 0, 1) := by decide +kernel
theorem dX12_reads_11 : decode cX12_reads 11 = .ok (.invokevirtual 232, 3) := by decide +kernel
theorem dX12_reads_14 : decode cX12_reads 14 = .ok (.iload_n 1, 1) := by decide +kernel
theorem dX12_reads_15 : decode cX12_reads 15 = .ok (.iconst 3, 1) := by decide +kernel
theorem dX12_reads_16 : decode cX12_reads 16 = .ok (.if_icmp .ne 10, 3) := by decide +kernel
theorem dX12_reads_19 : decode cX12_reads 19 = .ok (.aload_n 0, 1) := by decide +kernel
theorem dX12_reads_20 : decode cX12_reads 20 = .ok (.invokevirtual 307, 3) := by decide +kernel
theorem dX12_reads_23 : decode cX12_reads 23 = .ok (.goto 7, 3) := by decide +kernel
theorem dX12_reads_26 : decode cX12_reads 26 = .ok (.aload_n 0, 1) := by decide +kernel
theorem dX12_reads_27 : decode cX12_reads 27 = .ok (.invokevirtual 310, 3) := by decide +kernel
theorem dX12_reads_30 : decode cX12_reads 30 = .ok (.ireturn, 1) := by decide +kernel
theorem dX12_text_0 : decode cX12_text 0 = .ok (.aload_n 0, 1) := by decide +kernel
theorem dX12_text_1 : decode cX12_text 1 = .ok (.iconst 0, 1) := by decide +kernel
theorem dX12_text_2 : decode cX12_text 2 = .ok (.putfield 313, 3) := by decide +kernel
theorem dX12_text_5 : decode cX12_text 5 = .ok (.aload_n 0, 1) := by decide +kernel
theorem dX12_text_6 : decode cX12_text 6 = .ok (.iconst (-1), 1) := by decide +kernel
theorem dX12_text_7 : decode cX12_text 7 = .ok (.putfield 43, 3) := by decide +kernel
theorem dX12_text_10 : decode cX12_text 10 = .ok (.iload_n 1, 1) := by decide +kernel
theorem dX12_text_11 : decode cX12_text 11 = .ok (.iconst 0, 1) := by decide +kernel
theorem dX12_text_12 : decode cX12_text 12 = .ok (.bipush 7, 2) := by decide +kernel
theorem dX12_text_14 : decode cX12_text 14 = .ok (.invokestatic 74, 3) := by decide +kernel
theorem dX12_text_17 : decode cX12_text 17 = .ok (.ifCond .ne 10, 3) := by decide +kernel
theorem dX12_text_20 : decode cX12_text 20 = .ok (.aload_n 0, 1) := by decide +kernel
theorem dX12_text_21 : decode cX12_text 21 = .ok (.iconst 0, 1) := by decide +kernel
theorem dX12_text_22 : decode cX12_text 22 = .ok (.putfield 120, 3) := by decide +kernel
theorem dX12_text_25 : decode cX12_text 25 = .ok (.iconst (-1), 1) := by decide +kernel
theorem dX12_text_26 : decode cX12_text 26 = .ok (.ireturn, 1) := by decide +kernel
theorem dX12_text_27 : decode cX12_text 27 = .ok (.aload_n 0, 1) := by decide +kernel
theorem dX12_text_28 : decode cX12_text 28 = .ok (.iconst 0, 1) := by decide +kernel
theorem dX12_text_29 : decode cX12_text 29 = .ok (.putfield 223, 3) := by decide +kernel
theorem dX12_text_32 : decode cX12_text 32 = .ok (.aload_n 0, 1) := by decide +kernel
theorem dX12_text_33 : decode cX12_text 33 = .ok (.iconst 0, 1) := by decide +kernel
theorem dX12_text_34 : decode cX12_text 34 = .ok (.putfield 123, 3) := by decide +kernel
theorem dX12_text_37 : decode cX12_text 37 = .ok (.aload_n 0, 1) := by decide +kernel
theorem dX12_text_38 : decode cX12_text 38 = .ok (.iload_n 1, 1) := by decide +kernel
theorem dX12_text_39 : decode cX12_text 39 = .ok (.putfield 182, 3) := by decide +kernel
theorem dX12_text_42 : decode cX12_text 42 = .ok (.aload_n 0, 1) := by decide +kernel
theorem dX12_text_43 : decode cX12_text 43 = .ok (.iload_n 1, 1) := by decide +kernel
theorem dX12_text_44 : decode cX12_text 44 = .ok (.invokevirtual 316, 3) := by decide +kernel
theorem dX12_text_47 : decode cX12_text 47 = .ok (.istore_n 2, 1) := by decide +kernel
theorem dX12_text_48 : decode cX12_text 48 = .ok (.aload_n 0, 1) := by decide +kernel
theorem dX12_text_49 : decode cX12_text 49 = .ok (.iconst 0, 1) := by decide +kernel
theorem dX12_text_50 : decode cX12_text 50 = .ok (.putfield 120, 3) := by decide +kernel
theorem dX12_text_53 : decode cX12_text 53 = .ok (.iload_n 2, 1) := by decide +kernel
theorem dX12_text_54 : decode cX12_text 54 = .ok (.ifCond .eq 38, 3) := by decide +kernel
theorem dX12_text_57 : decode cX12_text 57 = .ok (.iload_n 1, 1) := by decide +kernel
theorem dX12_text_58 : decode cX12_text 58 = .ok (.iconst 3, 1) := by decide +kernel
theorem dX12_text_59 : decode cX12_text 59 = .ok (.if_icmp .ge 11, 3) := by decide +kernel
theorem dX12_text_62 : decode cX12_text 62 = .ok (.aload_n 0, 1) := by decide +kernel
theorem dX12_text_63 : decode cX12_text 63 = .ok (.iload_n 1, 1) := by decide +kernel
theorem dX12_text_64 : decode cX12_text 64 = .ok (.invokevirtual 319, 3) := by decide +kernel
theorem dX12_text_67 : decode cX12_text 67 = .ok (.goto 24, 3) := by decide +kernel
theorem dX12_text_70 : decode cX12_text 70 = .ok (.iload_n 1, 1) := by decide +kernel
theorem dX12_text_71 : decode cX12_text 71 = .ok (.iconst 3, 1) := by decide +kernel
theorem dX12_text_72 : decode cX12_text 72 = .ok (.if_icmp .ne 10, 3) := by decide +kernel
theorem dX12_text_75 : decode cX12_text 75 = .ok (.aload_n 0, 1) := by decide +kernel
theorem dX12_text_76 : decode cX12_text 76 = .ok (.invokevirtual 322, 3) := by decide +kernel
theorem dX12_text_79 : decode cX12_text 79 = .ok (.goto 12, 3) := by decide +kernel
theorem dX12_text_82 : decode cX12_text 82 = .ok (.aload_n 0, 1) := by decide +kernel
theorem dX12_text_83 : decode cX12_text 83 = .ok (.iload_n 1, 1) := by decide +kernel
theorem dX12_text_84 : decode cX12_text 84 = .ok (.iconst 3, 1) := by decide +kernel
theorem dX12_text_85 : decode cX12_text 85 = .ok (.isub, 1) := by decide +kernel
theorem dX12_text_86 : decode cX12_text 86 = .ok (.iconst 1, 1) := by decide +kernel
theorem dX12_text_87 : decode cX12_text 87 = .ok (.isub, 1) := by decide +kernel
theorem dX12_text_88 : decode cX12_text 88 = .ok (.invokevirtual 325, 3) := by decide +kernel
theorem dX12_text_91 : decode cX12_text 91 = .ok (.ireturn, 1) := by decide +kernel
theorem dX12_text_92 : decode cX12_text 92 = .ok (.aload_n 0, 1) := by decide +kernel
theorem dX12_text_93 : decode cX12_text 93 = .ok (.aload_n 0, 1) := by decide +kernel
theorem dX12_text_94 : decode cX12_text 94 = .ok (.getfield 223, 3) := by decide +kernel
theorem dX12_text_97 : decode cX12_text 97 = .ok (.putfield 313, 3) := by decide +kernel
theorem dX12_text_100 : decode cX12_text 100 = .ok (.aload_n 0, 1) := by decide +kernel
theorem dX12_text_101 : decode cX12_text 101 = .ok (.aload_n 0, 1) := by decide +kernel
theorem dX12_text_102 : decode cX12_text 102 = .ok (.getfield 226, 3) := by decide +kernel
theorem dX12_text_105 : decode cX12_text 105 = .ok (.putfield 43, 3) := by decide +kernel
theorem dX12_text_108 : decode cX12_text 108 = .ok (.iconst (-1), 1) := by decide +kernel
theorem dX12_text_109 : decode cX12_text 109 = .ok (.ireturn, 1) := by decide +kernel
theorem dX12_fault_0 : decode cX12_fault 0 = .ok (.iload_n 1, 1) := by decide +kernel
theorem dX12_fault_1 : decode cX12_fault 1 = .ok (.ifCond .ne 10, 3) := by decide +kernel
theorem dX12_fault_4 : decode cX12_fault 4 = .ok (.aload_n 0, 1) := by decide +kernel
theorem dX12_fault_5 : decode cX12_fault 5 = .ok (.getfield 313, 3) := by decide +kernel
theorem dX12_fault_8 : decode cX12_fault 8 = .ok (.goto 16, 3) := by decide +kernel
theorem dX12_fault_11 : decode cX12_fault 11 = .ok (.iload_n 1, 1) := by decide +kernel
theorem dX12_fault_12 : decode cX12_fault 12 = .ok (.iconst 1, 1) := by decide +kernel
theorem dX12_fault_13 : decode cX12_fault 13 = .ok (.if_icmp .ne 10, 3) := by decide +kernel
theorem dX12_fault_16 : decode cX12_fault 16 = .ok (.aload_n 0, 1) := by decide +kernel
theorem dX12_fault_17 : decode cX12_fault 17 = .ok (.getfield 43, 3) := by decide +kernel
theorem dX12_fault_20 : decode cX12_fault 20 = .ok (.goto 4, 3) := by decide +kernel
theorem dX12_fault_23 : decode cX12_fault 23 = .ok (.iconst (-1), 1) := by decide +kernel
theorem dX12_fault_24 : decode cX12_fault 24 = .ok (.ireturn, 1) := by decide +kernel
theorem dX12_both_0 : decode cX12_both 0 = .ok (.iload_n 0, 1) := by decide +kernel
theorem dX12_both_1 : decode cX12_both 1 = .ok (.tableswitch 100 23 31 #[51, 55, 59, 100, 63, 74, 85, 100, 96], 51) := by decide +kernel
theorem dX12_both_52 : decode cX12_both 52 = .ok (.iload_n 1, 1) := by decide +kernel
theorem dX12_both_53 : decode cX12_both 53 = .ok (.iload_n 2, 1) := by decide +kernel
theorem dX12_both_54 : decode cX12_both 54 = .ok (.iadd, 1) := by decide +kernel
theorem dX12_both_55 : decode cX12_both 55 = .ok (.ireturn, 1) := by decide +kernel
theorem dX12_both_56 : decode cX12_both 56 = .ok (.iload_n 1, 1) := by decide +kernel
theorem dX12_both_57 : decode cX12_both 57 = .ok (.iload_n 2, 1) := by decide +kernel
theorem dX12_both_58 : decode cX12_both 58 = .ok (.isub, 1) := by decide +kernel
theorem dX12_both_59 : decode cX12_both 59 = .ok (.ireturn, 1) := by decide +kernel
theorem dX12_both_60 : decode cX12_both 60 = .ok (.iload_n 1, 1) := by decide +kernel
theorem dX12_both_61 : decode cX12_both 61 = .ok (.iload_n 2, 1) := by decide +kernel
theorem dX12_both_62 : decode cX12_both 62 = .ok (.imul, 1) := by decide +kernel
theorem dX12_both_63 : decode cX12_both 63 = .ok (.ireturn, 1) := by decide +kernel
theorem dX12_both_64 : decode cX12_both 64 = .ok (.iload_n 1, 1) := by decide +kernel
theorem dX12_both_65 : decode cX12_both 65 = .ok (.iload_n 2, 1) := by decide +kernel
theorem dX12_both_66 : decode cX12_both 66 = .ok (.if_icmp .ge 7, 3) := by decide +kernel
theorem dX12_both_69 : decode cX12_both 69 = .ok (.iconst 1, 1) := by decide +kernel
theorem dX12_both_70 : decode cX12_both 70 = .ok (.goto 4, 3) := by decide +kernel
theorem dX12_both_73 : decode cX12_both 73 = .ok (.iconst 0, 1) := by decide +kernel
theorem dX12_both_74 : decode cX12_both 74 = .ok (.ireturn, 1) := by decide +kernel
theorem dX12_both_75 : decode cX12_both 75 = .ok (.iload_n 1, 1) := by decide +kernel
theorem dX12_both_76 : decode cX12_both 76 = .ok (.iload_n 2, 1) := by decide +kernel
theorem dX12_both_77 : decode cX12_both 77 = .ok (.if_icmp .ne 7, 3) := by decide +kernel
theorem dX12_both_80 : decode cX12_both 80 = .ok (.iconst 1, 1) := by decide +kernel
theorem dX12_both_81 : decode cX12_both 81 = .ok (.goto 4, 3) := by decide +kernel
theorem dX12_both_84 : decode cX12_both 84 = .ok (.iconst 0, 1) := by decide +kernel
theorem dX12_both_85 : decode cX12_both 85 = .ok (.ireturn, 1) := by decide +kernel
theorem dX12_both_86 : decode cX12_both 86 = .ok (.iload_n 1, 1) := by decide +kernel
theorem dX12_both_87 : decode cX12_both 87 = .ok (.iload_n 2, 1) := by decide +kernel
theorem dX12_both_88 : decode cX12_both 88 = .ok (.if_icmp .le 7, 3) := by decide +kernel
theorem dX12_both_91 : decode cX12_both 91 = .ok (.iconst 1, 1) := by decide +kernel
theorem dX12_both_92 : decode cX12_both 92 = .ok (.goto 4, 3) := by decide +kernel
theorem dX12_both_95 : decode cX12_both 95 = .ok (.iconst 0, 1) := by decide +kernel
theorem dX12_both_96 : decode cX12_both 96 = .ok (.ireturn, 1) := by decide +kernel
theorem dX12_both_97 : decode cX12_both 97 = .ok (.iload_n 1, 1) := by decide +kernel
theorem dX12_both_98 : decode cX12_both 98 = .ok (.iload_n 2, 1) := by decide +kernel
theorem dX12_both_99 : decode cX12_both 99 = .ok (.iand, 1) := by decide +kernel
theorem dX12_both_100 : decode cX12_both 100 = .ok (.ireturn, 1) := by decide +kernel
theorem dX12_both_101 : decode cX12_both 101 = .ok (.iload_n 1, 1) := by decide +kernel
theorem dX12_both_102 : decode cX12_both 102 = .ok (.iload_n 2, 1) := by decide +kernel
theorem dX12_both_103 : decode cX12_both 103 = .ok (.ior, 1) := by decide +kernel
theorem dX12_both_104 : decode cX12_both 104 = .ok (.ireturn, 1) := by decide +kernel
theorem dX12_comesTo_0 : decode cX12_comesTo 0 = .ok (.iconst 0, 1) := by decide +kernel
theorem dX12_comesTo_1 : decode cX12_comesTo 1 = .ok (.istore 4, 2) := by decide +kernel
theorem dX12_comesTo_3 : decode cX12_comesTo 3 = .ok (.iload_n 2, 1) := by decide +kernel
theorem dX12_comesTo_4 : decode cX12_comesTo 4 = .ok (.istore 5, 2) := by decide +kernel
theorem dX12_comesTo_6 : decode cX12_comesTo 6 = .ok (.iload 5, 2) := by decide +kernel
theorem dX12_comesTo_8 : decode cX12_comesTo 8 = .ok (.iload_n 3, 1) := by decide +kernel
theorem dX12_comesTo_9 : decode cX12_comesTo 9 = .ok (.if_icmp .ge 177, 3) := by decide +kernel
theorem dX12_comesTo_12 : decode cX12_comesTo 12 = .ok (.aload_n 0, 1) := by decide +kernel
theorem dX12_comesTo_13 : decode cX12_comesTo 13 = .ok (.getfield 7, 3) := by decide +kernel
theorem dX12_comesTo_16 : decode cX12_comesTo 16 = .ok (.sipush 4434, 3) := by decide +kernel
theorem dX12_comesTo_19 : decode cX12_comesTo 19 = .ok (.sipush 820, 3) := by decide +kernel
theorem dX12_comesTo_22 : decode cX12_comesTo 22 = .ok (.iload_n 1, 1) := by decide +kernel
theorem dX12_comesTo_23 : decode cX12_comesTo 23 = .ok (.imul, 1) := by decide +kernel
theorem dX12_comesTo_24 : decode cX12_comesTo 24 = .ok (.iadd, 1) := by decide +kernel
theorem dX12_comesTo_25 : decode cX12_comesTo 25 = .ok (.iconst 2, 1) := by decide +kernel
theorem dX12_comesTo_26 : decode cX12_comesTo 26 = .ok (.iload 5, 2) := by decide +kernel
theorem dX12_comesTo_28 : decode cX12_comesTo 28 = .ok (.imul, 1) := by decide +kernel
theorem dX12_comesTo_29 : decode cX12_comesTo 29 = .ok (.iadd, 1) := by decide +kernel
theorem dX12_comesTo_30 : decode cX12_comesTo 30 = .ok (.iaload, 1) := by decide +kernel
theorem dX12_comesTo_31 : decode cX12_comesTo 31 = .ok (.istore 6, 2) := by decide +kernel
theorem dX12_comesTo_33 : decode cX12_comesTo 33 = .ok (.aload_n 0, 1) := by decide +kernel
theorem dX12_comesTo_34 : decode cX12_comesTo 34 = .ok (.getfield 7, 3) := by decide +kernel
theorem dX12_comesTo_37 : decode cX12_comesTo 37 = .ok (.sipush 4434, 3) := by decide +kernel
theorem dX12_comesTo_40 : decode cX12_comesTo 40 = .ok (.sipush 820, 3) := by decide +kernel
theorem dX12_comesTo_43 : decode cX12_comesTo 43 = .ok (.iload_n 1, 1) := by decide +kernel
theorem dX12_comesTo_44 : decode cX12_comesTo 44 = .ok (.imul, 1) := by decide +kernel
theorem dX12_comesTo_45 : decode cX12_comesTo 45 = .ok (.iadd, 1) := by decide +kernel
theorem dX12_comesTo_46 : decode cX12_comesTo 46 = .ok (.iconst 2, 1) := by decide +kernel
theorem dX12_comesTo_47 : decode cX12_comesTo 47 = .ok (.iload 5, 2) := by decide +kernel
theorem dX12_comesTo_49 : decode cX12_comesTo 49 = .ok (.imul, 1) := by decide +kernel
theorem dX12_comesTo_50 : decode cX12_comesTo 50 = .ok (.iadd, 1) := by decide +kernel
theorem dX12_comesTo_51 : decode cX12_comesTo 51 = .ok (.iconst 1, 1) := by decide +kernel
theorem dX12_comesTo_52 : decode cX12_comesTo 52 = .ok (.iadd, 1) := by decide +kernel
theorem dX12_comesTo_53 : decode cX12_comesTo 53 = .ok (.iaload, 1) := by decide +kernel
theorem dX12_comesTo_54 : decode cX12_comesTo 54 = .ok (.istore 7, 2) := by decide +kernel
theorem dX12_comesTo_56 : decode cX12_comesTo 56 = .ok (.iload 6, 2) := by decide +kernel
theorem dX12_comesTo_58 : decode cX12_comesTo 58 = .ok (.bipush 23, 2) := by decide +kernel
theorem dX12_comesTo_60 : decode cX12_comesTo 60 = .ok (.if_icmp .ge 33, 3) := by decide +kernel
theorem dX12_comesTo_63 : decode cX12_comesTo 63 = .ok (.aload_n 0, 1) := by decide +kernel
theorem dX12_comesTo_64 : decode cX12_comesTo 64 = .ok (.getfield 37, 3) := by decide +kernel
theorem dX12_comesTo_67 : decode cX12_comesTo 67 = .ok (.iload 4, 2) := by decide +kernel
theorem dX12_comesTo_69 : decode cX12_comesTo 69 = .ok (.iload 6, 2) := by decide +kernel
theorem dX12_comesTo_71 : decode cX12_comesTo 71 = .ok (.ifCond .ne 8, 3) := by decide +kernel
theorem dX12_comesTo_74 : decode cX12_comesTo 74 = .ok (.iload 7, 2) := by decide +kernel
theorem dX12_comesTo_76 : decode cX12_comesTo 76 = .ok (.goto 10, 3) := by decide +kernel
theorem dX12_comesTo_79 : decode cX12_comesTo 79 = .ok (.aload_n 0, 1) := by decide +kernel
theorem dX12_comesTo_80 : decode cX12_comesTo 80 = .ok (.getfield 40, 3) := by decide +kernel
theorem dX12_comesTo_83 : decode cX12_comesTo 83 = .ok (.iload 6, 2) := by decide +kernel
theorem dX12_comesTo_85 : decode cX12_comesTo 85 = .ok (.iaload, 1) := by decide +kernel
theorem dX12_comesTo_86 : decode cX12_comesTo 86 = .ok (.iastore, 1) := by decide +kernel
theorem dX12_comesTo_87 : decode cX12_comesTo 87 = .ok (.iinc 4 1, 3) := by decide +kernel
theorem dX12_comesTo_90 : decode cX12_comesTo 90 = .ok (.goto 90, 3) := by decide +kernel
theorem dX12_comesTo_93 : decode cX12_comesTo 93 = .ok (.iload 6, 2) := by decide +kernel
theorem dX12_comesTo_95 : decode cX12_comesTo 95 = .ok (.bipush 26, 2) := by decide +kernel
theorem dX12_comesTo_97 : decode cX12_comesTo 97 = .ok (.if_icmp .ne 20, 3) := by decide +kernel
theorem dX12_comesTo_100 : decode cX12_comesTo 100 = .ok (.aload_n 0, 1) := by decide +kernel
theorem dX12_comesTo_101 : decode cX12_comesTo 101 = .ok (.getfield 37, 3) := by decide +kernel
theorem dX12_comesTo_104 : decode cX12_comesTo 104 = .ok (.iload 4, 2) := by decide +kernel
theorem dX12_comesTo_106 : decode cX12_comesTo 106 = .ok (.iconst 1, 1) := by decide +kernel
theorem dX12_comesTo_107 : decode cX12_comesTo 107 = .ok (.isub, 1) := by decide +kernel
theorem dX12_comesTo_108 : decode cX12_comesTo 108 = .ok (.dup2, 1) := by decide +kernel
theorem dX12_comesTo_109 : decode cX12_comesTo 109 = .ok (.iaload, 1) := by decide +kernel
theorem dX12_comesTo_110 : decode cX12_comesTo 110 = .ok (.iload 7, 2) := by decide +kernel
theorem dX12_comesTo_112 : decode cX12_comesTo 112 = .ok (.idiv, 1) := by decide +kernel
theorem dX12_comesTo_113 : decode cX12_comesTo 113 = .ok (.iastore, 1) := by decide +kernel
theorem dX12_comesTo_114 : decode cX12_comesTo 114 = .ok (.goto 66, 3) := by decide +kernel
theorem dX12_comesTo_117 : decode cX12_comesTo 117 = .ok (.iload 6, 2) := by decide +kernel
theorem dX12_comesTo_119 : decode cX12_comesTo 119 = .ok (.bipush 30, 2) := by decide +kernel
theorem dX12_comesTo_121 : decode cX12_comesTo 121 = .ok (.if_icmp .ne 26, 3) := by decide +kernel
theorem dX12_comesTo_124 : decode cX12_comesTo 124 = .ok (.aload_n 0, 1) := by decide +kernel
theorem dX12_comesTo_125 : decode cX12_comesTo 125 = .ok (.getfield 37, 3) := by decide +kernel
theorem dX12_comesTo_128 : decode cX12_comesTo 128 = .ok (.iload 4, 2) := by decide +kernel
theorem dX12_comesTo_130 : decode cX12_comesTo 130 = .ok (.iconst 1, 1) := by decide +kernel
theorem dX12_comesTo_131 : decode cX12_comesTo 131 = .ok (.isub, 1) := by decide +kernel
theorem dX12_comesTo_132 : decode cX12_comesTo 132 = .ok (.iconst 1, 1) := by decide +kernel
theorem dX12_comesTo_133 : decode cX12_comesTo 133 = .ok (.aload_n 0, 1) := by decide +kernel
theorem dX12_comesTo_134 : decode cX12_comesTo 134 = .ok (.getfield 37, 3) := by decide +kernel
theorem dX12_comesTo_137 : decode cX12_comesTo 137 = .ok (.iload 4, 2) := by decide +kernel
theorem dX12_comesTo_139 : decode cX12_comesTo 139 = .ok (.iconst 1, 1) := by decide +kernel
theorem dX12_comesTo_140 : decode cX12_comesTo 140 = .ok (.isub, 1) := by decide +kernel
theorem dX12_comesTo_141 : decode cX12_comesTo 141 = .ok (.iaload, 1) := by decide +kernel
theorem dX12_comesTo_142 : decode cX12_comesTo 142 = .ok (.isub, 1) := by decide +kernel
theorem dX12_comesTo_143 : decode cX12_comesTo 143 = .ok (.iastore, 1) := by decide +kernel
theorem dX12_comesTo_144 : decode cX12_comesTo 144 = .ok (.goto 36, 3) := by decide +kernel
theorem dX12_comesTo_147 : decode cX12_comesTo 147 = .ok (.iinc 4 (-1), 3) := by decide +kernel
theorem dX12_comesTo_150 : decode cX12_comesTo 150 = .ok (.aload_n 0, 1) := by decide +kernel
theorem dX12_comesTo_151 : decode cX12_comesTo 151 = .ok (.getfield 37, 3) := by decide +kernel
theorem dX12_comesTo_154 : decode cX12_comesTo 154 = .ok (.iload 4, 2) := by decide +kernel
theorem dX12_comesTo_156 : decode cX12_comesTo 156 = .ok (.iconst 1, 1) := by decide +kernel
theorem dX12_comesTo_157 : decode cX12_comesTo 157 = .ok (.isub, 1) := by decide +kernel
theorem dX12_comesTo_158 : decode cX12_comesTo 158 = .ok (.iload 6, 2) := by decide +kernel
theorem dX12_comesTo_160 : decode cX12_comesTo 160 = .ok (.aload_n 0, 1) := by decide +kernel
theorem dX12_comesTo_161 : decode cX12_comesTo 161 = .ok (.getfield 37, 3) := by decide +kernel
theorem dX12_comesTo_164 : decode cX12_comesTo 164 = .ok (.iload 4, 2) := by decide +kernel
theorem dX12_comesTo_166 : decode cX12_comesTo 166 = .ok (.iconst 1, 1) := by decide +kernel
theorem dX12_comesTo_167 : decode cX12_comesTo 167 = .ok (.isub, 1) := by decide +kernel
theorem dX12_comesTo_168 : decode cX12_comesTo 168 = .ok (.iaload, 1) := by decide +kernel
theorem dX12_comesTo_169 : decode cX12_comesTo 169 = .ok (.aload_n 0, 1) := by decide +kernel
theorem dX12_comesTo_170 : decode cX12_comesTo 170 = .ok (.getfield 37, 3) := by decide +kernel
theorem dX12_comesTo_173 : decode cX12_comesTo 173 = .ok (.iload 4, 2) := by decide +kernel
theorem dX12_comesTo_175 : decode cX12_comesTo 175 = .ok (.iaload, 1) := by decide +kernel
theorem dX12_comesTo_176 : decode cX12_comesTo 176 = .ok (.invokestatic 328, 3) := by decide +kernel
theorem dX12_comesTo_179 : decode cX12_comesTo 179 = .ok (.iastore, 1) := by decide +kernel
theorem dX12_comesTo_180 : decode cX12_comesTo 180 = .ok (.iinc 5 1, 3) := by decide +kernel
theorem dX12_comesTo_183 : decode cX12_comesTo 183 = .ok (.goto (-177), 3) := by decide +kernel
theorem dX12_comesTo_186 : decode cX12_comesTo 186 = .ok (.aload_n 0, 1) := by decide +kernel
theorem dX12_comesTo_187 : decode cX12_comesTo 187 = .ok (.getfield 37, 3) := by decide +kernel
theorem dX12_comesTo_190 : decode cX12_comesTo 190 = .ok (.iconst 0, 1) := by decide +kernel
theorem dX12_comesTo_191 : decode cX12_comesTo 191 = .ok (.iaload, 1) := by decide +kernel
theorem dX12_comesTo_192 : decode cX12_comesTo 192 = .ok (.ireturn, 1) := by decide +kernel
theorem dX12_lawSays_0 : decode cX12_lawSays 0 = .ok (.bipush 16, 2) := by decide +kernel
theorem dX12_lawSays_2 : decode cX12_lawSays 2 = .ok (.iload_n 1, 1) := by decide +kernel
theorem dX12_lawSays_3 : decode cX12_lawSays 3 = .ok (.imul, 1) := by decide +kernel
theorem dX12_lawSays_4 : decode cX12_lawSays 4 = .ok (.istore 4, 2) := by decide +kernel
theorem dX12_lawSays_6 : decode cX12_lawSays 6 = .ok (.iload 4, 2) := by decide +kernel
theorem dX12_lawSays_8 : decode cX12_lawSays 8 = .ok (.bipush 16, 2) := by decide +kernel
theorem dX12_lawSays_10 : decode cX12_lawSays 10 = .ok (.iload_n 1, 1) := by decide +kernel
theorem dX12_lawSays_11 : decode cX12_lawSays 11 = .ok (.imul, 1) := by decide +kernel
theorem dX12_lawSays_12 : decode cX12_lawSays 12 = .ok (.aload_n 0, 1) := by decide +kernel
theorem dX12_lawSays_13 : decode cX12_lawSays 13 = .ok (.getfield 7, 3) := by decide +kernel
theorem dX12_lawSays_16 : decode cX12_lawSays 16 = .ok (.sipush 2634, 3) := by decide +kernel
theorem dX12_lawSays_19 : decode cX12_lawSays 19 = .ok (.iload_n 1, 1) := by decide +kernel
theorem dX12_lawSays_20 : decode cX12_lawSays 20 = .ok (.iadd, 1) := by decide +kernel
theorem dX12_lawSays_21 : decode cX12_lawSays 21 = .ok (.iaload, 1) := by decide +kernel
theorem dX12_lawSays_22 : decode cX12_lawSays 22 = .ok (.iadd, 1) := by decide +kernel
theorem dX12_lawSays_23 : decode cX12_lawSays 23 = .ok (.if_icmp .ge 101, 3) := by decide +kernel
theorem dX12_lawSays_26 : decode cX12_lawSays 26 = .ok (.aload_n 0, 1) := by decide +kernel
theorem dX12_lawSays_27 : decode cX12_lawSays 27 = .ok (.getfield 7, 3) := by decide +kernel
theorem dX12_lawSays_30 : decode cX12_lawSays 30 = .ok (.sipush 3936, 3) := by decide +kernel
theorem dX12_lawSays_33 : decode cX12_lawSays 33 = .ok (.iload 4, 2) := by decide +kernel
theorem dX12_lawSays_35 : decode cX12_lawSays 35 = .ok (.iadd, 1) := by decide +kernel
theorem dX12_lawSays_36 : decode cX12_lawSays 36 = .ok (.iaload, 1) := by decide +kernel
theorem dX12_lawSays_37 : decode cX12_lawSays 37 = .ok (.aload_n 0, 1) := by decide +kernel
theorem dX12_lawSays_38 : decode cX12_lawSays 38 = .ok (.getfield 7, 3) := by decide +kernel
theorem dX12_lawSays_41 : decode cX12_lawSays 41 = .ok (.sipush 3888, 3) := by decide +kernel
theorem dX12_lawSays_44 : decode cX12_lawSays 44 = .ok (.iload 4, 2) := by decide +kernel
theorem dX12_lawSays_46 : decode cX12_lawSays 46 = .ok (.iadd, 1) := by decide +kernel
theorem dX12_lawSays_47 : decode cX12_lawSays 47 = .ok (.iaload, 1) := by decide +kernel
theorem dX12_lawSays_48 : decode cX12_lawSays 48 = .ok (.if_icmp .eq 34, 3) := by decide +kernel
theorem dX12_lawSays_51 : decode cX12_lawSays 51 = .ok (.aload_n 0, 1) := by decide +kernel
theorem dX12_lawSays_52 : decode cX12_lawSays 52 = .ok (.iload_n 1, 1) := by decide +kernel
theorem dX12_lawSays_53 : decode cX12_lawSays 53 = .ok (.aload_n 0, 1) := by decide +kernel
theorem dX12_lawSays_54 : decode cX12_lawSays 54 = .ok (.getfield 7, 3) := by decide +kernel
theorem dX12_lawSays_57 : decode cX12_lawSays 57 = .ok (.sipush 3888, 3) := by decide +kernel
theorem dX12_lawSays_60 : decode cX12_lawSays 60 = .ok (.iload 4, 2) := by decide +kernel
theorem dX12_lawSays_62 : decode cX12_lawSays 62 = .ok (.iadd, 1) := by decide +kernel
theorem dX12_lawSays_63 : decode cX12_lawSays 63 = .ok (.iaload, 1) := by decide +kernel
theorem dX12_lawSays_64 : decode cX12_lawSays 64 = .ok (.aload_n 0, 1) := by decide +kernel
theorem dX12_lawSays_65 : decode cX12_lawSays 65 = .ok (.getfield 7, 3) := by decide +kernel
theorem dX12_lawSays_68 : decode cX12_lawSays 68 = .ok (.sipush 3936, 3) := by decide +kernel
theorem dX12_lawSays_71 : decode cX12_lawSays 71 = .ok (.iload 4, 2) := by decide +kernel
theorem dX12_lawSays_73 : decode cX12_lawSays 73 = .ok (.iadd, 1) := by decide +kernel
theorem dX12_lawSays_74 : decode cX12_lawSays 74 = .ok (.iaload, 1) := by decide +kernel
theorem dX12_lawSays_75 : decode cX12_lawSays 75 = .ok (.invokevirtual 331, 3) := by decide +kernel
theorem dX12_lawSays_78 : decode cX12_lawSays 78 = .ok (.iconst 1, 1) := by decide +kernel
theorem dX12_lawSays_79 : decode cX12_lawSays 79 = .ok (.if_icmp .ne 39, 3) := by decide +kernel
theorem dX12_lawSays_82 : decode cX12_lawSays 82 = .ok (.iconst 0, 1) := by decide +kernel
theorem dX12_lawSays_83 : decode cX12_lawSays 83 = .ok (.iload_n 3, 1) := by decide +kernel
theorem dX12_lawSays_84 : decode cX12_lawSays 84 = .ok (.aload_n 0, 1) := by decide +kernel
theorem dX12_lawSays_85 : decode cX12_lawSays 85 = .ok (.iload_n 1, 1) := by decide +kernel
theorem dX12_lawSays_86 : decode cX12_lawSays 86 = .ok (.aload_n 0, 1) := by decide +kernel
theorem dX12_lawSays_87 : decode cX12_lawSays 87 = .ok (.getfield 7, 3) := by decide +kernel
theorem dX12_lawSays_90 : decode cX12_lawSays 90 = .ok (.sipush 3840, 3) := by decide +kernel
theorem dX12_lawSays_93 : decode cX12_lawSays 93 = .ok (.iload 4, 2) := by decide +kernel
theorem dX12_lawSays_95 : decode cX12_lawSays 95 = .ok (.iadd, 1) := by decide +kernel
theorem dX12_lawSays_96 : decode cX12_lawSays 96 = .ok (.iaload, 1) := by decide +kernel
theorem dX12_lawSays_97 : decode cX12_lawSays 97 = .ok (.aload_n 0, 1) := by decide +kernel
theorem dX12_lawSays_98 : decode cX12_lawSays 98 = .ok (.getfield 7, 3) := by decide +kernel
theorem dX12_lawSays_101 : decode cX12_lawSays 101 = .ok (.sipush 3888, 3) := by decide +kernel
theorem dX12_lawSays_104 : decode cX12_lawSays 104 = .ok (.iload 4, 2) := by decide +kernel
theorem dX12_lawSays_106 : decode cX12_lawSays 106 = .ok (.iadd, 1) := by decide +kernel
theorem dX12_lawSays_107 : decode cX12_lawSays 107 = .ok (.iaload, 1) := by decide +kernel
theorem dX12_lawSays_108 : decode cX12_lawSays 108 = .ok (.invokevirtual 331, 3) := by decide +kernel
theorem dX12_lawSays_111 : decode cX12_lawSays 111 = .ok (.invokestatic 334, 3) := by decide +kernel
theorem dX12_lawSays_114 : decode cX12_lawSays 114 = .ok (.invokestatic 337, 3) := by decide +kernel
theorem dX12_lawSays_117 : decode cX12_lawSays 117 = .ok (.ireturn, 1) := by decide +kernel
theorem dX12_lawSays_118 : decode cX12_lawSays 118 = .ok (.iinc 4 1, 3) := by decide +kernel
theorem dX12_lawSays_121 : decode cX12_lawSays 121 = .ok (.goto (-115), 3) := by decide +kernel
theorem dX12_lawSays_124 : decode cX12_lawSays 124 = .ok (.iconst 0, 1) := by decide +kernel
theorem dX12_lawSays_125 : decode cX12_lawSays 125 = .ok (.iload_n 3, 1) := by decide +kernel
theorem dX12_lawSays_126 : decode cX12_lawSays 126 = .ok (.iload_n 2, 1) := by decide +kernel
theorem dX12_lawSays_127 : decode cX12_lawSays 127 = .ok (.invokestatic 334, 3) := by decide +kernel
theorem dX12_lawSays_130 : decode cX12_lawSays 130 = .ok (.invokestatic 337, 3) := by decide +kernel
theorem dX12_lawSays_133 : decode cX12_lawSays 133 = .ok (.ireturn, 1) := by decide +kernel
theorem dX12_tiedMany_0 : decode cX12_tiedMany 0 = .ok (.iconst 0, 1) := by decide +kernel
theorem dX12_tiedMany_1 : decode cX12_tiedMany 1 = .ok (.istore_n 2, 1) := by decide +kernel
theorem dX12_tiedMany_2 : decode cX12_tiedMany 2 = .ok (.iconst 0, 1) := by decide +kernel
theorem dX12_tiedMany_3 : decode cX12_tiedMany 3 = .ok (.istore_n 3, 1) := by decide +kernel
theorem dX12_tiedMany_4 : decode cX12_tiedMany 4 = .ok (.iload_n 3, 1) := by decide +kernel
theorem dX12_tiedMany_5 : decode cX12_tiedMany 5 = .ok (.aload_n 0, 1) := by decide +kernel
theorem dX12_tiedMany_6 : decode cX12_tiedMany 6 = .ok (.iload_n 1, 1) := by decide +kernel
theorem dX12_tiedMany_7 : decode cX12_tiedMany 7 = .ok (.iconst 1, 1) := by decide +kernel
theorem dX12_tiedMany_8 : decode cX12_tiedMany 8 = .ok (.invokevirtual 78, 3) := by decide +kernel
theorem dX12_tiedMany_11 : decode cX12_tiedMany 11 = .ok (.if_icmp .ge 26, 3) := by decide +kernel
theorem dX12_tiedMany_14 : decode cX12_tiedMany 14 = .ok (.iload_n 2, 1) := by decide +kernel
theorem dX12_tiedMany_15 : decode cX12_tiedMany 15 = .ok (.aload_n 0, 1) := by decide +kernel
theorem dX12_tiedMany_16 : decode cX12_tiedMany 16 = .ok (.iload_n 1, 1) := by decide +kernel
theorem dX12_tiedMany_17 : decode cX12_tiedMany 17 = .ok (.iload_n 3, 1) := by decide +kernel
theorem dX12_tiedMany_18 : decode cX12_tiedMany 18 = .ok (.invokevirtual 340, 3) := by decide +kernel
theorem dX12_tiedMany_21 : decode cX12_tiedMany 21 = .ok (.ifCond .eq 7, 3) := by decide +kernel
theorem dX12_tiedMany_24 : decode cX12_tiedMany 24 = .ok (.iconst 1, 1) := by decide +kernel
theorem dX12_tiedMany_25 : decode cX12_tiedMany 25 = .ok (.goto 4, 3) := by decide +kernel
theorem dX12_tiedMany_28 : decode cX12_tiedMany 28 = .ok (.iconst 0, 1) := by decide +kernel
theorem dX12_tiedMany_29 : decode cX12_tiedMany 29 = .ok (.iadd, 1) := by decide +kernel
theorem dX12_tiedMany_30 : decode cX12_tiedMany 30 = .ok (.istore_n 2, 1) := by decide +kernel
theorem dX12_tiedMany_31 : decode cX12_tiedMany 31 = .ok (.iinc 3 1, 3) := by decide +kernel
theorem dX12_tiedMany_34 : decode cX12_tiedMany 34 = .ok (.goto (-30), 3) := by decide +kernel
theorem dX12_tiedMany_37 : decode cX12_tiedMany 37 = .ok (.iload_n 2, 1) := by decide +kernel
theorem dX12_tiedMany_38 : decode cX12_tiedMany 38 = .ok (.ireturn, 1) := by decide +kernel
theorem dX12_beside_0 : decode cX12_beside 0 = .ok (.iload_n 2, 1) := by decide +kernel
theorem dX12_beside_1 : decode cX12_beside 1 = .ok (.ifCond .le 18, 3) := by decide +kernel
theorem dX12_beside_4 : decode cX12_beside 4 = .ok (.aload_n 0, 1) := by decide +kernel
theorem dX12_beside_5 : decode cX12_beside 5 = .ok (.iload_n 1, 1) := by decide +kernel
theorem dX12_beside_6 : decode cX12_beside 6 = .ok (.iload_n 2, 1) := by decide +kernel
theorem dX12_beside_7 : decode cX12_beside 7 = .ok (.iconst 1, 1) := by decide +kernel
theorem dX12_beside_8 : decode cX12_beside 8 = .ok (.isub, 1) := by decide +kernel
theorem dX12_beside_9 : decode cX12_beside 9 = .ok (.invokevirtual 340, 3) := by decide +kernel
theorem dX12_beside_12 : decode cX12_beside 12 = .ok (.ifCond .eq 7, 3) := by decide +kernel
theorem dX12_beside_15 : decode cX12_beside 15 = .ok (.iconst 1, 1) := by decide +kernel
theorem dX12_beside_16 : decode cX12_beside 16 = .ok (.goto 4, 3) := by decide +kernel
theorem dX12_beside_19 : decode cX12_beside 19 = .ok (.iconst 0, 1) := by decide +kernel
theorem dX12_beside_20 : decode cX12_beside 20 = .ok (.iload_n 2, 1) := by decide +kernel
theorem dX12_beside_21 : decode cX12_beside 21 = .ok (.iconst 1, 1) := by decide +kernel
theorem dX12_beside_22 : decode cX12_beside 22 = .ok (.iadd, 1) := by decide +kernel
theorem dX12_beside_23 : decode cX12_beside 23 = .ok (.aload_n 0, 1) := by decide +kernel
theorem dX12_beside_24 : decode cX12_beside 24 = .ok (.iload_n 1, 1) := by decide +kernel
theorem dX12_beside_25 : decode cX12_beside 25 = .ok (.iconst 1, 1) := by decide +kernel
theorem dX12_beside_26 : decode cX12_beside 26 = .ok (.invokevirtual 78, 3) := by decide +kernel
theorem dX12_beside_29 : decode cX12_beside 29 = .ok (.if_icmp .ge 18, 3) := by decide +kernel
theorem dX12_beside_32 : decode cX12_beside 32 = .ok (.aload_n 0, 1) := by decide +kernel
theorem dX12_beside_33 : decode cX12_beside 33 = .ok (.iload_n 1, 1) := by decide +kernel
theorem dX12_beside_34 : decode cX12_beside 34 = .ok (.iload_n 2, 1) := by decide +kernel
theorem dX12_beside_35 : decode cX12_beside 35 = .ok (.iconst 1, 1) := by decide +kernel
theorem dX12_beside_36 : decode cX12_beside 36 = .ok (.iadd, 1) := by decide +kernel
theorem dX12_beside_37 : decode cX12_beside 37 = .ok (.invokevirtual 340, 3) := by decide +kernel
theorem dX12_beside_40 : decode cX12_beside 40 = .ok (.ifCond .eq 7, 3) := by decide +kernel
theorem dX12_beside_43 : decode cX12_beside 43 = .ok (.iconst 1, 1) := by decide +kernel
theorem dX12_beside_44 : decode cX12_beside 44 = .ok (.goto 4, 3) := by decide +kernel
theorem dX12_beside_47 : decode cX12_beside 47 = .ok (.iconst 0, 1) := by decide +kernel
theorem dX12_beside_48 : decode cX12_beside 48 = .ok (.iadd, 1) := by decide +kernel
theorem dX12_beside_49 : decode cX12_beside 49 = .ok (.ireturn, 1) := by decide +kernel
theorem dX12_habitFacts_0 : decode cX12_habitFacts 0 = .ok (.aload_n 0, 1) := by decide +kernel
theorem dX12_habitFacts_1 : decode cX12_habitFacts 1 = .ok (.getfield 40, 3) := by decide +kernel
theorem dX12_habitFacts_4 : decode cX12_habitFacts 4 = .ok (.iconst 1, 1) := by decide +kernel
theorem dX12_habitFacts_5 : decode cX12_habitFacts 5 = .ok (.iload 4, 2) := by decide +kernel
theorem dX12_habitFacts_7 : decode cX12_habitFacts 7 = .ok (.iastore, 1) := by decide +kernel
theorem dX12_habitFacts_8 : decode cX12_habitFacts 8 = .ok (.aload_n 0, 1) := by decide +kernel
theorem dX12_habitFacts_9 : decode cX12_habitFacts 9 = .ok (.getfield 40, 3) := by decide +kernel
theorem dX12_habitFacts_12 : decode cX12_habitFacts 12 = .ok (.iconst 2, 1) := by decide +kernel
theorem dX12_habitFacts_13 : decode cX12_habitFacts 13 = .ok (.iload 5, 2) := by decide +kernel
theorem dX12_habitFacts_15 : decode cX12_habitFacts 15 = .ok (.iastore, 1) := by decide +kernel
theorem dX12_habitFacts_16 : decode cX12_habitFacts 16 = .ok (.aload_n 0, 1) := by decide +kernel
theorem dX12_habitFacts_17 : decode cX12_habitFacts 17 = .ok (.getfield 40, 3) := by decide +kernel
theorem dX12_habitFacts_20 : decode cX12_habitFacts 20 = .ok (.iconst 3, 1) := by decide +kernel
theorem dX12_habitFacts_21 : decode cX12_habitFacts 21 = .ok (.iload_n 2, 1) := by decide +kernel
theorem dX12_habitFacts_22 : decode cX12_habitFacts 22 = .ok (.iastore, 1) := by decide +kernel
theorem dX12_habitFacts_23 : decode cX12_habitFacts 23 = .ok (.aload_n 0, 1) := by decide +kernel
theorem dX12_habitFacts_24 : decode cX12_habitFacts 24 = .ok (.getfield 40, 3) := by decide +kernel
theorem dX12_habitFacts_27 : decode cX12_habitFacts 27 = .ok (.iconst 4, 1) := by decide +kernel
theorem dX12_habitFacts_28 : decode cX12_habitFacts 28 = .ok (.iload_n 3, 1) := by decide +kernel
theorem dX12_habitFacts_29 : decode cX12_habitFacts 29 = .ok (.iastore, 1) := by decide +kernel
theorem dX12_habitFacts_30 : decode cX12_habitFacts 30 = .ok (.aload_n 0, 1) := by decide +kernel
theorem dX12_habitFacts_31 : decode cX12_habitFacts 31 = .ok (.getfield 40, 3) := by decide +kernel
theorem dX12_habitFacts_34 : decode cX12_habitFacts 34 = .ok (.iconst 5, 1) := by decide +kernel
theorem dX12_habitFacts_35 : decode cX12_habitFacts 35 = .ok (.aload_n 0, 1) := by decide +kernel
theorem dX12_habitFacts_36 : decode cX12_habitFacts 36 = .ok (.getfield 7, 3) := by decide +kernel
theorem dX12_habitFacts_39 : decode cX12_habitFacts 39 = .ok (.sipush 2564, 3) := by decide +kernel
theorem dX12_habitFacts_42 : decode cX12_habitFacts 42 = .ok (.iload_n 3, 1) := by decide +kernel
theorem dX12_habitFacts_43 : decode cX12_habitFacts 43 = .ok (.iadd, 1) := by decide +kernel
theorem dX12_habitFacts_44 : decode cX12_habitFacts 44 = .ok (.iaload, 1) := by decide +kernel
theorem dX12_habitFacts_45 : decode cX12_habitFacts 45 = .ok (.iastore, 1) := by decide +kernel
theorem dX12_habitFacts_46 : decode cX12_habitFacts 46 = .ok (.aload_n 0, 1) := by decide +kernel
theorem dX12_habitFacts_47 : decode cX12_habitFacts 47 = .ok (.getfield 40, 3) := by decide +kernel
theorem dX12_habitFacts_50 : decode cX12_habitFacts 50 = .ok (.bipush 6, 2) := by decide +kernel
theorem dX12_habitFacts_52 : decode cX12_habitFacts 52 = .ok (.aload_n 0, 1) := by decide +kernel
theorem dX12_habitFacts_53 : decode cX12_habitFacts 53 = .ok (.iload_n 1, 1) := by decide +kernel
theorem dX12_habitFacts_54 : decode cX12_habitFacts 54 = .ok (.iconst 4, 1) := by decide +kernel
theorem dX12_habitFacts_55 : decode cX12_habitFacts 55 = .ok (.invokevirtual 78, 3) := by decide +kernel
theorem dX12_habitFacts_58 : decode cX12_habitFacts 58 = .ok (.iastore, 1) := by decide +kernel
theorem dX12_habitFacts_59 : decode cX12_habitFacts 59 = .ok (.return_, 1) := by decide +kernel
theorem dX12_needWith_0 : decode cX12_needWith 0 = .ok (.aload_n 0, 1) := by decide +kernel
theorem dX12_needWith_1 : decode cX12_needWith 1 = .ok (.iload_n 1, 1) := by decide +kernel
theorem dX12_needWith_2 : decode cX12_needWith 2 = .ok (.iload_n 2, 1) := by decide +kernel
theorem dX12_needWith_3 : decode cX12_needWith 3 = .ok (.iload_n 3, 1) := by decide +kernel
theorem dX12_needWith_4 : decode cX12_needWith 4 = .ok (.iload 4, 2) := by decide +kernel
theorem dX12_needWith_6 : decode cX12_needWith 6 = .ok (.iload 5, 2) := by decide +kernel
theorem dX12_needWith_8 : decode cX12_needWith 8 = .ok (.invokevirtual 343, 3) := by decide +kernel
theorem dX12_needWith_11 : decode cX12_needWith 11 = .ok (.aload_n 0, 1) := by decide +kernel
theorem dX12_needWith_12 : decode cX12_needWith 12 = .ok (.getfield 40, 3) := by decide +kernel
theorem dX12_needWith_15 : decode cX12_needWith 15 = .ok (.bipush 7, 2) := by decide +kernel
theorem dX12_needWith_17 : decode cX12_needWith 17 = .ok (.aload_n 0, 1) := by decide +kernel
theorem dX12_needWith_18 : decode cX12_needWith 18 = .ok (.iload_n 1, 1) := by decide +kernel
theorem dX12_needWith_19 : decode cX12_needWith 19 = .ok (.iload_n 2, 1) := by decide +kernel
theorem dX12_needWith_20 : decode cX12_needWith 20 = .ok (.invokevirtual 346, 3) := by decide +kernel
theorem dX12_needWith_23 : decode cX12_needWith 23 = .ok (.iastore, 1) := by decide +kernel
theorem dX12_needWith_24 : decode cX12_needWith 24 = .ok (.aload_n 0, 1) := by decide +kernel
theorem dX12_needWith_25 : decode cX12_needWith 25 = .ok (.getfield 40, 3) := by decide +kernel
theorem dX12_needWith_28 : decode cX12_needWith 28 = .ok (.bipush 8, 2) := by decide +kernel
theorem dX12_needWith_30 : decode cX12_needWith 30 = .ok (.aload_n 0, 1) := by decide +kernel
theorem dX12_needWith_31 : decode cX12_needWith 31 = .ok (.iload_n 1, 1) := by decide +kernel
theorem dX12_needWith_32 : decode cX12_needWith 32 = .ok (.invokevirtual 348, 3) := by decide +kernel
theorem dX12_needWith_35 : decode cX12_needWith 35 = .ok (.iastore, 1) := by decide +kernel
theorem dX12_needWith_36 : decode cX12_needWith 36 = .ok (.aload_n 0, 1) := by decide +kernel
theorem dX12_needWith_37 : decode cX12_needWith 37 = .ok (.iconst 0, 1) := by decide +kernel
theorem dX12_needWith_38 : decode cX12_needWith 38 = .ok (.bipush 100, 2) := by decide +kernel
theorem dX12_needWith_40 : decode cX12_needWith 40 = .ok (.iload 4, 2) := by decide +kernel
theorem dX12_needWith_42 : decode cX12_needWith 42 = .ok (.isub, 1) := by decide +kernel
theorem dX12_needWith_43 : decode cX12_needWith 43 = .ok (.sipush 999, 3) := by decide +kernel
theorem dX12_needWith_46 : decode cX12_needWith 46 = .ok (.invokevirtual 351, 3) := by decide +kernel
theorem dX12_needWith_49 : decode cX12_needWith 49 = .ok (.ireturn, 1) := by decide +kernel
theorem dX12_needOf_0 : decode cX12_needOf 0 = .ok (.aload_n 0, 1) := by decide +kernel
theorem dX12_needOf_1 : decode cX12_needOf 1 = .ok (.iload_n 1, 1) := by decide +kernel
theorem dX12_needOf_2 : decode cX12_needOf 2 = .ok (.iload_n 2, 1) := by decide +kernel
theorem dX12_needOf_3 : decode cX12_needOf 3 = .ok (.iload_n 3, 1) := by decide +kernel
theorem dX12_needOf_4 : decode cX12_needOf 4 = .ok (.aload_n 0, 1) := by decide +kernel
theorem dX12_needOf_5 : decode cX12_needOf 5 = .ok (.iload_n 1, 1) := by decide +kernel
theorem dX12_needOf_6 : decode cX12_needOf 6 = .ok (.iload_n 2, 1) := by decide +kernel
theorem dX12_needOf_7 : decode cX12_needOf 7 = .ok (.iload_n 3, 1) := by decide +kernel
theorem dX12_needOf_8 : decode cX12_needOf 8 = .ok (.invokevirtual 354, 3) := by decide +kernel
theorem dX12_needOf_11 : decode cX12_needOf 11 = .ok (.aload_n 0, 1) := by decide +kernel
theorem dX12_needOf_12 : decode cX12_needOf 12 = .ok (.getfield 7, 3) := by decide +kernel
theorem dX12_needOf_15 : decode cX12_needOf 15 = .ok (.iconst 0, 1) := by decide +kernel
theorem dX12_needOf_16 : decode cX12_needOf 16 = .ok (.iaload, 1) := by decide +kernel
theorem dX12_needOf_17 : decode cX12_needOf 17 = .ok (.aload_n 0, 1) := by decide +kernel
theorem dX12_needOf_18 : decode cX12_needOf 18 = .ok (.iload_n 1, 1) := by decide +kernel
theorem dX12_needOf_19 : decode cX12_needOf 19 = .ok (.iload_n 2, 1) := by decide +kernel
theorem dX12_needOf_20 : decode cX12_needOf 20 = .ok (.bipush 7, 2) := by decide +kernel
theorem dX12_needOf_22 : decode cX12_needOf 22 = .ok (.iload_n 3, 1) := by decide +kernel
theorem dX12_needOf_23 : decode cX12_needOf 23 = .ok (.iadd, 1) := by decide +kernel
theorem dX12_needOf_24 : decode cX12_needOf 24 = .ok (.invokevirtual 86, 3) := by decide +kernel
theorem dX12_needOf_27 : decode cX12_needOf 27 = .ok (.isub, 1) := by decide +kernel
theorem dX12_needOf_28 : decode cX12_needOf 28 = .ok (.invokevirtual 357, 3) := by decide +kernel
theorem dX12_needOf_31 : decode cX12_needOf 31 = .ok (.ireturn, 1) := by decide +kernel
theorem dX12_lossOf_0 : decode cX12_lossOf 0 = .ok (.aload_n 0, 1) := by decide +kernel
theorem dX12_lossOf_1 : decode cX12_lossOf 1 = .ok (.iload_n 1, 1) := by decide +kernel
theorem dX12_lossOf_2 : decode cX12_lossOf 2 = .ok (.iload_n 2, 1) := by decide +kernel
theorem dX12_lossOf_3 : decode cX12_lossOf 3 = .ok (.iload_n 3, 1) := by decide +kernel
theorem dX12_lossOf_4 : decode cX12_lossOf 4 = .ok (.aload_n 0, 1) := by decide +kernel
theorem dX12_lossOf_5 : decode cX12_lossOf 5 = .ok (.iload_n 1, 1) := by decide +kernel
theorem dX12_lossOf_6 : decode cX12_lossOf 6 = .ok (.iload_n 2, 1) := by decide +kernel
theorem dX12_lossOf_7 : decode cX12_lossOf 7 = .ok (.iload_n 3, 1) := by decide +kernel
theorem dX12_lossOf_8 : decode cX12_lossOf 8 = .ok (.invokevirtual 354, 3) := by decide +kernel
theorem dX12_lossOf_11 : decode cX12_lossOf 11 = .ok (.aload_n 0, 1) := by decide +kernel
theorem dX12_lossOf_12 : decode cX12_lossOf 12 = .ok (.getfield 7, 3) := by decide +kernel
theorem dX12_lossOf_15 : decode cX12_lossOf 15 = .ok (.iconst 0, 1) := by decide +kernel
theorem dX12_lossOf_16 : decode cX12_lossOf 16 = .ok (.iaload, 1) := by decide +kernel
theorem dX12_lossOf_17 : decode cX12_lossOf 17 = .ok (.aload_n 0, 1) := by decide +kernel
theorem dX12_lossOf_18 : decode cX12_lossOf 18 = .ok (.iload_n 1, 1) := by decide +kernel
theorem dX12_lossOf_19 : decode cX12_lossOf 19 = .ok (.iload_n 2, 1) := by decide +kernel
theorem dX12_lossOf_20 : decode cX12_lossOf 20 = .ok (.bipush 7, 2) := by decide +kernel
theorem dX12_lossOf_22 : decode cX12_lossOf 22 = .ok (.iload_n 3, 1) := by decide +kernel
theorem dX12_lossOf_23 : decode cX12_lossOf 23 = .ok (.iadd, 1) := by decide +kernel
theorem dX12_lossOf_24 : decode cX12_lossOf 24 = .ok (.invokevirtual 86, 3) := by decide +kernel
theorem dX12_lossOf_27 : decode cX12_lossOf 27 = .ok (.isub, 1) := by decide +kernel
theorem dX12_lossOf_28 : decode cX12_lossOf 28 = .ok (.invokevirtual 343, 3) := by decide +kernel
theorem dX12_lossOf_31 : decode cX12_lossOf 31 = .ok (.aload_n 0, 1) := by decide +kernel
theorem dX12_lossOf_32 : decode cX12_lossOf 32 = .ok (.iconst 1, 1) := by decide +kernel
theorem dX12_lossOf_33 : decode cX12_lossOf 33 = .ok (.iconst 1, 1) := by decide +kernel
theorem dX12_lossOf_34 : decode cX12_lossOf 34 = .ok (.bipush 99, 2) := by decide +kernel
theorem dX12_lossOf_36 : decode cX12_lossOf 36 = .ok (.invokevirtual 351, 3) := by decide +kernel
theorem dX12_lossOf_39 : decode cX12_lossOf 39 = .ok (.ireturn, 1) := by decide +kernel
theorem dX12_habitsAt_0 : decode cX12_habitsAt 0 = .ok (.iconst 0, 1) := by decide +kernel
theorem dX12_habitsAt_1 : decode cX12_habitsAt 1 = .ok (.istore_n 3, 1) := by decide +kernel
theorem dX12_habitsAt_2 : decode cX12_habitsAt 2 = .ok (.iconst 0, 1) := by decide +kernel
theorem dX12_habitsAt_3 : decode cX12_habitsAt 3 = .ok (.istore 4, 2) := by decide +kernel
theorem dX12_habitsAt_5 : decode cX12_habitsAt 5 = .ok (.iload 4, 2) := by decide +kernel
theorem dX12_habitsAt_7 : decode cX12_habitsAt 7 = .ok (.bipush 6, 2) := by decide +kernel
theorem dX12_habitsAt_9 : decode cX12_habitsAt 9 = .ok (.if_icmp .ge 20, 3) := by decide +kernel
theorem dX12_habitsAt_12 : decode cX12_habitsAt 12 = .ok (.iload_n 3, 1) := by decide +kernel
theorem dX12_habitsAt_13 : decode cX12_habitsAt 13 = .ok (.aload_n 0, 1) := by decide +kernel
theorem dX12_habitsAt_14 : decode cX12_habitsAt 14 = .ok (.iload_n 1, 1) := by decide +kernel
theorem dX12_habitsAt_15 : decode cX12_habitsAt 15 = .ok (.iload_n 2, 1) := by decide +kernel
theorem dX12_habitsAt_16 : decode cX12_habitsAt 16 = .ok (.iload 4, 2) := by decide +kernel
theorem dX12_habitsAt_18 : decode cX12_habitsAt 18 = .ok (.invokevirtual 354, 3) := by decide +kernel
theorem dX12_habitsAt_21 : decode cX12_habitsAt 21 = .ok (.iadd, 1) := by decide +kernel
theorem dX12_habitsAt_22 : decode cX12_habitsAt 22 = .ok (.istore_n 3, 1) := by decide +kernel
theorem dX12_habitsAt_23 : decode cX12_habitsAt 23 = .ok (.iinc 4 1, 3) := by decide +kernel
theorem dX12_habitsAt_26 : decode cX12_habitsAt 26 = .ok (.goto (-21), 3) := by decide +kernel
theorem dX12_habitsAt_29 : decode cX12_habitsAt 29 = .ok (.iload_n 3, 1) := by decide +kernel
theorem dX12_habitsAt_30 : decode cX12_habitsAt 30 = .ok (.ireturn, 1) := by decide +kernel
theorem dX12_strength_0 : decode cX12_strength 0 = .ok (.aload_n 0, 1) := by decide +kernel
theorem dX12_strength_1 : decode cX12_strength 1 = .ok (.iload_n 1, 1) := by decide +kernel
theorem dX12_strength_2 : decode cX12_strength 2 = .ok (.iload_n 2, 1) := by decide +kernel
theorem dX12_strength_3 : decode cX12_strength 3 = .ok (.iconst 0, 1) := by decide +kernel
theorem dX12_strength_4 : decode cX12_strength 4 = .ok (.invokevirtual 86, 3) := by decide +kernel
theorem dX12_strength_7 : decode cX12_strength 7 = .ok (.istore_n 3, 1) := by decide +kernel
theorem dX12_strength_8 : decode cX12_strength 8 = .ok (.aload_n 0, 1) := by decide +kernel
theorem dX12_strength_9 : decode cX12_strength 9 = .ok (.getfield 40, 3) := by decide +kernel
theorem dX12_strength_12 : decode cX12_strength 12 = .ok (.bipush 9, 2) := by decide +kernel
theorem dX12_strength_14 : decode cX12_strength 14 = .ok (.iload_n 3, 1) := by decide +kernel
theorem dX12_strength_15 : decode cX12_strength 15 = .ok (.iconst (-1), 1) := by decide +kernel
theorem dX12_strength_16 : decode cX12_strength 16 = .ok (.if_icmp .ne 7, 3) := by decide +kernel
theorem dX12_strength_19 : decode cX12_strength 19 = .ok (.iconst 0, 1) := by decide +kernel
theorem dX12_strength_20 : decode cX12_strength 20 = .ok (.goto 4, 3) := by decide +kernel
theorem dX12_strength_23 : decode cX12_strength 23 = .ok (.iconst 1, 1) := by decide +kernel
theorem dX12_strength_24 : decode cX12_strength 24 = .ok (.iastore, 1) := by decide +kernel
theorem dX12_strength_25 : decode cX12_strength 25 = .ok (.aload_n 0, 1) := by decide +kernel
theorem dX12_strength_26 : decode cX12_strength 26 = .ok (.getfield 40, 3) := by decide +kernel
theorem dX12_strength_29 : decode cX12_strength 29 = .ok (.iconst 5, 1) := by decide +kernel
theorem dX12_strength_30 : decode cX12_strength 30 = .ok (.iload_n 3, 1) := by decide +kernel
theorem dX12_strength_31 : decode cX12_strength 31 = .ok (.iconst (-1), 1) := by decide +kernel
theorem dX12_strength_32 : decode cX12_strength 32 = .ok (.if_icmp .ne 7, 3) := by decide +kernel
theorem dX12_strength_35 : decode cX12_strength 35 = .ok (.iconst 0, 1) := by decide +kernel
theorem dX12_strength_36 : decode cX12_strength 36 = .ok (.goto 13, 3) := by decide +kernel
theorem dX12_strength_39 : decode cX12_strength 39 = .ok (.aload_n 0, 1) := by decide +kernel
theorem dX12_strength_40 : decode cX12_strength 40 = .ok (.getfield 7, 3) := by decide +kernel
theorem dX12_strength_43 : decode cX12_strength 43 = .ok (.sipush 2564, 3) := by decide +kernel
theorem dX12_strength_46 : decode cX12_strength 46 = .ok (.iload_n 3, 1) := by decide +kernel
theorem dX12_strength_47 : decode cX12_strength 47 = .ok (.iadd, 1) := by decide +kernel
theorem dX12_strength_48 : decode cX12_strength 48 = .ok (.iaload, 1) := by decide +kernel
theorem dX12_strength_49 : decode cX12_strength 49 = .ok (.iastore, 1) := by decide +kernel
theorem dX12_strength_50 : decode cX12_strength 50 = .ok (.aload_n 0, 1) := by decide +kernel
theorem dX12_strength_51 : decode cX12_strength 51 = .ok (.getfield 40, 3) := by decide +kernel
theorem dX12_strength_54 : decode cX12_strength 54 = .ok (.bipush 10, 2) := by decide +kernel
theorem dX12_strength_56 : decode cX12_strength 56 = .ok (.iload_n 3, 1) := by decide +kernel
theorem dX12_strength_57 : decode cX12_strength 57 = .ok (.iconst (-1), 1) := by decide +kernel
theorem dX12_strength_58 : decode cX12_strength 58 = .ok (.if_icmp .ne 7, 3) := by decide +kernel
theorem dX12_strength_61 : decode cX12_strength 61 = .ok (.iconst 0, 1) := by decide +kernel
theorem dX12_strength_62 : decode cX12_strength 62 = .ok (.goto 13, 3) := by decide +kernel
theorem dX12_strength_65 : decode cX12_strength 65 = .ok (.aload_n 0, 1) := by decide +kernel
theorem dX12_strength_66 : decode cX12_strength 66 = .ok (.getfield 7, 3) := by decide +kernel
theorem dX12_strength_69 : decode cX12_strength 69 = .ok (.sipush 2570, 3) := by decide +kernel
theorem dX12_strength_72 : decode cX12_strength 72 = .ok (.iload_n 3, 1) := by decide +kernel
theorem dX12_strength_73 : decode cX12_strength 73 = .ok (.iadd, 1) := by decide +kernel
theorem dX12_strength_74 : decode cX12_strength 74 = .ok (.iaload, 1) := by decide +kernel
theorem dX12_strength_75 : decode cX12_strength 75 = .ok (.iastore, 1) := by decide +kernel
theorem dX12_strength_76 : decode cX12_strength 76 = .ok (.aload_n 0, 1) := by decide +kernel
theorem dX12_strength_77 : decode cX12_strength 77 = .ok (.getfield 40, 3) := by decide +kernel
theorem dX12_strength_80 : decode cX12_strength 80 = .ok (.bipush 11, 2) := by decide +kernel
theorem dX12_strength_82 : decode cX12_strength 82 = .ok (.aload_n 0, 1) := by decide +kernel
theorem dX12_strength_83 : decode cX12_strength 83 = .ok (.getfield 7, 3) := by decide +kernel
theorem dX12_strength_86 : decode cX12_strength 86 = .ok (.iconst 0, 1) := by decide +kernel
theorem dX12_strength_87 : decode cX12_strength 87 = .ok (.iaload, 1) := by decide +kernel
theorem dX12_strength_88 : decode cX12_strength 88 = .ok (.aload_n 0, 1) := by decide +kernel
theorem dX12_strength_89 : decode cX12_strength 89 = .ok (.iload_n 1, 1) := by decide +kernel
theorem dX12_strength_90 : decode cX12_strength 90 = .ok (.iconst 3, 1) := by decide +kernel
theorem dX12_strength_91 : decode cX12_strength 91 = .ok (.invokevirtual 78, 3) := by decide +kernel
theorem dX12_strength_94 : decode cX12_strength 94 = .ok (.isub, 1) := by decide +kernel
theorem dX12_strength_95 : decode cX12_strength 95 = .ok (.sipush 365, 3) := by decide +kernel
theorem dX12_strength_98 : decode cX12_strength 98 = .ok (.idiv, 1) := by decide +kernel
theorem dX12_strength_99 : decode cX12_strength 99 = .ok (.iastore, 1) := by decide +kernel
theorem dX12_strength_100 : decode cX12_strength 100 = .ok (.aload_n 0, 1) := by decide +kernel
theorem dX12_strength_101 : decode cX12_strength 101 = .ok (.getfield 40, 3) := by decide +kernel
theorem dX12_strength_104 : decode cX12_strength 104 = .ok (.iconst 3, 1) := by decide +kernel
theorem dX12_strength_105 : decode cX12_strength 105 = .ok (.iload_n 2, 1) := by decide +kernel
theorem dX12_strength_106 : decode cX12_strength 106 = .ok (.iastore, 1) := by decide +kernel
theorem dX12_strength_107 : decode cX12_strength 107 = .ok (.aload_n 0, 1) := by decide +kernel
theorem dX12_strength_108 : decode cX12_strength 108 = .ok (.getfield 40, 3) := by decide +kernel
theorem dX12_strength_111 : decode cX12_strength 111 = .ok (.bipush 12, 2) := by decide +kernel
theorem dX12_strength_113 : decode cX12_strength 113 = .ok (.aload_n 0, 1) := by decide +kernel
theorem dX12_strength_114 : decode cX12_strength 114 = .ok (.iload_n 1, 1) := by decide +kernel
theorem dX12_strength_115 : decode cX12_strength 115 = .ok (.iconst 1, 1) := by decide +kernel
theorem dX12_strength_116 : decode cX12_strength 116 = .ok (.invokevirtual 78, 3) := by decide +kernel
theorem dX12_strength_119 : decode cX12_strength 119 = .ok (.iastore, 1) := by decide +kernel
theorem dX12_strength_120 : decode cX12_strength 120 = .ok (.aload_n 0, 1) := by decide +kernel
theorem dX12_strength_121 : decode cX12_strength 121 = .ok (.getfield 40, 3) := by decide +kernel
theorem dX12_strength_124 : decode cX12_strength 124 = .ok (.bipush 6, 2) := by decide +kernel
theorem dX12_strength_126 : decode cX12_strength 126 = .ok (.aload_n 0, 1) := by decide +kernel
theorem dX12_strength_127 : decode cX12_strength 127 = .ok (.iload_n 1, 1) := by decide +kernel
theorem dX12_strength_128 : decode cX12_strength 128 = .ok (.iconst 4, 1) := by decide +kernel
theorem dX12_strength_129 : decode cX12_strength 129 = .ok (.invokevirtual 78, 3) := by decide +kernel
theorem dX12_strength_132 : decode cX12_strength 132 = .ok (.iastore, 1) := by decide +kernel
theorem dX12_strength_133 : decode cX12_strength 133 = .ok (.aload_n 0, 1) := by decide +kernel
theorem dX12_strength_134 : decode cX12_strength 134 = .ok (.getfield 40, 3) := by decide +kernel
theorem dX12_strength_137 : decode cX12_strength 137 = .ok (.bipush 13, 2) := by decide +kernel
theorem dX12_strength_139 : decode cX12_strength 139 = .ok (.aload_n 0, 1) := by decide +kernel
theorem dX12_strength_140 : decode cX12_strength 140 = .ok (.iload_n 1, 1) := by decide +kernel
theorem dX12_strength_141 : decode cX12_strength 141 = .ok (.iload_n 2, 1) := by decide +kernel
theorem dX12_strength_142 : decode cX12_strength 142 = .ok (.invokevirtual 361, 3) := by decide +kernel
theorem dX12_strength_145 : decode cX12_strength 145 = .ok (.iastore, 1) := by decide +kernel
theorem dX12_strength_146 : decode cX12_strength 146 = .ok (.aload_n 0, 1) := by decide +kernel
theorem dX12_strength_147 : decode cX12_strength 147 = .ok (.iconst 2, 1) := by decide +kernel
theorem dX12_strength_148 : decode cX12_strength 148 = .ok (.bipush 90, 2) := by decide +kernel
theorem dX12_strength_150 : decode cX12_strength 150 = .ok (.sipush 999, 3) := by decide +kernel
theorem dX12_strength_153 : decode cX12_strength 153 = .ok (.invokevirtual 351, 3) := by decide +kernel
theorem dX12_strength_156 : decode cX12_strength 156 = .ok (.ireturn, 1) := by decide +kernel
theorem dX12_callOf_0 : decode cX12_callOf 0 = .ok (.iconst (-1), 1) := by decide +kernel
theorem dX12_callOf_1 : decode cX12_callOf 1 = .ok (.istore_n 3, 1) := by decide +kernel
theorem dX12_callOf_2 : decode cX12_callOf 2 = .ok (.iconst 0, 1) := by decide +kernel
theorem dX12_callOf_3 : decode cX12_callOf 3 = .ok (.istore 4, 2) := by decide +kernel
theorem dX12_callOf_5 : decode cX12_callOf 5 = .ok (.iload 4, 2) := by decide +kernel
theorem dX12_callOf_7 : decode cX12_callOf 7 = .ok (.bipush 6, 2) := by decide +kernel
theorem dX12_callOf_9 : decode cX12_callOf 9 = .ok (.if_icmp .ge 113, 3) := by decide +kernel
theorem dX12_callOf_12 : decode cX12_callOf 12 = .ok (.aload_n 0, 1) := by decide +kernel
theorem dX12_callOf_13 : decode cX12_callOf 13 = .ok (.iload_n 1, 1) := by decide +kernel
theorem dX12_callOf_14 : decode cX12_callOf 14 = .ok (.iload_n 2, 1) := by decide +kernel
theorem dX12_callOf_15 : decode cX12_callOf 15 = .ok (.iload 4, 2) := by decide +kernel
theorem dX12_callOf_17 : decode cX12_callOf 17 = .ok (.invokevirtual 354, 3) := by decide +kernel
theorem dX12_callOf_20 : decode cX12_callOf 20 = .ok (.ifCond .ne 6, 3) := by decide +kernel
theorem dX12_callOf_23 : decode cX12_callOf 23 = .ok (.goto 93, 3) := by decide +kernel
theorem dX12_callOf_26 : decode cX12_callOf 26 = .ok (.iload_n 3, 1) := by decide +kernel
theorem dX12_callOf_27 : decode cX12_callOf 27 = .ok (.iconst (-1), 1) := by decide +kernel
theorem dX12_callOf_28 : decode cX12_callOf 28 = .ok (.if_icmp .eq 27, 3) := by decide +kernel
theorem dX12_callOf_31 : decode cX12_callOf 31 = .ok (.aload_n 0, 1) := by decide +kernel
theorem dX12_callOf_32 : decode cX12_callOf 32 = .ok (.iload_n 1, 1) := by decide +kernel
theorem dX12_callOf_33 : decode cX12_callOf 33 = .ok (.iload_n 2, 1) := by decide +kernel
theorem dX12_callOf_34 : decode cX12_callOf 34 = .ok (.bipush 7, 2) := by decide +kernel
theorem dX12_callOf_36 : decode cX12_callOf 36 = .ok (.iload 4, 2) := by decide +kernel
theorem dX12_callOf_38 : decode cX12_callOf 38 = .ok (.iadd, 1) := by decide +kernel
theorem dX12_callOf_39 : decode cX12_callOf 39 = .ok (.invokevirtual 86, 3) := by decide +kernel
theorem dX12_callOf_42 : decode cX12_callOf 42 = .ok (.aload_n 0, 1) := by decide +kernel
theorem dX12_callOf_43 : decode cX12_callOf 43 = .ok (.iload_n 1, 1) := by decide +kernel
theorem dX12_callOf_44 : decode cX12_callOf 44 = .ok (.iload_n 2, 1) := by decide +kernel
theorem dX12_callOf_45 : decode cX12_callOf 45 = .ok (.bipush 7, 2) := by decide +kernel
theorem dX12_callOf_47 : decode cX12_callOf 47 = .ok (.iload_n 3, 1) := by decide +kernel
theorem dX12_callOf_48 : decode cX12_callOf 48 = .ok (.iadd, 1) := by decide +kernel
theorem dX12_callOf_49 : decode cX12_callOf 49 = .ok (.invokevirtual 86, 3) := by decide +kernel
theorem dX12_callOf_52 : decode cX12_callOf 52 = .ok (.if_icmp .ge 7, 3) := by decide +kernel
theorem dX12_callOf_55 : decode cX12_callOf 55 = .ok (.iconst 1, 1) := by decide +kernel
theorem dX12_callOf_56 : decode cX12_callOf 56 = .ok (.goto 4, 3) := by decide +kernel
theorem dX12_callOf_59 : decode cX12_callOf 59 = .ok (.iconst 0, 1) := by decide +kernel
theorem dX12_callOf_60 : decode cX12_callOf 60 = .ok (.istore 5, 2) := by decide +kernel
theorem dX12_callOf_62 : decode cX12_callOf 62 = .ok (.iload 5, 2) := by decide +kernel
theorem dX12_callOf_64 : decode cX12_callOf 64 = .ok (.ifCond .ne 45, 3) := by decide +kernel
theorem dX12_callOf_67 : decode cX12_callOf 67 = .ok (.aload_n 0, 1) := by decide +kernel
theorem dX12_callOf_68 : decode cX12_callOf 68 = .ok (.iload_n 1, 1) := by decide +kernel
theorem dX12_callOf_69 : decode cX12_callOf 69 = .ok (.iload_n 2, 1) := by decide +kernel
theorem dX12_callOf_70 : decode cX12_callOf 70 = .ok (.bipush 7, 2) := by decide +kernel
theorem dX12_callOf_72 : decode cX12_callOf 72 = .ok (.iload 4, 2) := by decide +kernel
theorem dX12_callOf_74 : decode cX12_callOf 74 = .ok (.iadd, 1) := by decide +kernel
theorem dX12_callOf_75 : decode cX12_callOf 75 = .ok (.invokevirtual 86, 3) := by decide +kernel
theorem dX12_callOf_78 : decode cX12_callOf 78 = .ok (.aload_n 0, 1) := by decide +kernel
theorem dX12_callOf_79 : decode cX12_callOf 79 = .ok (.iload_n 1, 1) := by decide +kernel
theorem dX12_callOf_80 : decode cX12_callOf 80 = .ok (.iload_n 2, 1) := by decide +kernel
theorem dX12_callOf_81 : decode cX12_callOf 81 = .ok (.bipush 7, 2) := by decide +kernel
theorem dX12_callOf_83 : decode cX12_callOf 83 = .ok (.iload_n 3, 1) := by decide +kernel
theorem dX12_callOf_84 : decode cX12_callOf 84 = .ok (.iadd, 1) := by decide +kernel
theorem dX12_callOf_85 : decode cX12_callOf 85 = .ok (.invokevirtual 86, 3) := by decide +kernel
theorem dX12_callOf_88 : decode cX12_callOf 88 = .ok (.if_icmp .ne 26, 3) := by decide +kernel
theorem dX12_callOf_91 : decode cX12_callOf 91 = .ok (.aload_n 0, 1) := by decide +kernel
theorem dX12_callOf_92 : decode cX12_callOf 92 = .ok (.iload_n 1, 1) := by decide +kernel
theorem dX12_callOf_93 : decode cX12_callOf 93 = .ok (.iload_n 2, 1) := by decide +kernel
theorem dX12_callOf_94 : decode cX12_callOf 94 = .ok (.iload 4, 2) := by decide +kernel
theorem dX12_callOf_96 : decode cX12_callOf 96 = .ok (.invokevirtual 354, 3) := by decide +kernel
theorem dX12_callOf_99 : decode cX12_callOf 99 = .ok (.aload_n 0, 1) := by decide +kernel
theorem dX12_callOf_100 : decode cX12_callOf 100 = .ok (.iload_n 1, 1) := by decide +kernel
theorem dX12_callOf_101 : decode cX12_callOf 101 = .ok (.iload_n 2, 1) := by decide +kernel
theorem dX12_callOf_102 : decode cX12_callOf 102 = .ok (.iload_n 3, 1) := by decide +kernel
theorem dX12_callOf_103 : decode cX12_callOf 103 = .ok (.invokevirtual 354, 3) := by decide +kernel
theorem dX12_callOf_106 : decode cX12_callOf 106 = .ok (.if_icmp .le 8, 3) := by decide +kernel
theorem dX12_callOf_109 : decode cX12_callOf 109 = .ok (.iload 4, 2) := by decide +kernel
theorem dX12_callOf_111 : decode cX12_callOf 111 = .ok (.goto 4, 3) := by decide +kernel
theorem dX12_callOf_114 : decode cX12_callOf 114 = .ok (.iload_n 3, 1) := by decide +kernel
theorem dX12_callOf_115 : decode cX12_callOf 115 = .ok (.istore_n 3, 1) := by decide +kernel
theorem dX12_callOf_116 : decode cX12_callOf 116 = .ok (.iinc 4 1, 3) := by decide +kernel
theorem dX12_callOf_119 : decode cX12_callOf 119 = .ok (.goto (-114), 3) := by decide +kernel
theorem dX12_callOf_122 : decode cX12_callOf 122 = .ok (.iload_n 3, 1) := by decide +kernel
theorem dX12_callOf_123 : decode cX12_callOf 123 = .ok (.ireturn, 1) := by decide +kernel
theorem dX12_weakest_0 : decode cX12_weakest 0 = .ok (.iconst 0, 1) := by decide +kernel
theorem dX12_weakest_1 : decode cX12_weakest 1 = .ok (.istore_n 2, 1) := by decide +kernel
theorem dX12_weakest_2 : decode cX12_weakest 2 = .ok (.iconst 1, 1) := by decide +kernel
theorem dX12_weakest_3 : decode cX12_weakest 3 = .ok (.istore_n 3, 1) := by decide +kernel
theorem dX12_weakest_4 : decode cX12_weakest 4 = .ok (.iload_n 3, 1) := by decide +kernel
theorem dX12_weakest_5 : decode cX12_weakest 5 = .ok (.aload_n 0, 1) := by decide +kernel
theorem dX12_weakest_6 : decode cX12_weakest 6 = .ok (.iload_n 1, 1) := by decide +kernel
theorem dX12_weakest_7 : decode cX12_weakest 7 = .ok (.iconst 1, 1) := by decide +kernel
theorem dX12_weakest_8 : decode cX12_weakest 8 = .ok (.invokevirtual 78, 3) := by decide +kernel
theorem dX12_weakest_11 : decode cX12_weakest 11 = .ok (.if_icmp .ge 26, 3) := by decide +kernel
theorem dX12_weakest_14 : decode cX12_weakest 14 = .ok (.aload_n 0, 1) := by decide +kernel
theorem dX12_weakest_15 : decode cX12_weakest 15 = .ok (.iload_n 1, 1) := by decide +kernel
theorem dX12_weakest_16 : decode cX12_weakest 16 = .ok (.iload_n 3, 1) := by decide +kernel
theorem dX12_weakest_17 : decode cX12_weakest 17 = .ok (.invokevirtual 364, 3) := by decide +kernel
theorem dX12_weakest_20 : decode cX12_weakest 20 = .ok (.aload_n 0, 1) := by decide +kernel
theorem dX12_weakest_21 : decode cX12_weakest 21 = .ok (.iload_n 1, 1) := by decide +kernel
theorem dX12_weakest_22 : decode cX12_weakest 22 = .ok (.iload_n 2, 1) := by decide +kernel
theorem dX12_weakest_23 : decode cX12_weakest 23 = .ok (.invokevirtual 364, 3) := by decide +kernel
theorem dX12_weakest_26 : decode cX12_weakest 26 = .ok (.if_icmp .ge 5, 3) := by decide +kernel
theorem dX12_weakest_29 : decode cX12_weakest 29 = .ok (.iload_n 3, 1) := by decide +kernel
theorem dX12_weakest_30 : decode cX12_weakest 30 = .ok (.istore_n 2, 1) := by decide +kernel
theorem dX12_weakest_31 : decode cX12_weakest 31 = .ok (.iinc 3 1, 3) := by decide +kernel
theorem dX12_weakest_34 : decode cX12_weakest 34 = .ok (.goto (-30), 3) := by decide +kernel
theorem dX12_weakest_37 : decode cX12_weakest 37 = .ok (.iload_n 2, 1) := by decide +kernel
theorem dX12_weakest_38 : decode cX12_weakest 38 = .ok (.ireturn, 1) := by decide +kernel
theorem dX12_notes_0 : decode cX12_notes 0 = .ok (.aload_n 0, 1) := by decide +kernel
theorem dX12_notes_1 : decode cX12_notes 1 = .ok (.getfield 7, 3) := by decide +kernel
theorem dX12_notes_4 : decode cX12_notes 4 = .ok (.iconst 1, 1) := by decide +kernel
theorem dX12_notes_5 : decode cX12_notes 5 = .ok (.iaload, 1) := by decide +kernel
theorem dX12_notes_6 : decode cX12_notes 6 = .ok (.sipush 200, 3) := by decide +kernel
theorem dX12_notes_9 : decode cX12_notes 9 = .ok (.if_icmp .ne 4, 3) := by decide +kernel
theorem dX12_notes_12 : decode cX12_notes 12 = .ok (.return_, 1) := by decide +kernel
theorem dX12_notes_13 : decode cX12_notes 13 = .ok (.sipush 2640, 3) := by decide +kernel
theorem dX12_notes_16 : decode cX12_notes 16 = .ok (.bipush 6, 2) := by decide +kernel
theorem dX12_notes_18 : decode cX12_notes 18 = .ok (.aload_n 0, 1) := by decide +kernel
theorem dX12_notes_19 : decode cX12_notes 19 = .ok (.getfield 7, 3) := by decide +kernel
theorem dX12_notes_22 : decode cX12_notes 22 = .ok (.iconst 1, 1) := by decide +kernel
theorem dX12_notes_23 : decode cX12_notes 23 = .ok (.iaload, 1) := by decide +kernel
theorem dX12_notes_24 : decode cX12_notes 24 = .ok (.imul, 1) := by decide +kernel
theorem dX12_notes_25 : decode cX12_notes 25 = .ok (.iadd, 1) := by decide +kernel
theorem dX12_notes_26 : decode cX12_notes 26 = .ok (.istore 6, 2) := by decide +kernel
theorem dX12_notes_28 : decode cX12_notes 28 = .ok (.aload_n 0, 1) := by decide +kernel
theorem dX12_notes_29 : decode cX12_notes 29 = .ok (.getfield 7, 3) := by decide +kernel
theorem dX12_notes_32 : decode cX12_notes 32 = .ok (.iload 6, 2) := by decide +kernel
theorem dX12_notes_34 : decode cX12_notes 34 = .ok (.aload_n 0, 1) := by decide +kernel
theorem dX12_notes_35 : decode cX12_notes 35 = .ok (.getfield 7, 3) := by decide +kernel
theorem dX12_notes_38 : decode cX12_notes 38 = .ok (.iconst 0, 1) := by decide +kernel
theorem dX12_notes_39 : decode cX12_notes 39 = .ok (.iaload, 1) := by decide +kernel
theorem dX12_notes_40 : decode cX12_notes 40 = .ok (.iastore, 1) := by decide +kernel
theorem dX12_notes_41 : decode cX12_notes 41 = .ok (.aload_n 0, 1) := by decide +kernel
theorem dX12_notes_42 : decode cX12_notes 42 = .ok (.getfield 7, 3) := by decide +kernel
theorem dX12_notes_45 : decode cX12_notes 45 = .ok (.iload 6, 2) := by decide +kernel
theorem dX12_notes_47 : decode cX12_notes 47 = .ok (.iconst 1, 1) := by decide +kernel
theorem dX12_notes_48 : decode cX12_notes 48 = .ok (.iadd, 1) := by decide +kernel
theorem dX12_notes_49 : decode cX12_notes 49 = .ok (.iload_n 1, 1) := by decide +kernel
theorem dX12_notes_50 : decode cX12_notes 50 = .ok (.iastore, 1) := by decide +kernel
theorem dX12_notes_51 : decode cX12_notes 51 = .ok (.aload_n 0, 1) := by decide +kernel
theorem dX12_notes_52 : decode cX12_notes 52 = .ok (.getfield 7, 3) := by decide +kernel
theorem dX12_notes_55 : decode cX12_notes 55 = .ok (.iload 6, 2) := by decide +kernel
theorem dX12_notes_57 : decode cX12_notes 57 = .ok (.iconst 2, 1) := by decide +kernel
theorem dX12_notes_58 : decode cX12_notes 58 = .ok (.iadd, 1) := by decide +kernel
theorem dX12_notes_59 : decode cX12_notes 59 = .ok (.iload_n 2, 1) := by decide +kernel
theorem dX12_notes_60 : decode cX12_notes 60 = .ok (.iastore, 1) := by decide +kernel
theorem dX12_notes_61 : decode cX12_notes 61 = .ok (.aload_n 0, 1) := by decide +kernel
theorem dX12_notes_62 : decode cX12_notes 62 = .ok (.getfield 7, 3) := by decide +kernel
theorem dX12_notes_65 : decode cX12_notes 65 = .ok (.iload 6, 2) := by decide +kernel
theorem dX12_notes_67 : decode cX12_notes 67 = .ok (.iconst 3, 1) := by decide +kernel
theorem dX12_notes_68 : decode cX12_notes 68 = .ok (.iadd, 1) := by decide +kernel
theorem dX12_notes_69 : decode cX12_notes 69 = .ok (.iload_n 3, 1) := by decide +kernel
theorem dX12_notes_70 : decode cX12_notes 70 = .ok (.iastore, 1) := by decide +kernel
theorem dX12_notes_71 : decode cX12_notes 71 = .ok (.aload_n 0, 1) := by decide +kernel
theorem dX12_notes_72 : decode cX12_notes 72 = .ok (.getfield 7, 3) := by decide +kernel
theorem dX12_notes_75 : decode cX12_notes 75 = .ok (.iload 6, 2) := by decide +kernel
theorem dX12_notes_77 : decode cX12_notes 77 = .ok (.iconst 4, 1) := by decide +kernel
theorem dX12_notes_78 : decode cX12_notes 78 = .ok (.iadd, 1) := by decide +kernel
theorem dX12_notes_79 : decode cX12_notes 79 = .ok (.iload 4, 2) := by decide +kernel
theorem dX12_notes_81 : decode cX12_notes 81 = .ok (.iastore, 1) := by decide +kernel
theorem dX12_notes_82 : decode cX12_notes 82 = .ok (.aload_n 0, 1) := by decide +kernel
theorem dX12_notes_83 : decode cX12_notes 83 = .ok (.getfield 7, 3) := by decide +kernel
theorem dX12_notes_86 : decode cX12_notes 86 = .ok (.iload 6, 2) := by decide +kernel
theorem dX12_notes_88 : decode cX12_notes 88 = .ok (.iconst 5, 1) := by decide +kernel
theorem dX12_notes_89 : decode cX12_notes 89 = .ok (.iadd, 1) := by decide +kernel
theorem dX12_notes_90 : decode cX12_notes 90 = .ok (.iload 5, 2) := by decide +kernel
theorem dX12_notes_92 : decode cX12_notes 92 = .ok (.iastore, 1) := by decide +kernel
theorem dX12_notes_93 : decode cX12_notes 93 = .ok (.aload_n 0, 1) := by decide +kernel
theorem dX12_notes_94 : decode cX12_notes 94 = .ok (.getfield 7, 3) := by decide +kernel
theorem dX12_notes_97 : decode cX12_notes 97 = .ok (.iconst 1, 1) := by decide +kernel
theorem dX12_notes_98 : decode cX12_notes 98 = .ok (.dup2, 1) := by decide +kernel
theorem dX12_notes_99 : decode cX12_notes 99 = .ok (.iaload, 1) := by decide +kernel
theorem dX12_notes_100 : decode cX12_notes 100 = .ok (.iconst 1, 1) := by decide +kernel
theorem dX12_notes_101 : decode cX12_notes 101 = .ok (.iadd, 1) := by decide +kernel
theorem dX12_notes_102 : decode cX12_notes 102 = .ok (.iastore, 1) := by decide +kernel
theorem dX12_notes_103 : decode cX12_notes 103 = .ok (.return_, 1) := by decide +kernel
theorem dX12_keeps_0 : decode cX12_keeps 0 = .ok (.aload_n 0, 1) := by decide +kernel
theorem dX12_keeps_1 : decode cX12_keeps 1 = .ok (.getfield 90, 3) := by decide +kernel
theorem dX12_keeps_4 : decode cX12_keeps 4 = .ok (.iconst 5, 1) := by decide +kernel
theorem dX12_keeps_5 : decode cX12_keeps 5 = .ok (.if_icmp .ne 44, 3) := by decide +kernel
theorem dX12_keeps_8 : decode cX12_keeps 8 = .ok (.iconst 0, 1) := by decide +kernel
theorem dX12_keeps_9 : decode cX12_keeps 9 = .ok (.istore_n 1, 1) := by decide +kernel
theorem dX12_keeps_10 : decode cX12_keeps 10 = .ok (.iload_n 1, 1) := by decide +kernel
theorem dX12_keeps_11 : decode cX12_keeps 11 = .ok (.sipush 10256, 3) := by decide +kernel
theorem dX12_keeps_14 : decode cX12_keeps 14 = .ok (.if_icmp .ge 25, 3) := by decide +kernel
theorem dX12_keeps_17 : decode cX12_keeps 17 = .ok (.aload_n 0, 1) := by decide +kernel
theorem dX12_keeps_18 : decode cX12_keeps 18 = .ok (.getfield 16, 3) := by decide +kernel
theorem dX12_keeps_21 : decode cX12_keeps 21 = .ok (.iload_n 1, 1) := by decide +kernel
theorem dX12_keeps_22 : decode cX12_keeps 22 = .ok (.aload_n 0, 1) := by decide +kernel
theorem dX12_keeps_23 : decode cX12_keeps 23 = .ok (.getfield 16, 3) := by decide +kernel
theorem dX12_keeps_26 : decode cX12_keeps 26 = .ok (.iload_n 1, 1) := by decide +kernel
theorem dX12_keeps_27 : decode cX12_keeps 27 = .ok (.sipush 2564, 3) := by decide +kernel
theorem dX12_keeps_30 : decode cX12_keeps 30 = .ok (.iadd, 1) := by decide +kernel
theorem dX12_keeps_31 : decode cX12_keeps 31 = .ok (.iaload, 1) := by decide +kernel
theorem dX12_keeps_32 : decode cX12_keeps 32 = .ok (.iastore, 1) := by decide +kernel
theorem dX12_keeps_33 : decode cX12_keeps 33 = .ok (.iinc 1 1, 3) := by decide +kernel
theorem dX12_keeps_36 : decode cX12_keeps 36 = .ok (.goto (-26), 3) := by decide +kernel
theorem dX12_keeps_39 : decode cX12_keeps 39 = .ok (.aload_n 0, 1) := by decide +kernel
theorem dX12_keeps_40 : decode cX12_keeps 40 = .ok (.dup, 1) := by decide +kernel
theorem dX12_keeps_41 : decode cX12_keeps 41 = .ok (.getfield 90, 3) := by decide +kernel
theorem dX12_keeps_44 : decode cX12_keeps 44 = .ok (.iconst 1, 1) := by decide +kernel
theorem dX12_keeps_45 : decode cX12_keeps 45 = .ok (.isub, 1) := by decide +kernel
theorem dX12_keeps_46 : decode cX12_keeps 46 = .ok (.putfield 90, 3) := by decide +kernel
theorem dX12_keeps_49 : decode cX12_keeps 49 = .ok (.iconst 0, 1) := by decide +kernel
theorem dX12_keeps_50 : decode cX12_keeps 50 = .ok (.istore_n 1, 1) := by decide +kernel
theorem dX12_keeps_51 : decode cX12_keeps 51 = .ok (.iload_n 1, 1) := by decide +kernel
theorem dX12_keeps_52 : decode cX12_keeps 52 = .ok (.sipush 2564, 3) := by decide +kernel
theorem dX12_keeps_55 : decode cX12_keeps 55 = .ok (.if_icmp .ge 30, 3) := by decide +kernel
theorem dX12_keeps_58 : decode cX12_keeps 58 = .ok (.aload_n 0, 1) := by decide +kernel
theorem dX12_keeps_59 : decode cX12_keeps 59 = .ok (.getfield 16, 3) := by decide +kernel
theorem dX12_keeps_62 : decode cX12_keeps 62 = .ok (.sipush 2564, 3) := by decide +kernel
theorem dX12_keeps_65 : decode cX12_keeps 65 = .ok (.aload_n 0, 1) := by decide +kernel
theorem dX12_keeps_66 : decode cX12_keeps 66 = .ok (.getfield 90, 3) := by decide +kernel
theorem dX12_keeps_69 : decode cX12_keeps 69 = .ok (.imul, 1) := by decide +kernel
theorem dX12_keeps_70 : decode cX12_keeps 70 = .ok (.iload_n 1, 1) := by decide +kernel
theorem dX12_keeps_71 : decode cX12_keeps 71 = .ok (.iadd, 1) := by decide +kernel
theorem dX12_keeps_72 : decode cX12_keeps 72 = .ok (.aload_n 0, 1) := by decide +kernel
theorem dX12_keeps_73 : decode cX12_keeps 73 = .ok (.getfield 7, 3) := by decide +kernel
theorem dX12_keeps_76 : decode cX12_keeps 76 = .ok (.iload_n 1, 1) := by decide +kernel
theorem dX12_keeps_77 : decode cX12_keeps 77 = .ok (.iaload, 1) := by decide +kernel
theorem dX12_keeps_78 : decode cX12_keeps 78 = .ok (.iastore, 1) := by decide +kernel
theorem dX12_keeps_79 : decode cX12_keeps 79 = .ok (.iinc 1 1, 3) := by decide +kernel
theorem dX12_keeps_82 : decode cX12_keeps 82 = .ok (.goto (-31), 3) := by decide +kernel
theorem dX12_keeps_85 : decode cX12_keeps 85 = .ok (.aload_n 0, 1) := by decide +kernel
theorem dX12_keeps_86 : decode cX12_keeps 86 = .ok (.dup, 1) := by decide +kernel
theorem dX12_keeps_87 : decode cX12_keeps 87 = .ok (.getfield 90, 3) := by decide +kernel
theorem dX12_keeps_90 : decode cX12_keeps 90 = .ok (.iconst 1, 1) := by decide +kernel
theorem dX12_keeps_91 : decode cX12_keeps 91 = .ok (.iadd, 1) := by decide +kernel
theorem dX12_keeps_92 : decode cX12_keeps 92 = .ok (.putfield 90, 3) := by decide +kernel
theorem dX12_keeps_95 : decode cX12_keeps 95 = .ok (.return_, 1) := by decide +kernel
theorem dX12_undo_0 : decode cX12_undo 0 = .ok (.aload_n 0, 1) := by decide +kernel
theorem dX12_undo_1 : decode cX12_undo 1 = .ok (.getfield 90, 3) := by decide +kernel
theorem dX12_undo_4 : decode cX12_undo 4 = .ok (.ifCond .ne 5, 3) := by decide +kernel
theorem dX12_undo_7 : decode cX12_undo 7 = .ok (.iconst 0, 1) := by decide +kernel
theorem dX12_undo_8 : decode cX12_undo 8 = .ok (.ireturn, 1) := by decide +kernel
theorem dX12_undo_9 : decode cX12_undo 9 = .ok (.aload_n 0, 1) := by decide +kernel
theorem dX12_undo_10 : decode cX12_undo 10 = .ok (.dup, 1) := by decide +kernel
theorem dX12_undo_11 : decode cX12_undo 11 = .ok (.getfield 90, 3) := by decide +kernel
theorem dX12_undo_14 : decode cX12_undo 14 = .ok (.iconst 1, 1) := by decide +kernel
theorem dX12_undo_15 : decode cX12_undo 15 = .ok (.isub, 1) := by decide +kernel
theorem dX12_undo_16 : decode cX12_undo 16 = .ok (.putfield 90, 3) := by decide +kernel
theorem dX12_undo_19 : decode cX12_undo 19 = .ok (.iconst 0, 1) := by decide +kernel
theorem dX12_undo_20 : decode cX12_undo 20 = .ok (.istore_n 1, 1) := by decide +kernel
theorem dX12_undo_21 : decode cX12_undo 21 = .ok (.iload_n 1, 1) := by decide +kernel
theorem dX12_undo_22 : decode cX12_undo 22 = .ok (.sipush 2564, 3) := by decide +kernel
theorem dX12_undo_25 : decode cX12_undo 25 = .ok (.if_icmp .ge 30, 3) := by decide +kernel
theorem dX12_undo_28 : decode cX12_undo 28 = .ok (.aload_n 0, 1) := by decide +kernel
theorem dX12_undo_29 : decode cX12_undo 29 = .ok (.getfield 7, 3) := by decide +kernel
theorem dX12_undo_32 : decode cX12_undo 32 = .ok (.iload_n 1, 1) := by decide +kernel
theorem dX12_undo_33 : decode cX12_undo 33 = .ok (.aload_n 0, 1) := by decide +kernel
theorem dX12_undo_34 : decode cX12_undo 34 = .ok (.getfield 16, 3) := by decide +kernel
theorem dX12_undo_37 : decode cX12_undo 37 = .ok (.sipush 2564, 3) := by decide +kernel
theorem dX12_undo_40 : decode cX12_undo 40 = .ok (.aload_n 0, 1) := by decide +kernel
theorem dX12_undo_41 : decode cX12_undo 41 = .ok (.getfield 90, 3) := by decide +kernel
theorem dX12_undo_44 : decode cX12_undo 44 = .ok (.imul, 1) := by decide +kernel
theorem dX12_undo_45 : decode cX12_undo 45 = .ok (.iload_n 1, 1) := by decide +kernel
theorem dX12_undo_46 : decode cX12_undo 46 = .ok (.iadd, 1) := by decide +kernel
theorem dX12_undo_47 : decode cX12_undo 47 = .ok (.iaload, 1) := by decide +kernel
theorem dX12_undo_48 : decode cX12_undo 48 = .ok (.iastore, 1) := by decide +kernel
theorem dX12_undo_49 : decode cX12_undo 49 = .ok (.iinc 1 1, 3) := by decide +kernel
theorem dX12_undo_52 : decode cX12_undo 52 = .ok (.goto (-31), 3) := by decide +kernel
theorem dX12_undo_55 : decode cX12_undo 55 = .ok (.iconst 1, 1) := by decide +kernel
theorem dX12_undo_56 : decode cX12_undo 56 = .ok (.ireturn, 1) := by decide +kernel
theorem dX12_more_0 : decode cX12_more 0 = .ok (.aload_n 0, 1) := by decide +kernel
theorem dX12_more_1 : decode cX12_more 1 = .ok (.iload_n 1, 1) := by decide +kernel
theorem dX12_more_2 : decode cX12_more 2 = .ok (.iload_n 2, 1) := by decide +kernel
theorem dX12_more_3 : decode cX12_more 3 = .ok (.iload_n 3, 1) := by decide +kernel
theorem dX12_more_4 : decode cX12_more 4 = .ok (.bipush 99, 2) := by decide +kernel
theorem dX12_more_6 : decode cX12_more 6 = .ok (.aload_n 0, 1) := by decide +kernel
theorem dX12_more_7 : decode cX12_more 7 = .ok (.iload_n 1, 1) := by decide +kernel
theorem dX12_more_8 : decode cX12_more 8 = .ok (.iload_n 2, 1) := by decide +kernel
theorem dX12_more_9 : decode cX12_more 9 = .ok (.iload_n 3, 1) := by decide +kernel
theorem dX12_more_10 : decode cX12_more 10 = .ok (.invokevirtual 354, 3) := by decide +kernel
theorem dX12_more_13 : decode cX12_more 13 = .ok (.iload 4, 2) := by decide +kernel
theorem dX12_more_15 : decode cX12_more 15 = .ok (.iadd, 1) := by decide +kernel
theorem dX12_more_16 : decode cX12_more 16 = .ok (.invokestatic 334, 3) := by decide +kernel
theorem dX12_more_19 : decode cX12_more 19 = .ok (.aload_n 0, 1) := by decide +kernel
theorem dX12_more_20 : decode cX12_more 20 = .ok (.iload_n 1, 1) := by decide +kernel
theorem dX12_more_21 : decode cX12_more 21 = .ok (.iload_n 2, 1) := by decide +kernel
theorem dX12_more_22 : decode cX12_more 22 = .ok (.iload_n 3, 1) := by decide +kernel
theorem dX12_more_23 : decode cX12_more 23 = .ok (.invokevirtual 354, 3) := by decide +kernel
theorem dX12_more_26 : decode cX12_more 26 = .ok (.ifCond .ne 12, 3) := by decide +kernel
theorem dX12_more_29 : decode cX12_more 29 = .ok (.aload_n 0, 1) := by decide +kernel
theorem dX12_more_30 : decode cX12_more 30 = .ok (.getfield 7, 3) := by decide +kernel
theorem dX12_more_33 : decode cX12_more 33 = .ok (.iconst 0, 1) := by decide +kernel
theorem dX12_more_34 : decode cX12_more 34 = .ok (.iaload, 1) := by decide +kernel
theorem dX12_more_35 : decode cX12_more 35 = .ok (.goto 13, 3) := by decide +kernel
theorem dX12_more_38 : decode cX12_more 38 = .ok (.aload_n 0, 1) := by decide +kernel
theorem dX12_more_39 : decode cX12_more 39 = .ok (.iload_n 1, 1) := by decide +kernel
theorem dX12_more_40 : decode cX12_more 40 = .ok (.iload_n 2, 1) := by decide +kernel
theorem dX12_more_41 : decode cX12_more 41 = .ok (.bipush 7, 2) := by decide +kernel
theorem dX12_more_43 : decode cX12_more 43 = .ok (.iload_n 3, 1) := by decide +kernel
theorem dX12_more_44 : decode cX12_more 44 = .ok (.iadd, 1) := by decide +kernel
theorem dX12_more_45 : decode cX12_more 45 = .ok (.invokevirtual 86, 3) := by decide +kernel
theorem dX12_more_48 : decode cX12_more 48 = .ok (.invokevirtual 106, 3) := by decide +kernel
theorem dX12_more_51 : decode cX12_more 51 = .ok (.return_, 1) := by decide +kernel
theorem dX12_canTie_0 : decode cX12_canTie 0 = .ok (.aload_n 0, 1) := by decide +kernel
theorem dX12_canTie_1 : decode cX12_canTie 1 = .ok (.iload_n 1, 1) := by decide +kernel
theorem dX12_canTie_2 : decode cX12_canTie 2 = .ok (.iload_n 2, 1) := by decide +kernel
theorem dX12_canTie_3 : decode cX12_canTie 3 = .ok (.invokevirtual 367, 3) := by decide +kernel
theorem dX12_canTie_6 : decode cX12_canTie 6 = .ok (.ifCond .eq 23, 3) := by decide +kernel
theorem dX12_canTie_9 : decode cX12_canTie 9 = .ok (.aload_n 0, 1) := by decide +kernel
theorem dX12_canTie_10 : decode cX12_canTie 10 = .ok (.iload_n 1, 1) := by decide +kernel
theorem dX12_canTie_11 : decode cX12_canTie 11 = .ok (.iload_n 2, 1) := by decide +kernel
theorem dX12_canTie_12 : decode cX12_canTie 12 = .ok (.invokevirtual 340, 3) := by decide +kernel
theorem dX12_canTie_15 : decode cX12_canTie 15 = .ok (.ifCond .ne 14, 3) := by decide +kernel
theorem dX12_canTie_18 : decode cX12_canTie 18 = .ok (.iload_n 3, 1) := by decide +kernel
theorem dX12_canTie_19 : decode cX12_canTie 19 = .ok (.invokestatic 117, 3) := by decide +kernel
theorem dX12_canTie_22 : decode cX12_canTie 22 = .ok (.ifCond .eq 7, 3) := by decide +kernel
theorem dX12_canTie_25 : decode cX12_canTie 25 = .ok (.iconst 1, 1) := by decide +kernel
theorem dX12_canTie_26 : decode cX12_canTie 26 = .ok (.goto 4, 3) := by decide +kernel
theorem dX12_canTie_29 : decode cX12_canTie 29 = .ok (.iconst 0, 1) := by decide +kernel
theorem dX12_canTie_30 : decode cX12_canTie 30 = .ok (.ireturn, 1) := by decide +kernel
theorem dX12_ties_0 : decode cX12_ties 0 = .ok (.aload_n 0, 1) := by decide +kernel
theorem dX12_ties_1 : decode cX12_ties 1 = .ok (.iload_n 1, 1) := by decide +kernel
theorem dX12_ties_2 : decode cX12_ties 2 = .ok (.iload_n 2, 1) := by decide +kernel
theorem dX12_ties_3 : decode cX12_ties 3 = .ok (.iconst 0, 1) := by decide +kernel
theorem dX12_ties_4 : decode cX12_ties 4 = .ok (.iload_n 3, 1) := by decide +kernel
theorem dX12_ties_5 : decode cX12_ties 5 = .ok (.invokevirtual 102, 3) := by decide +kernel
theorem dX12_ties_8 : decode cX12_ties 8 = .ok (.aload_n 0, 1) := by decide +kernel
theorem dX12_ties_9 : decode cX12_ties 9 = .ok (.iload_n 1, 1) := by decide +kernel
theorem dX12_ties_10 : decode cX12_ties 10 = .ok (.iload_n 2, 1) := by decide +kernel
theorem dX12_ties_11 : decode cX12_ties 11 = .ok (.iload_n 3, 1) := by decide +kernel
theorem dX12_ties_12 : decode cX12_ties 12 = .ok (.aload_n 0, 1) := by decide +kernel
theorem dX12_ties_13 : decode cX12_ties 13 = .ok (.getfield 7, 3) := by decide +kernel
theorem dX12_ties_16 : decode cX12_ties 16 = .ok (.sipush 2564, 3) := by decide +kernel
theorem dX12_ties_19 : decode cX12_ties 19 = .ok (.iload_n 3, 1) := by decide +kernel
theorem dX12_ties_20 : decode cX12_ties 20 = .ok (.iadd, 1) := by decide +kernel
theorem dX12_ties_21 : decode cX12_ties 21 = .ok (.iaload, 1) := by decide +kernel
theorem dX12_ties_22 : decode cX12_ties 22 = .ok (.invokevirtual 370, 3) := by decide +kernel
theorem dX12_ties_25 : decode cX12_ties 25 = .ok (.aload_n 0, 1) := by decide +kernel
theorem dX12_ties_26 : decode cX12_ties 26 = .ok (.iload_n 1, 1) := by decide +kernel
theorem dX12_ties_27 : decode cX12_ties 27 = .ok (.iload_n 2, 1) := by decide +kernel
theorem dX12_ties_28 : decode cX12_ties 28 = .ok (.iload_n 3, 1) := by decide +kernel
theorem dX12_ties_29 : decode cX12_ties 29 = .ok (.iconst 0, 1) := by decide +kernel
theorem dX12_ties_30 : decode cX12_ties 30 = .ok (.iload 4, 2) := by decide +kernel
theorem dX12_ties_32 : decode cX12_ties 32 = .ok (.invokevirtual 373, 3) := by decide +kernel
theorem dX12_ties_35 : decode cX12_ties 35 = .ok (.return_, 1) := by decide +kernel
theorem dX12_tie_0 : decode cX12_tie 0 = .ok (.aload_n 0, 1) := by decide +kernel
theorem dX12_tie_1 : decode cX12_tie 1 = .ok (.iload_n 1, 1) := by decide +kernel
theorem dX12_tie_2 : decode cX12_tie 2 = .ok (.iload_n 2, 1) := by decide +kernel
theorem dX12_tie_3 : decode cX12_tie 3 = .ok (.iload_n 3, 1) := by decide +kernel
theorem dX12_tie_4 : decode cX12_tie 4 = .ok (.invokevirtual 376, 3) := by decide +kernel
theorem dX12_tie_7 : decode cX12_tie 7 = .ok (.ifCond .eq 14, 3) := by decide +kernel
theorem dX12_tie_10 : decode cX12_tie 10 = .ok (.iload 4, 2) := by decide +kernel
theorem dX12_tie_12 : decode cX12_tie 12 = .ok (.iconst 0, 1) := by decide +kernel
theorem dX12_tie_13 : decode cX12_tie 13 = .ok (.bipush 9, 2) := by decide +kernel
theorem dX12_tie_15 : decode cX12_tie 15 = .ok (.invokestatic 74, 3) := by decide +kernel
theorem dX12_tie_18 : decode cX12_tie 18 = .ok (.ifCond .ne 5, 3) := by decide +kernel
theorem dX12_tie_21 : decode cX12_tie 21 = .ok (.iconst 0, 1) := by decide +kernel
theorem dX12_tie_22 : decode cX12_tie 22 = .ok (.ireturn, 1) := by decide +kernel
theorem dX12_tie_23 : decode cX12_tie 23 = .ok (.aload_n 0, 1) := by decide +kernel
theorem dX12_tie_24 : decode cX12_tie 24 = .ok (.invokevirtual 379, 3) := by decide +kernel
theorem dX12_tie_27 : decode cX12_tie 27 = .ok (.aload_n 0, 1) := by decide +kernel
theorem dX12_tie_28 : decode cX12_tie 28 = .ok (.iload_n 1, 1) := by decide +kernel
theorem dX12_tie_29 : decode cX12_tie 29 = .ok (.iload_n 2, 1) := by decide +kernel
theorem dX12_tie_30 : decode cX12_tie 30 = .ok (.iload_n 3, 1) := by decide +kernel
theorem dX12_tie_31 : decode cX12_tie 31 = .ok (.iload 4, 2) := by decide +kernel
theorem dX12_tie_33 : decode cX12_tie 33 = .ok (.invokevirtual 382, 3) := by decide +kernel
theorem dX12_tie_36 : decode cX12_tie 36 = .ok (.iconst 1, 1) := by decide +kernel
theorem dX12_tie_37 : decode cX12_tie 37 = .ok (.ireturn, 1) := by decide +kernel
theorem dX12_untie_0 : decode cX12_untie 0 = .ok (.aload_n 0, 1) := by decide +kernel
theorem dX12_untie_1 : decode cX12_untie 1 = .ok (.iload_n 1, 1) := by decide +kernel
theorem dX12_untie_2 : decode cX12_untie 2 = .ok (.iload_n 2, 1) := by decide +kernel
theorem dX12_untie_3 : decode cX12_untie 3 = .ok (.invokevirtual 367, 3) := by decide +kernel
theorem dX12_untie_6 : decode cX12_untie 6 = .ok (.ifCond .eq 12, 3) := by decide +kernel
theorem dX12_untie_9 : decode cX12_untie 9 = .ok (.aload_n 0, 1) := by decide +kernel
theorem dX12_untie_10 : decode cX12_untie 10 = .ok (.iload_n 1, 1) := by decide +kernel
theorem dX12_untie_11 : decode cX12_untie 11 = .ok (.iload_n 2, 1) := by decide +kernel
theorem dX12_untie_12 : decode cX12_untie 12 = .ok (.invokevirtual 340, 3) := by decide +kernel
theorem dX12_untie_15 : decode cX12_untie 15 = .ok (.ifCond .ne 5, 3) := by decide +kernel
theorem dX12_untie_18 : decode cX12_untie 18 = .ok (.iconst (-1), 1) := by decide +kernel
theorem dX12_untie_19 : decode cX12_untie 19 = .ok (.ireturn, 1) := by decide +kernel
theorem dX12_untie_20 : decode cX12_untie 20 = .ok (.aload_n 0, 1) := by decide +kernel
theorem dX12_untie_21 : decode cX12_untie 21 = .ok (.invokevirtual 379, 3) := by decide +kernel
theorem dX12_untie_24 : decode cX12_untie 24 = .ok (.aload_n 0, 1) := by decide +kernel
theorem dX12_untie_25 : decode cX12_untie 25 = .ok (.iload_n 1, 1) := by decide +kernel
theorem dX12_untie_26 : decode cX12_untie 26 = .ok (.iload_n 2, 1) := by decide +kernel
theorem dX12_untie_27 : decode cX12_untie 27 = .ok (.iconst 0, 1) := by decide +kernel
theorem dX12_untie_28 : decode cX12_untie 28 = .ok (.invokevirtual 86, 3) := by decide +kernel
theorem dX12_untie_31 : decode cX12_untie 31 = .ok (.istore_n 3, 1) := by decide +kernel
theorem dX12_untie_32 : decode cX12_untie 32 = .ok (.aload_n 0, 1) := by decide +kernel
theorem dX12_untie_33 : decode cX12_untie 33 = .ok (.iload_n 1, 1) := by decide +kernel
theorem dX12_untie_34 : decode cX12_untie 34 = .ok (.iload_n 2, 1) := by decide +kernel
theorem dX12_untie_35 : decode cX12_untie 35 = .ok (.iconst 0, 1) := by decide +kernel
theorem dX12_untie_36 : decode cX12_untie 36 = .ok (.iconst (-1), 1) := by decide +kernel
theorem dX12_untie_37 : decode cX12_untie 37 = .ok (.invokevirtual 102, 3) := by decide +kernel
theorem dX12_untie_40 : decode cX12_untie 40 = .ok (.iload_n 3, 1) := by decide +kernel
theorem dX12_untie_41 : decode cX12_untie 41 = .ok (.ireturn, 1) := by decide +kernel
theorem dX12_wets_0 : decode cX12_wets 0 = .ok (.aload_n 0, 1) := by decide +kernel
theorem dX12_wets_1 : decode cX12_wets 1 = .ok (.iload_n 1, 1) := by decide +kernel
theorem dX12_wets_2 : decode cX12_wets 2 = .ok (.iconst 4, 1) := by decide +kernel
theorem dX12_wets_3 : decode cX12_wets 3 = .ok (.invokevirtual 78, 3) := by decide +kernel
theorem dX12_wets_6 : decode cX12_wets 6 = .ok (.ifCond .ne 7, 3) := by decide +kernel
theorem dX12_wets_9 : decode cX12_wets 9 = .ok (.iconst 1, 1) := by decide +kernel
theorem dX12_wets_10 : decode cX12_wets 10 = .ok (.goto 4, 3) := by decide +kernel
theorem dX12_wets_13 : decode cX12_wets 13 = .ok (.iconst 0, 1) := by decide +kernel
theorem dX12_wets_14 : decode cX12_wets 14 = .ok (.istore_n 3, 1) := by decide +kernel
theorem dX12_wets_15 : decode cX12_wets 15 = .ok (.aload_n 0, 1) := by decide +kernel
theorem dX12_wets_16 : decode cX12_wets 16 = .ok (.iload_n 1, 1) := by decide +kernel
theorem dX12_wets_17 : decode cX12_wets 17 = .ok (.iconst 4, 1) := by decide +kernel
theorem dX12_wets_18 : decode cX12_wets 18 = .ok (.iload_n 2, 1) := by decide +kernel
theorem dX12_wets_19 : decode cX12_wets 19 = .ok (.invokevirtual 98, 3) := by decide +kernel
theorem dX12_wets_22 : decode cX12_wets 22 = .ok (.iconst 0, 1) := by decide +kernel
theorem dX12_wets_23 : decode cX12_wets 23 = .ok (.istore 4, 2) := by decide +kernel
theorem dX12_wets_25 : decode cX12_wets 25 = .ok (.iload 4, 2) := by decide +kernel
theorem dX12_wets_27 : decode cX12_wets 27 = .ok (.aload_n 0, 1) := by decide +kernel
theorem dX12_wets_28 : decode cX12_wets 28 = .ok (.iload_n 1, 1) := by decide +kernel
theorem dX12_wets_29 : decode cX12_wets 29 = .ok (.iconst 1, 1) := by decide +kernel
theorem dX12_wets_30 : decode cX12_wets 30 = .ok (.invokevirtual 78, 3) := by decide +kernel
theorem dX12_wets_33 : decode cX12_wets 33 = .ok (.if_icmp .ge 43, 3) := by decide +kernel
theorem dX12_wets_36 : decode cX12_wets 36 = .ok (.iload_n 3, 1) := by decide +kernel
theorem dX12_wets_37 : decode cX12_wets 37 = .ok (.ifCond .eq 39, 3) := by decide +kernel
theorem dX12_wets_40 : decode cX12_wets 40 = .ok (.iload_n 2, 1) := by decide +kernel
theorem dX12_wets_41 : decode cX12_wets 41 = .ok (.ifCond .le 35, 3) := by decide +kernel
theorem dX12_wets_44 : decode cX12_wets 44 = .ok (.aload_n 0, 1) := by decide +kernel
theorem dX12_wets_45 : decode cX12_wets 45 = .ok (.iload_n 1, 1) := by decide +kernel
theorem dX12_wets_46 : decode cX12_wets 46 = .ok (.iload 4, 2) := by decide +kernel
theorem dX12_wets_48 : decode cX12_wets 48 = .ok (.invokevirtual 384, 3) := by decide +kernel
theorem dX12_wets_51 : decode cX12_wets 51 = .ok (.iconst (-1), 1) := by decide +kernel
theorem dX12_wets_52 : decode cX12_wets 52 = .ok (.if_icmp .eq 18, 3) := by decide +kernel
theorem dX12_wets_55 : decode cX12_wets 55 = .ok (.aload_n 0, 1) := by decide +kernel
theorem dX12_wets_56 : decode cX12_wets 56 = .ok (.iload_n 1, 1) := by decide +kernel
theorem dX12_wets_57 : decode cX12_wets 57 = .ok (.iload 4, 2) := by decide +kernel
theorem dX12_wets_59 : decode cX12_wets 59 = .ok (.aload_n 0, 1) := by decide +kernel
theorem dX12_wets_60 : decode cX12_wets 60 = .ok (.iload_n 1, 1) := by decide +kernel
theorem dX12_wets_61 : decode cX12_wets 61 = .ok (.iload 4, 2) := by decide +kernel
theorem dX12_wets_63 : decode cX12_wets 63 = .ok (.invokevirtual 384, 3) := by decide +kernel
theorem dX12_wets_66 : decode cX12_wets 66 = .ok (.iconst 5, 1) := by decide +kernel
theorem dX12_wets_67 : decode cX12_wets 67 = .ok (.invokevirtual 370, 3) := by decide +kernel
theorem dX12_wets_70 : decode cX12_wets 70 = .ok (.iinc 4 1, 3) := by decide +kernel
theorem dX12_wets_73 : decode cX12_wets 73 = .ok (.goto (-48), 3) := by decide +kernel
theorem dX12_wets_76 : decode cX12_wets 76 = .ok (.return_, 1) := by decide +kernel
theorem dX12_wet_0 : decode cX12_wet 0 = .ok (.aload_n 0, 1) := by decide +kernel
theorem dX12_wet_1 : decode cX12_wet 1 = .ok (.iload_n 1, 1) := by decide +kernel
theorem dX12_wet_2 : decode cX12_wet 2 = .ok (.invokevirtual 82, 3) := by decide +kernel
theorem dX12_wet_5 : decode cX12_wet 5 = .ok (.ifCond .eq 13, 3) := by decide +kernel
theorem dX12_wet_8 : decode cX12_wet 8 = .ok (.iload_n 2, 1) := by decide +kernel
theorem dX12_wet_9 : decode cX12_wet 9 = .ok (.iconst 0, 1) := by decide +kernel
theorem dX12_wet_10 : decode cX12_wet 10 = .ok (.bipush 9, 2) := by decide +kernel
theorem dX12_wet_12 : decode cX12_wet 12 = .ok (.invokestatic 74, 3) := by decide +kernel
theorem dX12_wet_15 : decode cX12_wet 15 = .ok (.ifCond .ne 5, 3) := by decide +kernel
theorem dX12_wet_18 : decode cX12_wet 18 = .ok (.iconst 0, 1) := by decide +kernel
theorem dX12_wet_19 : decode cX12_wet 19 = .ok (.ireturn, 1) := by decide +kernel
theorem dX12_wet_20 : decode cX12_wet 20 = .ok (.aload_n 0, 1) := by decide +kernel
theorem dX12_wet_21 : decode cX12_wet 21 = .ok (.invokevirtual 379, 3) := by decide +kernel
theorem dX12_wet_24 : decode cX12_wet 24 = .ok (.aload_n 0, 1) := by decide +kernel
theorem dX12_wet_25 : decode cX12_wet 25 = .ok (.iload_n 1, 1) := by decide +kernel
theorem dX12_wet_26 : decode cX12_wet 26 = .ok (.iload_n 2, 1) := by decide +kernel
theorem dX12_wet_27 : decode cX12_wet 27 = .ok (.invokevirtual 387, 3) := by decide +kernel
theorem dX12_wet_30 : decode cX12_wet 30 = .ok (.iconst 1, 1) := by decide +kernel
theorem dX12_wet_31 : decode cX12_wet 31 = .ok (.ireturn, 1) := by decide +kernel
theorem dX12_copies_0 : decode cX12_copies 0 = .ok (.iconst 0, 1) := by decide +kernel
theorem dX12_copies_1 : decode cX12_copies 1 = .ok (.istore 5, 2) := by decide +kernel
theorem dX12_copies_3 : decode cX12_copies 3 = .ok (.iload 5, 2) := by decide +kernel
theorem dX12_copies_5 : decode cX12_copies 5 = .ok (.bipush 13, 2) := by decide +kernel
theorem dX12_copies_7 : decode cX12_copies 7 = .ok (.if_icmp .ge 26, 3) := by decide +kernel
theorem dX12_copies_10 : decode cX12_copies 10 = .ok (.aload_n 0, 1) := by decide +kernel
theorem dX12_copies_11 : decode cX12_copies 11 = .ok (.iload_n 1, 1) := by decide +kernel
theorem dX12_copies_12 : decode cX12_copies 12 = .ok (.iload_n 2, 1) := by decide +kernel
theorem dX12_copies_13 : decode cX12_copies 13 = .ok (.iload 5, 2) := by decide +kernel
theorem dX12_copies_15 : decode cX12_copies 15 = .ok (.aload_n 0, 1) := by decide +kernel
theorem dX12_copies_16 : decode cX12_copies 16 = .ok (.iload_n 3, 1) := by decide +kernel
theorem dX12_copies_17 : decode cX12_copies 17 = .ok (.iload 4, 2) := by decide +kernel
theorem dX12_copies_19 : decode cX12_copies 19 = .ok (.iload 5, 2) := by decide +kernel
theorem dX12_copies_21 : decode cX12_copies 21 = .ok (.invokevirtual 86, 3) := by decide +kernel
theorem dX12_copies_24 : decode cX12_copies 24 = .ok (.invokevirtual 102, 3) := by decide +kernel
theorem dX12_copies_27 : decode cX12_copies 27 = .ok (.iinc 5 1, 3) := by decide +kernel
theorem dX12_copies_30 : decode cX12_copies 30 = .ok (.goto (-27), 3) := by decide +kernel
theorem dX12_copies_33 : decode cX12_copies 33 = .ok (.return_, 1) := by decide +kernel
theorem dX12_halves_0 : decode cX12_halves 0 = .ok (.iconst 0, 1) := by decide +kernel
theorem dX12_halves_1 : decode cX12_halves 1 = .ok (.istore_n 3, 1) := by decide +kernel
theorem dX12_halves_2 : decode cX12_halves 2 = .ok (.iload_n 3, 1) := by decide +kernel
theorem dX12_halves_3 : decode cX12_halves 3 = .ok (.bipush 6, 2) := by decide +kernel
theorem dX12_halves_5 : decode cX12_halves 5 = .ok (.if_icmp .ge 35, 3) := by decide +kernel
theorem dX12_halves_8 : decode cX12_halves 8 = .ok (.aload_n 0, 1) := by decide +kernel
theorem dX12_halves_9 : decode cX12_halves 9 = .ok (.iload_n 1, 1) := by decide +kernel
theorem dX12_halves_10 : decode cX12_halves 10 = .ok (.iload_n 2, 1) := by decide +kernel
theorem dX12_halves_11 : decode cX12_halves 11 = .ok (.iload_n 3, 1) := by decide +kernel
theorem dX12_halves_12 : decode cX12_halves 12 = .ok (.aload_n 0, 1) := by decide +kernel
theorem dX12_halves_13 : decode cX12_halves 13 = .ok (.iload_n 1, 1) := by decide +kernel
theorem dX12_halves_14 : decode cX12_halves 14 = .ok (.iload_n 2, 1) := by decide +kernel
theorem dX12_halves_15 : decode cX12_halves 15 = .ok (.iload_n 3, 1) := by decide +kernel
theorem dX12_halves_16 : decode cX12_halves 16 = .ok (.invokevirtual 354, 3) := by decide +kernel
theorem dX12_halves_19 : decode cX12_halves 19 = .ok (.iconst 2, 1) := by decide +kernel
theorem dX12_halves_20 : decode cX12_halves 20 = .ok (.idiv, 1) := by decide +kernel
theorem dX12_halves_21 : decode cX12_halves 21 = .ok (.aload_n 0, 1) := by decide +kernel
theorem dX12_halves_22 : decode cX12_halves 22 = .ok (.iload_n 1, 1) := by decide +kernel
theorem dX12_halves_23 : decode cX12_halves 23 = .ok (.iload_n 2, 1) := by decide +kernel
theorem dX12_halves_24 : decode cX12_halves 24 = .ok (.bipush 7, 2) := by decide +kernel
theorem dX12_halves_26 : decode cX12_halves 26 = .ok (.iload_n 3, 1) := by decide +kernel
theorem dX12_halves_27 : decode cX12_halves 27 = .ok (.iadd, 1) := by decide +kernel
theorem dX12_halves_28 : decode cX12_halves 28 = .ok (.invokevirtual 86, 3) := by decide +kernel
theorem dX12_halves_31 : decode cX12_halves 31 = .ok (.invokevirtual 106, 3) := by decide +kernel
theorem dX12_halves_34 : decode cX12_halves 34 = .ok (.iinc 3 1, 3) := by decide +kernel
theorem dX12_halves_37 : decode cX12_halves 37 = .ok (.goto (-35), 3) := by decide +kernel
theorem dX12_halves_40 : decode cX12_halves 40 = .ok (.return_, 1) := by decide +kernel
theorem dX12_clears_0 : decode cX12_clears 0 = .ok (.iconst 0, 1) := by decide +kernel
theorem dX12_clears_1 : decode cX12_clears 1 = .ok (.istore_n 3, 1) := by decide +kernel
theorem dX12_clears_2 : decode cX12_clears 2 = .ok (.iload_n 3, 1) := by decide +kernel
theorem dX12_clears_3 : decode cX12_clears 3 = .ok (.bipush 6, 2) := by decide +kernel
theorem dX12_clears_5 : decode cX12_clears 5 = .ok (.if_icmp .ge 18, 3) := by decide +kernel
theorem dX12_clears_8 : decode cX12_clears 8 = .ok (.aload_n 0, 1) := by decide +kernel
theorem dX12_clears_9 : decode cX12_clears 9 = .ok (.iload_n 1, 1) := by decide +kernel
theorem dX12_clears_10 : decode cX12_clears 10 = .ok (.iload_n 2, 1) := by decide +kernel
theorem dX12_clears_11 : decode cX12_clears 11 = .ok (.iload_n 3, 1) := by decide +kernel
theorem dX12_clears_12 : decode cX12_clears 12 = .ok (.iconst 0, 1) := by decide +kernel
theorem dX12_clears_13 : decode cX12_clears 13 = .ok (.iconst 0, 1) := by decide +kernel
theorem dX12_clears_14 : decode cX12_clears 14 = .ok (.invokevirtual 106, 3) := by decide +kernel
theorem dX12_clears_17 : decode cX12_clears 17 = .ok (.iinc 3 1, 3) := by decide +kernel
theorem dX12_clears_20 : decode cX12_clears 20 = .ok (.goto (-18), 3) := by decide +kernel
theorem dX12_clears_23 : decode cX12_clears 23 = .ok (.return_, 1) := by decide +kernel
theorem dX12_parts_0 : decode cX12_parts 0 = .ok (.aload_n 0, 1) := by decide +kernel
theorem dX12_parts_1 : decode cX12_parts 1 = .ok (.iload_n 1, 1) := by decide +kernel
theorem dX12_parts_2 : decode cX12_parts 2 = .ok (.iconst 1, 1) := by decide +kernel
theorem dX12_parts_3 : decode cX12_parts 3 = .ok (.invokevirtual 78, 3) := by decide +kernel
theorem dX12_parts_6 : decode cX12_parts 6 = .ok (.istore_n 3, 1) := by decide +kernel
theorem dX12_parts_7 : decode cX12_parts 7 = .ok (.iload_n 3, 1) := by decide +kernel
theorem dX12_parts_8 : decode cX12_parts 8 = .ok (.iload_n 2, 1) := by decide +kernel
theorem dX12_parts_9 : decode cX12_parts 9 = .ok (.isub, 1) := by decide +kernel
theorem dX12_parts_10 : decode cX12_parts 10 = .ok (.iconst 2, 1) := by decide +kernel
theorem dX12_parts_11 : decode cX12_parts 11 = .ok (.if_icmp .ge 7, 3) := by decide +kernel
theorem dX12_parts_14 : decode cX12_parts 14 = .ok (.iconst (-1), 1) := by decide +kernel
theorem dX12_parts_15 : decode cX12_parts 15 = .ok (.goto 7, 3) := by decide +kernel
theorem dX12_parts_18 : decode cX12_parts 18 = .ok (.aload_n 0, 1) := by decide +kernel
theorem dX12_parts_19 : decode cX12_parts 19 = .ok (.invokevirtual 110, 3) := by decide +kernel
theorem dX12_parts_22 : decode cX12_parts 22 = .ok (.istore 4, 2) := by decide +kernel
theorem dX12_parts_24 : decode cX12_parts 24 = .ok (.iload 4, 2) := by decide +kernel
theorem dX12_parts_26 : decode cX12_parts 26 = .ok (.iconst (-1), 1) := by decide +kernel
theorem dX12_parts_27 : decode cX12_parts 27 = .ok (.if_icmp .eq 65, 3) := by decide +kernel
theorem dX12_parts_30 : decode cX12_parts 30 = .ok (.aload_n 0, 1) := by decide +kernel
theorem dX12_parts_31 : decode cX12_parts 31 = .ok (.iload 4, 2) := by decide +kernel
theorem dX12_parts_33 : decode cX12_parts 33 = .ok (.iload_n 3, 1) := by decide +kernel
theorem dX12_parts_34 : decode cX12_parts 34 = .ok (.iload_n 2, 1) := by decide +kernel
theorem dX12_parts_35 : decode cX12_parts 35 = .ok (.isub, 1) := by decide +kernel
theorem dX12_parts_36 : decode cX12_parts 36 = .ok (.aload_n 0, 1) := by decide +kernel
theorem dX12_parts_37 : decode cX12_parts 37 = .ok (.iload_n 1, 1) := by decide +kernel
theorem dX12_parts_38 : decode cX12_parts 38 = .ok (.iconst 2, 1) := by decide +kernel
theorem dX12_parts_39 : decode cX12_parts 39 = .ok (.invokevirtual 78, 3) := by decide +kernel
theorem dX12_parts_42 : decode cX12_parts 42 = .ok (.aload_n 0, 1) := by decide +kernel
theorem dX12_parts_43 : decode cX12_parts 43 = .ok (.iload_n 1, 1) := by decide +kernel
theorem dX12_parts_44 : decode cX12_parts 44 = .ok (.iconst 3, 1) := by decide +kernel
theorem dX12_parts_45 : decode cX12_parts 45 = .ok (.invokevirtual 78, 3) := by decide +kernel
theorem dX12_parts_48 : decode cX12_parts 48 = .ok (.aload_n 0, 1) := by decide +kernel
theorem dX12_parts_49 : decode cX12_parts 49 = .ok (.iload_n 1, 1) := by decide +kernel
theorem dX12_parts_50 : decode cX12_parts 50 = .ok (.iconst 4, 1) := by decide +kernel
theorem dX12_parts_51 : decode cX12_parts 51 = .ok (.invokevirtual 78, 3) := by decide +kernel
theorem dX12_parts_54 : decode cX12_parts 54 = .ok (.invokevirtual 114, 3) := by decide +kernel
theorem dX12_parts_57 : decode cX12_parts 57 = .ok (.iload_n 2, 1) := by decide +kernel
theorem dX12_parts_58 : decode cX12_parts 58 = .ok (.istore 5, 2) := by decide +kernel
theorem dX12_parts_60 : decode cX12_parts 60 = .ok (.iload 5, 2) := by decide +kernel
theorem dX12_parts_62 : decode cX12_parts 62 = .ok (.iload_n 3, 1) := by decide +kernel
theorem dX12_parts_63 : decode cX12_parts 63 = .ok (.if_icmp .ge 22, 3) := by decide +kernel
theorem dX12_parts_66 : decode cX12_parts 66 = .ok (.aload_n 0, 1) := by decide +kernel
theorem dX12_parts_67 : decode cX12_parts 67 = .ok (.iload 4, 2) := by decide +kernel
theorem dX12_parts_69 : decode cX12_parts 69 = .ok (.iload 5, 2) := by decide +kernel
theorem dX12_parts_71 : decode cX12_parts 71 = .ok (.iload_n 2, 1) := by decide +kernel
theorem dX12_parts_72 : decode cX12_parts 72 = .ok (.isub, 1) := by decide +kernel
theorem dX12_parts_73 : decode cX12_parts 73 = .ok (.iload_n 1, 1) := by decide +kernel
theorem dX12_parts_74 : decode cX12_parts 74 = .ok (.iload 5, 2) := by decide +kernel
theorem dX12_parts_76 : decode cX12_parts 76 = .ok (.invokevirtual 390, 3) := by decide +kernel
theorem dX12_parts_79 : decode cX12_parts 79 = .ok (.iinc 5 1, 3) := by decide +kernel
theorem dX12_parts_82 : decode cX12_parts 82 = .ok (.goto (-22), 3) := by decide +kernel
theorem dX12_parts_85 : decode cX12_parts 85 = .ok (.aload_n 0, 1) := by decide +kernel
theorem dX12_parts_86 : decode cX12_parts 86 = .ok (.iload 4, 2) := by decide +kernel
theorem dX12_parts_88 : decode cX12_parts 88 = .ok (.iconst 0, 1) := by decide +kernel
theorem dX12_parts_89 : decode cX12_parts 89 = .ok (.invokevirtual 393, 3) := by decide +kernel
theorem dX12_parts_92 : decode cX12_parts 92 = .ok (.iload_n 2, 1) := by decide +kernel
theorem dX12_parts_93 : decode cX12_parts 93 = .ok (.ifCond .le 11, 3) := by decide +kernel
theorem dX12_parts_96 : decode cX12_parts 96 = .ok (.aload_n 0, 1) := by decide +kernel
theorem dX12_parts_97 : decode cX12_parts 97 = .ok (.iload_n 1, 1) := by decide +kernel
theorem dX12_parts_98 : decode cX12_parts 98 = .ok (.iload_n 2, 1) := by decide +kernel
theorem dX12_parts_99 : decode cX12_parts 99 = .ok (.iconst 1, 1) := by decide +kernel
theorem dX12_parts_100 : decode cX12_parts 100 = .ok (.isub, 1) := by decide +kernel
theorem dX12_parts_101 : decode cX12_parts 101 = .ok (.invokevirtual 396, 3) := by decide +kernel
theorem dX12_parts_104 : decode cX12_parts 104 = .ok (.aload_n 0, 1) := by decide +kernel
theorem dX12_parts_105 : decode cX12_parts 105 = .ok (.iload_n 1, 1) := by decide +kernel
theorem dX12_parts_106 : decode cX12_parts 106 = .ok (.iconst 1, 1) := by decide +kernel
theorem dX12_parts_107 : decode cX12_parts 107 = .ok (.iload_n 2, 1) := by decide +kernel
theorem dX12_parts_108 : decode cX12_parts 108 = .ok (.invokevirtual 98, 3) := by decide +kernel
theorem dX12_parts_111 : decode cX12_parts 111 = .ok (.iload_n 2, 1) := by decide +kernel
theorem dX12_parts_112 : decode cX12_parts 112 = .ok (.iconst 2, 1) := by decide +kernel
theorem dX12_parts_113 : decode cX12_parts 113 = .ok (.if_icmp .ge 10, 3) := by decide +kernel
theorem dX12_parts_116 : decode cX12_parts 116 = .ok (.aload_n 0, 1) := by decide +kernel
theorem dX12_parts_117 : decode cX12_parts 117 = .ok (.iload_n 1, 1) := by decide +kernel
theorem dX12_parts_118 : decode cX12_parts 118 = .ok (.iconst 0, 1) := by decide +kernel
theorem dX12_parts_119 : decode cX12_parts 119 = .ok (.iconst 0, 1) := by decide +kernel
theorem dX12_parts_120 : decode cX12_parts 120 = .ok (.invokevirtual 98, 3) := by decide +kernel
theorem dX12_parts_123 : decode cX12_parts 123 = .ok (.iload 4, 2) := by decide +kernel
theorem dX12_parts_125 : decode cX12_parts 125 = .ok (.iconst (-1), 1) := by decide +kernel
theorem dX12_parts_126 : decode cX12_parts 126 = .ok (.if_icmp .ne 8, 3) := by decide +kernel
theorem dX12_parts_129 : decode cX12_parts 129 = .ok (.bipush (-2), 2) := by decide +kernel
theorem dX12_parts_131 : decode cX12_parts 131 = .ok (.goto 5, 3) := by decide +kernel
theorem dX12_parts_134 : decode cX12_parts 134 = .ok (.iload 4, 2) := by decide +kernel
theorem dX12_parts_136 : decode cX12_parts 136 = .ok (.ireturn, 1) := by decide +kernel
theorem dX12_cut_0 : decode cX12_cut 0 = .ok (.aload_n 0, 1) := by decide +kernel
theorem dX12_cut_1 : decode cX12_cut 1 = .ok (.iload_n 1, 1) := by decide +kernel
theorem dX12_cut_2 : decode cX12_cut 2 = .ok (.invokevirtual 82, 3) := by decide +kernel
theorem dX12_cut_5 : decode cX12_cut 5 = .ok (.ifCond .eq 19, 3) := by decide +kernel
theorem dX12_cut_8 : decode cX12_cut 8 = .ok (.iload_n 2, 1) := by decide +kernel
theorem dX12_cut_9 : decode cX12_cut 9 = .ok (.iconst 2, 1) := by decide +kernel
theorem dX12_cut_10 : decode cX12_cut 10 = .ok (.aload_n 0, 1) := by decide +kernel
theorem dX12_cut_11 : decode cX12_cut 11 = .ok (.iload_n 1, 1) := by decide +kernel
theorem dX12_cut_12 : decode cX12_cut 12 = .ok (.iconst 1, 1) := by decide +kernel
theorem dX12_cut_13 : decode cX12_cut 13 = .ok (.invokevirtual 78, 3) := by decide +kernel
theorem dX12_cut_16 : decode cX12_cut 16 = .ok (.iconst 2, 1) := by decide +kernel
theorem dX12_cut_17 : decode cX12_cut 17 = .ok (.isub, 1) := by decide +kernel
theorem dX12_cut_18 : decode cX12_cut 18 = .ok (.invokestatic 74, 3) := by decide +kernel
theorem dX12_cut_21 : decode cX12_cut 21 = .ok (.ifCond .ne 5, 3) := by decide +kernel
theorem dX12_cut_24 : decode cX12_cut 24 = .ok (.iconst (-1), 1) := by decide +kernel
theorem dX12_cut_25 : decode cX12_cut 25 = .ok (.ireturn, 1) := by decide +kernel
theorem dX12_cut_26 : decode cX12_cut 26 = .ok (.aload_n 0, 1) := by decide +kernel
theorem dX12_cut_27 : decode cX12_cut 27 = .ok (.invokevirtual 379, 3) := by decide +kernel
theorem dX12_cut_30 : decode cX12_cut 30 = .ok (.aload_n 0, 1) := by decide +kernel
theorem dX12_cut_31 : decode cX12_cut 31 = .ok (.iload_n 1, 1) := by decide +kernel
theorem dX12_cut_32 : decode cX12_cut 32 = .ok (.iload_n 2, 1) := by decide +kernel
theorem dX12_cut_33 : decode cX12_cut 33 = .ok (.invokevirtual 399, 3) := by decide +kernel
theorem dX12_cut_36 : decode cX12_cut 36 = .ok (.istore_n 3, 1) := by decide +kernel
theorem dX12_cut_37 : decode cX12_cut 37 = .ok (.aload_n 0, 1) := by decide +kernel
theorem dX12_cut_38 : decode cX12_cut 38 = .ok (.iload_n 1, 1) := by decide +kernel
theorem dX12_cut_39 : decode cX12_cut 39 = .ok (.iload_n 2, 1) := by decide +kernel
theorem dX12_cut_40 : decode cX12_cut 40 = .ok (.iconst (-1), 1) := by decide +kernel
theorem dX12_cut_41 : decode cX12_cut 41 = .ok (.iload_n 3, 1) := by decide +kernel
theorem dX12_cut_42 : decode cX12_cut 42 = .ok (.invokestatic 337, 3) := by decide +kernel
theorem dX12_cut_45 : decode cX12_cut 45 = .ok (.iconst 3, 1) := by decide +kernel
theorem dX12_cut_46 : decode cX12_cut 46 = .ok (.iconst (-1), 1) := by decide +kernel
theorem dX12_cut_47 : decode cX12_cut 47 = .ok (.invokevirtual 373, 3) := by decide +kernel
theorem dX12_cut_50 : decode cX12_cut 50 = .ok (.iload_n 3, 1) := by decide +kernel
theorem dX12_cut_51 : decode cX12_cut 51 = .ok (.ireturn, 1) := by decide +kernel
theorem dX12_sinceBoth_0 : decode cX12_sinceBoth 0 = .ok (.aload_n 0, 1) := by decide +kernel
theorem dX12_sinceBoth_1 : decode cX12_sinceBoth 1 = .ok (.iload_n 1, 1) := by decide +kernel
theorem dX12_sinceBoth_2 : decode cX12_sinceBoth 2 = .ok (.iload_n 2, 1) := by decide +kernel
theorem dX12_sinceBoth_3 : decode cX12_sinceBoth 3 = .ok (.iload 5, 2) := by decide +kernel
theorem dX12_sinceBoth_5 : decode cX12_sinceBoth 5 = .ok (.invokevirtual 354, 3) := by decide +kernel
theorem dX12_sinceBoth_8 : decode cX12_sinceBoth 8 = .ok (.ifCond .ne 16, 3) := by decide +kernel
theorem dX12_sinceBoth_11 : decode cX12_sinceBoth 11 = .ok (.aload_n 0, 1) := by decide +kernel
theorem dX12_sinceBoth_12 : decode cX12_sinceBoth 12 = .ok (.iload_n 3, 1) := by decide +kernel
theorem dX12_sinceBoth_13 : decode cX12_sinceBoth 13 = .ok (.iload 4, 2) := by decide +kernel
theorem dX12_sinceBoth_15 : decode cX12_sinceBoth 15 = .ok (.bipush 7, 2) := by decide +kernel
theorem dX12_sinceBoth_17 : decode cX12_sinceBoth 17 = .ok (.iload 5, 2) := by decide +kernel
theorem dX12_sinceBoth_19 : decode cX12_sinceBoth 19 = .ok (.iadd, 1) := by decide +kernel
theorem dX12_sinceBoth_20 : decode cX12_sinceBoth 20 = .ok (.invokevirtual 86, 3) := by decide +kernel
theorem dX12_sinceBoth_23 : decode cX12_sinceBoth 23 = .ok (.ireturn, 1) := by decide +kernel
theorem dX12_sinceBoth_24 : decode cX12_sinceBoth 24 = .ok (.aload_n 0, 1) := by decide +kernel
theorem dX12_sinceBoth_25 : decode cX12_sinceBoth 25 = .ok (.iload_n 3, 1) := by decide +kernel
theorem dX12_sinceBoth_26 : decode cX12_sinceBoth 26 = .ok (.iload 4, 2) := by decide +kernel
theorem dX12_sinceBoth_28 : decode cX12_sinceBoth 28 = .ok (.iload 5, 2) := by decide +kernel
theorem dX12_sinceBoth_30 : decode cX12_sinceBoth 30 = .ok (.invokevirtual 354, 3) := by decide +kernel
theorem dX12_sinceBoth_33 : decode cX12_sinceBoth 33 = .ok (.ifCond .ne 15, 3) := by decide +kernel
theorem dX12_sinceBoth_36 : decode cX12_sinceBoth 36 = .ok (.aload_n 0, 1) := by decide +kernel
theorem dX12_sinceBoth_37 : decode cX12_sinceBoth 37 = .ok (.iload_n 1, 1) := by decide +kernel
theorem dX12_sinceBoth_38 : decode cX12_sinceBoth 38 = .ok (.iload_n 2, 1) := by decide +kernel
theorem dX12_sinceBoth_39 : decode cX12_sinceBoth 39 = .ok (.bipush 7, 2) := by decide +kernel
theorem dX12_sinceBoth_41 : decode cX12_sinceBoth 41 = .ok (.iload 5, 2) := by decide +kernel
theorem dX12_sinceBoth_43 : decode cX12_sinceBoth 43 = .ok (.iadd, 1) := by decide +kernel
theorem dX12_sinceBoth_44 : decode cX12_sinceBoth 44 = .ok (.invokevirtual 86, 3) := by decide +kernel
theorem dX12_sinceBoth_47 : decode cX12_sinceBoth 47 = .ok (.ireturn, 1) := by decide +kernel
theorem dX12_sinceBoth_48 : decode cX12_sinceBoth 48 = .ok (.aload_n 0, 1) := by decide +kernel
theorem dX12_sinceBoth_49 : decode cX12_sinceBoth 49 = .ok (.iload_n 1, 1) := by decide +kernel
theorem dX12_sinceBoth_50 : decode cX12_sinceBoth 50 = .ok (.iload_n 2, 1) := by decide +kernel
theorem dX12_sinceBoth_51 : decode cX12_sinceBoth 51 = .ok (.bipush 7, 2) := by decide +kernel
theorem dX12_sinceBoth_53 : decode cX12_sinceBoth 53 = .ok (.iload 5, 2) := by decide +kernel
theorem dX12_sinceBoth_55 : decode cX12_sinceBoth 55 = .ok (.iadd, 1) := by decide +kernel
theorem dX12_sinceBoth_56 : decode cX12_sinceBoth 56 = .ok (.invokevirtual 86, 3) := by decide +kernel
theorem dX12_sinceBoth_59 : decode cX12_sinceBoth 59 = .ok (.aload_n 0, 1) := by decide +kernel
theorem dX12_sinceBoth_60 : decode cX12_sinceBoth 60 = .ok (.iload_n 3, 1) := by decide +kernel
theorem dX12_sinceBoth_61 : decode cX12_sinceBoth 61 = .ok (.iload 4, 2) := by decide +kernel
theorem dX12_sinceBoth_63 : decode cX12_sinceBoth 63 = .ok (.bipush 7, 2) := by decide +kernel
theorem dX12_sinceBoth_65 : decode cX12_sinceBoth 65 = .ok (.iload 5, 2) := by decide +kernel
theorem dX12_sinceBoth_67 : decode cX12_sinceBoth 67 = .ok (.iadd, 1) := by decide +kernel
theorem dX12_sinceBoth_68 : decode cX12_sinceBoth 68 = .ok (.invokevirtual 86, 3) := by decide +kernel
theorem dX12_sinceBoth_71 : decode cX12_sinceBoth 71 = .ok (.invokestatic 334, 3) := by decide +kernel
theorem dX12_sinceBoth_74 : decode cX12_sinceBoth 74 = .ok (.ireturn, 1) := by decide +kernel
theorem dX12_splice_0 : decode cX12_splice 0 = .ok (.aload_n 0, 1) := by decide +kernel
theorem dX12_splice_1 : decode cX12_splice 1 = .ok (.iload_n 1, 1) := by decide +kernel
theorem dX12_splice_2 : decode cX12_splice 2 = .ok (.invokevirtual 82, 3) := by decide +kernel
theorem dX12_splice_5 : decode cX12_splice 5 = .ok (.ifCond .eq 34, 3) := by decide +kernel
theorem dX12_splice_8 : decode cX12_splice 8 = .ok (.aload_n 0, 1) := by decide +kernel
theorem dX12_splice_9 : decode cX12_splice 9 = .ok (.iload_n 2, 1) := by decide +kernel
theorem dX12_splice_10 : decode cX12_splice 10 = .ok (.invokevirtual 82, 3) := by decide +kernel
theorem dX12_splice_13 : decode cX12_splice 13 = .ok (.ifCond .eq 26, 3) := by decide +kernel
theorem dX12_splice_16 : decode cX12_splice 16 = .ok (.iload_n 1, 1) := by decide +kernel
theorem dX12_splice_17 : decode cX12_splice 17 = .ok (.iload_n 2, 1) := by decide +kernel
theorem dX12_splice_18 : decode cX12_splice 18 = .ok (.if_icmp .eq 21, 3) := by decide +kernel
theorem dX12_splice_21 : decode cX12_splice 21 = .ok (.aload_n 0, 1) := by decide +kernel
theorem dX12_splice_22 : decode cX12_splice 22 = .ok (.iload_n 1, 1) := by decide +kernel
theorem dX12_splice_23 : decode cX12_splice 23 = .ok (.iconst 1, 1) := by decide +kernel
theorem dX12_splice_24 : decode cX12_splice 24 = .ok (.invokevirtual 78, 3) := by decide +kernel
theorem dX12_splice_27 : decode cX12_splice 27 = .ok (.aload_n 0, 1) := by decide +kernel
theorem dX12_splice_28 : decode cX12_splice 28 = .ok (.iload_n 2, 1) := by decide +kernel
theorem dX12_splice_29 : decode cX12_splice 29 = .ok (.iconst 1, 1) := by decide +kernel
theorem dX12_splice_30 : decode cX12_splice 30 = .ok (.invokevirtual 78, 3) := by decide +kernel
theorem dX12_splice_33 : decode cX12_splice 33 = .ok (.iadd, 1) := by decide +kernel
theorem dX12_splice_34 : decode cX12_splice 34 = .ok (.bipush 24, 2) := by decide +kernel
theorem dX12_splice_36 : decode cX12_splice 36 = .ok (.if_icmp .le 5, 3) := by decide +kernel
theorem dX12_splice_39 : decode cX12_splice 39 = .ok (.iconst (-1), 1) := by decide +kernel
theorem dX12_splice_40 : decode cX12_splice 40 = .ok (.ireturn, 1) := by decide +kernel
theorem dX12_splice_41 : decode cX12_splice 41 = .ok (.aload_n 0, 1) := by decide +kernel
theorem dX12_splice_42 : decode cX12_splice 42 = .ok (.invokevirtual 379, 3) := by decide +kernel
theorem dX12_splice_45 : decode cX12_splice 45 = .ok (.aload_n 0, 1) := by decide +kernel
theorem dX12_splice_46 : decode cX12_splice 46 = .ok (.iload_n 1, 1) := by decide +kernel
theorem dX12_splice_47 : decode cX12_splice 47 = .ok (.iconst 1, 1) := by decide +kernel
theorem dX12_splice_48 : decode cX12_splice 48 = .ok (.invokevirtual 78, 3) := by decide +kernel
theorem dX12_splice_51 : decode cX12_splice 51 = .ok (.istore_n 3, 1) := by decide +kernel
theorem dX12_splice_52 : decode cX12_splice 52 = .ok (.aload_n 0, 1) := by decide +kernel
theorem dX12_splice_53 : decode cX12_splice 53 = .ok (.iload_n 1, 1) := by decide +kernel
theorem dX12_splice_54 : decode cX12_splice 54 = .ok (.iload_n 3, 1) := by decide +kernel
theorem dX12_splice_55 : decode cX12_splice 55 = .ok (.iload_n 2, 1) := by decide +kernel
theorem dX12_splice_56 : decode cX12_splice 56 = .ok (.iconst 4, 1) := by decide +kernel
theorem dX12_splice_57 : decode cX12_splice 57 = .ok (.iconst (-1), 1) := by decide +kernel
theorem dX12_splice_58 : decode cX12_splice 58 = .ok (.invokevirtual 373, 3) := by decide +kernel
theorem dX12_splice_61 : decode cX12_splice 61 = .ok (.iconst 0, 1) := by decide +kernel
theorem dX12_splice_62 : decode cX12_splice 62 = .ok (.istore 4, 2) := by decide +kernel
theorem dX12_splice_64 : decode cX12_splice 64 = .ok (.iload 4, 2) := by decide +kernel
theorem dX12_splice_66 : decode cX12_splice 66 = .ok (.bipush 6, 2) := by decide +kernel
theorem dX12_splice_68 : decode cX12_splice 68 = .ok (.if_icmp .ge 72, 3) := by decide +kernel
theorem dX12_splice_71 : decode cX12_splice 71 = .ok (.aload_n 0, 1) := by decide +kernel
theorem dX12_splice_72 : decode cX12_splice 72 = .ok (.iload_n 1, 1) := by decide +kernel
theorem dX12_splice_73 : decode cX12_splice 73 = .ok (.iload_n 3, 1) := by decide +kernel
theorem dX12_splice_74 : decode cX12_splice 74 = .ok (.iconst 1, 1) := by decide +kernel
theorem dX12_splice_75 : decode cX12_splice 75 = .ok (.isub, 1) := by decide +kernel
theorem dX12_splice_76 : decode cX12_splice 76 = .ok (.iload_n 2, 1) := by decide +kernel
theorem dX12_splice_77 : decode cX12_splice 77 = .ok (.iconst 0, 1) := by decide +kernel
theorem dX12_splice_78 : decode cX12_splice 78 = .ok (.iload 4, 2) := by decide +kernel
theorem dX12_splice_80 : decode cX12_splice 80 = .ok (.invokevirtual 402, 3) := by decide +kernel
theorem dX12_splice_83 : decode cX12_splice 83 = .ok (.istore 5, 2) := by decide +kernel
theorem dX12_splice_85 : decode cX12_splice 85 = .ok (.aload_n 0, 1) := by decide +kernel
theorem dX12_splice_86 : decode cX12_splice 86 = .ok (.iload_n 1, 1) := by decide +kernel
theorem dX12_splice_87 : decode cX12_splice 87 = .ok (.iload_n 3, 1) := by decide +kernel
theorem dX12_splice_88 : decode cX12_splice 88 = .ok (.iconst 1, 1) := by decide +kernel
theorem dX12_splice_89 : decode cX12_splice 89 = .ok (.isub, 1) := by decide +kernel
theorem dX12_splice_90 : decode cX12_splice 90 = .ok (.iload 4, 2) := by decide +kernel
theorem dX12_splice_92 : decode cX12_splice 92 = .ok (.invokevirtual 354, 3) := by decide +kernel
theorem dX12_splice_95 : decode cX12_splice 95 = .ok (.aload_n 0, 1) := by decide +kernel
theorem dX12_splice_96 : decode cX12_splice 96 = .ok (.iload_n 2, 1) := by decide +kernel
theorem dX12_splice_97 : decode cX12_splice 97 = .ok (.iconst 0, 1) := by decide +kernel
theorem dX12_splice_98 : decode cX12_splice 98 = .ok (.iload 4, 2) := by decide +kernel
theorem dX12_splice_100 : decode cX12_splice 100 = .ok (.invokevirtual 354, 3) := by decide +kernel
theorem dX12_splice_103 : decode cX12_splice 103 = .ok (.invokestatic 337, 3) := by decide +kernel
theorem dX12_splice_106 : decode cX12_splice 106 = .ok (.istore 6, 2) := by decide +kernel
theorem dX12_splice_108 : decode cX12_splice 108 = .ok (.aload_n 0, 1) := by decide +kernel
theorem dX12_splice_109 : decode cX12_splice 109 = .ok (.iload_n 1, 1) := by decide +kernel
theorem dX12_splice_110 : decode cX12_splice 110 = .ok (.iload_n 3, 1) := by decide +kernel
theorem dX12_splice_111 : decode cX12_splice 111 = .ok (.iconst 1, 1) := by decide +kernel
theorem dX12_splice_112 : decode cX12_splice 112 = .ok (.isub, 1) := by decide +kernel
theorem dX12_splice_113 : decode cX12_splice 113 = .ok (.iload 4, 2) := by decide +kernel
theorem dX12_splice_115 : decode cX12_splice 115 = .ok (.iload 6, 2) := by decide +kernel
theorem dX12_splice_117 : decode cX12_splice 117 = .ok (.iload 5, 2) := by decide +kernel
theorem dX12_splice_119 : decode cX12_splice 119 = .ok (.invokevirtual 106, 3) := by decide +kernel
theorem dX12_splice_122 : decode cX12_splice 122 = .ok (.aload_n 0, 1) := by decide +kernel
theorem dX12_splice_123 : decode cX12_splice 123 = .ok (.iload_n 2, 1) := by decide +kernel
theorem dX12_splice_124 : decode cX12_splice 124 = .ok (.iconst 0, 1) := by decide +kernel
theorem dX12_splice_125 : decode cX12_splice 125 = .ok (.iload 4, 2) := by decide +kernel
theorem dX12_splice_127 : decode cX12_splice 127 = .ok (.iload 6, 2) := by decide +kernel
theorem dX12_splice_129 : decode cX12_splice 129 = .ok (.iload 5, 2) := by decide +kernel
theorem dX12_splice_131 : decode cX12_splice 131 = .ok (.invokevirtual 106, 3) := by decide +kernel
theorem dX12_splice_134 : decode cX12_splice 134 = .ok (.iinc 4 1, 3) := by decide +kernel
theorem dX12_splice_137 : decode cX12_splice 137 = .ok (.goto (-73), 3) := by decide +kernel
theorem dX12_splice_140 : decode cX12_splice 140 = .ok (.iconst 0, 1) := by decide +kernel
theorem dX12_splice_141 : decode cX12_splice 141 = .ok (.istore 4, 2) := by decide +kernel
theorem dX12_splice_143 : decode cX12_splice 143 = .ok (.iload 4, 2) := by decide +kernel
theorem dX12_splice_145 : decode cX12_splice 145 = .ok (.aload_n 0, 1) := by decide +kernel
theorem dX12_splice_146 : decode cX12_splice 146 = .ok (.iload_n 2, 1) := by decide +kernel
theorem dX12_splice_147 : decode cX12_splice 147 = .ok (.iconst 1, 1) := by decide +kernel
theorem dX12_splice_148 : decode cX12_splice 148 = .ok (.invokevirtual 78, 3) := by decide +kernel
theorem dX12_splice_151 : decode cX12_splice 151 = .ok (.if_icmp .ge 21, 3) := by decide +kernel
theorem dX12_splice_154 : decode cX12_splice 154 = .ok (.aload_n 0, 1) := by decide +kernel
theorem dX12_splice_155 : decode cX12_splice 155 = .ok (.iload_n 1, 1) := by decide +kernel
theorem dX12_splice_156 : decode cX12_splice 156 = .ok (.iload_n 3, 1) := by decide +kernel
theorem dX12_splice_157 : decode cX12_splice 157 = .ok (.iload 4, 2) := by decide +kernel
theorem dX12_splice_159 : decode cX12_splice 159 = .ok (.iadd, 1) := by decide +kernel
theorem dX12_splice_160 : decode cX12_splice 160 = .ok (.iload_n 2, 1) := by decide +kernel
theorem dX12_splice_161 : decode cX12_splice 161 = .ok (.iload 4, 2) := by decide +kernel
theorem dX12_splice_163 : decode cX12_splice 163 = .ok (.invokevirtual 390, 3) := by decide +kernel
theorem dX12_splice_166 : decode cX12_splice 166 = .ok (.iinc 4 1, 3) := by decide +kernel
theorem dX12_splice_169 : decode cX12_splice 169 = .ok (.goto (-26), 3) := by decide +kernel
theorem dX12_splice_172 : decode cX12_splice 172 = .ok (.aload_n 0, 1) := by decide +kernel
theorem dX12_splice_173 : decode cX12_splice 173 = .ok (.iload_n 1, 1) := by decide +kernel
theorem dX12_splice_174 : decode cX12_splice 174 = .ok (.iconst 1, 1) := by decide +kernel
theorem dX12_splice_175 : decode cX12_splice 175 = .ok (.iload_n 3, 1) := by decide +kernel
theorem dX12_splice_176 : decode cX12_splice 176 = .ok (.aload_n 0, 1) := by decide +kernel
theorem dX12_splice_177 : decode cX12_splice 177 = .ok (.iload_n 2, 1) := by decide +kernel
theorem dX12_splice_178 : decode cX12_splice 178 = .ok (.iconst 1, 1) := by decide +kernel
theorem dX12_splice_179 : decode cX12_splice 179 = .ok (.invokevirtual 78, 3) := by decide +kernel
theorem dX12_splice_182 : decode cX12_splice 182 = .ok (.iadd, 1) := by decide +kernel
theorem dX12_splice_183 : decode cX12_splice 183 = .ok (.invokevirtual 98, 3) := by decide +kernel
theorem dX12_splice_186 : decode cX12_splice 186 = .ok (.aload_n 0, 1) := by decide +kernel
theorem dX12_splice_187 : decode cX12_splice 187 = .ok (.iload_n 1, 1) := by decide +kernel
theorem dX12_splice_188 : decode cX12_splice 188 = .ok (.iconst 4, 1) := by decide +kernel
theorem dX12_splice_189 : decode cX12_splice 189 = .ok (.aload_n 0, 1) := by decide +kernel
theorem dX12_splice_190 : decode cX12_splice 190 = .ok (.iload_n 1, 1) := by decide +kernel
theorem dX12_splice_191 : decode cX12_splice 191 = .ok (.iconst 4, 1) := by decide +kernel
theorem dX12_splice_192 : decode cX12_splice 192 = .ok (.invokevirtual 78, 3) := by decide +kernel
theorem dX12_splice_195 : decode cX12_splice 195 = .ok (.aload_n 0, 1) := by decide +kernel
theorem dX12_splice_196 : decode cX12_splice 196 = .ok (.iload_n 2, 1) := by decide +kernel
theorem dX12_splice_197 : decode cX12_splice 197 = .ok (.iconst 4, 1) := by decide +kernel
theorem dX12_splice_198 : decode cX12_splice 198 = .ok (.invokevirtual 78, 3) := by decide +kernel
theorem dX12_splice_201 : decode cX12_splice 201 = .ok (.invokestatic 337, 3) := by decide +kernel
theorem dX12_splice_204 : decode cX12_splice 204 = .ok (.invokevirtual 98, 3) := by decide +kernel
theorem dX12_splice_207 : decode cX12_splice 207 = .ok (.aload_n 0, 1) := by decide +kernel
theorem dX12_splice_208 : decode cX12_splice 208 = .ok (.iload_n 2, 1) := by decide +kernel
theorem dX12_splice_209 : decode cX12_splice 209 = .ok (.iconst 0, 1) := by decide +kernel
theorem dX12_splice_210 : decode cX12_splice 210 = .ok (.iconst 0, 1) := by decide +kernel
theorem dX12_splice_211 : decode cX12_splice 211 = .ok (.invokevirtual 98, 3) := by decide +kernel
theorem dX12_splice_214 : decode cX12_splice 214 = .ok (.aload_n 0, 1) := by decide +kernel
theorem dX12_splice_215 : decode cX12_splice 215 = .ok (.iload_n 1, 1) := by decide +kernel
theorem dX12_splice_216 : decode cX12_splice 216 = .ok (.iconst 1, 1) := by decide +kernel
theorem dX12_splice_217 : decode cX12_splice 217 = .ok (.invokevirtual 78, 3) := by decide +kernel
theorem dX12_splice_220 : decode cX12_splice 220 = .ok (.ireturn, 1) := by decide +kernel
theorem dX12_sell_0 : decode cX12_sell 0 = .ok (.aload_n 0, 1) := by decide +kernel
theorem dX12_sell_1 : decode cX12_sell 1 = .ok (.iload_n 1, 1) := by decide +kernel
theorem dX12_sell_2 : decode cX12_sell 2 = .ok (.invokevirtual 82, 3) := by decide +kernel
theorem dX12_sell_5 : decode cX12_sell 5 = .ok (.ifCond .eq 23, 3) := by decide +kernel
theorem dX12_sell_8 : decode cX12_sell 8 = .ok (.iload_n 2, 1) := by decide +kernel
theorem dX12_sell_9 : decode cX12_sell 9 = .ok (.iconst 0, 1) := by decide +kernel
theorem dX12_sell_10 : decode cX12_sell 10 = .ok (.bipush 9, 2) := by decide +kernel
theorem dX12_sell_12 : decode cX12_sell 12 = .ok (.invokestatic 74, 3) := by decide +kernel
theorem dX12_sell_15 : decode cX12_sell 15 = .ok (.ifCond .eq 13, 3) := by decide +kernel
theorem dX12_sell_18 : decode cX12_sell 18 = .ok (.aload_n 0, 1) := by decide +kernel
theorem dX12_sell_19 : decode cX12_sell 19 = .ok (.iload_n 1, 1) := by decide +kernel
theorem dX12_sell_20 : decode cX12_sell 20 = .ok (.iconst 2, 1) := by decide +kernel
theorem dX12_sell_21 : decode cX12_sell 21 = .ok (.invokevirtual 78, 3) := by decide +kernel
theorem dX12_sell_24 : decode cX12_sell 24 = .ok (.iload_n 2, 1) := by decide +kernel
theorem dX12_sell_25 : decode cX12_sell 25 = .ok (.if_icmp .ne 5, 3) := by decide +kernel
theorem dX12_sell_28 : decode cX12_sell 28 = .ok (.iconst 0, 1) := by decide +kernel
theorem dX12_sell_29 : decode cX12_sell 29 = .ok (.ireturn, 1) := by decide +kernel
theorem dX12_sell_30 : decode cX12_sell 30 = .ok (.aload_n 0, 1) := by decide +kernel
theorem dX12_sell_31 : decode cX12_sell 31 = .ok (.invokevirtual 379, 3) := by decide +kernel
theorem dX12_sell_34 : decode cX12_sell 34 = .ok (.aload_n 0, 1) := by decide +kernel
theorem dX12_sell_35 : decode cX12_sell 35 = .ok (.iload_n 1, 1) := by decide +kernel
theorem dX12_sell_36 : decode cX12_sell 36 = .ok (.iconst 2, 1) := by decide +kernel
theorem dX12_sell_37 : decode cX12_sell 37 = .ok (.iload_n 2, 1) := by decide +kernel
theorem dX12_sell_38 : decode cX12_sell 38 = .ok (.invokevirtual 98, 3) := by decide +kernel
theorem dX12_sell_41 : decode cX12_sell 41 = .ok (.aload_n 0, 1) := by decide +kernel
theorem dX12_sell_42 : decode cX12_sell 42 = .ok (.iload_n 1, 1) := by decide +kernel
theorem dX12_sell_43 : decode cX12_sell 43 = .ok (.iconst (-1), 1) := by decide +kernel
theorem dX12_sell_44 : decode cX12_sell 44 = .ok (.iload_n 2, 1) := by decide +kernel
theorem dX12_sell_45 : decode cX12_sell 45 = .ok (.iconst 5, 1) := by decide +kernel
theorem dX12_sell_46 : decode cX12_sell 46 = .ok (.iconst (-1), 1) := by decide +kernel
theorem dX12_sell_47 : decode cX12_sell 47 = .ok (.invokevirtual 373, 3) := by decide +kernel
theorem dX12_sell_50 : decode cX12_sell 50 = .ok (.iconst 1, 1) := by decide +kernel
theorem dX12_sell_51 : decode cX12_sell 51 = .ok (.ireturn, 1) := by decide +kernel
theorem dX12_isAhead_0 : decode cX12_isAhead 0 = .ok (.aload_n 0, 1) := by decide +kernel
theorem dX12_isAhead_1 : decode cX12_isAhead 1 = .ok (.iload_n 1, 1) := by decide +kernel
theorem dX12_isAhead_2 : decode cX12_isAhead 2 = .ok (.iload_n 2, 1) := by decide +kernel
theorem dX12_isAhead_3 : decode cX12_isAhead 3 = .ok (.bipush 7, 2) := by decide +kernel
theorem dX12_isAhead_5 : decode cX12_isAhead 5 = .ok (.aload_n 0, 1) := by decide +kernel
theorem dX12_isAhead_6 : decode cX12_isAhead 6 = .ok (.getfield 50, 3) := by decide +kernel
theorem dX12_isAhead_9 : decode cX12_isAhead 9 = .ok (.iload_n 2, 1) := by decide +kernel
theorem dX12_isAhead_10 : decode cX12_isAhead 10 = .ok (.iaload, 1) := by decide +kernel
theorem dX12_isAhead_11 : decode cX12_isAhead 11 = .ok (.iadd, 1) := by decide +kernel
theorem dX12_isAhead_12 : decode cX12_isAhead 12 = .ok (.invokevirtual 86, 3) := by decide +kernel
theorem dX12_isAhead_15 : decode cX12_isAhead 15 = .ok (.aload_n 0, 1) := by decide +kernel
theorem dX12_isAhead_16 : decode cX12_isAhead 16 = .ok (.iload_n 1, 1) := by decide +kernel
theorem dX12_isAhead_17 : decode cX12_isAhead 17 = .ok (.iload_n 3, 1) := by decide +kernel
theorem dX12_isAhead_18 : decode cX12_isAhead 18 = .ok (.bipush 7, 2) := by decide +kernel
theorem dX12_isAhead_20 : decode cX12_isAhead 20 = .ok (.aload_n 0, 1) := by decide +kernel
theorem dX12_isAhead_21 : decode cX12_isAhead 21 = .ok (.getfield 50, 3) := by decide +kernel
theorem dX12_isAhead_24 : decode cX12_isAhead 24 = .ok (.iload_n 3, 1) := by decide +kernel
theorem dX12_isAhead_25 : decode cX12_isAhead 25 = .ok (.iaload, 1) := by decide +kernel
theorem dX12_isAhead_26 : decode cX12_isAhead 26 = .ok (.iadd, 1) := by decide +kernel
theorem dX12_isAhead_27 : decode cX12_isAhead 27 = .ok (.invokevirtual 86, 3) := by decide +kernel
theorem dX12_isAhead_30 : decode cX12_isAhead 30 = .ok (.if_icmp .ge 7, 3) := by decide +kernel
theorem dX12_isAhead_33 : decode cX12_isAhead 33 = .ok (.iconst 1, 1) := by decide +kernel
theorem dX12_isAhead_34 : decode cX12_isAhead 34 = .ok (.goto 4, 3) := by decide +kernel
theorem dX12_isAhead_37 : decode cX12_isAhead 37 = .ok (.iconst 0, 1) := by decide +kernel
theorem dX12_isAhead_38 : decode cX12_isAhead 38 = .ok (.ireturn, 1) := by decide +kernel
theorem dX12_laysRow_0 : decode cX12_laysRow 0 = .ok (.iconst 0, 1) := by decide +kernel
theorem dX12_laysRow_1 : decode cX12_laysRow 1 = .ok (.istore_n 2, 1) := by decide +kernel
theorem dX12_laysRow_2 : decode cX12_laysRow 2 = .ok (.iconst 0, 1) := by decide +kernel
theorem dX12_laysRow_3 : decode cX12_laysRow 3 = .ok (.istore_n 3, 1) := by decide +kernel
theorem dX12_laysRow_4 : decode cX12_laysRow 4 = .ok (.iload_n 3, 1) := by decide +kernel
theorem dX12_laysRow_5 : decode cX12_laysRow 5 = .ok (.aload_n 0, 1) := by decide +kernel
theorem dX12_laysRow_6 : decode cX12_laysRow 6 = .ok (.iload_n 1, 1) := by decide +kernel
theorem dX12_laysRow_7 : decode cX12_laysRow 7 = .ok (.iconst 1, 1) := by decide +kernel
theorem dX12_laysRow_8 : decode cX12_laysRow 8 = .ok (.invokevirtual 78, 3) := by decide +kernel
theorem dX12_laysRow_11 : decode cX12_laysRow 11 = .ok (.if_icmp .ge 106, 3) := by decide +kernel
theorem dX12_laysRow_14 : decode cX12_laysRow 14 = .ok (.aload_n 0, 1) := by decide +kernel
theorem dX12_laysRow_15 : decode cX12_laysRow 15 = .ok (.getfield 50, 3) := by decide +kernel
theorem dX12_laysRow_18 : decode cX12_laysRow 18 = .ok (.iload_n 3, 1) := by decide +kernel
theorem dX12_laysRow_19 : decode cX12_laysRow 19 = .ok (.aload_n 0, 1) := by decide +kernel
theorem dX12_laysRow_20 : decode cX12_laysRow 20 = .ok (.iload_n 1, 1) := by decide +kernel
theorem dX12_laysRow_21 : decode cX12_laysRow 21 = .ok (.iload_n 3, 1) := by decide +kernel
theorem dX12_laysRow_22 : decode cX12_laysRow 22 = .ok (.invokevirtual 340, 3) := by decide +kernel
theorem dX12_laysRow_25 : decode cX12_laysRow 25 = .ok (.ifCond .eq 7, 3) := by decide +kernel
theorem dX12_laysRow_28 : decode cX12_laysRow 28 = .ok (.iconst (-1), 1) := by decide +kernel
theorem dX12_laysRow_29 : decode cX12_laysRow 29 = .ok (.goto 9, 3) := by decide +kernel
theorem dX12_laysRow_32 : decode cX12_laysRow 32 = .ok (.aload_n 0, 1) := by decide +kernel
theorem dX12_laysRow_33 : decode cX12_laysRow 33 = .ok (.iload_n 1, 1) := by decide +kernel
theorem dX12_laysRow_34 : decode cX12_laysRow 34 = .ok (.iload_n 3, 1) := by decide +kernel
theorem dX12_laysRow_35 : decode cX12_laysRow 35 = .ok (.invokevirtual 384, 3) := by decide +kernel
theorem dX12_laysRow_38 : decode cX12_laysRow 38 = .ok (.iastore, 1) := by decide +kernel
theorem dX12_laysRow_39 : decode cX12_laysRow 39 = .ok (.aload_n 0, 1) := by decide +kernel
theorem dX12_laysRow_40 : decode cX12_laysRow 40 = .ok (.getfield 50, 3) := by decide +kernel
theorem dX12_laysRow_43 : decode cX12_laysRow 43 = .ok (.iload_n 3, 1) := by decide +kernel
theorem dX12_laysRow_44 : decode cX12_laysRow 44 = .ok (.iaload, 1) := by decide +kernel
theorem dX12_laysRow_45 : decode cX12_laysRow 45 = .ok (.iconst (-1), 1) := by decide +kernel
theorem dX12_laysRow_46 : decode cX12_laysRow 46 = .ok (.if_icmp .ne 6, 3) := by decide +kernel
theorem dX12_laysRow_49 : decode cX12_laysRow 49 = .ok (.goto 62, 3) := by decide +kernel
theorem dX12_laysRow_52 : decode cX12_laysRow 52 = .ok (.iload_n 2, 1) := by decide +kernel
theorem dX12_laysRow_53 : decode cX12_laysRow 53 = .ok (.istore 4, 2) := by decide +kernel
theorem dX12_laysRow_55 : decode cX12_laysRow 55 = .ok (.iload 4, 2) := by decide +kernel
theorem dX12_laysRow_57 : decode cX12_laysRow 57 = .ok (.ifCond .le 43, 3) := by decide +kernel
theorem dX12_laysRow_60 : decode cX12_laysRow 60 = .ok (.aload_n 0, 1) := by decide +kernel
theorem dX12_laysRow_61 : decode cX12_laysRow 61 = .ok (.iload_n 1, 1) := by decide +kernel
theorem dX12_laysRow_62 : decode cX12_laysRow 62 = .ok (.iload_n 3, 1) := by decide +kernel
theorem dX12_laysRow_63 : decode cX12_laysRow 63 = .ok (.aload_n 0, 1) := by decide +kernel
theorem dX12_laysRow_64 : decode cX12_laysRow 64 = .ok (.getfield 47, 3) := by decide +kernel
theorem dX12_laysRow_67 : decode cX12_laysRow 67 = .ok (.iload 4, 2) := by decide +kernel
theorem dX12_laysRow_69 : decode cX12_laysRow 69 = .ok (.iconst 1, 1) := by decide +kernel
theorem dX12_laysRow_70 : decode cX12_laysRow 70 = .ok (.isub, 1) := by decide +kernel
theorem dX12_laysRow_71 : decode cX12_laysRow 71 = .ok (.iaload, 1) := by decide +kernel
theorem dX12_laysRow_72 : decode cX12_laysRow 72 = .ok (.invokevirtual 405, 3) := by decide +kernel
theorem dX12_laysRow_75 : decode cX12_laysRow 75 = .ok (.ifCond .eq 25, 3) := by decide +kernel
theorem dX12_laysRow_78 : decode cX12_laysRow 78 = .ok (.aload_n 0, 1) := by decide +kernel
theorem dX12_laysRow_79 : decode cX12_laysRow 79 = .ok (.getfield 47, 3) := by decide +kernel
theorem dX12_laysRow_82 : decode cX12_laysRow 82 = .ok (.iload 4, 2) := by decide +kernel
theorem dX12_laysRow_84 : decode cX12_laysRow 84 = .ok (.aload_n 0, 1) := by decide +kernel
theorem dX12_laysRow_85 : decode cX12_laysRow 85 = .ok (.getfield 47, 3) := by decide +kernel
theorem dX12_laysRow_88 : decode cX12_laysRow 88 = .ok (.iload 4, 2) := by decide +kernel
theorem dX12_laysRow_90 : decode cX12_laysRow 90 = .ok (.iconst 1, 1) := by decide +kernel
theorem dX12_laysRow_91 : decode cX12_laysRow 91 = .ok (.isub, 1) := by decide +kernel
theorem dX12_laysRow_92 : decode cX12_laysRow 92 = .ok (.iaload, 1) := by decide +kernel
theorem dX12_laysRow_93 : decode cX12_laysRow 93 = .ok (.iastore, 1) := by decide +kernel
theorem dX12_laysRow_94 : decode cX12_laysRow 94 = .ok (.iinc 4 (-1), 3) := by decide +kernel
theorem dX12_laysRow_97 : decode cX12_laysRow 97 = .ok (.goto (-42), 3) := by decide +kernel
theorem dX12_laysRow_100 : decode cX12_laysRow 100 = .ok (.aload_n 0, 1) := by decide +kernel
theorem dX12_laysRow_101 : decode cX12_laysRow 101 = .ok (.getfield 47, 3) := by decide +kernel
theorem dX12_laysRow_104 : decode cX12_laysRow 104 = .ok (.iload 4, 2) := by decide +kernel
theorem dX12_laysRow_106 : decode cX12_laysRow 106 = .ok (.iload_n 3, 1) := by decide +kernel
theorem dX12_laysRow_107 : decode cX12_laysRow 107 = .ok (.iastore, 1) := by decide +kernel
theorem dX12_laysRow_108 : decode cX12_laysRow 108 = .ok (.iinc 2 1, 3) := by decide +kernel
theorem dX12_laysRow_111 : decode cX12_laysRow 111 = .ok (.iinc 3 1, 3) := by decide +kernel
theorem dX12_laysRow_114 : decode cX12_laysRow 114 = .ok (.goto (-110), 3) := by decide +kernel
theorem dX12_laysRow_117 : decode cX12_laysRow 117 = .ok (.iload_n 2, 1) := by decide +kernel
theorem dX12_laysRow_118 : decode cX12_laysRow 118 = .ok (.ireturn, 1) := by decide +kernel
theorem dX12_stretches_0 : decode cX12_stretches 0 = .ok (.aload_n 0, 1) := by decide +kernel
theorem dX12_stretches_1 : decode cX12_stretches 1 = .ok (.iload_n 1, 1) := by decide +kernel
theorem dX12_stretches_2 : decode cX12_stretches 2 = .ok (.invokevirtual 408, 3) := by decide +kernel
theorem dX12_stretches_5 : decode cX12_stretches 5 = .ok (.istore_n 3, 1) := by decide +kernel
theorem dX12_stretches_6 : decode cX12_stretches 6 = .ok (.aload_n 0, 1) := by decide +kernel
theorem dX12_stretches_7 : decode cX12_stretches 7 = .ok (.iconst 0, 1) := by decide +kernel
theorem dX12_stretches_8 : decode cX12_stretches 8 = .ok (.putfield 411, 3) := by decide +kernel
theorem dX12_stretches_11 : decode cX12_stretches 11 = .ok (.aload_n 0, 1) := by decide +kernel
theorem dX12_stretches_12 : decode cX12_stretches 12 = .ok (.iconst (-1), 1) := by decide +kernel
theorem dX12_stretches_13 : decode cX12_stretches 13 = .ok (.putfield 414, 3) := by decide +kernel
theorem dX12_stretches_16 : decode cX12_stretches 16 = .ok (.aload_n 0, 1) := by decide +kernel
theorem dX12_stretches_17 : decode cX12_stretches 17 = .ok (.iconst (-1), 1) := by decide +kernel
theorem dX12_stretches_18 : decode cX12_stretches 18 = .ok (.putfield 417, 3) := by decide +kernel
theorem dX12_stretches_21 : decode cX12_stretches 21 = .ok (.iconst 0, 1) := by decide +kernel
theorem dX12_stretches_22 : decode cX12_stretches 22 = .ok (.istore 4, 2) := by decide +kernel
theorem dX12_stretches_24 : decode cX12_stretches 24 = .ok (.iload 4, 2) := by decide +kernel
theorem dX12_stretches_26 : decode cX12_stretches 26 = .ok (.iload_n 3, 1) := by decide +kernel
theorem dX12_stretches_27 : decode cX12_stretches 27 = .ok (.if_icmp .ge 103, 3) := by decide +kernel
theorem dX12_stretches_30 : decode cX12_stretches 30 = .ok (.aload_n 0, 1) := by decide +kernel
theorem dX12_stretches_31 : decode cX12_stretches 31 = .ok (.getfield 47, 3) := by decide +kernel
theorem dX12_stretches_34 : decode cX12_stretches 34 = .ok (.iload 4, 2) := by decide +kernel
theorem dX12_stretches_36 : decode cX12_stretches 36 = .ok (.iaload, 1) := by decide +kernel
theorem dX12_stretches_37 : decode cX12_stretches 37 = .ok (.istore 5, 2) := by decide +kernel
theorem dX12_stretches_39 : decode cX12_stretches 39 = .ok (.aload_n 0, 1) := by decide +kernel
theorem dX12_stretches_40 : decode cX12_stretches 40 = .ok (.getfield 50, 3) := by decide +kernel
theorem dX12_stretches_43 : decode cX12_stretches 43 = .ok (.iload 5, 2) := by decide +kernel
theorem dX12_stretches_45 : decode cX12_stretches 45 = .ok (.iaload, 1) := by decide +kernel
theorem dX12_stretches_46 : decode cX12_stretches 46 = .ok (.istore 6, 2) := by decide +kernel
theorem dX12_stretches_48 : decode cX12_stretches 48 = .ok (.aload_n 0, 1) := by decide +kernel
theorem dX12_stretches_49 : decode cX12_stretches 49 = .ok (.iload_n 1, 1) := by decide +kernel
theorem dX12_stretches_50 : decode cX12_stretches 50 = .ok (.iload 5, 2) := by decide +kernel
theorem dX12_stretches_52 : decode cX12_stretches 52 = .ok (.iload 6, 2) := by decide +kernel
theorem dX12_stretches_54 : decode cX12_stretches 54 = .ok (.invokevirtual 420, 3) := by decide +kernel
theorem dX12_stretches_57 : decode cX12_stretches 57 = .ok (.iload_n 2, 1) := by decide +kernel
theorem dX12_stretches_58 : decode cX12_stretches 58 = .ok (.if_icmp .le 6, 3) := by decide +kernel
theorem dX12_stretches_61 : decode cX12_stretches 61 = .ok (.goto 63, 3) := by decide +kernel
theorem dX12_stretches_64 : decode cX12_stretches 64 = .ok (.aload_n 0, 1) := by decide +kernel
theorem dX12_stretches_65 : decode cX12_stretches 65 = .ok (.iload_n 1, 1) := by decide +kernel
theorem dX12_stretches_66 : decode cX12_stretches 66 = .ok (.iload 5, 2) := by decide +kernel
theorem dX12_stretches_68 : decode cX12_stretches 68 = .ok (.iconst 0, 1) := by decide +kernel
theorem dX12_stretches_69 : decode cX12_stretches 69 = .ok (.iload 6, 2) := by decide +kernel
theorem dX12_stretches_71 : decode cX12_stretches 71 = .ok (.invokevirtual 102, 3) := by decide +kernel
theorem dX12_stretches_74 : decode cX12_stretches 74 = .ok (.aload_n 0, 1) := by decide +kernel
theorem dX12_stretches_75 : decode cX12_stretches 75 = .ok (.iload_n 1, 1) := by decide +kernel
theorem dX12_stretches_76 : decode cX12_stretches 76 = .ok (.iload 5, 2) := by decide +kernel
theorem dX12_stretches_78 : decode cX12_stretches 78 = .ok (.iload 6, 2) := by decide +kernel
theorem dX12_stretches_80 : decode cX12_stretches 80 = .ok (.iconst 1, 1) := by decide +kernel
theorem dX12_stretches_81 : decode cX12_stretches 81 = .ok (.invokevirtual 370, 3) := by decide +kernel
theorem dX12_stretches_84 : decode cX12_stretches 84 = .ok (.aload_n 0, 1) := by decide +kernel
theorem dX12_stretches_85 : decode cX12_stretches 85 = .ok (.iload_n 1, 1) := by decide +kernel
theorem dX12_stretches_86 : decode cX12_stretches 86 = .ok (.iload 5, 2) := by decide +kernel
theorem dX12_stretches_88 : decode cX12_stretches 88 = .ok (.iload 6, 2) := by decide +kernel
theorem dX12_stretches_90 : decode cX12_stretches 90 = .ok (.iconst 1, 1) := by decide +kernel
theorem dX12_stretches_91 : decode cX12_stretches 91 = .ok (.iconst (-1), 1) := by decide +kernel
theorem dX12_stretches_92 : decode cX12_stretches 92 = .ok (.invokevirtual 373, 3) := by decide +kernel
theorem dX12_stretches_95 : decode cX12_stretches 95 = .ok (.aload_n 0, 1) := by decide +kernel
theorem dX12_stretches_96 : decode cX12_stretches 96 = .ok (.getfield 411, 3) := by decide +kernel
theorem dX12_stretches_99 : decode cX12_stretches 99 = .ok (.ifCond .ne 15, 3) := by decide +kernel
theorem dX12_stretches_102 : decode cX12_stretches 102 = .ok (.aload_n 0, 1) := by decide +kernel
theorem dX12_stretches_103 : decode cX12_stretches 103 = .ok (.iload 5, 2) := by decide +kernel
theorem dX12_stretches_105 : decode cX12_stretches 105 = .ok (.putfield 414, 3) := by decide +kernel
theorem dX12_stretches_108 : decode cX12_stretches 108 = .ok (.aload_n 0, 1) := by decide +kernel
theorem dX12_stretches_109 : decode cX12_stretches 109 = .ok (.iload 6, 2) := by decide +kernel
theorem dX12_stretches_111 : decode cX12_stretches 111 = .ok (.putfield 417, 3) := by decide +kernel
theorem dX12_stretches_114 : decode cX12_stretches 114 = .ok (.aload_n 0, 1) := by decide +kernel
theorem dX12_stretches_115 : decode cX12_stretches 115 = .ok (.dup, 1) := by decide +kernel
theorem dX12_stretches_116 : decode cX12_stretches 116 = .ok (.getfield 411, 3) := by decide +kernel
theorem dX12_stretches_119 : decode cX12_stretches 119 = .ok (.iconst 1, 1) := by decide +kernel
theorem dX12_stretches_120 : decode cX12_stretches 120 = .ok (.iadd, 1) := by decide +kernel
theorem dX12_stretches_121 : decode cX12_stretches 121 = .ok (.putfield 411, 3) := by decide +kernel
theorem dX12_stretches_124 : decode cX12_stretches 124 = .ok (.iinc 4 1, 3) := by decide +kernel
theorem dX12_stretches_127 : decode cX12_stretches 127 = .ok (.goto (-103), 3) := by decide +kernel
theorem dX12_stretches_130 : decode cX12_stretches 130 = .ok (.aload_n 0, 1) := by decide +kernel
theorem dX12_stretches_131 : decode cX12_stretches 131 = .ok (.iload_n 1, 1) := by decide +kernel
theorem dX12_stretches_132 : decode cX12_stretches 132 = .ok (.invokevirtual 423, 3) := by decide +kernel
theorem dX12_stretches_135 : decode cX12_stretches 135 = .ok (.istore 4, 2) := by decide +kernel
theorem dX12_stretches_137 : decode cX12_stretches 137 = .ok (.aload_n 0, 1) := by decide +kernel
theorem dX12_stretches_138 : decode cX12_stretches 138 = .ok (.aload_n 0, 1) := by decide +kernel
theorem dX12_stretches_139 : decode cX12_stretches 139 = .ok (.iload_n 1, 1) := by decide +kernel
theorem dX12_stretches_140 : decode cX12_stretches 140 = .ok (.iload 4, 2) := by decide +kernel
theorem dX12_stretches_142 : decode cX12_stretches 142 = .ok (.invokevirtual 364, 3) := by decide +kernel
theorem dX12_stretches_145 : decode cX12_stretches 145 = .ok (.iload_n 2, 1) := by decide +kernel
theorem dX12_stretches_146 : decode cX12_stretches 146 = .ok (.if_icmp .ge 8, 3) := by decide +kernel
theorem dX12_stretches_149 : decode cX12_stretches 149 = .ok (.iload 4, 2) := by decide +kernel
theorem dX12_stretches_151 : decode cX12_stretches 151 = .ok (.goto 4, 3) := by decide +kernel
theorem dX12_stretches_154 : decode cX12_stretches 154 = .ok (.iconst (-1), 1) := by decide +kernel
theorem dX12_stretches_155 : decode cX12_stretches 155 = .ok (.putfield 426, 3) := by decide +kernel
theorem dX12_stretches_158 : decode cX12_stretches 158 = .ok (.return_, 1) := by decide +kernel
theorem dX12_pulls_0 : decode cX12_pulls 0 = .ok (.aload_n 0, 1) := by decide +kernel
theorem dX12_pulls_1 : decode cX12_pulls 1 = .ok (.iload_n 1, 1) := by decide +kernel
theorem dX12_pulls_2 : decode cX12_pulls 2 = .ok (.iload_n 2, 1) := by decide +kernel
theorem dX12_pulls_3 : decode cX12_pulls 3 = .ok (.invokevirtual 429, 3) := by decide +kernel
theorem dX12_pulls_6 : decode cX12_pulls 6 = .ok (.aload_n 0, 1) := by decide +kernel
theorem dX12_pulls_7 : decode cX12_pulls 7 = .ok (.getfield 426, 3) := by decide +kernel
theorem dX12_pulls_10 : decode cX12_pulls 10 = .ok (.iconst (-1), 1) := by decide +kernel
theorem dX12_pulls_11 : decode cX12_pulls 11 = .ok (.if_icmp .ne 8, 3) := by decide +kernel
theorem dX12_pulls_14 : decode cX12_pulls 14 = .ok (.aload_n 0, 1) := by decide +kernel
theorem dX12_pulls_15 : decode cX12_pulls 15 = .ok (.getfield 411, 3) := by decide +kernel
theorem dX12_pulls_18 : decode cX12_pulls 18 = .ok (.ireturn, 1) := by decide +kernel
theorem dX12_pulls_19 : decode cX12_pulls 19 = .ok (.aload_n 0, 1) := by decide +kernel
theorem dX12_pulls_20 : decode cX12_pulls 20 = .ok (.iload_n 1, 1) := by decide +kernel
theorem dX12_pulls_21 : decode cX12_pulls 21 = .ok (.aload_n 0, 1) := by decide +kernel
theorem dX12_pulls_22 : decode cX12_pulls 22 = .ok (.getfield 426, 3) := by decide +kernel
theorem dX12_pulls_25 : decode cX12_pulls 25 = .ok (.invokevirtual 399, 3) := by decide +kernel
theorem dX12_pulls_28 : decode cX12_pulls 28 = .ok (.istore_n 3, 1) := by decide +kernel
theorem dX12_pulls_29 : decode cX12_pulls 29 = .ok (.aload_n 0, 1) := by decide +kernel
theorem dX12_pulls_30 : decode cX12_pulls 30 = .ok (.iload_n 1, 1) := by decide +kernel
theorem dX12_pulls_31 : decode cX12_pulls 31 = .ok (.aload_n 0, 1) := by decide +kernel
theorem dX12_pulls_32 : decode cX12_pulls 32 = .ok (.getfield 426, 3) := by decide +kernel
theorem dX12_pulls_35 : decode cX12_pulls 35 = .ok (.iconst (-1), 1) := by decide +kernel
theorem dX12_pulls_36 : decode cX12_pulls 36 = .ok (.iload_n 3, 1) := by decide +kernel
theorem dX12_pulls_37 : decode cX12_pulls 37 = .ok (.invokestatic 337, 3) := by decide +kernel
theorem dX12_pulls_40 : decode cX12_pulls 40 = .ok (.iconst 2, 1) := by decide +kernel
theorem dX12_pulls_41 : decode cX12_pulls 41 = .ok (.iconst (-1), 1) := by decide +kernel
theorem dX12_pulls_42 : decode cX12_pulls 42 = .ok (.invokevirtual 373, 3) := by decide +kernel
theorem dX12_pulls_45 : decode cX12_pulls 45 = .ok (.aload_n 0, 1) := by decide +kernel
theorem dX12_pulls_46 : decode cX12_pulls 46 = .ok (.getfield 411, 3) := by decide +kernel
theorem dX12_pulls_49 : decode cX12_pulls 49 = .ok (.ireturn, 1) := by decide +kernel
theorem dX12_pull_0 : decode cX12_pull 0 = .ok (.aload_n 0, 1) := by decide +kernel
theorem dX12_pull_1 : decode cX12_pull 1 = .ok (.iload_n 1, 1) := by decide +kernel
theorem dX12_pull_2 : decode cX12_pull 2 = .ok (.invokevirtual 82, 3) := by decide +kernel
theorem dX12_pull_5 : decode cX12_pull 5 = .ok (.ifCond .eq 13, 3) := by decide +kernel
theorem dX12_pull_8 : decode cX12_pull 8 = .ok (.iload_n 2, 1) := by decide +kernel
theorem dX12_pull_9 : decode cX12_pull 9 = .ok (.iconst 0, 1) := by decide +kernel
theorem dX12_pull_10 : decode cX12_pull 10 = .ok (.bipush 99, 2) := by decide +kernel
theorem dX12_pull_12 : decode cX12_pull 12 = .ok (.invokestatic 74, 3) := by decide +kernel
theorem dX12_pull_15 : decode cX12_pull 15 = .ok (.ifCond .ne 5, 3) := by decide +kernel
theorem dX12_pull_18 : decode cX12_pull 18 = .ok (.iconst (-1), 1) := by decide +kernel
theorem dX12_pull_19 : decode cX12_pull 19 = .ok (.ireturn, 1) := by decide +kernel
theorem dX12_pull_20 : decode cX12_pull 20 = .ok (.aload_n 0, 1) := by decide +kernel
theorem dX12_pull_21 : decode cX12_pull 21 = .ok (.invokevirtual 379, 3) := by decide +kernel
theorem dX12_pull_24 : decode cX12_pull 24 = .ok (.aload_n 0, 1) := by decide +kernel
theorem dX12_pull_25 : decode cX12_pull 25 = .ok (.iload_n 1, 1) := by decide +kernel
theorem dX12_pull_26 : decode cX12_pull 26 = .ok (.iload_n 2, 1) := by decide +kernel
theorem dX12_pull_27 : decode cX12_pull 27 = .ok (.invokevirtual 432, 3) := by decide +kernel
theorem dX12_pull_30 : decode cX12_pull 30 = .ok (.ireturn, 1) := by decide +kernel
theorem dX12_forgetsAll_0 : decode cX12_forgetsAll 0 = .ok (.iconst 0, 1) := by decide +kernel
theorem dX12_forgetsAll_1 : decode cX12_forgetsAll 1 = .ok (.istore_n 2, 1) := by decide +kernel
theorem dX12_forgetsAll_2 : decode cX12_forgetsAll 2 = .ok (.iload_n 2, 1) := by decide +kernel
theorem dX12_forgetsAll_3 : decode cX12_forgetsAll 3 = .ok (.aload_n 0, 1) := by decide +kernel
theorem dX12_forgetsAll_4 : decode cX12_forgetsAll 4 = .ok (.iload_n 1, 1) := by decide +kernel
theorem dX12_forgetsAll_5 : decode cX12_forgetsAll 5 = .ok (.iconst 1, 1) := by decide +kernel
theorem dX12_forgetsAll_6 : decode cX12_forgetsAll 6 = .ok (.invokevirtual 78, 3) := by decide +kernel
theorem dX12_forgetsAll_9 : decode cX12_forgetsAll 9 = .ok (.if_icmp .ge 78, 3) := by decide +kernel
theorem dX12_forgetsAll_12 : decode cX12_forgetsAll 12 = .ok (.iconst 0, 1) := by decide +kernel
theorem dX12_forgetsAll_13 : decode cX12_forgetsAll 13 = .ok (.istore_n 3, 1) := by decide +kernel
theorem dX12_forgetsAll_14 : decode cX12_forgetsAll 14 = .ok (.iload_n 3, 1) := by decide +kernel
theorem dX12_forgetsAll_15 : decode cX12_forgetsAll 15 = .ok (.bipush 6, 2) := by decide +kernel
theorem dX12_forgetsAll_17 : decode cX12_forgetsAll 17 = .ok (.if_icmp .ge 64, 3) := by decide +kernel
theorem dX12_forgetsAll_20 : decode cX12_forgetsAll 20 = .ok (.aload_n 0, 1) := by decide +kernel
theorem dX12_forgetsAll_21 : decode cX12_forgetsAll 21 = .ok (.iload_n 1, 1) := by decide +kernel
theorem dX12_forgetsAll_22 : decode cX12_forgetsAll 22 = .ok (.iload_n 2, 1) := by decide +kernel
theorem dX12_forgetsAll_23 : decode cX12_forgetsAll 23 = .ok (.invokevirtual 340, 3) := by decide +kernel
theorem dX12_forgetsAll_26 : decode cX12_forgetsAll 26 = .ok (.ifCond .ne 49, 3) := by decide +kernel
theorem dX12_forgetsAll_29 : decode cX12_forgetsAll 29 = .ok (.aload_n 0, 1) := by decide +kernel
theorem dX12_forgetsAll_30 : decode cX12_forgetsAll 30 = .ok (.iload_n 1, 1) := by decide +kernel
theorem dX12_forgetsAll_31 : decode cX12_forgetsAll 31 = .ok (.iload_n 2, 1) := by decide +kernel
theorem dX12_forgetsAll_32 : decode cX12_forgetsAll 32 = .ok (.iload_n 3, 1) := by decide +kernel
theorem dX12_forgetsAll_33 : decode cX12_forgetsAll 33 = .ok (.invokevirtual 354, 3) := by decide +kernel
theorem dX12_forgetsAll_36 : decode cX12_forgetsAll 36 = .ok (.ifCond .le 39, 3) := by decide +kernel
theorem dX12_forgetsAll_39 : decode cX12_forgetsAll 39 = .ok (.aload_n 0, 1) := by decide +kernel
theorem dX12_forgetsAll_40 : decode cX12_forgetsAll 40 = .ok (.iload_n 1, 1) := by decide +kernel
theorem dX12_forgetsAll_41 : decode cX12_forgetsAll 41 = .ok (.iload_n 2, 1) := by decide +kernel
theorem dX12_forgetsAll_42 : decode cX12_forgetsAll 42 = .ok (.iload_n 3, 1) := by decide +kernel
theorem dX12_forgetsAll_43 : decode cX12_forgetsAll 43 = .ok (.iconst 0, 1) := by decide +kernel
theorem dX12_forgetsAll_44 : decode cX12_forgetsAll 44 = .ok (.aload_n 0, 1) := by decide +kernel
theorem dX12_forgetsAll_45 : decode cX12_forgetsAll 45 = .ok (.iload_n 1, 1) := by decide +kernel
theorem dX12_forgetsAll_46 : decode cX12_forgetsAll 46 = .ok (.iload_n 2, 1) := by decide +kernel
theorem dX12_forgetsAll_47 : decode cX12_forgetsAll 47 = .ok (.iload_n 3, 1) := by decide +kernel
theorem dX12_forgetsAll_48 : decode cX12_forgetsAll 48 = .ok (.invokevirtual 354, 3) := by decide +kernel
theorem dX12_forgetsAll_51 : decode cX12_forgetsAll 51 = .ok (.aload_n 0, 1) := by decide +kernel
theorem dX12_forgetsAll_52 : decode cX12_forgetsAll 52 = .ok (.iload_n 1, 1) := by decide +kernel
theorem dX12_forgetsAll_53 : decode cX12_forgetsAll 53 = .ok (.iload_n 2, 1) := by decide +kernel
theorem dX12_forgetsAll_54 : decode cX12_forgetsAll 54 = .ok (.iload_n 3, 1) := by decide +kernel
theorem dX12_forgetsAll_55 : decode cX12_forgetsAll 55 = .ok (.invokevirtual 435, 3) := by decide +kernel
theorem dX12_forgetsAll_58 : decode cX12_forgetsAll 58 = .ok (.isub, 1) := by decide +kernel
theorem dX12_forgetsAll_59 : decode cX12_forgetsAll 59 = .ok (.invokestatic 337, 3) := by decide +kernel
theorem dX12_forgetsAll_62 : decode cX12_forgetsAll 62 = .ok (.aload_n 0, 1) := by decide +kernel
theorem dX12_forgetsAll_63 : decode cX12_forgetsAll 63 = .ok (.iload_n 1, 1) := by decide +kernel
theorem dX12_forgetsAll_64 : decode cX12_forgetsAll 64 = .ok (.iload_n 2, 1) := by decide +kernel
theorem dX12_forgetsAll_65 : decode cX12_forgetsAll 65 = .ok (.bipush 7, 2) := by decide +kernel
theorem dX12_forgetsAll_67 : decode cX12_forgetsAll 67 = .ok (.iload_n 3, 1) := by decide +kernel
theorem dX12_forgetsAll_68 : decode cX12_forgetsAll 68 = .ok (.iadd, 1) := by decide +kernel
theorem dX12_forgetsAll_69 : decode cX12_forgetsAll 69 = .ok (.invokevirtual 86, 3) := by decide +kernel
theorem dX12_forgetsAll_72 : decode cX12_forgetsAll 72 = .ok (.invokevirtual 106, 3) := by decide +kernel
theorem dX12_forgetsAll_75 : decode cX12_forgetsAll 75 = .ok (.iinc 3 1, 3) := by decide +kernel
theorem dX12_forgetsAll_78 : decode cX12_forgetsAll 78 = .ok (.goto (-64), 3) := by decide +kernel
theorem dX12_forgetsAll_81 : decode cX12_forgetsAll 81 = .ok (.iinc 2 1, 3) := by decide +kernel
theorem dX12_forgetsAll_84 : decode cX12_forgetsAll 84 = .ok (.goto (-82), 3) := by decide +kernel
theorem dX12_forgetsAll_87 : decode cX12_forgetsAll 87 = .ok (.aload_n 0, 1) := by decide +kernel
theorem dX12_forgetsAll_88 : decode cX12_forgetsAll 88 = .ok (.iload_n 1, 1) := by decide +kernel
theorem dX12_forgetsAll_89 : decode cX12_forgetsAll 89 = .ok (.iconst 4, 1) := by decide +kernel
theorem dX12_forgetsAll_90 : decode cX12_forgetsAll 90 = .ok (.iconst 0, 1) := by decide +kernel
theorem dX12_forgetsAll_91 : decode cX12_forgetsAll 91 = .ok (.aload_n 0, 1) := by decide +kernel
theorem dX12_forgetsAll_92 : decode cX12_forgetsAll 92 = .ok (.iload_n 1, 1) := by decide +kernel
theorem dX12_forgetsAll_93 : decode cX12_forgetsAll 93 = .ok (.iconst 4, 1) := by decide +kernel
theorem dX12_forgetsAll_94 : decode cX12_forgetsAll 94 = .ok (.invokevirtual 78, 3) := by decide +kernel
theorem dX12_forgetsAll_97 : decode cX12_forgetsAll 97 = .ok (.iconst 1, 1) := by decide +kernel
theorem dX12_forgetsAll_98 : decode cX12_forgetsAll 98 = .ok (.isub, 1) := by decide +kernel
theorem dX12_forgetsAll_99 : decode cX12_forgetsAll 99 = .ok (.invokestatic 337, 3) := by decide +kernel
theorem dX12_forgetsAll_102 : decode cX12_forgetsAll 102 = .ok (.invokevirtual 98, 3) := by decide +kernel
theorem dX12_forgetsAll_105 : decode cX12_forgetsAll 105 = .ok (.return_, 1) := by decide +kernel
theorem dX12_ropeSet_0 : decode cX12_ropeSet 0 = .ok (.iconst 0, 1) := by decide +kernel
theorem dX12_ropeSet_1 : decode cX12_ropeSet 1 = .ok (.istore_n 1, 1) := by decide +kernel
theorem dX12_ropeSet_2 : decode cX12_ropeSet 2 = .ok (.iconst 0, 1) := by decide +kernel
theorem dX12_ropeSet_3 : decode cX12_ropeSet 3 = .ok (.istore_n 2, 1) := by decide +kernel
theorem dX12_ropeSet_4 : decode cX12_ropeSet 4 = .ok (.iload_n 2, 1) := by decide +kernel
theorem dX12_ropeSet_5 : decode cX12_ropeSet 5 = .ok (.bipush 8, 2) := by decide +kernel
theorem dX12_ropeSet_7 : decode cX12_ropeSet 7 = .ok (.if_icmp .ge 20, 3) := by decide +kernel
theorem dX12_ropeSet_10 : decode cX12_ropeSet 10 = .ok (.iload_n 1, 1) := by decide +kernel
theorem dX12_ropeSet_11 : decode cX12_ropeSet 11 = .ok (.aload_n 0, 1) := by decide +kernel
theorem dX12_ropeSet_12 : decode cX12_ropeSet 12 = .ok (.iload_n 2, 1) := by decide +kernel
theorem dX12_ropeSet_13 : decode cX12_ropeSet 13 = .ok (.iconst 0, 1) := by decide +kernel
theorem dX12_ropeSet_14 : decode cX12_ropeSet 14 = .ok (.invokevirtual 78, 3) := by decide +kernel
theorem dX12_ropeSet_17 : decode cX12_ropeSet 17 = .ok (.iload_n 2, 1) := by decide +kernel
theorem dX12_ropeSet_18 : decode cX12_ropeSet 18 = .ok (.ishl, 1) := by decide +kernel
theorem dX12_ropeSet_19 : decode cX12_ropeSet 19 = .ok (.ior, 1) := by decide +kernel
theorem dX12_ropeSet_20 : decode cX12_ropeSet 20 = .ok (.istore_n 1, 1) := by decide +kernel
theorem dX12_ropeSet_21 : decode cX12_ropeSet 21 = .ok (.iinc 2 1, 3) := by decide +kernel
theorem dX12_ropeSet_24 : decode cX12_ropeSet 24 = .ok (.goto (-20), 3) := by decide +kernel
theorem dX12_ropeSet_27 : decode cX12_ropeSet 27 = .ok (.iload_n 1, 1) := by decide +kernel
theorem dX12_ropeSet_28 : decode cX12_ropeSet 28 = .ok (.ireturn, 1) := by decide +kernel
theorem dX12_aDay_0 : decode cX12_aDay 0 = .ok (.iconst 0, 1) := by decide +kernel
theorem dX12_aDay_1 : decode cX12_aDay 1 = .ok (.istore_n 1, 1) := by decide +kernel
theorem dX12_aDay_2 : decode cX12_aDay 2 = .ok (.iload_n 1, 1) := by decide +kernel
theorem dX12_aDay_3 : decode cX12_aDay 3 = .ok (.bipush 8, 2) := by decide +kernel
theorem dX12_aDay_5 : decode cX12_aDay 5 = .ok (.if_icmp .ge 22, 3) := by decide +kernel
theorem dX12_aDay_8 : decode cX12_aDay 8 = .ok (.aload_n 0, 1) := by decide +kernel
theorem dX12_aDay_9 : decode cX12_aDay 9 = .ok (.iload_n 1, 1) := by decide +kernel
theorem dX12_aDay_10 : decode cX12_aDay 10 = .ok (.invokevirtual 82, 3) := by decide +kernel
theorem dX12_aDay_13 : decode cX12_aDay 13 = .ok (.ifCond .eq 8, 3) := by decide +kernel
theorem dX12_aDay_16 : decode cX12_aDay 16 = .ok (.aload_n 0, 1) := by decide +kernel
theorem dX12_aDay_17 : decode cX12_aDay 17 = .ok (.iload_n 1, 1) := by decide +kernel
theorem dX12_aDay_18 : decode cX12_aDay 18 = .ok (.invokevirtual 438, 3) := by decide +kernel
theorem dX12_aDay_21 : decode cX12_aDay 21 = .ok (.iinc 1 1, 3) := by decide +kernel
theorem dX12_aDay_24 : decode cX12_aDay 24 = .ok (.goto (-22), 3) := by decide +kernel
theorem dX12_aDay_27 : decode cX12_aDay 27 = .ok (.iconst 0, 1) := by decide +kernel
theorem dX12_aDay_28 : decode cX12_aDay 28 = .ok (.istore_n 1, 1) := by decide +kernel
theorem dX12_aDay_29 : decode cX12_aDay 29 = .ok (.aload_n 0, 1) := by decide +kernel
theorem dX12_aDay_30 : decode cX12_aDay 30 = .ok (.getfield 7, 3) := by decide +kernel
theorem dX12_aDay_33 : decode cX12_aDay 33 = .ok (.sipush 2576, 3) := by decide +kernel
theorem dX12_aDay_36 : decode cX12_aDay 36 = .ok (.iaload, 1) := by decide +kernel
theorem dX12_aDay_37 : decode cX12_aDay 37 = .ok (.ifCond .le 79, 3) := by decide +kernel
theorem dX12_aDay_40 : decode cX12_aDay 40 = .ok (.aload_n 0, 1) := by decide +kernel
theorem dX12_aDay_41 : decode cX12_aDay 41 = .ok (.sipush 1000, 3) := by decide +kernel
theorem dX12_aDay_44 : decode cX12_aDay 44 = .ok (.invokevirtual 442, 3) := by decide +kernel
theorem dX12_aDay_47 : decode cX12_aDay 47 = .ok (.aload_n 0, 1) := by decide +kernel
theorem dX12_aDay_48 : decode cX12_aDay 48 = .ok (.getfield 7, 3) := by decide +kernel
theorem dX12_aDay_51 : decode cX12_aDay 51 = .ok (.sipush 2576, 3) := by decide +kernel
theorem dX12_aDay_54 : decode cX12_aDay 54 = .ok (.iaload, 1) := by decide +kernel
theorem dX12_aDay_55 : decode cX12_aDay 55 = .ok (.if_icmp .ge 61, 3) := by decide +kernel
theorem dX12_aDay_58 : decode cX12_aDay 58 = .ok (.aload_n 0, 1) := by decide +kernel
theorem dX12_aDay_59 : decode cX12_aDay 59 = .ok (.invokevirtual 445, 3) := by decide +kernel
theorem dX12_aDay_62 : decode cX12_aDay 62 = .ok (.istore_n 2, 1) := by decide +kernel
theorem dX12_aDay_63 : decode cX12_aDay 63 = .ok (.iconst 0, 1) := by decide +kernel
theorem dX12_aDay_64 : decode cX12_aDay 64 = .ok (.istore_n 3, 1) := by decide +kernel
theorem dX12_aDay_65 : decode cX12_aDay 65 = .ok (.iload_n 3, 1) := by decide +kernel
theorem dX12_aDay_66 : decode cX12_aDay 66 = .ok (.bipush 8, 2) := by decide +kernel
theorem dX12_aDay_68 : decode cX12_aDay 68 = .ok (.if_icmp .ge 48, 3) := by decide +kernel
theorem dX12_aDay_71 : decode cX12_aDay 71 = .ok (.iload_n 2, 1) := by decide +kernel
theorem dX12_aDay_72 : decode cX12_aDay 72 = .ok (.iload_n 3, 1) := by decide +kernel
theorem dX12_aDay_73 : decode cX12_aDay 73 = .ok (.ishr, 1) := by decide +kernel
theorem dX12_aDay_74 : decode cX12_aDay 74 = .ok (.iconst 1, 1) := by decide +kernel
theorem dX12_aDay_75 : decode cX12_aDay 75 = .ok (.iand, 1) := by decide +kernel
theorem dX12_aDay_76 : decode cX12_aDay 76 = .ok (.ifCond .ne 6, 3) := by decide +kernel
theorem dX12_aDay_79 : decode cX12_aDay 79 = .ok (.goto 31, 3) := by decide +kernel
theorem dX12_aDay_82 : decode cX12_aDay 82 = .ok (.aload_n 0, 1) := by decide +kernel
theorem dX12_aDay_83 : decode cX12_aDay 83 = .ok (.iload_n 3, 1) := by decide +kernel
theorem dX12_aDay_84 : decode cX12_aDay 84 = .ok (.aload_n 0, 1) := by decide +kernel
theorem dX12_aDay_85 : decode cX12_aDay 85 = .ok (.bipush 100, 2) := by decide +kernel
theorem dX12_aDay_87 : decode cX12_aDay 87 = .ok (.invokevirtual 442, 3) := by decide +kernel
theorem dX12_aDay_90 : decode cX12_aDay 90 = .ok (.invokevirtual 432, 3) := by decide +kernel
theorem dX12_aDay_93 : decode cX12_aDay 93 = .ok (.pop, 1) := by decide +kernel
theorem dX12_aDay_94 : decode cX12_aDay 94 = .ok (.iload_n 1, 1) := by decide +kernel
theorem dX12_aDay_95 : decode cX12_aDay 95 = .ok (.aload_n 0, 1) := by decide +kernel
theorem dX12_aDay_96 : decode cX12_aDay 96 = .ok (.getfield 426, 3) := by decide +kernel
theorem dX12_aDay_99 : decode cX12_aDay 99 = .ok (.iconst (-1), 1) := by decide +kernel
theorem dX12_aDay_100 : decode cX12_aDay 100 = .ok (.if_icmp .ne 7, 3) := by decide +kernel
theorem dX12_aDay_103 : decode cX12_aDay 103 = .ok (.iconst 0, 1) := by decide +kernel
theorem dX12_aDay_104 : decode cX12_aDay 104 = .ok (.goto 4, 3) := by decide +kernel
theorem dX12_aDay_107 : decode cX12_aDay 107 = .ok (.iconst 1, 1) := by decide +kernel
theorem dX12_aDay_108 : decode cX12_aDay 108 = .ok (.iadd, 1) := by decide +kernel
theorem dX12_aDay_109 : decode cX12_aDay 109 = .ok (.istore_n 1, 1) := by decide +kernel
theorem dX12_aDay_110 : decode cX12_aDay 110 = .ok (.iinc 3 1, 3) := by decide +kernel
theorem dX12_aDay_113 : decode cX12_aDay 113 = .ok (.goto (-48), 3) := by decide +kernel
theorem dX12_aDay_116 : decode cX12_aDay 116 = .ok (.aload_n 0, 1) := by decide +kernel
theorem dX12_aDay_117 : decode cX12_aDay 117 = .ok (.getfield 7, 3) := by decide +kernel
theorem dX12_aDay_120 : decode cX12_aDay 120 = .ok (.iconst 0, 1) := by decide +kernel
theorem dX12_aDay_121 : decode cX12_aDay 121 = .ok (.dup2, 1) := by decide +kernel
theorem dX12_aDay_122 : decode cX12_aDay 122 = .ok (.iaload, 1) := by decide +kernel
theorem dX12_aDay_123 : decode cX12_aDay 123 = .ok (.iconst 1, 1) := by decide +kernel
theorem dX12_aDay_124 : decode cX12_aDay 124 = .ok (.iadd, 1) := by decide +kernel
theorem dX12_aDay_125 : decode cX12_aDay 125 = .ok (.iastore, 1) := by decide +kernel
theorem dX12_aDay_126 : decode cX12_aDay 126 = .ok (.iload_n 1, 1) := by decide +kernel
theorem dX12_aDay_127 : decode cX12_aDay 127 = .ok (.ireturn, 1) := by decide +kernel
theorem dX12_days_0 : decode cX12_days 0 = .ok (.iload_n 1, 1) := by decide +kernel
theorem dX12_days_1 : decode cX12_days 1 = .ok (.iconst 1, 1) := by decide +kernel
theorem dX12_days_2 : decode cX12_days 2 = .ok (.bipush 60, 2) := by decide +kernel
theorem dX12_days_4 : decode cX12_days 4 = .ok (.invokestatic 74, 3) := by decide +kernel
theorem dX12_days_7 : decode cX12_days 7 = .ok (.ifCond .eq 17, 3) := by decide +kernel
theorem dX12_days_10 : decode cX12_days 10 = .ok (.aload_n 0, 1) := by decide +kernel
theorem dX12_days_11 : decode cX12_days 11 = .ok (.getfield 7, 3) := by decide +kernel
theorem dX12_days_14 : decode cX12_days 14 = .ok (.iconst 0, 1) := by decide +kernel
theorem dX12_days_15 : decode cX12_days 15 = .ok (.iaload, 1) := by decide +kernel
theorem dX12_days_16 : decode cX12_days 16 = .ok (.iload_n 1, 1) := by decide +kernel
theorem dX12_days_17 : decode cX12_days 17 = .ok (.iadd, 1) := by decide +kernel
theorem dX12_days_18 : decode cX12_days 18 = .ok (.sipush 9999, 3) := by decide +kernel
theorem dX12_days_21 : decode cX12_days 21 = .ok (.if_icmp .le 5, 3) := by decide +kernel
theorem dX12_days_24 : decode cX12_days 24 = .ok (.iconst (-1), 1) := by decide +kernel
theorem dX12_days_25 : decode cX12_days 25 = .ok (.ireturn, 1) := by decide +kernel
theorem dX12_days_26 : decode cX12_days 26 = .ok (.iconst 0, 1) := by decide +kernel
theorem dX12_days_27 : decode cX12_days 27 = .ok (.istore_n 2, 1) := by decide +kernel
theorem dX12_days_28 : decode cX12_days 28 = .ok (.iconst 0, 1) := by decide +kernel
theorem dX12_days_29 : decode cX12_days 29 = .ok (.istore_n 3, 1) := by decide +kernel
theorem dX12_days_30 : decode cX12_days 30 = .ok (.iload_n 3, 1) := by decide +kernel
theorem dX12_days_31 : decode cX12_days 31 = .ok (.iload_n 1, 1) := by decide +kernel
theorem dX12_days_32 : decode cX12_days 32 = .ok (.if_icmp .ge 20, 3) := by decide +kernel
theorem dX12_days_35 : decode cX12_days 35 = .ok (.aload_n 0, 1) := by decide +kernel
theorem dX12_days_36 : decode cX12_days 36 = .ok (.invokevirtual 379, 3) := by decide +kernel
theorem dX12_days_39 : decode cX12_days 39 = .ok (.iload_n 2, 1) := by decide +kernel
theorem dX12_days_40 : decode cX12_days 40 = .ok (.aload_n 0, 1) := by decide +kernel
theorem dX12_days_41 : decode cX12_days 41 = .ok (.invokevirtual 448, 3) := by decide +kernel
theorem dX12_days_44 : decode cX12_days 44 = .ok (.iadd, 1) := by decide +kernel
theorem dX12_days_45 : decode cX12_days 45 = .ok (.istore_n 2, 1) := by decide +kernel
theorem dX12_days_46 : decode cX12_days 46 = .ok (.iinc 3 1, 3) := by decide +kernel
theorem dX12_days_49 : decode cX12_days 49 = .ok (.goto (-19), 3) := by decide +kernel
theorem dX12_days_52 : decode cX12_days 52 = .ok (.iload_n 2, 1) := by decide +kernel
theorem dX12_days_53 : decode cX12_days 53 = .ok (.ireturn, 1) := by decide +kernel
theorem dX12_isDone_0 : decode cX12_isDone 0 = .ok (.iload_n 3, 1) := by decide +kernel
theorem dX12_isDone_1 : decode cX12_isDone 1 = .ok (.tableswitch 109 10 13 #[31, 57, 90, 100], 31) := by decide +kernel
theorem dX12_isDone_32 : decode cX12_isDone 32 = .ok (.aload_n 0, 1) := by decide +kernel
theorem dX12_isDone_33 : decode cX12_isDone 33 = .ok (.iload_n 1, 1) := by decide +kernel
theorem dX12_isDone_34 : decode cX12_isDone 34 = .ok (.iload 5, 2) := by decide +kernel
theorem dX12_isDone_36 : decode cX12_isDone 36 = .ok (.iload 4, 2) := by decide +kernel
theorem dX12_isDone_38 : decode cX12_isDone 38 = .ok (.invokevirtual 376, 3) := by decide +kernel
theorem dX12_isDone_41 : decode cX12_isDone 41 = .ok (.ifCond .ne 5, 3) := by decide +kernel
theorem dX12_isDone_44 : decode cX12_isDone 44 = .ok (.iconst 0, 1) := by decide +kernel
theorem dX12_isDone_45 : decode cX12_isDone 45 = .ok (.ireturn, 1) := by decide +kernel
theorem dX12_isDone_46 : decode cX12_isDone 46 = .ok (.aload_n 0, 1) := by decide +kernel
theorem dX12_isDone_47 : decode cX12_isDone 47 = .ok (.iload_n 1, 1) := by decide +kernel
theorem dX12_isDone_48 : decode cX12_isDone 48 = .ok (.iload 5, 2) := by decide +kernel
theorem dX12_isDone_50 : decode cX12_isDone 50 = .ok (.iload 4, 2) := by decide +kernel
theorem dX12_isDone_52 : decode cX12_isDone 52 = .ok (.iload_n 2, 1) := by decide +kernel
theorem dX12_isDone_53 : decode cX12_isDone 53 = .ok (.invokevirtual 382, 3) := by decide +kernel
theorem dX12_isDone_56 : decode cX12_isDone 56 = .ok (.iconst 1, 1) := by decide +kernel
theorem dX12_isDone_57 : decode cX12_isDone 57 = .ok (.ireturn, 1) := by decide +kernel
theorem dX12_isDone_58 : decode cX12_isDone 58 = .ok (.aload_n 0, 1) := by decide +kernel
theorem dX12_isDone_59 : decode cX12_isDone 59 = .ok (.iload_n 1, 1) := by decide +kernel
theorem dX12_isDone_60 : decode cX12_isDone 60 = .ok (.iload 4, 2) := by decide +kernel
theorem dX12_isDone_62 : decode cX12_isDone 62 = .ok (.invokevirtual 367, 3) := by decide +kernel
theorem dX12_isDone_65 : decode cX12_isDone 65 = .ok (.ifCond .eq 13, 3) := by decide +kernel
theorem dX12_isDone_68 : decode cX12_isDone 68 = .ok (.aload_n 0, 1) := by decide +kernel
theorem dX12_isDone_69 : decode cX12_isDone 69 = .ok (.iload_n 1, 1) := by decide +kernel
theorem dX12_isDone_70 : decode cX12_isDone 70 = .ok (.iload 4, 2) := by decide +kernel
theorem dX12_isDone_72 : decode cX12_isDone 72 = .ok (.invokevirtual 340, 3) := by decide +kernel
theorem dX12_isDone_75 : decode cX12_isDone 75 = .ok (.ifCond .ne 5, 3) := by decide +kernel
theorem dX12_isDone_78 : decode cX12_isDone 78 = .ok (.iconst 0, 1) := by decide +kernel
theorem dX12_isDone_79 : decode cX12_isDone 79 = .ok (.ireturn, 1) := by decide +kernel
theorem dX12_isDone_80 : decode cX12_isDone 80 = .ok (.aload_n 0, 1) := by decide +kernel
theorem dX12_isDone_81 : decode cX12_isDone 81 = .ok (.iload_n 1, 1) := by decide +kernel
theorem dX12_isDone_82 : decode cX12_isDone 82 = .ok (.iload 4, 2) := by decide +kernel
theorem dX12_isDone_84 : decode cX12_isDone 84 = .ok (.iconst 0, 1) := by decide +kernel
theorem dX12_isDone_85 : decode cX12_isDone 85 = .ok (.iconst (-1), 1) := by decide +kernel
theorem dX12_isDone_86 : decode cX12_isDone 86 = .ok (.invokevirtual 102, 3) := by decide +kernel
theorem dX12_isDone_89 : decode cX12_isDone 89 = .ok (.iconst 1, 1) := by decide +kernel
theorem dX12_isDone_90 : decode cX12_isDone 90 = .ok (.ireturn, 1) := by decide +kernel
theorem dX12_isDone_91 : decode cX12_isDone 91 = .ok (.aload_n 0, 1) := by decide +kernel
theorem dX12_isDone_92 : decode cX12_isDone 92 = .ok (.iload_n 1, 1) := by decide +kernel
theorem dX12_isDone_93 : decode cX12_isDone 93 = .ok (.iload 4, 2) := by decide +kernel
theorem dX12_isDone_95 : decode cX12_isDone 95 = .ok (.invokevirtual 432, 3) := by decide +kernel
theorem dX12_isDone_98 : decode cX12_isDone 98 = .ok (.pop, 1) := by decide +kernel
theorem dX12_isDone_99 : decode cX12_isDone 99 = .ok (.iconst 1, 1) := by decide +kernel
theorem dX12_isDone_100 : decode cX12_isDone 100 = .ok (.ireturn, 1) := by decide +kernel
theorem dX12_isDone_101 : decode cX12_isDone 101 = .ok (.aload_n 0, 1) := by decide +kernel
theorem dX12_isDone_102 : decode cX12_isDone 102 = .ok (.iload_n 1, 1) := by decide +kernel
theorem dX12_isDone_103 : decode cX12_isDone 103 = .ok (.iload 4, 2) := by decide +kernel
theorem dX12_isDone_105 : decode cX12_isDone 105 = .ok (.invokevirtual 387, 3) := by decide +kernel
theorem dX12_isDone_108 : decode cX12_isDone 108 = .ok (.iconst 1, 1) := by decide +kernel
theorem dX12_isDone_109 : decode cX12_isDone 109 = .ok (.ireturn, 1) := by decide +kernel
theorem dX12_isDone_110 : decode cX12_isDone 110 = .ok (.iconst 0, 1) := by decide +kernel
theorem dX12_isDone_111 : decode cX12_isDone 111 = .ok (.istore 6, 2) := by decide +kernel
theorem dX12_isDone_113 : decode cX12_isDone 113 = .ok (.iload 6, 2) := by decide +kernel
theorem dX12_isDone_115 : decode cX12_isDone 115 = .ok (.iload 4, 2) := by decide +kernel
theorem dX12_isDone_117 : decode cX12_isDone 117 = .ok (.if_icmp .ge 14, 3) := by decide +kernel
theorem dX12_isDone_120 : decode cX12_isDone 120 = .ok (.aload_n 0, 1) := by decide +kernel
theorem dX12_isDone_121 : decode cX12_isDone 121 = .ok (.invokevirtual 448, 3) := by decide +kernel
theorem dX12_isDone_124 : decode cX12_isDone 124 = .ok (.pop, 1) := by decide +kernel
theorem dX12_isDone_125 : decode cX12_isDone 125 = .ok (.iinc 6 1, 3) := by decide +kernel
theorem dX12_isDone_128 : decode cX12_isDone 128 = .ok (.goto (-15), 3) := by decide +kernel
theorem dX12_isDone_131 : decode cX12_isDone 131 = .ok (.iconst 1, 1) := by decide +kernel
theorem dX12_isDone_132 : decode cX12_isDone 132 = .ok (.ireturn, 1) := by decide +kernel
theorem dX12_drill_0 : decode cX12_drill 0 = .ok (.iconst 0, 1) := by decide +kernel
theorem dX12_drill_1 : decode cX12_drill 1 = .ok (.istore_n 3, 1) := by decide +kernel
theorem dX12_drill_2 : decode cX12_drill 2 = .ok (.iconst 0, 1) := by decide +kernel
theorem dX12_drill_3 : decode cX12_drill 3 = .ok (.istore 4, 2) := by decide +kernel
theorem dX12_drill_5 : decode cX12_drill 5 = .ok (.iload 4, 2) := by decide +kernel
theorem dX12_drill_7 : decode cX12_drill 7 = .ok (.aload_n 0, 1) := by decide +kernel
theorem dX12_drill_8 : decode cX12_drill 8 = .ok (.getfield 7, 3) := by decide +kernel
theorem dX12_drill_11 : decode cX12_drill 11 = .ok (.sipush 2600, 3) := by decide +kernel
theorem dX12_drill_14 : decode cX12_drill 14 = .ok (.iaload, 1) := by decide +kernel
theorem dX12_drill_15 : decode cX12_drill 15 = .ok (.if_icmp .ge 49, 3) := by decide +kernel
theorem dX12_drill_18 : decode cX12_drill 18 = .ok (.iload_n 3, 1) := by decide +kernel
theorem dX12_drill_19 : decode cX12_drill 19 = .ok (.aload_n 0, 1) := by decide +kernel
theorem dX12_drill_20 : decode cX12_drill 20 = .ok (.getfield 7, 3) := by decide +kernel
theorem dX12_drill_23 : decode cX12_drill 23 = .ok (.sipush 3984, 3) := by decide +kernel
theorem dX12_drill_26 : decode cX12_drill 26 = .ok (.iconst 3, 1) := by decide +kernel
theorem dX12_drill_27 : decode cX12_drill 27 = .ok (.iload 4, 2) := by decide +kernel
theorem dX12_drill_29 : decode cX12_drill 29 = .ok (.imul, 1) := by decide +kernel
theorem dX12_drill_30 : decode cX12_drill 30 = .ok (.iadd, 1) := by decide +kernel
theorem dX12_drill_31 : decode cX12_drill 31 = .ok (.iaload, 1) := by decide +kernel
theorem dX12_drill_32 : decode cX12_drill 32 = .ok (.bipush 14, 2) := by decide +kernel
theorem dX12_drill_34 : decode cX12_drill 34 = .ok (.if_icmp .ne 21, 3) := by decide +kernel
theorem dX12_drill_37 : decode cX12_drill 37 = .ok (.aload_n 0, 1) := by decide +kernel
theorem dX12_drill_38 : decode cX12_drill 38 = .ok (.getfield 7, 3) := by decide +kernel
theorem dX12_drill_41 : decode cX12_drill 41 = .ok (.sipush 3984, 3) := by decide +kernel
theorem dX12_drill_44 : decode cX12_drill 44 = .ok (.iconst 3, 1) := by decide +kernel
theorem dX12_drill_45 : decode cX12_drill 45 = .ok (.iload 4, 2) := by decide +kernel
theorem dX12_drill_47 : decode cX12_drill 47 = .ok (.imul, 1) := by decide +kernel
theorem dX12_drill_48 : decode cX12_drill 48 = .ok (.iadd, 1) := by decide +kernel
theorem dX12_drill_49 : decode cX12_drill 49 = .ok (.iconst 1, 1) := by decide +kernel
theorem dX12_drill_50 : decode cX12_drill 50 = .ok (.iadd, 1) := by decide +kernel
theorem dX12_drill_51 : decode cX12_drill 51 = .ok (.iaload, 1) := by decide +kernel
theorem dX12_drill_52 : decode cX12_drill 52 = .ok (.goto 4, 3) := by decide +kernel
theorem dX12_drill_55 : decode cX12_drill 55 = .ok (.iconst 0, 1) := by decide +kernel
theorem dX12_drill_56 : decode cX12_drill 56 = .ok (.iadd, 1) := by decide +kernel
theorem dX12_drill_57 : decode cX12_drill 57 = .ok (.istore_n 3, 1) := by decide +kernel
theorem dX12_drill_58 : decode cX12_drill 58 = .ok (.iinc 4 1, 3) := by decide +kernel
theorem dX12_drill_61 : decode cX12_drill 61 = .ok (.goto (-56), 3) := by decide +kernel
theorem dX12_drill_64 : decode cX12_drill 64 = .ok (.aload_n 0, 1) := by decide +kernel
theorem dX12_drill_65 : decode cX12_drill 65 = .ok (.iload_n 1, 1) := by decide +kernel
theorem dX12_drill_66 : decode cX12_drill 66 = .ok (.invokevirtual 82, 3) := by decide +kernel
theorem dX12_drill_69 : decode cX12_drill 69 = .ok (.ifCond .eq 27, 3) := by decide +kernel
theorem dX12_drill_72 : decode cX12_drill 72 = .ok (.iload_n 2, 1) := by decide +kernel
theorem dX12_drill_73 : decode cX12_drill 73 = .ok (.iconst 0, 1) := by decide +kernel
theorem dX12_drill_74 : decode cX12_drill 74 = .ok (.bipush 9, 2) := by decide +kernel
theorem dX12_drill_76 : decode cX12_drill 76 = .ok (.invokestatic 74, 3) := by decide +kernel
theorem dX12_drill_79 : decode cX12_drill 79 = .ok (.ifCond .eq 17, 3) := by decide +kernel
theorem dX12_drill_82 : decode cX12_drill 82 = .ok (.aload_n 0, 1) := by decide +kernel
theorem dX12_drill_83 : decode cX12_drill 83 = .ok (.getfield 7, 3) := by decide +kernel
theorem dX12_drill_86 : decode cX12_drill 86 = .ok (.iconst 0, 1) := by decide +kernel
theorem dX12_drill_87 : decode cX12_drill 87 = .ok (.iaload, 1) := by decide +kernel
theorem dX12_drill_88 : decode cX12_drill 88 = .ok (.iload_n 3, 1) := by decide +kernel
theorem dX12_drill_89 : decode cX12_drill 89 = .ok (.iadd, 1) := by decide +kernel
theorem dX12_drill_90 : decode cX12_drill 90 = .ok (.sipush 9999, 3) := by decide +kernel
theorem dX12_drill_93 : decode cX12_drill 93 = .ok (.if_icmp .le 5, 3) := by decide +kernel
theorem dX12_drill_96 : decode cX12_drill 96 = .ok (.iconst (-1), 1) := by decide +kernel
theorem dX12_drill_97 : decode cX12_drill 97 = .ok (.ireturn, 1) := by decide +kernel
theorem dX12_drill_98 : decode cX12_drill 98 = .ok (.aload_n 0, 1) := by decide +kernel
theorem dX12_drill_99 : decode cX12_drill 99 = .ok (.invokevirtual 379, 3) := by decide +kernel
theorem dX12_drill_102 : decode cX12_drill 102 = .ok (.iconst 0, 1) := by decide +kernel
theorem dX12_drill_103 : decode cX12_drill 103 = .ok (.istore 4, 2) := by decide +kernel
theorem dX12_drill_105 : decode cX12_drill 105 = .ok (.iconst 0, 1) := by decide +kernel
theorem dX12_drill_106 : decode cX12_drill 106 = .ok (.istore 5, 2) := by decide +kernel
theorem dX12_drill_108 : decode cX12_drill 108 = .ok (.iload 5, 2) := by decide +kernel
theorem dX12_drill_110 : decode cX12_drill 110 = .ok (.aload_n 0, 1) := by decide +kernel
theorem dX12_drill_111 : decode cX12_drill 111 = .ok (.getfield 7, 3) := by decide +kernel
theorem dX12_drill_114 : decode cX12_drill 114 = .ok (.sipush 2600, 3) := by decide +kernel
theorem dX12_drill_117 : decode cX12_drill 117 = .ok (.iaload, 1) := by decide +kernel
theorem dX12_drill_118 : decode cX12_drill 118 = .ok (.if_icmp .ge 79, 3) := by decide +kernel
theorem dX12_drill_121 : decode cX12_drill 121 = .ok (.iload 4, 2) := by decide +kernel
theorem dX12_drill_123 : decode cX12_drill 123 = .ok (.aload_n 0, 1) := by decide +kernel
theorem dX12_drill_124 : decode cX12_drill 124 = .ok (.iload_n 1, 1) := by decide +kernel
theorem dX12_drill_125 : decode cX12_drill 125 = .ok (.invokevirtual 82, 3) := by decide +kernel
theorem dX12_drill_128 : decode cX12_drill 128 = .ok (.ifCond .eq 59, 3) := by decide +kernel
theorem dX12_drill_131 : decode cX12_drill 131 = .ok (.aload_n 0, 1) := by decide +kernel
theorem dX12_drill_132 : decode cX12_drill 132 = .ok (.iload_n 1, 1) := by decide +kernel
theorem dX12_drill_133 : decode cX12_drill 133 = .ok (.iload_n 2, 1) := by decide +kernel
theorem dX12_drill_134 : decode cX12_drill 134 = .ok (.aload_n 0, 1) := by decide +kernel
theorem dX12_drill_135 : decode cX12_drill 135 = .ok (.getfield 7, 3) := by decide +kernel
theorem dX12_drill_138 : decode cX12_drill 138 = .ok (.sipush 3984, 3) := by decide +kernel
theorem dX12_drill_141 : decode cX12_drill 141 = .ok (.iconst 3, 1) := by decide +kernel
theorem dX12_drill_142 : decode cX12_drill 142 = .ok (.iload 5, 2) := by decide +kernel
theorem dX12_drill_144 : decode cX12_drill 144 = .ok (.imul, 1) := by decide +kernel
theorem dX12_drill_145 : decode cX12_drill 145 = .ok (.iadd, 1) := by decide +kernel
theorem dX12_drill_146 : decode cX12_drill 146 = .ok (.iaload, 1) := by decide +kernel
theorem dX12_drill_147 : decode cX12_drill 147 = .ok (.aload_n 0, 1) := by decide +kernel
theorem dX12_drill_148 : decode cX12_drill 148 = .ok (.getfield 7, 3) := by decide +kernel
theorem dX12_drill_151 : decode cX12_drill 151 = .ok (.sipush 3984, 3) := by decide +kernel
theorem dX12_drill_154 : decode cX12_drill 154 = .ok (.iconst 3, 1) := by decide +kernel
theorem dX12_drill_155 : decode cX12_drill 155 = .ok (.iload 5, 2) := by decide +kernel
theorem dX12_drill_157 : decode cX12_drill 157 = .ok (.imul, 1) := by decide +kernel
theorem dX12_drill_158 : decode cX12_drill 158 = .ok (.iadd, 1) := by decide +kernel
theorem dX12_drill_159 : decode cX12_drill 159 = .ok (.iconst 1, 1) := by decide +kernel
theorem dX12_drill_160 : decode cX12_drill 160 = .ok (.iadd, 1) := by decide +kernel
theorem dX12_drill_161 : decode cX12_drill 161 = .ok (.iaload, 1) := by decide +kernel
theorem dX12_drill_162 : decode cX12_drill 162 = .ok (.aload_n 0, 1) := by decide +kernel
theorem dX12_drill_163 : decode cX12_drill 163 = .ok (.getfield 7, 3) := by decide +kernel
theorem dX12_drill_166 : decode cX12_drill 166 = .ok (.sipush 3984, 3) := by decide +kernel
theorem dX12_drill_169 : decode cX12_drill 169 = .ok (.iconst 3, 1) := by decide +kernel
theorem dX12_drill_170 : decode cX12_drill 170 = .ok (.iload 5, 2) := by decide +kernel
theorem dX12_drill_172 : decode cX12_drill 172 = .ok (.imul, 1) := by decide +kernel
theorem dX12_drill_173 : decode cX12_drill 173 = .ok (.iadd, 1) := by decide +kernel
theorem dX12_drill_174 : decode cX12_drill 174 = .ok (.iconst 2, 1) := by decide +kernel
theorem dX12_drill_175 : decode cX12_drill 175 = .ok (.iadd, 1) := by decide +kernel
theorem dX12_drill_176 : decode cX12_drill 176 = .ok (.iaload, 1) := by decide +kernel
theorem dX12_drill_177 : decode cX12_drill 177 = .ok (.invokevirtual 451, 3) := by decide +kernel
theorem dX12_drill_180 : decode cX12_drill 180 = .ok (.ifCond .eq 7, 3) := by decide +kernel
theorem dX12_drill_183 : decode cX12_drill 183 = .ok (.iconst 1, 1) := by decide +kernel
theorem dX12_drill_184 : decode cX12_drill 184 = .ok (.goto 4, 3) := by decide +kernel
theorem dX12_drill_187 : decode cX12_drill 187 = .ok (.iconst 0, 1) := by decide +kernel
theorem dX12_drill_188 : decode cX12_drill 188 = .ok (.iadd, 1) := by decide +kernel
theorem dX12_drill_189 : decode cX12_drill 189 = .ok (.istore 4, 2) := by decide +kernel
theorem dX12_drill_191 : decode cX12_drill 191 = .ok (.iinc 5 1, 3) := by decide +kernel
theorem dX12_drill_194 : decode cX12_drill 194 = .ok (.goto (-86), 3) := by decide +kernel
theorem dX12_drill_197 : decode cX12_drill 197 = .ok (.iload 4, 2) := by decide +kernel
theorem dX12_drill_199 : decode cX12_drill 199 = .ok (.ireturn, 1) := by decide +kernel
theorem dX12_of_0 : decode cX12_of 0 = .ok (.aload_n 0, 1) := by decide +kernel
theorem dX12_of_1 : decode cX12_of 1 = .ok (.iload_n 1, 1) := by decide +kernel
theorem dX12_of_2 : decode cX12_of 2 = .ok (.invokevirtual 82, 3) := by decide +kernel
theorem dX12_of_5 : decode cX12_of 5 = .ok (.ifCond .ne 5, 3) := by decide +kernel
theorem dX12_of_8 : decode cX12_of 8 = .ok (.iconst (-1), 1) := by decide +kernel
theorem dX12_of_9 : decode cX12_of 9 = .ok (.ireturn, 1) := by decide +kernel
theorem dX12_of_10 : decode cX12_of 10 = .ok (.iload_n 2, 1) := by decide +kernel
theorem dX12_of_11 : decode cX12_of 11 = .ok (.tableswitch 77 0 5 #[37, 44, 51, 58, 65, 71], 37) := by decide +kernel
theorem dX12_of_48 : decode cX12_of 48 = .ok (.aload_n 0, 1) := by decide +kernel
theorem dX12_of_49 : decode cX12_of 49 = .ok (.iload_n 1, 1) := by decide +kernel
theorem dX12_of_50 : decode cX12_of 50 = .ok (.iconst 1, 1) := by decide +kernel
theorem dX12_of_51 : decode cX12_of 51 = .ok (.invokevirtual 78, 3) := by decide +kernel
theorem dX12_of_54 : decode cX12_of 54 = .ok (.ireturn, 1) := by decide +kernel
theorem dX12_of_55 : decode cX12_of 55 = .ok (.aload_n 0, 1) := by decide +kernel
theorem dX12_of_56 : decode cX12_of 56 = .ok (.iload_n 1, 1) := by decide +kernel
theorem dX12_of_57 : decode cX12_of 57 = .ok (.iconst 2, 1) := by decide +kernel
theorem dX12_of_58 : decode cX12_of 58 = .ok (.invokevirtual 78, 3) := by decide +kernel
theorem dX12_of_61 : decode cX12_of 61 = .ok (.ireturn, 1) := by decide +kernel
theorem dX12_of_62 : decode cX12_of 62 = .ok (.aload_n 0, 1) := by decide +kernel
theorem dX12_of_63 : decode cX12_of 63 = .ok (.iload_n 1, 1) := by decide +kernel
theorem dX12_of_64 : decode cX12_of 64 = .ok (.iconst 3, 1) := by decide +kernel
theorem dX12_of_65 : decode cX12_of 65 = .ok (.invokevirtual 78, 3) := by decide +kernel
theorem dX12_of_68 : decode cX12_of 68 = .ok (.ireturn, 1) := by decide +kernel
theorem dX12_of_69 : decode cX12_of 69 = .ok (.aload_n 0, 1) := by decide +kernel
theorem dX12_of_70 : decode cX12_of 70 = .ok (.iload_n 1, 1) := by decide +kernel
theorem dX12_of_71 : decode cX12_of 71 = .ok (.iconst 4, 1) := by decide +kernel
theorem dX12_of_72 : decode cX12_of 72 = .ok (.invokevirtual 78, 3) := by decide +kernel
theorem dX12_of_75 : decode cX12_of 75 = .ok (.ireturn, 1) := by decide +kernel
theorem dX12_of_76 : decode cX12_of 76 = .ok (.aload_n 0, 1) := by decide +kernel
theorem dX12_of_77 : decode cX12_of 77 = .ok (.iload_n 1, 1) := by decide +kernel
theorem dX12_of_78 : decode cX12_of 78 = .ok (.invokevirtual 348, 3) := by decide +kernel
theorem dX12_of_81 : decode cX12_of 81 = .ok (.ireturn, 1) := by decide +kernel
theorem dX12_of_82 : decode cX12_of 82 = .ok (.aload_n 0, 1) := by decide +kernel
theorem dX12_of_83 : decode cX12_of 83 = .ok (.iload_n 1, 1) := by decide +kernel
theorem dX12_of_84 : decode cX12_of 84 = .ok (.invokevirtual 455, 3) := by decide +kernel
theorem dX12_of_87 : decode cX12_of 87 = .ok (.ireturn, 1) := by decide +kernel
theorem dX12_of_88 : decode cX12_of 88 = .ok (.iconst (-1), 1) := by decide +kernel
theorem dX12_of_89 : decode cX12_of 89 = .ok (.ireturn, 1) := by decide +kernel
theorem dX12_allHabits_0 : decode cX12_allHabits 0 = .ok (.iconst 0, 1) := by decide +kernel
theorem dX12_allHabits_1 : decode cX12_allHabits 1 = .ok (.istore_n 2, 1) := by decide +kernel
theorem dX12_allHabits_2 : decode cX12_allHabits 2 = .ok (.iconst 0, 1) := by decide +kernel
theorem dX12_allHabits_3 : decode cX12_allHabits 3 = .ok (.istore_n 3, 1) := by decide +kernel
theorem dX12_allHabits_4 : decode cX12_allHabits 4 = .ok (.iload_n 3, 1) := by decide +kernel
theorem dX12_allHabits_5 : decode cX12_allHabits 5 = .ok (.aload_n 0, 1) := by decide +kernel
theorem dX12_allHabits_6 : decode cX12_allHabits 6 = .ok (.iload_n 1, 1) := by decide +kernel
theorem dX12_allHabits_7 : decode cX12_allHabits 7 = .ok (.iconst 1, 1) := by decide +kernel
theorem dX12_allHabits_8 : decode cX12_allHabits 8 = .ok (.invokevirtual 78, 3) := by decide +kernel
theorem dX12_allHabits_11 : decode cX12_allHabits 11 = .ok (.if_icmp .ge 18, 3) := by decide +kernel
theorem dX12_allHabits_14 : decode cX12_allHabits 14 = .ok (.iload_n 2, 1) := by decide +kernel
theorem dX12_allHabits_15 : decode cX12_allHabits 15 = .ok (.aload_n 0, 1) := by decide +kernel
theorem dX12_allHabits_16 : decode cX12_allHabits 16 = .ok (.iload_n 1, 1) := by decide +kernel
theorem dX12_allHabits_17 : decode cX12_allHabits 17 = .ok (.iload_n 3, 1) := by decide +kernel
theorem dX12_allHabits_18 : decode cX12_allHabits 18 = .ok (.invokevirtual 361, 3) := by decide +kernel
theorem dX12_allHabits_21 : decode cX12_allHabits 21 = .ok (.iadd, 1) := by decide +kernel
theorem dX12_allHabits_22 : decode cX12_allHabits 22 = .ok (.istore_n 2, 1) := by decide +kernel
theorem dX12_allHabits_23 : decode cX12_allHabits 23 = .ok (.iinc 3 1, 3) := by decide +kernel
theorem dX12_allHabits_26 : decode cX12_allHabits 26 = .ok (.goto (-22), 3) := by decide +kernel
theorem dX12_allHabits_29 : decode cX12_allHabits 29 = .ok (.iload_n 2, 1) := by decide +kernel
theorem dX12_allHabits_30 : decode cX12_allHabits 30 = .ok (.ireturn, 1) := by decide +kernel
theorem dX12_at_0 : decode cX12_at 0 = .ok (.aload_n 0, 1) := by decide +kernel
theorem dX12_at_1 : decode cX12_at 1 = .ok (.iload_n 1, 1) := by decide +kernel
theorem dX12_at_2 : decode cX12_at 2 = .ok (.iload_n 2, 1) := by decide +kernel
theorem dX12_at_3 : decode cX12_at 3 = .ok (.invokevirtual 367, 3) := by decide +kernel
theorem dX12_at_6 : decode cX12_at 6 = .ok (.ifCond .ne 6, 3) := by decide +kernel
theorem dX12_at_9 : decode cX12_at 9 = .ok (.bipush (-2), 2) := by decide +kernel
theorem dX12_at_11 : decode cX12_at 11 = .ok (.ireturn, 1) := by decide +kernel
theorem dX12_at_12 : decode cX12_at 12 = .ok (.aload_n 0, 1) := by decide +kernel
theorem dX12_at_13 : decode cX12_at 13 = .ok (.iload_n 1, 1) := by decide +kernel
theorem dX12_at_14 : decode cX12_at 14 = .ok (.iload_n 2, 1) := by decide +kernel
theorem dX12_at_15 : decode cX12_at 15 = .ok (.invokevirtual 340, 3) := by decide +kernel
theorem dX12_at_18 : decode cX12_at 18 = .ok (.ifCond .eq 7, 3) := by decide +kernel
theorem dX12_at_21 : decode cX12_at 21 = .ok (.iconst (-1), 1) := by decide +kernel
theorem dX12_at_22 : decode cX12_at 22 = .ok (.goto 9, 3) := by decide +kernel
theorem dX12_at_25 : decode cX12_at 25 = .ok (.aload_n 0, 1) := by decide +kernel
theorem dX12_at_26 : decode cX12_at 26 = .ok (.iload_n 1, 1) := by decide +kernel
theorem dX12_at_27 : decode cX12_at 27 = .ok (.iload_n 2, 1) := by decide +kernel
theorem dX12_at_28 : decode cX12_at 28 = .ok (.invokevirtual 384, 3) := by decide +kernel
theorem dX12_at_31 : decode cX12_at 31 = .ok (.istore 4, 2) := by decide +kernel
theorem dX12_at_33 : decode cX12_at 33 = .ok (.iload_n 3, 1) := by decide +kernel
theorem dX12_at_34 : decode cX12_at 34 = .ok (.tableswitch 67 0 3 #[30, 38, 41, 60], 30) := by decide +kernel
theorem dX12_at_64 : decode cX12_at 64 = .ok (.aload_n 0, 1) := by decide +kernel
theorem dX12_at_65 : decode cX12_at 65 = .ok (.iload_n 1, 1) := by decide +kernel
theorem dX12_at_66 : decode cX12_at 66 = .ok (.iload_n 2, 1) := by decide +kernel
theorem dX12_at_67 : decode cX12_at 67 = .ok (.iconst 0, 1) := by decide +kernel
theorem dX12_at_68 : decode cX12_at 68 = .ok (.invokevirtual 86, 3) := by decide +kernel
theorem dX12_at_71 : decode cX12_at 71 = .ok (.ireturn, 1) := by decide +kernel
theorem dX12_at_72 : decode cX12_at 72 = .ok (.iload 4, 2) := by decide +kernel
theorem dX12_at_74 : decode cX12_at 74 = .ok (.ireturn, 1) := by decide +kernel
theorem dX12_at_75 : decode cX12_at 75 = .ok (.iload 4, 2) := by decide +kernel
theorem dX12_at_77 : decode cX12_at 77 = .ok (.iconst (-1), 1) := by decide +kernel
theorem dX12_at_78 : decode cX12_at 78 = .ok (.if_icmp .ne 7, 3) := by decide +kernel
theorem dX12_at_81 : decode cX12_at 81 = .ok (.iconst (-1), 1) := by decide +kernel
theorem dX12_at_82 : decode cX12_at 82 = .ok (.goto 11, 3) := by decide +kernel
theorem dX12_at_85 : decode cX12_at 85 = .ok (.aload_n 0, 1) := by decide +kernel
theorem dX12_at_86 : decode cX12_at 86 = .ok (.iload_n 1, 1) := by decide +kernel
theorem dX12_at_87 : decode cX12_at 87 = .ok (.iload_n 2, 1) := by decide +kernel
theorem dX12_at_88 : decode cX12_at 88 = .ok (.iload 4, 2) := by decide +kernel
theorem dX12_at_90 : decode cX12_at 90 = .ok (.invokevirtual 420, 3) := by decide +kernel
theorem dX12_at_93 : decode cX12_at 93 = .ok (.ireturn, 1) := by decide +kernel
theorem dX12_at_94 : decode cX12_at 94 = .ok (.aload_n 0, 1) := by decide +kernel
theorem dX12_at_95 : decode cX12_at 95 = .ok (.iload_n 1, 1) := by decide +kernel
theorem dX12_at_96 : decode cX12_at 96 = .ok (.iload_n 2, 1) := by decide +kernel
theorem dX12_at_97 : decode cX12_at 97 = .ok (.invokevirtual 364, 3) := by decide +kernel
theorem dX12_at_100 : decode cX12_at 100 = .ok (.ireturn, 1) := by decide +kernel
theorem dX12_at_101 : decode cX12_at 101 = .ok (.bipush (-2), 2) := by decide +kernel
theorem dX12_at_103 : decode cX12_at 103 = .ok (.ireturn, 1) := by decide +kernel
theorem dX12_habit_0 : decode cX12_habit 0 = .ok (.aload_n 0, 1) := by decide +kernel
theorem dX12_habit_1 : decode cX12_habit 1 = .ok (.iload_n 1, 1) := by decide +kernel
theorem dX12_habit_2 : decode cX12_habit 2 = .ok (.iload_n 2, 1) := by decide +kernel
theorem dX12_habit_3 : decode cX12_habit 3 = .ok (.invokevirtual 367, 3) := by decide +kernel
theorem dX12_habit_6 : decode cX12_habit 6 = .ok (.ifCond .eq 20, 3) := by decide +kernel
theorem dX12_habit_9 : decode cX12_habit 9 = .ok (.iload_n 3, 1) := by decide +kernel
theorem dX12_habit_10 : decode cX12_habit 10 = .ok (.invokestatic 117, 3) := by decide +kernel
theorem dX12_habit_13 : decode cX12_habit 13 = .ok (.ifCond .eq 13, 3) := by decide +kernel
theorem dX12_habit_16 : decode cX12_habit 16 = .ok (.iload 4, 2) := by decide +kernel
theorem dX12_habit_18 : decode cX12_habit 18 = .ok (.iconst 0, 1) := by decide +kernel
theorem dX12_habit_19 : decode cX12_habit 19 = .ok (.iconst 2, 1) := by decide +kernel
theorem dX12_habit_20 : decode cX12_habit 20 = .ok (.invokestatic 74, 3) := by decide +kernel
theorem dX12_habit_23 : decode cX12_habit 23 = .ok (.ifCond .ne 6, 3) := by decide +kernel
theorem dX12_habit_26 : decode cX12_habit 26 = .ok (.bipush (-2), 2) := by decide +kernel
theorem dX12_habit_28 : decode cX12_habit 28 = .ok (.ireturn, 1) := by decide +kernel
theorem dX12_habit_29 : decode cX12_habit 29 = .ok (.aload_n 0, 1) := by decide +kernel
theorem dX12_habit_30 : decode cX12_habit 30 = .ok (.iload_n 1, 1) := by decide +kernel
theorem dX12_habit_31 : decode cX12_habit 31 = .ok (.iload_n 2, 1) := by decide +kernel
theorem dX12_habit_32 : decode cX12_habit 32 = .ok (.iload_n 3, 1) := by decide +kernel
theorem dX12_habit_33 : decode cX12_habit 33 = .ok (.invokevirtual 354, 3) := by decide +kernel
theorem dX12_habit_36 : decode cX12_habit 36 = .ok (.istore 5, 2) := by decide +kernel
theorem dX12_habit_38 : decode cX12_habit 38 = .ok (.iload 4, 2) := by decide +kernel
theorem dX12_habit_40 : decode cX12_habit 40 = .ok (.ifCond .ne 6, 3) := by decide +kernel
theorem dX12_habit_43 : decode cX12_habit 43 = .ok (.iload 5, 2) := by decide +kernel
theorem dX12_habit_45 : decode cX12_habit 45 = .ok (.ireturn, 1) := by decide +kernel
theorem dX12_habit_46 : decode cX12_habit 46 = .ok (.iload 5, 2) := by decide +kernel
theorem dX12_habit_48 : decode cX12_habit 48 = .ok (.ifCond .ne 15, 3) := by decide +kernel
theorem dX12_habit_51 : decode cX12_habit 51 = .ok (.iload 4, 2) := by decide +kernel
theorem dX12_habit_53 : decode cX12_habit 53 = .ok (.iconst 1, 1) := by decide +kernel
theorem dX12_habit_54 : decode cX12_habit 54 = .ok (.if_icmp .ne 7, 3) := by decide +kernel
theorem dX12_habit_57 : decode cX12_habit 57 = .ok (.iconst (-1), 1) := by decide +kernel
theorem dX12_habit_58 : decode cX12_habit 58 = .ok (.goto 4, 3) := by decide +kernel
theorem dX12_habit_61 : decode cX12_habit 61 = .ok (.iconst 0, 1) := by decide +kernel
theorem dX12_habit_62 : decode cX12_habit 62 = .ok (.ireturn, 1) := by decide +kernel
theorem dX12_habit_63 : decode cX12_habit 63 = .ok (.iload 4, 2) := by decide +kernel
theorem dX12_habit_65 : decode cX12_habit 65 = .ok (.iconst 1, 1) := by decide +kernel
theorem dX12_habit_66 : decode cX12_habit 66 = .ok (.if_icmp .ne 16, 3) := by decide +kernel
theorem dX12_habit_69 : decode cX12_habit 69 = .ok (.aload_n 0, 1) := by decide +kernel
theorem dX12_habit_70 : decode cX12_habit 70 = .ok (.iload_n 1, 1) := by decide +kernel
theorem dX12_habit_71 : decode cX12_habit 71 = .ok (.iload_n 2, 1) := by decide +kernel
theorem dX12_habit_72 : decode cX12_habit 72 = .ok (.bipush 7, 2) := by decide +kernel
theorem dX12_habit_74 : decode cX12_habit 74 = .ok (.iload_n 3, 1) := by decide +kernel
theorem dX12_habit_75 : decode cX12_habit 75 = .ok (.iadd, 1) := by decide +kernel
theorem dX12_habit_76 : decode cX12_habit 76 = .ok (.invokevirtual 86, 3) := by decide +kernel
theorem dX12_habit_79 : decode cX12_habit 79 = .ok (.goto 10, 3) := by decide +kernel
theorem dX12_habit_82 : decode cX12_habit 82 = .ok (.aload_n 0, 1) := by decide +kernel
theorem dX12_habit_83 : decode cX12_habit 83 = .ok (.iload_n 1, 1) := by decide +kernel
theorem dX12_habit_84 : decode cX12_habit 84 = .ok (.iload_n 2, 1) := by decide +kernel
theorem dX12_habit_85 : decode cX12_habit 85 = .ok (.iload_n 3, 1) := by decide +kernel
theorem dX12_habit_86 : decode cX12_habit 86 = .ok (.invokevirtual 435, 3) := by decide +kernel
theorem dX12_habit_89 : decode cX12_habit 89 = .ok (.ireturn, 1) := by decide +kernel
theorem dX12_book_0 : decode cX12_book 0 = .ok (.iload_n 1, 1) := by decide +kernel
theorem dX12_book_1 : decode cX12_book 1 = .ok (.iconst 0, 1) := by decide +kernel
theorem dX12_book_2 : decode cX12_book 2 = .ok (.aload_n 0, 1) := by decide +kernel
theorem dX12_book_3 : decode cX12_book 3 = .ok (.getfield 7, 3) := by decide +kernel
theorem dX12_book_6 : decode cX12_book 6 = .ok (.iconst 1, 1) := by decide +kernel
theorem dX12_book_7 : decode cX12_book 7 = .ok (.iaload, 1) := by decide +kernel
theorem dX12_book_8 : decode cX12_book 8 = .ok (.iconst 1, 1) := by decide +kernel
theorem dX12_book_9 : decode cX12_book 9 = .ok (.isub, 1) := by decide +kernel
theorem dX12_book_10 : decode cX12_book 10 = .ok (.invokestatic 74, 3) := by decide +kernel
theorem dX12_book_13 : decode cX12_book 13 = .ok (.ifCond .eq 30, 3) := by decide +kernel
theorem dX12_book_16 : decode cX12_book 16 = .ok (.iload_n 2, 1) := by decide +kernel
theorem dX12_book_17 : decode cX12_book 17 = .ok (.iconst 0, 1) := by decide +kernel
theorem dX12_book_18 : decode cX12_book 18 = .ok (.iconst 5, 1) := by decide +kernel
theorem dX12_book_19 : decode cX12_book 19 = .ok (.invokestatic 74, 3) := by decide +kernel
theorem dX12_book_22 : decode cX12_book 22 = .ok (.ifCond .eq 21, 3) := by decide +kernel
theorem dX12_book_25 : decode cX12_book 25 = .ok (.aload_n 0, 1) := by decide +kernel
theorem dX12_book_26 : decode cX12_book 26 = .ok (.getfield 7, 3) := by decide +kernel
theorem dX12_book_29 : decode cX12_book 29 = .ok (.sipush 2640, 3) := by decide +kernel
theorem dX12_book_32 : decode cX12_book 32 = .ok (.bipush 6, 2) := by decide +kernel
theorem dX12_book_34 : decode cX12_book 34 = .ok (.iload_n 1, 1) := by decide +kernel
theorem dX12_book_35 : decode cX12_book 35 = .ok (.imul, 1) := by decide +kernel
theorem dX12_book_36 : decode cX12_book 36 = .ok (.iadd, 1) := by decide +kernel
theorem dX12_book_37 : decode cX12_book 37 = .ok (.iload_n 2, 1) := by decide +kernel
theorem dX12_book_38 : decode cX12_book 38 = .ok (.iadd, 1) := by decide +kernel
theorem dX12_book_39 : decode cX12_book 39 = .ok (.iaload, 1) := by decide +kernel
theorem dX12_book_40 : decode cX12_book 40 = .ok (.goto 5, 3) := by decide +kernel
theorem dX12_book_43 : decode cX12_book 43 = .ok (.bipush (-2), 2) := by decide +kernel
theorem dX12_book_45 : decode cX12_book 45 = .ok (.ireturn, 1) := by decide +kernel
theorem dX12_laysAside_0 : decode cX12_laysAside 0 = .ok (.iconst 0, 1) := by decide +kernel
theorem dX12_laysAside_1 : decode cX12_laysAside 1 = .ok (.istore_n 1, 1) := by decide +kernel
theorem dX12_laysAside_2 : decode cX12_laysAside 2 = .ok (.iload_n 1, 1) := by decide +kernel
theorem dX12_laysAside_3 : decode cX12_laysAside 3 = .ok (.sipush 2564, 3) := by decide +kernel
theorem dX12_laysAside_6 : decode cX12_laysAside 6 = .ok (.if_icmp .ge 21, 3) := by decide +kernel
theorem dX12_laysAside_9 : decode cX12_laysAside 9 = .ok (.aload_n 0, 1) := by decide +kernel
theorem dX12_laysAside_10 : decode cX12_laysAside 10 = .ok (.getfield 19, 3) := by decide +kernel
theorem dX12_laysAside_13 : decode cX12_laysAside 13 = .ok (.iload_n 1, 1) := by decide +kernel
theorem dX12_laysAside_14 : decode cX12_laysAside 14 = .ok (.aload_n 0, 1) := by decide +kernel
theorem dX12_laysAside_15 : decode cX12_laysAside 15 = .ok (.getfield 7, 3) := by decide +kernel
theorem dX12_laysAside_18 : decode cX12_laysAside 18 = .ok (.iload_n 1, 1) := by decide +kernel
theorem dX12_laysAside_19 : decode cX12_laysAside 19 = .ok (.iaload, 1) := by decide +kernel
theorem dX12_laysAside_20 : decode cX12_laysAside 20 = .ok (.iastore, 1) := by decide +kernel
theorem dX12_laysAside_21 : decode cX12_laysAside 21 = .ok (.iinc 1 1, 3) := by decide +kernel
theorem dX12_laysAside_24 : decode cX12_laysAside 24 = .ok (.goto (-22), 3) := by decide +kernel
theorem dX12_laysAside_27 : decode cX12_laysAside 27 = .ok (.aload_n 0, 1) := by decide +kernel
theorem dX12_laysAside_28 : decode cX12_laysAside 28 = .ok (.getfield 7, 3) := by decide +kernel
theorem dX12_laysAside_31 : decode cX12_laysAside 31 = .ok (.iconst 1, 1) := by decide +kernel
theorem dX12_laysAside_32 : decode cX12_laysAside 32 = .ok (.sipush 200, 3) := by decide +kernel
theorem dX12_laysAside_35 : decode cX12_laysAside 35 = .ok (.iastore, 1) := by decide +kernel
theorem dX12_laysAside_36 : decode cX12_laysAside 36 = .ok (.return_, 1) := by decide +kernel
theorem dX12_putsBack_0 : decode cX12_putsBack 0 = .ok (.iconst 0, 1) := by decide +kernel
theorem dX12_putsBack_1 : decode cX12_putsBack 1 = .ok (.istore_n 1, 1) := by decide +kernel
theorem dX12_putsBack_2 : decode cX12_putsBack 2 = .ok (.iload_n 1, 1) := by decide +kernel
theorem dX12_putsBack_3 : decode cX12_putsBack 3 = .ok (.sipush 2564, 3) := by decide +kernel
theorem dX12_putsBack_6 : decode cX12_putsBack 6 = .ok (.if_icmp .ge 21, 3) := by decide +kernel
theorem dX12_putsBack_9 : decode cX12_putsBack 9 = .ok (.aload_n 0, 1) := by decide +kernel
theorem dX12_putsBack_10 : decode cX12_putsBack 10 = .ok (.getfield 7, 3) := by decide +kernel
theorem dX12_putsBack_13 : decode cX12_putsBack 13 = .ok (.iload_n 1, 1) := by decide +kernel
theorem dX12_putsBack_14 : decode cX12_putsBack 14 = .ok (.aload_n 0, 1) := by decide +kernel
theorem dX12_putsBack_15 : decode cX12_putsBack 15 = .ok (.getfield 19, 3) := by decide +kernel
theorem dX12_putsBack_18 : decode cX12_putsBack 18 = .ok (.iload_n 1, 1) := by decide +kernel
theorem dX12_putsBack_19 : decode cX12_putsBack 19 = .ok (.iaload, 1) := by decide +kernel
theorem dX12_putsBack_20 : decode cX12_putsBack 20 = .ok (.iastore, 1) := by decide +kernel
theorem dX12_putsBack_21 : decode cX12_putsBack 21 = .ok (.iinc 1 1, 3) := by decide +kernel
theorem dX12_putsBack_24 : decode cX12_putsBack 24 = .ok (.goto (-22), 3) := by decide +kernel
theorem dX12_putsBack_27 : decode cX12_putsBack 27 = .ok (.return_, 1) := by decide +kernel
theorem dX12_wouldBy_0 : decode cX12_wouldBy 0 = .ok (.aload_n 0, 1) := by decide +kernel
theorem dX12_wouldBy_1 : decode cX12_wouldBy 1 = .ok (.invokevirtual 458, 3) := by decide +kernel
theorem dX12_wouldBy_4 : decode cX12_wouldBy 4 = .ok (.aload_n 0, 1) := by decide +kernel
theorem dX12_wouldBy_5 : decode cX12_wouldBy 5 = .ok (.iload_n 1, 1) := by decide +kernel
theorem dX12_wouldBy_6 : decode cX12_wouldBy 6 = .ok (.iload_n 2, 1) := by decide +kernel
theorem dX12_wouldBy_7 : decode cX12_wouldBy 7 = .ok (.invokevirtual 429, 3) := by decide +kernel
theorem dX12_wouldBy_10 : decode cX12_wouldBy 10 = .ok (.aload_n 0, 1) := by decide +kernel
theorem dX12_wouldBy_11 : decode cX12_wouldBy 11 = .ok (.invokevirtual 461, 3) := by decide +kernel
theorem dX12_wouldBy_14 : decode cX12_wouldBy 14 = .ok (.return_, 1) := by decide +kernel
theorem dX12_would_0 : decode cX12_would 0 = .ok (.aload_n 0, 1) := by decide +kernel
theorem dX12_would_1 : decode cX12_would 1 = .ok (.iload_n 1, 1) := by decide +kernel
theorem dX12_would_2 : decode cX12_would 2 = .ok (.invokevirtual 82, 3) := by decide +kernel
theorem dX12_would_5 : decode cX12_would 5 = .ok (.ifCond .eq 22, 3) := by decide +kernel
theorem dX12_would_8 : decode cX12_would 8 = .ok (.iload_n 2, 1) := by decide +kernel
theorem dX12_would_9 : decode cX12_would 9 = .ok (.iconst 0, 1) := by decide +kernel
theorem dX12_would_10 : decode cX12_would 10 = .ok (.bipush 99, 2) := by decide +kernel
theorem dX12_would_12 : decode cX12_would 12 = .ok (.invokestatic 74, 3) := by decide +kernel
theorem dX12_would_15 : decode cX12_would 15 = .ok (.ifCond .eq 12, 3) := by decide +kernel
theorem dX12_would_18 : decode cX12_would 18 = .ok (.iload_n 3, 1) := by decide +kernel
theorem dX12_would_19 : decode cX12_would 19 = .ok (.iconst 0, 1) := by decide +kernel
theorem dX12_would_20 : decode cX12_would 20 = .ok (.iconst 3, 1) := by decide +kernel
theorem dX12_would_21 : decode cX12_would 21 = .ok (.invokestatic 74, 3) := by decide +kernel
theorem dX12_would_24 : decode cX12_would 24 = .ok (.ifCond .ne 6, 3) := by decide +kernel
theorem dX12_would_27 : decode cX12_would 27 = .ok (.bipush (-2), 2) := by decide +kernel
theorem dX12_would_29 : decode cX12_would 29 = .ok (.ireturn, 1) := by decide +kernel
theorem dX12_would_30 : decode cX12_would 30 = .ok (.aload_n 0, 1) := by decide +kernel
theorem dX12_would_31 : decode cX12_would 31 = .ok (.iload_n 1, 1) := by decide +kernel
theorem dX12_would_32 : decode cX12_would 32 = .ok (.iload_n 2, 1) := by decide +kernel
theorem dX12_would_33 : decode cX12_would 33 = .ok (.invokevirtual 464, 3) := by decide +kernel
theorem dX12_would_36 : decode cX12_would 36 = .ok (.iload_n 3, 1) := by decide +kernel
theorem dX12_would_37 : decode cX12_would 37 = .ok (.ifCond .ne 10, 3) := by decide +kernel
theorem dX12_would_40 : decode cX12_would 40 = .ok (.aload_n 0, 1) := by decide +kernel
theorem dX12_would_41 : decode cX12_would 41 = .ok (.getfield 411, 3) := by decide +kernel
theorem dX12_would_44 : decode cX12_would 44 = .ok (.goto 31, 3) := by decide +kernel
theorem dX12_would_47 : decode cX12_would 47 = .ok (.iload_n 3, 1) := by decide +kernel
theorem dX12_would_48 : decode cX12_would 48 = .ok (.iconst 1, 1) := by decide +kernel
theorem dX12_would_49 : decode cX12_would 49 = .ok (.if_icmp .ne 10, 3) := by decide +kernel
theorem dX12_would_52 : decode cX12_would 52 = .ok (.aload_n 0, 1) := by decide +kernel
theorem dX12_would_53 : decode cX12_would 53 = .ok (.getfield 414, 3) := by decide +kernel
theorem dX12_would_56 : decode cX12_would 56 = .ok (.goto 19, 3) := by decide +kernel
theorem dX12_would_59 : decode cX12_would 59 = .ok (.iload_n 3, 1) := by decide +kernel
theorem dX12_would_60 : decode cX12_would 60 = .ok (.iconst 2, 1) := by decide +kernel
theorem dX12_would_61 : decode cX12_would 61 = .ok (.if_icmp .ne 10, 3) := by decide +kernel
theorem dX12_would_64 : decode cX12_would 64 = .ok (.aload_n 0, 1) := by decide +kernel
theorem dX12_would_65 : decode cX12_would 65 = .ok (.getfield 417, 3) := by decide +kernel
theorem dX12_would_68 : decode cX12_would 68 = .ok (.goto 7, 3) := by decide +kernel
theorem dX12_would_71 : decode cX12_would 71 = .ok (.aload_n 0, 1) := by decide +kernel
theorem dX12_would_72 : decode cX12_would 72 = .ok (.getfield 426, 3) := by decide +kernel
theorem dX12_would_75 : decode cX12_would 75 = .ok (.ireturn, 1) := by decide +kernel
theorem dX12_least_0 : decode cX12_least 0 = .ok (.aload_n 0, 1) := by decide +kernel
theorem dX12_least_1 : decode cX12_least 1 = .ok (.iload_n 1, 1) := by decide +kernel
theorem dX12_least_2 : decode cX12_least 2 = .ok (.invokevirtual 82, 3) := by decide +kernel
theorem dX12_least_5 : decode cX12_least 5 = .ok (.ifCond .eq 12, 3) := by decide +kernel
theorem dX12_least_8 : decode cX12_least 8 = .ok (.iload_n 2, 1) := by decide +kernel
theorem dX12_least_9 : decode cX12_least 9 = .ok (.iconst 0, 1) := by decide +kernel
theorem dX12_least_10 : decode cX12_least 10 = .ok (.iconst 1, 1) := by decide +kernel
theorem dX12_least_11 : decode cX12_least 11 = .ok (.invokestatic 74, 3) := by decide +kernel
theorem dX12_least_14 : decode cX12_least 14 = .ok (.ifCond .ne 5, 3) := by decide +kernel
theorem dX12_least_17 : decode cX12_least 17 = .ok (.iconst (-1), 1) := by decide +kernel
theorem dX12_least_18 : decode cX12_least 18 = .ok (.ireturn, 1) := by decide +kernel
theorem dX12_least_19 : decode cX12_least 19 = .ok (.iconst 0, 1) := by decide +kernel
theorem dX12_least_20 : decode cX12_least 20 = .ok (.istore_n 3, 1) := by decide +kernel
theorem dX12_least_21 : decode cX12_least 21 = .ok (.iload_n 3, 1) := by decide +kernel
theorem dX12_least_22 : decode cX12_least 22 = .ok (.bipush 99, 2) := by decide +kernel
theorem dX12_least_24 : decode cX12_least 24 = .ok (.if_icmp .gt 39, 3) := by decide +kernel
theorem dX12_least_27 : decode cX12_least 27 = .ok (.aload_n 0, 1) := by decide +kernel
theorem dX12_least_28 : decode cX12_least 28 = .ok (.iload_n 1, 1) := by decide +kernel
theorem dX12_least_29 : decode cX12_least 29 = .ok (.iload_n 3, 1) := by decide +kernel
theorem dX12_least_30 : decode cX12_least 30 = .ok (.invokevirtual 464, 3) := by decide +kernel
theorem dX12_least_33 : decode cX12_least 33 = .ok (.iload_n 2, 1) := by decide +kernel
theorem dX12_least_34 : decode cX12_least 34 = .ok (.ifCond .ne 13, 3) := by decide +kernel
theorem dX12_least_37 : decode cX12_least 37 = .ok (.aload_n 0, 1) := by decide +kernel
theorem dX12_least_38 : decode cX12_least 38 = .ok (.getfield 411, 3) := by decide +kernel
theorem dX12_least_41 : decode cX12_least 41 = .ok (.ifCond .le 16, 3) := by decide +kernel
theorem dX12_least_44 : decode cX12_least 44 = .ok (.goto 11, 3) := by decide +kernel
theorem dX12_least_47 : decode cX12_least 47 = .ok (.aload_n 0, 1) := by decide +kernel
theorem dX12_least_48 : decode cX12_least 48 = .ok (.getfield 426, 3) := by decide +kernel
theorem dX12_least_51 : decode cX12_least 51 = .ok (.iconst (-1), 1) := by decide +kernel
theorem dX12_least_52 : decode cX12_least 52 = .ok (.if_icmp .eq 5, 3) := by decide +kernel
theorem dX12_least_55 : decode cX12_least 55 = .ok (.iload_n 3, 1) := by decide +kernel
theorem dX12_least_56 : decode cX12_least 56 = .ok (.ireturn, 1) := by decide +kernel
theorem dX12_least_57 : decode cX12_least 57 = .ok (.iinc 3 1, 3) := by decide +kernel
theorem dX12_least_60 : decode cX12_least 60 = .ok (.goto (-39), 3) := by decide +kernel
theorem dX12_least_63 : decode cX12_least 63 = .ok (.iconst (-1), 1) := by decide +kernel
theorem dX12_least_64 : decode cX12_least 64 = .ok (.ireturn, 1) := by decide +kernel
theorem dX12_train_0 : decode cX12_train 0 = .ok (.aload_n 0, 1) := by decide +kernel
theorem dX12_train_1 : decode cX12_train 1 = .ok (.iload_n 1, 1) := by decide +kernel
theorem dX12_train_2 : decode cX12_train 2 = .ok (.iload_n 2, 1) := by decide +kernel
theorem dX12_train_3 : decode cX12_train 3 = .ok (.iload_n 3, 1) := by decide +kernel
theorem dX12_train_4 : decode cX12_train 4 = .ok (.invokevirtual 376, 3) := by decide +kernel
theorem dX12_train_7 : decode cX12_train 7 = .ok (.ifCond .eq 14, 3) := by decide +kernel
theorem dX12_train_10 : decode cX12_train 10 = .ok (.iload 4, 2) := by decide +kernel
theorem dX12_train_12 : decode cX12_train 12 = .ok (.iconst 0, 1) := by decide +kernel
theorem dX12_train_13 : decode cX12_train 13 = .ok (.bipush 99, 2) := by decide +kernel
theorem dX12_train_15 : decode cX12_train 15 = .ok (.invokestatic 74, 3) := by decide +kernel
theorem dX12_train_18 : decode cX12_train 18 = .ok (.ifCond .ne 5, 3) := by decide +kernel
theorem dX12_train_21 : decode cX12_train 21 = .ok (.iconst (-1), 1) := by decide +kernel
theorem dX12_train_22 : decode cX12_train 22 = .ok (.ireturn, 1) := by decide +kernel
theorem dX12_train_23 : decode cX12_train 23 = .ok (.iconst 0, 1) := by decide +kernel
theorem dX12_train_24 : decode cX12_train 24 = .ok (.istore 5, 2) := by decide +kernel
theorem dX12_train_26 : decode cX12_train 26 = .ok (.iload 5, 2) := by decide +kernel
theorem dX12_train_28 : decode cX12_train 28 = .ok (.bipush 30, 2) := by decide +kernel
theorem dX12_train_30 : decode cX12_train 30 = .ok (.if_icmp .gt 76, 3) := by decide +kernel
theorem dX12_train_33 : decode cX12_train 33 = .ok (.aload_n 0, 1) := by decide +kernel
theorem dX12_train_34 : decode cX12_train 34 = .ok (.invokevirtual 458, 3) := by decide +kernel
theorem dX12_train_37 : decode cX12_train 37 = .ok (.iconst 0, 1) := by decide +kernel
theorem dX12_train_38 : decode cX12_train 38 = .ok (.istore 6, 2) := by decide +kernel
theorem dX12_train_40 : decode cX12_train 40 = .ok (.iload 6, 2) := by decide +kernel
theorem dX12_train_42 : decode cX12_train 42 = .ok (.iload 5, 2) := by decide +kernel
theorem dX12_train_44 : decode cX12_train 44 = .ok (.if_icmp .ge 26, 3) := by decide +kernel
theorem dX12_train_47 : decode cX12_train 47 = .ok (.aload_n 0, 1) := by decide +kernel
theorem dX12_train_48 : decode cX12_train 48 = .ok (.iload_n 1, 1) := by decide +kernel
theorem dX12_train_49 : decode cX12_train 49 = .ok (.iload_n 2, 1) := by decide +kernel
theorem dX12_train_50 : decode cX12_train 50 = .ok (.iload_n 3, 1) := by decide +kernel
theorem dX12_train_51 : decode cX12_train 51 = .ok (.aload_n 0, 1) := by decide +kernel
theorem dX12_train_52 : decode cX12_train 52 = .ok (.getfield 7, 3) := by decide +kernel
theorem dX12_train_55 : decode cX12_train 55 = .ok (.sipush 2564, 3) := by decide +kernel
theorem dX12_train_58 : decode cX12_train 58 = .ok (.iload_n 3, 1) := by decide +kernel
theorem dX12_train_59 : decode cX12_train 59 = .ok (.iadd, 1) := by decide +kernel
theorem dX12_train_60 : decode cX12_train 60 = .ok (.iaload, 1) := by decide +kernel
theorem dX12_train_61 : decode cX12_train 61 = .ok (.invokevirtual 370, 3) := by decide +kernel
theorem dX12_train_64 : decode cX12_train 64 = .ok (.iinc 6 1, 3) := by decide +kernel
theorem dX12_train_67 : decode cX12_train 67 = .ok (.goto (-27), 3) := by decide +kernel
theorem dX12_train_70 : decode cX12_train 70 = .ok (.aload_n 0, 1) := by decide +kernel
theorem dX12_train_71 : decode cX12_train 71 = .ok (.iload_n 1, 1) := by decide +kernel
theorem dX12_train_72 : decode cX12_train 72 = .ok (.iload 4, 2) := by decide +kernel
theorem dX12_train_74 : decode cX12_train 74 = .ok (.invokevirtual 429, 3) := by decide +kernel
theorem dX12_train_77 : decode cX12_train 77 = .ok (.aload_n 0, 1) := by decide +kernel
theorem dX12_train_78 : decode cX12_train 78 = .ok (.invokevirtual 461, 3) := by decide +kernel
theorem dX12_train_81 : decode cX12_train 81 = .ok (.aload_n 0, 1) := by decide +kernel
theorem dX12_train_82 : decode cX12_train 82 = .ok (.getfield 414, 3) := by decide +kernel
theorem dX12_train_85 : decode cX12_train 85 = .ok (.iload_n 2, 1) := by decide +kernel
theorem dX12_train_86 : decode cX12_train 86 = .ok (.if_icmp .ne 14, 3) := by decide +kernel
theorem dX12_train_89 : decode cX12_train 89 = .ok (.aload_n 0, 1) := by decide +kernel
theorem dX12_train_90 : decode cX12_train 90 = .ok (.getfield 417, 3) := by decide +kernel
theorem dX12_train_93 : decode cX12_train 93 = .ok (.iload_n 3, 1) := by decide +kernel
theorem dX12_train_94 : decode cX12_train 94 = .ok (.if_icmp .ne 6, 3) := by decide +kernel
theorem dX12_train_97 : decode cX12_train 97 = .ok (.iload 5, 2) := by decide +kernel
theorem dX12_train_99 : decode cX12_train 99 = .ok (.ireturn, 1) := by decide +kernel
theorem dX12_train_100 : decode cX12_train 100 = .ok (.iinc 5 1, 3) := by decide +kernel
theorem dX12_train_103 : decode cX12_train 103 = .ok (.goto (-77), 3) := by decide +kernel
theorem dX12_train_106 : decode cX12_train 106 = .ok (.iconst (-1), 1) := by decide +kernel
theorem dX12_train_107 : decode cX12_train 107 = .ok (.ireturn, 1) := by decide +kernel
theorem dX12_told_0 : decode cX12_told 0 = .ok (.iload_n 1, 1) := by decide +kernel
theorem dX12_told_1 : decode cX12_told 1 = .ok (.iconst (-1), 1) := by decide +kernel
theorem dX12_told_2 : decode cX12_told 2 = .ok (.if_icmp .ne 14, 3) := by decide +kernel
theorem dX12_told_5 : decode cX12_told 5 = .ok (.aload_n 0, 1) := by decide +kernel
theorem dX12_told_6 : decode cX12_told 6 = .ok (.getfield 7, 3) := by decide +kernel
theorem dX12_told_9 : decode cX12_told 9 = .ok (.sipush 2577, 3) := by decide +kernel
theorem dX12_told_12 : decode cX12_told 12 = .ok (.iconst 0, 1) := by decide +kernel
theorem dX12_told_13 : decode cX12_told 13 = .ok (.iastore, 1) := by decide +kernel
theorem dX12_told_14 : decode cX12_told 14 = .ok (.iconst 0, 1) := by decide +kernel
theorem dX12_told_15 : decode cX12_told 15 = .ok (.ireturn, 1) := by decide +kernel
theorem dX12_told_16 : decode cX12_told 16 = .ok (.iload_n 1, 1) := by decide +kernel
theorem dX12_told_17 : decode cX12_told 17 = .ok (.iconst 0, 1) := by decide +kernel
theorem dX12_told_18 : decode cX12_told 18 = .ok (.bipush 99, 2) := by decide +kernel
theorem dX12_told_20 : decode cX12_told 20 = .ok (.invokestatic 74, 3) := by decide +kernel
theorem dX12_told_23 : decode cX12_told 23 = .ok (.ifCond .eq 25, 3) := by decide +kernel
theorem dX12_told_26 : decode cX12_told 26 = .ok (.iload_n 2, 1) := by decide +kernel
theorem dX12_told_27 : decode cX12_told 27 = .ok (.iconst (-1), 1) := by decide +kernel
theorem dX12_told_28 : decode cX12_told 28 = .ok (.iconst 5, 1) := by decide +kernel
theorem dX12_told_29 : decode cX12_told 29 = .ok (.invokestatic 74, 3) := by decide +kernel
theorem dX12_told_32 : decode cX12_told 32 = .ok (.ifCond .eq 16, 3) := by decide +kernel
theorem dX12_told_35 : decode cX12_told 35 = .ok (.aload_n 0, 1) := by decide +kernel
theorem dX12_told_36 : decode cX12_told 36 = .ok (.getfield 7, 3) := by decide +kernel
theorem dX12_told_39 : decode cX12_told 39 = .ok (.sipush 2577, 3) := by decide +kernel
theorem dX12_told_42 : decode cX12_told 42 = .ok (.iaload, 1) := by decide +kernel
theorem dX12_told_43 : decode cX12_told 43 = .ok (.bipush 6, 2) := by decide +kernel
theorem dX12_told_45 : decode cX12_told 45 = .ok (.if_icmp .ne 5, 3) := by decide +kernel
theorem dX12_told_48 : decode cX12_told 48 = .ok (.iconst (-1), 1) := by decide +kernel
theorem dX12_told_49 : decode cX12_told 49 = .ok (.ireturn, 1) := by decide +kernel
theorem dX12_told_50 : decode cX12_told 50 = .ok (.aload_n 0, 1) := by decide +kernel
theorem dX12_told_51 : decode cX12_told 51 = .ok (.getfield 7, 3) := by decide +kernel
theorem dX12_told_54 : decode cX12_told 54 = .ok (.sipush 2580, 3) := by decide +kernel
theorem dX12_told_57 : decode cX12_told 57 = .ok (.iconst 2, 1) := by decide +kernel
theorem dX12_told_58 : decode cX12_told 58 = .ok (.aload_n 0, 1) := by decide +kernel
theorem dX12_told_59 : decode cX12_told 59 = .ok (.getfield 7, 3) := by decide +kernel
theorem dX12_told_62 : decode cX12_told 62 = .ok (.sipush 2577, 3) := by decide +kernel
theorem dX12_told_65 : decode cX12_told 65 = .ok (.iaload, 1) := by decide +kernel
theorem dX12_told_66 : decode cX12_told 66 = .ok (.imul, 1) := by decide +kernel
theorem dX12_told_67 : decode cX12_told 67 = .ok (.iadd, 1) := by decide +kernel
theorem dX12_told_68 : decode cX12_told 68 = .ok (.iload_n 1, 1) := by decide +kernel
theorem dX12_told_69 : decode cX12_told 69 = .ok (.iastore, 1) := by decide +kernel
theorem dX12_told_70 : decode cX12_told 70 = .ok (.aload_n 0, 1) := by decide +kernel
theorem dX12_told_71 : decode cX12_told 71 = .ok (.getfield 7, 3) := by decide +kernel
theorem dX12_told_74 : decode cX12_told 74 = .ok (.sipush 2580, 3) := by decide +kernel
theorem dX12_told_77 : decode cX12_told 77 = .ok (.iconst 2, 1) := by decide +kernel
theorem dX12_told_78 : decode cX12_told 78 = .ok (.aload_n 0, 1) := by decide +kernel
theorem dX12_told_79 : decode cX12_told 79 = .ok (.getfield 7, 3) := by decide +kernel
theorem dX12_told_82 : decode cX12_told 82 = .ok (.sipush 2577, 3) := by decide +kernel
theorem dX12_told_85 : decode cX12_told 85 = .ok (.iaload, 1) := by decide +kernel
theorem dX12_told_86 : decode cX12_told 86 = .ok (.imul, 1) := by decide +kernel
theorem dX12_told_87 : decode cX12_told 87 = .ok (.iadd, 1) := by decide +kernel
theorem dX12_told_88 : decode cX12_told 88 = .ok (.iconst 1, 1) := by decide +kernel
theorem dX12_told_89 : decode cX12_told 89 = .ok (.iadd, 1) := by decide +kernel
theorem dX12_told_90 : decode cX12_told 90 = .ok (.iload_n 2, 1) := by decide +kernel
theorem dX12_told_91 : decode cX12_told 91 = .ok (.iastore, 1) := by decide +kernel
theorem dX12_told_92 : decode cX12_told 92 = .ok (.aload_n 0, 1) := by decide +kernel
theorem dX12_told_93 : decode cX12_told 93 = .ok (.getfield 7, 3) := by decide +kernel
theorem dX12_told_96 : decode cX12_told 96 = .ok (.sipush 2577, 3) := by decide +kernel
theorem dX12_told_99 : decode cX12_told 99 = .ok (.dup2, 1) := by decide +kernel
theorem dX12_told_100 : decode cX12_told 100 = .ok (.iaload, 1) := by decide +kernel
theorem dX12_told_101 : decode cX12_told 101 = .ok (.iconst 1, 1) := by decide +kernel
theorem dX12_told_102 : decode cX12_told 102 = .ok (.iadd, 1) := by decide +kernel
theorem dX12_told_103 : decode cX12_told 103 = .ok (.iastore, 1) := by decide +kernel
theorem dX12_told_104 : decode cX12_told 104 = .ok (.aload_n 0, 1) := by decide +kernel
theorem dX12_told_105 : decode cX12_told 105 = .ok (.getfield 7, 3) := by decide +kernel
theorem dX12_told_108 : decode cX12_told 108 = .ok (.sipush 2577, 3) := by decide +kernel
theorem dX12_told_111 : decode cX12_told 111 = .ok (.iaload, 1) := by decide +kernel
theorem dX12_told_112 : decode cX12_told 112 = .ok (.ireturn, 1) := by decide +kernel
theorem dX12_fitsWith_0 : decode cX12_fitsWith 0 = .ok (.iconst 0, 1) := by decide +kernel
theorem dX12_fitsWith_1 : decode cX12_fitsWith 1 = .ok (.istore_n 3, 1) := by decide +kernel
theorem dX12_fitsWith_2 : decode cX12_fitsWith 2 = .ok (.iload_n 3, 1) := by decide +kernel
theorem dX12_fitsWith_3 : decode cX12_fitsWith 3 = .ok (.aload_n 0, 1) := by decide +kernel
theorem dX12_fitsWith_4 : decode cX12_fitsWith 4 = .ok (.getfield 7, 3) := by decide +kernel
theorem dX12_fitsWith_7 : decode cX12_fitsWith 7 = .ok (.sipush 2577, 3) := by decide +kernel
theorem dX12_fitsWith_10 : decode cX12_fitsWith 10 = .ok (.iaload, 1) := by decide +kernel
theorem dX12_fitsWith_11 : decode cX12_fitsWith 11 = .ok (.if_icmp .ge 49, 3) := by decide +kernel
theorem dX12_fitsWith_14 : decode cX12_fitsWith 14 = .ok (.aload_n 0, 1) := by decide +kernel
theorem dX12_fitsWith_15 : decode cX12_fitsWith 15 = .ok (.getfield 7, 3) := by decide +kernel
theorem dX12_fitsWith_18 : decode cX12_fitsWith 18 = .ok (.sipush 2580, 3) := by decide +kernel
theorem dX12_fitsWith_21 : decode cX12_fitsWith 21 = .ok (.iconst 2, 1) := by decide +kernel
theorem dX12_fitsWith_22 : decode cX12_fitsWith 22 = .ok (.iload_n 3, 1) := by decide +kernel
theorem dX12_fitsWith_23 : decode cX12_fitsWith 23 = .ok (.imul, 1) := by decide +kernel
theorem dX12_fitsWith_24 : decode cX12_fitsWith 24 = .ok (.iadd, 1) := by decide +kernel
theorem dX12_fitsWith_25 : decode cX12_fitsWith 25 = .ok (.iconst 1, 1) := by decide +kernel
theorem dX12_fitsWith_26 : decode cX12_fitsWith 26 = .ok (.iadd, 1) := by decide +kernel
theorem dX12_fitsWith_27 : decode cX12_fitsWith 27 = .ok (.iaload, 1) := by decide +kernel
theorem dX12_fitsWith_28 : decode cX12_fitsWith 28 = .ok (.iload_n 2, 1) := by decide +kernel
theorem dX12_fitsWith_29 : decode cX12_fitsWith 29 = .ok (.aload_n 0, 1) := by decide +kernel
theorem dX12_fitsWith_30 : decode cX12_fitsWith 30 = .ok (.getfield 7, 3) := by decide +kernel
theorem dX12_fitsWith_33 : decode cX12_fitsWith 33 = .ok (.sipush 2580, 3) := by decide +kernel
theorem dX12_fitsWith_36 : decode cX12_fitsWith 36 = .ok (.iconst 2, 1) := by decide +kernel
theorem dX12_fitsWith_37 : decode cX12_fitsWith 37 = .ok (.iload_n 3, 1) := by decide +kernel
theorem dX12_fitsWith_38 : decode cX12_fitsWith 38 = .ok (.imul, 1) := by decide +kernel
theorem dX12_fitsWith_39 : decode cX12_fitsWith 39 = .ok (.iadd, 1) := by decide +kernel
theorem dX12_fitsWith_40 : decode cX12_fitsWith 40 = .ok (.iaload, 1) := by decide +kernel
theorem dX12_fitsWith_41 : decode cX12_fitsWith 41 = .ok (.if_icmp .gt 7, 3) := by decide +kernel
theorem dX12_fitsWith_44 : decode cX12_fitsWith 44 = .ok (.iload_n 1, 1) := by decide +kernel
theorem dX12_fitsWith_45 : decode cX12_fitsWith 45 = .ok (.goto 4, 3) := by decide +kernel
theorem dX12_fitsWith_48 : decode cX12_fitsWith 48 = .ok (.iconst (-1), 1) := by decide +kernel
theorem dX12_fitsWith_49 : decode cX12_fitsWith 49 = .ok (.if_icmp .eq 5, 3) := by decide +kernel
theorem dX12_fitsWith_52 : decode cX12_fitsWith 52 = .ok (.iconst 0, 1) := by decide +kernel
theorem dX12_fitsWith_53 : decode cX12_fitsWith 53 = .ok (.ireturn, 1) := by decide +kernel
theorem dX12_fitsWith_54 : decode cX12_fitsWith 54 = .ok (.iinc 3 1, 3) := by decide +kernel
theorem dX12_fitsWith_57 : decode cX12_fitsWith 57 = .ok (.goto (-55), 3) := by decide +kernel
theorem dX12_fitsWith_60 : decode cX12_fitsWith 60 = .ok (.iconst 1, 1) := by decide +kernel
theorem dX12_fitsWith_61 : decode cX12_fitsWith 61 = .ok (.ireturn, 1) := by decide +kernel
theorem dX12_nextForce_0 : decode cX12_nextForce 0 = .ok (.iconst (-1), 1) := by decide +kernel
theorem dX12_nextForce_1 : decode cX12_nextForce 1 = .ok (.istore_n 1, 1) := by decide +kernel
theorem dX12_nextForce_2 : decode cX12_nextForce 2 = .ok (.aload_n 0, 1) := by decide +kernel
theorem dX12_nextForce_3 : decode cX12_nextForce 3 = .ok (.getfield 467, 3) := by decide +kernel
theorem dX12_nextForce_6 : decode cX12_nextForce 6 = .ok (.iconst 1, 1) := by decide +kernel
theorem dX12_nextForce_7 : decode cX12_nextForce 7 = .ok (.iadd, 1) := by decide +kernel
theorem dX12_nextForce_8 : decode cX12_nextForce 8 = .ok (.istore_n 2, 1) := by decide +kernel
theorem dX12_nextForce_9 : decode cX12_nextForce 9 = .ok (.iconst 0, 1) := by decide +kernel
theorem dX12_nextForce_10 : decode cX12_nextForce 10 = .ok (.istore_n 3, 1) := by decide +kernel
theorem dX12_nextForce_11 : decode cX12_nextForce 11 = .ok (.iload_n 3, 1) := by decide +kernel
theorem dX12_nextForce_12 : decode cX12_nextForce 12 = .ok (.bipush 99, 2) := by decide +kernel
theorem dX12_nextForce_14 : decode cX12_nextForce 14 = .ok (.if_icmp .gt 87, 3) := by decide +kernel
theorem dX12_nextForce_17 : decode cX12_nextForce 17 = .ok (.aload_n 0, 1) := by decide +kernel
theorem dX12_nextForce_18 : decode cX12_nextForce 18 = .ok (.getfield 467, 3) := by decide +kernel
theorem dX12_nextForce_21 : decode cX12_nextForce 21 = .ok (.iconst 1, 1) := by decide +kernel
theorem dX12_nextForce_22 : decode cX12_nextForce 22 = .ok (.if_icmp .le 79, 3) := by decide +kernel
theorem dX12_nextForce_25 : decode cX12_nextForce 25 = .ok (.iconst 0, 1) := by decide +kernel
theorem dX12_nextForce_26 : decode cX12_nextForce 26 = .ok (.istore 4, 2) := by decide +kernel
theorem dX12_nextForce_28 : decode cX12_nextForce 28 = .ok (.iconst 0, 1) := by decide +kernel
theorem dX12_nextForce_29 : decode cX12_nextForce 29 = .ok (.istore 5, 2) := by decide +kernel
theorem dX12_nextForce_31 : decode cX12_nextForce 31 = .ok (.iload 5, 2) := by decide +kernel
theorem dX12_nextForce_33 : decode cX12_nextForce 33 = .ok (.aload_n 0, 1) := by decide +kernel
theorem dX12_nextForce_34 : decode cX12_nextForce 34 = .ok (.getfield 467, 3) := by decide +kernel
theorem dX12_nextForce_37 : decode cX12_nextForce 37 = .ok (.if_icmp .ge 30, 3) := by decide +kernel
theorem dX12_nextForce_40 : decode cX12_nextForce 40 = .ok (.iload 4, 2) := by decide +kernel
theorem dX12_nextForce_42 : decode cX12_nextForce 42 = .ok (.aload_n 0, 1) := by decide +kernel
theorem dX12_nextForce_43 : decode cX12_nextForce 43 = .ok (.getfield 53, 3) := by decide +kernel
theorem dX12_nextForce_46 : decode cX12_nextForce 46 = .ok (.iload 5, 2) := by decide +kernel
theorem dX12_nextForce_48 : decode cX12_nextForce 48 = .ok (.iaload, 1) := by decide +kernel
theorem dX12_nextForce_49 : decode cX12_nextForce 49 = .ok (.iload_n 3, 1) := by decide +kernel
theorem dX12_nextForce_50 : decode cX12_nextForce 50 = .ok (.if_icmp .gt 7, 3) := by decide +kernel
theorem dX12_nextForce_53 : decode cX12_nextForce 53 = .ok (.iconst 1, 1) := by decide +kernel
theorem dX12_nextForce_54 : decode cX12_nextForce 54 = .ok (.goto 4, 3) := by decide +kernel
theorem dX12_nextForce_57 : decode cX12_nextForce 57 = .ok (.iconst 0, 1) := by decide +kernel
theorem dX12_nextForce_58 : decode cX12_nextForce 58 = .ok (.iadd, 1) := by decide +kernel
theorem dX12_nextForce_59 : decode cX12_nextForce 59 = .ok (.istore 4, 2) := by decide +kernel
theorem dX12_nextForce_61 : decode cX12_nextForce 61 = .ok (.iinc 5 1, 3) := by decide +kernel
theorem dX12_nextForce_64 : decode cX12_nextForce 64 = .ok (.goto (-33), 3) := by decide +kernel
theorem dX12_nextForce_67 : decode cX12_nextForce 67 = .ok (.iload 4, 2) := by decide +kernel
theorem dX12_nextForce_69 : decode cX12_nextForce 69 = .ok (.aload_n 0, 1) := by decide +kernel
theorem dX12_nextForce_70 : decode cX12_nextForce 70 = .ok (.getfield 467, 3) := by decide +kernel
theorem dX12_nextForce_73 : decode cX12_nextForce 73 = .ok (.iload 4, 2) := by decide +kernel
theorem dX12_nextForce_75 : decode cX12_nextForce 75 = .ok (.isub, 1) := by decide +kernel
theorem dX12_nextForce_76 : decode cX12_nextForce 76 = .ok (.invokestatic 337, 3) := by decide +kernel
theorem dX12_nextForce_79 : decode cX12_nextForce 79 = .ok (.istore 5, 2) := by decide +kernel
theorem dX12_nextForce_81 : decode cX12_nextForce 81 = .ok (.iload 5, 2) := by decide +kernel
theorem dX12_nextForce_83 : decode cX12_nextForce 83 = .ok (.iload_n 2, 1) := by decide +kernel
theorem dX12_nextForce_84 : decode cX12_nextForce 84 = .ok (.if_icmp .lt 6, 3) := by decide +kernel
theorem dX12_nextForce_87 : decode cX12_nextForce 87 = .ok (.goto 8, 3) := by decide +kernel
theorem dX12_nextForce_90 : decode cX12_nextForce 90 = .ok (.iload 5, 2) := by decide +kernel
theorem dX12_nextForce_92 : decode cX12_nextForce 92 = .ok (.istore_n 2, 1) := by decide +kernel
theorem dX12_nextForce_93 : decode cX12_nextForce 93 = .ok (.iload_n 3, 1) := by decide +kernel
theorem dX12_nextForce_94 : decode cX12_nextForce 94 = .ok (.istore_n 1, 1) := by decide +kernel
theorem dX12_nextForce_95 : decode cX12_nextForce 95 = .ok (.iinc 3 1, 3) := by decide +kernel
theorem dX12_nextForce_98 : decode cX12_nextForce 98 = .ok (.goto (-87), 3) := by decide +kernel
theorem dX12_nextForce_101 : decode cX12_nextForce 101 = .ok (.iload_n 1, 1) := by decide +kernel
theorem dX12_nextForce_102 : decode cX12_nextForce 102 = .ok (.ireturn, 1) := by decide +kernel
theorem dX12_fits_0 : decode cX12_fits 0 = .ok (.aload_n 0, 1) := by decide +kernel
theorem dX12_fits_1 : decode cX12_fits 1 = .ok (.iload_n 1, 1) := by decide +kernel
theorem dX12_fits_2 : decode cX12_fits 2 = .ok (.iload_n 2, 1) := by decide +kernel
theorem dX12_fits_3 : decode cX12_fits 3 = .ok (.invokevirtual 367, 3) := by decide +kernel
theorem dX12_fits_6 : decode cX12_fits 6 = .ok (.ifCond .eq 21, 3) := by decide +kernel
theorem dX12_fits_9 : decode cX12_fits 9 = .ok (.aload_n 0, 1) := by decide +kernel
theorem dX12_fits_10 : decode cX12_fits 10 = .ok (.iload_n 1, 1) := by decide +kernel
theorem dX12_fits_11 : decode cX12_fits 11 = .ok (.iload_n 2, 1) := by decide +kernel
theorem dX12_fits_12 : decode cX12_fits 12 = .ok (.invokevirtual 340, 3) := by decide +kernel
theorem dX12_fits_15 : decode cX12_fits 15 = .ok (.ifCond .ne 12, 3) := by decide +kernel
theorem dX12_fits_18 : decode cX12_fits 18 = .ok (.iload_n 3, 1) := by decide +kernel
theorem dX12_fits_19 : decode cX12_fits 19 = .ok (.iconst 0, 1) := by decide +kernel
theorem dX12_fits_20 : decode cX12_fits 20 = .ok (.iconst 3, 1) := by decide +kernel
theorem dX12_fits_21 : decode cX12_fits 21 = .ok (.invokestatic 74, 3) := by decide +kernel
theorem dX12_fits_24 : decode cX12_fits 24 = .ok (.ifCond .ne 5, 3) := by decide +kernel
theorem dX12_fits_27 : decode cX12_fits 27 = .ok (.iconst (-1), 1) := by decide +kernel
theorem dX12_fits_28 : decode cX12_fits 28 = .ok (.ireturn, 1) := by decide +kernel
theorem dX12_fits_29 : decode cX12_fits 29 = .ok (.aload_n 0, 1) := by decide +kernel
theorem dX12_fits_30 : decode cX12_fits 30 = .ok (.iconst 0, 1) := by decide +kernel
theorem dX12_fits_31 : decode cX12_fits 31 = .ok (.putfield 467, 3) := by decide +kernel
theorem dX12_fits_34 : decode cX12_fits 34 = .ok (.iconst (-1), 1) := by decide +kernel
theorem dX12_fits_35 : decode cX12_fits 35 = .ok (.istore 4, 2) := by decide +kernel
theorem dX12_fits_37 : decode cX12_fits 37 = .ok (.iconst (-1), 1) := by decide +kernel
theorem dX12_fits_38 : decode cX12_fits 38 = .ok (.istore 5, 2) := by decide +kernel
theorem dX12_fits_40 : decode cX12_fits 40 = .ok (.iconst 0, 1) := by decide +kernel
theorem dX12_fits_41 : decode cX12_fits 41 = .ok (.istore 6, 2) := by decide +kernel
theorem dX12_fits_43 : decode cX12_fits 43 = .ok (.iload 6, 2) := by decide +kernel
theorem dX12_fits_45 : decode cX12_fits 45 = .ok (.bipush 6, 2) := by decide +kernel
theorem dX12_fits_47 : decode cX12_fits 47 = .ok (.if_icmp .ge 88, 3) := by decide +kernel
theorem dX12_fits_50 : decode cX12_fits 50 = .ok (.iconst 1, 1) := by decide +kernel
theorem dX12_fits_51 : decode cX12_fits 51 = .ok (.istore 7, 2) := by decide +kernel
theorem dX12_fits_53 : decode cX12_fits 53 = .ok (.iload 7, 2) := by decide +kernel
theorem dX12_fits_55 : decode cX12_fits 55 = .ok (.bipush 99, 2) := by decide +kernel
theorem dX12_fits_57 : decode cX12_fits 57 = .ok (.if_icmp .gt 72, 3) := by decide +kernel
theorem dX12_fits_60 : decode cX12_fits 60 = .ok (.aload_n 0, 1) := by decide +kernel
theorem dX12_fits_61 : decode cX12_fits 61 = .ok (.iload_n 1, 1) := by decide +kernel
theorem dX12_fits_62 : decode cX12_fits 62 = .ok (.iload_n 2, 1) := by decide +kernel
theorem dX12_fits_63 : decode cX12_fits 63 = .ok (.iload 6, 2) := by decide +kernel
theorem dX12_fits_65 : decode cX12_fits 65 = .ok (.iload 7, 2) := by decide +kernel
theorem dX12_fits_67 : decode cX12_fits 67 = .ok (.iconst 0, 1) := by decide +kernel
theorem dX12_fits_68 : decode cX12_fits 68 = .ok (.invokevirtual 357, 3) := by decide +kernel
theorem dX12_fits_71 : decode cX12_fits 71 = .ok (.istore 8, 2) := by decide +kernel
theorem dX12_fits_73 : decode cX12_fits 73 = .ok (.aload_n 0, 1) := by decide +kernel
theorem dX12_fits_74 : decode cX12_fits 74 = .ok (.iload 6, 2) := by decide +kernel
theorem dX12_fits_76 : decode cX12_fits 76 = .ok (.iload 8, 2) := by decide +kernel
theorem dX12_fits_78 : decode cX12_fits 78 = .ok (.invokevirtual 470, 3) := by decide +kernel
theorem dX12_fits_81 : decode cX12_fits 81 = .ok (.ifCond .ne 6, 3) := by decide +kernel
theorem dX12_fits_84 : decode cX12_fits 84 = .ok (.goto 39, 3) := by decide +kernel
theorem dX12_fits_87 : decode cX12_fits 87 = .ok (.aload_n 0, 1) := by decide +kernel
theorem dX12_fits_88 : decode cX12_fits 88 = .ok (.getfield 467, 3) := by decide +kernel
theorem dX12_fits_91 : decode cX12_fits 91 = .ok (.ifCond .ne 11, 3) := by decide +kernel
theorem dX12_fits_94 : decode cX12_fits 94 = .ok (.iload 6, 2) := by decide +kernel
theorem dX12_fits_96 : decode cX12_fits 96 = .ok (.istore 4, 2) := by decide +kernel
theorem dX12_fits_98 : decode cX12_fits 98 = .ok (.iload 7, 2) := by decide +kernel
theorem dX12_fits_100 : decode cX12_fits 100 = .ok (.istore 5, 2) := by decide +kernel
theorem dX12_fits_102 : decode cX12_fits 102 = .ok (.aload_n 0, 1) := by decide +kernel
theorem dX12_fits_103 : decode cX12_fits 103 = .ok (.getfield 53, 3) := by decide +kernel
theorem dX12_fits_106 : decode cX12_fits 106 = .ok (.aload_n 0, 1) := by decide +kernel
theorem dX12_fits_107 : decode cX12_fits 107 = .ok (.getfield 467, 3) := by decide +kernel
theorem dX12_fits_110 : decode cX12_fits 110 = .ok (.iload 8, 2) := by decide +kernel
theorem dX12_fits_112 : decode cX12_fits 112 = .ok (.iastore, 1) := by decide +kernel
theorem dX12_fits_113 : decode cX12_fits 113 = .ok (.aload_n 0, 1) := by decide +kernel
theorem dX12_fits_114 : decode cX12_fits 114 = .ok (.dup, 1) := by decide +kernel
theorem dX12_fits_115 : decode cX12_fits 115 = .ok (.getfield 467, 3) := by decide +kernel
theorem dX12_fits_118 : decode cX12_fits 118 = .ok (.iconst 1, 1) := by decide +kernel
theorem dX12_fits_119 : decode cX12_fits 119 = .ok (.iadd, 1) := by decide +kernel
theorem dX12_fits_120 : decode cX12_fits 120 = .ok (.putfield 467, 3) := by decide +kernel
theorem dX12_fits_123 : decode cX12_fits 123 = .ok (.iinc 7 1, 3) := by decide +kernel
theorem dX12_fits_126 : decode cX12_fits 126 = .ok (.goto (-73), 3) := by decide +kernel
theorem dX12_fits_129 : decode cX12_fits 129 = .ok (.iinc 6 1, 3) := by decide +kernel
theorem dX12_fits_132 : decode cX12_fits 132 = .ok (.goto (-89), 3) := by decide +kernel
theorem dX12_fits_135 : decode cX12_fits 135 = .ok (.iload_n 3, 1) := by decide +kernel
theorem dX12_fits_136 : decode cX12_fits 136 = .ok (.ifCond .ne 10, 3) := by decide +kernel
theorem dX12_fits_139 : decode cX12_fits 139 = .ok (.aload_n 0, 1) := by decide +kernel
theorem dX12_fits_140 : decode cX12_fits 140 = .ok (.getfield 467, 3) := by decide +kernel
theorem dX12_fits_143 : decode cX12_fits 143 = .ok (.goto 27, 3) := by decide +kernel
theorem dX12_fits_146 : decode cX12_fits 146 = .ok (.iload_n 3, 1) := by decide +kernel
theorem dX12_fits_147 : decode cX12_fits 147 = .ok (.iconst 1, 1) := by decide +kernel
theorem dX12_fits_148 : decode cX12_fits 148 = .ok (.if_icmp .ne 8, 3) := by decide +kernel
theorem dX12_fits_151 : decode cX12_fits 151 = .ok (.iload 4, 2) := by decide +kernel
theorem dX12_fits_153 : decode cX12_fits 153 = .ok (.goto 17, 3) := by decide +kernel
theorem dX12_fits_156 : decode cX12_fits 156 = .ok (.iload_n 3, 1) := by decide +kernel
theorem dX12_fits_157 : decode cX12_fits 157 = .ok (.iconst 2, 1) := by decide +kernel
theorem dX12_fits_158 : decode cX12_fits 158 = .ok (.if_icmp .ne 8, 3) := by decide +kernel
theorem dX12_fits_161 : decode cX12_fits 161 = .ok (.iload 5, 2) := by decide +kernel
theorem dX12_fits_163 : decode cX12_fits 163 = .ok (.goto 7, 3) := by decide +kernel
theorem dX12_fits_166 : decode cX12_fits 166 = .ok (.aload_n 0, 1) := by decide +kernel
theorem dX12_fits_167 : decode cX12_fits 167 = .ok (.invokevirtual 473, 3) := by decide +kernel
theorem dX12_fits_170 : decode cX12_fits 170 = .ok (.ireturn, 1) := by decide +kernel
theorem dX12_weak_0 : decode cX12_weak 0 = .ok (.aload_n 0, 1) := by decide +kernel
theorem dX12_weak_1 : decode cX12_weak 1 = .ok (.iload_n 1, 1) := by decide +kernel
theorem dX12_weak_2 : decode cX12_weak 2 = .ok (.invokevirtual 82, 3) := by decide +kernel
theorem dX12_weak_5 : decode cX12_weak 5 = .ok (.ifCond .eq 12, 3) := by decide +kernel
theorem dX12_weak_8 : decode cX12_weak 8 = .ok (.iload_n 2, 1) := by decide +kernel
theorem dX12_weak_9 : decode cX12_weak 9 = .ok (.iconst 0, 1) := by decide +kernel
theorem dX12_weak_10 : decode cX12_weak 10 = .ok (.iconst 1, 1) := by decide +kernel
theorem dX12_weak_11 : decode cX12_weak 11 = .ok (.invokestatic 74, 3) := by decide +kernel
theorem dX12_weak_14 : decode cX12_weak 14 = .ok (.ifCond .ne 5, 3) := by decide +kernel
theorem dX12_weak_17 : decode cX12_weak 17 = .ok (.iconst (-1), 1) := by decide +kernel
theorem dX12_weak_18 : decode cX12_weak 18 = .ok (.ireturn, 1) := by decide +kernel
theorem dX12_weak_19 : decode cX12_weak 19 = .ok (.aload_n 0, 1) := by decide +kernel
theorem dX12_weak_20 : decode cX12_weak 20 = .ok (.iload_n 1, 1) := by decide +kernel
theorem dX12_weak_21 : decode cX12_weak 21 = .ok (.invokevirtual 423, 3) := by decide +kernel
theorem dX12_weak_24 : decode cX12_weak 24 = .ok (.istore_n 3, 1) := by decide +kernel
theorem dX12_weak_25 : decode cX12_weak 25 = .ok (.iload_n 2, 1) := by decide +kernel
theorem dX12_weak_26 : decode cX12_weak 26 = .ok (.ifCond .ne 12, 3) := by decide +kernel
theorem dX12_weak_29 : decode cX12_weak 29 = .ok (.aload_n 0, 1) := by decide +kernel
theorem dX12_weak_30 : decode cX12_weak 30 = .ok (.iload_n 1, 1) := by decide +kernel
theorem dX12_weak_31 : decode cX12_weak 31 = .ok (.iload_n 3, 1) := by decide +kernel
theorem dX12_weak_32 : decode cX12_weak 32 = .ok (.invokevirtual 364, 3) := by decide +kernel
theorem dX12_weak_35 : decode cX12_weak 35 = .ok (.goto 4, 3) := by decide +kernel
theorem dX12_weak_38 : decode cX12_weak 38 = .ok (.iload_n 3, 1) := by decide +kernel
theorem dX12_weak_39 : decode cX12_weak 39 = .ok (.ireturn, 1) := by decide +kernel
theorem dX12_ladder_0 : decode cX12_ladder 0 = .ok (.iconst (-1), 1) := by decide +kernel
theorem dX12_ladder_1 : decode cX12_ladder 1 = .ok (.istore_n 2, 1) := by decide +kernel
theorem dX12_ladder_2 : decode cX12_ladder 2 = .ok (.iconst 0, 1) := by decide +kernel
theorem dX12_ladder_3 : decode cX12_ladder 3 = .ok (.istore_n 3, 1) := by decide +kernel
theorem dX12_ladder_4 : decode cX12_ladder 4 = .ok (.iload_n 3, 1) := by decide +kernel
theorem dX12_ladder_5 : decode cX12_ladder 5 = .ok (.bipush 8, 2) := by decide +kernel
theorem dX12_ladder_7 : decode cX12_ladder 7 = .ok (.if_icmp .ge 49, 3) := by decide +kernel
theorem dX12_ladder_10 : decode cX12_ladder 10 = .ok (.aload_n 0, 1) := by decide +kernel
theorem dX12_ladder_11 : decode cX12_ladder 11 = .ok (.iload_n 3, 1) := by decide +kernel
theorem dX12_ladder_12 : decode cX12_ladder 12 = .ok (.invokevirtual 82, 3) := by decide +kernel
theorem dX12_ladder_15 : decode cX12_ladder 15 = .ok (.ifCond .eq 35, 3) := by decide +kernel
theorem dX12_ladder_18 : decode cX12_ladder 18 = .ok (.aload_n 0, 1) := by decide +kernel
theorem dX12_ladder_19 : decode cX12_ladder 19 = .ok (.iload_n 3, 1) := by decide +kernel
theorem dX12_ladder_20 : decode cX12_ladder 20 = .ok (.iconst 1, 1) := by decide +kernel
theorem dX12_ladder_21 : decode cX12_ladder 21 = .ok (.invokevirtual 78, 3) := by decide +kernel
theorem dX12_ladder_24 : decode cX12_ladder 24 = .ok (.iload_n 1, 1) := by decide +kernel
theorem dX12_ladder_25 : decode cX12_ladder 25 = .ok (.if_icmp .lt 25, 3) := by decide +kernel
theorem dX12_ladder_28 : decode cX12_ladder 28 = .ok (.iload_n 2, 1) := by decide +kernel
theorem dX12_ladder_29 : decode cX12_ladder 29 = .ok (.iconst (-1), 1) := by decide +kernel
theorem dX12_ladder_30 : decode cX12_ladder 30 = .ok (.if_icmp .eq 18, 3) := by decide +kernel
theorem dX12_ladder_33 : decode cX12_ladder 33 = .ok (.aload_n 0, 1) := by decide +kernel
theorem dX12_ladder_34 : decode cX12_ladder 34 = .ok (.iload_n 3, 1) := by decide +kernel
theorem dX12_ladder_35 : decode cX12_ladder 35 = .ok (.iconst 0, 1) := by decide +kernel
theorem dX12_ladder_36 : decode cX12_ladder 36 = .ok (.invokevirtual 476, 3) := by decide +kernel
theorem dX12_ladder_39 : decode cX12_ladder 39 = .ok (.aload_n 0, 1) := by decide +kernel
theorem dX12_ladder_40 : decode cX12_ladder 40 = .ok (.iload_n 2, 1) := by decide +kernel
theorem dX12_ladder_41 : decode cX12_ladder 41 = .ok (.iconst 0, 1) := by decide +kernel
theorem dX12_ladder_42 : decode cX12_ladder 42 = .ok (.invokevirtual 476, 3) := by decide +kernel
theorem dX12_ladder_45 : decode cX12_ladder 45 = .ok (.if_icmp .le 5, 3) := by decide +kernel
theorem dX12_ladder_48 : decode cX12_ladder 48 = .ok (.iload_n 3, 1) := by decide +kernel
theorem dX12_ladder_49 : decode cX12_ladder 49 = .ok (.istore_n 2, 1) := by decide +kernel
theorem dX12_ladder_50 : decode cX12_ladder 50 = .ok (.iinc 3 1, 3) := by decide +kernel
theorem dX12_ladder_53 : decode cX12_ladder 53 = .ok (.goto (-49), 3) := by decide +kernel
theorem dX12_ladder_56 : decode cX12_ladder 56 = .ok (.iload_n 2, 1) := by decide +kernel
theorem dX12_ladder_57 : decode cX12_ladder 57 = .ok (.ireturn, 1) := by decide +kernel
theorem dX12_order_0 : decode cX12_order 0 = .ok (.iload_n 1, 1) := by decide +kernel
theorem dX12_order_1 : decode cX12_order 1 = .ok (.iconst (-1), 1) := by decide +kernel
theorem dX12_order_2 : decode cX12_order 2 = .ok (.if_icmp .ne 14, 3) := by decide +kernel
theorem dX12_order_5 : decode cX12_order 5 = .ok (.aload_n 0, 1) := by decide +kernel
theorem dX12_order_6 : decode cX12_order 6 = .ok (.getfield 7, 3) := by decide +kernel
theorem dX12_order_9 : decode cX12_order 9 = .ok (.sipush 2578, 3) := by decide +kernel
theorem dX12_order_12 : decode cX12_order 12 = .ok (.iconst 0, 1) := by decide +kernel
theorem dX12_order_13 : decode cX12_order 13 = .ok (.iastore, 1) := by decide +kernel
theorem dX12_order_14 : decode cX12_order 14 = .ok (.iconst 0, 1) := by decide +kernel
theorem dX12_order_15 : decode cX12_order 15 = .ok (.ireturn, 1) := by decide +kernel
theorem dX12_order_16 : decode cX12_order 16 = .ok (.iload_n 1, 1) := by decide +kernel
theorem dX12_order_17 : decode cX12_order 17 = .ok (.iconst 1, 1) := by decide +kernel
theorem dX12_order_18 : decode cX12_order 18 = .ok (.bipush 24, 2) := by decide +kernel
theorem dX12_order_20 : decode cX12_order 20 = .ok (.invokestatic 74, 3) := by decide +kernel
theorem dX12_order_23 : decode cX12_order 23 = .ok (.ifCond .eq 16, 3) := by decide +kernel
theorem dX12_order_26 : decode cX12_order 26 = .ok (.aload_n 0, 1) := by decide +kernel
theorem dX12_order_27 : decode cX12_order 27 = .ok (.getfield 7, 3) := by decide +kernel
theorem dX12_order_30 : decode cX12_order 30 = .ok (.sipush 2578, 3) := by decide +kernel
theorem dX12_order_33 : decode cX12_order 33 = .ok (.iaload, 1) := by decide +kernel
theorem dX12_order_34 : decode cX12_order 34 = .ok (.bipush 7, 2) := by decide +kernel
theorem dX12_order_36 : decode cX12_order 36 = .ok (.if_icmp .ne 5, 3) := by decide +kernel
theorem dX12_order_39 : decode cX12_order 39 = .ok (.iconst (-1), 1) := by decide +kernel
theorem dX12_order_40 : decode cX12_order 40 = .ok (.ireturn, 1) := by decide +kernel
theorem dX12_order_41 : decode cX12_order 41 = .ok (.aload_n 0, 1) := by decide +kernel
theorem dX12_order_42 : decode cX12_order 42 = .ok (.getfield 7, 3) := by decide +kernel
theorem dX12_order_45 : decode cX12_order 45 = .ok (.sipush 2592, 3) := by decide +kernel
theorem dX12_order_48 : decode cX12_order 48 = .ok (.aload_n 0, 1) := by decide +kernel
theorem dX12_order_49 : decode cX12_order 49 = .ok (.getfield 7, 3) := by decide +kernel
theorem dX12_order_52 : decode cX12_order 52 = .ok (.sipush 2578, 3) := by decide +kernel
theorem dX12_order_55 : decode cX12_order 55 = .ok (.iaload, 1) := by decide +kernel
theorem dX12_order_56 : decode cX12_order 56 = .ok (.iadd, 1) := by decide +kernel
theorem dX12_order_57 : decode cX12_order 57 = .ok (.iload_n 1, 1) := by decide +kernel
theorem dX12_order_58 : decode cX12_order 58 = .ok (.iastore, 1) := by decide +kernel
theorem dX12_order_59 : decode cX12_order 59 = .ok (.aload_n 0, 1) := by decide +kernel
theorem dX12_order_60 : decode cX12_order 60 = .ok (.getfield 7, 3) := by decide +kernel
theorem dX12_order_63 : decode cX12_order 63 = .ok (.sipush 2578, 3) := by decide +kernel
theorem dX12_order_66 : decode cX12_order 66 = .ok (.dup2, 1) := by decide +kernel
theorem dX12_order_67 : decode cX12_order 67 = .ok (.iaload, 1) := by decide +kernel
theorem dX12_order_68 : decode cX12_order 68 = .ok (.iconst 1, 1) := by decide +kernel
theorem dX12_order_69 : decode cX12_order 69 = .ok (.iadd, 1) := by decide +kernel
theorem dX12_order_70 : decode cX12_order 70 = .ok (.iastore, 1) := by decide +kernel
theorem dX12_order_71 : decode cX12_order 71 = .ok (.aload_n 0, 1) := by decide +kernel
theorem dX12_order_72 : decode cX12_order 72 = .ok (.getfield 7, 3) := by decide +kernel
theorem dX12_order_75 : decode cX12_order 75 = .ok (.sipush 2578, 3) := by decide +kernel
theorem dX12_order_78 : decode cX12_order 78 = .ok (.iaload, 1) := by decide +kernel
theorem dX12_order_79 : decode cX12_order 79 = .ok (.ireturn, 1) := by decide +kernel
theorem dX12_count_0 : decode cX12_count 0 = .ok (.iconst 0, 1) := by decide +kernel
theorem dX12_count_1 : decode cX12_count 1 = .ok (.istore_n 1, 1) := by decide +kernel
theorem dX12_count_2 : decode cX12_count 2 = .ok (.iconst 0, 1) := by decide +kernel
theorem dX12_count_3 : decode cX12_count 3 = .ok (.istore_n 2, 1) := by decide +kernel
theorem dX12_count_4 : decode cX12_count 4 = .ok (.iload_n 2, 1) := by decide +kernel
theorem dX12_count_5 : decode cX12_count 5 = .ok (.bipush 8, 2) := by decide +kernel
theorem dX12_count_7 : decode cX12_count 7 = .ok (.if_icmp .ge 17, 3) := by decide +kernel
theorem dX12_count_10 : decode cX12_count 10 = .ok (.iload_n 1, 1) := by decide +kernel
theorem dX12_count_11 : decode cX12_count 11 = .ok (.iload_n 0, 1) := by decide +kernel
theorem dX12_count_12 : decode cX12_count 12 = .ok (.iload_n 2, 1) := by decide +kernel
theorem dX12_count_13 : decode cX12_count 13 = .ok (.ishr, 1) := by decide +kernel
theorem dX12_count_14 : decode cX12_count 14 = .ok (.iconst 1, 1) := by decide +kernel
theorem dX12_count_15 : decode cX12_count 15 = .ok (.iand, 1) := by decide +kernel
theorem dX12_count_16 : decode cX12_count 16 = .ok (.iadd, 1) := by decide +kernel
theorem dX12_count_17 : decode cX12_count 17 = .ok (.istore_n 1, 1) := by decide +kernel
theorem dX12_count_18 : decode cX12_count 18 = .ok (.iinc 2 1, 3) := by decide +kernel
theorem dX12_count_21 : decode cX12_count 21 = .ok (.goto (-17), 3) := by decide +kernel
theorem dX12_count_24 : decode cX12_count 24 = .ok (.iload_n 1, 1) := by decide +kernel
theorem dX12_count_25 : decode cX12_count 25 = .ok (.ireturn, 1) := by decide +kernel
theorem dX12_yards_0 : decode cX12_yards 0 = .ok (.aload_n 0, 1) := by decide +kernel
theorem dX12_yards_1 : decode cX12_yards 1 = .ok (.getfield 479, 3) := by decide +kernel
theorem dX12_yards_4 : decode cX12_yards 4 = .ok (.iconst (-1), 1) := by decide +kernel
theorem dX12_yards_5 : decode cX12_yards 5 = .ok (.if_icmp .eq 15, 3) := by decide +kernel
theorem dX12_yards_8 : decode cX12_yards 8 = .ok (.iload_n 2, 1) := by decide +kernel
theorem dX12_yards_9 : decode cX12_yards 9 = .ok (.invokestatic 482, 3) := by decide +kernel
theorem dX12_yards_12 : decode cX12_yards 12 = .ok (.aload_n 0, 1) := by decide +kernel
theorem dX12_yards_13 : decode cX12_yards 13 = .ok (.getfield 479, 3) := by decide +kernel
theorem dX12_yards_16 : decode cX12_yards 16 = .ok (.if_icmp .lt 4, 3) := by decide +kernel
theorem dX12_yards_19 : decode cX12_yards 19 = .ok (.return_, 1) := by decide +kernel
theorem dX12_yards_20 : decode cX12_yards 20 = .ok (.iload_n 1, 1) := by decide +kernel
theorem dX12_yards_21 : decode cX12_yards 21 = .ok (.aload_n 0, 1) := by decide +kernel
theorem dX12_yards_22 : decode cX12_yards 22 = .ok (.getfield 7, 3) := by decide +kernel
theorem dX12_yards_25 : decode cX12_yards 25 = .ok (.sipush 2578, 3) := by decide +kernel
theorem dX12_yards_28 : decode cX12_yards 28 = .ok (.iaload, 1) := by decide +kernel
theorem dX12_yards_29 : decode cX12_yards 29 = .ok (.if_icmp .ne 37, 3) := by decide +kernel
theorem dX12_yards_32 : decode cX12_yards 32 = .ok (.aload_n 0, 1) := by decide +kernel
theorem dX12_yards_33 : decode cX12_yards 33 = .ok (.iload_n 2, 1) := by decide +kernel
theorem dX12_yards_34 : decode cX12_yards 34 = .ok (.invokestatic 482, 3) := by decide +kernel
theorem dX12_yards_37 : decode cX12_yards 37 = .ok (.putfield 479, 3) := by decide +kernel
theorem dX12_yards_40 : decode cX12_yards 40 = .ok (.iconst 0, 1) := by decide +kernel
theorem dX12_yards_41 : decode cX12_yards 41 = .ok (.istore_n 3, 1) := by decide +kernel
theorem dX12_yards_42 : decode cX12_yards 42 = .ok (.iload_n 3, 1) := by decide +kernel
theorem dX12_yards_43 : decode cX12_yards 43 = .ok (.iload_n 1, 1) := by decide +kernel
theorem dX12_yards_44 : decode cX12_yards 44 = .ok (.if_icmp .ge 21, 3) := by decide +kernel
theorem dX12_yards_47 : decode cX12_yards 47 = .ok (.aload_n 0, 1) := by decide +kernel
theorem dX12_yards_48 : decode cX12_yards 48 = .ok (.getfield 62, 3) := by decide +kernel
theorem dX12_yards_51 : decode cX12_yards 51 = .ok (.iload_n 3, 1) := by decide +kernel
theorem dX12_yards_52 : decode cX12_yards 52 = .ok (.aload_n 0, 1) := by decide +kernel
theorem dX12_yards_53 : decode cX12_yards 53 = .ok (.getfield 59, 3) := by decide +kernel
theorem dX12_yards_56 : decode cX12_yards 56 = .ok (.iload_n 3, 1) := by decide +kernel
theorem dX12_yards_57 : decode cX12_yards 57 = .ok (.iaload, 1) := by decide +kernel
theorem dX12_yards_58 : decode cX12_yards 58 = .ok (.iastore, 1) := by decide +kernel
theorem dX12_yards_59 : decode cX12_yards 59 = .ok (.iinc 3 1, 3) := by decide +kernel
theorem dX12_yards_62 : decode cX12_yards 62 = .ok (.goto (-20), 3) := by decide +kernel
theorem dX12_yards_65 : decode cX12_yards 65 = .ok (.return_, 1) := by decide +kernel
theorem dX12_yards_66 : decode cX12_yards 66 = .ok (.iconst 0, 1) := by decide +kernel
theorem dX12_yards_67 : decode cX12_yards 67 = .ok (.istore_n 3, 1) := by decide +kernel
theorem dX12_yards_68 : decode cX12_yards 68 = .ok (.iload_n 3, 1) := by decide +kernel
theorem dX12_yards_69 : decode cX12_yards 69 = .ok (.bipush 8, 2) := by decide +kernel
theorem dX12_yards_71 : decode cX12_yards 71 = .ok (.if_icmp .ge 96, 3) := by decide +kernel
theorem dX12_yards_74 : decode cX12_yards 74 = .ok (.aload_n 0, 1) := by decide +kernel
theorem dX12_yards_75 : decode cX12_yards 75 = .ok (.iload_n 3, 1) := by decide +kernel
theorem dX12_yards_76 : decode cX12_yards 76 = .ok (.invokevirtual 82, 3) := by decide +kernel
theorem dX12_yards_79 : decode cX12_yards 79 = .ok (.ifCond .eq 82, 3) := by decide +kernel
theorem dX12_yards_82 : decode cX12_yards 82 = .ok (.aload_n 0, 1) := by decide +kernel
theorem dX12_yards_83 : decode cX12_yards 83 = .ok (.getfield 56, 3) := by decide +kernel
theorem dX12_yards_86 : decode cX12_yards 86 = .ok (.iload_n 3, 1) := by decide +kernel
theorem dX12_yards_87 : decode cX12_yards 87 = .ok (.iaload, 1) := by decide +kernel
theorem dX12_yards_88 : decode cX12_yards 88 = .ok (.aload_n 0, 1) := by decide +kernel
theorem dX12_yards_89 : decode cX12_yards 89 = .ok (.getfield 7, 3) := by decide +kernel
theorem dX12_yards_92 : decode cX12_yards 92 = .ok (.sipush 2592, 3) := by decide +kernel
theorem dX12_yards_95 : decode cX12_yards 95 = .ok (.iload_n 1, 1) := by decide +kernel
theorem dX12_yards_96 : decode cX12_yards 96 = .ok (.iadd, 1) := by decide +kernel
theorem dX12_yards_97 : decode cX12_yards 97 = .ok (.iaload, 1) := by decide +kernel
theorem dX12_yards_98 : decode cX12_yards 98 = .ok (.if_icmp .ge 6, 3) := by decide +kernel
theorem dX12_yards_101 : decode cX12_yards 101 = .ok (.goto 60, 3) := by decide +kernel
theorem dX12_yards_104 : decode cX12_yards 104 = .ok (.aload_n 0, 1) := by decide +kernel
theorem dX12_yards_105 : decode cX12_yards 105 = .ok (.getfield 59, 3) := by decide +kernel
theorem dX12_yards_108 : decode cX12_yards 108 = .ok (.iload_n 1, 1) := by decide +kernel
theorem dX12_yards_109 : decode cX12_yards 109 = .ok (.iload_n 3, 1) := by decide +kernel
theorem dX12_yards_110 : decode cX12_yards 110 = .ok (.iastore, 1) := by decide +kernel
theorem dX12_yards_111 : decode cX12_yards 111 = .ok (.aload_n 0, 1) := by decide +kernel
theorem dX12_yards_112 : decode cX12_yards 112 = .ok (.getfield 56, 3) := by decide +kernel
theorem dX12_yards_115 : decode cX12_yards 115 = .ok (.iload_n 3, 1) := by decide +kernel
theorem dX12_yards_116 : decode cX12_yards 116 = .ok (.dup2, 1) := by decide +kernel
theorem dX12_yards_117 : decode cX12_yards 117 = .ok (.iaload, 1) := by decide +kernel
theorem dX12_yards_118 : decode cX12_yards 118 = .ok (.aload_n 0, 1) := by decide +kernel
theorem dX12_yards_119 : decode cX12_yards 119 = .ok (.getfield 7, 3) := by decide +kernel
theorem dX12_yards_122 : decode cX12_yards 122 = .ok (.sipush 2592, 3) := by decide +kernel
theorem dX12_yards_125 : decode cX12_yards 125 = .ok (.iload_n 1, 1) := by decide +kernel
theorem dX12_yards_126 : decode cX12_yards 126 = .ok (.iadd, 1) := by decide +kernel
theorem dX12_yards_127 : decode cX12_yards 127 = .ok (.iaload, 1) := by decide +kernel
theorem dX12_yards_128 : decode cX12_yards 128 = .ok (.isub, 1) := by decide +kernel
theorem dX12_yards_129 : decode cX12_yards 129 = .ok (.iastore, 1) := by decide +kernel
theorem dX12_yards_130 : decode cX12_yards 130 = .ok (.aload_n 0, 1) := by decide +kernel
theorem dX12_yards_131 : decode cX12_yards 131 = .ok (.iload_n 1, 1) := by decide +kernel
theorem dX12_yards_132 : decode cX12_yards 132 = .ok (.iconst 1, 1) := by decide +kernel
theorem dX12_yards_133 : decode cX12_yards 133 = .ok (.iadd, 1) := by decide +kernel
theorem dX12_yards_134 : decode cX12_yards 134 = .ok (.iload_n 2, 1) := by decide +kernel
theorem dX12_yards_135 : decode cX12_yards 135 = .ok (.iconst 1, 1) := by decide +kernel
theorem dX12_yards_136 : decode cX12_yards 136 = .ok (.iload_n 3, 1) := by decide +kernel
theorem dX12_yards_137 : decode cX12_yards 137 = .ok (.ishl, 1) := by decide +kernel
theorem dX12_yards_138 : decode cX12_yards 138 = .ok (.ior, 1) := by decide +kernel
theorem dX12_yards_139 : decode cX12_yards 139 = .ok (.invokevirtual 485, 3) := by decide +kernel
theorem dX12_yards_142 : decode cX12_yards 142 = .ok (.aload_n 0, 1) := by decide +kernel
theorem dX12_yards_143 : decode cX12_yards 143 = .ok (.getfield 56, 3) := by decide +kernel
theorem dX12_yards_146 : decode cX12_yards 146 = .ok (.iload_n 3, 1) := by decide +kernel
theorem dX12_yards_147 : decode cX12_yards 147 = .ok (.dup2, 1) := by decide +kernel
theorem dX12_yards_148 : decode cX12_yards 148 = .ok (.iaload, 1) := by decide +kernel
theorem dX12_yards_149 : decode cX12_yards 149 = .ok (.aload_n 0, 1) := by decide +kernel
theorem dX12_yards_150 : decode cX12_yards 150 = .ok (.getfield 7, 3) := by decide +kernel
theorem dX12_yards_153 : decode cX12_yards 153 = .ok (.sipush 2592, 3) := by decide +kernel
theorem dX12_yards_156 : decode cX12_yards 156 = .ok (.iload_n 1, 1) := by decide +kernel
theorem dX12_yards_157 : decode cX12_yards 157 = .ok (.iadd, 1) := by decide +kernel
theorem dX12_yards_158 : decode cX12_yards 158 = .ok (.iaload, 1) := by decide +kernel
theorem dX12_yards_159 : decode cX12_yards 159 = .ok (.iadd, 1) := by decide +kernel
theorem dX12_yards_160 : decode cX12_yards 160 = .ok (.iastore, 1) := by decide +kernel
theorem dX12_yards_161 : decode cX12_yards 161 = .ok (.iinc 3 1, 3) := by decide +kernel
theorem dX12_yards_164 : decode cX12_yards 164 = .ok (.goto (-96), 3) := by decide +kernel
theorem dX12_yards_167 : decode cX12_yards 167 = .ok (.return_, 1) := by decide +kernel
theorem dX12_yard_0 : decode cX12_yard 0 = .ok (.iload_n 1, 1) := by decide +kernel
theorem dX12_yard_1 : decode cX12_yard 1 = .ok (.ifCond .eq 25, 3) := by decide +kernel
theorem dX12_yard_4 : decode cX12_yard 4 = .ok (.iload_n 1, 1) := by decide +kernel
theorem dX12_yard_5 : decode cX12_yard 5 = .ok (.bipush 10, 2) := by decide +kernel
theorem dX12_yard_7 : decode cX12_yard 7 = .ok (.bipush 9, 2) := by decide +kernel
theorem dX12_yard_9 : decode cX12_yard 9 = .ok (.aload_n 0, 1) := by decide +kernel
theorem dX12_yard_10 : decode cX12_yard 10 = .ok (.getfield 7, 3) := by decide +kernel
theorem dX12_yard_13 : decode cX12_yard 13 = .ok (.sipush 2578, 3) := by decide +kernel
theorem dX12_yard_16 : decode cX12_yard 16 = .ok (.iaload, 1) := by decide +kernel
theorem dX12_yard_17 : decode cX12_yard 17 = .ok (.iadd, 1) := by decide +kernel
theorem dX12_yard_18 : decode cX12_yard 18 = .ok (.invokestatic 74, 3) := by decide +kernel
theorem dX12_yard_21 : decode cX12_yard 21 = .ok (.ifCond .ne 5, 3) := by decide +kernel
theorem dX12_yard_24 : decode cX12_yard 24 = .ok (.iconst (-1), 1) := by decide +kernel
theorem dX12_yard_25 : decode cX12_yard 25 = .ok (.ireturn, 1) := by decide +kernel
theorem dX12_yard_26 : decode cX12_yard 26 = .ok (.iconst 0, 1) := by decide +kernel
theorem dX12_yard_27 : decode cX12_yard 27 = .ok (.istore_n 2, 1) := by decide +kernel
theorem dX12_yard_28 : decode cX12_yard 28 = .ok (.iload_n 2, 1) := by decide +kernel
theorem dX12_yard_29 : decode cX12_yard 29 = .ok (.bipush 8, 2) := by decide +kernel
theorem dX12_yard_31 : decode cX12_yard 31 = .ok (.if_icmp .ge 33, 3) := by decide +kernel
theorem dX12_yard_34 : decode cX12_yard 34 = .ok (.aload_n 0, 1) := by decide +kernel
theorem dX12_yard_35 : decode cX12_yard 35 = .ok (.getfield 56, 3) := by decide +kernel
theorem dX12_yard_38 : decode cX12_yard 38 = .ok (.iload_n 2, 1) := by decide +kernel
theorem dX12_yard_39 : decode cX12_yard 39 = .ok (.aload_n 0, 1) := by decide +kernel
theorem dX12_yard_40 : decode cX12_yard 40 = .ok (.iload_n 2, 1) := by decide +kernel
theorem dX12_yard_41 : decode cX12_yard 41 = .ok (.invokevirtual 82, 3) := by decide +kernel
theorem dX12_yard_44 : decode cX12_yard 44 = .ok (.ifCond .eq 12, 3) := by decide +kernel
theorem dX12_yard_47 : decode cX12_yard 47 = .ok (.aload_n 0, 1) := by decide +kernel
theorem dX12_yard_48 : decode cX12_yard 48 = .ok (.iload_n 2, 1) := by decide +kernel
theorem dX12_yard_49 : decode cX12_yard 49 = .ok (.iconst 1, 1) := by decide +kernel
theorem dX12_yard_50 : decode cX12_yard 50 = .ok (.invokevirtual 78, 3) := by decide +kernel
theorem dX12_yard_53 : decode cX12_yard 53 = .ok (.goto 4, 3) := by decide +kernel
theorem dX12_yard_56 : decode cX12_yard 56 = .ok (.iconst 0, 1) := by decide +kernel
theorem dX12_yard_57 : decode cX12_yard 57 = .ok (.iastore, 1) := by decide +kernel
theorem dX12_yard_58 : decode cX12_yard 58 = .ok (.iinc 2 1, 3) := by decide +kernel
theorem dX12_yard_61 : decode cX12_yard 61 = .ok (.goto (-33), 3) := by decide +kernel
theorem dX12_yard_64 : decode cX12_yard 64 = .ok (.aload_n 0, 1) := by decide +kernel
theorem dX12_yard_65 : decode cX12_yard 65 = .ok (.iconst (-1), 1) := by decide +kernel
theorem dX12_yard_66 : decode cX12_yard 66 = .ok (.putfield 479, 3) := by decide +kernel
theorem dX12_yard_69 : decode cX12_yard 69 = .ok (.aload_n 0, 1) := by decide +kernel
theorem dX12_yard_70 : decode cX12_yard 70 = .ok (.iconst 0, 1) := by decide +kernel
theorem dX12_yard_71 : decode cX12_yard 71 = .ok (.iconst 0, 1) := by decide +kernel
theorem dX12_yard_72 : decode cX12_yard 72 = .ok (.invokevirtual 485, 3) := by decide +kernel
theorem dX12_yard_75 : decode cX12_yard 75 = .ok (.aload_n 0, 1) := by decide +kernel
theorem dX12_yard_76 : decode cX12_yard 76 = .ok (.getfield 479, 3) := by decide +kernel
theorem dX12_yard_79 : decode cX12_yard 79 = .ok (.iconst (-1), 1) := by decide +kernel
theorem dX12_yard_80 : decode cX12_yard 80 = .ok (.if_icmp .eq 7, 3) := by decide +kernel
theorem dX12_yard_83 : decode cX12_yard 83 = .ok (.iload_n 1, 1) := by decide +kernel
theorem dX12_yard_84 : decode cX12_yard 84 = .ok (.ifCond .ne 10, 3) := by decide +kernel
theorem dX12_yard_87 : decode cX12_yard 87 = .ok (.aload_n 0, 1) := by decide +kernel
theorem dX12_yard_88 : decode cX12_yard 88 = .ok (.getfield 479, 3) := by decide +kernel
theorem dX12_yard_91 : decode cX12_yard 91 = .ok (.goto 12, 3) := by decide +kernel
theorem dX12_yard_94 : decode cX12_yard 94 = .ok (.aload_n 0, 1) := by decide +kernel
theorem dX12_yard_95 : decode cX12_yard 95 = .ok (.getfield 62, 3) := by decide +kernel
theorem dX12_yard_98 : decode cX12_yard 98 = .ok (.iload_n 1, 1) := by decide +kernel
theorem dX12_yard_99 : decode cX12_yard 99 = .ok (.bipush 10, 2) := by decide +kernel
theorem dX12_yard_101 : decode cX12_yard 101 = .ok (.isub, 1) := by decide +kernel
theorem dX12_yard_102 : decode cX12_yard 102 = .ok (.iaload, 1) := by decide +kernel
theorem dX12_yard_103 : decode cX12_yard 103 = .ok (.ireturn, 1) := by decide +kernel
theorem dX12_coded_0 : decode cX12_coded 0 = .ok (.iconst 0, 1) := by decide +kernel
theorem dX12_coded_1 : decode cX12_coded 1 = .ok (.istore_n 1, 1) := by decide +kernel
theorem dX12_coded_2 : decode cX12_coded 2 = .ok (.iconst 0, 1) := by decide +kernel
theorem dX12_coded_3 : decode cX12_coded 3 = .ok (.istore_n 2, 1) := by decide +kernel
theorem dX12_coded_4 : decode cX12_coded 4 = .ok (.iload_n 2, 1) := by decide +kernel
theorem dX12_coded_5 : decode cX12_coded 5 = .ok (.aload_n 0, 1) := by decide +kernel
theorem dX12_coded_6 : decode cX12_coded 6 = .ok (.getfield 488, 3) := by decide +kernel
theorem dX12_coded_9 : decode cX12_coded 9 = .ok (.if_icmp .ge 20, 3) := by decide +kernel
theorem dX12_coded_12 : decode cX12_coded 12 = .ok (.iconst 3, 1) := by decide +kernel
theorem dX12_coded_13 : decode cX12_coded 13 = .ok (.iload_n 1, 1) := by decide +kernel
theorem dX12_coded_14 : decode cX12_coded 14 = .ok (.imul, 1) := by decide +kernel
theorem dX12_coded_15 : decode cX12_coded 15 = .ok (.aload_n 0, 1) := by decide +kernel
theorem dX12_coded_16 : decode cX12_coded 16 = .ok (.getfield 71, 3) := by decide +kernel
theorem dX12_coded_19 : decode cX12_coded 19 = .ok (.iload_n 2, 1) := by decide +kernel
theorem dX12_coded_20 : decode cX12_coded 20 = .ok (.iaload, 1) := by decide +kernel
theorem dX12_coded_21 : decode cX12_coded 21 = .ok (.iadd, 1) := by decide +kernel
theorem dX12_coded_22 : decode cX12_coded 22 = .ok (.istore_n 1, 1) := by decide +kernel
theorem dX12_coded_23 : decode cX12_coded 23 = .ok (.iinc 2 1, 3) := by decide +kernel
theorem dX12_coded_26 : decode cX12_coded 26 = .ok (.goto (-22), 3) := by decide +kernel
theorem dX12_coded_29 : decode cX12_coded 29 = .ok (.sipush 2187, 3) := by decide +kernel
theorem dX12_coded_32 : decode cX12_coded 32 = .ok (.aload_n 0, 1) := by decide +kernel
theorem dX12_coded_33 : decode cX12_coded 33 = .ok (.getfield 488, 3) := by decide +kernel
theorem dX12_coded_36 : decode cX12_coded 36 = .ok (.imul, 1) := by decide +kernel
theorem dX12_coded_37 : decode cX12_coded 37 = .ok (.iload_n 1, 1) := by decide +kernel
theorem dX12_coded_38 : decode cX12_coded 38 = .ok (.iadd, 1) := by decide +kernel
theorem dX12_coded_39 : decode cX12_coded 39 = .ok (.ireturn, 1) := by decide +kernel
theorem dX12_decodes_0 : decode cX12_decodes 0 = .ok (.aload_n 0, 1) := by decide +kernel
theorem dX12_decodes_1 : decode cX12_decodes 1 = .ok (.iload_n 1, 1) := by decide +kernel
theorem dX12_decodes_2 : decode cX12_decodes 2 = .ok (.sipush 2187, 3) := by decide +kernel
theorem dX12_decodes_5 : decode cX12_decodes 5 = .ok (.idiv, 1) := by decide +kernel
theorem dX12_decodes_6 : decode cX12_decodes 6 = .ok (.putfield 488, 3) := by decide +kernel
theorem dX12_decodes_9 : decode cX12_decodes 9 = .ok (.iload_n 1, 1) := by decide +kernel
theorem dX12_decodes_10 : decode cX12_decodes 10 = .ok (.sipush 2187, 3) := by decide +kernel
theorem dX12_decodes_13 : decode cX12_decodes 13 = .ok (.irem, 1) := by decide +kernel
theorem dX12_decodes_14 : decode cX12_decodes 14 = .ok (.istore_n 2, 1) := by decide +kernel
theorem dX12_decodes_15 : decode cX12_decodes 15 = .ok (.aload_n 0, 1) := by decide +kernel
theorem dX12_decodes_16 : decode cX12_decodes 16 = .ok (.getfield 488, 3) := by decide +kernel
theorem dX12_decodes_19 : decode cX12_decodes 19 = .ok (.iconst 1, 1) := by decide +kernel
theorem dX12_decodes_20 : decode cX12_decodes 20 = .ok (.isub, 1) := by decide +kernel
theorem dX12_decodes_21 : decode cX12_decodes 21 = .ok (.istore_n 3, 1) := by decide +kernel
theorem dX12_decodes_22 : decode cX12_decodes 22 = .ok (.iload_n 3, 1) := by decide +kernel
theorem dX12_decodes_23 : decode cX12_decodes 23 = .ok (.ifCond .lt 22, 3) := by decide +kernel
theorem dX12_decodes_26 : decode cX12_decodes 26 = .ok (.aload_n 0, 1) := by decide +kernel
theorem dX12_decodes_27 : decode cX12_decodes 27 = .ok (.getfield 71, 3) := by decide +kernel
theorem dX12_decodes_30 : decode cX12_decodes 30 = .ok (.iload_n 3, 1) := by decide +kernel
theorem dX12_decodes_31 : decode cX12_decodes 31 = .ok (.iload_n 2, 1) := by decide +kernel
theorem dX12_decodes_32 : decode cX12_decodes 32 = .ok (.iconst 3, 1) := by decide +kernel
theorem dX12_decodes_33 : decode cX12_decodes 33 = .ok (.irem, 1) := by decide +kernel
theorem dX12_decodes_34 : decode cX12_decodes 34 = .ok (.iastore, 1) := by decide +kernel
theorem dX12_decodes_35 : decode cX12_decodes 35 = .ok (.iload_n 2, 1) := by decide +kernel
theorem dX12_decodes_36 : decode cX12_decodes 36 = .ok (.iconst 3, 1) := by decide +kernel
theorem dX12_decodes_37 : decode cX12_decodes 37 = .ok (.idiv, 1) := by decide +kernel
theorem dX12_decodes_38 : decode cX12_decodes 38 = .ok (.istore_n 2, 1) := by decide +kernel
theorem dX12_decodes_39 : decode cX12_decodes 39 = .ok (.iinc 3 (-1), 3) := by decide +kernel
theorem dX12_decodes_42 : decode cX12_decodes 42 = .ok (.goto (-20), 3) := by decide +kernel
theorem dX12_decodes_45 : decode cX12_decodes 45 = .ok (.return_, 1) := by decide +kernel
theorem dX12_reaches_0 : decode cX12_reaches 0 = .ok (.aload_n 0, 1) := by decide +kernel
theorem dX12_reaches_1 : decode cX12_reaches 1 = .ok (.invokevirtual 491, 3) := by decide +kernel
theorem dX12_reaches_4 : decode cX12_reaches 4 = .ok (.istore_n 2, 1) := by decide +kernel
theorem dX12_reaches_5 : decode cX12_reaches 5 = .ok (.aload_n 0, 1) := by decide +kernel
theorem dX12_reaches_6 : decode cX12_reaches 6 = .ok (.getfield 65, 3) := by decide +kernel
theorem dX12_reaches_9 : decode cX12_reaches 9 = .ok (.iload_n 2, 1) := by decide +kernel
theorem dX12_reaches_10 : decode cX12_reaches 10 = .ok (.iaload, 1) := by decide +kernel
theorem dX12_reaches_11 : decode cX12_reaches 11 = .ok (.iconst (-1), 1) := by decide +kernel
theorem dX12_reaches_12 : decode cX12_reaches 12 = .ok (.if_icmp .eq 4, 3) := by decide +kernel
theorem dX12_reaches_15 : decode cX12_reaches 15 = .ok (.return_, 1) := by decide +kernel
theorem dX12_reaches_16 : decode cX12_reaches 16 = .ok (.aload_n 0, 1) := by decide +kernel
theorem dX12_reaches_17 : decode cX12_reaches 17 = .ok (.getfield 65, 3) := by decide +kernel
theorem dX12_reaches_20 : decode cX12_reaches 20 = .ok (.iload_n 2, 1) := by decide +kernel
theorem dX12_reaches_21 : decode cX12_reaches 21 = .ok (.iload_n 1, 1) := by decide +kernel
theorem dX12_reaches_22 : decode cX12_reaches 22 = .ok (.iastore, 1) := by decide +kernel
theorem dX12_reaches_23 : decode cX12_reaches 23 = .ok (.aload_n 0, 1) := by decide +kernel
theorem dX12_reaches_24 : decode cX12_reaches 24 = .ok (.getfield 68, 3) := by decide +kernel
theorem dX12_reaches_27 : decode cX12_reaches 27 = .ok (.aload_n 0, 1) := by decide +kernel
theorem dX12_reaches_28 : decode cX12_reaches 28 = .ok (.getfield 494, 3) := by decide +kernel
theorem dX12_reaches_31 : decode cX12_reaches 31 = .ok (.iload_n 2, 1) := by decide +kernel
theorem dX12_reaches_32 : decode cX12_reaches 32 = .ok (.iastore, 1) := by decide +kernel
theorem dX12_reaches_33 : decode cX12_reaches 33 = .ok (.aload_n 0, 1) := by decide +kernel
theorem dX12_reaches_34 : decode cX12_reaches 34 = .ok (.dup, 1) := by decide +kernel
theorem dX12_reaches_35 : decode cX12_reaches 35 = .ok (.getfield 494, 3) := by decide +kernel
theorem dX12_reaches_38 : decode cX12_reaches 38 = .ok (.iconst 1, 1) := by decide +kernel
theorem dX12_reaches_39 : decode cX12_reaches 39 = .ok (.iadd, 1) := by decide +kernel
theorem dX12_reaches_40 : decode cX12_reaches 40 = .ok (.putfield 494, 3) := by decide +kernel
theorem dX12_reaches_43 : decode cX12_reaches 43 = .ok (.return_, 1) := by decide +kernel
theorem dX12_goesWith_0 : decode cX12_goesWith 0 = .ok (.iload_n 0, 1) := by decide +kernel
theorem dX12_goesWith_1 : decode cX12_goesWith 1 = .ok (.iconst 2, 1) := by decide +kernel
theorem dX12_goesWith_2 : decode cX12_goesWith 2 = .ok (.if_icmp .ne 16, 3) := by decide +kernel
theorem dX12_goesWith_5 : decode cX12_goesWith 5 = .ok (.iload_n 1, 1) := by decide +kernel
theorem dX12_goesWith_6 : decode cX12_goesWith 6 = .ok (.iconst 2, 1) := by decide +kernel
theorem dX12_goesWith_7 : decode cX12_goesWith 7 = .ok (.if_icmp .ne 7, 3) := by decide +kernel
theorem dX12_goesWith_10 : decode cX12_goesWith 10 = .ok (.iconst 1, 1) := by decide +kernel
theorem dX12_goesWith_11 : decode cX12_goesWith 11 = .ok (.goto 19, 3) := by decide +kernel
theorem dX12_goesWith_14 : decode cX12_goesWith 14 = .ok (.iconst 0, 1) := by decide +kernel
theorem dX12_goesWith_15 : decode cX12_goesWith 15 = .ok (.goto 15, 3) := by decide +kernel
theorem dX12_goesWith_18 : decode cX12_goesWith 18 = .ok (.iload_n 1, 1) := by decide +kernel
theorem dX12_goesWith_19 : decode cX12_goesWith 19 = .ok (.iconst 1, 1) := by decide +kernel
theorem dX12_goesWith_20 : decode cX12_goesWith 20 = .ok (.iload_n 0, 1) := by decide +kernel
theorem dX12_goesWith_21 : decode cX12_goesWith 21 = .ok (.isub, 1) := by decide +kernel
theorem dX12_goesWith_22 : decode cX12_goesWith 22 = .ok (.if_icmp .ne 7, 3) := by decide +kernel
theorem dX12_goesWith_25 : decode cX12_goesWith 25 = .ok (.iconst 1, 1) := by decide +kernel
theorem dX12_goesWith_26 : decode cX12_goesWith 26 = .ok (.goto 4, 3) := by decide +kernel
theorem dX12_goesWith_29 : decode cX12_goesWith 29 = .ok (.iconst 0, 1) := by decide +kernel
theorem dX12_goesWith_30 : decode cX12_goesWith 30 = .ok (.ireturn, 1) := by decide +kernel
theorem dX12_goes_0 : decode cX12_goes 0 = .ok (.aload_n 0, 1) := by decide +kernel
theorem dX12_goes_1 : decode cX12_goes 1 = .ok (.iload_n 1, 1) := by decide +kernel
theorem dX12_goes_2 : decode cX12_goes 2 = .ok (.invokevirtual 497, 3) := by decide +kernel
theorem dX12_goes_5 : decode cX12_goes 5 = .ok (.aload_n 0, 1) := by decide +kernel
theorem dX12_goes_6 : decode cX12_goes 6 = .ok (.getfield 71, 3) := by decide +kernel
theorem dX12_goes_9 : decode cX12_goes 9 = .ok (.iload_n 2, 1) := by decide +kernel
theorem dX12_goes_10 : decode cX12_goes 10 = .ok (.iaload, 1) := by decide +kernel
theorem dX12_goes_11 : decode cX12_goes 11 = .ok (.aload_n 0, 1) := by decide +kernel
theorem dX12_goes_12 : decode cX12_goes 12 = .ok (.getfield 71, 3) := by decide +kernel
theorem dX12_goes_15 : decode cX12_goes 15 = .ok (.iload_n 2, 1) := by decide +kernel
theorem dX12_goes_16 : decode cX12_goes 16 = .ok (.iconst 1, 1) := by decide +kernel
theorem dX12_goes_17 : decode cX12_goes 17 = .ok (.iadd, 1) := by decide +kernel
theorem dX12_goes_18 : decode cX12_goes 18 = .ok (.iaload, 1) := by decide +kernel
theorem dX12_goes_19 : decode cX12_goes 19 = .ok (.invokestatic 500, 3) := by decide +kernel
theorem dX12_goes_22 : decode cX12_goes 22 = .ok (.ifCond .ne 4, 3) := by decide +kernel
theorem dX12_goes_25 : decode cX12_goes 25 = .ok (.return_, 1) := by decide +kernel
theorem dX12_goes_26 : decode cX12_goes 26 = .ok (.aload_n 0, 1) := by decide +kernel
theorem dX12_goes_27 : decode cX12_goes 27 = .ok (.dup, 1) := by decide +kernel
theorem dX12_goes_28 : decode cX12_goes 28 = .ok (.getfield 488, 3) := by decide +kernel
theorem dX12_goes_31 : decode cX12_goes 31 = .ok (.iconst 2, 1) := by decide +kernel
theorem dX12_goes_32 : decode cX12_goes 32 = .ok (.isub, 1) := by decide +kernel
theorem dX12_goes_33 : decode cX12_goes 33 = .ok (.putfield 488, 3) := by decide +kernel
theorem dX12_goes_36 : decode cX12_goes 36 = .ok (.iload_n 2, 1) := by decide +kernel
theorem dX12_goes_37 : decode cX12_goes 37 = .ok (.istore 4, 2) := by decide +kernel
theorem dX12_goes_39 : decode cX12_goes 39 = .ok (.iload 4, 2) := by decide +kernel
theorem dX12_goes_41 : decode cX12_goes 41 = .ok (.aload_n 0, 1) := by decide +kernel
theorem dX12_goes_42 : decode cX12_goes 42 = .ok (.getfield 488, 3) := by decide +kernel
theorem dX12_goes_45 : decode cX12_goes 45 = .ok (.if_icmp .ge 25, 3) := by decide +kernel
theorem dX12_goes_48 : decode cX12_goes 48 = .ok (.aload_n 0, 1) := by decide +kernel
theorem dX12_goes_49 : decode cX12_goes 49 = .ok (.getfield 71, 3) := by decide +kernel
theorem dX12_goes_52 : decode cX12_goes 52 = .ok (.iload 4, 2) := by decide +kernel
theorem dX12_goes_54 : decode cX12_goes 54 = .ok (.aload_n 0, 1) := by decide +kernel
theorem dX12_goes_55 : decode cX12_goes 55 = .ok (.getfield 71, 3) := by decide +kernel
theorem dX12_goes_58 : decode cX12_goes 58 = .ok (.iload 4, 2) := by decide +kernel
theorem dX12_goes_60 : decode cX12_goes 60 = .ok (.iconst 2, 1) := by decide +kernel
theorem dX12_goes_61 : decode cX12_goes 61 = .ok (.iadd, 1) := by decide +kernel
theorem dX12_goes_62 : decode cX12_goes 62 = .ok (.iaload, 1) := by decide +kernel
theorem dX12_goes_63 : decode cX12_goes 63 = .ok (.iastore, 1) := by decide +kernel
theorem dX12_goes_64 : decode cX12_goes 64 = .ok (.iinc 4 1, 3) := by decide +kernel
theorem dX12_goes_67 : decode cX12_goes 67 = .ok (.goto (-28), 3) := by decide +kernel
theorem dX12_goes_70 : decode cX12_goes 70 = .ok (.aload_n 0, 1) := by decide +kernel
theorem dX12_goes_71 : decode cX12_goes 71 = .ok (.iload_n 3, 1) := by decide +kernel
theorem dX12_goes_72 : decode cX12_goes 72 = .ok (.invokevirtual 503, 3) := by decide +kernel
theorem dX12_goes_75 : decode cX12_goes 75 = .ok (.return_, 1) := by decide +kernel
theorem dX12_comes_0 : decode cX12_comes 0 = .ok (.aload_n 0, 1) := by decide +kernel
theorem dX12_comes_1 : decode cX12_comes 1 = .ok (.iload_n 1, 1) := by decide +kernel
theorem dX12_comes_2 : decode cX12_comes 2 = .ok (.invokevirtual 497, 3) := by decide +kernel
theorem dX12_comes_5 : decode cX12_comes 5 = .ok (.aload_n 0, 1) := by decide +kernel
theorem dX12_comes_6 : decode cX12_comes 6 = .ok (.getfield 488, 3) := by decide +kernel
theorem dX12_comes_9 : decode cX12_comes 9 = .ok (.iconst 1, 1) := by decide +kernel
theorem dX12_comes_10 : decode cX12_comes 10 = .ok (.isub, 1) := by decide +kernel
theorem dX12_comes_11 : decode cX12_comes 11 = .ok (.istore 6, 2) := by decide +kernel
theorem dX12_comes_13 : decode cX12_comes 13 = .ok (.iload 6, 2) := by decide +kernel
theorem dX12_comes_15 : decode cX12_comes 15 = .ok (.iload_n 2, 1) := by decide +kernel
theorem dX12_comes_16 : decode cX12_comes 16 = .ok (.if_icmp .lt 25, 3) := by decide +kernel
theorem dX12_comes_19 : decode cX12_comes 19 = .ok (.aload_n 0, 1) := by decide +kernel
theorem dX12_comes_20 : decode cX12_comes 20 = .ok (.getfield 71, 3) := by decide +kernel
theorem dX12_comes_23 : decode cX12_comes 23 = .ok (.iload 6, 2) := by decide +kernel
theorem dX12_comes_25 : decode cX12_comes 25 = .ok (.iconst 2, 1) := by decide +kernel
theorem dX12_comes_26 : decode cX12_comes 26 = .ok (.iadd, 1) := by decide +kernel
theorem dX12_comes_27 : decode cX12_comes 27 = .ok (.aload_n 0, 1) := by decide +kernel
theorem dX12_comes_28 : decode cX12_comes 28 = .ok (.getfield 71, 3) := by decide +kernel
theorem dX12_comes_31 : decode cX12_comes 31 = .ok (.iload 6, 2) := by decide +kernel
theorem dX12_comes_33 : decode cX12_comes 33 = .ok (.iaload, 1) := by decide +kernel
theorem dX12_comes_34 : decode cX12_comes 34 = .ok (.iastore, 1) := by decide +kernel
theorem dX12_comes_35 : decode cX12_comes 35 = .ok (.iinc 6 (-1), 3) := by decide +kernel
theorem dX12_comes_38 : decode cX12_comes 38 = .ok (.goto (-25), 3) := by decide +kernel
theorem dX12_comes_41 : decode cX12_comes 41 = .ok (.aload_n 0, 1) := by decide +kernel
theorem dX12_comes_42 : decode cX12_comes 42 = .ok (.getfield 71, 3) := by decide +kernel
theorem dX12_comes_45 : decode cX12_comes 45 = .ok (.iload_n 2, 1) := by decide +kernel
theorem dX12_comes_46 : decode cX12_comes 46 = .ok (.iload_n 3, 1) := by decide +kernel
theorem dX12_comes_47 : decode cX12_comes 47 = .ok (.iastore, 1) := by decide +kernel
theorem dX12_comes_48 : decode cX12_comes 48 = .ok (.aload_n 0, 1) := by decide +kernel
theorem dX12_comes_49 : decode cX12_comes 49 = .ok (.getfield 71, 3) := by decide +kernel
theorem dX12_comes_52 : decode cX12_comes 52 = .ok (.iload_n 2, 1) := by decide +kernel
theorem dX12_comes_53 : decode cX12_comes 53 = .ok (.iconst 1, 1) := by decide +kernel
theorem dX12_comes_54 : decode cX12_comes 54 = .ok (.iadd, 1) := by decide +kernel
theorem dX12_comes_55 : decode cX12_comes 55 = .ok (.iload 4, 2) := by decide +kernel
theorem dX12_comes_57 : decode cX12_comes 57 = .ok (.iastore, 1) := by decide +kernel
theorem dX12_comes_58 : decode cX12_comes 58 = .ok (.aload_n 0, 1) := by decide +kernel
theorem dX12_comes_59 : decode cX12_comes 59 = .ok (.dup, 1) := by decide +kernel
theorem dX12_comes_60 : decode cX12_comes 60 = .ok (.getfield 488, 3) := by decide +kernel
theorem dX12_comes_63 : decode cX12_comes 63 = .ok (.iconst 2, 1) := by decide +kernel
theorem dX12_comes_64 : decode cX12_comes 64 = .ok (.iadd, 1) := by decide +kernel
theorem dX12_comes_65 : decode cX12_comes 65 = .ok (.putfield 488, 3) := by decide +kernel
theorem dX12_comes_68 : decode cX12_comes 68 = .ok (.aload_n 0, 1) := by decide +kernel
theorem dX12_comes_69 : decode cX12_comes 69 = .ok (.iload 5, 2) := by decide +kernel
theorem dX12_comes_71 : decode cX12_comes 71 = .ok (.invokevirtual 503, 3) := by decide +kernel
theorem dX12_comes_74 : decode cX12_comes 74 = .ok (.return_, 1) := by decide +kernel
theorem dX12_changes_0 : decode cX12_changes 0 = .ok (.aload_n 0, 1) := by decide +kernel
theorem dX12_changes_1 : decode cX12_changes 1 = .ok (.iload_n 1, 1) := by decide +kernel
theorem dX12_changes_2 : decode cX12_changes 2 = .ok (.invokevirtual 497, 3) := by decide +kernel
theorem dX12_changes_5 : decode cX12_changes 5 = .ok (.aload_n 0, 1) := by decide +kernel
theorem dX12_changes_6 : decode cX12_changes 6 = .ok (.getfield 71, 3) := by decide +kernel
theorem dX12_changes_9 : decode cX12_changes 9 = .ok (.iload_n 2, 1) := by decide +kernel
theorem dX12_changes_10 : decode cX12_changes 10 = .ok (.iaload, 1) := by decide +kernel
theorem dX12_changes_11 : decode cX12_changes 11 = .ok (.iconst 2, 1) := by decide +kernel
theorem dX12_changes_12 : decode cX12_changes 12 = .ok (.if_icmp .eq 16, 3) := by decide +kernel
theorem dX12_changes_15 : decode cX12_changes 15 = .ok (.aload_n 0, 1) := by decide +kernel
theorem dX12_changes_16 : decode cX12_changes 16 = .ok (.getfield 71, 3) := by decide +kernel
theorem dX12_changes_19 : decode cX12_changes 19 = .ok (.iload_n 2, 1) := by decide +kernel
theorem dX12_changes_20 : decode cX12_changes 20 = .ok (.iconst 1, 1) := by decide +kernel
theorem dX12_changes_21 : decode cX12_changes 21 = .ok (.iadd, 1) := by decide +kernel
theorem dX12_changes_22 : decode cX12_changes 22 = .ok (.iaload, 1) := by decide +kernel
theorem dX12_changes_23 : decode cX12_changes 23 = .ok (.iconst 2, 1) := by decide +kernel
theorem dX12_changes_24 : decode cX12_changes 24 = .ok (.if_icmp .eq 4, 3) := by decide +kernel
theorem dX12_changes_27 : decode cX12_changes 27 = .ok (.return_, 1) := by decide +kernel
theorem dX12_changes_28 : decode cX12_changes 28 = .ok (.aload_n 0, 1) := by decide +kernel
theorem dX12_changes_29 : decode cX12_changes 29 = .ok (.getfield 71, 3) := by decide +kernel
theorem dX12_changes_32 : decode cX12_changes 32 = .ok (.iload_n 2, 1) := by decide +kernel
theorem dX12_changes_33 : decode cX12_changes 33 = .ok (.iaload, 1) := by decide +kernel
theorem dX12_changes_34 : decode cX12_changes 34 = .ok (.istore 4, 2) := by decide +kernel
theorem dX12_changes_36 : decode cX12_changes 36 = .ok (.aload_n 0, 1) := by decide +kernel
theorem dX12_changes_37 : decode cX12_changes 37 = .ok (.getfield 71, 3) := by decide +kernel
theorem dX12_changes_40 : decode cX12_changes 40 = .ok (.iload_n 2, 1) := by decide +kernel
theorem dX12_changes_41 : decode cX12_changes 41 = .ok (.aload_n 0, 1) := by decide +kernel
theorem dX12_changes_42 : decode cX12_changes 42 = .ok (.getfield 71, 3) := by decide +kernel
theorem dX12_changes_45 : decode cX12_changes 45 = .ok (.iload_n 2, 1) := by decide +kernel
theorem dX12_changes_46 : decode cX12_changes 46 = .ok (.iconst 1, 1) := by decide +kernel
theorem dX12_changes_47 : decode cX12_changes 47 = .ok (.iadd, 1) := by decide +kernel
theorem dX12_changes_48 : decode cX12_changes 48 = .ok (.iaload, 1) := by decide +kernel
theorem dX12_changes_49 : decode cX12_changes 49 = .ok (.iastore, 1) := by decide +kernel
theorem dX12_changes_50 : decode cX12_changes 50 = .ok (.aload_n 0, 1) := by decide +kernel
theorem dX12_changes_51 : decode cX12_changes 51 = .ok (.getfield 71, 3) := by decide +kernel
theorem dX12_changes_54 : decode cX12_changes 54 = .ok (.iload_n 2, 1) := by decide +kernel
theorem dX12_changes_55 : decode cX12_changes 55 = .ok (.iconst 1, 1) := by decide +kernel
theorem dX12_changes_56 : decode cX12_changes 56 = .ok (.iadd, 1) := by decide +kernel
theorem dX12_changes_57 : decode cX12_changes 57 = .ok (.iload 4, 2) := by decide +kernel
theorem dX12_changes_59 : decode cX12_changes 59 = .ok (.iastore, 1) := by decide +kernel
theorem dX12_changes_60 : decode cX12_changes 60 = .ok (.aload_n 0, 1) := by decide +kernel
theorem dX12_changes_61 : decode cX12_changes 61 = .ok (.iload_n 3, 1) := by decide +kernel
theorem dX12_changes_62 : decode cX12_changes 62 = .ok (.invokevirtual 503, 3) := by decide +kernel
theorem dX12_changes_65 : decode cX12_changes 65 = .ok (.return_, 1) := by decide +kernel
theorem dX12_movesOn_0 : decode cX12_movesOn 0 = .ok (.iload_n 1, 1) := by decide +kernel
theorem dX12_movesOn_1 : decode cX12_movesOn 1 = .ok (.sipush 2187, 3) := by decide +kernel
theorem dX12_movesOn_4 : decode cX12_movesOn 4 = .ok (.idiv, 1) := by decide +kernel
theorem dX12_movesOn_5 : decode cX12_movesOn 5 = .ok (.istore_n 3, 1) := by decide +kernel
theorem dX12_movesOn_6 : decode cX12_movesOn 6 = .ok (.iconst 0, 1) := by decide +kernel
theorem dX12_movesOn_7 : decode cX12_movesOn 7 = .ok (.istore 4, 2) := by decide +kernel
theorem dX12_movesOn_9 : decode cX12_movesOn 9 = .ok (.iload 4, 2) := by decide +kernel
theorem dX12_movesOn_11 : decode cX12_movesOn 11 = .ok (.iconst 1, 1) := by decide +kernel
theorem dX12_movesOn_12 : decode cX12_movesOn 12 = .ok (.iadd, 1) := by decide +kernel
theorem dX12_movesOn_13 : decode cX12_movesOn 13 = .ok (.iload_n 3, 1) := by decide +kernel
theorem dX12_movesOn_14 : decode cX12_movesOn 14 = .ok (.if_icmp .ge 25, 3) := by decide +kernel
theorem dX12_movesOn_17 : decode cX12_movesOn 17 = .ok (.aload_n 0, 1) := by decide +kernel
theorem dX12_movesOn_18 : decode cX12_movesOn 18 = .ok (.iload_n 1, 1) := by decide +kernel
theorem dX12_movesOn_19 : decode cX12_movesOn 19 = .ok (.iload 4, 2) := by decide +kernel
theorem dX12_movesOn_21 : decode cX12_movesOn 21 = .ok (.iload_n 2, 1) := by decide +kernel
theorem dX12_movesOn_22 : decode cX12_movesOn 22 = .ok (.invokevirtual 506, 3) := by decide +kernel
theorem dX12_movesOn_25 : decode cX12_movesOn 25 = .ok (.aload_n 0, 1) := by decide +kernel
theorem dX12_movesOn_26 : decode cX12_movesOn 26 = .ok (.iload_n 1, 1) := by decide +kernel
theorem dX12_movesOn_27 : decode cX12_movesOn 27 = .ok (.iload 4, 2) := by decide +kernel
theorem dX12_movesOn_29 : decode cX12_movesOn 29 = .ok (.iload_n 2, 1) := by decide +kernel
theorem dX12_movesOn_30 : decode cX12_movesOn 30 = .ok (.invokevirtual 509, 3) := by decide +kernel
theorem dX12_movesOn_33 : decode cX12_movesOn 33 = .ok (.iinc 4 1, 3) := by decide +kernel
theorem dX12_movesOn_36 : decode cX12_movesOn 36 = .ok (.goto (-27), 3) := by decide +kernel
theorem dX12_movesOn_39 : decode cX12_movesOn 39 = .ok (.iconst 0, 1) := by decide +kernel
theorem dX12_movesOn_40 : decode cX12_movesOn 40 = .ok (.istore 4, 2) := by decide +kernel
theorem dX12_movesOn_42 : decode cX12_movesOn 42 = .ok (.iload 4, 2) := by decide +kernel
theorem dX12_movesOn_44 : decode cX12_movesOn 44 = .ok (.iload_n 3, 1) := by decide +kernel
theorem dX12_movesOn_45 : decode cX12_movesOn 45 = .ok (.if_icmp .gt 47, 3) := by decide +kernel
theorem dX12_movesOn_48 : decode cX12_movesOn 48 = .ok (.iload_n 3, 1) := by decide +kernel
theorem dX12_movesOn_49 : decode cX12_movesOn 49 = .ok (.iconst 2, 1) := by decide +kernel
theorem dX12_movesOn_50 : decode cX12_movesOn 50 = .ok (.iadd, 1) := by decide +kernel
theorem dX12_movesOn_51 : decode cX12_movesOn 51 = .ok (.bipush 7, 2) := by decide +kernel
theorem dX12_movesOn_53 : decode cX12_movesOn 53 = .ok (.if_icmp .gt 39, 3) := by decide +kernel
theorem dX12_movesOn_56 : decode cX12_movesOn 56 = .ok (.aload_n 0, 1) := by decide +kernel
theorem dX12_movesOn_57 : decode cX12_movesOn 57 = .ok (.iload_n 1, 1) := by decide +kernel
theorem dX12_movesOn_58 : decode cX12_movesOn 58 = .ok (.iload 4, 2) := by decide +kernel
theorem dX12_movesOn_60 : decode cX12_movesOn 60 = .ok (.iconst 0, 1) := by decide +kernel
theorem dX12_movesOn_61 : decode cX12_movesOn 61 = .ok (.iconst 1, 1) := by decide +kernel
theorem dX12_movesOn_62 : decode cX12_movesOn 62 = .ok (.iload_n 2, 1) := by decide +kernel
theorem dX12_movesOn_63 : decode cX12_movesOn 63 = .ok (.invokevirtual 512, 3) := by decide +kernel
theorem dX12_movesOn_66 : decode cX12_movesOn 66 = .ok (.aload_n 0, 1) := by decide +kernel
theorem dX12_movesOn_67 : decode cX12_movesOn 67 = .ok (.iload_n 1, 1) := by decide +kernel
theorem dX12_movesOn_68 : decode cX12_movesOn 68 = .ok (.iload 4, 2) := by decide +kernel
theorem dX12_movesOn_70 : decode cX12_movesOn 70 = .ok (.iconst 1, 1) := by decide +kernel
theorem dX12_movesOn_71 : decode cX12_movesOn 71 = .ok (.iconst 0, 1) := by decide +kernel
theorem dX12_movesOn_72 : decode cX12_movesOn 72 = .ok (.iload_n 2, 1) := by decide +kernel
theorem dX12_movesOn_73 : decode cX12_movesOn 73 = .ok (.invokevirtual 512, 3) := by decide +kernel
theorem dX12_movesOn_76 : decode cX12_movesOn 76 = .ok (.aload_n 0, 1) := by decide +kernel
theorem dX12_movesOn_77 : decode cX12_movesOn 77 = .ok (.iload_n 1, 1) := by decide +kernel
theorem dX12_movesOn_78 : decode cX12_movesOn 78 = .ok (.iload 4, 2) := by decide +kernel
theorem dX12_movesOn_80 : decode cX12_movesOn 80 = .ok (.iconst 2, 1) := by decide +kernel
theorem dX12_movesOn_81 : decode cX12_movesOn 81 = .ok (.iconst 2, 1) := by decide +kernel
theorem dX12_movesOn_82 : decode cX12_movesOn 82 = .ok (.iload_n 2, 1) := by decide +kernel
theorem dX12_movesOn_83 : decode cX12_movesOn 83 = .ok (.invokevirtual 512, 3) := by decide +kernel
theorem dX12_movesOn_86 : decode cX12_movesOn 86 = .ok (.iinc 4 1, 3) := by decide +kernel
theorem dX12_movesOn_89 : decode cX12_movesOn 89 = .ok (.goto (-47), 3) := by decide +kernel
theorem dX12_movesOn_92 : decode cX12_movesOn 92 = .ok (.return_, 1) := by decide +kernel
theorem dX12_isShape_0 : decode cX12_isShape 0 = .ok (.iload_n 0, 1) := by decide +kernel
theorem dX12_isShape_1 : decode cX12_isShape 1 = .ok (.iconst 0, 1) := by decide +kernel
theorem dX12_isShape_2 : decode cX12_isShape 2 = .ok (.iconst 3, 1) := by decide +kernel
theorem dX12_isShape_3 : decode cX12_isShape 3 = .ok (.invokestatic 74, 3) := by decide +kernel
theorem dX12_isShape_6 : decode cX12_isShape 6 = .ok (.ireturn, 1) := by decide +kernel
theorem dX12_shapeCode_0 : decode cX12_shapeCode 0 = .ok (.aload_n 0, 1) := by decide +kernel
theorem dX12_shapeCode_1 : decode cX12_shapeCode 1 = .ok (.aload_n 0, 1) := by decide +kernel
theorem dX12_shapeCode_2 : decode cX12_shapeCode 2 = .ok (.getfield 7, 3) := by decide +kernel
theorem dX12_shapeCode_5 : decode cX12_shapeCode 5 = .ok (.sipush 2601, 3) := by decide +kernel
theorem dX12_shapeCode_8 : decode cX12_shapeCode 8 = .ok (.iload_n 1, 1) := by decide +kernel
theorem dX12_shapeCode_9 : decode cX12_shapeCode 9 = .ok (.iadd, 1) := by decide +kernel
theorem dX12_shapeCode_10 : decode cX12_shapeCode 10 = .ok (.iaload, 1) := by decide +kernel
theorem dX12_shapeCode_11 : decode cX12_shapeCode 11 = .ok (.putfield 488, 3) := by decide +kernel
theorem dX12_shapeCode_14 : decode cX12_shapeCode 14 = .ok (.iconst 0, 1) := by decide +kernel
theorem dX12_shapeCode_15 : decode cX12_shapeCode 15 = .ok (.istore_n 2, 1) := by decide +kernel
theorem dX12_shapeCode_16 : decode cX12_shapeCode 16 = .ok (.iload_n 2, 1) := by decide +kernel
theorem dX12_shapeCode_17 : decode cX12_shapeCode 17 = .ok (.aload_n 0, 1) := by decide +kernel
theorem dX12_shapeCode_18 : decode cX12_shapeCode 18 = .ok (.getfield 488, 3) := by decide +kernel
theorem dX12_shapeCode_21 : decode cX12_shapeCode 21 = .ok (.if_icmp .ge 30, 3) := by decide +kernel
theorem dX12_shapeCode_24 : decode cX12_shapeCode 24 = .ok (.aload_n 0, 1) := by decide +kernel
theorem dX12_shapeCode_25 : decode cX12_shapeCode 25 = .ok (.getfield 71, 3) := by decide +kernel
theorem dX12_shapeCode_28 : decode cX12_shapeCode 28 = .ok (.iload_n 2, 1) := by decide +kernel
theorem dX12_shapeCode_29 : decode cX12_shapeCode 29 = .ok (.aload_n 0, 1) := by decide +kernel
theorem dX12_shapeCode_30 : decode cX12_shapeCode 30 = .ok (.getfield 7, 3) := by decide +kernel
theorem dX12_shapeCode_33 : decode cX12_shapeCode 33 = .ok (.sipush 2606, 3) := by decide +kernel
theorem dX12_shapeCode_36 : decode cX12_shapeCode 36 = .ok (.bipush 7, 2) := by decide +kernel
theorem dX12_shapeCode_38 : decode cX12_shapeCode 38 = .ok (.iload_n 1, 1) := by decide +kernel
theorem dX12_shapeCode_39 : decode cX12_shapeCode 39 = .ok (.imul, 1) := by decide +kernel
theorem dX12_shapeCode_40 : decode cX12_shapeCode 40 = .ok (.iadd, 1) := by decide +kernel
theorem dX12_shapeCode_41 : decode cX12_shapeCode 41 = .ok (.iload_n 2, 1) := by decide +kernel
theorem dX12_shapeCode_42 : decode cX12_shapeCode 42 = .ok (.iadd, 1) := by decide +kernel
theorem dX12_shapeCode_43 : decode cX12_shapeCode 43 = .ok (.iaload, 1) := by decide +kernel
theorem dX12_shapeCode_44 : decode cX12_shapeCode 44 = .ok (.iastore, 1) := by decide +kernel
theorem dX12_shapeCode_45 : decode cX12_shapeCode 45 = .ok (.iinc 2 1, 3) := by decide +kernel
theorem dX12_shapeCode_48 : decode cX12_shapeCode 48 = .ok (.goto (-32), 3) := by decide +kernel
theorem dX12_shapeCode_51 : decode cX12_shapeCode 51 = .ok (.aload_n 0, 1) := by decide +kernel
theorem dX12_shapeCode_52 : decode cX12_shapeCode 52 = .ok (.invokevirtual 491, 3) := by decide +kernel
theorem dX12_shapeCode_55 : decode cX12_shapeCode 55 = .ok (.ireturn, 1) := by decide +kernel
theorem dX12_moves_0 : decode cX12_moves 0 = .ok (.iload_n 1, 1) := by decide +kernel
theorem dX12_moves_1 : decode cX12_moves 1 = .ok (.invokestatic 515, 3) := by decide +kernel
theorem dX12_moves_4 : decode cX12_moves 4 = .ok (.ifCond .eq 10, 3) := by decide +kernel
theorem dX12_moves_7 : decode cX12_moves 7 = .ok (.iload_n 2, 1) := by decide +kernel
theorem dX12_moves_8 : decode cX12_moves 8 = .ok (.invokestatic 515, 3) := by decide +kernel
theorem dX12_moves_11 : decode cX12_moves 11 = .ok (.ifCond .ne 5, 3) := by decide +kernel
theorem dX12_moves_14 : decode cX12_moves 14 = .ok (.iconst (-1), 1) := by decide +kernel
theorem dX12_moves_15 : decode cX12_moves 15 = .ok (.ireturn, 1) := by decide +kernel
theorem dX12_moves_16 : decode cX12_moves 16 = .ok (.iconst 0, 1) := by decide +kernel
theorem dX12_moves_17 : decode cX12_moves 17 = .ok (.istore_n 3, 1) := by decide +kernel
theorem dX12_moves_18 : decode cX12_moves 18 = .ok (.iload_n 3, 1) := by decide +kernel
theorem dX12_moves_19 : decode cX12_moves 19 = .ok (.sipush 17496, 3) := by decide +kernel
theorem dX12_moves_22 : decode cX12_moves 22 = .ok (.if_icmp .ge 16, 3) := by decide +kernel
theorem dX12_moves_25 : decode cX12_moves 25 = .ok (.aload_n 0, 1) := by decide +kernel
theorem dX12_moves_26 : decode cX12_moves 26 = .ok (.getfield 65, 3) := by decide +kernel
theorem dX12_moves_29 : decode cX12_moves 29 = .ok (.iload_n 3, 1) := by decide +kernel
theorem dX12_moves_30 : decode cX12_moves 30 = .ok (.iconst (-1), 1) := by decide +kernel
theorem dX12_moves_31 : decode cX12_moves 31 = .ok (.iastore, 1) := by decide +kernel
theorem dX12_moves_32 : decode cX12_moves 32 = .ok (.iinc 3 1, 3) := by decide +kernel
theorem dX12_moves_35 : decode cX12_moves 35 = .ok (.goto (-17), 3) := by decide +kernel
theorem dX12_moves_38 : decode cX12_moves 38 = .ok (.aload_n 0, 1) := by decide +kernel
theorem dX12_moves_39 : decode cX12_moves 39 = .ok (.iload_n 2, 1) := by decide +kernel
theorem dX12_moves_40 : decode cX12_moves 40 = .ok (.invokevirtual 518, 3) := by decide +kernel
theorem dX12_moves_43 : decode cX12_moves 43 = .ok (.istore_n 3, 1) := by decide +kernel
theorem dX12_moves_44 : decode cX12_moves 44 = .ok (.aload_n 0, 1) := by decide +kernel
theorem dX12_moves_45 : decode cX12_moves 45 = .ok (.iload_n 1, 1) := by decide +kernel
theorem dX12_moves_46 : decode cX12_moves 46 = .ok (.invokevirtual 518, 3) := by decide +kernel
theorem dX12_moves_49 : decode cX12_moves 49 = .ok (.pop, 1) := by decide +kernel
theorem dX12_moves_50 : decode cX12_moves 50 = .ok (.aload_n 0, 1) := by decide +kernel
theorem dX12_moves_51 : decode cX12_moves 51 = .ok (.iconst 0, 1) := by decide +kernel
theorem dX12_moves_52 : decode cX12_moves 52 = .ok (.putfield 494, 3) := by decide +kernel
theorem dX12_moves_55 : decode cX12_moves 55 = .ok (.aload_n 0, 1) := by decide +kernel
theorem dX12_moves_56 : decode cX12_moves 56 = .ok (.iconst 0, 1) := by decide +kernel
theorem dX12_moves_57 : decode cX12_moves 57 = .ok (.invokevirtual 503, 3) := by decide +kernel
theorem dX12_moves_60 : decode cX12_moves 60 = .ok (.iconst 0, 1) := by decide +kernel
theorem dX12_moves_61 : decode cX12_moves 61 = .ok (.istore 4, 2) := by decide +kernel
theorem dX12_moves_63 : decode cX12_moves 63 = .ok (.iload 4, 2) := by decide +kernel
theorem dX12_moves_65 : decode cX12_moves 65 = .ok (.aload_n 0, 1) := by decide +kernel
theorem dX12_moves_66 : decode cX12_moves 66 = .ok (.getfield 494, 3) := by decide +kernel
theorem dX12_moves_69 : decode cX12_moves 69 = .ok (.if_icmp .ge 61, 3) := by decide +kernel
theorem dX12_moves_72 : decode cX12_moves 72 = .ok (.aload_n 0, 1) := by decide +kernel
theorem dX12_moves_73 : decode cX12_moves 73 = .ok (.getfield 65, 3) := by decide +kernel
theorem dX12_moves_76 : decode cX12_moves 76 = .ok (.iload_n 3, 1) := by decide +kernel
theorem dX12_moves_77 : decode cX12_moves 77 = .ok (.iaload, 1) := by decide +kernel
theorem dX12_moves_78 : decode cX12_moves 78 = .ok (.iconst (-1), 1) := by decide +kernel
theorem dX12_moves_79 : decode cX12_moves 79 = .ok (.if_icmp .ne 51, 3) := by decide +kernel
theorem dX12_moves_82 : decode cX12_moves 82 = .ok (.aload_n 0, 1) := by decide +kernel
theorem dX12_moves_83 : decode cX12_moves 83 = .ok (.getfield 65, 3) := by decide +kernel
theorem dX12_moves_86 : decode cX12_moves 86 = .ok (.aload_n 0, 1) := by decide +kernel
theorem dX12_moves_87 : decode cX12_moves 87 = .ok (.getfield 68, 3) := by decide +kernel
theorem dX12_moves_90 : decode cX12_moves 90 = .ok (.iload 4, 2) := by decide +kernel
theorem dX12_moves_92 : decode cX12_moves 92 = .ok (.iaload, 1) := by decide +kernel
theorem dX12_moves_93 : decode cX12_moves 93 = .ok (.iaload, 1) := by decide +kernel
theorem dX12_moves_94 : decode cX12_moves 94 = .ok (.bipush 12, 2) := by decide +kernel
theorem dX12_moves_96 : decode cX12_moves 96 = .ok (.if_icmp .ge 34, 3) := by decide +kernel
theorem dX12_moves_99 : decode cX12_moves 99 = .ok (.aload_n 0, 1) := by decide +kernel
theorem dX12_moves_100 : decode cX12_moves 100 = .ok (.aload_n 0, 1) := by decide +kernel
theorem dX12_moves_101 : decode cX12_moves 101 = .ok (.getfield 68, 3) := by decide +kernel
theorem dX12_moves_104 : decode cX12_moves 104 = .ok (.iload 4, 2) := by decide +kernel
theorem dX12_moves_106 : decode cX12_moves 106 = .ok (.iaload, 1) := by decide +kernel
theorem dX12_moves_107 : decode cX12_moves 107 = .ok (.aload_n 0, 1) := by decide +kernel
theorem dX12_moves_108 : decode cX12_moves 108 = .ok (.getfield 65, 3) := by decide +kernel
theorem dX12_moves_111 : decode cX12_moves 111 = .ok (.aload_n 0, 1) := by decide +kernel
theorem dX12_moves_112 : decode cX12_moves 112 = .ok (.getfield 68, 3) := by decide +kernel
theorem dX12_moves_115 : decode cX12_moves 115 = .ok (.iload 4, 2) := by decide +kernel
theorem dX12_moves_117 : decode cX12_moves 117 = .ok (.iaload, 1) := by decide +kernel
theorem dX12_moves_118 : decode cX12_moves 118 = .ok (.iaload, 1) := by decide +kernel
theorem dX12_moves_119 : decode cX12_moves 119 = .ok (.iconst 1, 1) := by decide +kernel
theorem dX12_moves_120 : decode cX12_moves 120 = .ok (.iadd, 1) := by decide +kernel
theorem dX12_moves_121 : decode cX12_moves 121 = .ok (.invokevirtual 521, 3) := by decide +kernel
theorem dX12_moves_124 : decode cX12_moves 124 = .ok (.iinc 4 1, 3) := by decide +kernel
theorem dX12_moves_127 : decode cX12_moves 127 = .ok (.goto (-64), 3) := by decide +kernel
theorem dX12_moves_130 : decode cX12_moves 130 = .ok (.aload_n 0, 1) := by decide +kernel
theorem dX12_moves_131 : decode cX12_moves 131 = .ok (.getfield 65, 3) := by decide +kernel
theorem dX12_moves_134 : decode cX12_moves 134 = .ok (.iload_n 3, 1) := by decide +kernel
theorem dX12_moves_135 : decode cX12_moves 135 = .ok (.iaload, 1) := by decide +kernel
theorem dX12_moves_136 : decode cX12_moves 136 = .ok (.ireturn, 1) := by decide +kernel
theorem dX12_markOf_0 : decode cX12_markOf 0 = .ok (.iconst 0, 1) := by decide +kernel
theorem dX12_markOf_1 : decode cX12_markOf 1 = .ok (.istore_n 3, 1) := by decide +kernel
theorem dX12_markOf_2 : decode cX12_markOf 2 = .ok (.iconst 0, 1) := by decide +kernel
theorem dX12_markOf_3 : decode cX12_markOf 3 = .ok (.istore 4, 2) := by decide +kernel
theorem dX12_markOf_5 : decode cX12_markOf 5 = .ok (.iload 4, 2) := by decide +kernel
theorem dX12_markOf_7 : decode cX12_markOf 7 = .ok (.aload_n 0, 1) := by decide +kernel
theorem dX12_markOf_8 : decode cX12_markOf 8 = .ok (.getfield 7, 3) := by decide +kernel
theorem dX12_markOf_11 : decode cX12_markOf 11 = .ok (.sipush 2601, 3) := by decide +kernel
theorem dX12_markOf_14 : decode cX12_markOf 14 = .ok (.iload_n 1, 1) := by decide +kernel
theorem dX12_markOf_15 : decode cX12_markOf 15 = .ok (.iadd, 1) := by decide +kernel
theorem dX12_markOf_16 : decode cX12_markOf 16 = .ok (.iaload, 1) := by decide +kernel
theorem dX12_markOf_17 : decode cX12_markOf 17 = .ok (.if_icmp .ge 65, 3) := by decide +kernel
theorem dX12_markOf_20 : decode cX12_markOf 20 = .ok (.aload_n 0, 1) := by decide +kernel
theorem dX12_markOf_21 : decode cX12_markOf 21 = .ok (.getfield 7, 3) := by decide +kernel
theorem dX12_markOf_24 : decode cX12_markOf 24 = .ok (.sipush 2606, 3) := by decide +kernel
theorem dX12_markOf_27 : decode cX12_markOf 27 = .ok (.bipush 7, 2) := by decide +kernel
theorem dX12_markOf_29 : decode cX12_markOf 29 = .ok (.iload_n 1, 1) := by decide +kernel
theorem dX12_markOf_30 : decode cX12_markOf 30 = .ok (.imul, 1) := by decide +kernel
theorem dX12_markOf_31 : decode cX12_markOf 31 = .ok (.iadd, 1) := by decide +kernel
theorem dX12_markOf_32 : decode cX12_markOf 32 = .ok (.iload 4, 2) := by decide +kernel
theorem dX12_markOf_34 : decode cX12_markOf 34 = .ok (.iadd, 1) := by decide +kernel
theorem dX12_markOf_35 : decode cX12_markOf 35 = .ok (.iaload, 1) := by decide +kernel
theorem dX12_markOf_36 : decode cX12_markOf 36 = .ok (.istore 5, 2) := by decide +kernel
theorem dX12_markOf_38 : decode cX12_markOf 38 = .ok (.iload_n 2, 1) := by decide +kernel
theorem dX12_markOf_39 : decode cX12_markOf 39 = .ok (.iconst 2, 1) := by decide +kernel
theorem dX12_markOf_40 : decode cX12_markOf 40 = .ok (.if_icmp .ne 13, 3) := by decide +kernel
theorem dX12_markOf_43 : decode cX12_markOf 43 = .ok (.iload_n 3, 1) := by decide +kernel
theorem dX12_markOf_44 : decode cX12_markOf 44 = .ok (.iload 5, 2) := by decide +kernel
theorem dX12_markOf_46 : decode cX12_markOf 46 = .ok (.iconst 2, 1) := by decide +kernel
theorem dX12_markOf_47 : decode cX12_markOf 47 = .ok (.idiv, 1) := by decide +kernel
theorem dX12_markOf_48 : decode cX12_markOf 48 = .ok (.ixor, 1) := by decide +kernel
theorem dX12_markOf_49 : decode cX12_markOf 49 = .ok (.istore_n 3, 1) := by decide +kernel
theorem dX12_markOf_50 : decode cX12_markOf 50 = .ok (.goto 26, 3) := by decide +kernel
theorem dX12_markOf_53 : decode cX12_markOf 53 = .ok (.iload_n 3, 1) := by decide +kernel
theorem dX12_markOf_54 : decode cX12_markOf 54 = .ok (.iload 5, 2) := by decide +kernel
theorem dX12_markOf_56 : decode cX12_markOf 56 = .ok (.ifCond .ne 7, 3) := by decide +kernel
theorem dX12_markOf_59 : decode cX12_markOf 59 = .ok (.iconst 1, 1) := by decide +kernel
theorem dX12_markOf_60 : decode cX12_markOf 60 = .ok (.goto 14, 3) := by decide +kernel
theorem dX12_markOf_63 : decode cX12_markOf 63 = .ok (.iload 5, 2) := by decide +kernel
theorem dX12_markOf_65 : decode cX12_markOf 65 = .ok (.iconst 1, 1) := by decide +kernel
theorem dX12_markOf_66 : decode cX12_markOf 66 = .ok (.if_icmp .ne 7, 3) := by decide +kernel
theorem dX12_markOf_69 : decode cX12_markOf 69 = .ok (.iconst (-1), 1) := by decide +kernel
theorem dX12_markOf_70 : decode cX12_markOf 70 = .ok (.goto 4, 3) := by decide +kernel
theorem dX12_markOf_73 : decode cX12_markOf 73 = .ok (.iconst 0, 1) := by decide +kernel
theorem dX12_markOf_74 : decode cX12_markOf 74 = .ok (.iadd, 1) := by decide +kernel
theorem dX12_markOf_75 : decode cX12_markOf 75 = .ok (.istore_n 3, 1) := by decide +kernel
theorem dX12_markOf_76 : decode cX12_markOf 76 = .ok (.iinc 4 1, 3) := by decide +kernel
theorem dX12_markOf_79 : decode cX12_markOf 79 = .ok (.goto (-74), 3) := by decide +kernel
theorem dX12_markOf_82 : decode cX12_markOf 82 = .ok (.iload_n 3, 1) := by decide +kernel
theorem dX12_markOf_83 : decode cX12_markOf 83 = .ok (.ireturn, 1) := by decide +kernel
theorem dX12_shape_0 : decode cX12_shape 0 = .ok (.iload_n 1, 1) := by decide +kernel
theorem dX12_shape_1 : decode cX12_shape 1 = .ok (.invokestatic 515, 3) := by decide +kernel
theorem dX12_shape_4 : decode cX12_shape 4 = .ok (.ifCond .ne 6, 3) := by decide +kernel
theorem dX12_shape_7 : decode cX12_shape 7 = .ok (.bipush (-100), 2) := by decide +kernel
theorem dX12_shape_9 : decode cX12_shape 9 = .ok (.ireturn, 1) := by decide +kernel
theorem dX12_shape_10 : decode cX12_shape 10 = .ok (.iload_n 2, 1) := by decide +kernel
theorem dX12_shape_11 : decode cX12_shape 11 = .ok (.ifCond .ne 14, 3) := by decide +kernel
theorem dX12_shape_14 : decode cX12_shape 14 = .ok (.aload_n 0, 1) := by decide +kernel
theorem dX12_shape_15 : decode cX12_shape 15 = .ok (.getfield 7, 3) := by decide +kernel
theorem dX12_shape_18 : decode cX12_shape 18 = .ok (.sipush 2601, 3) := by decide +kernel
theorem dX12_shape_21 : decode cX12_shape 21 = .ok (.iload_n 1, 1) := by decide +kernel
theorem dX12_shape_22 : decode cX12_shape 22 = .ok (.iadd, 1) := by decide +kernel
theorem dX12_shape_23 : decode cX12_shape 23 = .ok (.iaload, 1) := by decide +kernel
theorem dX12_shape_24 : decode cX12_shape 24 = .ok (.ireturn, 1) := by decide +kernel
theorem dX12_shape_25 : decode cX12_shape 25 = .ok (.iload_n 2, 1) := by decide +kernel
theorem dX12_shape_26 : decode cX12_shape 26 = .ok (.iconst 1, 1) := by decide +kernel
theorem dX12_shape_27 : decode cX12_shape 27 = .ok (.iconst 2, 1) := by decide +kernel
theorem dX12_shape_28 : decode cX12_shape 28 = .ok (.invokestatic 74, 3) := by decide +kernel
theorem dX12_shape_31 : decode cX12_shape 31 = .ok (.ifCond .eq 10, 3) := by decide +kernel
theorem dX12_shape_34 : decode cX12_shape 34 = .ok (.aload_n 0, 1) := by decide +kernel
theorem dX12_shape_35 : decode cX12_shape 35 = .ok (.iload_n 1, 1) := by decide +kernel
theorem dX12_shape_36 : decode cX12_shape 36 = .ok (.iload_n 2, 1) := by decide +kernel
theorem dX12_shape_37 : decode cX12_shape 37 = .ok (.invokevirtual 524, 3) := by decide +kernel
theorem dX12_shape_40 : decode cX12_shape 40 = .ok (.ireturn, 1) := by decide +kernel
theorem dX12_shape_41 : decode cX12_shape 41 = .ok (.iload_n 2, 1) := by decide +kernel
theorem dX12_shape_42 : decode cX12_shape 42 = .ok (.bipush 10, 2) := by decide +kernel
theorem dX12_shape_44 : decode cX12_shape 44 = .ok (.bipush 9, 2) := by decide +kernel
theorem dX12_shape_46 : decode cX12_shape 46 = .ok (.aload_n 0, 1) := by decide +kernel
theorem dX12_shape_47 : decode cX12_shape 47 = .ok (.getfield 7, 3) := by decide +kernel
theorem dX12_shape_50 : decode cX12_shape 50 = .ok (.sipush 2601, 3) := by decide +kernel
theorem dX12_shape_53 : decode cX12_shape 53 = .ok (.iload_n 1, 1) := by decide +kernel
theorem dX12_shape_54 : decode cX12_shape 54 = .ok (.iadd, 1) := by decide +kernel
theorem dX12_shape_55 : decode cX12_shape 55 = .ok (.iaload, 1) := by decide +kernel
theorem dX12_shape_56 : decode cX12_shape 56 = .ok (.iadd, 1) := by decide +kernel
theorem dX12_shape_57 : decode cX12_shape 57 = .ok (.invokestatic 74, 3) := by decide +kernel
theorem dX12_shape_60 : decode cX12_shape 60 = .ok (.ifCond .eq 24, 3) := by decide +kernel
theorem dX12_shape_63 : decode cX12_shape 63 = .ok (.aload_n 0, 1) := by decide +kernel
theorem dX12_shape_64 : decode cX12_shape 64 = .ok (.getfield 7, 3) := by decide +kernel
theorem dX12_shape_67 : decode cX12_shape 67 = .ok (.sipush 2606, 3) := by decide +kernel
theorem dX12_shape_70 : decode cX12_shape 70 = .ok (.bipush 7, 2) := by decide +kernel
theorem dX12_shape_72 : decode cX12_shape 72 = .ok (.iload_n 1, 1) := by decide +kernel
theorem dX12_shape_73 : decode cX12_shape 73 = .ok (.imul, 1) := by decide +kernel
theorem dX12_shape_74 : decode cX12_shape 74 = .ok (.iadd, 1) := by decide +kernel
theorem dX12_shape_75 : decode cX12_shape 75 = .ok (.iload_n 2, 1) := by decide +kernel
theorem dX12_shape_76 : decode cX12_shape 76 = .ok (.iadd, 1) := by decide +kernel
theorem dX12_shape_77 : decode cX12_shape 77 = .ok (.bipush 10, 2) := by decide +kernel
theorem dX12_shape_79 : decode cX12_shape 79 = .ok (.isub, 1) := by decide +kernel
theorem dX12_shape_80 : decode cX12_shape 80 = .ok (.iaload, 1) := by decide +kernel
theorem dX12_shape_81 : decode cX12_shape 81 = .ok (.goto 5, 3) := by decide +kernel
theorem dX12_shape_84 : decode cX12_shape 84 = .ok (.bipush (-100), 2) := by decide +kernel
theorem dX12_shape_86 : decode cX12_shape 86 = .ok (.ireturn, 1) := by decide +kernel
theorem dX12_unlike_0 : decode cX12_unlike 0 = .ok (.iload_n 1, 1) := by decide +kernel
theorem dX12_unlike_1 : decode cX12_unlike 1 = .ok (.invokestatic 515, 3) := by decide +kernel
theorem dX12_unlike_4 : decode cX12_unlike 4 = .ok (.ifCond .eq 10, 3) := by decide +kernel
theorem dX12_unlike_7 : decode cX12_unlike 7 = .ok (.iload_n 2, 1) := by decide +kernel
theorem dX12_unlike_8 : decode cX12_unlike 8 = .ok (.invokestatic 515, 3) := by decide +kernel
theorem dX12_unlike_11 : decode cX12_unlike 11 = .ok (.ifCond .ne 5, 3) := by decide +kernel
theorem dX12_unlike_14 : decode cX12_unlike 14 = .ok (.iconst (-1), 1) := by decide +kernel
theorem dX12_unlike_15 : decode cX12_unlike 15 = .ok (.ireturn, 1) := by decide +kernel
theorem dX12_unlike_16 : decode cX12_unlike 16 = .ok (.aload_n 0, 1) := by decide +kernel
theorem dX12_unlike_17 : decode cX12_unlike 17 = .ok (.iload_n 1, 1) := by decide +kernel
theorem dX12_unlike_18 : decode cX12_unlike 18 = .ok (.iconst 1, 1) := by decide +kernel
theorem dX12_unlike_19 : decode cX12_unlike 19 = .ok (.invokevirtual 524, 3) := by decide +kernel
theorem dX12_unlike_22 : decode cX12_unlike 22 = .ok (.aload_n 0, 1) := by decide +kernel
theorem dX12_unlike_23 : decode cX12_unlike 23 = .ok (.iload_n 2, 1) := by decide +kernel
theorem dX12_unlike_24 : decode cX12_unlike 24 = .ok (.iconst 1, 1) := by decide +kernel
theorem dX12_unlike_25 : decode cX12_unlike 25 = .ok (.invokevirtual 524, 3) := by decide +kernel
theorem dX12_unlike_28 : decode cX12_unlike 28 = .ok (.if_icmp .ne 18, 3) := by decide +kernel
theorem dX12_unlike_31 : decode cX12_unlike 31 = .ok (.aload_n 0, 1) := by decide +kernel
theorem dX12_unlike_32 : decode cX12_unlike 32 = .ok (.iload_n 1, 1) := by decide +kernel
theorem dX12_unlike_33 : decode cX12_unlike 33 = .ok (.iconst 2, 1) := by decide +kernel
theorem dX12_unlike_34 : decode cX12_unlike 34 = .ok (.invokevirtual 524, 3) := by decide +kernel
theorem dX12_unlike_37 : decode cX12_unlike 37 = .ok (.aload_n 0, 1) := by decide +kernel
theorem dX12_unlike_38 : decode cX12_unlike 38 = .ok (.iload_n 2, 1) := by decide +kernel
theorem dX12_unlike_39 : decode cX12_unlike 39 = .ok (.iconst 2, 1) := by decide +kernel
theorem dX12_unlike_40 : decode cX12_unlike 40 = .ok (.invokevirtual 524, 3) := by decide +kernel
theorem dX12_unlike_43 : decode cX12_unlike 43 = .ok (.if_icmp .eq 7, 3) := by decide +kernel
theorem dX12_unlike_46 : decode cX12_unlike 46 = .ok (.iconst 1, 1) := by decide +kernel
theorem dX12_unlike_47 : decode cX12_unlike 47 = .ok (.goto 4, 3) := by decide +kernel
theorem dX12_unlike_50 : decode cX12_unlike 50 = .ok (.iconst 0, 1) := by decide +kernel
theorem dX12_unlike_51 : decode cX12_unlike 51 = .ok (.ireturn, 1) := by decide +kernel
theorem dX12_whose_0 : decode cX12_whose 0 = .ok (.iload_n 1, 1) := by decide +kernel
theorem dX12_whose_1 : decode cX12_whose 1 = .ok (.iconst 0, 1) := by decide +kernel
theorem dX12_whose_2 : decode cX12_whose 2 = .ok (.bipush 7, 2) := by decide +kernel
theorem dX12_whose_4 : decode cX12_whose 4 = .ok (.invokestatic 74, 3) := by decide +kernel
theorem dX12_whose_7 : decode cX12_whose 7 = .ok (.ifCond .eq 26, 3) := by decide +kernel
theorem dX12_whose_10 : decode cX12_whose 10 = .ok (.iload_n 3, 1) := by decide +kernel
theorem dX12_whose_11 : decode cX12_whose 11 = .ok (.iconst 0, 1) := by decide +kernel
theorem dX12_whose_12 : decode cX12_whose 12 = .ok (.iconst 1, 1) := by decide +kernel
theorem dX12_whose_13 : decode cX12_whose 13 = .ok (.invokestatic 74, 3) := by decide +kernel
theorem dX12_whose_16 : decode cX12_whose 16 = .ok (.ifCond .eq 17, 3) := by decide +kernel
theorem dX12_whose_19 : decode cX12_whose 19 = .ok (.iload_n 3, 1) := by decide +kernel
theorem dX12_whose_20 : decode cX12_whose 20 = .ok (.ifCond .ne 16, 3) := by decide +kernel
theorem dX12_whose_23 : decode cX12_whose 23 = .ok (.iload_n 2, 1) := by decide +kernel
theorem dX12_whose_24 : decode cX12_whose 24 = .ok (.iconst 0, 1) := by decide +kernel
theorem dX12_whose_25 : decode cX12_whose 25 = .ok (.bipush 23, 2) := by decide +kernel
theorem dX12_whose_27 : decode cX12_whose 27 = .ok (.invokestatic 74, 3) := by decide +kernel
theorem dX12_whose_30 : decode cX12_whose 30 = .ok (.ifCond .ne 6, 3) := by decide +kernel
theorem dX12_whose_33 : decode cX12_whose 33 = .ok (.bipush (-2), 2) := by decide +kernel
theorem dX12_whose_35 : decode cX12_whose 35 = .ok (.ireturn, 1) := by decide +kernel
theorem dX12_whose_36 : decode cX12_whose 36 = .ok (.iconst (-1), 1) := by decide +kernel
theorem dX12_whose_37 : decode cX12_whose 37 = .ok (.istore 4, 2) := by decide +kernel
theorem dX12_whose_39 : decode cX12_whose 39 = .ok (.iconst 0, 1) := by decide +kernel
theorem dX12_whose_40 : decode cX12_whose 40 = .ok (.istore 5, 2) := by decide +kernel
theorem dX12_whose_42 : decode cX12_whose 42 = .ok (.iconst 0, 1) := by decide +kernel
theorem dX12_whose_43 : decode cX12_whose 43 = .ok (.istore 6, 2) := by decide +kernel
theorem dX12_whose_45 : decode cX12_whose 45 = .ok (.iload 6, 2) := by decide +kernel
theorem dX12_whose_47 : decode cX12_whose 47 = .ok (.aload_n 0, 1) := by decide +kernel
theorem dX12_whose_48 : decode cX12_whose 48 = .ok (.getfield 7, 3) := by decide +kernel
theorem dX12_whose_51 : decode cX12_whose 51 = .ok (.iconst 1, 1) := by decide +kernel
theorem dX12_whose_52 : decode cX12_whose 52 = .ok (.iaload, 1) := by decide +kernel
theorem dX12_whose_53 : decode cX12_whose 53 = .ok (.if_icmp .ge 100, 3) := by decide +kernel
theorem dX12_whose_56 : decode cX12_whose 56 = .ok (.sipush 2640, 3) := by decide +kernel
theorem dX12_whose_59 : decode cX12_whose 59 = .ok (.bipush 6, 2) := by decide +kernel
theorem dX12_whose_61 : decode cX12_whose 61 = .ok (.iload 6, 2) := by decide +kernel
theorem dX12_whose_63 : decode cX12_whose 63 = .ok (.imul, 1) := by decide +kernel
theorem dX12_whose_64 : decode cX12_whose 64 = .ok (.iadd, 1) := by decide +kernel
theorem dX12_whose_65 : decode cX12_whose 65 = .ok (.istore 7, 2) := by decide +kernel
theorem dX12_whose_67 : decode cX12_whose 67 = .ok (.aload_n 0, 1) := by decide +kernel
theorem dX12_whose_68 : decode cX12_whose 68 = .ok (.getfield 7, 3) := by decide +kernel
theorem dX12_whose_71 : decode cX12_whose 71 = .ok (.iload 7, 2) := by decide +kernel
theorem dX12_whose_73 : decode cX12_whose 73 = .ok (.iconst 1, 1) := by decide +kernel
theorem dX12_whose_74 : decode cX12_whose 74 = .ok (.iadd, 1) := by decide +kernel
theorem dX12_whose_75 : decode cX12_whose 75 = .ok (.iaload, 1) := by decide +kernel
theorem dX12_whose_76 : decode cX12_whose 76 = .ok (.iload_n 1, 1) := by decide +kernel
theorem dX12_whose_77 : decode cX12_whose 77 = .ok (.if_icmp .eq 6, 3) := by decide +kernel
theorem dX12_whose_80 : decode cX12_whose 80 = .ok (.goto 67, 3) := by decide +kernel
theorem dX12_whose_83 : decode cX12_whose 83 = .ok (.aload_n 0, 1) := by decide +kernel
theorem dX12_whose_84 : decode cX12_whose 84 = .ok (.getfield 7, 3) := by decide +kernel
theorem dX12_whose_87 : decode cX12_whose 87 = .ok (.iload 7, 2) := by decide +kernel
theorem dX12_whose_89 : decode cX12_whose 89 = .ok (.iconst 2, 1) := by decide +kernel
theorem dX12_whose_90 : decode cX12_whose 90 = .ok (.iadd, 1) := by decide +kernel
theorem dX12_whose_91 : decode cX12_whose 91 = .ok (.iaload, 1) := by decide +kernel
theorem dX12_whose_92 : decode cX12_whose 92 = .ok (.iload_n 2, 1) := by decide +kernel
theorem dX12_whose_93 : decode cX12_whose 93 = .ok (.if_icmp .ne 27, 3) := by decide +kernel
theorem dX12_whose_96 : decode cX12_whose 96 = .ok (.aload_n 0, 1) := by decide +kernel
theorem dX12_whose_97 : decode cX12_whose 97 = .ok (.getfield 7, 3) := by decide +kernel
theorem dX12_whose_100 : decode cX12_whose 100 = .ok (.iload 7, 2) := by decide +kernel
theorem dX12_whose_102 : decode cX12_whose 102 = .ok (.iconst 4, 1) := by decide +kernel
theorem dX12_whose_103 : decode cX12_whose 103 = .ok (.iadd, 1) := by decide +kernel
theorem dX12_whose_104 : decode cX12_whose 104 = .ok (.iaload, 1) := by decide +kernel
theorem dX12_whose_105 : decode cX12_whose 105 = .ok (.ifCond .ne 15, 3) := by decide +kernel
theorem dX12_whose_108 : decode cX12_whose 108 = .ok (.aload_n 0, 1) := by decide +kernel
theorem dX12_whose_109 : decode cX12_whose 109 = .ok (.getfield 7, 3) := by decide +kernel
theorem dX12_whose_112 : decode cX12_whose 112 = .ok (.iload 7, 2) := by decide +kernel
theorem dX12_whose_114 : decode cX12_whose 114 = .ok (.iconst 5, 1) := by decide +kernel
theorem dX12_whose_115 : decode cX12_whose 115 = .ok (.iadd, 1) := by decide +kernel
theorem dX12_whose_116 : decode cX12_whose 116 = .ok (.iaload, 1) := by decide +kernel
theorem dX12_whose_117 : decode cX12_whose 117 = .ok (.goto 5, 3) := by decide +kernel
theorem dX12_whose_120 : decode cX12_whose 120 = .ok (.iload 4, 2) := by decide +kernel
theorem dX12_whose_122 : decode cX12_whose 122 = .ok (.istore 4, 2) := by decide +kernel
theorem dX12_whose_124 : decode cX12_whose 124 = .ok (.iload 5, 2) := by decide +kernel
theorem dX12_whose_126 : decode cX12_whose 126 = .ok (.aload_n 0, 1) := by decide +kernel
theorem dX12_whose_127 : decode cX12_whose 127 = .ok (.getfield 7, 3) := by decide +kernel
theorem dX12_whose_130 : decode cX12_whose 130 = .ok (.iload 7, 2) := by decide +kernel
theorem dX12_whose_132 : decode cX12_whose 132 = .ok (.iconst 4, 1) := by decide +kernel
theorem dX12_whose_133 : decode cX12_whose 133 = .ok (.iadd, 1) := by decide +kernel
theorem dX12_whose_134 : decode cX12_whose 134 = .ok (.iaload, 1) := by decide +kernel
theorem dX12_whose_135 : decode cX12_whose 135 = .ok (.iconst 5, 1) := by decide +kernel
theorem dX12_whose_136 : decode cX12_whose 136 = .ok (.if_icmp .ne 7, 3) := by decide +kernel
theorem dX12_whose_139 : decode cX12_whose 139 = .ok (.iconst 1, 1) := by decide +kernel
theorem dX12_whose_140 : decode cX12_whose 140 = .ok (.goto 4, 3) := by decide +kernel
theorem dX12_whose_143 : decode cX12_whose 143 = .ok (.iconst 0, 1) := by decide +kernel
theorem dX12_whose_144 : decode cX12_whose 144 = .ok (.iadd, 1) := by decide +kernel
theorem dX12_whose_145 : decode cX12_whose 145 = .ok (.istore 5, 2) := by decide +kernel
theorem dX12_whose_147 : decode cX12_whose 147 = .ok (.iinc 6 1, 3) := by decide +kernel
theorem dX12_whose_150 : decode cX12_whose 150 = .ok (.goto (-105), 3) := by decide +kernel
theorem dX12_whose_153 : decode cX12_whose 153 = .ok (.iload_n 3, 1) := by decide +kernel
theorem dX12_whose_154 : decode cX12_whose 154 = .ok (.ifCond .ne 8, 3) := by decide +kernel
theorem dX12_whose_157 : decode cX12_whose 157 = .ok (.iload 4, 2) := by decide +kernel
theorem dX12_whose_159 : decode cX12_whose 159 = .ok (.goto 5, 3) := by decide +kernel
theorem dX12_whose_162 : decode cX12_whose 162 = .ok (.iload 5, 2) := by decide +kernel
theorem dX12_whose_164 : decode cX12_whose 164 = .ok (.ireturn, 1) := by decide +kernel
theorem dX12_image_0 : decode cX12_image 0 = .ok (.iload_n 1, 1) := by decide +kernel
theorem dX12_image_1 : decode cX12_image 1 = .ok (.ifCond .ne 12, 3) := by decide +kernel
theorem dX12_image_4 : decode cX12_image 4 = .ok (.aload_n 0, 1) := by decide +kernel
theorem dX12_image_5 : decode cX12_image 5 = .ok (.getfield 527, 3) := by decide +kernel
theorem dX12_image_8 : decode cX12_image 8 = .ok (.ifCond .ne 5, 3) := by decide +kernel
theorem dX12_image_11 : decode cX12_image 11 = .ok (.iconst 0, 1) := by decide +kernel
theorem dX12_image_12 : decode cX12_image 12 = .ok (.ireturn, 1) := by decide +kernel
theorem dX12_image_13 : decode cX12_image 13 = .ok (.iconst 0, 1) := by decide +kernel
theorem dX12_image_14 : decode cX12_image 14 = .ok (.istore_n 2, 1) := by decide +kernel
theorem dX12_image_15 : decode cX12_image 15 = .ok (.iload_n 2, 1) := by decide +kernel
theorem dX12_image_16 : decode cX12_image 16 = .ok (.sipush 6894, 3) := by decide +kernel
theorem dX12_image_19 : decode cX12_image 19 = .ok (.if_icmp .ge 40, 3) := by decide +kernel
theorem dX12_image_22 : decode cX12_image 22 = .ok (.iload_n 1, 1) := by decide +kernel
theorem dX12_image_23 : decode cX12_image 23 = .ok (.ifCond .eq 18, 3) := by decide +kernel
theorem dX12_image_26 : decode cX12_image 26 = .ok (.aload_n 0, 1) := by decide +kernel
theorem dX12_image_27 : decode cX12_image 27 = .ok (.getfield 13, 3) := by decide +kernel
theorem dX12_image_30 : decode cX12_image 30 = .ok (.iload_n 2, 1) := by decide +kernel
theorem dX12_image_31 : decode cX12_image 31 = .ok (.aload_n 0, 1) := by decide +kernel
theorem dX12_image_32 : decode cX12_image 32 = .ok (.getfield 7, 3) := by decide +kernel
theorem dX12_image_35 : decode cX12_image 35 = .ok (.iload_n 2, 1) := by decide +kernel
theorem dX12_image_36 : decode cX12_image 36 = .ok (.iaload, 1) := by decide +kernel
theorem dX12_image_37 : decode cX12_image 37 = .ok (.iastore, 1) := by decide +kernel
theorem dX12_image_38 : decode cX12_image 38 = .ok (.goto 15, 3) := by decide +kernel
theorem dX12_image_41 : decode cX12_image 41 = .ok (.aload_n 0, 1) := by decide +kernel
theorem dX12_image_42 : decode cX12_image 42 = .ok (.getfield 7, 3) := by decide +kernel
theorem dX12_image_45 : decode cX12_image 45 = .ok (.iload_n 2, 1) := by decide +kernel
theorem dX12_image_46 : decode cX12_image 46 = .ok (.aload_n 0, 1) := by decide +kernel
theorem dX12_image_47 : decode cX12_image 47 = .ok (.getfield 13, 3) := by decide +kernel
theorem dX12_image_50 : decode cX12_image 50 = .ok (.iload_n 2, 1) := by decide +kernel
theorem dX12_image_51 : decode cX12_image 51 = .ok (.iaload, 1) := by decide +kernel
theorem dX12_image_52 : decode cX12_image 52 = .ok (.iastore, 1) := by decide +kernel
theorem dX12_image_53 : decode cX12_image 53 = .ok (.iinc 2 1, 3) := by decide +kernel
theorem dX12_image_56 : decode cX12_image 56 = .ok (.goto (-41), 3) := by decide +kernel
theorem dX12_image_59 : decode cX12_image 59 = .ok (.iload_n 1, 1) := by decide +kernel
theorem dX12_image_60 : decode cX12_image 60 = .ok (.ifCond .ne 7, 3) := by decide +kernel
theorem dX12_image_63 : decode cX12_image 63 = .ok (.aload_n 0, 1) := by decide +kernel
theorem dX12_image_64 : decode cX12_image 64 = .ok (.invokevirtual 93, 3) := by decide +kernel
theorem dX12_image_67 : decode cX12_image 67 = .ok (.aload_n 0, 1) := by decide +kernel
theorem dX12_image_68 : decode cX12_image 68 = .ok (.iconst 1, 1) := by decide +kernel
theorem dX12_image_69 : decode cX12_image 69 = .ok (.putfield 527, 3) := by decide +kernel
theorem dX12_image_72 : decode cX12_image 72 = .ok (.iconst 1, 1) := by decide +kernel
theorem dX12_image_73 : decode cX12_image 73 = .ok (.ireturn, 1) := by decide +kernel
theorem dX12_look_0 : decode cX12_look 0 = .ok (.iload_n 1, 1) := by decide +kernel
theorem dX12_look_1 : decode cX12_look 1 = .ok (.tableswitch 157 0 11 #[63, 68, 75, 84, 91, 98, 107, 116, 125, 134, 139, 148], 63) := by decide +kernel
theorem dX12_look_64 : decode cX12_look 64 = .ok (.aload_n 0, 1) := by decide +kernel
theorem dX12_look_65 : decode cX12_look 65 = .ok (.invokevirtual 445, 3) := by decide +kernel
theorem dX12_look_68 : decode cX12_look 68 = .ok (.ireturn, 1) := by decide +kernel
theorem dX12_look_69 : decode cX12_look 69 = .ok (.aload_n 0, 1) := by decide +kernel
theorem dX12_look_70 : decode cX12_look 70 = .ok (.getfield 7, 3) := by decide +kernel
theorem dX12_look_73 : decode cX12_look 73 = .ok (.iconst 0, 1) := by decide +kernel
theorem dX12_look_74 : decode cX12_look 74 = .ok (.iaload, 1) := by decide +kernel
theorem dX12_look_75 : decode cX12_look 75 = .ok (.ireturn, 1) := by decide +kernel
theorem dX12_look_76 : decode cX12_look 76 = .ok (.aload_n 0, 1) := by decide +kernel
theorem dX12_look_77 : decode cX12_look 77 = .ok (.getfield 7, 3) := by decide +kernel
theorem dX12_look_80 : decode cX12_look 80 = .ok (.sipush 2576, 3) := by decide +kernel
theorem dX12_look_83 : decode cX12_look 83 = .ok (.iaload, 1) := by decide +kernel
theorem dX12_look_84 : decode cX12_look 84 = .ok (.ireturn, 1) := by decide +kernel
theorem dX12_look_85 : decode cX12_look 85 = .ok (.aload_n 0, 1) := by decide +kernel
theorem dX12_look_86 : decode cX12_look 86 = .ok (.getfield 7, 3) := by decide +kernel
theorem dX12_look_89 : decode cX12_look 89 = .ok (.iconst 1, 1) := by decide +kernel
theorem dX12_look_90 : decode cX12_look 90 = .ok (.iaload, 1) := by decide +kernel
theorem dX12_look_91 : decode cX12_look 91 = .ok (.ireturn, 1) := by decide +kernel
theorem dX12_look_92 : decode cX12_look 92 = .ok (.aload_n 0, 1) := by decide +kernel
theorem dX12_look_93 : decode cX12_look 93 = .ok (.getfield 7, 3) := by decide +kernel
theorem dX12_look_96 : decode cX12_look 96 = .ok (.iconst 2, 1) := by decide +kernel
theorem dX12_look_97 : decode cX12_look 97 = .ok (.iaload, 1) := by decide +kernel
theorem dX12_look_98 : decode cX12_look 98 = .ok (.ireturn, 1) := by decide +kernel
theorem dX12_look_99 : decode cX12_look 99 = .ok (.aload_n 0, 1) := by decide +kernel
theorem dX12_look_100 : decode cX12_look 100 = .ok (.getfield 7, 3) := by decide +kernel
theorem dX12_look_103 : decode cX12_look 103 = .ok (.sipush 2634, 3) := by decide +kernel
theorem dX12_look_106 : decode cX12_look 106 = .ok (.iaload, 1) := by decide +kernel
theorem dX12_look_107 : decode cX12_look 107 = .ok (.ireturn, 1) := by decide +kernel
theorem dX12_look_108 : decode cX12_look 108 = .ok (.aload_n 0, 1) := by decide +kernel
theorem dX12_look_109 : decode cX12_look 109 = .ok (.getfield 7, 3) := by decide +kernel
theorem dX12_look_112 : decode cX12_look 112 = .ok (.sipush 2635, 3) := by decide +kernel
theorem dX12_look_115 : decode cX12_look 115 = .ok (.iaload, 1) := by decide +kernel
theorem dX12_look_116 : decode cX12_look 116 = .ok (.ireturn, 1) := by decide +kernel
theorem dX12_look_117 : decode cX12_look 117 = .ok (.aload_n 0, 1) := by decide +kernel
theorem dX12_look_118 : decode cX12_look 118 = .ok (.getfield 7, 3) := by decide +kernel
theorem dX12_look_121 : decode cX12_look 121 = .ok (.sipush 2636, 3) := by decide +kernel
theorem dX12_look_124 : decode cX12_look 124 = .ok (.iaload, 1) := by decide +kernel
theorem dX12_look_125 : decode cX12_look 125 = .ok (.ireturn, 1) := by decide +kernel
theorem dX12_look_126 : decode cX12_look 126 = .ok (.aload_n 0, 1) := by decide +kernel
theorem dX12_look_127 : decode cX12_look 127 = .ok (.getfield 7, 3) := by decide +kernel
theorem dX12_look_130 : decode cX12_look 130 = .ok (.sipush 2600, 3) := by decide +kernel
theorem dX12_look_133 : decode cX12_look 133 = .ok (.iaload, 1) := by decide +kernel
theorem dX12_look_134 : decode cX12_look 134 = .ok (.ireturn, 1) := by decide +kernel
theorem dX12_look_135 : decode cX12_look 135 = .ok (.aload_n 0, 1) := by decide +kernel
theorem dX12_look_136 : decode cX12_look 136 = .ok (.getfield 90, 3) := by decide +kernel
theorem dX12_look_139 : decode cX12_look 139 = .ok (.ireturn, 1) := by decide +kernel
theorem dX12_look_140 : decode cX12_look 140 = .ok (.aload_n 0, 1) := by decide +kernel
theorem dX12_look_141 : decode cX12_look 141 = .ok (.getfield 7, 3) := by decide +kernel
theorem dX12_look_144 : decode cX12_look 144 = .ok (.sipush 2577, 3) := by decide +kernel
theorem dX12_look_147 : decode cX12_look 147 = .ok (.iaload, 1) := by decide +kernel
theorem dX12_look_148 : decode cX12_look 148 = .ok (.ireturn, 1) := by decide +kernel
theorem dX12_look_149 : decode cX12_look 149 = .ok (.aload_n 0, 1) := by decide +kernel
theorem dX12_look_150 : decode cX12_look 150 = .ok (.getfield 7, 3) := by decide +kernel
theorem dX12_look_153 : decode cX12_look 153 = .ok (.sipush 2578, 3) := by decide +kernel
theorem dX12_look_156 : decode cX12_look 156 = .ok (.iaload, 1) := by decide +kernel
theorem dX12_look_157 : decode cX12_look 157 = .ok (.ireturn, 1) := by decide +kernel
theorem dX12_look_158 : decode cX12_look 158 = .ok (.iload_n 1, 1) := by decide +kernel
theorem dX12_look_159 : decode cX12_look 159 = .ok (.bipush 20, 2) := by decide +kernel
theorem dX12_look_161 : decode cX12_look 161 = .ok (.bipush 25, 2) := by decide +kernel
theorem dX12_look_163 : decode cX12_look 163 = .ok (.invokestatic 74, 3) := by decide +kernel
theorem dX12_look_166 : decode cX12_look 166 = .ok (.ifCond .eq 17, 3) := by decide +kernel
theorem dX12_look_169 : decode cX12_look 169 = .ok (.aload_n 0, 1) := by decide +kernel
theorem dX12_look_170 : decode cX12_look 170 = .ok (.getfield 7, 3) := by decide +kernel
theorem dX12_look_173 : decode cX12_look 173 = .ok (.sipush 2564, 3) := by decide +kernel
theorem dX12_look_176 : decode cX12_look 176 = .ok (.iload_n 1, 1) := by decide +kernel
theorem dX12_look_177 : decode cX12_look 177 = .ok (.iadd, 1) := by decide +kernel
theorem dX12_look_178 : decode cX12_look 178 = .ok (.bipush 20, 2) := by decide +kernel
theorem dX12_look_180 : decode cX12_look 180 = .ok (.isub, 1) := by decide +kernel
theorem dX12_look_181 : decode cX12_look 181 = .ok (.iaload, 1) := by decide +kernel
theorem dX12_look_182 : decode cX12_look 182 = .ok (.ireturn, 1) := by decide +kernel
theorem dX12_look_183 : decode cX12_look 183 = .ok (.iload_n 1, 1) := by decide +kernel
theorem dX12_look_184 : decode cX12_look 184 = .ok (.bipush 30, 2) := by decide +kernel
theorem dX12_look_186 : decode cX12_look 186 = .ok (.bipush 35, 2) := by decide +kernel
theorem dX12_look_188 : decode cX12_look 188 = .ok (.invokestatic 74, 3) := by decide +kernel
theorem dX12_look_191 : decode cX12_look 191 = .ok (.ifCond .eq 19, 3) := by decide +kernel
theorem dX12_look_194 : decode cX12_look 194 = .ok (.aload_n 0, 1) := by decide +kernel
theorem dX12_look_195 : decode cX12_look 195 = .ok (.getfield 7, 3) := by decide +kernel
theorem dX12_look_198 : decode cX12_look 198 = .ok (.sipush 2570, 3) := by decide +kernel
theorem dX12_look_201 : decode cX12_look 201 = .ok (.iload_n 1, 1) := by decide +kernel
theorem dX12_look_202 : decode cX12_look 202 = .ok (.iadd, 1) := by decide +kernel
theorem dX12_look_203 : decode cX12_look 203 = .ok (.bipush 30, 2) := by decide +kernel
theorem dX12_look_205 : decode cX12_look 205 = .ok (.isub, 1) := by decide +kernel
theorem dX12_look_206 : decode cX12_look 206 = .ok (.iaload, 1) := by decide +kernel
theorem dX12_look_207 : decode cX12_look 207 = .ok (.goto 4, 3) := by decide +kernel
theorem dX12_look_210 : decode cX12_look 210 = .ok (.iconst (-1), 1) := by decide +kernel
theorem dX12_look_211 : decode cX12_look 211 = .ok (.ireturn, 1) := by decide +kernel
