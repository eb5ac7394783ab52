theorem dX11_init_0 : decode cX11_init 0 = .ok (.aload_n 0, 1) := by decide +kernel
theorem dX11_init_1 : decode cX11_init 1 = .ok (.invokespecial 1, 3) := by decide +kernel
theorem dX11_init_4 : decode cX11_init 4 = .ok (.aload_n 0, 1) := by decide +kernel
theorem dX11_init_5 : decode cX11_init 5 = .ok (.new 7, 3) := by decide +kernel
theorem dX11_init_8 : decode cX11_init 8 = .ok (.dup, 1) := by decide +kernel
theorem dX11_init_9 : decode cX11_init 9 = .ok (.invokespecial 9, 3) := by decide +kernel
theorem dX11_init_12 : decode cX11_init 12 = .ok (.putfield 10, 3) := by decide +kernel
theorem dX11_init_15 : decode cX11_init 15 = .ok (.aload_n 0, 1) := by decide +kernel
theorem dX11_init_16 : decode cX11_init 16 = .ok (.new 16, 3) := by decide +kernel
theorem dX11_init_19 : decode cX11_init 19 = .ok (.dup, 1) := by decide +kernel
theorem dX11_init_20 : decode cX11_init 20 = .ok (.invokespecial 18, 3) := by decide +kernel
theorem dX11_init_23 : decode cX11_init 23 = .ok (.putfield 19, 3) := by decide +kernel
theorem dX11_init_26 : decode cX11_init 26 = .ok (.aload_n 0, 1) := by decide +kernel
theorem dX11_init_27 : decode cX11_init 27 = .ok (.new 23, 3) := by decide +kernel
theorem dX11_init_30 : decode cX11_init 30 = .ok (.dup, 1) := by decide +kernel
theorem dX11_init_31 : decode cX11_init 31 = .ok (.invokespecial 25, 3) := by decide +kernel
theorem dX11_init_34 : decode cX11_init 34 = .ok (.putfield 26, 3) := by decide +kernel
theorem dX11_init_37 : decode cX11_init 37 = .ok (.aload_n 0, 1) := by decide +kernel
theorem dX11_init_38 : decode cX11_init 38 = .ok (.new 30, 3) := by decide +kernel
theorem dX11_init_41 : decode cX11_init 41 = .ok (.dup, 1) := by decide +kernel
theorem dX11_init_42 : decode cX11_init 42 = .ok (.invokespecial 32, 3) := by decide +kernel
theorem dX11_init_45 : decode cX11_init 45 = .ok (.putfield 33, 3) := by decide +kernel
theorem dX11_init_48 : decode cX11_init 48 = .ok (.aload_n 0, 1) := by decide +kernel
theorem dX11_init_49 : decode cX11_init 49 = .ok (.new 37, 3) := by decide +kernel
theorem dX11_init_52 : decode cX11_init 52 = .ok (.dup, 1) := by decide +kernel
theorem dX11_init_53 : decode cX11_init 53 = .ok (.invokespecial 39, 3) := by decide +kernel
theorem dX11_init_56 : decode cX11_init 56 = .ok (.putfield 40, 3) := by decide +kernel
theorem dX11_init_59 : decode cX11_init 59 = .ok (.aload_n 0, 1) := by decide +kernel
theorem dX11_init_60 : decode cX11_init 60 = .ok (.new 44, 3) := by decide +kernel
theorem dX11_init_63 : decode cX11_init 63 = .ok (.dup, 1) := by decide +kernel
theorem dX11_init_64 : decode cX11_init 64 = .ok (.invokespecial 46, 3) := by decide +kernel
theorem dX11_init_67 : decode cX11_init 67 = .ok (.putfield 47, 3) := by decide +kernel
theorem dX11_init_70 : decode cX11_init 70 = .ok (.aload_n 0, 1) := by decide +kernel
theorem dX11_init_71 : decode cX11_init 71 = .ok (.new 51, 3) := by decide +kernel
theorem dX11_init_74 : decode cX11_init 74 = .ok (.dup, 1) := by decide +kernel
theorem dX11_init_75 : decode cX11_init 75 = .ok (.aload_n 0, 1) := by decide +kernel
theorem dX11_init_76 : decode cX11_init 76 = .ok (.getfield 26, 3) := by decide +kernel
theorem dX11_init_79 : decode cX11_init 79 = .ok (.invokespecial 53, 3) := by decide +kernel
theorem dX11_init_82 : decode cX11_init 82 = .ok (.putfield 56, 3) := by decide +kernel
theorem dX11_init_85 : decode cX11_init 85 = .ok (.aload_n 0, 1) := by decide +kernel
theorem dX11_init_86 : decode cX11_init 86 = .ok (.new 60, 3) := by decide +kernel
theorem dX11_init_89 : decode cX11_init 89 = .ok (.dup, 1) := by decide +kernel
theorem dX11_init_90 : decode cX11_init 90 = .ok (.aload_n 0, 1) := by decide +kernel
theorem dX11_init_91 : decode cX11_init 91 = .ok (.getfield 56, 3) := by decide +kernel
theorem dX11_init_94 : decode cX11_init 94 = .ok (.invokespecial 62, 3) := by decide +kernel
theorem dX11_init_97 : decode cX11_init 97 = .ok (.putfield 65, 3) := by decide +kernel
theorem dX11_init_100 : decode cX11_init 100 = .ok (.aload_n 0, 1) := by decide +kernel
theorem dX11_init_101 : decode cX11_init 101 = .ok (.new 69, 3) := by decide +kernel
theorem dX11_init_104 : decode cX11_init 104 = .ok (.dup, 1) := by decide +kernel
theorem dX11_init_105 : decode cX11_init 105 = .ok (.invokespecial 71, 3) := by decide +kernel
theorem dX11_init_108 : decode cX11_init 108 = .ok (.putfield 72, 3) := by decide +kernel
theorem dX11_init_111 : decode cX11_init 111 = .ok (.aload_n 0, 1) := by decide +kernel
theorem dX11_init_112 : decode cX11_init 112 = .ok (.new 76, 3) := by decide +kernel
theorem dX11_init_115 : decode cX11_init 115 = .ok (.dup, 1) := by decide +kernel
theorem dX11_init_116 : decode cX11_init 116 = .ok (.invokespecial 78, 3) := by decide +kernel
theorem dX11_init_119 : decode cX11_init 119 = .ok (.putfield 79, 3) := by decide +kernel
theorem dX11_init_122 : decode cX11_init 122 = .ok (.aload_n 0, 1) := by decide +kernel
theorem dX11_init_123 : decode cX11_init 123 = .ok (.new 83, 3) := by decide +kernel
theorem dX11_init_126 : decode cX11_init 126 = .ok (.dup, 1) := by decide +kernel
theorem dX11_init_127 : decode cX11_init 127 = .ok (.invokespecial 85, 3) := by decide +kernel
theorem dX11_init_130 : decode cX11_init 130 = .ok (.putfield 86, 3) := by decide +kernel
theorem dX11_init_133 : decode cX11_init 133 = .ok (.aload_n 0, 1) := by decide +kernel
theorem dX11_init_134 : decode cX11_init 134 = .ok (.iconst 5, 1) := by decide +kernel
theorem dX11_init_135 : decode cX11_init 135 = .ok (.anewarray 7, 3) := by decide +kernel
theorem dX11_init_138 : decode cX11_init 138 = .ok (.putfield 90, 3) := by decide +kernel
theorem dX11_init_141 : decode cX11_init 141 = .ok (.iconst 0, 1) := by decide +kernel
theorem dX11_init_142 : decode cX11_init 142 = .ok (.istore_n 1, 1) := by decide +kernel
theorem dX11_init_143 : decode cX11_init 143 = .ok (.iload_n 1, 1) := by decide +kernel
theorem dX11_init_144 : decode cX11_init 144 = .ok (.iconst 5, 1) := by decide +kernel
theorem dX11_init_145 : decode cX11_init 145 = .ok (.if_icmp .ge 22, 3) := by decide +kernel
theorem dX11_init_148 : decode cX11_init 148 = .ok (.aload_n 0, 1) := by decide +kernel
theorem dX11_init_149 : decode cX11_init 149 = .ok (.getfield 90, 3) := by decide +kernel
theorem dX11_init_152 : decode cX11_init 152 = .ok (.iload_n 1, 1) := by decide +kernel
theorem dX11_init_153 : decode cX11_init 153 = .ok (.new 7, 3) := by decide +kernel
theorem dX11_init_156 : decode cX11_init 156 = .ok (.dup, 1) := by decide +kernel
theorem dX11_init_157 : decode cX11_init 157 = .ok (.invokespecial 9, 3) := by decide +kernel
theorem dX11_init_160 : decode cX11_init 160 = .ok (.aastore, 1) := by decide +kernel
theorem dX11_init_161 : decode cX11_init 161 = .ok (.iinc 1 1, 3) := by decide +kernel
theorem dX11_init_164 : decode cX11_init 164 = .ok (.goto (-21), 3) := by decide +kernel
theorem dX11_init_167 : decode cX11_init 167 = .ok (.aload_n 0, 1) := by decide +kernel
theorem dX11_init_168 : decode cX11_init 168 = .ok (.new 7, 3) := by decide +kernel
theorem dX11_init_171 : decode cX11_init 171 = .ok (.dup, 1) := by decide +kernel
theorem dX11_init_172 : decode cX11_init 172 = .ok (.invokespecial 9, 3) := by decide +kernel
theorem dX11_init_175 : decode cX11_init 175 = .ok (.putfield 94, 3) := by decide +kernel
theorem dX11_init_178 : decode cX11_init 178 = .ok (.aload_n 0, 1) := by decide +kernel
theorem dX11_init_179 : decode cX11_init 179 = .ok (.new 16, 3) := by decide +kernel
theorem dX11_init_182 : decode cX11_init 182 = .ok (.dup, 1) := by decide +kernel
theorem dX11_init_183 : decode cX11_init 183 = .ok (.invokespecial 18, 3) := by decide +kernel
theorem dX11_init_186 : decode cX11_init 186 = .ok (.putfield 97, 3) := by decide +kernel
theorem dX11_init_189 : decode cX11_init 189 = .ok (.aload_n 0, 1) := by decide +kernel
theorem dX11_init_190 : decode cX11_init 190 = .ok (.new 23, 3) := by decide +kernel
theorem dX11_init_193 : decode cX11_init 193 = .ok (.dup, 1) := by decide +kernel
theorem dX11_init_194 : decode cX11_init 194 = .ok (.invokespecial 25, 3) := by decide +kernel
theorem dX11_init_197 : decode cX11_init 197 = .ok (.putfield 100, 3) := by decide +kernel
theorem dX11_init_200 : decode cX11_init 200 = .ok (.return_, 1) := by decide +kernel
theorem dX11_state_0 : decode cX11_state 0 = .ok (.aload_n 0, 1) := by decide +kernel
theorem dX11_state_1 : decode cX11_state 1 = .ok (.getfield 10, 3) := by decide +kernel
theorem dX11_state_4 : decode cX11_state 4 = .ok (.getfield 103, 3) := by decide +kernel
theorem dX11_state_7 : decode cX11_state 7 = .ok (.istore_n 2, 1) := by decide +kernel
theorem dX11_state_8 : decode cX11_state 8 = .ok (.aload_n 0, 1) := by decide +kernel
theorem dX11_state_9 : decode cX11_state 9 = .ok (.getfield 10, 3) := by decide +kernel
theorem dX11_state_12 : decode cX11_state 12 = .ok (.iload_n 1, 1) := by decide +kernel
theorem dX11_state_13 : decode cX11_state 13 = .ok (.putfield 103, 3) := by decide +kernel
theorem dX11_state_16 : decode cX11_state 16 = .ok (.aload_n 0, 1) := by decide +kernel
theorem dX11_state_17 : decode cX11_state 17 = .ok (.iconst 0, 1) := by decide +kernel
theorem dX11_state_18 : decode cX11_state 18 = .ok (.putfield 107, 3) := by decide +kernel
theorem dX11_state_21 : decode cX11_state 21 = .ok (.iload_n 2, 1) := by decide +kernel
theorem dX11_state_22 : decode cX11_state 22 = .ok (.ireturn, 1) := by decide +kernel
theorem dX11_rope_0 : decode cX11_rope 0 = .ok (.aload_n 0, 1) := by decide +kernel
theorem dX11_rope_1 : decode cX11_rope 1 = .ok (.getfield 10, 3) := by decide +kernel
theorem dX11_rope_4 : decode cX11_rope 4 = .ok (.invokevirtual 110, 3) := by decide +kernel
theorem dX11_rope_7 : decode cX11_rope 7 = .ok (.istore_n 3, 1) := by decide +kernel
theorem dX11_rope_8 : decode cX11_rope 8 = .ok (.iload_n 1, 1) := by decide +kernel
theorem dX11_rope_9 : decode cX11_rope 9 = .ok (.iconst 2, 1) := by decide +kernel
theorem dX11_rope_10 : decode cX11_rope 10 = .ok (.if_icmp .lt 23, 3) := by decide +kernel
theorem dX11_rope_13 : decode cX11_rope 13 = .ok (.iload_n 1, 1) := by decide +kernel
theorem dX11_rope_14 : decode cX11_rope 14 = .ok (.bipush 24, 2) := by decide +kernel
theorem dX11_rope_16 : decode cX11_rope 16 = .ok (.if_icmp .gt 17, 3) := by decide +kernel
theorem dX11_rope_19 : decode cX11_rope 19 = .ok (.iload_n 2, 1) := by decide +kernel
theorem dX11_rope_20 : decode cX11_rope 20 = .ok (.bipush 10, 2) := by decide +kernel
theorem dX11_rope_22 : decode cX11_rope 22 = .ok (.invokestatic 114, 3) := by decide +kernel
theorem dX11_rope_25 : decode cX11_rope 25 = .ok (.ifCond .eq 8, 3) := by decide +kernel
theorem dX11_rope_28 : decode cX11_rope 28 = .ok (.iload_n 3, 1) := by decide +kernel
theorem dX11_rope_29 : decode cX11_rope 29 = .ok (.iconst (-1), 1) := by decide +kernel
theorem dX11_rope_30 : decode cX11_rope 30 = .ok (.if_icmp .ne 5, 3) := by decide +kernel
theorem dX11_rope_33 : decode cX11_rope 33 = .ok (.iconst (-1), 1) := by decide +kernel
theorem dX11_rope_34 : decode cX11_rope 34 = .ok (.ireturn, 1) := by decide +kernel
theorem dX11_rope_35 : decode cX11_rope 35 = .ok (.aload_n 0, 1) := by decide +kernel
theorem dX11_rope_36 : decode cX11_rope 36 = .ok (.getfield 10, 3) := by decide +kernel
theorem dX11_rope_39 : decode cX11_rope 39 = .ok (.getfield 118, 3) := by decide +kernel
theorem dX11_rope_42 : decode cX11_rope 42 = .ok (.iload_n 3, 1) := by decide +kernel
theorem dX11_rope_43 : decode cX11_rope 43 = .ok (.aaload, 1) := by decide +kernel
theorem dX11_rope_44 : decode cX11_rope 44 = .ok (.iload_n 1, 1) := by decide +kernel
theorem dX11_rope_45 : decode cX11_rope 45 = .ok (.iload_n 2, 1) := by decide +kernel
theorem dX11_rope_46 : decode cX11_rope 46 = .ok (.aload_n 0, 1) := by decide +kernel
theorem dX11_rope_47 : decode cX11_rope 47 = .ok (.getfield 10, 3) := by decide +kernel
theorem dX11_rope_50 : decode cX11_rope 50 = .ok (.getfield 122, 3) := by decide +kernel
theorem dX11_rope_53 : decode cX11_rope 53 = .ok (.invokevirtual 125, 3) := by decide +kernel
theorem dX11_rope_56 : decode cX11_rope 56 = .ok (.aload_n 0, 1) := by decide +kernel
theorem dX11_rope_57 : decode cX11_rope 57 = .ok (.iconst 0, 1) := by decide +kernel
theorem dX11_rope_58 : decode cX11_rope 58 = .ok (.putfield 107, 3) := by decide +kernel
theorem dX11_rope_61 : decode cX11_rope 61 = .ok (.iload_n 3, 1) := by decide +kernel
theorem dX11_rope_62 : decode cX11_rope 62 = .ok (.ireturn, 1) := by decide +kernel
theorem dX11_set_0 : decode cX11_set 0 = .ok (.iload_n 1, 1) := by decide +kernel
theorem dX11_set_1 : decode cX11_set 1 = .ok (.iconst 2, 1) := by decide +kernel
theorem dX11_set_2 : decode cX11_set 2 = .ok (.if_icmp .ne 25, 3) := by decide +kernel
theorem dX11_set_5 : decode cX11_set 5 = .ok (.iload_n 3, 1) := by decide +kernel
theorem dX11_set_6 : decode cX11_set 6 = .ok (.ifCond .lt 21, 3) := by decide +kernel
theorem dX11_set_9 : decode cX11_set 9 = .ok (.iload_n 3, 1) := by decide +kernel
theorem dX11_set_10 : decode cX11_set 10 = .ok (.sipush 1000, 3) := by decide +kernel
theorem dX11_set_13 : decode cX11_set 13 = .ok (.if_icmp .gt 14, 3) := by decide +kernel
theorem dX11_set_16 : decode cX11_set 16 = .ok (.aload_n 0, 1) := by decide +kernel
theorem dX11_set_17 : decode cX11_set 17 = .ok (.getfield 10, 3) := by decide +kernel
theorem dX11_set_20 : decode cX11_set 20 = .ok (.iload_n 3, 1) := by decide +kernel
theorem dX11_set_21 : decode cX11_set 21 = .ok (.putfield 129, 3) := by decide +kernel
theorem dX11_set_24 : decode cX11_set 24 = .ok (.goto 79, 3) := by decide +kernel
theorem dX11_set_27 : decode cX11_set 27 = .ok (.iload_n 1, 1) := by decide +kernel
theorem dX11_set_28 : decode cX11_set 28 = .ok (.ifCond .ne 36, 3) := by decide +kernel
theorem dX11_set_31 : decode cX11_set 31 = .ok (.iload_n 2, 1) := by decide +kernel
theorem dX11_set_32 : decode cX11_set 32 = .ok (.bipush 6, 2) := by decide +kernel
theorem dX11_set_34 : decode cX11_set 34 = .ok (.invokestatic 114, 3) := by decide +kernel
theorem dX11_set_37 : decode cX11_set 37 = .ok (.ifCond .eq 27, 3) := by decide +kernel
theorem dX11_set_40 : decode cX11_set 40 = .ok (.iload_n 3, 1) := by decide +kernel
theorem dX11_set_41 : decode cX11_set 41 = .ok (.iconst 1, 1) := by decide +kernel
theorem dX11_set_42 : decode cX11_set 42 = .ok (.if_icmp .lt 22, 3) := by decide +kernel
theorem dX11_set_45 : decode cX11_set 45 = .ok (.iload_n 3, 1) := by decide +kernel
theorem dX11_set_46 : decode cX11_set 46 = .ok (.bipush 9, 2) := by decide +kernel
theorem dX11_set_48 : decode cX11_set 48 = .ok (.if_icmp .gt 16, 3) := by decide +kernel
theorem dX11_set_51 : decode cX11_set 51 = .ok (.aload_n 0, 1) := by decide +kernel
theorem dX11_set_52 : decode cX11_set 52 = .ok (.getfield 10, 3) := by decide +kernel
theorem dX11_set_55 : decode cX11_set 55 = .ok (.getfield 132, 3) := by decide +kernel
theorem dX11_set_58 : decode cX11_set 58 = .ok (.iload_n 2, 1) := by decide +kernel
theorem dX11_set_59 : decode cX11_set 59 = .ok (.iload_n 3, 1) := by decide +kernel
theorem dX11_set_60 : decode cX11_set 60 = .ok (.iastore, 1) := by decide +kernel
theorem dX11_set_61 : decode cX11_set 61 = .ok (.goto 42, 3) := by decide +kernel
theorem dX11_set_64 : decode cX11_set 64 = .ok (.iload_n 1, 1) := by decide +kernel
theorem dX11_set_65 : decode cX11_set 65 = .ok (.iconst 1, 1) := by decide +kernel
theorem dX11_set_66 : decode cX11_set 66 = .ok (.if_icmp .ne 35, 3) := by decide +kernel
theorem dX11_set_69 : decode cX11_set 69 = .ok (.iload_n 2, 1) := by decide +kernel
theorem dX11_set_70 : decode cX11_set 70 = .ok (.bipush 6, 2) := by decide +kernel
theorem dX11_set_72 : decode cX11_set 72 = .ok (.invokestatic 114, 3) := by decide +kernel
theorem dX11_set_75 : decode cX11_set 75 = .ok (.ifCond .eq 26, 3) := by decide +kernel
theorem dX11_set_78 : decode cX11_set 78 = .ok (.iload_n 3, 1) := by decide +kernel
theorem dX11_set_79 : decode cX11_set 79 = .ok (.ifCond .lt 22, 3) := by decide +kernel
theorem dX11_set_82 : decode cX11_set 82 = .ok (.iload_n 3, 1) := by decide +kernel
theorem dX11_set_83 : decode cX11_set 83 = .ok (.bipush 9, 2) := by decide +kernel
theorem dX11_set_85 : decode cX11_set 85 = .ok (.if_icmp .gt 16, 3) := by decide +kernel
theorem dX11_set_88 : decode cX11_set 88 = .ok (.aload_n 0, 1) := by decide +kernel
theorem dX11_set_89 : decode cX11_set 89 = .ok (.getfield 10, 3) := by decide +kernel
theorem dX11_set_92 : decode cX11_set 92 = .ok (.getfield 136, 3) := by decide +kernel
theorem dX11_set_95 : decode cX11_set 95 = .ok (.iload_n 2, 1) := by decide +kernel
theorem dX11_set_96 : decode cX11_set 96 = .ok (.iload_n 3, 1) := by decide +kernel
theorem dX11_set_97 : decode cX11_set 97 = .ok (.iastore, 1) := by decide +kernel
theorem dX11_set_98 : decode cX11_set 98 = .ok (.goto 5, 3) := by decide +kernel
theorem dX11_set_101 : decode cX11_set 101 = .ok (.iconst 0, 1) := by decide +kernel
theorem dX11_set_102 : decode cX11_set 102 = .ok (.ireturn, 1) := by decide +kernel
theorem dX11_set_103 : decode cX11_set 103 = .ok (.aload_n 0, 1) := by decide +kernel
theorem dX11_set_104 : decode cX11_set 104 = .ok (.iconst 0, 1) := by decide +kernel
theorem dX11_set_105 : decode cX11_set 105 = .ok (.putfield 107, 3) := by decide +kernel
theorem dX11_set_108 : decode cX11_set 108 = .ok (.iconst 1, 1) := by decide +kernel
theorem dX11_set_109 : decode cX11_set 109 = .ok (.ireturn, 1) := by decide +kernel
theorem dX11_tie_0 : decode cX11_tie 0 = .ok (.aload_n 0, 1) := by decide +kernel
theorem dX11_tie_1 : decode cX11_tie 1 = .ok (.getfield 10, 3) := by decide +kernel
theorem dX11_tie_4 : decode cX11_tie 4 = .ok (.iload_n 1, 1) := by decide +kernel
theorem dX11_tie_5 : decode cX11_tie 5 = .ok (.invokevirtual 139, 3) := by decide +kernel
theorem dX11_tie_8 : decode cX11_tie 8 = .ok (.astore 5, 2) := by decide +kernel
theorem dX11_tie_10 : decode cX11_tie 10 = .ok (.aload 5, 2) := by decide +kernel
theorem dX11_tie_12 : decode cX11_tie 12 = .ok (.ifnull 31, 3) := by decide +kernel
theorem dX11_tie_15 : decode cX11_tie 15 = .ok (.aload 5, 2) := by decide +kernel
theorem dX11_tie_17 : decode cX11_tie 17 = .ok (.iload_n 2, 1) := by decide +kernel
theorem dX11_tie_18 : decode cX11_tie 18 = .ok (.invokevirtual 143, 3) := by decide +kernel
theorem dX11_tie_21 : decode cX11_tie 21 = .ok (.ifCond .eq 22, 3) := by decide +kernel
theorem dX11_tie_24 : decode cX11_tie 24 = .ok (.iload_n 3, 1) := by decide +kernel
theorem dX11_tie_25 : decode cX11_tie 25 = .ok (.bipush 6, 2) := by decide +kernel
theorem dX11_tie_27 : decode cX11_tie 27 = .ok (.invokestatic 114, 3) := by decide +kernel
theorem dX11_tie_30 : decode cX11_tie 30 = .ok (.ifCond .eq 13, 3) := by decide +kernel
theorem dX11_tie_33 : decode cX11_tie 33 = .ok (.iload 4, 2) := by decide +kernel
theorem dX11_tie_35 : decode cX11_tie 35 = .ok (.bipush 10, 2) := by decide +kernel
theorem dX11_tie_37 : decode cX11_tie 37 = .ok (.invokestatic 114, 3) := by decide +kernel
theorem dX11_tie_40 : decode cX11_tie 40 = .ok (.ifCond .ne 5, 3) := by decide +kernel
theorem dX11_tie_43 : decode cX11_tie 43 = .ok (.iconst 0, 1) := by decide +kernel
theorem dX11_tie_44 : decode cX11_tie 44 = .ok (.ireturn, 1) := by decide +kernel
theorem dX11_tie_45 : decode cX11_tie 45 = .ok (.aload_n 0, 1) := by decide +kernel
theorem dX11_tie_46 : decode cX11_tie 46 = .ok (.invokevirtual 147, 3) := by decide +kernel
theorem dX11_tie_49 : decode cX11_tie 49 = .ok (.aload_n 0, 1) := by decide +kernel
theorem dX11_tie_50 : decode cX11_tie 50 = .ok (.iload_n 1, 1) := by decide +kernel
theorem dX11_tie_51 : decode cX11_tie 51 = .ok (.iload_n 2, 1) := by decide +kernel
theorem dX11_tie_52 : decode cX11_tie 52 = .ok (.iload_n 3, 1) := by decide +kernel
theorem dX11_tie_53 : decode cX11_tie 53 = .ok (.iload 4, 2) := by decide +kernel
theorem dX11_tie_55 : decode cX11_tie 55 = .ok (.invokevirtual 150, 3) := by decide +kernel
theorem dX11_tie_58 : decode cX11_tie 58 = .ok (.iconst 1, 1) := by decide +kernel
theorem dX11_tie_59 : decode cX11_tie 59 = .ok (.ireturn, 1) := by decide +kernel
theorem dX11_untie_0 : decode cX11_untie 0 = .ok (.aload_n 0, 1) := by decide +kernel
theorem dX11_untie_1 : decode cX11_untie 1 = .ok (.getfield 10, 3) := by decide +kernel
theorem dX11_untie_4 : decode cX11_untie 4 = .ok (.iload_n 1, 1) := by decide +kernel
theorem dX11_untie_5 : decode cX11_untie 5 = .ok (.invokevirtual 139, 3) := by decide +kernel
theorem dX11_untie_8 : decode cX11_untie 8 = .ok (.astore_n 3, 1) := by decide +kernel
theorem dX11_untie_9 : decode cX11_untie 9 = .ok (.aload_n 3, 1) := by decide +kernel
theorem dX11_untie_10 : decode cX11_untie 10 = .ok (.ifnull 11, 3) := by decide +kernel
theorem dX11_untie_13 : decode cX11_untie 13 = .ok (.aload_n 3, 1) := by decide +kernel
theorem dX11_untie_14 : decode cX11_untie 14 = .ok (.iload_n 2, 1) := by decide +kernel
theorem dX11_untie_15 : decode cX11_untie 15 = .ok (.invokevirtual 154, 3) := by decide +kernel
theorem dX11_untie_18 : decode cX11_untie 18 = .ok (.ifCond .ne 5, 3) := by decide +kernel
theorem dX11_untie_21 : decode cX11_untie 21 = .ok (.iconst (-1), 1) := by decide +kernel
theorem dX11_untie_22 : decode cX11_untie 22 = .ok (.ireturn, 1) := by decide +kernel
theorem dX11_untie_23 : decode cX11_untie 23 = .ok (.aload_n 0, 1) := by decide +kernel
theorem dX11_untie_24 : decode cX11_untie 24 = .ok (.invokevirtual 147, 3) := by decide +kernel
theorem dX11_untie_27 : decode cX11_untie 27 = .ok (.aload_n 3, 1) := by decide +kernel
theorem dX11_untie_28 : decode cX11_untie 28 = .ok (.getfield 157, 3) := by decide +kernel
theorem dX11_untie_31 : decode cX11_untie 31 = .ok (.iload_n 2, 1) := by decide +kernel
theorem dX11_untie_32 : decode cX11_untie 32 = .ok (.iaload, 1) := by decide +kernel
theorem dX11_untie_33 : decode cX11_untie 33 = .ok (.istore 4, 2) := by decide +kernel
theorem dX11_untie_35 : decode cX11_untie 35 = .ok (.aload_n 3, 1) := by decide +kernel
theorem dX11_untie_36 : decode cX11_untie 36 = .ok (.getfield 157, 3) := by decide +kernel
theorem dX11_untie_39 : decode cX11_untie 39 = .ok (.iload_n 2, 1) := by decide +kernel
theorem dX11_untie_40 : decode cX11_untie 40 = .ok (.iconst (-1), 1) := by decide +kernel
theorem dX11_untie_41 : decode cX11_untie 41 = .ok (.iastore, 1) := by decide +kernel
theorem dX11_untie_42 : decode cX11_untie 42 = .ok (.iload 4, 2) := by decide +kernel
theorem dX11_untie_44 : decode cX11_untie 44 = .ok (.ireturn, 1) := by decide +kernel
theorem dX11_pull_0 : decode cX11_pull 0 = .ok (.aload_n 0, 1) := by decide +kernel
theorem dX11_pull_1 : decode cX11_pull 1 = .ok (.getfield 10, 3) := by decide +kernel
theorem dX11_pull_4 : decode cX11_pull 4 = .ok (.iload_n 1, 1) := by decide +kernel
theorem dX11_pull_5 : decode cX11_pull 5 = .ok (.invokevirtual 139, 3) := by decide +kernel
theorem dX11_pull_8 : decode cX11_pull 8 = .ok (.astore_n 3, 1) := by decide +kernel
theorem dX11_pull_9 : decode cX11_pull 9 = .ok (.aload_n 3, 1) := by decide +kernel
theorem dX11_pull_10 : decode cX11_pull 10 = .ok (.ifnull 12, 3) := by decide +kernel
theorem dX11_pull_13 : decode cX11_pull 13 = .ok (.iload_n 2, 1) := by decide +kernel
theorem dX11_pull_14 : decode cX11_pull 14 = .ok (.bipush 100, 2) := by decide +kernel
theorem dX11_pull_16 : decode cX11_pull 16 = .ok (.invokestatic 114, 3) := by decide +kernel
theorem dX11_pull_19 : decode cX11_pull 19 = .ok (.ifCond .ne 5, 3) := by decide +kernel
theorem dX11_pull_22 : decode cX11_pull 22 = .ok (.iconst (-1), 1) := by decide +kernel
theorem dX11_pull_23 : decode cX11_pull 23 = .ok (.ireturn, 1) := by decide +kernel
theorem dX11_pull_24 : decode cX11_pull 24 = .ok (.aload_n 0, 1) := by decide +kernel
theorem dX11_pull_25 : decode cX11_pull 25 = .ok (.invokevirtual 147, 3) := by decide +kernel
theorem dX11_pull_28 : decode cX11_pull 28 = .ok (.aload_n 0, 1) := by decide +kernel
theorem dX11_pull_29 : decode cX11_pull 29 = .ok (.iload_n 1, 1) := by decide +kernel
theorem dX11_pull_30 : decode cX11_pull 30 = .ok (.iload_n 2, 1) := by decide +kernel
theorem dX11_pull_31 : decode cX11_pull 31 = .ok (.invokevirtual 160, 3) := by decide +kernel
theorem dX11_pull_34 : decode cX11_pull 34 = .ok (.pop, 1) := by decide +kernel
theorem dX11_pull_35 : decode cX11_pull 35 = .ok (.aload_n 0, 1) := by decide +kernel
theorem dX11_pull_36 : decode cX11_pull 36 = .ok (.getfield 65, 3) := by decide +kernel
theorem dX11_pull_39 : decode cX11_pull 39 = .ok (.getfield 163, 3) := by decide +kernel
theorem dX11_pull_42 : decode cX11_pull 42 = .ok (.ireturn, 1) := by decide +kernel
theorem dX11_wet_0 : decode cX11_wet 0 = .ok (.aload_n 0, 1) := by decide +kernel
theorem dX11_wet_1 : decode cX11_wet 1 = .ok (.getfield 10, 3) := by decide +kernel
theorem dX11_wet_4 : decode cX11_wet 4 = .ok (.iload_n 1, 1) := by decide +kernel
theorem dX11_wet_5 : decode cX11_wet 5 = .ok (.invokevirtual 139, 3) := by decide +kernel
theorem dX11_wet_8 : decode cX11_wet 8 = .ok (.astore_n 3, 1) := by decide +kernel
theorem dX11_wet_9 : decode cX11_wet 9 = .ok (.aload_n 3, 1) := by decide +kernel
theorem dX11_wet_10 : decode cX11_wet 10 = .ok (.ifnull 13, 3) := by decide +kernel
theorem dX11_wet_13 : decode cX11_wet 13 = .ok (.iload_n 2, 1) := by decide +kernel
theorem dX11_wet_14 : decode cX11_wet 14 = .ok (.ifCond .lt 9, 3) := by decide +kernel
theorem dX11_wet_17 : decode cX11_wet 17 = .ok (.iload_n 2, 1) := by decide +kernel
theorem dX11_wet_18 : decode cX11_wet 18 = .ok (.bipush 9, 2) := by decide +kernel
theorem dX11_wet_20 : decode cX11_wet 20 = .ok (.if_icmp .le 5, 3) := by decide +kernel
theorem dX11_wet_23 : decode cX11_wet 23 = .ok (.iconst 0, 1) := by decide +kernel
theorem dX11_wet_24 : decode cX11_wet 24 = .ok (.ireturn, 1) := by decide +kernel
theorem dX11_wet_25 : decode cX11_wet 25 = .ok (.aload_n 0, 1) := by decide +kernel
theorem dX11_wet_26 : decode cX11_wet 26 = .ok (.invokevirtual 147, 3) := by decide +kernel
theorem dX11_wet_29 : decode cX11_wet 29 = .ok (.aload_n 3, 1) := by decide +kernel
theorem dX11_wet_30 : decode cX11_wet 30 = .ok (.iload_n 2, 1) := by decide +kernel
theorem dX11_wet_31 : decode cX11_wet 31 = .ok (.aload_n 0, 1) := by decide +kernel
theorem dX11_wet_32 : decode cX11_wet 32 = .ok (.getfield 10, 3) := by decide +kernel
theorem dX11_wet_35 : decode cX11_wet 35 = .ok (.getfield 122, 3) := by decide +kernel
theorem dX11_wet_38 : decode cX11_wet 38 = .ok (.invokevirtual 166, 3) := by decide +kernel
theorem dX11_wet_41 : decode cX11_wet 41 = .ok (.iconst 1, 1) := by decide +kernel
theorem dX11_wet_42 : decode cX11_wet 42 = .ok (.ireturn, 1) := by decide +kernel
theorem dX11_cut_0 : decode cX11_cut 0 = .ok (.aload_n 0, 1) := by decide +kernel
theorem dX11_cut_1 : decode cX11_cut 1 = .ok (.getfield 10, 3) := by decide +kernel
theorem dX11_cut_4 : decode cX11_cut 4 = .ok (.iload_n 1, 1) := by decide +kernel
theorem dX11_cut_5 : decode cX11_cut 5 = .ok (.invokevirtual 139, 3) := by decide +kernel
theorem dX11_cut_8 : decode cX11_cut 8 = .ok (.astore_n 3, 1) := by decide +kernel
theorem dX11_cut_9 : decode cX11_cut 9 = .ok (.aload_n 3, 1) := by decide +kernel
theorem dX11_cut_10 : decode cX11_cut 10 = .ok (.ifnull 18, 3) := by decide +kernel
theorem dX11_cut_13 : decode cX11_cut 13 = .ok (.iload_n 2, 1) := by decide +kernel
theorem dX11_cut_14 : decode cX11_cut 14 = .ok (.iconst 2, 1) := by decide +kernel
theorem dX11_cut_15 : decode cX11_cut 15 = .ok (.if_icmp .lt 13, 3) := by decide +kernel
theorem dX11_cut_18 : decode cX11_cut 18 = .ok (.iload_n 2, 1) := by decide +kernel
theorem dX11_cut_19 : decode cX11_cut 19 = .ok (.aload_n 3, 1) := by decide +kernel
theorem dX11_cut_20 : decode cX11_cut 20 = .ok (.getfield 170, 3) := by decide +kernel
theorem dX11_cut_23 : decode cX11_cut 23 = .ok (.iconst 2, 1) := by decide +kernel
theorem dX11_cut_24 : decode cX11_cut 24 = .ok (.isub, 1) := by decide +kernel
theorem dX11_cut_25 : decode cX11_cut 25 = .ok (.if_icmp .le 5, 3) := by decide +kernel
theorem dX11_cut_28 : decode cX11_cut 28 = .ok (.iconst (-1), 1) := by decide +kernel
theorem dX11_cut_29 : decode cX11_cut 29 = .ok (.ireturn, 1) := by decide +kernel
theorem dX11_cut_30 : decode cX11_cut 30 = .ok (.aload_n 0, 1) := by decide +kernel
theorem dX11_cut_31 : decode cX11_cut 31 = .ok (.invokevirtual 147, 3) := by decide +kernel
theorem dX11_cut_34 : decode cX11_cut 34 = .ok (.aload_n 0, 1) := by decide +kernel
theorem dX11_cut_35 : decode cX11_cut 35 = .ok (.getfield 10, 3) := by decide +kernel
theorem dX11_cut_38 : decode cX11_cut 38 = .ok (.iload_n 1, 1) := by decide +kernel
theorem dX11_cut_39 : decode cX11_cut 39 = .ok (.iload_n 2, 1) := by decide +kernel
theorem dX11_cut_40 : decode cX11_cut 40 = .ok (.invokevirtual 173, 3) := by decide +kernel
theorem dX11_cut_43 : decode cX11_cut 43 = .ok (.istore 4, 2) := by decide +kernel
theorem dX11_cut_45 : decode cX11_cut 45 = .ok (.aload_n 0, 1) := by decide +kernel
theorem dX11_cut_46 : decode cX11_cut 46 = .ok (.getfield 19, 3) := by decide +kernel
theorem dX11_cut_49 : decode cX11_cut 49 = .ok (.aload_n 0, 1) := by decide +kernel
theorem dX11_cut_50 : decode cX11_cut 50 = .ok (.getfield 10, 3) := by decide +kernel
theorem dX11_cut_53 : decode cX11_cut 53 = .ok (.iload_n 1, 1) := by decide +kernel
theorem dX11_cut_54 : decode cX11_cut 54 = .ok (.iload_n 2, 1) := by decide +kernel
theorem dX11_cut_55 : decode cX11_cut 55 = .ok (.iload 4, 2) := by decide +kernel
theorem dX11_cut_57 : decode cX11_cut 57 = .ok (.iconst 3, 1) := by decide +kernel
theorem dX11_cut_58 : decode cX11_cut 58 = .ok (.iconst (-1), 1) := by decide +kernel
theorem dX11_cut_59 : decode cX11_cut 59 = .ok (.invokevirtual 177, 3) := by decide +kernel
theorem dX11_cut_62 : decode cX11_cut 62 = .ok (.iload 4, 2) := by decide +kernel
theorem dX11_cut_64 : decode cX11_cut 64 = .ok (.iconst (-1), 1) := by decide +kernel
theorem dX11_cut_65 : decode cX11_cut 65 = .ok (.if_icmp .ne 8, 3) := by decide +kernel
theorem dX11_cut_68 : decode cX11_cut 68 = .ok (.bipush (-2), 2) := by decide +kernel
theorem dX11_cut_70 : decode cX11_cut 70 = .ok (.goto 5, 3) := by decide +kernel
theorem dX11_cut_73 : decode cX11_cut 73 = .ok (.iload 4, 2) := by decide +kernel
theorem dX11_cut_75 : decode cX11_cut 75 = .ok (.ireturn, 1) := by decide +kernel
theorem dX11_splice_0 : decode cX11_splice 0 = .ok (.aload_n 0, 1) := by decide +kernel
theorem dX11_splice_1 : decode cX11_splice 1 = .ok (.getfield 10, 3) := by decide +kernel
theorem dX11_splice_4 : decode cX11_splice 4 = .ok (.iload_n 1, 1) := by decide +kernel
theorem dX11_splice_5 : decode cX11_splice 5 = .ok (.invokevirtual 139, 3) := by decide +kernel
theorem dX11_splice_8 : decode cX11_splice 8 = .ok (.astore_n 3, 1) := by decide +kernel
theorem dX11_splice_9 : decode cX11_splice 9 = .ok (.aload_n 0, 1) := by decide +kernel
theorem dX11_splice_10 : decode cX11_splice 10 = .ok (.getfield 10, 3) := by decide +kernel
theorem dX11_splice_13 : decode cX11_splice 13 = .ok (.iload_n 2, 1) := by decide +kernel
theorem dX11_splice_14 : decode cX11_splice 14 = .ok (.invokevirtual 139, 3) := by decide +kernel
theorem dX11_splice_17 : decode cX11_splice 17 = .ok (.astore 4, 2) := by decide +kernel
theorem dX11_splice_19 : decode cX11_splice 19 = .ok (.aload_n 3, 1) := by decide +kernel
theorem dX11_splice_20 : decode cX11_splice 20 = .ok (.ifnull 28, 3) := by decide +kernel
theorem dX11_splice_23 : decode cX11_splice 23 = .ok (.aload 4, 2) := by decide +kernel
theorem dX11_splice_25 : decode cX11_splice 25 = .ok (.ifnull 23, 3) := by decide +kernel
theorem dX11_splice_28 : decode cX11_splice 28 = .ok (.iload_n 1, 1) := by decide +kernel
theorem dX11_splice_29 : decode cX11_splice 29 = .ok (.iload_n 2, 1) := by decide +kernel
theorem dX11_splice_30 : decode cX11_splice 30 = .ok (.if_icmp .eq 18, 3) := by decide +kernel
theorem dX11_splice_33 : decode cX11_splice 33 = .ok (.aload_n 3, 1) := by decide +kernel
theorem dX11_splice_34 : decode cX11_splice 34 = .ok (.getfield 170, 3) := by decide +kernel
theorem dX11_splice_37 : decode cX11_splice 37 = .ok (.aload 4, 2) := by decide +kernel
theorem dX11_splice_39 : decode cX11_splice 39 = .ok (.getfield 170, 3) := by decide +kernel
theorem dX11_splice_42 : decode cX11_splice 42 = .ok (.iadd, 1) := by decide +kernel
theorem dX11_splice_43 : decode cX11_splice 43 = .ok (.bipush 24, 2) := by decide +kernel
theorem dX11_splice_45 : decode cX11_splice 45 = .ok (.if_icmp .le 5, 3) := by decide +kernel
theorem dX11_splice_48 : decode cX11_splice 48 = .ok (.iconst (-1), 1) := by decide +kernel
theorem dX11_splice_49 : decode cX11_splice 49 = .ok (.ireturn, 1) := by decide +kernel
theorem dX11_splice_50 : decode cX11_splice 50 = .ok (.aload_n 0, 1) := by decide +kernel
theorem dX11_splice_51 : decode cX11_splice 51 = .ok (.invokevirtual 147, 3) := by decide +kernel
theorem dX11_splice_54 : decode cX11_splice 54 = .ok (.aload_n 0, 1) := by decide +kernel
theorem dX11_splice_55 : decode cX11_splice 55 = .ok (.getfield 19, 3) := by decide +kernel
theorem dX11_splice_58 : decode cX11_splice 58 = .ok (.aload_n 0, 1) := by decide +kernel
theorem dX11_splice_59 : decode cX11_splice 59 = .ok (.getfield 10, 3) := by decide +kernel
theorem dX11_splice_62 : decode cX11_splice 62 = .ok (.iload_n 1, 1) := by decide +kernel
theorem dX11_splice_63 : decode cX11_splice 63 = .ok (.aload_n 3, 1) := by decide +kernel
theorem dX11_splice_64 : decode cX11_splice 64 = .ok (.getfield 170, 3) := by decide +kernel
theorem dX11_splice_67 : decode cX11_splice 67 = .ok (.iload_n 2, 1) := by decide +kernel
theorem dX11_splice_68 : decode cX11_splice 68 = .ok (.iconst 4, 1) := by decide +kernel
theorem dX11_splice_69 : decode cX11_splice 69 = .ok (.iconst (-1), 1) := by decide +kernel
theorem dX11_splice_70 : decode cX11_splice 70 = .ok (.invokevirtual 177, 3) := by decide +kernel
theorem dX11_splice_73 : decode cX11_splice 73 = .ok (.aload_n 3, 1) := by decide +kernel
theorem dX11_splice_74 : decode cX11_splice 74 = .ok (.aload 4, 2) := by decide +kernel
theorem dX11_splice_76 : decode cX11_splice 76 = .ok (.invokevirtual 181, 3) := by decide +kernel
theorem dX11_splice_79 : decode cX11_splice 79 = .ok (.aload 4, 2) := by decide +kernel
theorem dX11_splice_81 : decode cX11_splice 81 = .ok (.iconst 0, 1) := by decide +kernel
theorem dX11_splice_82 : decode cX11_splice 82 = .ok (.putfield 185, 3) := by decide +kernel
theorem dX11_splice_85 : decode cX11_splice 85 = .ok (.aload_n 3, 1) := by decide +kernel
theorem dX11_splice_86 : decode cX11_splice 86 = .ok (.getfield 170, 3) := by decide +kernel
theorem dX11_splice_89 : decode cX11_splice 89 = .ok (.ireturn, 1) := by decide +kernel
theorem dX11_sell_0 : decode cX11_sell 0 = .ok (.aload_n 0, 1) := by decide +kernel
theorem dX11_sell_1 : decode cX11_sell 1 = .ok (.getfield 10, 3) := by decide +kernel
theorem dX11_sell_4 : decode cX11_sell 4 = .ok (.iload_n 1, 1) := by decide +kernel
theorem dX11_sell_5 : decode cX11_sell 5 = .ok (.invokevirtual 139, 3) := by decide +kernel
theorem dX11_sell_8 : decode cX11_sell 8 = .ok (.astore_n 3, 1) := by decide +kernel
theorem dX11_sell_9 : decode cX11_sell 9 = .ok (.aload_n 3, 1) := by decide +kernel
theorem dX11_sell_10 : decode cX11_sell 10 = .ok (.ifnull 20, 3) := by decide +kernel
theorem dX11_sell_13 : decode cX11_sell 13 = .ok (.iload_n 2, 1) := by decide +kernel
theorem dX11_sell_14 : decode cX11_sell 14 = .ok (.bipush 10, 2) := by decide +kernel
theorem dX11_sell_16 : decode cX11_sell 16 = .ok (.invokestatic 114, 3) := by decide +kernel
theorem dX11_sell_19 : decode cX11_sell 19 = .ok (.ifCond .eq 11, 3) := by decide +kernel
theorem dX11_sell_22 : decode cX11_sell 22 = .ok (.iload_n 2, 1) := by decide +kernel
theorem dX11_sell_23 : decode cX11_sell 23 = .ok (.aload_n 3, 1) := by decide +kernel
theorem dX11_sell_24 : decode cX11_sell 24 = .ok (.getfield 189, 3) := by decide +kernel
theorem dX11_sell_27 : decode cX11_sell 27 = .ok (.if_icmp .ne 5, 3) := by decide +kernel
theorem dX11_sell_30 : decode cX11_sell 30 = .ok (.iconst 0, 1) := by decide +kernel
theorem dX11_sell_31 : decode cX11_sell 31 = .ok (.ireturn, 1) := by decide +kernel
theorem dX11_sell_32 : decode cX11_sell 32 = .ok (.aload_n 0, 1) := by decide +kernel
theorem dX11_sell_33 : decode cX11_sell 33 = .ok (.invokevirtual 147, 3) := by decide +kernel
theorem dX11_sell_36 : decode cX11_sell 36 = .ok (.aload_n 3, 1) := by decide +kernel
theorem dX11_sell_37 : decode cX11_sell 37 = .ok (.iload_n 2, 1) := by decide +kernel
theorem dX11_sell_38 : decode cX11_sell 38 = .ok (.putfield 189, 3) := by decide +kernel
theorem dX11_sell_41 : decode cX11_sell 41 = .ok (.aload_n 0, 1) := by decide +kernel
theorem dX11_sell_42 : decode cX11_sell 42 = .ok (.getfield 19, 3) := by decide +kernel
theorem dX11_sell_45 : decode cX11_sell 45 = .ok (.aload_n 0, 1) := by decide +kernel
theorem dX11_sell_46 : decode cX11_sell 46 = .ok (.getfield 10, 3) := by decide +kernel
theorem dX11_sell_49 : decode cX11_sell 49 = .ok (.iload_n 1, 1) := by decide +kernel
theorem dX11_sell_50 : decode cX11_sell 50 = .ok (.iconst (-1), 1) := by decide +kernel
theorem dX11_sell_51 : decode cX11_sell 51 = .ok (.iload_n 2, 1) := by decide +kernel
theorem dX11_sell_52 : decode cX11_sell 52 = .ok (.iconst 5, 1) := by decide +kernel
theorem dX11_sell_53 : decode cX11_sell 53 = .ok (.iconst (-1), 1) := by decide +kernel
theorem dX11_sell_54 : decode cX11_sell 54 = .ok (.invokevirtual 177, 3) := by decide +kernel
theorem dX11_sell_57 : decode cX11_sell 57 = .ok (.iconst 1, 1) := by decide +kernel
theorem dX11_sell_58 : decode cX11_sell 58 = .ok (.ireturn, 1) := by decide +kernel
theorem dX11_days_0 : decode cX11_days 0 = .ok (.iload_n 1, 1) := by decide +kernel
theorem dX11_days_1 : decode cX11_days 1 = .ok (.iconst 1, 1) := by decide +kernel
theorem dX11_days_2 : decode cX11_days 2 = .ok (.if_icmp .lt 24, 3) := by decide +kernel
theorem dX11_days_5 : decode cX11_days 5 = .ok (.iload_n 1, 1) := by decide +kernel
theorem dX11_days_6 : decode cX11_days 6 = .ok (.bipush 60, 2) := by decide +kernel
theorem dX11_days_8 : decode cX11_days 8 = .ok (.if_icmp .gt 18, 3) := by decide +kernel
theorem dX11_days_11 : decode cX11_days 11 = .ok (.aload_n 0, 1) := by decide +kernel
theorem dX11_days_12 : decode cX11_days 12 = .ok (.getfield 10, 3) := by decide +kernel
theorem dX11_days_15 : decode cX11_days 15 = .ok (.getfield 122, 3) := by decide +kernel
theorem dX11_days_18 : decode cX11_days 18 = .ok (.iload_n 1, 1) := by decide +kernel
theorem dX11_days_19 : decode cX11_days 19 = .ok (.iadd, 1) := by decide +kernel
theorem dX11_days_20 : decode cX11_days 20 = .ok (.sipush 9999, 3) := by decide +kernel
theorem dX11_days_23 : decode cX11_days 23 = .ok (.if_icmp .le 5, 3) := by decide +kernel
theorem dX11_days_26 : decode cX11_days 26 = .ok (.iconst (-1), 1) := by decide +kernel
theorem dX11_days_27 : decode cX11_days 27 = .ok (.ireturn, 1) := by decide +kernel
theorem dX11_days_28 : decode cX11_days 28 = .ok (.iconst 0, 1) := by decide +kernel
theorem dX11_days_29 : decode cX11_days 29 = .ok (.istore_n 2, 1) := by decide +kernel
theorem dX11_days_30 : decode cX11_days 30 = .ok (.iconst 0, 1) := by decide +kernel
theorem dX11_days_31 : decode cX11_days 31 = .ok (.istore_n 3, 1) := by decide +kernel
theorem dX11_days_32 : decode cX11_days 32 = .ok (.iload_n 3, 1) := by decide +kernel
theorem dX11_days_33 : decode cX11_days 33 = .ok (.iload_n 1, 1) := by decide +kernel
theorem dX11_days_34 : decode cX11_days 34 = .ok (.if_icmp .ge 20, 3) := by decide +kernel
theorem dX11_days_37 : decode cX11_days 37 = .ok (.aload_n 0, 1) := by decide +kernel
theorem dX11_days_38 : decode cX11_days 38 = .ok (.invokevirtual 147, 3) := by decide +kernel
theorem dX11_days_41 : decode cX11_days 41 = .ok (.iload_n 2, 1) := by decide +kernel
theorem dX11_days_42 : decode cX11_days 42 = .ok (.aload_n 0, 1) := by decide +kernel
theorem dX11_days_43 : decode cX11_days 43 = .ok (.invokevirtual 192, 3) := by decide +kernel
theorem dX11_days_46 : decode cX11_days 46 = .ok (.iadd, 1) := by decide +kernel
theorem dX11_days_47 : decode cX11_days 47 = .ok (.istore_n 2, 1) := by decide +kernel
theorem dX11_days_48 : decode cX11_days 48 = .ok (.iinc 3 1, 3) := by decide +kernel
theorem dX11_days_51 : decode cX11_days 51 = .ok (.goto (-19), 3) := by decide +kernel
theorem dX11_days_54 : decode cX11_days 54 = .ok (.iload_n 2, 1) := by decide +kernel
theorem dX11_days_55 : decode cX11_days 55 = .ok (.ireturn, 1) := by decide +kernel
theorem dX11_feed_0 : decode cX11_feed 0 = .ok (.aload_n 0, 1) := by decide +kernel
theorem dX11_feed_1 : decode cX11_feed 1 = .ok (.getfield 33, 3) := by decide +kernel
theorem dX11_feed_4 : decode cX11_feed 4 = .ok (.getfield 195, 3) := by decide +kernel
theorem dX11_feed_7 : decode cX11_feed 7 = .ok (.bipush 20, 2) := by decide +kernel
theorem dX11_feed_9 : decode cX11_feed 9 = .ok (.iadd, 1) := by decide +kernel
theorem dX11_feed_10 : decode cX11_feed 10 = .ok (.sipush 400, 3) := by decide +kernel
theorem dX11_feed_13 : decode cX11_feed 13 = .ok (.if_icmp .le 5, 3) := by decide +kernel
theorem dX11_feed_16 : decode cX11_feed 16 = .ok (.iconst (-1), 1) := by decide +kernel
theorem dX11_feed_17 : decode cX11_feed 17 = .ok (.ireturn, 1) := by decide +kernel
theorem dX11_feed_18 : decode cX11_feed 18 = .ok (.aload_n 0, 1) := by decide +kernel
theorem dX11_feed_19 : decode cX11_feed 19 = .ok (.getfield 33, 3) := by decide +kernel
theorem dX11_feed_22 : decode cX11_feed 22 = .ok (.iload_n 1, 1) := by decide +kernel
theorem dX11_feed_23 : decode cX11_feed 23 = .ok (.invokevirtual 196, 3) := by decide +kernel
theorem dX11_feed_26 : decode cX11_feed 26 = .ok (.aload_n 0, 1) := by decide +kernel
theorem dX11_feed_27 : decode cX11_feed 27 = .ok (.getfield 33, 3) := by decide +kernel
theorem dX11_feed_30 : decode cX11_feed 30 = .ok (.iload_n 2, 1) := by decide +kernel
theorem dX11_feed_31 : decode cX11_feed 31 = .ok (.invokevirtual 196, 3) := by decide +kernel
theorem dX11_feed_34 : decode cX11_feed 34 = .ok (.aload_n 0, 1) := by decide +kernel
theorem dX11_feed_35 : decode cX11_feed 35 = .ok (.getfield 33, 3) := by decide +kernel
theorem dX11_feed_38 : decode cX11_feed 38 = .ok (.iload_n 3, 1) := by decide +kernel
theorem dX11_feed_39 : decode cX11_feed 39 = .ok (.invokevirtual 196, 3) := by decide +kernel
theorem dX11_feed_42 : decode cX11_feed 42 = .ok (.aload_n 0, 1) := by decide +kernel
theorem dX11_feed_43 : decode cX11_feed 43 = .ok (.getfield 33, 3) := by decide +kernel
theorem dX11_feed_46 : decode cX11_feed 46 = .ok (.iload 4, 2) := by decide +kernel
theorem dX11_feed_48 : decode cX11_feed 48 = .ok (.invokevirtual 196, 3) := by decide +kernel
theorem dX11_feed_51 : decode cX11_feed 51 = .ok (.aload_n 0, 1) := by decide +kernel
theorem dX11_feed_52 : decode cX11_feed 52 = .ok (.getfield 33, 3) := by decide +kernel
theorem dX11_feed_55 : decode cX11_feed 55 = .ok (.iload 5, 2) := by decide +kernel
theorem dX11_feed_57 : decode cX11_feed 57 = .ok (.invokevirtual 196, 3) := by decide +kernel
theorem dX11_feed_60 : decode cX11_feed 60 = .ok (.aload_n 0, 1) := by decide +kernel
theorem dX11_feed_61 : decode cX11_feed 61 = .ok (.getfield 33, 3) := by decide +kernel
theorem dX11_feed_64 : decode cX11_feed 64 = .ok (.getfield 195, 3) := by decide +kernel
theorem dX11_feed_67 : decode cX11_feed 67 = .ok (.ireturn, 1) := by decide +kernel
theorem dX11_end_0 : decode cX11_end 0 = .ok (.iload_n 1, 1) := by decide +kernel
theorem dX11_end_1 : decode cX11_end 1 = .ok (.ifCond .lt 14, 3) := by decide +kernel
theorem dX11_end_4 : decode cX11_end 4 = .ok (.iload_n 1, 1) := by decide +kernel
theorem dX11_end_5 : decode cX11_end 5 = .ok (.aload_n 0, 1) := by decide +kernel
theorem dX11_end_6 : decode cX11_end 6 = .ok (.getfield 33, 3) := by decide +kernel
theorem dX11_end_9 : decode cX11_end 9 = .ok (.getfield 195, 3) := by decide +kernel
theorem dX11_end_12 : decode cX11_end 12 = .ok (.if_icmp .le 5, 3) := by decide +kernel
theorem dX11_end_15 : decode cX11_end 15 = .ok (.iconst 0, 1) := by decide +kernel
theorem dX11_end_16 : decode cX11_end 16 = .ok (.ireturn, 1) := by decide +kernel
theorem dX11_end_17 : decode cX11_end 17 = .ok (.aload_n 0, 1) := by decide +kernel
theorem dX11_end_18 : decode cX11_end 18 = .ok (.getfield 33, 3) := by decide +kernel
theorem dX11_end_21 : decode cX11_end 21 = .ok (.iload_n 1, 1) := by decide +kernel
theorem dX11_end_22 : decode cX11_end 22 = .ok (.putfield 195, 3) := by decide +kernel
theorem dX11_end_25 : decode cX11_end 25 = .ok (.iconst 1, 1) := by decide +kernel
theorem dX11_end_26 : decode cX11_end 26 = .ok (.ireturn, 1) := by decide +kernel
theorem dX11_text_0 : decode cX11_text 0 = .ok (.aload_n 0, 1) := by decide +kernel
theorem dX11_text_1 : decode cX11_text 1 = .ok (.getfield 33, 3) := by decide +kernel
theorem dX11_text_4 : decode cX11_text 4 = .ok (.iconst 0, 1) := by decide +kernel
theorem dX11_text_5 : decode cX11_text 5 = .ok (.putfield 200, 3) := by decide +kernel
theorem dX11_text_8 : decode cX11_text 8 = .ok (.aload_n 0, 1) := by decide +kernel
theorem dX11_text_9 : decode cX11_text 9 = .ok (.getfield 33, 3) := by decide +kernel
theorem dX11_text_12 : decode cX11_text 12 = .ok (.iconst (-1), 1) := by decide +kernel
theorem dX11_text_13 : decode cX11_text 13 = .ok (.putfield 203, 3) := by decide +kernel
theorem dX11_text_16 : decode cX11_text 16 = .ok (.iconst (-1), 1) := by decide +kernel
theorem dX11_text_17 : decode cX11_text 17 = .ok (.istore_n 2, 1) := by decide +kernel
theorem dX11_text_18 : decode cX11_text 18 = .ok (.iload_n 1, 1) := by decide +kernel
theorem dX11_text_19 : decode cX11_text 19 = .ok (.ifCond .lt 77, 3) := by decide +kernel
theorem dX11_text_22 : decode cX11_text 22 = .ok (.iload_n 1, 1) := by decide +kernel
theorem dX11_text_23 : decode cX11_text 23 = .ok (.iconst 3, 1) := by decide +kernel
theorem dX11_text_24 : decode cX11_text 24 = .ok (.if_icmp .ge 72, 3) := by decide +kernel
theorem dX11_text_27 : decode cX11_text 27 = .ok (.aload_n 0, 1) := by decide +kernel
theorem dX11_text_28 : decode cX11_text 28 = .ok (.getfield 33, 3) := by decide +kernel
theorem dX11_text_31 : decode cX11_text 31 = .ok (.iload_n 1, 1) := by decide +kernel
theorem dX11_text_32 : decode cX11_text 32 = .ok (.ifCond .ne 8, 3) := by decide +kernel
theorem dX11_text_35 : decode cX11_text 35 = .ok (.ldc 206, 2) := by decide +kernel
theorem dX11_text_37 : decode cX11_text 37 = .ok (.goto 15, 3) := by decide +kernel
theorem dX11_text_40 : decode cX11_text 40 = .ok (.iload_n 1, 1) := by decide +kernel
theorem dX11_text_41 : decode cX11_text 41 = .ok (.iconst 1, 1) := by decide +kernel
theorem dX11_text_42 : decode cX11_text 42 = .ok (.if_icmp .ne 8, 3) := by decide +kernel
theorem dX11_text_45 : decode cX11_text 45 = .ok (.ldc 208, 2) := by decide +kernel
theorem dX11_text_47 : decode cX11_text 47 = .ok (.goto 5, 3) := by decide +kernel
theorem dX11_text_50 : decode cX11_text 50 = .ok (.ldc 210, 2) := by decide +kernel
theorem dX11_text_52 : decode cX11_text 52 = .ok (.invokevirtual 212, 3) := by decide +kernel
theorem dX11_text_55 : decode cX11_text 55 = .ok (.aload_n 0, 1) := by decide +kernel
theorem dX11_text_56 : decode cX11_text 56 = .ok (.getfield 40, 3) := by decide +kernel
theorem dX11_text_59 : decode cX11_text 59 = .ok (.aload_n 0, 1) := by decide +kernel
theorem dX11_text_60 : decode cX11_text 60 = .ok (.getfield 33, 3) := by decide +kernel
theorem dX11_text_63 : decode cX11_text 63 = .ok (.invokevirtual 216, 3) := by decide +kernel
theorem dX11_text_66 : decode cX11_text 66 = .ok (.ifCond .eq 109, 3) := by decide +kernel
theorem dX11_text_69 : decode cX11_text 69 = .ok (.aload_n 0, 1) := by decide +kernel
theorem dX11_text_70 : decode cX11_text 70 = .ok (.getfield 26, 3) := by decide +kernel
theorem dX11_text_73 : decode cX11_text 73 = .ok (.getfield 220, 3) := by decide +kernel
theorem dX11_text_76 : decode cX11_text 76 = .ok (.iload_n 1, 1) := by decide +kernel
theorem dX11_text_77 : decode cX11_text 77 = .ok (.aaload, 1) := by decide +kernel
theorem dX11_text_78 : decode cX11_text 78 = .ok (.aload_n 0, 1) := by decide +kernel
theorem dX11_text_79 : decode cX11_text 79 = .ok (.getfield 40, 3) := by decide +kernel
theorem dX11_text_82 : decode cX11_text 82 = .ok (.invokevirtual 224, 3) := by decide +kernel
theorem dX11_text_85 : decode cX11_text 85 = .ok (.aload_n 0, 1) := by decide +kernel
theorem dX11_text_86 : decode cX11_text 86 = .ok (.getfield 40, 3) := by decide +kernel
theorem dX11_text_89 : decode cX11_text 89 = .ok (.getfield 228, 3) := by decide +kernel
theorem dX11_text_92 : decode cX11_text 92 = .ok (.istore_n 2, 1) := by decide +kernel
theorem dX11_text_93 : decode cX11_text 93 = .ok (.goto 82, 3) := by decide +kernel
theorem dX11_text_96 : decode cX11_text 96 = .ok (.iload_n 1, 1) := by decide +kernel
theorem dX11_text_97 : decode cX11_text 97 = .ok (.iconst 3, 1) := by decide +kernel
theorem dX11_text_98 : decode cX11_text 98 = .ok (.if_icmp .ne 51, 3) := by decide +kernel
theorem dX11_text_101 : decode cX11_text 101 = .ok (.aload_n 0, 1) := by decide +kernel
theorem dX11_text_102 : decode cX11_text 102 = .ok (.getfield 33, 3) := by decide +kernel
theorem dX11_text_105 : decode cX11_text 105 = .ok (.ldc 231, 2) := by decide +kernel
theorem dX11_text_107 : decode cX11_text 107 = .ok (.invokevirtual 212, 3) := by decide +kernel
theorem dX11_text_110 : decode cX11_text 110 = .ok (.aload_n 0, 1) := by decide +kernel
theorem dX11_text_111 : decode cX11_text 111 = .ok (.getfield 47, 3) := by decide +kernel
theorem dX11_text_114 : decode cX11_text 114 = .ok (.aload_n 0, 1) := by decide +kernel
theorem dX11_text_115 : decode cX11_text 115 = .ok (.getfield 33, 3) := by decide +kernel
theorem dX11_text_118 : decode cX11_text 118 = .ok (.invokevirtual 233, 3) := by decide +kernel
theorem dX11_text_121 : decode cX11_text 121 = .ok (.ifCond .eq 54, 3) := by decide +kernel
theorem dX11_text_124 : decode cX11_text 124 = .ok (.aload_n 0, 1) := by decide +kernel
theorem dX11_text_125 : decode cX11_text 125 = .ok (.getfield 26, 3) := by decide +kernel
theorem dX11_text_128 : decode cX11_text 128 = .ok (.getfield 234, 3) := by decide +kernel
theorem dX11_text_131 : decode cX11_text 131 = .ok (.aload_n 0, 1) := by decide +kernel
theorem dX11_text_132 : decode cX11_text 132 = .ok (.getfield 47, 3) := by decide +kernel
theorem dX11_text_135 : decode cX11_text 135 = .ok (.invokevirtual 237, 3) := by decide +kernel
theorem dX11_text_138 : decode cX11_text 138 = .ok (.aload_n 0, 1) := by decide +kernel
theorem dX11_text_139 : decode cX11_text 139 = .ok (.getfield 47, 3) := by decide +kernel
theorem dX11_text_142 : decode cX11_text 142 = .ok (.getfield 240, 3) := by decide +kernel
theorem dX11_text_145 : decode cX11_text 145 = .ok (.istore_n 2, 1) := by decide +kernel
theorem dX11_text_146 : decode cX11_text 146 = .ok (.goto 29, 3) := by decide +kernel
theorem dX11_text_149 : decode cX11_text 149 = .ok (.iload_n 1, 1) := by decide +kernel
theorem dX11_text_150 : decode cX11_text 150 = .ok (.iconst 4, 1) := by decide +kernel
theorem dX11_text_151 : decode cX11_text 151 = .ok (.if_icmp .lt 24, 3) := by decide +kernel
theorem dX11_text_154 : decode cX11_text 154 = .ok (.iload_n 1, 1) := by decide +kernel
theorem dX11_text_155 : decode cX11_text 155 = .ok (.bipush 8, 2) := by decide +kernel
theorem dX11_text_157 : decode cX11_text 157 = .ok (.if_icmp .ge 18, 3) := by decide +kernel
theorem dX11_text_160 : decode cX11_text 160 = .ok (.aload_n 0, 1) := by decide +kernel
theorem dX11_text_161 : decode cX11_text 161 = .ok (.getfield 26, 3) := by decide +kernel
theorem dX11_text_164 : decode cX11_text 164 = .ok (.iload_n 1, 1) := by decide +kernel
theorem dX11_text_165 : decode cX11_text 165 = .ok (.iconst 4, 1) := by decide +kernel
theorem dX11_text_166 : decode cX11_text 166 = .ok (.isub, 1) := by decide +kernel
theorem dX11_text_167 : decode cX11_text 167 = .ok (.aload_n 0, 1) := by decide +kernel
theorem dX11_text_168 : decode cX11_text 168 = .ok (.getfield 33, 3) := by decide +kernel
theorem dX11_text_171 : decode cX11_text 171 = .ok (.invokevirtual 243, 3) := by decide +kernel
theorem dX11_text_174 : decode cX11_text 174 = .ok (.istore_n 2, 1) := by decide +kernel
theorem dX11_text_175 : decode cX11_text 175 = .ok (.aload_n 0, 1) := by decide +kernel
theorem dX11_text_176 : decode cX11_text 176 = .ok (.getfield 33, 3) := by decide +kernel
theorem dX11_text_179 : decode cX11_text 179 = .ok (.iconst 0, 1) := by decide +kernel
theorem dX11_text_180 : decode cX11_text 180 = .ok (.putfield 195, 3) := by decide +kernel
theorem dX11_text_183 : decode cX11_text 183 = .ok (.iload_n 2, 1) := by decide +kernel
theorem dX11_text_184 : decode cX11_text 184 = .ok (.ireturn, 1) := by decide +kernel
theorem dX11_fault_0 : decode cX11_fault 0 = .ok (.iload_n 1, 1) := by decide +kernel
theorem dX11_fault_1 : decode cX11_fault 1 = .ok (.lookupswitch 43 #[(0, 27), (1, 35)], 27) := by decide +kernel
theorem dX11_fault_28 : decode cX11_fault 28 = .ok (.aload_n 0, 1) := by decide +kernel
theorem dX11_fault_29 : decode cX11_fault 29 = .ok (.getfield 33, 3) := by decide +kernel
theorem dX11_fault_32 : decode cX11_fault 32 = .ok (.getfield 200, 3) := by decide +kernel
theorem dX11_fault_35 : decode cX11_fault 35 = .ok (.ireturn, 1) := by decide +kernel
theorem dX11_fault_36 : decode cX11_fault 36 = .ok (.aload_n 0, 1) := by decide +kernel
theorem dX11_fault_37 : decode cX11_fault 37 = .ok (.getfield 33, 3) := by decide +kernel
theorem dX11_fault_40 : decode cX11_fault 40 = .ok (.getfield 203, 3) := by decide +kernel
theorem dX11_fault_43 : decode cX11_fault 43 = .ok (.ireturn, 1) := by decide +kernel
theorem dX11_fault_44 : decode cX11_fault 44 = .ok (.iconst (-1), 1) := by decide +kernel
theorem dX11_fault_45 : decode cX11_fault 45 = .ok (.ireturn, 1) := by decide +kernel
theorem dX11_drill_0 : decode cX11_drill 0 = .ok (.aload_n 0, 1) := by decide +kernel
theorem dX11_drill_1 : decode cX11_drill 1 = .ok (.getfield 10, 3) := by decide +kernel
theorem dX11_drill_4 : decode cX11_drill 4 = .ok (.iload_n 1, 1) := by decide +kernel
theorem dX11_drill_5 : decode cX11_drill 5 = .ok (.invokevirtual 139, 3) := by decide +kernel
theorem dX11_drill_8 : decode cX11_drill 8 = .ok (.ifnull 36, 3) := by decide +kernel
theorem dX11_drill_11 : decode cX11_drill 11 = .ok (.iload_n 2, 1) := by decide +kernel
theorem dX11_drill_12 : decode cX11_drill 12 = .ok (.bipush 10, 2) := by decide +kernel
theorem dX11_drill_14 : decode cX11_drill 14 = .ok (.invokestatic 114, 3) := by decide +kernel
theorem dX11_drill_17 : decode cX11_drill 17 = .ok (.ifCond .eq 27, 3) := by decide +kernel
theorem dX11_drill_20 : decode cX11_drill 20 = .ok (.aload_n 0, 1) := by decide +kernel
theorem dX11_drill_21 : decode cX11_drill 21 = .ok (.getfield 10, 3) := by decide +kernel
theorem dX11_drill_24 : decode cX11_drill 24 = .ok (.getfield 122, 3) := by decide +kernel
theorem dX11_drill_27 : decode cX11_drill 27 = .ok (.aload_n 0, 1) := by decide +kernel
theorem dX11_drill_28 : decode cX11_drill 28 = .ok (.getfield 26, 3) := by decide +kernel
theorem dX11_drill_31 : decode cX11_drill 31 = .ok (.getfield 234, 3) := by decide +kernel
theorem dX11_drill_34 : decode cX11_drill 34 = .ok (.invokevirtual 247, 3) := by decide +kernel
theorem dX11_drill_37 : decode cX11_drill 37 = .ok (.iadd, 1) := by decide +kernel
theorem dX11_drill_38 : decode cX11_drill 38 = .ok (.sipush 9999, 3) := by decide +kernel
theorem dX11_drill_41 : decode cX11_drill 41 = .ok (.if_icmp .le 5, 3) := by decide +kernel
theorem dX11_drill_44 : decode cX11_drill 44 = .ok (.iconst (-1), 1) := by decide +kernel
theorem dX11_drill_45 : decode cX11_drill 45 = .ok (.ireturn, 1) := by decide +kernel
theorem dX11_drill_46 : decode cX11_drill 46 = .ok (.aload_n 0, 1) := by decide +kernel
theorem dX11_drill_47 : decode cX11_drill 47 = .ok (.invokevirtual 147, 3) := by decide +kernel
theorem dX11_drill_50 : decode cX11_drill 50 = .ok (.iconst 0, 1) := by decide +kernel
theorem dX11_drill_51 : decode cX11_drill 51 = .ok (.istore_n 3, 1) := by decide +kernel
theorem dX11_drill_52 : decode cX11_drill 52 = .ok (.iconst 0, 1) := by decide +kernel
theorem dX11_drill_53 : decode cX11_drill 53 = .ok (.istore 4, 2) := by decide +kernel
theorem dX11_drill_55 : decode cX11_drill 55 = .ok (.iload 4, 2) := by decide +kernel
theorem dX11_drill_57 : decode cX11_drill 57 = .ok (.aload_n 0, 1) := by decide +kernel
theorem dX11_drill_58 : decode cX11_drill 58 = .ok (.getfield 26, 3) := by decide +kernel
theorem dX11_drill_61 : decode cX11_drill 61 = .ok (.getfield 234, 3) := by decide +kernel
theorem dX11_drill_64 : decode cX11_drill 64 = .ok (.getfield 240, 3) := by decide +kernel
theorem dX11_drill_67 : decode cX11_drill 67 = .ok (.if_icmp .ge 23, 3) := by decide +kernel
theorem dX11_drill_70 : decode cX11_drill 70 = .ok (.aload_n 0, 1) := by decide +kernel
theorem dX11_drill_71 : decode cX11_drill 71 = .ok (.iload_n 1, 1) := by decide +kernel
theorem dX11_drill_72 : decode cX11_drill 72 = .ok (.iload_n 2, 1) := by decide +kernel
theorem dX11_drill_73 : decode cX11_drill 73 = .ok (.iload 4, 2) := by decide +kernel
theorem dX11_drill_75 : decode cX11_drill 75 = .ok (.invokevirtual 250, 3) := by decide +kernel
theorem dX11_drill_78 : decode cX11_drill 78 = .ok (.ifCond .eq 6, 3) := by decide +kernel
theorem dX11_drill_81 : decode cX11_drill 81 = .ok (.iinc 3 1, 3) := by decide +kernel
theorem dX11_drill_84 : decode cX11_drill 84 = .ok (.iinc 4 1, 3) := by decide +kernel
theorem dX11_drill_87 : decode cX11_drill 87 = .ok (.goto (-32), 3) := by decide +kernel
theorem dX11_drill_90 : decode cX11_drill 90 = .ok (.iload_n 3, 1) := by decide +kernel
theorem dX11_drill_91 : decode cX11_drill 91 = .ok (.ireturn, 1) := by decide +kernel
theorem dX11_of_0 : decode cX11_of 0 = .ok (.aload_n 0, 1) := by decide +kernel
theorem dX11_of_1 : decode cX11_of 1 = .ok (.getfield 10, 3) := by decide +kernel
theorem dX11_of_4 : decode cX11_of 4 = .ok (.iload_n 1, 1) := by decide +kernel
theorem dX11_of_5 : decode cX11_of 5 = .ok (.invokevirtual 139, 3) := by decide +kernel
theorem dX11_of_8 : decode cX11_of 8 = .ok (.astore_n 3, 1) := by decide +kernel
theorem dX11_of_9 : decode cX11_of 9 = .ok (.aload_n 3, 1) := by decide +kernel
theorem dX11_of_10 : decode cX11_of 10 = .ok (.ifnonnull 5, 3) := by decide +kernel
theorem dX11_of_13 : decode cX11_of 13 = .ok (.iconst (-1), 1) := by decide +kernel
theorem dX11_of_14 : decode cX11_of 14 = .ok (.ireturn, 1) := by decide +kernel
theorem dX11_of_15 : decode cX11_of 15 = .ok (.iload_n 2, 1) := by decide +kernel
theorem dX11_of_16 : decode cX11_of 16 = .ok (.tableswitch 70 0 5 #[40, 45, 50, 55, 60, 65], 40) := by decide +kernel
theorem dX11_of_56 : decode cX11_of 56 = .ok (.aload_n 3, 1) := by decide +kernel
theorem dX11_of_57 : decode cX11_of 57 = .ok (.getfield 170, 3) := by decide +kernel
theorem dX11_of_60 : decode cX11_of 60 = .ok (.ireturn, 1) := by decide +kernel
theorem dX11_of_61 : decode cX11_of 61 = .ok (.aload_n 3, 1) := by decide +kernel
theorem dX11_of_62 : decode cX11_of 62 = .ok (.getfield 189, 3) := by decide +kernel
theorem dX11_of_65 : decode cX11_of 65 = .ok (.ireturn, 1) := by decide +kernel
theorem dX11_of_66 : decode cX11_of 66 = .ok (.aload_n 3, 1) := by decide +kernel
theorem dX11_of_67 : decode cX11_of 67 = .ok (.getfield 254, 3) := by decide +kernel
theorem dX11_of_70 : decode cX11_of 70 = .ok (.ireturn, 1) := by decide +kernel
theorem dX11_of_71 : decode cX11_of 71 = .ok (.aload_n 3, 1) := by decide +kernel
theorem dX11_of_72 : decode cX11_of 72 = .ok (.getfield 257, 3) := by decide +kernel
theorem dX11_of_75 : decode cX11_of 75 = .ok (.ireturn, 1) := by decide +kernel
theorem dX11_of_76 : decode cX11_of 76 = .ok (.aload_n 3, 1) := by decide +kernel
theorem dX11_of_77 : decode cX11_of 77 = .ok (.invokevirtual 260, 3) := by decide +kernel
theorem dX11_of_80 : decode cX11_of 80 = .ok (.ireturn, 1) := by decide +kernel
theorem dX11_of_81 : decode cX11_of 81 = .ok (.aload_n 3, 1) := by decide +kernel
theorem dX11_of_82 : decode cX11_of 82 = .ok (.invokevirtual 263, 3) := by decide +kernel
theorem dX11_of_85 : decode cX11_of 85 = .ok (.ireturn, 1) := by decide +kernel
theorem dX11_of_86 : decode cX11_of 86 = .ok (.iconst (-1), 1) := by decide +kernel
theorem dX11_of_87 : decode cX11_of 87 = .ok (.ireturn, 1) := by decide +kernel
theorem dX11_at_0 : decode cX11_at 0 = .ok (.aload_n 0, 1) := by decide +kernel
theorem dX11_at_1 : decode cX11_at 1 = .ok (.getfield 10, 3) := by decide +kernel
theorem dX11_at_4 : decode cX11_at 4 = .ok (.iload_n 1, 1) := by decide +kernel
theorem dX11_at_5 : decode cX11_at 5 = .ok (.invokevirtual 139, 3) := by decide +kernel
theorem dX11_at_8 : decode cX11_at 8 = .ok (.astore 4, 2) := by decide +kernel
theorem dX11_at_10 : decode cX11_at 10 = .ok (.aload 4, 2) := by decide +kernel
theorem dX11_at_12 : decode cX11_at 12 = .ok (.ifnull 15, 3) := by decide +kernel
theorem dX11_at_15 : decode cX11_at 15 = .ok (.iload_n 2, 1) := by decide +kernel
theorem dX11_at_16 : decode cX11_at 16 = .ok (.aload 4, 2) := by decide +kernel
theorem dX11_at_18 : decode cX11_at 18 = .ok (.getfield 170, 3) := by decide +kernel
theorem dX11_at_21 : decode cX11_at 21 = .ok (.invokestatic 114, 3) := by decide +kernel
theorem dX11_at_24 : decode cX11_at 24 = .ok (.ifCond .ne 6, 3) := by decide +kernel
theorem dX11_at_27 : decode cX11_at 27 = .ok (.bipush (-2), 2) := by decide +kernel
theorem dX11_at_29 : decode cX11_at 29 = .ok (.ireturn, 1) := by decide +kernel
theorem dX11_at_30 : decode cX11_at 30 = .ok (.aload 4, 2) := by decide +kernel
theorem dX11_at_32 : decode cX11_at 32 = .ok (.getfield 157, 3) := by decide +kernel
theorem dX11_at_35 : decode cX11_at 35 = .ok (.iload_n 2, 1) := by decide +kernel
theorem dX11_at_36 : decode cX11_at 36 = .ok (.iaload, 1) := by decide +kernel
theorem dX11_at_37 : decode cX11_at 37 = .ok (.iconst (-1), 1) := by decide +kernel
theorem dX11_at_38 : decode cX11_at 38 = .ok (.if_icmp .ne 12, 3) := by decide +kernel
theorem dX11_at_41 : decode cX11_at 41 = .ok (.aload 4, 2) := by decide +kernel
theorem dX11_at_43 : decode cX11_at 43 = .ok (.iload_n 2, 1) := by decide +kernel
theorem dX11_at_44 : decode cX11_at 44 = .ok (.invokevirtual 266, 3) := by decide +kernel
theorem dX11_at_47 : decode cX11_at 47 = .ok (.goto 4, 3) := by decide +kernel
theorem dX11_at_50 : decode cX11_at 50 = .ok (.iconst (-1), 1) := by decide +kernel
theorem dX11_at_51 : decode cX11_at 51 = .ok (.istore 5, 2) := by decide +kernel
theorem dX11_at_53 : decode cX11_at 53 = .ok (.iload_n 3, 1) := by decide +kernel
theorem dX11_at_54 : decode cX11_at 54 = .ok (.tableswitch 83 0 3 #[30, 38, 41, 68], 30) := by decide +kernel
theorem dX11_at_84 : decode cX11_at 84 = .ok (.aload 4, 2) := by decide +kernel
theorem dX11_at_86 : decode cX11_at 86 = .ok (.getfield 157, 3) := by decide +kernel
theorem dX11_at_89 : decode cX11_at 89 = .ok (.iload_n 2, 1) := by decide +kernel
theorem dX11_at_90 : decode cX11_at 90 = .ok (.iaload, 1) := by decide +kernel
theorem dX11_at_91 : decode cX11_at 91 = .ok (.ireturn, 1) := by decide +kernel
theorem dX11_at_92 : decode cX11_at 92 = .ok (.iload 5, 2) := by decide +kernel
theorem dX11_at_94 : decode cX11_at 94 = .ok (.ireturn, 1) := by decide +kernel
theorem dX11_at_95 : decode cX11_at 95 = .ok (.iload 5, 2) := by decide +kernel
theorem dX11_at_97 : decode cX11_at 97 = .ok (.iconst (-1), 1) := by decide +kernel
theorem dX11_at_98 : decode cX11_at 98 = .ok (.if_icmp .ne 7, 3) := by decide +kernel
theorem dX11_at_101 : decode cX11_at 101 = .ok (.iconst (-1), 1) := by decide +kernel
theorem dX11_at_102 : decode cX11_at 102 = .ok (.goto 19, 3) := by decide +kernel
theorem dX11_at_105 : decode cX11_at 105 = .ok (.aload_n 0, 1) := by decide +kernel
theorem dX11_at_106 : decode cX11_at 106 = .ok (.getfield 56, 3) := by decide +kernel
theorem dX11_at_109 : decode cX11_at 109 = .ok (.aload_n 0, 1) := by decide +kernel
theorem dX11_at_110 : decode cX11_at 110 = .ok (.getfield 10, 3) := by decide +kernel
theorem dX11_at_113 : decode cX11_at 113 = .ok (.aload 4, 2) := by decide +kernel
theorem dX11_at_115 : decode cX11_at 115 = .ok (.iload_n 2, 1) := by decide +kernel
theorem dX11_at_116 : decode cX11_at 116 = .ok (.iload 5, 2) := by decide +kernel
theorem dX11_at_118 : decode cX11_at 118 = .ok (.invokevirtual 270, 3) := by decide +kernel
theorem dX11_at_121 : decode cX11_at 121 = .ok (.ireturn, 1) := by decide +kernel
theorem dX11_at_122 : decode cX11_at 122 = .ok (.aload_n 0, 1) := by decide +kernel
theorem dX11_at_123 : decode cX11_at 123 = .ok (.getfield 56, 3) := by decide +kernel
theorem dX11_at_126 : decode cX11_at 126 = .ok (.aload_n 0, 1) := by decide +kernel
theorem dX11_at_127 : decode cX11_at 127 = .ok (.getfield 10, 3) := by decide +kernel
theorem dX11_at_130 : decode cX11_at 130 = .ok (.aload 4, 2) := by decide +kernel
theorem dX11_at_132 : decode cX11_at 132 = .ok (.iload_n 2, 1) := by decide +kernel
theorem dX11_at_133 : decode cX11_at 133 = .ok (.invokevirtual 274, 3) := by decide +kernel
theorem dX11_at_136 : decode cX11_at 136 = .ok (.ireturn, 1) := by decide +kernel
theorem dX11_at_137 : decode cX11_at 137 = .ok (.bipush (-2), 2) := by decide +kernel
theorem dX11_at_139 : decode cX11_at 139 = .ok (.ireturn, 1) := by decide +kernel
theorem dX11_habit_0 : decode cX11_habit 0 = .ok (.aload_n 0, 1) := by decide +kernel
theorem dX11_habit_1 : decode cX11_habit 1 = .ok (.getfield 10, 3) := by decide +kernel
theorem dX11_habit_4 : decode cX11_habit 4 = .ok (.iload_n 1, 1) := by decide +kernel
theorem dX11_habit_5 : decode cX11_habit 5 = .ok (.invokevirtual 139, 3) := by decide +kernel
theorem dX11_habit_8 : decode cX11_habit 8 = .ok (.astore 5, 2) := by decide +kernel
theorem dX11_habit_10 : decode cX11_habit 10 = .ok (.aload 5, 2) := by decide +kernel
theorem dX11_habit_12 : decode cX11_habit 12 = .ok (.ifnull 24, 3) := by decide +kernel
theorem dX11_habit_15 : decode cX11_habit 15 = .ok (.iload_n 2, 1) := by decide +kernel
theorem dX11_habit_16 : decode cX11_habit 16 = .ok (.aload 5, 2) := by decide +kernel
theorem dX11_habit_18 : decode cX11_habit 18 = .ok (.getfield 170, 3) := by decide +kernel
theorem dX11_habit_21 : decode cX11_habit 21 = .ok (.invokestatic 114, 3) := by decide +kernel
theorem dX11_habit_24 : decode cX11_habit 24 = .ok (.ifCond .eq 12, 3) := by decide +kernel
theorem dX11_habit_27 : decode cX11_habit 27 = .ok (.iload_n 3, 1) := by decide +kernel
theorem dX11_habit_28 : decode cX11_habit 28 = .ok (.bipush 6, 2) := by decide +kernel
theorem dX11_habit_30 : decode cX11_habit 30 = .ok (.invokestatic 114, 3) := by decide +kernel
theorem dX11_habit_33 : decode cX11_habit 33 = .ok (.ifCond .ne 6, 3) := by decide +kernel
theorem dX11_habit_36 : decode cX11_habit 36 = .ok (.bipush (-2), 2) := by decide +kernel
theorem dX11_habit_38 : decode cX11_habit 38 = .ok (.ireturn, 1) := by decide +kernel
theorem dX11_habit_39 : decode cX11_habit 39 = .ok (.iload_n 2, 1) := by decide +kernel
theorem dX11_habit_40 : decode cX11_habit 40 = .ok (.bipush 6, 2) := by decide +kernel
theorem dX11_habit_42 : decode cX11_habit 42 = .ok (.imul, 1) := by decide +kernel
theorem dX11_habit_43 : decode cX11_habit 43 = .ok (.iload_n 3, 1) := by decide +kernel
theorem dX11_habit_44 : decode cX11_habit 44 = .ok (.iadd, 1) := by decide +kernel
theorem dX11_habit_45 : decode cX11_habit 45 = .ok (.istore 6, 2) := by decide +kernel
theorem dX11_habit_47 : decode cX11_habit 47 = .ok (.aload 5, 2) := by decide +kernel
theorem dX11_habit_49 : decode cX11_habit 49 = .ok (.getfield 278, 3) := by decide +kernel
theorem dX11_habit_52 : decode cX11_habit 52 = .ok (.iload 6, 2) := by decide +kernel
theorem dX11_habit_54 : decode cX11_habit 54 = .ok (.iaload, 1) := by decide +kernel
theorem dX11_habit_55 : decode cX11_habit 55 = .ok (.ifCond .le 7, 3) := by decide +kernel
theorem dX11_habit_58 : decode cX11_habit 58 = .ok (.iconst 1, 1) := by decide +kernel
theorem dX11_habit_59 : decode cX11_habit 59 = .ok (.goto 4, 3) := by decide +kernel
theorem dX11_habit_62 : decode cX11_habit 62 = .ok (.iconst 0, 1) := by decide +kernel
theorem dX11_habit_63 : decode cX11_habit 63 = .ok (.istore 7, 2) := by decide +kernel
theorem dX11_habit_65 : decode cX11_habit 65 = .ok (.iload 4, 2) := by decide +kernel
theorem dX11_habit_67 : decode cX11_habit 67 = .ok (.tableswitch 77 0 2 #[25, 34, 52], 25) := by decide +kernel
theorem dX11_habit_92 : decode cX11_habit 92 = .ok (.aload 5, 2) := by decide +kernel
theorem dX11_habit_94 : decode cX11_habit 94 = .ok (.getfield 278, 3) := by decide +kernel
theorem dX11_habit_97 : decode cX11_habit 97 = .ok (.iload 6, 2) := by decide +kernel
theorem dX11_habit_99 : decode cX11_habit 99 = .ok (.iaload, 1) := by decide +kernel
theorem dX11_habit_100 : decode cX11_habit 100 = .ok (.ireturn, 1) := by decide +kernel
theorem dX11_habit_101 : decode cX11_habit 101 = .ok (.iload 7, 2) := by decide +kernel
theorem dX11_habit_103 : decode cX11_habit 103 = .ok (.ifCond .eq 14, 3) := by decide +kernel
theorem dX11_habit_106 : decode cX11_habit 106 = .ok (.aload 5, 2) := by decide +kernel
theorem dX11_habit_108 : decode cX11_habit 108 = .ok (.getfield 281, 3) := by decide +kernel
theorem dX11_habit_111 : decode cX11_habit 111 = .ok (.iload 6, 2) := by decide +kernel
theorem dX11_habit_113 : decode cX11_habit 113 = .ok (.iaload, 1) := by decide +kernel
theorem dX11_habit_114 : decode cX11_habit 114 = .ok (.goto 4, 3) := by decide +kernel
theorem dX11_habit_117 : decode cX11_habit 117 = .ok (.iconst (-1), 1) := by decide +kernel
theorem dX11_habit_118 : decode cX11_habit 118 = .ok (.ireturn, 1) := by decide +kernel
theorem dX11_habit_119 : decode cX11_habit 119 = .ok (.iload 7, 2) := by decide +kernel
theorem dX11_habit_121 : decode cX11_habit 121 = .ok (.ifCond .eq 21, 3) := by decide +kernel
theorem dX11_habit_124 : decode cX11_habit 124 = .ok (.aload_n 0, 1) := by decide +kernel
theorem dX11_habit_125 : decode cX11_habit 125 = .ok (.getfield 56, 3) := by decide +kernel
theorem dX11_habit_128 : decode cX11_habit 128 = .ok (.aload_n 0, 1) := by decide +kernel
theorem dX11_habit_129 : decode cX11_habit 129 = .ok (.getfield 10, 3) := by decide +kernel
theorem dX11_habit_132 : decode cX11_habit 132 = .ok (.aload 5, 2) := by decide +kernel
theorem dX11_habit_134 : decode cX11_habit 134 = .ok (.iload_n 2, 1) := by decide +kernel
theorem dX11_habit_135 : decode cX11_habit 135 = .ok (.iload_n 3, 1) := by decide +kernel
theorem dX11_habit_136 : decode cX11_habit 136 = .ok (.invokevirtual 284, 3) := by decide +kernel
theorem dX11_habit_139 : decode cX11_habit 139 = .ok (.goto 4, 3) := by decide +kernel
theorem dX11_habit_142 : decode cX11_habit 142 = .ok (.iconst 0, 1) := by decide +kernel
theorem dX11_habit_143 : decode cX11_habit 143 = .ok (.ireturn, 1) := by decide +kernel
theorem dX11_habit_144 : decode cX11_habit 144 = .ok (.bipush (-2), 2) := by decide +kernel
theorem dX11_habit_146 : decode cX11_habit 146 = .ok (.ireturn, 1) := by decide +kernel
theorem dX11_book_0 : decode cX11_book 0 = .ok (.iload_n 1, 1) := by decide +kernel
theorem dX11_book_1 : decode cX11_book 1 = .ok (.aload_n 0, 1) := by decide +kernel
theorem dX11_book_2 : decode cX11_book 2 = .ok (.getfield 10, 3) := by decide +kernel
theorem dX11_book_5 : decode cX11_book 5 = .ok (.getfield 287, 3) := by decide +kernel
theorem dX11_book_8 : decode cX11_book 8 = .ok (.invokestatic 114, 3) := by decide +kernel
theorem dX11_book_11 : decode cX11_book 11 = .ok (.ifCond .eq 12, 3) := by decide +kernel
theorem dX11_book_14 : decode cX11_book 14 = .ok (.iload_n 2, 1) := by decide +kernel
theorem dX11_book_15 : decode cX11_book 15 = .ok (.bipush 6, 2) := by decide +kernel
theorem dX11_book_17 : decode cX11_book 17 = .ok (.invokestatic 114, 3) := by decide +kernel
theorem dX11_book_20 : decode cX11_book 20 = .ok (.ifCond .ne 6, 3) := by decide +kernel
theorem dX11_book_23 : decode cX11_book 23 = .ok (.bipush (-2), 2) := by decide +kernel
theorem dX11_book_25 : decode cX11_book 25 = .ok (.ireturn, 1) := by decide +kernel
theorem dX11_book_26 : decode cX11_book 26 = .ok (.aload_n 0, 1) := by decide +kernel
theorem dX11_book_27 : decode cX11_book 27 = .ok (.getfield 19, 3) := by decide +kernel
theorem dX11_book_30 : decode cX11_book 30 = .ok (.iload_n 1, 1) := by decide +kernel
theorem dX11_book_31 : decode cX11_book 31 = .ok (.iload_n 2, 1) := by decide +kernel
theorem dX11_book_32 : decode cX11_book 32 = .ok (.invokevirtual 288, 3) := by decide +kernel
theorem dX11_book_35 : decode cX11_book 35 = .ok (.ireturn, 1) := by decide +kernel
theorem dX11_would_0 : decode cX11_would 0 = .ok (.aload_n 0, 1) := by decide +kernel
theorem dX11_would_1 : decode cX11_would 1 = .ok (.getfield 10, 3) := by decide +kernel
theorem dX11_would_4 : decode cX11_would 4 = .ok (.iload_n 1, 1) := by decide +kernel
theorem dX11_would_5 : decode cX11_would 5 = .ok (.invokevirtual 139, 3) := by decide +kernel
theorem dX11_would_8 : decode cX11_would 8 = .ok (.astore 4, 2) := by decide +kernel
theorem dX11_would_10 : decode cX11_would 10 = .ok (.aload 4, 2) := by decide +kernel
theorem dX11_would_12 : decode cX11_would 12 = .ok (.ifnull 21, 3) := by decide +kernel
theorem dX11_would_15 : decode cX11_would 15 = .ok (.iload_n 2, 1) := by decide +kernel
theorem dX11_would_16 : decode cX11_would 16 = .ok (.bipush 100, 2) := by decide +kernel
theorem dX11_would_18 : decode cX11_would 18 = .ok (.invokestatic 114, 3) := by decide +kernel
theorem dX11_would_21 : decode cX11_would 21 = .ok (.ifCond .eq 12, 3) := by decide +kernel
theorem dX11_would_24 : decode cX11_would 24 = .ok (.iload_n 3, 1) := by decide +kernel
theorem dX11_would_25 : decode cX11_would 25 = .ok (.ifCond .lt 8, 3) := by decide +kernel
theorem dX11_would_28 : decode cX11_would 28 = .ok (.iload_n 3, 1) := by decide +kernel
theorem dX11_would_29 : decode cX11_would 29 = .ok (.iconst 3, 1) := by decide +kernel
theorem dX11_would_30 : decode cX11_would 30 = .ok (.if_icmp .le 6, 3) := by decide +kernel
theorem dX11_would_33 : decode cX11_would 33 = .ok (.bipush (-2), 2) := by decide +kernel
theorem dX11_would_35 : decode cX11_would 35 = .ok (.ireturn, 1) := by decide +kernel
theorem dX11_would_36 : decode cX11_would 36 = .ok (.aload_n 0, 1) := by decide +kernel
theorem dX11_would_37 : decode cX11_would 37 = .ok (.getfield 72, 3) := by decide +kernel
theorem dX11_would_40 : decode cX11_would 40 = .ok (.aload 4, 2) := by decide +kernel
theorem dX11_would_42 : decode cX11_would 42 = .ok (.invokevirtual 291, 3) := by decide +kernel
theorem dX11_would_45 : decode cX11_would 45 = .ok (.aload_n 0, 1) := by decide +kernel
theorem dX11_would_46 : decode cX11_would 46 = .ok (.getfield 65, 3) := by decide +kernel
theorem dX11_would_49 : decode cX11_would 49 = .ok (.aload_n 0, 1) := by decide +kernel
theorem dX11_would_50 : decode cX11_would 50 = .ok (.getfield 10, 3) := by decide +kernel
theorem dX11_would_53 : decode cX11_would 53 = .ok (.aload_n 0, 1) := by decide +kernel
theorem dX11_would_54 : decode cX11_would 54 = .ok (.getfield 72, 3) := by decide +kernel
theorem dX11_would_57 : decode cX11_would 57 = .ok (.iload_n 2, 1) := by decide +kernel
theorem dX11_would_58 : decode cX11_would 58 = .ok (.invokevirtual 293, 3) := by decide +kernel
theorem dX11_would_61 : decode cX11_would 61 = .ok (.aload_n 0, 1) := by decide +kernel
theorem dX11_would_62 : decode cX11_would 62 = .ok (.getfield 65, 3) := by decide +kernel
theorem dX11_would_65 : decode cX11_would 65 = .ok (.getfield 163, 3) := by decide +kernel
theorem dX11_would_68 : decode cX11_would 68 = .ok (.ifCond .le 7, 3) := by decide +kernel
theorem dX11_would_71 : decode cX11_would 71 = .ok (.iconst 1, 1) := by decide +kernel
theorem dX11_would_72 : decode cX11_would 72 = .ok (.goto 4, 3) := by decide +kernel
theorem dX11_would_75 : decode cX11_would 75 = .ok (.iconst 0, 1) := by decide +kernel
theorem dX11_would_76 : decode cX11_would 76 = .ok (.istore 5, 2) := by decide +kernel
theorem dX11_would_78 : decode cX11_would 78 = .ok (.iload_n 3, 1) := by decide +kernel
theorem dX11_would_79 : decode cX11_would 79 = .ok (.tableswitch 71 0 2 #[25, 33, 52], 25) := by decide +kernel
theorem dX11_would_104 : decode cX11_would 104 = .ok (.aload_n 0, 1) := by decide +kernel
theorem dX11_would_105 : decode cX11_would 105 = .ok (.getfield 65, 3) := by decide +kernel
theorem dX11_would_108 : decode cX11_would 108 = .ok (.getfield 163, 3) := by decide +kernel
theorem dX11_would_111 : decode cX11_would 111 = .ok (.ireturn, 1) := by decide +kernel
theorem dX11_would_112 : decode cX11_would 112 = .ok (.iload 5, 2) := by decide +kernel
theorem dX11_would_114 : decode cX11_would 114 = .ok (.ifCond .eq 15, 3) := by decide +kernel
theorem dX11_would_117 : decode cX11_would 117 = .ok (.aload_n 0, 1) := by decide +kernel
theorem dX11_would_118 : decode cX11_would 118 = .ok (.getfield 65, 3) := by decide +kernel
theorem dX11_would_121 : decode cX11_would 121 = .ok (.getfield 297, 3) := by decide +kernel
theorem dX11_would_124 : decode cX11_would 124 = .ok (.iconst 0, 1) := by decide +kernel
theorem dX11_would_125 : decode cX11_would 125 = .ok (.iaload, 1) := by decide +kernel
theorem dX11_would_126 : decode cX11_would 126 = .ok (.goto 4, 3) := by decide +kernel
theorem dX11_would_129 : decode cX11_would 129 = .ok (.iconst (-1), 1) := by decide +kernel
theorem dX11_would_130 : decode cX11_would 130 = .ok (.ireturn, 1) := by decide +kernel
theorem dX11_would_131 : decode cX11_would 131 = .ok (.iload 5, 2) := by decide +kernel
theorem dX11_would_133 : decode cX11_would 133 = .ok (.ifCond .eq 15, 3) := by decide +kernel
theorem dX11_would_136 : decode cX11_would 136 = .ok (.aload_n 0, 1) := by decide +kernel
theorem dX11_would_137 : decode cX11_would 137 = .ok (.getfield 65, 3) := by decide +kernel
theorem dX11_would_140 : decode cX11_would 140 = .ok (.getfield 300, 3) := by decide +kernel
theorem dX11_would_143 : decode cX11_would 143 = .ok (.iconst 0, 1) := by decide +kernel
theorem dX11_would_144 : decode cX11_would 144 = .ok (.iaload, 1) := by decide +kernel
theorem dX11_would_145 : decode cX11_would 145 = .ok (.goto 4, 3) := by decide +kernel
theorem dX11_would_148 : decode cX11_would 148 = .ok (.iconst (-1), 1) := by decide +kernel
theorem dX11_would_149 : decode cX11_would 149 = .ok (.ireturn, 1) := by decide +kernel
theorem dX11_would_150 : decode cX11_would 150 = .ok (.aload_n 0, 1) := by decide +kernel
theorem dX11_would_151 : decode cX11_would 151 = .ok (.getfield 56, 3) := by decide +kernel
theorem dX11_would_154 : decode cX11_would 154 = .ok (.aload_n 0, 1) := by decide +kernel
theorem dX11_would_155 : decode cX11_would 155 = .ok (.getfield 10, 3) := by decide +kernel
theorem dX11_would_158 : decode cX11_would 158 = .ok (.aload_n 0, 1) := by decide +kernel
theorem dX11_would_159 : decode cX11_would 159 = .ok (.getfield 72, 3) := by decide +kernel
theorem dX11_would_162 : decode cX11_would 162 = .ok (.iload_n 2, 1) := by decide +kernel
theorem dX11_would_163 : decode cX11_would 163 = .ok (.invokevirtual 303, 3) := by decide +kernel
theorem dX11_would_166 : decode cX11_would 166 = .ok (.ireturn, 1) := by decide +kernel
theorem dX11_least_0 : decode cX11_least 0 = .ok (.aload_n 0, 1) := by decide +kernel
theorem dX11_least_1 : decode cX11_least 1 = .ok (.getfield 10, 3) := by decide +kernel
theorem dX11_least_4 : decode cX11_least 4 = .ok (.iload_n 1, 1) := by decide +kernel
theorem dX11_least_5 : decode cX11_least 5 = .ok (.invokevirtual 139, 3) := by decide +kernel
theorem dX11_least_8 : decode cX11_least 8 = .ok (.astore_n 3, 1) := by decide +kernel
theorem dX11_least_9 : decode cX11_least 9 = .ok (.aload_n 3, 1) := by decide +kernel
theorem dX11_least_10 : decode cX11_least 10 = .ok (.ifnull 12, 3) := by decide +kernel
theorem dX11_least_13 : decode cX11_least 13 = .ok (.iload_n 2, 1) := by decide +kernel
theorem dX11_least_14 : decode cX11_least 14 = .ok (.ifCond .lt 8, 3) := by decide +kernel
theorem dX11_least_17 : decode cX11_least 17 = .ok (.iload_n 2, 1) := by decide +kernel
theorem dX11_least_18 : decode cX11_least 18 = .ok (.iconst 1, 1) := by decide +kernel
theorem dX11_least_19 : decode cX11_least 19 = .ok (.if_icmp .le 5, 3) := by decide +kernel
theorem dX11_least_22 : decode cX11_least 22 = .ok (.iconst (-1), 1) := by decide +kernel
theorem dX11_least_23 : decode cX11_least 23 = .ok (.ireturn, 1) := by decide +kernel
theorem dX11_least_24 : decode cX11_least 24 = .ok (.iconst 0, 1) := by decide +kernel
theorem dX11_least_25 : decode cX11_least 25 = .ok (.istore 4, 2) := by decide +kernel
theorem dX11_least_27 : decode cX11_least 27 = .ok (.iload 4, 2) := by decide +kernel
theorem dX11_least_29 : decode cX11_least 29 = .ok (.bipush 100, 2) := by decide +kernel
theorem dX11_least_31 : decode cX11_least 31 = .ok (.if_icmp .ge 92, 3) := by decide +kernel
theorem dX11_least_34 : decode cX11_least 34 = .ok (.aload_n 0, 1) := by decide +kernel
theorem dX11_least_35 : decode cX11_least 35 = .ok (.getfield 72, 3) := by decide +kernel
theorem dX11_least_38 : decode cX11_least 38 = .ok (.aload_n 3, 1) := by decide +kernel
theorem dX11_least_39 : decode cX11_least 39 = .ok (.invokevirtual 291, 3) := by decide +kernel
theorem dX11_least_42 : decode cX11_least 42 = .ok (.aload_n 0, 1) := by decide +kernel
theorem dX11_least_43 : decode cX11_least 43 = .ok (.getfield 65, 3) := by decide +kernel
theorem dX11_least_46 : decode cX11_least 46 = .ok (.aload_n 0, 1) := by decide +kernel
theorem dX11_least_47 : decode cX11_least 47 = .ok (.getfield 10, 3) := by decide +kernel
theorem dX11_least_50 : decode cX11_least 50 = .ok (.aload_n 0, 1) := by decide +kernel
theorem dX11_least_51 : decode cX11_least 51 = .ok (.getfield 72, 3) := by decide +kernel
theorem dX11_least_54 : decode cX11_least 54 = .ok (.iload 4, 2) := by decide +kernel
theorem dX11_least_56 : decode cX11_least 56 = .ok (.invokevirtual 293, 3) := by decide +kernel
theorem dX11_least_59 : decode cX11_least 59 = .ok (.iload_n 2, 1) := by decide +kernel
theorem dX11_least_60 : decode cX11_least 60 = .ok (.ifCond .ne 21, 3) := by decide +kernel
theorem dX11_least_63 : decode cX11_least 63 = .ok (.aload_n 0, 1) := by decide +kernel
theorem dX11_least_64 : decode cX11_least 64 = .ok (.getfield 65, 3) := by decide +kernel
theorem dX11_least_67 : decode cX11_least 67 = .ok (.getfield 163, 3) := by decide +kernel
theorem dX11_least_70 : decode cX11_least 70 = .ok (.ifCond .le 7, 3) := by decide +kernel
theorem dX11_least_73 : decode cX11_least 73 = .ok (.iconst 1, 1) := by decide +kernel
theorem dX11_least_74 : decode cX11_least 74 = .ok (.goto 33, 3) := by decide +kernel
theorem dX11_least_77 : decode cX11_least 77 = .ok (.iconst 0, 1) := by decide +kernel
theorem dX11_least_78 : decode cX11_least 78 = .ok (.goto 29, 3) := by decide +kernel
theorem dX11_least_81 : decode cX11_least 81 = .ok (.aload_n 0, 1) := by decide +kernel
theorem dX11_least_82 : decode cX11_least 82 = .ok (.getfield 56, 3) := by decide +kernel
theorem dX11_least_85 : decode cX11_least 85 = .ok (.aload_n 0, 1) := by decide +kernel
theorem dX11_least_86 : decode cX11_least 86 = .ok (.getfield 10, 3) := by decide +kernel
theorem dX11_least_89 : decode cX11_least 89 = .ok (.aload_n 0, 1) := by decide +kernel
theorem dX11_least_90 : decode cX11_least 90 = .ok (.getfield 72, 3) := by decide +kernel
theorem dX11_least_93 : decode cX11_least 93 = .ok (.iload 4, 2) := by decide +kernel
theorem dX11_least_95 : decode cX11_least 95 = .ok (.invokevirtual 303, 3) := by decide +kernel
theorem dX11_least_98 : decode cX11_least 98 = .ok (.iconst (-1), 1) := by decide +kernel
theorem dX11_least_99 : decode cX11_least 99 = .ok (.if_icmp .eq 7, 3) := by decide +kernel
theorem dX11_least_102 : decode cX11_least 102 = .ok (.iconst 1, 1) := by decide +kernel
theorem dX11_least_103 : decode cX11_least 103 = .ok (.goto 4, 3) := by decide +kernel
theorem dX11_least_106 : decode cX11_least 106 = .ok (.iconst 0, 1) := by decide +kernel
theorem dX11_least_107 : decode cX11_least 107 = .ok (.istore 5, 2) := by decide +kernel
theorem dX11_least_109 : decode cX11_least 109 = .ok (.iload 5, 2) := by decide +kernel
theorem dX11_least_111 : decode cX11_least 111 = .ok (.ifCond .eq 6, 3) := by decide +kernel
theorem dX11_least_114 : decode cX11_least 114 = .ok (.iload 4, 2) := by decide +kernel
theorem dX11_least_116 : decode cX11_least 116 = .ok (.ireturn, 1) := by decide +kernel
theorem dX11_least_117 : decode cX11_least 117 = .ok (.iinc 4 1, 3) := by decide +kernel
theorem dX11_least_120 : decode cX11_least 120 = .ok (.goto (-93), 3) := by decide +kernel
theorem dX11_least_123 : decode cX11_least 123 = .ok (.iconst (-1), 1) := by decide +kernel
theorem dX11_least_124 : decode cX11_least 124 = .ok (.ireturn, 1) := by decide +kernel
theorem dX11_train_0 : decode cX11_train 0 = .ok (.aload_n 0, 1) := by decide +kernel
theorem dX11_train_1 : decode cX11_train 1 = .ok (.getfield 10, 3) := by decide +kernel
theorem dX11_train_4 : decode cX11_train 4 = .ok (.iload_n 1, 1) := by decide +kernel
theorem dX11_train_5 : decode cX11_train 5 = .ok (.invokevirtual 139, 3) := by decide +kernel
theorem dX11_train_8 : decode cX11_train 8 = .ok (.astore 5, 2) := by decide +kernel
theorem dX11_train_10 : decode cX11_train 10 = .ok (.aload 5, 2) := by decide +kernel
theorem dX11_train_12 : decode cX11_train 12 = .ok (.ifnull 31, 3) := by decide +kernel
theorem dX11_train_15 : decode cX11_train 15 = .ok (.aload 5, 2) := by decide +kernel
theorem dX11_train_17 : decode cX11_train 17 = .ok (.iload_n 2, 1) := by decide +kernel
theorem dX11_train_18 : decode cX11_train 18 = .ok (.invokevirtual 143, 3) := by decide +kernel
theorem dX11_train_21 : decode cX11_train 21 = .ok (.ifCond .eq 22, 3) := by decide +kernel
theorem dX11_train_24 : decode cX11_train 24 = .ok (.iload_n 3, 1) := by decide +kernel
theorem dX11_train_25 : decode cX11_train 25 = .ok (.bipush 6, 2) := by decide +kernel
theorem dX11_train_27 : decode cX11_train 27 = .ok (.invokestatic 114, 3) := by decide +kernel
theorem dX11_train_30 : decode cX11_train 30 = .ok (.ifCond .eq 13, 3) := by decide +kernel
theorem dX11_train_33 : decode cX11_train 33 = .ok (.iload 4, 2) := by decide +kernel
theorem dX11_train_35 : decode cX11_train 35 = .ok (.bipush 100, 2) := by decide +kernel
theorem dX11_train_37 : decode cX11_train 37 = .ok (.invokestatic 114, 3) := by decide +kernel
theorem dX11_train_40 : decode cX11_train 40 = .ok (.ifCond .ne 5, 3) := by decide +kernel
theorem dX11_train_43 : decode cX11_train 43 = .ok (.iconst (-1), 1) := by decide +kernel
theorem dX11_train_44 : decode cX11_train 44 = .ok (.ireturn, 1) := by decide +kernel
theorem dX11_train_45 : decode cX11_train 45 = .ok (.aload_n 0, 1) := by decide +kernel
theorem dX11_train_46 : decode cX11_train 46 = .ok (.getfield 72, 3) := by decide +kernel
theorem dX11_train_49 : decode cX11_train 49 = .ok (.aload 5, 2) := by decide +kernel
theorem dX11_train_51 : decode cX11_train 51 = .ok (.invokevirtual 291, 3) := by decide +kernel
theorem dX11_train_54 : decode cX11_train 54 = .ok (.iconst 0, 1) := by decide +kernel
theorem dX11_train_55 : decode cX11_train 55 = .ok (.istore 6, 2) := by decide +kernel
theorem dX11_train_57 : decode cX11_train 57 = .ok (.iload 6, 2) := by decide +kernel
theorem dX11_train_59 : decode cX11_train 59 = .ok (.bipush 30, 2) := by decide +kernel
theorem dX11_train_61 : decode cX11_train 61 = .ok (.if_icmp .gt 59, 3) := by decide +kernel
theorem dX11_train_64 : decode cX11_train 64 = .ok (.aload_n 0, 1) := by decide +kernel
theorem dX11_train_65 : decode cX11_train 65 = .ok (.getfield 65, 3) := by decide +kernel
theorem dX11_train_68 : decode cX11_train 68 = .ok (.aload_n 0, 1) := by decide +kernel
theorem dX11_train_69 : decode cX11_train 69 = .ok (.getfield 10, 3) := by decide +kernel
theorem dX11_train_72 : decode cX11_train 72 = .ok (.aload_n 0, 1) := by decide +kernel
theorem dX11_train_73 : decode cX11_train 73 = .ok (.getfield 72, 3) := by decide +kernel
theorem dX11_train_76 : decode cX11_train 76 = .ok (.iload 4, 2) := by decide +kernel
theorem dX11_train_78 : decode cX11_train 78 = .ok (.iload_n 2, 1) := by decide +kernel
theorem dX11_train_79 : decode cX11_train 79 = .ok (.iload_n 3, 1) := by decide +kernel
theorem dX11_train_80 : decode cX11_train 80 = .ok (.invokevirtual 306, 3) := by decide +kernel
theorem dX11_train_83 : decode cX11_train 83 = .ok (.ifCond .eq 6, 3) := by decide +kernel
theorem dX11_train_86 : decode cX11_train 86 = .ok (.iload 6, 2) := by decide +kernel
theorem dX11_train_88 : decode cX11_train 88 = .ok (.ireturn, 1) := by decide +kernel
theorem dX11_train_89 : decode cX11_train 89 = .ok (.aload_n 0, 1) := by decide +kernel
theorem dX11_train_90 : decode cX11_train 90 = .ok (.getfield 72, 3) := by decide +kernel
theorem dX11_train_93 : decode cX11_train 93 = .ok (.iload_n 2, 1) := by decide +kernel
theorem dX11_train_94 : decode cX11_train 94 = .ok (.iload_n 3, 1) := by decide +kernel
theorem dX11_train_95 : decode cX11_train 95 = .ok (.aload_n 0, 1) := by decide +kernel
theorem dX11_train_96 : decode cX11_train 96 = .ok (.getfield 10, 3) := by decide +kernel
theorem dX11_train_99 : decode cX11_train 99 = .ok (.getfield 132, 3) := by decide +kernel
theorem dX11_train_102 : decode cX11_train 102 = .ok (.iload_n 3, 1) := by decide +kernel
theorem dX11_train_103 : decode cX11_train 103 = .ok (.iaload, 1) := by decide +kernel
theorem dX11_train_104 : decode cX11_train 104 = .ok (.aload_n 0, 1) := by decide +kernel
theorem dX11_train_105 : decode cX11_train 105 = .ok (.getfield 10, 3) := by decide +kernel
theorem dX11_train_108 : decode cX11_train 108 = .ok (.getfield 122, 3) := by decide +kernel
theorem dX11_train_111 : decode cX11_train 111 = .ok (.invokevirtual 310, 3) := by decide +kernel
theorem dX11_train_114 : decode cX11_train 114 = .ok (.iinc 6 1, 3) := by decide +kernel
theorem dX11_train_117 : decode cX11_train 117 = .ok (.goto (-60), 3) := by decide +kernel
theorem dX11_train_120 : decode cX11_train 120 = .ok (.iconst (-1), 1) := by decide +kernel
theorem dX11_train_121 : decode cX11_train 121 = .ok (.ireturn, 1) := by decide +kernel
theorem dX11_told_0 : decode cX11_told 0 = .ok (.iload_n 1, 1) := by decide +kernel
theorem dX11_told_1 : decode cX11_told 1 = .ok (.iconst (-1), 1) := by decide +kernel
theorem dX11_told_2 : decode cX11_told 2 = .ok (.if_icmp .ne 13, 3) := by decide +kernel
theorem dX11_told_5 : decode cX11_told 5 = .ok (.aload_n 0, 1) := by decide +kernel
theorem dX11_told_6 : decode cX11_told 6 = .ok (.getfield 26, 3) := by decide +kernel
theorem dX11_told_9 : decode cX11_told 9 = .ok (.iconst 0, 1) := by decide +kernel
theorem dX11_told_10 : decode cX11_told 10 = .ok (.putfield 313, 3) := by decide +kernel
theorem dX11_told_13 : decode cX11_told 13 = .ok (.iconst 0, 1) := by decide +kernel
theorem dX11_told_14 : decode cX11_told 14 = .ok (.ireturn, 1) := by decide +kernel
theorem dX11_told_15 : decode cX11_told 15 = .ok (.iload_n 1, 1) := by decide +kernel
theorem dX11_told_16 : decode cX11_told 16 = .ok (.bipush 100, 2) := by decide +kernel
theorem dX11_told_18 : decode cX11_told 18 = .ok (.invokestatic 114, 3) := by decide +kernel
theorem dX11_told_21 : decode cX11_told 21 = .ok (.ifCond .eq 29, 3) := by decide +kernel
theorem dX11_told_24 : decode cX11_told 24 = .ok (.iload_n 2, 1) := by decide +kernel
theorem dX11_told_25 : decode cX11_told 25 = .ok (.iconst (-1), 1) := by decide +kernel
theorem dX11_told_26 : decode cX11_told 26 = .ok (.if_icmp .eq 12, 3) := by decide +kernel
theorem dX11_told_29 : decode cX11_told 29 = .ok (.iload_n 2, 1) := by decide +kernel
theorem dX11_told_30 : decode cX11_told 30 = .ok (.bipush 6, 2) := by decide +kernel
theorem dX11_told_32 : decode cX11_told 32 = .ok (.invokestatic 114, 3) := by decide +kernel
theorem dX11_told_35 : decode cX11_told 35 = .ok (.ifCond .eq 15, 3) := by decide +kernel
theorem dX11_told_38 : decode cX11_told 38 = .ok (.aload_n 0, 1) := by decide +kernel
theorem dX11_told_39 : decode cX11_told 39 = .ok (.getfield 26, 3) := by decide +kernel
theorem dX11_told_42 : decode cX11_told 42 = .ok (.getfield 313, 3) := by decide +kernel
theorem dX11_told_45 : decode cX11_told 45 = .ok (.bipush 6, 2) := by decide +kernel
theorem dX11_told_47 : decode cX11_told 47 = .ok (.if_icmp .lt 5, 3) := by decide +kernel
theorem dX11_told_50 : decode cX11_told 50 = .ok (.iconst (-1), 1) := by decide +kernel
theorem dX11_told_51 : decode cX11_told 51 = .ok (.ireturn, 1) := by decide +kernel
theorem dX11_told_52 : decode cX11_told 52 = .ok (.aload_n 0, 1) := by decide +kernel
theorem dX11_told_53 : decode cX11_told 53 = .ok (.getfield 26, 3) := by decide +kernel
theorem dX11_told_56 : decode cX11_told 56 = .ok (.getfield 316, 3) := by decide +kernel
theorem dX11_told_59 : decode cX11_told 59 = .ok (.aload_n 0, 1) := by decide +kernel
theorem dX11_told_60 : decode cX11_told 60 = .ok (.getfield 26, 3) := by decide +kernel
theorem dX11_told_63 : decode cX11_told 63 = .ok (.getfield 313, 3) := by decide +kernel
theorem dX11_told_66 : decode cX11_told 66 = .ok (.iload_n 1, 1) := by decide +kernel
theorem dX11_told_67 : decode cX11_told 67 = .ok (.iastore, 1) := by decide +kernel
theorem dX11_told_68 : decode cX11_told 68 = .ok (.aload_n 0, 1) := by decide +kernel
theorem dX11_told_69 : decode cX11_told 69 = .ok (.getfield 26, 3) := by decide +kernel
theorem dX11_told_72 : decode cX11_told 72 = .ok (.getfield 319, 3) := by decide +kernel
theorem dX11_told_75 : decode cX11_told 75 = .ok (.aload_n 0, 1) := by decide +kernel
theorem dX11_told_76 : decode cX11_told 76 = .ok (.getfield 26, 3) := by decide +kernel
theorem dX11_told_79 : decode cX11_told 79 = .ok (.getfield 313, 3) := by decide +kernel
theorem dX11_told_82 : decode cX11_told 82 = .ok (.iload_n 2, 1) := by decide +kernel
theorem dX11_told_83 : decode cX11_told 83 = .ok (.iastore, 1) := by decide +kernel
theorem dX11_told_84 : decode cX11_told 84 = .ok (.aload_n 0, 1) := by decide +kernel
theorem dX11_told_85 : decode cX11_told 85 = .ok (.getfield 26, 3) := by decide +kernel
theorem dX11_told_88 : decode cX11_told 88 = .ok (.dup, 1) := by decide +kernel
theorem dX11_told_89 : decode cX11_told 89 = .ok (.getfield 313, 3) := by decide +kernel
theorem dX11_told_92 : decode cX11_told 92 = .ok (.iconst 1, 1) := by decide +kernel
theorem dX11_told_93 : decode cX11_told 93 = .ok (.iadd, 1) := by decide +kernel
theorem dX11_told_94 : decode cX11_told 94 = .ok (.putfield 313, 3) := by decide +kernel
theorem dX11_told_97 : decode cX11_told 97 = .ok (.aload_n 0, 1) := by decide +kernel
theorem dX11_told_98 : decode cX11_told 98 = .ok (.getfield 26, 3) := by decide +kernel
theorem dX11_told_101 : decode cX11_told 101 = .ok (.getfield 313, 3) := by decide +kernel
theorem dX11_told_104 : decode cX11_told 104 = .ok (.ireturn, 1) := by decide +kernel
theorem dX11_fits_0 : decode cX11_fits 0 = .ok (.aload_n 0, 1) := by decide +kernel
theorem dX11_fits_1 : decode cX11_fits 1 = .ok (.getfield 10, 3) := by decide +kernel
theorem dX11_fits_4 : decode cX11_fits 4 = .ok (.iload_n 1, 1) := by decide +kernel
theorem dX11_fits_5 : decode cX11_fits 5 = .ok (.invokevirtual 139, 3) := by decide +kernel
theorem dX11_fits_8 : decode cX11_fits 8 = .ok (.astore 4, 2) := by decide +kernel
theorem dX11_fits_10 : decode cX11_fits 10 = .ok (.aload 4, 2) := by decide +kernel
theorem dX11_fits_12 : decode cX11_fits 12 = .ok (.ifnull 21, 3) := by decide +kernel
theorem dX11_fits_15 : decode cX11_fits 15 = .ok (.aload 4, 2) := by decide +kernel
theorem dX11_fits_17 : decode cX11_fits 17 = .ok (.iload_n 2, 1) := by decide +kernel
theorem dX11_fits_18 : decode cX11_fits 18 = .ok (.invokevirtual 143, 3) := by decide +kernel
theorem dX11_fits_21 : decode cX11_fits 21 = .ok (.ifCond .eq 12, 3) := by decide +kernel
theorem dX11_fits_24 : decode cX11_fits 24 = .ok (.iload_n 3, 1) := by decide +kernel
theorem dX11_fits_25 : decode cX11_fits 25 = .ok (.ifCond .lt 8, 3) := by decide +kernel
theorem dX11_fits_28 : decode cX11_fits 28 = .ok (.iload_n 3, 1) := by decide +kernel
theorem dX11_fits_29 : decode cX11_fits 29 = .ok (.iconst 3, 1) := by decide +kernel
theorem dX11_fits_30 : decode cX11_fits 30 = .ok (.if_icmp .le 5, 3) := by decide +kernel
theorem dX11_fits_33 : decode cX11_fits 33 = .ok (.iconst (-1), 1) := by decide +kernel
theorem dX11_fits_34 : decode cX11_fits 34 = .ok (.ireturn, 1) := by decide +kernel
theorem dX11_fits_35 : decode cX11_fits 35 = .ok (.aload_n 0, 1) := by decide +kernel
theorem dX11_fits_36 : decode cX11_fits 36 = .ok (.getfield 72, 3) := by decide +kernel
theorem dX11_fits_39 : decode cX11_fits 39 = .ok (.aload 4, 2) := by decide +kernel
theorem dX11_fits_41 : decode cX11_fits 41 = .ok (.invokevirtual 291, 3) := by decide +kernel
theorem dX11_fits_44 : decode cX11_fits 44 = .ok (.aload_n 0, 1) := by decide +kernel
theorem dX11_fits_45 : decode cX11_fits 45 = .ok (.getfield 56, 3) := by decide +kernel
theorem dX11_fits_48 : decode cX11_fits 48 = .ok (.aload_n 0, 1) := by decide +kernel
theorem dX11_fits_49 : decode cX11_fits 49 = .ok (.getfield 10, 3) := by decide +kernel
theorem dX11_fits_52 : decode cX11_fits 52 = .ok (.aload_n 0, 1) := by decide +kernel
theorem dX11_fits_53 : decode cX11_fits 53 = .ok (.getfield 72, 3) := by decide +kernel
theorem dX11_fits_56 : decode cX11_fits 56 = .ok (.iload_n 2, 1) := by decide +kernel
theorem dX11_fits_57 : decode cX11_fits 57 = .ok (.invokevirtual 322, 3) := by decide +kernel
theorem dX11_fits_60 : decode cX11_fits 60 = .ok (.iload_n 3, 1) := by decide +kernel
theorem dX11_fits_61 : decode cX11_fits 61 = .ok (.tableswitch 51 0 2 #[27, 35, 43], 27) := by decide +kernel
theorem dX11_fits_88 : decode cX11_fits 88 = .ok (.aload_n 0, 1) := by decide +kernel
theorem dX11_fits_89 : decode cX11_fits 89 = .ok (.getfield 56, 3) := by decide +kernel
theorem dX11_fits_92 : decode cX11_fits 92 = .ok (.getfield 325, 3) := by decide +kernel
theorem dX11_fits_95 : decode cX11_fits 95 = .ok (.ireturn, 1) := by decide +kernel
theorem dX11_fits_96 : decode cX11_fits 96 = .ok (.aload_n 0, 1) := by decide +kernel
theorem dX11_fits_97 : decode cX11_fits 97 = .ok (.getfield 56, 3) := by decide +kernel
theorem dX11_fits_100 : decode cX11_fits 100 = .ok (.getfield 328, 3) := by decide +kernel
theorem dX11_fits_103 : decode cX11_fits 103 = .ok (.ireturn, 1) := by decide +kernel
theorem dX11_fits_104 : decode cX11_fits 104 = .ok (.aload_n 0, 1) := by decide +kernel
theorem dX11_fits_105 : decode cX11_fits 105 = .ok (.getfield 56, 3) := by decide +kernel
theorem dX11_fits_108 : decode cX11_fits 108 = .ok (.getfield 331, 3) := by decide +kernel
theorem dX11_fits_111 : decode cX11_fits 111 = .ok (.ireturn, 1) := by decide +kernel
theorem dX11_fits_112 : decode cX11_fits 112 = .ok (.aload_n 0, 1) := by decide +kernel
theorem dX11_fits_113 : decode cX11_fits 113 = .ok (.getfield 56, 3) := by decide +kernel
theorem dX11_fits_116 : decode cX11_fits 116 = .ok (.invokevirtual 334, 3) := by decide +kernel
theorem dX11_fits_119 : decode cX11_fits 119 = .ok (.ireturn, 1) := by decide +kernel
theorem dX11_weak_0 : decode cX11_weak 0 = .ok (.aload_n 0, 1) := by decide +kernel
theorem dX11_weak_1 : decode cX11_weak 1 = .ok (.getfield 10, 3) := by decide +kernel
theorem dX11_weak_4 : decode cX11_weak 4 = .ok (.iload_n 1, 1) := by decide +kernel
theorem dX11_weak_5 : decode cX11_weak 5 = .ok (.invokevirtual 139, 3) := by decide +kernel
theorem dX11_weak_8 : decode cX11_weak 8 = .ok (.astore_n 3, 1) := by decide +kernel
theorem dX11_weak_9 : decode cX11_weak 9 = .ok (.aload_n 3, 1) := by decide +kernel
theorem dX11_weak_10 : decode cX11_weak 10 = .ok (.ifnull 12, 3) := by decide +kernel
theorem dX11_weak_13 : decode cX11_weak 13 = .ok (.iload_n 2, 1) := by decide +kernel
theorem dX11_weak_14 : decode cX11_weak 14 = .ok (.ifCond .lt 8, 3) := by decide +kernel
theorem dX11_weak_17 : decode cX11_weak 17 = .ok (.iload_n 2, 1) := by decide +kernel
theorem dX11_weak_18 : decode cX11_weak 18 = .ok (.iconst 1, 1) := by decide +kernel
theorem dX11_weak_19 : decode cX11_weak 19 = .ok (.if_icmp .le 5, 3) := by decide +kernel
theorem dX11_weak_22 : decode cX11_weak 22 = .ok (.iconst (-1), 1) := by decide +kernel
theorem dX11_weak_23 : decode cX11_weak 23 = .ok (.ireturn, 1) := by decide +kernel
theorem dX11_weak_24 : decode cX11_weak 24 = .ok (.aload_n 0, 1) := by decide +kernel
theorem dX11_weak_25 : decode cX11_weak 25 = .ok (.getfield 56, 3) := by decide +kernel
theorem dX11_weak_28 : decode cX11_weak 28 = .ok (.aload_n 0, 1) := by decide +kernel
theorem dX11_weak_29 : decode cX11_weak 29 = .ok (.getfield 10, 3) := by decide +kernel
theorem dX11_weak_32 : decode cX11_weak 32 = .ok (.aload_n 3, 1) := by decide +kernel
theorem dX11_weak_33 : decode cX11_weak 33 = .ok (.sipush 1000, 3) := by decide +kernel
theorem dX11_weak_36 : decode cX11_weak 36 = .ok (.invokevirtual 303, 3) := by decide +kernel
theorem dX11_weak_39 : decode cX11_weak 39 = .ok (.istore 4, 2) := by decide +kernel
theorem dX11_weak_41 : decode cX11_weak 41 = .ok (.iload_n 2, 1) := by decide +kernel
theorem dX11_weak_42 : decode cX11_weak 42 = .ok (.iconst 1, 1) := by decide +kernel
theorem dX11_weak_43 : decode cX11_weak 43 = .ok (.if_icmp .ne 8, 3) := by decide +kernel
theorem dX11_weak_46 : decode cX11_weak 46 = .ok (.iload 4, 2) := by decide +kernel
theorem dX11_weak_48 : decode cX11_weak 48 = .ok (.goto 17, 3) := by decide +kernel
theorem dX11_weak_51 : decode cX11_weak 51 = .ok (.aload_n 0, 1) := by decide +kernel
theorem dX11_weak_52 : decode cX11_weak 52 = .ok (.getfield 56, 3) := by decide +kernel
theorem dX11_weak_55 : decode cX11_weak 55 = .ok (.aload_n 0, 1) := by decide +kernel
theorem dX11_weak_56 : decode cX11_weak 56 = .ok (.getfield 10, 3) := by decide +kernel
theorem dX11_weak_59 : decode cX11_weak 59 = .ok (.aload_n 3, 1) := by decide +kernel
theorem dX11_weak_60 : decode cX11_weak 60 = .ok (.iload 4, 2) := by decide +kernel
theorem dX11_weak_62 : decode cX11_weak 62 = .ok (.invokevirtual 274, 3) := by decide +kernel
theorem dX11_weak_65 : decode cX11_weak 65 = .ok (.ireturn, 1) := by decide +kernel
theorem dX11_ladder_0 : decode cX11_ladder 0 = .ok (.iconst (-1), 1) := by decide +kernel
theorem dX11_ladder_1 : decode cX11_ladder 1 = .ok (.istore_n 2, 1) := by decide +kernel
theorem dX11_ladder_2 : decode cX11_ladder 2 = .ok (.iconst (-1), 1) := by decide +kernel
theorem dX11_ladder_3 : decode cX11_ladder 3 = .ok (.istore_n 3, 1) := by decide +kernel
theorem dX11_ladder_4 : decode cX11_ladder 4 = .ok (.iconst 0, 1) := by decide +kernel
theorem dX11_ladder_5 : decode cX11_ladder 5 = .ok (.istore 4, 2) := by decide +kernel
theorem dX11_ladder_7 : decode cX11_ladder 7 = .ok (.iload 4, 2) := by decide +kernel
theorem dX11_ladder_9 : decode cX11_ladder 9 = .ok (.bipush 8, 2) := by decide +kernel
theorem dX11_ladder_11 : decode cX11_ladder 11 = .ok (.if_icmp .ge 81, 3) := by decide +kernel
theorem dX11_ladder_14 : decode cX11_ladder 14 = .ok (.aload_n 0, 1) := by decide +kernel
theorem dX11_ladder_15 : decode cX11_ladder 15 = .ok (.getfield 10, 3) := by decide +kernel
theorem dX11_ladder_18 : decode cX11_ladder 18 = .ok (.getfield 118, 3) := by decide +kernel
theorem dX11_ladder_21 : decode cX11_ladder 21 = .ok (.iload 4, 2) := by decide +kernel
theorem dX11_ladder_23 : decode cX11_ladder 23 = .ok (.aaload, 1) := by decide +kernel
theorem dX11_ladder_24 : decode cX11_ladder 24 = .ok (.astore 5, 2) := by decide +kernel
theorem dX11_ladder_26 : decode cX11_ladder 26 = .ok (.aload 5, 2) := by decide +kernel
theorem dX11_ladder_28 : decode cX11_ladder 28 = .ok (.getfield 185, 3) := by decide +kernel
theorem dX11_ladder_31 : decode cX11_ladder 31 = .ok (.ifCond .eq 55, 3) := by decide +kernel
theorem dX11_ladder_34 : decode cX11_ladder 34 = .ok (.aload 5, 2) := by decide +kernel
theorem dX11_ladder_36 : decode cX11_ladder 36 = .ok (.getfield 170, 3) := by decide +kernel
theorem dX11_ladder_39 : decode cX11_ladder 39 = .ok (.iload_n 1, 1) := by decide +kernel
theorem dX11_ladder_40 : decode cX11_ladder 40 = .ok (.if_icmp .lt 46, 3) := by decide +kernel
theorem dX11_ladder_43 : decode cX11_ladder 43 = .ok (.aload_n 0, 1) := by decide +kernel
theorem dX11_ladder_44 : decode cX11_ladder 44 = .ok (.getfield 56, 3) := by decide +kernel
theorem dX11_ladder_47 : decode cX11_ladder 47 = .ok (.aload_n 0, 1) := by decide +kernel
theorem dX11_ladder_48 : decode cX11_ladder 48 = .ok (.getfield 10, 3) := by decide +kernel
theorem dX11_ladder_51 : decode cX11_ladder 51 = .ok (.aload 5, 2) := by decide +kernel
theorem dX11_ladder_53 : decode cX11_ladder 53 = .ok (.aload_n 0, 1) := by decide +kernel
theorem dX11_ladder_54 : decode cX11_ladder 54 = .ok (.getfield 56, 3) := by decide +kernel
theorem dX11_ladder_57 : decode cX11_ladder 57 = .ok (.aload_n 0, 1) := by decide +kernel
theorem dX11_ladder_58 : decode cX11_ladder 58 = .ok (.getfield 10, 3) := by decide +kernel
theorem dX11_ladder_61 : decode cX11_ladder 61 = .ok (.aload 5, 2) := by decide +kernel
theorem dX11_ladder_63 : decode cX11_ladder 63 = .ok (.sipush 1000, 3) := by decide +kernel
theorem dX11_ladder_66 : decode cX11_ladder 66 = .ok (.invokevirtual 303, 3) := by decide +kernel
theorem dX11_ladder_69 : decode cX11_ladder 69 = .ok (.invokevirtual 274, 3) := by decide +kernel
theorem dX11_ladder_72 : decode cX11_ladder 72 = .ok (.istore 6, 2) := by decide +kernel
theorem dX11_ladder_74 : decode cX11_ladder 74 = .ok (.iload 6, 2) := by decide +kernel
theorem dX11_ladder_76 : decode cX11_ladder 76 = .ok (.iload_n 3, 1) := by decide +kernel
theorem dX11_ladder_77 : decode cX11_ladder 77 = .ok (.if_icmp .le 9, 3) := by decide +kernel
theorem dX11_ladder_80 : decode cX11_ladder 80 = .ok (.iload 4, 2) := by decide +kernel
theorem dX11_ladder_82 : decode cX11_ladder 82 = .ok (.istore_n 2, 1) := by decide +kernel
theorem dX11_ladder_83 : decode cX11_ladder 83 = .ok (.iload 6, 2) := by decide +kernel
theorem dX11_ladder_85 : decode cX11_ladder 85 = .ok (.istore_n 3, 1) := by decide +kernel
theorem dX11_ladder_86 : decode cX11_ladder 86 = .ok (.iinc 4 1, 3) := by decide +kernel
theorem dX11_ladder_89 : decode cX11_ladder 89 = .ok (.goto (-82), 3) := by decide +kernel
theorem dX11_ladder_92 : decode cX11_ladder 92 = .ok (.iload_n 2, 1) := by decide +kernel
theorem dX11_ladder_93 : decode cX11_ladder 93 = .ok (.ireturn, 1) := by decide +kernel
theorem dX11_order_0 : decode cX11_order 0 = .ok (.iload_n 1, 1) := by decide +kernel
theorem dX11_order_1 : decode cX11_order 1 = .ok (.iconst (-1), 1) := by decide +kernel
theorem dX11_order_2 : decode cX11_order 2 = .ok (.if_icmp .ne 13, 3) := by decide +kernel
theorem dX11_order_5 : decode cX11_order 5 = .ok (.aload_n 0, 1) := by decide +kernel
theorem dX11_order_6 : decode cX11_order 6 = .ok (.getfield 26, 3) := by decide +kernel
theorem dX11_order_9 : decode cX11_order 9 = .ok (.iconst 0, 1) := by decide +kernel
theorem dX11_order_10 : decode cX11_order 10 = .ok (.putfield 337, 3) := by decide +kernel
theorem dX11_order_13 : decode cX11_order 13 = .ok (.iconst 0, 1) := by decide +kernel
theorem dX11_order_14 : decode cX11_order 14 = .ok (.ireturn, 1) := by decide +kernel
theorem dX11_order_15 : decode cX11_order 15 = .ok (.iload_n 1, 1) := by decide +kernel
theorem dX11_order_16 : decode cX11_order 16 = .ok (.iconst 1, 1) := by decide +kernel
theorem dX11_order_17 : decode cX11_order 17 = .ok (.if_icmp .lt 21, 3) := by decide +kernel
theorem dX11_order_20 : decode cX11_order 20 = .ok (.iload_n 1, 1) := by decide +kernel
theorem dX11_order_21 : decode cX11_order 21 = .ok (.bipush 24, 2) := by decide +kernel
theorem dX11_order_23 : decode cX11_order 23 = .ok (.if_icmp .gt 15, 3) := by decide +kernel
theorem dX11_order_26 : decode cX11_order 26 = .ok (.aload_n 0, 1) := by decide +kernel
theorem dX11_order_27 : decode cX11_order 27 = .ok (.getfield 26, 3) := by decide +kernel
theorem dX11_order_30 : decode cX11_order 30 = .ok (.getfield 337, 3) := by decide +kernel
theorem dX11_order_33 : decode cX11_order 33 = .ok (.bipush 7, 2) := by decide +kernel
theorem dX11_order_35 : decode cX11_order 35 = .ok (.if_icmp .lt 5, 3) := by decide +kernel
theorem dX11_order_38 : decode cX11_order 38 = .ok (.iconst (-1), 1) := by decide +kernel
theorem dX11_order_39 : decode cX11_order 39 = .ok (.ireturn, 1) := by decide +kernel
theorem dX11_order_40 : decode cX11_order 40 = .ok (.aload_n 0, 1) := by decide +kernel
theorem dX11_order_41 : decode cX11_order 41 = .ok (.getfield 26, 3) := by decide +kernel
theorem dX11_order_44 : decode cX11_order 44 = .ok (.getfield 340, 3) := by decide +kernel
theorem dX11_order_47 : decode cX11_order 47 = .ok (.aload_n 0, 1) := by decide +kernel
theorem dX11_order_48 : decode cX11_order 48 = .ok (.getfield 26, 3) := by decide +kernel
theorem dX11_order_51 : decode cX11_order 51 = .ok (.getfield 337, 3) := by decide +kernel
theorem dX11_order_54 : decode cX11_order 54 = .ok (.iload_n 1, 1) := by decide +kernel
theorem dX11_order_55 : decode cX11_order 55 = .ok (.iastore, 1) := by decide +kernel
theorem dX11_order_56 : decode cX11_order 56 = .ok (.aload_n 0, 1) := by decide +kernel
theorem dX11_order_57 : decode cX11_order 57 = .ok (.getfield 26, 3) := by decide +kernel
theorem dX11_order_60 : decode cX11_order 60 = .ok (.dup, 1) := by decide +kernel
theorem dX11_order_61 : decode cX11_order 61 = .ok (.getfield 337, 3) := by decide +kernel
theorem dX11_order_64 : decode cX11_order 64 = .ok (.iconst 1, 1) := by decide +kernel
theorem dX11_order_65 : decode cX11_order 65 = .ok (.iadd, 1) := by decide +kernel
theorem dX11_order_66 : decode cX11_order 66 = .ok (.putfield 337, 3) := by decide +kernel
theorem dX11_order_69 : decode cX11_order 69 = .ok (.aload_n 0, 1) := by decide +kernel
theorem dX11_order_70 : decode cX11_order 70 = .ok (.getfield 26, 3) := by decide +kernel
theorem dX11_order_73 : decode cX11_order 73 = .ok (.getfield 337, 3) := by decide +kernel
theorem dX11_order_76 : decode cX11_order 76 = .ok (.ireturn, 1) := by decide +kernel
theorem dX11_yard_0 : decode cX11_yard 0 = .ok (.iload_n 1, 1) := by decide +kernel
theorem dX11_yard_1 : decode cX11_yard 1 = .ok (.bipush 10, 2) := by decide +kernel
theorem dX11_yard_3 : decode cX11_yard 3 = .ok (.isub, 1) := by decide +kernel
theorem dX11_yard_4 : decode cX11_yard 4 = .ok (.istore_n 2, 1) := by decide +kernel
theorem dX11_yard_5 : decode cX11_yard 5 = .ok (.iload_n 1, 1) := by decide +kernel
theorem dX11_yard_6 : decode cX11_yard 6 = .ok (.ifCond .eq 22, 3) := by decide +kernel
theorem dX11_yard_9 : decode cX11_yard 9 = .ok (.iload_n 1, 1) := by decide +kernel
theorem dX11_yard_10 : decode cX11_yard 10 = .ok (.bipush 10, 2) := by decide +kernel
theorem dX11_yard_12 : decode cX11_yard 12 = .ok (.if_icmp .lt 14, 3) := by decide +kernel
theorem dX11_yard_15 : decode cX11_yard 15 = .ok (.iload_n 2, 1) := by decide +kernel
theorem dX11_yard_16 : decode cX11_yard 16 = .ok (.aload_n 0, 1) := by decide +kernel
theorem dX11_yard_17 : decode cX11_yard 17 = .ok (.getfield 26, 3) := by decide +kernel
theorem dX11_yard_20 : decode cX11_yard 20 = .ok (.getfield 337, 3) := by decide +kernel
theorem dX11_yard_23 : decode cX11_yard 23 = .ok (.if_icmp .lt 5, 3) := by decide +kernel
theorem dX11_yard_26 : decode cX11_yard 26 = .ok (.iconst (-1), 1) := by decide +kernel
theorem dX11_yard_27 : decode cX11_yard 27 = .ok (.ireturn, 1) := by decide +kernel
theorem dX11_yard_28 : decode cX11_yard 28 = .ok (.aload_n 0, 1) := by decide +kernel
theorem dX11_yard_29 : decode cX11_yard 29 = .ok (.getfield 79, 3) := by decide +kernel
theorem dX11_yard_32 : decode cX11_yard 32 = .ok (.aload_n 0, 1) := by decide +kernel
theorem dX11_yard_33 : decode cX11_yard 33 = .ok (.getfield 10, 3) := by decide +kernel
theorem dX11_yard_36 : decode cX11_yard 36 = .ok (.aload_n 0, 1) := by decide +kernel
theorem dX11_yard_37 : decode cX11_yard 37 = .ok (.getfield 26, 3) := by decide +kernel
theorem dX11_yard_40 : decode cX11_yard 40 = .ok (.invokevirtual 343, 3) := by decide +kernel
theorem dX11_yard_43 : decode cX11_yard 43 = .ok (.iload_n 1, 1) := by decide +kernel
theorem dX11_yard_44 : decode cX11_yard 44 = .ok (.ifCond .eq 14, 3) := by decide +kernel
theorem dX11_yard_47 : decode cX11_yard 47 = .ok (.aload_n 0, 1) := by decide +kernel
theorem dX11_yard_48 : decode cX11_yard 48 = .ok (.getfield 79, 3) := by decide +kernel
theorem dX11_yard_51 : decode cX11_yard 51 = .ok (.getfield 347, 3) := by decide +kernel
theorem dX11_yard_54 : decode cX11_yard 54 = .ok (.iconst (-1), 1) := by decide +kernel
theorem dX11_yard_55 : decode cX11_yard 55 = .ok (.if_icmp .ne 11, 3) := by decide +kernel
theorem dX11_yard_58 : decode cX11_yard 58 = .ok (.aload_n 0, 1) := by decide +kernel
theorem dX11_yard_59 : decode cX11_yard 59 = .ok (.getfield 79, 3) := by decide +kernel
theorem dX11_yard_62 : decode cX11_yard 62 = .ok (.getfield 347, 3) := by decide +kernel
theorem dX11_yard_65 : decode cX11_yard 65 = .ok (.ireturn, 1) := by decide +kernel
theorem dX11_yard_66 : decode cX11_yard 66 = .ok (.aload_n 0, 1) := by decide +kernel
theorem dX11_yard_67 : decode cX11_yard 67 = .ok (.getfield 79, 3) := by decide +kernel
theorem dX11_yard_70 : decode cX11_yard 70 = .ok (.getfield 350, 3) := by decide +kernel
theorem dX11_yard_73 : decode cX11_yard 73 = .ok (.iload_n 2, 1) := by decide +kernel
theorem dX11_yard_74 : decode cX11_yard 74 = .ok (.iaload, 1) := by decide +kernel
theorem dX11_yard_75 : decode cX11_yard 75 = .ok (.ireturn, 1) := by decide +kernel
theorem dX11_moves_0 : decode cX11_moves 0 = .ok (.iload_n 1, 1) := by decide +kernel
theorem dX11_moves_1 : decode cX11_moves 1 = .ok (.iconst 4, 1) := by decide +kernel
theorem dX11_moves_2 : decode cX11_moves 2 = .ok (.invokestatic 114, 3) := by decide +kernel
theorem dX11_moves_5 : decode cX11_moves 5 = .ok (.ifCond .eq 23, 3) := by decide +kernel
theorem dX11_moves_8 : decode cX11_moves 8 = .ok (.iload_n 2, 1) := by decide +kernel
theorem dX11_moves_9 : decode cX11_moves 9 = .ok (.iconst 4, 1) := by decide +kernel
theorem dX11_moves_10 : decode cX11_moves 10 = .ok (.invokestatic 114, 3) := by decide +kernel
theorem dX11_moves_13 : decode cX11_moves 13 = .ok (.ifCond .eq 15, 3) := by decide +kernel
theorem dX11_moves_16 : decode cX11_moves 16 = .ok (.aload_n 0, 1) := by decide +kernel
theorem dX11_moves_17 : decode cX11_moves 17 = .ok (.getfield 26, 3) := by decide +kernel
theorem dX11_moves_20 : decode cX11_moves 20 = .ok (.iload_n 1, 1) := by decide +kernel
theorem dX11_moves_21 : decode cX11_moves 21 = .ok (.iload_n 2, 1) := by decide +kernel
theorem dX11_moves_22 : decode cX11_moves 22 = .ok (.invokevirtual 353, 3) := by decide +kernel
theorem dX11_moves_25 : decode cX11_moves 25 = .ok (.ifCond .eq 5, 3) := by decide +kernel
theorem dX11_moves_28 : decode cX11_moves 28 = .ok (.iconst (-1), 1) := by decide +kernel
theorem dX11_moves_29 : decode cX11_moves 29 = .ok (.ireturn, 1) := by decide +kernel
theorem dX11_moves_30 : decode cX11_moves 30 = .ok (.aload_n 0, 1) := by decide +kernel
theorem dX11_moves_31 : decode cX11_moves 31 = .ok (.getfield 86, 3) := by decide +kernel
theorem dX11_moves_34 : decode cX11_moves 34 = .ok (.aload_n 0, 1) := by decide +kernel
theorem dX11_moves_35 : decode cX11_moves 35 = .ok (.getfield 26, 3) := by decide +kernel
theorem dX11_moves_38 : decode cX11_moves 38 = .ok (.iload_n 1, 1) := by decide +kernel
theorem dX11_moves_39 : decode cX11_moves 39 = .ok (.invokevirtual 356, 3) := by decide +kernel
theorem dX11_moves_42 : decode cX11_moves 42 = .ok (.aload_n 0, 1) := by decide +kernel
theorem dX11_moves_43 : decode cX11_moves 43 = .ok (.getfield 26, 3) := by decide +kernel
theorem dX11_moves_46 : decode cX11_moves 46 = .ok (.iload_n 2, 1) := by decide +kernel
theorem dX11_moves_47 : decode cX11_moves 47 = .ok (.invokevirtual 356, 3) := by decide +kernel
theorem dX11_moves_50 : decode cX11_moves 50 = .ok (.invokevirtual 359, 3) := by decide +kernel
theorem dX11_moves_53 : decode cX11_moves 53 = .ok (.ireturn, 1) := by decide +kernel
theorem dX11_shape_0 : decode cX11_shape 0 = .ok (.iload_n 1, 1) := by decide +kernel
theorem dX11_shape_1 : decode cX11_shape 1 = .ok (.iconst 4, 1) := by decide +kernel
theorem dX11_shape_2 : decode cX11_shape 2 = .ok (.invokestatic 114, 3) := by decide +kernel
theorem dX11_shape_5 : decode cX11_shape 5 = .ok (.ifCond .ne 6, 3) := by decide +kernel
theorem dX11_shape_8 : decode cX11_shape 8 = .ok (.bipush (-100), 2) := by decide +kernel
theorem dX11_shape_10 : decode cX11_shape 10 = .ok (.ireturn, 1) := by decide +kernel
theorem dX11_shape_11 : decode cX11_shape 11 = .ok (.iload_n 2, 1) := by decide +kernel
theorem dX11_shape_12 : decode cX11_shape 12 = .ok (.tableswitch 56 0 2 #[28, 38, 47], 28) := by decide +kernel
theorem dX11_shape_40 : decode cX11_shape 40 = .ok (.aload_n 0, 1) := by decide +kernel
theorem dX11_shape_41 : decode cX11_shape 41 = .ok (.getfield 26, 3) := by decide +kernel
theorem dX11_shape_44 : decode cX11_shape 44 = .ok (.getfield 361, 3) := by decide +kernel
theorem dX11_shape_47 : decode cX11_shape 47 = .ok (.iload_n 1, 1) := by decide +kernel
theorem dX11_shape_48 : decode cX11_shape 48 = .ok (.iaload, 1) := by decide +kernel
theorem dX11_shape_49 : decode cX11_shape 49 = .ok (.ireturn, 1) := by decide +kernel
theorem dX11_shape_50 : decode cX11_shape 50 = .ok (.aload_n 0, 1) := by decide +kernel
theorem dX11_shape_51 : decode cX11_shape 51 = .ok (.getfield 26, 3) := by decide +kernel
theorem dX11_shape_54 : decode cX11_shape 54 = .ok (.iload_n 1, 1) := by decide +kernel
theorem dX11_shape_55 : decode cX11_shape 55 = .ok (.invokevirtual 364, 3) := by decide +kernel
theorem dX11_shape_58 : decode cX11_shape 58 = .ok (.ireturn, 1) := by decide +kernel
theorem dX11_shape_59 : decode cX11_shape 59 = .ok (.aload_n 0, 1) := by decide +kernel
theorem dX11_shape_60 : decode cX11_shape 60 = .ok (.getfield 26, 3) := by decide +kernel
theorem dX11_shape_63 : decode cX11_shape 63 = .ok (.iload_n 1, 1) := by decide +kernel
theorem dX11_shape_64 : decode cX11_shape 64 = .ok (.invokevirtual 367, 3) := by decide +kernel
theorem dX11_shape_67 : decode cX11_shape 67 = .ok (.ireturn, 1) := by decide +kernel
theorem dX11_shape_68 : decode cX11_shape 68 = .ok (.aload_n 0, 1) := by decide +kernel
theorem dX11_shape_69 : decode cX11_shape 69 = .ok (.getfield 26, 3) := by decide +kernel
theorem dX11_shape_72 : decode cX11_shape 72 = .ok (.iload_n 1, 1) := by decide +kernel
theorem dX11_shape_73 : decode cX11_shape 73 = .ok (.iload_n 2, 1) := by decide +kernel
theorem dX11_shape_74 : decode cX11_shape 74 = .ok (.invokevirtual 370, 3) := by decide +kernel
theorem dX11_shape_77 : decode cX11_shape 77 = .ok (.ireturn, 1) := by decide +kernel
theorem dX11_unlike_0 : decode cX11_unlike 0 = .ok (.iload_n 1, 1) := by decide +kernel
theorem dX11_unlike_1 : decode cX11_unlike 1 = .ok (.iconst 4, 1) := by decide +kernel
theorem dX11_unlike_2 : decode cX11_unlike 2 = .ok (.invokestatic 114, 3) := by decide +kernel
theorem dX11_unlike_5 : decode cX11_unlike 5 = .ok (.ifCond .eq 11, 3) := by decide +kernel
theorem dX11_unlike_8 : decode cX11_unlike 8 = .ok (.iload_n 2, 1) := by decide +kernel
theorem dX11_unlike_9 : decode cX11_unlike 9 = .ok (.iconst 4, 1) := by decide +kernel
theorem dX11_unlike_10 : decode cX11_unlike 10 = .ok (.invokestatic 114, 3) := by decide +kernel
theorem dX11_unlike_13 : decode cX11_unlike 13 = .ok (.ifCond .ne 5, 3) := by decide +kernel
theorem dX11_unlike_16 : decode cX11_unlike 16 = .ok (.iconst (-1), 1) := by decide +kernel
theorem dX11_unlike_17 : decode cX11_unlike 17 = .ok (.ireturn, 1) := by decide +kernel
theorem dX11_unlike_18 : decode cX11_unlike 18 = .ok (.aload_n 0, 1) := by decide +kernel
theorem dX11_unlike_19 : decode cX11_unlike 19 = .ok (.getfield 26, 3) := by decide +kernel
theorem dX11_unlike_22 : decode cX11_unlike 22 = .ok (.iload_n 1, 1) := by decide +kernel
theorem dX11_unlike_23 : decode cX11_unlike 23 = .ok (.iload_n 2, 1) := by decide +kernel
theorem dX11_unlike_24 : decode cX11_unlike 24 = .ok (.invokevirtual 353, 3) := by decide +kernel
theorem dX11_unlike_27 : decode cX11_unlike 27 = .ok (.ifCond .eq 7, 3) := by decide +kernel
theorem dX11_unlike_30 : decode cX11_unlike 30 = .ok (.iconst 1, 1) := by decide +kernel
theorem dX11_unlike_31 : decode cX11_unlike 31 = .ok (.goto 4, 3) := by decide +kernel
theorem dX11_unlike_34 : decode cX11_unlike 34 = .ok (.iconst 0, 1) := by decide +kernel
theorem dX11_unlike_35 : decode cX11_unlike 35 = .ok (.ireturn, 1) := by decide +kernel
theorem dX11_whose_0 : decode cX11_whose 0 = .ok (.iload_n 1, 1) := by decide +kernel
theorem dX11_whose_1 : decode cX11_whose 1 = .ok (.bipush 8, 2) := by decide +kernel
theorem dX11_whose_3 : decode cX11_whose 3 = .ok (.invokestatic 114, 3) := by decide +kernel
theorem dX11_whose_6 : decode cX11_whose 6 = .ok (.ifCond .ne 6, 3) := by decide +kernel
theorem dX11_whose_9 : decode cX11_whose 9 = .ok (.bipush (-2), 2) := by decide +kernel
theorem dX11_whose_11 : decode cX11_whose 11 = .ok (.ireturn, 1) := by decide +kernel
theorem dX11_whose_12 : decode cX11_whose 12 = .ok (.iload_n 3, 1) := by decide +kernel
theorem dX11_whose_13 : decode cX11_whose 13 = .ok (.iconst 1, 1) := by decide +kernel
theorem dX11_whose_14 : decode cX11_whose 14 = .ok (.if_icmp .ne 19, 3) := by decide +kernel
theorem dX11_whose_17 : decode cX11_whose 17 = .ok (.aload_n 0, 1) := by decide +kernel
theorem dX11_whose_18 : decode cX11_whose 18 = .ok (.getfield 19, 3) := by decide +kernel
theorem dX11_whose_21 : decode cX11_whose 21 = .ok (.aload_n 0, 1) := by decide +kernel
theorem dX11_whose_22 : decode cX11_whose 22 = .ok (.getfield 10, 3) := by decide +kernel
theorem dX11_whose_25 : decode cX11_whose 25 = .ok (.getfield 287, 3) := by decide +kernel
theorem dX11_whose_28 : decode cX11_whose 28 = .ok (.iload_n 1, 1) := by decide +kernel
theorem dX11_whose_29 : decode cX11_whose 29 = .ok (.invokevirtual 373, 3) := by decide +kernel
theorem dX11_whose_32 : decode cX11_whose 32 = .ok (.ireturn, 1) := by decide +kernel
theorem dX11_whose_33 : decode cX11_whose 33 = .ok (.iload_n 3, 1) := by decide +kernel
theorem dX11_whose_34 : decode cX11_whose 34 = .ok (.ifCond .ne 12, 3) := by decide +kernel
theorem dX11_whose_37 : decode cX11_whose 37 = .ok (.iload_n 2, 1) := by decide +kernel
theorem dX11_whose_38 : decode cX11_whose 38 = .ok (.bipush 24, 2) := by decide +kernel
theorem dX11_whose_40 : decode cX11_whose 40 = .ok (.invokestatic 114, 3) := by decide +kernel
theorem dX11_whose_43 : decode cX11_whose 43 = .ok (.ifCond .ne 6, 3) := by decide +kernel
theorem dX11_whose_46 : decode cX11_whose 46 = .ok (.bipush (-2), 2) := by decide +kernel
theorem dX11_whose_48 : decode cX11_whose 48 = .ok (.ireturn, 1) := by decide +kernel
theorem dX11_whose_49 : decode cX11_whose 49 = .ok (.aload_n 0, 1) := by decide +kernel
theorem dX11_whose_50 : decode cX11_whose 50 = .ok (.getfield 19, 3) := by decide +kernel
theorem dX11_whose_53 : decode cX11_whose 53 = .ok (.aload_n 0, 1) := by decide +kernel
theorem dX11_whose_54 : decode cX11_whose 54 = .ok (.getfield 10, 3) := by decide +kernel
theorem dX11_whose_57 : decode cX11_whose 57 = .ok (.getfield 287, 3) := by decide +kernel
theorem dX11_whose_60 : decode cX11_whose 60 = .ok (.iload_n 1, 1) := by decide +kernel
theorem dX11_whose_61 : decode cX11_whose 61 = .ok (.iload_n 2, 1) := by decide +kernel
theorem dX11_whose_62 : decode cX11_whose 62 = .ok (.invokevirtual 376, 3) := by decide +kernel
theorem dX11_whose_65 : decode cX11_whose 65 = .ok (.ireturn, 1) := by decide +kernel
theorem dX11_undo_0 : decode cX11_undo 0 = .ok (.aload_n 0, 1) := by decide +kernel
theorem dX11_undo_1 : decode cX11_undo 1 = .ok (.getfield 107, 3) := by decide +kernel
theorem dX11_undo_4 : decode cX11_undo 4 = .ok (.ifCond .gt 5, 3) := by decide +kernel
theorem dX11_undo_7 : decode cX11_undo 7 = .ok (.iconst 0, 1) := by decide +kernel
theorem dX11_undo_8 : decode cX11_undo 8 = .ok (.ireturn, 1) := by decide +kernel
theorem dX11_undo_9 : decode cX11_undo 9 = .ok (.aload_n 0, 1) := by decide +kernel
theorem dX11_undo_10 : decode cX11_undo 10 = .ok (.dup, 1) := by decide +kernel
theorem dX11_undo_11 : decode cX11_undo 11 = .ok (.getfield 107, 3) := by decide +kernel
theorem dX11_undo_14 : decode cX11_undo 14 = .ok (.iconst 1, 1) := by decide +kernel
theorem dX11_undo_15 : decode cX11_undo 15 = .ok (.isub, 1) := by decide +kernel
theorem dX11_undo_16 : decode cX11_undo 16 = .ok (.putfield 107, 3) := by decide +kernel
theorem dX11_undo_19 : decode cX11_undo 19 = .ok (.aload_n 0, 1) := by decide +kernel
theorem dX11_undo_20 : decode cX11_undo 20 = .ok (.getfield 10, 3) := by decide +kernel
theorem dX11_undo_23 : decode cX11_undo 23 = .ok (.aload_n 0, 1) := by decide +kernel
theorem dX11_undo_24 : decode cX11_undo 24 = .ok (.getfield 90, 3) := by decide +kernel
theorem dX11_undo_27 : decode cX11_undo 27 = .ok (.aload_n 0, 1) := by decide +kernel
theorem dX11_undo_28 : decode cX11_undo 28 = .ok (.getfield 107, 3) := by decide +kernel
theorem dX11_undo_31 : decode cX11_undo 31 = .ok (.aaload, 1) := by decide +kernel
theorem dX11_undo_32 : decode cX11_undo 32 = .ok (.invokevirtual 380, 3) := by decide +kernel
theorem dX11_undo_35 : decode cX11_undo 35 = .ok (.iconst 1, 1) := by decide +kernel
theorem dX11_undo_36 : decode cX11_undo 36 = .ok (.ireturn, 1) := by decide +kernel
theorem dX11_image_0 : decode cX11_image 0 = .ok (.iload_n 1, 1) := by decide +kernel
theorem dX11_image_1 : decode cX11_image 1 = .ok (.ifCond .eq 43, 3) := by decide +kernel
theorem dX11_image_4 : decode cX11_image 4 = .ok (.aload_n 0, 1) := by decide +kernel
theorem dX11_image_5 : decode cX11_image 5 = .ok (.getfield 94, 3) := by decide +kernel
theorem dX11_image_8 : decode cX11_image 8 = .ok (.aload_n 0, 1) := by decide +kernel
theorem dX11_image_9 : decode cX11_image 9 = .ok (.getfield 10, 3) := by decide +kernel
theorem dX11_image_12 : decode cX11_image 12 = .ok (.invokevirtual 380, 3) := by decide +kernel
theorem dX11_image_15 : decode cX11_image 15 = .ok (.aload_n 0, 1) := by decide +kernel
theorem dX11_image_16 : decode cX11_image 16 = .ok (.getfield 97, 3) := by decide +kernel
theorem dX11_image_19 : decode cX11_image 19 = .ok (.aload_n 0, 1) := by decide +kernel
theorem dX11_image_20 : decode cX11_image 20 = .ok (.getfield 19, 3) := by decide +kernel
theorem dX11_image_23 : decode cX11_image 23 = .ok (.invokevirtual 383, 3) := by decide +kernel
theorem dX11_image_26 : decode cX11_image 26 = .ok (.aload_n 0, 1) := by decide +kernel
theorem dX11_image_27 : decode cX11_image 27 = .ok (.getfield 100, 3) := by decide +kernel
theorem dX11_image_30 : decode cX11_image 30 = .ok (.aload_n 0, 1) := by decide +kernel
theorem dX11_image_31 : decode cX11_image 31 = .ok (.getfield 26, 3) := by decide +kernel
theorem dX11_image_34 : decode cX11_image 34 = .ok (.invokevirtual 386, 3) := by decide +kernel
theorem dX11_image_37 : decode cX11_image 37 = .ok (.aload_n 0, 1) := by decide +kernel
theorem dX11_image_38 : decode cX11_image 38 = .ok (.iconst 1, 1) := by decide +kernel
theorem dX11_image_39 : decode cX11_image 39 = .ok (.putfield 388, 3) := by decide +kernel
theorem dX11_image_42 : decode cX11_image 42 = .ok (.iconst 1, 1) := by decide +kernel
theorem dX11_image_43 : decode cX11_image 43 = .ok (.ireturn, 1) := by decide +kernel
theorem dX11_image_44 : decode cX11_image 44 = .ok (.aload_n 0, 1) := by decide +kernel
theorem dX11_image_45 : decode cX11_image 45 = .ok (.getfield 388, 3) := by decide +kernel
theorem dX11_image_48 : decode cX11_image 48 = .ok (.ifCond .ne 5, 3) := by decide +kernel
theorem dX11_image_51 : decode cX11_image 51 = .ok (.iconst 0, 1) := by decide +kernel
theorem dX11_image_52 : decode cX11_image 52 = .ok (.ireturn, 1) := by decide +kernel
theorem dX11_image_53 : decode cX11_image 53 = .ok (.aload_n 0, 1) := by decide +kernel
theorem dX11_image_54 : decode cX11_image 54 = .ok (.getfield 10, 3) := by decide +kernel
theorem dX11_image_57 : decode cX11_image 57 = .ok (.aload_n 0, 1) := by decide +kernel
theorem dX11_image_58 : decode cX11_image 58 = .ok (.getfield 94, 3) := by decide +kernel
theorem dX11_image_61 : decode cX11_image 61 = .ok (.invokevirtual 380, 3) := by decide +kernel
theorem dX11_image_64 : decode cX11_image 64 = .ok (.aload_n 0, 1) := by decide +kernel
theorem dX11_image_65 : decode cX11_image 65 = .ok (.getfield 19, 3) := by decide +kernel
theorem dX11_image_68 : decode cX11_image 68 = .ok (.aload_n 0, 1) := by decide +kernel
theorem dX11_image_69 : decode cX11_image 69 = .ok (.getfield 97, 3) := by decide +kernel
theorem dX11_image_72 : decode cX11_image 72 = .ok (.invokevirtual 383, 3) := by decide +kernel
theorem dX11_image_75 : decode cX11_image 75 = .ok (.aload_n 0, 1) := by decide +kernel
theorem dX11_image_76 : decode cX11_image 76 = .ok (.getfield 26, 3) := by decide +kernel
theorem dX11_image_79 : decode cX11_image 79 = .ok (.aload_n 0, 1) := by decide +kernel
theorem dX11_image_80 : decode cX11_image 80 = .ok (.getfield 100, 3) := by decide +kernel
theorem dX11_image_83 : decode cX11_image 83 = .ok (.invokevirtual 386, 3) := by decide +kernel
theorem dX11_image_86 : decode cX11_image 86 = .ok (.aload_n 0, 1) := by decide +kernel
theorem dX11_image_87 : decode cX11_image 87 = .ok (.iconst 0, 1) := by decide +kernel
theorem dX11_image_88 : decode cX11_image 88 = .ok (.putfield 107, 3) := by decide +kernel
theorem dX11_image_91 : decode cX11_image 91 = .ok (.iconst 1, 1) := by decide +kernel
theorem dX11_image_92 : decode cX11_image 92 = .ok (.ireturn, 1) := by decide +kernel
theorem dX11_look_0 : decode cX11_look 0 = .ok (.iload_n 1, 1) := by decide +kernel
theorem dX11_look_1 : decode cX11_look 1 = .ok (.bipush 20, 2) := by decide +kernel
theorem dX11_look_3 : decode cX11_look 3 = .ok (.if_icmp .lt 22, 3) := by decide +kernel
theorem dX11_look_6 : decode cX11_look 6 = .ok (.iload_n 1, 1) := by decide +kernel
theorem dX11_look_7 : decode cX11_look 7 = .ok (.bipush 26, 2) := by decide +kernel
theorem dX11_look_9 : decode cX11_look 9 = .ok (.if_icmp .ge 16, 3) := by decide +kernel
theorem dX11_look_12 : decode cX11_look 12 = .ok (.aload_n 0, 1) := by decide +kernel
theorem dX11_look_13 : decode cX11_look 13 = .ok (.getfield 10, 3) := by decide +kernel
theorem dX11_look_16 : decode cX11_look 16 = .ok (.getfield 132, 3) := by decide +kernel
theorem dX11_look_19 : decode cX11_look 19 = .ok (.iload_n 1, 1) := by decide +kernel
theorem dX11_look_20 : decode cX11_look 20 = .ok (.bipush 20, 2) := by decide +kernel
theorem dX11_look_22 : decode cX11_look 22 = .ok (.isub, 1) := by decide +kernel
theorem dX11_look_23 : decode cX11_look 23 = .ok (.iaload, 1) := by decide +kernel
theorem dX11_look_24 : decode cX11_look 24 = .ok (.ireturn, 1) := by decide +kernel
theorem dX11_look_25 : decode cX11_look 25 = .ok (.iload_n 1, 1) := by decide +kernel
theorem dX11_look_26 : decode cX11_look 26 = .ok (.bipush 30, 2) := by decide +kernel
theorem dX11_look_28 : decode cX11_look 28 = .ok (.if_icmp .lt 22, 3) := by decide +kernel
theorem dX11_look_31 : decode cX11_look 31 = .ok (.iload_n 1, 1) := by decide +kernel
theorem dX11_look_32 : decode cX11_look 32 = .ok (.bipush 36, 2) := by decide +kernel
theorem dX11_look_34 : decode cX11_look 34 = .ok (.if_icmp .ge 16, 3) := by decide +kernel
theorem dX11_look_37 : decode cX11_look 37 = .ok (.aload_n 0, 1) := by decide +kernel
theorem dX11_look_38 : decode cX11_look 38 = .ok (.getfield 10, 3) := by decide +kernel
theorem dX11_look_41 : decode cX11_look 41 = .ok (.getfield 136, 3) := by decide +kernel
theorem dX11_look_44 : decode cX11_look 44 = .ok (.iload_n 1, 1) := by decide +kernel
theorem dX11_look_45 : decode cX11_look 45 = .ok (.bipush 30, 2) := by decide +kernel
theorem dX11_look_47 : decode cX11_look 47 = .ok (.isub, 1) := by decide +kernel
theorem dX11_look_48 : decode cX11_look 48 = .ok (.iaload, 1) := by decide +kernel
theorem dX11_look_49 : decode cX11_look 49 = .ok (.ireturn, 1) := by decide +kernel
theorem dX11_look_50 : decode cX11_look 50 = .ok (.iload_n 1, 1) := by decide +kernel
theorem dX11_look_51 : decode cX11_look 51 = .ok (.tableswitch 172 0 11 #[61, 69, 77, 85, 93, 101, 114, 127, 140, 151, 156, 164], 61) := by decide +kernel
theorem dX11_look_112 : decode cX11_look 112 = .ok (.aload_n 0, 1) := by decide +kernel
theorem dX11_look_113 : decode cX11_look 113 = .ok (.getfield 10, 3) := by decide +kernel
theorem dX11_look_116 : decode cX11_look 116 = .ok (.invokevirtual 391, 3) := by decide +kernel
theorem dX11_look_119 : decode cX11_look 119 = .ok (.ireturn, 1) := by decide +kernel
theorem dX11_look_120 : decode cX11_look 120 = .ok (.aload_n 0, 1) := by decide +kernel
theorem dX11_look_121 : decode cX11_look 121 = .ok (.getfield 10, 3) := by decide +kernel
theorem dX11_look_124 : decode cX11_look 124 = .ok (.getfield 122, 3) := by decide +kernel
theorem dX11_look_127 : decode cX11_look 127 = .ok (.ireturn, 1) := by decide +kernel
theorem dX11_look_128 : decode cX11_look 128 = .ok (.aload_n 0, 1) := by decide +kernel
theorem dX11_look_129 : decode cX11_look 129 = .ok (.getfield 10, 3) := by decide +kernel
theorem dX11_look_132 : decode cX11_look 132 = .ok (.getfield 129, 3) := by decide +kernel
theorem dX11_look_135 : decode cX11_look 135 = .ok (.ireturn, 1) := by decide +kernel
theorem dX11_look_136 : decode cX11_look 136 = .ok (.aload_n 0, 1) := by decide +kernel
theorem dX11_look_137 : decode cX11_look 137 = .ok (.getfield 10, 3) := by decide +kernel
theorem dX11_look_140 : decode cX11_look 140 = .ok (.getfield 287, 3) := by decide +kernel
theorem dX11_look_143 : decode cX11_look 143 = .ok (.ireturn, 1) := by decide +kernel
theorem dX11_look_144 : decode cX11_look 144 = .ok (.aload_n 0, 1) := by decide +kernel
theorem dX11_look_145 : decode cX11_look 145 = .ok (.getfield 10, 3) := by decide +kernel
theorem dX11_look_148 : decode cX11_look 148 = .ok (.getfield 103, 3) := by decide +kernel
theorem dX11_look_151 : decode cX11_look 151 = .ok (.ireturn, 1) := by decide +kernel
theorem dX11_look_152 : decode cX11_look 152 = .ok (.aload_n 0, 1) := by decide +kernel
theorem dX11_look_153 : decode cX11_look 153 = .ok (.getfield 26, 3) := by decide +kernel
theorem dX11_look_156 : decode cX11_look 156 = .ok (.getfield 220, 3) := by decide +kernel
theorem dX11_look_159 : decode cX11_look 159 = .ok (.iconst 0, 1) := by decide +kernel
theorem dX11_look_160 : decode cX11_look 160 = .ok (.aaload, 1) := by decide +kernel
theorem dX11_look_161 : decode cX11_look 161 = .ok (.getfield 228, 3) := by decide +kernel
theorem dX11_look_164 : decode cX11_look 164 = .ok (.ireturn, 1) := by decide +kernel
theorem dX11_look_165 : decode cX11_look 165 = .ok (.aload_n 0, 1) := by decide +kernel
theorem dX11_look_166 : decode cX11_look 166 = .ok (.getfield 26, 3) := by decide +kernel
theorem dX11_look_169 : decode cX11_look 169 = .ok (.getfield 220, 3) := by decide +kernel
theorem dX11_look_172 : decode cX11_look 172 = .ok (.iconst 1, 1) := by decide +kernel
theorem dX11_look_173 : decode cX11_look 173 = .ok (.aaload, 1) := by decide +kernel
theorem dX11_look_174 : decode cX11_look 174 = .ok (.getfield 228, 3) := by decide +kernel
theorem dX11_look_177 : decode cX11_look 177 = .ok (.ireturn, 1) := by decide +kernel
theorem dX11_look_178 : decode cX11_look 178 = .ok (.aload_n 0, 1) := by decide +kernel
theorem dX11_look_179 : decode cX11_look 179 = .ok (.getfield 26, 3) := by decide +kernel
theorem dX11_look_182 : decode cX11_look 182 = .ok (.getfield 220, 3) := by decide +kernel
theorem dX11_look_185 : decode cX11_look 185 = .ok (.iconst 2, 1) := by decide +kernel
theorem dX11_look_186 : decode cX11_look 186 = .ok (.aaload, 1) := by decide +kernel
theorem dX11_look_187 : decode cX11_look 187 = .ok (.getfield 228, 3) := by decide +kernel
theorem dX11_look_190 : decode cX11_look 190 = .ok (.ireturn, 1) := by decide +kernel
theorem dX11_look_191 : decode cX11_look 191 = .ok (.aload_n 0, 1) := by decide +kernel
theorem dX11_look_192 : decode cX11_look 192 = .ok (.getfield 26, 3) := by decide +kernel
theorem dX11_look_195 : decode cX11_look 195 = .ok (.getfield 234, 3) := by decide +kernel
theorem dX11_look_198 : decode cX11_look 198 = .ok (.getfield 240, 3) := by decide +kernel
theorem dX11_look_201 : decode cX11_look 201 = .ok (.ireturn, 1) := by decide +kernel
theorem dX11_look_202 : decode cX11_look 202 = .ok (.aload_n 0, 1) := by decide +kernel
theorem dX11_look_203 : decode cX11_look 203 = .ok (.getfield 107, 3) := by decide +kernel
theorem dX11_look_206 : decode cX11_look 206 = .ok (.ireturn, 1) := by decide +kernel
theorem dX11_look_207 : decode cX11_look 207 = .ok (.aload_n 0, 1) := by decide +kernel
theorem dX11_look_208 : decode cX11_look 208 = .ok (.getfield 26, 3) := by decide +kernel
theorem dX11_look_211 : decode cX11_look 211 = .ok (.getfield 313, 3) := by decide +kernel
theorem dX11_look_214 : decode cX11_look 214 = .ok (.ireturn, 1) := by decide +kernel
theorem dX11_look_215 : decode cX11_look 215 = .ok (.aload_n 0, 1) := by decide +kernel
theorem dX11_look_216 : decode cX11_look 216 = .ok (.getfield 26, 3) := by decide +kernel
theorem dX11_look_219 : decode cX11_look 219 = .ok (.getfield 337, 3) := by decide +kernel
theorem dX11_look_222 : decode cX11_look 222 = .ok (.ireturn, 1) := by decide +kernel
theorem dX11_look_223 : decode cX11_look 223 = .ok (.iconst (-1), 1) := by decide +kernel
theorem dX11_look_224 : decode cX11_look 224 = .ok (.ireturn, 1) := by decide +kernel
theorem dX11_isIn_0 : decode cX11_isIn 0 = .ok (.iload_n 0, 1) := by decide +kernel
theorem dX11_isIn_1 : decode cX11_isIn 1 = .ok (.ifCond .lt 12, 3) := by decide +kernel
theorem dX11_isIn_4 : decode cX11_isIn 4 = .ok (.iload_n 0, 1) := by decide +kernel
theorem dX11_isIn_5 : decode cX11_isIn 5 = .ok (.iload_n 1, 1) := by decide +kernel
theorem dX11_isIn_6 : decode cX11_isIn 6 = .ok (.if_icmp .ge 7, 3) := by decide +kernel
theorem dX11_isIn_9 : decode cX11_isIn 9 = .ok (.iconst 1, 1) := by decide +kernel
theorem dX11_isIn_10 : decode cX11_isIn 10 = .ok (.goto 4, 3) := by decide +kernel
theorem dX11_isIn_13 : decode cX11_isIn 13 = .ok (.iconst 0, 1) := by decide +kernel
theorem dX11_isIn_14 : decode cX11_isIn 14 = .ok (.ireturn, 1) := by decide +kernel
theorem dX11_keepPast_0 : decode cX11_keepPast 0 = .ok (.aload_n 0, 1) := by decide +kernel
theorem dX11_keepPast_1 : decode cX11_keepPast 1 = .ok (.getfield 107, 3) := by decide +kernel
theorem dX11_keepPast_4 : decode cX11_keepPast 4 = .ok (.iconst 5, 1) := by decide +kernel
theorem dX11_keepPast_5 : decode cX11_keepPast 5 = .ok (.if_icmp .lt 49, 3) := by decide +kernel
theorem dX11_keepPast_8 : decode cX11_keepPast 8 = .ok (.aload_n 0, 1) := by decide +kernel
theorem dX11_keepPast_9 : decode cX11_keepPast 9 = .ok (.getfield 90, 3) := by decide +kernel
theorem dX11_keepPast_12 : decode cX11_keepPast 12 = .ok (.iconst 0, 1) := by decide +kernel
theorem dX11_keepPast_13 : decode cX11_keepPast 13 = .ok (.aaload, 1) := by decide +kernel
theorem dX11_keepPast_14 : decode cX11_keepPast 14 = .ok (.astore_n 1, 1) := by decide +kernel
theorem dX11_keepPast_15 : decode cX11_keepPast 15 = .ok (.iconst 1, 1) := by decide +kernel
theorem dX11_keepPast_16 : decode cX11_keepPast 16 = .ok (.istore_n 2, 1) := by decide +kernel
theorem dX11_keepPast_17 : decode cX11_keepPast 17 = .ok (.iload_n 2, 1) := by decide +kernel
theorem dX11_keepPast_18 : decode cX11_keepPast 18 = .ok (.iconst 5, 1) := by decide +kernel
theorem dX11_keepPast_19 : decode cX11_keepPast 19 = .ok (.if_icmp .ge 23, 3) := by decide +kernel
theorem dX11_keepPast_22 : decode cX11_keepPast 22 = .ok (.aload_n 0, 1) := by decide +kernel
theorem dX11_keepPast_23 : decode cX11_keepPast 23 = .ok (.getfield 90, 3) := by decide +kernel
theorem dX11_keepPast_26 : decode cX11_keepPast 26 = .ok (.iload_n 2, 1) := by decide +kernel
theorem dX11_keepPast_27 : decode cX11_keepPast 27 = .ok (.iconst 1, 1) := by decide +kernel
theorem dX11_keepPast_28 : decode cX11_keepPast 28 = .ok (.isub, 1) := by decide +kernel
theorem dX11_keepPast_29 : decode cX11_keepPast 29 = .ok (.aload_n 0, 1) := by decide +kernel
theorem dX11_keepPast_30 : decode cX11_keepPast 30 = .ok (.getfield 90, 3) := by decide +kernel
theorem dX11_keepPast_33 : decode cX11_keepPast 33 = .ok (.iload_n 2, 1) := by decide +kernel
theorem dX11_keepPast_34 : decode cX11_keepPast 34 = .ok (.aaload, 1) := by decide +kernel
theorem dX11_keepPast_35 : decode cX11_keepPast 35 = .ok (.aastore, 1) := by decide +kernel
theorem dX11_keepPast_36 : decode cX11_keepPast 36 = .ok (.iinc 2 1, 3) := by decide +kernel
theorem dX11_keepPast_39 : decode cX11_keepPast 39 = .ok (.goto (-22), 3) := by decide +kernel
theorem dX11_keepPast_42 : decode cX11_keepPast 42 = .ok (.aload_n 0, 1) := by decide +kernel
theorem dX11_keepPast_43 : decode cX11_keepPast 43 = .ok (.getfield 90, 3) := by decide +kernel
theorem dX11_keepPast_46 : decode cX11_keepPast 46 = .ok (.iconst 4, 1) := by decide +kernel
theorem dX11_keepPast_47 : decode cX11_keepPast 47 = .ok (.aload_n 1, 1) := by decide +kernel
theorem dX11_keepPast_48 : decode cX11_keepPast 48 = .ok (.aastore, 1) := by decide +kernel
theorem dX11_keepPast_49 : decode cX11_keepPast 49 = .ok (.aload_n 0, 1) := by decide +kernel
theorem dX11_keepPast_50 : decode cX11_keepPast 50 = .ok (.iconst 4, 1) := by decide +kernel
theorem dX11_keepPast_51 : decode cX11_keepPast 51 = .ok (.putfield 107, 3) := by decide +kernel
theorem dX11_keepPast_54 : decode cX11_keepPast 54 = .ok (.aload_n 0, 1) := by decide +kernel
theorem dX11_keepPast_55 : decode cX11_keepPast 55 = .ok (.getfield 90, 3) := by decide +kernel
theorem dX11_keepPast_58 : decode cX11_keepPast 58 = .ok (.aload_n 0, 1) := by decide +kernel
theorem dX11_keepPast_59 : decode cX11_keepPast 59 = .ok (.getfield 107, 3) := by decide +kernel
theorem dX11_keepPast_62 : decode cX11_keepPast 62 = .ok (.aaload, 1) := by decide +kernel
theorem dX11_keepPast_63 : decode cX11_keepPast 63 = .ok (.aload_n 0, 1) := by decide +kernel
theorem dX11_keepPast_64 : decode cX11_keepPast 64 = .ok (.getfield 10, 3) := by decide +kernel
theorem dX11_keepPast_67 : decode cX11_keepPast 67 = .ok (.invokevirtual 380, 3) := by decide +kernel
theorem dX11_keepPast_70 : decode cX11_keepPast 70 = .ok (.aload_n 0, 1) := by decide +kernel
theorem dX11_keepPast_71 : decode cX11_keepPast 71 = .ok (.dup, 1) := by decide +kernel
theorem dX11_keepPast_72 : decode cX11_keepPast 72 = .ok (.getfield 107, 3) := by decide +kernel
theorem dX11_keepPast_75 : decode cX11_keepPast 75 = .ok (.iconst 1, 1) := by decide +kernel
theorem dX11_keepPast_76 : decode cX11_keepPast 76 = .ok (.iadd, 1) := by decide +kernel
theorem dX11_keepPast_77 : decode cX11_keepPast 77 = .ok (.putfield 107, 3) := by decide +kernel
theorem dX11_keepPast_80 : decode cX11_keepPast 80 = .ok (.return_, 1) := by decide +kernel
theorem dX11_tieByHand_0 : decode cX11_tieByHand 0 = .ok (.aload_n 0, 1) := by decide +kernel
theorem dX11_tieByHand_1 : decode cX11_tieByHand 1 = .ok (.getfield 10, 3) := by decide +kernel
theorem dX11_tieByHand_4 : decode cX11_tieByHand 4 = .ok (.getfield 118, 3) := by decide +kernel
theorem dX11_tieByHand_7 : decode cX11_tieByHand 7 = .ok (.iload_n 1, 1) := by decide +kernel
theorem dX11_tieByHand_8 : decode cX11_tieByHand 8 = .ok (.aaload, 1) := by decide +kernel
theorem dX11_tieByHand_9 : decode cX11_tieByHand 9 = .ok (.iload_n 2, 1) := by decide +kernel
theorem dX11_tieByHand_10 : decode cX11_tieByHand 10 = .ok (.iload_n 3, 1) := by decide +kernel
theorem dX11_tieByHand_11 : decode cX11_tieByHand 11 = .ok (.aload_n 0, 1) := by decide +kernel
theorem dX11_tieByHand_12 : decode cX11_tieByHand 12 = .ok (.getfield 10, 3) := by decide +kernel
theorem dX11_tieByHand_15 : decode cX11_tieByHand 15 = .ok (.getfield 132, 3) := by decide +kernel
theorem dX11_tieByHand_18 : decode cX11_tieByHand 18 = .ok (.iload_n 3, 1) := by decide +kernel
theorem dX11_tieByHand_19 : decode cX11_tieByHand 19 = .ok (.iaload, 1) := by decide +kernel
theorem dX11_tieByHand_20 : decode cX11_tieByHand 20 = .ok (.aload_n 0, 1) := by decide +kernel
theorem dX11_tieByHand_21 : decode cX11_tieByHand 21 = .ok (.getfield 10, 3) := by decide +kernel
theorem dX11_tieByHand_24 : decode cX11_tieByHand 24 = .ok (.getfield 122, 3) := by decide +kernel
theorem dX11_tieByHand_27 : decode cX11_tieByHand 27 = .ok (.invokevirtual 394, 3) := by decide +kernel
theorem dX11_tieByHand_30 : decode cX11_tieByHand 30 = .ok (.aload_n 0, 1) := by decide +kernel
theorem dX11_tieByHand_31 : decode cX11_tieByHand 31 = .ok (.getfield 19, 3) := by decide +kernel
theorem dX11_tieByHand_34 : decode cX11_tieByHand 34 = .ok (.aload_n 0, 1) := by decide +kernel
theorem dX11_tieByHand_35 : decode cX11_tieByHand 35 = .ok (.getfield 10, 3) := by decide +kernel
theorem dX11_tieByHand_38 : decode cX11_tieByHand 38 = .ok (.iload_n 1, 1) := by decide +kernel
theorem dX11_tieByHand_39 : decode cX11_tieByHand 39 = .ok (.iload_n 2, 1) := by decide +kernel
theorem dX11_tieByHand_40 : decode cX11_tieByHand 40 = .ok (.iload_n 3, 1) := by decide +kernel
theorem dX11_tieByHand_41 : decode cX11_tieByHand 41 = .ok (.iconst 0, 1) := by decide +kernel
theorem dX11_tieByHand_42 : decode cX11_tieByHand 42 = .ok (.iload 4, 2) := by decide +kernel
theorem dX11_tieByHand_44 : decode cX11_tieByHand 44 = .ok (.invokevirtual 177, 3) := by decide +kernel
theorem dX11_tieByHand_47 : decode cX11_tieByHand 47 = .ok (.return_, 1) := by decide +kernel
theorem dX11_pullNow_0 : decode cX11_pullNow 0 = .ok (.aload_n 0, 1) := by decide +kernel
theorem dX11_pullNow_1 : decode cX11_pullNow 1 = .ok (.getfield 10, 3) := by decide +kernel
theorem dX11_pullNow_4 : decode cX11_pullNow 4 = .ok (.getfield 118, 3) := by decide +kernel
theorem dX11_pullNow_7 : decode cX11_pullNow 7 = .ok (.iload_n 1, 1) := by decide +kernel
theorem dX11_pullNow_8 : decode cX11_pullNow 8 = .ok (.aaload, 1) := by decide +kernel
theorem dX11_pullNow_9 : decode cX11_pullNow 9 = .ok (.astore_n 3, 1) := by decide +kernel
theorem dX11_pullNow_10 : decode cX11_pullNow 10 = .ok (.aload_n 0, 1) := by decide +kernel
theorem dX11_pullNow_11 : decode cX11_pullNow 11 = .ok (.getfield 65, 3) := by decide +kernel
theorem dX11_pullNow_14 : decode cX11_pullNow 14 = .ok (.aload_n 0, 1) := by decide +kernel
theorem dX11_pullNow_15 : decode cX11_pullNow 15 = .ok (.getfield 10, 3) := by decide +kernel
theorem dX11_pullNow_18 : decode cX11_pullNow 18 = .ok (.aload_n 3, 1) := by decide +kernel
theorem dX11_pullNow_19 : decode cX11_pullNow 19 = .ok (.iload_n 2, 1) := by decide +kernel
theorem dX11_pullNow_20 : decode cX11_pullNow 20 = .ok (.invokevirtual 293, 3) := by decide +kernel
theorem dX11_pullNow_23 : decode cX11_pullNow 23 = .ok (.iconst 0, 1) := by decide +kernel
theorem dX11_pullNow_24 : decode cX11_pullNow 24 = .ok (.istore 4, 2) := by decide +kernel
theorem dX11_pullNow_26 : decode cX11_pullNow 26 = .ok (.iload 4, 2) := by decide +kernel
theorem dX11_pullNow_28 : decode cX11_pullNow 28 = .ok (.aload_n 0, 1) := by decide +kernel
theorem dX11_pullNow_29 : decode cX11_pullNow 29 = .ok (.getfield 65, 3) := by decide +kernel
theorem dX11_pullNow_32 : decode cX11_pullNow 32 = .ok (.getfield 163, 3) := by decide +kernel
theorem dX11_pullNow_35 : decode cX11_pullNow 35 = .ok (.if_icmp .ge 43, 3) := by decide +kernel
theorem dX11_pullNow_38 : decode cX11_pullNow 38 = .ok (.aload_n 0, 1) := by decide +kernel
theorem dX11_pullNow_39 : decode cX11_pullNow 39 = .ok (.getfield 19, 3) := by decide +kernel
theorem dX11_pullNow_42 : decode cX11_pullNow 42 = .ok (.aload_n 0, 1) := by decide +kernel
theorem dX11_pullNow_43 : decode cX11_pullNow 43 = .ok (.getfield 10, 3) := by decide +kernel
theorem dX11_pullNow_46 : decode cX11_pullNow 46 = .ok (.iload_n 1, 1) := by decide +kernel
theorem dX11_pullNow_47 : decode cX11_pullNow 47 = .ok (.aload_n 0, 1) := by decide +kernel
theorem dX11_pullNow_48 : decode cX11_pullNow 48 = .ok (.getfield 65, 3) := by decide +kernel
theorem dX11_pullNow_51 : decode cX11_pullNow 51 = .ok (.getfield 297, 3) := by decide +kernel
theorem dX11_pullNow_54 : decode cX11_pullNow 54 = .ok (.iload 4, 2) := by decide +kernel
theorem dX11_pullNow_56 : decode cX11_pullNow 56 = .ok (.iaload, 1) := by decide +kernel
theorem dX11_pullNow_57 : decode cX11_pullNow 57 = .ok (.aload_n 0, 1) := by decide +kernel
theorem dX11_pullNow_58 : decode cX11_pullNow 58 = .ok (.getfield 65, 3) := by decide +kernel
theorem dX11_pullNow_61 : decode cX11_pullNow 61 = .ok (.getfield 300, 3) := by decide +kernel
theorem dX11_pullNow_64 : decode cX11_pullNow 64 = .ok (.iload 4, 2) := by decide +kernel
theorem dX11_pullNow_66 : decode cX11_pullNow 66 = .ok (.iaload, 1) := by decide +kernel
theorem dX11_pullNow_67 : decode cX11_pullNow 67 = .ok (.iconst 1, 1) := by decide +kernel
theorem dX11_pullNow_68 : decode cX11_pullNow 68 = .ok (.iconst (-1), 1) := by decide +kernel
theorem dX11_pullNow_69 : decode cX11_pullNow 69 = .ok (.invokevirtual 177, 3) := by decide +kernel
theorem dX11_pullNow_72 : decode cX11_pullNow 72 = .ok (.iinc 4 1, 3) := by decide +kernel
theorem dX11_pullNow_75 : decode cX11_pullNow 75 = .ok (.goto (-49), 3) := by decide +kernel
theorem dX11_pullNow_78 : decode cX11_pullNow 78 = .ok (.aload_n 0, 1) := by decide +kernel
theorem dX11_pullNow_79 : decode cX11_pullNow 79 = .ok (.getfield 56, 3) := by decide +kernel
theorem dX11_pullNow_82 : decode cX11_pullNow 82 = .ok (.aload_n 0, 1) := by decide +kernel
theorem dX11_pullNow_83 : decode cX11_pullNow 83 = .ok (.getfield 10, 3) := by decide +kernel
theorem dX11_pullNow_86 : decode cX11_pullNow 86 = .ok (.aload_n 3, 1) := by decide +kernel
theorem dX11_pullNow_87 : decode cX11_pullNow 87 = .ok (.iload_n 2, 1) := by decide +kernel
theorem dX11_pullNow_88 : decode cX11_pullNow 88 = .ok (.invokevirtual 303, 3) := by decide +kernel
theorem dX11_pullNow_91 : decode cX11_pullNow 91 = .ok (.istore 4, 2) := by decide +kernel
theorem dX11_pullNow_93 : decode cX11_pullNow 93 = .ok (.iload 4, 2) := by decide +kernel
theorem dX11_pullNow_95 : decode cX11_pullNow 95 = .ok (.iconst (-1), 1) := by decide +kernel
theorem dX11_pullNow_96 : decode cX11_pullNow 96 = .ok (.if_icmp .ne 5, 3) := by decide +kernel
theorem dX11_pullNow_99 : decode cX11_pullNow 99 = .ok (.iconst 0, 1) := by decide +kernel
theorem dX11_pullNow_100 : decode cX11_pullNow 100 = .ok (.ireturn, 1) := by decide +kernel
theorem dX11_pullNow_101 : decode cX11_pullNow 101 = .ok (.aload_n 0, 1) := by decide +kernel
theorem dX11_pullNow_102 : decode cX11_pullNow 102 = .ok (.getfield 10, 3) := by decide +kernel
theorem dX11_pullNow_105 : decode cX11_pullNow 105 = .ok (.iload_n 1, 1) := by decide +kernel
theorem dX11_pullNow_106 : decode cX11_pullNow 106 = .ok (.iload 4, 2) := by decide +kernel
theorem dX11_pullNow_108 : decode cX11_pullNow 108 = .ok (.invokevirtual 173, 3) := by decide +kernel
theorem dX11_pullNow_111 : decode cX11_pullNow 111 = .ok (.istore 5, 2) := by decide +kernel
theorem dX11_pullNow_113 : decode cX11_pullNow 113 = .ok (.aload_n 0, 1) := by decide +kernel
theorem dX11_pullNow_114 : decode cX11_pullNow 114 = .ok (.getfield 19, 3) := by decide +kernel
theorem dX11_pullNow_117 : decode cX11_pullNow 117 = .ok (.aload_n 0, 1) := by decide +kernel
theorem dX11_pullNow_118 : decode cX11_pullNow 118 = .ok (.getfield 10, 3) := by decide +kernel
theorem dX11_pullNow_121 : decode cX11_pullNow 121 = .ok (.iload_n 1, 1) := by decide +kernel
theorem dX11_pullNow_122 : decode cX11_pullNow 122 = .ok (.iload 4, 2) := by decide +kernel
theorem dX11_pullNow_124 : decode cX11_pullNow 124 = .ok (.iload 5, 2) := by decide +kernel
theorem dX11_pullNow_126 : decode cX11_pullNow 126 = .ok (.iconst 2, 1) := by decide +kernel
theorem dX11_pullNow_127 : decode cX11_pullNow 127 = .ok (.iconst (-1), 1) := by decide +kernel
theorem dX11_pullNow_128 : decode cX11_pullNow 128 = .ok (.invokevirtual 177, 3) := by decide +kernel
theorem dX11_pullNow_131 : decode cX11_pullNow 131 = .ok (.iconst 1, 1) := by decide +kernel
theorem dX11_pullNow_132 : decode cX11_pullNow 132 = .ok (.ireturn, 1) := by decide +kernel
theorem dX11_passDay_0 : decode cX11_passDay 0 = .ok (.iconst 0, 1) := by decide +kernel
theorem dX11_passDay_1 : decode cX11_passDay 1 = .ok (.istore_n 1, 1) := by decide +kernel
theorem dX11_passDay_2 : decode cX11_passDay 2 = .ok (.iload_n 1, 1) := by decide +kernel
theorem dX11_passDay_3 : decode cX11_passDay 3 = .ok (.bipush 8, 2) := by decide +kernel
theorem dX11_passDay_5 : decode cX11_passDay 5 = .ok (.if_icmp .ge 44, 3) := by decide +kernel
theorem dX11_passDay_8 : decode cX11_passDay 8 = .ok (.aload_n 0, 1) := by decide +kernel
theorem dX11_passDay_9 : decode cX11_passDay 9 = .ok (.getfield 10, 3) := by decide +kernel
theorem dX11_passDay_12 : decode cX11_passDay 12 = .ok (.getfield 118, 3) := by decide +kernel
theorem dX11_passDay_15 : decode cX11_passDay 15 = .ok (.iload_n 1, 1) := by decide +kernel
theorem dX11_passDay_16 : decode cX11_passDay 16 = .ok (.aaload, 1) := by decide +kernel
theorem dX11_passDay_17 : decode cX11_passDay 17 = .ok (.getfield 185, 3) := by decide +kernel
theorem dX11_passDay_20 : decode cX11_passDay 20 = .ok (.ifCond .eq 23, 3) := by decide +kernel
theorem dX11_passDay_23 : decode cX11_passDay 23 = .ok (.aload_n 0, 1) := by decide +kernel
theorem dX11_passDay_24 : decode cX11_passDay 24 = .ok (.getfield 56, 3) := by decide +kernel
theorem dX11_passDay_27 : decode cX11_passDay 27 = .ok (.aload_n 0, 1) := by decide +kernel
theorem dX11_passDay_28 : decode cX11_passDay 28 = .ok (.getfield 10, 3) := by decide +kernel
theorem dX11_passDay_31 : decode cX11_passDay 31 = .ok (.aload_n 0, 1) := by decide +kernel
theorem dX11_passDay_32 : decode cX11_passDay 32 = .ok (.getfield 10, 3) := by decide +kernel
theorem dX11_passDay_35 : decode cX11_passDay 35 = .ok (.getfield 118, 3) := by decide +kernel
theorem dX11_passDay_38 : decode cX11_passDay 38 = .ok (.iload_n 1, 1) := by decide +kernel
theorem dX11_passDay_39 : decode cX11_passDay 39 = .ok (.aaload, 1) := by decide +kernel
theorem dX11_passDay_40 : decode cX11_passDay 40 = .ok (.invokevirtual 397, 3) := by decide +kernel
theorem dX11_passDay_43 : decode cX11_passDay 43 = .ok (.iinc 1 1, 3) := by decide +kernel
theorem dX11_passDay_46 : decode cX11_passDay 46 = .ok (.goto (-44), 3) := by decide +kernel
theorem dX11_passDay_49 : decode cX11_passDay 49 = .ok (.aload_n 0, 1) := by decide +kernel
theorem dX11_passDay_50 : decode cX11_passDay 50 = .ok (.getfield 10, 3) := by decide +kernel
theorem dX11_passDay_53 : decode cX11_passDay 53 = .ok (.getfield 129, 3) := by decide +kernel
theorem dX11_passDay_56 : decode cX11_passDay 56 = .ok (.ifCond .le 27, 3) := by decide +kernel
theorem dX11_passDay_59 : decode cX11_passDay 59 = .ok (.aload_n 0, 1) := by decide +kernel
theorem dX11_passDay_60 : decode cX11_passDay 60 = .ok (.getfield 10, 3) := by decide +kernel
theorem dX11_passDay_63 : decode cX11_passDay 63 = .ok (.sipush 1000, 3) := by decide +kernel
theorem dX11_passDay_66 : decode cX11_passDay 66 = .ok (.invokevirtual 401, 3) := by decide +kernel
theorem dX11_passDay_69 : decode cX11_passDay 69 = .ok (.aload_n 0, 1) := by decide +kernel
theorem dX11_passDay_70 : decode cX11_passDay 70 = .ok (.getfield 10, 3) := by decide +kernel
theorem dX11_passDay_73 : decode cX11_passDay 73 = .ok (.getfield 129, 3) := by decide +kernel
theorem dX11_passDay_76 : decode cX11_passDay 76 = .ok (.if_icmp .ge 7, 3) := by decide +kernel
theorem dX11_passDay_79 : decode cX11_passDay 79 = .ok (.iconst 1, 1) := by decide +kernel
theorem dX11_passDay_80 : decode cX11_passDay 80 = .ok (.goto 4, 3) := by decide +kernel
theorem dX11_passDay_83 : decode cX11_passDay 83 = .ok (.iconst 0, 1) := by decide +kernel
theorem dX11_passDay_84 : decode cX11_passDay 84 = .ok (.istore_n 1, 1) := by decide +kernel
theorem dX11_passDay_85 : decode cX11_passDay 85 = .ok (.iload_n 1, 1) := by decide +kernel
theorem dX11_passDay_86 : decode cX11_passDay 86 = .ok (.ifCond .eq 13, 3) := by decide +kernel
theorem dX11_passDay_89 : decode cX11_passDay 89 = .ok (.aload_n 0, 1) := by decide +kernel
theorem dX11_passDay_90 : decode cX11_passDay 90 = .ok (.getfield 10, 3) := by decide +kernel
theorem dX11_passDay_93 : decode cX11_passDay 93 = .ok (.invokevirtual 391, 3) := by decide +kernel
theorem dX11_passDay_96 : decode cX11_passDay 96 = .ok (.goto 4, 3) := by decide +kernel
theorem dX11_passDay_99 : decode cX11_passDay 99 = .ok (.iconst 0, 1) := by decide +kernel
theorem dX11_passDay_100 : decode cX11_passDay 100 = .ok (.istore_n 2, 1) := by decide +kernel
theorem dX11_passDay_101 : decode cX11_passDay 101 = .ok (.iconst 0, 1) := by decide +kernel
theorem dX11_passDay_102 : decode cX11_passDay 102 = .ok (.istore_n 3, 1) := by decide +kernel
theorem dX11_passDay_103 : decode cX11_passDay 103 = .ok (.iconst 0, 1) := by decide +kernel
theorem dX11_passDay_104 : decode cX11_passDay 104 = .ok (.istore 4, 2) := by decide +kernel
theorem dX11_passDay_106 : decode cX11_passDay 106 = .ok (.iload 4, 2) := by decide +kernel
theorem dX11_passDay_108 : decode cX11_passDay 108 = .ok (.bipush 8, 2) := by decide +kernel
theorem dX11_passDay_110 : decode cX11_passDay 110 = .ok (.if_icmp .ge 40, 3) := by decide +kernel
theorem dX11_passDay_113 : decode cX11_passDay 113 = .ok (.iload_n 2, 1) := by decide +kernel
theorem dX11_passDay_114 : decode cX11_passDay 114 = .ok (.iload 4, 2) := by decide +kernel
theorem dX11_passDay_116 : decode cX11_passDay 116 = .ok (.ishr, 1) := by decide +kernel
theorem dX11_passDay_117 : decode cX11_passDay 117 = .ok (.iconst 1, 1) := by decide +kernel
theorem dX11_passDay_118 : decode cX11_passDay 118 = .ok (.iand, 1) := by decide +kernel
theorem dX11_passDay_119 : decode cX11_passDay 119 = .ok (.iconst 1, 1) := by decide +kernel
theorem dX11_passDay_120 : decode cX11_passDay 120 = .ok (.if_icmp .ne 24, 3) := by decide +kernel
theorem dX11_passDay_123 : decode cX11_passDay 123 = .ok (.aload_n 0, 1) := by decide +kernel
theorem dX11_passDay_124 : decode cX11_passDay 124 = .ok (.iload 4, 2) := by decide +kernel
theorem dX11_passDay_126 : decode cX11_passDay 126 = .ok (.aload_n 0, 1) := by decide +kernel
theorem dX11_passDay_127 : decode cX11_passDay 127 = .ok (.getfield 10, 3) := by decide +kernel
theorem dX11_passDay_130 : decode cX11_passDay 130 = .ok (.bipush 100, 2) := by decide +kernel
theorem dX11_passDay_132 : decode cX11_passDay 132 = .ok (.invokevirtual 401, 3) := by decide +kernel
theorem dX11_passDay_135 : decode cX11_passDay 135 = .ok (.invokevirtual 160, 3) := by decide +kernel
theorem dX11_passDay_138 : decode cX11_passDay 138 = .ok (.ifCond .eq 6, 3) := by decide +kernel
theorem dX11_passDay_141 : decode cX11_passDay 141 = .ok (.iinc 3 1, 3) := by decide +kernel
theorem dX11_passDay_144 : decode cX11_passDay 144 = .ok (.iinc 4 1, 3) := by decide +kernel
theorem dX11_passDay_147 : decode cX11_passDay 147 = .ok (.goto (-41), 3) := by decide +kernel
theorem dX11_passDay_150 : decode cX11_passDay 150 = .ok (.aload_n 0, 1) := by decide +kernel
theorem dX11_passDay_151 : decode cX11_passDay 151 = .ok (.getfield 10, 3) := by decide +kernel
theorem dX11_passDay_154 : decode cX11_passDay 154 = .ok (.dup, 1) := by decide +kernel
theorem dX11_passDay_155 : decode cX11_passDay 155 = .ok (.getfield 122, 3) := by decide +kernel
theorem dX11_passDay_158 : decode cX11_passDay 158 = .ok (.iconst 1, 1) := by decide +kernel
theorem dX11_passDay_159 : decode cX11_passDay 159 = .ok (.iadd, 1) := by decide +kernel
theorem dX11_passDay_160 : decode cX11_passDay 160 = .ok (.putfield 122, 3) := by decide +kernel
theorem dX11_passDay_163 : decode cX11_passDay 163 = .ok (.iload_n 3, 1) := by decide +kernel
theorem dX11_passDay_164 : decode cX11_passDay 164 = .ok (.ireturn, 1) := by decide +kernel
theorem dX11_doStep_0 : decode cX11_doStep 0 = .ok (.aload_n 0, 1) := by decide +kernel
theorem dX11_doStep_1 : decode cX11_doStep 1 = .ok (.getfield 10, 3) := by decide +kernel
theorem dX11_doStep_4 : decode cX11_doStep 4 = .ok (.iload_n 1, 1) := by decide +kernel
theorem dX11_doStep_5 : decode cX11_doStep 5 = .ok (.invokevirtual 139, 3) := by decide +kernel
theorem dX11_doStep_8 : decode cX11_doStep 8 = .ok (.astore 4, 2) := by decide +kernel
theorem dX11_doStep_10 : decode cX11_doStep 10 = .ok (.aload 4, 2) := by decide +kernel
theorem dX11_doStep_12 : decode cX11_doStep 12 = .ok (.ifnonnull 5, 3) := by decide +kernel
theorem dX11_doStep_15 : decode cX11_doStep 15 = .ok (.iconst 0, 1) := by decide +kernel
theorem dX11_doStep_16 : decode cX11_doStep 16 = .ok (.ireturn, 1) := by decide +kernel
theorem dX11_doStep_17 : decode cX11_doStep 17 = .ok (.aload_n 0, 1) := by decide +kernel
theorem dX11_doStep_18 : decode cX11_doStep 18 = .ok (.getfield 26, 3) := by decide +kernel
theorem dX11_doStep_21 : decode cX11_doStep 21 = .ok (.getfield 234, 3) := by decide +kernel
theorem dX11_doStep_24 : decode cX11_doStep 24 = .ok (.getfield 404, 3) := by decide +kernel
theorem dX11_doStep_27 : decode cX11_doStep 27 = .ok (.iload_n 3, 1) := by decide +kernel
theorem dX11_doStep_28 : decode cX11_doStep 28 = .ok (.iaload, 1) := by decide +kernel
theorem dX11_doStep_29 : decode cX11_doStep 29 = .ok (.istore 5, 2) := by decide +kernel
theorem dX11_doStep_31 : decode cX11_doStep 31 = .ok (.aload_n 0, 1) := by decide +kernel
theorem dX11_doStep_32 : decode cX11_doStep 32 = .ok (.getfield 26, 3) := by decide +kernel
theorem dX11_doStep_35 : decode cX11_doStep 35 = .ok (.getfield 234, 3) := by decide +kernel
theorem dX11_doStep_38 : decode cX11_doStep 38 = .ok (.getfield 407, 3) := by decide +kernel
theorem dX11_doStep_41 : decode cX11_doStep 41 = .ok (.iload_n 3, 1) := by decide +kernel
theorem dX11_doStep_42 : decode cX11_doStep 42 = .ok (.iaload, 1) := by decide +kernel
theorem dX11_doStep_43 : decode cX11_doStep 43 = .ok (.tableswitch 126 0 4 #[33, 126, 77, 100, 110], 33) := by decide +kernel
theorem dX11_doStep_76 : decode cX11_doStep 76 = .ok (.aload 4, 2) := by decide +kernel
theorem dX11_doStep_78 : decode cX11_doStep 78 = .ok (.aload_n 0, 1) := by decide +kernel
theorem dX11_doStep_79 : decode cX11_doStep 79 = .ok (.getfield 26, 3) := by decide +kernel
theorem dX11_doStep_82 : decode cX11_doStep 82 = .ok (.getfield 234, 3) := by decide +kernel
theorem dX11_doStep_85 : decode cX11_doStep 85 = .ok (.getfield 410, 3) := by decide +kernel
theorem dX11_doStep_88 : decode cX11_doStep 88 = .ok (.iload_n 3, 1) := by decide +kernel
theorem dX11_doStep_89 : decode cX11_doStep 89 = .ok (.iaload, 1) := by decide +kernel
theorem dX11_doStep_90 : decode cX11_doStep 90 = .ok (.invokevirtual 143, 3) := by decide +kernel
theorem dX11_doStep_93 : decode cX11_doStep 93 = .ok (.ifCond .ne 5, 3) := by decide +kernel
theorem dX11_doStep_96 : decode cX11_doStep 96 = .ok (.iconst 0, 1) := by decide +kernel
theorem dX11_doStep_97 : decode cX11_doStep 97 = .ok (.ireturn, 1) := by decide +kernel
theorem dX11_doStep_98 : decode cX11_doStep 98 = .ok (.aload_n 0, 1) := by decide +kernel
theorem dX11_doStep_99 : decode cX11_doStep 99 = .ok (.iload_n 1, 1) := by decide +kernel
theorem dX11_doStep_100 : decode cX11_doStep 100 = .ok (.aload_n 0, 1) := by decide +kernel
theorem dX11_doStep_101 : decode cX11_doStep 101 = .ok (.getfield 26, 3) := by decide +kernel
theorem dX11_doStep_104 : decode cX11_doStep 104 = .ok (.getfield 234, 3) := by decide +kernel
theorem dX11_doStep_107 : decode cX11_doStep 107 = .ok (.getfield 410, 3) := by decide +kernel
theorem dX11_doStep_110 : decode cX11_doStep 110 = .ok (.iload_n 3, 1) := by decide +kernel
theorem dX11_doStep_111 : decode cX11_doStep 111 = .ok (.iaload, 1) := by decide +kernel
theorem dX11_doStep_112 : decode cX11_doStep 112 = .ok (.iload 5, 2) := by decide +kernel
theorem dX11_doStep_114 : decode cX11_doStep 114 = .ok (.iload_n 2, 1) := by decide +kernel
theorem dX11_doStep_115 : decode cX11_doStep 115 = .ok (.invokevirtual 150, 3) := by decide +kernel
theorem dX11_doStep_118 : decode cX11_doStep 118 = .ok (.iconst 1, 1) := by decide +kernel
theorem dX11_doStep_119 : decode cX11_doStep 119 = .ok (.ireturn, 1) := by decide +kernel
theorem dX11_doStep_120 : decode cX11_doStep 120 = .ok (.aload 4, 2) := by decide +kernel
theorem dX11_doStep_122 : decode cX11_doStep 122 = .ok (.iload 5, 2) := by decide +kernel
theorem dX11_doStep_124 : decode cX11_doStep 124 = .ok (.invokevirtual 154, 3) := by decide +kernel
theorem dX11_doStep_127 : decode cX11_doStep 127 = .ok (.ifCond .ne 5, 3) := by decide +kernel
theorem dX11_doStep_130 : decode cX11_doStep 130 = .ok (.iconst 0, 1) := by decide +kernel
theorem dX11_doStep_131 : decode cX11_doStep 131 = .ok (.ireturn, 1) := by decide +kernel
theorem dX11_doStep_132 : decode cX11_doStep 132 = .ok (.aload 4, 2) := by decide +kernel
theorem dX11_doStep_134 : decode cX11_doStep 134 = .ok (.getfield 157, 3) := by decide +kernel
theorem dX11_doStep_137 : decode cX11_doStep 137 = .ok (.iload 5, 2) := by decide +kernel
theorem dX11_doStep_139 : decode cX11_doStep 139 = .ok (.iconst (-1), 1) := by decide +kernel
theorem dX11_doStep_140 : decode cX11_doStep 140 = .ok (.iastore, 1) := by decide +kernel
theorem dX11_doStep_141 : decode cX11_doStep 141 = .ok (.iconst 1, 1) := by decide +kernel
theorem dX11_doStep_142 : decode cX11_doStep 142 = .ok (.ireturn, 1) := by decide +kernel
theorem dX11_doStep_143 : decode cX11_doStep 143 = .ok (.aload_n 0, 1) := by decide +kernel
theorem dX11_doStep_144 : decode cX11_doStep 144 = .ok (.iload_n 1, 1) := by decide +kernel
theorem dX11_doStep_145 : decode cX11_doStep 145 = .ok (.iload 5, 2) := by decide +kernel
theorem dX11_doStep_147 : decode cX11_doStep 147 = .ok (.invokevirtual 160, 3) := by decide +kernel
theorem dX11_doStep_150 : decode cX11_doStep 150 = .ok (.pop, 1) := by decide +kernel
theorem dX11_doStep_151 : decode cX11_doStep 151 = .ok (.iconst 1, 1) := by decide +kernel
theorem dX11_doStep_152 : decode cX11_doStep 152 = .ok (.ireturn, 1) := by decide +kernel
theorem dX11_doStep_153 : decode cX11_doStep 153 = .ok (.aload 4, 2) := by decide +kernel
theorem dX11_doStep_155 : decode cX11_doStep 155 = .ok (.iload 5, 2) := by decide +kernel
theorem dX11_doStep_157 : decode cX11_doStep 157 = .ok (.aload_n 0, 1) := by decide +kernel
theorem dX11_doStep_158 : decode cX11_doStep 158 = .ok (.getfield 10, 3) := by decide +kernel
theorem dX11_doStep_161 : decode cX11_doStep 161 = .ok (.getfield 122, 3) := by decide +kernel
theorem dX11_doStep_164 : decode cX11_doStep 164 = .ok (.invokevirtual 166, 3) := by decide +kernel
theorem dX11_doStep_167 : decode cX11_doStep 167 = .ok (.iconst 1, 1) := by decide +kernel
theorem dX11_doStep_168 : decode cX11_doStep 168 = .ok (.ireturn, 1) := by decide +kernel
theorem dX11_doStep_169 : decode cX11_doStep 169 = .ok (.iconst 0, 1) := by decide +kernel
theorem dX11_doStep_170 : decode cX11_doStep 170 = .ok (.istore 6, 2) := by decide +kernel
theorem dX11_doStep_172 : decode cX11_doStep 172 = .ok (.iload 6, 2) := by decide +kernel
theorem dX11_doStep_174 : decode cX11_doStep 174 = .ok (.iload 5, 2) := by decide +kernel
theorem dX11_doStep_176 : decode cX11_doStep 176 = .ok (.if_icmp .ge 14, 3) := by decide +kernel
theorem dX11_doStep_179 : decode cX11_doStep 179 = .ok (.aload_n 0, 1) := by decide +kernel
theorem dX11_doStep_180 : decode cX11_doStep 180 = .ok (.invokevirtual 192, 3) := by decide +kernel
theorem dX11_doStep_183 : decode cX11_doStep 183 = .ok (.pop, 1) := by decide +kernel
theorem dX11_doStep_184 : decode cX11_doStep 184 = .ok (.iinc 6 1, 3) := by decide +kernel
theorem dX11_doStep_187 : decode cX11_doStep 187 = .ok (.goto (-15), 3) := by decide +kernel
theorem dX11_doStep_190 : decode cX11_doStep 190 = .ok (.iconst 1, 1) := by decide +kernel
theorem dX11_doStep_191 : decode cX11_doStep 191 = .ok (.ireturn, 1) := by decide +kernel
theorem dL_law_0 : decode cL_law 0 = .ok (.new 7, 3) := by decide +kernel
theorem dL_law_3 : decode cL_law 3 = .ok (.dup, 1) := by decide +kernel
theorem dL_law_4 : decode cL_law 4 = .ok (.invokespecial 9, 3) := by decide +kernel
theorem dL_law_7 : decode cL_law 7 = .ok (.astore_n 1, 1) := by decide +kernel
theorem dL_law_8 : decode cL_law 8 = .ok (.new 10, 3) := by decide +kernel
theorem dL_law_11 : decode cL_law 11 = .ok (.dup, 1) := by decide +kernel
theorem dL_law_12 : decode cL_law 12 = .ok (.invokespecial 12, 3) := by decide +kernel
theorem dL_law_15 : decode cL_law 15 = .ok (.astore_n 2, 1) := by decide +kernel
theorem dL_law_16 : decode cL_law 16 = .ok (.iconst 0, 1) := by decide +kernel
theorem dL_law_17 : decode cL_law 17 = .ok (.istore_n 3, 1) := by decide +kernel
theorem dL_law_18 : decode cL_law 18 = .ok (.iload_n 3, 1) := by decide +kernel
theorem dL_law_19 : decode cL_law 19 = .ok (.aload_n 0, 1) := by decide +kernel
theorem dL_law_20 : decode cL_law 20 = .ok (.arraylength, 1) := by decide +kernel
theorem dL_law_21 : decode cL_law 21 = .ok (.bipush 6, 2) := by decide +kernel
theorem dL_law_23 : decode cL_law 23 = .ok (.isub, 1) := by decide +kernel
theorem dL_law_24 : decode cL_law 24 = .ok (.if_icmp .gt 1398, 3) := by decide +kernel
theorem dL_law_27 : decode cL_law 27 = .ok (.aload_n 0, 1) := by decide +kernel
theorem dL_law_28 : decode cL_law 28 = .ok (.iload_n 3, 1) := by decide +kernel
theorem dL_law_29 : decode cL_law 29 = .ok (.iaload, 1) := by decide +kernel
theorem dL_law_30 : decode cL_law 30 = .ok (.bipush 63, 2) := by decide +kernel
theorem dL_law_32 : decode cL_law 32 = .ok (.iand, 1) := by decide +kernel
theorem dL_law_33 : decode cL_law 33 = .ok (.tableswitch 1383 0 35 #[159, 182, 215, 258, 311, 344, 377, 410, 443, 476, 509, 532, 595, 618, 641, 664, 697, 730, 773, 826, 859, 902, 935, 988, 1021, 1064, 1097, 1120, 1143, 1166, 1199, 1232, 1265, 1308, 1321, 1360], 159) := by decide +kernel
theorem dL_law_192 : decode cL_law 192 = .ok (.aload_n 1, 1) := by decide +kernel
theorem dL_law_193 : decode cL_law 193 = .ok (.aload_n 0, 1) := by decide +kernel
theorem dL_law_194 : decode cL_law 194 = .ok (.iload_n 3, 1) := by decide +kernel
theorem dL_law_195 : decode cL_law 195 = .ok (.iconst 1, 1) := by decide +kernel
theorem dL_law_196 : decode cL_law 196 = .ok (.iadd, 1) := by decide +kernel
theorem dL_law_197 : decode cL_law 197 = .ok (.iaload, 1) := by decide +kernel
theorem dL_law_198 : decode cL_law 198 = .ok (.invokevirtual 13, 3) := by decide +kernel
theorem dL_law_201 : decode cL_law 201 = .ok (.aload_n 2, 1) := by decide +kernel
theorem dL_law_202 : decode cL_law 202 = .ok (.aload_n 0, 1) := by decide +kernel
theorem dL_law_203 : decode cL_law 203 = .ok (.iload_n 3, 1) := by decide +kernel
theorem dL_law_204 : decode cL_law 204 = .ok (.iconst 1, 1) := by decide +kernel
theorem dL_law_205 : decode cL_law 205 = .ok (.iadd, 1) := by decide +kernel
theorem dL_law_206 : decode cL_law 206 = .ok (.iaload, 1) := by decide +kernel
theorem dL_law_207 : decode cL_law 207 = .ok (.invokevirtual 17, 3) := by decide +kernel
theorem dL_law_210 : decode cL_law 210 = .ok (.if_icmp .eq 1206, 3) := by decide +kernel
theorem dL_law_213 : decode cL_law 213 = .ok (.iconst 0, 1) := by decide +kernel
theorem dL_law_214 : decode cL_law 214 = .ok (.ireturn, 1) := by decide +kernel
theorem dL_law_215 : decode cL_law 215 = .ok (.aload_n 1, 1) := by decide +kernel
theorem dL_law_216 : decode cL_law 216 = .ok (.aload_n 0, 1) := by decide +kernel
theorem dL_law_217 : decode cL_law 217 = .ok (.iload_n 3, 1) := by decide +kernel
theorem dL_law_218 : decode cL_law 218 = .ok (.iconst 1, 1) := by decide +kernel
theorem dL_law_219 : decode cL_law 219 = .ok (.iadd, 1) := by decide +kernel
theorem dL_law_220 : decode cL_law 220 = .ok (.iaload, 1) := by decide +kernel
theorem dL_law_221 : decode cL_law 221 = .ok (.aload_n 0, 1) := by decide +kernel
theorem dL_law_222 : decode cL_law 222 = .ok (.iload_n 3, 1) := by decide +kernel
theorem dL_law_223 : decode cL_law 223 = .ok (.iconst 2, 1) := by decide +kernel
theorem dL_law_224 : decode cL_law 224 = .ok (.iadd, 1) := by decide +kernel
theorem dL_law_225 : decode cL_law 225 = .ok (.iaload, 1) := by decide +kernel
theorem dL_law_226 : decode cL_law 226 = .ok (.invokevirtual 18, 3) := by decide +kernel
theorem dL_law_229 : decode cL_law 229 = .ok (.aload_n 2, 1) := by decide +kernel
theorem dL_law_230 : decode cL_law 230 = .ok (.aload_n 0, 1) := by decide +kernel
theorem dL_law_231 : decode cL_law 231 = .ok (.iload_n 3, 1) := by decide +kernel
theorem dL_law_232 : decode cL_law 232 = .ok (.iconst 1, 1) := by decide +kernel
theorem dL_law_233 : decode cL_law 233 = .ok (.iadd, 1) := by decide +kernel
theorem dL_law_234 : decode cL_law 234 = .ok (.iaload, 1) := by decide +kernel
theorem dL_law_235 : decode cL_law 235 = .ok (.aload_n 0, 1) := by decide +kernel
theorem dL_law_236 : decode cL_law 236 = .ok (.iload_n 3, 1) := by decide +kernel
theorem dL_law_237 : decode cL_law 237 = .ok (.iconst 2, 1) := by decide +kernel
theorem dL_law_238 : decode cL_law 238 = .ok (.iadd, 1) := by decide +kernel
theorem dL_law_239 : decode cL_law 239 = .ok (.iaload, 1) := by decide +kernel
theorem dL_law_240 : decode cL_law 240 = .ok (.invokevirtual 22, 3) := by decide +kernel
theorem dL_law_243 : decode cL_law 243 = .ok (.if_icmp .eq 1173, 3) := by decide +kernel
theorem dL_law_246 : decode cL_law 246 = .ok (.iconst 0, 1) := by decide +kernel
theorem dL_law_247 : decode cL_law 247 = .ok (.ireturn, 1) := by decide +kernel
theorem dL_law_248 : decode cL_law 248 = .ok (.aload_n 1, 1) := by decide +kernel
theorem dL_law_249 : decode cL_law 249 = .ok (.aload_n 0, 1) := by decide +kernel
theorem dL_law_250 : decode cL_law 250 = .ok (.iload_n 3, 1) := by decide +kernel
theorem dL_law_251 : decode cL_law 251 = .ok (.iconst 1, 1) := by decide +kernel
theorem dL_law_252 : decode cL_law 252 = .ok (.iadd, 1) := by decide +kernel
theorem dL_law_253 : decode cL_law 253 = .ok (.iaload, 1) := by decide +kernel
theorem dL_law_254 : decode cL_law 254 = .ok (.aload_n 0, 1) := by decide +kernel
theorem dL_law_255 : decode cL_law 255 = .ok (.iload_n 3, 1) := by decide +kernel
theorem dL_law_256 : decode cL_law 256 = .ok (.iconst 2, 1) := by decide +kernel
theorem dL_law_257 : decode cL_law 257 = .ok (.iadd, 1) := by decide +kernel
theorem dL_law_258 : decode cL_law 258 = .ok (.iaload, 1) := by decide +kernel
theorem dL_law_259 : decode cL_law 259 = .ok (.aload_n 0, 1) := by decide +kernel
theorem dL_law_260 : decode cL_law 260 = .ok (.iload_n 3, 1) := by decide +kernel
theorem dL_law_261 : decode cL_law 261 = .ok (.iconst 3, 1) := by decide +kernel
theorem dL_law_262 : decode cL_law 262 = .ok (.iadd, 1) := by decide +kernel
theorem dL_law_263 : decode cL_law 263 = .ok (.iaload, 1) := by decide +kernel
theorem dL_law_264 : decode cL_law 264 = .ok (.invokevirtual 23, 3) := by decide +kernel
theorem dL_law_267 : decode cL_law 267 = .ok (.aload_n 2, 1) := by decide +kernel
theorem dL_law_268 : decode cL_law 268 = .ok (.aload_n 0, 1) := by decide +kernel
theorem dL_law_269 : decode cL_law 269 = .ok (.iload_n 3, 1) := by decide +kernel
theorem dL_law_270 : decode cL_law 270 = .ok (.iconst 1, 1) := by decide +kernel
theorem dL_law_271 : decode cL_law 271 = .ok (.iadd, 1) := by decide +kernel
theorem dL_law_272 : decode cL_law 272 = .ok (.iaload, 1) := by decide +kernel
theorem dL_law_273 : decode cL_law 273 = .ok (.aload_n 0, 1) := by decide +kernel
theorem dL_law_274 : decode cL_law 274 = .ok (.iload_n 3, 1) := by decide +kernel
theorem dL_law_275 : decode cL_law 275 = .ok (.iconst 2, 1) := by decide +kernel
theorem dL_law_276 : decode cL_law 276 = .ok (.iadd, 1) := by decide +kernel
theorem dL_law_277 : decode cL_law 277 = .ok (.iaload, 1) := by decide +kernel
theorem dL_law_278 : decode cL_law 278 = .ok (.aload_n 0, 1) := by decide +kernel
theorem dL_law_279 : decode cL_law 279 = .ok (.iload_n 3, 1) := by decide +kernel
theorem dL_law_280 : decode cL_law 280 = .ok (.iconst 3, 1) := by decide +kernel
theorem dL_law_281 : decode cL_law 281 = .ok (.iadd, 1) := by decide +kernel
theorem dL_law_282 : decode cL_law 282 = .ok (.iaload, 1) := by decide +kernel
theorem dL_law_283 : decode cL_law 283 = .ok (.invokevirtual 27, 3) := by decide +kernel
theorem dL_law_286 : decode cL_law 286 = .ok (.if_icmp .eq 1130, 3) := by decide +kernel
theorem dL_law_289 : decode cL_law 289 = .ok (.iconst 0, 1) := by decide +kernel
theorem dL_law_290 : decode cL_law 290 = .ok (.ireturn, 1) := by decide +kernel
theorem dL_law_291 : decode cL_law 291 = .ok (.aload_n 1, 1) := by decide +kernel
theorem dL_law_292 : decode cL_law 292 = .ok (.aload_n 0, 1) := by decide +kernel
theorem dL_law_293 : decode cL_law 293 = .ok (.iload_n 3, 1) := by decide +kernel
theorem dL_law_294 : decode cL_law 294 = .ok (.iconst 1, 1) := by decide +kernel
theorem dL_law_295 : decode cL_law 295 = .ok (.iadd, 1) := by decide +kernel
theorem dL_law_296 : decode cL_law 296 = .ok (.iaload, 1) := by decide +kernel
theorem dL_law_297 : decode cL_law 297 = .ok (.aload_n 0, 1) := by decide +kernel
theorem dL_law_298 : decode cL_law 298 = .ok (.iload_n 3, 1) := by decide +kernel
theorem dL_law_299 : decode cL_law 299 = .ok (.iconst 2, 1) := by decide +kernel
theorem dL_law_300 : decode cL_law 300 = .ok (.iadd, 1) := by decide +kernel
theorem dL_law_301 : decode cL_law 301 = .ok (.iaload, 1) := by decide +kernel
theorem dL_law_302 : decode cL_law 302 = .ok (.aload_n 0, 1) := by decide +kernel
theorem dL_law_303 : decode cL_law 303 = .ok (.iload_n 3, 1) := by decide +kernel
theorem dL_law_304 : decode cL_law 304 = .ok (.iconst 3, 1) := by decide +kernel
theorem dL_law_305 : decode cL_law 305 = .ok (.iadd, 1) := by decide +kernel
theorem dL_law_306 : decode cL_law 306 = .ok (.iaload, 1) := by decide +kernel
theorem dL_law_307 : decode cL_law 307 = .ok (.aload_n 0, 1) := by decide +kernel
theorem dL_law_308 : decode cL_law 308 = .ok (.iload_n 3, 1) := by decide +kernel
theorem dL_law_309 : decode cL_law 309 = .ok (.iconst 4, 1) := by decide +kernel
theorem dL_law_310 : decode cL_law 310 = .ok (.iadd, 1) := by decide +kernel
theorem dL_law_311 : decode cL_law 311 = .ok (.iaload, 1) := by decide +kernel
theorem dL_law_312 : decode cL_law 312 = .ok (.invokevirtual 28, 3) := by decide +kernel
theorem dL_law_315 : decode cL_law 315 = .ok (.aload_n 2, 1) := by decide +kernel
theorem dL_law_316 : decode cL_law 316 = .ok (.aload_n 0, 1) := by decide +kernel
theorem dL_law_317 : decode cL_law 317 = .ok (.iload_n 3, 1) := by decide +kernel
theorem dL_law_318 : decode cL_law 318 = .ok (.iconst 1, 1) := by decide +kernel
theorem dL_law_319 : decode cL_law 319 = .ok (.iadd, 1) := by decide +kernel
theorem dL_law_320 : decode cL_law 320 = .ok (.iaload, 1) := by decide +kernel
theorem dL_law_321 : decode cL_law 321 = .ok (.aload_n 0, 1) := by decide +kernel
theorem dL_law_322 : decode cL_law 322 = .ok (.iload_n 3, 1) := by decide +kernel
theorem dL_law_323 : decode cL_law 323 = .ok (.iconst 2, 1) := by decide +kernel
theorem dL_law_324 : decode cL_law 324 = .ok (.iadd, 1) := by decide +kernel
theorem dL_law_325 : decode cL_law 325 = .ok (.iaload, 1) := by decide +kernel
theorem dL_law_326 : decode cL_law 326 = .ok (.aload_n 0, 1) := by decide +kernel
theorem dL_law_327 : decode cL_law 327 = .ok (.iload_n 3, 1) := by decide +kernel
theorem dL_law_328 : decode cL_law 328 = .ok (.iconst 3, 1) := by decide +kernel
theorem dL_law_329 : decode cL_law 329 = .ok (.iadd, 1) := by decide +kernel
theorem dL_law_330 : decode cL_law 330 = .ok (.iaload, 1) := by decide +kernel
theorem dL_law_331 : decode cL_law 331 = .ok (.aload_n 0, 1) := by decide +kernel
theorem dL_law_332 : decode cL_law 332 = .ok (.iload_n 3, 1) := by decide +kernel
theorem dL_law_333 : decode cL_law 333 = .ok (.iconst 4, 1) := by decide +kernel
theorem dL_law_334 : decode cL_law 334 = .ok (.iadd, 1) := by decide +kernel
theorem dL_law_335 : decode cL_law 335 = .ok (.iaload, 1) := by decide +kernel
theorem dL_law_336 : decode cL_law 336 = .ok (.invokevirtual 32, 3) := by decide +kernel
theorem dL_law_339 : decode cL_law 339 = .ok (.if_icmp .eq 1077, 3) := by decide +kernel
theorem dL_law_342 : decode cL_law 342 = .ok (.iconst 0, 1) := by decide +kernel
theorem dL_law_343 : decode cL_law 343 = .ok (.ireturn, 1) := by decide +kernel
theorem dL_law_344 : decode cL_law 344 = .ok (.aload_n 1, 1) := by decide +kernel
theorem dL_law_345 : decode cL_law 345 = .ok (.aload_n 0, 1) := by decide +kernel
theorem dL_law_346 : decode cL_law 346 = .ok (.iload_n 3, 1) := by decide +kernel
theorem dL_law_347 : decode cL_law 347 = .ok (.iconst 1, 1) := by decide +kernel
theorem dL_law_348 : decode cL_law 348 = .ok (.iadd, 1) := by decide +kernel
theorem dL_law_349 : decode cL_law 349 = .ok (.iaload, 1) := by decide +kernel
theorem dL_law_350 : decode cL_law 350 = .ok (.aload_n 0, 1) := by decide +kernel
theorem dL_law_351 : decode cL_law 351 = .ok (.iload_n 3, 1) := by decide +kernel
theorem dL_law_352 : decode cL_law 352 = .ok (.iconst 2, 1) := by decide +kernel
theorem dL_law_353 : decode cL_law 353 = .ok (.iadd, 1) := by decide +kernel
theorem dL_law_354 : decode cL_law 354 = .ok (.iaload, 1) := by decide +kernel
theorem dL_law_355 : decode cL_law 355 = .ok (.invokevirtual 33, 3) := by decide +kernel
theorem dL_law_358 : decode cL_law 358 = .ok (.aload_n 2, 1) := by decide +kernel
theorem dL_law_359 : decode cL_law 359 = .ok (.aload_n 0, 1) := by decide +kernel
theorem dL_law_360 : decode cL_law 360 = .ok (.iload_n 3, 1) := by decide +kernel
theorem dL_law_361 : decode cL_law 361 = .ok (.iconst 1, 1) := by decide +kernel
theorem dL_law_362 : decode cL_law 362 = .ok (.iadd, 1) := by decide +kernel
theorem dL_law_363 : decode cL_law 363 = .ok (.iaload, 1) := by decide +kernel
theorem dL_law_364 : decode cL_law 364 = .ok (.aload_n 0, 1) := by decide +kernel
theorem dL_law_365 : decode cL_law 365 = .ok (.iload_n 3, 1) := by decide +kernel
theorem dL_law_366 : decode cL_law 366 = .ok (.iconst 2, 1) := by decide +kernel
theorem dL_law_367 : decode cL_law 367 = .ok (.iadd, 1) := by decide +kernel
theorem dL_law_368 : decode cL_law 368 = .ok (.iaload, 1) := by decide +kernel
theorem dL_law_369 : decode cL_law 369 = .ok (.invokevirtual 36, 3) := by decide +kernel
theorem dL_law_372 : decode cL_law 372 = .ok (.if_icmp .eq 1044, 3) := by decide +kernel
theorem dL_law_375 : decode cL_law 375 = .ok (.iconst 0, 1) := by decide +kernel
theorem dL_law_376 : decode cL_law 376 = .ok (.ireturn, 1) := by decide +kernel
theorem dL_law_377 : decode cL_law 377 = .ok (.aload_n 1, 1) := by decide +kernel
theorem dL_law_378 : decode cL_law 378 = .ok (.aload_n 0, 1) := by decide +kernel
theorem dL_law_379 : decode cL_law 379 = .ok (.iload_n 3, 1) := by decide +kernel
theorem dL_law_380 : decode cL_law 380 = .ok (.iconst 1, 1) := by decide +kernel
theorem dL_law_381 : decode cL_law 381 = .ok (.iadd, 1) := by decide +kernel
theorem dL_law_382 : decode cL_law 382 = .ok (.iaload, 1) := by decide +kernel
theorem dL_law_383 : decode cL_law 383 = .ok (.aload_n 0, 1) := by decide +kernel
theorem dL_law_384 : decode cL_law 384 = .ok (.iload_n 3, 1) := by decide +kernel
theorem dL_law_385 : decode cL_law 385 = .ok (.iconst 2, 1) := by decide +kernel
theorem dL_law_386 : decode cL_law 386 = .ok (.iadd, 1) := by decide +kernel
theorem dL_law_387 : decode cL_law 387 = .ok (.iaload, 1) := by decide +kernel
theorem dL_law_388 : decode cL_law 388 = .ok (.invokevirtual 37, 3) := by decide +kernel
theorem dL_law_391 : decode cL_law 391 = .ok (.aload_n 2, 1) := by decide +kernel
theorem dL_law_392 : decode cL_law 392 = .ok (.aload_n 0, 1) := by decide +kernel
theorem dL_law_393 : decode cL_law 393 = .ok (.iload_n 3, 1) := by decide +kernel
theorem dL_law_394 : decode cL_law 394 = .ok (.iconst 1, 1) := by decide +kernel
theorem dL_law_395 : decode cL_law 395 = .ok (.iadd, 1) := by decide +kernel
theorem dL_law_396 : decode cL_law 396 = .ok (.iaload, 1) := by decide +kernel
theorem dL_law_397 : decode cL_law 397 = .ok (.aload_n 0, 1) := by decide +kernel
theorem dL_law_398 : decode cL_law 398 = .ok (.iload_n 3, 1) := by decide +kernel
theorem dL_law_399 : decode cL_law 399 = .ok (.iconst 2, 1) := by decide +kernel
theorem dL_law_400 : decode cL_law 400 = .ok (.iadd, 1) := by decide +kernel
theorem dL_law_401 : decode cL_law 401 = .ok (.iaload, 1) := by decide +kernel
theorem dL_law_402 : decode cL_law 402 = .ok (.invokevirtual 40, 3) := by decide +kernel
theorem dL_law_405 : decode cL_law 405 = .ok (.if_icmp .eq 1011, 3) := by decide +kernel
theorem dL_law_408 : decode cL_law 408 = .ok (.iconst 0, 1) := by decide +kernel
theorem dL_law_409 : decode cL_law 409 = .ok (.ireturn, 1) := by decide +kernel
theorem dL_law_410 : decode cL_law 410 = .ok (.aload_n 1, 1) := by decide +kernel
theorem dL_law_411 : decode cL_law 411 = .ok (.aload_n 0, 1) := by decide +kernel
theorem dL_law_412 : decode cL_law 412 = .ok (.iload_n 3, 1) := by decide +kernel
theorem dL_law_413 : decode cL_law 413 = .ok (.iconst 1, 1) := by decide +kernel
theorem dL_law_414 : decode cL_law 414 = .ok (.iadd, 1) := by decide +kernel
theorem dL_law_415 : decode cL_law 415 = .ok (.iaload, 1) := by decide +kernel
theorem dL_law_416 : decode cL_law 416 = .ok (.aload_n 0, 1) := by decide +kernel
theorem dL_law_417 : decode cL_law 417 = .ok (.iload_n 3, 1) := by decide +kernel
theorem dL_law_418 : decode cL_law 418 = .ok (.iconst 2, 1) := by decide +kernel
theorem dL_law_419 : decode cL_law 419 = .ok (.iadd, 1) := by decide +kernel
theorem dL_law_420 : decode cL_law 420 = .ok (.iaload, 1) := by decide +kernel
theorem dL_law_421 : decode cL_law 421 = .ok (.invokevirtual 41, 3) := by decide +kernel
theorem dL_law_424 : decode cL_law 424 = .ok (.aload_n 2, 1) := by decide +kernel
theorem dL_law_425 : decode cL_law 425 = .ok (.aload_n 0, 1) := by decide +kernel
theorem dL_law_426 : decode cL_law 426 = .ok (.iload_n 3, 1) := by decide +kernel
theorem dL_law_427 : decode cL_law 427 = .ok (.iconst 1, 1) := by decide +kernel
theorem dL_law_428 : decode cL_law 428 = .ok (.iadd, 1) := by decide +kernel
theorem dL_law_429 : decode cL_law 429 = .ok (.iaload, 1) := by decide +kernel
theorem dL_law_430 : decode cL_law 430 = .ok (.aload_n 0, 1) := by decide +kernel
theorem dL_law_431 : decode cL_law 431 = .ok (.iload_n 3, 1) := by decide +kernel
theorem dL_law_432 : decode cL_law 432 = .ok (.iconst 2, 1) := by decide +kernel
theorem dL_law_433 : decode cL_law 433 = .ok (.iadd, 1) := by decide +kernel
theorem dL_law_434 : decode cL_law 434 = .ok (.iaload, 1) := by decide +kernel
theorem dL_law_435 : decode cL_law 435 = .ok (.invokevirtual 45, 3) := by decide +kernel
theorem dL_law_438 : decode cL_law 438 = .ok (.if_icmp .eq 978, 3) := by decide +kernel
theorem dL_law_441 : decode cL_law 441 = .ok (.iconst 0, 1) := by decide +kernel
theorem dL_law_442 : decode cL_law 442 = .ok (.ireturn, 1) := by decide +kernel
theorem dL_law_443 : decode cL_law 443 = .ok (.aload_n 1, 1) := by decide +kernel
theorem dL_law_444 : decode cL_law 444 = .ok (.aload_n 0, 1) := by decide +kernel
theorem dL_law_445 : decode cL_law 445 = .ok (.iload_n 3, 1) := by decide +kernel
theorem dL_law_446 : decode cL_law 446 = .ok (.iconst 1, 1) := by decide +kernel
theorem dL_law_447 : decode cL_law 447 = .ok (.iadd, 1) := by decide +kernel
theorem dL_law_448 : decode cL_law 448 = .ok (.iaload, 1) := by decide +kernel
theorem dL_law_449 : decode cL_law 449 = .ok (.aload_n 0, 1) := by decide +kernel
theorem dL_law_450 : decode cL_law 450 = .ok (.iload_n 3, 1) := by decide +kernel
theorem dL_law_451 : decode cL_law 451 = .ok (.iconst 2, 1) := by decide +kernel
theorem dL_law_452 : decode cL_law 452 = .ok (.iadd, 1) := by decide +kernel
theorem dL_law_453 : decode cL_law 453 = .ok (.iaload, 1) := by decide +kernel
theorem dL_law_454 : decode cL_law 454 = .ok (.invokevirtual 46, 3) := by decide +kernel
theorem dL_law_457 : decode cL_law 457 = .ok (.aload_n 2, 1) := by decide +kernel
theorem dL_law_458 : decode cL_law 458 = .ok (.aload_n 0, 1) := by decide +kernel
theorem dL_law_459 : decode cL_law 459 = .ok (.iload_n 3, 1) := by decide +kernel
theorem dL_law_460 : decode cL_law 460 = .ok (.iconst 1, 1) := by decide +kernel
theorem dL_law_461 : decode cL_law 461 = .ok (.iadd, 1) := by decide +kernel
theorem dL_law_462 : decode cL_law 462 = .ok (.iaload, 1) := by decide +kernel
theorem dL_law_463 : decode cL_law 463 = .ok (.aload_n 0, 1) := by decide +kernel
theorem dL_law_464 : decode cL_law 464 = .ok (.iload_n 3, 1) := by decide +kernel
theorem dL_law_465 : decode cL_law 465 = .ok (.iconst 2, 1) := by decide +kernel
theorem dL_law_466 : decode cL_law 466 = .ok (.iadd, 1) := by decide +kernel
theorem dL_law_467 : decode cL_law 467 = .ok (.iaload, 1) := by decide +kernel
theorem dL_law_468 : decode cL_law 468 = .ok (.invokevirtual 49, 3) := by decide +kernel
theorem dL_law_471 : decode cL_law 471 = .ok (.if_icmp .eq 945, 3) := by decide +kernel
theorem dL_law_474 : decode cL_law 474 = .ok (.iconst 0, 1) := by decide +kernel
theorem dL_law_475 : decode cL_law 475 = .ok (.ireturn, 1) := by decide +kernel
theorem dL_law_476 : decode cL_law 476 = .ok (.aload_n 1, 1) := by decide +kernel
theorem dL_law_477 : decode cL_law 477 = .ok (.aload_n 0, 1) := by decide +kernel
theorem dL_law_478 : decode cL_law 478 = .ok (.iload_n 3, 1) := by decide +kernel
theorem dL_law_479 : decode cL_law 479 = .ok (.iconst 1, 1) := by decide +kernel
theorem dL_law_480 : decode cL_law 480 = .ok (.iadd, 1) := by decide +kernel
theorem dL_law_481 : decode cL_law 481 = .ok (.iaload, 1) := by decide +kernel
theorem dL_law_482 : decode cL_law 482 = .ok (.aload_n 0, 1) := by decide +kernel
theorem dL_law_483 : decode cL_law 483 = .ok (.iload_n 3, 1) := by decide +kernel
theorem dL_law_484 : decode cL_law 484 = .ok (.iconst 2, 1) := by decide +kernel
theorem dL_law_485 : decode cL_law 485 = .ok (.iadd, 1) := by decide +kernel
theorem dL_law_486 : decode cL_law 486 = .ok (.iaload, 1) := by decide +kernel
theorem dL_law_487 : decode cL_law 487 = .ok (.invokevirtual 50, 3) := by decide +kernel
theorem dL_law_490 : decode cL_law 490 = .ok (.aload_n 2, 1) := by decide +kernel
theorem dL_law_491 : decode cL_law 491 = .ok (.aload_n 0, 1) := by decide +kernel
theorem dL_law_492 : decode cL_law 492 = .ok (.iload_n 3, 1) := by decide +kernel
theorem dL_law_493 : decode cL_law 493 = .ok (.iconst 1, 1) := by decide +kernel
theorem dL_law_494 : decode cL_law 494 = .ok (.iadd, 1) := by decide +kernel
theorem dL_law_495 : decode cL_law 495 = .ok (.iaload, 1) := by decide +kernel
theorem dL_law_496 : decode cL_law 496 = .ok (.aload_n 0, 1) := by decide +kernel
theorem dL_law_497 : decode cL_law 497 = .ok (.iload_n 3, 1) := by decide +kernel
theorem dL_law_498 : decode cL_law 498 = .ok (.iconst 2, 1) := by decide +kernel
theorem dL_law_499 : decode cL_law 499 = .ok (.iadd, 1) := by decide +kernel
theorem dL_law_500 : decode cL_law 500 = .ok (.iaload, 1) := by decide +kernel
theorem dL_law_501 : decode cL_law 501 = .ok (.invokevirtual 53, 3) := by decide +kernel
theorem dL_law_504 : decode cL_law 504 = .ok (.if_icmp .eq 912, 3) := by decide +kernel
theorem dL_law_507 : decode cL_law 507 = .ok (.iconst 0, 1) := by decide +kernel
theorem dL_law_508 : decode cL_law 508 = .ok (.ireturn, 1) := by decide +kernel
theorem dL_law_509 : decode cL_law 509 = .ok (.aload_n 1, 1) := by decide +kernel
theorem dL_law_510 : decode cL_law 510 = .ok (.aload_n 0, 1) := by decide +kernel
theorem dL_law_511 : decode cL_law 511 = .ok (.iload_n 3, 1) := by decide +kernel
theorem dL_law_512 : decode cL_law 512 = .ok (.iconst 1, 1) := by decide +kernel
theorem dL_law_513 : decode cL_law 513 = .ok (.iadd, 1) := by decide +kernel
theorem dL_law_514 : decode cL_law 514 = .ok (.iaload, 1) := by decide +kernel
theorem dL_law_515 : decode cL_law 515 = .ok (.aload_n 0, 1) := by decide +kernel
theorem dL_law_516 : decode cL_law 516 = .ok (.iload_n 3, 1) := by decide +kernel
theorem dL_law_517 : decode cL_law 517 = .ok (.iconst 2, 1) := by decide +kernel
theorem dL_law_518 : decode cL_law 518 = .ok (.iadd, 1) := by decide +kernel
theorem dL_law_519 : decode cL_law 519 = .ok (.iaload, 1) := by decide +kernel
theorem dL_law_520 : decode cL_law 520 = .ok (.invokevirtual 54, 3) := by decide +kernel
theorem dL_law_523 : decode cL_law 523 = .ok (.aload_n 2, 1) := by decide +kernel
theorem dL_law_524 : decode cL_law 524 = .ok (.aload_n 0, 1) := by decide +kernel
theorem dL_law_525 : decode cL_law 525 = .ok (.iload_n 3, 1) := by decide +kernel
theorem dL_law_526 : decode cL_law 526 = .ok (.iconst 1, 1) := by decide +kernel
theorem dL_law_527 : decode cL_law 527 = .ok (.iadd, 1) := by decide +kernel
theorem dL_law_528 : decode cL_law 528 = .ok (.iaload, 1) := by decide +kernel
theorem dL_law_529 : decode cL_law 529 = .ok (.aload_n 0, 1) := by decide +kernel
theorem dL_law_530 : decode cL_law 530 = .ok (.iload_n 3, 1) := by decide +kernel
theorem dL_law_531 : decode cL_law 531 = .ok (.iconst 2, 1) := by decide +kernel
theorem dL_law_532 : decode cL_law 532 = .ok (.iadd, 1) := by decide +kernel
theorem dL_law_533 : decode cL_law 533 = .ok (.iaload, 1) := by decide +kernel
theorem dL_law_534 : decode cL_law 534 = .ok (.invokevirtual 57, 3) := by decide +kernel
theorem dL_law_537 : decode cL_law 537 = .ok (.if_icmp .eq 879, 3) := by decide +kernel
theorem dL_law_540 : decode cL_law 540 = .ok (.iconst 0, 1) := by decide +kernel
theorem dL_law_541 : decode cL_law 541 = .ok (.ireturn, 1) := by decide +kernel
theorem dL_law_542 : decode cL_law 542 = .ok (.aload_n 1, 1) := by decide +kernel
theorem dL_law_543 : decode cL_law 543 = .ok (.aload_n 0, 1) := by decide +kernel
theorem dL_law_544 : decode cL_law 544 = .ok (.iload_n 3, 1) := by decide +kernel
theorem dL_law_545 : decode cL_law 545 = .ok (.iconst 1, 1) := by decide +kernel
theorem dL_law_546 : decode cL_law 546 = .ok (.iadd, 1) := by decide +kernel
theorem dL_law_547 : decode cL_law 547 = .ok (.iaload, 1) := by decide +kernel
theorem dL_law_548 : decode cL_law 548 = .ok (.invokevirtual 58, 3) := by decide +kernel
theorem dL_law_551 : decode cL_law 551 = .ok (.aload_n 2, 1) := by decide +kernel
theorem dL_law_552 : decode cL_law 552 = .ok (.aload_n 0, 1) := by decide +kernel
theorem dL_law_553 : decode cL_law 553 = .ok (.iload_n 3, 1) := by decide +kernel
theorem dL_law_554 : decode cL_law 554 = .ok (.iconst 1, 1) := by decide +kernel
theorem dL_law_555 : decode cL_law 555 = .ok (.iadd, 1) := by decide +kernel
theorem dL_law_556 : decode cL_law 556 = .ok (.iaload, 1) := by decide +kernel
theorem dL_law_557 : decode cL_law 557 = .ok (.invokevirtual 61, 3) := by decide +kernel
theorem dL_law_560 : decode cL_law 560 = .ok (.if_icmp .eq 856, 3) := by decide +kernel
theorem dL_law_563 : decode cL_law 563 = .ok (.iconst 0, 1) := by decide +kernel
theorem dL_law_564 : decode cL_law 564 = .ok (.ireturn, 1) := by decide +kernel
theorem dL_law_565 : decode cL_law 565 = .ok (.aload_n 1, 1) := by decide +kernel
theorem dL_law_566 : decode cL_law 566 = .ok (.aload_n 0, 1) := by decide +kernel
theorem dL_law_567 : decode cL_law 567 = .ok (.iload_n 3, 1) := by decide +kernel
theorem dL_law_568 : decode cL_law 568 = .ok (.iconst 1, 1) := by decide +kernel
theorem dL_law_569 : decode cL_law 569 = .ok (.iadd, 1) := by decide +kernel
theorem dL_law_570 : decode cL_law 570 = .ok (.iaload, 1) := by decide +kernel
theorem dL_law_571 : decode cL_law 571 = .ok (.aload_n 0, 1) := by decide +kernel
theorem dL_law_572 : decode cL_law 572 = .ok (.iload_n 3, 1) := by decide +kernel
theorem dL_law_573 : decode cL_law 573 = .ok (.iconst 2, 1) := by decide +kernel
theorem dL_law_574 : decode cL_law 574 = .ok (.iadd, 1) := by decide +kernel
theorem dL_law_575 : decode cL_law 575 = .ok (.iaload, 1) := by decide +kernel
theorem dL_law_576 : decode cL_law 576 = .ok (.aload_n 0, 1) := by decide +kernel
theorem dL_law_577 : decode cL_law 577 = .ok (.iload_n 3, 1) := by decide +kernel
theorem dL_law_578 : decode cL_law 578 = .ok (.iconst 3, 1) := by decide +kernel
theorem dL_law_579 : decode cL_law 579 = .ok (.iadd, 1) := by decide +kernel
theorem dL_law_580 : decode cL_law 580 = .ok (.iaload, 1) := by decide +kernel
theorem dL_law_581 : decode cL_law 581 = .ok (.aload_n 0, 1) := by decide +kernel
theorem dL_law_582 : decode cL_law 582 = .ok (.iload_n 3, 1) := by decide +kernel
theorem dL_law_583 : decode cL_law 583 = .ok (.iconst 4, 1) := by decide +kernel
theorem dL_law_584 : decode cL_law 584 = .ok (.iadd, 1) := by decide +kernel
theorem dL_law_585 : decode cL_law 585 = .ok (.iaload, 1) := by decide +kernel
theorem dL_law_586 : decode cL_law 586 = .ok (.aload_n 0, 1) := by decide +kernel
theorem dL_law_587 : decode cL_law 587 = .ok (.iload_n 3, 1) := by decide +kernel
theorem dL_law_588 : decode cL_law 588 = .ok (.iconst 5, 1) := by decide +kernel
theorem dL_law_589 : decode cL_law 589 = .ok (.iadd, 1) := by decide +kernel
theorem dL_law_590 : decode cL_law 590 = .ok (.iaload, 1) := by decide +kernel
theorem dL_law_591 : decode cL_law 591 = .ok (.invokevirtual 62, 3) := by decide +kernel
theorem dL_law_594 : decode cL_law 594 = .ok (.aload_n 2, 1) := by decide +kernel
theorem dL_law_595 : decode cL_law 595 = .ok (.aload_n 0, 1) := by decide +kernel
theorem dL_law_596 : decode cL_law 596 = .ok (.iload_n 3, 1) := by decide +kernel
theorem dL_law_597 : decode cL_law 597 = .ok (.iconst 1, 1) := by decide +kernel
theorem dL_law_598 : decode cL_law 598 = .ok (.iadd, 1) := by decide +kernel
theorem dL_law_599 : decode cL_law 599 = .ok (.iaload, 1) := by decide +kernel
theorem dL_law_600 : decode cL_law 600 = .ok (.aload_n 0, 1) := by decide +kernel
theorem dL_law_601 : decode cL_law 601 = .ok (.iload_n 3, 1) := by decide +kernel
theorem dL_law_602 : decode cL_law 602 = .ok (.iconst 2, 1) := by decide +kernel
theorem dL_law_603 : decode cL_law 603 = .ok (.iadd, 1) := by decide +kernel
theorem dL_law_604 : decode cL_law 604 = .ok (.iaload, 1) := by decide +kernel
theorem dL_law_605 : decode cL_law 605 = .ok (.aload_n 0, 1) := by decide +kernel
theorem dL_law_606 : decode cL_law 606 = .ok (.iload_n 3, 1) := by decide +kernel
theorem dL_law_607 : decode cL_law 607 = .ok (.iconst 3, 1) := by decide +kernel
theorem dL_law_608 : decode cL_law 608 = .ok (.iadd, 1) := by decide +kernel
theorem dL_law_609 : decode cL_law 609 = .ok (.iaload, 1) := by decide +kernel
theorem dL_law_610 : decode cL_law 610 = .ok (.aload_n 0, 1) := by decide +kernel
theorem dL_law_611 : decode cL_law 611 = .ok (.iload_n 3, 1) := by decide +kernel
theorem dL_law_612 : decode cL_law 612 = .ok (.iconst 4, 1) := by decide +kernel
theorem dL_law_613 : decode cL_law 613 = .ok (.iadd, 1) := by decide +kernel
theorem dL_law_614 : decode cL_law 614 = .ok (.iaload, 1) := by decide +kernel
theorem dL_law_615 : decode cL_law 615 = .ok (.aload_n 0, 1) := by decide +kernel
theorem dL_law_616 : decode cL_law 616 = .ok (.iload_n 3, 1) := by decide +kernel
theorem dL_law_617 : decode cL_law 617 = .ok (.iconst 5, 1) := by decide +kernel
theorem dL_law_618 : decode cL_law 618 = .ok (.iadd, 1) := by decide +kernel
theorem dL_law_619 : decode cL_law 619 = .ok (.iaload, 1) := by decide +kernel
theorem dL_law_620 : decode cL_law 620 = .ok (.invokevirtual 66, 3) := by decide +kernel
theorem dL_law_623 : decode cL_law 623 = .ok (.if_icmp .eq 793, 3) := by decide +kernel
theorem dL_law_626 : decode cL_law 626 = .ok (.iconst 0, 1) := by decide +kernel
theorem dL_law_627 : decode cL_law 627 = .ok (.ireturn, 1) := by decide +kernel
theorem dL_law_628 : decode cL_law 628 = .ok (.aload_n 1, 1) := by decide +kernel
theorem dL_law_629 : decode cL_law 629 = .ok (.aload_n 0, 1) := by decide +kernel
theorem dL_law_630 : decode cL_law 630 = .ok (.iload_n 3, 1) := by decide +kernel
theorem dL_law_631 : decode cL_law 631 = .ok (.iconst 1, 1) := by decide +kernel
theorem dL_law_632 : decode cL_law 632 = .ok (.iadd, 1) := by decide +kernel
theorem dL_law_633 : decode cL_law 633 = .ok (.iaload, 1) := by decide +kernel
theorem dL_law_634 : decode cL_law 634 = .ok (.invokevirtual 67, 3) := by decide +kernel
theorem dL_law_637 : decode cL_law 637 = .ok (.aload_n 2, 1) := by decide +kernel
theorem dL_law_638 : decode cL_law 638 = .ok (.aload_n 0, 1) := by decide +kernel
theorem dL_law_639 : decode cL_law 639 = .ok (.iload_n 3, 1) := by decide +kernel
theorem dL_law_640 : decode cL_law 640 = .ok (.iconst 1, 1) := by decide +kernel
theorem dL_law_641 : decode cL_law 641 = .ok (.iadd, 1) := by decide +kernel
theorem dL_law_642 : decode cL_law 642 = .ok (.iaload, 1) := by decide +kernel
theorem dL_law_643 : decode cL_law 643 = .ok (.invokevirtual 71, 3) := by decide +kernel
theorem dL_law_646 : decode cL_law 646 = .ok (.if_icmp .eq 770, 3) := by decide +kernel
theorem dL_law_649 : decode cL_law 649 = .ok (.iconst 0, 1) := by decide +kernel
theorem dL_law_650 : decode cL_law 650 = .ok (.ireturn, 1) := by decide +kernel
theorem dL_law_651 : decode cL_law 651 = .ok (.aload_n 1, 1) := by decide +kernel
theorem dL_law_652 : decode cL_law 652 = .ok (.aload_n 0, 1) := by decide +kernel
theorem dL_law_653 : decode cL_law 653 = .ok (.iload_n 3, 1) := by decide +kernel
theorem dL_law_654 : decode cL_law 654 = .ok (.iconst 1, 1) := by decide +kernel
theorem dL_law_655 : decode cL_law 655 = .ok (.iadd, 1) := by decide +kernel
theorem dL_law_656 : decode cL_law 656 = .ok (.iaload, 1) := by decide +kernel
theorem dL_law_657 : decode cL_law 657 = .ok (.invokevirtual 72, 3) := by decide +kernel
theorem dL_law_660 : decode cL_law 660 = .ok (.aload_n 2, 1) := by decide +kernel
theorem dL_law_661 : decode cL_law 661 = .ok (.aload_n 0, 1) := by decide +kernel
theorem dL_law_662 : decode cL_law 662 = .ok (.iload_n 3, 1) := by decide +kernel
theorem dL_law_663 : decode cL_law 663 = .ok (.iconst 1, 1) := by decide +kernel
theorem dL_law_664 : decode cL_law 664 = .ok (.iadd, 1) := by decide +kernel
theorem dL_law_665 : decode cL_law 665 = .ok (.iaload, 1) := by decide +kernel
theorem dL_law_666 : decode cL_law 666 = .ok (.invokevirtual 75, 3) := by decide +kernel
theorem dL_law_669 : decode cL_law 669 = .ok (.if_icmp .eq 747, 3) := by decide +kernel
theorem dL_law_672 : decode cL_law 672 = .ok (.iconst 0, 1) := by decide +kernel
theorem dL_law_673 : decode cL_law 673 = .ok (.ireturn, 1) := by decide +kernel
theorem dL_law_674 : decode cL_law 674 = .ok (.aload_n 1, 1) := by decide +kernel
theorem dL_law_675 : decode cL_law 675 = .ok (.aload_n 0, 1) := by decide +kernel
theorem dL_law_676 : decode cL_law 676 = .ok (.iload_n 3, 1) := by decide +kernel
theorem dL_law_677 : decode cL_law 677 = .ok (.iconst 1, 1) := by decide +kernel
theorem dL_law_678 : decode cL_law 678 = .ok (.iadd, 1) := by decide +kernel
theorem dL_law_679 : decode cL_law 679 = .ok (.iaload, 1) := by decide +kernel
theorem dL_law_680 : decode cL_law 680 = .ok (.invokevirtual 76, 3) := by decide +kernel
theorem dL_law_683 : decode cL_law 683 = .ok (.aload_n 2, 1) := by decide +kernel
theorem dL_law_684 : decode cL_law 684 = .ok (.aload_n 0, 1) := by decide +kernel
theorem dL_law_685 : decode cL_law 685 = .ok (.iload_n 3, 1) := by decide +kernel
theorem dL_law_686 : decode cL_law 686 = .ok (.iconst 1, 1) := by decide +kernel
theorem dL_law_687 : decode cL_law 687 = .ok (.iadd, 1) := by decide +kernel
theorem dL_law_688 : decode cL_law 688 = .ok (.iaload, 1) := by decide +kernel
theorem dL_law_689 : decode cL_law 689 = .ok (.invokevirtual 79, 3) := by decide +kernel
theorem dL_law_692 : decode cL_law 692 = .ok (.if_icmp .eq 724, 3) := by decide +kernel
theorem dL_law_695 : decode cL_law 695 = .ok (.iconst 0, 1) := by decide +kernel
theorem dL_law_696 : decode cL_law 696 = .ok (.ireturn, 1) := by decide +kernel
theorem dL_law_697 : decode cL_law 697 = .ok (.aload_n 1, 1) := by decide +kernel
theorem dL_law_698 : decode cL_law 698 = .ok (.aload_n 0, 1) := by decide +kernel
theorem dL_law_699 : decode cL_law 699 = .ok (.iload_n 3, 1) := by decide +kernel
theorem dL_law_700 : decode cL_law 700 = .ok (.iconst 1, 1) := by decide +kernel
theorem dL_law_701 : decode cL_law 701 = .ok (.iadd, 1) := by decide +kernel
theorem dL_law_702 : decode cL_law 702 = .ok (.iaload, 1) := by decide +kernel
theorem dL_law_703 : decode cL_law 703 = .ok (.aload_n 0, 1) := by decide +kernel
theorem dL_law_704 : decode cL_law 704 = .ok (.iload_n 3, 1) := by decide +kernel
theorem dL_law_705 : decode cL_law 705 = .ok (.iconst 2, 1) := by decide +kernel
theorem dL_law_706 : decode cL_law 706 = .ok (.iadd, 1) := by decide +kernel
theorem dL_law_707 : decode cL_law 707 = .ok (.iaload, 1) := by decide +kernel
theorem dL_law_708 : decode cL_law 708 = .ok (.invokevirtual 80, 3) := by decide +kernel
theorem dL_law_711 : decode cL_law 711 = .ok (.aload_n 2, 1) := by decide +kernel
theorem dL_law_712 : decode cL_law 712 = .ok (.aload_n 0, 1) := by decide +kernel
theorem dL_law_713 : decode cL_law 713 = .ok (.iload_n 3, 1) := by decide +kernel
theorem dL_law_714 : decode cL_law 714 = .ok (.iconst 1, 1) := by decide +kernel
theorem dL_law_715 : decode cL_law 715 = .ok (.iadd, 1) := by decide +kernel
theorem dL_law_716 : decode cL_law 716 = .ok (.iaload, 1) := by decide +kernel
theorem dL_law_717 : decode cL_law 717 = .ok (.aload_n 0, 1) := by decide +kernel
theorem dL_law_718 : decode cL_law 718 = .ok (.iload_n 3, 1) := by decide +kernel
theorem dL_law_719 : decode cL_law 719 = .ok (.iconst 2, 1) := by decide +kernel
theorem dL_law_720 : decode cL_law 720 = .ok (.iadd, 1) := by decide +kernel
theorem dL_law_721 : decode cL_law 721 = .ok (.iaload, 1) := by decide +kernel
theorem dL_law_722 : decode cL_law 722 = .ok (.invokevirtual 83, 3) := by decide +kernel
theorem dL_law_725 : decode cL_law 725 = .ok (.if_icmp .eq 691, 3) := by decide +kernel
theorem dL_law_728 : decode cL_law 728 = .ok (.iconst 0, 1) := by decide +kernel
theorem dL_law_729 : decode cL_law 729 = .ok (.ireturn, 1) := by decide +kernel
theorem dL_law_730 : decode cL_law 730 = .ok (.aload_n 1, 1) := by decide +kernel
theorem dL_law_731 : decode cL_law 731 = .ok (.aload_n 0, 1) := by decide +kernel
theorem dL_law_732 : decode cL_law 732 = .ok (.iload_n 3, 1) := by decide +kernel
theorem dL_law_733 : decode cL_law 733 = .ok (.iconst 1, 1) := by decide +kernel
theorem dL_law_734 : decode cL_law 734 = .ok (.iadd, 1) := by decide +kernel
theorem dL_law_735 : decode cL_law 735 = .ok (.iaload, 1) := by decide +kernel
theorem dL_law_736 : decode cL_law 736 = .ok (.aload_n 0, 1) := by decide +kernel
theorem dL_law_737 : decode cL_law 737 = .ok (.iload_n 3, 1) := by decide +kernel
theorem dL_law_738 : decode cL_law 738 = .ok (.iconst 2, 1) := by decide +kernel
theorem dL_law_739 : decode cL_law 739 = .ok (.iadd, 1) := by decide +kernel
theorem dL_law_740 : decode cL_law 740 = .ok (.iaload, 1) := by decide +kernel
theorem dL_law_741 : decode cL_law 741 = .ok (.invokevirtual 84, 3) := by decide +kernel
theorem dL_law_744 : decode cL_law 744 = .ok (.aload_n 2, 1) := by decide +kernel
theorem dL_law_745 : decode cL_law 745 = .ok (.aload_n 0, 1) := by decide +kernel
theorem dL_law_746 : decode cL_law 746 = .ok (.iload_n 3, 1) := by decide +kernel
theorem dL_law_747 : decode cL_law 747 = .ok (.iconst 1, 1) := by decide +kernel
theorem dL_law_748 : decode cL_law 748 = .ok (.iadd, 1) := by decide +kernel
theorem dL_law_749 : decode cL_law 749 = .ok (.iaload, 1) := by decide +kernel
theorem dL_law_750 : decode cL_law 750 = .ok (.aload_n 0, 1) := by decide +kernel
theorem dL_law_751 : decode cL_law 751 = .ok (.iload_n 3, 1) := by decide +kernel
theorem dL_law_752 : decode cL_law 752 = .ok (.iconst 2, 1) := by decide +kernel
theorem dL_law_753 : decode cL_law 753 = .ok (.iadd, 1) := by decide +kernel
theorem dL_law_754 : decode cL_law 754 = .ok (.iaload, 1) := by decide +kernel
theorem dL_law_755 : decode cL_law 755 = .ok (.invokevirtual 87, 3) := by decide +kernel
theorem dL_law_758 : decode cL_law 758 = .ok (.if_icmp .eq 658, 3) := by decide +kernel
theorem dL_law_761 : decode cL_law 761 = .ok (.iconst 0, 1) := by decide +kernel
theorem dL_law_762 : decode cL_law 762 = .ok (.ireturn, 1) := by decide +kernel
theorem dL_law_763 : decode cL_law 763 = .ok (.aload_n 1, 1) := by decide +kernel
theorem dL_law_764 : decode cL_law 764 = .ok (.aload_n 0, 1) := by decide +kernel
theorem dL_law_765 : decode cL_law 765 = .ok (.iload_n 3, 1) := by decide +kernel
theorem dL_law_766 : decode cL_law 766 = .ok (.iconst 1, 1) := by decide +kernel
theorem dL_law_767 : decode cL_law 767 = .ok (.iadd, 1) := by decide +kernel
theorem dL_law_768 : decode cL_law 768 = .ok (.iaload, 1) := by decide +kernel
theorem dL_law_769 : decode cL_law 769 = .ok (.aload_n 0, 1) := by decide +kernel
theorem dL_law_770 : decode cL_law 770 = .ok (.iload_n 3, 1) := by decide +kernel
theorem dL_law_771 : decode cL_law 771 = .ok (.iconst 2, 1) := by decide +kernel
theorem dL_law_772 : decode cL_law 772 = .ok (.iadd, 1) := by decide +kernel
theorem dL_law_773 : decode cL_law 773 = .ok (.iaload, 1) := by decide +kernel
theorem dL_law_774 : decode cL_law 774 = .ok (.aload_n 0, 1) := by decide +kernel
theorem dL_law_775 : decode cL_law 775 = .ok (.iload_n 3, 1) := by decide +kernel
theorem dL_law_776 : decode cL_law 776 = .ok (.iconst 3, 1) := by decide +kernel
theorem dL_law_777 : decode cL_law 777 = .ok (.iadd, 1) := by decide +kernel
theorem dL_law_778 : decode cL_law 778 = .ok (.iaload, 1) := by decide +kernel
theorem dL_law_779 : decode cL_law 779 = .ok (.invokevirtual 88, 3) := by decide +kernel
theorem dL_law_782 : decode cL_law 782 = .ok (.aload_n 2, 1) := by decide +kernel
theorem dL_law_783 : decode cL_law 783 = .ok (.aload_n 0, 1) := by decide +kernel
theorem dL_law_784 : decode cL_law 784 = .ok (.iload_n 3, 1) := by decide +kernel
theorem dL_law_785 : decode cL_law 785 = .ok (.iconst 1, 1) := by decide +kernel
theorem dL_law_786 : decode cL_law 786 = .ok (.iadd, 1) := by decide +kernel
theorem dL_law_787 : decode cL_law 787 = .ok (.iaload, 1) := by decide +kernel
theorem dL_law_788 : decode cL_law 788 = .ok (.aload_n 0, 1) := by decide +kernel
theorem dL_law_789 : decode cL_law 789 = .ok (.iload_n 3, 1) := by decide +kernel
theorem dL_law_790 : decode cL_law 790 = .ok (.iconst 2, 1) := by decide +kernel
theorem dL_law_791 : decode cL_law 791 = .ok (.iadd, 1) := by decide +kernel
theorem dL_law_792 : decode cL_law 792 = .ok (.iaload, 1) := by decide +kernel
theorem dL_law_793 : decode cL_law 793 = .ok (.aload_n 0, 1) := by decide +kernel
theorem dL_law_794 : decode cL_law 794 = .ok (.iload_n 3, 1) := by decide +kernel
theorem dL_law_795 : decode cL_law 795 = .ok (.iconst 3, 1) := by decide +kernel
theorem dL_law_796 : decode cL_law 796 = .ok (.iadd, 1) := by decide +kernel
theorem dL_law_797 : decode cL_law 797 = .ok (.iaload, 1) := by decide +kernel
theorem dL_law_798 : decode cL_law 798 = .ok (.invokevirtual 92, 3) := by decide +kernel
theorem dL_law_801 : decode cL_law 801 = .ok (.if_icmp .eq 615, 3) := by decide +kernel
theorem dL_law_804 : decode cL_law 804 = .ok (.iconst 0, 1) := by decide +kernel
theorem dL_law_805 : decode cL_law 805 = .ok (.ireturn, 1) := by decide +kernel
theorem dL_law_806 : decode cL_law 806 = .ok (.aload_n 1, 1) := by decide +kernel
theorem dL_law_807 : decode cL_law 807 = .ok (.aload_n 0, 1) := by decide +kernel
theorem dL_law_808 : decode cL_law 808 = .ok (.iload_n 3, 1) := by decide +kernel
theorem dL_law_809 : decode cL_law 809 = .ok (.iconst 1, 1) := by decide +kernel
theorem dL_law_810 : decode cL_law 810 = .ok (.iadd, 1) := by decide +kernel
theorem dL_law_811 : decode cL_law 811 = .ok (.iaload, 1) := by decide +kernel
theorem dL_law_812 : decode cL_law 812 = .ok (.aload_n 0, 1) := by decide +kernel
theorem dL_law_813 : decode cL_law 813 = .ok (.iload_n 3, 1) := by decide +kernel
theorem dL_law_814 : decode cL_law 814 = .ok (.iconst 2, 1) := by decide +kernel
theorem dL_law_815 : decode cL_law 815 = .ok (.iadd, 1) := by decide +kernel
theorem dL_law_816 : decode cL_law 816 = .ok (.iaload, 1) := by decide +kernel
theorem dL_law_817 : decode cL_law 817 = .ok (.aload_n 0, 1) := by decide +kernel
theorem dL_law_818 : decode cL_law 818 = .ok (.iload_n 3, 1) := by decide +kernel
theorem dL_law_819 : decode cL_law 819 = .ok (.iconst 3, 1) := by decide +kernel
theorem dL_law_820 : decode cL_law 820 = .ok (.iadd, 1) := by decide +kernel
theorem dL_law_821 : decode cL_law 821 = .ok (.iaload, 1) := by decide +kernel
theorem dL_law_822 : decode cL_law 822 = .ok (.aload_n 0, 1) := by decide +kernel
theorem dL_law_823 : decode cL_law 823 = .ok (.iload_n 3, 1) := by decide +kernel
theorem dL_law_824 : decode cL_law 824 = .ok (.iconst 4, 1) := by decide +kernel
theorem dL_law_825 : decode cL_law 825 = .ok (.iadd, 1) := by decide +kernel
theorem dL_law_826 : decode cL_law 826 = .ok (.iaload, 1) := by decide +kernel
theorem dL_law_827 : decode cL_law 827 = .ok (.invokevirtual 93, 3) := by decide +kernel
theorem dL_law_830 : decode cL_law 830 = .ok (.aload_n 2, 1) := by decide +kernel
theorem dL_law_831 : decode cL_law 831 = .ok (.aload_n 0, 1) := by decide +kernel
theorem dL_law_832 : decode cL_law 832 = .ok (.iload_n 3, 1) := by decide +kernel
theorem dL_law_833 : decode cL_law 833 = .ok (.iconst 1, 1) := by decide +kernel
theorem dL_law_834 : decode cL_law 834 = .ok (.iadd, 1) := by decide +kernel
theorem dL_law_835 : decode cL_law 835 = .ok (.iaload, 1) := by decide +kernel
theorem dL_law_836 : decode cL_law 836 = .ok (.aload_n 0, 1) := by decide +kernel
theorem dL_law_837 : decode cL_law 837 = .ok (.iload_n 3, 1) := by decide +kernel
theorem dL_law_838 : decode cL_law 838 = .ok (.iconst 2, 1) := by decide +kernel
theorem dL_law_839 : decode cL_law 839 = .ok (.iadd, 1) := by decide +kernel
theorem dL_law_840 : decode cL_law 840 = .ok (.iaload, 1) := by decide +kernel
theorem dL_law_841 : decode cL_law 841 = .ok (.aload_n 0, 1) := by decide +kernel
theorem dL_law_842 : decode cL_law 842 = .ok (.iload_n 3, 1) := by decide +kernel
theorem dL_law_843 : decode cL_law 843 = .ok (.iconst 3, 1) := by decide +kernel
theorem dL_law_844 : decode cL_law 844 = .ok (.iadd, 1) := by decide +kernel
theorem dL_law_845 : decode cL_law 845 = .ok (.iaload, 1) := by decide +kernel
theorem dL_law_846 : decode cL_law 846 = .ok (.aload_n 0, 1) := by decide +kernel
theorem dL_law_847 : decode cL_law 847 = .ok (.iload_n 3, 1) := by decide +kernel
theorem dL_law_848 : decode cL_law 848 = .ok (.iconst 4, 1) := by decide +kernel
theorem dL_law_849 : decode cL_law 849 = .ok (.iadd, 1) := by decide +kernel
theorem dL_law_850 : decode cL_law 850 = .ok (.iaload, 1) := by decide +kernel
theorem dL_law_851 : decode cL_law 851 = .ok (.invokevirtual 97, 3) := by decide +kernel
theorem dL_law_854 : decode cL_law 854 = .ok (.if_icmp .eq 562, 3) := by decide +kernel
theorem dL_law_857 : decode cL_law 857 = .ok (.iconst 0, 1) := by decide +kernel
theorem dL_law_858 : decode cL_law 858 = .ok (.ireturn, 1) := by decide +kernel
theorem dL_law_859 : decode cL_law 859 = .ok (.aload_n 1, 1) := by decide +kernel
theorem dL_law_860 : decode cL_law 860 = .ok (.aload_n 0, 1) := by decide +kernel
theorem dL_law_861 : decode cL_law 861 = .ok (.iload_n 3, 1) := by decide +kernel
theorem dL_law_862 : decode cL_law 862 = .ok (.iconst 1, 1) := by decide +kernel
theorem dL_law_863 : decode cL_law 863 = .ok (.iadd, 1) := by decide +kernel
theorem dL_law_864 : decode cL_law 864 = .ok (.iaload, 1) := by decide +kernel
theorem dL_law_865 : decode cL_law 865 = .ok (.aload_n 0, 1) := by decide +kernel
theorem dL_law_866 : decode cL_law 866 = .ok (.iload_n 3, 1) := by decide +kernel
theorem dL_law_867 : decode cL_law 867 = .ok (.iconst 2, 1) := by decide +kernel
theorem dL_law_868 : decode cL_law 868 = .ok (.iadd, 1) := by decide +kernel
theorem dL_law_869 : decode cL_law 869 = .ok (.iaload, 1) := by decide +kernel
theorem dL_law_870 : decode cL_law 870 = .ok (.invokevirtual 98, 3) := by decide +kernel
theorem dL_law_873 : decode cL_law 873 = .ok (.aload_n 2, 1) := by decide +kernel
theorem dL_law_874 : decode cL_law 874 = .ok (.aload_n 0, 1) := by decide +kernel
theorem dL_law_875 : decode cL_law 875 = .ok (.iload_n 3, 1) := by decide +kernel
theorem dL_law_876 : decode cL_law 876 = .ok (.iconst 1, 1) := by decide +kernel
theorem dL_law_877 : decode cL_law 877 = .ok (.iadd, 1) := by decide +kernel
theorem dL_law_878 : decode cL_law 878 = .ok (.iaload, 1) := by decide +kernel
theorem dL_law_879 : decode cL_law 879 = .ok (.aload_n 0, 1) := by decide +kernel
theorem dL_law_880 : decode cL_law 880 = .ok (.iload_n 3, 1) := by decide +kernel
theorem dL_law_881 : decode cL_law 881 = .ok (.iconst 2, 1) := by decide +kernel
theorem dL_law_882 : decode cL_law 882 = .ok (.iadd, 1) := by decide +kernel
theorem dL_law_883 : decode cL_law 883 = .ok (.iaload, 1) := by decide +kernel
theorem dL_law_884 : decode cL_law 884 = .ok (.invokevirtual 101, 3) := by decide +kernel
theorem dL_law_887 : decode cL_law 887 = .ok (.if_icmp .eq 529, 3) := by decide +kernel
theorem dL_law_890 : decode cL_law 890 = .ok (.iconst 0, 1) := by decide +kernel
theorem dL_law_891 : decode cL_law 891 = .ok (.ireturn, 1) := by decide +kernel
theorem dL_law_892 : decode cL_law 892 = .ok (.aload_n 1, 1) := by decide +kernel
theorem dL_law_893 : decode cL_law 893 = .ok (.aload_n 0, 1) := by decide +kernel
theorem dL_law_894 : decode cL_law 894 = .ok (.iload_n 3, 1) := by decide +kernel
theorem dL_law_895 : decode cL_law 895 = .ok (.iconst 1, 1) := by decide +kernel
theorem dL_law_896 : decode cL_law 896 = .ok (.iadd, 1) := by decide +kernel
theorem dL_law_897 : decode cL_law 897 = .ok (.iaload, 1) := by decide +kernel
theorem dL_law_898 : decode cL_law 898 = .ok (.aload_n 0, 1) := by decide +kernel
theorem dL_law_899 : decode cL_law 899 = .ok (.iload_n 3, 1) := by decide +kernel
theorem dL_law_900 : decode cL_law 900 = .ok (.iconst 2, 1) := by decide +kernel
theorem dL_law_901 : decode cL_law 901 = .ok (.iadd, 1) := by decide +kernel
theorem dL_law_902 : decode cL_law 902 = .ok (.iaload, 1) := by decide +kernel
theorem dL_law_903 : decode cL_law 903 = .ok (.aload_n 0, 1) := by decide +kernel
theorem dL_law_904 : decode cL_law 904 = .ok (.iload_n 3, 1) := by decide +kernel
theorem dL_law_905 : decode cL_law 905 = .ok (.iconst 3, 1) := by decide +kernel
theorem dL_law_906 : decode cL_law 906 = .ok (.iadd, 1) := by decide +kernel
theorem dL_law_907 : decode cL_law 907 = .ok (.iaload, 1) := by decide +kernel
theorem dL_law_908 : decode cL_law 908 = .ok (.invokevirtual 102, 3) := by decide +kernel
theorem dL_law_911 : decode cL_law 911 = .ok (.aload_n 2, 1) := by decide +kernel
theorem dL_law_912 : decode cL_law 912 = .ok (.aload_n 0, 1) := by decide +kernel
theorem dL_law_913 : decode cL_law 913 = .ok (.iload_n 3, 1) := by decide +kernel
theorem dL_law_914 : decode cL_law 914 = .ok (.iconst 1, 1) := by decide +kernel
theorem dL_law_915 : decode cL_law 915 = .ok (.iadd, 1) := by decide +kernel
theorem dL_law_916 : decode cL_law 916 = .ok (.iaload, 1) := by decide +kernel
theorem dL_law_917 : decode cL_law 917 = .ok (.aload_n 0, 1) := by decide +kernel
theorem dL_law_918 : decode cL_law 918 = .ok (.iload_n 3, 1) := by decide +kernel
theorem dL_law_919 : decode cL_law 919 = .ok (.iconst 2, 1) := by decide +kernel
theorem dL_law_920 : decode cL_law 920 = .ok (.iadd, 1) := by decide +kernel
theorem dL_law_921 : decode cL_law 921 = .ok (.iaload, 1) := by decide +kernel
theorem dL_law_922 : decode cL_law 922 = .ok (.aload_n 0, 1) := by decide +kernel
theorem dL_law_923 : decode cL_law 923 = .ok (.iload_n 3, 1) := by decide +kernel
theorem dL_law_924 : decode cL_law 924 = .ok (.iconst 3, 1) := by decide +kernel
theorem dL_law_925 : decode cL_law 925 = .ok (.iadd, 1) := by decide +kernel
theorem dL_law_926 : decode cL_law 926 = .ok (.iaload, 1) := by decide +kernel
theorem dL_law_927 : decode cL_law 927 = .ok (.invokevirtual 105, 3) := by decide +kernel
theorem dL_law_930 : decode cL_law 930 = .ok (.if_icmp .eq 486, 3) := by decide +kernel
theorem dL_law_933 : decode cL_law 933 = .ok (.iconst 0, 1) := by decide +kernel
theorem dL_law_934 : decode cL_law 934 = .ok (.ireturn, 1) := by decide +kernel
theorem dL_law_935 : decode cL_law 935 = .ok (.aload_n 1, 1) := by decide +kernel
theorem dL_law_936 : decode cL_law 936 = .ok (.aload_n 0, 1) := by decide +kernel
theorem dL_law_937 : decode cL_law 937 = .ok (.iload_n 3, 1) := by decide +kernel
theorem dL_law_938 : decode cL_law 938 = .ok (.iconst 1, 1) := by decide +kernel
theorem dL_law_939 : decode cL_law 939 = .ok (.iadd, 1) := by decide +kernel
theorem dL_law_940 : decode cL_law 940 = .ok (.iaload, 1) := by decide +kernel
theorem dL_law_941 : decode cL_law 941 = .ok (.aload_n 0, 1) := by decide +kernel
theorem dL_law_942 : decode cL_law 942 = .ok (.iload_n 3, 1) := by decide +kernel
theorem dL_law_943 : decode cL_law 943 = .ok (.iconst 2, 1) := by decide +kernel
theorem dL_law_944 : decode cL_law 944 = .ok (.iadd, 1) := by decide +kernel
theorem dL_law_945 : decode cL_law 945 = .ok (.iaload, 1) := by decide +kernel
theorem dL_law_946 : decode cL_law 946 = .ok (.invokevirtual 106, 3) := by decide +kernel
theorem dL_law_949 : decode cL_law 949 = .ok (.aload_n 2, 1) := by decide +kernel
theorem dL_law_950 : decode cL_law 950 = .ok (.aload_n 0, 1) := by decide +kernel
theorem dL_law_951 : decode cL_law 951 = .ok (.iload_n 3, 1) := by decide +kernel
theorem dL_law_952 : decode cL_law 952 = .ok (.iconst 1, 1) := by decide +kernel
theorem dL_law_953 : decode cL_law 953 = .ok (.iadd, 1) := by decide +kernel
theorem dL_law_954 : decode cL_law 954 = .ok (.iaload, 1) := by decide +kernel
theorem dL_law_955 : decode cL_law 955 = .ok (.aload_n 0, 1) := by decide +kernel
theorem dL_law_956 : decode cL_law 956 = .ok (.iload_n 3, 1) := by decide +kernel
theorem dL_law_957 : decode cL_law 957 = .ok (.iconst 2, 1) := by decide +kernel
theorem dL_law_958 : decode cL_law 958 = .ok (.iadd, 1) := by decide +kernel
theorem dL_law_959 : decode cL_law 959 = .ok (.iaload, 1) := by decide +kernel
theorem dL_law_960 : decode cL_law 960 = .ok (.invokevirtual 109, 3) := by decide +kernel
theorem dL_law_963 : decode cL_law 963 = .ok (.if_icmp .eq 453, 3) := by decide +kernel
theorem dL_law_966 : decode cL_law 966 = .ok (.iconst 0, 1) := by decide +kernel
theorem dL_law_967 : decode cL_law 967 = .ok (.ireturn, 1) := by decide +kernel
theorem dL_law_968 : decode cL_law 968 = .ok (.aload_n 1, 1) := by decide +kernel
theorem dL_law_969 : decode cL_law 969 = .ok (.aload_n 0, 1) := by decide +kernel
theorem dL_law_970 : decode cL_law 970 = .ok (.iload_n 3, 1) := by decide +kernel
theorem dL_law_971 : decode cL_law 971 = .ok (.iconst 1, 1) := by decide +kernel
theorem dL_law_972 : decode cL_law 972 = .ok (.iadd, 1) := by decide +kernel
theorem dL_law_973 : decode cL_law 973 = .ok (.iaload, 1) := by decide +kernel
theorem dL_law_974 : decode cL_law 974 = .ok (.aload_n 0, 1) := by decide +kernel
theorem dL_law_975 : decode cL_law 975 = .ok (.iload_n 3, 1) := by decide +kernel
theorem dL_law_976 : decode cL_law 976 = .ok (.iconst 2, 1) := by decide +kernel
theorem dL_law_977 : decode cL_law 977 = .ok (.iadd, 1) := by decide +kernel
theorem dL_law_978 : decode cL_law 978 = .ok (.iaload, 1) := by decide +kernel
theorem dL_law_979 : decode cL_law 979 = .ok (.aload_n 0, 1) := by decide +kernel
theorem dL_law_980 : decode cL_law 980 = .ok (.iload_n 3, 1) := by decide +kernel
theorem dL_law_981 : decode cL_law 981 = .ok (.iconst 3, 1) := by decide +kernel
theorem dL_law_982 : decode cL_law 982 = .ok (.iadd, 1) := by decide +kernel
theorem dL_law_983 : decode cL_law 983 = .ok (.iaload, 1) := by decide +kernel
theorem dL_law_984 : decode cL_law 984 = .ok (.aload_n 0, 1) := by decide +kernel
theorem dL_law_985 : decode cL_law 985 = .ok (.iload_n 3, 1) := by decide +kernel
theorem dL_law_986 : decode cL_law 986 = .ok (.iconst 4, 1) := by decide +kernel
theorem dL_law_987 : decode cL_law 987 = .ok (.iadd, 1) := by decide +kernel
theorem dL_law_988 : decode cL_law 988 = .ok (.iaload, 1) := by decide +kernel
theorem dL_law_989 : decode cL_law 989 = .ok (.invokevirtual 110, 3) := by decide +kernel
theorem dL_law_992 : decode cL_law 992 = .ok (.aload_n 2, 1) := by decide +kernel
theorem dL_law_993 : decode cL_law 993 = .ok (.aload_n 0, 1) := by decide +kernel
theorem dL_law_994 : decode cL_law 994 = .ok (.iload_n 3, 1) := by decide +kernel
theorem dL_law_995 : decode cL_law 995 = .ok (.iconst 1, 1) := by decide +kernel
theorem dL_law_996 : decode cL_law 996 = .ok (.iadd, 1) := by decide +kernel
theorem dL_law_997 : decode cL_law 997 = .ok (.iaload, 1) := by decide +kernel
theorem dL_law_998 : decode cL_law 998 = .ok (.aload_n 0, 1) := by decide +kernel
theorem dL_law_999 : decode cL_law 999 = .ok (.iload_n 3, 1) := by decide +kernel
theorem dL_law_1000 : decode cL_law 1000 = .ok (.iconst 2, 1) := by decide +kernel
theorem dL_law_1001 : decode cL_law 1001 = .ok (.iadd, 1) := by decide +kernel
theorem dL_law_1002 : decode cL_law 1002 = .ok (.iaload, 1) := by decide +kernel
theorem dL_law_1003 : decode cL_law 1003 = .ok (.aload_n 0, 1) := by decide +kernel
theorem dL_law_1004 : decode cL_law 1004 = .ok (.iload_n 3, 1) := by decide +kernel
theorem dL_law_1005 : decode cL_law 1005 = .ok (.iconst 3, 1) := by decide +kernel
theorem dL_law_1006 : decode cL_law 1006 = .ok (.iadd, 1) := by decide +kernel
theorem dL_law_1007 : decode cL_law 1007 = .ok (.iaload, 1) := by decide +kernel
theorem dL_law_1008 : decode cL_law 1008 = .ok (.aload_n 0, 1) := by decide +kernel
theorem dL_law_1009 : decode cL_law 1009 = .ok (.iload_n 3, 1) := by decide +kernel
theorem dL_law_1010 : decode cL_law 1010 = .ok (.iconst 4, 1) := by decide +kernel
theorem dL_law_1011 : decode cL_law 1011 = .ok (.iadd, 1) := by decide +kernel
theorem dL_law_1012 : decode cL_law 1012 = .ok (.iaload, 1) := by decide +kernel
theorem dL_law_1013 : decode cL_law 1013 = .ok (.invokevirtual 113, 3) := by decide +kernel
theorem dL_law_1016 : decode cL_law 1016 = .ok (.if_icmp .eq 400, 3) := by decide +kernel
theorem dL_law_1019 : decode cL_law 1019 = .ok (.iconst 0, 1) := by decide +kernel
theorem dL_law_1020 : decode cL_law 1020 = .ok (.ireturn, 1) := by decide +kernel
theorem dL_law_1021 : decode cL_law 1021 = .ok (.aload_n 1, 1) := by decide +kernel
theorem dL_law_1022 : decode cL_law 1022 = .ok (.aload_n 0, 1) := by decide +kernel
theorem dL_law_1023 : decode cL_law 1023 = .ok (.iload_n 3, 1) := by decide +kernel
theorem dL_law_1024 : decode cL_law 1024 = .ok (.iconst 1, 1) := by decide +kernel
theorem dL_law_1025 : decode cL_law 1025 = .ok (.iadd, 1) := by decide +kernel
theorem dL_law_1026 : decode cL_law 1026 = .ok (.iaload, 1) := by decide +kernel
theorem dL_law_1027 : decode cL_law 1027 = .ok (.aload_n 0, 1) := by decide +kernel
theorem dL_law_1028 : decode cL_law 1028 = .ok (.iload_n 3, 1) := by decide +kernel
theorem dL_law_1029 : decode cL_law 1029 = .ok (.iconst 2, 1) := by decide +kernel
theorem dL_law_1030 : decode cL_law 1030 = .ok (.iadd, 1) := by decide +kernel
theorem dL_law_1031 : decode cL_law 1031 = .ok (.iaload, 1) := by decide +kernel
theorem dL_law_1032 : decode cL_law 1032 = .ok (.invokevirtual 114, 3) := by decide +kernel
theorem dL_law_1035 : decode cL_law 1035 = .ok (.aload_n 2, 1) := by decide +kernel
theorem dL_law_1036 : decode cL_law 1036 = .ok (.aload_n 0, 1) := by decide +kernel
theorem dL_law_1037 : decode cL_law 1037 = .ok (.iload_n 3, 1) := by decide +kernel
theorem dL_law_1038 : decode cL_law 1038 = .ok (.iconst 1, 1) := by decide +kernel
theorem dL_law_1039 : decode cL_law 1039 = .ok (.iadd, 1) := by decide +kernel
theorem dL_law_1040 : decode cL_law 1040 = .ok (.iaload, 1) := by decide +kernel
theorem dL_law_1041 : decode cL_law 1041 = .ok (.aload_n 0, 1) := by decide +kernel
theorem dL_law_1042 : decode cL_law 1042 = .ok (.iload_n 3, 1) := by decide +kernel
theorem dL_law_1043 : decode cL_law 1043 = .ok (.iconst 2, 1) := by decide +kernel
theorem dL_law_1044 : decode cL_law 1044 = .ok (.iadd, 1) := by decide +kernel
theorem dL_law_1045 : decode cL_law 1045 = .ok (.iaload, 1) := by decide +kernel
theorem dL_law_1046 : decode cL_law 1046 = .ok (.invokevirtual 117, 3) := by decide +kernel
theorem dL_law_1049 : decode cL_law 1049 = .ok (.if_icmp .eq 367, 3) := by decide +kernel
theorem dL_law_1052 : decode cL_law 1052 = .ok (.iconst 0, 1) := by decide +kernel
theorem dL_law_1053 : decode cL_law 1053 = .ok (.ireturn, 1) := by decide +kernel
theorem dL_law_1054 : decode cL_law 1054 = .ok (.aload_n 1, 1) := by decide +kernel
theorem dL_law_1055 : decode cL_law 1055 = .ok (.aload_n 0, 1) := by decide +kernel
theorem dL_law_1056 : decode cL_law 1056 = .ok (.iload_n 3, 1) := by decide +kernel
theorem dL_law_1057 : decode cL_law 1057 = .ok (.iconst 1, 1) := by decide +kernel
theorem dL_law_1058 : decode cL_law 1058 = .ok (.iadd, 1) := by decide +kernel
theorem dL_law_1059 : decode cL_law 1059 = .ok (.iaload, 1) := by decide +kernel
theorem dL_law_1060 : decode cL_law 1060 = .ok (.aload_n 0, 1) := by decide +kernel
theorem dL_law_1061 : decode cL_law 1061 = .ok (.iload_n 3, 1) := by decide +kernel
theorem dL_law_1062 : decode cL_law 1062 = .ok (.iconst 2, 1) := by decide +kernel
theorem dL_law_1063 : decode cL_law 1063 = .ok (.iadd, 1) := by decide +kernel
theorem dL_law_1064 : decode cL_law 1064 = .ok (.iaload, 1) := by decide +kernel
theorem dL_law_1065 : decode cL_law 1065 = .ok (.aload_n 0, 1) := by decide +kernel
theorem dL_law_1066 : decode cL_law 1066 = .ok (.iload_n 3, 1) := by decide +kernel
theorem dL_law_1067 : decode cL_law 1067 = .ok (.iconst 3, 1) := by decide +kernel
theorem dL_law_1068 : decode cL_law 1068 = .ok (.iadd, 1) := by decide +kernel
theorem dL_law_1069 : decode cL_law 1069 = .ok (.iaload, 1) := by decide +kernel
theorem dL_law_1070 : decode cL_law 1070 = .ok (.invokevirtual 118, 3) := by decide +kernel
theorem dL_law_1073 : decode cL_law 1073 = .ok (.aload_n 2, 1) := by decide +kernel
theorem dL_law_1074 : decode cL_law 1074 = .ok (.aload_n 0, 1) := by decide +kernel
theorem dL_law_1075 : decode cL_law 1075 = .ok (.iload_n 3, 1) := by decide +kernel
theorem dL_law_1076 : decode cL_law 1076 = .ok (.iconst 1, 1) := by decide +kernel
theorem dL_law_1077 : decode cL_law 1077 = .ok (.iadd, 1) := by decide +kernel
theorem dL_law_1078 : decode cL_law 1078 = .ok (.iaload, 1) := by decide +kernel
theorem dL_law_1079 : decode cL_law 1079 = .ok (.aload_n 0, 1) := by decide +kernel
theorem dL_law_1080 : decode cL_law 1080 = .ok (.iload_n 3, 1) := by decide +kernel
theorem dL_law_1081 : decode cL_law 1081 = .ok (.iconst 2, 1) := by decide +kernel
theorem dL_law_1082 : decode cL_law 1082 = .ok (.iadd, 1) := by decide +kernel
theorem dL_law_1083 : decode cL_law 1083 = .ok (.iaload, 1) := by decide +kernel
theorem dL_law_1084 : decode cL_law 1084 = .ok (.aload_n 0, 1) := by decide +kernel
theorem dL_law_1085 : decode cL_law 1085 = .ok (.iload_n 3, 1) := by decide +kernel
theorem dL_law_1086 : decode cL_law 1086 = .ok (.iconst 3, 1) := by decide +kernel
theorem dL_law_1087 : decode cL_law 1087 = .ok (.iadd, 1) := by decide +kernel
theorem dL_law_1088 : decode cL_law 1088 = .ok (.iaload, 1) := by decide +kernel
theorem dL_law_1089 : decode cL_law 1089 = .ok (.invokevirtual 121, 3) := by decide +kernel
theorem dL_law_1092 : decode cL_law 1092 = .ok (.if_icmp .eq 324, 3) := by decide +kernel
theorem dL_law_1095 : decode cL_law 1095 = .ok (.iconst 0, 1) := by decide +kernel
theorem dL_law_1096 : decode cL_law 1096 = .ok (.ireturn, 1) := by decide +kernel
theorem dL_law_1097 : decode cL_law 1097 = .ok (.aload_n 1, 1) := by decide +kernel
theorem dL_law_1098 : decode cL_law 1098 = .ok (.aload_n 0, 1) := by decide +kernel
theorem dL_law_1099 : decode cL_law 1099 = .ok (.iload_n 3, 1) := by decide +kernel
theorem dL_law_1100 : decode cL_law 1100 = .ok (.iconst 1, 1) := by decide +kernel
theorem dL_law_1101 : decode cL_law 1101 = .ok (.iadd, 1) := by decide +kernel
theorem dL_law_1102 : decode cL_law 1102 = .ok (.iaload, 1) := by decide +kernel
theorem dL_law_1103 : decode cL_law 1103 = .ok (.aload_n 0, 1) := by decide +kernel
theorem dL_law_1104 : decode cL_law 1104 = .ok (.iload_n 3, 1) := by decide +kernel
theorem dL_law_1105 : decode cL_law 1105 = .ok (.iconst 2, 1) := by decide +kernel
theorem dL_law_1106 : decode cL_law 1106 = .ok (.iadd, 1) := by decide +kernel
theorem dL_law_1107 : decode cL_law 1107 = .ok (.iaload, 1) := by decide +kernel
theorem dL_law_1108 : decode cL_law 1108 = .ok (.invokevirtual 122, 3) := by decide +kernel
theorem dL_law_1111 : decode cL_law 1111 = .ok (.aload_n 2, 1) := by decide +kernel
theorem dL_law_1112 : decode cL_law 1112 = .ok (.aload_n 0, 1) := by decide +kernel
theorem dL_law_1113 : decode cL_law 1113 = .ok (.iload_n 3, 1) := by decide +kernel
theorem dL_law_1114 : decode cL_law 1114 = .ok (.iconst 1, 1) := by decide +kernel
theorem dL_law_1115 : decode cL_law 1115 = .ok (.iadd, 1) := by decide +kernel
theorem dL_law_1116 : decode cL_law 1116 = .ok (.iaload, 1) := by decide +kernel
theorem dL_law_1117 : decode cL_law 1117 = .ok (.aload_n 0, 1) := by decide +kernel
theorem dL_law_1118 : decode cL_law 1118 = .ok (.iload_n 3, 1) := by decide +kernel
theorem dL_law_1119 : decode cL_law 1119 = .ok (.iconst 2, 1) := by decide +kernel
theorem dL_law_1120 : decode cL_law 1120 = .ok (.iadd, 1) := by decide +kernel
theorem dL_law_1121 : decode cL_law 1121 = .ok (.iaload, 1) := by decide +kernel
theorem dL_law_1122 : decode cL_law 1122 = .ok (.invokevirtual 125, 3) := by decide +kernel
theorem dL_law_1125 : decode cL_law 1125 = .ok (.if_icmp .eq 291, 3) := by decide +kernel
theorem dL_law_1128 : decode cL_law 1128 = .ok (.iconst 0, 1) := by decide +kernel
theorem dL_law_1129 : decode cL_law 1129 = .ok (.ireturn, 1) := by decide +kernel
theorem dL_law_1130 : decode cL_law 1130 = .ok (.aload_n 1, 1) := by decide +kernel
theorem dL_law_1131 : decode cL_law 1131 = .ok (.aload_n 0, 1) := by decide +kernel
theorem dL_law_1132 : decode cL_law 1132 = .ok (.iload_n 3, 1) := by decide +kernel
theorem dL_law_1133 : decode cL_law 1133 = .ok (.iconst 1, 1) := by decide +kernel
theorem dL_law_1134 : decode cL_law 1134 = .ok (.iadd, 1) := by decide +kernel
theorem dL_law_1135 : decode cL_law 1135 = .ok (.iaload, 1) := by decide +kernel
theorem dL_law_1136 : decode cL_law 1136 = .ok (.invokevirtual 126, 3) := by decide +kernel
theorem dL_law_1139 : decode cL_law 1139 = .ok (.aload_n 2, 1) := by decide +kernel
theorem dL_law_1140 : decode cL_law 1140 = .ok (.aload_n 0, 1) := by decide +kernel
theorem dL_law_1141 : decode cL_law 1141 = .ok (.iload_n 3, 1) := by decide +kernel
theorem dL_law_1142 : decode cL_law 1142 = .ok (.iconst 1, 1) := by decide +kernel
theorem dL_law_1143 : decode cL_law 1143 = .ok (.iadd, 1) := by decide +kernel
theorem dL_law_1144 : decode cL_law 1144 = .ok (.iaload, 1) := by decide +kernel
theorem dL_law_1145 : decode cL_law 1145 = .ok (.invokevirtual 129, 3) := by decide +kernel
theorem dL_law_1148 : decode cL_law 1148 = .ok (.if_icmp .eq 268, 3) := by decide +kernel
theorem dL_law_1151 : decode cL_law 1151 = .ok (.iconst 0, 1) := by decide +kernel
theorem dL_law_1152 : decode cL_law 1152 = .ok (.ireturn, 1) := by decide +kernel
theorem dL_law_1153 : decode cL_law 1153 = .ok (.aload_n 1, 1) := by decide +kernel
theorem dL_law_1154 : decode cL_law 1154 = .ok (.aload_n 0, 1) := by decide +kernel
theorem dL_law_1155 : decode cL_law 1155 = .ok (.iload_n 3, 1) := by decide +kernel
theorem dL_law_1156 : decode cL_law 1156 = .ok (.iconst 1, 1) := by decide +kernel
theorem dL_law_1157 : decode cL_law 1157 = .ok (.iadd, 1) := by decide +kernel
theorem dL_law_1158 : decode cL_law 1158 = .ok (.iaload, 1) := by decide +kernel
theorem dL_law_1159 : decode cL_law 1159 = .ok (.invokevirtual 130, 3) := by decide +kernel
theorem dL_law_1162 : decode cL_law 1162 = .ok (.aload_n 2, 1) := by decide +kernel
theorem dL_law_1163 : decode cL_law 1163 = .ok (.aload_n 0, 1) := by decide +kernel
theorem dL_law_1164 : decode cL_law 1164 = .ok (.iload_n 3, 1) := by decide +kernel
theorem dL_law_1165 : decode cL_law 1165 = .ok (.iconst 1, 1) := by decide +kernel
theorem dL_law_1166 : decode cL_law 1166 = .ok (.iadd, 1) := by decide +kernel
theorem dL_law_1167 : decode cL_law 1167 = .ok (.iaload, 1) := by decide +kernel
theorem dL_law_1168 : decode cL_law 1168 = .ok (.invokevirtual 133, 3) := by decide +kernel
theorem dL_law_1171 : decode cL_law 1171 = .ok (.if_icmp .eq 245, 3) := by decide +kernel
theorem dL_law_1174 : decode cL_law 1174 = .ok (.iconst 0, 1) := by decide +kernel
theorem dL_law_1175 : decode cL_law 1175 = .ok (.ireturn, 1) := by decide +kernel
theorem dL_law_1176 : decode cL_law 1176 = .ok (.aload_n 1, 1) := by decide +kernel
theorem dL_law_1177 : decode cL_law 1177 = .ok (.aload_n 0, 1) := by decide +kernel
theorem dL_law_1178 : decode cL_law 1178 = .ok (.iload_n 3, 1) := by decide +kernel
theorem dL_law_1179 : decode cL_law 1179 = .ok (.iconst 1, 1) := by decide +kernel
theorem dL_law_1180 : decode cL_law 1180 = .ok (.iadd, 1) := by decide +kernel
theorem dL_law_1181 : decode cL_law 1181 = .ok (.iaload, 1) := by decide +kernel
theorem dL_law_1182 : decode cL_law 1182 = .ok (.invokevirtual 134, 3) := by decide +kernel
theorem dL_law_1185 : decode cL_law 1185 = .ok (.aload_n 2, 1) := by decide +kernel
theorem dL_law_1186 : decode cL_law 1186 = .ok (.aload_n 0, 1) := by decide +kernel
theorem dL_law_1187 : decode cL_law 1187 = .ok (.iload_n 3, 1) := by decide +kernel
theorem dL_law_1188 : decode cL_law 1188 = .ok (.iconst 1, 1) := by decide +kernel
theorem dL_law_1189 : decode cL_law 1189 = .ok (.iadd, 1) := by decide +kernel
theorem dL_law_1190 : decode cL_law 1190 = .ok (.iaload, 1) := by decide +kernel
theorem dL_law_1191 : decode cL_law 1191 = .ok (.invokevirtual 137, 3) := by decide +kernel
theorem dL_law_1194 : decode cL_law 1194 = .ok (.if_icmp .eq 222, 3) := by decide +kernel
theorem dL_law_1197 : decode cL_law 1197 = .ok (.iconst 0, 1) := by decide +kernel
theorem dL_law_1198 : decode cL_law 1198 = .ok (.ireturn, 1) := by decide +kernel
theorem dL_law_1199 : decode cL_law 1199 = .ok (.aload_n 1, 1) := by decide +kernel
theorem dL_law_1200 : decode cL_law 1200 = .ok (.aload_n 0, 1) := by decide +kernel
theorem dL_law_1201 : decode cL_law 1201 = .ok (.iload_n 3, 1) := by decide +kernel
theorem dL_law_1202 : decode cL_law 1202 = .ok (.iconst 1, 1) := by decide +kernel
theorem dL_law_1203 : decode cL_law 1203 = .ok (.iadd, 1) := by decide +kernel
theorem dL_law_1204 : decode cL_law 1204 = .ok (.iaload, 1) := by decide +kernel
theorem dL_law_1205 : decode cL_law 1205 = .ok (.aload_n 0, 1) := by decide +kernel
theorem dL_law_1206 : decode cL_law 1206 = .ok (.iload_n 3, 1) := by decide +kernel
theorem dL_law_1207 : decode cL_law 1207 = .ok (.iconst 2, 1) := by decide +kernel
theorem dL_law_1208 : decode cL_law 1208 = .ok (.iadd, 1) := by decide +kernel
theorem dL_law_1209 : decode cL_law 1209 = .ok (.iaload, 1) := by decide +kernel
theorem dL_law_1210 : decode cL_law 1210 = .ok (.invokevirtual 138, 3) := by decide +kernel
theorem dL_law_1213 : decode cL_law 1213 = .ok (.aload_n 2, 1) := by decide +kernel
theorem dL_law_1214 : decode cL_law 1214 = .ok (.aload_n 0, 1) := by decide +kernel
theorem dL_law_1215 : decode cL_law 1215 = .ok (.iload_n 3, 1) := by decide +kernel
theorem dL_law_1216 : decode cL_law 1216 = .ok (.iconst 1, 1) := by decide +kernel
theorem dL_law_1217 : decode cL_law 1217 = .ok (.iadd, 1) := by decide +kernel
theorem dL_law_1218 : decode cL_law 1218 = .ok (.iaload, 1) := by decide +kernel
theorem dL_law_1219 : decode cL_law 1219 = .ok (.aload_n 0, 1) := by decide +kernel
theorem dL_law_1220 : decode cL_law 1220 = .ok (.iload_n 3, 1) := by decide +kernel
theorem dL_law_1221 : decode cL_law 1221 = .ok (.iconst 2, 1) := by decide +kernel
theorem dL_law_1222 : decode cL_law 1222 = .ok (.iadd, 1) := by decide +kernel
theorem dL_law_1223 : decode cL_law 1223 = .ok (.iaload, 1) := by decide +kernel
theorem dL_law_1224 : decode cL_law 1224 = .ok (.invokevirtual 141, 3) := by decide +kernel
theorem dL_law_1227 : decode cL_law 1227 = .ok (.if_icmp .eq 189, 3) := by decide +kernel
theorem dL_law_1230 : decode cL_law 1230 = .ok (.iconst 0, 1) := by decide +kernel
theorem dL_law_1231 : decode cL_law 1231 = .ok (.ireturn, 1) := by decide +kernel
theorem dL_law_1232 : decode cL_law 1232 = .ok (.aload_n 1, 1) := by decide +kernel
theorem dL_law_1233 : decode cL_law 1233 = .ok (.aload_n 0, 1) := by decide +kernel
theorem dL_law_1234 : decode cL_law 1234 = .ok (.iload_n 3, 1) := by decide +kernel
theorem dL_law_1235 : decode cL_law 1235 = .ok (.iconst 1, 1) := by decide +kernel
theorem dL_law_1236 : decode cL_law 1236 = .ok (.iadd, 1) := by decide +kernel
theorem dL_law_1237 : decode cL_law 1237 = .ok (.iaload, 1) := by decide +kernel
theorem dL_law_1238 : decode cL_law 1238 = .ok (.aload_n 0, 1) := by decide +kernel
theorem dL_law_1239 : decode cL_law 1239 = .ok (.iload_n 3, 1) := by decide +kernel
theorem dL_law_1240 : decode cL_law 1240 = .ok (.iconst 2, 1) := by decide +kernel
theorem dL_law_1241 : decode cL_law 1241 = .ok (.iadd, 1) := by decide +kernel
theorem dL_law_1242 : decode cL_law 1242 = .ok (.iaload, 1) := by decide +kernel
theorem dL_law_1243 : decode cL_law 1243 = .ok (.invokevirtual 142, 3) := by decide +kernel
theorem dL_law_1246 : decode cL_law 1246 = .ok (.aload_n 2, 1) := by decide +kernel
theorem dL_law_1247 : decode cL_law 1247 = .ok (.aload_n 0, 1) := by decide +kernel
theorem dL_law_1248 : decode cL_law 1248 = .ok (.iload_n 3, 1) := by decide +kernel
theorem dL_law_1249 : decode cL_law 1249 = .ok (.iconst 1, 1) := by decide +kernel
theorem dL_law_1250 : decode cL_law 1250 = .ok (.iadd, 1) := by decide +kernel
theorem dL_law_1251 : decode cL_law 1251 = .ok (.iaload, 1) := by decide +kernel
theorem dL_law_1252 : decode cL_law 1252 = .ok (.aload_n 0, 1) := by decide +kernel
theorem dL_law_1253 : decode cL_law 1253 = .ok (.iload_n 3, 1) := by decide +kernel
theorem dL_law_1254 : decode cL_law 1254 = .ok (.iconst 2, 1) := by decide +kernel
theorem dL_law_1255 : decode cL_law 1255 = .ok (.iadd, 1) := by decide +kernel
theorem dL_law_1256 : decode cL_law 1256 = .ok (.iaload, 1) := by decide +kernel
theorem dL_law_1257 : decode cL_law 1257 = .ok (.invokevirtual 145, 3) := by decide +kernel
theorem dL_law_1260 : decode cL_law 1260 = .ok (.if_icmp .eq 156, 3) := by decide +kernel
theorem dL_law_1263 : decode cL_law 1263 = .ok (.iconst 0, 1) := by decide +kernel
theorem dL_law_1264 : decode cL_law 1264 = .ok (.ireturn, 1) := by decide +kernel
theorem dL_law_1265 : decode cL_law 1265 = .ok (.aload_n 1, 1) := by decide +kernel
theorem dL_law_1266 : decode cL_law 1266 = .ok (.aload_n 0, 1) := by decide +kernel
theorem dL_law_1267 : decode cL_law 1267 = .ok (.iload_n 3, 1) := by decide +kernel
theorem dL_law_1268 : decode cL_law 1268 = .ok (.iconst 1, 1) := by decide +kernel
theorem dL_law_1269 : decode cL_law 1269 = .ok (.iadd, 1) := by decide +kernel
theorem dL_law_1270 : decode cL_law 1270 = .ok (.iaload, 1) := by decide +kernel
theorem dL_law_1271 : decode cL_law 1271 = .ok (.aload_n 0, 1) := by decide +kernel
theorem dL_law_1272 : decode cL_law 1272 = .ok (.iload_n 3, 1) := by decide +kernel
theorem dL_law_1273 : decode cL_law 1273 = .ok (.iconst 2, 1) := by decide +kernel
theorem dL_law_1274 : decode cL_law 1274 = .ok (.iadd, 1) := by decide +kernel
theorem dL_law_1275 : decode cL_law 1275 = .ok (.iaload, 1) := by decide +kernel
theorem dL_law_1276 : decode cL_law 1276 = .ok (.invokevirtual 146, 3) := by decide +kernel
theorem dL_law_1279 : decode cL_law 1279 = .ok (.aload_n 2, 1) := by decide +kernel
theorem dL_law_1280 : decode cL_law 1280 = .ok (.aload_n 0, 1) := by decide +kernel
theorem dL_law_1281 : decode cL_law 1281 = .ok (.iload_n 3, 1) := by decide +kernel
theorem dL_law_1282 : decode cL_law 1282 = .ok (.iconst 1, 1) := by decide +kernel
theorem dL_law_1283 : decode cL_law 1283 = .ok (.iadd, 1) := by decide +kernel
theorem dL_law_1284 : decode cL_law 1284 = .ok (.iaload, 1) := by decide +kernel
theorem dL_law_1285 : decode cL_law 1285 = .ok (.aload_n 0, 1) := by decide +kernel
theorem dL_law_1286 : decode cL_law 1286 = .ok (.iload_n 3, 1) := by decide +kernel
theorem dL_law_1287 : decode cL_law 1287 = .ok (.iconst 2, 1) := by decide +kernel
theorem dL_law_1288 : decode cL_law 1288 = .ok (.iadd, 1) := by decide +kernel
theorem dL_law_1289 : decode cL_law 1289 = .ok (.iaload, 1) := by decide +kernel
theorem dL_law_1290 : decode cL_law 1290 = .ok (.invokevirtual 149, 3) := by decide +kernel
theorem dL_law_1293 : decode cL_law 1293 = .ok (.if_icmp .eq 123, 3) := by decide +kernel
theorem dL_law_1296 : decode cL_law 1296 = .ok (.iconst 0, 1) := by decide +kernel
theorem dL_law_1297 : decode cL_law 1297 = .ok (.ireturn, 1) := by decide +kernel
theorem dL_law_1298 : decode cL_law 1298 = .ok (.aload_n 1, 1) := by decide +kernel
theorem dL_law_1299 : decode cL_law 1299 = .ok (.aload_n 0, 1) := by decide +kernel
theorem dL_law_1300 : decode cL_law 1300 = .ok (.iload_n 3, 1) := by decide +kernel
theorem dL_law_1301 : decode cL_law 1301 = .ok (.iconst 1, 1) := by decide +kernel
theorem dL_law_1302 : decode cL_law 1302 = .ok (.iadd, 1) := by decide +kernel
theorem dL_law_1303 : decode cL_law 1303 = .ok (.iaload, 1) := by decide +kernel
theorem dL_law_1304 : decode cL_law 1304 = .ok (.aload_n 0, 1) := by decide +kernel
theorem dL_law_1305 : decode cL_law 1305 = .ok (.iload_n 3, 1) := by decide +kernel
theorem dL_law_1306 : decode cL_law 1306 = .ok (.iconst 2, 1) := by decide +kernel
theorem dL_law_1307 : decode cL_law 1307 = .ok (.iadd, 1) := by decide +kernel
theorem dL_law_1308 : decode cL_law 1308 = .ok (.iaload, 1) := by decide +kernel
theorem dL_law_1309 : decode cL_law 1309 = .ok (.aload_n 0, 1) := by decide +kernel
theorem dL_law_1310 : decode cL_law 1310 = .ok (.iload_n 3, 1) := by decide +kernel
theorem dL_law_1311 : decode cL_law 1311 = .ok (.iconst 3, 1) := by decide +kernel
theorem dL_law_1312 : decode cL_law 1312 = .ok (.iadd, 1) := by decide +kernel
theorem dL_law_1313 : decode cL_law 1313 = .ok (.iaload, 1) := by decide +kernel
theorem dL_law_1314 : decode cL_law 1314 = .ok (.invokevirtual 150, 3) := by decide +kernel
theorem dL_law_1317 : decode cL_law 1317 = .ok (.aload_n 2, 1) := by decide +kernel
theorem dL_law_1318 : decode cL_law 1318 = .ok (.aload_n 0, 1) := by decide +kernel
theorem dL_law_1319 : decode cL_law 1319 = .ok (.iload_n 3, 1) := by decide +kernel
theorem dL_law_1320 : decode cL_law 1320 = .ok (.iconst 1, 1) := by decide +kernel
theorem dL_law_1321 : decode cL_law 1321 = .ok (.iadd, 1) := by decide +kernel
theorem dL_law_1322 : decode cL_law 1322 = .ok (.iaload, 1) := by decide +kernel
theorem dL_law_1323 : decode cL_law 1323 = .ok (.aload_n 0, 1) := by decide +kernel
theorem dL_law_1324 : decode cL_law 1324 = .ok (.iload_n 3, 1) := by decide +kernel
theorem dL_law_1325 : decode cL_law 1325 = .ok (.iconst 2, 1) := by decide +kernel
theorem dL_law_1326 : decode cL_law 1326 = .ok (.iadd, 1) := by decide +kernel
theorem dL_law_1327 : decode cL_law 1327 = .ok (.iaload, 1) := by decide +kernel
theorem dL_law_1328 : decode cL_law 1328 = .ok (.aload_n 0, 1) := by decide +kernel
theorem dL_law_1329 : decode cL_law 1329 = .ok (.iload_n 3, 1) := by decide +kernel
theorem dL_law_1330 : decode cL_law 1330 = .ok (.iconst 3, 1) := by decide +kernel
theorem dL_law_1331 : decode cL_law 1331 = .ok (.iadd, 1) := by decide +kernel
theorem dL_law_1332 : decode cL_law 1332 = .ok (.iaload, 1) := by decide +kernel
theorem dL_law_1333 : decode cL_law 1333 = .ok (.invokevirtual 153, 3) := by decide +kernel
theorem dL_law_1336 : decode cL_law 1336 = .ok (.if_icmp .eq 80, 3) := by decide +kernel
theorem dL_law_1339 : decode cL_law 1339 = .ok (.iconst 0, 1) := by decide +kernel
theorem dL_law_1340 : decode cL_law 1340 = .ok (.ireturn, 1) := by decide +kernel
theorem dL_law_1341 : decode cL_law 1341 = .ok (.aload_n 1, 1) := by decide +kernel
theorem dL_law_1342 : decode cL_law 1342 = .ok (.invokevirtual 154, 3) := by decide +kernel
theorem dL_law_1345 : decode cL_law 1345 = .ok (.aload_n 2, 1) := by decide +kernel
theorem dL_law_1346 : decode cL_law 1346 = .ok (.invokevirtual 158, 3) := by decide +kernel
theorem dL_law_1349 : decode cL_law 1349 = .ok (.if_icmp .eq 67, 3) := by decide +kernel
theorem dL_law_1352 : decode cL_law 1352 = .ok (.iconst 0, 1) := by decide +kernel
theorem dL_law_1353 : decode cL_law 1353 = .ok (.ireturn, 1) := by decide +kernel
theorem dL_law_1354 : decode cL_law 1354 = .ok (.aload_n 1, 1) := by decide +kernel
theorem dL_law_1355 : decode cL_law 1355 = .ok (.aload_n 0, 1) := by decide +kernel
theorem dL_law_1356 : decode cL_law 1356 = .ok (.iload_n 3, 1) := by decide +kernel
theorem dL_law_1357 : decode cL_law 1357 = .ok (.iconst 1, 1) := by decide +kernel
theorem dL_law_1358 : decode cL_law 1358 = .ok (.iadd, 1) := by decide +kernel
theorem dL_law_1359 : decode cL_law 1359 = .ok (.iaload, 1) := by decide +kernel
theorem dL_law_1360 : decode cL_law 1360 = .ok (.ifCond .eq 7, 3) := by decide +kernel
theorem dL_law_1363 : decode cL_law 1363 = .ok (.iconst 1, 1) := by decide +kernel
theorem dL_law_1364 : decode cL_law 1364 = .ok (.goto 4, 3) := by decide +kernel
theorem dL_law_1367 : decode cL_law 1367 = .ok (.iconst 0, 1) := by decide +kernel
theorem dL_law_1368 : decode cL_law 1368 = .ok (.invokevirtual 159, 3) := by decide +kernel
theorem dL_law_1371 : decode cL_law 1371 = .ok (.aload_n 2, 1) := by decide +kernel
theorem dL_law_1372 : decode cL_law 1372 = .ok (.aload_n 0, 1) := by decide +kernel
theorem dL_law_1373 : decode cL_law 1373 = .ok (.iload_n 3, 1) := by decide +kernel
theorem dL_law_1374 : decode cL_law 1374 = .ok (.iconst 1, 1) := by decide +kernel
theorem dL_law_1375 : decode cL_law 1375 = .ok (.iadd, 1) := by decide +kernel
theorem dL_law_1376 : decode cL_law 1376 = .ok (.iaload, 1) := by decide +kernel
theorem dL_law_1377 : decode cL_law 1377 = .ok (.ifCond .eq 7, 3) := by decide +kernel
theorem dL_law_1380 : decode cL_law 1380 = .ok (.iconst 1, 1) := by decide +kernel
theorem dL_law_1381 : decode cL_law 1381 = .ok (.goto 4, 3) := by decide +kernel
theorem dL_law_1384 : decode cL_law 1384 = .ok (.iconst 0, 1) := by decide +kernel
theorem dL_law_1385 : decode cL_law 1385 = .ok (.invokevirtual 163, 3) := by decide +kernel
theorem dL_law_1388 : decode cL_law 1388 = .ok (.if_icmp .eq 28, 3) := by decide +kernel
theorem dL_law_1391 : decode cL_law 1391 = .ok (.iconst 0, 1) := by decide +kernel
theorem dL_law_1392 : decode cL_law 1392 = .ok (.ireturn, 1) := by decide +kernel
theorem dL_law_1393 : decode cL_law 1393 = .ok (.aload_n 1, 1) := by decide +kernel
theorem dL_law_1394 : decode cL_law 1394 = .ok (.aload_n 0, 1) := by decide +kernel
theorem dL_law_1395 : decode cL_law 1395 = .ok (.iload_n 3, 1) := by decide +kernel
theorem dL_law_1396 : decode cL_law 1396 = .ok (.iconst 1, 1) := by decide +kernel
theorem dL_law_1397 : decode cL_law 1397 = .ok (.iadd, 1) := by decide +kernel
theorem dL_law_1398 : decode cL_law 1398 = .ok (.iaload, 1) := by decide +kernel
theorem dL_law_1399 : decode cL_law 1399 = .ok (.invokevirtual 164, 3) := by decide +kernel
theorem dL_law_1402 : decode cL_law 1402 = .ok (.aload_n 2, 1) := by decide +kernel
theorem dL_law_1403 : decode cL_law 1403 = .ok (.aload_n 0, 1) := by decide +kernel
theorem dL_law_1404 : decode cL_law 1404 = .ok (.iload_n 3, 1) := by decide +kernel
theorem dL_law_1405 : decode cL_law 1405 = .ok (.iconst 1, 1) := by decide +kernel
theorem dL_law_1406 : decode cL_law 1406 = .ok (.iadd, 1) := by decide +kernel
theorem dL_law_1407 : decode cL_law 1407 = .ok (.iaload, 1) := by decide +kernel
theorem dL_law_1408 : decode cL_law 1408 = .ok (.invokevirtual 167, 3) := by decide +kernel
theorem dL_law_1411 : decode cL_law 1411 = .ok (.if_icmp .eq 5, 3) := by decide +kernel
theorem dL_law_1414 : decode cL_law 1414 = .ok (.iconst 0, 1) := by decide +kernel
theorem dL_law_1415 : decode cL_law 1415 = .ok (.ireturn, 1) := by decide +kernel
theorem dL_law_1416 : decode cL_law 1416 = .ok (.iinc 3 6, 3) := by decide +kernel
theorem dL_law_1419 : decode cL_law 1419 = .ok (.goto (-1401), 3) := by decide +kernel
theorem dL_law_1422 : decode cL_law 1422 = .ok (.iconst 1, 1) := by decide +kernel
theorem dL_law_1423 : decode cL_law 1423 = .ok (.ireturn, 1) := by decide +kernel
theorem dJ11_isValidCodePoint_9a6ad_0 : decode cJ11_isValidCodePoint_9a6ad 0 = .ok (.iload_n 0, 1) := by decide +kernel
theorem dJ11_isValidCodePoint_9a6ad_1 : decode cJ11_isValidCodePoint_9a6ad 1 = .ok (.bipush 16, 2) := by decide +kernel
theorem dJ11_isValidCodePoint_9a6ad_3 : decode cJ11_isValidCodePoint_9a6ad 3 = .ok (.iushr, 1) := by decide +kernel
theorem dJ11_isValidCodePoint_9a6ad_4 : decode cJ11_isValidCodePoint_9a6ad 4 = .ok (.istore_n 1, 1) := by decide +kernel
theorem dJ11_isValidCodePoint_9a6ad_5 : decode cJ11_isValidCodePoint_9a6ad 5 = .ok (.iload_n 1, 1) := by decide +kernel
theorem dJ11_isValidCodePoint_9a6ad_6 : decode cJ11_isValidCodePoint_9a6ad 6 = .ok (.bipush 17, 2) := by decide +kernel
theorem dJ11_isValidCodePoint_9a6ad_8 : decode cJ11_isValidCodePoint_9a6ad 8 = .ok (.if_icmp .ge 7, 3) := by decide +kernel
theorem dJ11_isValidCodePoint_9a6ad_11 : decode cJ11_isValidCodePoint_9a6ad 11 = .ok (.iconst 1, 1) := by decide +kernel
theorem dJ11_isValidCodePoint_9a6ad_12 : decode cJ11_isValidCodePoint_9a6ad 12 = .ok (.goto 4, 3) := by decide +kernel
theorem dJ11_isValidCodePoint_9a6ad_15 : decode cJ11_isValidCodePoint_9a6ad 15 = .ok (.iconst 0, 1) := by decide +kernel
theorem dJ11_isValidCodePoint_9a6ad_16 : decode cJ11_isValidCodePoint_9a6ad 16 = .ok (.ireturn, 1) := by decide +kernel
theorem dJ11_highSurrogate_5068e_0 : decode cJ11_highSurrogate_5068e 0 = .ok (.iload_n 0, 1) := by decide +kernel
theorem dJ11_highSurrogate_5068e_1 : decode cJ11_highSurrogate_5068e 1 = .ok (.bipush 10, 2) := by decide +kernel
theorem dJ11_highSurrogate_5068e_3 : decode cJ11_highSurrogate_5068e 3 = .ok (.iushr, 1) := by decide +kernel
theorem dJ11_highSurrogate_5068e_4 : decode cJ11_highSurrogate_5068e 4 = .ok (.ldc 110, 2) := by decide +kernel
theorem dJ11_highSurrogate_5068e_6 : decode cJ11_highSurrogate_5068e 6 = .ok (.iadd, 1) := by decide +kernel
theorem dJ11_highSurrogate_5068e_7 : decode cJ11_highSurrogate_5068e 7 = .ok (.i2c, 1) := by decide +kernel
theorem dJ11_highSurrogate_5068e_8 : decode cJ11_highSurrogate_5068e 8 = .ok (.ireturn, 1) := by decide +kernel
theorem dJ11_lowSurrogate_5068e_0 : decode cJ11_lowSurrogate_5068e 0 = .ok (.iload_n 0, 1) := by decide +kernel
theorem dJ11_lowSurrogate_5068e_1 : decode cJ11_lowSurrogate_5068e 1 = .ok (.sipush 1023, 3) := by decide +kernel
theorem dJ11_lowSurrogate_5068e_4 : decode cJ11_lowSurrogate_5068e 4 = .ok (.iand, 1) := by decide +kernel
theorem dJ11_lowSurrogate_5068e_5 : decode cJ11_lowSurrogate_5068e 5 = .ok (.ldc 76, 2) := by decide +kernel
theorem dJ11_lowSurrogate_5068e_7 : decode cJ11_lowSurrogate_5068e 7 = .ok (.iadd, 1) := by decide +kernel
theorem dJ11_lowSurrogate_5068e_8 : decode cJ11_lowSurrogate_5068e 8 = .ok (.i2c, 1) := by decide +kernel
theorem dJ11_lowSurrogate_5068e_9 : decode cJ11_lowSurrogate_5068e 9 = .ok (.ireturn, 1) := by decide +kernel
theorem dJ9_max_7cf53_0 : decode cJ9_max_7cf53 0 = .ok (.iload_n 0, 1) := by decide +kernel
theorem dJ9_max_7cf53_1 : decode cJ9_max_7cf53 1 = .ok (.iload_n 1, 1) := by decide +kernel
theorem dJ9_max_7cf53_2 : decode cJ9_max_7cf53 2 = .ok (.if_icmp .lt 7, 3) := by decide +kernel
theorem dJ9_max_7cf53_5 : decode cJ9_max_7cf53 5 = .ok (.iload_n 0, 1) := by decide +kernel
theorem dJ9_max_7cf53_6 : decode cJ9_max_7cf53 6 = .ok (.goto 4, 3) := by decide +kernel
theorem dJ9_max_7cf53_9 : decode cJ9_max_7cf53 9 = .ok (.iload_n 1, 1) := by decide +kernel
theorem dJ9_max_7cf53_10 : decode cJ9_max_7cf53 10 = .ok (.ireturn, 1) := by decide +kernel
theorem dJ9_min_7cf53_0 : decode cJ9_min_7cf53 0 = .ok (.iload_n 0, 1) := by decide +kernel
theorem dJ9_min_7cf53_1 : decode cJ9_min_7cf53 1 = .ok (.iload_n 1, 1) := by decide +kernel
theorem dJ9_min_7cf53_2 : decode cJ9_min_7cf53 2 = .ok (.if_icmp .gt 7, 3) := by decide +kernel
theorem dJ9_min_7cf53_5 : decode cJ9_min_7cf53 5 = .ok (.iload_n 0, 1) := by decide +kernel
theorem dJ9_min_7cf53_6 : decode cJ9_min_7cf53 6 = .ok (.goto 4, 3) := by decide +kernel
theorem dJ9_min_7cf53_9 : decode cJ9_min_7cf53 9 = .ok (.iload_n 1, 1) := by decide +kernel
theorem dJ9_min_7cf53_10 : decode cJ9_min_7cf53 10 = .ok (.ireturn, 1) := by decide +kernel
theorem dJ0_length_8abf5_0 : decode cJ0_length_8abf5 0 = .ok (.aload_n 0, 1) := by decide +kernel
theorem dJ0_length_8abf5_1 : decode cJ0_length_8abf5 1 = .ok (.getfield 9, 3) := by decide +kernel
theorem dJ0_length_8abf5_4 : decode cJ0_length_8abf5 4 = .ok (.arraylength, 1) := by decide +kernel
theorem dJ0_length_8abf5_5 : decode cJ0_length_8abf5 5 = .ok (.aload_n 0, 1) := by decide +kernel
theorem dJ0_length_8abf5_6 : decode cJ0_length_8abf5 6 = .ok (.invokevirtual 335, 3) := by decide +kernel
theorem dJ0_length_8abf5_9 : decode cJ0_length_8abf5 9 = .ok (.ishr, 1) := by decide +kernel
theorem dJ0_length_8abf5_10 : decode cJ0_length_8abf5 10 = .ok (.ireturn, 1) := by decide +kernel
theorem dJ0_charAt_5068e_0 : decode cJ0_charAt_5068e 0 = .ok (.aload_n 0, 1) := by decide +kernel
theorem dJ0_charAt_5068e_1 : decode cJ0_charAt_5068e 1 = .ok (.invokevirtual 492, 3) := by decide +kernel
theorem dJ0_charAt_5068e_4 : decode cJ0_charAt_5068e 4 = .ok (.ifCond .eq 12, 3) := by decide +kernel
theorem dJ0_charAt_5068e_7 : decode cJ0_charAt_5068e 7 = .ok (.aload_n 0, 1) := by decide +kernel
theorem dJ0_charAt_5068e_8 : decode cJ0_charAt_5068e 8 = .ok (.getfield 9, 3) := by decide +kernel
theorem dJ0_charAt_5068e_11 : decode cJ0_charAt_5068e 11 = .ok (.iload_n 1, 1) := by decide +kernel
theorem dJ0_charAt_5068e_12 : decode cJ0_charAt_5068e 12 = .ok (.invokestatic 495, 3) := by decide +kernel
theorem dJ0_charAt_5068e_15 : decode cJ0_charAt_5068e 15 = .ok (.ireturn, 1) := by decide +kernel
theorem dJ0_charAt_5068e_16 : decode cJ0_charAt_5068e 16 = .ok (.aload_n 0, 1) := by decide +kernel
theorem dJ0_charAt_5068e_17 : decode cJ0_charAt_5068e 17 = .ok (.getfield 9, 3) := by decide +kernel
theorem dJ0_charAt_5068e_20 : decode cJ0_charAt_5068e 20 = .ok (.iload_n 1, 1) := by decide +kernel
theorem dJ0_charAt_5068e_21 : decode cJ0_charAt_5068e 21 = .ok (.invokestatic 498, 3) := by decide +kernel
theorem dJ0_charAt_5068e_24 : decode cJ0_charAt_5068e 24 = .ok (.ireturn, 1) := by decide +kernel
theorem dJ0_indexOf_0f7a4_0 : decode cJ0_indexOf_0f7a4 0 = .ok (.aload_n 0, 1) := by decide +kernel
theorem dJ0_indexOf_0f7a4_1 : decode cJ0_indexOf_0f7a4 1 = .ok (.iload_n 1, 1) := by decide +kernel
theorem dJ0_indexOf_0f7a4_2 : decode cJ0_indexOf_0f7a4 2 = .ok (.iconst 0, 1) := by decide +kernel
theorem dJ0_indexOf_0f7a4_3 : decode cJ0_indexOf_0f7a4 3 = .ok (.invokevirtual 633, 3) := by decide +kernel
theorem dJ0_indexOf_0f7a4_6 : decode cJ0_indexOf_0f7a4 6 = .ok (.ireturn, 1) := by decide +kernel
theorem dJ0_indexOf_7cf53_0 : decode cJ0_indexOf_7cf53 0 = .ok (.aload_n 0, 1) := by decide +kernel
theorem dJ0_indexOf_7cf53_1 : decode cJ0_indexOf_7cf53 1 = .ok (.invokevirtual 492, 3) := by decide +kernel
theorem dJ0_indexOf_7cf53_4 : decode cJ0_indexOf_7cf53 4 = .ok (.ifCond .eq 19, 3) := by decide +kernel
theorem dJ0_indexOf_7cf53_7 : decode cJ0_indexOf_7cf53 7 = .ok (.aload_n 0, 1) := by decide +kernel
theorem dJ0_indexOf_7cf53_8 : decode cJ0_indexOf_7cf53 8 = .ok (.getfield 9, 3) := by decide +kernel
theorem dJ0_indexOf_7cf53_11 : decode cJ0_indexOf_7cf53 11 = .ok (.iload_n 1, 1) := by decide +kernel
theorem dJ0_indexOf_7cf53_12 : decode cJ0_indexOf_7cf53 12 = .ok (.iload_n 2, 1) := by decide +kernel
theorem dJ0_indexOf_7cf53_13 : decode cJ0_indexOf_7cf53 13 = .ok (.aload_n 0, 1) := by decide +kernel
theorem dJ0_indexOf_7cf53_14 : decode cJ0_indexOf_7cf53 14 = .ok (.invokevirtual 505, 3) := by decide +kernel
theorem dJ0_indexOf_7cf53_17 : decode cJ0_indexOf_7cf53 17 = .ok (.invokestatic 637, 3) := by decide +kernel
theorem dJ0_indexOf_7cf53_20 : decode cJ0_indexOf_7cf53 20 = .ok (.goto 16, 3) := by decide +kernel
theorem dJ0_indexOf_7cf53_23 : decode cJ0_indexOf_7cf53 23 = .ok (.aload_n 0, 1) := by decide +kernel
theorem dJ0_indexOf_7cf53_24 : decode cJ0_indexOf_7cf53 24 = .ok (.getfield 9, 3) := by decide +kernel
theorem dJ0_indexOf_7cf53_27 : decode cJ0_indexOf_7cf53 27 = .ok (.iload_n 1, 1) := by decide +kernel
theorem dJ0_indexOf_7cf53_28 : decode cJ0_indexOf_7cf53 28 = .ok (.iload_n 2, 1) := by decide +kernel
theorem dJ0_indexOf_7cf53_29 : decode cJ0_indexOf_7cf53 29 = .ok (.aload_n 0, 1) := by decide +kernel
theorem dJ0_indexOf_7cf53_30 : decode cJ0_indexOf_7cf53 30 = .ok (.invokevirtual 505, 3) := by decide +kernel
theorem dJ0_indexOf_7cf53_33 : decode cJ0_indexOf_7cf53 33 = .ok (.invokestatic 640, 3) := by decide +kernel
theorem dJ0_indexOf_7cf53_36 : decode cJ0_indexOf_7cf53 36 = .ok (.ireturn, 1) := by decide +kernel
theorem dJ0_coder_7d493_0 : decode cJ0_coder_7d493 0 = .ok (.getstatic 38, 3) := by decide +kernel
theorem dJ0_coder_7d493_3 : decode cJ0_coder_7d493 3 = .ok (.ifCond .eq 10, 3) := by decide +kernel
theorem dJ0_coder_7d493_6 : decode cJ0_coder_7d493 6 = .ok (.aload_n 0, 1) := by decide +kernel
theorem dJ0_coder_7d493_7 : decode cJ0_coder_7d493 7 = .ok (.getfield 15, 3) := by decide +kernel
theorem dJ0_coder_7d493_10 : decode cJ0_coder_7d493 10 = .ok (.goto 4, 3) := by decide +kernel
theorem dJ0_coder_7d493_13 : decode cJ0_coder_7d493 13 = .ok (.iconst 1, 1) := by decide +kernel
theorem dJ0_coder_7d493_14 : decode cJ0_coder_7d493 14 = .ok (.ireturn, 1) := by decide +kernel
theorem dJ0_isLatin1_aae02_0 : decode cJ0_isLatin1_aae02 0 = .ok (.getstatic 38, 3) := by decide +kernel
theorem dJ0_isLatin1_aae02_3 : decode cJ0_isLatin1_aae02 3 = .ok (.ifCond .eq 14, 3) := by decide +kernel
theorem dJ0_isLatin1_aae02_6 : decode cJ0_isLatin1_aae02 6 = .ok (.aload_n 0, 1) := by decide +kernel
theorem dJ0_isLatin1_aae02_7 : decode cJ0_isLatin1_aae02 7 = .ok (.getfield 15, 3) := by decide +kernel
theorem dJ0_isLatin1_aae02_10 : decode cJ0_isLatin1_aae02 10 = .ok (.ifCond .ne 7, 3) := by decide +kernel
theorem dJ0_isLatin1_aae02_13 : decode cJ0_isLatin1_aae02 13 = .ok (.iconst 1, 1) := by decide +kernel
theorem dJ0_isLatin1_aae02_14 : decode cJ0_isLatin1_aae02 14 = .ok (.goto 4, 3) := by decide +kernel
theorem dJ0_isLatin1_aae02_17 : decode cJ0_isLatin1_aae02 17 = .ok (.iconst 0, 1) := by decide +kernel
theorem dJ0_isLatin1_aae02_18 : decode cJ0_isLatin1_aae02 18 = .ok (.ireturn, 1) := by decide +kernel
theorem dJ0_checkIndex_df160_0 : decode cJ0_checkIndex_df160 0 = .ok (.iload_n 0, 1) := by decide +kernel
theorem dJ0_checkIndex_df160_1 : decode cJ0_checkIndex_df160 1 = .ok (.iload_n 1, 1) := by decide +kernel
theorem dJ0_checkIndex_df160_2 : decode cJ0_checkIndex_df160 2 = .ok (.getstatic 1053, 3) := by decide +kernel
theorem dJ0_checkIndex_df160_5 : decode cJ0_checkIndex_df160 5 = .ok (.invokestatic 1059, 3) := by decide +kernel
theorem dJ0_checkIndex_df160_8 : decode cJ0_checkIndex_df160 8 = .ok (.pop, 1) := by decide +kernel
theorem dJ0_checkIndex_df160_9 : decode cJ0_checkIndex_df160 9 = .ok (.return_, 1) := by decide +kernel
theorem dJ0_checkBoundsBeginEnd_23922_0 : decode cJ0_checkBoundsBeginEnd_23922 0 = .ok (.iload_n 0, 1) := by decide +kernel
theorem dJ0_checkBoundsBeginEnd_23922_1 : decode cJ0_checkBoundsBeginEnd_23922 1 = .ok (.iload_n 1, 1) := by decide +kernel
theorem dJ0_checkBoundsBeginEnd_23922_2 : decode cJ0_checkBoundsBeginEnd_23922 2 = .ok (.iload_n 2, 1) := by decide +kernel
theorem dJ0_checkBoundsBeginEnd_23922_3 : decode cJ0_checkBoundsBeginEnd_23922 3 = .ok (.getstatic 1053, 3) := by decide +kernel
theorem dJ0_checkBoundsBeginEnd_23922_6 : decode cJ0_checkBoundsBeginEnd_23922 6 = .ok (.invokestatic 1062, 3) := by decide +kernel
theorem dJ0_checkBoundsBeginEnd_23922_9 : decode cJ0_checkBoundsBeginEnd_23922 9 = .ok (.pop, 1) := by decide +kernel
theorem dJ0_checkBoundsBeginEnd_23922_10 : decode cJ0_checkBoundsBeginEnd_23922 10 = .ok (.return_, 1) := by decide +kernel
theorem dJ1_charAt_3b067_0 : decode cJ1_charAt_3b067 0 = .ok (.iload_n 1, 1) := by decide +kernel
theorem dJ1_charAt_3b067_1 : decode cJ1_charAt_3b067 1 = .ok (.aload_n 0, 1) := by decide +kernel
theorem dJ1_charAt_3b067_2 : decode cJ1_charAt_3b067 2 = .ok (.arraylength, 1) := by decide +kernel
theorem dJ1_charAt_3b067_3 : decode cJ1_charAt_3b067 3 = .ok (.invokestatic 9, 3) := by decide +kernel
theorem dJ1_charAt_3b067_6 : decode cJ1_charAt_3b067 6 = .ok (.aload_n 0, 1) := by decide +kernel
theorem dJ1_charAt_3b067_7 : decode cJ1_charAt_3b067 7 = .ok (.iload_n 1, 1) := by decide +kernel
theorem dJ1_charAt_3b067_8 : decode cJ1_charAt_3b067 8 = .ok (.baload, 1) := by decide +kernel
theorem dJ1_charAt_3b067_9 : decode cJ1_charAt_3b067 9 = .ok (.sipush 255, 3) := by decide +kernel
theorem dJ1_charAt_3b067_12 : decode cJ1_charAt_3b067 12 = .ok (.iand, 1) := by decide +kernel
theorem dJ1_charAt_3b067_13 : decode cJ1_charAt_3b067 13 = .ok (.i2c, 1) := by decide +kernel
theorem dJ1_charAt_3b067_14 : decode cJ1_charAt_3b067 14 = .ok (.ireturn, 1) := by decide +kernel
theorem dJ1_canEncode_9a6ad_0 : decode cJ1_canEncode_9a6ad 0 = .ok (.iload_n 0, 1) := by decide +kernel
theorem dJ1_canEncode_9a6ad_1 : decode cJ1_canEncode_9a6ad 1 = .ok (.ifCond .lt 14, 3) := by decide +kernel
theorem dJ1_canEncode_9a6ad_4 : decode cJ1_canEncode_9a6ad 4 = .ok (.iload_n 0, 1) := by decide +kernel
theorem dJ1_canEncode_9a6ad_5 : decode cJ1_canEncode_9a6ad 5 = .ok (.sipush 255, 3) := by decide +kernel
theorem dJ1_canEncode_9a6ad_8 : decode cJ1_canEncode_9a6ad 8 = .ok (.if_icmp .gt 7, 3) := by decide +kernel
theorem dJ1_canEncode_9a6ad_11 : decode cJ1_canEncode_9a6ad 11 = .ok (.iconst 1, 1) := by decide +kernel
theorem dJ1_canEncode_9a6ad_12 : decode cJ1_canEncode_9a6ad 12 = .ok (.goto 4, 3) := by decide +kernel
theorem dJ1_canEncode_9a6ad_15 : decode cJ1_canEncode_9a6ad 15 = .ok (.iconst 0, 1) := by decide +kernel
theorem dJ1_canEncode_9a6ad_16 : decode cJ1_canEncode_9a6ad 16 = .ok (.ireturn, 1) := by decide +kernel
theorem dJ1_indexOf_4cfef_0 : decode cJ1_indexOf_4cfef 0 = .ok (.iload_n 1, 1) := by decide +kernel
theorem dJ1_indexOf_4cfef_1 : decode cJ1_indexOf_4cfef 1 = .ok (.invokestatic 88, 3) := by decide +kernel
theorem dJ1_indexOf_4cfef_4 : decode cJ1_indexOf_4cfef 4 = .ok (.ifCond .ne 5, 3) := by decide +kernel
theorem dJ1_indexOf_4cfef_7 : decode cJ1_indexOf_4cfef 7 = .ok (.iconst (-1), 1) := by decide +kernel
theorem dJ1_indexOf_4cfef_8 : decode cJ1_indexOf_4cfef 8 = .ok (.ireturn, 1) := by decide +kernel
theorem dJ1_indexOf_4cfef_9 : decode cJ1_indexOf_4cfef 9 = .ok (.iload_n 2, 1) := by decide +kernel
theorem dJ1_indexOf_4cfef_10 : decode cJ1_indexOf_4cfef 10 = .ok (.iconst 0, 1) := by decide +kernel
theorem dJ1_indexOf_4cfef_11 : decode cJ1_indexOf_4cfef 11 = .ok (.invokestatic 92, 3) := by decide +kernel
theorem dJ1_indexOf_4cfef_14 : decode cJ1_indexOf_4cfef 14 = .ok (.istore_n 2, 1) := by decide +kernel
theorem dJ1_indexOf_4cfef_15 : decode cJ1_indexOf_4cfef 15 = .ok (.iload_n 3, 1) := by decide +kernel
theorem dJ1_indexOf_4cfef_16 : decode cJ1_indexOf_4cfef 16 = .ok (.aload_n 0, 1) := by decide +kernel
theorem dJ1_indexOf_4cfef_17 : decode cJ1_indexOf_4cfef 17 = .ok (.arraylength, 1) := by decide +kernel
theorem dJ1_indexOf_4cfef_18 : decode cJ1_indexOf_4cfef 18 = .ok (.invokestatic 38, 3) := by decide +kernel
theorem dJ1_indexOf_4cfef_21 : decode cJ1_indexOf_4cfef 21 = .ok (.istore_n 3, 1) := by decide +kernel
theorem dJ1_indexOf_4cfef_22 : decode cJ1_indexOf_4cfef 22 = .ok (.iload_n 2, 1) := by decide +kernel
theorem dJ1_indexOf_4cfef_23 : decode cJ1_indexOf_4cfef 23 = .ok (.iload_n 3, 1) := by decide +kernel
theorem dJ1_indexOf_4cfef_24 : decode cJ1_indexOf_4cfef 24 = .ok (.if_icmp .lt 5, 3) := by decide +kernel
theorem dJ1_indexOf_4cfef_27 : decode cJ1_indexOf_4cfef 27 = .ok (.iconst (-1), 1) := by decide +kernel
theorem dJ1_indexOf_4cfef_28 : decode cJ1_indexOf_4cfef 28 = .ok (.ireturn, 1) := by decide +kernel
theorem dJ1_indexOf_4cfef_29 : decode cJ1_indexOf_4cfef 29 = .ok (.aload_n 0, 1) := by decide +kernel
theorem dJ1_indexOf_4cfef_30 : decode cJ1_indexOf_4cfef 30 = .ok (.iload_n 1, 1) := by decide +kernel
theorem dJ1_indexOf_4cfef_31 : decode cJ1_indexOf_4cfef 31 = .ok (.iload_n 2, 1) := by decide +kernel
theorem dJ1_indexOf_4cfef_32 : decode cJ1_indexOf_4cfef 32 = .ok (.iload_n 3, 1) := by decide +kernel
theorem dJ1_indexOf_4cfef_33 : decode cJ1_indexOf_4cfef 33 = .ok (.invokestatic 95, 3) := by decide +kernel
theorem dJ1_indexOf_4cfef_36 : decode cJ1_indexOf_4cfef 36 = .ok (.ireturn, 1) := by decide +kernel
theorem dJ1_indexOfChar_4cfef_0 : decode cJ1_indexOfChar_4cfef 0 = .ok (.iload_n 1, 1) := by decide +kernel
theorem dJ1_indexOfChar_4cfef_1 : decode cJ1_indexOfChar_4cfef 1 = .ok (.i2b, 1) := by decide +kernel
theorem dJ1_indexOfChar_4cfef_2 : decode cJ1_indexOfChar_4cfef 2 = .ok (.istore 4, 2) := by decide +kernel
theorem dJ1_indexOfChar_4cfef_4 : decode cJ1_indexOfChar_4cfef 4 = .ok (.iload_n 2, 1) := by decide +kernel
theorem dJ1_indexOfChar_4cfef_5 : decode cJ1_indexOfChar_4cfef 5 = .ok (.istore 5, 2) := by decide +kernel
theorem dJ1_indexOfChar_4cfef_7 : decode cJ1_indexOfChar_4cfef 7 = .ok (.iload 5, 2) := by decide +kernel
theorem dJ1_indexOfChar_4cfef_9 : decode cJ1_indexOfChar_4cfef 9 = .ok (.iload_n 3, 1) := by decide +kernel
theorem dJ1_indexOfChar_4cfef_10 : decode cJ1_indexOfChar_4cfef 10 = .ok (.if_icmp .ge 21, 3) := by decide +kernel
theorem dJ1_indexOfChar_4cfef_13 : decode cJ1_indexOfChar_4cfef 13 = .ok (.aload_n 0, 1) := by decide +kernel
theorem dJ1_indexOfChar_4cfef_14 : decode cJ1_indexOfChar_4cfef 14 = .ok (.iload 5, 2) := by decide +kernel
theorem dJ1_indexOfChar_4cfef_16 : decode cJ1_indexOfChar_4cfef 16 = .ok (.baload, 1) := by decide +kernel
theorem dJ1_indexOfChar_4cfef_17 : decode cJ1_indexOfChar_4cfef 17 = .ok (.iload 4, 2) := by decide +kernel
theorem dJ1_indexOfChar_4cfef_19 : decode cJ1_indexOfChar_4cfef 19 = .ok (.if_icmp .ne 6, 3) := by decide +kernel
theorem dJ1_indexOfChar_4cfef_22 : decode cJ1_indexOfChar_4cfef 22 = .ok (.iload 5, 2) := by decide +kernel
theorem dJ1_indexOfChar_4cfef_24 : decode cJ1_indexOfChar_4cfef 24 = .ok (.ireturn, 1) := by decide +kernel
theorem dJ1_indexOfChar_4cfef_25 : decode cJ1_indexOfChar_4cfef 25 = .ok (.iinc 5 1, 3) := by decide +kernel
theorem dJ1_indexOfChar_4cfef_28 : decode cJ1_indexOfChar_4cfef 28 = .ok (.goto (-21), 3) := by decide +kernel
theorem dJ1_indexOfChar_4cfef_31 : decode cJ1_indexOfChar_4cfef 31 = .ok (.iconst (-1), 1) := by decide +kernel
theorem dJ1_indexOfChar_4cfef_32 : decode cJ1_indexOfChar_4cfef 32 = .ok (.ireturn, 1) := by decide +kernel
theorem dJ2_getChar_3b067_0 : decode cJ2_getChar_3b067 0 = .ok (.getstatic 44, 3) := by decide +kernel
theorem dJ2_getChar_3b067_3 : decode cJ2_getChar_3b067 3 = .ok (.ifCond .ne 25, 3) := by decide +kernel
theorem dJ2_getChar_3b067_6 : decode cJ2_getChar_3b067 6 = .ok (.iload_n 1, 1) := by decide +kernel
theorem dJ2_getChar_3b067_7 : decode cJ2_getChar_3b067 7 = .ok (.ifCond .lt 11, 3) := by decide +kernel
theorem dJ2_getChar_3b067_10 : decode cJ2_getChar_3b067 10 = .ok (.iload_n 1, 1) := by decide +kernel
theorem dJ2_getChar_3b067_11 : decode cJ2_getChar_3b067 11 = .ok (.aload_n 0, 1) := by decide +kernel
theorem dJ2_getChar_3b067_12 : decode cJ2_getChar_3b067 12 = .ok (.invokestatic 48, 3) := by decide +kernel
theorem dJ2_getChar_3b067_15 : decode cJ2_getChar_3b067 15 = .ok (.if_icmp .lt 13, 3) := by decide +kernel
theorem dJ2_getChar_3b067_18 : decode cJ2_getChar_3b067 18 = .ok (.new 52, 3) := by decide +kernel
theorem dJ2_getChar_3b067_21 : decode cJ2_getChar_3b067 21 = .ok (.dup, 1) := by decide +kernel
theorem dJ2_getChar_3b067_22 : decode cJ2_getChar_3b067 22 = .ok (.ldc 54, 2) := by decide +kernel
theorem dJ2_getChar_3b067_24 : decode cJ2_getChar_3b067 24 = .ok (.invokespecial 56, 3) := by decide +kernel
theorem dJ2_getChar_3b067_27 : decode cJ2_getChar_3b067 27 = .ok (.athrow, 1) := by decide +kernel
theorem dJ2_getChar_3b067_28 : decode cJ2_getChar_3b067 28 = .ok (.iload_n 1, 1) := by decide +kernel
theorem dJ2_getChar_3b067_29 : decode cJ2_getChar_3b067 29 = .ok (.iconst 1, 1) := by decide +kernel
theorem dJ2_getChar_3b067_30 : decode cJ2_getChar_3b067 30 = .ok (.ishl, 1) := by decide +kernel
theorem dJ2_getChar_3b067_31 : decode cJ2_getChar_3b067 31 = .ok (.istore_n 1, 1) := by decide +kernel
theorem dJ2_getChar_3b067_32 : decode cJ2_getChar_3b067 32 = .ok (.aload_n 0, 1) := by decide +kernel
theorem dJ2_getChar_3b067_33 : decode cJ2_getChar_3b067 33 = .ok (.iload_n 1, 1) := by decide +kernel
theorem dJ2_getChar_3b067_34 : decode cJ2_getChar_3b067 34 = .ok (.iinc 1 1, 3) := by decide +kernel
theorem dJ2_getChar_3b067_37 : decode cJ2_getChar_3b067 37 = .ok (.baload, 1) := by decide +kernel
theorem dJ2_getChar_3b067_38 : decode cJ2_getChar_3b067 38 = .ok (.sipush 255, 3) := by decide +kernel
theorem dJ2_getChar_3b067_41 : decode cJ2_getChar_3b067 41 = .ok (.iand, 1) := by decide +kernel
theorem dJ2_getChar_3b067_42 : decode cJ2_getChar_3b067 42 = .ok (.getstatic 59, 3) := by decide +kernel
theorem dJ2_getChar_3b067_45 : decode cJ2_getChar_3b067 45 = .ok (.ishl, 1) := by decide +kernel
theorem dJ2_getChar_3b067_46 : decode cJ2_getChar_3b067 46 = .ok (.aload_n 0, 1) := by decide +kernel
theorem dJ2_getChar_3b067_47 : decode cJ2_getChar_3b067 47 = .ok (.iload_n 1, 1) := by decide +kernel
theorem dJ2_getChar_3b067_48 : decode cJ2_getChar_3b067 48 = .ok (.baload, 1) := by decide +kernel
theorem dJ2_getChar_3b067_49 : decode cJ2_getChar_3b067 49 = .ok (.sipush 255, 3) := by decide +kernel
theorem dJ2_getChar_3b067_52 : decode cJ2_getChar_3b067 52 = .ok (.iand, 1) := by decide +kernel
theorem dJ2_getChar_3b067_53 : decode cJ2_getChar_3b067 53 = .ok (.getstatic 63, 3) := by decide +kernel
theorem dJ2_getChar_3b067_56 : decode cJ2_getChar_3b067 56 = .ok (.ishl, 1) := by decide +kernel
theorem dJ2_getChar_3b067_57 : decode cJ2_getChar_3b067 57 = .ok (.ior, 1) := by decide +kernel
theorem dJ2_getChar_3b067_58 : decode cJ2_getChar_3b067 58 = .ok (.i2c, 1) := by decide +kernel
theorem dJ2_getChar_3b067_59 : decode cJ2_getChar_3b067 59 = .ok (.ireturn, 1) := by decide +kernel
theorem dJ2_length_9d52b_0 : decode cJ2_length_9d52b 0 = .ok (.aload_n 0, 1) := by decide +kernel
theorem dJ2_length_9d52b_1 : decode cJ2_length_9d52b 1 = .ok (.arraylength, 1) := by decide +kernel
theorem dJ2_length_9d52b_2 : decode cJ2_length_9d52b 2 = .ok (.iconst 1, 1) := by decide +kernel
theorem dJ2_length_9d52b_3 : decode cJ2_length_9d52b 3 = .ok (.ishr, 1) := by decide +kernel
theorem dJ2_length_9d52b_4 : decode cJ2_length_9d52b 4 = .ok (.ireturn, 1) := by decide +kernel
theorem dJ2_indexOf_4cfef_0 : decode cJ2_indexOf_4cfef 0 = .ok (.iload_n 2, 1) := by decide +kernel
theorem dJ2_indexOf_4cfef_1 : decode cJ2_indexOf_4cfef 1 = .ok (.iconst 0, 1) := by decide +kernel
theorem dJ2_indexOf_4cfef_2 : decode cJ2_indexOf_4cfef 2 = .ok (.invokestatic 224, 3) := by decide +kernel
theorem dJ2_indexOf_4cfef_5 : decode cJ2_indexOf_4cfef 5 = .ok (.istore_n 2, 1) := by decide +kernel
theorem dJ2_indexOf_4cfef_6 : decode cJ2_indexOf_4cfef 6 = .ok (.iload_n 3, 1) := by decide +kernel
theorem dJ2_indexOf_4cfef_7 : decode cJ2_indexOf_4cfef 7 = .ok (.aload_n 0, 1) := by decide +kernel
theorem dJ2_indexOf_4cfef_8 : decode cJ2_indexOf_4cfef 8 = .ok (.arraylength, 1) := by decide +kernel
theorem dJ2_indexOf_4cfef_9 : decode cJ2_indexOf_4cfef 9 = .ok (.iconst 1, 1) := by decide +kernel
theorem dJ2_indexOf_4cfef_10 : decode cJ2_indexOf_4cfef 10 = .ok (.ishr, 1) := by decide +kernel
theorem dJ2_indexOf_4cfef_11 : decode cJ2_indexOf_4cfef 11 = .ok (.invokestatic 183, 3) := by decide +kernel
theorem dJ2_indexOf_4cfef_14 : decode cJ2_indexOf_4cfef 14 = .ok (.istore_n 3, 1) := by decide +kernel
theorem dJ2_indexOf_4cfef_15 : decode cJ2_indexOf_4cfef 15 = .ok (.iload_n 2, 1) := by decide +kernel
theorem dJ2_indexOf_4cfef_16 : decode cJ2_indexOf_4cfef 16 = .ok (.iload_n 3, 1) := by decide +kernel
theorem dJ2_indexOf_4cfef_17 : decode cJ2_indexOf_4cfef 17 = .ok (.if_icmp .lt 5, 3) := by decide +kernel
theorem dJ2_indexOf_4cfef_20 : decode cJ2_indexOf_4cfef 20 = .ok (.iconst (-1), 1) := by decide +kernel
theorem dJ2_indexOf_4cfef_21 : decode cJ2_indexOf_4cfef 21 = .ok (.ireturn, 1) := by decide +kernel
theorem dJ2_indexOf_4cfef_22 : decode cJ2_indexOf_4cfef 22 = .ok (.iload_n 1, 1) := by decide +kernel
theorem dJ2_indexOf_4cfef_23 : decode cJ2_indexOf_4cfef 23 = .ok (.ldc 227, 2) := by decide +kernel
theorem dJ2_indexOf_4cfef_25 : decode cJ2_indexOf_4cfef 25 = .ok (.if_icmp .ge 11, 3) := by decide +kernel
theorem dJ2_indexOf_4cfef_28 : decode cJ2_indexOf_4cfef 28 = .ok (.aload_n 0, 1) := by decide +kernel
theorem dJ2_indexOf_4cfef_29 : decode cJ2_indexOf_4cfef 29 = .ok (.iload_n 1, 1) := by decide +kernel
theorem dJ2_indexOf_4cfef_30 : decode cJ2_indexOf_4cfef 30 = .ok (.iload_n 2, 1) := by decide +kernel
theorem dJ2_indexOf_4cfef_31 : decode cJ2_indexOf_4cfef 31 = .ok (.iload_n 3, 1) := by decide +kernel
theorem dJ2_indexOf_4cfef_32 : decode cJ2_indexOf_4cfef 32 = .ok (.invokestatic 228, 3) := by decide +kernel
theorem dJ2_indexOf_4cfef_35 : decode cJ2_indexOf_4cfef 35 = .ok (.ireturn, 1) := by decide +kernel
theorem dJ2_indexOf_4cfef_36 : decode cJ2_indexOf_4cfef 36 = .ok (.aload_n 0, 1) := by decide +kernel
theorem dJ2_indexOf_4cfef_37 : decode cJ2_indexOf_4cfef 37 = .ok (.iload_n 1, 1) := by decide +kernel
theorem dJ2_indexOf_4cfef_38 : decode cJ2_indexOf_4cfef 38 = .ok (.iload_n 2, 1) := by decide +kernel
theorem dJ2_indexOf_4cfef_39 : decode cJ2_indexOf_4cfef 39 = .ok (.iload_n 3, 1) := by decide +kernel
theorem dJ2_indexOf_4cfef_40 : decode cJ2_indexOf_4cfef 40 = .ok (.invokestatic 232, 3) := by decide +kernel
theorem dJ2_indexOf_4cfef_43 : decode cJ2_indexOf_4cfef 43 = .ok (.ireturn, 1) := by decide +kernel
theorem dJ2_indexOfChar_4cfef_0 : decode cJ2_indexOfChar_4cfef 0 = .ok (.iload_n 2, 1) := by decide +kernel
theorem dJ2_indexOfChar_4cfef_1 : decode cJ2_indexOfChar_4cfef 1 = .ok (.iload_n 3, 1) := by decide +kernel
theorem dJ2_indexOfChar_4cfef_2 : decode cJ2_indexOfChar_4cfef 2 = .ok (.aload_n 0, 1) := by decide +kernel
theorem dJ2_indexOfChar_4cfef_3 : decode cJ2_indexOfChar_4cfef 3 = .ok (.invokestatic 96, 3) := by decide +kernel
theorem dJ2_indexOfChar_4cfef_6 : decode cJ2_indexOfChar_4cfef 6 = .ok (.aload_n 0, 1) := by decide +kernel
theorem dJ2_indexOfChar_4cfef_7 : decode cJ2_indexOfChar_4cfef 7 = .ok (.iload_n 1, 1) := by decide +kernel
theorem dJ2_indexOfChar_4cfef_8 : decode cJ2_indexOfChar_4cfef 8 = .ok (.iload_n 2, 1) := by decide +kernel
theorem dJ2_indexOfChar_4cfef_9 : decode cJ2_indexOfChar_4cfef 9 = .ok (.iload_n 3, 1) := by decide +kernel
theorem dJ2_indexOfChar_4cfef_10 : decode cJ2_indexOfChar_4cfef 10 = .ok (.invokestatic 244, 3) := by decide +kernel
theorem dJ2_indexOfChar_4cfef_13 : decode cJ2_indexOfChar_4cfef 13 = .ok (.ireturn, 1) := by decide +kernel
theorem dJ2_indexOfCharUnsafe_4cfef_0 : decode cJ2_indexOfCharUnsafe_4cfef 0 = .ok (.iload_n 2, 1) := by decide +kernel
theorem dJ2_indexOfCharUnsafe_4cfef_1 : decode cJ2_indexOfCharUnsafe_4cfef 1 = .ok (.istore 4, 2) := by decide +kernel
theorem dJ2_indexOfCharUnsafe_4cfef_3 : decode cJ2_indexOfCharUnsafe_4cfef 3 = .ok (.iload 4, 2) := by decide +kernel
theorem dJ2_indexOfCharUnsafe_4cfef_5 : decode cJ2_indexOfCharUnsafe_4cfef 5 = .ok (.iload_n 3, 1) := by decide +kernel
theorem dJ2_indexOfCharUnsafe_4cfef_6 : decode cJ2_indexOfCharUnsafe_4cfef 6 = .ok (.if_icmp .ge 22, 3) := by decide +kernel
theorem dJ2_indexOfCharUnsafe_4cfef_9 : decode cJ2_indexOfCharUnsafe_4cfef 9 = .ok (.aload_n 0, 1) := by decide +kernel
theorem dJ2_indexOfCharUnsafe_4cfef_10 : decode cJ2_indexOfCharUnsafe_4cfef 10 = .ok (.iload 4, 2) := by decide +kernel
theorem dJ2_indexOfCharUnsafe_4cfef_12 : decode cJ2_indexOfCharUnsafe_4cfef 12 = .ok (.invokestatic 71, 3) := by decide +kernel
theorem dJ2_indexOfCharUnsafe_4cfef_15 : decode cJ2_indexOfCharUnsafe_4cfef 15 = .ok (.iload_n 1, 1) := by decide +kernel
theorem dJ2_indexOfCharUnsafe_4cfef_16 : decode cJ2_indexOfCharUnsafe_4cfef 16 = .ok (.if_icmp .ne 6, 3) := by decide +kernel
theorem dJ2_indexOfCharUnsafe_4cfef_19 : decode cJ2_indexOfCharUnsafe_4cfef 19 = .ok (.iload 4, 2) := by decide +kernel
theorem dJ2_indexOfCharUnsafe_4cfef_21 : decode cJ2_indexOfCharUnsafe_4cfef 21 = .ok (.ireturn, 1) := by decide +kernel
theorem dJ2_indexOfCharUnsafe_4cfef_22 : decode cJ2_indexOfCharUnsafe_4cfef 22 = .ok (.iinc 4 1, 3) := by decide +kernel
theorem dJ2_indexOfCharUnsafe_4cfef_25 : decode cJ2_indexOfCharUnsafe_4cfef 25 = .ok (.goto (-22), 3) := by decide +kernel
theorem dJ2_indexOfCharUnsafe_4cfef_28 : decode cJ2_indexOfCharUnsafe_4cfef 28 = .ok (.iconst (-1), 1) := by decide +kernel
theorem dJ2_indexOfCharUnsafe_4cfef_29 : decode cJ2_indexOfCharUnsafe_4cfef 29 = .ok (.ireturn, 1) := by decide +kernel
theorem dJ2_indexOfSupplementary_4cfef_0 : decode cJ2_indexOfSupplementary_4cfef 0 = .ok (.iload_n 1, 1) := by decide +kernel
theorem dJ2_indexOfSupplementary_4cfef_1 : decode cJ2_indexOfSupplementary_4cfef 1 = .ok (.invokestatic 164, 3) := by decide +kernel
theorem dJ2_indexOfSupplementary_4cfef_4 : decode cJ2_indexOfSupplementary_4cfef 4 = .ok (.ifCond .eq 65, 3) := by decide +kernel
theorem dJ2_indexOfSupplementary_4cfef_7 : decode cJ2_indexOfSupplementary_4cfef 7 = .ok (.iload_n 1, 1) := by decide +kernel
theorem dJ2_indexOfSupplementary_4cfef_8 : decode cJ2_indexOfSupplementary_4cfef 8 = .ok (.invokestatic 157, 3) := by decide +kernel
theorem dJ2_indexOfSupplementary_4cfef_11 : decode cJ2_indexOfSupplementary_4cfef 11 = .ok (.istore 4, 2) := by decide +kernel
theorem dJ2_indexOfSupplementary_4cfef_13 : decode cJ2_indexOfSupplementary_4cfef 13 = .ok (.iload_n 1, 1) := by decide +kernel
theorem dJ2_indexOfSupplementary_4cfef_14 : decode cJ2_indexOfSupplementary_4cfef 14 = .ok (.invokestatic 161, 3) := by decide +kernel
theorem dJ2_indexOfSupplementary_4cfef_17 : decode cJ2_indexOfSupplementary_4cfef 17 = .ok (.istore 5, 2) := by decide +kernel
theorem dJ2_indexOfSupplementary_4cfef_19 : decode cJ2_indexOfSupplementary_4cfef 19 = .ok (.iload_n 2, 1) := by decide +kernel
theorem dJ2_indexOfSupplementary_4cfef_20 : decode cJ2_indexOfSupplementary_4cfef 20 = .ok (.iload_n 3, 1) := by decide +kernel
theorem dJ2_indexOfSupplementary_4cfef_21 : decode cJ2_indexOfSupplementary_4cfef 21 = .ok (.aload_n 0, 1) := by decide +kernel
theorem dJ2_indexOfSupplementary_4cfef_22 : decode cJ2_indexOfSupplementary_4cfef 22 = .ok (.invokestatic 96, 3) := by decide +kernel
theorem dJ2_indexOfSupplementary_4cfef_25 : decode cJ2_indexOfSupplementary_4cfef 25 = .ok (.iload_n 2, 1) := by decide +kernel
theorem dJ2_indexOfSupplementary_4cfef_26 : decode cJ2_indexOfSupplementary_4cfef 26 = .ok (.istore 6, 2) := by decide +kernel
theorem dJ2_indexOfSupplementary_4cfef_28 : decode cJ2_indexOfSupplementary_4cfef 28 = .ok (.iload 6, 2) := by decide +kernel
theorem dJ2_indexOfSupplementary_4cfef_30 : decode cJ2_indexOfSupplementary_4cfef 30 = .ok (.iload_n 3, 1) := by decide +kernel
theorem dJ2_indexOfSupplementary_4cfef_31 : decode cJ2_indexOfSupplementary_4cfef 31 = .ok (.iconst 1, 1) := by decide +kernel
theorem dJ2_indexOfSupplementary_4cfef_32 : decode cJ2_indexOfSupplementary_4cfef 32 = .ok (.isub, 1) := by decide +kernel
theorem dJ2_indexOfSupplementary_4cfef_33 : decode cJ2_indexOfSupplementary_4cfef 33 = .ok (.if_icmp .ge 36, 3) := by decide +kernel
theorem dJ2_indexOfSupplementary_4cfef_36 : decode cJ2_indexOfSupplementary_4cfef 36 = .ok (.aload_n 0, 1) := by decide +kernel
theorem dJ2_indexOfSupplementary_4cfef_37 : decode cJ2_indexOfSupplementary_4cfef 37 = .ok (.iload 6, 2) := by decide +kernel
theorem dJ2_indexOfSupplementary_4cfef_39 : decode cJ2_indexOfSupplementary_4cfef 39 = .ok (.invokestatic 71, 3) := by decide +kernel
theorem dJ2_indexOfSupplementary_4cfef_42 : decode cJ2_indexOfSupplementary_4cfef 42 = .ok (.iload 4, 2) := by decide +kernel
theorem dJ2_indexOfSupplementary_4cfef_44 : decode cJ2_indexOfSupplementary_4cfef 44 = .ok (.if_icmp .ne 19, 3) := by decide +kernel
theorem dJ2_indexOfSupplementary_4cfef_47 : decode cJ2_indexOfSupplementary_4cfef 47 = .ok (.aload_n 0, 1) := by decide +kernel
theorem dJ2_indexOfSupplementary_4cfef_48 : decode cJ2_indexOfSupplementary_4cfef 48 = .ok (.iload 6, 2) := by decide +kernel
theorem dJ2_indexOfSupplementary_4cfef_50 : decode cJ2_indexOfSupplementary_4cfef 50 = .ok (.iconst 1, 1) := by decide +kernel
theorem dJ2_indexOfSupplementary_4cfef_51 : decode cJ2_indexOfSupplementary_4cfef 51 = .ok (.iadd, 1) := by decide +kernel
theorem dJ2_indexOfSupplementary_4cfef_52 : decode cJ2_indexOfSupplementary_4cfef 52 = .ok (.invokestatic 71, 3) := by decide +kernel
theorem dJ2_indexOfSupplementary_4cfef_55 : decode cJ2_indexOfSupplementary_4cfef 55 = .ok (.iload 5, 2) := by decide +kernel
theorem dJ2_indexOfSupplementary_4cfef_57 : decode cJ2_indexOfSupplementary_4cfef 57 = .ok (.if_icmp .ne 6, 3) := by decide +kernel
theorem dJ2_indexOfSupplementary_4cfef_60 : decode cJ2_indexOfSupplementary_4cfef 60 = .ok (.iload 6, 2) := by decide +kernel
theorem dJ2_indexOfSupplementary_4cfef_62 : decode cJ2_indexOfSupplementary_4cfef 62 = .ok (.ireturn, 1) := by decide +kernel
theorem dJ2_indexOfSupplementary_4cfef_63 : decode cJ2_indexOfSupplementary_4cfef 63 = .ok (.iinc 6 1, 3) := by decide +kernel
theorem dJ2_indexOfSupplementary_4cfef_66 : decode cJ2_indexOfSupplementary_4cfef 66 = .ok (.goto (-38), 3) := by decide +kernel
theorem dJ2_indexOfSupplementary_4cfef_69 : decode cJ2_indexOfSupplementary_4cfef 69 = .ok (.iconst (-1), 1) := by decide +kernel
theorem dJ2_indexOfSupplementary_4cfef_70 : decode cJ2_indexOfSupplementary_4cfef 70 = .ok (.ireturn, 1) := by decide +kernel
theorem dJ2_charAt_3b067_0 : decode cJ2_charAt_3b067 0 = .ok (.iload_n 1, 1) := by decide +kernel
theorem dJ2_charAt_3b067_1 : decode cJ2_charAt_3b067 1 = .ok (.aload_n 0, 1) := by decide +kernel
theorem dJ2_charAt_3b067_2 : decode cJ2_charAt_3b067 2 = .ok (.invokestatic 67, 3) := by decide +kernel
theorem dJ2_charAt_3b067_5 : decode cJ2_charAt_3b067 5 = .ok (.aload_n 0, 1) := by decide +kernel
theorem dJ2_charAt_3b067_6 : decode cJ2_charAt_3b067 6 = .ok (.iload_n 1, 1) := by decide +kernel
theorem dJ2_charAt_3b067_7 : decode cJ2_charAt_3b067 7 = .ok (.invokestatic 71, 3) := by decide +kernel
theorem dJ2_charAt_3b067_10 : decode cJ2_charAt_3b067 10 = .ok (.ireturn, 1) := by decide +kernel
theorem dJ2_checkIndex_2214a_0 : decode cJ2_checkIndex_2214a 0 = .ok (.iload_n 0, 1) := by decide +kernel
theorem dJ2_checkIndex_2214a_1 : decode cJ2_checkIndex_2214a 1 = .ok (.aload_n 1, 1) := by decide +kernel
theorem dJ2_checkIndex_2214a_2 : decode cJ2_checkIndex_2214a 2 = .ok (.invokestatic 48, 3) := by decide +kernel
theorem dJ2_checkIndex_2214a_5 : decode cJ2_checkIndex_2214a 5 = .ok (.invokestatic 414, 3) := by decide +kernel
theorem dJ2_checkIndex_2214a_8 : decode cJ2_checkIndex_2214a 8 = .ok (.return_, 1) := by decide +kernel
theorem dJ2_checkBoundsBeginEnd_d044e_0 : decode cJ2_checkBoundsBeginEnd_d044e 0 = .ok (.iload_n 0, 1) := by decide +kernel
theorem dJ2_checkBoundsBeginEnd_d044e_1 : decode cJ2_checkBoundsBeginEnd_d044e 1 = .ok (.iload_n 1, 1) := by decide +kernel
theorem dJ2_checkBoundsBeginEnd_d044e_2 : decode cJ2_checkBoundsBeginEnd_d044e 2 = .ok (.aload_n 2, 1) := by decide +kernel
theorem dJ2_checkBoundsBeginEnd_d044e_3 : decode cJ2_checkBoundsBeginEnd_d044e 3 = .ok (.invokestatic 48, 3) := by decide +kernel
theorem dJ2_checkBoundsBeginEnd_d044e_6 : decode cJ2_checkBoundsBeginEnd_d044e 6 = .ok (.invokestatic 241, 3) := by decide +kernel
theorem dJ2_checkBoundsBeginEnd_d044e_9 : decode cJ2_checkBoundsBeginEnd_d044e 9 = .ok (.return_, 1) := by decide +kernel
theorem dJ7_fill_53178_0 : decode cJ7_fill_53178 0 = .ok (.iconst 0, 1) := by decide +kernel
theorem dJ7_fill_53178_1 : decode cJ7_fill_53178 1 = .ok (.istore_n 2, 1) := by decide +kernel
theorem dJ7_fill_53178_2 : decode cJ7_fill_53178 2 = .ok (.aload_n 0, 1) := by decide +kernel
theorem dJ7_fill_53178_3 : decode cJ7_fill_53178 3 = .ok (.arraylength, 1) := by decide +kernel
theorem dJ7_fill_53178_4 : decode cJ7_fill_53178 4 = .ok (.istore_n 3, 1) := by decide +kernel
theorem dJ7_fill_53178_5 : decode cJ7_fill_53178 5 = .ok (.iload_n 2, 1) := by decide +kernel
theorem dJ7_fill_53178_6 : decode cJ7_fill_53178 6 = .ok (.iload_n 3, 1) := by decide +kernel
theorem dJ7_fill_53178_7 : decode cJ7_fill_53178 7 = .ok (.if_icmp .ge 13, 3) := by decide +kernel
theorem dJ7_fill_53178_10 : decode cJ7_fill_53178 10 = .ok (.aload_n 0, 1) := by decide +kernel
theorem dJ7_fill_53178_11 : decode cJ7_fill_53178 11 = .ok (.iload_n 2, 1) := by decide +kernel
theorem dJ7_fill_53178_12 : decode cJ7_fill_53178 12 = .ok (.iload_n 1, 1) := by decide +kernel
theorem dJ7_fill_53178_13 : decode cJ7_fill_53178 13 = .ok (.iastore, 1) := by decide +kernel
theorem dJ7_fill_53178_14 : decode cJ7_fill_53178 14 = .ok (.iinc 2 1, 3) := by decide +kernel
theorem dJ7_fill_53178_17 : decode cJ7_fill_53178 17 = .ok (.goto (-12), 3) := by decide +kernel
theorem dJ7_fill_53178_20 : decode cJ7_fill_53178 20 = .ok (.return_, 1) := by decide +kernel
theorem dJ3_checkIndex_8e157_0 : decode cJ3_checkIndex_8e157 0 = .ok (.iload_n 0, 1) := by decide +kernel
theorem dJ3_checkIndex_8e157_1 : decode cJ3_checkIndex_8e157 1 = .ok (.ifCond .lt 8, 3) := by decide +kernel
theorem dJ3_checkIndex_8e157_4 : decode cJ3_checkIndex_8e157 4 = .ok (.iload_n 0, 1) := by decide +kernel
theorem dJ3_checkIndex_8e157_5 : decode cJ3_checkIndex_8e157 5 = .ok (.iload_n 1, 1) := by decide +kernel
theorem dJ3_checkIndex_8e157_6 : decode cJ3_checkIndex_8e157 6 = .ok (.if_icmp .lt 10, 3) := by decide +kernel
theorem dJ3_checkIndex_8e157_9 : decode cJ3_checkIndex_8e157 9 = .ok (.aload_n 2, 1) := by decide +kernel
theorem dJ3_checkIndex_8e157_10 : decode cJ3_checkIndex_8e157 10 = .ok (.iload_n 0, 1) := by decide +kernel
theorem dJ3_checkIndex_8e157_11 : decode cJ3_checkIndex_8e157 11 = .ok (.iload_n 1, 1) := by decide +kernel
theorem dJ3_checkIndex_8e157_12 : decode cJ3_checkIndex_8e157 12 = .ok (.invokestatic 95, 3) := by decide +kernel
theorem dJ3_checkIndex_8e157_15 : decode cJ3_checkIndex_8e157 15 = .ok (.athrow, 1) := by decide +kernel
theorem dJ3_checkIndex_8e157_16 : decode cJ3_checkIndex_8e157 16 = .ok (.iload_n 0, 1) := by decide +kernel
theorem dJ3_checkIndex_8e157_17 : decode cJ3_checkIndex_8e157 17 = .ok (.ireturn, 1) := by decide +kernel
theorem dJ3_checkFromToIndex_8c36e_0 : decode cJ3_checkFromToIndex_8c36e 0 = .ok (.iload_n 0, 1) := by decide +kernel
theorem dJ3_checkFromToIndex_8c36e_1 : decode cJ3_checkFromToIndex_8c36e 1 = .ok (.ifCond .lt 13, 3) := by decide +kernel
theorem dJ3_checkFromToIndex_8c36e_4 : decode cJ3_checkFromToIndex_8c36e 4 = .ok (.iload_n 0, 1) := by decide +kernel
theorem dJ3_checkFromToIndex_8c36e_5 : decode cJ3_checkFromToIndex_8c36e 5 = .ok (.iload_n 1, 1) := by decide +kernel
theorem dJ3_checkFromToIndex_8c36e_6 : decode cJ3_checkFromToIndex_8c36e 6 = .ok (.if_icmp .gt 8, 3) := by decide +kernel
theorem dJ3_checkFromToIndex_8c36e_9 : decode cJ3_checkFromToIndex_8c36e 9 = .ok (.iload_n 1, 1) := by decide +kernel
theorem dJ3_checkFromToIndex_8c36e_10 : decode cJ3_checkFromToIndex_8c36e 10 = .ok (.iload_n 2, 1) := by decide +kernel
theorem dJ3_checkFromToIndex_8c36e_11 : decode cJ3_checkFromToIndex_8c36e 11 = .ok (.if_icmp .le 11, 3) := by decide +kernel
theorem dJ3_checkFromToIndex_8c36e_14 : decode cJ3_checkFromToIndex_8c36e 14 = .ok (.aload_n 3, 1) := by decide +kernel
theorem dJ3_checkFromToIndex_8c36e_15 : decode cJ3_checkFromToIndex_8c36e 15 = .ok (.iload_n 0, 1) := by decide +kernel
theorem dJ3_checkFromToIndex_8c36e_16 : decode cJ3_checkFromToIndex_8c36e 16 = .ok (.iload_n 1, 1) := by decide +kernel
theorem dJ3_checkFromToIndex_8c36e_17 : decode cJ3_checkFromToIndex_8c36e 17 = .ok (.iload_n 2, 1) := by decide +kernel
theorem dJ3_checkFromToIndex_8c36e_18 : decode cJ3_checkFromToIndex_8c36e 18 = .ok (.invokestatic 99, 3) := by decide +kernel
theorem dJ3_checkFromToIndex_8c36e_21 : decode cJ3_checkFromToIndex_8c36e 21 = .ok (.athrow, 1) := by decide +kernel
theorem dJ3_checkFromToIndex_8c36e_22 : decode cJ3_checkFromToIndex_8c36e 22 = .ok (.iload_n 0, 1) := by decide +kernel
theorem dJ3_checkFromToIndex_8c36e_23 : decode cJ3_checkFromToIndex_8c36e 23 = .ok (.ireturn, 1) := by decide +kernel
