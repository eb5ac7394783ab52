/-! the constructors at their places -/
def SH0 : List ax_Cell := SH.map fun c => (c.1, c.2.1, [])
def SN (n : Nat) : List ax_Cell := SH0.take n
theorem SH0_len : SH0.length = 351 := by decide +kernel
theorem SN_len (n : Nat) (h : n ≤ 351) : ((SN n).length : Int) = (n : Int) := by
  unfold SN
  rw [List.length_take, SH0_len]
  omega
theorem SN_push {n : Nat} {c : ax_Cell} (h : SH0[n]? = some c) : SN n ++ [c] = SN (n + 1) := by
  unfold SN
  rw [List.take_succ, h]
  rfl
theorem SN_sh (a n : Nat) (h : a < n) {c : ax_Cell} (hc : SH0[a]? = some c) : ax_sh (SN n) (a : Int) = some c := by
  unfold ax_sh SN
  rw [if_pos (by omega), Int.toNat_natCast, List.getElem?_take, if_pos h]
  exact hc
theorem h0_0 : SH0[0]? = some (11, 17, []) := by decide +kernel
theorem h0_1 : SH0[1]? = some (9, 7, []) := by decide +kernel
theorem h0_2 : SH0[2]? = some (13, 6, []) := by decide +kernel
theorem h0_3 : SH0[3]? = some (13, 6, []) := by decide +kernel
theorem h0_4 : SH0[4]? = some (14, 8, []) := by decide +kernel
theorem h0_5 : SH0[5]? = some (7, 8, []) := by decide +kernel
theorem h0_6 : SH0[6]? = some (13, 24, []) := by decide +kernel
theorem h0_7 : SH0[7]? = some (13, 144, []) := by decide +kernel
theorem h0_8 : SH0[8]? = some (13, 144, []) := by decide +kernel
theorem h0_9 : SH0[9]? = some (7, 8, []) := by decide +kernel
theorem h0_10 : SH0[10]? = some (13, 24, []) := by decide +kernel
theorem h0_11 : SH0[11]? = some (13, 144, []) := by decide +kernel
theorem h0_12 : SH0[12]? = some (13, 144, []) := by decide +kernel
theorem h0_13 : SH0[13]? = some (7, 8, []) := by decide +kernel
theorem h0_14 : SH0[14]? = some (13, 24, []) := by decide +kernel
theorem h0_15 : SH0[15]? = some (13, 144, []) := by decide +kernel
theorem h0_16 : SH0[16]? = some (13, 144, []) := by decide +kernel
theorem h0_17 : SH0[17]? = some (7, 8, []) := by decide +kernel
theorem h0_18 : SH0[18]? = some (13, 24, []) := by decide +kernel
theorem h0_19 : SH0[19]? = some (13, 144, []) := by decide +kernel
theorem h0_20 : SH0[20]? = some (13, 144, []) := by decide +kernel
theorem h0_21 : SH0[21]? = some (7, 8, []) := by decide +kernel
theorem h0_22 : SH0[22]? = some (13, 24, []) := by decide +kernel
theorem h0_23 : SH0[23]? = some (13, 144, []) := by decide +kernel
theorem h0_24 : SH0[24]? = some (13, 144, []) := by decide +kernel
theorem h0_25 : SH0[25]? = some (7, 8, []) := by decide +kernel
theorem h0_26 : SH0[26]? = some (13, 24, []) := by decide +kernel
theorem h0_27 : SH0[27]? = some (13, 144, []) := by decide +kernel
theorem h0_28 : SH0[28]? = some (13, 144, []) := by decide +kernel
theorem h0_29 : SH0[29]? = some (7, 8, []) := by decide +kernel
theorem h0_30 : SH0[30]? = some (13, 24, []) := by decide +kernel
theorem h0_31 : SH0[31]? = some (13, 144, []) := by decide +kernel
theorem h0_32 : SH0[32]? = some (13, 144, []) := by decide +kernel
theorem h0_33 : SH0[33]? = some (7, 8, []) := by decide +kernel
theorem h0_34 : SH0[34]? = some (13, 24, []) := by decide +kernel
theorem h0_35 : SH0[35]? = some (13, 144, []) := by decide +kernel
theorem h0_36 : SH0[36]? = some (13, 144, []) := by decide +kernel
theorem h0_37 : SH0[37]? = some (0, 1, []) := by decide +kernel
theorem h0_38 : SH0[38]? = some (13, 1200, []) := by decide +kernel
theorem h0_39 : SH0[39]? = some (4, 9, []) := by decide +kernel
theorem h0_40 : SH0[40]? = some (16, 3, []) := by decide +kernel
theorem h0_41 : SH0[41]? = some (1, 7, []) := by decide +kernel
theorem h0_42 : SH0[42]? = some (13, 150, []) := by decide +kernel
theorem h0_43 : SH0[43]? = some (13, 150, []) := by decide +kernel
theorem h0_44 : SH0[44]? = some (13, 150, []) := by decide +kernel
theorem h0_45 : SH0[45]? = some (13, 4, []) := by decide +kernel
theorem h0_46 : SH0[46]? = some (13, 4, []) := by decide +kernel
theorem h0_47 : SH0[47]? = some (13, 28, []) := by decide +kernel
theorem h0_48 : SH0[48]? = some (13, 4, []) := by decide +kernel
theorem h0_49 : SH0[49]? = some (13, 6, []) := by decide +kernel
theorem h0_50 : SH0[50]? = some (13, 6, []) := by decide +kernel
theorem h0_51 : SH0[51]? = some (13, 7, []) := by decide +kernel
theorem h0_52 : SH0[52]? = some (3, 3, []) := by decide +kernel
theorem h0_53 : SH0[53]? = some (13, 400, []) := by decide +kernel
theorem h0_54 : SH0[54]? = some (3, 3, []) := by decide +kernel
theorem h0_55 : SH0[55]? = some (13, 400, []) := by decide +kernel
theorem h0_56 : SH0[56]? = some (3, 3, []) := by decide +kernel
theorem h0_57 : SH0[57]? = some (13, 400, []) := by decide +kernel
theorem h0_58 : SH0[58]? = some (8, 9, []) := by decide +kernel
theorem h0_59 : SH0[59]? = some (13, 400, []) := by decide +kernel
theorem h0_60 : SH0[60]? = some (13, 401, []) := by decide +kernel
theorem h0_61 : SH0[61]? = some (13, 401, []) := by decide +kernel
theorem h0_62 : SH0[62]? = some (13, 401, []) := by decide +kernel
theorem h0_63 : SH0[63]? = some (3, 3, []) := by decide +kernel
theorem h0_64 : SH0[64]? = some (13, 400, []) := by decide +kernel
theorem h0_65 : SH0[65]? = some (1, 7, []) := by decide +kernel
theorem h0_66 : SH0[66]? = some (13, 150, []) := by decide +kernel
theorem h0_67 : SH0[67]? = some (13, 150, []) := by decide +kernel
theorem h0_68 : SH0[68]? = some (13, 150, []) := by decide +kernel
theorem h0_69 : SH0[69]? = some (13, 4, []) := by decide +kernel
theorem h0_70 : SH0[70]? = some (13, 4, []) := by decide +kernel
theorem h0_71 : SH0[71]? = some (2, 7, []) := by decide +kernel
theorem h0_72 : SH0[72]? = some (13, 8, []) := by decide +kernel
theorem h0_73 : SH0[73]? = some (13, 48, []) := by decide +kernel
theorem h0_74 : SH0[74]? = some (13, 1000, []) := by decide +kernel
theorem h0_75 : SH0[75]? = some (6, 5, []) := by decide +kernel
theorem h0_76 : SH0[76]? = some (13, 24, []) := by decide +kernel
theorem h0_77 : SH0[77]? = some (13, 24, []) := by decide +kernel
theorem h0_78 : SH0[78]? = some (7, 8, []) := by decide +kernel
theorem h0_79 : SH0[79]? = some (13, 24, []) := by decide +kernel
theorem h0_80 : SH0[80]? = some (13, 144, []) := by decide +kernel
theorem h0_81 : SH0[81]? = some (13, 144, []) := by decide +kernel
theorem h0_82 : SH0[82]? = some (10, 6, []) := by decide +kernel
theorem h0_83 : SH0[83]? = some (13, 7, []) := by decide +kernel
theorem h0_84 : SH0[84]? = some (13, 8, []) := by decide +kernel
theorem h0_85 : SH0[85]? = some (13, 8, []) := by decide +kernel
theorem h0_86 : SH0[86]? = some (13, 128, []) := by decide +kernel
theorem h0_87 : SH0[87]? = some (13, 128, []) := by decide +kernel
theorem h0_88 : SH0[88]? = some (5, 5, []) := by decide +kernel
theorem h0_89 : SH0[89]? = some (13, 3280, []) := by decide +kernel
theorem h0_90 : SH0[90]? = some (13, 3280, []) := by decide +kernel
theorem h0_91 : SH0[91]? = some (13, 7, []) := by decide +kernel
theorem h0_92 : SH0[92]? = some (15, 5, []) := by decide +kernel
theorem h0_93 : SH0[93]? = some (9, 7, []) := by decide +kernel
theorem h0_94 : SH0[94]? = some (13, 6, []) := by decide +kernel
theorem h0_95 : SH0[95]? = some (13, 6, []) := by decide +kernel
theorem h0_96 : SH0[96]? = some (14, 8, []) := by decide +kernel
theorem h0_97 : SH0[97]? = some (7, 8, []) := by decide +kernel
theorem h0_98 : SH0[98]? = some (13, 24, []) := by decide +kernel
theorem h0_99 : SH0[99]? = some (13, 144, []) := by decide +kernel
theorem h0_100 : SH0[100]? = some (13, 144, []) := by decide +kernel
theorem h0_101 : SH0[101]? = some (7, 8, []) := by decide +kernel
theorem h0_102 : SH0[102]? = some (13, 24, []) := by decide +kernel
theorem h0_103 : SH0[103]? = some (13, 144, []) := by decide +kernel
theorem h0_104 : SH0[104]? = some (13, 144, []) := by decide +kernel
theorem h0_105 : SH0[105]? = some (7, 8, []) := by decide +kernel
theorem h0_106 : SH0[106]? = some (13, 24, []) := by decide +kernel
theorem h0_107 : SH0[107]? = some (13, 144, []) := by decide +kernel
theorem h0_108 : SH0[108]? = some (13, 144, []) := by decide +kernel
theorem h0_109 : SH0[109]? = some (7, 8, []) := by decide +kernel
theorem h0_110 : SH0[110]? = some (13, 24, []) := by decide +kernel
theorem h0_111 : SH0[111]? = some (13, 144, []) := by decide +kernel
theorem h0_112 : SH0[112]? = some (13, 144, []) := by decide +kernel
theorem h0_113 : SH0[113]? = some (7, 8, []) := by decide +kernel
theorem h0_114 : SH0[114]? = some (13, 24, []) := by decide +kernel
theorem h0_115 : SH0[115]? = some (13, 144, []) := by decide +kernel
theorem h0_116 : SH0[116]? = some (13, 144, []) := by decide +kernel
theorem h0_117 : SH0[117]? = some (7, 8, []) := by decide +kernel
theorem h0_118 : SH0[118]? = some (13, 24, []) := by decide +kernel
theorem h0_119 : SH0[119]? = some (13, 144, []) := by decide +kernel
theorem h0_120 : SH0[120]? = some (13, 144, []) := by decide +kernel
theorem h0_121 : SH0[121]? = some (7, 8, []) := by decide +kernel
theorem h0_122 : SH0[122]? = some (13, 24, []) := by decide +kernel
theorem h0_123 : SH0[123]? = some (13, 144, []) := by decide +kernel
theorem h0_124 : SH0[124]? = some (13, 144, []) := by decide +kernel
theorem h0_125 : SH0[125]? = some (7, 8, []) := by decide +kernel
theorem h0_126 : SH0[126]? = some (13, 24, []) := by decide +kernel
theorem h0_127 : SH0[127]? = some (13, 144, []) := by decide +kernel
theorem h0_128 : SH0[128]? = some (13, 144, []) := by decide +kernel
theorem h0_129 : SH0[129]? = some (9, 7, []) := by decide +kernel
theorem h0_130 : SH0[130]? = some (13, 6, []) := by decide +kernel
theorem h0_131 : SH0[131]? = some (13, 6, []) := by decide +kernel
theorem h0_132 : SH0[132]? = some (14, 8, []) := by decide +kernel
theorem h0_133 : SH0[133]? = some (7, 8, []) := by decide +kernel
theorem h0_134 : SH0[134]? = some (13, 24, []) := by decide +kernel
theorem h0_135 : SH0[135]? = some (13, 144, []) := by decide +kernel
theorem h0_136 : SH0[136]? = some (13, 144, []) := by decide +kernel
theorem h0_137 : SH0[137]? = some (7, 8, []) := by decide +kernel
theorem h0_138 : SH0[138]? = some (13, 24, []) := by decide +kernel
theorem h0_139 : SH0[139]? = some (13, 144, []) := by decide +kernel
theorem h0_140 : SH0[140]? = some (13, 144, []) := by decide +kernel
theorem h0_141 : SH0[141]? = some (7, 8, []) := by decide +kernel
theorem h0_142 : SH0[142]? = some (13, 24, []) := by decide +kernel
theorem h0_143 : SH0[143]? = some (13, 144, []) := by decide +kernel
theorem h0_144 : SH0[144]? = some (13, 144, []) := by decide +kernel
theorem h0_145 : SH0[145]? = some (7, 8, []) := by decide +kernel
theorem h0_146 : SH0[146]? = some (13, 24, []) := by decide +kernel
theorem h0_147 : SH0[147]? = some (13, 144, []) := by decide +kernel
theorem h0_148 : SH0[148]? = some (13, 144, []) := by decide +kernel
theorem h0_149 : SH0[149]? = some (7, 8, []) := by decide +kernel
theorem h0_150 : SH0[150]? = some (13, 24, []) := by decide +kernel
theorem h0_151 : SH0[151]? = some (13, 144, []) := by decide +kernel
theorem h0_152 : SH0[152]? = some (13, 144, []) := by decide +kernel
theorem h0_153 : SH0[153]? = some (7, 8, []) := by decide +kernel
theorem h0_154 : SH0[154]? = some (13, 24, []) := by decide +kernel
theorem h0_155 : SH0[155]? = some (13, 144, []) := by decide +kernel
theorem h0_156 : SH0[156]? = some (13, 144, []) := by decide +kernel
theorem h0_157 : SH0[157]? = some (7, 8, []) := by decide +kernel
theorem h0_158 : SH0[158]? = some (13, 24, []) := by decide +kernel
theorem h0_159 : SH0[159]? = some (13, 144, []) := by decide +kernel
theorem h0_160 : SH0[160]? = some (13, 144, []) := by decide +kernel
theorem h0_161 : SH0[161]? = some (7, 8, []) := by decide +kernel
theorem h0_162 : SH0[162]? = some (13, 24, []) := by decide +kernel
theorem h0_163 : SH0[163]? = some (13, 144, []) := by decide +kernel
theorem h0_164 : SH0[164]? = some (13, 144, []) := by decide +kernel
theorem h0_165 : SH0[165]? = some (9, 7, []) := by decide +kernel
theorem h0_166 : SH0[166]? = some (13, 6, []) := by decide +kernel
theorem h0_167 : SH0[167]? = some (13, 6, []) := by decide +kernel
theorem h0_168 : SH0[168]? = some (14, 8, []) := by decide +kernel
theorem h0_169 : SH0[169]? = some (7, 8, []) := by decide +kernel
theorem h0_170 : SH0[170]? = some (13, 24, []) := by decide +kernel
theorem h0_171 : SH0[171]? = some (13, 144, []) := by decide +kernel
theorem h0_172 : SH0[172]? = some (13, 144, []) := by decide +kernel
theorem h0_173 : SH0[173]? = some (7, 8, []) := by decide +kernel
theorem h0_174 : SH0[174]? = some (13, 24, []) := by decide +kernel
theorem h0_175 : SH0[175]? = some (13, 144, []) := by decide +kernel
theorem h0_176 : SH0[176]? = some (13, 144, []) := by decide +kernel
theorem h0_177 : SH0[177]? = some (7, 8, []) := by decide +kernel
theorem h0_178 : SH0[178]? = some (13, 24, []) := by decide +kernel
theorem h0_179 : SH0[179]? = some (13, 144, []) := by decide +kernel
theorem h0_180 : SH0[180]? = some (13, 144, []) := by decide +kernel
theorem h0_181 : SH0[181]? = some (7, 8, []) := by decide +kernel
theorem h0_182 : SH0[182]? = some (13, 24, []) := by decide +kernel
theorem h0_183 : SH0[183]? = some (13, 144, []) := by decide +kernel
theorem h0_184 : SH0[184]? = some (13, 144, []) := by decide +kernel
theorem h0_185 : SH0[185]? = some (7, 8, []) := by decide +kernel
theorem h0_186 : SH0[186]? = some (13, 24, []) := by decide +kernel
theorem h0_187 : SH0[187]? = some (13, 144, []) := by decide +kernel
theorem h0_188 : SH0[188]? = some (13, 144, []) := by decide +kernel
theorem h0_189 : SH0[189]? = some (7, 8, []) := by decide +kernel
theorem h0_190 : SH0[190]? = some (13, 24, []) := by decide +kernel
theorem h0_191 : SH0[191]? = some (13, 144, []) := by decide +kernel
theorem h0_192 : SH0[192]? = some (13, 144, []) := by decide +kernel
theorem h0_193 : SH0[193]? = some (7, 8, []) := by decide +kernel
theorem h0_194 : SH0[194]? = some (13, 24, []) := by decide +kernel
theorem h0_195 : SH0[195]? = some (13, 144, []) := by decide +kernel
theorem h0_196 : SH0[196]? = some (13, 144, []) := by decide +kernel
theorem h0_197 : SH0[197]? = some (7, 8, []) := by decide +kernel
theorem h0_198 : SH0[198]? = some (13, 24, []) := by decide +kernel
theorem h0_199 : SH0[199]? = some (13, 144, []) := by decide +kernel
theorem h0_200 : SH0[200]? = some (13, 144, []) := by decide +kernel
theorem h0_201 : SH0[201]? = some (9, 7, []) := by decide +kernel
theorem h0_202 : SH0[202]? = some (13, 6, []) := by decide +kernel
theorem h0_203 : SH0[203]? = some (13, 6, []) := by decide +kernel
theorem h0_204 : SH0[204]? = some (14, 8, []) := by decide +kernel
theorem h0_205 : SH0[205]? = some (7, 8, []) := by decide +kernel
theorem h0_206 : SH0[206]? = some (13, 24, []) := by decide +kernel
theorem h0_207 : SH0[207]? = some (13, 144, []) := by decide +kernel
theorem h0_208 : SH0[208]? = some (13, 144, []) := by decide +kernel
theorem h0_209 : SH0[209]? = some (7, 8, []) := by decide +kernel
theorem h0_210 : SH0[210]? = some (13, 24, []) := by decide +kernel
theorem h0_211 : SH0[211]? = some (13, 144, []) := by decide +kernel
theorem h0_212 : SH0[212]? = some (13, 144, []) := by decide +kernel
theorem h0_213 : SH0[213]? = some (7, 8, []) := by decide +kernel
theorem h0_214 : SH0[214]? = some (13, 24, []) := by decide +kernel
theorem h0_215 : SH0[215]? = some (13, 144, []) := by decide +kernel
theorem h0_216 : SH0[216]? = some (13, 144, []) := by decide +kernel
theorem h0_217 : SH0[217]? = some (7, 8, []) := by decide +kernel
theorem h0_218 : SH0[218]? = some (13, 24, []) := by decide +kernel
theorem h0_219 : SH0[219]? = some (13, 144, []) := by decide +kernel
theorem h0_220 : SH0[220]? = some (13, 144, []) := by decide +kernel
theorem h0_221 : SH0[221]? = some (7, 8, []) := by decide +kernel
theorem h0_222 : SH0[222]? = some (13, 24, []) := by decide +kernel
theorem h0_223 : SH0[223]? = some (13, 144, []) := by decide +kernel
theorem h0_224 : SH0[224]? = some (13, 144, []) := by decide +kernel
theorem h0_225 : SH0[225]? = some (7, 8, []) := by decide +kernel
theorem h0_226 : SH0[226]? = some (13, 24, []) := by decide +kernel
theorem h0_227 : SH0[227]? = some (13, 144, []) := by decide +kernel
theorem h0_228 : SH0[228]? = some (13, 144, []) := by decide +kernel
theorem h0_229 : SH0[229]? = some (7, 8, []) := by decide +kernel
theorem h0_230 : SH0[230]? = some (13, 24, []) := by decide +kernel
theorem h0_231 : SH0[231]? = some (13, 144, []) := by decide +kernel
theorem h0_232 : SH0[232]? = some (13, 144, []) := by decide +kernel
theorem h0_233 : SH0[233]? = some (7, 8, []) := by decide +kernel
theorem h0_234 : SH0[234]? = some (13, 24, []) := by decide +kernel
theorem h0_235 : SH0[235]? = some (13, 144, []) := by decide +kernel
theorem h0_236 : SH0[236]? = some (13, 144, []) := by decide +kernel
theorem h0_237 : SH0[237]? = some (9, 7, []) := by decide +kernel
theorem h0_238 : SH0[238]? = some (13, 6, []) := by decide +kernel
theorem h0_239 : SH0[239]? = some (13, 6, []) := by decide +kernel
theorem h0_240 : SH0[240]? = some (14, 8, []) := by decide +kernel
theorem h0_241 : SH0[241]? = some (7, 8, []) := by decide +kernel
theorem h0_242 : SH0[242]? = some (13, 24, []) := by decide +kernel
theorem h0_243 : SH0[243]? = some (13, 144, []) := by decide +kernel
theorem h0_244 : SH0[244]? = some (13, 144, []) := by decide +kernel
theorem h0_245 : SH0[245]? = some (7, 8, []) := by decide +kernel
theorem h0_246 : SH0[246]? = some (13, 24, []) := by decide +kernel
theorem h0_247 : SH0[247]? = some (13, 144, []) := by decide +kernel
theorem h0_248 : SH0[248]? = some (13, 144, []) := by decide +kernel
theorem h0_249 : SH0[249]? = some (7, 8, []) := by decide +kernel
theorem h0_250 : SH0[250]? = some (13, 24, []) := by decide +kernel
theorem h0_251 : SH0[251]? = some (13, 144, []) := by decide +kernel
theorem h0_252 : SH0[252]? = some (13, 144, []) := by decide +kernel
theorem h0_253 : SH0[253]? = some (7, 8, []) := by decide +kernel
theorem h0_254 : SH0[254]? = some (13, 24, []) := by decide +kernel
theorem h0_255 : SH0[255]? = some (13, 144, []) := by decide +kernel
theorem h0_256 : SH0[256]? = some (13, 144, []) := by decide +kernel
theorem h0_257 : SH0[257]? = some (7, 8, []) := by decide +kernel
theorem h0_258 : SH0[258]? = some (13, 24, []) := by decide +kernel
theorem h0_259 : SH0[259]? = some (13, 144, []) := by decide +kernel
theorem h0_260 : SH0[260]? = some (13, 144, []) := by decide +kernel
theorem h0_261 : SH0[261]? = some (7, 8, []) := by decide +kernel
theorem h0_262 : SH0[262]? = some (13, 24, []) := by decide +kernel
theorem h0_263 : SH0[263]? = some (13, 144, []) := by decide +kernel
theorem h0_264 : SH0[264]? = some (13, 144, []) := by decide +kernel
theorem h0_265 : SH0[265]? = some (7, 8, []) := by decide +kernel
theorem h0_266 : SH0[266]? = some (13, 24, []) := by decide +kernel
theorem h0_267 : SH0[267]? = some (13, 144, []) := by decide +kernel
theorem h0_268 : SH0[268]? = some (13, 144, []) := by decide +kernel
theorem h0_269 : SH0[269]? = some (7, 8, []) := by decide +kernel
theorem h0_270 : SH0[270]? = some (13, 24, []) := by decide +kernel
theorem h0_271 : SH0[271]? = some (13, 144, []) := by decide +kernel
theorem h0_272 : SH0[272]? = some (13, 144, []) := by decide +kernel
theorem h0_273 : SH0[273]? = some (9, 7, []) := by decide +kernel
theorem h0_274 : SH0[274]? = some (13, 6, []) := by decide +kernel
theorem h0_275 : SH0[275]? = some (13, 6, []) := by decide +kernel
theorem h0_276 : SH0[276]? = some (14, 8, []) := by decide +kernel
theorem h0_277 : SH0[277]? = some (7, 8, []) := by decide +kernel
theorem h0_278 : SH0[278]? = some (13, 24, []) := by decide +kernel
theorem h0_279 : SH0[279]? = some (13, 144, []) := by decide +kernel
theorem h0_280 : SH0[280]? = some (13, 144, []) := by decide +kernel
theorem h0_281 : SH0[281]? = some (7, 8, []) := by decide +kernel
theorem h0_282 : SH0[282]? = some (13, 24, []) := by decide +kernel
theorem h0_283 : SH0[283]? = some (13, 144, []) := by decide +kernel
theorem h0_284 : SH0[284]? = some (13, 144, []) := by decide +kernel
theorem h0_285 : SH0[285]? = some (7, 8, []) := by decide +kernel
theorem h0_286 : SH0[286]? = some (13, 24, []) := by decide +kernel
theorem h0_287 : SH0[287]? = some (13, 144, []) := by decide +kernel
theorem h0_288 : SH0[288]? = some (13, 144, []) := by decide +kernel
theorem h0_289 : SH0[289]? = some (7, 8, []) := by decide +kernel
theorem h0_290 : SH0[290]? = some (13, 24, []) := by decide +kernel
theorem h0_291 : SH0[291]? = some (13, 144, []) := by decide +kernel
theorem h0_292 : SH0[292]? = some (13, 144, []) := by decide +kernel
theorem h0_293 : SH0[293]? = some (7, 8, []) := by decide +kernel
theorem h0_294 : SH0[294]? = some (13, 24, []) := by decide +kernel
theorem h0_295 : SH0[295]? = some (13, 144, []) := by decide +kernel
theorem h0_296 : SH0[296]? = some (13, 144, []) := by decide +kernel
theorem h0_297 : SH0[297]? = some (7, 8, []) := by decide +kernel
theorem h0_298 : SH0[298]? = some (13, 24, []) := by decide +kernel
theorem h0_299 : SH0[299]? = some (13, 144, []) := by decide +kernel
theorem h0_300 : SH0[300]? = some (13, 144, []) := by decide +kernel
theorem h0_301 : SH0[301]? = some (7, 8, []) := by decide +kernel
theorem h0_302 : SH0[302]? = some (13, 24, []) := by decide +kernel
theorem h0_303 : SH0[303]? = some (13, 144, []) := by decide +kernel
theorem h0_304 : SH0[304]? = some (13, 144, []) := by decide +kernel
theorem h0_305 : SH0[305]? = some (7, 8, []) := by decide +kernel
theorem h0_306 : SH0[306]? = some (13, 24, []) := by decide +kernel
theorem h0_307 : SH0[307]? = some (13, 144, []) := by decide +kernel
theorem h0_308 : SH0[308]? = some (13, 144, []) := by decide +kernel
theorem h0_309 : SH0[309]? = some (0, 1, []) := by decide +kernel
theorem h0_310 : SH0[310]? = some (13, 1200, []) := by decide +kernel
theorem h0_311 : SH0[311]? = some (4, 9, []) := by decide +kernel
theorem h0_312 : SH0[312]? = some (16, 3, []) := by decide +kernel
theorem h0_313 : SH0[313]? = some (1, 7, []) := by decide +kernel
theorem h0_314 : SH0[314]? = some (13, 150, []) := by decide +kernel
theorem h0_315 : SH0[315]? = some (13, 150, []) := by decide +kernel
theorem h0_316 : SH0[316]? = some (13, 150, []) := by decide +kernel
theorem h0_317 : SH0[317]? = some (13, 4, []) := by decide +kernel
theorem h0_318 : SH0[318]? = some (13, 4, []) := by decide +kernel
theorem h0_319 : SH0[319]? = some (13, 28, []) := by decide +kernel
theorem h0_320 : SH0[320]? = some (13, 4, []) := by decide +kernel
theorem h0_321 : SH0[321]? = some (13, 6, []) := by decide +kernel
theorem h0_322 : SH0[322]? = some (13, 6, []) := by decide +kernel
theorem h0_323 : SH0[323]? = some (13, 7, []) := by decide +kernel
theorem h0_324 : SH0[324]? = some (3, 3, []) := by decide +kernel
theorem h0_325 : SH0[325]? = some (13, 400, []) := by decide +kernel
theorem h0_326 : SH0[326]? = some (3, 3, []) := by decide +kernel
theorem h0_327 : SH0[327]? = some (13, 400, []) := by decide +kernel
theorem h0_328 : SH0[328]? = some (3, 3, []) := by decide +kernel
theorem h0_329 : SH0[329]? = some (13, 400, []) := by decide +kernel
theorem h0_330 : SH0[330]? = some (12, 45, []) := by decide +kernel
theorem h0_331 : SH0[331]? = some (13, 6894, []) := by decide +kernel
theorem h0_332 : SH0[332]? = some (13, 6894, []) := by decide +kernel
theorem h0_333 : SH0[333]? = some (13, 12820, []) := by decide +kernel
theorem h0_334 : SH0[334]? = some (13, 2564, []) := by decide +kernel
theorem h0_335 : SH0[335]? = some (13, 48, []) := by decide +kernel
theorem h0_336 : SH0[336]? = some (13, 820, []) := by decide +kernel
theorem h0_337 : SH0[337]? = some (13, 450, []) := by decide +kernel
theorem h0_338 : SH0[338]? = some (13, 7, []) := by decide +kernel
theorem h0_339 : SH0[339]? = some (13, 400, []) := by decide +kernel
theorem h0_340 : SH0[340]? = some (13, 420, []) := by decide +kernel
theorem h0_341 : SH0[341]? = some (13, 14, []) := by decide +kernel
theorem h0_342 : SH0[342]? = some (13, 24, []) := by decide +kernel
theorem h0_343 : SH0[343]? = some (13, 24, []) := by decide +kernel
theorem h0_344 : SH0[344]? = some (13, 600, []) := by decide +kernel
theorem h0_345 : SH0[345]? = some (13, 8, []) := by decide +kernel
theorem h0_346 : SH0[346]? = some (13, 7, []) := by decide +kernel
theorem h0_347 : SH0[347]? = some (13, 7, []) := by decide +kernel
theorem h0_348 : SH0[348]? = some (13, 17496, []) := by decide +kernel
theorem h0_349 : SH0[349]? = some (13, 17496, []) := by decide +kernel
theorem h0_350 : SH0[350]? = some (13, 10, []) := by decide +kernel
theorem hx_arr : Cond.arrayClass .int ∈ ax_good := ax_gd (by decide +kernel) rfl
theorem hx_oi : Cond.instanceMethod objectInit ∈ ax_good := ax_gd (by decide +kernel) rfl
theorem hx_oc : Cond.code objectInit ⟨#[0xb1]⟩ 1 none ∈ ax_good := ax_gd (by decide +kernel) rfl
theorem ax_reC {E : ax_Env} {l : Launch} {d kc ks : Nat} {I : ax_I} {pc : Nat} {ls : List (Option ax_V)} {st : List ax_V} {S S2 : List ax_Cell} {M : ax_Mem} {Q : ax_Post} (hs : S = S2) (kk : ax_W E l d kc ks I pc ls st S2 M Q) : ax_W E l d kc ks I pc ls st S M Q := hs ▸ kk
theorem ax_reT {E : ax_Env} {l : Launch} {d kc ks : Nat} {I : ax_I} {pc : Nat} {ls : List (Option ax_V)} {st st2 : List ax_V} {S : List ax_Cell} {M : ax_Mem} {Q : ax_Post} (hs : st = st2) (kk : ax_W E l d kc ks I pc ls st2 S M Q) : ax_W E l d kc ks I pc ls st S M Q := hs ▸ kk
def f_mfl (b : Int) (n : Nat) (v : Int) (M : ax_Mem) : ax_Mem := fun a i => if a = b ∧ 0 ≤ i ∧ i < (n : Int) then v else M a i
set_option maxRecDepth 20000 in
theorem c_fill (E : ax_Env) (l : Launch) (d k : Nat) (b : Int) (n : Nat) (hs : ax_sh (SN k) b = some (13, n, [])) {v : Int} (M : ax_Mem) (hn : n < 100000) : ax_M E l d 0 0 iJ7_fill_53178 [.inr b, .inl v] (SN k) M (fun z0 S2 M2 => z0 = none ∧ S2 = SN k ∧ M2 = f_mfl b n v M) := by
  refine ax_enter rfl (Nat.le_of_ble_eq_true rfl) (ls := [some (.inr b), some (.inl v), none, none]) rfl (fun _ hcm => ?_)
  refine ax_iconst dJ7_fill_53178_0 (by decide) (pc' := 1) rfl ?_
  refine ax_istore_n dJ7_fill_53178_1 rfl (by decide) (ls' := [some (.inr b), some (.inl v), some (.inl 0), none]) rfl (pc' := 2) rfl ?_
  refine ax_aload_n dJ7_fill_53178_2 rfl rfl (pc' := 3) rfl ?_
  refine ax_alen dJ7_fill_53178_3 hs (by omega) (pc' := 4) rfl ?_
  refine ax_istore_n dJ7_fill_53178_4 rfl (by decide) (ls' := [some (.inr b), some (.inl v), some (.inl 0), some (.inl (n : Int))]) rfl (pc' := 5) rfl ?_
  have LP : ∀ (kq : Nat) (i : Int) (M1 : ax_Mem), (n : Int) - i < (kq : Nat) → 0 ≤ i ∧ i ≤ (n : Int) → (M1 = fun a j => if a = b ∧ 0 ≤ j ∧ j < i then v else M a j) → ax_W E l d 0 0 iJ7_fill_53178 5 [some (.inr b), some (.inl v), some (.inl i), some (.inl (n : Int))] [] (SN k) M1 (fun z0 S2 M2 => z0 = none ∧ S2 = SN k ∧ M2 = f_mfl b n v M) := by
    intro kq
    induction kq with
    | zero =>
      intro i M1 h1 h2 h3
      exfalso
      omega
    | succ kq ih =>
      intro i M1 h1 h2 h3
      refine ax_iload_n dJ7_fill_53178_5 rfl rfl (pc' := 6) rfl ?_
      refine ax_iload_n dJ7_fill_53178_6 rfl rfl (pc' := 7) rfl ?_
      refine ax_icmp_ge (tgt := 20) dJ7_fill_53178_7 (by decide) (pc' := 10) rfl (fun h7 => ?_) (fun h7 => ?_)
      · refine ax_vret dJ7_fill_53178_20 rfl ⟨rfl, rfl, ?_⟩
        rw [h3, show i = (n : Int) by omega]
        rfl
      · refine ax_aload_n dJ7_fill_53178_10 rfl rfl (pc' := 11) rfl ?_
        refine ax_iload_n dJ7_fill_53178_11 rfl rfl (pc' := 12) rfl ?_
        refine ax_iload_n dJ7_fill_53178_12 rfl rfl (pc' := 13) rfl ?_
        refine ax_iast dJ7_fill_53178_13 hs rfl (by omega) (by omega) (pc' := 14) rfl ?_
        refine ax_iinc dJ7_fill_53178_14 rfl (by decide) (by omega) (ls' := [some (.inr b), some (.inl v), some (.inl (i + 1)), some (.inl (n : Int))]) rfl (pc' := 17) rfl ?_
        refine ax_goto dJ7_fill_53178_17 (pc' := 5) (by decide) ?_
        refine ih (i + 1) _ (by omega) (by omega) ?_
        rw [h3]
        funext a j
        show (if a = b ∧ j = i then v else (if a = b ∧ 0 ≤ j ∧ j < i then v else M a j)) = (if a = b ∧ 0 ≤ j ∧ j < i + 1 then v else M a j)
        by_cases hb : a = b ∧ j = i
        · rw [if_pos hb, if_pos ⟨hb.1, by omega, by omega⟩]
        · rw [if_neg hb]
          by_cases hc : a = b ∧ 0 ≤ j ∧ j < i
          · rw [if_pos hc, if_pos ⟨hc.1, by omega, by omega⟩]
          · rw [if_neg hc, if_neg (fun q => hc ⟨q.1, q.2.1, by
              rcases Int.lt_or_le j i with h | h
              · exact h
              · exact absurd ⟨q.1, by omega⟩ hb⟩)]
  refine LP ((n : Int) - 0).toNat.succ 0 M (by omega) (by omega) ?_
  funext a j
  rw [if_neg (by omega)]
def f_mX7_5 (M : ax_Mem) : ax_Mem := ax_up (ax_row (ax_up (ax_row (ax_up (ax_row M 6 (fun _ => 0)) 5 5 6) 7 (fun _ => 0)) 5 6 7) 8 (fun _ => 0)) 5 7 8
set_option maxRecDepth 20000 in
theorem c_X7_5 (E : ax_Env) (l : Launch) (d : Nat) (hd : 1 ≤ d) (M : ax_Mem) : ax_M E l d 3 312 iX7_init [.inr 5] (SN 6) M (fun z0 S2 M2 => z0 = none ∧ S2 = SN 9 ∧ M2 = f_mX7_5 M) := by
  obtain ⟨d, rfl⟩ : ∃ d0, d = d0 + 1 := ⟨d - 1, by omega⟩
  refine ax_enter rfl (by decide) (ls := [some (.inr 5)]) rfl (fun _ hcm => ?_)
  refine ax_aload_n dX7_init_0 rfl rfl (pc' := 1) rfl ?_
  refine ax_oinit dX7_init_1 (by decide) mlX7_3 hx_oi hx_oc (by decide) (pc' := 4) rfl ?_
  refine ax_aload_n dX7_init_4 rfl rfl (pc' := 5) rfl ?_
  refine ax_bipush dX7_init_5 (by decide) (pc' := 7) rfl ?_
  refine ax_newa (kc := 2) (ks := 288) (N := 24) (n := 6) (v := 24) dX7_init_7 hx_arr rfl (by decide) (SN_len 6 (Nat.le_of_ble_eq_true rfl)) (pc' := 9) rfl ?_
  refine ax_reC (S2 := SN 7) (SN_push h0_6) ?_
  refine ax_putF dX7_init_9 flX7_9 rfl (fun C T N h => by cases h; rfl) rfl (SN_sh 5 7 (by decide) h0_5) rfl (by unfold ax_can; decide) (pc' := 12) rfl ?_
  refine ax_aload_n dX7_init_12 rfl rfl (pc' := 13) rfl ?_
  refine ax_sipush dX7_init_13 (by decide) (pc' := 16) rfl ?_
  refine ax_newa (kc := 1) (ks := 144) (N := 144) (n := 7) (v := 144) dX7_init_16 hx_arr rfl (by decide) (SN_len 7 (Nat.le_of_ble_eq_true rfl)) (pc' := 18) rfl ?_
  refine ax_reC (S2 := SN 8) (SN_push h0_7) ?_
  refine ax_putF dX7_init_18 flX7_15 rfl (fun C T N h => by cases h; rfl) rfl (SN_sh 5 8 (by decide) h0_5) rfl (by unfold ax_can; decide) (pc' := 21) rfl ?_
  refine ax_aload_n dX7_init_21 rfl rfl (pc' := 22) rfl ?_
  refine ax_sipush dX7_init_22 (by decide) (pc' := 25) rfl ?_
  refine ax_newa (kc := 0) (ks := 0) (N := 144) (n := 8) (v := 144) dX7_init_25 hx_arr rfl (by decide) (SN_len 8 (Nat.le_of_ble_eq_true rfl)) (pc' := 27) rfl ?_
  refine ax_reC (S2 := SN 9) (SN_push h0_8) ?_
  refine ax_putF dX7_init_27 flX7_18 rfl (fun C T N h => by cases h; rfl) rfl (SN_sh 5 9 (by decide) h0_5) rfl (by unfold ax_can; decide) (pc' := 30) rfl ?_
  exact ax_vret dX7_init_30 rfl ⟨rfl, rfl, rfl⟩
def f_mX7_9 (M : ax_Mem) : ax_Mem := ax_up (ax_row (ax_up (ax_row (ax_up (ax_row M 10 (fun _ => 0)) 9 5 10) 11 (fun _ => 0)) 9 6 11) 12 (fun _ => 0)) 9 7 12
set_option maxRecDepth 20000 in
theorem c_X7_9 (E : ax_Env) (l : Launch) (d : Nat) (hd : 1 ≤ d) (M : ax_Mem) : ax_M E l d 3 312 iX7_init [.inr 9] (SN 10) M (fun z0 S2 M2 => z0 = none ∧ S2 = SN 13 ∧ M2 = f_mX7_9 M) := by
  obtain ⟨d, rfl⟩ : ∃ d0, d = d0 + 1 := ⟨d - 1, by omega⟩
  refine ax_enter rfl (by decide) (ls := [some (.inr 9)]) rfl (fun _ hcm => ?_)
  refine ax_aload_n dX7_init_0 rfl rfl (pc' := 1) rfl ?_
  refine ax_oinit dX7_init_1 (by decide) mlX7_3 hx_oi hx_oc (by decide) (pc' := 4) rfl ?_
  refine ax_aload_n dX7_init_4 rfl rfl (pc' := 5) rfl ?_
  refine ax_bipush dX7_init_5 (by decide) (pc' := 7) rfl ?_
  refine ax_newa (kc := 2) (ks := 288) (N := 24) (n := 10) (v := 24) dX7_init_7 hx_arr rfl (by decide) (SN_len 10 (Nat.le_of_ble_eq_true rfl)) (pc' := 9) rfl ?_
  refine ax_reC (S2 := SN 11) (SN_push h0_10) ?_
  refine ax_putF dX7_init_9 flX7_9 rfl (fun C T N h => by cases h; rfl) rfl (SN_sh 9 11 (by decide) h0_9) rfl (by unfold ax_can; decide) (pc' := 12) rfl ?_
  refine ax_aload_n dX7_init_12 rfl rfl (pc' := 13) rfl ?_
  refine ax_sipush dX7_init_13 (by decide) (pc' := 16) rfl ?_
  refine ax_newa (kc := 1) (ks := 144) (N := 144) (n := 11) (v := 144) dX7_init_16 hx_arr rfl (by decide) (SN_len 11 (Nat.le_of_ble_eq_true rfl)) (pc' := 18) rfl ?_
  refine ax_reC (S2 := SN 12) (SN_push h0_11) ?_
  refine ax_putF dX7_init_18 flX7_15 rfl (fun C T N h => by cases h; rfl) rfl (SN_sh 9 12 (by decide) h0_9) rfl (by unfold ax_can; decide) (pc' := 21) rfl ?_
  refine ax_aload_n dX7_init_21 rfl rfl (pc' := 22) rfl ?_
  refine ax_sipush dX7_init_22 (by decide) (pc' := 25) rfl ?_
  refine ax_newa (kc := 0) (ks := 0) (N := 144) (n := 12) (v := 144) dX7_init_25 hx_arr rfl (by decide) (SN_len 12 (Nat.le_of_ble_eq_true rfl)) (pc' := 27) rfl ?_
  refine ax_reC (S2 := SN 13) (SN_push h0_12) ?_
  refine ax_putF dX7_init_27 flX7_18 rfl (fun C T N h => by cases h; rfl) rfl (SN_sh 9 13 (by decide) h0_9) rfl (by unfold ax_can; decide) (pc' := 30) rfl ?_
  exact ax_vret dX7_init_30 rfl ⟨rfl, rfl, rfl⟩
def f_mX7_13 (M : ax_Mem) : ax_Mem := ax_up (ax_row (ax_up (ax_row (ax_up (ax_row M 14 (fun _ => 0)) 13 5 14) 15 (fun _ => 0)) 13 6 15) 16 (fun _ => 0)) 13 7 16
set_option maxRecDepth 20000 in
theorem c_X7_13 (E : ax_Env) (l : Launch) (d : Nat) (hd : 1 ≤ d) (M : ax_Mem) : ax_M E l d 3 312 iX7_init [.inr 13] (SN 14) M (fun z0 S2 M2 => z0 = none ∧ S2 = SN 17 ∧ M2 = f_mX7_13 M) := by
  obtain ⟨d, rfl⟩ : ∃ d0, d = d0 + 1 := ⟨d - 1, by omega⟩
  refine ax_enter rfl (by decide) (ls := [some (.inr 13)]) rfl (fun _ hcm => ?_)
  refine ax_aload_n dX7_init_0 rfl rfl (pc' := 1) rfl ?_
  refine ax_oinit dX7_init_1 (by decide) mlX7_3 hx_oi hx_oc (by decide) (pc' := 4) rfl ?_
  refine ax_aload_n dX7_init_4 rfl rfl (pc' := 5) rfl ?_
  refine ax_bipush dX7_init_5 (by decide) (pc' := 7) rfl ?_
  refine ax_newa (kc := 2) (ks := 288) (N := 24) (n := 14) (v := 24) dX7_init_7 hx_arr rfl (by decide) (SN_len 14 (Nat.le_of_ble_eq_true rfl)) (pc' := 9) rfl ?_
  refine ax_reC (S2 := SN 15) (SN_push h0_14) ?_
  refine ax_putF dX7_init_9 flX7_9 rfl (fun C T N h => by cases h; rfl) rfl (SN_sh 13 15 (by decide) h0_13) rfl (by unfold ax_can; decide) (pc' := 12) rfl ?_
  refine ax_aload_n dX7_init_12 rfl rfl (pc' := 13) rfl ?_
  refine ax_sipush dX7_init_13 (by decide) (pc' := 16) rfl ?_
  refine ax_newa (kc := 1) (ks := 144) (N := 144) (n := 15) (v := 144) dX7_init_16 hx_arr rfl (by decide) (SN_len 15 (Nat.le_of_ble_eq_true rfl)) (pc' := 18) rfl ?_
  refine ax_reC (S2 := SN 16) (SN_push h0_15) ?_
  refine ax_putF dX7_init_18 flX7_15 rfl (fun C T N h => by cases h; rfl) rfl (SN_sh 13 16 (by decide) h0_13) rfl (by unfold ax_can; decide) (pc' := 21) rfl ?_
  refine ax_aload_n dX7_init_21 rfl rfl (pc' := 22) rfl ?_
  refine ax_sipush dX7_init_22 (by decide) (pc' := 25) rfl ?_
  refine ax_newa (kc := 0) (ks := 0) (N := 144) (n := 16) (v := 144) dX7_init_25 hx_arr rfl (by decide) (SN_len 16 (Nat.le_of_ble_eq_true rfl)) (pc' := 27) rfl ?_
  refine ax_reC (S2 := SN 17) (SN_push h0_16) ?_
  refine ax_putF dX7_init_27 flX7_18 rfl (fun C T N h => by cases h; rfl) rfl (SN_sh 13 17 (by decide) h0_13) rfl (by unfold ax_can; decide) (pc' := 30) rfl ?_
  exact ax_vret dX7_init_30 rfl ⟨rfl, rfl, rfl⟩
def f_mX7_17 (M : ax_Mem) : ax_Mem := ax_up (ax_row (ax_up (ax_row (ax_up (ax_row M 18 (fun _ => 0)) 17 5 18) 19 (fun _ => 0)) 17 6 19) 20 (fun _ => 0)) 17 7 20
set_option maxRecDepth 20000 in
theorem c_X7_17 (E : ax_Env) (l : Launch) (d : Nat) (hd : 1 ≤ d) (M : ax_Mem) : ax_M E l d 3 312 iX7_init [.inr 17] (SN 18) M (fun z0 S2 M2 => z0 = none ∧ S2 = SN 21 ∧ M2 = f_mX7_17 M) := by
  obtain ⟨d, rfl⟩ : ∃ d0, d = d0 + 1 := ⟨d - 1, by omega⟩
  refine ax_enter rfl (by decide) (ls := [some (.inr 17)]) rfl (fun _ hcm => ?_)
  refine ax_aload_n dX7_init_0 rfl rfl (pc' := 1) rfl ?_
  refine ax_oinit dX7_init_1 (by decide) mlX7_3 hx_oi hx_oc (by decide) (pc' := 4) rfl ?_
  refine ax_aload_n dX7_init_4 rfl rfl (pc' := 5) rfl ?_
  refine ax_bipush dX7_init_5 (by decide) (pc' := 7) rfl ?_
  refine ax_newa (kc := 2) (ks := 288) (N := 24) (n := 18) (v := 24) dX7_init_7 hx_arr rfl (by decide) (SN_len 18 (Nat.le_of_ble_eq_true rfl)) (pc' := 9) rfl ?_
  refine ax_reC (S2 := SN 19) (SN_push h0_18) ?_
  refine ax_putF dX7_init_9 flX7_9 rfl (fun C T N h => by cases h; rfl) rfl (SN_sh 17 19 (by decide) h0_17) rfl (by unfold ax_can; decide) (pc' := 12) rfl ?_
  refine ax_aload_n dX7_init_12 rfl rfl (pc' := 13) rfl ?_
  refine ax_sipush dX7_init_13 (by decide) (pc' := 16) rfl ?_
  refine ax_newa (kc := 1) (ks := 144) (N := 144) (n := 19) (v := 144) dX7_init_16 hx_arr rfl (by decide) (SN_len 19 (Nat.le_of_ble_eq_true rfl)) (pc' := 18) rfl ?_
  refine ax_reC (S2 := SN 20) (SN_push h0_19) ?_
  refine ax_putF dX7_init_18 flX7_15 rfl (fun C T N h => by cases h; rfl) rfl (SN_sh 17 20 (by decide) h0_17) rfl (by unfold ax_can; decide) (pc' := 21) rfl ?_
  refine ax_aload_n dX7_init_21 rfl rfl (pc' := 22) rfl ?_
  refine ax_sipush dX7_init_22 (by decide) (pc' := 25) rfl ?_
  refine ax_newa (kc := 0) (ks := 0) (N := 144) (n := 20) (v := 144) dX7_init_25 hx_arr rfl (by decide) (SN_len 20 (Nat.le_of_ble_eq_true rfl)) (pc' := 27) rfl ?_
  refine ax_reC (S2 := SN 21) (SN_push h0_20) ?_
  refine ax_putF dX7_init_27 flX7_18 rfl (fun C T N h => by cases h; rfl) rfl (SN_sh 17 21 (by decide) h0_17) rfl (by unfold ax_can; decide) (pc' := 30) rfl ?_
  exact ax_vret dX7_init_30 rfl ⟨rfl, rfl, rfl⟩
def f_mX7_21 (M : ax_Mem) : ax_Mem := ax_up (ax_row (ax_up (ax_row (ax_up (ax_row M 22 (fun _ => 0)) 21 5 22) 23 (fun _ => 0)) 21 6 23) 24 (fun _ => 0)) 21 7 24
set_option maxRecDepth 20000 in
theorem c_X7_21 (E : ax_Env) (l : Launch) (d : Nat) (hd : 1 ≤ d) (M : ax_Mem) : ax_M E l d 3 312 iX7_init [.inr 21] (SN 22) M (fun z0 S2 M2 => z0 = none ∧ S2 = SN 25 ∧ M2 = f_mX7_21 M) := by
  obtain ⟨d, rfl⟩ : ∃ d0, d = d0 + 1 := ⟨d - 1, by omega⟩
  refine ax_enter rfl (by decide) (ls := [some (.inr 21)]) rfl (fun _ hcm => ?_)
  refine ax_aload_n dX7_init_0 rfl rfl (pc' := 1) rfl ?_
  refine ax_oinit dX7_init_1 (by decide) mlX7_3 hx_oi hx_oc (by decide) (pc' := 4) rfl ?_
  refine ax_aload_n dX7_init_4 rfl rfl (pc' := 5) rfl ?_
  refine ax_bipush dX7_init_5 (by decide) (pc' := 7) rfl ?_
  refine ax_newa (kc := 2) (ks := 288) (N := 24) (n := 22) (v := 24) dX7_init_7 hx_arr rfl (by decide) (SN_len 22 (Nat.le_of_ble_eq_true rfl)) (pc' := 9) rfl ?_
  refine ax_reC (S2 := SN 23) (SN_push h0_22) ?_
  refine ax_putF dX7_init_9 flX7_9 rfl (fun C T N h => by cases h; rfl) rfl (SN_sh 21 23 (by decide) h0_21) rfl (by unfold ax_can; decide) (pc' := 12) rfl ?_
  refine ax_aload_n dX7_init_12 rfl rfl (pc' := 13) rfl ?_
  refine ax_sipush dX7_init_13 (by decide) (pc' := 16) rfl ?_
  refine ax_newa (kc := 1) (ks := 144) (N := 144) (n := 23) (v := 144) dX7_init_16 hx_arr rfl (by decide) (SN_len 23 (Nat.le_of_ble_eq_true rfl)) (pc' := 18) rfl ?_
  refine ax_reC (S2 := SN 24) (SN_push h0_23) ?_
  refine ax_putF dX7_init_18 flX7_15 rfl (fun C T N h => by cases h; rfl) rfl (SN_sh 21 24 (by decide) h0_21) rfl (by unfold ax_can; decide) (pc' := 21) rfl ?_
  refine ax_aload_n dX7_init_21 rfl rfl (pc' := 22) rfl ?_
  refine ax_sipush dX7_init_22 (by decide) (pc' := 25) rfl ?_
  refine ax_newa (kc := 0) (ks := 0) (N := 144) (n := 24) (v := 144) dX7_init_25 hx_arr rfl (by decide) (SN_len 24 (Nat.le_of_ble_eq_true rfl)) (pc' := 27) rfl ?_
  refine ax_reC (S2 := SN 25) (SN_push h0_24) ?_
  refine ax_putF dX7_init_27 flX7_18 rfl (fun C T N h => by cases h; rfl) rfl (SN_sh 21 25 (by decide) h0_21) rfl (by unfold ax_can; decide) (pc' := 30) rfl ?_
  exact ax_vret dX7_init_30 rfl ⟨rfl, rfl, rfl⟩
def f_mX7_25 (M : ax_Mem) : ax_Mem := ax_up (ax_row (ax_up (ax_row (ax_up (ax_row M 26 (fun _ => 0)) 25 5 26) 27 (fun _ => 0)) 25 6 27) 28 (fun _ => 0)) 25 7 28
set_option maxRecDepth 20000 in
theorem c_X7_25 (E : ax_Env) (l : Launch) (d : Nat) (hd : 1 ≤ d) (M : ax_Mem) : ax_M E l d 3 312 iX7_init [.inr 25] (SN 26) M (fun z0 S2 M2 => z0 = none ∧ S2 = SN 29 ∧ M2 = f_mX7_25 M) := by
  obtain ⟨d, rfl⟩ : ∃ d0, d = d0 + 1 := ⟨d - 1, by omega⟩
  refine ax_enter rfl (by decide) (ls := [some (.inr 25)]) rfl (fun _ hcm => ?_)
  refine ax_aload_n dX7_init_0 rfl rfl (pc' := 1) rfl ?_
  refine ax_oinit dX7_init_1 (by decide) mlX7_3 hx_oi hx_oc (by decide) (pc' := 4) rfl ?_
  refine ax_aload_n dX7_init_4 rfl rfl (pc' := 5) rfl ?_
  refine ax_bipush dX7_init_5 (by decide) (pc' := 7) rfl ?_
  refine ax_newa (kc := 2) (ks := 288) (N := 24) (n := 26) (v := 24) dX7_init_7 hx_arr rfl (by decide) (SN_len 26 (Nat.le_of_ble_eq_true rfl)) (pc' := 9) rfl ?_
  refine ax_reC (S2 := SN 27) (SN_push h0_26) ?_
  refine ax_putF dX7_init_9 flX7_9 rfl (fun C T N h => by cases h; rfl) rfl (SN_sh 25 27 (by decide) h0_25) rfl (by unfold ax_can; decide) (pc' := 12) rfl ?_
  refine ax_aload_n dX7_init_12 rfl rfl (pc' := 13) rfl ?_
  refine ax_sipush dX7_init_13 (by decide) (pc' := 16) rfl ?_
  refine ax_newa (kc := 1) (ks := 144) (N := 144) (n := 27) (v := 144) dX7_init_16 hx_arr rfl (by decide) (SN_len 27 (Nat.le_of_ble_eq_true rfl)) (pc' := 18) rfl ?_
  refine ax_reC (S2 := SN 28) (SN_push h0_27) ?_
  refine ax_putF dX7_init_18 flX7_15 rfl (fun C T N h => by cases h; rfl) rfl (SN_sh 25 28 (by decide) h0_25) rfl (by unfold ax_can; decide) (pc' := 21) rfl ?_
  refine ax_aload_n dX7_init_21 rfl rfl (pc' := 22) rfl ?_
  refine ax_sipush dX7_init_22 (by decide) (pc' := 25) rfl ?_
  refine ax_newa (kc := 0) (ks := 0) (N := 144) (n := 28) (v := 144) dX7_init_25 hx_arr rfl (by decide) (SN_len 28 (Nat.le_of_ble_eq_true rfl)) (pc' := 27) rfl ?_
  refine ax_reC (S2 := SN 29) (SN_push h0_28) ?_
  refine ax_putF dX7_init_27 flX7_18 rfl (fun C T N h => by cases h; rfl) rfl (SN_sh 25 29 (by decide) h0_25) rfl (by unfold ax_can; decide) (pc' := 30) rfl ?_
  exact ax_vret dX7_init_30 rfl ⟨rfl, rfl, rfl⟩
def f_mX7_29 (M : ax_Mem) : ax_Mem := ax_up (ax_row (ax_up (ax_row (ax_up (ax_row M 30 (fun _ => 0)) 29 5 30) 31 (fun _ => 0)) 29 6 31) 32 (fun _ => 0)) 29 7 32
set_option maxRecDepth 20000 in
theorem c_X7_29 (E : ax_Env) (l : Launch) (d : Nat) (hd : 1 ≤ d) (M : ax_Mem) : ax_M E l d 3 312 iX7_init [.inr 29] (SN 30) M (fun z0 S2 M2 => z0 = none ∧ S2 = SN 33 ∧ M2 = f_mX7_29 M) := by
  obtain ⟨d, rfl⟩ : ∃ d0, d = d0 + 1 := ⟨d - 1, by omega⟩
  refine ax_enter rfl (by decide) (ls := [some (.inr 29)]) rfl (fun _ hcm => ?_)
  refine ax_aload_n dX7_init_0 rfl rfl (pc' := 1) rfl ?_
  refine ax_oinit dX7_init_1 (by decide) mlX7_3 hx_oi hx_oc (by decide) (pc' := 4) rfl ?_
  refine ax_aload_n dX7_init_4 rfl rfl (pc' := 5) rfl ?_
  refine ax_bipush dX7_init_5 (by decide) (pc' := 7) rfl ?_
  refine ax_newa (kc := 2) (ks := 288) (N := 24) (n := 30) (v := 24) dX7_init_7 hx_arr rfl (by decide) (SN_len 30 (Nat.le_of_ble_eq_true rfl)) (pc' := 9) rfl ?_
  refine ax_reC (S2 := SN 31) (SN_push h0_30) ?_
  refine ax_putF dX7_init_9 flX7_9 rfl (fun C T N h => by cases h; rfl) rfl (SN_sh 29 31 (by decide) h0_29) rfl (by unfold ax_can; decide) (pc' := 12) rfl ?_
  refine ax_aload_n dX7_init_12 rfl rfl (pc' := 13) rfl ?_
  refine ax_sipush dX7_init_13 (by decide) (pc' := 16) rfl ?_
  refine ax_newa (kc := 1) (ks := 144) (N := 144) (n := 31) (v := 144) dX7_init_16 hx_arr rfl (by decide) (SN_len 31 (Nat.le_of_ble_eq_true rfl)) (pc' := 18) rfl ?_
  refine ax_reC (S2 := SN 32) (SN_push h0_31) ?_
  refine ax_putF dX7_init_18 flX7_15 rfl (fun C T N h => by cases h; rfl) rfl (SN_sh 29 32 (by decide) h0_29) rfl (by unfold ax_can; decide) (pc' := 21) rfl ?_
  refine ax_aload_n dX7_init_21 rfl rfl (pc' := 22) rfl ?_
  refine ax_sipush dX7_init_22 (by decide) (pc' := 25) rfl ?_
  refine ax_newa (kc := 0) (ks := 0) (N := 144) (n := 32) (v := 144) dX7_init_25 hx_arr rfl (by decide) (SN_len 32 (Nat.le_of_ble_eq_true rfl)) (pc' := 27) rfl ?_
  refine ax_reC (S2 := SN 33) (SN_push h0_32) ?_
  refine ax_putF dX7_init_27 flX7_18 rfl (fun C T N h => by cases h; rfl) rfl (SN_sh 29 33 (by decide) h0_29) rfl (by unfold ax_can; decide) (pc' := 30) rfl ?_
  exact ax_vret dX7_init_30 rfl ⟨rfl, rfl, rfl⟩
def f_mX7_33 (M : ax_Mem) : ax_Mem := ax_up (ax_row (ax_up (ax_row (ax_up (ax_row M 34 (fun _ => 0)) 33 5 34) 35 (fun _ => 0)) 33 6 35) 36 (fun _ => 0)) 33 7 36
set_option maxRecDepth 20000 in
theorem c_X7_33 (E : ax_Env) (l : Launch) (d : Nat) (hd : 1 ≤ d) (M : ax_Mem) : ax_M E l d 3 312 iX7_init [.inr 33] (SN 34) M (fun z0 S2 M2 => z0 = none ∧ S2 = SN 37 ∧ M2 = f_mX7_33 M) := by
  obtain ⟨d, rfl⟩ : ∃ d0, d = d0 + 1 := ⟨d - 1, by omega⟩
  refine ax_enter rfl (by decide) (ls := [some (.inr 33)]) rfl (fun _ hcm => ?_)
  refine ax_aload_n dX7_init_0 rfl rfl (pc' := 1) rfl ?_
  refine ax_oinit dX7_init_1 (by decide) mlX7_3 hx_oi hx_oc (by decide) (pc' := 4) rfl ?_
  refine ax_aload_n dX7_init_4 rfl rfl (pc' := 5) rfl ?_
  refine ax_bipush dX7_init_5 (by decide) (pc' := 7) rfl ?_
  refine ax_newa (kc := 2) (ks := 288) (N := 24) (n := 34) (v := 24) dX7_init_7 hx_arr rfl (by decide) (SN_len 34 (Nat.le_of_ble_eq_true rfl)) (pc' := 9) rfl ?_
  refine ax_reC (S2 := SN 35) (SN_push h0_34) ?_
  refine ax_putF dX7_init_9 flX7_9 rfl (fun C T N h => by cases h; rfl) rfl (SN_sh 33 35 (by decide) h0_33) rfl (by unfold ax_can; decide) (pc' := 12) rfl ?_
  refine ax_aload_n dX7_init_12 rfl rfl (pc' := 13) rfl ?_
  refine ax_sipush dX7_init_13 (by decide) (pc' := 16) rfl ?_
  refine ax_newa (kc := 1) (ks := 144) (N := 144) (n := 35) (v := 144) dX7_init_16 hx_arr rfl (by decide) (SN_len 35 (Nat.le_of_ble_eq_true rfl)) (pc' := 18) rfl ?_
  refine ax_reC (S2 := SN 36) (SN_push h0_35) ?_
  refine ax_putF dX7_init_18 flX7_15 rfl (fun C T N h => by cases h; rfl) rfl (SN_sh 33 36 (by decide) h0_33) rfl (by unfold ax_can; decide) (pc' := 21) rfl ?_
  refine ax_aload_n dX7_init_21 rfl rfl (pc' := 22) rfl ?_
  refine ax_sipush dX7_init_22 (by decide) (pc' := 25) rfl ?_
  refine ax_newa (kc := 0) (ks := 0) (N := 144) (n := 36) (v := 144) dX7_init_25 hx_arr rfl (by decide) (SN_len 36 (Nat.le_of_ble_eq_true rfl)) (pc' := 27) rfl ?_
  refine ax_reC (S2 := SN 37) (SN_push h0_36) ?_
  refine ax_putF dX7_init_27 flX7_18 rfl (fun C T N h => by cases h; rfl) rfl (SN_sh 33 37 (by decide) h0_33) rfl (by unfold ax_can; decide) (pc' := 30) rfl ?_
  exact ax_vret dX7_init_30 rfl ⟨rfl, rfl, rfl⟩
def f_mX9_1 (M : ax_Mem) : ax_Mem := ax_up (f_mX7_33 (ax_row (ax_up (f_mX7_29 (ax_row (ax_up (f_mX7_25 (ax_row (ax_up (f_mX7_21 (ax_row (ax_up (f_mX7_17 (ax_row (ax_up (f_mX7_13 (ax_row (ax_up (f_mX7_9 (ax_row (ax_up (f_mX7_5 (ax_row (f_mfl 3 6 2 (f_mfl 2 6 3 (ax_up (ax_row (ax_up (ax_row (ax_up (ax_row M 2 (fun _ => 0)) 1 4 2) 3 (fun _ => 0)) 1 5 3) 4 (fun _ => -1)) 1 6 4))) 5 (ax_zero 7))) 4 0 5) 9 (ax_zero 7))) 4 1 9) 13 (ax_zero 7))) 4 2 13) 17 (ax_zero 7))) 4 3 17) 21 (ax_zero 7))) 4 4 21) 25 (ax_zero 7))) 4 5 25) 29 (ax_zero 7))) 4 6 29) 33 (ax_zero 7))) 4 7 33
set_option maxRecDepth 20000 in
theorem c_X9_1 (E : ax_Env) (l : Launch) (d : Nat) (hd : 2 ≤ d) (M : ax_Mem) : ax_M E l d 35 2580 iX9_init [.inr 1] (SN 2) M (fun z0 S2 M2 => z0 = none ∧ S2 = SN 37 ∧ M2 = f_mX9_1 M) := by
  obtain ⟨d, rfl⟩ : ∃ d0, d = d0 + 1 := ⟨d - 1, by omega⟩
  refine ax_enter rfl (by decide) (ls := [some (.inr 1), none]) rfl (fun _ hcm => ?_)
  refine ax_aload_n dX9_init_0 rfl rfl (pc' := 1) rfl ?_
  refine ax_oinit dX9_init_1 (by decide) mlX9_3 hx_oi hx_oc (by decide) (pc' := 4) rfl ?_
  refine ax_aload_n dX9_init_4 rfl rfl (pc' := 5) rfl ?_
  refine ax_bipush dX9_init_5 (by decide) (pc' := 7) rfl ?_
  refine ax_newa (kc := 34) (ks := 2574) (N := 6) (n := 2) (v := 6) dX9_init_7 hx_arr rfl (by decide) (SN_len 2 (Nat.le_of_ble_eq_true rfl)) (pc' := 9) rfl ?_
  refine ax_reC (S2 := SN 3) (SN_push h0_2) ?_
  refine ax_putF dX9_init_9 flX9_9 rfl (fun C T N h => by cases h; rfl) rfl (SN_sh 1 3 (by decide) h0_1) rfl (by unfold ax_can; decide) (pc' := 12) rfl ?_
  refine ax_aload_n dX9_init_12 rfl rfl (pc' := 13) rfl ?_
  refine ax_bipush dX9_init_13 (by decide) (pc' := 15) rfl ?_
  refine ax_newa (kc := 33) (ks := 2568) (N := 6) (n := 3) (v := 6) dX9_init_15 hx_arr rfl (by decide) (SN_len 3 (Nat.le_of_ble_eq_true rfl)) (pc' := 17) rfl ?_
  refine ax_reC (S2 := SN 4) (SN_push h0_3) ?_
  refine ax_putF dX9_init_17 flX9_15 rfl (fun C T N h => by cases h; rfl) rfl (SN_sh 1 4 (by decide) h0_1) rfl (by unfold ax_can; decide) (pc' := 20) rfl ?_
  refine ax_aload_n dX9_init_20 rfl rfl (pc' := 21) rfl ?_
  refine ax_bipush dX9_init_21 (by decide) (pc' := 23) rfl ?_
  refine ax_newq (ci := 14) (kc := 32) (ks := 2560) (N := 8) (n := 4) (v := 8) dX9_init_23 (by decide) alX9_18 rfl (by decide) (SN_len 4 (Nat.le_of_ble_eq_true rfl)) (pc' := 26) rfl ?_
  refine ax_reC (S2 := SN 5) (SN_push h0_4) ?_
  refine ax_putF dX9_init_26 flX9_20 rfl (fun C T N h => by cases h; rfl) rfl (SN_sh 1 5 (by decide) h0_1) rfl (by unfold ax_can; decide) (pc' := 29) rfl ?_
  refine ax_aload_n dX9_init_29 rfl rfl (pc' := 30) rfl ?_
  refine ax_getr (v := 2) dX9_init_30 flX9_9 rfl (SN_sh 1 5 (by decide) h0_1) rfl (pc' := 33) rfl ?_
  refine ax_iconst dX9_init_33 (by decide) (pc' := 34) rfl ?_
  refine ax_ins_gen (kc1 := 0) (ks1 := 0) (kc := 32) (ks := 2560) [.inr 2, .inl 3] [] dX9_init_34 mlX9_24 rfl rfl (by decide) (c_fill E l _ 5 2 6 (SN_sh 2 5 (by decide) h0_2) _ (by decide)) (pc' := 37) rfl (fun vv SS MM hq _ _ _ => ?_)
  obtain ⟨rfl, rfl, rfl⟩ := hq
  refine ax_reT (st2 := []) rfl ?_
  refine ax_aload_n dX9_init_37 rfl rfl (pc' := 38) rfl ?_
  refine ax_getr (v := 3) dX9_init_38 flX9_15 rfl (SN_sh 1 5 (by decide) h0_1) rfl (pc' := 41) rfl ?_
  refine ax_iconst dX9_init_41 (by decide) (pc' := 42) rfl ?_
  refine ax_ins_gen (kc1 := 0) (ks1 := 0) (kc := 32) (ks := 2560) [.inr 3, .inl 2] [] dX9_init_42 mlX9_24 rfl rfl (by decide) (c_fill E l _ 5 3 6 (SN_sh 3 5 (by decide) h0_3) _ (by decide)) (pc' := 45) rfl (fun vv SS MM hq _ _ _ => ?_)
  obtain ⟨rfl, rfl, rfl⟩ := hq
  refine ax_reT (st2 := []) rfl ?_
  refine ax_iconst dX9_init_45 (by decide) (pc' := 46) rfl ?_
  refine ax_istore_n dX9_init_46 rfl (by decide) (ls' := [some (.inr 1), some (.inl 0)]) rfl (pc' := 47) rfl ?_
  refine ax_iload_n dX9_init_47 rfl rfl (pc' := 48) rfl ?_
  refine ax_bipush dX9_init_48 (by decide) (pc' := 50) rfl ?_
  refine ax_icmp_ge (tgt := 72) dX9_init_50 (by decide) (pc' := 53) rfl (fun h => absurd h (by decide)) (fun _ => ?_)
  refine ax_aload_n dX9_init_53 rfl rfl (pc' := 54) rfl ?_
  refine ax_getr (v := 4) dX9_init_54 flX9_20 rfl (SN_sh 1 5 (by decide) h0_1) rfl (pc' := 57) rfl ?_
  refine ax_iload_n dX9_init_57 rfl rfl (pc' := 58) rfl ?_
  refine ax_new (I := iX9_init) (kc := 31) (ks := 2552) (n := 5) dX9_init_58 nlX9_18 (SN_len 5 (Nat.le_of_ble_eq_true rfl)) (pc' := 61) rfl ?_
  refine ax_reC (S2 := SN 6) (SN_push h0_5) ?_
  refine ax_dup dX9_init_61 (pc' := 62) rfl ?_
  refine ax_ini (kc1 := 3) (ks1 := 312) (kc := 28) (ks := 2240) [] [.inr 5, .inl 0, .inr 4] dX9_init_62 mlX9_30 (by decide) rfl rfl (by decide) (c_X7_5 E l _ (by omega) _) (pc' := 65) rfl (fun vv SS MM hq _ _ _ => ?_)
  obtain ⟨rfl, rfl, rfl⟩ := hq
  refine ax_reT (st2 := [.inr 5, .inl 0, .inr 4]) rfl ?_
  refine ax_aast dX9_init_65 (SN_sh 4 9 (by decide) h0_4) (by decide) (SN_sh 5 9 (by decide) h0_5) rfl (by decide) (by decide) rfl (by unfold ax_can; decide) (pc' := 66) rfl ?_
  refine ax_iinc dX9_init_66 rfl (by decide) (by decide) (ls' := [some (.inr 1), some (.inl 1)]) rfl (pc' := 69) rfl ?_
  refine ax_goto dX9_init_69 (pc' := 47) (by decide) ?_
  refine ax_iload_n dX9_init_47 rfl rfl (pc' := 48) rfl ?_
  refine ax_bipush dX9_init_48 (by decide) (pc' := 50) rfl ?_
  refine ax_icmp_ge (tgt := 72) dX9_init_50 (by decide) (pc' := 53) rfl (fun h => absurd h (by decide)) (fun _ => ?_)
  refine ax_aload_n dX9_init_53 rfl rfl (pc' := 54) rfl ?_
  refine ax_getr (v := 4) dX9_init_54 flX9_20 rfl (SN_sh 1 9 (by decide) h0_1) rfl (pc' := 57) rfl ?_
  refine ax_iload_n dX9_init_57 rfl rfl (pc' := 58) rfl ?_
  refine ax_new (I := iX9_init) (kc := 27) (ks := 2232) (n := 9) dX9_init_58 nlX9_18 (SN_len 9 (Nat.le_of_ble_eq_true rfl)) (pc' := 61) rfl ?_
  refine ax_reC (S2 := SN 10) (SN_push h0_9) ?_
  refine ax_dup dX9_init_61 (pc' := 62) rfl ?_
  refine ax_ini (kc1 := 3) (ks1 := 312) (kc := 24) (ks := 1920) [] [.inr 9, .inl 1, .inr 4] dX9_init_62 mlX9_30 (by decide) rfl rfl (by decide) (c_X7_9 E l _ (by omega) _) (pc' := 65) rfl (fun vv SS MM hq _ _ _ => ?_)
  obtain ⟨rfl, rfl, rfl⟩ := hq
  refine ax_reT (st2 := [.inr 9, .inl 1, .inr 4]) rfl ?_
  refine ax_aast dX9_init_65 (SN_sh 4 13 (by decide) h0_4) (by decide) (SN_sh 9 13 (by decide) h0_9) rfl (by decide) (by decide) rfl (by unfold ax_can; decide) (pc' := 66) rfl ?_
  refine ax_iinc dX9_init_66 rfl (by decide) (by decide) (ls' := [some (.inr 1), some (.inl 2)]) rfl (pc' := 69) rfl ?_
  refine ax_goto dX9_init_69 (pc' := 47) (by decide) ?_
  refine ax_iload_n dX9_init_47 rfl rfl (pc' := 48) rfl ?_
  refine ax_bipush dX9_init_48 (by decide) (pc' := 50) rfl ?_
  refine ax_icmp_ge (tgt := 72) dX9_init_50 (by decide) (pc' := 53) rfl (fun h => absurd h (by decide)) (fun _ => ?_)
  refine ax_aload_n dX9_init_53 rfl rfl (pc' := 54) rfl ?_
  refine ax_getr (v := 4) dX9_init_54 flX9_20 rfl (SN_sh 1 13 (by decide) h0_1) rfl (pc' := 57) rfl ?_
  refine ax_iload_n dX9_init_57 rfl rfl (pc' := 58) rfl ?_
  refine ax_new (I := iX9_init) (kc := 23) (ks := 1912) (n := 13) dX9_init_58 nlX9_18 (SN_len 13 (Nat.le_of_ble_eq_true rfl)) (pc' := 61) rfl ?_
  refine ax_reC (S2 := SN 14) (SN_push h0_13) ?_
  refine ax_dup dX9_init_61 (pc' := 62) rfl ?_
  refine ax_ini (kc1 := 3) (ks1 := 312) (kc := 20) (ks := 1600) [] [.inr 13, .inl 2, .inr 4] dX9_init_62 mlX9_30 (by decide) rfl rfl (by decide) (c_X7_13 E l _ (by omega) _) (pc' := 65) rfl (fun vv SS MM hq _ _ _ => ?_)
  obtain ⟨rfl, rfl, rfl⟩ := hq
  refine ax_reT (st2 := [.inr 13, .inl 2, .inr 4]) rfl ?_
  refine ax_aast dX9_init_65 (SN_sh 4 17 (by decide) h0_4) (by decide) (SN_sh 13 17 (by decide) h0_13) rfl (by decide) (by decide) rfl (by unfold ax_can; decide) (pc' := 66) rfl ?_
  refine ax_iinc dX9_init_66 rfl (by decide) (by decide) (ls' := [some (.inr 1), some (.inl 3)]) rfl (pc' := 69) rfl ?_
  refine ax_goto dX9_init_69 (pc' := 47) (by decide) ?_
  refine ax_iload_n dX9_init_47 rfl rfl (pc' := 48) rfl ?_
  refine ax_bipush dX9_init_48 (by decide) (pc' := 50) rfl ?_
  refine ax_icmp_ge (tgt := 72) dX9_init_50 (by decide) (pc' := 53) rfl (fun h => absurd h (by decide)) (fun _ => ?_)
  refine ax_aload_n dX9_init_53 rfl rfl (pc' := 54) rfl ?_
  refine ax_getr (v := 4) dX9_init_54 flX9_20 rfl (SN_sh 1 17 (by decide) h0_1) rfl (pc' := 57) rfl ?_
  refine ax_iload_n dX9_init_57 rfl rfl (pc' := 58) rfl ?_
  refine ax_new (I := iX9_init) (kc := 19) (ks := 1592) (n := 17) dX9_init_58 nlX9_18 (SN_len 17 (Nat.le_of_ble_eq_true rfl)) (pc' := 61) rfl ?_
  refine ax_reC (S2 := SN 18) (SN_push h0_17) ?_
  refine ax_dup dX9_init_61 (pc' := 62) rfl ?_
  refine ax_ini (kc1 := 3) (ks1 := 312) (kc := 16) (ks := 1280) [] [.inr 17, .inl 3, .inr 4] dX9_init_62 mlX9_30 (by decide) rfl rfl (by decide) (c_X7_17 E l _ (by omega) _) (pc' := 65) rfl (fun vv SS MM hq _ _ _ => ?_)
  obtain ⟨rfl, rfl, rfl⟩ := hq
  refine ax_reT (st2 := [.inr 17, .inl 3, .inr 4]) rfl ?_
  refine ax_aast dX9_init_65 (SN_sh 4 21 (by decide) h0_4) (by decide) (SN_sh 17 21 (by decide) h0_17) rfl (by decide) (by decide) rfl (by unfold ax_can; decide) (pc' := 66) rfl ?_
  refine ax_iinc dX9_init_66 rfl (by decide) (by decide) (ls' := [some (.inr 1), some (.inl 4)]) rfl (pc' := 69) rfl ?_
  refine ax_goto dX9_init_69 (pc' := 47) (by decide) ?_
  refine ax_iload_n dX9_init_47 rfl rfl (pc' := 48) rfl ?_
  refine ax_bipush dX9_init_48 (by decide) (pc' := 50) rfl ?_
  refine ax_icmp_ge (tgt := 72) dX9_init_50 (by decide) (pc' := 53) rfl (fun h => absurd h (by decide)) (fun _ => ?_)
  refine ax_aload_n dX9_init_53 rfl rfl (pc' := 54) rfl ?_
  refine ax_getr (v := 4) dX9_init_54 flX9_20 rfl (SN_sh 1 21 (by decide) h0_1) rfl (pc' := 57) rfl ?_
  refine ax_iload_n dX9_init_57 rfl rfl (pc' := 58) rfl ?_
  refine ax_new (I := iX9_init) (kc := 15) (ks := 1272) (n := 21) dX9_init_58 nlX9_18 (SN_len 21 (Nat.le_of_ble_eq_true rfl)) (pc' := 61) rfl ?_
  refine ax_reC (S2 := SN 22) (SN_push h0_21) ?_
  refine ax_dup dX9_init_61 (pc' := 62) rfl ?_
  refine ax_ini (kc1 := 3) (ks1 := 312) (kc := 12) (ks := 960) [] [.inr 21, .inl 4, .inr 4] dX9_init_62 mlX9_30 (by decide) rfl rfl (by decide) (c_X7_21 E l _ (by omega) _) (pc' := 65) rfl (fun vv SS MM hq _ _ _ => ?_)
  obtain ⟨rfl, rfl, rfl⟩ := hq
  refine ax_reT (st2 := [.inr 21, .inl 4, .inr 4]) rfl ?_
  refine ax_aast dX9_init_65 (SN_sh 4 25 (by decide) h0_4) (by decide) (SN_sh 21 25 (by decide) h0_21) rfl (by decide) (by decide) rfl (by unfold ax_can; decide) (pc' := 66) rfl ?_
  refine ax_iinc dX9_init_66 rfl (by decide) (by decide) (ls' := [some (.inr 1), some (.inl 5)]) rfl (pc' := 69) rfl ?_
  refine ax_goto dX9_init_69 (pc' := 47) (by decide) ?_
  refine ax_iload_n dX9_init_47 rfl rfl (pc' := 48) rfl ?_
  refine ax_bipush dX9_init_48 (by decide) (pc' := 50) rfl ?_
  refine ax_icmp_ge (tgt := 72) dX9_init_50 (by decide) (pc' := 53) rfl (fun h => absurd h (by decide)) (fun _ => ?_)
  refine ax_aload_n dX9_init_53 rfl rfl (pc' := 54) rfl ?_
  refine ax_getr (v := 4) dX9_init_54 flX9_20 rfl (SN_sh 1 25 (by decide) h0_1) rfl (pc' := 57) rfl ?_
  refine ax_iload_n dX9_init_57 rfl rfl (pc' := 58) rfl ?_
  refine ax_new (I := iX9_init) (kc := 11) (ks := 952) (n := 25) dX9_init_58 nlX9_18 (SN_len 25 (Nat.le_of_ble_eq_true rfl)) (pc' := 61) rfl ?_
  refine ax_reC (S2 := SN 26) (SN_push h0_25) ?_
  refine ax_dup dX9_init_61 (pc' := 62) rfl ?_
  refine ax_ini (kc1 := 3) (ks1 := 312) (kc := 8) (ks := 640) [] [.inr 25, .inl 5, .inr 4] dX9_init_62 mlX9_30 (by decide) rfl rfl (by decide) (c_X7_25 E l _ (by omega) _) (pc' := 65) rfl (fun vv SS MM hq _ _ _ => ?_)
  obtain ⟨rfl, rfl, rfl⟩ := hq
  refine ax_reT (st2 := [.inr 25, .inl 5, .inr 4]) rfl ?_
  refine ax_aast dX9_init_65 (SN_sh 4 29 (by decide) h0_4) (by decide) (SN_sh 25 29 (by decide) h0_25) rfl (by decide) (by decide) rfl (by unfold ax_can; decide) (pc' := 66) rfl ?_
  refine ax_iinc dX9_init_66 rfl (by decide) (by decide) (ls' := [some (.inr 1), some (.inl 6)]) rfl (pc' := 69) rfl ?_
  refine ax_goto dX9_init_69 (pc' := 47) (by decide) ?_
  refine ax_iload_n dX9_init_47 rfl rfl (pc' := 48) rfl ?_
  refine ax_bipush dX9_init_48 (by decide) (pc' := 50) rfl ?_
  refine ax_icmp_ge (tgt := 72) dX9_init_50 (by decide) (pc' := 53) rfl (fun h => absurd h (by decide)) (fun _ => ?_)
  refine ax_aload_n dX9_init_53 rfl rfl (pc' := 54) rfl ?_
  refine ax_getr (v := 4) dX9_init_54 flX9_20 rfl (SN_sh 1 29 (by decide) h0_1) rfl (pc' := 57) rfl ?_
  refine ax_iload_n dX9_init_57 rfl rfl (pc' := 58) rfl ?_
  refine ax_new (I := iX9_init) (kc := 7) (ks := 632) (n := 29) dX9_init_58 nlX9_18 (SN_len 29 (Nat.le_of_ble_eq_true rfl)) (pc' := 61) rfl ?_
  refine ax_reC (S2 := SN 30) (SN_push h0_29) ?_
  refine ax_dup dX9_init_61 (pc' := 62) rfl ?_
  refine ax_ini (kc1 := 3) (ks1 := 312) (kc := 4) (ks := 320) [] [.inr 29, .inl 6, .inr 4] dX9_init_62 mlX9_30 (by decide) rfl rfl (by decide) (c_X7_29 E l _ (by omega) _) (pc' := 65) rfl (fun vv SS MM hq _ _ _ => ?_)
  obtain ⟨rfl, rfl, rfl⟩ := hq
  refine ax_reT (st2 := [.inr 29, .inl 6, .inr 4]) rfl ?_
  refine ax_aast dX9_init_65 (SN_sh 4 33 (by decide) h0_4) (by decide) (SN_sh 29 33 (by decide) h0_29) rfl (by decide) (by decide) rfl (by unfold ax_can; decide) (pc' := 66) rfl ?_
  refine ax_iinc dX9_init_66 rfl (by decide) (by decide) (ls' := [some (.inr 1), some (.inl 7)]) rfl (pc' := 69) rfl ?_
  refine ax_goto dX9_init_69 (pc' := 47) (by decide) ?_
  refine ax_iload_n dX9_init_47 rfl rfl (pc' := 48) rfl ?_
  refine ax_bipush dX9_init_48 (by decide) (pc' := 50) rfl ?_
  refine ax_icmp_ge (tgt := 72) dX9_init_50 (by decide) (pc' := 53) rfl (fun h => absurd h (by decide)) (fun _ => ?_)
  refine ax_aload_n dX9_init_53 rfl rfl (pc' := 54) rfl ?_
  refine ax_getr (v := 4) dX9_init_54 flX9_20 rfl (SN_sh 1 33 (by decide) h0_1) rfl (pc' := 57) rfl ?_
  refine ax_iload_n dX9_init_57 rfl rfl (pc' := 58) rfl ?_
  refine ax_new (I := iX9_init) (kc := 3) (ks := 312) (n := 33) dX9_init_58 nlX9_18 (SN_len 33 (Nat.le_of_ble_eq_true rfl)) (pc' := 61) rfl ?_
  refine ax_reC (S2 := SN 34) (SN_push h0_33) ?_
  refine ax_dup dX9_init_61 (pc' := 62) rfl ?_
  refine ax_ini (kc1 := 3) (ks1 := 312) (kc := 0) (ks := 0) [] [.inr 33, .inl 7, .inr 4] dX9_init_62 mlX9_30 (by decide) rfl rfl (by decide) (c_X7_33 E l _ (by omega) _) (pc' := 65) rfl (fun vv SS MM hq _ _ _ => ?_)
  obtain ⟨rfl, rfl, rfl⟩ := hq
  refine ax_reT (st2 := [.inr 33, .inl 7, .inr 4]) rfl ?_
  refine ax_aast dX9_init_65 (SN_sh 4 37 (by decide) h0_4) (by decide) (SN_sh 33 37 (by decide) h0_33) rfl (by decide) (by decide) rfl (by unfold ax_can; decide) (pc' := 66) rfl ?_
  refine ax_iinc dX9_init_66 rfl (by decide) (by decide) (ls' := [some (.inr 1), some (.inl 8)]) rfl (pc' := 69) rfl ?_
  refine ax_goto dX9_init_69 (pc' := 47) (by decide) ?_
  refine ax_iload_n dX9_init_47 rfl rfl (pc' := 48) rfl ?_
  refine ax_bipush dX9_init_48 (by decide) (pc' := 50) rfl ?_
  refine ax_icmp_ge (tgt := 72) dX9_init_50 (by decide) (pc' := 53) rfl (fun _ => ?_) (fun h => absurd h (by decide))
  exact ax_vret dX9_init_72 rfl ⟨rfl, rfl, rfl⟩
def f_mX0_37 (M : ax_Mem) : ax_Mem := ax_up (ax_row M 38 (fun _ => 0)) 37 0 38
set_option maxRecDepth 20000 in
theorem c_X0_37 (E : ax_Env) (l : Launch) (d : Nat) (hd : 1 ≤ d) (M : ax_Mem) : ax_M E l d 1 1200 iX0_init [.inr 37] (SN 38) M (fun z0 S2 M2 => z0 = none ∧ S2 = SN 39 ∧ M2 = f_mX0_37 M) := by
  obtain ⟨d, rfl⟩ : ∃ d0, d = d0 + 1 := ⟨d - 1, by omega⟩
  refine ax_enter rfl (by decide) (ls := [some (.inr 37)]) rfl (fun _ hcm => ?_)
  refine ax_aload_n dX0_init_0 rfl rfl (pc' := 1) rfl ?_
  refine ax_oinit dX0_init_1 (by decide) mlX0_3 hx_oi hx_oc (by decide) (pc' := 4) rfl ?_
  refine ax_aload_n dX0_init_4 rfl rfl (pc' := 5) rfl ?_
  refine ax_sipush dX0_init_5 (by decide) (pc' := 8) rfl ?_
  refine ax_newa (kc := 0) (ks := 0) (N := 1200) (n := 38) (v := 1200) dX0_init_8 hx_arr rfl (by decide) (SN_len 38 (Nat.le_of_ble_eq_true rfl)) (pc' := 10) rfl ?_
  refine ax_reC (S2 := SN 39) (SN_push h0_38) ?_
  refine ax_putF dX0_init_10 flX0_11 rfl (fun C T N h => by cases h; rfl) rfl (SN_sh 37 39 (by decide) h0_37) rfl (by unfold ax_can; decide) (pc' := 13) rfl ?_
  exact ax_vret dX0_init_13 rfl ⟨rfl, rfl, rfl⟩
def f_mX1_41 (M : ax_Mem) : ax_Mem := ax_up (ax_row (ax_up (ax_row (ax_up (ax_row (ax_up (ax_row (ax_up (ax_row M 42 (fun _ => 0)) 41 1 42) 43 (fun _ => 0)) 41 2 43) 44 (fun _ => 0)) 41 3 44) 45 (fun _ => 0)) 41 5 45) 46 (fun _ => 0)) 41 6 46
set_option maxRecDepth 20000 in
theorem c_X1_41 (E : ax_Env) (l : Launch) (d : Nat) (hd : 1 ≤ d) (M : ax_Mem) : ax_M E l d 5 458 iX1_init [.inr 41] (SN 42) M (fun z0 S2 M2 => z0 = none ∧ S2 = SN 47 ∧ M2 = f_mX1_41 M) := by
  obtain ⟨d, rfl⟩ : ∃ d0, d = d0 + 1 := ⟨d - 1, by omega⟩
  refine ax_enter rfl (by decide) (ls := [some (.inr 41)]) rfl (fun _ hcm => ?_)
  refine ax_aload_n dX1_init_0 rfl rfl (pc' := 1) rfl ?_
  refine ax_oinit dX1_init_1 (by decide) mlX1_3 hx_oi hx_oc (by decide) (pc' := 4) rfl ?_
  refine ax_aload_n dX1_init_4 rfl rfl (pc' := 5) rfl ?_
  refine ax_sipush dX1_init_5 (by decide) (pc' := 8) rfl ?_
  refine ax_newa (kc := 4) (ks := 308) (N := 150) (n := 42) (v := 150) dX1_init_8 hx_arr rfl (by decide) (SN_len 42 (Nat.le_of_ble_eq_true rfl)) (pc' := 10) rfl ?_
  refine ax_reC (S2 := SN 43) (SN_push h0_42) ?_
  refine ax_putF dX1_init_10 flX1_11 rfl (fun C T N h => by cases h; rfl) rfl (SN_sh 41 43 (by decide) h0_41) rfl (by unfold ax_can; decide) (pc' := 13) rfl ?_
  refine ax_aload_n dX1_init_13 rfl rfl (pc' := 14) rfl ?_
  refine ax_sipush dX1_init_14 (by decide) (pc' := 17) rfl ?_
  refine ax_newa (kc := 3) (ks := 158) (N := 150) (n := 43) (v := 150) dX1_init_17 hx_arr rfl (by decide) (SN_len 43 (Nat.le_of_ble_eq_true rfl)) (pc' := 19) rfl ?_
  refine ax_reC (S2 := SN 44) (SN_push h0_43) ?_
  refine ax_putF dX1_init_19 flX1_15 rfl (fun C T N h => by cases h; rfl) rfl (SN_sh 41 44 (by decide) h0_41) rfl (by unfold ax_can; decide) (pc' := 22) rfl ?_
  refine ax_aload_n dX1_init_22 rfl rfl (pc' := 23) rfl ?_
  refine ax_sipush dX1_init_23 (by decide) (pc' := 26) rfl ?_
  refine ax_newa (kc := 2) (ks := 8) (N := 150) (n := 44) (v := 150) dX1_init_26 hx_arr rfl (by decide) (SN_len 44 (Nat.le_of_ble_eq_true rfl)) (pc' := 28) rfl ?_
  refine ax_reC (S2 := SN 45) (SN_push h0_44) ?_
  refine ax_putF dX1_init_28 flX1_18 rfl (fun C T N h => by cases h; rfl) rfl (SN_sh 41 45 (by decide) h0_41) rfl (by unfold ax_can; decide) (pc' := 31) rfl ?_
  refine ax_aload_n dX1_init_31 rfl rfl (pc' := 32) rfl ?_
  refine ax_iconst dX1_init_32 (by decide) (pc' := 33) rfl ?_
  refine ax_newa (kc := 1) (ks := 4) (N := 4) (n := 45) (v := 4) dX1_init_33 hx_arr rfl (by decide) (SN_len 45 (Nat.le_of_ble_eq_true rfl)) (pc' := 35) rfl ?_
  refine ax_reC (S2 := SN 46) (SN_push h0_45) ?_
  refine ax_putF dX1_init_35 flX1_21 rfl (fun C T N h => by cases h; rfl) rfl (SN_sh 41 46 (by decide) h0_41) rfl (by unfold ax_can; decide) (pc' := 38) rfl ?_
  refine ax_aload_n dX1_init_38 rfl rfl (pc' := 39) rfl ?_
  refine ax_iconst dX1_init_39 (by decide) (pc' := 40) rfl ?_
  refine ax_newa (kc := 0) (ks := 0) (N := 4) (n := 46) (v := 4) dX1_init_40 hx_arr rfl (by decide) (SN_len 46 (Nat.le_of_ble_eq_true rfl)) (pc' := 42) rfl ?_
  refine ax_reC (S2 := SN 47) (SN_push h0_46) ?_
  refine ax_putF dX1_init_42 flX1_24 rfl (fun C T N h => by cases h; rfl) rfl (SN_sh 41 47 (by decide) h0_41) rfl (by unfold ax_can; decide) (pc' := 45) rfl ?_
  exact ax_vret dX1_init_45 rfl ⟨rfl, rfl, rfl⟩
def f_mX3_52 (M : ax_Mem) : ax_Mem := ax_up (ax_row M 53 (fun _ => 0)) 52 2 53
set_option maxRecDepth 20000 in
theorem c_X3_52 (E : ax_Env) (l : Launch) (d : Nat) (hd : 1 ≤ d) (M : ax_Mem) : ax_M E l d 1 400 iX3_init [.inr 52] (SN 53) M (fun z0 S2 M2 => z0 = none ∧ S2 = SN 54 ∧ M2 = f_mX3_52 M) := by
  obtain ⟨d, rfl⟩ : ∃ d0, d = d0 + 1 := ⟨d - 1, by omega⟩
  refine ax_enter rfl (by decide) (ls := [some (.inr 52)]) rfl (fun _ hcm => ?_)
  refine ax_aload_n dX3_init_0 rfl rfl (pc' := 1) rfl ?_
  refine ax_oinit dX3_init_1 (by decide) mlX3_5 hx_oi hx_oc (by decide) (pc' := 4) rfl ?_
  refine ax_aload_n dX3_init_4 rfl rfl (pc' := 5) rfl ?_
  refine ax_sipush dX3_init_5 (by decide) (pc' := 8) rfl ?_
  refine ax_newa (kc := 0) (ks := 0) (N := 400) (n := 53) (v := 400) dX3_init_8 hx_arr rfl (by decide) (SN_len 53 (Nat.le_of_ble_eq_true rfl)) (pc' := 10) rfl ?_
  refine ax_reC (S2 := SN 54) (SN_push h0_53) ?_
  refine ax_putF dX3_init_10 flX3_11 rfl (fun C T N h => by cases h; rfl) rfl (SN_sh 52 54 (by decide) h0_52) rfl (by unfold ax_can; decide) (pc' := 13) rfl ?_
  exact ax_vret dX3_init_13 rfl ⟨rfl, rfl, rfl⟩
def f_mX3_54 (M : ax_Mem) : ax_Mem := ax_up (ax_row M 55 (fun _ => 0)) 54 2 55
set_option maxRecDepth 20000 in
theorem c_X3_54 (E : ax_Env) (l : Launch) (d : Nat) (hd : 1 ≤ d) (M : ax_Mem) : ax_M E l d 1 400 iX3_init [.inr 54] (SN 55) M (fun z0 S2 M2 => z0 = none ∧ S2 = SN 56 ∧ M2 = f_mX3_54 M) := by
  obtain ⟨d, rfl⟩ : ∃ d0, d = d0 + 1 := ⟨d - 1, by omega⟩
  refine ax_enter rfl (by decide) (ls := [some (.inr 54)]) rfl (fun _ hcm => ?_)
  refine ax_aload_n dX3_init_0 rfl rfl (pc' := 1) rfl ?_
  refine ax_oinit dX3_init_1 (by decide) mlX3_5 hx_oi hx_oc (by decide) (pc' := 4) rfl ?_
  refine ax_aload_n dX3_init_4 rfl rfl (pc' := 5) rfl ?_
  refine ax_sipush dX3_init_5 (by decide) (pc' := 8) rfl ?_
  refine ax_newa (kc := 0) (ks := 0) (N := 400) (n := 55) (v := 400) dX3_init_8 hx_arr rfl (by decide) (SN_len 55 (Nat.le_of_ble_eq_true rfl)) (pc' := 10) rfl ?_
  refine ax_reC (S2 := SN 56) (SN_push h0_55) ?_
  refine ax_putF dX3_init_10 flX3_11 rfl (fun C T N h => by cases h; rfl) rfl (SN_sh 54 56 (by decide) h0_54) rfl (by unfold ax_can; decide) (pc' := 13) rfl ?_
  exact ax_vret dX3_init_13 rfl ⟨rfl, rfl, rfl⟩
def f_mX3_56 (M : ax_Mem) : ax_Mem := ax_up (ax_row M 57 (fun _ => 0)) 56 2 57
set_option maxRecDepth 20000 in
theorem c_X3_56 (E : ax_Env) (l : Launch) (d : Nat) (hd : 1 ≤ d) (M : ax_Mem) : ax_M E l d 1 400 iX3_init [.inr 56] (SN 57) M (fun z0 S2 M2 => z0 = none ∧ S2 = SN 58 ∧ M2 = f_mX3_56 M) := by
  obtain ⟨d, rfl⟩ : ∃ d0, d = d0 + 1 := ⟨d - 1, by omega⟩
  refine ax_enter rfl (by decide) (ls := [some (.inr 56)]) rfl (fun _ hcm => ?_)
  refine ax_aload_n dX3_init_0 rfl rfl (pc' := 1) rfl ?_
  refine ax_oinit dX3_init_1 (by decide) mlX3_5 hx_oi hx_oc (by decide) (pc' := 4) rfl ?_
  refine ax_aload_n dX3_init_4 rfl rfl (pc' := 5) rfl ?_
  refine ax_sipush dX3_init_5 (by decide) (pc' := 8) rfl ?_
  refine ax_newa (kc := 0) (ks := 0) (N := 400) (n := 57) (v := 400) dX3_init_8 hx_arr rfl (by decide) (SN_len 57 (Nat.le_of_ble_eq_true rfl)) (pc' := 10) rfl ?_
  refine ax_reC (S2 := SN 58) (SN_push h0_57) ?_
  refine ax_putF dX3_init_10 flX3_11 rfl (fun C T N h => by cases h; rfl) rfl (SN_sh 56 58 (by decide) h0_56) rfl (by unfold ax_can; decide) (pc' := 13) rfl ?_
  exact ax_vret dX3_init_13 rfl ⟨rfl, rfl, rfl⟩
def f_mX4_39 (M : ax_Mem) : ax_Mem := ax_up (f_mX3_56 (ax_row (ax_up (f_mX3_54 (ax_row (ax_up (f_mX3_52 (ax_row (ax_up (ax_row (ax_up (ax_row (ax_up (ax_row (ax_up (ax_row (ax_up (ax_row (ax_up (f_mX1_41 (ax_row (ax_up (ax_row M 40 (fun _ => -1)) 39 0 40) 41 (ax_zero 1))) 39 1 41) 47 (fun _ => 0)) 39 2 47) 48 (fun _ => 0)) 39 3 48) 49 (fun _ => 0)) 39 4 49) 50 (fun _ => 0)) 39 5 50) 51 (fun _ => 0)) 39 7 51) 52 (ax_zero 3))) 40 0 52) 54 (ax_zero 3))) 40 1 54) 56 (ax_zero 3))) 40 2 56
set_option maxRecDepth 20000 in
theorem c_X4_39 (E : ax_Env) (l : Launch) (d : Nat) (hd : 2 ≤ d) (M : ax_Mem) : ax_M E l d 18 1728 iX4_init [.inr 39] (SN 40) M (fun z0 S2 M2 => z0 = none ∧ S2 = SN 58 ∧ M2 = f_mX4_39 M) := by
  obtain ⟨d, rfl⟩ : ∃ d0, d = d0 + 1 := ⟨d - 1, by omega⟩
  refine ax_enter rfl (by decide) (ls := [some (.inr 39), none]) rfl (fun _ hcm => ?_)
  refine ax_aload_n dX4_init_0 rfl rfl (pc' := 1) rfl ?_
  refine ax_oinit dX4_init_1 (by decide) mlX4_3 hx_oi hx_oc (by decide) (pc' := 4) rfl ?_
  refine ax_aload_n dX4_init_4 rfl rfl (pc' := 5) rfl ?_
  refine ax_iconst dX4_init_5 (by decide) (pc' := 6) rfl ?_
  refine ax_newq (ci := 16) (kc := 17) (ks := 1725) (N := 3) (n := 40) (v := 3) dX4_init_6 (by decide) alX4_9 rfl (by decide) (SN_len 40 (Nat.le_of_ble_eq_true rfl)) (pc' := 9) rfl ?_
  refine ax_reC (S2 := SN 41) (SN_push h0_40) ?_
  refine ax_putF dX4_init_9 flX4_11 rfl (fun C T N h => by cases h; rfl) rfl (SN_sh 39 41 (by decide) h0_39) rfl (by unfold ax_can; decide) (pc' := 12) rfl ?_
  refine ax_aload_n dX4_init_12 rfl rfl (pc' := 13) rfl ?_
  refine ax_new (I := iX4_init) (kc := 16) (ks := 1718) (n := 41) dX4_init_13 nlX4_17 (SN_len 41 (Nat.le_of_ble_eq_true rfl)) (pc' := 16) rfl ?_
  refine ax_reC (S2 := SN 42) (SN_push h0_41) ?_
  refine ax_dup dX4_init_16 (pc' := 17) rfl ?_
  refine ax_ini (kc1 := 5) (ks1 := 458) (kc := 11) (ks := 1260) [] [.inr 41, .inr 39] dX4_init_17 mlX4_19 (by decide) rfl rfl (by decide) (c_X1_41 E l _ (by omega) _) (pc' := 20) rfl (fun vv SS MM hq _ _ _ => ?_)
  obtain ⟨rfl, rfl, rfl⟩ := hq
  refine ax_reT (st2 := [.inr 41, .inr 39]) rfl ?_
  refine ax_putF dX4_init_20 flX4_20 rfl (fun C T N h => by cases h; rfl) rfl (SN_sh 39 47 (by decide) h0_39) rfl (by unfold ax_can; decide) (pc' := 23) rfl ?_
  refine ax_aload_n dX4_init_23 rfl rfl (pc' := 24) rfl ?_
  refine ax_bipush dX4_init_24 (by decide) (pc' := 26) rfl ?_
  refine ax_newa (kc := 10) (ks := 1232) (N := 28) (n := 47) (v := 28) dX4_init_26 hx_arr rfl (by decide) (SN_len 47 (Nat.le_of_ble_eq_true rfl)) (pc' := 28) rfl ?_
  refine ax_reC (S2 := SN 48) (SN_push h0_47) ?_
  refine ax_putF dX4_init_28 flX4_24 rfl (fun C T N h => by cases h; rfl) rfl (SN_sh 39 48 (by decide) h0_39) rfl (by unfold ax_can; decide) (pc' := 31) rfl ?_
  refine ax_aload_n dX4_init_31 rfl rfl (pc' := 32) rfl ?_
  refine ax_iconst dX4_init_32 (by decide) (pc' := 33) rfl ?_
  refine ax_newa (kc := 9) (ks := 1228) (N := 4) (n := 48) (v := 4) dX4_init_33 hx_arr rfl (by decide) (SN_len 48 (Nat.le_of_ble_eq_true rfl)) (pc' := 35) rfl ?_
  refine ax_reC (S2 := SN 49) (SN_push h0_48) ?_
  refine ax_putF dX4_init_35 flX4_28 rfl (fun C T N h => by cases h; rfl) rfl (SN_sh 39 49 (by decide) h0_39) rfl (by unfold ax_can; decide) (pc' := 38) rfl ?_
  refine ax_aload_n dX4_init_38 rfl rfl (pc' := 39) rfl ?_
  refine ax_bipush dX4_init_39 (by decide) (pc' := 41) rfl ?_
  refine ax_newa (kc := 8) (ks := 1222) (N := 6) (n := 49) (v := 6) dX4_init_41 hx_arr rfl (by decide) (SN_len 49 (Nat.le_of_ble_eq_true rfl)) (pc' := 43) rfl ?_
  refine ax_reC (S2 := SN 50) (SN_push h0_49) ?_
  refine ax_putF dX4_init_43 flX4_31 rfl (fun C T N h => by cases h; rfl) rfl (SN_sh 39 50 (by decide) h0_39) rfl (by unfold ax_can; decide) (pc' := 46) rfl ?_
  refine ax_aload_n dX4_init_46 rfl rfl (pc' := 47) rfl ?_
  refine ax_bipush dX4_init_47 (by decide) (pc' := 49) rfl ?_
  refine ax_newa (kc := 7) (ks := 1216) (N := 6) (n := 50) (v := 6) dX4_init_49 hx_arr rfl (by decide) (SN_len 50 (Nat.le_of_ble_eq_true rfl)) (pc' := 51) rfl ?_
  refine ax_reC (S2 := SN 51) (SN_push h0_50) ?_
  refine ax_putF dX4_init_51 flX4_34 rfl (fun C T N h => by cases h; rfl) rfl (SN_sh 39 51 (by decide) h0_39) rfl (by unfold ax_can; decide) (pc' := 54) rfl ?_
  refine ax_aload_n dX4_init_54 rfl rfl (pc' := 55) rfl ?_
  refine ax_bipush dX4_init_55 (by decide) (pc' := 57) rfl ?_
  refine ax_newa (kc := 6) (ks := 1209) (N := 7) (n := 51) (v := 7) dX4_init_57 hx_arr rfl (by decide) (SN_len 51 (Nat.le_of_ble_eq_true rfl)) (pc' := 59) rfl ?_
  refine ax_reC (S2 := SN 52) (SN_push h0_51) ?_
  refine ax_putF dX4_init_59 flX4_37 rfl (fun C T N h => by cases h; rfl) rfl (SN_sh 39 52 (by decide) h0_39) rfl (by unfold ax_can; decide) (pc' := 62) rfl ?_
  refine ax_iconst dX4_init_62 (by decide) (pc' := 63) rfl ?_
  refine ax_istore_n dX4_init_63 rfl (by decide) (ls' := [some (.inr 39), some (.inl 0)]) rfl (pc' := 64) rfl ?_
  refine ax_iload_n dX4_init_64 rfl rfl (pc' := 65) rfl ?_
  refine ax_iconst dX4_init_65 (by decide) (pc' := 66) rfl ?_
  refine ax_icmp_ge (tgt := 88) dX4_init_66 (by decide) (pc' := 69) rfl (fun h => absurd h (by decide)) (fun _ => ?_)
  refine ax_aload_n dX4_init_69 rfl rfl (pc' := 70) rfl ?_
  refine ax_getr (v := 40) dX4_init_70 flX4_11 rfl (SN_sh 39 52 (by decide) h0_39) rfl (pc' := 73) rfl ?_
  refine ax_iload_n dX4_init_73 rfl rfl (pc' := 74) rfl ?_
  refine ax_new (I := iX4_init) (kc := 5) (ks := 1206) (n := 52) dX4_init_74 nlX4_9 (SN_len 52 (Nat.le_of_ble_eq_true rfl)) (pc' := 77) rfl ?_
  refine ax_reC (S2 := SN 53) (SN_push h0_52) ?_
  refine ax_dup dX4_init_77 (pc' := 78) rfl ?_
  refine ax_ini (kc1 := 1) (ks1 := 400) (kc := 4) (ks := 806) [] [.inr 52, .inl 0, .inr 40] dX4_init_78 mlX4_40 (by decide) rfl rfl (by decide) (c_X3_52 E l _ (by omega) _) (pc' := 81) rfl (fun vv SS MM hq _ _ _ => ?_)
  obtain ⟨rfl, rfl, rfl⟩ := hq
  refine ax_reT (st2 := [.inr 52, .inl 0, .inr 40]) rfl ?_
  refine ax_aast dX4_init_81 (SN_sh 40 54 (by decide) h0_40) (by decide) (SN_sh 52 54 (by decide) h0_52) rfl (by decide) (by decide) rfl (by unfold ax_can; decide) (pc' := 82) rfl ?_
  refine ax_iinc dX4_init_82 rfl (by decide) (by decide) (ls' := [some (.inr 39), some (.inl 1)]) rfl (pc' := 85) rfl ?_
  refine ax_goto dX4_init_85 (pc' := 64) (by decide) ?_
  refine ax_iload_n dX4_init_64 rfl rfl (pc' := 65) rfl ?_
  refine ax_iconst dX4_init_65 (by decide) (pc' := 66) rfl ?_
  refine ax_icmp_ge (tgt := 88) dX4_init_66 (by decide) (pc' := 69) rfl (fun h => absurd h (by decide)) (fun _ => ?_)
  refine ax_aload_n dX4_init_69 rfl rfl (pc' := 70) rfl ?_
  refine ax_getr (v := 40) dX4_init_70 flX4_11 rfl (SN_sh 39 54 (by decide) h0_39) rfl (pc' := 73) rfl ?_
  refine ax_iload_n dX4_init_73 rfl rfl (pc' := 74) rfl ?_
  refine ax_new (I := iX4_init) (kc := 3) (ks := 803) (n := 54) dX4_init_74 nlX4_9 (SN_len 54 (Nat.le_of_ble_eq_true rfl)) (pc' := 77) rfl ?_
  refine ax_reC (S2 := SN 55) (SN_push h0_54) ?_
  refine ax_dup dX4_init_77 (pc' := 78) rfl ?_
  refine ax_ini (kc1 := 1) (ks1 := 400) (kc := 2) (ks := 403) [] [.inr 54, .inl 1, .inr 40] dX4_init_78 mlX4_40 (by decide) rfl rfl (by decide) (c_X3_54 E l _ (by omega) _) (pc' := 81) rfl (fun vv SS MM hq _ _ _ => ?_)
  obtain ⟨rfl, rfl, rfl⟩ := hq
  refine ax_reT (st2 := [.inr 54, .inl 1, .inr 40]) rfl ?_
  refine ax_aast dX4_init_81 (SN_sh 40 56 (by decide) h0_40) (by decide) (SN_sh 54 56 (by decide) h0_54) rfl (by decide) (by decide) rfl (by unfold ax_can; decide) (pc' := 82) rfl ?_
  refine ax_iinc dX4_init_82 rfl (by decide) (by decide) (ls' := [some (.inr 39), some (.inl 2)]) rfl (pc' := 85) rfl ?_
  refine ax_goto dX4_init_85 (pc' := 64) (by decide) ?_
  refine ax_iload_n dX4_init_64 rfl rfl (pc' := 65) rfl ?_
  refine ax_iconst dX4_init_65 (by decide) (pc' := 66) rfl ?_
  refine ax_icmp_ge (tgt := 88) dX4_init_66 (by decide) (pc' := 69) rfl (fun h => absurd h (by decide)) (fun _ => ?_)
  refine ax_aload_n dX4_init_69 rfl rfl (pc' := 70) rfl ?_
  refine ax_getr (v := 40) dX4_init_70 flX4_11 rfl (SN_sh 39 56 (by decide) h0_39) rfl (pc' := 73) rfl ?_
  refine ax_iload_n dX4_init_73 rfl rfl (pc' := 74) rfl ?_
  refine ax_new (I := iX4_init) (kc := 1) (ks := 400) (n := 56) dX4_init_74 nlX4_9 (SN_len 56 (Nat.le_of_ble_eq_true rfl)) (pc' := 77) rfl ?_
  refine ax_reC (S2 := SN 57) (SN_push h0_56) ?_
  refine ax_dup dX4_init_77 (pc' := 78) rfl ?_
  refine ax_ini (kc1 := 1) (ks1 := 400) (kc := 0) (ks := 0) [] [.inr 56, .inl 2, .inr 40] dX4_init_78 mlX4_40 (by decide) rfl rfl (by decide) (c_X3_56 E l _ (by omega) _) (pc' := 81) rfl (fun vv SS MM hq _ _ _ => ?_)
  obtain ⟨rfl, rfl, rfl⟩ := hq
  refine ax_reT (st2 := [.inr 56, .inl 2, .inr 40]) rfl ?_
  refine ax_aast dX4_init_81 (SN_sh 40 58 (by decide) h0_40) (by decide) (SN_sh 56 58 (by decide) h0_56) rfl (by decide) (by decide) rfl (by unfold ax_can; decide) (pc' := 82) rfl ?_
  refine ax_iinc dX4_init_82 rfl (by decide) (by decide) (ls' := [some (.inr 39), some (.inl 3)]) rfl (pc' := 85) rfl ?_
  refine ax_goto dX4_init_85 (pc' := 64) (by decide) ?_
  refine ax_iload_n dX4_init_64 rfl rfl (pc' := 65) rfl ?_
  refine ax_iconst dX4_init_65 (by decide) (pc' := 66) rfl ?_
  refine ax_icmp_ge (tgt := 88) dX4_init_66 (by decide) (pc' := 69) rfl (fun _ => ?_) (fun h => absurd h (by decide))
  exact ax_vret dX4_init_88 rfl ⟨rfl, rfl, rfl⟩
def f_mX8_58 (M : ax_Mem) : ax_Mem := ax_up (ax_row (ax_up (ax_row (ax_up (ax_row (ax_up (ax_up (ax_row M 59 (fun _ => 0)) 58 0 59) 58 3 (-1)) 60 (fun _ => 0)) 58 4 60) 61 (fun _ => 0)) 58 5 61) 62 (fun _ => 0)) 58 6 62
set_option maxRecDepth 20000 in
theorem c_X8_58 (E : ax_Env) (l : Launch) (d : Nat) (hd : 1 ≤ d) (M : ax_Mem) : ax_M E l d 4 1603 iX8_init [.inr 58] (SN 59) M (fun z0 S2 M2 => z0 = none ∧ S2 = SN 63 ∧ M2 = f_mX8_58 M) := by
  obtain ⟨d, rfl⟩ : ∃ d0, d = d0 + 1 := ⟨d - 1, by omega⟩
  refine ax_enter rfl (by decide) (ls := [some (.inr 58)]) rfl (fun _ hcm => ?_)
  refine ax_aload_n dX8_init_0 rfl rfl (pc' := 1) rfl ?_
  refine ax_oinit dX8_init_1 (by decide) mlX8_3 hx_oi hx_oc (by decide) (pc' := 4) rfl ?_
  refine ax_aload_n dX8_init_4 rfl rfl (pc' := 5) rfl ?_
  refine ax_sipush dX8_init_5 (by decide) (pc' := 8) rfl ?_
  refine ax_newa (kc := 3) (ks := 1203) (N := 400) (n := 59) (v := 400) dX8_init_8 hx_arr rfl (by decide) (SN_len 59 (Nat.le_of_ble_eq_true rfl)) (pc' := 10) rfl ?_
  refine ax_reC (S2 := SN 60) (SN_push h0_59) ?_
  refine ax_putF dX8_init_10 flX8_9 rfl (fun C T N h => by cases h; rfl) rfl (SN_sh 58 60 (by decide) h0_58) rfl (by unfold ax_can; decide) (pc' := 13) rfl ?_
  refine ax_aload_n dX8_init_13 rfl rfl (pc' := 14) rfl ?_
  refine ax_iconst dX8_init_14 (by decide) (pc' := 15) rfl ?_
  refine ax_puti dX8_init_15 flX8_15 (Or.inl rfl) (SN_sh 58 60 (by decide) h0_58) rfl (pc' := 18) rfl ?_
  refine ax_aload_n dX8_init_18 rfl rfl (pc' := 19) rfl ?_
  refine ax_sipush dX8_init_19 (by decide) (pc' := 22) rfl ?_
  refine ax_newa (kc := 2) (ks := 802) (N := 401) (n := 60) (v := 401) dX8_init_22 hx_arr rfl (by decide) (SN_len 60 (Nat.le_of_ble_eq_true rfl)) (pc' := 24) rfl ?_
  refine ax_reC (S2 := SN 61) (SN_push h0_60) ?_
  refine ax_putF dX8_init_24 flX8_19 rfl (fun C T N h => by cases h; rfl) rfl (SN_sh 58 61 (by decide) h0_58) rfl (by unfold ax_can; decide) (pc' := 27) rfl ?_
  refine ax_aload_n dX8_init_27 rfl rfl (pc' := 28) rfl ?_
  refine ax_sipush dX8_init_28 (by decide) (pc' := 31) rfl ?_
  refine ax_newa (kc := 1) (ks := 401) (N := 401) (n := 61) (v := 401) dX8_init_31 hx_arr rfl (by decide) (SN_len 61 (Nat.le_of_ble_eq_true rfl)) (pc' := 33) rfl ?_
  refine ax_reC (S2 := SN 62) (SN_push h0_61) ?_
  refine ax_putF dX8_init_33 flX8_22 rfl (fun C T N h => by cases h; rfl) rfl (SN_sh 58 62 (by decide) h0_58) rfl (by unfold ax_can; decide) (pc' := 36) rfl ?_
  refine ax_aload_n dX8_init_36 rfl rfl (pc' := 37) rfl ?_
  refine ax_sipush dX8_init_37 (by decide) (pc' := 40) rfl ?_
  refine ax_newa (kc := 0) (ks := 0) (N := 401) (n := 62) (v := 401) dX8_init_40 hx_arr rfl (by decide) (SN_len 62 (Nat.le_of_ble_eq_true rfl)) (pc' := 42) rfl ?_
  refine ax_reC (S2 := SN 63) (SN_push h0_62) ?_
  refine ax_putF dX8_init_42 flX8_25 rfl (fun C T N h => by cases h; rfl) rfl (SN_sh 58 63 (by decide) h0_58) rfl (by unfold ax_can; decide) (pc' := 45) rfl ?_
  exact ax_vret dX8_init_45 rfl ⟨rfl, rfl, rfl⟩
def f_mX3_63 (M : ax_Mem) : ax_Mem := ax_up (ax_row M 64 (fun _ => 0)) 63 2 64
set_option maxRecDepth 20000 in
theorem c_X3_63 (E : ax_Env) (l : Launch) (d : Nat) (hd : 1 ≤ d) (M : ax_Mem) : ax_M E l d 1 400 iX3_init [.inr 63] (SN 64) M (fun z0 S2 M2 => z0 = none ∧ S2 = SN 65 ∧ M2 = f_mX3_63 M) := by
  obtain ⟨d, rfl⟩ : ∃ d0, d = d0 + 1 := ⟨d - 1, by omega⟩
  refine ax_enter rfl (by decide) (ls := [some (.inr 63)]) rfl (fun _ hcm => ?_)
  refine ax_aload_n dX3_init_0 rfl rfl (pc' := 1) rfl ?_
  refine ax_oinit dX3_init_1 (by decide) mlX3_5 hx_oi hx_oc (by decide) (pc' := 4) rfl ?_
  refine ax_aload_n dX3_init_4 rfl rfl (pc' := 5) rfl ?_
  refine ax_sipush dX3_init_5 (by decide) (pc' := 8) rfl ?_
  refine ax_newa (kc := 0) (ks := 0) (N := 400) (n := 64) (v := 400) dX3_init_8 hx_arr rfl (by decide) (SN_len 64 (Nat.le_of_ble_eq_true rfl)) (pc' := 10) rfl ?_
  refine ax_reC (S2 := SN 65) (SN_push h0_64) ?_
  refine ax_putF dX3_init_10 flX3_11 rfl (fun C T N h => by cases h; rfl) rfl (SN_sh 63 65 (by decide) h0_63) rfl (by unfold ax_can; decide) (pc' := 13) rfl ?_
  exact ax_vret dX3_init_13 rfl ⟨rfl, rfl, rfl⟩
def f_mX1_65 (M : ax_Mem) : ax_Mem := ax_up (ax_row (ax_up (ax_row (ax_up (ax_row (ax_up (ax_row (ax_up (ax_row M 66 (fun _ => 0)) 65 1 66) 67 (fun _ => 0)) 65 2 67) 68 (fun _ => 0)) 65 3 68) 69 (fun _ => 0)) 65 5 69) 70 (fun _ => 0)) 65 6 70
set_option maxRecDepth 20000 in
theorem c_X1_65 (E : ax_Env) (l : Launch) (d : Nat) (hd : 1 ≤ d) (M : ax_Mem) : ax_M E l d 5 458 iX1_init [.inr 65] (SN 66) M (fun z0 S2 M2 => z0 = none ∧ S2 = SN 71 ∧ M2 = f_mX1_65 M) := by
  obtain ⟨d, rfl⟩ : ∃ d0, d = d0 + 1 := ⟨d - 1, by omega⟩
  refine ax_enter rfl (by decide) (ls := [some (.inr 65)]) rfl (fun _ hcm => ?_)
  refine ax_aload_n dX1_init_0 rfl rfl (pc' := 1) rfl ?_
  refine ax_oinit dX1_init_1 (by decide) mlX1_3 hx_oi hx_oc (by decide) (pc' := 4) rfl ?_
  refine ax_aload_n dX1_init_4 rfl rfl (pc' := 5) rfl ?_
  refine ax_sipush dX1_init_5 (by decide) (pc' := 8) rfl ?_
  refine ax_newa (kc := 4) (ks := 308) (N := 150) (n := 66) (v := 150) dX1_init_8 hx_arr rfl (by decide) (SN_len 66 (Nat.le_of_ble_eq_true rfl)) (pc' := 10) rfl ?_
  refine ax_reC (S2 := SN 67) (SN_push h0_66) ?_
  refine ax_putF dX1_init_10 flX1_11 rfl (fun C T N h => by cases h; rfl) rfl (SN_sh 65 67 (by decide) h0_65) rfl (by unfold ax_can; decide) (pc' := 13) rfl ?_
  refine ax_aload_n dX1_init_13 rfl rfl (pc' := 14) rfl ?_
  refine ax_sipush dX1_init_14 (by decide) (pc' := 17) rfl ?_
  refine ax_newa (kc := 3) (ks := 158) (N := 150) (n := 67) (v := 150) dX1_init_17 hx_arr rfl (by decide) (SN_len 67 (Nat.le_of_ble_eq_true rfl)) (pc' := 19) rfl ?_
  refine ax_reC (S2 := SN 68) (SN_push h0_67) ?_
  refine ax_putF dX1_init_19 flX1_15 rfl (fun C T N h => by cases h; rfl) rfl (SN_sh 65 68 (by decide) h0_65) rfl (by unfold ax_can; decide) (pc' := 22) rfl ?_
  refine ax_aload_n dX1_init_22 rfl rfl (pc' := 23) rfl ?_
  refine ax_sipush dX1_init_23 (by decide) (pc' := 26) rfl ?_
  refine ax_newa (kc := 2) (ks := 8) (N := 150) (n := 68) (v := 150) dX1_init_26 hx_arr rfl (by decide) (SN_len 68 (Nat.le_of_ble_eq_true rfl)) (pc' := 28) rfl ?_
  refine ax_reC (S2 := SN 69) (SN_push h0_68) ?_
  refine ax_putF dX1_init_28 flX1_18 rfl (fun C T N h => by cases h; rfl) rfl (SN_sh 65 69 (by decide) h0_65) rfl (by unfold ax_can; decide) (pc' := 31) rfl ?_
  refine ax_aload_n dX1_init_31 rfl rfl (pc' := 32) rfl ?_
  refine ax_iconst dX1_init_32 (by decide) (pc' := 33) rfl ?_
  refine ax_newa (kc := 1) (ks := 4) (N := 4) (n := 69) (v := 4) dX1_init_33 hx_arr rfl (by decide) (SN_len 69 (Nat.le_of_ble_eq_true rfl)) (pc' := 35) rfl ?_
  refine ax_reC (S2 := SN 70) (SN_push h0_69) ?_
  refine ax_putF dX1_init_35 flX1_21 rfl (fun C T N h => by cases h; rfl) rfl (SN_sh 65 70 (by decide) h0_65) rfl (by unfold ax_can; decide) (pc' := 38) rfl ?_
  refine ax_aload_n dX1_init_38 rfl rfl (pc' := 39) rfl ?_
  refine ax_iconst dX1_init_39 (by decide) (pc' := 40) rfl ?_
  refine ax_newa (kc := 0) (ks := 0) (N := 4) (n := 70) (v := 4) dX1_init_40 hx_arr rfl (by decide) (SN_len 70 (Nat.le_of_ble_eq_true rfl)) (pc' := 42) rfl ?_
  refine ax_reC (S2 := SN 71) (SN_push h0_70) ?_
  refine ax_putF dX1_init_42 flX1_24 rfl (fun C T N h => by cases h; rfl) rfl (SN_sh 65 71 (by decide) h0_65) rfl (by unfold ax_can; decide) (pc' := 45) rfl ?_
  exact ax_vret dX1_init_45 rfl ⟨rfl, rfl, rfl⟩
def f_mX2_71 (M : ax_Mem) : ax_Mem := ax_up (ax_up (ax_row (ax_up (ax_row (ax_up (ax_row M 72 (fun _ => 0)) 71 4 72) 73 (fun _ => 0)) 71 5 73) 74 (fun _ => 0)) 71 6 74) 71 0 39
set_option maxRecDepth 20000 in
theorem c_X2_71 (E : ax_Env) (l : Launch) (d : Nat) (hd : 1 ≤ d) (M : ax_Mem) : ax_M E l d 3 1056 iX2_init [.inr 71, .inr 39] (SN 72) M (fun z0 S2 M2 => z0 = none ∧ S2 = SN 75 ∧ M2 = f_mX2_71 M) := by
  obtain ⟨d, rfl⟩ : ∃ d0, d = d0 + 1 := ⟨d - 1, by omega⟩
  refine ax_enter rfl (by decide) (ls := [some (.inr 71), some (.inr 39)]) rfl (fun _ hcm => ?_)
  refine ax_aload_n dX2_init_0 rfl rfl (pc' := 1) rfl ?_
  refine ax_oinit dX2_init_1 (by decide) mlX2_3 hx_oi hx_oc (by decide) (pc' := 4) rfl ?_
  refine ax_aload_n dX2_init_4 rfl rfl (pc' := 5) rfl ?_
  refine ax_bipush dX2_init_5 (by decide) (pc' := 7) rfl ?_
  refine ax_newa (kc := 2) (ks := 1048) (N := 8) (n := 72) (v := 8) dX2_init_7 hx_arr rfl (by decide) (SN_len 72 (Nat.le_of_ble_eq_true rfl)) (pc' := 9) rfl ?_
  refine ax_reC (S2 := SN 73) (SN_push h0_72) ?_
  refine ax_putF dX2_init_9 flX2_11 rfl (fun C T N h => by cases h; rfl) rfl (SN_sh 71 73 (by decide) h0_71) rfl (by unfold ax_can; decide) (pc' := 12) rfl ?_
  refine ax_aload_n dX2_init_12 rfl rfl (pc' := 13) rfl ?_
  refine ax_bipush dX2_init_13 (by decide) (pc' := 15) rfl ?_
  refine ax_newa (kc := 1) (ks := 1000) (N := 48) (n := 73) (v := 48) dX2_init_15 hx_arr rfl (by decide) (SN_len 73 (Nat.le_of_ble_eq_true rfl)) (pc' := 17) rfl ?_
  refine ax_reC (S2 := SN 74) (SN_push h0_73) ?_
  refine ax_putF dX2_init_17 flX2_17 rfl (fun C T N h => by cases h; rfl) rfl (SN_sh 71 74 (by decide) h0_71) rfl (by unfold ax_can; decide) (pc' := 20) rfl ?_
  refine ax_aload_n dX2_init_20 rfl rfl (pc' := 21) rfl ?_
  refine ax_sipush dX2_init_21 (by decide) (pc' := 24) rfl ?_
  refine ax_newa (kc := 0) (ks := 0) (N := 1000) (n := 74) (v := 1000) dX2_init_24 hx_arr rfl (by decide) (SN_len 74 (Nat.le_of_ble_eq_true rfl)) (pc' := 26) rfl ?_
  refine ax_reC (S2 := SN 75) (SN_push h0_74) ?_
  refine ax_putF dX2_init_26 flX2_20 rfl (fun C T N h => by cases h; rfl) rfl (SN_sh 71 75 (by decide) h0_71) rfl (by unfold ax_can; decide) (pc' := 29) rfl ?_
  refine ax_aload_n dX2_init_29 rfl rfl (pc' := 30) rfl ?_
  refine ax_aload_n dX2_init_30 rfl rfl (pc' := 31) rfl ?_
  refine ax_putF dX2_init_31 flX2_23 rfl (fun C T N h => by cases h; rfl) rfl (SN_sh 71 75 (by decide) h0_71) rfl (by unfold ax_can; decide) (pc' := 34) rfl ?_
  exact ax_vret dX2_init_34 rfl ⟨rfl, rfl, rfl⟩
def f_mX6_75 (M : ax_Mem) : ax_Mem := ax_up (ax_up (ax_row (ax_up (ax_row M 76 (fun _ => 0)) 75 1 76) 77 (fun _ => 0)) 75 2 77) 75 0 71
set_option maxRecDepth 20000 in
theorem c_X6_75 (E : ax_Env) (l : Launch) (d : Nat) (hd : 1 ≤ d) (M : ax_Mem) : ax_M E l d 2 48 iX6_init [.inr 75, .inr 71] (SN 76) M (fun z0 S2 M2 => z0 = none ∧ S2 = SN 78 ∧ M2 = f_mX6_75 M) := by
  obtain ⟨d, rfl⟩ : ∃ d0, d = d0 + 1 := ⟨d - 1, by omega⟩
  refine ax_enter rfl (by decide) (ls := [some (.inr 75), some (.inr 71)]) rfl (fun _ hcm => ?_)
  refine ax_aload_n dX6_init_0 rfl rfl (pc' := 1) rfl ?_
  refine ax_oinit dX6_init_1 (by decide) mlX6_3 hx_oi hx_oc (by decide) (pc' := 4) rfl ?_
  refine ax_aload_n dX6_init_4 rfl rfl (pc' := 5) rfl ?_
  refine ax_bipush dX6_init_5 (by decide) (pc' := 7) rfl ?_
  refine ax_newa (kc := 1) (ks := 24) (N := 24) (n := 76) (v := 24) dX6_init_7 hx_arr rfl (by decide) (SN_len 76 (Nat.le_of_ble_eq_true rfl)) (pc' := 9) rfl ?_
  refine ax_reC (S2 := SN 77) (SN_push h0_76) ?_
  refine ax_putF dX6_init_9 flX6_9 rfl (fun C T N h => by cases h; rfl) rfl (SN_sh 75 77 (by decide) h0_75) rfl (by unfold ax_can; decide) (pc' := 12) rfl ?_
  refine ax_aload_n dX6_init_12 rfl rfl (pc' := 13) rfl ?_
  refine ax_bipush dX6_init_13 (by decide) (pc' := 15) rfl ?_
  refine ax_newa (kc := 0) (ks := 0) (N := 24) (n := 77) (v := 24) dX6_init_15 hx_arr rfl (by decide) (SN_len 77 (Nat.le_of_ble_eq_true rfl)) (pc' := 17) rfl ?_
  refine ax_reC (S2 := SN 78) (SN_push h0_77) ?_
  refine ax_putF dX6_init_17 flX6_15 rfl (fun C T N h => by cases h; rfl) rfl (SN_sh 75 78 (by decide) h0_75) rfl (by unfold ax_can; decide) (pc' := 20) rfl ?_
  refine ax_aload_n dX6_init_20 rfl rfl (pc' := 21) rfl ?_
  refine ax_aload_n dX6_init_21 rfl rfl (pc' := 22) rfl ?_
  refine ax_putF dX6_init_22 flX6_18 rfl (fun C T N h => by cases h; rfl) rfl (SN_sh 75 78 (by decide) h0_75) rfl (by unfold ax_can; decide) (pc' := 25) rfl ?_
  exact ax_vret dX6_init_25 rfl ⟨rfl, rfl, rfl⟩
def f_mX7_78 (M : ax_Mem) : ax_Mem := ax_up (ax_row (ax_up (ax_row (ax_up (ax_row M 79 (fun _ => 0)) 78 5 79) 80 (fun _ => 0)) 78 6 80) 81 (fun _ => 0)) 78 7 81
set_option maxRecDepth 20000 in
theorem c_X7_78 (E : ax_Env) (l : Launch) (d : Nat) (hd : 1 ≤ d) (M : ax_Mem) : ax_M E l d 3 312 iX7_init [.inr 78] (SN 79) M (fun z0 S2 M2 => z0 = none ∧ S2 = SN 82 ∧ M2 = f_mX7_78 M) := by
  obtain ⟨d, rfl⟩ : ∃ d0, d = d0 + 1 := ⟨d - 1, by omega⟩
  refine ax_enter rfl (by decide) (ls := [some (.inr 78)]) rfl (fun _ hcm => ?_)
  refine ax_aload_n dX7_init_0 rfl rfl (pc' := 1) rfl ?_
  refine ax_oinit dX7_init_1 (by decide) mlX7_3 hx_oi hx_oc (by decide) (pc' := 4) rfl ?_
  refine ax_aload_n dX7_init_4 rfl rfl (pc' := 5) rfl ?_
  refine ax_bipush dX7_init_5 (by decide) (pc' := 7) rfl ?_
  refine ax_newa (kc := 2) (ks := 288) (N := 24) (n := 79) (v := 24) dX7_init_7 hx_arr rfl (by decide) (SN_len 79 (Nat.le_of_ble_eq_true rfl)) (pc' := 9) rfl ?_
  refine ax_reC (S2 := SN 80) (SN_push h0_79) ?_
  refine ax_putF dX7_init_9 flX7_9 rfl (fun C T N h => by cases h; rfl) rfl (SN_sh 78 80 (by decide) h0_78) rfl (by unfold ax_can; decide) (pc' := 12) rfl ?_
  refine ax_aload_n dX7_init_12 rfl rfl (pc' := 13) rfl ?_
  refine ax_sipush dX7_init_13 (by decide) (pc' := 16) rfl ?_
  refine ax_newa (kc := 1) (ks := 144) (N := 144) (n := 80) (v := 144) dX7_init_16 hx_arr rfl (by decide) (SN_len 80 (Nat.le_of_ble_eq_true rfl)) (pc' := 18) rfl ?_
  refine ax_reC (S2 := SN 81) (SN_push h0_80) ?_
  refine ax_putF dX7_init_18 flX7_15 rfl (fun C T N h => by cases h; rfl) rfl (SN_sh 78 81 (by decide) h0_78) rfl (by unfold ax_can; decide) (pc' := 21) rfl ?_
  refine ax_aload_n dX7_init_21 rfl rfl (pc' := 22) rfl ?_
  refine ax_sipush dX7_init_22 (by decide) (pc' := 25) rfl ?_
  refine ax_newa (kc := 0) (ks := 0) (N := 144) (n := 81) (v := 144) dX7_init_25 hx_arr rfl (by decide) (SN_len 81 (Nat.le_of_ble_eq_true rfl)) (pc' := 27) rfl ?_
  refine ax_reC (S2 := SN 82) (SN_push h0_81) ?_
  refine ax_putF dX7_init_27 flX7_18 rfl (fun C T N h => by cases h; rfl) rfl (SN_sh 78 82 (by decide) h0_78) rfl (by unfold ax_can; decide) (pc' := 30) rfl ?_
  exact ax_vret dX7_init_30 rfl ⟨rfl, rfl, rfl⟩
def f_mX10_82 (M : ax_Mem) : ax_Mem := ax_up (ax_row (ax_up (ax_row (ax_up (ax_row (ax_up (ax_row (ax_up (ax_row M 83 (fun _ => 0)) 82 1 83) 84 (fun _ => 0)) 82 2 84) 85 (fun _ => 0)) 82 3 85) 86 (fun _ => 0)) 82 4 86) 87 (fun _ => 0)) 82 5 87
set_option maxRecDepth 20000 in
theorem c_X10_82 (E : ax_Env) (l : Launch) (d : Nat) (hd : 1 ≤ d) (M : ax_Mem) : ax_M E l d 5 279 iX10_init [.inr 82] (SN 83) M (fun z0 S2 M2 => z0 = none ∧ S2 = SN 88 ∧ M2 = f_mX10_82 M) := by
  obtain ⟨d, rfl⟩ : ∃ d0, d = d0 + 1 := ⟨d - 1, by omega⟩
  refine ax_enter rfl (by decide) (ls := [some (.inr 82)]) rfl (fun _ hcm => ?_)
  refine ax_aload_n dX10_init_0 rfl rfl (pc' := 1) rfl ?_
  refine ax_oinit dX10_init_1 (by decide) mlX10_3 hx_oi hx_oc (by decide) (pc' := 4) rfl ?_
  refine ax_aload_n dX10_init_4 rfl rfl (pc' := 5) rfl ?_
  refine ax_bipush dX10_init_5 (by decide) (pc' := 7) rfl ?_
  refine ax_newa (kc := 4) (ks := 272) (N := 7) (n := 83) (v := 7) dX10_init_7 hx_arr rfl (by decide) (SN_len 83 (Nat.le_of_ble_eq_true rfl)) (pc' := 9) rfl ?_
  refine ax_reC (S2 := SN 84) (SN_push h0_83) ?_
  refine ax_putF dX10_init_9 flX10_9 rfl (fun C T N h => by cases h; rfl) rfl (SN_sh 82 84 (by decide) h0_82) rfl (by unfold ax_can; decide) (pc' := 12) rfl ?_
  refine ax_aload_n dX10_init_12 rfl rfl (pc' := 13) rfl ?_
  refine ax_bipush dX10_init_13 (by decide) (pc' := 15) rfl ?_
  refine ax_newa (kc := 3) (ks := 264) (N := 8) (n := 84) (v := 8) dX10_init_15 hx_arr rfl (by decide) (SN_len 84 (Nat.le_of_ble_eq_true rfl)) (pc' := 17) rfl ?_
  refine ax_reC (S2 := SN 85) (SN_push h0_84) ?_
  refine ax_putF dX10_init_17 flX10_15 rfl (fun C T N h => by cases h; rfl) rfl (SN_sh 82 85 (by decide) h0_82) rfl (by unfold ax_can; decide) (pc' := 20) rfl ?_
  refine ax_aload_n dX10_init_20 rfl rfl (pc' := 21) rfl ?_
  refine ax_bipush dX10_init_21 (by decide) (pc' := 23) rfl ?_
  refine ax_newa (kc := 2) (ks := 256) (N := 8) (n := 85) (v := 8) dX10_init_23 hx_arr rfl (by decide) (SN_len 85 (Nat.le_of_ble_eq_true rfl)) (pc' := 25) rfl ?_
  refine ax_reC (S2 := SN 86) (SN_push h0_85) ?_
  refine ax_putF dX10_init_25 flX10_18 rfl (fun C T N h => by cases h; rfl) rfl (SN_sh 82 86 (by decide) h0_82) rfl (by unfold ax_can; decide) (pc' := 28) rfl ?_
  refine ax_aload_n dX10_init_28 rfl rfl (pc' := 29) rfl ?_
  refine ax_sipush dX10_init_29 (by decide) (pc' := 32) rfl ?_
  refine ax_newa (kc := 1) (ks := 128) (N := 128) (n := 86) (v := 128) dX10_init_32 hx_arr rfl (by decide) (SN_len 86 (Nat.le_of_ble_eq_true rfl)) (pc' := 34) rfl ?_
  refine ax_reC (S2 := SN 87) (SN_push h0_86) ?_
  refine ax_putF dX10_init_34 flX10_21 rfl (fun C T N h => by cases h; rfl) rfl (SN_sh 82 87 (by decide) h0_82) rfl (by unfold ax_can; decide) (pc' := 37) rfl ?_
  refine ax_aload_n dX10_init_37 rfl rfl (pc' := 38) rfl ?_
  refine ax_sipush dX10_init_38 (by decide) (pc' := 41) rfl ?_
  refine ax_newa (kc := 0) (ks := 0) (N := 128) (n := 87) (v := 128) dX10_init_41 hx_arr rfl (by decide) (SN_len 87 (Nat.le_of_ble_eq_true rfl)) (pc' := 43) rfl ?_
  refine ax_reC (S2 := SN 88) (SN_push h0_87) ?_
  refine ax_putF dX10_init_43 flX10_24 rfl (fun C T N h => by cases h; rfl) rfl (SN_sh 82 88 (by decide) h0_82) rfl (by unfold ax_can; decide) (pc' := 46) rfl ?_
  exact ax_vret dX10_init_46 rfl ⟨rfl, rfl, rfl⟩
def f_mX5_88 (M : ax_Mem) : ax_Mem := ax_up (ax_row (ax_up (ax_row (ax_up (ax_row M 89 (fun _ => 0)) 88 0 89) 90 (fun _ => 0)) 88 1 90) 91 (fun _ => 0)) 88 2 91
set_option maxRecDepth 20000 in
theorem c_X5_88 (E : ax_Env) (l : Launch) (d : Nat) (hd : 1 ≤ d) (M : ax_Mem) : ax_M E l d 3 6567 iX5_init [.inr 88] (SN 89) M (fun z0 S2 M2 => z0 = none ∧ S2 = SN 92 ∧ M2 = f_mX5_88 M) := by
  obtain ⟨d, rfl⟩ : ∃ d0, d = d0 + 1 := ⟨d - 1, by omega⟩
  refine ax_enter rfl (by decide) (ls := [some (.inr 88)]) rfl (fun _ hcm => ?_)
  refine ax_aload_n dX5_init_0 rfl rfl (pc' := 1) rfl ?_
  refine ax_oinit dX5_init_1 (by decide) mlX5_3 hx_oi hx_oc (by decide) (pc' := 4) rfl ?_
  refine ax_aload_n dX5_init_4 rfl rfl (pc' := 5) rfl ?_
  refine ax_sipush dX5_init_5 (by decide) (pc' := 8) rfl ?_
  refine ax_newa (kc := 2) (ks := 3287) (N := 3280) (n := 89) (v := 3280) dX5_init_8 hx_arr rfl (by decide) (SN_len 89 (Nat.le_of_ble_eq_true rfl)) (pc' := 10) rfl ?_
  refine ax_reC (S2 := SN 90) (SN_push h0_89) ?_
  refine ax_putF dX5_init_10 flX5_11 rfl (fun C T N h => by cases h; rfl) rfl (SN_sh 88 90 (by decide) h0_88) rfl (by unfold ax_can; decide) (pc' := 13) rfl ?_
  refine ax_aload_n dX5_init_13 rfl rfl (pc' := 14) rfl ?_
  refine ax_sipush dX5_init_14 (by decide) (pc' := 17) rfl ?_
  refine ax_newa (kc := 1) (ks := 7) (N := 3280) (n := 90) (v := 3280) dX5_init_17 hx_arr rfl (by decide) (SN_len 90 (Nat.le_of_ble_eq_true rfl)) (pc' := 19) rfl ?_
  refine ax_reC (S2 := SN 91) (SN_push h0_90) ?_
  refine ax_putF dX5_init_19 flX5_15 rfl (fun C T N h => by cases h; rfl) rfl (SN_sh 88 91 (by decide) h0_88) rfl (by unfold ax_can; decide) (pc' := 22) rfl ?_
  refine ax_aload_n dX5_init_22 rfl rfl (pc' := 23) rfl ?_
  refine ax_bipush dX5_init_23 (by decide) (pc' := 25) rfl ?_
  refine ax_newa (kc := 0) (ks := 0) (N := 7) (n := 91) (v := 7) dX5_init_25 hx_arr rfl (by decide) (SN_len 91 (Nat.le_of_ble_eq_true rfl)) (pc' := 27) rfl ?_
  refine ax_reC (S2 := SN 92) (SN_push h0_91) ?_
  refine ax_putF dX5_init_27 flX5_18 rfl (fun C T N h => by cases h; rfl) rfl (SN_sh 88 92 (by decide) h0_88) rfl (by unfold ax_can; decide) (pc' := 30) rfl ?_
  exact ax_vret dX5_init_30 rfl ⟨rfl, rfl, rfl⟩
def f_mX7_97 (M : ax_Mem) : ax_Mem := ax_up (ax_row (ax_up (ax_row (ax_up (ax_row M 98 (fun _ => 0)) 97 5 98) 99 (fun _ => 0)) 97 6 99) 100 (fun _ => 0)) 97 7 100
set_option maxRecDepth 20000 in
theorem c_X7_97 (E : ax_Env) (l : Launch) (d : Nat) (hd : 1 ≤ d) (M : ax_Mem) : ax_M E l d 3 312 iX7_init [.inr 97] (SN 98) M (fun z0 S2 M2 => z0 = none ∧ S2 = SN 101 ∧ M2 = f_mX7_97 M) := by
  obtain ⟨d, rfl⟩ : ∃ d0, d = d0 + 1 := ⟨d - 1, by omega⟩
  refine ax_enter rfl (by decide) (ls := [some (.inr 97)]) rfl (fun _ hcm => ?_)
  refine ax_aload_n dX7_init_0 rfl rfl (pc' := 1) rfl ?_
  refine ax_oinit dX7_init_1 (by decide) mlX7_3 hx_oi hx_oc (by decide) (pc' := 4) rfl ?_
  refine ax_aload_n dX7_init_4 rfl rfl (pc' := 5) rfl ?_
  refine ax_bipush dX7_init_5 (by decide) (pc' := 7) rfl ?_
  refine ax_newa (kc := 2) (ks := 288) (N := 24) (n := 98) (v := 24) dX7_init_7 hx_arr rfl (by decide) (SN_len 98 (Nat.le_of_ble_eq_true rfl)) (pc' := 9) rfl ?_
  refine ax_reC (S2 := SN 99) (SN_push h0_98) ?_
  refine ax_putF dX7_init_9 flX7_9 rfl (fun C T N h => by cases h; rfl) rfl (SN_sh 97 99 (by decide) h0_97) rfl (by unfold ax_can; decide) (pc' := 12) rfl ?_
  refine ax_aload_n dX7_init_12 rfl rfl (pc' := 13) rfl ?_
  refine ax_sipush dX7_init_13 (by decide) (pc' := 16) rfl ?_
  refine ax_newa (kc := 1) (ks := 144) (N := 144) (n := 99) (v := 144) dX7_init_16 hx_arr rfl (by decide) (SN_len 99 (Nat.le_of_ble_eq_true rfl)) (pc' := 18) rfl ?_
  refine ax_reC (S2 := SN 100) (SN_push h0_99) ?_
  refine ax_putF dX7_init_18 flX7_15 rfl (fun C T N h => by cases h; rfl) rfl (SN_sh 97 100 (by decide) h0_97) rfl (by unfold ax_can; decide) (pc' := 21) rfl ?_
  refine ax_aload_n dX7_init_21 rfl rfl (pc' := 22) rfl ?_
  refine ax_sipush dX7_init_22 (by decide) (pc' := 25) rfl ?_
  refine ax_newa (kc := 0) (ks := 0) (N := 144) (n := 100) (v := 144) dX7_init_25 hx_arr rfl (by decide) (SN_len 100 (Nat.le_of_ble_eq_true rfl)) (pc' := 27) rfl ?_
  refine ax_reC (S2 := SN 101) (SN_push h0_100) ?_
  refine ax_putF dX7_init_27 flX7_18 rfl (fun C T N h => by cases h; rfl) rfl (SN_sh 97 101 (by decide) h0_97) rfl (by unfold ax_can; decide) (pc' := 30) rfl ?_
  exact ax_vret dX7_init_30 rfl ⟨rfl, rfl, rfl⟩
def f_mX7_101 (M : ax_Mem) : ax_Mem := ax_up (ax_row (ax_up (ax_row (ax_up (ax_row M 102 (fun _ => 0)) 101 5 102) 103 (fun _ => 0)) 101 6 103) 104 (fun _ => 0)) 101 7 104
set_option maxRecDepth 20000 in
theorem c_X7_101 (E : ax_Env) (l : Launch) (d : Nat) (hd : 1 ≤ d) (M : ax_Mem) : ax_M E l d 3 312 iX7_init [.inr 101] (SN 102) M (fun z0 S2 M2 => z0 = none ∧ S2 = SN 105 ∧ M2 = f_mX7_101 M) := by
  obtain ⟨d, rfl⟩ : ∃ d0, d = d0 + 1 := ⟨d - 1, by omega⟩
  refine ax_enter rfl (by decide) (ls := [some (.inr 101)]) rfl (fun _ hcm => ?_)
  refine ax_aload_n dX7_init_0 rfl rfl (pc' := 1) rfl ?_
  refine ax_oinit dX7_init_1 (by decide) mlX7_3 hx_oi hx_oc (by decide) (pc' := 4) rfl ?_
  refine ax_aload_n dX7_init_4 rfl rfl (pc' := 5) rfl ?_
  refine ax_bipush dX7_init_5 (by decide) (pc' := 7) rfl ?_
  refine ax_newa (kc := 2) (ks := 288) (N := 24) (n := 102) (v := 24) dX7_init_7 hx_arr rfl (by decide) (SN_len 102 (Nat.le_of_ble_eq_true rfl)) (pc' := 9) rfl ?_
  refine ax_reC (S2 := SN 103) (SN_push h0_102) ?_
  refine ax_putF dX7_init_9 flX7_9 rfl (fun C T N h => by cases h; rfl) rfl (SN_sh 101 103 (by decide) h0_101) rfl (by unfold ax_can; decide) (pc' := 12) rfl ?_
  refine ax_aload_n dX7_init_12 rfl rfl (pc' := 13) rfl ?_
  refine ax_sipush dX7_init_13 (by decide) (pc' := 16) rfl ?_
  refine ax_newa (kc := 1) (ks := 144) (N := 144) (n := 103) (v := 144) dX7_init_16 hx_arr rfl (by decide) (SN_len 103 (Nat.le_of_ble_eq_true rfl)) (pc' := 18) rfl ?_
  refine ax_reC (S2 := SN 104) (SN_push h0_103) ?_
  refine ax_putF dX7_init_18 flX7_15 rfl (fun C T N h => by cases h; rfl) rfl (SN_sh 101 104 (by decide) h0_101) rfl (by unfold ax_can; decide) (pc' := 21) rfl ?_
  refine ax_aload_n dX7_init_21 rfl rfl (pc' := 22) rfl ?_
  refine ax_sipush dX7_init_22 (by decide) (pc' := 25) rfl ?_
  refine ax_newa (kc := 0) (ks := 0) (N := 144) (n := 104) (v := 144) dX7_init_25 hx_arr rfl (by decide) (SN_len 104 (Nat.le_of_ble_eq_true rfl)) (pc' := 27) rfl ?_
  refine ax_reC (S2 := SN 105) (SN_push h0_104) ?_
  refine ax_putF dX7_init_27 flX7_18 rfl (fun C T N h => by cases h; rfl) rfl (SN_sh 101 105 (by decide) h0_101) rfl (by unfold ax_can; decide) (pc' := 30) rfl ?_
  exact ax_vret dX7_init_30 rfl ⟨rfl, rfl, rfl⟩
def f_mX7_105 (M : ax_Mem) : ax_Mem := ax_up (ax_row (ax_up (ax_row (ax_up (ax_row M 106 (fun _ => 0)) 105 5 106) 107 (fun _ => 0)) 105 6 107) 108 (fun _ => 0)) 105 7 108
set_option maxRecDepth 20000 in
theorem c_X7_105 (E : ax_Env) (l : Launch) (d : Nat) (hd : 1 ≤ d) (M : ax_Mem) : ax_M E l d 3 312 iX7_init [.inr 105] (SN 106) M (fun z0 S2 M2 => z0 = none ∧ S2 = SN 109 ∧ M2 = f_mX7_105 M) := by
  obtain ⟨d, rfl⟩ : ∃ d0, d = d0 + 1 := ⟨d - 1, by omega⟩
  refine ax_enter rfl (by decide) (ls := [some (.inr 105)]) rfl (fun _ hcm => ?_)
  refine ax_aload_n dX7_init_0 rfl rfl (pc' := 1) rfl ?_
  refine ax_oinit dX7_init_1 (by decide) mlX7_3 hx_oi hx_oc (by decide) (pc' := 4) rfl ?_
  refine ax_aload_n dX7_init_4 rfl rfl (pc' := 5) rfl ?_
  refine ax_bipush dX7_init_5 (by decide) (pc' := 7) rfl ?_
  refine ax_newa (kc := 2) (ks := 288) (N := 24) (n := 106) (v := 24) dX7_init_7 hx_arr rfl (by decide) (SN_len 106 (Nat.le_of_ble_eq_true rfl)) (pc' := 9) rfl ?_
  refine ax_reC (S2 := SN 107) (SN_push h0_106) ?_
  refine ax_putF dX7_init_9 flX7_9 rfl (fun C T N h => by cases h; rfl) rfl (SN_sh 105 107 (by decide) h0_105) rfl (by unfold ax_can; decide) (pc' := 12) rfl ?_
  refine ax_aload_n dX7_init_12 rfl rfl (pc' := 13) rfl ?_
  refine ax_sipush dX7_init_13 (by decide) (pc' := 16) rfl ?_
  refine ax_newa (kc := 1) (ks := 144) (N := 144) (n := 107) (v := 144) dX7_init_16 hx_arr rfl (by decide) (SN_len 107 (Nat.le_of_ble_eq_true rfl)) (pc' := 18) rfl ?_
  refine ax_reC (S2 := SN 108) (SN_push h0_107) ?_
  refine ax_putF dX7_init_18 flX7_15 rfl (fun C T N h => by cases h; rfl) rfl (SN_sh 105 108 (by decide) h0_105) rfl (by unfold ax_can; decide) (pc' := 21) rfl ?_
  refine ax_aload_n dX7_init_21 rfl rfl (pc' := 22) rfl ?_
  refine ax_sipush dX7_init_22 (by decide) (pc' := 25) rfl ?_
  refine ax_newa (kc := 0) (ks := 0) (N := 144) (n := 108) (v := 144) dX7_init_25 hx_arr rfl (by decide) (SN_len 108 (Nat.le_of_ble_eq_true rfl)) (pc' := 27) rfl ?_
  refine ax_reC (S2 := SN 109) (SN_push h0_108) ?_
  refine ax_putF dX7_init_27 flX7_18 rfl (fun C T N h => by cases h; rfl) rfl (SN_sh 105 109 (by decide) h0_105) rfl (by unfold ax_can; decide) (pc' := 30) rfl ?_
  exact ax_vret dX7_init_30 rfl ⟨rfl, rfl, rfl⟩
def f_mX7_109 (M : ax_Mem) : ax_Mem := ax_up (ax_row (ax_up (ax_row (ax_up (ax_row M 110 (fun _ => 0)) 109 5 110) 111 (fun _ => 0)) 109 6 111) 112 (fun _ => 0)) 109 7 112
set_option maxRecDepth 20000 in
theorem c_X7_109 (E : ax_Env) (l : Launch) (d : Nat) (hd : 1 ≤ d) (M : ax_Mem) : ax_M E l d 3 312 iX7_init [.inr 109] (SN 110) M (fun z0 S2 M2 => z0 = none ∧ S2 = SN 113 ∧ M2 = f_mX7_109 M) := by
  obtain ⟨d, rfl⟩ : ∃ d0, d = d0 + 1 := ⟨d - 1, by omega⟩
  refine ax_enter rfl (by decide) (ls := [some (.inr 109)]) rfl (fun _ hcm => ?_)
  refine ax_aload_n dX7_init_0 rfl rfl (pc' := 1) rfl ?_
  refine ax_oinit dX7_init_1 (by decide) mlX7_3 hx_oi hx_oc (by decide) (pc' := 4) rfl ?_
  refine ax_aload_n dX7_init_4 rfl rfl (pc' := 5) rfl ?_
  refine ax_bipush dX7_init_5 (by decide) (pc' := 7) rfl ?_
  refine ax_newa (kc := 2) (ks := 288) (N := 24) (n := 110) (v := 24) dX7_init_7 hx_arr rfl (by decide) (SN_len 110 (Nat.le_of_ble_eq_true rfl)) (pc' := 9) rfl ?_
  refine ax_reC (S2 := SN 111) (SN_push h0_110) ?_
  refine ax_putF dX7_init_9 flX7_9 rfl (fun C T N h => by cases h; rfl) rfl (SN_sh 109 111 (by decide) h0_109) rfl (by unfold ax_can; decide) (pc' := 12) rfl ?_
  refine ax_aload_n dX7_init_12 rfl rfl (pc' := 13) rfl ?_
  refine ax_sipush dX7_init_13 (by decide) (pc' := 16) rfl ?_
  refine ax_newa (kc := 1) (ks := 144) (N := 144) (n := 111) (v := 144) dX7_init_16 hx_arr rfl (by decide) (SN_len 111 (Nat.le_of_ble_eq_true rfl)) (pc' := 18) rfl ?_
  refine ax_reC (S2 := SN 112) (SN_push h0_111) ?_
  refine ax_putF dX7_init_18 flX7_15 rfl (fun C T N h => by cases h; rfl) rfl (SN_sh 109 112 (by decide) h0_109) rfl (by unfold ax_can; decide) (pc' := 21) rfl ?_
  refine ax_aload_n dX7_init_21 rfl rfl (pc' := 22) rfl ?_
  refine ax_sipush dX7_init_22 (by decide) (pc' := 25) rfl ?_
  refine ax_newa (kc := 0) (ks := 0) (N := 144) (n := 112) (v := 144) dX7_init_25 hx_arr rfl (by decide) (SN_len 112 (Nat.le_of_ble_eq_true rfl)) (pc' := 27) rfl ?_
  refine ax_reC (S2 := SN 113) (SN_push h0_112) ?_
  refine ax_putF dX7_init_27 flX7_18 rfl (fun C T N h => by cases h; rfl) rfl (SN_sh 109 113 (by decide) h0_109) rfl (by unfold ax_can; decide) (pc' := 30) rfl ?_
  exact ax_vret dX7_init_30 rfl ⟨rfl, rfl, rfl⟩
def f_mX7_113 (M : ax_Mem) : ax_Mem := ax_up (ax_row (ax_up (ax_row (ax_up (ax_row M 114 (fun _ => 0)) 113 5 114) 115 (fun _ => 0)) 113 6 115) 116 (fun _ => 0)) 113 7 116
set_option maxRecDepth 20000 in
theorem c_X7_113 (E : ax_Env) (l : Launch) (d : Nat) (hd : 1 ≤ d) (M : ax_Mem) : ax_M E l d 3 312 iX7_init [.inr 113] (SN 114) M (fun z0 S2 M2 => z0 = none ∧ S2 = SN 117 ∧ M2 = f_mX7_113 M) := by
  obtain ⟨d, rfl⟩ : ∃ d0, d = d0 + 1 := ⟨d - 1, by omega⟩
  refine ax_enter rfl (by decide) (ls := [some (.inr 113)]) rfl (fun _ hcm => ?_)
  refine ax_aload_n dX7_init_0 rfl rfl (pc' := 1) rfl ?_
  refine ax_oinit dX7_init_1 (by decide) mlX7_3 hx_oi hx_oc (by decide) (pc' := 4) rfl ?_
  refine ax_aload_n dX7_init_4 rfl rfl (pc' := 5) rfl ?_
  refine ax_bipush dX7_init_5 (by decide) (pc' := 7) rfl ?_
  refine ax_newa (kc := 2) (ks := 288) (N := 24) (n := 114) (v := 24) dX7_init_7 hx_arr rfl (by decide) (SN_len 114 (Nat.le_of_ble_eq_true rfl)) (pc' := 9) rfl ?_
  refine ax_reC (S2 := SN 115) (SN_push h0_114) ?_
  refine ax_putF dX7_init_9 flX7_9 rfl (fun C T N h => by cases h; rfl) rfl (SN_sh 113 115 (by decide) h0_113) rfl (by unfold ax_can; decide) (pc' := 12) rfl ?_
  refine ax_aload_n dX7_init_12 rfl rfl (pc' := 13) rfl ?_
  refine ax_sipush dX7_init_13 (by decide) (pc' := 16) rfl ?_
  refine ax_newa (kc := 1) (ks := 144) (N := 144) (n := 115) (v := 144) dX7_init_16 hx_arr rfl (by decide) (SN_len 115 (Nat.le_of_ble_eq_true rfl)) (pc' := 18) rfl ?_
  refine ax_reC (S2 := SN 116) (SN_push h0_115) ?_
  refine ax_putF dX7_init_18 flX7_15 rfl (fun C T N h => by cases h; rfl) rfl (SN_sh 113 116 (by decide) h0_113) rfl (by unfold ax_can; decide) (pc' := 21) rfl ?_
  refine ax_aload_n dX7_init_21 rfl rfl (pc' := 22) rfl ?_
  refine ax_sipush dX7_init_22 (by decide) (pc' := 25) rfl ?_
  refine ax_newa (kc := 0) (ks := 0) (N := 144) (n := 116) (v := 144) dX7_init_25 hx_arr rfl (by decide) (SN_len 116 (Nat.le_of_ble_eq_true rfl)) (pc' := 27) rfl ?_
  refine ax_reC (S2 := SN 117) (SN_push h0_116) ?_
  refine ax_putF dX7_init_27 flX7_18 rfl (fun C T N h => by cases h; rfl) rfl (SN_sh 113 117 (by decide) h0_113) rfl (by unfold ax_can; decide) (pc' := 30) rfl ?_
  exact ax_vret dX7_init_30 rfl ⟨rfl, rfl, rfl⟩
def f_mX7_117 (M : ax_Mem) : ax_Mem := ax_up (ax_row (ax_up (ax_row (ax_up (ax_row M 118 (fun _ => 0)) 117 5 118) 119 (fun _ => 0)) 117 6 119) 120 (fun _ => 0)) 117 7 120
set_option maxRecDepth 20000 in
theorem c_X7_117 (E : ax_Env) (l : Launch) (d : Nat) (hd : 1 ≤ d) (M : ax_Mem) : ax_M E l d 3 312 iX7_init [.inr 117] (SN 118) M (fun z0 S2 M2 => z0 = none ∧ S2 = SN 121 ∧ M2 = f_mX7_117 M) := by
  obtain ⟨d, rfl⟩ : ∃ d0, d = d0 + 1 := ⟨d - 1, by omega⟩
  refine ax_enter rfl (by decide) (ls := [some (.inr 117)]) rfl (fun _ hcm => ?_)
  refine ax_aload_n dX7_init_0 rfl rfl (pc' := 1) rfl ?_
  refine ax_oinit dX7_init_1 (by decide) mlX7_3 hx_oi hx_oc (by decide) (pc' := 4) rfl ?_
  refine ax_aload_n dX7_init_4 rfl rfl (pc' := 5) rfl ?_
  refine ax_bipush dX7_init_5 (by decide) (pc' := 7) rfl ?_
  refine ax_newa (kc := 2) (ks := 288) (N := 24) (n := 118) (v := 24) dX7_init_7 hx_arr rfl (by decide) (SN_len 118 (Nat.le_of_ble_eq_true rfl)) (pc' := 9) rfl ?_
  refine ax_reC (S2 := SN 119) (SN_push h0_118) ?_
  refine ax_putF dX7_init_9 flX7_9 rfl (fun C T N h => by cases h; rfl) rfl (SN_sh 117 119 (by decide) h0_117) rfl (by unfold ax_can; decide) (pc' := 12) rfl ?_
  refine ax_aload_n dX7_init_12 rfl rfl (pc' := 13) rfl ?_
  refine ax_sipush dX7_init_13 (by decide) (pc' := 16) rfl ?_
  refine ax_newa (kc := 1) (ks := 144) (N := 144) (n := 119) (v := 144) dX7_init_16 hx_arr rfl (by decide) (SN_len 119 (Nat.le_of_ble_eq_true rfl)) (pc' := 18) rfl ?_
  refine ax_reC (S2 := SN 120) (SN_push h0_119) ?_
  refine ax_putF dX7_init_18 flX7_15 rfl (fun C T N h => by cases h; rfl) rfl (SN_sh 117 120 (by decide) h0_117) rfl (by unfold ax_can; decide) (pc' := 21) rfl ?_
  refine ax_aload_n dX7_init_21 rfl rfl (pc' := 22) rfl ?_
  refine ax_sipush dX7_init_22 (by decide) (pc' := 25) rfl ?_
  refine ax_newa (kc := 0) (ks := 0) (N := 144) (n := 120) (v := 144) dX7_init_25 hx_arr rfl (by decide) (SN_len 120 (Nat.le_of_ble_eq_true rfl)) (pc' := 27) rfl ?_
  refine ax_reC (S2 := SN 121) (SN_push h0_120) ?_
  refine ax_putF dX7_init_27 flX7_18 rfl (fun C T N h => by cases h; rfl) rfl (SN_sh 117 121 (by decide) h0_117) rfl (by unfold ax_can; decide) (pc' := 30) rfl ?_
  exact ax_vret dX7_init_30 rfl ⟨rfl, rfl, rfl⟩
def f_mX7_121 (M : ax_Mem) : ax_Mem := ax_up (ax_row (ax_up (ax_row (ax_up (ax_row M 122 (fun _ => 0)) 121 5 122) 123 (fun _ => 0)) 121 6 123) 124 (fun _ => 0)) 121 7 124
set_option maxRecDepth 20000 in
theorem c_X7_121 (E : ax_Env) (l : Launch) (d : Nat) (hd : 1 ≤ d) (M : ax_Mem) : ax_M E l d 3 312 iX7_init [.inr 121] (SN 122) M (fun z0 S2 M2 => z0 = none ∧ S2 = SN 125 ∧ M2 = f_mX7_121 M) := by
  obtain ⟨d, rfl⟩ : ∃ d0, d = d0 + 1 := ⟨d - 1, by omega⟩
  refine ax_enter rfl (by decide) (ls := [some (.inr 121)]) rfl (fun _ hcm => ?_)
  refine ax_aload_n dX7_init_0 rfl rfl (pc' := 1) rfl ?_
  refine ax_oinit dX7_init_1 (by decide) mlX7_3 hx_oi hx_oc (by decide) (pc' := 4) rfl ?_
  refine ax_aload_n dX7_init_4 rfl rfl (pc' := 5) rfl ?_
  refine ax_bipush dX7_init_5 (by decide) (pc' := 7) rfl ?_
  refine ax_newa (kc := 2) (ks := 288) (N := 24) (n := 122) (v := 24) dX7_init_7 hx_arr rfl (by decide) (SN_len 122 (Nat.le_of_ble_eq_true rfl)) (pc' := 9) rfl ?_
  refine ax_reC (S2 := SN 123) (SN_push h0_122) ?_
  refine ax_putF dX7_init_9 flX7_9 rfl (fun C T N h => by cases h; rfl) rfl (SN_sh 121 123 (by decide) h0_121) rfl (by unfold ax_can; decide) (pc' := 12) rfl ?_
  refine ax_aload_n dX7_init_12 rfl rfl (pc' := 13) rfl ?_
  refine ax_sipush dX7_init_13 (by decide) (pc' := 16) rfl ?_
  refine ax_newa (kc := 1) (ks := 144) (N := 144) (n := 123) (v := 144) dX7_init_16 hx_arr rfl (by decide) (SN_len 123 (Nat.le_of_ble_eq_true rfl)) (pc' := 18) rfl ?_
  refine ax_reC (S2 := SN 124) (SN_push h0_123) ?_
  refine ax_putF dX7_init_18 flX7_15 rfl (fun C T N h => by cases h; rfl) rfl (SN_sh 121 124 (by decide) h0_121) rfl (by unfold ax_can; decide) (pc' := 21) rfl ?_
  refine ax_aload_n dX7_init_21 rfl rfl (pc' := 22) rfl ?_
  refine ax_sipush dX7_init_22 (by decide) (pc' := 25) rfl ?_
  refine ax_newa (kc := 0) (ks := 0) (N := 144) (n := 124) (v := 144) dX7_init_25 hx_arr rfl (by decide) (SN_len 124 (Nat.le_of_ble_eq_true rfl)) (pc' := 27) rfl ?_
  refine ax_reC (S2 := SN 125) (SN_push h0_124) ?_
  refine ax_putF dX7_init_27 flX7_18 rfl (fun C T N h => by cases h; rfl) rfl (SN_sh 121 125 (by decide) h0_121) rfl (by unfold ax_can; decide) (pc' := 30) rfl ?_
  exact ax_vret dX7_init_30 rfl ⟨rfl, rfl, rfl⟩
def f_mX7_125 (M : ax_Mem) : ax_Mem := ax_up (ax_row (ax_up (ax_row (ax_up (ax_row M 126 (fun _ => 0)) 125 5 126) 127 (fun _ => 0)) 125 6 127) 128 (fun _ => 0)) 125 7 128
set_option maxRecDepth 20000 in
theorem c_X7_125 (E : ax_Env) (l : Launch) (d : Nat) (hd : 1 ≤ d) (M : ax_Mem) : ax_M E l d 3 312 iX7_init [.inr 125] (SN 126) M (fun z0 S2 M2 => z0 = none ∧ S2 = SN 129 ∧ M2 = f_mX7_125 M) := by
  obtain ⟨d, rfl⟩ : ∃ d0, d = d0 + 1 := ⟨d - 1, by omega⟩
  refine ax_enter rfl (by decide) (ls := [some (.inr 125)]) rfl (fun _ hcm => ?_)
  refine ax_aload_n dX7_init_0 rfl rfl (pc' := 1) rfl ?_
  refine ax_oinit dX7_init_1 (by decide) mlX7_3 hx_oi hx_oc (by decide) (pc' := 4) rfl ?_
  refine ax_aload_n dX7_init_4 rfl rfl (pc' := 5) rfl ?_
  refine ax_bipush dX7_init_5 (by decide) (pc' := 7) rfl ?_
  refine ax_newa (kc := 2) (ks := 288) (N := 24) (n := 126) (v := 24) dX7_init_7 hx_arr rfl (by decide) (SN_len 126 (Nat.le_of_ble_eq_true rfl)) (pc' := 9) rfl ?_
  refine ax_reC (S2 := SN 127) (SN_push h0_126) ?_
  refine ax_putF dX7_init_9 flX7_9 rfl (fun C T N h => by cases h; rfl) rfl (SN_sh 125 127 (by decide) h0_125) rfl (by unfold ax_can; decide) (pc' := 12) rfl ?_
  refine ax_aload_n dX7_init_12 rfl rfl (pc' := 13) rfl ?_
  refine ax_sipush dX7_init_13 (by decide) (pc' := 16) rfl ?_
  refine ax_newa (kc := 1) (ks := 144) (N := 144) (n := 127) (v := 144) dX7_init_16 hx_arr rfl (by decide) (SN_len 127 (Nat.le_of_ble_eq_true rfl)) (pc' := 18) rfl ?_
  refine ax_reC (S2 := SN 128) (SN_push h0_127) ?_
  refine ax_putF dX7_init_18 flX7_15 rfl (fun C T N h => by cases h; rfl) rfl (SN_sh 125 128 (by decide) h0_125) rfl (by unfold ax_can; decide) (pc' := 21) rfl ?_
  refine ax_aload_n dX7_init_21 rfl rfl (pc' := 22) rfl ?_
  refine ax_sipush dX7_init_22 (by decide) (pc' := 25) rfl ?_
  refine ax_newa (kc := 0) (ks := 0) (N := 144) (n := 128) (v := 144) dX7_init_25 hx_arr rfl (by decide) (SN_len 128 (Nat.le_of_ble_eq_true rfl)) (pc' := 27) rfl ?_
  refine ax_reC (S2 := SN 129) (SN_push h0_128) ?_
  refine ax_putF dX7_init_27 flX7_18 rfl (fun C T N h => by cases h; rfl) rfl (SN_sh 125 129 (by decide) h0_125) rfl (by unfold ax_can; decide) (pc' := 30) rfl ?_
  exact ax_vret dX7_init_30 rfl ⟨rfl, rfl, rfl⟩
def f_mX9_93 (M : ax_Mem) : ax_Mem := ax_up (f_mX7_125 (ax_row (ax_up (f_mX7_121 (ax_row (ax_up (f_mX7_117 (ax_row (ax_up (f_mX7_113 (ax_row (ax_up (f_mX7_109 (ax_row (ax_up (f_mX7_105 (ax_row (ax_up (f_mX7_101 (ax_row (ax_up (f_mX7_97 (ax_row (f_mfl 95 6 2 (f_mfl 94 6 3 (ax_up (ax_row (ax_up (ax_row (ax_up (ax_row M 94 (fun _ => 0)) 93 4 94) 95 (fun _ => 0)) 93 5 95) 96 (fun _ => -1)) 93 6 96))) 97 (ax_zero 7))) 96 0 97) 101 (ax_zero 7))) 96 1 101) 105 (ax_zero 7))) 96 2 105) 109 (ax_zero 7))) 96 3 109) 113 (ax_zero 7))) 96 4 113) 117 (ax_zero 7))) 96 5 117) 121 (ax_zero 7))) 96 6 121) 125 (ax_zero 7))) 96 7 125
set_option maxRecDepth 20000 in
theorem c_X9_93 (E : ax_Env) (l : Launch) (d : Nat) (hd : 2 ≤ d) (M : ax_Mem) : ax_M E l d 35 2580 iX9_init [.inr 93] (SN 94) M (fun z0 S2 M2 => z0 = none ∧ S2 = SN 129 ∧ M2 = f_mX9_93 M) := by
  obtain ⟨d, rfl⟩ : ∃ d0, d = d0 + 1 := ⟨d - 1, by omega⟩
  refine ax_enter rfl (by decide) (ls := [some (.inr 93), none]) rfl (fun _ hcm => ?_)
  refine ax_aload_n dX9_init_0 rfl rfl (pc' := 1) rfl ?_
  refine ax_oinit dX9_init_1 (by decide) mlX9_3 hx_oi hx_oc (by decide) (pc' := 4) rfl ?_
  refine ax_aload_n dX9_init_4 rfl rfl (pc' := 5) rfl ?_
  refine ax_bipush dX9_init_5 (by decide) (pc' := 7) rfl ?_
  refine ax_newa (kc := 34) (ks := 2574) (N := 6) (n := 94) (v := 6) dX9_init_7 hx_arr rfl (by decide) (SN_len 94 (Nat.le_of_ble_eq_true rfl)) (pc' := 9) rfl ?_
  refine ax_reC (S2 := SN 95) (SN_push h0_94) ?_
  refine ax_putF dX9_init_9 flX9_9 rfl (fun C T N h => by cases h; rfl) rfl (SN_sh 93 95 (by decide) h0_93) rfl (by unfold ax_can; decide) (pc' := 12) rfl ?_
  refine ax_aload_n dX9_init_12 rfl rfl (pc' := 13) rfl ?_
  refine ax_bipush dX9_init_13 (by decide) (pc' := 15) rfl ?_
  refine ax_newa (kc := 33) (ks := 2568) (N := 6) (n := 95) (v := 6) dX9_init_15 hx_arr rfl (by decide) (SN_len 95 (Nat.le_of_ble_eq_true rfl)) (pc' := 17) rfl ?_
  refine ax_reC (S2 := SN 96) (SN_push h0_95) ?_
  refine ax_putF dX9_init_17 flX9_15 rfl (fun C T N h => by cases h; rfl) rfl (SN_sh 93 96 (by decide) h0_93) rfl (by unfold ax_can; decide) (pc' := 20) rfl ?_
  refine ax_aload_n dX9_init_20 rfl rfl (pc' := 21) rfl ?_
  refine ax_bipush dX9_init_21 (by decide) (pc' := 23) rfl ?_
  refine ax_newq (ci := 14) (kc := 32) (ks := 2560) (N := 8) (n := 96) (v := 8) dX9_init_23 (by decide) alX9_18 rfl (by decide) (SN_len 96 (Nat.le_of_ble_eq_true rfl)) (pc' := 26) rfl ?_
  refine ax_reC (S2 := SN 97) (SN_push h0_96) ?_
  refine ax_putF dX9_init_26 flX9_20 rfl (fun C T N h => by cases h; rfl) rfl (SN_sh 93 97 (by decide) h0_93) rfl (by unfold ax_can; decide) (pc' := 29) rfl ?_
  refine ax_aload_n dX9_init_29 rfl rfl (pc' := 30) rfl ?_
  refine ax_getr (v := 94) dX9_init_30 flX9_9 rfl (SN_sh 93 97 (by decide) h0_93) rfl (pc' := 33) rfl ?_
  refine ax_iconst dX9_init_33 (by decide) (pc' := 34) rfl ?_
  refine ax_ins_gen (kc1 := 0) (ks1 := 0) (kc := 32) (ks := 2560) [.inr 94, .inl 3] [] dX9_init_34 mlX9_24 rfl rfl (by decide) (c_fill E l _ 97 94 6 (SN_sh 94 97 (by decide) h0_94) _ (by decide)) (pc' := 37) rfl (fun vv SS MM hq _ _ _ => ?_)
  obtain ⟨rfl, rfl, rfl⟩ := hq
  refine ax_reT (st2 := []) rfl ?_
  refine ax_aload_n dX9_init_37 rfl rfl (pc' := 38) rfl ?_
  refine ax_getr (v := 95) dX9_init_38 flX9_15 rfl (SN_sh 93 97 (by decide) h0_93) rfl (pc' := 41) rfl ?_
  refine ax_iconst dX9_init_41 (by decide) (pc' := 42) rfl ?_
  refine ax_ins_gen (kc1 := 0) (ks1 := 0) (kc := 32) (ks := 2560) [.inr 95, .inl 2] [] dX9_init_42 mlX9_24 rfl rfl (by decide) (c_fill E l _ 97 95 6 (SN_sh 95 97 (by decide) h0_95) _ (by decide)) (pc' := 45) rfl (fun vv SS MM hq _ _ _ => ?_)
  obtain ⟨rfl, rfl, rfl⟩ := hq
  refine ax_reT (st2 := []) rfl ?_
  refine ax_iconst dX9_init_45 (by decide) (pc' := 46) rfl ?_
  refine ax_istore_n dX9_init_46 rfl (by decide) (ls' := [some (.inr 93), some (.inl 0)]) rfl (pc' := 47) rfl ?_
  refine ax_iload_n dX9_init_47 rfl rfl (pc' := 48) rfl ?_
  refine ax_bipush dX9_init_48 (by decide) (pc' := 50) rfl ?_
  refine ax_icmp_ge (tgt := 72) dX9_init_50 (by decide) (pc' := 53) rfl (fun h => absurd h (by decide)) (fun _ => ?_)
  refine ax_aload_n dX9_init_53 rfl rfl (pc' := 54) rfl ?_
  refine ax_getr (v := 96) dX9_init_54 flX9_20 rfl (SN_sh 93 97 (by decide) h0_93) rfl (pc' := 57) rfl ?_
  refine ax_iload_n dX9_init_57 rfl rfl (pc' := 58) rfl ?_
  refine ax_new (I := iX9_init) (kc := 31) (ks := 2552) (n := 97) dX9_init_58 nlX9_18 (SN_len 97 (Nat.le_of_ble_eq_true rfl)) (pc' := 61) rfl ?_
  refine ax_reC (S2 := SN 98) (SN_push h0_97) ?_
  refine ax_dup dX9_init_61 (pc' := 62) rfl ?_
  refine ax_ini (kc1 := 3) (ks1 := 312) (kc := 28) (ks := 2240) [] [.inr 97, .inl 0, .inr 96] dX9_init_62 mlX9_30 (by decide) rfl rfl (by decide) (c_X7_97 E l _ (by omega) _) (pc' := 65) rfl (fun vv SS MM hq _ _ _ => ?_)
  obtain ⟨rfl, rfl, rfl⟩ := hq
  refine ax_reT (st2 := [.inr 97, .inl 0, .inr 96]) rfl ?_
  refine ax_aast dX9_init_65 (SN_sh 96 101 (by decide) h0_96) (by decide) (SN_sh 97 101 (by decide) h0_97) rfl (by decide) (by decide) rfl (by unfold ax_can; decide) (pc' := 66) rfl ?_
  refine ax_iinc dX9_init_66 rfl (by decide) (by decide) (ls' := [some (.inr 93), some (.inl 1)]) rfl (pc' := 69) rfl ?_
  refine ax_goto dX9_init_69 (pc' := 47) (by decide) ?_
  refine ax_iload_n dX9_init_47 rfl rfl (pc' := 48) rfl ?_
  refine ax_bipush dX9_init_48 (by decide) (pc' := 50) rfl ?_
  refine ax_icmp_ge (tgt := 72) dX9_init_50 (by decide) (pc' := 53) rfl (fun h => absurd h (by decide)) (fun _ => ?_)
  refine ax_aload_n dX9_init_53 rfl rfl (pc' := 54) rfl ?_
  refine ax_getr (v := 96) dX9_init_54 flX9_20 rfl (SN_sh 93 101 (by decide) h0_93) rfl (pc' := 57) rfl ?_
  refine ax_iload_n dX9_init_57 rfl rfl (pc' := 58) rfl ?_
  refine ax_new (I := iX9_init) (kc := 27) (ks := 2232) (n := 101) dX9_init_58 nlX9_18 (SN_len 101 (Nat.le_of_ble_eq_true rfl)) (pc' := 61) rfl ?_
  refine ax_reC (S2 := SN 102) (SN_push h0_101) ?_
  refine ax_dup dX9_init_61 (pc' := 62) rfl ?_
  refine ax_ini (kc1 := 3) (ks1 := 312) (kc := 24) (ks := 1920) [] [.inr 101, .inl 1, .inr 96] dX9_init_62 mlX9_30 (by decide) rfl rfl (by decide) (c_X7_101 E l _ (by omega) _) (pc' := 65) rfl (fun vv SS MM hq _ _ _ => ?_)
  obtain ⟨rfl, rfl, rfl⟩ := hq
  refine ax_reT (st2 := [.inr 101, .inl 1, .inr 96]) rfl ?_
  refine ax_aast dX9_init_65 (SN_sh 96 105 (by decide) h0_96) (by decide) (SN_sh 101 105 (by decide) h0_101) rfl (by decide) (by decide) rfl (by unfold ax_can; decide) (pc' := 66) rfl ?_
  refine ax_iinc dX9_init_66 rfl (by decide) (by decide) (ls' := [some (.inr 93), some (.inl 2)]) rfl (pc' := 69) rfl ?_
  refine ax_goto dX9_init_69 (pc' := 47) (by decide) ?_
  refine ax_iload_n dX9_init_47 rfl rfl (pc' := 48) rfl ?_
  refine ax_bipush dX9_init_48 (by decide) (pc' := 50) rfl ?_
  refine ax_icmp_ge (tgt := 72) dX9_init_50 (by decide) (pc' := 53) rfl (fun h => absurd h (by decide)) (fun _ => ?_)
  refine ax_aload_n dX9_init_53 rfl rfl (pc' := 54) rfl ?_
  refine ax_getr (v := 96) dX9_init_54 flX9_20 rfl (SN_sh 93 105 (by decide) h0_93) rfl (pc' := 57) rfl ?_
  refine ax_iload_n dX9_init_57 rfl rfl (pc' := 58) rfl ?_
  refine ax_new (I := iX9_init) (kc := 23) (ks := 1912) (n := 105) dX9_init_58 nlX9_18 (SN_len 105 (Nat.le_of_ble_eq_true rfl)) (pc' := 61) rfl ?_
  refine ax_reC (S2 := SN 106) (SN_push h0_105) ?_
  refine ax_dup dX9_init_61 (pc' := 62) rfl ?_
  refine ax_ini (kc1 := 3) (ks1 := 312) (kc := 20) (ks := 1600) [] [.inr 105, .inl 2, .inr 96] dX9_init_62 mlX9_30 (by decide) rfl rfl (by decide) (c_X7_105 E l _ (by omega) _) (pc' := 65) rfl (fun vv SS MM hq _ _ _ => ?_)
  obtain ⟨rfl, rfl, rfl⟩ := hq
  refine ax_reT (st2 := [.inr 105, .inl 2, .inr 96]) rfl ?_
  refine ax_aast dX9_init_65 (SN_sh 96 109 (by decide) h0_96) (by decide) (SN_sh 105 109 (by decide) h0_105) rfl (by decide) (by decide) rfl (by unfold ax_can; decide) (pc' := 66) rfl ?_
  refine ax_iinc dX9_init_66 rfl (by decide) (by decide) (ls' := [some (.inr 93), some (.inl 3)]) rfl (pc' := 69) rfl ?_
  refine ax_goto dX9_init_69 (pc' := 47) (by decide) ?_
  refine ax_iload_n dX9_init_47 rfl rfl (pc' := 48) rfl ?_
  refine ax_bipush dX9_init_48 (by decide) (pc' := 50) rfl ?_
  refine ax_icmp_ge (tgt := 72) dX9_init_50 (by decide) (pc' := 53) rfl (fun h => absurd h (by decide)) (fun _ => ?_)
  refine ax_aload_n dX9_init_53 rfl rfl (pc' := 54) rfl ?_
  refine ax_getr (v := 96) dX9_init_54 flX9_20 rfl (SN_sh 93 109 (by decide) h0_93) rfl (pc' := 57) rfl ?_
  refine ax_iload_n dX9_init_57 rfl rfl (pc' := 58) rfl ?_
  refine ax_new (I := iX9_init) (kc := 19) (ks := 1592) (n := 109) dX9_init_58 nlX9_18 (SN_len 109 (Nat.le_of_ble_eq_true rfl)) (pc' := 61) rfl ?_
  refine ax_reC (S2 := SN 110) (SN_push h0_109) ?_
  refine ax_dup dX9_init_61 (pc' := 62) rfl ?_
  refine ax_ini (kc1 := 3) (ks1 := 312) (kc := 16) (ks := 1280) [] [.inr 109, .inl 3, .inr 96] dX9_init_62 mlX9_30 (by decide) rfl rfl (by decide) (c_X7_109 E l _ (by omega) _) (pc' := 65) rfl (fun vv SS MM hq _ _ _ => ?_)
  obtain ⟨rfl, rfl, rfl⟩ := hq
  refine ax_reT (st2 := [.inr 109, .inl 3, .inr 96]) rfl ?_
  refine ax_aast dX9_init_65 (SN_sh 96 113 (by decide) h0_96) (by decide) (SN_sh 109 113 (by decide) h0_109) rfl (by decide) (by decide) rfl (by unfold ax_can; decide) (pc' := 66) rfl ?_
  refine ax_iinc dX9_init_66 rfl (by decide) (by decide) (ls' := [some (.inr 93), some (.inl 4)]) rfl (pc' := 69) rfl ?_
  refine ax_goto dX9_init_69 (pc' := 47) (by decide) ?_
  refine ax_iload_n dX9_init_47 rfl rfl (pc' := 48) rfl ?_
  refine ax_bipush dX9_init_48 (by decide) (pc' := 50) rfl ?_
  refine ax_icmp_ge (tgt := 72) dX9_init_50 (by decide) (pc' := 53) rfl (fun h => absurd h (by decide)) (fun _ => ?_)
  refine ax_aload_n dX9_init_53 rfl rfl (pc' := 54) rfl ?_
  refine ax_getr (v := 96) dX9_init_54 flX9_20 rfl (SN_sh 93 113 (by decide) h0_93) rfl (pc' := 57) rfl ?_
  refine ax_iload_n dX9_init_57 rfl rfl (pc' := 58) rfl ?_
  refine ax_new (I := iX9_init) (kc := 15) (ks := 1272) (n := 113) dX9_init_58 nlX9_18 (SN_len 113 (Nat.le_of_ble_eq_true rfl)) (pc' := 61) rfl ?_
  refine ax_reC (S2 := SN 114) (SN_push h0_113) ?_
  refine ax_dup dX9_init_61 (pc' := 62) rfl ?_
  refine ax_ini (kc1 := 3) (ks1 := 312) (kc := 12) (ks := 960) [] [.inr 113, .inl 4, .inr 96] dX9_init_62 mlX9_30 (by decide) rfl rfl (by decide) (c_X7_113 E l _ (by omega) _) (pc' := 65) rfl (fun vv SS MM hq _ _ _ => ?_)
  obtain ⟨rfl, rfl, rfl⟩ := hq
  refine ax_reT (st2 := [.inr 113, .inl 4, .inr 96]) rfl ?_
  refine ax_aast dX9_init_65 (SN_sh 96 117 (by decide) h0_96) (by decide) (SN_sh 113 117 (by decide) h0_113) rfl (by decide) (by decide) rfl (by unfold ax_can; decide) (pc' := 66) rfl ?_
  refine ax_iinc dX9_init_66 rfl (by decide) (by decide) (ls' := [some (.inr 93), some (.inl 5)]) rfl (pc' := 69) rfl ?_
  refine ax_goto dX9_init_69 (pc' := 47) (by decide) ?_
  refine ax_iload_n dX9_init_47 rfl rfl (pc' := 48) rfl ?_
  refine ax_bipush dX9_init_48 (by decide) (pc' := 50) rfl ?_
  refine ax_icmp_ge (tgt := 72) dX9_init_50 (by decide) (pc' := 53) rfl (fun h => absurd h (by decide)) (fun _ => ?_)
  refine ax_aload_n dX9_init_53 rfl rfl (pc' := 54) rfl ?_
  refine ax_getr (v := 96) dX9_init_54 flX9_20 rfl (SN_sh 93 117 (by decide) h0_93) rfl (pc' := 57) rfl ?_
  refine ax_iload_n dX9_init_57 rfl rfl (pc' := 58) rfl ?_
  refine ax_new (I := iX9_init) (kc := 11) (ks := 952) (n := 117) dX9_init_58 nlX9_18 (SN_len 117 (Nat.le_of_ble_eq_true rfl)) (pc' := 61) rfl ?_
  refine ax_reC (S2 := SN 118) (SN_push h0_117) ?_
  refine ax_dup dX9_init_61 (pc' := 62) rfl ?_
  refine ax_ini (kc1 := 3) (ks1 := 312) (kc := 8) (ks := 640) [] [.inr 117, .inl 5, .inr 96] dX9_init_62 mlX9_30 (by decide) rfl rfl (by decide) (c_X7_117 E l _ (by omega) _) (pc' := 65) rfl (fun vv SS MM hq _ _ _ => ?_)
  obtain ⟨rfl, rfl, rfl⟩ := hq
  refine ax_reT (st2 := [.inr 117, .inl 5, .inr 96]) rfl ?_
  refine ax_aast dX9_init_65 (SN_sh 96 121 (by decide) h0_96) (by decide) (SN_sh 117 121 (by decide) h0_117) rfl (by decide) (by decide) rfl (by unfold ax_can; decide) (pc' := 66) rfl ?_
  refine ax_iinc dX9_init_66 rfl (by decide) (by decide) (ls' := [some (.inr 93), some (.inl 6)]) rfl (pc' := 69) rfl ?_
  refine ax_goto dX9_init_69 (pc' := 47) (by decide) ?_
  refine ax_iload_n dX9_init_47 rfl rfl (pc' := 48) rfl ?_
  refine ax_bipush dX9_init_48 (by decide) (pc' := 50) rfl ?_
  refine ax_icmp_ge (tgt := 72) dX9_init_50 (by decide) (pc' := 53) rfl (fun h => absurd h (by decide)) (fun _ => ?_)
  refine ax_aload_n dX9_init_53 rfl rfl (pc' := 54) rfl ?_
  refine ax_getr (v := 96) dX9_init_54 flX9_20 rfl (SN_sh 93 121 (by decide) h0_93) rfl (pc' := 57) rfl ?_
  refine ax_iload_n dX9_init_57 rfl rfl (pc' := 58) rfl ?_
  refine ax_new (I := iX9_init) (kc := 7) (ks := 632) (n := 121) dX9_init_58 nlX9_18 (SN_len 121 (Nat.le_of_ble_eq_true rfl)) (pc' := 61) rfl ?_
  refine ax_reC (S2 := SN 122) (SN_push h0_121) ?_
  refine ax_dup dX9_init_61 (pc' := 62) rfl ?_
  refine ax_ini (kc1 := 3) (ks1 := 312) (kc := 4) (ks := 320) [] [.inr 121, .inl 6, .inr 96] dX9_init_62 mlX9_30 (by decide) rfl rfl (by decide) (c_X7_121 E l _ (by omega) _) (pc' := 65) rfl (fun vv SS MM hq _ _ _ => ?_)
  obtain ⟨rfl, rfl, rfl⟩ := hq
  refine ax_reT (st2 := [.inr 121, .inl 6, .inr 96]) rfl ?_
  refine ax_aast dX9_init_65 (SN_sh 96 125 (by decide) h0_96) (by decide) (SN_sh 121 125 (by decide) h0_121) rfl (by decide) (by decide) rfl (by unfold ax_can; decide) (pc' := 66) rfl ?_
  refine ax_iinc dX9_init_66 rfl (by decide) (by decide) (ls' := [some (.inr 93), some (.inl 7)]) rfl (pc' := 69) rfl ?_
  refine ax_goto dX9_init_69 (pc' := 47) (by decide) ?_
  refine ax_iload_n dX9_init_47 rfl rfl (pc' := 48) rfl ?_
  refine ax_bipush dX9_init_48 (by decide) (pc' := 50) rfl ?_
  refine ax_icmp_ge (tgt := 72) dX9_init_50 (by decide) (pc' := 53) rfl (fun h => absurd h (by decide)) (fun _ => ?_)
  refine ax_aload_n dX9_init_53 rfl rfl (pc' := 54) rfl ?_
  refine ax_getr (v := 96) dX9_init_54 flX9_20 rfl (SN_sh 93 125 (by decide) h0_93) rfl (pc' := 57) rfl ?_
  refine ax_iload_n dX9_init_57 rfl rfl (pc' := 58) rfl ?_
  refine ax_new (I := iX9_init) (kc := 3) (ks := 312) (n := 125) dX9_init_58 nlX9_18 (SN_len 125 (Nat.le_of_ble_eq_true rfl)) (pc' := 61) rfl ?_
  refine ax_reC (S2 := SN 126) (SN_push h0_125) ?_
  refine ax_dup dX9_init_61 (pc' := 62) rfl ?_
  refine ax_ini (kc1 := 3) (ks1 := 312) (kc := 0) (ks := 0) [] [.inr 125, .inl 7, .inr 96] dX9_init_62 mlX9_30 (by decide) rfl rfl (by decide) (c_X7_125 E l _ (by omega) _) (pc' := 65) rfl (fun vv SS MM hq _ _ _ => ?_)
  obtain ⟨rfl, rfl, rfl⟩ := hq
  refine ax_reT (st2 := [.inr 125, .inl 7, .inr 96]) rfl ?_
  refine ax_aast dX9_init_65 (SN_sh 96 129 (by decide) h0_96) (by decide) (SN_sh 125 129 (by decide) h0_125) rfl (by decide) (by decide) rfl (by unfold ax_can; decide) (pc' := 66) rfl ?_
  refine ax_iinc dX9_init_66 rfl (by decide) (by decide) (ls' := [some (.inr 93), some (.inl 8)]) rfl (pc' := 69) rfl ?_
  refine ax_goto dX9_init_69 (pc' := 47) (by decide) ?_
  refine ax_iload_n dX9_init_47 rfl rfl (pc' := 48) rfl ?_
  refine ax_bipush dX9_init_48 (by decide) (pc' := 50) rfl ?_
  refine ax_icmp_ge (tgt := 72) dX9_init_50 (by decide) (pc' := 53) rfl (fun _ => ?_) (fun h => absurd h (by decide))
  exact ax_vret dX9_init_72 rfl ⟨rfl, rfl, rfl⟩
def f_mX7_133 (M : ax_Mem) : ax_Mem := ax_up (ax_row (ax_up (ax_row (ax_up (ax_row M 134 (fun _ => 0)) 133 5 134) 135 (fun _ => 0)) 133 6 135) 136 (fun _ => 0)) 133 7 136
set_option maxRecDepth 20000 in
theorem c_X7_133 (E : ax_Env) (l : Launch) (d : Nat) (hd : 1 ≤ d) (M : ax_Mem) : ax_M E l d 3 312 iX7_init [.inr 133] (SN 134) M (fun z0 S2 M2 => z0 = none ∧ S2 = SN 137 ∧ M2 = f_mX7_133 M) := by
  obtain ⟨d, rfl⟩ : ∃ d0, d = d0 + 1 := ⟨d - 1, by omega⟩
  refine ax_enter rfl (by decide) (ls := [some (.inr 133)]) rfl (fun _ hcm => ?_)
  refine ax_aload_n dX7_init_0 rfl rfl (pc' := 1) rfl ?_
  refine ax_oinit dX7_init_1 (by decide) mlX7_3 hx_oi hx_oc (by decide) (pc' := 4) rfl ?_
  refine ax_aload_n dX7_init_4 rfl rfl (pc' := 5) rfl ?_
  refine ax_bipush dX7_init_5 (by decide) (pc' := 7) rfl ?_
  refine ax_newa (kc := 2) (ks := 288) (N := 24) (n := 134) (v := 24) dX7_init_7 hx_arr rfl (by decide) (SN_len 134 (Nat.le_of_ble_eq_true rfl)) (pc' := 9) rfl ?_
  refine ax_reC (S2 := SN 135) (SN_push h0_134) ?_
  refine ax_putF dX7_init_9 flX7_9 rfl (fun C T N h => by cases h; rfl) rfl (SN_sh 133 135 (by decide) h0_133) rfl (by unfold ax_can; decide) (pc' := 12) rfl ?_
  refine ax_aload_n dX7_init_12 rfl rfl (pc' := 13) rfl ?_
  refine ax_sipush dX7_init_13 (by decide) (pc' := 16) rfl ?_
  refine ax_newa (kc := 1) (ks := 144) (N := 144) (n := 135) (v := 144) dX7_init_16 hx_arr rfl (by decide) (SN_len 135 (Nat.le_of_ble_eq_true rfl)) (pc' := 18) rfl ?_
  refine ax_reC (S2 := SN 136) (SN_push h0_135) ?_
  refine ax_putF dX7_init_18 flX7_15 rfl (fun C T N h => by cases h; rfl) rfl (SN_sh 133 136 (by decide) h0_133) rfl (by unfold ax_can; decide) (pc' := 21) rfl ?_
  refine ax_aload_n dX7_init_21 rfl rfl (pc' := 22) rfl ?_
  refine ax_sipush dX7_init_22 (by decide) (pc' := 25) rfl ?_
  refine ax_newa (kc := 0) (ks := 0) (N := 144) (n := 136) (v := 144) dX7_init_25 hx_arr rfl (by decide) (SN_len 136 (Nat.le_of_ble_eq_true rfl)) (pc' := 27) rfl ?_
  refine ax_reC (S2 := SN 137) (SN_push h0_136) ?_
  refine ax_putF dX7_init_27 flX7_18 rfl (fun C T N h => by cases h; rfl) rfl (SN_sh 133 137 (by decide) h0_133) rfl (by unfold ax_can; decide) (pc' := 30) rfl ?_
  exact ax_vret dX7_init_30 rfl ⟨rfl, rfl, rfl⟩
def f_mX7_137 (M : ax_Mem) : ax_Mem := ax_up (ax_row (ax_up (ax_row (ax_up (ax_row M 138 (fun _ => 0)) 137 5 138) 139 (fun _ => 0)) 137 6 139) 140 (fun _ => 0)) 137 7 140
set_option maxRecDepth 20000 in
theorem c_X7_137 (E : ax_Env) (l : Launch) (d : Nat) (hd : 1 ≤ d) (M : ax_Mem) : ax_M E l d 3 312 iX7_init [.inr 137] (SN 138) M (fun z0 S2 M2 => z0 = none ∧ S2 = SN 141 ∧ M2 = f_mX7_137 M) := by
  obtain ⟨d, rfl⟩ : ∃ d0, d = d0 + 1 := ⟨d - 1, by omega⟩
  refine ax_enter rfl (by decide) (ls := [some (.inr 137)]) rfl (fun _ hcm => ?_)
  refine ax_aload_n dX7_init_0 rfl rfl (pc' := 1) rfl ?_
  refine ax_oinit dX7_init_1 (by decide) mlX7_3 hx_oi hx_oc (by decide) (pc' := 4) rfl ?_
  refine ax_aload_n dX7_init_4 rfl rfl (pc' := 5) rfl ?_
  refine ax_bipush dX7_init_5 (by decide) (pc' := 7) rfl ?_
  refine ax_newa (kc := 2) (ks := 288) (N := 24) (n := 138) (v := 24) dX7_init_7 hx_arr rfl (by decide) (SN_len 138 (Nat.le_of_ble_eq_true rfl)) (pc' := 9) rfl ?_
  refine ax_reC (S2 := SN 139) (SN_push h0_138) ?_
  refine ax_putF dX7_init_9 flX7_9 rfl (fun C T N h => by cases h; rfl) rfl (SN_sh 137 139 (by decide) h0_137) rfl (by unfold ax_can; decide) (pc' := 12) rfl ?_
  refine ax_aload_n dX7_init_12 rfl rfl (pc' := 13) rfl ?_
  refine ax_sipush dX7_init_13 (by decide) (pc' := 16) rfl ?_
  refine ax_newa (kc := 1) (ks := 144) (N := 144) (n := 139) (v := 144) dX7_init_16 hx_arr rfl (by decide) (SN_len 139 (Nat.le_of_ble_eq_true rfl)) (pc' := 18) rfl ?_
  refine ax_reC (S2 := SN 140) (SN_push h0_139) ?_
  refine ax_putF dX7_init_18 flX7_15 rfl (fun C T N h => by cases h; rfl) rfl (SN_sh 137 140 (by decide) h0_137) rfl (by unfold ax_can; decide) (pc' := 21) rfl ?_
  refine ax_aload_n dX7_init_21 rfl rfl (pc' := 22) rfl ?_
  refine ax_sipush dX7_init_22 (by decide) (pc' := 25) rfl ?_
  refine ax_newa (kc := 0) (ks := 0) (N := 144) (n := 140) (v := 144) dX7_init_25 hx_arr rfl (by decide) (SN_len 140 (Nat.le_of_ble_eq_true rfl)) (pc' := 27) rfl ?_
  refine ax_reC (S2 := SN 141) (SN_push h0_140) ?_
  refine ax_putF dX7_init_27 flX7_18 rfl (fun C T N h => by cases h; rfl) rfl (SN_sh 137 141 (by decide) h0_137) rfl (by unfold ax_can; decide) (pc' := 30) rfl ?_
  exact ax_vret dX7_init_30 rfl ⟨rfl, rfl, rfl⟩
def f_mX7_141 (M : ax_Mem) : ax_Mem := ax_up (ax_row (ax_up (ax_row (ax_up (ax_row M 142 (fun _ => 0)) 141 5 142) 143 (fun _ => 0)) 141 6 143) 144 (fun _ => 0)) 141 7 144
set_option maxRecDepth 20000 in
theorem c_X7_141 (E : ax_Env) (l : Launch) (d : Nat) (hd : 1 ≤ d) (M : ax_Mem) : ax_M E l d 3 312 iX7_init [.inr 141] (SN 142) M (fun z0 S2 M2 => z0 = none ∧ S2 = SN 145 ∧ M2 = f_mX7_141 M) := by
  obtain ⟨d, rfl⟩ : ∃ d0, d = d0 + 1 := ⟨d - 1, by omega⟩
  refine ax_enter rfl (by decide) (ls := [some (.inr 141)]) rfl (fun _ hcm => ?_)
  refine ax_aload_n dX7_init_0 rfl rfl (pc' := 1) rfl ?_
  refine ax_oinit dX7_init_1 (by decide) mlX7_3 hx_oi hx_oc (by decide) (pc' := 4) rfl ?_
  refine ax_aload_n dX7_init_4 rfl rfl (pc' := 5) rfl ?_
  refine ax_bipush dX7_init_5 (by decide) (pc' := 7) rfl ?_
  refine ax_newa (kc := 2) (ks := 288) (N := 24) (n := 142) (v := 24) dX7_init_7 hx_arr rfl (by decide) (SN_len 142 (Nat.le_of_ble_eq_true rfl)) (pc' := 9) rfl ?_
  refine ax_reC (S2 := SN 143) (SN_push h0_142) ?_
  refine ax_putF dX7_init_9 flX7_9 rfl (fun C T N h => by cases h; rfl) rfl (SN_sh 141 143 (by decide) h0_141) rfl (by unfold ax_can; decide) (pc' := 12) rfl ?_
  refine ax_aload_n dX7_init_12 rfl rfl (pc' := 13) rfl ?_
  refine ax_sipush dX7_init_13 (by decide) (pc' := 16) rfl ?_
  refine ax_newa (kc := 1) (ks := 144) (N := 144) (n := 143) (v := 144) dX7_init_16 hx_arr rfl (by decide) (SN_len 143 (Nat.le_of_ble_eq_true rfl)) (pc' := 18) rfl ?_
  refine ax_reC (S2 := SN 144) (SN_push h0_143) ?_
  refine ax_putF dX7_init_18 flX7_15 rfl (fun C T N h => by cases h; rfl) rfl (SN_sh 141 144 (by decide) h0_141) rfl (by unfold ax_can; decide) (pc' := 21) rfl ?_
  refine ax_aload_n dX7_init_21 rfl rfl (pc' := 22) rfl ?_
  refine ax_sipush dX7_init_22 (by decide) (pc' := 25) rfl ?_
  refine ax_newa (kc := 0) (ks := 0) (N := 144) (n := 144) (v := 144) dX7_init_25 hx_arr rfl (by decide) (SN_len 144 (Nat.le_of_ble_eq_true rfl)) (pc' := 27) rfl ?_
  refine ax_reC (S2 := SN 145) (SN_push h0_144) ?_
  refine ax_putF dX7_init_27 flX7_18 rfl (fun C T N h => by cases h; rfl) rfl (SN_sh 141 145 (by decide) h0_141) rfl (by unfold ax_can; decide) (pc' := 30) rfl ?_
  exact ax_vret dX7_init_30 rfl ⟨rfl, rfl, rfl⟩
def f_mX7_145 (M : ax_Mem) : ax_Mem := ax_up (ax_row (ax_up (ax_row (ax_up (ax_row M 146 (fun _ => 0)) 145 5 146) 147 (fun _ => 0)) 145 6 147) 148 (fun _ => 0)) 145 7 148
set_option maxRecDepth 20000 in
theorem c_X7_145 (E : ax_Env) (l : Launch) (d : Nat) (hd : 1 ≤ d) (M : ax_Mem) : ax_M E l d 3 312 iX7_init [.inr 145] (SN 146) M (fun z0 S2 M2 => z0 = none ∧ S2 = SN 149 ∧ M2 = f_mX7_145 M) := by
  obtain ⟨d, rfl⟩ : ∃ d0, d = d0 + 1 := ⟨d - 1, by omega⟩
  refine ax_enter rfl (by decide) (ls := [some (.inr 145)]) rfl (fun _ hcm => ?_)
  refine ax_aload_n dX7_init_0 rfl rfl (pc' := 1) rfl ?_
  refine ax_oinit dX7_init_1 (by decide) mlX7_3 hx_oi hx_oc (by decide) (pc' := 4) rfl ?_
  refine ax_aload_n dX7_init_4 rfl rfl (pc' := 5) rfl ?_
  refine ax_bipush dX7_init_5 (by decide) (pc' := 7) rfl ?_
  refine ax_newa (kc := 2) (ks := 288) (N := 24) (n := 146) (v := 24) dX7_init_7 hx_arr rfl (by decide) (SN_len 146 (Nat.le_of_ble_eq_true rfl)) (pc' := 9) rfl ?_
  refine ax_reC (S2 := SN 147) (SN_push h0_146) ?_
  refine ax_putF dX7_init_9 flX7_9 rfl (fun C T N h => by cases h; rfl) rfl (SN_sh 145 147 (by decide) h0_145) rfl (by unfold ax_can; decide) (pc' := 12) rfl ?_
  refine ax_aload_n dX7_init_12 rfl rfl (pc' := 13) rfl ?_
  refine ax_sipush dX7_init_13 (by decide) (pc' := 16) rfl ?_
  refine ax_newa (kc := 1) (ks := 144) (N := 144) (n := 147) (v := 144) dX7_init_16 hx_arr rfl (by decide) (SN_len 147 (Nat.le_of_ble_eq_true rfl)) (pc' := 18) rfl ?_
  refine ax_reC (S2 := SN 148) (SN_push h0_147) ?_
  refine ax_putF dX7_init_18 flX7_15 rfl (fun C T N h => by cases h; rfl) rfl (SN_sh 145 148 (by decide) h0_145) rfl (by unfold ax_can; decide) (pc' := 21) rfl ?_
  refine ax_aload_n dX7_init_21 rfl rfl (pc' := 22) rfl ?_
  refine ax_sipush dX7_init_22 (by decide) (pc' := 25) rfl ?_
  refine ax_newa (kc := 0) (ks := 0) (N := 144) (n := 148) (v := 144) dX7_init_25 hx_arr rfl (by decide) (SN_len 148 (Nat.le_of_ble_eq_true rfl)) (pc' := 27) rfl ?_
  refine ax_reC (S2 := SN 149) (SN_push h0_148) ?_
  refine ax_putF dX7_init_27 flX7_18 rfl (fun C T N h => by cases h; rfl) rfl (SN_sh 145 149 (by decide) h0_145) rfl (by unfold ax_can; decide) (pc' := 30) rfl ?_
  exact ax_vret dX7_init_30 rfl ⟨rfl, rfl, rfl⟩
def f_mX7_149 (M : ax_Mem) : ax_Mem := ax_up (ax_row (ax_up (ax_row (ax_up (ax_row M 150 (fun _ => 0)) 149 5 150) 151 (fun _ => 0)) 149 6 151) 152 (fun _ => 0)) 149 7 152
set_option maxRecDepth 20000 in
theorem c_X7_149 (E : ax_Env) (l : Launch) (d : Nat) (hd : 1 ≤ d) (M : ax_Mem) : ax_M E l d 3 312 iX7_init [.inr 149] (SN 150) M (fun z0 S2 M2 => z0 = none ∧ S2 = SN 153 ∧ M2 = f_mX7_149 M) := by
  obtain ⟨d, rfl⟩ : ∃ d0, d = d0 + 1 := ⟨d - 1, by omega⟩
  refine ax_enter rfl (by decide) (ls := [some (.inr 149)]) rfl (fun _ hcm => ?_)
  refine ax_aload_n dX7_init_0 rfl rfl (pc' := 1) rfl ?_
  refine ax_oinit dX7_init_1 (by decide) mlX7_3 hx_oi hx_oc (by decide) (pc' := 4) rfl ?_
  refine ax_aload_n dX7_init_4 rfl rfl (pc' := 5) rfl ?_
  refine ax_bipush dX7_init_5 (by decide) (pc' := 7) rfl ?_
  refine ax_newa (kc := 2) (ks := 288) (N := 24) (n := 150) (v := 24) dX7_init_7 hx_arr rfl (by decide) (SN_len 150 (Nat.le_of_ble_eq_true rfl)) (pc' := 9) rfl ?_
  refine ax_reC (S2 := SN 151) (SN_push h0_150) ?_
  refine ax_putF dX7_init_9 flX7_9 rfl (fun C T N h => by cases h; rfl) rfl (SN_sh 149 151 (by decide) h0_149) rfl (by unfold ax_can; decide) (pc' := 12) rfl ?_
  refine ax_aload_n dX7_init_12 rfl rfl (pc' := 13) rfl ?_
  refine ax_sipush dX7_init_13 (by decide) (pc' := 16) rfl ?_
  refine ax_newa (kc := 1) (ks := 144) (N := 144) (n := 151) (v := 144) dX7_init_16 hx_arr rfl (by decide) (SN_len 151 (Nat.le_of_ble_eq_true rfl)) (pc' := 18) rfl ?_
  refine ax_reC (S2 := SN 152) (SN_push h0_151) ?_
  refine ax_putF dX7_init_18 flX7_15 rfl (fun C T N h => by cases h; rfl) rfl (SN_sh 149 152 (by decide) h0_149) rfl (by unfold ax_can; decide) (pc' := 21) rfl ?_
  refine ax_aload_n dX7_init_21 rfl rfl (pc' := 22) rfl ?_
  refine ax_sipush dX7_init_22 (by decide) (pc' := 25) rfl ?_
  refine ax_newa (kc := 0) (ks := 0) (N := 144) (n := 152) (v := 144) dX7_init_25 hx_arr rfl (by decide) (SN_len 152 (Nat.le_of_ble_eq_true rfl)) (pc' := 27) rfl ?_
  refine ax_reC (S2 := SN 153) (SN_push h0_152) ?_
  refine ax_putF dX7_init_27 flX7_18 rfl (fun C T N h => by cases h; rfl) rfl (SN_sh 149 153 (by decide) h0_149) rfl (by unfold ax_can; decide) (pc' := 30) rfl ?_
  exact ax_vret dX7_init_30 rfl ⟨rfl, rfl, rfl⟩
def f_mX7_153 (M : ax_Mem) : ax_Mem := ax_up (ax_row (ax_up (ax_row (ax_up (ax_row M 154 (fun _ => 0)) 153 5 154) 155 (fun _ => 0)) 153 6 155) 156 (fun _ => 0)) 153 7 156
set_option maxRecDepth 20000 in
theorem c_X7_153 (E : ax_Env) (l : Launch) (d : Nat) (hd : 1 ≤ d) (M : ax_Mem) : ax_M E l d 3 312 iX7_init [.inr 153] (SN 154) M (fun z0 S2 M2 => z0 = none ∧ S2 = SN 157 ∧ M2 = f_mX7_153 M) := by
  obtain ⟨d, rfl⟩ : ∃ d0, d = d0 + 1 := ⟨d - 1, by omega⟩
  refine ax_enter rfl (by decide) (ls := [some (.inr 153)]) rfl (fun _ hcm => ?_)
  refine ax_aload_n dX7_init_0 rfl rfl (pc' := 1) rfl ?_
  refine ax_oinit dX7_init_1 (by decide) mlX7_3 hx_oi hx_oc (by decide) (pc' := 4) rfl ?_
  refine ax_aload_n dX7_init_4 rfl rfl (pc' := 5) rfl ?_
  refine ax_bipush dX7_init_5 (by decide) (pc' := 7) rfl ?_
  refine ax_newa (kc := 2) (ks := 288) (N := 24) (n := 154) (v := 24) dX7_init_7 hx_arr rfl (by decide) (SN_len 154 (Nat.le_of_ble_eq_true rfl)) (pc' := 9) rfl ?_
  refine ax_reC (S2 := SN 155) (SN_push h0_154) ?_
  refine ax_putF dX7_init_9 flX7_9 rfl (fun C T N h => by cases h; rfl) rfl (SN_sh 153 155 (by decide) h0_153) rfl (by unfold ax_can; decide) (pc' := 12) rfl ?_
  refine ax_aload_n dX7_init_12 rfl rfl (pc' := 13) rfl ?_
  refine ax_sipush dX7_init_13 (by decide) (pc' := 16) rfl ?_
  refine ax_newa (kc := 1) (ks := 144) (N := 144) (n := 155) (v := 144) dX7_init_16 hx_arr rfl (by decide) (SN_len 155 (Nat.le_of_ble_eq_true rfl)) (pc' := 18) rfl ?_
  refine ax_reC (S2 := SN 156) (SN_push h0_155) ?_
  refine ax_putF dX7_init_18 flX7_15 rfl (fun C T N h => by cases h; rfl) rfl (SN_sh 153 156 (by decide) h0_153) rfl (by unfold ax_can; decide) (pc' := 21) rfl ?_
  refine ax_aload_n dX7_init_21 rfl rfl (pc' := 22) rfl ?_
  refine ax_sipush dX7_init_22 (by decide) (pc' := 25) rfl ?_
  refine ax_newa (kc := 0) (ks := 0) (N := 144) (n := 156) (v := 144) dX7_init_25 hx_arr rfl (by decide) (SN_len 156 (Nat.le_of_ble_eq_true rfl)) (pc' := 27) rfl ?_
  refine ax_reC (S2 := SN 157) (SN_push h0_156) ?_
  refine ax_putF dX7_init_27 flX7_18 rfl (fun C T N h => by cases h; rfl) rfl (SN_sh 153 157 (by decide) h0_153) rfl (by unfold ax_can; decide) (pc' := 30) rfl ?_
  exact ax_vret dX7_init_30 rfl ⟨rfl, rfl, rfl⟩
def f_mX7_157 (M : ax_Mem) : ax_Mem := ax_up (ax_row (ax_up (ax_row (ax_up (ax_row M 158 (fun _ => 0)) 157 5 158) 159 (fun _ => 0)) 157 6 159) 160 (fun _ => 0)) 157 7 160
set_option maxRecDepth 20000 in
theorem c_X7_157 (E : ax_Env) (l : Launch) (d : Nat) (hd : 1 ≤ d) (M : ax_Mem) : ax_M E l d 3 312 iX7_init [.inr 157] (SN 158) M (fun z0 S2 M2 => z0 = none ∧ S2 = SN 161 ∧ M2 = f_mX7_157 M) := by
  obtain ⟨d, rfl⟩ : ∃ d0, d = d0 + 1 := ⟨d - 1, by omega⟩
  refine ax_enter rfl (by decide) (ls := [some (.inr 157)]) rfl (fun _ hcm => ?_)
  refine ax_aload_n dX7_init_0 rfl rfl (pc' := 1) rfl ?_
  refine ax_oinit dX7_init_1 (by decide) mlX7_3 hx_oi hx_oc (by decide) (pc' := 4) rfl ?_
  refine ax_aload_n dX7_init_4 rfl rfl (pc' := 5) rfl ?_
  refine ax_bipush dX7_init_5 (by decide) (pc' := 7) rfl ?_
  refine ax_newa (kc := 2) (ks := 288) (N := 24) (n := 158) (v := 24) dX7_init_7 hx_arr rfl (by decide) (SN_len 158 (Nat.le_of_ble_eq_true rfl)) (pc' := 9) rfl ?_
  refine ax_reC (S2 := SN 159) (SN_push h0_158) ?_
  refine ax_putF dX7_init_9 flX7_9 rfl (fun C T N h => by cases h; rfl) rfl (SN_sh 157 159 (by decide) h0_157) rfl (by unfold ax_can; decide) (pc' := 12) rfl ?_
  refine ax_aload_n dX7_init_12 rfl rfl (pc' := 13) rfl ?_
  refine ax_sipush dX7_init_13 (by decide) (pc' := 16) rfl ?_
  refine ax_newa (kc := 1) (ks := 144) (N := 144) (n := 159) (v := 144) dX7_init_16 hx_arr rfl (by decide) (SN_len 159 (Nat.le_of_ble_eq_true rfl)) (pc' := 18) rfl ?_
  refine ax_reC (S2 := SN 160) (SN_push h0_159) ?_
  refine ax_putF dX7_init_18 flX7_15 rfl (fun C T N h => by cases h; rfl) rfl (SN_sh 157 160 (by decide) h0_157) rfl (by unfold ax_can; decide) (pc' := 21) rfl ?_
  refine ax_aload_n dX7_init_21 rfl rfl (pc' := 22) rfl ?_
  refine ax_sipush dX7_init_22 (by decide) (pc' := 25) rfl ?_
  refine ax_newa (kc := 0) (ks := 0) (N := 144) (n := 160) (v := 144) dX7_init_25 hx_arr rfl (by decide) (SN_len 160 (Nat.le_of_ble_eq_true rfl)) (pc' := 27) rfl ?_
  refine ax_reC (S2 := SN 161) (SN_push h0_160) ?_
  refine ax_putF dX7_init_27 flX7_18 rfl (fun C T N h => by cases h; rfl) rfl (SN_sh 157 161 (by decide) h0_157) rfl (by unfold ax_can; decide) (pc' := 30) rfl ?_
  exact ax_vret dX7_init_30 rfl ⟨rfl, rfl, rfl⟩
def f_mX7_161 (M : ax_Mem) : ax_Mem := ax_up (ax_row (ax_up (ax_row (ax_up (ax_row M 162 (fun _ => 0)) 161 5 162) 163 (fun _ => 0)) 161 6 163) 164 (fun _ => 0)) 161 7 164
set_option maxRecDepth 20000 in
theorem c_X7_161 (E : ax_Env) (l : Launch) (d : Nat) (hd : 1 ≤ d) (M : ax_Mem) : ax_M E l d 3 312 iX7_init [.inr 161] (SN 162) M (fun z0 S2 M2 => z0 = none ∧ S2 = SN 165 ∧ M2 = f_mX7_161 M) := by
  obtain ⟨d, rfl⟩ : ∃ d0, d = d0 + 1 := ⟨d - 1, by omega⟩
  refine ax_enter rfl (by decide) (ls := [some (.inr 161)]) rfl (fun _ hcm => ?_)
  refine ax_aload_n dX7_init_0 rfl rfl (pc' := 1) rfl ?_
  refine ax_oinit dX7_init_1 (by decide) mlX7_3 hx_oi hx_oc (by decide) (pc' := 4) rfl ?_
  refine ax_aload_n dX7_init_4 rfl rfl (pc' := 5) rfl ?_
  refine ax_bipush dX7_init_5 (by decide) (pc' := 7) rfl ?_
  refine ax_newa (kc := 2) (ks := 288) (N := 24) (n := 162) (v := 24) dX7_init_7 hx_arr rfl (by decide) (SN_len 162 (Nat.le_of_ble_eq_true rfl)) (pc' := 9) rfl ?_
  refine ax_reC (S2 := SN 163) (SN_push h0_162) ?_
  refine ax_putF dX7_init_9 flX7_9 rfl (fun C T N h => by cases h; rfl) rfl (SN_sh 161 163 (by decide) h0_161) rfl (by unfold ax_can; decide) (pc' := 12) rfl ?_
  refine ax_aload_n dX7_init_12 rfl rfl (pc' := 13) rfl ?_
  refine ax_sipush dX7_init_13 (by decide) (pc' := 16) rfl ?_
  refine ax_newa (kc := 1) (ks := 144) (N := 144) (n := 163) (v := 144) dX7_init_16 hx_arr rfl (by decide) (SN_len 163 (Nat.le_of_ble_eq_true rfl)) (pc' := 18) rfl ?_
  refine ax_reC (S2 := SN 164) (SN_push h0_163) ?_
  refine ax_putF dX7_init_18 flX7_15 rfl (fun C T N h => by cases h; rfl) rfl (SN_sh 161 164 (by decide) h0_161) rfl (by unfold ax_can; decide) (pc' := 21) rfl ?_
  refine ax_aload_n dX7_init_21 rfl rfl (pc' := 22) rfl ?_
  refine ax_sipush dX7_init_22 (by decide) (pc' := 25) rfl ?_
  refine ax_newa (kc := 0) (ks := 0) (N := 144) (n := 164) (v := 144) dX7_init_25 hx_arr rfl (by decide) (SN_len 164 (Nat.le_of_ble_eq_true rfl)) (pc' := 27) rfl ?_
  refine ax_reC (S2 := SN 165) (SN_push h0_164) ?_
  refine ax_putF dX7_init_27 flX7_18 rfl (fun C T N h => by cases h; rfl) rfl (SN_sh 161 165 (by decide) h0_161) rfl (by unfold ax_can; decide) (pc' := 30) rfl ?_
  exact ax_vret dX7_init_30 rfl ⟨rfl, rfl, rfl⟩
def f_mX9_129 (M : ax_Mem) : ax_Mem := ax_up (f_mX7_161 (ax_row (ax_up (f_mX7_157 (ax_row (ax_up (f_mX7_153 (ax_row (ax_up (f_mX7_149 (ax_row (ax_up (f_mX7_145 (ax_row (ax_up (f_mX7_141 (ax_row (ax_up (f_mX7_137 (ax_row (ax_up (f_mX7_133 (ax_row (f_mfl 131 6 2 (f_mfl 130 6 3 (ax_up (ax_row (ax_up (ax_row (ax_up (ax_row M 130 (fun _ => 0)) 129 4 130) 131 (fun _ => 0)) 129 5 131) 132 (fun _ => -1)) 129 6 132))) 133 (ax_zero 7))) 132 0 133) 137 (ax_zero 7))) 132 1 137) 141 (ax_zero 7))) 132 2 141) 145 (ax_zero 7))) 132 3 145) 149 (ax_zero 7))) 132 4 149) 153 (ax_zero 7))) 132 5 153) 157 (ax_zero 7))) 132 6 157) 161 (ax_zero 7))) 132 7 161
set_option maxRecDepth 20000 in
theorem c_X9_129 (E : ax_Env) (l : Launch) (d : Nat) (hd : 2 ≤ d) (M : ax_Mem) : ax_M E l d 35 2580 iX9_init [.inr 129] (SN 130) M (fun z0 S2 M2 => z0 = none ∧ S2 = SN 165 ∧ M2 = f_mX9_129 M) := by
  obtain ⟨d, rfl⟩ : ∃ d0, d = d0 + 1 := ⟨d - 1, by omega⟩
  refine ax_enter rfl (by decide) (ls := [some (.inr 129), none]) rfl (fun _ hcm => ?_)
  refine ax_aload_n dX9_init_0 rfl rfl (pc' := 1) rfl ?_
  refine ax_oinit dX9_init_1 (by decide) mlX9_3 hx_oi hx_oc (by decide) (pc' := 4) rfl ?_
  refine ax_aload_n dX9_init_4 rfl rfl (pc' := 5) rfl ?_
  refine ax_bipush dX9_init_5 (by decide) (pc' := 7) rfl ?_
  refine ax_newa (kc := 34) (ks := 2574) (N := 6) (n := 130) (v := 6) dX9_init_7 hx_arr rfl (by decide) (SN_len 130 (Nat.le_of_ble_eq_true rfl)) (pc' := 9) rfl ?_
  refine ax_reC (S2 := SN 131) (SN_push h0_130) ?_
  refine ax_putF dX9_init_9 flX9_9 rfl (fun C T N h => by cases h; rfl) rfl (SN_sh 129 131 (by decide) h0_129) rfl (by unfold ax_can; decide) (pc' := 12) rfl ?_
  refine ax_aload_n dX9_init_12 rfl rfl (pc' := 13) rfl ?_
  refine ax_bipush dX9_init_13 (by decide) (pc' := 15) rfl ?_
  refine ax_newa (kc := 33) (ks := 2568) (N := 6) (n := 131) (v := 6) dX9_init_15 hx_arr rfl (by decide) (SN_len 131 (Nat.le_of_ble_eq_true rfl)) (pc' := 17) rfl ?_
  refine ax_reC (S2 := SN 132) (SN_push h0_131) ?_
  refine ax_putF dX9_init_17 flX9_15 rfl (fun C T N h => by cases h; rfl) rfl (SN_sh 129 132 (by decide) h0_129) rfl (by unfold ax_can; decide) (pc' := 20) rfl ?_
  refine ax_aload_n dX9_init_20 rfl rfl (pc' := 21) rfl ?_
  refine ax_bipush dX9_init_21 (by decide) (pc' := 23) rfl ?_
  refine ax_newq (ci := 14) (kc := 32) (ks := 2560) (N := 8) (n := 132) (v := 8) dX9_init_23 (by decide) alX9_18 rfl (by decide) (SN_len 132 (Nat.le_of_ble_eq_true rfl)) (pc' := 26) rfl ?_
  refine ax_reC (S2 := SN 133) (SN_push h0_132) ?_
  refine ax_putF dX9_init_26 flX9_20 rfl (fun C T N h => by cases h; rfl) rfl (SN_sh 129 133 (by decide) h0_129) rfl (by unfold ax_can; decide) (pc' := 29) rfl ?_
  refine ax_aload_n dX9_init_29 rfl rfl (pc' := 30) rfl ?_
  refine ax_getr (v := 130) dX9_init_30 flX9_9 rfl (SN_sh 129 133 (by decide) h0_129) rfl (pc' := 33) rfl ?_
  refine ax_iconst dX9_init_33 (by decide) (pc' := 34) rfl ?_
  refine ax_ins_gen (kc1 := 0) (ks1 := 0) (kc := 32) (ks := 2560) [.inr 130, .inl 3] [] dX9_init_34 mlX9_24 rfl rfl (by decide) (c_fill E l _ 133 130 6 (SN_sh 130 133 (by decide) h0_130) _ (by decide)) (pc' := 37) rfl (fun vv SS MM hq _ _ _ => ?_)
  obtain ⟨rfl, rfl, rfl⟩ := hq
  refine ax_reT (st2 := []) rfl ?_
  refine ax_aload_n dX9_init_37 rfl rfl (pc' := 38) rfl ?_
  refine ax_getr (v := 131) dX9_init_38 flX9_15 rfl (SN_sh 129 133 (by decide) h0_129) rfl (pc' := 41) rfl ?_
  refine ax_iconst dX9_init_41 (by decide) (pc' := 42) rfl ?_
  refine ax_ins_gen (kc1 := 0) (ks1 := 0) (kc := 32) (ks := 2560) [.inr 131, .inl 2] [] dX9_init_42 mlX9_24 rfl rfl (by decide) (c_fill E l _ 133 131 6 (SN_sh 131 133 (by decide) h0_131) _ (by decide)) (pc' := 45) rfl (fun vv SS MM hq _ _ _ => ?_)
  obtain ⟨rfl, rfl, rfl⟩ := hq
  refine ax_reT (st2 := []) rfl ?_
  refine ax_iconst dX9_init_45 (by decide) (pc' := 46) rfl ?_
  refine ax_istore_n dX9_init_46 rfl (by decide) (ls' := [some (.inr 129), some (.inl 0)]) rfl (pc' := 47) rfl ?_
  refine ax_iload_n dX9_init_47 rfl rfl (pc' := 48) rfl ?_
  refine ax_bipush dX9_init_48 (by decide) (pc' := 50) rfl ?_
  refine ax_icmp_ge (tgt := 72) dX9_init_50 (by decide) (pc' := 53) rfl (fun h => absurd h (by decide)) (fun _ => ?_)
  refine ax_aload_n dX9_init_53 rfl rfl (pc' := 54) rfl ?_
  refine ax_getr (v := 132) dX9_init_54 flX9_20 rfl (SN_sh 129 133 (by decide) h0_129) rfl (pc' := 57) rfl ?_
  refine ax_iload_n dX9_init_57 rfl rfl (pc' := 58) rfl ?_
  refine ax_new (I := iX9_init) (kc := 31) (ks := 2552) (n := 133) dX9_init_58 nlX9_18 (SN_len 133 (Nat.le_of_ble_eq_true rfl)) (pc' := 61) rfl ?_
  refine ax_reC (S2 := SN 134) (SN_push h0_133) ?_
  refine ax_dup dX9_init_61 (pc' := 62) rfl ?_
  refine ax_ini (kc1 := 3) (ks1 := 312) (kc := 28) (ks := 2240) [] [.inr 133, .inl 0, .inr 132] dX9_init_62 mlX9_30 (by decide) rfl rfl (by decide) (c_X7_133 E l _ (by omega) _) (pc' := 65) rfl (fun vv SS MM hq _ _ _ => ?_)
  obtain ⟨rfl, rfl, rfl⟩ := hq
  refine ax_reT (st2 := [.inr 133, .inl 0, .inr 132]) rfl ?_
  refine ax_aast dX9_init_65 (SN_sh 132 137 (by decide) h0_132) (by decide) (SN_sh 133 137 (by decide) h0_133) rfl (by decide) (by decide) rfl (by unfold ax_can; decide) (pc' := 66) rfl ?_
  refine ax_iinc dX9_init_66 rfl (by decide) (by decide) (ls' := [some (.inr 129), some (.inl 1)]) rfl (pc' := 69) rfl ?_
  refine ax_goto dX9_init_69 (pc' := 47) (by decide) ?_
  refine ax_iload_n dX9_init_47 rfl rfl (pc' := 48) rfl ?_
  refine ax_bipush dX9_init_48 (by decide) (pc' := 50) rfl ?_
  refine ax_icmp_ge (tgt := 72) dX9_init_50 (by decide) (pc' := 53) rfl (fun h => absurd h (by decide)) (fun _ => ?_)
  refine ax_aload_n dX9_init_53 rfl rfl (pc' := 54) rfl ?_
  refine ax_getr (v := 132) dX9_init_54 flX9_20 rfl (SN_sh 129 137 (by decide) h0_129) rfl (pc' := 57) rfl ?_
  refine ax_iload_n dX9_init_57 rfl rfl (pc' := 58) rfl ?_
  refine ax_new (I := iX9_init) (kc := 27) (ks := 2232) (n := 137) dX9_init_58 nlX9_18 (SN_len 137 (Nat.le_of_ble_eq_true rfl)) (pc' := 61) rfl ?_
  refine ax_reC (S2 := SN 138) (SN_push h0_137) ?_
  refine ax_dup dX9_init_61 (pc' := 62) rfl ?_
  refine ax_ini (kc1 := 3) (ks1 := 312) (kc := 24) (ks := 1920) [] [.inr 137, .inl 1, .inr 132] dX9_init_62 mlX9_30 (by decide) rfl rfl (by decide) (c_X7_137 E l _ (by omega) _) (pc' := 65) rfl (fun vv SS MM hq _ _ _ => ?_)
  obtain ⟨rfl, rfl, rfl⟩ := hq
  refine ax_reT (st2 := [.inr 137, .inl 1, .inr 132]) rfl ?_
  refine ax_aast dX9_init_65 (SN_sh 132 141 (by decide) h0_132) (by decide) (SN_sh 137 141 (by decide) h0_137) rfl (by decide) (by decide) rfl (by unfold ax_can; decide) (pc' := 66) rfl ?_
  refine ax_iinc dX9_init_66 rfl (by decide) (by decide) (ls' := [some (.inr 129), some (.inl 2)]) rfl (pc' := 69) rfl ?_
  refine ax_goto dX9_init_69 (pc' := 47) (by decide) ?_
  refine ax_iload_n dX9_init_47 rfl rfl (pc' := 48) rfl ?_
  refine ax_bipush dX9_init_48 (by decide) (pc' := 50) rfl ?_
  refine ax_icmp_ge (tgt := 72) dX9_init_50 (by decide) (pc' := 53) rfl (fun h => absurd h (by decide)) (fun _ => ?_)
  refine ax_aload_n dX9_init_53 rfl rfl (pc' := 54) rfl ?_
  refine ax_getr (v := 132) dX9_init_54 flX9_20 rfl (SN_sh 129 141 (by decide) h0_129) rfl (pc' := 57) rfl ?_
  refine ax_iload_n dX9_init_57 rfl rfl (pc' := 58) rfl ?_
  refine ax_new (I := iX9_init) (kc := 23) (ks := 1912) (n := 141) dX9_init_58 nlX9_18 (SN_len 141 (Nat.le_of_ble_eq_true rfl)) (pc' := 61) rfl ?_
  refine ax_reC (S2 := SN 142) (SN_push h0_141) ?_
  refine ax_dup dX9_init_61 (pc' := 62) rfl ?_
  refine ax_ini (kc1 := 3) (ks1 := 312) (kc := 20) (ks := 1600) [] [.inr 141, .inl 2, .inr 132] dX9_init_62 mlX9_30 (by decide) rfl rfl (by decide) (c_X7_141 E l _ (by omega) _) (pc' := 65) rfl (fun vv SS MM hq _ _ _ => ?_)
  obtain ⟨rfl, rfl, rfl⟩ := hq
  refine ax_reT (st2 := [.inr 141, .inl 2, .inr 132]) rfl ?_
  refine ax_aast dX9_init_65 (SN_sh 132 145 (by decide) h0_132) (by decide) (SN_sh 141 145 (by decide) h0_141) rfl (by decide) (by decide) rfl (by unfold ax_can; decide) (pc' := 66) rfl ?_
  refine ax_iinc dX9_init_66 rfl (by decide) (by decide) (ls' := [some (.inr 129), some (.inl 3)]) rfl (pc' := 69) rfl ?_
  refine ax_goto dX9_init_69 (pc' := 47) (by decide) ?_
  refine ax_iload_n dX9_init_47 rfl rfl (pc' := 48) rfl ?_
  refine ax_bipush dX9_init_48 (by decide) (pc' := 50) rfl ?_
  refine ax_icmp_ge (tgt := 72) dX9_init_50 (by decide) (pc' := 53) rfl (fun h => absurd h (by decide)) (fun _ => ?_)
  refine ax_aload_n dX9_init_53 rfl rfl (pc' := 54) rfl ?_
  refine ax_getr (v := 132) dX9_init_54 flX9_20 rfl (SN_sh 129 145 (by decide) h0_129) rfl (pc' := 57) rfl ?_
  refine ax_iload_n dX9_init_57 rfl rfl (pc' := 58) rfl ?_
  refine ax_new (I := iX9_init) (kc := 19) (ks := 1592) (n := 145) dX9_init_58 nlX9_18 (SN_len 145 (Nat.le_of_ble_eq_true rfl)) (pc' := 61) rfl ?_
  refine ax_reC (S2 := SN 146) (SN_push h0_145) ?_
  refine ax_dup dX9_init_61 (pc' := 62) rfl ?_
  refine ax_ini (kc1 := 3) (ks1 := 312) (kc := 16) (ks := 1280) [] [.inr 145, .inl 3, .inr 132] dX9_init_62 mlX9_30 (by decide) rfl rfl (by decide) (c_X7_145 E l _ (by omega) _) (pc' := 65) rfl (fun vv SS MM hq _ _ _ => ?_)
  obtain ⟨rfl, rfl, rfl⟩ := hq
  refine ax_reT (st2 := [.inr 145, .inl 3, .inr 132]) rfl ?_
  refine ax_aast dX9_init_65 (SN_sh 132 149 (by decide) h0_132) (by decide) (SN_sh 145 149 (by decide) h0_145) rfl (by decide) (by decide) rfl (by unfold ax_can; decide) (pc' := 66) rfl ?_
  refine ax_iinc dX9_init_66 rfl (by decide) (by decide) (ls' := [some (.inr 129), some (.inl 4)]) rfl (pc' := 69) rfl ?_
  refine ax_goto dX9_init_69 (pc' := 47) (by decide) ?_
  refine ax_iload_n dX9_init_47 rfl rfl (pc' := 48) rfl ?_
  refine ax_bipush dX9_init_48 (by decide) (pc' := 50) rfl ?_
  refine ax_icmp_ge (tgt := 72) dX9_init_50 (by decide) (pc' := 53) rfl (fun h => absurd h (by decide)) (fun _ => ?_)
  refine ax_aload_n dX9_init_53 rfl rfl (pc' := 54) rfl ?_
  refine ax_getr (v := 132) dX9_init_54 flX9_20 rfl (SN_sh 129 149 (by decide) h0_129) rfl (pc' := 57) rfl ?_
  refine ax_iload_n dX9_init_57 rfl rfl (pc' := 58) rfl ?_
  refine ax_new (I := iX9_init) (kc := 15) (ks := 1272) (n := 149) dX9_init_58 nlX9_18 (SN_len 149 (Nat.le_of_ble_eq_true rfl)) (pc' := 61) rfl ?_
  refine ax_reC (S2 := SN 150) (SN_push h0_149) ?_
  refine ax_dup dX9_init_61 (pc' := 62) rfl ?_
  refine ax_ini (kc1 := 3) (ks1 := 312) (kc := 12) (ks := 960) [] [.inr 149, .inl 4, .inr 132] dX9_init_62 mlX9_30 (by decide) rfl rfl (by decide) (c_X7_149 E l _ (by omega) _) (pc' := 65) rfl (fun vv SS MM hq _ _ _ => ?_)
  obtain ⟨rfl, rfl, rfl⟩ := hq
  refine ax_reT (st2 := [.inr 149, .inl 4, .inr 132]) rfl ?_
  refine ax_aast dX9_init_65 (SN_sh 132 153 (by decide) h0_132) (by decide) (SN_sh 149 153 (by decide) h0_149) rfl (by decide) (by decide) rfl (by unfold ax_can; decide) (pc' := 66) rfl ?_
  refine ax_iinc dX9_init_66 rfl (by decide) (by decide) (ls' := [some (.inr 129), some (.inl 5)]) rfl (pc' := 69) rfl ?_
  refine ax_goto dX9_init_69 (pc' := 47) (by decide) ?_
  refine ax_iload_n dX9_init_47 rfl rfl (pc' := 48) rfl ?_
  refine ax_bipush dX9_init_48 (by decide) (pc' := 50) rfl ?_
  refine ax_icmp_ge (tgt := 72) dX9_init_50 (by decide) (pc' := 53) rfl (fun h => absurd h (by decide)) (fun _ => ?_)
  refine ax_aload_n dX9_init_53 rfl rfl (pc' := 54) rfl ?_
  refine ax_getr (v := 132) dX9_init_54 flX9_20 rfl (SN_sh 129 153 (by decide) h0_129) rfl (pc' := 57) rfl ?_
  refine ax_iload_n dX9_init_57 rfl rfl (pc' := 58) rfl ?_
  refine ax_new (I := iX9_init) (kc := 11) (ks := 952) (n := 153) dX9_init_58 nlX9_18 (SN_len 153 (Nat.le_of_ble_eq_true rfl)) (pc' := 61) rfl ?_
  refine ax_reC (S2 := SN 154) (SN_push h0_153) ?_
  refine ax_dup dX9_init_61 (pc' := 62) rfl ?_
  refine ax_ini (kc1 := 3) (ks1 := 312) (kc := 8) (ks := 640) [] [.inr 153, .inl 5, .inr 132] dX9_init_62 mlX9_30 (by decide) rfl rfl (by decide) (c_X7_153 E l _ (by omega) _) (pc' := 65) rfl (fun vv SS MM hq _ _ _ => ?_)
  obtain ⟨rfl, rfl, rfl⟩ := hq
  refine ax_reT (st2 := [.inr 153, .inl 5, .inr 132]) rfl ?_
  refine ax_aast dX9_init_65 (SN_sh 132 157 (by decide) h0_132) (by decide) (SN_sh 153 157 (by decide) h0_153) rfl (by decide) (by decide) rfl (by unfold ax_can; decide) (pc' := 66) rfl ?_
  refine ax_iinc dX9_init_66 rfl (by decide) (by decide) (ls' := [some (.inr 129), some (.inl 6)]) rfl (pc' := 69) rfl ?_
  refine ax_goto dX9_init_69 (pc' := 47) (by decide) ?_
  refine ax_iload_n dX9_init_47 rfl rfl (pc' := 48) rfl ?_
  refine ax_bipush dX9_init_48 (by decide) (pc' := 50) rfl ?_
  refine ax_icmp_ge (tgt := 72) dX9_init_50 (by decide) (pc' := 53) rfl (fun h => absurd h (by decide)) (fun _ => ?_)
  refine ax_aload_n dX9_init_53 rfl rfl (pc' := 54) rfl ?_
  refine ax_getr (v := 132) dX9_init_54 flX9_20 rfl (SN_sh 129 157 (by decide) h0_129) rfl (pc' := 57) rfl ?_
  refine ax_iload_n dX9_init_57 rfl rfl (pc' := 58) rfl ?_
  refine ax_new (I := iX9_init) (kc := 7) (ks := 632) (n := 157) dX9_init_58 nlX9_18 (SN_len 157 (Nat.le_of_ble_eq_true rfl)) (pc' := 61) rfl ?_
  refine ax_reC (S2 := SN 158) (SN_push h0_157) ?_
  refine ax_dup dX9_init_61 (pc' := 62) rfl ?_
  refine ax_ini (kc1 := 3) (ks1 := 312) (kc := 4) (ks := 320) [] [.inr 157, .inl 6, .inr 132] dX9_init_62 mlX9_30 (by decide) rfl rfl (by decide) (c_X7_157 E l _ (by omega) _) (pc' := 65) rfl (fun vv SS MM hq _ _ _ => ?_)
  obtain ⟨rfl, rfl, rfl⟩ := hq
  refine ax_reT (st2 := [.inr 157, .inl 6, .inr 132]) rfl ?_
  refine ax_aast dX9_init_65 (SN_sh 132 161 (by decide) h0_132) (by decide) (SN_sh 157 161 (by decide) h0_157) rfl (by decide) (by decide) rfl (by unfold ax_can; decide) (pc' := 66) rfl ?_
  refine ax_iinc dX9_init_66 rfl (by decide) (by decide) (ls' := [some (.inr 129), some (.inl 7)]) rfl (pc' := 69) rfl ?_
  refine ax_goto dX9_init_69 (pc' := 47) (by decide) ?_
  refine ax_iload_n dX9_init_47 rfl rfl (pc' := 48) rfl ?_
  refine ax_bipush dX9_init_48 (by decide) (pc' := 50) rfl ?_
  refine ax_icmp_ge (tgt := 72) dX9_init_50 (by decide) (pc' := 53) rfl (fun h => absurd h (by decide)) (fun _ => ?_)
  refine ax_aload_n dX9_init_53 rfl rfl (pc' := 54) rfl ?_
  refine ax_getr (v := 132) dX9_init_54 flX9_20 rfl (SN_sh 129 161 (by decide) h0_129) rfl (pc' := 57) rfl ?_
  refine ax_iload_n dX9_init_57 rfl rfl (pc' := 58) rfl ?_
  refine ax_new (I := iX9_init) (kc := 3) (ks := 312) (n := 161) dX9_init_58 nlX9_18 (SN_len 161 (Nat.le_of_ble_eq_true rfl)) (pc' := 61) rfl ?_
  refine ax_reC (S2 := SN 162) (SN_push h0_161) ?_
  refine ax_dup dX9_init_61 (pc' := 62) rfl ?_
  refine ax_ini (kc1 := 3) (ks1 := 312) (kc := 0) (ks := 0) [] [.inr 161, .inl 7, .inr 132] dX9_init_62 mlX9_30 (by decide) rfl rfl (by decide) (c_X7_161 E l _ (by omega) _) (pc' := 65) rfl (fun vv SS MM hq _ _ _ => ?_)
  obtain ⟨rfl, rfl, rfl⟩ := hq
  refine ax_reT (st2 := [.inr 161, .inl 7, .inr 132]) rfl ?_
  refine ax_aast dX9_init_65 (SN_sh 132 165 (by decide) h0_132) (by decide) (SN_sh 161 165 (by decide) h0_161) rfl (by decide) (by decide) rfl (by unfold ax_can; decide) (pc' := 66) rfl ?_
  refine ax_iinc dX9_init_66 rfl (by decide) (by decide) (ls' := [some (.inr 129), some (.inl 8)]) rfl (pc' := 69) rfl ?_
  refine ax_goto dX9_init_69 (pc' := 47) (by decide) ?_
  refine ax_iload_n dX9_init_47 rfl rfl (pc' := 48) rfl ?_
  refine ax_bipush dX9_init_48 (by decide) (pc' := 50) rfl ?_
  refine ax_icmp_ge (tgt := 72) dX9_init_50 (by decide) (pc' := 53) rfl (fun _ => ?_) (fun h => absurd h (by decide))
  exact ax_vret dX9_init_72 rfl ⟨rfl, rfl, rfl⟩
def f_mX7_169 (M : ax_Mem) : ax_Mem := ax_up (ax_row (ax_up (ax_row (ax_up (ax_row M 170 (fun _ => 0)) 169 5 170) 171 (fun _ => 0)) 169 6 171) 172 (fun _ => 0)) 169 7 172
set_option maxRecDepth 20000 in
theorem c_X7_169 (E : ax_Env) (l : Launch) (d : Nat) (hd : 1 ≤ d) (M : ax_Mem) : ax_M E l d 3 312 iX7_init [.inr 169] (SN 170) M (fun z0 S2 M2 => z0 = none ∧ S2 = SN 173 ∧ M2 = f_mX7_169 M) := by
  obtain ⟨d, rfl⟩ : ∃ d0, d = d0 + 1 := ⟨d - 1, by omega⟩
  refine ax_enter rfl (by decide) (ls := [some (.inr 169)]) rfl (fun _ hcm => ?_)
  refine ax_aload_n dX7_init_0 rfl rfl (pc' := 1) rfl ?_
  refine ax_oinit dX7_init_1 (by decide) mlX7_3 hx_oi hx_oc (by decide) (pc' := 4) rfl ?_
  refine ax_aload_n dX7_init_4 rfl rfl (pc' := 5) rfl ?_
  refine ax_bipush dX7_init_5 (by decide) (pc' := 7) rfl ?_
  refine ax_newa (kc := 2) (ks := 288) (N := 24) (n := 170) (v := 24) dX7_init_7 hx_arr rfl (by decide) (SN_len 170 (Nat.le_of_ble_eq_true rfl)) (pc' := 9) rfl ?_
  refine ax_reC (S2 := SN 171) (SN_push h0_170) ?_
  refine ax_putF dX7_init_9 flX7_9 rfl (fun C T N h => by cases h; rfl) rfl (SN_sh 169 171 (by decide) h0_169) rfl (by unfold ax_can; decide) (pc' := 12) rfl ?_
  refine ax_aload_n dX7_init_12 rfl rfl (pc' := 13) rfl ?_
  refine ax_sipush dX7_init_13 (by decide) (pc' := 16) rfl ?_
  refine ax_newa (kc := 1) (ks := 144) (N := 144) (n := 171) (v := 144) dX7_init_16 hx_arr rfl (by decide) (SN_len 171 (Nat.le_of_ble_eq_true rfl)) (pc' := 18) rfl ?_
  refine ax_reC (S2 := SN 172) (SN_push h0_171) ?_
  refine ax_putF dX7_init_18 flX7_15 rfl (fun C T N h => by cases h; rfl) rfl (SN_sh 169 172 (by decide) h0_169) rfl (by unfold ax_can; decide) (pc' := 21) rfl ?_
  refine ax_aload_n dX7_init_21 rfl rfl (pc' := 22) rfl ?_
  refine ax_sipush dX7_init_22 (by decide) (pc' := 25) rfl ?_
  refine ax_newa (kc := 0) (ks := 0) (N := 144) (n := 172) (v := 144) dX7_init_25 hx_arr rfl (by decide) (SN_len 172 (Nat.le_of_ble_eq_true rfl)) (pc' := 27) rfl ?_
  refine ax_reC (S2 := SN 173) (SN_push h0_172) ?_
  refine ax_putF dX7_init_27 flX7_18 rfl (fun C T N h => by cases h; rfl) rfl (SN_sh 169 173 (by decide) h0_169) rfl (by unfold ax_can; decide) (pc' := 30) rfl ?_
  exact ax_vret dX7_init_30 rfl ⟨rfl, rfl, rfl⟩
def f_mX7_173 (M : ax_Mem) : ax_Mem := ax_up (ax_row (ax_up (ax_row (ax_up (ax_row M 174 (fun _ => 0)) 173 5 174) 175 (fun _ => 0)) 173 6 175) 176 (fun _ => 0)) 173 7 176
set_option maxRecDepth 20000 in
theorem c_X7_173 (E : ax_Env) (l : Launch) (d : Nat) (hd : 1 ≤ d) (M : ax_Mem) : ax_M E l d 3 312 iX7_init [.inr 173] (SN 174) M (fun z0 S2 M2 => z0 = none ∧ S2 = SN 177 ∧ M2 = f_mX7_173 M) := by
  obtain ⟨d, rfl⟩ : ∃ d0, d = d0 + 1 := ⟨d - 1, by omega⟩
  refine ax_enter rfl (by decide) (ls := [some (.inr 173)]) rfl (fun _ hcm => ?_)
  refine ax_aload_n dX7_init_0 rfl rfl (pc' := 1) rfl ?_
  refine ax_oinit dX7_init_1 (by decide) mlX7_3 hx_oi hx_oc (by decide) (pc' := 4) rfl ?_
  refine ax_aload_n dX7_init_4 rfl rfl (pc' := 5) rfl ?_
  refine ax_bipush dX7_init_5 (by decide) (pc' := 7) rfl ?_
  refine ax_newa (kc := 2) (ks := 288) (N := 24) (n := 174) (v := 24) dX7_init_7 hx_arr rfl (by decide) (SN_len 174 (Nat.le_of_ble_eq_true rfl)) (pc' := 9) rfl ?_
  refine ax_reC (S2 := SN 175) (SN_push h0_174) ?_
  refine ax_putF dX7_init_9 flX7_9 rfl (fun C T N h => by cases h; rfl) rfl (SN_sh 173 175 (by decide) h0_173) rfl (by unfold ax_can; decide) (pc' := 12) rfl ?_
  refine ax_aload_n dX7_init_12 rfl rfl (pc' := 13) rfl ?_
  refine ax_sipush dX7_init_13 (by decide) (pc' := 16) rfl ?_
  refine ax_newa (kc := 1) (ks := 144) (N := 144) (n := 175) (v := 144) dX7_init_16 hx_arr rfl (by decide) (SN_len 175 (Nat.le_of_ble_eq_true rfl)) (pc' := 18) rfl ?_
  refine ax_reC (S2 := SN 176) (SN_push h0_175) ?_
  refine ax_putF dX7_init_18 flX7_15 rfl (fun C T N h => by cases h; rfl) rfl (SN_sh 173 176 (by decide) h0_173) rfl (by unfold ax_can; decide) (pc' := 21) rfl ?_
  refine ax_aload_n dX7_init_21 rfl rfl (pc' := 22) rfl ?_
  refine ax_sipush dX7_init_22 (by decide) (pc' := 25) rfl ?_
  refine ax_newa (kc := 0) (ks := 0) (N := 144) (n := 176) (v := 144) dX7_init_25 hx_arr rfl (by decide) (SN_len 176 (Nat.le_of_ble_eq_true rfl)) (pc' := 27) rfl ?_
  refine ax_reC (S2 := SN 177) (SN_push h0_176) ?_
  refine ax_putF dX7_init_27 flX7_18 rfl (fun C T N h => by cases h; rfl) rfl (SN_sh 173 177 (by decide) h0_173) rfl (by unfold ax_can; decide) (pc' := 30) rfl ?_
  exact ax_vret dX7_init_30 rfl ⟨rfl, rfl, rfl⟩
def f_mX7_177 (M : ax_Mem) : ax_Mem := ax_up (ax_row (ax_up (ax_row (ax_up (ax_row M 178 (fun _ => 0)) 177 5 178) 179 (fun _ => 0)) 177 6 179) 180 (fun _ => 0)) 177 7 180
set_option maxRecDepth 20000 in
theorem c_X7_177 (E : ax_Env) (l : Launch) (d : Nat) (hd : 1 ≤ d) (M : ax_Mem) : ax_M E l d 3 312 iX7_init [.inr 177] (SN 178) M (fun z0 S2 M2 => z0 = none ∧ S2 = SN 181 ∧ M2 = f_mX7_177 M) := by
  obtain ⟨d, rfl⟩ : ∃ d0, d = d0 + 1 := ⟨d - 1, by omega⟩
  refine ax_enter rfl (by decide) (ls := [some (.inr 177)]) rfl (fun _ hcm => ?_)
  refine ax_aload_n dX7_init_0 rfl rfl (pc' := 1) rfl ?_
  refine ax_oinit dX7_init_1 (by decide) mlX7_3 hx_oi hx_oc (by decide) (pc' := 4) rfl ?_
  refine ax_aload_n dX7_init_4 rfl rfl (pc' := 5) rfl ?_
  refine ax_bipush dX7_init_5 (by decide) (pc' := 7) rfl ?_
  refine ax_newa (kc := 2) (ks := 288) (N := 24) (n := 178) (v := 24) dX7_init_7 hx_arr rfl (by decide) (SN_len 178 (Nat.le_of_ble_eq_true rfl)) (pc' := 9) rfl ?_
  refine ax_reC (S2 := SN 179) (SN_push h0_178) ?_
  refine ax_putF dX7_init_9 flX7_9 rfl (fun C T N h => by cases h; rfl) rfl (SN_sh 177 179 (by decide) h0_177) rfl (by unfold ax_can; decide) (pc' := 12) rfl ?_
  refine ax_aload_n dX7_init_12 rfl rfl (pc' := 13) rfl ?_
  refine ax_sipush dX7_init_13 (by decide) (pc' := 16) rfl ?_
  refine ax_newa (kc := 1) (ks := 144) (N := 144) (n := 179) (v := 144) dX7_init_16 hx_arr rfl (by decide) (SN_len 179 (Nat.le_of_ble_eq_true rfl)) (pc' := 18) rfl ?_
  refine ax_reC (S2 := SN 180) (SN_push h0_179) ?_
  refine ax_putF dX7_init_18 flX7_15 rfl (fun C T N h => by cases h; rfl) rfl (SN_sh 177 180 (by decide) h0_177) rfl (by unfold ax_can; decide) (pc' := 21) rfl ?_
  refine ax_aload_n dX7_init_21 rfl rfl (pc' := 22) rfl ?_
  refine ax_sipush dX7_init_22 (by decide) (pc' := 25) rfl ?_
  refine ax_newa (kc := 0) (ks := 0) (N := 144) (n := 180) (v := 144) dX7_init_25 hx_arr rfl (by decide) (SN_len 180 (Nat.le_of_ble_eq_true rfl)) (pc' := 27) rfl ?_
  refine ax_reC (S2 := SN 181) (SN_push h0_180) ?_
  refine ax_putF dX7_init_27 flX7_18 rfl (fun C T N h => by cases h; rfl) rfl (SN_sh 177 181 (by decide) h0_177) rfl (by unfold ax_can; decide) (pc' := 30) rfl ?_
  exact ax_vret dX7_init_30 rfl ⟨rfl, rfl, rfl⟩
def f_mX7_181 (M : ax_Mem) : ax_Mem := ax_up (ax_row (ax_up (ax_row (ax_up (ax_row M 182 (fun _ => 0)) 181 5 182) 183 (fun _ => 0)) 181 6 183) 184 (fun _ => 0)) 181 7 184
set_option maxRecDepth 20000 in
theorem c_X7_181 (E : ax_Env) (l : Launch) (d : Nat) (hd : 1 ≤ d) (M : ax_Mem) : ax_M E l d 3 312 iX7_init [.inr 181] (SN 182) M (fun z0 S2 M2 => z0 = none ∧ S2 = SN 185 ∧ M2 = f_mX7_181 M) := by
  obtain ⟨d, rfl⟩ : ∃ d0, d = d0 + 1 := ⟨d - 1, by omega⟩
  refine ax_enter rfl (by decide) (ls := [some (.inr 181)]) rfl (fun _ hcm => ?_)
  refine ax_aload_n dX7_init_0 rfl rfl (pc' := 1) rfl ?_
  refine ax_oinit dX7_init_1 (by decide) mlX7_3 hx_oi hx_oc (by decide) (pc' := 4) rfl ?_
  refine ax_aload_n dX7_init_4 rfl rfl (pc' := 5) rfl ?_
  refine ax_bipush dX7_init_5 (by decide) (pc' := 7) rfl ?_
  refine ax_newa (kc := 2) (ks := 288) (N := 24) (n := 182) (v := 24) dX7_init_7 hx_arr rfl (by decide) (SN_len 182 (Nat.le_of_ble_eq_true rfl)) (pc' := 9) rfl ?_
  refine ax_reC (S2 := SN 183) (SN_push h0_182) ?_
  refine ax_putF dX7_init_9 flX7_9 rfl (fun C T N h => by cases h; rfl) rfl (SN_sh 181 183 (by decide) h0_181) rfl (by unfold ax_can; decide) (pc' := 12) rfl ?_
  refine ax_aload_n dX7_init_12 rfl rfl (pc' := 13) rfl ?_
  refine ax_sipush dX7_init_13 (by decide) (pc' := 16) rfl ?_
  refine ax_newa (kc := 1) (ks := 144) (N := 144) (n := 183) (v := 144) dX7_init_16 hx_arr rfl (by decide) (SN_len 183 (Nat.le_of_ble_eq_true rfl)) (pc' := 18) rfl ?_
  refine ax_reC (S2 := SN 184) (SN_push h0_183) ?_
  refine ax_putF dX7_init_18 flX7_15 rfl (fun C T N h => by cases h; rfl) rfl (SN_sh 181 184 (by decide) h0_181) rfl (by unfold ax_can; decide) (pc' := 21) rfl ?_
  refine ax_aload_n dX7_init_21 rfl rfl (pc' := 22) rfl ?_
  refine ax_sipush dX7_init_22 (by decide) (pc' := 25) rfl ?_
  refine ax_newa (kc := 0) (ks := 0) (N := 144) (n := 184) (v := 144) dX7_init_25 hx_arr rfl (by decide) (SN_len 184 (Nat.le_of_ble_eq_true rfl)) (pc' := 27) rfl ?_
  refine ax_reC (S2 := SN 185) (SN_push h0_184) ?_
  refine ax_putF dX7_init_27 flX7_18 rfl (fun C T N h => by cases h; rfl) rfl (SN_sh 181 185 (by decide) h0_181) rfl (by unfold ax_can; decide) (pc' := 30) rfl ?_
  exact ax_vret dX7_init_30 rfl ⟨rfl, rfl, rfl⟩
def f_mX7_185 (M : ax_Mem) : ax_Mem := ax_up (ax_row (ax_up (ax_row (ax_up (ax_row M 186 (fun _ => 0)) 185 5 186) 187 (fun _ => 0)) 185 6 187) 188 (fun _ => 0)) 185 7 188
set_option maxRecDepth 20000 in
theorem c_X7_185 (E : ax_Env) (l : Launch) (d : Nat) (hd : 1 ≤ d) (M : ax_Mem) : ax_M E l d 3 312 iX7_init [.inr 185] (SN 186) M (fun z0 S2 M2 => z0 = none ∧ S2 = SN 189 ∧ M2 = f_mX7_185 M) := by
  obtain ⟨d, rfl⟩ : ∃ d0, d = d0 + 1 := ⟨d - 1, by omega⟩
  refine ax_enter rfl (by decide) (ls := [some (.inr 185)]) rfl (fun _ hcm => ?_)
  refine ax_aload_n dX7_init_0 rfl rfl (pc' := 1) rfl ?_
  refine ax_oinit dX7_init_1 (by decide) mlX7_3 hx_oi hx_oc (by decide) (pc' := 4) rfl ?_
  refine ax_aload_n dX7_init_4 rfl rfl (pc' := 5) rfl ?_
  refine ax_bipush dX7_init_5 (by decide) (pc' := 7) rfl ?_
  refine ax_newa (kc := 2) (ks := 288) (N := 24) (n := 186) (v := 24) dX7_init_7 hx_arr rfl (by decide) (SN_len 186 (Nat.le_of_ble_eq_true rfl)) (pc' := 9) rfl ?_
  refine ax_reC (S2 := SN 187) (SN_push h0_186) ?_
  refine ax_putF dX7_init_9 flX7_9 rfl (fun C T N h => by cases h; rfl) rfl (SN_sh 185 187 (by decide) h0_185) rfl (by unfold ax_can; decide) (pc' := 12) rfl ?_
  refine ax_aload_n dX7_init_12 rfl rfl (pc' := 13) rfl ?_
  refine ax_sipush dX7_init_13 (by decide) (pc' := 16) rfl ?_
  refine ax_newa (kc := 1) (ks := 144) (N := 144) (n := 187) (v := 144) dX7_init_16 hx_arr rfl (by decide) (SN_len 187 (Nat.le_of_ble_eq_true rfl)) (pc' := 18) rfl ?_
  refine ax_reC (S2 := SN 188) (SN_push h0_187) ?_
  refine ax_putF dX7_init_18 flX7_15 rfl (fun C T N h => by cases h; rfl) rfl (SN_sh 185 188 (by decide) h0_185) rfl (by unfold ax_can; decide) (pc' := 21) rfl ?_
  refine ax_aload_n dX7_init_21 rfl rfl (pc' := 22) rfl ?_
  refine ax_sipush dX7_init_22 (by decide) (pc' := 25) rfl ?_
  refine ax_newa (kc := 0) (ks := 0) (N := 144) (n := 188) (v := 144) dX7_init_25 hx_arr rfl (by decide) (SN_len 188 (Nat.le_of_ble_eq_true rfl)) (pc' := 27) rfl ?_
  refine ax_reC (S2 := SN 189) (SN_push h0_188) ?_
  refine ax_putF dX7_init_27 flX7_18 rfl (fun C T N h => by cases h; rfl) rfl (SN_sh 185 189 (by decide) h0_185) rfl (by unfold ax_can; decide) (pc' := 30) rfl ?_
  exact ax_vret dX7_init_30 rfl ⟨rfl, rfl, rfl⟩
def f_mX7_189 (M : ax_Mem) : ax_Mem := ax_up (ax_row (ax_up (ax_row (ax_up (ax_row M 190 (fun _ => 0)) 189 5 190) 191 (fun _ => 0)) 189 6 191) 192 (fun _ => 0)) 189 7 192
set_option maxRecDepth 20000 in
theorem c_X7_189 (E : ax_Env) (l : Launch) (d : Nat) (hd : 1 ≤ d) (M : ax_Mem) : ax_M E l d 3 312 iX7_init [.inr 189] (SN 190) M (fun z0 S2 M2 => z0 = none ∧ S2 = SN 193 ∧ M2 = f_mX7_189 M) := by
  obtain ⟨d, rfl⟩ : ∃ d0, d = d0 + 1 := ⟨d - 1, by omega⟩
  refine ax_enter rfl (by decide) (ls := [some (.inr 189)]) rfl (fun _ hcm => ?_)
  refine ax_aload_n dX7_init_0 rfl rfl (pc' := 1) rfl ?_
  refine ax_oinit dX7_init_1 (by decide) mlX7_3 hx_oi hx_oc (by decide) (pc' := 4) rfl ?_
  refine ax_aload_n dX7_init_4 rfl rfl (pc' := 5) rfl ?_
  refine ax_bipush dX7_init_5 (by decide) (pc' := 7) rfl ?_
  refine ax_newa (kc := 2) (ks := 288) (N := 24) (n := 190) (v := 24) dX7_init_7 hx_arr rfl (by decide) (SN_len 190 (Nat.le_of_ble_eq_true rfl)) (pc' := 9) rfl ?_
  refine ax_reC (S2 := SN 191) (SN_push h0_190) ?_
  refine ax_putF dX7_init_9 flX7_9 rfl (fun C T N h => by cases h; rfl) rfl (SN_sh 189 191 (by decide) h0_189) rfl (by unfold ax_can; decide) (pc' := 12) rfl ?_
  refine ax_aload_n dX7_init_12 rfl rfl (pc' := 13) rfl ?_
  refine ax_sipush dX7_init_13 (by decide) (pc' := 16) rfl ?_
  refine ax_newa (kc := 1) (ks := 144) (N := 144) (n := 191) (v := 144) dX7_init_16 hx_arr rfl (by decide) (SN_len 191 (Nat.le_of_ble_eq_true rfl)) (pc' := 18) rfl ?_
  refine ax_reC (S2 := SN 192) (SN_push h0_191) ?_
  refine ax_putF dX7_init_18 flX7_15 rfl (fun C T N h => by cases h; rfl) rfl (SN_sh 189 192 (by decide) h0_189) rfl (by unfold ax_can; decide) (pc' := 21) rfl ?_
  refine ax_aload_n dX7_init_21 rfl rfl (pc' := 22) rfl ?_
  refine ax_sipush dX7_init_22 (by decide) (pc' := 25) rfl ?_
  refine ax_newa (kc := 0) (ks := 0) (N := 144) (n := 192) (v := 144) dX7_init_25 hx_arr rfl (by decide) (SN_len 192 (Nat.le_of_ble_eq_true rfl)) (pc' := 27) rfl ?_
  refine ax_reC (S2 := SN 193) (SN_push h0_192) ?_
  refine ax_putF dX7_init_27 flX7_18 rfl (fun C T N h => by cases h; rfl) rfl (SN_sh 189 193 (by decide) h0_189) rfl (by unfold ax_can; decide) (pc' := 30) rfl ?_
  exact ax_vret dX7_init_30 rfl ⟨rfl, rfl, rfl⟩
def f_mX7_193 (M : ax_Mem) : ax_Mem := ax_up (ax_row (ax_up (ax_row (ax_up (ax_row M 194 (fun _ => 0)) 193 5 194) 195 (fun _ => 0)) 193 6 195) 196 (fun _ => 0)) 193 7 196
set_option maxRecDepth 20000 in
theorem c_X7_193 (E : ax_Env) (l : Launch) (d : Nat) (hd : 1 ≤ d) (M : ax_Mem) : ax_M E l d 3 312 iX7_init [.inr 193] (SN 194) M (fun z0 S2 M2 => z0 = none ∧ S2 = SN 197 ∧ M2 = f_mX7_193 M) := by
  obtain ⟨d, rfl⟩ : ∃ d0, d = d0 + 1 := ⟨d - 1, by omega⟩
  refine ax_enter rfl (by decide) (ls := [some (.inr 193)]) rfl (fun _ hcm => ?_)
  refine ax_aload_n dX7_init_0 rfl rfl (pc' := 1) rfl ?_
  refine ax_oinit dX7_init_1 (by decide) mlX7_3 hx_oi hx_oc (by decide) (pc' := 4) rfl ?_
  refine ax_aload_n dX7_init_4 rfl rfl (pc' := 5) rfl ?_
  refine ax_bipush dX7_init_5 (by decide) (pc' := 7) rfl ?_
  refine ax_newa (kc := 2) (ks := 288) (N := 24) (n := 194) (v := 24) dX7_init_7 hx_arr rfl (by decide) (SN_len 194 (Nat.le_of_ble_eq_true rfl)) (pc' := 9) rfl ?_
  refine ax_reC (S2 := SN 195) (SN_push h0_194) ?_
  refine ax_putF dX7_init_9 flX7_9 rfl (fun C T N h => by cases h; rfl) rfl (SN_sh 193 195 (by decide) h0_193) rfl (by unfold ax_can; decide) (pc' := 12) rfl ?_
  refine ax_aload_n dX7_init_12 rfl rfl (pc' := 13) rfl ?_
  refine ax_sipush dX7_init_13 (by decide) (pc' := 16) rfl ?_
  refine ax_newa (kc := 1) (ks := 144) (N := 144) (n := 195) (v := 144) dX7_init_16 hx_arr rfl (by decide) (SN_len 195 (Nat.le_of_ble_eq_true rfl)) (pc' := 18) rfl ?_
  refine ax_reC (S2 := SN 196) (SN_push h0_195) ?_
  refine ax_putF dX7_init_18 flX7_15 rfl (fun C T N h => by cases h; rfl) rfl (SN_sh 193 196 (by decide) h0_193) rfl (by unfold ax_can; decide) (pc' := 21) rfl ?_
  refine ax_aload_n dX7_init_21 rfl rfl (pc' := 22) rfl ?_
  refine ax_sipush dX7_init_22 (by decide) (pc' := 25) rfl ?_
  refine ax_newa (kc := 0) (ks := 0) (N := 144) (n := 196) (v := 144) dX7_init_25 hx_arr rfl (by decide) (SN_len 196 (Nat.le_of_ble_eq_true rfl)) (pc' := 27) rfl ?_
  refine ax_reC (S2 := SN 197) (SN_push h0_196) ?_
  refine ax_putF dX7_init_27 flX7_18 rfl (fun C T N h => by cases h; rfl) rfl (SN_sh 193 197 (by decide) h0_193) rfl (by unfold ax_can; decide) (pc' := 30) rfl ?_
  exact ax_vret dX7_init_30 rfl ⟨rfl, rfl, rfl⟩
def f_mX7_197 (M : ax_Mem) : ax_Mem := ax_up (ax_row (ax_up (ax_row (ax_up (ax_row M 198 (fun _ => 0)) 197 5 198) 199 (fun _ => 0)) 197 6 199) 200 (fun _ => 0)) 197 7 200
set_option maxRecDepth 20000 in
theorem c_X7_197 (E : ax_Env) (l : Launch) (d : Nat) (hd : 1 ≤ d) (M : ax_Mem) : ax_M E l d 3 312 iX7_init [.inr 197] (SN 198) M (fun z0 S2 M2 => z0 = none ∧ S2 = SN 201 ∧ M2 = f_mX7_197 M) := by
  obtain ⟨d, rfl⟩ : ∃ d0, d = d0 + 1 := ⟨d - 1, by omega⟩
  refine ax_enter rfl (by decide) (ls := [some (.inr 197)]) rfl (fun _ hcm => ?_)
  refine ax_aload_n dX7_init_0 rfl rfl (pc' := 1) rfl ?_
  refine ax_oinit dX7_init_1 (by decide) mlX7_3 hx_oi hx_oc (by decide) (pc' := 4) rfl ?_
  refine ax_aload_n dX7_init_4 rfl rfl (pc' := 5) rfl ?_
  refine ax_bipush dX7_init_5 (by decide) (pc' := 7) rfl ?_
  refine ax_newa (kc := 2) (ks := 288) (N := 24) (n := 198) (v := 24) dX7_init_7 hx_arr rfl (by decide) (SN_len 198 (Nat.le_of_ble_eq_true rfl)) (pc' := 9) rfl ?_
  refine ax_reC (S2 := SN 199) (SN_push h0_198) ?_
  refine ax_putF dX7_init_9 flX7_9 rfl (fun C T N h => by cases h; rfl) rfl (SN_sh 197 199 (by decide) h0_197) rfl (by unfold ax_can; decide) (pc' := 12) rfl ?_
  refine ax_aload_n dX7_init_12 rfl rfl (pc' := 13) rfl ?_
  refine ax_sipush dX7_init_13 (by decide) (pc' := 16) rfl ?_
  refine ax_newa (kc := 1) (ks := 144) (N := 144) (n := 199) (v := 144) dX7_init_16 hx_arr rfl (by decide) (SN_len 199 (Nat.le_of_ble_eq_true rfl)) (pc' := 18) rfl ?_
  refine ax_reC (S2 := SN 200) (SN_push h0_199) ?_
  refine ax_putF dX7_init_18 flX7_15 rfl (fun C T N h => by cases h; rfl) rfl (SN_sh 197 200 (by decide) h0_197) rfl (by unfold ax_can; decide) (pc' := 21) rfl ?_
  refine ax_aload_n dX7_init_21 rfl rfl (pc' := 22) rfl ?_
  refine ax_sipush dX7_init_22 (by decide) (pc' := 25) rfl ?_
  refine ax_newa (kc := 0) (ks := 0) (N := 144) (n := 200) (v := 144) dX7_init_25 hx_arr rfl (by decide) (SN_len 200 (Nat.le_of_ble_eq_true rfl)) (pc' := 27) rfl ?_
  refine ax_reC (S2 := SN 201) (SN_push h0_200) ?_
  refine ax_putF dX7_init_27 flX7_18 rfl (fun C T N h => by cases h; rfl) rfl (SN_sh 197 201 (by decide) h0_197) rfl (by unfold ax_can; decide) (pc' := 30) rfl ?_
  exact ax_vret dX7_init_30 rfl ⟨rfl, rfl, rfl⟩
def f_mX9_165 (M : ax_Mem) : ax_Mem := ax_up (f_mX7_197 (ax_row (ax_up (f_mX7_193 (ax_row (ax_up (f_mX7_189 (ax_row (ax_up (f_mX7_185 (ax_row (ax_up (f_mX7_181 (ax_row (ax_up (f_mX7_177 (ax_row (ax_up (f_mX7_173 (ax_row (ax_up (f_mX7_169 (ax_row (f_mfl 167 6 2 (f_mfl 166 6 3 (ax_up (ax_row (ax_up (ax_row (ax_up (ax_row M 166 (fun _ => 0)) 165 4 166) 167 (fun _ => 0)) 165 5 167) 168 (fun _ => -1)) 165 6 168))) 169 (ax_zero 7))) 168 0 169) 173 (ax_zero 7))) 168 1 173) 177 (ax_zero 7))) 168 2 177) 181 (ax_zero 7))) 168 3 181) 185 (ax_zero 7))) 168 4 185) 189 (ax_zero 7))) 168 5 189) 193 (ax_zero 7))) 168 6 193) 197 (ax_zero 7))) 168 7 197
set_option maxRecDepth 20000 in
theorem c_X9_165 (E : ax_Env) (l : Launch) (d : Nat) (hd : 2 ≤ d) (M : ax_Mem) : ax_M E l d 35 2580 iX9_init [.inr 165] (SN 166) M (fun z0 S2 M2 => z0 = none ∧ S2 = SN 201 ∧ M2 = f_mX9_165 M) := by
  obtain ⟨d, rfl⟩ : ∃ d0, d = d0 + 1 := ⟨d - 1, by omega⟩
  refine ax_enter rfl (by decide) (ls := [some (.inr 165), none]) rfl (fun _ hcm => ?_)
  refine ax_aload_n dX9_init_0 rfl rfl (pc' := 1) rfl ?_
  refine ax_oinit dX9_init_1 (by decide) mlX9_3 hx_oi hx_oc (by decide) (pc' := 4) rfl ?_
  refine ax_aload_n dX9_init_4 rfl rfl (pc' := 5) rfl ?_
  refine ax_bipush dX9_init_5 (by decide) (pc' := 7) rfl ?_
  refine ax_newa (kc := 34) (ks := 2574) (N := 6) (n := 166) (v := 6) dX9_init_7 hx_arr rfl (by decide) (SN_len 166 (Nat.le_of_ble_eq_true rfl)) (pc' := 9) rfl ?_
  refine ax_reC (S2 := SN 167) (SN_push h0_166) ?_
  refine ax_putF dX9_init_9 flX9_9 rfl (fun C T N h => by cases h; rfl) rfl (SN_sh 165 167 (by decide) h0_165) rfl (by unfold ax_can; decide) (pc' := 12) rfl ?_
  refine ax_aload_n dX9_init_12 rfl rfl (pc' := 13) rfl ?_
  refine ax_bipush dX9_init_13 (by decide) (pc' := 15) rfl ?_
  refine ax_newa (kc := 33) (ks := 2568) (N := 6) (n := 167) (v := 6) dX9_init_15 hx_arr rfl (by decide) (SN_len 167 (Nat.le_of_ble_eq_true rfl)) (pc' := 17) rfl ?_
  refine ax_reC (S2 := SN 168) (SN_push h0_167) ?_
  refine ax_putF dX9_init_17 flX9_15 rfl (fun C T N h => by cases h; rfl) rfl (SN_sh 165 168 (by decide) h0_165) rfl (by unfold ax_can; decide) (pc' := 20) rfl ?_
  refine ax_aload_n dX9_init_20 rfl rfl (pc' := 21) rfl ?_
  refine ax_bipush dX9_init_21 (by decide) (pc' := 23) rfl ?_
  refine ax_newq (ci := 14) (kc := 32) (ks := 2560) (N := 8) (n := 168) (v := 8) dX9_init_23 (by decide) alX9_18 rfl (by decide) (SN_len 168 (Nat.le_of_ble_eq_true rfl)) (pc' := 26) rfl ?_
  refine ax_reC (S2 := SN 169) (SN_push h0_168) ?_
  refine ax_putF dX9_init_26 flX9_20 rfl (fun C T N h => by cases h; rfl) rfl (SN_sh 165 169 (by decide) h0_165) rfl (by unfold ax_can; decide) (pc' := 29) rfl ?_
  refine ax_aload_n dX9_init_29 rfl rfl (pc' := 30) rfl ?_
  refine ax_getr (v := 166) dX9_init_30 flX9_9 rfl (SN_sh 165 169 (by decide) h0_165) rfl (pc' := 33) rfl ?_
  refine ax_iconst dX9_init_33 (by decide) (pc' := 34) rfl ?_
  refine ax_ins_gen (kc1 := 0) (ks1 := 0) (kc := 32) (ks := 2560) [.inr 166, .inl 3] [] dX9_init_34 mlX9_24 rfl rfl (by decide) (c_fill E l _ 169 166 6 (SN_sh 166 169 (by decide) h0_166) _ (by decide)) (pc' := 37) rfl (fun vv SS MM hq _ _ _ => ?_)
  obtain ⟨rfl, rfl, rfl⟩ := hq
  refine ax_reT (st2 := []) rfl ?_
  refine ax_aload_n dX9_init_37 rfl rfl (pc' := 38) rfl ?_
  refine ax_getr (v := 167) dX9_init_38 flX9_15 rfl (SN_sh 165 169 (by decide) h0_165) rfl (pc' := 41) rfl ?_
  refine ax_iconst dX9_init_41 (by decide) (pc' := 42) rfl ?_
  refine ax_ins_gen (kc1 := 0) (ks1 := 0) (kc := 32) (ks := 2560) [.inr 167, .inl 2] [] dX9_init_42 mlX9_24 rfl rfl (by decide) (c_fill E l _ 169 167 6 (SN_sh 167 169 (by decide) h0_167) _ (by decide)) (pc' := 45) rfl (fun vv SS MM hq _ _ _ => ?_)
  obtain ⟨rfl, rfl, rfl⟩ := hq
  refine ax_reT (st2 := []) rfl ?_
  refine ax_iconst dX9_init_45 (by decide) (pc' := 46) rfl ?_
  refine ax_istore_n dX9_init_46 rfl (by decide) (ls' := [some (.inr 165), some (.inl 0)]) rfl (pc' := 47) rfl ?_
  refine ax_iload_n dX9_init_47 rfl rfl (pc' := 48) rfl ?_
  refine ax_bipush dX9_init_48 (by decide) (pc' := 50) rfl ?_
  refine ax_icmp_ge (tgt := 72) dX9_init_50 (by decide) (pc' := 53) rfl (fun h => absurd h (by decide)) (fun _ => ?_)
  refine ax_aload_n dX9_init_53 rfl rfl (pc' := 54) rfl ?_
  refine ax_getr (v := 168) dX9_init_54 flX9_20 rfl (SN_sh 165 169 (by decide) h0_165) rfl (pc' := 57) rfl ?_
  refine ax_iload_n dX9_init_57 rfl rfl (pc' := 58) rfl ?_
  refine ax_new (I := iX9_init) (kc := 31) (ks := 2552) (n := 169) dX9_init_58 nlX9_18 (SN_len 169 (Nat.le_of_ble_eq_true rfl)) (pc' := 61) rfl ?_
  refine ax_reC (S2 := SN 170) (SN_push h0_169) ?_
  refine ax_dup dX9_init_61 (pc' := 62) rfl ?_
  refine ax_ini (kc1 := 3) (ks1 := 312) (kc := 28) (ks := 2240) [] [.inr 169, .inl 0, .inr 168] dX9_init_62 mlX9_30 (by decide) rfl rfl (by decide) (c_X7_169 E l _ (by omega) _) (pc' := 65) rfl (fun vv SS MM hq _ _ _ => ?_)
  obtain ⟨rfl, rfl, rfl⟩ := hq
  refine ax_reT (st2 := [.inr 169, .inl 0, .inr 168]) rfl ?_
  refine ax_aast dX9_init_65 (SN_sh 168 173 (by decide) h0_168) (by decide) (SN_sh 169 173 (by decide) h0_169) rfl (by decide) (by decide) rfl (by unfold ax_can; decide) (pc' := 66) rfl ?_
  refine ax_iinc dX9_init_66 rfl (by decide) (by decide) (ls' := [some (.inr 165), some (.inl 1)]) rfl (pc' := 69) rfl ?_
  refine ax_goto dX9_init_69 (pc' := 47) (by decide) ?_
  refine ax_iload_n dX9_init_47 rfl rfl (pc' := 48) rfl ?_
  refine ax_bipush dX9_init_48 (by decide) (pc' := 50) rfl ?_
  refine ax_icmp_ge (tgt := 72) dX9_init_50 (by decide) (pc' := 53) rfl (fun h => absurd h (by decide)) (fun _ => ?_)
  refine ax_aload_n dX9_init_53 rfl rfl (pc' := 54) rfl ?_
  refine ax_getr (v := 168) dX9_init_54 flX9_20 rfl (SN_sh 165 173 (by decide) h0_165) rfl (pc' := 57) rfl ?_
  refine ax_iload_n dX9_init_57 rfl rfl (pc' := 58) rfl ?_
  refine ax_new (I := iX9_init) (kc := 27) (ks := 2232) (n := 173) dX9_init_58 nlX9_18 (SN_len 173 (Nat.le_of_ble_eq_true rfl)) (pc' := 61) rfl ?_
  refine ax_reC (S2 := SN 174) (SN_push h0_173) ?_
  refine ax_dup dX9_init_61 (pc' := 62) rfl ?_
  refine ax_ini (kc1 := 3) (ks1 := 312) (kc := 24) (ks := 1920) [] [.inr 173, .inl 1, .inr 168] dX9_init_62 mlX9_30 (by decide) rfl rfl (by decide) (c_X7_173 E l _ (by omega) _) (pc' := 65) rfl (fun vv SS MM hq _ _ _ => ?_)
  obtain ⟨rfl, rfl, rfl⟩ := hq
  refine ax_reT (st2 := [.inr 173, .inl 1, .inr 168]) rfl ?_
  refine ax_aast dX9_init_65 (SN_sh 168 177 (by decide) h0_168) (by decide) (SN_sh 173 177 (by decide) h0_173) rfl (by decide) (by decide) rfl (by unfold ax_can; decide) (pc' := 66) rfl ?_
  refine ax_iinc dX9_init_66 rfl (by decide) (by decide) (ls' := [some (.inr 165), some (.inl 2)]) rfl (pc' := 69) rfl ?_
  refine ax_goto dX9_init_69 (pc' := 47) (by decide) ?_
  refine ax_iload_n dX9_init_47 rfl rfl (pc' := 48) rfl ?_
  refine ax_bipush dX9_init_48 (by decide) (pc' := 50) rfl ?_
  refine ax_icmp_ge (tgt := 72) dX9_init_50 (by decide) (pc' := 53) rfl (fun h => absurd h (by decide)) (fun _ => ?_)
  refine ax_aload_n dX9_init_53 rfl rfl (pc' := 54) rfl ?_
  refine ax_getr (v := 168) dX9_init_54 flX9_20 rfl (SN_sh 165 177 (by decide) h0_165) rfl (pc' := 57) rfl ?_
  refine ax_iload_n dX9_init_57 rfl rfl (pc' := 58) rfl ?_
  refine ax_new (I := iX9_init) (kc := 23) (ks := 1912) (n := 177) dX9_init_58 nlX9_18 (SN_len 177 (Nat.le_of_ble_eq_true rfl)) (pc' := 61) rfl ?_
  refine ax_reC (S2 := SN 178) (SN_push h0_177) ?_
  refine ax_dup dX9_init_61 (pc' := 62) rfl ?_
  refine ax_ini (kc1 := 3) (ks1 := 312) (kc := 20) (ks := 1600) [] [.inr 177, .inl 2, .inr 168] dX9_init_62 mlX9_30 (by decide) rfl rfl (by decide) (c_X7_177 E l _ (by omega) _) (pc' := 65) rfl (fun vv SS MM hq _ _ _ => ?_)
  obtain ⟨rfl, rfl, rfl⟩ := hq
  refine ax_reT (st2 := [.inr 177, .inl 2, .inr 168]) rfl ?_
  refine ax_aast dX9_init_65 (SN_sh 168 181 (by decide) h0_168) (by decide) (SN_sh 177 181 (by decide) h0_177) rfl (by decide) (by decide) rfl (by unfold ax_can; decide) (pc' := 66) rfl ?_
  refine ax_iinc dX9_init_66 rfl (by decide) (by decide) (ls' := [some (.inr 165), some (.inl 3)]) rfl (pc' := 69) rfl ?_
  refine ax_goto dX9_init_69 (pc' := 47) (by decide) ?_
  refine ax_iload_n dX9_init_47 rfl rfl (pc' := 48) rfl ?_
  refine ax_bipush dX9_init_48 (by decide) (pc' := 50) rfl ?_
  refine ax_icmp_ge (tgt := 72) dX9_init_50 (by decide) (pc' := 53) rfl (fun h => absurd h (by decide)) (fun _ => ?_)
  refine ax_aload_n dX9_init_53 rfl rfl (pc' := 54) rfl ?_
  refine ax_getr (v := 168) dX9_init_54 flX9_20 rfl (SN_sh 165 181 (by decide) h0_165) rfl (pc' := 57) rfl ?_
  refine ax_iload_n dX9_init_57 rfl rfl (pc' := 58) rfl ?_
  refine ax_new (I := iX9_init) (kc := 19) (ks := 1592) (n := 181) dX9_init_58 nlX9_18 (SN_len 181 (Nat.le_of_ble_eq_true rfl)) (pc' := 61) rfl ?_
  refine ax_reC (S2 := SN 182) (SN_push h0_181) ?_
  refine ax_dup dX9_init_61 (pc' := 62) rfl ?_
  refine ax_ini (kc1 := 3) (ks1 := 312) (kc := 16) (ks := 1280) [] [.inr 181, .inl 3, .inr 168] dX9_init_62 mlX9_30 (by decide) rfl rfl (by decide) (c_X7_181 E l _ (by omega) _) (pc' := 65) rfl (fun vv SS MM hq _ _ _ => ?_)
  obtain ⟨rfl, rfl, rfl⟩ := hq
  refine ax_reT (st2 := [.inr 181, .inl 3, .inr 168]) rfl ?_
  refine ax_aast dX9_init_65 (SN_sh 168 185 (by decide) h0_168) (by decide) (SN_sh 181 185 (by decide) h0_181) rfl (by decide) (by decide) rfl (by unfold ax_can; decide) (pc' := 66) rfl ?_
  refine ax_iinc dX9_init_66 rfl (by decide) (by decide) (ls' := [some (.inr 165), some (.inl 4)]) rfl (pc' := 69) rfl ?_
  refine ax_goto dX9_init_69 (pc' := 47) (by decide) ?_
  refine ax_iload_n dX9_init_47 rfl rfl (pc' := 48) rfl ?_
  refine ax_bipush dX9_init_48 (by decide) (pc' := 50) rfl ?_
  refine ax_icmp_ge (tgt := 72) dX9_init_50 (by decide) (pc' := 53) rfl (fun h => absurd h (by decide)) (fun _ => ?_)
  refine ax_aload_n dX9_init_53 rfl rfl (pc' := 54) rfl ?_
  refine ax_getr (v := 168) dX9_init_54 flX9_20 rfl (SN_sh 165 185 (by decide) h0_165) rfl (pc' := 57) rfl ?_
  refine ax_iload_n dX9_init_57 rfl rfl (pc' := 58) rfl ?_
  refine ax_new (I := iX9_init) (kc := 15) (ks := 1272) (n := 185) dX9_init_58 nlX9_18 (SN_len 185 (Nat.le_of_ble_eq_true rfl)) (pc' := 61) rfl ?_
  refine ax_reC (S2 := SN 186) (SN_push h0_185) ?_
  refine ax_dup dX9_init_61 (pc' := 62) rfl ?_
  refine ax_ini (kc1 := 3) (ks1 := 312) (kc := 12) (ks := 960) [] [.inr 185, .inl 4, .inr 168] dX9_init_62 mlX9_30 (by decide) rfl rfl (by decide) (c_X7_185 E l _ (by omega) _) (pc' := 65) rfl (fun vv SS MM hq _ _ _ => ?_)
  obtain ⟨rfl, rfl, rfl⟩ := hq
  refine ax_reT (st2 := [.inr 185, .inl 4, .inr 168]) rfl ?_
  refine ax_aast dX9_init_65 (SN_sh 168 189 (by decide) h0_168) (by decide) (SN_sh 185 189 (by decide) h0_185) rfl (by decide) (by decide) rfl (by unfold ax_can; decide) (pc' := 66) rfl ?_
  refine ax_iinc dX9_init_66 rfl (by decide) (by decide) (ls' := [some (.inr 165), some (.inl 5)]) rfl (pc' := 69) rfl ?_
  refine ax_goto dX9_init_69 (pc' := 47) (by decide) ?_
  refine ax_iload_n dX9_init_47 rfl rfl (pc' := 48) rfl ?_
  refine ax_bipush dX9_init_48 (by decide) (pc' := 50) rfl ?_
  refine ax_icmp_ge (tgt := 72) dX9_init_50 (by decide) (pc' := 53) rfl (fun h => absurd h (by decide)) (fun _ => ?_)
  refine ax_aload_n dX9_init_53 rfl rfl (pc' := 54) rfl ?_
  refine ax_getr (v := 168) dX9_init_54 flX9_20 rfl (SN_sh 165 189 (by decide) h0_165) rfl (pc' := 57) rfl ?_
  refine ax_iload_n dX9_init_57 rfl rfl (pc' := 58) rfl ?_
  refine ax_new (I := iX9_init) (kc := 11) (ks := 952) (n := 189) dX9_init_58 nlX9_18 (SN_len 189 (Nat.le_of_ble_eq_true rfl)) (pc' := 61) rfl ?_
  refine ax_reC (S2 := SN 190) (SN_push h0_189) ?_
  refine ax_dup dX9_init_61 (pc' := 62) rfl ?_
  refine ax_ini (kc1 := 3) (ks1 := 312) (kc := 8) (ks := 640) [] [.inr 189, .inl 5, .inr 168] dX9_init_62 mlX9_30 (by decide) rfl rfl (by decide) (c_X7_189 E l _ (by omega) _) (pc' := 65) rfl (fun vv SS MM hq _ _ _ => ?_)
  obtain ⟨rfl, rfl, rfl⟩ := hq
  refine ax_reT (st2 := [.inr 189, .inl 5, .inr 168]) rfl ?_
  refine ax_aast dX9_init_65 (SN_sh 168 193 (by decide) h0_168) (by decide) (SN_sh 189 193 (by decide) h0_189) rfl (by decide) (by decide) rfl (by unfold ax_can; decide) (pc' := 66) rfl ?_
  refine ax_iinc dX9_init_66 rfl (by decide) (by decide) (ls' := [some (.inr 165), some (.inl 6)]) rfl (pc' := 69) rfl ?_
  refine ax_goto dX9_init_69 (pc' := 47) (by decide) ?_
  refine ax_iload_n dX9_init_47 rfl rfl (pc' := 48) rfl ?_
  refine ax_bipush dX9_init_48 (by decide) (pc' := 50) rfl ?_
  refine ax_icmp_ge (tgt := 72) dX9_init_50 (by decide) (pc' := 53) rfl (fun h => absurd h (by decide)) (fun _ => ?_)
  refine ax_aload_n dX9_init_53 rfl rfl (pc' := 54) rfl ?_
  refine ax_getr (v := 168) dX9_init_54 flX9_20 rfl (SN_sh 165 193 (by decide) h0_165) rfl (pc' := 57) rfl ?_
  refine ax_iload_n dX9_init_57 rfl rfl (pc' := 58) rfl ?_
  refine ax_new (I := iX9_init) (kc := 7) (ks := 632) (n := 193) dX9_init_58 nlX9_18 (SN_len 193 (Nat.le_of_ble_eq_true rfl)) (pc' := 61) rfl ?_
  refine ax_reC (S2 := SN 194) (SN_push h0_193) ?_
  refine ax_dup dX9_init_61 (pc' := 62) rfl ?_
  refine ax_ini (kc1 := 3) (ks1 := 312) (kc := 4) (ks := 320) [] [.inr 193, .inl 6, .inr 168] dX9_init_62 mlX9_30 (by decide) rfl rfl (by decide) (c_X7_193 E l _ (by omega) _) (pc' := 65) rfl (fun vv SS MM hq _ _ _ => ?_)
  obtain ⟨rfl, rfl, rfl⟩ := hq
  refine ax_reT (st2 := [.inr 193, .inl 6, .inr 168]) rfl ?_
  refine ax_aast dX9_init_65 (SN_sh 168 197 (by decide) h0_168) (by decide) (SN_sh 193 197 (by decide) h0_193) rfl (by decide) (by decide) rfl (by unfold ax_can; decide) (pc' := 66) rfl ?_
  refine ax_iinc dX9_init_66 rfl (by decide) (by decide) (ls' := [some (.inr 165), some (.inl 7)]) rfl (pc' := 69) rfl ?_
  refine ax_goto dX9_init_69 (pc' := 47) (by decide) ?_
  refine ax_iload_n dX9_init_47 rfl rfl (pc' := 48) rfl ?_
  refine ax_bipush dX9_init_48 (by decide) (pc' := 50) rfl ?_
  refine ax_icmp_ge (tgt := 72) dX9_init_50 (by decide) (pc' := 53) rfl (fun h => absurd h (by decide)) (fun _ => ?_)
  refine ax_aload_n dX9_init_53 rfl rfl (pc' := 54) rfl ?_
  refine ax_getr (v := 168) dX9_init_54 flX9_20 rfl (SN_sh 165 197 (by decide) h0_165) rfl (pc' := 57) rfl ?_
  refine ax_iload_n dX9_init_57 rfl rfl (pc' := 58) rfl ?_
  refine ax_new (I := iX9_init) (kc := 3) (ks := 312) (n := 197) dX9_init_58 nlX9_18 (SN_len 197 (Nat.le_of_ble_eq_true rfl)) (pc' := 61) rfl ?_
  refine ax_reC (S2 := SN 198) (SN_push h0_197) ?_
  refine ax_dup dX9_init_61 (pc' := 62) rfl ?_
  refine ax_ini (kc1 := 3) (ks1 := 312) (kc := 0) (ks := 0) [] [.inr 197, .inl 7, .inr 168] dX9_init_62 mlX9_30 (by decide) rfl rfl (by decide) (c_X7_197 E l _ (by omega) _) (pc' := 65) rfl (fun vv SS MM hq _ _ _ => ?_)
  obtain ⟨rfl, rfl, rfl⟩ := hq
  refine ax_reT (st2 := [.inr 197, .inl 7, .inr 168]) rfl ?_
  refine ax_aast dX9_init_65 (SN_sh 168 201 (by decide) h0_168) (by decide) (SN_sh 197 201 (by decide) h0_197) rfl (by decide) (by decide) rfl (by unfold ax_can; decide) (pc' := 66) rfl ?_
  refine ax_iinc dX9_init_66 rfl (by decide) (by decide) (ls' := [some (.inr 165), some (.inl 8)]) rfl (pc' := 69) rfl ?_
  refine ax_goto dX9_init_69 (pc' := 47) (by decide) ?_
  refine ax_iload_n dX9_init_47 rfl rfl (pc' := 48) rfl ?_
  refine ax_bipush dX9_init_48 (by decide) (pc' := 50) rfl ?_
  refine ax_icmp_ge (tgt := 72) dX9_init_50 (by decide) (pc' := 53) rfl (fun _ => ?_) (fun h => absurd h (by decide))
  exact ax_vret dX9_init_72 rfl ⟨rfl, rfl, rfl⟩
def f_mX7_205 (M : ax_Mem) : ax_Mem := ax_up (ax_row (ax_up (ax_row (ax_up (ax_row M 206 (fun _ => 0)) 205 5 206) 207 (fun _ => 0)) 205 6 207) 208 (fun _ => 0)) 205 7 208
set_option maxRecDepth 20000 in
theorem c_X7_205 (E : ax_Env) (l : Launch) (d : Nat) (hd : 1 ≤ d) (M : ax_Mem) : ax_M E l d 3 312 iX7_init [.inr 205] (SN 206) M (fun z0 S2 M2 => z0 = none ∧ S2 = SN 209 ∧ M2 = f_mX7_205 M) := by
  obtain ⟨d, rfl⟩ : ∃ d0, d = d0 + 1 := ⟨d - 1, by omega⟩
  refine ax_enter rfl (by decide) (ls := [some (.inr 205)]) rfl (fun _ hcm => ?_)
  refine ax_aload_n dX7_init_0 rfl rfl (pc' := 1) rfl ?_
  refine ax_oinit dX7_init_1 (by decide) mlX7_3 hx_oi hx_oc (by decide) (pc' := 4) rfl ?_
  refine ax_aload_n dX7_init_4 rfl rfl (pc' := 5) rfl ?_
  refine ax_bipush dX7_init_5 (by decide) (pc' := 7) rfl ?_
  refine ax_newa (kc := 2) (ks := 288) (N := 24) (n := 206) (v := 24) dX7_init_7 hx_arr rfl (by decide) (SN_len 206 (Nat.le_of_ble_eq_true rfl)) (pc' := 9) rfl ?_
  refine ax_reC (S2 := SN 207) (SN_push h0_206) ?_
  refine ax_putF dX7_init_9 flX7_9 rfl (fun C T N h => by cases h; rfl) rfl (SN_sh 205 207 (by decide) h0_205) rfl (by unfold ax_can; decide) (pc' := 12) rfl ?_
  refine ax_aload_n dX7_init_12 rfl rfl (pc' := 13) rfl ?_
  refine ax_sipush dX7_init_13 (by decide) (pc' := 16) rfl ?_
  refine ax_newa (kc := 1) (ks := 144) (N := 144) (n := 207) (v := 144) dX7_init_16 hx_arr rfl (by decide) (SN_len 207 (Nat.le_of_ble_eq_true rfl)) (pc' := 18) rfl ?_
  refine ax_reC (S2 := SN 208) (SN_push h0_207) ?_
  refine ax_putF dX7_init_18 flX7_15 rfl (fun C T N h => by cases h; rfl) rfl (SN_sh 205 208 (by decide) h0_205) rfl (by unfold ax_can; decide) (pc' := 21) rfl ?_
  refine ax_aload_n dX7_init_21 rfl rfl (pc' := 22) rfl ?_
  refine ax_sipush dX7_init_22 (by decide) (pc' := 25) rfl ?_
  refine ax_newa (kc := 0) (ks := 0) (N := 144) (n := 208) (v := 144) dX7_init_25 hx_arr rfl (by decide) (SN_len 208 (Nat.le_of_ble_eq_true rfl)) (pc' := 27) rfl ?_
  refine ax_reC (S2 := SN 209) (SN_push h0_208) ?_
  refine ax_putF dX7_init_27 flX7_18 rfl (fun C T N h => by cases h; rfl) rfl (SN_sh 205 209 (by decide) h0_205) rfl (by unfold ax_can; decide) (pc' := 30) rfl ?_
  exact ax_vret dX7_init_30 rfl ⟨rfl, rfl, rfl⟩
def f_mX7_209 (M : ax_Mem) : ax_Mem := ax_up (ax_row (ax_up (ax_row (ax_up (ax_row M 210 (fun _ => 0)) 209 5 210) 211 (fun _ => 0)) 209 6 211) 212 (fun _ => 0)) 209 7 212
set_option maxRecDepth 20000 in
theorem c_X7_209 (E : ax_Env) (l : Launch) (d : Nat) (hd : 1 ≤ d) (M : ax_Mem) : ax_M E l d 3 312 iX7_init [.inr 209] (SN 210) M (fun z0 S2 M2 => z0 = none ∧ S2 = SN 213 ∧ M2 = f_mX7_209 M) := by
  obtain ⟨d, rfl⟩ : ∃ d0, d = d0 + 1 := ⟨d - 1, by omega⟩
  refine ax_enter rfl (by decide) (ls := [some (.inr 209)]) rfl (fun _ hcm => ?_)
  refine ax_aload_n dX7_init_0 rfl rfl (pc' := 1) rfl ?_
  refine ax_oinit dX7_init_1 (by decide) mlX7_3 hx_oi hx_oc (by decide) (pc' := 4) rfl ?_
  refine ax_aload_n dX7_init_4 rfl rfl (pc' := 5) rfl ?_
  refine ax_bipush dX7_init_5 (by decide) (pc' := 7) rfl ?_
  refine ax_newa (kc := 2) (ks := 288) (N := 24) (n := 210) (v := 24) dX7_init_7 hx_arr rfl (by decide) (SN_len 210 (Nat.le_of_ble_eq_true rfl)) (pc' := 9) rfl ?_
  refine ax_reC (S2 := SN 211) (SN_push h0_210) ?_
  refine ax_putF dX7_init_9 flX7_9 rfl (fun C T N h => by cases h; rfl) rfl (SN_sh 209 211 (by decide) h0_209) rfl (by unfold ax_can; decide) (pc' := 12) rfl ?_
  refine ax_aload_n dX7_init_12 rfl rfl (pc' := 13) rfl ?_
  refine ax_sipush dX7_init_13 (by decide) (pc' := 16) rfl ?_
  refine ax_newa (kc := 1) (ks := 144) (N := 144) (n := 211) (v := 144) dX7_init_16 hx_arr rfl (by decide) (SN_len 211 (Nat.le_of_ble_eq_true rfl)) (pc' := 18) rfl ?_
  refine ax_reC (S2 := SN 212) (SN_push h0_211) ?_
  refine ax_putF dX7_init_18 flX7_15 rfl (fun C T N h => by cases h; rfl) rfl (SN_sh 209 212 (by decide) h0_209) rfl (by unfold ax_can; decide) (pc' := 21) rfl ?_
  refine ax_aload_n dX7_init_21 rfl rfl (pc' := 22) rfl ?_
  refine ax_sipush dX7_init_22 (by decide) (pc' := 25) rfl ?_
  refine ax_newa (kc := 0) (ks := 0) (N := 144) (n := 212) (v := 144) dX7_init_25 hx_arr rfl (by decide) (SN_len 212 (Nat.le_of_ble_eq_true rfl)) (pc' := 27) rfl ?_
  refine ax_reC (S2 := SN 213) (SN_push h0_212) ?_
  refine ax_putF dX7_init_27 flX7_18 rfl (fun C T N h => by cases h; rfl) rfl (SN_sh 209 213 (by decide) h0_209) rfl (by unfold ax_can; decide) (pc' := 30) rfl ?_
  exact ax_vret dX7_init_30 rfl ⟨rfl, rfl, rfl⟩
def f_mX7_213 (M : ax_Mem) : ax_Mem := ax_up (ax_row (ax_up (ax_row (ax_up (ax_row M 214 (fun _ => 0)) 213 5 214) 215 (fun _ => 0)) 213 6 215) 216 (fun _ => 0)) 213 7 216
set_option maxRecDepth 20000 in
theorem c_X7_213 (E : ax_Env) (l : Launch) (d : Nat) (hd : 1 ≤ d) (M : ax_Mem) : ax_M E l d 3 312 iX7_init [.inr 213] (SN 214) M (fun z0 S2 M2 => z0 = none ∧ S2 = SN 217 ∧ M2 = f_mX7_213 M) := by
  obtain ⟨d, rfl⟩ : ∃ d0, d = d0 + 1 := ⟨d - 1, by omega⟩
  refine ax_enter rfl (by decide) (ls := [some (.inr 213)]) rfl (fun _ hcm => ?_)
  refine ax_aload_n dX7_init_0 rfl rfl (pc' := 1) rfl ?_
  refine ax_oinit dX7_init_1 (by decide) mlX7_3 hx_oi hx_oc (by decide) (pc' := 4) rfl ?_
  refine ax_aload_n dX7_init_4 rfl rfl (pc' := 5) rfl ?_
  refine ax_bipush dX7_init_5 (by decide) (pc' := 7) rfl ?_
  refine ax_newa (kc := 2) (ks := 288) (N := 24) (n := 214) (v := 24) dX7_init_7 hx_arr rfl (by decide) (SN_len 214 (Nat.le_of_ble_eq_true rfl)) (pc' := 9) rfl ?_
  refine ax_reC (S2 := SN 215) (SN_push h0_214) ?_
  refine ax_putF dX7_init_9 flX7_9 rfl (fun C T N h => by cases h; rfl) rfl (SN_sh 213 215 (by decide) h0_213) rfl (by unfold ax_can; decide) (pc' := 12) rfl ?_
  refine ax_aload_n dX7_init_12 rfl rfl (pc' := 13) rfl ?_
  refine ax_sipush dX7_init_13 (by decide) (pc' := 16) rfl ?_
  refine ax_newa (kc := 1) (ks := 144) (N := 144) (n := 215) (v := 144) dX7_init_16 hx_arr rfl (by decide) (SN_len 215 (Nat.le_of_ble_eq_true rfl)) (pc' := 18) rfl ?_
  refine ax_reC (S2 := SN 216) (SN_push h0_215) ?_
  refine ax_putF dX7_init_18 flX7_15 rfl (fun C T N h => by cases h; rfl) rfl (SN_sh 213 216 (by decide) h0_213) rfl (by unfold ax_can; decide) (pc' := 21) rfl ?_
  refine ax_aload_n dX7_init_21 rfl rfl (pc' := 22) rfl ?_
  refine ax_sipush dX7_init_22 (by decide) (pc' := 25) rfl ?_
  refine ax_newa (kc := 0) (ks := 0) (N := 144) (n := 216) (v := 144) dX7_init_25 hx_arr rfl (by decide) (SN_len 216 (Nat.le_of_ble_eq_true rfl)) (pc' := 27) rfl ?_
  refine ax_reC (S2 := SN 217) (SN_push h0_216) ?_
  refine ax_putF dX7_init_27 flX7_18 rfl (fun C T N h => by cases h; rfl) rfl (SN_sh 213 217 (by decide) h0_213) rfl (by unfold ax_can; decide) (pc' := 30) rfl ?_
  exact ax_vret dX7_init_30 rfl ⟨rfl, rfl, rfl⟩
def f_mX7_217 (M : ax_Mem) : ax_Mem := ax_up (ax_row (ax_up (ax_row (ax_up (ax_row M 218 (fun _ => 0)) 217 5 218) 219 (fun _ => 0)) 217 6 219) 220 (fun _ => 0)) 217 7 220
set_option maxRecDepth 20000 in
theorem c_X7_217 (E : ax_Env) (l : Launch) (d : Nat) (hd : 1 ≤ d) (M : ax_Mem) : ax_M E l d 3 312 iX7_init [.inr 217] (SN 218) M (fun z0 S2 M2 => z0 = none ∧ S2 = SN 221 ∧ M2 = f_mX7_217 M) := by
  obtain ⟨d, rfl⟩ : ∃ d0, d = d0 + 1 := ⟨d - 1, by omega⟩
  refine ax_enter rfl (by decide) (ls := [some (.inr 217)]) rfl (fun _ hcm => ?_)
  refine ax_aload_n dX7_init_0 rfl rfl (pc' := 1) rfl ?_
  refine ax_oinit dX7_init_1 (by decide) mlX7_3 hx_oi hx_oc (by decide) (pc' := 4) rfl ?_
  refine ax_aload_n dX7_init_4 rfl rfl (pc' := 5) rfl ?_
  refine ax_bipush dX7_init_5 (by decide) (pc' := 7) rfl ?_
  refine ax_newa (kc := 2) (ks := 288) (N := 24) (n := 218) (v := 24) dX7_init_7 hx_arr rfl (by decide) (SN_len 218 (Nat.le_of_ble_eq_true rfl)) (pc' := 9) rfl ?_
  refine ax_reC (S2 := SN 219) (SN_push h0_218) ?_
  refine ax_putF dX7_init_9 flX7_9 rfl (fun C T N h => by cases h; rfl) rfl (SN_sh 217 219 (by decide) h0_217) rfl (by unfold ax_can; decide) (pc' := 12) rfl ?_
  refine ax_aload_n dX7_init_12 rfl rfl (pc' := 13) rfl ?_
  refine ax_sipush dX7_init_13 (by decide) (pc' := 16) rfl ?_
  refine ax_newa (kc := 1) (ks := 144) (N := 144) (n := 219) (v := 144) dX7_init_16 hx_arr rfl (by decide) (SN_len 219 (Nat.le_of_ble_eq_true rfl)) (pc' := 18) rfl ?_
  refine ax_reC (S2 := SN 220) (SN_push h0_219) ?_
  refine ax_putF dX7_init_18 flX7_15 rfl (fun C T N h => by cases h; rfl) rfl (SN_sh 217 220 (by decide) h0_217) rfl (by unfold ax_can; decide) (pc' := 21) rfl ?_
  refine ax_aload_n dX7_init_21 rfl rfl (pc' := 22) rfl ?_
  refine ax_sipush dX7_init_22 (by decide) (pc' := 25) rfl ?_
  refine ax_newa (kc := 0) (ks := 0) (N := 144) (n := 220) (v := 144) dX7_init_25 hx_arr rfl (by decide) (SN_len 220 (Nat.le_of_ble_eq_true rfl)) (pc' := 27) rfl ?_
  refine ax_reC (S2 := SN 221) (SN_push h0_220) ?_
  refine ax_putF dX7_init_27 flX7_18 rfl (fun C T N h => by cases h; rfl) rfl (SN_sh 217 221 (by decide) h0_217) rfl (by unfold ax_can; decide) (pc' := 30) rfl ?_
  exact ax_vret dX7_init_30 rfl ⟨rfl, rfl, rfl⟩
def f_mX7_221 (M : ax_Mem) : ax_Mem := ax_up (ax_row (ax_up (ax_row (ax_up (ax_row M 222 (fun _ => 0)) 221 5 222) 223 (fun _ => 0)) 221 6 223) 224 (fun _ => 0)) 221 7 224
set_option maxRecDepth 20000 in
theorem c_X7_221 (E : ax_Env) (l : Launch) (d : Nat) (hd : 1 ≤ d) (M : ax_Mem) : ax_M E l d 3 312 iX7_init [.inr 221] (SN 222) M (fun z0 S2 M2 => z0 = none ∧ S2 = SN 225 ∧ M2 = f_mX7_221 M) := by
  obtain ⟨d, rfl⟩ : ∃ d0, d = d0 + 1 := ⟨d - 1, by omega⟩
  refine ax_enter rfl (by decide) (ls := [some (.inr 221)]) rfl (fun _ hcm => ?_)
  refine ax_aload_n dX7_init_0 rfl rfl (pc' := 1) rfl ?_
  refine ax_oinit dX7_init_1 (by decide) mlX7_3 hx_oi hx_oc (by decide) (pc' := 4) rfl ?_
  refine ax_aload_n dX7_init_4 rfl rfl (pc' := 5) rfl ?_
  refine ax_bipush dX7_init_5 (by decide) (pc' := 7) rfl ?_
  refine ax_newa (kc := 2) (ks := 288) (N := 24) (n := 222) (v := 24) dX7_init_7 hx_arr rfl (by decide) (SN_len 222 (Nat.le_of_ble_eq_true rfl)) (pc' := 9) rfl ?_
  refine ax_reC (S2 := SN 223) (SN_push h0_222) ?_
  refine ax_putF dX7_init_9 flX7_9 rfl (fun C T N h => by cases h; rfl) rfl (SN_sh 221 223 (by decide) h0_221) rfl (by unfold ax_can; decide) (pc' := 12) rfl ?_
  refine ax_aload_n dX7_init_12 rfl rfl (pc' := 13) rfl ?_
  refine ax_sipush dX7_init_13 (by decide) (pc' := 16) rfl ?_
  refine ax_newa (kc := 1) (ks := 144) (N := 144) (n := 223) (v := 144) dX7_init_16 hx_arr rfl (by decide) (SN_len 223 (Nat.le_of_ble_eq_true rfl)) (pc' := 18) rfl ?_
  refine ax_reC (S2 := SN 224) (SN_push h0_223) ?_
  refine ax_putF dX7_init_18 flX7_15 rfl (fun C T N h => by cases h; rfl) rfl (SN_sh 221 224 (by decide) h0_221) rfl (by unfold ax_can; decide) (pc' := 21) rfl ?_
  refine ax_aload_n dX7_init_21 rfl rfl (pc' := 22) rfl ?_
  refine ax_sipush dX7_init_22 (by decide) (pc' := 25) rfl ?_
  refine ax_newa (kc := 0) (ks := 0) (N := 144) (n := 224) (v := 144) dX7_init_25 hx_arr rfl (by decide) (SN_len 224 (Nat.le_of_ble_eq_true rfl)) (pc' := 27) rfl ?_
  refine ax_reC (S2 := SN 225) (SN_push h0_224) ?_
  refine ax_putF dX7_init_27 flX7_18 rfl (fun C T N h => by cases h; rfl) rfl (SN_sh 221 225 (by decide) h0_221) rfl (by unfold ax_can; decide) (pc' := 30) rfl ?_
  exact ax_vret dX7_init_30 rfl ⟨rfl, rfl, rfl⟩
def f_mX7_225 (M : ax_Mem) : ax_Mem := ax_up (ax_row (ax_up (ax_row (ax_up (ax_row M 226 (fun _ => 0)) 225 5 226) 227 (fun _ => 0)) 225 6 227) 228 (fun _ => 0)) 225 7 228
set_option maxRecDepth 20000 in
theorem c_X7_225 (E : ax_Env) (l : Launch) (d : Nat) (hd : 1 ≤ d) (M : ax_Mem) : ax_M E l d 3 312 iX7_init [.inr 225] (SN 226) M (fun z0 S2 M2 => z0 = none ∧ S2 = SN 229 ∧ M2 = f_mX7_225 M) := by
  obtain ⟨d, rfl⟩ : ∃ d0, d = d0 + 1 := ⟨d - 1, by omega⟩
  refine ax_enter rfl (by decide) (ls := [some (.inr 225)]) rfl (fun _ hcm => ?_)
  refine ax_aload_n dX7_init_0 rfl rfl (pc' := 1) rfl ?_
  refine ax_oinit dX7_init_1 (by decide) mlX7_3 hx_oi hx_oc (by decide) (pc' := 4) rfl ?_
  refine ax_aload_n dX7_init_4 rfl rfl (pc' := 5) rfl ?_
  refine ax_bipush dX7_init_5 (by decide) (pc' := 7) rfl ?_
  refine ax_newa (kc := 2) (ks := 288) (N := 24) (n := 226) (v := 24) dX7_init_7 hx_arr rfl (by decide) (SN_len 226 (Nat.le_of_ble_eq_true rfl)) (pc' := 9) rfl ?_
  refine ax_reC (S2 := SN 227) (SN_push h0_226) ?_
  refine ax_putF dX7_init_9 flX7_9 rfl (fun C T N h => by cases h; rfl) rfl (SN_sh 225 227 (by decide) h0_225) rfl (by unfold ax_can; decide) (pc' := 12) rfl ?_
  refine ax_aload_n dX7_init_12 rfl rfl (pc' := 13) rfl ?_
  refine ax_sipush dX7_init_13 (by decide) (pc' := 16) rfl ?_
  refine ax_newa (kc := 1) (ks := 144) (N := 144) (n := 227) (v := 144) dX7_init_16 hx_arr rfl (by decide) (SN_len 227 (Nat.le_of_ble_eq_true rfl)) (pc' := 18) rfl ?_
  refine ax_reC (S2 := SN 228) (SN_push h0_227) ?_
  refine ax_putF dX7_init_18 flX7_15 rfl (fun C T N h => by cases h; rfl) rfl (SN_sh 225 228 (by decide) h0_225) rfl (by unfold ax_can; decide) (pc' := 21) rfl ?_
  refine ax_aload_n dX7_init_21 rfl rfl (pc' := 22) rfl ?_
  refine ax_sipush dX7_init_22 (by decide) (pc' := 25) rfl ?_
  refine ax_newa (kc := 0) (ks := 0) (N := 144) (n := 228) (v := 144) dX7_init_25 hx_arr rfl (by decide) (SN_len 228 (Nat.le_of_ble_eq_true rfl)) (pc' := 27) rfl ?_
  refine ax_reC (S2 := SN 229) (SN_push h0_228) ?_
  refine ax_putF dX7_init_27 flX7_18 rfl (fun C T N h => by cases h; rfl) rfl (SN_sh 225 229 (by decide) h0_225) rfl (by unfold ax_can; decide) (pc' := 30) rfl ?_
  exact ax_vret dX7_init_30 rfl ⟨rfl, rfl, rfl⟩
def f_mX7_229 (M : ax_Mem) : ax_Mem := ax_up (ax_row (ax_up (ax_row (ax_up (ax_row M 230 (fun _ => 0)) 229 5 230) 231 (fun _ => 0)) 229 6 231) 232 (fun _ => 0)) 229 7 232
set_option maxRecDepth 20000 in
theorem c_X7_229 (E : ax_Env) (l : Launch) (d : Nat) (hd : 1 ≤ d) (M : ax_Mem) : ax_M E l d 3 312 iX7_init [.inr 229] (SN 230) M (fun z0 S2 M2 => z0 = none ∧ S2 = SN 233 ∧ M2 = f_mX7_229 M) := by
  obtain ⟨d, rfl⟩ : ∃ d0, d = d0 + 1 := ⟨d - 1, by omega⟩
  refine ax_enter rfl (by decide) (ls := [some (.inr 229)]) rfl (fun _ hcm => ?_)
  refine ax_aload_n dX7_init_0 rfl rfl (pc' := 1) rfl ?_
  refine ax_oinit dX7_init_1 (by decide) mlX7_3 hx_oi hx_oc (by decide) (pc' := 4) rfl ?_
  refine ax_aload_n dX7_init_4 rfl rfl (pc' := 5) rfl ?_
  refine ax_bipush dX7_init_5 (by decide) (pc' := 7) rfl ?_
  refine ax_newa (kc := 2) (ks := 288) (N := 24) (n := 230) (v := 24) dX7_init_7 hx_arr rfl (by decide) (SN_len 230 (Nat.le_of_ble_eq_true rfl)) (pc' := 9) rfl ?_
  refine ax_reC (S2 := SN 231) (SN_push h0_230) ?_
  refine ax_putF dX7_init_9 flX7_9 rfl (fun C T N h => by cases h; rfl) rfl (SN_sh 229 231 (by decide) h0_229) rfl (by unfold ax_can; decide) (pc' := 12) rfl ?_
  refine ax_aload_n dX7_init_12 rfl rfl (pc' := 13) rfl ?_
  refine ax_sipush dX7_init_13 (by decide) (pc' := 16) rfl ?_
  refine ax_newa (kc := 1) (ks := 144) (N := 144) (n := 231) (v := 144) dX7_init_16 hx_arr rfl (by decide) (SN_len 231 (Nat.le_of_ble_eq_true rfl)) (pc' := 18) rfl ?_
  refine ax_reC (S2 := SN 232) (SN_push h0_231) ?_
  refine ax_putF dX7_init_18 flX7_15 rfl (fun C T N h => by cases h; rfl) rfl (SN_sh 229 232 (by decide) h0_229) rfl (by unfold ax_can; decide) (pc' := 21) rfl ?_
  refine ax_aload_n dX7_init_21 rfl rfl (pc' := 22) rfl ?_
  refine ax_sipush dX7_init_22 (by decide) (pc' := 25) rfl ?_
  refine ax_newa (kc := 0) (ks := 0) (N := 144) (n := 232) (v := 144) dX7_init_25 hx_arr rfl (by decide) (SN_len 232 (Nat.le_of_ble_eq_true rfl)) (pc' := 27) rfl ?_
  refine ax_reC (S2 := SN 233) (SN_push h0_232) ?_
  refine ax_putF dX7_init_27 flX7_18 rfl (fun C T N h => by cases h; rfl) rfl (SN_sh 229 233 (by decide) h0_229) rfl (by unfold ax_can; decide) (pc' := 30) rfl ?_
  exact ax_vret dX7_init_30 rfl ⟨rfl, rfl, rfl⟩
def f_mX7_233 (M : ax_Mem) : ax_Mem := ax_up (ax_row (ax_up (ax_row (ax_up (ax_row M 234 (fun _ => 0)) 233 5 234) 235 (fun _ => 0)) 233 6 235) 236 (fun _ => 0)) 233 7 236
set_option maxRecDepth 20000 in
theorem c_X7_233 (E : ax_Env) (l : Launch) (d : Nat) (hd : 1 ≤ d) (M : ax_Mem) : ax_M E l d 3 312 iX7_init [.inr 233] (SN 234) M (fun z0 S2 M2 => z0 = none ∧ S2 = SN 237 ∧ M2 = f_mX7_233 M) := by
  obtain ⟨d, rfl⟩ : ∃ d0, d = d0 + 1 := ⟨d - 1, by omega⟩
  refine ax_enter rfl (by decide) (ls := [some (.inr 233)]) rfl (fun _ hcm => ?_)
  refine ax_aload_n dX7_init_0 rfl rfl (pc' := 1) rfl ?_
  refine ax_oinit dX7_init_1 (by decide) mlX7_3 hx_oi hx_oc (by decide) (pc' := 4) rfl ?_
  refine ax_aload_n dX7_init_4 rfl rfl (pc' := 5) rfl ?_
  refine ax_bipush dX7_init_5 (by decide) (pc' := 7) rfl ?_
  refine ax_newa (kc := 2) (ks := 288) (N := 24) (n := 234) (v := 24) dX7_init_7 hx_arr rfl (by decide) (SN_len 234 (Nat.le_of_ble_eq_true rfl)) (pc' := 9) rfl ?_
  refine ax_reC (S2 := SN 235) (SN_push h0_234) ?_
  refine ax_putF dX7_init_9 flX7_9 rfl (fun C T N h => by cases h; rfl) rfl (SN_sh 233 235 (by decide) h0_233) rfl (by unfold ax_can; decide) (pc' := 12) rfl ?_
  refine ax_aload_n dX7_init_12 rfl rfl (pc' := 13) rfl ?_
  refine ax_sipush dX7_init_13 (by decide) (pc' := 16) rfl ?_
  refine ax_newa (kc := 1) (ks := 144) (N := 144) (n := 235) (v := 144) dX7_init_16 hx_arr rfl (by decide) (SN_len 235 (Nat.le_of_ble_eq_true rfl)) (pc' := 18) rfl ?_
  refine ax_reC (S2 := SN 236) (SN_push h0_235) ?_
  refine ax_putF dX7_init_18 flX7_15 rfl (fun C T N h => by cases h; rfl) rfl (SN_sh 233 236 (by decide) h0_233) rfl (by unfold ax_can; decide) (pc' := 21) rfl ?_
  refine ax_aload_n dX7_init_21 rfl rfl (pc' := 22) rfl ?_
  refine ax_sipush dX7_init_22 (by decide) (pc' := 25) rfl ?_
  refine ax_newa (kc := 0) (ks := 0) (N := 144) (n := 236) (v := 144) dX7_init_25 hx_arr rfl (by decide) (SN_len 236 (Nat.le_of_ble_eq_true rfl)) (pc' := 27) rfl ?_
  refine ax_reC (S2 := SN 237) (SN_push h0_236) ?_
  refine ax_putF dX7_init_27 flX7_18 rfl (fun C T N h => by cases h; rfl) rfl (SN_sh 233 237 (by decide) h0_233) rfl (by unfold ax_can; decide) (pc' := 30) rfl ?_
  exact ax_vret dX7_init_30 rfl ⟨rfl, rfl, rfl⟩
def f_mX9_201 (M : ax_Mem) : ax_Mem := ax_up (f_mX7_233 (ax_row (ax_up (f_mX7_229 (ax_row (ax_up (f_mX7_225 (ax_row (ax_up (f_mX7_221 (ax_row (ax_up (f_mX7_217 (ax_row (ax_up (f_mX7_213 (ax_row (ax_up (f_mX7_209 (ax_row (ax_up (f_mX7_205 (ax_row (f_mfl 203 6 2 (f_mfl 202 6 3 (ax_up (ax_row (ax_up (ax_row (ax_up (ax_row M 202 (fun _ => 0)) 201 4 202) 203 (fun _ => 0)) 201 5 203) 204 (fun _ => -1)) 201 6 204))) 205 (ax_zero 7))) 204 0 205) 209 (ax_zero 7))) 204 1 209) 213 (ax_zero 7))) 204 2 213) 217 (ax_zero 7))) 204 3 217) 221 (ax_zero 7))) 204 4 221) 225 (ax_zero 7))) 204 5 225) 229 (ax_zero 7))) 204 6 229) 233 (ax_zero 7))) 204 7 233
set_option maxRecDepth 20000 in
theorem c_X9_201 (E : ax_Env) (l : Launch) (d : Nat) (hd : 2 ≤ d) (M : ax_Mem) : ax_M E l d 35 2580 iX9_init [.inr 201] (SN 202) M (fun z0 S2 M2 => z0 = none ∧ S2 = SN 237 ∧ M2 = f_mX9_201 M) := by
  obtain ⟨d, rfl⟩ : ∃ d0, d = d0 + 1 := ⟨d - 1, by omega⟩
  refine ax_enter rfl (by decide) (ls := [some (.inr 201), none]) rfl (fun _ hcm => ?_)
  refine ax_aload_n dX9_init_0 rfl rfl (pc' := 1) rfl ?_
  refine ax_oinit dX9_init_1 (by decide) mlX9_3 hx_oi hx_oc (by decide) (pc' := 4) rfl ?_
  refine ax_aload_n dX9_init_4 rfl rfl (pc' := 5) rfl ?_
  refine ax_bipush dX9_init_5 (by decide) (pc' := 7) rfl ?_
  refine ax_newa (kc := 34) (ks := 2574) (N := 6) (n := 202) (v := 6) dX9_init_7 hx_arr rfl (by decide) (SN_len 202 (Nat.le_of_ble_eq_true rfl)) (pc' := 9) rfl ?_
  refine ax_reC (S2 := SN 203) (SN_push h0_202) ?_
  refine ax_putF dX9_init_9 flX9_9 rfl (fun C T N h => by cases h; rfl) rfl (SN_sh 201 203 (by decide) h0_201) rfl (by unfold ax_can; decide) (pc' := 12) rfl ?_
  refine ax_aload_n dX9_init_12 rfl rfl (pc' := 13) rfl ?_
  refine ax_bipush dX9_init_13 (by decide) (pc' := 15) rfl ?_
  refine ax_newa (kc := 33) (ks := 2568) (N := 6) (n := 203) (v := 6) dX9_init_15 hx_arr rfl (by decide) (SN_len 203 (Nat.le_of_ble_eq_true rfl)) (pc' := 17) rfl ?_
  refine ax_reC (S2 := SN 204) (SN_push h0_203) ?_
  refine ax_putF dX9_init_17 flX9_15 rfl (fun C T N h => by cases h; rfl) rfl (SN_sh 201 204 (by decide) h0_201) rfl (by unfold ax_can; decide) (pc' := 20) rfl ?_
  refine ax_aload_n dX9_init_20 rfl rfl (pc' := 21) rfl ?_
  refine ax_bipush dX9_init_21 (by decide) (pc' := 23) rfl ?_
  refine ax_newq (ci := 14) (kc := 32) (ks := 2560) (N := 8) (n := 204) (v := 8) dX9_init_23 (by decide) alX9_18 rfl (by decide) (SN_len 204 (Nat.le_of_ble_eq_true rfl)) (pc' := 26) rfl ?_
  refine ax_reC (S2 := SN 205) (SN_push h0_204) ?_
  refine ax_putF dX9_init_26 flX9_20 rfl (fun C T N h => by cases h; rfl) rfl (SN_sh 201 205 (by decide) h0_201) rfl (by unfold ax_can; decide) (pc' := 29) rfl ?_
  refine ax_aload_n dX9_init_29 rfl rfl (pc' := 30) rfl ?_
  refine ax_getr (v := 202) dX9_init_30 flX9_9 rfl (SN_sh 201 205 (by decide) h0_201) rfl (pc' := 33) rfl ?_
  refine ax_iconst dX9_init_33 (by decide) (pc' := 34) rfl ?_
  refine ax_ins_gen (kc1 := 0) (ks1 := 0) (kc := 32) (ks := 2560) [.inr 202, .inl 3] [] dX9_init_34 mlX9_24 rfl rfl (by decide) (c_fill E l _ 205 202 6 (SN_sh 202 205 (by decide) h0_202) _ (by decide)) (pc' := 37) rfl (fun vv SS MM hq _ _ _ => ?_)
  obtain ⟨rfl, rfl, rfl⟩ := hq
  refine ax_reT (st2 := []) rfl ?_
  refine ax_aload_n dX9_init_37 rfl rfl (pc' := 38) rfl ?_
  refine ax_getr (v := 203) dX9_init_38 flX9_15 rfl (SN_sh 201 205 (by decide) h0_201) rfl (pc' := 41) rfl ?_
  refine ax_iconst dX9_init_41 (by decide) (pc' := 42) rfl ?_
  refine ax_ins_gen (kc1 := 0) (ks1 := 0) (kc := 32) (ks := 2560) [.inr 203, .inl 2] [] dX9_init_42 mlX9_24 rfl rfl (by decide) (c_fill E l _ 205 203 6 (SN_sh 203 205 (by decide) h0_203) _ (by decide)) (pc' := 45) rfl (fun vv SS MM hq _ _ _ => ?_)
  obtain ⟨rfl, rfl, rfl⟩ := hq
  refine ax_reT (st2 := []) rfl ?_
  refine ax_iconst dX9_init_45 (by decide) (pc' := 46) rfl ?_
  refine ax_istore_n dX9_init_46 rfl (by decide) (ls' := [some (.inr 201), some (.inl 0)]) rfl (pc' := 47) rfl ?_
  refine ax_iload_n dX9_init_47 rfl rfl (pc' := 48) rfl ?_
  refine ax_bipush dX9_init_48 (by decide) (pc' := 50) rfl ?_
  refine ax_icmp_ge (tgt := 72) dX9_init_50 (by decide) (pc' := 53) rfl (fun h => absurd h (by decide)) (fun _ => ?_)
  refine ax_aload_n dX9_init_53 rfl rfl (pc' := 54) rfl ?_
  refine ax_getr (v := 204) dX9_init_54 flX9_20 rfl (SN_sh 201 205 (by decide) h0_201) rfl (pc' := 57) rfl ?_
  refine ax_iload_n dX9_init_57 rfl rfl (pc' := 58) rfl ?_
  refine ax_new (I := iX9_init) (kc := 31) (ks := 2552) (n := 205) dX9_init_58 nlX9_18 (SN_len 205 (Nat.le_of_ble_eq_true rfl)) (pc' := 61) rfl ?_
  refine ax_reC (S2 := SN 206) (SN_push h0_205) ?_
  refine ax_dup dX9_init_61 (pc' := 62) rfl ?_
  refine ax_ini (kc1 := 3) (ks1 := 312) (kc := 28) (ks := 2240) [] [.inr 205, .inl 0, .inr 204] dX9_init_62 mlX9_30 (by decide) rfl rfl (by decide) (c_X7_205 E l _ (by omega) _) (pc' := 65) rfl (fun vv SS MM hq _ _ _ => ?_)
  obtain ⟨rfl, rfl, rfl⟩ := hq
  refine ax_reT (st2 := [.inr 205, .inl 0, .inr 204]) rfl ?_
  refine ax_aast dX9_init_65 (SN_sh 204 209 (by decide) h0_204) (by decide) (SN_sh 205 209 (by decide) h0_205) rfl (by decide) (by decide) rfl (by unfold ax_can; decide) (pc' := 66) rfl ?_
  refine ax_iinc dX9_init_66 rfl (by decide) (by decide) (ls' := [some (.inr 201), some (.inl 1)]) rfl (pc' := 69) rfl ?_
  refine ax_goto dX9_init_69 (pc' := 47) (by decide) ?_
  refine ax_iload_n dX9_init_47 rfl rfl (pc' := 48) rfl ?_
  refine ax_bipush dX9_init_48 (by decide) (pc' := 50) rfl ?_
  refine ax_icmp_ge (tgt := 72) dX9_init_50 (by decide) (pc' := 53) rfl (fun h => absurd h (by decide)) (fun _ => ?_)
  refine ax_aload_n dX9_init_53 rfl rfl (pc' := 54) rfl ?_
  refine ax_getr (v := 204) dX9_init_54 flX9_20 rfl (SN_sh 201 209 (by decide) h0_201) rfl (pc' := 57) rfl ?_
  refine ax_iload_n dX9_init_57 rfl rfl (pc' := 58) rfl ?_
  refine ax_new (I := iX9_init) (kc := 27) (ks := 2232) (n := 209) dX9_init_58 nlX9_18 (SN_len 209 (Nat.le_of_ble_eq_true rfl)) (pc' := 61) rfl ?_
  refine ax_reC (S2 := SN 210) (SN_push h0_209) ?_
  refine ax_dup dX9_init_61 (pc' := 62) rfl ?_
  refine ax_ini (kc1 := 3) (ks1 := 312) (kc := 24) (ks := 1920) [] [.inr 209, .inl 1, .inr 204] dX9_init_62 mlX9_30 (by decide) rfl rfl (by decide) (c_X7_209 E l _ (by omega) _) (pc' := 65) rfl (fun vv SS MM hq _ _ _ => ?_)
  obtain ⟨rfl, rfl, rfl⟩ := hq
  refine ax_reT (st2 := [.inr 209, .inl 1, .inr 204]) rfl ?_
  refine ax_aast dX9_init_65 (SN_sh 204 213 (by decide) h0_204) (by decide) (SN_sh 209 213 (by decide) h0_209) rfl (by decide) (by decide) rfl (by unfold ax_can; decide) (pc' := 66) rfl ?_
  refine ax_iinc dX9_init_66 rfl (by decide) (by decide) (ls' := [some (.inr 201), some (.inl 2)]) rfl (pc' := 69) rfl ?_
  refine ax_goto dX9_init_69 (pc' := 47) (by decide) ?_
  refine ax_iload_n dX9_init_47 rfl rfl (pc' := 48) rfl ?_
  refine ax_bipush dX9_init_48 (by decide) (pc' := 50) rfl ?_
  refine ax_icmp_ge (tgt := 72) dX9_init_50 (by decide) (pc' := 53) rfl (fun h => absurd h (by decide)) (fun _ => ?_)
  refine ax_aload_n dX9_init_53 rfl rfl (pc' := 54) rfl ?_
  refine ax_getr (v := 204) dX9_init_54 flX9_20 rfl (SN_sh 201 213 (by decide) h0_201) rfl (pc' := 57) rfl ?_
  refine ax_iload_n dX9_init_57 rfl rfl (pc' := 58) rfl ?_
  refine ax_new (I := iX9_init) (kc := 23) (ks := 1912) (n := 213) dX9_init_58 nlX9_18 (SN_len 213 (Nat.le_of_ble_eq_true rfl)) (pc' := 61) rfl ?_
  refine ax_reC (S2 := SN 214) (SN_push h0_213) ?_
  refine ax_dup dX9_init_61 (pc' := 62) rfl ?_
  refine ax_ini (kc1 := 3) (ks1 := 312) (kc := 20) (ks := 1600) [] [.inr 213, .inl 2, .inr 204] dX9_init_62 mlX9_30 (by decide) rfl rfl (by decide) (c_X7_213 E l _ (by omega) _) (pc' := 65) rfl (fun vv SS MM hq _ _ _ => ?_)
  obtain ⟨rfl, rfl, rfl⟩ := hq
  refine ax_reT (st2 := [.inr 213, .inl 2, .inr 204]) rfl ?_
  refine ax_aast dX9_init_65 (SN_sh 204 217 (by decide) h0_204) (by decide) (SN_sh 213 217 (by decide) h0_213) rfl (by decide) (by decide) rfl (by unfold ax_can; decide) (pc' := 66) rfl ?_
  refine ax_iinc dX9_init_66 rfl (by decide) (by decide) (ls' := [some (.inr 201), some (.inl 3)]) rfl (pc' := 69) rfl ?_
  refine ax_goto dX9_init_69 (pc' := 47) (by decide) ?_
  refine ax_iload_n dX9_init_47 rfl rfl (pc' := 48) rfl ?_
  refine ax_bipush dX9_init_48 (by decide) (pc' := 50) rfl ?_
  refine ax_icmp_ge (tgt := 72) dX9_init_50 (by decide) (pc' := 53) rfl (fun h => absurd h (by decide)) (fun _ => ?_)
  refine ax_aload_n dX9_init_53 rfl rfl (pc' := 54) rfl ?_
  refine ax_getr (v := 204) dX9_init_54 flX9_20 rfl (SN_sh 201 217 (by decide) h0_201) rfl (pc' := 57) rfl ?_
  refine ax_iload_n dX9_init_57 rfl rfl (pc' := 58) rfl ?_
  refine ax_new (I := iX9_init) (kc := 19) (ks := 1592) (n := 217) dX9_init_58 nlX9_18 (SN_len 217 (Nat.le_of_ble_eq_true rfl)) (pc' := 61) rfl ?_
  refine ax_reC (S2 := SN 218) (SN_push h0_217) ?_
  refine ax_dup dX9_init_61 (pc' := 62) rfl ?_
  refine ax_ini (kc1 := 3) (ks1 := 312) (kc := 16) (ks := 1280) [] [.inr 217, .inl 3, .inr 204] dX9_init_62 mlX9_30 (by decide) rfl rfl (by decide) (c_X7_217 E l _ (by omega) _) (pc' := 65) rfl (fun vv SS MM hq _ _ _ => ?_)
  obtain ⟨rfl, rfl, rfl⟩ := hq
  refine ax_reT (st2 := [.inr 217, .inl 3, .inr 204]) rfl ?_
  refine ax_aast dX9_init_65 (SN_sh 204 221 (by decide) h0_204) (by decide) (SN_sh 217 221 (by decide) h0_217) rfl (by decide) (by decide) rfl (by unfold ax_can; decide) (pc' := 66) rfl ?_
  refine ax_iinc dX9_init_66 rfl (by decide) (by decide) (ls' := [some (.inr 201), some (.inl 4)]) rfl (pc' := 69) rfl ?_
  refine ax_goto dX9_init_69 (pc' := 47) (by decide) ?_
  refine ax_iload_n dX9_init_47 rfl rfl (pc' := 48) rfl ?_
  refine ax_bipush dX9_init_48 (by decide) (pc' := 50) rfl ?_
  refine ax_icmp_ge (tgt := 72) dX9_init_50 (by decide) (pc' := 53) rfl (fun h => absurd h (by decide)) (fun _ => ?_)
  refine ax_aload_n dX9_init_53 rfl rfl (pc' := 54) rfl ?_
  refine ax_getr (v := 204) dX9_init_54 flX9_20 rfl (SN_sh 201 221 (by decide) h0_201) rfl (pc' := 57) rfl ?_
  refine ax_iload_n dX9_init_57 rfl rfl (pc' := 58) rfl ?_
  refine ax_new (I := iX9_init) (kc := 15) (ks := 1272) (n := 221) dX9_init_58 nlX9_18 (SN_len 221 (Nat.le_of_ble_eq_true rfl)) (pc' := 61) rfl ?_
  refine ax_reC (S2 := SN 222) (SN_push h0_221) ?_
  refine ax_dup dX9_init_61 (pc' := 62) rfl ?_
  refine ax_ini (kc1 := 3) (ks1 := 312) (kc := 12) (ks := 960) [] [.inr 221, .inl 4, .inr 204] dX9_init_62 mlX9_30 (by decide) rfl rfl (by decide) (c_X7_221 E l _ (by omega) _) (pc' := 65) rfl (fun vv SS MM hq _ _ _ => ?_)
  obtain ⟨rfl, rfl, rfl⟩ := hq
  refine ax_reT (st2 := [.inr 221, .inl 4, .inr 204]) rfl ?_
  refine ax_aast dX9_init_65 (SN_sh 204 225 (by decide) h0_204) (by decide) (SN_sh 221 225 (by decide) h0_221) rfl (by decide) (by decide) rfl (by unfold ax_can; decide) (pc' := 66) rfl ?_
  refine ax_iinc dX9_init_66 rfl (by decide) (by decide) (ls' := [some (.inr 201), some (.inl 5)]) rfl (pc' := 69) rfl ?_
  refine ax_goto dX9_init_69 (pc' := 47) (by decide) ?_
  refine ax_iload_n dX9_init_47 rfl rfl (pc' := 48) rfl ?_
  refine ax_bipush dX9_init_48 (by decide) (pc' := 50) rfl ?_
  refine ax_icmp_ge (tgt := 72) dX9_init_50 (by decide) (pc' := 53) rfl (fun h => absurd h (by decide)) (fun _ => ?_)
  refine ax_aload_n dX9_init_53 rfl rfl (pc' := 54) rfl ?_
  refine ax_getr (v := 204) dX9_init_54 flX9_20 rfl (SN_sh 201 225 (by decide) h0_201) rfl (pc' := 57) rfl ?_
  refine ax_iload_n dX9_init_57 rfl rfl (pc' := 58) rfl ?_
  refine ax_new (I := iX9_init) (kc := 11) (ks := 952) (n := 225) dX9_init_58 nlX9_18 (SN_len 225 (Nat.le_of_ble_eq_true rfl)) (pc' := 61) rfl ?_
  refine ax_reC (S2 := SN 226) (SN_push h0_225) ?_
  refine ax_dup dX9_init_61 (pc' := 62) rfl ?_
  refine ax_ini (kc1 := 3) (ks1 := 312) (kc := 8) (ks := 640) [] [.inr 225, .inl 5, .inr 204] dX9_init_62 mlX9_30 (by decide) rfl rfl (by decide) (c_X7_225 E l _ (by omega) _) (pc' := 65) rfl (fun vv SS MM hq _ _ _ => ?_)
  obtain ⟨rfl, rfl, rfl⟩ := hq
  refine ax_reT (st2 := [.inr 225, .inl 5, .inr 204]) rfl ?_
  refine ax_aast dX9_init_65 (SN_sh 204 229 (by decide) h0_204) (by decide) (SN_sh 225 229 (by decide) h0_225) rfl (by decide) (by decide) rfl (by unfold ax_can; decide) (pc' := 66) rfl ?_
  refine ax_iinc dX9_init_66 rfl (by decide) (by decide) (ls' := [some (.inr 201), some (.inl 6)]) rfl (pc' := 69) rfl ?_
  refine ax_goto dX9_init_69 (pc' := 47) (by decide) ?_
  refine ax_iload_n dX9_init_47 rfl rfl (pc' := 48) rfl ?_
  refine ax_bipush dX9_init_48 (by decide) (pc' := 50) rfl ?_
  refine ax_icmp_ge (tgt := 72) dX9_init_50 (by decide) (pc' := 53) rfl (fun h => absurd h (by decide)) (fun _ => ?_)
  refine ax_aload_n dX9_init_53 rfl rfl (pc' := 54) rfl ?_
  refine ax_getr (v := 204) dX9_init_54 flX9_20 rfl (SN_sh 201 229 (by decide) h0_201) rfl (pc' := 57) rfl ?_
  refine ax_iload_n dX9_init_57 rfl rfl (pc' := 58) rfl ?_
  refine ax_new (I := iX9_init) (kc := 7) (ks := 632) (n := 229) dX9_init_58 nlX9_18 (SN_len 229 (Nat.le_of_ble_eq_true rfl)) (pc' := 61) rfl ?_
  refine ax_reC (S2 := SN 230) (SN_push h0_229) ?_
  refine ax_dup dX9_init_61 (pc' := 62) rfl ?_
  refine ax_ini (kc1 := 3) (ks1 := 312) (kc := 4) (ks := 320) [] [.inr 229, .inl 6, .inr 204] dX9_init_62 mlX9_30 (by decide) rfl rfl (by decide) (c_X7_229 E l _ (by omega) _) (pc' := 65) rfl (fun vv SS MM hq _ _ _ => ?_)
  obtain ⟨rfl, rfl, rfl⟩ := hq
  refine ax_reT (st2 := [.inr 229, .inl 6, .inr 204]) rfl ?_
  refine ax_aast dX9_init_65 (SN_sh 204 233 (by decide) h0_204) (by decide) (SN_sh 229 233 (by decide) h0_229) rfl (by decide) (by decide) rfl (by unfold ax_can; decide) (pc' := 66) rfl ?_
  refine ax_iinc dX9_init_66 rfl (by decide) (by decide) (ls' := [some (.inr 201), some (.inl 7)]) rfl (pc' := 69) rfl ?_
  refine ax_goto dX9_init_69 (pc' := 47) (by decide) ?_
  refine ax_iload_n dX9_init_47 rfl rfl (pc' := 48) rfl ?_
  refine ax_bipush dX9_init_48 (by decide) (pc' := 50) rfl ?_
  refine ax_icmp_ge (tgt := 72) dX9_init_50 (by decide) (pc' := 53) rfl (fun h => absurd h (by decide)) (fun _ => ?_)
  refine ax_aload_n dX9_init_53 rfl rfl (pc' := 54) rfl ?_
  refine ax_getr (v := 204) dX9_init_54 flX9_20 rfl (SN_sh 201 233 (by decide) h0_201) rfl (pc' := 57) rfl ?_
  refine ax_iload_n dX9_init_57 rfl rfl (pc' := 58) rfl ?_
  refine ax_new (I := iX9_init) (kc := 3) (ks := 312) (n := 233) dX9_init_58 nlX9_18 (SN_len 233 (Nat.le_of_ble_eq_true rfl)) (pc' := 61) rfl ?_
  refine ax_reC (S2 := SN 234) (SN_push h0_233) ?_
  refine ax_dup dX9_init_61 (pc' := 62) rfl ?_
  refine ax_ini (kc1 := 3) (ks1 := 312) (kc := 0) (ks := 0) [] [.inr 233, .inl 7, .inr 204] dX9_init_62 mlX9_30 (by decide) rfl rfl (by decide) (c_X7_233 E l _ (by omega) _) (pc' := 65) rfl (fun vv SS MM hq _ _ _ => ?_)
  obtain ⟨rfl, rfl, rfl⟩ := hq
  refine ax_reT (st2 := [.inr 233, .inl 7, .inr 204]) rfl ?_
  refine ax_aast dX9_init_65 (SN_sh 204 237 (by decide) h0_204) (by decide) (SN_sh 233 237 (by decide) h0_233) rfl (by decide) (by decide) rfl (by unfold ax_can; decide) (pc' := 66) rfl ?_
  refine ax_iinc dX9_init_66 rfl (by decide) (by decide) (ls' := [some (.inr 201), some (.inl 8)]) rfl (pc' := 69) rfl ?_
  refine ax_goto dX9_init_69 (pc' := 47) (by decide) ?_
  refine ax_iload_n dX9_init_47 rfl rfl (pc' := 48) rfl ?_
  refine ax_bipush dX9_init_48 (by decide) (pc' := 50) rfl ?_
  refine ax_icmp_ge (tgt := 72) dX9_init_50 (by decide) (pc' := 53) rfl (fun _ => ?_) (fun h => absurd h (by decide))
  exact ax_vret dX9_init_72 rfl ⟨rfl, rfl, rfl⟩
def f_mX7_241 (M : ax_Mem) : ax_Mem := ax_up (ax_row (ax_up (ax_row (ax_up (ax_row M 242 (fun _ => 0)) 241 5 242) 243 (fun _ => 0)) 241 6 243) 244 (fun _ => 0)) 241 7 244
set_option maxRecDepth 20000 in
theorem c_X7_241 (E : ax_Env) (l : Launch) (d : Nat) (hd : 1 ≤ d) (M : ax_Mem) : ax_M E l d 3 312 iX7_init [.inr 241] (SN 242) M (fun z0 S2 M2 => z0 = none ∧ S2 = SN 245 ∧ M2 = f_mX7_241 M) := by
  obtain ⟨d, rfl⟩ : ∃ d0, d = d0 + 1 := ⟨d - 1, by omega⟩
  refine ax_enter rfl (by decide) (ls := [some (.inr 241)]) rfl (fun _ hcm => ?_)
  refine ax_aload_n dX7_init_0 rfl rfl (pc' := 1) rfl ?_
  refine ax_oinit dX7_init_1 (by decide) mlX7_3 hx_oi hx_oc (by decide) (pc' := 4) rfl ?_
  refine ax_aload_n dX7_init_4 rfl rfl (pc' := 5) rfl ?_
  refine ax_bipush dX7_init_5 (by decide) (pc' := 7) rfl ?_
  refine ax_newa (kc := 2) (ks := 288) (N := 24) (n := 242) (v := 24) dX7_init_7 hx_arr rfl (by decide) (SN_len 242 (Nat.le_of_ble_eq_true rfl)) (pc' := 9) rfl ?_
  refine ax_reC (S2 := SN 243) (SN_push h0_242) ?_
  refine ax_putF dX7_init_9 flX7_9 rfl (fun C T N h => by cases h; rfl) rfl (SN_sh 241 243 (by decide) h0_241) rfl (by unfold ax_can; decide) (pc' := 12) rfl ?_
  refine ax_aload_n dX7_init_12 rfl rfl (pc' := 13) rfl ?_
  refine ax_sipush dX7_init_13 (by decide) (pc' := 16) rfl ?_
  refine ax_newa (kc := 1) (ks := 144) (N := 144) (n := 243) (v := 144) dX7_init_16 hx_arr rfl (by decide) (SN_len 243 (Nat.le_of_ble_eq_true rfl)) (pc' := 18) rfl ?_
  refine ax_reC (S2 := SN 244) (SN_push h0_243) ?_
  refine ax_putF dX7_init_18 flX7_15 rfl (fun C T N h => by cases h; rfl) rfl (SN_sh 241 244 (by decide) h0_241) rfl (by unfold ax_can; decide) (pc' := 21) rfl ?_
  refine ax_aload_n dX7_init_21 rfl rfl (pc' := 22) rfl ?_
  refine ax_sipush dX7_init_22 (by decide) (pc' := 25) rfl ?_
  refine ax_newa (kc := 0) (ks := 0) (N := 144) (n := 244) (v := 144) dX7_init_25 hx_arr rfl (by decide) (SN_len 244 (Nat.le_of_ble_eq_true rfl)) (pc' := 27) rfl ?_
  refine ax_reC (S2 := SN 245) (SN_push h0_244) ?_
  refine ax_putF dX7_init_27 flX7_18 rfl (fun C T N h => by cases h; rfl) rfl (SN_sh 241 245 (by decide) h0_241) rfl (by unfold ax_can; decide) (pc' := 30) rfl ?_
  exact ax_vret dX7_init_30 rfl ⟨rfl, rfl, rfl⟩
def f_mX7_245 (M : ax_Mem) : ax_Mem := ax_up (ax_row (ax_up (ax_row (ax_up (ax_row M 246 (fun _ => 0)) 245 5 246) 247 (fun _ => 0)) 245 6 247) 248 (fun _ => 0)) 245 7 248
set_option maxRecDepth 20000 in
theorem c_X7_245 (E : ax_Env) (l : Launch) (d : Nat) (hd : 1 ≤ d) (M : ax_Mem) : ax_M E l d 3 312 iX7_init [.inr 245] (SN 246) M (fun z0 S2 M2 => z0 = none ∧ S2 = SN 249 ∧ M2 = f_mX7_245 M) := by
  obtain ⟨d, rfl⟩ : ∃ d0, d = d0 + 1 := ⟨d - 1, by omega⟩
  refine ax_enter rfl (by decide) (ls := [some (.inr 245)]) rfl (fun _ hcm => ?_)
  refine ax_aload_n dX7_init_0 rfl rfl (pc' := 1) rfl ?_
  refine ax_oinit dX7_init_1 (by decide) mlX7_3 hx_oi hx_oc (by decide) (pc' := 4) rfl ?_
  refine ax_aload_n dX7_init_4 rfl rfl (pc' := 5) rfl ?_
  refine ax_bipush dX7_init_5 (by decide) (pc' := 7) rfl ?_
  refine ax_newa (kc := 2) (ks := 288) (N := 24) (n := 246) (v := 24) dX7_init_7 hx_arr rfl (by decide) (SN_len 246 (Nat.le_of_ble_eq_true rfl)) (pc' := 9) rfl ?_
  refine ax_reC (S2 := SN 247) (SN_push h0_246) ?_
  refine ax_putF dX7_init_9 flX7_9 rfl (fun C T N h => by cases h; rfl) rfl (SN_sh 245 247 (by decide) h0_245) rfl (by unfold ax_can; decide) (pc' := 12) rfl ?_
  refine ax_aload_n dX7_init_12 rfl rfl (pc' := 13) rfl ?_
  refine ax_sipush dX7_init_13 (by decide) (pc' := 16) rfl ?_
  refine ax_newa (kc := 1) (ks := 144) (N := 144) (n := 247) (v := 144) dX7_init_16 hx_arr rfl (by decide) (SN_len 247 (Nat.le_of_ble_eq_true rfl)) (pc' := 18) rfl ?_
  refine ax_reC (S2 := SN 248) (SN_push h0_247) ?_
  refine ax_putF dX7_init_18 flX7_15 rfl (fun C T N h => by cases h; rfl) rfl (SN_sh 245 248 (by decide) h0_245) rfl (by unfold ax_can; decide) (pc' := 21) rfl ?_
  refine ax_aload_n dX7_init_21 rfl rfl (pc' := 22) rfl ?_
  refine ax_sipush dX7_init_22 (by decide) (pc' := 25) rfl ?_
  refine ax_newa (kc := 0) (ks := 0) (N := 144) (n := 248) (v := 144) dX7_init_25 hx_arr rfl (by decide) (SN_len 248 (Nat.le_of_ble_eq_true rfl)) (pc' := 27) rfl ?_
  refine ax_reC (S2 := SN 249) (SN_push h0_248) ?_
  refine ax_putF dX7_init_27 flX7_18 rfl (fun C T N h => by cases h; rfl) rfl (SN_sh 245 249 (by decide) h0_245) rfl (by unfold ax_can; decide) (pc' := 30) rfl ?_
  exact ax_vret dX7_init_30 rfl ⟨rfl, rfl, rfl⟩
def f_mX7_249 (M : ax_Mem) : ax_Mem := ax_up (ax_row (ax_up (ax_row (ax_up (ax_row M 250 (fun _ => 0)) 249 5 250) 251 (fun _ => 0)) 249 6 251) 252 (fun _ => 0)) 249 7 252
set_option maxRecDepth 20000 in
theorem c_X7_249 (E : ax_Env) (l : Launch) (d : Nat) (hd : 1 ≤ d) (M : ax_Mem) : ax_M E l d 3 312 iX7_init [.inr 249] (SN 250) M (fun z0 S2 M2 => z0 = none ∧ S2 = SN 253 ∧ M2 = f_mX7_249 M) := by
  obtain ⟨d, rfl⟩ : ∃ d0, d = d0 + 1 := ⟨d - 1, by omega⟩
  refine ax_enter rfl (by decide) (ls := [some (.inr 249)]) rfl (fun _ hcm => ?_)
  refine ax_aload_n dX7_init_0 rfl rfl (pc' := 1) rfl ?_
  refine ax_oinit dX7_init_1 (by decide) mlX7_3 hx_oi hx_oc (by decide) (pc' := 4) rfl ?_
  refine ax_aload_n dX7_init_4 rfl rfl (pc' := 5) rfl ?_
  refine ax_bipush dX7_init_5 (by decide) (pc' := 7) rfl ?_
  refine ax_newa (kc := 2) (ks := 288) (N := 24) (n := 250) (v := 24) dX7_init_7 hx_arr rfl (by decide) (SN_len 250 (Nat.le_of_ble_eq_true rfl)) (pc' := 9) rfl ?_
  refine ax_reC (S2 := SN 251) (SN_push h0_250) ?_
  refine ax_putF dX7_init_9 flX7_9 rfl (fun C T N h => by cases h; rfl) rfl (SN_sh 249 251 (by decide) h0_249) rfl (by unfold ax_can; decide) (pc' := 12) rfl ?_
  refine ax_aload_n dX7_init_12 rfl rfl (pc' := 13) rfl ?_
  refine ax_sipush dX7_init_13 (by decide) (pc' := 16) rfl ?_
  refine ax_newa (kc := 1) (ks := 144) (N := 144) (n := 251) (v := 144) dX7_init_16 hx_arr rfl (by decide) (SN_len 251 (Nat.le_of_ble_eq_true rfl)) (pc' := 18) rfl ?_
  refine ax_reC (S2 := SN 252) (SN_push h0_251) ?_
  refine ax_putF dX7_init_18 flX7_15 rfl (fun C T N h => by cases h; rfl) rfl (SN_sh 249 252 (by decide) h0_249) rfl (by unfold ax_can; decide) (pc' := 21) rfl ?_
  refine ax_aload_n dX7_init_21 rfl rfl (pc' := 22) rfl ?_
  refine ax_sipush dX7_init_22 (by decide) (pc' := 25) rfl ?_
  refine ax_newa (kc := 0) (ks := 0) (N := 144) (n := 252) (v := 144) dX7_init_25 hx_arr rfl (by decide) (SN_len 252 (Nat.le_of_ble_eq_true rfl)) (pc' := 27) rfl ?_
  refine ax_reC (S2 := SN 253) (SN_push h0_252) ?_
  refine ax_putF dX7_init_27 flX7_18 rfl (fun C T N h => by cases h; rfl) rfl (SN_sh 249 253 (by decide) h0_249) rfl (by unfold ax_can; decide) (pc' := 30) rfl ?_
  exact ax_vret dX7_init_30 rfl ⟨rfl, rfl, rfl⟩
def f_mX7_253 (M : ax_Mem) : ax_Mem := ax_up (ax_row (ax_up (ax_row (ax_up (ax_row M 254 (fun _ => 0)) 253 5 254) 255 (fun _ => 0)) 253 6 255) 256 (fun _ => 0)) 253 7 256
set_option maxRecDepth 20000 in
theorem c_X7_253 (E : ax_Env) (l : Launch) (d : Nat) (hd : 1 ≤ d) (M : ax_Mem) : ax_M E l d 3 312 iX7_init [.inr 253] (SN 254) M (fun z0 S2 M2 => z0 = none ∧ S2 = SN 257 ∧ M2 = f_mX7_253 M) := by
  obtain ⟨d, rfl⟩ : ∃ d0, d = d0 + 1 := ⟨d - 1, by omega⟩
  refine ax_enter rfl (by decide) (ls := [some (.inr 253)]) rfl (fun _ hcm => ?_)
  refine ax_aload_n dX7_init_0 rfl rfl (pc' := 1) rfl ?_
  refine ax_oinit dX7_init_1 (by decide) mlX7_3 hx_oi hx_oc (by decide) (pc' := 4) rfl ?_
  refine ax_aload_n dX7_init_4 rfl rfl (pc' := 5) rfl ?_
  refine ax_bipush dX7_init_5 (by decide) (pc' := 7) rfl ?_
  refine ax_newa (kc := 2) (ks := 288) (N := 24) (n := 254) (v := 24) dX7_init_7 hx_arr rfl (by decide) (SN_len 254 (Nat.le_of_ble_eq_true rfl)) (pc' := 9) rfl ?_
  refine ax_reC (S2 := SN 255) (SN_push h0_254) ?_
  refine ax_putF dX7_init_9 flX7_9 rfl (fun C T N h => by cases h; rfl) rfl (SN_sh 253 255 (by decide) h0_253) rfl (by unfold ax_can; decide) (pc' := 12) rfl ?_
  refine ax_aload_n dX7_init_12 rfl rfl (pc' := 13) rfl ?_
  refine ax_sipush dX7_init_13 (by decide) (pc' := 16) rfl ?_
  refine ax_newa (kc := 1) (ks := 144) (N := 144) (n := 255) (v := 144) dX7_init_16 hx_arr rfl (by decide) (SN_len 255 (Nat.le_of_ble_eq_true rfl)) (pc' := 18) rfl ?_
  refine ax_reC (S2 := SN 256) (SN_push h0_255) ?_
  refine ax_putF dX7_init_18 flX7_15 rfl (fun C T N h => by cases h; rfl) rfl (SN_sh 253 256 (by decide) h0_253) rfl (by unfold ax_can; decide) (pc' := 21) rfl ?_
  refine ax_aload_n dX7_init_21 rfl rfl (pc' := 22) rfl ?_
  refine ax_sipush dX7_init_22 (by decide) (pc' := 25) rfl ?_
  refine ax_newa (kc := 0) (ks := 0) (N := 144) (n := 256) (v := 144) dX7_init_25 hx_arr rfl (by decide) (SN_len 256 (Nat.le_of_ble_eq_true rfl)) (pc' := 27) rfl ?_
  refine ax_reC (S2 := SN 257) (SN_push h0_256) ?_
  refine ax_putF dX7_init_27 flX7_18 rfl (fun C T N h => by cases h; rfl) rfl (SN_sh 253 257 (by decide) h0_253) rfl (by unfold ax_can; decide) (pc' := 30) rfl ?_
  exact ax_vret dX7_init_30 rfl ⟨rfl, rfl, rfl⟩
def f_mX7_257 (M : ax_Mem) : ax_Mem := ax_up (ax_row (ax_up (ax_row (ax_up (ax_row M 258 (fun _ => 0)) 257 5 258) 259 (fun _ => 0)) 257 6 259) 260 (fun _ => 0)) 257 7 260
set_option maxRecDepth 20000 in
theorem c_X7_257 (E : ax_Env) (l : Launch) (d : Nat) (hd : 1 ≤ d) (M : ax_Mem) : ax_M E l d 3 312 iX7_init [.inr 257] (SN 258) M (fun z0 S2 M2 => z0 = none ∧ S2 = SN 261 ∧ M2 = f_mX7_257 M) := by
  obtain ⟨d, rfl⟩ : ∃ d0, d = d0 + 1 := ⟨d - 1, by omega⟩
  refine ax_enter rfl (by decide) (ls := [some (.inr 257)]) rfl (fun _ hcm => ?_)
  refine ax_aload_n dX7_init_0 rfl rfl (pc' := 1) rfl ?_
  refine ax_oinit dX7_init_1 (by decide) mlX7_3 hx_oi hx_oc (by decide) (pc' := 4) rfl ?_
  refine ax_aload_n dX7_init_4 rfl rfl (pc' := 5) rfl ?_
  refine ax_bipush dX7_init_5 (by decide) (pc' := 7) rfl ?_
  refine ax_newa (kc := 2) (ks := 288) (N := 24) (n := 258) (v := 24) dX7_init_7 hx_arr rfl (by decide) (SN_len 258 (Nat.le_of_ble_eq_true rfl)) (pc' := 9) rfl ?_
  refine ax_reC (S2 := SN 259) (SN_push h0_258) ?_
  refine ax_putF dX7_init_9 flX7_9 rfl (fun C T N h => by cases h; rfl) rfl (SN_sh 257 259 (by decide) h0_257) rfl (by unfold ax_can; decide) (pc' := 12) rfl ?_
  refine ax_aload_n dX7_init_12 rfl rfl (pc' := 13) rfl ?_
  refine ax_sipush dX7_init_13 (by decide) (pc' := 16) rfl ?_
  refine ax_newa (kc := 1) (ks := 144) (N := 144) (n := 259) (v := 144) dX7_init_16 hx_arr rfl (by decide) (SN_len 259 (Nat.le_of_ble_eq_true rfl)) (pc' := 18) rfl ?_
  refine ax_reC (S2 := SN 260) (SN_push h0_259) ?_
  refine ax_putF dX7_init_18 flX7_15 rfl (fun C T N h => by cases h; rfl) rfl (SN_sh 257 260 (by decide) h0_257) rfl (by unfold ax_can; decide) (pc' := 21) rfl ?_
  refine ax_aload_n dX7_init_21 rfl rfl (pc' := 22) rfl ?_
  refine ax_sipush dX7_init_22 (by decide) (pc' := 25) rfl ?_
  refine ax_newa (kc := 0) (ks := 0) (N := 144) (n := 260) (v := 144) dX7_init_25 hx_arr rfl (by decide) (SN_len 260 (Nat.le_of_ble_eq_true rfl)) (pc' := 27) rfl ?_
  refine ax_reC (S2 := SN 261) (SN_push h0_260) ?_
  refine ax_putF dX7_init_27 flX7_18 rfl (fun C T N h => by cases h; rfl) rfl (SN_sh 257 261 (by decide) h0_257) rfl (by unfold ax_can; decide) (pc' := 30) rfl ?_
  exact ax_vret dX7_init_30 rfl ⟨rfl, rfl, rfl⟩
def f_mX7_261 (M : ax_Mem) : ax_Mem := ax_up (ax_row (ax_up (ax_row (ax_up (ax_row M 262 (fun _ => 0)) 261 5 262) 263 (fun _ => 0)) 261 6 263) 264 (fun _ => 0)) 261 7 264
set_option maxRecDepth 20000 in
theorem c_X7_261 (E : ax_Env) (l : Launch) (d : Nat) (hd : 1 ≤ d) (M : ax_Mem) : ax_M E l d 3 312 iX7_init [.inr 261] (SN 262) M (fun z0 S2 M2 => z0 = none ∧ S2 = SN 265 ∧ M2 = f_mX7_261 M) := by
  obtain ⟨d, rfl⟩ : ∃ d0, d = d0 + 1 := ⟨d - 1, by omega⟩
  refine ax_enter rfl (by decide) (ls := [some (.inr 261)]) rfl (fun _ hcm => ?_)
  refine ax_aload_n dX7_init_0 rfl rfl (pc' := 1) rfl ?_
  refine ax_oinit dX7_init_1 (by decide) mlX7_3 hx_oi hx_oc (by decide) (pc' := 4) rfl ?_
  refine ax_aload_n dX7_init_4 rfl rfl (pc' := 5) rfl ?_
  refine ax_bipush dX7_init_5 (by decide) (pc' := 7) rfl ?_
  refine ax_newa (kc := 2) (ks := 288) (N := 24) (n := 262) (v := 24) dX7_init_7 hx_arr rfl (by decide) (SN_len 262 (Nat.le_of_ble_eq_true rfl)) (pc' := 9) rfl ?_
  refine ax_reC (S2 := SN 263) (SN_push h0_262) ?_
  refine ax_putF dX7_init_9 flX7_9 rfl (fun C T N h => by cases h; rfl) rfl (SN_sh 261 263 (by decide) h0_261) rfl (by unfold ax_can; decide) (pc' := 12) rfl ?_
  refine ax_aload_n dX7_init_12 rfl rfl (pc' := 13) rfl ?_
  refine ax_sipush dX7_init_13 (by decide) (pc' := 16) rfl ?_
  refine ax_newa (kc := 1) (ks := 144) (N := 144) (n := 263) (v := 144) dX7_init_16 hx_arr rfl (by decide) (SN_len 263 (Nat.le_of_ble_eq_true rfl)) (pc' := 18) rfl ?_
  refine ax_reC (S2 := SN 264) (SN_push h0_263) ?_
  refine ax_putF dX7_init_18 flX7_15 rfl (fun C T N h => by cases h; rfl) rfl (SN_sh 261 264 (by decide) h0_261) rfl (by unfold ax_can; decide) (pc' := 21) rfl ?_
  refine ax_aload_n dX7_init_21 rfl rfl (pc' := 22) rfl ?_
  refine ax_sipush dX7_init_22 (by decide) (pc' := 25) rfl ?_
  refine ax_newa (kc := 0) (ks := 0) (N := 144) (n := 264) (v := 144) dX7_init_25 hx_arr rfl (by decide) (SN_len 264 (Nat.le_of_ble_eq_true rfl)) (pc' := 27) rfl ?_
  refine ax_reC (S2 := SN 265) (SN_push h0_264) ?_
  refine ax_putF dX7_init_27 flX7_18 rfl (fun C T N h => by cases h; rfl) rfl (SN_sh 261 265 (by decide) h0_261) rfl (by unfold ax_can; decide) (pc' := 30) rfl ?_
  exact ax_vret dX7_init_30 rfl ⟨rfl, rfl, rfl⟩
def f_mX7_265 (M : ax_Mem) : ax_Mem := ax_up (ax_row (ax_up (ax_row (ax_up (ax_row M 266 (fun _ => 0)) 265 5 266) 267 (fun _ => 0)) 265 6 267) 268 (fun _ => 0)) 265 7 268
set_option maxRecDepth 20000 in
theorem c_X7_265 (E : ax_Env) (l : Launch) (d : Nat) (hd : 1 ≤ d) (M : ax_Mem) : ax_M E l d 3 312 iX7_init [.inr 265] (SN 266) M (fun z0 S2 M2 => z0 = none ∧ S2 = SN 269 ∧ M2 = f_mX7_265 M) := by
  obtain ⟨d, rfl⟩ : ∃ d0, d = d0 + 1 := ⟨d - 1, by omega⟩
  refine ax_enter rfl (by decide) (ls := [some (.inr 265)]) rfl (fun _ hcm => ?_)
  refine ax_aload_n dX7_init_0 rfl rfl (pc' := 1) rfl ?_
  refine ax_oinit dX7_init_1 (by decide) mlX7_3 hx_oi hx_oc (by decide) (pc' := 4) rfl ?_
  refine ax_aload_n dX7_init_4 rfl rfl (pc' := 5) rfl ?_
  refine ax_bipush dX7_init_5 (by decide) (pc' := 7) rfl ?_
  refine ax_newa (kc := 2) (ks := 288) (N := 24) (n := 266) (v := 24) dX7_init_7 hx_arr rfl (by decide) (SN_len 266 (Nat.le_of_ble_eq_true rfl)) (pc' := 9) rfl ?_
  refine ax_reC (S2 := SN 267) (SN_push h0_266) ?_
  refine ax_putF dX7_init_9 flX7_9 rfl (fun C T N h => by cases h; rfl) rfl (SN_sh 265 267 (by decide) h0_265) rfl (by unfold ax_can; decide) (pc' := 12) rfl ?_
  refine ax_aload_n dX7_init_12 rfl rfl (pc' := 13) rfl ?_
  refine ax_sipush dX7_init_13 (by decide) (pc' := 16) rfl ?_
  refine ax_newa (kc := 1) (ks := 144) (N := 144) (n := 267) (v := 144) dX7_init_16 hx_arr rfl (by decide) (SN_len 267 (Nat.le_of_ble_eq_true rfl)) (pc' := 18) rfl ?_
  refine ax_reC (S2 := SN 268) (SN_push h0_267) ?_
  refine ax_putF dX7_init_18 flX7_15 rfl (fun C T N h => by cases h; rfl) rfl (SN_sh 265 268 (by decide) h0_265) rfl (by unfold ax_can; decide) (pc' := 21) rfl ?_
  refine ax_aload_n dX7_init_21 rfl rfl (pc' := 22) rfl ?_
  refine ax_sipush dX7_init_22 (by decide) (pc' := 25) rfl ?_
  refine ax_newa (kc := 0) (ks := 0) (N := 144) (n := 268) (v := 144) dX7_init_25 hx_arr rfl (by decide) (SN_len 268 (Nat.le_of_ble_eq_true rfl)) (pc' := 27) rfl ?_
  refine ax_reC (S2 := SN 269) (SN_push h0_268) ?_
  refine ax_putF dX7_init_27 flX7_18 rfl (fun C T N h => by cases h; rfl) rfl (SN_sh 265 269 (by decide) h0_265) rfl (by unfold ax_can; decide) (pc' := 30) rfl ?_
  exact ax_vret dX7_init_30 rfl ⟨rfl, rfl, rfl⟩
def f_mX7_269 (M : ax_Mem) : ax_Mem := ax_up (ax_row (ax_up (ax_row (ax_up (ax_row M 270 (fun _ => 0)) 269 5 270) 271 (fun _ => 0)) 269 6 271) 272 (fun _ => 0)) 269 7 272
set_option maxRecDepth 20000 in
theorem c_X7_269 (E : ax_Env) (l : Launch) (d : Nat) (hd : 1 ≤ d) (M : ax_Mem) : ax_M E l d 3 312 iX7_init [.inr 269] (SN 270) M (fun z0 S2 M2 => z0 = none ∧ S2 = SN 273 ∧ M2 = f_mX7_269 M) := by
  obtain ⟨d, rfl⟩ : ∃ d0, d = d0 + 1 := ⟨d - 1, by omega⟩
  refine ax_enter rfl (by decide) (ls := [some (.inr 269)]) rfl (fun _ hcm => ?_)
  refine ax_aload_n dX7_init_0 rfl rfl (pc' := 1) rfl ?_
  refine ax_oinit dX7_init_1 (by decide) mlX7_3 hx_oi hx_oc (by decide) (pc' := 4) rfl ?_
  refine ax_aload_n dX7_init_4 rfl rfl (pc' := 5) rfl ?_
  refine ax_bipush dX7_init_5 (by decide) (pc' := 7) rfl ?_
  refine ax_newa (kc := 2) (ks := 288) (N := 24) (n := 270) (v := 24) dX7_init_7 hx_arr rfl (by decide) (SN_len 270 (Nat.le_of_ble_eq_true rfl)) (pc' := 9) rfl ?_
  refine ax_reC (S2 := SN 271) (SN_push h0_270) ?_
  refine ax_putF dX7_init_9 flX7_9 rfl (fun C T N h => by cases h; rfl) rfl (SN_sh 269 271 (by decide) h0_269) rfl (by unfold ax_can; decide) (pc' := 12) rfl ?_
  refine ax_aload_n dX7_init_12 rfl rfl (pc' := 13) rfl ?_
  refine ax_sipush dX7_init_13 (by decide) (pc' := 16) rfl ?_
  refine ax_newa (kc := 1) (ks := 144) (N := 144) (n := 271) (v := 144) dX7_init_16 hx_arr rfl (by decide) (SN_len 271 (Nat.le_of_ble_eq_true rfl)) (pc' := 18) rfl ?_
  refine ax_reC (S2 := SN 272) (SN_push h0_271) ?_
  refine ax_putF dX7_init_18 flX7_15 rfl (fun C T N h => by cases h; rfl) rfl (SN_sh 269 272 (by decide) h0_269) rfl (by unfold ax_can; decide) (pc' := 21) rfl ?_
  refine ax_aload_n dX7_init_21 rfl rfl (pc' := 22) rfl ?_
  refine ax_sipush dX7_init_22 (by decide) (pc' := 25) rfl ?_
  refine ax_newa (kc := 0) (ks := 0) (N := 144) (n := 272) (v := 144) dX7_init_25 hx_arr rfl (by decide) (SN_len 272 (Nat.le_of_ble_eq_true rfl)) (pc' := 27) rfl ?_
  refine ax_reC (S2 := SN 273) (SN_push h0_272) ?_
  refine ax_putF dX7_init_27 flX7_18 rfl (fun C T N h => by cases h; rfl) rfl (SN_sh 269 273 (by decide) h0_269) rfl (by unfold ax_can; decide) (pc' := 30) rfl ?_
  exact ax_vret dX7_init_30 rfl ⟨rfl, rfl, rfl⟩
def f_mX9_237 (M : ax_Mem) : ax_Mem := ax_up (f_mX7_269 (ax_row (ax_up (f_mX7_265 (ax_row (ax_up (f_mX7_261 (ax_row (ax_up (f_mX7_257 (ax_row (ax_up (f_mX7_253 (ax_row (ax_up (f_mX7_249 (ax_row (ax_up (f_mX7_245 (ax_row (ax_up (f_mX7_241 (ax_row (f_mfl 239 6 2 (f_mfl 238 6 3 (ax_up (ax_row (ax_up (ax_row (ax_up (ax_row M 238 (fun _ => 0)) 237 4 238) 239 (fun _ => 0)) 237 5 239) 240 (fun _ => -1)) 237 6 240))) 241 (ax_zero 7))) 240 0 241) 245 (ax_zero 7))) 240 1 245) 249 (ax_zero 7))) 240 2 249) 253 (ax_zero 7))) 240 3 253) 257 (ax_zero 7))) 240 4 257) 261 (ax_zero 7))) 240 5 261) 265 (ax_zero 7))) 240 6 265) 269 (ax_zero 7))) 240 7 269
set_option maxRecDepth 20000 in
theorem c_X9_237 (E : ax_Env) (l : Launch) (d : Nat) (hd : 2 ≤ d) (M : ax_Mem) : ax_M E l d 35 2580 iX9_init [.inr 237] (SN 238) M (fun z0 S2 M2 => z0 = none ∧ S2 = SN 273 ∧ M2 = f_mX9_237 M) := by
  obtain ⟨d, rfl⟩ : ∃ d0, d = d0 + 1 := ⟨d - 1, by omega⟩
  refine ax_enter rfl (by decide) (ls := [some (.inr 237), none]) rfl (fun _ hcm => ?_)
  refine ax_aload_n dX9_init_0 rfl rfl (pc' := 1) rfl ?_
  refine ax_oinit dX9_init_1 (by decide) mlX9_3 hx_oi hx_oc (by decide) (pc' := 4) rfl ?_
  refine ax_aload_n dX9_init_4 rfl rfl (pc' := 5) rfl ?_
  refine ax_bipush dX9_init_5 (by decide) (pc' := 7) rfl ?_
  refine ax_newa (kc := 34) (ks := 2574) (N := 6) (n := 238) (v := 6) dX9_init_7 hx_arr rfl (by decide) (SN_len 238 (Nat.le_of_ble_eq_true rfl)) (pc' := 9) rfl ?_
  refine ax_reC (S2 := SN 239) (SN_push h0_238) ?_
  refine ax_putF dX9_init_9 flX9_9 rfl (fun C T N h => by cases h; rfl) rfl (SN_sh 237 239 (by decide) h0_237) rfl (by unfold ax_can; decide) (pc' := 12) rfl ?_
  refine ax_aload_n dX9_init_12 rfl rfl (pc' := 13) rfl ?_
  refine ax_bipush dX9_init_13 (by decide) (pc' := 15) rfl ?_
  refine ax_newa (kc := 33) (ks := 2568) (N := 6) (n := 239) (v := 6) dX9_init_15 hx_arr rfl (by decide) (SN_len 239 (Nat.le_of_ble_eq_true rfl)) (pc' := 17) rfl ?_
  refine ax_reC (S2 := SN 240) (SN_push h0_239) ?_
  refine ax_putF dX9_init_17 flX9_15 rfl (fun C T N h => by cases h; rfl) rfl (SN_sh 237 240 (by decide) h0_237) rfl (by unfold ax_can; decide) (pc' := 20) rfl ?_
  refine ax_aload_n dX9_init_20 rfl rfl (pc' := 21) rfl ?_
  refine ax_bipush dX9_init_21 (by decide) (pc' := 23) rfl ?_
  refine ax_newq (ci := 14) (kc := 32) (ks := 2560) (N := 8) (n := 240) (v := 8) dX9_init_23 (by decide) alX9_18 rfl (by decide) (SN_len 240 (Nat.le_of_ble_eq_true rfl)) (pc' := 26) rfl ?_
  refine ax_reC (S2 := SN 241) (SN_push h0_240) ?_
  refine ax_putF dX9_init_26 flX9_20 rfl (fun C T N h => by cases h; rfl) rfl (SN_sh 237 241 (by decide) h0_237) rfl (by unfold ax_can; decide) (pc' := 29) rfl ?_
  refine ax_aload_n dX9_init_29 rfl rfl (pc' := 30) rfl ?_
  refine ax_getr (v := 238) dX9_init_30 flX9_9 rfl (SN_sh 237 241 (by decide) h0_237) rfl (pc' := 33) rfl ?_
  refine ax_iconst dX9_init_33 (by decide) (pc' := 34) rfl ?_
  refine ax_ins_gen (kc1 := 0) (ks1 := 0) (kc := 32) (ks := 2560) [.inr 238, .inl 3] [] dX9_init_34 mlX9_24 rfl rfl (by decide) (c_fill E l _ 241 238 6 (SN_sh 238 241 (by decide) h0_238) _ (by decide)) (pc' := 37) rfl (fun vv SS MM hq _ _ _ => ?_)
  obtain ⟨rfl, rfl, rfl⟩ := hq
  refine ax_reT (st2 := []) rfl ?_
  refine ax_aload_n dX9_init_37 rfl rfl (pc' := 38) rfl ?_
  refine ax_getr (v := 239) dX9_init_38 flX9_15 rfl (SN_sh 237 241 (by decide) h0_237) rfl (pc' := 41) rfl ?_
  refine ax_iconst dX9_init_41 (by decide) (pc' := 42) rfl ?_
  refine ax_ins_gen (kc1 := 0) (ks1 := 0) (kc := 32) (ks := 2560) [.inr 239, .inl 2] [] dX9_init_42 mlX9_24 rfl rfl (by decide) (c_fill E l _ 241 239 6 (SN_sh 239 241 (by decide) h0_239) _ (by decide)) (pc' := 45) rfl (fun vv SS MM hq _ _ _ => ?_)
  obtain ⟨rfl, rfl, rfl⟩ := hq
  refine ax_reT (st2 := []) rfl ?_
  refine ax_iconst dX9_init_45 (by decide) (pc' := 46) rfl ?_
  refine ax_istore_n dX9_init_46 rfl (by decide) (ls' := [some (.inr 237), some (.inl 0)]) rfl (pc' := 47) rfl ?_
  refine ax_iload_n dX9_init_47 rfl rfl (pc' := 48) rfl ?_
  refine ax_bipush dX9_init_48 (by decide) (pc' := 50) rfl ?_
  refine ax_icmp_ge (tgt := 72) dX9_init_50 (by decide) (pc' := 53) rfl (fun h => absurd h (by decide)) (fun _ => ?_)
  refine ax_aload_n dX9_init_53 rfl rfl (pc' := 54) rfl ?_
  refine ax_getr (v := 240) dX9_init_54 flX9_20 rfl (SN_sh 237 241 (by decide) h0_237) rfl (pc' := 57) rfl ?_
  refine ax_iload_n dX9_init_57 rfl rfl (pc' := 58) rfl ?_
  refine ax_new (I := iX9_init) (kc := 31) (ks := 2552) (n := 241) dX9_init_58 nlX9_18 (SN_len 241 (Nat.le_of_ble_eq_true rfl)) (pc' := 61) rfl ?_
  refine ax_reC (S2 := SN 242) (SN_push h0_241) ?_
  refine ax_dup dX9_init_61 (pc' := 62) rfl ?_
  refine ax_ini (kc1 := 3) (ks1 := 312) (kc := 28) (ks := 2240) [] [.inr 241, .inl 0, .inr 240] dX9_init_62 mlX9_30 (by decide) rfl rfl (by decide) (c_X7_241 E l _ (by omega) _) (pc' := 65) rfl (fun vv SS MM hq _ _ _ => ?_)
  obtain ⟨rfl, rfl, rfl⟩ := hq
  refine ax_reT (st2 := [.inr 241, .inl 0, .inr 240]) rfl ?_
  refine ax_aast dX9_init_65 (SN_sh 240 245 (by decide) h0_240) (by decide) (SN_sh 241 245 (by decide) h0_241) rfl (by decide) (by decide) rfl (by unfold ax_can; decide) (pc' := 66) rfl ?_
  refine ax_iinc dX9_init_66 rfl (by decide) (by decide) (ls' := [some (.inr 237), some (.inl 1)]) rfl (pc' := 69) rfl ?_
  refine ax_goto dX9_init_69 (pc' := 47) (by decide) ?_
  refine ax_iload_n dX9_init_47 rfl rfl (pc' := 48) rfl ?_
  refine ax_bipush dX9_init_48 (by decide) (pc' := 50) rfl ?_
  refine ax_icmp_ge (tgt := 72) dX9_init_50 (by decide) (pc' := 53) rfl (fun h => absurd h (by decide)) (fun _ => ?_)
  refine ax_aload_n dX9_init_53 rfl rfl (pc' := 54) rfl ?_
  refine ax_getr (v := 240) dX9_init_54 flX9_20 rfl (SN_sh 237 245 (by decide) h0_237) rfl (pc' := 57) rfl ?_
  refine ax_iload_n dX9_init_57 rfl rfl (pc' := 58) rfl ?_
  refine ax_new (I := iX9_init) (kc := 27) (ks := 2232) (n := 245) dX9_init_58 nlX9_18 (SN_len 245 (Nat.le_of_ble_eq_true rfl)) (pc' := 61) rfl ?_
  refine ax_reC (S2 := SN 246) (SN_push h0_245) ?_
  refine ax_dup dX9_init_61 (pc' := 62) rfl ?_
  refine ax_ini (kc1 := 3) (ks1 := 312) (kc := 24) (ks := 1920) [] [.inr 245, .inl 1, .inr 240] dX9_init_62 mlX9_30 (by decide) rfl rfl (by decide) (c_X7_245 E l _ (by omega) _) (pc' := 65) rfl (fun vv SS MM hq _ _ _ => ?_)
  obtain ⟨rfl, rfl, rfl⟩ := hq
  refine ax_reT (st2 := [.inr 245, .inl 1, .inr 240]) rfl ?_
  refine ax_aast dX9_init_65 (SN_sh 240 249 (by decide) h0_240) (by decide) (SN_sh 245 249 (by decide) h0_245) rfl (by decide) (by decide) rfl (by unfold ax_can; decide) (pc' := 66) rfl ?_
  refine ax_iinc dX9_init_66 rfl (by decide) (by decide) (ls' := [some (.inr 237), some (.inl 2)]) rfl (pc' := 69) rfl ?_
  refine ax_goto dX9_init_69 (pc' := 47) (by decide) ?_
  refine ax_iload_n dX9_init_47 rfl rfl (pc' := 48) rfl ?_
  refine ax_bipush dX9_init_48 (by decide) (pc' := 50) rfl ?_
  refine ax_icmp_ge (tgt := 72) dX9_init_50 (by decide) (pc' := 53) rfl (fun h => absurd h (by decide)) (fun _ => ?_)
  refine ax_aload_n dX9_init_53 rfl rfl (pc' := 54) rfl ?_
  refine ax_getr (v := 240) dX9_init_54 flX9_20 rfl (SN_sh 237 249 (by decide) h0_237) rfl (pc' := 57) rfl ?_
  refine ax_iload_n dX9_init_57 rfl rfl (pc' := 58) rfl ?_
  refine ax_new (I := iX9_init) (kc := 23) (ks := 1912) (n := 249) dX9_init_58 nlX9_18 (SN_len 249 (Nat.le_of_ble_eq_true rfl)) (pc' := 61) rfl ?_
  refine ax_reC (S2 := SN 250) (SN_push h0_249) ?_
  refine ax_dup dX9_init_61 (pc' := 62) rfl ?_
  refine ax_ini (kc1 := 3) (ks1 := 312) (kc := 20) (ks := 1600) [] [.inr 249, .inl 2, .inr 240] dX9_init_62 mlX9_30 (by decide) rfl rfl (by decide) (c_X7_249 E l _ (by omega) _) (pc' := 65) rfl (fun vv SS MM hq _ _ _ => ?_)
  obtain ⟨rfl, rfl, rfl⟩ := hq
  refine ax_reT (st2 := [.inr 249, .inl 2, .inr 240]) rfl ?_
  refine ax_aast dX9_init_65 (SN_sh 240 253 (by decide) h0_240) (by decide) (SN_sh 249 253 (by decide) h0_249) rfl (by decide) (by decide) rfl (by unfold ax_can; decide) (pc' := 66) rfl ?_
  refine ax_iinc dX9_init_66 rfl (by decide) (by decide) (ls' := [some (.inr 237), some (.inl 3)]) rfl (pc' := 69) rfl ?_
  refine ax_goto dX9_init_69 (pc' := 47) (by decide) ?_
  refine ax_iload_n dX9_init_47 rfl rfl (pc' := 48) rfl ?_
  refine ax_bipush dX9_init_48 (by decide) (pc' := 50) rfl ?_
  refine ax_icmp_ge (tgt := 72) dX9_init_50 (by decide) (pc' := 53) rfl (fun h => absurd h (by decide)) (fun _ => ?_)
  refine ax_aload_n dX9_init_53 rfl rfl (pc' := 54) rfl ?_
  refine ax_getr (v := 240) dX9_init_54 flX9_20 rfl (SN_sh 237 253 (by decide) h0_237) rfl (pc' := 57) rfl ?_
  refine ax_iload_n dX9_init_57 rfl rfl (pc' := 58) rfl ?_
  refine ax_new (I := iX9_init) (kc := 19) (ks := 1592) (n := 253) dX9_init_58 nlX9_18 (SN_len 253 (Nat.le_of_ble_eq_true rfl)) (pc' := 61) rfl ?_
  refine ax_reC (S2 := SN 254) (SN_push h0_253) ?_
  refine ax_dup dX9_init_61 (pc' := 62) rfl ?_
  refine ax_ini (kc1 := 3) (ks1 := 312) (kc := 16) (ks := 1280) [] [.inr 253, .inl 3, .inr 240] dX9_init_62 mlX9_30 (by decide) rfl rfl (by decide) (c_X7_253 E l _ (by omega) _) (pc' := 65) rfl (fun vv SS MM hq _ _ _ => ?_)
  obtain ⟨rfl, rfl, rfl⟩ := hq
  refine ax_reT (st2 := [.inr 253, .inl 3, .inr 240]) rfl ?_
  refine ax_aast dX9_init_65 (SN_sh 240 257 (by decide) h0_240) (by decide) (SN_sh 253 257 (by decide) h0_253) rfl (by decide) (by decide) rfl (by unfold ax_can; decide) (pc' := 66) rfl ?_
  refine ax_iinc dX9_init_66 rfl (by decide) (by decide) (ls' := [some (.inr 237), some (.inl 4)]) rfl (pc' := 69) rfl ?_
  refine ax_goto dX9_init_69 (pc' := 47) (by decide) ?_
  refine ax_iload_n dX9_init_47 rfl rfl (pc' := 48) rfl ?_
  refine ax_bipush dX9_init_48 (by decide) (pc' := 50) rfl ?_
  refine ax_icmp_ge (tgt := 72) dX9_init_50 (by decide) (pc' := 53) rfl (fun h => absurd h (by decide)) (fun _ => ?_)
  refine ax_aload_n dX9_init_53 rfl rfl (pc' := 54) rfl ?_
  refine ax_getr (v := 240) dX9_init_54 flX9_20 rfl (SN_sh 237 257 (by decide) h0_237) rfl (pc' := 57) rfl ?_
  refine ax_iload_n dX9_init_57 rfl rfl (pc' := 58) rfl ?_
  refine ax_new (I := iX9_init) (kc := 15) (ks := 1272) (n := 257) dX9_init_58 nlX9_18 (SN_len 257 (Nat.le_of_ble_eq_true rfl)) (pc' := 61) rfl ?_
  refine ax_reC (S2 := SN 258) (SN_push h0_257) ?_
  refine ax_dup dX9_init_61 (pc' := 62) rfl ?_
  refine ax_ini (kc1 := 3) (ks1 := 312) (kc := 12) (ks := 960) [] [.inr 257, .inl 4, .inr 240] dX9_init_62 mlX9_30 (by decide) rfl rfl (by decide) (c_X7_257 E l _ (by omega) _) (pc' := 65) rfl (fun vv SS MM hq _ _ _ => ?_)
  obtain ⟨rfl, rfl, rfl⟩ := hq
  refine ax_reT (st2 := [.inr 257, .inl 4, .inr 240]) rfl ?_
  refine ax_aast dX9_init_65 (SN_sh 240 261 (by decide) h0_240) (by decide) (SN_sh 257 261 (by decide) h0_257) rfl (by decide) (by decide) rfl (by unfold ax_can; decide) (pc' := 66) rfl ?_
  refine ax_iinc dX9_init_66 rfl (by decide) (by decide) (ls' := [some (.inr 237), some (.inl 5)]) rfl (pc' := 69) rfl ?_
  refine ax_goto dX9_init_69 (pc' := 47) (by decide) ?_
  refine ax_iload_n dX9_init_47 rfl rfl (pc' := 48) rfl ?_
  refine ax_bipush dX9_init_48 (by decide) (pc' := 50) rfl ?_
  refine ax_icmp_ge (tgt := 72) dX9_init_50 (by decide) (pc' := 53) rfl (fun h => absurd h (by decide)) (fun _ => ?_)
  refine ax_aload_n dX9_init_53 rfl rfl (pc' := 54) rfl ?_
  refine ax_getr (v := 240) dX9_init_54 flX9_20 rfl (SN_sh 237 261 (by decide) h0_237) rfl (pc' := 57) rfl ?_
  refine ax_iload_n dX9_init_57 rfl rfl (pc' := 58) rfl ?_
  refine ax_new (I := iX9_init) (kc := 11) (ks := 952) (n := 261) dX9_init_58 nlX9_18 (SN_len 261 (Nat.le_of_ble_eq_true rfl)) (pc' := 61) rfl ?_
  refine ax_reC (S2 := SN 262) (SN_push h0_261) ?_
  refine ax_dup dX9_init_61 (pc' := 62) rfl ?_
  refine ax_ini (kc1 := 3) (ks1 := 312) (kc := 8) (ks := 640) [] [.inr 261, .inl 5, .inr 240] dX9_init_62 mlX9_30 (by decide) rfl rfl (by decide) (c_X7_261 E l _ (by omega) _) (pc' := 65) rfl (fun vv SS MM hq _ _ _ => ?_)
  obtain ⟨rfl, rfl, rfl⟩ := hq
  refine ax_reT (st2 := [.inr 261, .inl 5, .inr 240]) rfl ?_
  refine ax_aast dX9_init_65 (SN_sh 240 265 (by decide) h0_240) (by decide) (SN_sh 261 265 (by decide) h0_261) rfl (by decide) (by decide) rfl (by unfold ax_can; decide) (pc' := 66) rfl ?_
  refine ax_iinc dX9_init_66 rfl (by decide) (by decide) (ls' := [some (.inr 237), some (.inl 6)]) rfl (pc' := 69) rfl ?_
  refine ax_goto dX9_init_69 (pc' := 47) (by decide) ?_
  refine ax_iload_n dX9_init_47 rfl rfl (pc' := 48) rfl ?_
  refine ax_bipush dX9_init_48 (by decide) (pc' := 50) rfl ?_
  refine ax_icmp_ge (tgt := 72) dX9_init_50 (by decide) (pc' := 53) rfl (fun h => absurd h (by decide)) (fun _ => ?_)
  refine ax_aload_n dX9_init_53 rfl rfl (pc' := 54) rfl ?_
  refine ax_getr (v := 240) dX9_init_54 flX9_20 rfl (SN_sh 237 265 (by decide) h0_237) rfl (pc' := 57) rfl ?_
  refine ax_iload_n dX9_init_57 rfl rfl (pc' := 58) rfl ?_
  refine ax_new (I := iX9_init) (kc := 7) (ks := 632) (n := 265) dX9_init_58 nlX9_18 (SN_len 265 (Nat.le_of_ble_eq_true rfl)) (pc' := 61) rfl ?_
  refine ax_reC (S2 := SN 266) (SN_push h0_265) ?_
  refine ax_dup dX9_init_61 (pc' := 62) rfl ?_
  refine ax_ini (kc1 := 3) (ks1 := 312) (kc := 4) (ks := 320) [] [.inr 265, .inl 6, .inr 240] dX9_init_62 mlX9_30 (by decide) rfl rfl (by decide) (c_X7_265 E l _ (by omega) _) (pc' := 65) rfl (fun vv SS MM hq _ _ _ => ?_)
  obtain ⟨rfl, rfl, rfl⟩ := hq
  refine ax_reT (st2 := [.inr 265, .inl 6, .inr 240]) rfl ?_
  refine ax_aast dX9_init_65 (SN_sh 240 269 (by decide) h0_240) (by decide) (SN_sh 265 269 (by decide) h0_265) rfl (by decide) (by decide) rfl (by unfold ax_can; decide) (pc' := 66) rfl ?_
  refine ax_iinc dX9_init_66 rfl (by decide) (by decide) (ls' := [some (.inr 237), some (.inl 7)]) rfl (pc' := 69) rfl ?_
  refine ax_goto dX9_init_69 (pc' := 47) (by decide) ?_
  refine ax_iload_n dX9_init_47 rfl rfl (pc' := 48) rfl ?_
  refine ax_bipush dX9_init_48 (by decide) (pc' := 50) rfl ?_
  refine ax_icmp_ge (tgt := 72) dX9_init_50 (by decide) (pc' := 53) rfl (fun h => absurd h (by decide)) (fun _ => ?_)
  refine ax_aload_n dX9_init_53 rfl rfl (pc' := 54) rfl ?_
  refine ax_getr (v := 240) dX9_init_54 flX9_20 rfl (SN_sh 237 269 (by decide) h0_237) rfl (pc' := 57) rfl ?_
  refine ax_iload_n dX9_init_57 rfl rfl (pc' := 58) rfl ?_
  refine ax_new (I := iX9_init) (kc := 3) (ks := 312) (n := 269) dX9_init_58 nlX9_18 (SN_len 269 (Nat.le_of_ble_eq_true rfl)) (pc' := 61) rfl ?_
  refine ax_reC (S2 := SN 270) (SN_push h0_269) ?_
  refine ax_dup dX9_init_61 (pc' := 62) rfl ?_
  refine ax_ini (kc1 := 3) (ks1 := 312) (kc := 0) (ks := 0) [] [.inr 269, .inl 7, .inr 240] dX9_init_62 mlX9_30 (by decide) rfl rfl (by decide) (c_X7_269 E l _ (by omega) _) (pc' := 65) rfl (fun vv SS MM hq _ _ _ => ?_)
  obtain ⟨rfl, rfl, rfl⟩ := hq
  refine ax_reT (st2 := [.inr 269, .inl 7, .inr 240]) rfl ?_
  refine ax_aast dX9_init_65 (SN_sh 240 273 (by decide) h0_240) (by decide) (SN_sh 269 273 (by decide) h0_269) rfl (by decide) (by decide) rfl (by unfold ax_can; decide) (pc' := 66) rfl ?_
  refine ax_iinc dX9_init_66 rfl (by decide) (by decide) (ls' := [some (.inr 237), some (.inl 8)]) rfl (pc' := 69) rfl ?_
  refine ax_goto dX9_init_69 (pc' := 47) (by decide) ?_
  refine ax_iload_n dX9_init_47 rfl rfl (pc' := 48) rfl ?_
  refine ax_bipush dX9_init_48 (by decide) (pc' := 50) rfl ?_
  refine ax_icmp_ge (tgt := 72) dX9_init_50 (by decide) (pc' := 53) rfl (fun _ => ?_) (fun h => absurd h (by decide))
  exact ax_vret dX9_init_72 rfl ⟨rfl, rfl, rfl⟩
def f_mX7_277 (M : ax_Mem) : ax_Mem := ax_up (ax_row (ax_up (ax_row (ax_up (ax_row M 278 (fun _ => 0)) 277 5 278) 279 (fun _ => 0)) 277 6 279) 280 (fun _ => 0)) 277 7 280
set_option maxRecDepth 20000 in
theorem c_X7_277 (E : ax_Env) (l : Launch) (d : Nat) (hd : 1 ≤ d) (M : ax_Mem) : ax_M E l d 3 312 iX7_init [.inr 277] (SN 278) M (fun z0 S2 M2 => z0 = none ∧ S2 = SN 281 ∧ M2 = f_mX7_277 M) := by
  obtain ⟨d, rfl⟩ : ∃ d0, d = d0 + 1 := ⟨d - 1, by omega⟩
  refine ax_enter rfl (by decide) (ls := [some (.inr 277)]) rfl (fun _ hcm => ?_)
  refine ax_aload_n dX7_init_0 rfl rfl (pc' := 1) rfl ?_
  refine ax_oinit dX7_init_1 (by decide) mlX7_3 hx_oi hx_oc (by decide) (pc' := 4) rfl ?_
  refine ax_aload_n dX7_init_4 rfl rfl (pc' := 5) rfl ?_
  refine ax_bipush dX7_init_5 (by decide) (pc' := 7) rfl ?_
  refine ax_newa (kc := 2) (ks := 288) (N := 24) (n := 278) (v := 24) dX7_init_7 hx_arr rfl (by decide) (SN_len 278 (Nat.le_of_ble_eq_true rfl)) (pc' := 9) rfl ?_
  refine ax_reC (S2 := SN 279) (SN_push h0_278) ?_
  refine ax_putF dX7_init_9 flX7_9 rfl (fun C T N h => by cases h; rfl) rfl (SN_sh 277 279 (by decide) h0_277) rfl (by unfold ax_can; decide) (pc' := 12) rfl ?_
  refine ax_aload_n dX7_init_12 rfl rfl (pc' := 13) rfl ?_
  refine ax_sipush dX7_init_13 (by decide) (pc' := 16) rfl ?_
  refine ax_newa (kc := 1) (ks := 144) (N := 144) (n := 279) (v := 144) dX7_init_16 hx_arr rfl (by decide) (SN_len 279 (Nat.le_of_ble_eq_true rfl)) (pc' := 18) rfl ?_
  refine ax_reC (S2 := SN 280) (SN_push h0_279) ?_
  refine ax_putF dX7_init_18 flX7_15 rfl (fun C T N h => by cases h; rfl) rfl (SN_sh 277 280 (by decide) h0_277) rfl (by unfold ax_can; decide) (pc' := 21) rfl ?_
  refine ax_aload_n dX7_init_21 rfl rfl (pc' := 22) rfl ?_
  refine ax_sipush dX7_init_22 (by decide) (pc' := 25) rfl ?_
  refine ax_newa (kc := 0) (ks := 0) (N := 144) (n := 280) (v := 144) dX7_init_25 hx_arr rfl (by decide) (SN_len 280 (Nat.le_of_ble_eq_true rfl)) (pc' := 27) rfl ?_
  refine ax_reC (S2 := SN 281) (SN_push h0_280) ?_
  refine ax_putF dX7_init_27 flX7_18 rfl (fun C T N h => by cases h; rfl) rfl (SN_sh 277 281 (by decide) h0_277) rfl (by unfold ax_can; decide) (pc' := 30) rfl ?_
  exact ax_vret dX7_init_30 rfl ⟨rfl, rfl, rfl⟩
def f_mX7_281 (M : ax_Mem) : ax_Mem := ax_up (ax_row (ax_up (ax_row (ax_up (ax_row M 282 (fun _ => 0)) 281 5 282) 283 (fun _ => 0)) 281 6 283) 284 (fun _ => 0)) 281 7 284
set_option maxRecDepth 20000 in
theorem c_X7_281 (E : ax_Env) (l : Launch) (d : Nat) (hd : 1 ≤ d) (M : ax_Mem) : ax_M E l d 3 312 iX7_init [.inr 281] (SN 282) M (fun z0 S2 M2 => z0 = none ∧ S2 = SN 285 ∧ M2 = f_mX7_281 M) := by
  obtain ⟨d, rfl⟩ : ∃ d0, d = d0 + 1 := ⟨d - 1, by omega⟩
  refine ax_enter rfl (by decide) (ls := [some (.inr 281)]) rfl (fun _ hcm => ?_)
  refine ax_aload_n dX7_init_0 rfl rfl (pc' := 1) rfl ?_
  refine ax_oinit dX7_init_1 (by decide) mlX7_3 hx_oi hx_oc (by decide) (pc' := 4) rfl ?_
  refine ax_aload_n dX7_init_4 rfl rfl (pc' := 5) rfl ?_
  refine ax_bipush dX7_init_5 (by decide) (pc' := 7) rfl ?_
  refine ax_newa (kc := 2) (ks := 288) (N := 24) (n := 282) (v := 24) dX7_init_7 hx_arr rfl (by decide) (SN_len 282 (Nat.le_of_ble_eq_true rfl)) (pc' := 9) rfl ?_
  refine ax_reC (S2 := SN 283) (SN_push h0_282) ?_
  refine ax_putF dX7_init_9 flX7_9 rfl (fun C T N h => by cases h; rfl) rfl (SN_sh 281 283 (by decide) h0_281) rfl (by unfold ax_can; decide) (pc' := 12) rfl ?_
  refine ax_aload_n dX7_init_12 rfl rfl (pc' := 13) rfl ?_
  refine ax_sipush dX7_init_13 (by decide) (pc' := 16) rfl ?_
  refine ax_newa (kc := 1) (ks := 144) (N := 144) (n := 283) (v := 144) dX7_init_16 hx_arr rfl (by decide) (SN_len 283 (Nat.le_of_ble_eq_true rfl)) (pc' := 18) rfl ?_
  refine ax_reC (S2 := SN 284) (SN_push h0_283) ?_
  refine ax_putF dX7_init_18 flX7_15 rfl (fun C T N h => by cases h; rfl) rfl (SN_sh 281 284 (by decide) h0_281) rfl (by unfold ax_can; decide) (pc' := 21) rfl ?_
  refine ax_aload_n dX7_init_21 rfl rfl (pc' := 22) rfl ?_
  refine ax_sipush dX7_init_22 (by decide) (pc' := 25) rfl ?_
  refine ax_newa (kc := 0) (ks := 0) (N := 144) (n := 284) (v := 144) dX7_init_25 hx_arr rfl (by decide) (SN_len 284 (Nat.le_of_ble_eq_true rfl)) (pc' := 27) rfl ?_
  refine ax_reC (S2 := SN 285) (SN_push h0_284) ?_
  refine ax_putF dX7_init_27 flX7_18 rfl (fun C T N h => by cases h; rfl) rfl (SN_sh 281 285 (by decide) h0_281) rfl (by unfold ax_can; decide) (pc' := 30) rfl ?_
  exact ax_vret dX7_init_30 rfl ⟨rfl, rfl, rfl⟩
def f_mX7_285 (M : ax_Mem) : ax_Mem := ax_up (ax_row (ax_up (ax_row (ax_up (ax_row M 286 (fun _ => 0)) 285 5 286) 287 (fun _ => 0)) 285 6 287) 288 (fun _ => 0)) 285 7 288
set_option maxRecDepth 20000 in
theorem c_X7_285 (E : ax_Env) (l : Launch) (d : Nat) (hd : 1 ≤ d) (M : ax_Mem) : ax_M E l d 3 312 iX7_init [.inr 285] (SN 286) M (fun z0 S2 M2 => z0 = none ∧ S2 = SN 289 ∧ M2 = f_mX7_285 M) := by
  obtain ⟨d, rfl⟩ : ∃ d0, d = d0 + 1 := ⟨d - 1, by omega⟩
  refine ax_enter rfl (by decide) (ls := [some (.inr 285)]) rfl (fun _ hcm => ?_)
  refine ax_aload_n dX7_init_0 rfl rfl (pc' := 1) rfl ?_
  refine ax_oinit dX7_init_1 (by decide) mlX7_3 hx_oi hx_oc (by decide) (pc' := 4) rfl ?_
  refine ax_aload_n dX7_init_4 rfl rfl (pc' := 5) rfl ?_
  refine ax_bipush dX7_init_5 (by decide) (pc' := 7) rfl ?_
  refine ax_newa (kc := 2) (ks := 288) (N := 24) (n := 286) (v := 24) dX7_init_7 hx_arr rfl (by decide) (SN_len 286 (Nat.le_of_ble_eq_true rfl)) (pc' := 9) rfl ?_
  refine ax_reC (S2 := SN 287) (SN_push h0_286) ?_
  refine ax_putF dX7_init_9 flX7_9 rfl (fun C T N h => by cases h; rfl) rfl (SN_sh 285 287 (by decide) h0_285) rfl (by unfold ax_can; decide) (pc' := 12) rfl ?_
  refine ax_aload_n dX7_init_12 rfl rfl (pc' := 13) rfl ?_
  refine ax_sipush dX7_init_13 (by decide) (pc' := 16) rfl ?_
  refine ax_newa (kc := 1) (ks := 144) (N := 144) (n := 287) (v := 144) dX7_init_16 hx_arr rfl (by decide) (SN_len 287 (Nat.le_of_ble_eq_true rfl)) (pc' := 18) rfl ?_
  refine ax_reC (S2 := SN 288) (SN_push h0_287) ?_
  refine ax_putF dX7_init_18 flX7_15 rfl (fun C T N h => by cases h; rfl) rfl (SN_sh 285 288 (by decide) h0_285) rfl (by unfold ax_can; decide) (pc' := 21) rfl ?_
  refine ax_aload_n dX7_init_21 rfl rfl (pc' := 22) rfl ?_
  refine ax_sipush dX7_init_22 (by decide) (pc' := 25) rfl ?_
  refine ax_newa (kc := 0) (ks := 0) (N := 144) (n := 288) (v := 144) dX7_init_25 hx_arr rfl (by decide) (SN_len 288 (Nat.le_of_ble_eq_true rfl)) (pc' := 27) rfl ?_
  refine ax_reC (S2 := SN 289) (SN_push h0_288) ?_
  refine ax_putF dX7_init_27 flX7_18 rfl (fun C T N h => by cases h; rfl) rfl (SN_sh 285 289 (by decide) h0_285) rfl (by unfold ax_can; decide) (pc' := 30) rfl ?_
  exact ax_vret dX7_init_30 rfl ⟨rfl, rfl, rfl⟩
def f_mX7_289 (M : ax_Mem) : ax_Mem := ax_up (ax_row (ax_up (ax_row (ax_up (ax_row M 290 (fun _ => 0)) 289 5 290) 291 (fun _ => 0)) 289 6 291) 292 (fun _ => 0)) 289 7 292
set_option maxRecDepth 20000 in
theorem c_X7_289 (E : ax_Env) (l : Launch) (d : Nat) (hd : 1 ≤ d) (M : ax_Mem) : ax_M E l d 3 312 iX7_init [.inr 289] (SN 290) M (fun z0 S2 M2 => z0 = none ∧ S2 = SN 293 ∧ M2 = f_mX7_289 M) := by
  obtain ⟨d, rfl⟩ : ∃ d0, d = d0 + 1 := ⟨d - 1, by omega⟩
  refine ax_enter rfl (by decide) (ls := [some (.inr 289)]) rfl (fun _ hcm => ?_)
  refine ax_aload_n dX7_init_0 rfl rfl (pc' := 1) rfl ?_
  refine ax_oinit dX7_init_1 (by decide) mlX7_3 hx_oi hx_oc (by decide) (pc' := 4) rfl ?_
  refine ax_aload_n dX7_init_4 rfl rfl (pc' := 5) rfl ?_
  refine ax_bipush dX7_init_5 (by decide) (pc' := 7) rfl ?_
  refine ax_newa (kc := 2) (ks := 288) (N := 24) (n := 290) (v := 24) dX7_init_7 hx_arr rfl (by decide) (SN_len 290 (Nat.le_of_ble_eq_true rfl)) (pc' := 9) rfl ?_
  refine ax_reC (S2 := SN 291) (SN_push h0_290) ?_
  refine ax_putF dX7_init_9 flX7_9 rfl (fun C T N h => by cases h; rfl) rfl (SN_sh 289 291 (by decide) h0_289) rfl (by unfold ax_can; decide) (pc' := 12) rfl ?_
  refine ax_aload_n dX7_init_12 rfl rfl (pc' := 13) rfl ?_
  refine ax_sipush dX7_init_13 (by decide) (pc' := 16) rfl ?_
  refine ax_newa (kc := 1) (ks := 144) (N := 144) (n := 291) (v := 144) dX7_init_16 hx_arr rfl (by decide) (SN_len 291 (Nat.le_of_ble_eq_true rfl)) (pc' := 18) rfl ?_
  refine ax_reC (S2 := SN 292) (SN_push h0_291) ?_
  refine ax_putF dX7_init_18 flX7_15 rfl (fun C T N h => by cases h; rfl) rfl (SN_sh 289 292 (by decide) h0_289) rfl (by unfold ax_can; decide) (pc' := 21) rfl ?_
  refine ax_aload_n dX7_init_21 rfl rfl (pc' := 22) rfl ?_
  refine ax_sipush dX7_init_22 (by decide) (pc' := 25) rfl ?_
  refine ax_newa (kc := 0) (ks := 0) (N := 144) (n := 292) (v := 144) dX7_init_25 hx_arr rfl (by decide) (SN_len 292 (Nat.le_of_ble_eq_true rfl)) (pc' := 27) rfl ?_
  refine ax_reC (S2 := SN 293) (SN_push h0_292) ?_
  refine ax_putF dX7_init_27 flX7_18 rfl (fun C T N h => by cases h; rfl) rfl (SN_sh 289 293 (by decide) h0_289) rfl (by unfold ax_can; decide) (pc' := 30) rfl ?_
  exact ax_vret dX7_init_30 rfl ⟨rfl, rfl, rfl⟩
def f_mX7_293 (M : ax_Mem) : ax_Mem := ax_up (ax_row (ax_up (ax_row (ax_up (ax_row M 294 (fun _ => 0)) 293 5 294) 295 (fun _ => 0)) 293 6 295) 296 (fun _ => 0)) 293 7 296
set_option maxRecDepth 20000 in
theorem c_X7_293 (E : ax_Env) (l : Launch) (d : Nat) (hd : 1 ≤ d) (M : ax_Mem) : ax_M E l d 3 312 iX7_init [.inr 293] (SN 294) M (fun z0 S2 M2 => z0 = none ∧ S2 = SN 297 ∧ M2 = f_mX7_293 M) := by
  obtain ⟨d, rfl⟩ : ∃ d0, d = d0 + 1 := ⟨d - 1, by omega⟩
  refine ax_enter rfl (by decide) (ls := [some (.inr 293)]) rfl (fun _ hcm => ?_)
  refine ax_aload_n dX7_init_0 rfl rfl (pc' := 1) rfl ?_
  refine ax_oinit dX7_init_1 (by decide) mlX7_3 hx_oi hx_oc (by decide) (pc' := 4) rfl ?_
  refine ax_aload_n dX7_init_4 rfl rfl (pc' := 5) rfl ?_
  refine ax_bipush dX7_init_5 (by decide) (pc' := 7) rfl ?_
  refine ax_newa (kc := 2) (ks := 288) (N := 24) (n := 294) (v := 24) dX7_init_7 hx_arr rfl (by decide) (SN_len 294 (Nat.le_of_ble_eq_true rfl)) (pc' := 9) rfl ?_
  refine ax_reC (S2 := SN 295) (SN_push h0_294) ?_
  refine ax_putF dX7_init_9 flX7_9 rfl (fun C T N h => by cases h; rfl) rfl (SN_sh 293 295 (by decide) h0_293) rfl (by unfold ax_can; decide) (pc' := 12) rfl ?_
  refine ax_aload_n dX7_init_12 rfl rfl (pc' := 13) rfl ?_
  refine ax_sipush dX7_init_13 (by decide) (pc' := 16) rfl ?_
  refine ax_newa (kc := 1) (ks := 144) (N := 144) (n := 295) (v := 144) dX7_init_16 hx_arr rfl (by decide) (SN_len 295 (Nat.le_of_ble_eq_true rfl)) (pc' := 18) rfl ?_
  refine ax_reC (S2 := SN 296) (SN_push h0_295) ?_
  refine ax_putF dX7_init_18 flX7_15 rfl (fun C T N h => by cases h; rfl) rfl (SN_sh 293 296 (by decide) h0_293) rfl (by unfold ax_can; decide) (pc' := 21) rfl ?_
  refine ax_aload_n dX7_init_21 rfl rfl (pc' := 22) rfl ?_
  refine ax_sipush dX7_init_22 (by decide) (pc' := 25) rfl ?_
  refine ax_newa (kc := 0) (ks := 0) (N := 144) (n := 296) (v := 144) dX7_init_25 hx_arr rfl (by decide) (SN_len 296 (Nat.le_of_ble_eq_true rfl)) (pc' := 27) rfl ?_
  refine ax_reC (S2 := SN 297) (SN_push h0_296) ?_
  refine ax_putF dX7_init_27 flX7_18 rfl (fun C T N h => by cases h; rfl) rfl (SN_sh 293 297 (by decide) h0_293) rfl (by unfold ax_can; decide) (pc' := 30) rfl ?_
  exact ax_vret dX7_init_30 rfl ⟨rfl, rfl, rfl⟩
def f_mX7_297 (M : ax_Mem) : ax_Mem := ax_up (ax_row (ax_up (ax_row (ax_up (ax_row M 298 (fun _ => 0)) 297 5 298) 299 (fun _ => 0)) 297 6 299) 300 (fun _ => 0)) 297 7 300
set_option maxRecDepth 20000 in
theorem c_X7_297 (E : ax_Env) (l : Launch) (d : Nat) (hd : 1 ≤ d) (M : ax_Mem) : ax_M E l d 3 312 iX7_init [.inr 297] (SN 298) M (fun z0 S2 M2 => z0 = none ∧ S2 = SN 301 ∧ M2 = f_mX7_297 M) := by
  obtain ⟨d, rfl⟩ : ∃ d0, d = d0 + 1 := ⟨d - 1, by omega⟩
  refine ax_enter rfl (by decide) (ls := [some (.inr 297)]) rfl (fun _ hcm => ?_)
  refine ax_aload_n dX7_init_0 rfl rfl (pc' := 1) rfl ?_
  refine ax_oinit dX7_init_1 (by decide) mlX7_3 hx_oi hx_oc (by decide) (pc' := 4) rfl ?_
  refine ax_aload_n dX7_init_4 rfl rfl (pc' := 5) rfl ?_
  refine ax_bipush dX7_init_5 (by decide) (pc' := 7) rfl ?_
  refine ax_newa (kc := 2) (ks := 288) (N := 24) (n := 298) (v := 24) dX7_init_7 hx_arr rfl (by decide) (SN_len 298 (Nat.le_of_ble_eq_true rfl)) (pc' := 9) rfl ?_
  refine ax_reC (S2 := SN 299) (SN_push h0_298) ?_
  refine ax_putF dX7_init_9 flX7_9 rfl (fun C T N h => by cases h; rfl) rfl (SN_sh 297 299 (by decide) h0_297) rfl (by unfold ax_can; decide) (pc' := 12) rfl ?_
  refine ax_aload_n dX7_init_12 rfl rfl (pc' := 13) rfl ?_
  refine ax_sipush dX7_init_13 (by decide) (pc' := 16) rfl ?_
  refine ax_newa (kc := 1) (ks := 144) (N := 144) (n := 299) (v := 144) dX7_init_16 hx_arr rfl (by decide) (SN_len 299 (Nat.le_of_ble_eq_true rfl)) (pc' := 18) rfl ?_
  refine ax_reC (S2 := SN 300) (SN_push h0_299) ?_
  refine ax_putF dX7_init_18 flX7_15 rfl (fun C T N h => by cases h; rfl) rfl (SN_sh 297 300 (by decide) h0_297) rfl (by unfold ax_can; decide) (pc' := 21) rfl ?_
  refine ax_aload_n dX7_init_21 rfl rfl (pc' := 22) rfl ?_
  refine ax_sipush dX7_init_22 (by decide) (pc' := 25) rfl ?_
  refine ax_newa (kc := 0) (ks := 0) (N := 144) (n := 300) (v := 144) dX7_init_25 hx_arr rfl (by decide) (SN_len 300 (Nat.le_of_ble_eq_true rfl)) (pc' := 27) rfl ?_
  refine ax_reC (S2 := SN 301) (SN_push h0_300) ?_
  refine ax_putF dX7_init_27 flX7_18 rfl (fun C T N h => by cases h; rfl) rfl (SN_sh 297 301 (by decide) h0_297) rfl (by unfold ax_can; decide) (pc' := 30) rfl ?_
  exact ax_vret dX7_init_30 rfl ⟨rfl, rfl, rfl⟩
def f_mX7_301 (M : ax_Mem) : ax_Mem := ax_up (ax_row (ax_up (ax_row (ax_up (ax_row M 302 (fun _ => 0)) 301 5 302) 303 (fun _ => 0)) 301 6 303) 304 (fun _ => 0)) 301 7 304
set_option maxRecDepth 20000 in
theorem c_X7_301 (E : ax_Env) (l : Launch) (d : Nat) (hd : 1 ≤ d) (M : ax_Mem) : ax_M E l d 3 312 iX7_init [.inr 301] (SN 302) M (fun z0 S2 M2 => z0 = none ∧ S2 = SN 305 ∧ M2 = f_mX7_301 M) := by
  obtain ⟨d, rfl⟩ : ∃ d0, d = d0 + 1 := ⟨d - 1, by omega⟩
  refine ax_enter rfl (by decide) (ls := [some (.inr 301)]) rfl (fun _ hcm => ?_)
  refine ax_aload_n dX7_init_0 rfl rfl (pc' := 1) rfl ?_
  refine ax_oinit dX7_init_1 (by decide) mlX7_3 hx_oi hx_oc (by decide) (pc' := 4) rfl ?_
  refine ax_aload_n dX7_init_4 rfl rfl (pc' := 5) rfl ?_
  refine ax_bipush dX7_init_5 (by decide) (pc' := 7) rfl ?_
  refine ax_newa (kc := 2) (ks := 288) (N := 24) (n := 302) (v := 24) dX7_init_7 hx_arr rfl (by decide) (SN_len 302 (Nat.le_of_ble_eq_true rfl)) (pc' := 9) rfl ?_
  refine ax_reC (S2 := SN 303) (SN_push h0_302) ?_
  refine ax_putF dX7_init_9 flX7_9 rfl (fun C T N h => by cases h; rfl) rfl (SN_sh 301 303 (by decide) h0_301) rfl (by unfold ax_can; decide) (pc' := 12) rfl ?_
  refine ax_aload_n dX7_init_12 rfl rfl (pc' := 13) rfl ?_
  refine ax_sipush dX7_init_13 (by decide) (pc' := 16) rfl ?_
  refine ax_newa (kc := 1) (ks := 144) (N := 144) (n := 303) (v := 144) dX7_init_16 hx_arr rfl (by decide) (SN_len 303 (Nat.le_of_ble_eq_true rfl)) (pc' := 18) rfl ?_
  refine ax_reC (S2 := SN 304) (SN_push h0_303) ?_
  refine ax_putF dX7_init_18 flX7_15 rfl (fun C T N h => by cases h; rfl) rfl (SN_sh 301 304 (by decide) h0_301) rfl (by unfold ax_can; decide) (pc' := 21) rfl ?_
  refine ax_aload_n dX7_init_21 rfl rfl (pc' := 22) rfl ?_
  refine ax_sipush dX7_init_22 (by decide) (pc' := 25) rfl ?_
  refine ax_newa (kc := 0) (ks := 0) (N := 144) (n := 304) (v := 144) dX7_init_25 hx_arr rfl (by decide) (SN_len 304 (Nat.le_of_ble_eq_true rfl)) (pc' := 27) rfl ?_
  refine ax_reC (S2 := SN 305) (SN_push h0_304) ?_
  refine ax_putF dX7_init_27 flX7_18 rfl (fun C T N h => by cases h; rfl) rfl (SN_sh 301 305 (by decide) h0_301) rfl (by unfold ax_can; decide) (pc' := 30) rfl ?_
  exact ax_vret dX7_init_30 rfl ⟨rfl, rfl, rfl⟩
def f_mX7_305 (M : ax_Mem) : ax_Mem := ax_up (ax_row (ax_up (ax_row (ax_up (ax_row M 306 (fun _ => 0)) 305 5 306) 307 (fun _ => 0)) 305 6 307) 308 (fun _ => 0)) 305 7 308
set_option maxRecDepth 20000 in
theorem c_X7_305 (E : ax_Env) (l : Launch) (d : Nat) (hd : 1 ≤ d) (M : ax_Mem) : ax_M E l d 3 312 iX7_init [.inr 305] (SN 306) M (fun z0 S2 M2 => z0 = none ∧ S2 = SN 309 ∧ M2 = f_mX7_305 M) := by
  obtain ⟨d, rfl⟩ : ∃ d0, d = d0 + 1 := ⟨d - 1, by omega⟩
  refine ax_enter rfl (by decide) (ls := [some (.inr 305)]) rfl (fun _ hcm => ?_)
  refine ax_aload_n dX7_init_0 rfl rfl (pc' := 1) rfl ?_
  refine ax_oinit dX7_init_1 (by decide) mlX7_3 hx_oi hx_oc (by decide) (pc' := 4) rfl ?_
  refine ax_aload_n dX7_init_4 rfl rfl (pc' := 5) rfl ?_
  refine ax_bipush dX7_init_5 (by decide) (pc' := 7) rfl ?_
  refine ax_newa (kc := 2) (ks := 288) (N := 24) (n := 306) (v := 24) dX7_init_7 hx_arr rfl (by decide) (SN_len 306 (Nat.le_of_ble_eq_true rfl)) (pc' := 9) rfl ?_
  refine ax_reC (S2 := SN 307) (SN_push h0_306) ?_
  refine ax_putF dX7_init_9 flX7_9 rfl (fun C T N h => by cases h; rfl) rfl (SN_sh 305 307 (by decide) h0_305) rfl (by unfold ax_can; decide) (pc' := 12) rfl ?_
  refine ax_aload_n dX7_init_12 rfl rfl (pc' := 13) rfl ?_
  refine ax_sipush dX7_init_13 (by decide) (pc' := 16) rfl ?_
  refine ax_newa (kc := 1) (ks := 144) (N := 144) (n := 307) (v := 144) dX7_init_16 hx_arr rfl (by decide) (SN_len 307 (Nat.le_of_ble_eq_true rfl)) (pc' := 18) rfl ?_
  refine ax_reC (S2 := SN 308) (SN_push h0_307) ?_
  refine ax_putF dX7_init_18 flX7_15 rfl (fun C T N h => by cases h; rfl) rfl (SN_sh 305 308 (by decide) h0_305) rfl (by unfold ax_can; decide) (pc' := 21) rfl ?_
  refine ax_aload_n dX7_init_21 rfl rfl (pc' := 22) rfl ?_
  refine ax_sipush dX7_init_22 (by decide) (pc' := 25) rfl ?_
  refine ax_newa (kc := 0) (ks := 0) (N := 144) (n := 308) (v := 144) dX7_init_25 hx_arr rfl (by decide) (SN_len 308 (Nat.le_of_ble_eq_true rfl)) (pc' := 27) rfl ?_
  refine ax_reC (S2 := SN 309) (SN_push h0_308) ?_
  refine ax_putF dX7_init_27 flX7_18 rfl (fun C T N h => by cases h; rfl) rfl (SN_sh 305 309 (by decide) h0_305) rfl (by unfold ax_can; decide) (pc' := 30) rfl ?_
  exact ax_vret dX7_init_30 rfl ⟨rfl, rfl, rfl⟩
def f_mX9_273 (M : ax_Mem) : ax_Mem := ax_up (f_mX7_305 (ax_row (ax_up (f_mX7_301 (ax_row (ax_up (f_mX7_297 (ax_row (ax_up (f_mX7_293 (ax_row (ax_up (f_mX7_289 (ax_row (ax_up (f_mX7_285 (ax_row (ax_up (f_mX7_281 (ax_row (ax_up (f_mX7_277 (ax_row (f_mfl 275 6 2 (f_mfl 274 6 3 (ax_up (ax_row (ax_up (ax_row (ax_up (ax_row M 274 (fun _ => 0)) 273 4 274) 275 (fun _ => 0)) 273 5 275) 276 (fun _ => -1)) 273 6 276))) 277 (ax_zero 7))) 276 0 277) 281 (ax_zero 7))) 276 1 281) 285 (ax_zero 7))) 276 2 285) 289 (ax_zero 7))) 276 3 289) 293 (ax_zero 7))) 276 4 293) 297 (ax_zero 7))) 276 5 297) 301 (ax_zero 7))) 276 6 301) 305 (ax_zero 7))) 276 7 305
set_option maxRecDepth 20000 in
theorem c_X9_273 (E : ax_Env) (l : Launch) (d : Nat) (hd : 2 ≤ d) (M : ax_Mem) : ax_M E l d 35 2580 iX9_init [.inr 273] (SN 274) M (fun z0 S2 M2 => z0 = none ∧ S2 = SN 309 ∧ M2 = f_mX9_273 M) := by
  obtain ⟨d, rfl⟩ : ∃ d0, d = d0 + 1 := ⟨d - 1, by omega⟩
  refine ax_enter rfl (by decide) (ls := [some (.inr 273), none]) rfl (fun _ hcm => ?_)
  refine ax_aload_n dX9_init_0 rfl rfl (pc' := 1) rfl ?_
  refine ax_oinit dX9_init_1 (by decide) mlX9_3 hx_oi hx_oc (by decide) (pc' := 4) rfl ?_
  refine ax_aload_n dX9_init_4 rfl rfl (pc' := 5) rfl ?_
  refine ax_bipush dX9_init_5 (by decide) (pc' := 7) rfl ?_
  refine ax_newa (kc := 34) (ks := 2574) (N := 6) (n := 274) (v := 6) dX9_init_7 hx_arr rfl (by decide) (SN_len 274 (Nat.le_of_ble_eq_true rfl)) (pc' := 9) rfl ?_
  refine ax_reC (S2 := SN 275) (SN_push h0_274) ?_
  refine ax_putF dX9_init_9 flX9_9 rfl (fun C T N h => by cases h; rfl) rfl (SN_sh 273 275 (by decide) h0_273) rfl (by unfold ax_can; decide) (pc' := 12) rfl ?_
  refine ax_aload_n dX9_init_12 rfl rfl (pc' := 13) rfl ?_
  refine ax_bipush dX9_init_13 (by decide) (pc' := 15) rfl ?_
  refine ax_newa (kc := 33) (ks := 2568) (N := 6) (n := 275) (v := 6) dX9_init_15 hx_arr rfl (by decide) (SN_len 275 (Nat.le_of_ble_eq_true rfl)) (pc' := 17) rfl ?_
  refine ax_reC (S2 := SN 276) (SN_push h0_275) ?_
  refine ax_putF dX9_init_17 flX9_15 rfl (fun C T N h => by cases h; rfl) rfl (SN_sh 273 276 (by decide) h0_273) rfl (by unfold ax_can; decide) (pc' := 20) rfl ?_
  refine ax_aload_n dX9_init_20 rfl rfl (pc' := 21) rfl ?_
  refine ax_bipush dX9_init_21 (by decide) (pc' := 23) rfl ?_
  refine ax_newq (ci := 14) (kc := 32) (ks := 2560) (N := 8) (n := 276) (v := 8) dX9_init_23 (by decide) alX9_18 rfl (by decide) (SN_len 276 (Nat.le_of_ble_eq_true rfl)) (pc' := 26) rfl ?_
  refine ax_reC (S2 := SN 277) (SN_push h0_276) ?_
  refine ax_putF dX9_init_26 flX9_20 rfl (fun C T N h => by cases h; rfl) rfl (SN_sh 273 277 (by decide) h0_273) rfl (by unfold ax_can; decide) (pc' := 29) rfl ?_
  refine ax_aload_n dX9_init_29 rfl rfl (pc' := 30) rfl ?_
  refine ax_getr (v := 274) dX9_init_30 flX9_9 rfl (SN_sh 273 277 (by decide) h0_273) rfl (pc' := 33) rfl ?_
  refine ax_iconst dX9_init_33 (by decide) (pc' := 34) rfl ?_
  refine ax_ins_gen (kc1 := 0) (ks1 := 0) (kc := 32) (ks := 2560) [.inr 274, .inl 3] [] dX9_init_34 mlX9_24 rfl rfl (by decide) (c_fill E l _ 277 274 6 (SN_sh 274 277 (by decide) h0_274) _ (by decide)) (pc' := 37) rfl (fun vv SS MM hq _ _ _ => ?_)
  obtain ⟨rfl, rfl, rfl⟩ := hq
  refine ax_reT (st2 := []) rfl ?_
  refine ax_aload_n dX9_init_37 rfl rfl (pc' := 38) rfl ?_
  refine ax_getr (v := 275) dX9_init_38 flX9_15 rfl (SN_sh 273 277 (by decide) h0_273) rfl (pc' := 41) rfl ?_
  refine ax_iconst dX9_init_41 (by decide) (pc' := 42) rfl ?_
  refine ax_ins_gen (kc1 := 0) (ks1 := 0) (kc := 32) (ks := 2560) [.inr 275, .inl 2] [] dX9_init_42 mlX9_24 rfl rfl (by decide) (c_fill E l _ 277 275 6 (SN_sh 275 277 (by decide) h0_275) _ (by decide)) (pc' := 45) rfl (fun vv SS MM hq _ _ _ => ?_)
  obtain ⟨rfl, rfl, rfl⟩ := hq
  refine ax_reT (st2 := []) rfl ?_
  refine ax_iconst dX9_init_45 (by decide) (pc' := 46) rfl ?_
  refine ax_istore_n dX9_init_46 rfl (by decide) (ls' := [some (.inr 273), some (.inl 0)]) rfl (pc' := 47) rfl ?_
  refine ax_iload_n dX9_init_47 rfl rfl (pc' := 48) rfl ?_
  refine ax_bipush dX9_init_48 (by decide) (pc' := 50) rfl ?_
  refine ax_icmp_ge (tgt := 72) dX9_init_50 (by decide) (pc' := 53) rfl (fun h => absurd h (by decide)) (fun _ => ?_)
  refine ax_aload_n dX9_init_53 rfl rfl (pc' := 54) rfl ?_
  refine ax_getr (v := 276) dX9_init_54 flX9_20 rfl (SN_sh 273 277 (by decide) h0_273) rfl (pc' := 57) rfl ?_
  refine ax_iload_n dX9_init_57 rfl rfl (pc' := 58) rfl ?_
  refine ax_new (I := iX9_init) (kc := 31) (ks := 2552) (n := 277) dX9_init_58 nlX9_18 (SN_len 277 (Nat.le_of_ble_eq_true rfl)) (pc' := 61) rfl ?_
  refine ax_reC (S2 := SN 278) (SN_push h0_277) ?_
  refine ax_dup dX9_init_61 (pc' := 62) rfl ?_
  refine ax_ini (kc1 := 3) (ks1 := 312) (kc := 28) (ks := 2240) [] [.inr 277, .inl 0, .inr 276] dX9_init_62 mlX9_30 (by decide) rfl rfl (by decide) (c_X7_277 E l _ (by omega) _) (pc' := 65) rfl (fun vv SS MM hq _ _ _ => ?_)
  obtain ⟨rfl, rfl, rfl⟩ := hq
  refine ax_reT (st2 := [.inr 277, .inl 0, .inr 276]) rfl ?_
  refine ax_aast dX9_init_65 (SN_sh 276 281 (by decide) h0_276) (by decide) (SN_sh 277 281 (by decide) h0_277) rfl (by decide) (by decide) rfl (by unfold ax_can; decide) (pc' := 66) rfl ?_
  refine ax_iinc dX9_init_66 rfl (by decide) (by decide) (ls' := [some (.inr 273), some (.inl 1)]) rfl (pc' := 69) rfl ?_
  refine ax_goto dX9_init_69 (pc' := 47) (by decide) ?_
  refine ax_iload_n dX9_init_47 rfl rfl (pc' := 48) rfl ?_
  refine ax_bipush dX9_init_48 (by decide) (pc' := 50) rfl ?_
  refine ax_icmp_ge (tgt := 72) dX9_init_50 (by decide) (pc' := 53) rfl (fun h => absurd h (by decide)) (fun _ => ?_)
  refine ax_aload_n dX9_init_53 rfl rfl (pc' := 54) rfl ?_
  refine ax_getr (v := 276) dX9_init_54 flX9_20 rfl (SN_sh 273 281 (by decide) h0_273) rfl (pc' := 57) rfl ?_
  refine ax_iload_n dX9_init_57 rfl rfl (pc' := 58) rfl ?_
  refine ax_new (I := iX9_init) (kc := 27) (ks := 2232) (n := 281) dX9_init_58 nlX9_18 (SN_len 281 (Nat.le_of_ble_eq_true rfl)) (pc' := 61) rfl ?_
  refine ax_reC (S2 := SN 282) (SN_push h0_281) ?_
  refine ax_dup dX9_init_61 (pc' := 62) rfl ?_
  refine ax_ini (kc1 := 3) (ks1 := 312) (kc := 24) (ks := 1920) [] [.inr 281, .inl 1, .inr 276] dX9_init_62 mlX9_30 (by decide) rfl rfl (by decide) (c_X7_281 E l _ (by omega) _) (pc' := 65) rfl (fun vv SS MM hq _ _ _ => ?_)
  obtain ⟨rfl, rfl, rfl⟩ := hq
  refine ax_reT (st2 := [.inr 281, .inl 1, .inr 276]) rfl ?_
  refine ax_aast dX9_init_65 (SN_sh 276 285 (by decide) h0_276) (by decide) (SN_sh 281 285 (by decide) h0_281) rfl (by decide) (by decide) rfl (by unfold ax_can; decide) (pc' := 66) rfl ?_
  refine ax_iinc dX9_init_66 rfl (by decide) (by decide) (ls' := [some (.inr 273), some (.inl 2)]) rfl (pc' := 69) rfl ?_
  refine ax_goto dX9_init_69 (pc' := 47) (by decide) ?_
  refine ax_iload_n dX9_init_47 rfl rfl (pc' := 48) rfl ?_
  refine ax_bipush dX9_init_48 (by decide) (pc' := 50) rfl ?_
  refine ax_icmp_ge (tgt := 72) dX9_init_50 (by decide) (pc' := 53) rfl (fun h => absurd h (by decide)) (fun _ => ?_)
  refine ax_aload_n dX9_init_53 rfl rfl (pc' := 54) rfl ?_
  refine ax_getr (v := 276) dX9_init_54 flX9_20 rfl (SN_sh 273 285 (by decide) h0_273) rfl (pc' := 57) rfl ?_
  refine ax_iload_n dX9_init_57 rfl rfl (pc' := 58) rfl ?_
  refine ax_new (I := iX9_init) (kc := 23) (ks := 1912) (n := 285) dX9_init_58 nlX9_18 (SN_len 285 (Nat.le_of_ble_eq_true rfl)) (pc' := 61) rfl ?_
  refine ax_reC (S2 := SN 286) (SN_push h0_285) ?_
  refine ax_dup dX9_init_61 (pc' := 62) rfl ?_
  refine ax_ini (kc1 := 3) (ks1 := 312) (kc := 20) (ks := 1600) [] [.inr 285, .inl 2, .inr 276] dX9_init_62 mlX9_30 (by decide) rfl rfl (by decide) (c_X7_285 E l _ (by omega) _) (pc' := 65) rfl (fun vv SS MM hq _ _ _ => ?_)
  obtain ⟨rfl, rfl, rfl⟩ := hq
  refine ax_reT (st2 := [.inr 285, .inl 2, .inr 276]) rfl ?_
  refine ax_aast dX9_init_65 (SN_sh 276 289 (by decide) h0_276) (by decide) (SN_sh 285 289 (by decide) h0_285) rfl (by decide) (by decide) rfl (by unfold ax_can; decide) (pc' := 66) rfl ?_
  refine ax_iinc dX9_init_66 rfl (by decide) (by decide) (ls' := [some (.inr 273), some (.inl 3)]) rfl (pc' := 69) rfl ?_
  refine ax_goto dX9_init_69 (pc' := 47) (by decide) ?_
  refine ax_iload_n dX9_init_47 rfl rfl (pc' := 48) rfl ?_
  refine ax_bipush dX9_init_48 (by decide) (pc' := 50) rfl ?_
  refine ax_icmp_ge (tgt := 72) dX9_init_50 (by decide) (pc' := 53) rfl (fun h => absurd h (by decide)) (fun _ => ?_)
  refine ax_aload_n dX9_init_53 rfl rfl (pc' := 54) rfl ?_
  refine ax_getr (v := 276) dX9_init_54 flX9_20 rfl (SN_sh 273 289 (by decide) h0_273) rfl (pc' := 57) rfl ?_
  refine ax_iload_n dX9_init_57 rfl rfl (pc' := 58) rfl ?_
  refine ax_new (I := iX9_init) (kc := 19) (ks := 1592) (n := 289) dX9_init_58 nlX9_18 (SN_len 289 (Nat.le_of_ble_eq_true rfl)) (pc' := 61) rfl ?_
  refine ax_reC (S2 := SN 290) (SN_push h0_289) ?_
  refine ax_dup dX9_init_61 (pc' := 62) rfl ?_
  refine ax_ini (kc1 := 3) (ks1 := 312) (kc := 16) (ks := 1280) [] [.inr 289, .inl 3, .inr 276] dX9_init_62 mlX9_30 (by decide) rfl rfl (by decide) (c_X7_289 E l _ (by omega) _) (pc' := 65) rfl (fun vv SS MM hq _ _ _ => ?_)
  obtain ⟨rfl, rfl, rfl⟩ := hq
  refine ax_reT (st2 := [.inr 289, .inl 3, .inr 276]) rfl ?_
  refine ax_aast dX9_init_65 (SN_sh 276 293 (by decide) h0_276) (by decide) (SN_sh 289 293 (by decide) h0_289) rfl (by decide) (by decide) rfl (by unfold ax_can; decide) (pc' := 66) rfl ?_
  refine ax_iinc dX9_init_66 rfl (by decide) (by decide) (ls' := [some (.inr 273), some (.inl 4)]) rfl (pc' := 69) rfl ?_
  refine ax_goto dX9_init_69 (pc' := 47) (by decide) ?_
  refine ax_iload_n dX9_init_47 rfl rfl (pc' := 48) rfl ?_
  refine ax_bipush dX9_init_48 (by decide) (pc' := 50) rfl ?_
  refine ax_icmp_ge (tgt := 72) dX9_init_50 (by decide) (pc' := 53) rfl (fun h => absurd h (by decide)) (fun _ => ?_)
  refine ax_aload_n dX9_init_53 rfl rfl (pc' := 54) rfl ?_
  refine ax_getr (v := 276) dX9_init_54 flX9_20 rfl (SN_sh 273 293 (by decide) h0_273) rfl (pc' := 57) rfl ?_
  refine ax_iload_n dX9_init_57 rfl rfl (pc' := 58) rfl ?_
  refine ax_new (I := iX9_init) (kc := 15) (ks := 1272) (n := 293) dX9_init_58 nlX9_18 (SN_len 293 (Nat.le_of_ble_eq_true rfl)) (pc' := 61) rfl ?_
  refine ax_reC (S2 := SN 294) (SN_push h0_293) ?_
  refine ax_dup dX9_init_61 (pc' := 62) rfl ?_
  refine ax_ini (kc1 := 3) (ks1 := 312) (kc := 12) (ks := 960) [] [.inr 293, .inl 4, .inr 276] dX9_init_62 mlX9_30 (by decide) rfl rfl (by decide) (c_X7_293 E l _ (by omega) _) (pc' := 65) rfl (fun vv SS MM hq _ _ _ => ?_)
  obtain ⟨rfl, rfl, rfl⟩ := hq
  refine ax_reT (st2 := [.inr 293, .inl 4, .inr 276]) rfl ?_
  refine ax_aast dX9_init_65 (SN_sh 276 297 (by decide) h0_276) (by decide) (SN_sh 293 297 (by decide) h0_293) rfl (by decide) (by decide) rfl (by unfold ax_can; decide) (pc' := 66) rfl ?_
  refine ax_iinc dX9_init_66 rfl (by decide) (by decide) (ls' := [some (.inr 273), some (.inl 5)]) rfl (pc' := 69) rfl ?_
  refine ax_goto dX9_init_69 (pc' := 47) (by decide) ?_
  refine ax_iload_n dX9_init_47 rfl rfl (pc' := 48) rfl ?_
  refine ax_bipush dX9_init_48 (by decide) (pc' := 50) rfl ?_
  refine ax_icmp_ge (tgt := 72) dX9_init_50 (by decide) (pc' := 53) rfl (fun h => absurd h (by decide)) (fun _ => ?_)
  refine ax_aload_n dX9_init_53 rfl rfl (pc' := 54) rfl ?_
  refine ax_getr (v := 276) dX9_init_54 flX9_20 rfl (SN_sh 273 297 (by decide) h0_273) rfl (pc' := 57) rfl ?_
  refine ax_iload_n dX9_init_57 rfl rfl (pc' := 58) rfl ?_
  refine ax_new (I := iX9_init) (kc := 11) (ks := 952) (n := 297) dX9_init_58 nlX9_18 (SN_len 297 (Nat.le_of_ble_eq_true rfl)) (pc' := 61) rfl ?_
  refine ax_reC (S2 := SN 298) (SN_push h0_297) ?_
  refine ax_dup dX9_init_61 (pc' := 62) rfl ?_
  refine ax_ini (kc1 := 3) (ks1 := 312) (kc := 8) (ks := 640) [] [.inr 297, .inl 5, .inr 276] dX9_init_62 mlX9_30 (by decide) rfl rfl (by decide) (c_X7_297 E l _ (by omega) _) (pc' := 65) rfl (fun vv SS MM hq _ _ _ => ?_)
  obtain ⟨rfl, rfl, rfl⟩ := hq
  refine ax_reT (st2 := [.inr 297, .inl 5, .inr 276]) rfl ?_
  refine ax_aast dX9_init_65 (SN_sh 276 301 (by decide) h0_276) (by decide) (SN_sh 297 301 (by decide) h0_297) rfl (by decide) (by decide) rfl (by unfold ax_can; decide) (pc' := 66) rfl ?_
  refine ax_iinc dX9_init_66 rfl (by decide) (by decide) (ls' := [some (.inr 273), some (.inl 6)]) rfl (pc' := 69) rfl ?_
  refine ax_goto dX9_init_69 (pc' := 47) (by decide) ?_
  refine ax_iload_n dX9_init_47 rfl rfl (pc' := 48) rfl ?_
  refine ax_bipush dX9_init_48 (by decide) (pc' := 50) rfl ?_
  refine ax_icmp_ge (tgt := 72) dX9_init_50 (by decide) (pc' := 53) rfl (fun h => absurd h (by decide)) (fun _ => ?_)
  refine ax_aload_n dX9_init_53 rfl rfl (pc' := 54) rfl ?_
  refine ax_getr (v := 276) dX9_init_54 flX9_20 rfl (SN_sh 273 301 (by decide) h0_273) rfl (pc' := 57) rfl ?_
  refine ax_iload_n dX9_init_57 rfl rfl (pc' := 58) rfl ?_
  refine ax_new (I := iX9_init) (kc := 7) (ks := 632) (n := 301) dX9_init_58 nlX9_18 (SN_len 301 (Nat.le_of_ble_eq_true rfl)) (pc' := 61) rfl ?_
  refine ax_reC (S2 := SN 302) (SN_push h0_301) ?_
  refine ax_dup dX9_init_61 (pc' := 62) rfl ?_
  refine ax_ini (kc1 := 3) (ks1 := 312) (kc := 4) (ks := 320) [] [.inr 301, .inl 6, .inr 276] dX9_init_62 mlX9_30 (by decide) rfl rfl (by decide) (c_X7_301 E l _ (by omega) _) (pc' := 65) rfl (fun vv SS MM hq _ _ _ => ?_)
  obtain ⟨rfl, rfl, rfl⟩ := hq
  refine ax_reT (st2 := [.inr 301, .inl 6, .inr 276]) rfl ?_
  refine ax_aast dX9_init_65 (SN_sh 276 305 (by decide) h0_276) (by decide) (SN_sh 301 305 (by decide) h0_301) rfl (by decide) (by decide) rfl (by unfold ax_can; decide) (pc' := 66) rfl ?_
  refine ax_iinc dX9_init_66 rfl (by decide) (by decide) (ls' := [some (.inr 273), some (.inl 7)]) rfl (pc' := 69) rfl ?_
  refine ax_goto dX9_init_69 (pc' := 47) (by decide) ?_
  refine ax_iload_n dX9_init_47 rfl rfl (pc' := 48) rfl ?_
  refine ax_bipush dX9_init_48 (by decide) (pc' := 50) rfl ?_
  refine ax_icmp_ge (tgt := 72) dX9_init_50 (by decide) (pc' := 53) rfl (fun h => absurd h (by decide)) (fun _ => ?_)
  refine ax_aload_n dX9_init_53 rfl rfl (pc' := 54) rfl ?_
  refine ax_getr (v := 276) dX9_init_54 flX9_20 rfl (SN_sh 273 305 (by decide) h0_273) rfl (pc' := 57) rfl ?_
  refine ax_iload_n dX9_init_57 rfl rfl (pc' := 58) rfl ?_
  refine ax_new (I := iX9_init) (kc := 3) (ks := 312) (n := 305) dX9_init_58 nlX9_18 (SN_len 305 (Nat.le_of_ble_eq_true rfl)) (pc' := 61) rfl ?_
  refine ax_reC (S2 := SN 306) (SN_push h0_305) ?_
  refine ax_dup dX9_init_61 (pc' := 62) rfl ?_
  refine ax_ini (kc1 := 3) (ks1 := 312) (kc := 0) (ks := 0) [] [.inr 305, .inl 7, .inr 276] dX9_init_62 mlX9_30 (by decide) rfl rfl (by decide) (c_X7_305 E l _ (by omega) _) (pc' := 65) rfl (fun vv SS MM hq _ _ _ => ?_)
  obtain ⟨rfl, rfl, rfl⟩ := hq
  refine ax_reT (st2 := [.inr 305, .inl 7, .inr 276]) rfl ?_
  refine ax_aast dX9_init_65 (SN_sh 276 309 (by decide) h0_276) (by decide) (SN_sh 305 309 (by decide) h0_305) rfl (by decide) (by decide) rfl (by unfold ax_can; decide) (pc' := 66) rfl ?_
  refine ax_iinc dX9_init_66 rfl (by decide) (by decide) (ls' := [some (.inr 273), some (.inl 8)]) rfl (pc' := 69) rfl ?_
  refine ax_goto dX9_init_69 (pc' := 47) (by decide) ?_
  refine ax_iload_n dX9_init_47 rfl rfl (pc' := 48) rfl ?_
  refine ax_bipush dX9_init_48 (by decide) (pc' := 50) rfl ?_
  refine ax_icmp_ge (tgt := 72) dX9_init_50 (by decide) (pc' := 53) rfl (fun _ => ?_) (fun h => absurd h (by decide))
  exact ax_vret dX9_init_72 rfl ⟨rfl, rfl, rfl⟩
def f_mX0_309 (M : ax_Mem) : ax_Mem := ax_up (ax_row M 310 (fun _ => 0)) 309 0 310
set_option maxRecDepth 20000 in
theorem c_X0_309 (E : ax_Env) (l : Launch) (d : Nat) (hd : 1 ≤ d) (M : ax_Mem) : ax_M E l d 1 1200 iX0_init [.inr 309] (SN 310) M (fun z0 S2 M2 => z0 = none ∧ S2 = SN 311 ∧ M2 = f_mX0_309 M) := by
  obtain ⟨d, rfl⟩ : ∃ d0, d = d0 + 1 := ⟨d - 1, by omega⟩
  refine ax_enter rfl (by decide) (ls := [some (.inr 309)]) rfl (fun _ hcm => ?_)
  refine ax_aload_n dX0_init_0 rfl rfl (pc' := 1) rfl ?_
  refine ax_oinit dX0_init_1 (by decide) mlX0_3 hx_oi hx_oc (by decide) (pc' := 4) rfl ?_
  refine ax_aload_n dX0_init_4 rfl rfl (pc' := 5) rfl ?_
  refine ax_sipush dX0_init_5 (by decide) (pc' := 8) rfl ?_
  refine ax_newa (kc := 0) (ks := 0) (N := 1200) (n := 310) (v := 1200) dX0_init_8 hx_arr rfl (by decide) (SN_len 310 (Nat.le_of_ble_eq_true rfl)) (pc' := 10) rfl ?_
  refine ax_reC (S2 := SN 311) (SN_push h0_310) ?_
  refine ax_putF dX0_init_10 flX0_11 rfl (fun C T N h => by cases h; rfl) rfl (SN_sh 309 311 (by decide) h0_309) rfl (by unfold ax_can; decide) (pc' := 13) rfl ?_
  exact ax_vret dX0_init_13 rfl ⟨rfl, rfl, rfl⟩
def f_mX1_313 (M : ax_Mem) : ax_Mem := ax_up (ax_row (ax_up (ax_row (ax_up (ax_row (ax_up (ax_row (ax_up (ax_row M 314 (fun _ => 0)) 313 1 314) 315 (fun _ => 0)) 313 2 315) 316 (fun _ => 0)) 313 3 316) 317 (fun _ => 0)) 313 5 317) 318 (fun _ => 0)) 313 6 318
set_option maxRecDepth 20000 in
theorem c_X1_313 (E : ax_Env) (l : Launch) (d : Nat) (hd : 1 ≤ d) (M : ax_Mem) : ax_M E l d 5 458 iX1_init [.inr 313] (SN 314) M (fun z0 S2 M2 => z0 = none ∧ S2 = SN 319 ∧ M2 = f_mX1_313 M) := by
  obtain ⟨d, rfl⟩ : ∃ d0, d = d0 + 1 := ⟨d - 1, by omega⟩
  refine ax_enter rfl (by decide) (ls := [some (.inr 313)]) rfl (fun _ hcm => ?_)
  refine ax_aload_n dX1_init_0 rfl rfl (pc' := 1) rfl ?_
  refine ax_oinit dX1_init_1 (by decide) mlX1_3 hx_oi hx_oc (by decide) (pc' := 4) rfl ?_
  refine ax_aload_n dX1_init_4 rfl rfl (pc' := 5) rfl ?_
  refine ax_sipush dX1_init_5 (by decide) (pc' := 8) rfl ?_
  refine ax_newa (kc := 4) (ks := 308) (N := 150) (n := 314) (v := 150) dX1_init_8 hx_arr rfl (by decide) (SN_len 314 (Nat.le_of_ble_eq_true rfl)) (pc' := 10) rfl ?_
  refine ax_reC (S2 := SN 315) (SN_push h0_314) ?_
  refine ax_putF dX1_init_10 flX1_11 rfl (fun C T N h => by cases h; rfl) rfl (SN_sh 313 315 (by decide) h0_313) rfl (by unfold ax_can; decide) (pc' := 13) rfl ?_
  refine ax_aload_n dX1_init_13 rfl rfl (pc' := 14) rfl ?_
  refine ax_sipush dX1_init_14 (by decide) (pc' := 17) rfl ?_
  refine ax_newa (kc := 3) (ks := 158) (N := 150) (n := 315) (v := 150) dX1_init_17 hx_arr rfl (by decide) (SN_len 315 (Nat.le_of_ble_eq_true rfl)) (pc' := 19) rfl ?_
  refine ax_reC (S2 := SN 316) (SN_push h0_315) ?_
  refine ax_putF dX1_init_19 flX1_15 rfl (fun C T N h => by cases h; rfl) rfl (SN_sh 313 316 (by decide) h0_313) rfl (by unfold ax_can; decide) (pc' := 22) rfl ?_
  refine ax_aload_n dX1_init_22 rfl rfl (pc' := 23) rfl ?_
  refine ax_sipush dX1_init_23 (by decide) (pc' := 26) rfl ?_
  refine ax_newa (kc := 2) (ks := 8) (N := 150) (n := 316) (v := 150) dX1_init_26 hx_arr rfl (by decide) (SN_len 316 (Nat.le_of_ble_eq_true rfl)) (pc' := 28) rfl ?_
  refine ax_reC (S2 := SN 317) (SN_push h0_316) ?_
  refine ax_putF dX1_init_28 flX1_18 rfl (fun C T N h => by cases h; rfl) rfl (SN_sh 313 317 (by decide) h0_313) rfl (by unfold ax_can; decide) (pc' := 31) rfl ?_
  refine ax_aload_n dX1_init_31 rfl rfl (pc' := 32) rfl ?_
  refine ax_iconst dX1_init_32 (by decide) (pc' := 33) rfl ?_
  refine ax_newa (kc := 1) (ks := 4) (N := 4) (n := 317) (v := 4) dX1_init_33 hx_arr rfl (by decide) (SN_len 317 (Nat.le_of_ble_eq_true rfl)) (pc' := 35) rfl ?_
  refine ax_reC (S2 := SN 318) (SN_push h0_317) ?_
  refine ax_putF dX1_init_35 flX1_21 rfl (fun C T N h => by cases h; rfl) rfl (SN_sh 313 318 (by decide) h0_313) rfl (by unfold ax_can; decide) (pc' := 38) rfl ?_
  refine ax_aload_n dX1_init_38 rfl rfl (pc' := 39) rfl ?_
  refine ax_iconst dX1_init_39 (by decide) (pc' := 40) rfl ?_
  refine ax_newa (kc := 0) (ks := 0) (N := 4) (n := 318) (v := 4) dX1_init_40 hx_arr rfl (by decide) (SN_len 318 (Nat.le_of_ble_eq_true rfl)) (pc' := 42) rfl ?_
  refine ax_reC (S2 := SN 319) (SN_push h0_318) ?_
  refine ax_putF dX1_init_42 flX1_24 rfl (fun C T N h => by cases h; rfl) rfl (SN_sh 313 319 (by decide) h0_313) rfl (by unfold ax_can; decide) (pc' := 45) rfl ?_
  exact ax_vret dX1_init_45 rfl ⟨rfl, rfl, rfl⟩
def f_mX3_324 (M : ax_Mem) : ax_Mem := ax_up (ax_row M 325 (fun _ => 0)) 324 2 325
set_option maxRecDepth 20000 in
theorem c_X3_324 (E : ax_Env) (l : Launch) (d : Nat) (hd : 1 ≤ d) (M : ax_Mem) : ax_M E l d 1 400 iX3_init [.inr 324] (SN 325) M (fun z0 S2 M2 => z0 = none ∧ S2 = SN 326 ∧ M2 = f_mX3_324 M) := by
  obtain ⟨d, rfl⟩ : ∃ d0, d = d0 + 1 := ⟨d - 1, by omega⟩
  refine ax_enter rfl (by decide) (ls := [some (.inr 324)]) rfl (fun _ hcm => ?_)
  refine ax_aload_n dX3_init_0 rfl rfl (pc' := 1) rfl ?_
  refine ax_oinit dX3_init_1 (by decide) mlX3_5 hx_oi hx_oc (by decide) (pc' := 4) rfl ?_
  refine ax_aload_n dX3_init_4 rfl rfl (pc' := 5) rfl ?_
  refine ax_sipush dX3_init_5 (by decide) (pc' := 8) rfl ?_
  refine ax_newa (kc := 0) (ks := 0) (N := 400) (n := 325) (v := 400) dX3_init_8 hx_arr rfl (by decide) (SN_len 325 (Nat.le_of_ble_eq_true rfl)) (pc' := 10) rfl ?_
  refine ax_reC (S2 := SN 326) (SN_push h0_325) ?_
  refine ax_putF dX3_init_10 flX3_11 rfl (fun C T N h => by cases h; rfl) rfl (SN_sh 324 326 (by decide) h0_324) rfl (by unfold ax_can; decide) (pc' := 13) rfl ?_
  exact ax_vret dX3_init_13 rfl ⟨rfl, rfl, rfl⟩
def f_mX3_326 (M : ax_Mem) : ax_Mem := ax_up (ax_row M 327 (fun _ => 0)) 326 2 327
set_option maxRecDepth 20000 in
theorem c_X3_326 (E : ax_Env) (l : Launch) (d : Nat) (hd : 1 ≤ d) (M : ax_Mem) : ax_M E l d 1 400 iX3_init [.inr 326] (SN 327) M (fun z0 S2 M2 => z0 = none ∧ S2 = SN 328 ∧ M2 = f_mX3_326 M) := by
  obtain ⟨d, rfl⟩ : ∃ d0, d = d0 + 1 := ⟨d - 1, by omega⟩
  refine ax_enter rfl (by decide) (ls := [some (.inr 326)]) rfl (fun _ hcm => ?_)
  refine ax_aload_n dX3_init_0 rfl rfl (pc' := 1) rfl ?_
  refine ax_oinit dX3_init_1 (by decide) mlX3_5 hx_oi hx_oc (by decide) (pc' := 4) rfl ?_
  refine ax_aload_n dX3_init_4 rfl rfl (pc' := 5) rfl ?_
  refine ax_sipush dX3_init_5 (by decide) (pc' := 8) rfl ?_
  refine ax_newa (kc := 0) (ks := 0) (N := 400) (n := 327) (v := 400) dX3_init_8 hx_arr rfl (by decide) (SN_len 327 (Nat.le_of_ble_eq_true rfl)) (pc' := 10) rfl ?_
  refine ax_reC (S2 := SN 328) (SN_push h0_327) ?_
  refine ax_putF dX3_init_10 flX3_11 rfl (fun C T N h => by cases h; rfl) rfl (SN_sh 326 328 (by decide) h0_326) rfl (by unfold ax_can; decide) (pc' := 13) rfl ?_
  exact ax_vret dX3_init_13 rfl ⟨rfl, rfl, rfl⟩
def f_mX3_328 (M : ax_Mem) : ax_Mem := ax_up (ax_row M 329 (fun _ => 0)) 328 2 329
set_option maxRecDepth 20000 in
theorem c_X3_328 (E : ax_Env) (l : Launch) (d : Nat) (hd : 1 ≤ d) (M : ax_Mem) : ax_M E l d 1 400 iX3_init [.inr 328] (SN 329) M (fun z0 S2 M2 => z0 = none ∧ S2 = SN 330 ∧ M2 = f_mX3_328 M) := by
  obtain ⟨d, rfl⟩ : ∃ d0, d = d0 + 1 := ⟨d - 1, by omega⟩
  refine ax_enter rfl (by decide) (ls := [some (.inr 328)]) rfl (fun _ hcm => ?_)
  refine ax_aload_n dX3_init_0 rfl rfl (pc' := 1) rfl ?_
  refine ax_oinit dX3_init_1 (by decide) mlX3_5 hx_oi hx_oc (by decide) (pc' := 4) rfl ?_
  refine ax_aload_n dX3_init_4 rfl rfl (pc' := 5) rfl ?_
  refine ax_sipush dX3_init_5 (by decide) (pc' := 8) rfl ?_
  refine ax_newa (kc := 0) (ks := 0) (N := 400) (n := 329) (v := 400) dX3_init_8 hx_arr rfl (by decide) (SN_len 329 (Nat.le_of_ble_eq_true rfl)) (pc' := 10) rfl ?_
  refine ax_reC (S2 := SN 330) (SN_push h0_329) ?_
  refine ax_putF dX3_init_10 flX3_11 rfl (fun C T N h => by cases h; rfl) rfl (SN_sh 328 330 (by decide) h0_328) rfl (by unfold ax_can; decide) (pc' := 13) rfl ?_
  exact ax_vret dX3_init_13 rfl ⟨rfl, rfl, rfl⟩
def f_mX4_311 (M : ax_Mem) : ax_Mem := ax_up (f_mX3_328 (ax_row (ax_up (f_mX3_326 (ax_row (ax_up (f_mX3_324 (ax_row (ax_up (ax_row (ax_up (ax_row (ax_up (ax_row (ax_up (ax_row (ax_up (ax_row (ax_up (f_mX1_313 (ax_row (ax_up (ax_row M 312 (fun _ => -1)) 311 0 312) 313 (ax_zero 1))) 311 1 313) 319 (fun _ => 0)) 311 2 319) 320 (fun _ => 0)) 311 3 320) 321 (fun _ => 0)) 311 4 321) 322 (fun _ => 0)) 311 5 322) 323 (fun _ => 0)) 311 7 323) 324 (ax_zero 3))) 312 0 324) 326 (ax_zero 3))) 312 1 326) 328 (ax_zero 3))) 312 2 328
set_option maxRecDepth 20000 in
theorem c_X4_311 (E : ax_Env) (l : Launch) (d : Nat) (hd : 2 ≤ d) (M : ax_Mem) : ax_M E l d 18 1728 iX4_init [.inr 311] (SN 312) M (fun z0 S2 M2 => z0 = none ∧ S2 = SN 330 ∧ M2 = f_mX4_311 M) := by
  obtain ⟨d, rfl⟩ : ∃ d0, d = d0 + 1 := ⟨d - 1, by omega⟩
  refine ax_enter rfl (by decide) (ls := [some (.inr 311), none]) rfl (fun _ hcm => ?_)
  refine ax_aload_n dX4_init_0 rfl rfl (pc' := 1) rfl ?_
  refine ax_oinit dX4_init_1 (by decide) mlX4_3 hx_oi hx_oc (by decide) (pc' := 4) rfl ?_
  refine ax_aload_n dX4_init_4 rfl rfl (pc' := 5) rfl ?_
  refine ax_iconst dX4_init_5 (by decide) (pc' := 6) rfl ?_
  refine ax_newq (ci := 16) (kc := 17) (ks := 1725) (N := 3) (n := 312) (v := 3) dX4_init_6 (by decide) alX4_9 rfl (by decide) (SN_len 312 (Nat.le_of_ble_eq_true rfl)) (pc' := 9) rfl ?_
  refine ax_reC (S2 := SN 313) (SN_push h0_312) ?_
  refine ax_putF dX4_init_9 flX4_11 rfl (fun C T N h => by cases h; rfl) rfl (SN_sh 311 313 (by decide) h0_311) rfl (by unfold ax_can; decide) (pc' := 12) rfl ?_
  refine ax_aload_n dX4_init_12 rfl rfl (pc' := 13) rfl ?_
  refine ax_new (I := iX4_init) (kc := 16) (ks := 1718) (n := 313) dX4_init_13 nlX4_17 (SN_len 313 (Nat.le_of_ble_eq_true rfl)) (pc' := 16) rfl ?_
  refine ax_reC (S2 := SN 314) (SN_push h0_313) ?_
  refine ax_dup dX4_init_16 (pc' := 17) rfl ?_
  refine ax_ini (kc1 := 5) (ks1 := 458) (kc := 11) (ks := 1260) [] [.inr 313, .inr 311] dX4_init_17 mlX4_19 (by decide) rfl rfl (by decide) (c_X1_313 E l _ (by omega) _) (pc' := 20) rfl (fun vv SS MM hq _ _ _ => ?_)
  obtain ⟨rfl, rfl, rfl⟩ := hq
  refine ax_reT (st2 := [.inr 313, .inr 311]) rfl ?_
  refine ax_putF dX4_init_20 flX4_20 rfl (fun C T N h => by cases h; rfl) rfl (SN_sh 311 319 (by decide) h0_311) rfl (by unfold ax_can; decide) (pc' := 23) rfl ?_
  refine ax_aload_n dX4_init_23 rfl rfl (pc' := 24) rfl ?_
  refine ax_bipush dX4_init_24 (by decide) (pc' := 26) rfl ?_
  refine ax_newa (kc := 10) (ks := 1232) (N := 28) (n := 319) (v := 28) dX4_init_26 hx_arr rfl (by decide) (SN_len 319 (Nat.le_of_ble_eq_true rfl)) (pc' := 28) rfl ?_
  refine ax_reC (S2 := SN 320) (SN_push h0_319) ?_
  refine ax_putF dX4_init_28 flX4_24 rfl (fun C T N h => by cases h; rfl) rfl (SN_sh 311 320 (by decide) h0_311) rfl (by unfold ax_can; decide) (pc' := 31) rfl ?_
  refine ax_aload_n dX4_init_31 rfl rfl (pc' := 32) rfl ?_
  refine ax_iconst dX4_init_32 (by decide) (pc' := 33) rfl ?_
  refine ax_newa (kc := 9) (ks := 1228) (N := 4) (n := 320) (v := 4) dX4_init_33 hx_arr rfl (by decide) (SN_len 320 (Nat.le_of_ble_eq_true rfl)) (pc' := 35) rfl ?_
  refine ax_reC (S2 := SN 321) (SN_push h0_320) ?_
  refine ax_putF dX4_init_35 flX4_28 rfl (fun C T N h => by cases h; rfl) rfl (SN_sh 311 321 (by decide) h0_311) rfl (by unfold ax_can; decide) (pc' := 38) rfl ?_
  refine ax_aload_n dX4_init_38 rfl rfl (pc' := 39) rfl ?_
  refine ax_bipush dX4_init_39 (by decide) (pc' := 41) rfl ?_
  refine ax_newa (kc := 8) (ks := 1222) (N := 6) (n := 321) (v := 6) dX4_init_41 hx_arr rfl (by decide) (SN_len 321 (Nat.le_of_ble_eq_true rfl)) (pc' := 43) rfl ?_
  refine ax_reC (S2 := SN 322) (SN_push h0_321) ?_
  refine ax_putF dX4_init_43 flX4_31 rfl (fun C T N h => by cases h; rfl) rfl (SN_sh 311 322 (by decide) h0_311) rfl (by unfold ax_can; decide) (pc' := 46) rfl ?_
  refine ax_aload_n dX4_init_46 rfl rfl (pc' := 47) rfl ?_
  refine ax_bipush dX4_init_47 (by decide) (pc' := 49) rfl ?_
  refine ax_newa (kc := 7) (ks := 1216) (N := 6) (n := 322) (v := 6) dX4_init_49 hx_arr rfl (by decide) (SN_len 322 (Nat.le_of_ble_eq_true rfl)) (pc' := 51) rfl ?_
  refine ax_reC (S2 := SN 323) (SN_push h0_322) ?_
  refine ax_putF dX4_init_51 flX4_34 rfl (fun C T N h => by cases h; rfl) rfl (SN_sh 311 323 (by decide) h0_311) rfl (by unfold ax_can; decide) (pc' := 54) rfl ?_
  refine ax_aload_n dX4_init_54 rfl rfl (pc' := 55) rfl ?_
  refine ax_bipush dX4_init_55 (by decide) (pc' := 57) rfl ?_
  refine ax_newa (kc := 6) (ks := 1209) (N := 7) (n := 323) (v := 7) dX4_init_57 hx_arr rfl (by decide) (SN_len 323 (Nat.le_of_ble_eq_true rfl)) (pc' := 59) rfl ?_
  refine ax_reC (S2 := SN 324) (SN_push h0_323) ?_
  refine ax_putF dX4_init_59 flX4_37 rfl (fun C T N h => by cases h; rfl) rfl (SN_sh 311 324 (by decide) h0_311) rfl (by unfold ax_can; decide) (pc' := 62) rfl ?_
  refine ax_iconst dX4_init_62 (by decide) (pc' := 63) rfl ?_
  refine ax_istore_n dX4_init_63 rfl (by decide) (ls' := [some (.inr 311), some (.inl 0)]) rfl (pc' := 64) rfl ?_
  refine ax_iload_n dX4_init_64 rfl rfl (pc' := 65) rfl ?_
  refine ax_iconst dX4_init_65 (by decide) (pc' := 66) rfl ?_
  refine ax_icmp_ge (tgt := 88) dX4_init_66 (by decide) (pc' := 69) rfl (fun h => absurd h (by decide)) (fun _ => ?_)
  refine ax_aload_n dX4_init_69 rfl rfl (pc' := 70) rfl ?_
  refine ax_getr (v := 312) dX4_init_70 flX4_11 rfl (SN_sh 311 324 (by decide) h0_311) rfl (pc' := 73) rfl ?_
  refine ax_iload_n dX4_init_73 rfl rfl (pc' := 74) rfl ?_
  refine ax_new (I := iX4_init) (kc := 5) (ks := 1206) (n := 324) dX4_init_74 nlX4_9 (SN_len 324 (Nat.le_of_ble_eq_true rfl)) (pc' := 77) rfl ?_
  refine ax_reC (S2 := SN 325) (SN_push h0_324) ?_
  refine ax_dup dX4_init_77 (pc' := 78) rfl ?_
  refine ax_ini (kc1 := 1) (ks1 := 400) (kc := 4) (ks := 806) [] [.inr 324, .inl 0, .inr 312] dX4_init_78 mlX4_40 (by decide) rfl rfl (by decide) (c_X3_324 E l _ (by omega) _) (pc' := 81) rfl (fun vv SS MM hq _ _ _ => ?_)
  obtain ⟨rfl, rfl, rfl⟩ := hq
  refine ax_reT (st2 := [.inr 324, .inl 0, .inr 312]) rfl ?_
  refine ax_aast dX4_init_81 (SN_sh 312 326 (by decide) h0_312) (by decide) (SN_sh 324 326 (by decide) h0_324) rfl (by decide) (by decide) rfl (by unfold ax_can; decide) (pc' := 82) rfl ?_
  refine ax_iinc dX4_init_82 rfl (by decide) (by decide) (ls' := [some (.inr 311), some (.inl 1)]) rfl (pc' := 85) rfl ?_
  refine ax_goto dX4_init_85 (pc' := 64) (by decide) ?_
  refine ax_iload_n dX4_init_64 rfl rfl (pc' := 65) rfl ?_
  refine ax_iconst dX4_init_65 (by decide) (pc' := 66) rfl ?_
  refine ax_icmp_ge (tgt := 88) dX4_init_66 (by decide) (pc' := 69) rfl (fun h => absurd h (by decide)) (fun _ => ?_)
  refine ax_aload_n dX4_init_69 rfl rfl (pc' := 70) rfl ?_
  refine ax_getr (v := 312) dX4_init_70 flX4_11 rfl (SN_sh 311 326 (by decide) h0_311) rfl (pc' := 73) rfl ?_
  refine ax_iload_n dX4_init_73 rfl rfl (pc' := 74) rfl ?_
  refine ax_new (I := iX4_init) (kc := 3) (ks := 803) (n := 326) dX4_init_74 nlX4_9 (SN_len 326 (Nat.le_of_ble_eq_true rfl)) (pc' := 77) rfl ?_
  refine ax_reC (S2 := SN 327) (SN_push h0_326) ?_
  refine ax_dup dX4_init_77 (pc' := 78) rfl ?_
  refine ax_ini (kc1 := 1) (ks1 := 400) (kc := 2) (ks := 403) [] [.inr 326, .inl 1, .inr 312] dX4_init_78 mlX4_40 (by decide) rfl rfl (by decide) (c_X3_326 E l _ (by omega) _) (pc' := 81) rfl (fun vv SS MM hq _ _ _ => ?_)
  obtain ⟨rfl, rfl, rfl⟩ := hq
  refine ax_reT (st2 := [.inr 326, .inl 1, .inr 312]) rfl ?_
  refine ax_aast dX4_init_81 (SN_sh 312 328 (by decide) h0_312) (by decide) (SN_sh 326 328 (by decide) h0_326) rfl (by decide) (by decide) rfl (by unfold ax_can; decide) (pc' := 82) rfl ?_
  refine ax_iinc dX4_init_82 rfl (by decide) (by decide) (ls' := [some (.inr 311), some (.inl 2)]) rfl (pc' := 85) rfl ?_
  refine ax_goto dX4_init_85 (pc' := 64) (by decide) ?_
  refine ax_iload_n dX4_init_64 rfl rfl (pc' := 65) rfl ?_
  refine ax_iconst dX4_init_65 (by decide) (pc' := 66) rfl ?_
  refine ax_icmp_ge (tgt := 88) dX4_init_66 (by decide) (pc' := 69) rfl (fun h => absurd h (by decide)) (fun _ => ?_)
  refine ax_aload_n dX4_init_69 rfl rfl (pc' := 70) rfl ?_
  refine ax_getr (v := 312) dX4_init_70 flX4_11 rfl (SN_sh 311 328 (by decide) h0_311) rfl (pc' := 73) rfl ?_
  refine ax_iload_n dX4_init_73 rfl rfl (pc' := 74) rfl ?_
  refine ax_new (I := iX4_init) (kc := 1) (ks := 400) (n := 328) dX4_init_74 nlX4_9 (SN_len 328 (Nat.le_of_ble_eq_true rfl)) (pc' := 77) rfl ?_
  refine ax_reC (S2 := SN 329) (SN_push h0_328) ?_
  refine ax_dup dX4_init_77 (pc' := 78) rfl ?_
  refine ax_ini (kc1 := 1) (ks1 := 400) (kc := 0) (ks := 0) [] [.inr 328, .inl 2, .inr 312] dX4_init_78 mlX4_40 (by decide) rfl rfl (by decide) (c_X3_328 E l _ (by omega) _) (pc' := 81) rfl (fun vv SS MM hq _ _ _ => ?_)
  obtain ⟨rfl, rfl, rfl⟩ := hq
  refine ax_reT (st2 := [.inr 328, .inl 2, .inr 312]) rfl ?_
  refine ax_aast dX4_init_81 (SN_sh 312 330 (by decide) h0_312) (by decide) (SN_sh 328 330 (by decide) h0_328) rfl (by decide) (by decide) rfl (by unfold ax_can; decide) (pc' := 82) rfl ?_
  refine ax_iinc dX4_init_82 rfl (by decide) (by decide) (ls' := [some (.inr 311), some (.inl 3)]) rfl (pc' := 85) rfl ?_
  refine ax_goto dX4_init_85 (pc' := 64) (by decide) ?_
  refine ax_iload_n dX4_init_64 rfl rfl (pc' := 65) rfl ?_
  refine ax_iconst dX4_init_65 (by decide) (pc' := 66) rfl ?_
  refine ax_icmp_ge (tgt := 88) dX4_init_66 (by decide) (pc' := 69) rfl (fun _ => ?_) (fun h => absurd h (by decide))
  exact ax_vret dX4_init_88 rfl ⟨rfl, rfl, rfl⟩
