/-! METHODS AND SHAPES BY NAME -/
theorem hm_0 : xi_ms[0]? = some xi_m0 := rfl
theorem hm_1 : xi_ms[1]? = some xi_m1 := rfl
theorem hm_2 : xi_ms[2]? = some xi_m2 := rfl
theorem hm_3 : xi_ms[3]? = some xi_m3 := rfl
theorem hm_4 : xi_ms[4]? = some xi_m4 := rfl
theorem hm_5 : xi_ms[5]? = some xi_m5 := rfl
theorem hm_6 : xi_ms[6]? = some xi_m6 := rfl
theorem hm_7 : xi_ms[7]? = some xi_m7 := rfl
theorem hm_8 : xi_ms[8]? = some xi_m8 := rfl
theorem hm_9 : xi_ms[9]? = some xi_m9 := rfl
theorem hm_10 : xi_ms[10]? = some xi_m10 := rfl
theorem hm_11 : xi_ms[11]? = some xi_m11 := rfl
theorem hm_12 : xi_ms[12]? = some xi_m12 := rfl
theorem hm_13 : xi_ms[13]? = some xi_m13 := rfl
theorem hm_14 : xi_ms[14]? = some xi_m14 := rfl
theorem hm_15 : xi_ms[15]? = some xi_m15 := rfl
theorem hm_16 : xi_ms[16]? = some xi_m16 := rfl
theorem hm_17 : xi_ms[17]? = some xi_m17 := rfl
theorem hm_18 : xi_ms[18]? = some xi_m18 := rfl
theorem hm_19 : xi_ms[19]? = some xi_m19 := rfl
theorem hm_20 : xi_ms[20]? = some xi_m20 := rfl
theorem hm_21 : xi_ms[21]? = some xi_m21 := rfl
theorem hm_22 : xi_ms[22]? = some xi_m22 := rfl
theorem hm_23 : xi_ms[23]? = some xi_m23 := rfl
theorem hm_24 : xi_ms[24]? = some xi_m24 := rfl
theorem hm_25 : xi_ms[25]? = some xi_m25 := rfl
theorem hm_26 : xi_ms[26]? = some xi_m26 := rfl
theorem hm_27 : xi_ms[27]? = some xi_m27 := rfl
theorem hm_28 : xi_ms[28]? = some xi_m28 := rfl
theorem hm_29 : xi_ms[29]? = some xi_m29 := rfl
theorem hm_30 : xi_ms[30]? = some xi_m30 := rfl
theorem hm_31 : xi_ms[31]? = some xi_m31 := rfl
theorem hm_32 : xi_ms[32]? = some xi_m32 := rfl
theorem hm_33 : xi_ms[33]? = some xi_m33 := rfl
theorem hm_34 : xi_ms[34]? = some xi_m34 := rfl
theorem hm_35 : xi_ms[35]? = some xi_m35 := rfl
theorem hm_36 : xi_ms[36]? = some xi_m36 := rfl
theorem hm_37 : xi_ms[37]? = some xi_m37 := rfl
theorem hm_38 : xi_ms[38]? = some xi_m38 := rfl
theorem hm_39 : xi_ms[39]? = some xi_m39 := rfl
theorem hm_40 : xi_ms[40]? = some xi_m40 := rfl
theorem hm_41 : xi_ms[41]? = some xi_m41 := rfl
theorem hm_42 : xi_ms[42]? = some xi_m42 := rfl
theorem hm_43 : xi_ms[43]? = some xi_m43 := rfl
theorem hm_44 : xi_ms[44]? = some xi_m44 := rfl
theorem hm_45 : xi_ms[45]? = some xi_m45 := rfl
theorem hm_46 : xi_ms[46]? = some xi_m46 := rfl
theorem hm_47 : xi_ms[47]? = some xi_m47 := rfl
theorem hm_48 : xi_ms[48]? = some xi_m48 := rfl
theorem hm_49 : xi_ms[49]? = some xi_m49 := rfl
theorem hm_50 : xi_ms[50]? = some xi_m50 := rfl
theorem hm_51 : xi_ms[51]? = some xi_m51 := rfl
theorem hm_52 : xi_ms[52]? = some xi_m52 := rfl
theorem hm_53 : xi_ms[53]? = some xi_m53 := rfl
theorem hm_54 : xi_ms[54]? = some xi_m54 := rfl
theorem hm_55 : xi_ms[55]? = some xi_m55 := rfl
theorem hm_56 : xi_ms[56]? = some xi_m56 := rfl
theorem hm_57 : xi_ms[57]? = some xi_m57 := rfl
theorem hm_58 : xi_ms[58]? = some xi_m58 := rfl
theorem hm_59 : xi_ms[59]? = some xi_m59 := rfl
theorem hm_60 : xi_ms[60]? = some xi_m60 := rfl
theorem hm_61 : xi_ms[61]? = some xi_m61 := rfl
theorem hm_62 : xi_ms[62]? = some xi_m62 := rfl
theorem hm_63 : xi_ms[63]? = some xi_m63 := rfl
theorem hm_64 : xi_ms[64]? = some xi_m64 := rfl
theorem hm_65 : xi_ms[65]? = some xi_m65 := rfl
theorem hm_66 : xi_ms[66]? = some xi_m66 := rfl
theorem hm_67 : xi_ms[67]? = some xi_m67 := rfl
theorem hm_68 : xi_ms[68]? = some xi_m68 := rfl
theorem hm_69 : xi_ms[69]? = some xi_m69 := rfl
theorem hm_70 : xi_ms[70]? = some xi_m70 := rfl
theorem hm_71 : xi_ms[71]? = some xi_m71 := rfl
theorem hm_72 : xi_ms[72]? = some xi_m72 := rfl
theorem hm_73 : xi_ms[73]? = some xi_m73 := rfl
theorem hm_74 : xi_ms[74]? = some xi_m74 := rfl
theorem hm_75 : xi_ms[75]? = some xi_m75 := rfl
theorem hm_76 : xi_ms[76]? = some xi_m76 := rfl
theorem hm_77 : xi_ms[77]? = some xi_m77 := rfl
theorem hm_78 : xi_ms[78]? = some xi_m78 := rfl
theorem hm_79 : xi_ms[79]? = some xi_m79 := rfl
theorem hm_80 : xi_ms[80]? = some xi_m80 := rfl
theorem hm_81 : xi_ms[81]? = some xi_m81 := rfl
theorem hm_82 : xi_ms[82]? = some xi_m82 := rfl
theorem hm_83 : xi_ms[83]? = some xi_m83 := rfl
theorem hm_84 : xi_ms[84]? = some xi_m84 := rfl
theorem hm_85 : xi_ms[85]? = some xi_m85 := rfl
theorem hm_86 : xi_ms[86]? = some xi_m86 := rfl
theorem hm_87 : xi_ms[87]? = some xi_m87 := rfl
theorem hm_88 : xi_ms[88]? = some xi_m88 := rfl
theorem hm_89 : xi_ms[89]? = some xi_m89 := rfl
theorem hm_90 : xi_ms[90]? = some xi_m90 := rfl
theorem hm_91 : xi_ms[91]? = some xi_m91 := rfl
theorem hm_92 : xi_ms[92]? = some xi_m92 := rfl
theorem hm_93 : xi_ms[93]? = some xi_m93 := rfl
theorem hm_94 : xi_ms[94]? = some xi_m94 := rfl
theorem hm_95 : xi_ms[95]? = some xi_m95 := rfl
theorem hm_96 : xi_ms[96]? = some xi_m96 := rfl
theorem hm_97 : xi_ms[97]? = some xi_m97 := rfl
theorem hm_98 : xi_ms[98]? = some xi_m98 := rfl
theorem hm_99 : xi_ms[99]? = some xi_m99 := rfl
theorem hm_100 : xi_ms[100]? = some xi_m100 := rfl
theorem hm_101 : xi_ms[101]? = some xi_m101 := rfl
theorem hm_102 : xi_ms[102]? = some xi_m102 := rfl
theorem hm_103 : xi_ms[103]? = some xi_m103 := rfl
theorem hm_104 : xi_ms[104]? = some xi_m104 := rfl
theorem hm_105 : xi_ms[105]? = some xi_m105 := rfl
theorem hm_106 : xi_ms[106]? = some xi_m106 := rfl
theorem hm_107 : xi_ms[107]? = some xi_m107 := rfl
theorem hm_108 : xi_ms[108]? = some xi_m108 := rfl
theorem hm_109 : xi_ms[109]? = some xi_m109 := rfl
theorem hm_110 : xi_ms[110]? = some xi_m110 := rfl
theorem hm_111 : xi_ms[111]? = some xi_m111 := rfl
theorem hm_112 : xi_ms[112]? = some xi_m112 := rfl
theorem hm_113 : xi_ms[113]? = some xi_m113 := rfl
theorem hm_114 : xi_ms[114]? = some xi_m114 := rfl
theorem hm_115 : xi_ms[115]? = some xi_m115 := rfl
theorem hm_116 : xi_ms[116]? = some xi_m116 := rfl
theorem hm_117 : xi_ms[117]? = some xi_m117 := rfl
theorem hm_118 : xi_ms[118]? = some xi_m118 := rfl
theorem hm_119 : xi_ms[119]? = some xi_m119 := rfl
theorem hm_120 : xi_ms[120]? = some xi_m120 := rfl
theorem hm_121 : xi_ms[121]? = some xi_m121 := rfl
theorem hm_122 : xi_ms[122]? = some xi_m122 := rfl
theorem hm_123 : xi_ms[123]? = some xi_m123 := rfl
theorem hm_124 : xi_ms[124]? = some xi_m124 := rfl
theorem hm_125 : xi_ms[125]? = some xi_m125 := rfl
theorem hm_126 : xi_ms[126]? = some xi_m126 := rfl
theorem hm_127 : xi_ms[127]? = some xi_m127 := rfl
theorem hm_128 : xi_ms[128]? = some xi_m128 := rfl
theorem hm_129 : xi_ms[129]? = some xi_m129 := rfl
theorem hm_130 : xi_ms[130]? = some xi_m130 := rfl
theorem hm_131 : xi_ms[131]? = some xi_m131 := rfl
theorem hm_132 : xi_ms[132]? = some xi_m132 := rfl
theorem hm_133 : xi_ms[133]? = some xi_m133 := rfl
theorem hm_134 : xi_ms[134]? = some xi_m134 := rfl
theorem hm_135 : xi_ms[135]? = some xi_m135 := rfl
theorem hm_136 : xi_ms[136]? = some xi_m136 := rfl
theorem hm_137 : xi_ms[137]? = some xi_m137 := rfl
theorem hm_138 : xi_ms[138]? = some xi_m138 := rfl
theorem hm_139 : xi_ms[139]? = some xi_m139 := rfl
theorem hm_140 : xi_ms[140]? = some xi_m140 := rfl
theorem hm_141 : xi_ms[141]? = some xi_m141 := rfl
theorem hm_142 : xi_ms[142]? = some xi_m142 := rfl
theorem hm_143 : xi_ms[143]? = some xi_m143 := rfl
theorem hm_144 : xi_ms[144]? = some xi_m144 := rfl
theorem hm_145 : xi_ms[145]? = some xi_m145 := rfl
theorem hm_146 : xi_ms[146]? = some xi_m146 := rfl
theorem hm_147 : xi_ms[147]? = some xi_m147 := rfl
theorem hm_148 : xi_ms[148]? = some xi_m148 := rfl
theorem hm_149 : xi_ms[149]? = some xi_m149 := rfl
theorem hm_150 : xi_ms[150]? = some xi_m150 := rfl
theorem hm_151 : xi_ms[151]? = some xi_m151 := rfl
theorem hm_152 : xi_ms[152]? = some xi_m152 := rfl
theorem hm_153 : xi_ms[153]? = some xi_m153 := rfl
theorem hm_154 : xi_ms[154]? = some xi_m154 := rfl
theorem hm_155 : xi_ms[155]? = some xi_m155 := rfl
theorem hm_156 : xi_ms[156]? = some xi_m156 := rfl
theorem hm_157 : xi_ms[157]? = some xi_m157 := rfl
theorem hm_158 : xi_ms[158]? = some xi_m158 := rfl
theorem hm_159 : xi_ms[159]? = some xi_m159 := rfl
theorem hm_160 : xi_ms[160]? = some xi_m160 := rfl
theorem hm_161 : xi_ms[161]? = some xi_m161 := rfl
theorem hm_162 : xi_ms[162]? = some xi_m162 := rfl
theorem hm_163 : xi_ms[163]? = some xi_m163 := rfl
theorem hm_164 : xi_ms[164]? = some xi_m164 := rfl
theorem hm_165 : xi_ms[165]? = some xi_m165 := rfl
theorem hm_166 : xi_ms[166]? = some xi_m166 := rfl
theorem hm_167 : xi_ms[167]? = some xi_m167 := rfl
theorem hm_168 : xi_ms[168]? = some xi_m168 := rfl
theorem hm_169 : xi_ms[169]? = some xi_m169 := rfl
theorem hm_170 : xi_ms[170]? = some xi_m170 := rfl
theorem hm_171 : xi_ms[171]? = some xi_m171 := rfl
theorem hm_172 : xi_ms[172]? = some xi_m172 := rfl
theorem hm_173 : xi_ms[173]? = some xi_m173 := rfl
theorem hm_174 : xi_ms[174]? = some xi_m174 := rfl
theorem hm_175 : xi_ms[175]? = some xi_m175 := rfl
theorem hm_176 : xi_ms[176]? = some xi_m176 := rfl
theorem hm_177 : xi_ms[177]? = some xi_m177 := rfl
theorem hm_178 : xi_ms[178]? = some xi_m178 := rfl
theorem hm_179 : xi_ms[179]? = some xi_m179 := rfl
theorem hm_180 : xi_ms[180]? = some xi_m180 := rfl
theorem hm_181 : xi_ms[181]? = some xi_m181 := rfl
theorem hm_182 : xi_ms[182]? = some xi_m182 := rfl
theorem hm_183 : xi_ms[183]? = some xi_m183 := rfl
theorem hm_184 : xi_ms[184]? = some xi_m184 := rfl
theorem hm_185 : xi_ms[185]? = some xi_m185 := rfl
theorem hm_186 : xi_ms[186]? = some xi_m186 := rfl
theorem hm_187 : xi_ms[187]? = some xi_m187 := rfl
theorem hm_188 : xi_ms[188]? = some xi_m188 := rfl
theorem hm_189 : xi_ms[189]? = some xi_m189 := rfl
theorem hm_190 : xi_ms[190]? = some xi_m190 := rfl
theorem hm_191 : xi_ms[191]? = some xi_m191 := rfl
theorem hm_192 : xi_ms[192]? = some xi_m192 := rfl
theorem hm_193 : xi_ms[193]? = some xi_m193 := rfl
theorem hm_194 : xi_ms[194]? = some xi_m194 := rfl
theorem hm_195 : xi_ms[195]? = some xi_m195 := rfl
theorem hm_196 : xi_ms[196]? = some xi_m196 := rfl
theorem sc_0 : sh_T[0]? = some (2, 0, [4, 10, 107, 121, 123, 334, 343, 0, 0, 345, 0, 346, 0]) := by decide +kernel
theorem sc_1 : sh_T[1]? = some (2, 1, [5, 0, 6, 7, 8, 9, 0, 0, 0]) := by decide +kernel
theorem sc_2 : sh_T[2]? = some (0, 2, [600]) := by decide +kernel
theorem sc_3 : sh_T[3]? = some (0, 0, [601]) := by decide +kernel
theorem sc_4 : sh_T[4]? = some (0, 0, [601]) := by decide +kernel
theorem sc_5 : sh_T[5]? = some (0, 0, [601]) := by decide +kernel
theorem sc_6 : sh_T[6]? = some (0, 1, [601]) := by decide +kernel
theorem sc_7 : sh_T[7]? = some (2, 2, [1, 11, 14, 17, 18, 21, 22, 23]) := by decide +kernel
theorem sc_8 : sh_T[8]? = some (2, 3, [12, 13, 0]) := by decide +kernel
theorem sc_9 : sh_T[9]? = some (0, 1, [4]) := by decide +kernel
theorem sc_10 : sh_T[10]? = some (0, 0, [4]) := by decide +kernel
theorem sc_11 : sh_T[11]? = some (2, 3, [15, 16, 0]) := by decide +kernel
theorem sc_12 : sh_T[12]? = some (0, 1, [6]) := by decide +kernel
theorem sc_13 : sh_T[13]? = some (0, 0, [6]) := by decide +kernel
theorem sc_14 : sh_T[14]? = some (1, 4, [21, 24, 27, 30, 33, 36]) := by decide +kernel
theorem sc_15 : sh_T[15]? = some (2, 3, [19, 20, 0]) := by decide +kernel
theorem sc_16 : sh_T[16]? = some (0, 1, [5]) := by decide +kernel
theorem sc_17 : sh_T[17]? = some (0, 0, [5]) := by decide +kernel
theorem sc_18 : sh_T[18]? = some (1, 4, [39, 52, 65, 78, 91]) := by decide +kernel
theorem sc_19 : sh_T[19]? = some (1, 5, [42, 55, 68, 81, 94]) := by decide +kernel
theorem sc_20 : sh_T[20]? = some (1, 5, [47, 60, 73, 86, 99]) := by decide +kernel
theorem sc_21 : sh_T[21]? = some (2, 3, [25, 26, 0]) := by decide +kernel
theorem sc_22 : sh_T[22]? = some (0, 1, [2]) := by decide +kernel
theorem sc_23 : sh_T[23]? = some (0, 0, [2]) := by decide +kernel
theorem sc_24 : sh_T[24]? = some (2, 3, [28, 29, 0]) := by decide +kernel
theorem sc_25 : sh_T[25]? = some (0, 1, [2]) := by decide +kernel
theorem sc_26 : sh_T[26]? = some (0, 0, [2]) := by decide +kernel
theorem sc_27 : sh_T[27]? = some (2, 3, [31, 32, 0]) := by decide +kernel
theorem sc_28 : sh_T[28]? = some (0, 1, [2]) := by decide +kernel
theorem sc_29 : sh_T[29]? = some (0, 0, [2]) := by decide +kernel
theorem sc_30 : sh_T[30]? = some (2, 3, [34, 35, 0]) := by decide +kernel
theorem sc_31 : sh_T[31]? = some (0, 1, [2]) := by decide +kernel
theorem sc_32 : sh_T[32]? = some (0, 0, [2]) := by decide +kernel
theorem sc_33 : sh_T[33]? = some (2, 3, [37, 38, 0]) := by decide +kernel
theorem sc_34 : sh_T[34]? = some (0, 1, [2]) := by decide +kernel
theorem sc_35 : sh_T[35]? = some (0, 0, [2]) := by decide +kernel
theorem sc_36 : sh_T[36]? = some (2, 3, [40, 41, 0]) := by decide +kernel
theorem sc_37 : sh_T[37]? = some (0, 1, [2]) := by decide +kernel
theorem sc_38 : sh_T[38]? = some (0, 0, [2]) := by decide +kernel
theorem sc_39 : sh_T[39]? = some (2, 3, [43, 44, 0]) := by decide +kernel
theorem sc_40 : sh_T[40]? = some (0, 1, [3]) := by decide +kernel
theorem sc_41 : sh_T[41]? = some (0, 0, [3]) := by decide +kernel
theorem sc_42 : sh_T[42]? = some (2, 4, [46, 47, 48, 49, 0, 0]) := by decide +kernel
theorem sc_43 : sh_T[43]? = some (0, 0, [4]) := by decide +kernel
theorem sc_44 : sh_T[44]? = some (0, 3, [4]) := by decide +kernel
theorem sc_45 : sh_T[45]? = some (0, 0, [4]) := by decide +kernel
theorem sc_46 : sh_T[46]? = some (0, 0, [4]) := by decide +kernel
theorem sc_47 : sh_T[47]? = some (2, 4, [51, 52, 53, 54, 0, 0]) := by decide +kernel
theorem sc_48 : sh_T[48]? = some (0, 0, [4]) := by decide +kernel
theorem sc_49 : sh_T[49]? = some (0, 3, [4]) := by decide +kernel
theorem sc_50 : sh_T[50]? = some (0, 0, [4]) := by decide +kernel
theorem sc_51 : sh_T[51]? = some (0, 0, [4]) := by decide +kernel
theorem sc_52 : sh_T[52]? = some (2, 3, [56, 57, 0]) := by decide +kernel
theorem sc_53 : sh_T[53]? = some (0, 1, [3]) := by decide +kernel
theorem sc_54 : sh_T[54]? = some (0, 0, [3]) := by decide +kernel
theorem sc_55 : sh_T[55]? = some (2, 4, [59, 60, 61, 62, 0, 0]) := by decide +kernel
theorem sc_56 : sh_T[56]? = some (0, 0, [4]) := by decide +kernel
theorem sc_57 : sh_T[57]? = some (0, 3, [4]) := by decide +kernel
theorem sc_58 : sh_T[58]? = some (0, 0, [4]) := by decide +kernel
theorem sc_59 : sh_T[59]? = some (0, 0, [4]) := by decide +kernel
theorem sc_60 : sh_T[60]? = some (2, 4, [64, 65, 66, 67, 0, 0]) := by decide +kernel
theorem sc_61 : sh_T[61]? = some (0, 0, [4]) := by decide +kernel
theorem sc_62 : sh_T[62]? = some (0, 3, [4]) := by decide +kernel
theorem sc_63 : sh_T[63]? = some (0, 0, [4]) := by decide +kernel
theorem sc_64 : sh_T[64]? = some (0, 0, [4]) := by decide +kernel
theorem sc_65 : sh_T[65]? = some (2, 3, [69, 70, 0]) := by decide +kernel
theorem sc_66 : sh_T[66]? = some (0, 1, [3]) := by decide +kernel
theorem sc_67 : sh_T[67]? = some (0, 0, [3]) := by decide +kernel
theorem sc_68 : sh_T[68]? = some (2, 4, [72, 73, 74, 75, 0, 0]) := by decide +kernel
theorem sc_69 : sh_T[69]? = some (0, 0, [4]) := by decide +kernel
theorem sc_70 : sh_T[70]? = some (0, 3, [4]) := by decide +kernel
theorem sc_71 : sh_T[71]? = some (0, 0, [4]) := by decide +kernel
theorem sc_72 : sh_T[72]? = some (0, 0, [4]) := by decide +kernel
theorem sc_73 : sh_T[73]? = some (2, 4, [77, 78, 79, 80, 0, 0]) := by decide +kernel
theorem sc_74 : sh_T[74]? = some (0, 0, [4]) := by decide +kernel
theorem sc_75 : sh_T[75]? = some (0, 3, [4]) := by decide +kernel
theorem sc_76 : sh_T[76]? = some (0, 0, [4]) := by decide +kernel
theorem sc_77 : sh_T[77]? = some (0, 0, [4]) := by decide +kernel
theorem sc_78 : sh_T[78]? = some (2, 3, [82, 83, 0]) := by decide +kernel
theorem sc_79 : sh_T[79]? = some (0, 1, [3]) := by decide +kernel
theorem sc_80 : sh_T[80]? = some (0, 0, [3]) := by decide +kernel
theorem sc_81 : sh_T[81]? = some (2, 4, [85, 86, 87, 88, 0, 0]) := by decide +kernel
theorem sc_82 : sh_T[82]? = some (0, 0, [4]) := by decide +kernel
theorem sc_83 : sh_T[83]? = some (0, 3, [4]) := by decide +kernel
theorem sc_84 : sh_T[84]? = some (0, 0, [4]) := by decide +kernel
theorem sc_85 : sh_T[85]? = some (0, 0, [4]) := by decide +kernel
theorem sc_86 : sh_T[86]? = some (2, 4, [90, 91, 92, 93, 0, 0]) := by decide +kernel
theorem sc_87 : sh_T[87]? = some (0, 0, [4]) := by decide +kernel
theorem sc_88 : sh_T[88]? = some (0, 3, [4]) := by decide +kernel
theorem sc_89 : sh_T[89]? = some (0, 0, [4]) := by decide +kernel
theorem sc_90 : sh_T[90]? = some (0, 0, [4]) := by decide +kernel
theorem sc_91 : sh_T[91]? = some (2, 3, [95, 96, 0]) := by decide +kernel
theorem sc_92 : sh_T[92]? = some (0, 1, [3]) := by decide +kernel
theorem sc_93 : sh_T[93]? = some (0, 0, [3]) := by decide +kernel
theorem sc_94 : sh_T[94]? = some (2, 4, [98, 99, 100, 101, 0, 0]) := by decide +kernel
theorem sc_95 : sh_T[95]? = some (0, 0, [4]) := by decide +kernel
theorem sc_96 : sh_T[96]? = some (0, 3, [4]) := by decide +kernel
theorem sc_97 : sh_T[97]? = some (0, 0, [4]) := by decide +kernel
theorem sc_98 : sh_T[98]? = some (0, 0, [4]) := by decide +kernel
theorem sc_99 : sh_T[99]? = some (2, 4, [103, 104, 105, 106, 0, 0]) := by decide +kernel
theorem sc_100 : sh_T[100]? = some (0, 0, [4]) := by decide +kernel
theorem sc_101 : sh_T[101]? = some (0, 3, [4]) := by decide +kernel
theorem sc_102 : sh_T[102]? = some (0, 0, [4]) := by decide +kernel
theorem sc_103 : sh_T[103]? = some (0, 0, [4]) := by decide +kernel
theorem sc_104 : sh_T[104]? = some (2, 5, [108, 111, 116]) := by decide +kernel
theorem sc_105 : sh_T[105]? = some (2, 3, [109, 110, 0]) := by decide +kernel
theorem sc_106 : sh_T[106]? = some (0, 1, [6]) := by decide +kernel
theorem sc_107 : sh_T[107]? = some (0, 0, [6]) := by decide +kernel
theorem sc_108 : sh_T[108]? = some (2, 4, [112, 113, 114, 115, 0, 0]) := by decide +kernel
theorem sc_109 : sh_T[109]? = some (0, 0, [12]) := by decide +kernel
theorem sc_110 : sh_T[110]? = some (0, 3, [12]) := by decide +kernel
theorem sc_111 : sh_T[111]? = some (0, 0, [12]) := by decide +kernel
theorem sc_112 : sh_T[112]? = some (0, 0, [12]) := by decide +kernel
theorem sc_113 : sh_T[113]? = some (2, 4, [117, 118, 119, 120, 0, 0]) := by decide +kernel
theorem sc_114 : sh_T[114]? = some (0, 0, [4]) := by decide +kernel
theorem sc_115 : sh_T[115]? = some (0, 3, [4]) := by decide +kernel
theorem sc_116 : sh_T[116]? = some (0, 0, [4]) := by decide +kernel
theorem sc_117 : sh_T[117]? = some (0, 0, [4]) := by decide +kernel
theorem sc_118 : sh_T[118]? = some (2, 6, [4, 10, 107, 122]) := by decide +kernel
theorem sc_119 : sh_T[119]? = some (2, 7, [4, 10, 2, 0]) := by decide +kernel
theorem sc_120 : sh_T[120]? = some (2, 8, [124, 0, 125, 0, 1, 126, 128]) := by decide +kernel
theorem sc_121 : sh_T[121]? = some (0, 0, [216]) := by decide +kernel
theorem sc_122 : sh_T[122]? = some (1, 6, [126, 131, 136, 141, 146, 151, 156, 161, 166, 171, 176, 181, 186, 191, 196, 201, 206, 211, 216, 221, 226, 231, 236, 241, 246, 251, 256, 261, 266, 271, 276, 281, 286, 291, 296, 301, 306, 311, 316, 321, 326]) := by decide +kernel
theorem sc_123 : sh_T[123]? = some (2, 9, [1, 1, 0, 127, 0]) := by decide +kernel
theorem sc_124 : sh_T[124]? = some (0, 0, [4]) := by decide +kernel
theorem sc_125 : sh_T[125]? = some (0, 0, [6]) := by decide +kernel
theorem sc_126 : sh_T[126]? = some (2, 10, [0, 130, 0, 131, 1, 1, 133, 0]) := by decide +kernel
theorem sc_127 : sh_T[127]? = some (0, 0, [3]) := by decide +kernel
theorem sc_128 : sh_T[128]? = some (2, 9, [1, 1, 0, 132, 0]) := by decide +kernel
theorem sc_129 : sh_T[129]? = some (0, 0, [4]) := by decide +kernel
theorem sc_130 : sh_T[130]? = some (0, 0, [4]) := by decide +kernel
theorem sc_131 : sh_T[131]? = some (2, 10, [0, 135, 0, 136, 1, 1, 138, 0]) := by decide +kernel
theorem sc_132 : sh_T[132]? = some (0, 0, [3]) := by decide +kernel
theorem sc_133 : sh_T[133]? = some (2, 9, [1, 1, 0, 137, 0]) := by decide +kernel
theorem sc_134 : sh_T[134]? = some (0, 0, [4]) := by decide +kernel
theorem sc_135 : sh_T[135]? = some (0, 0, [4]) := by decide +kernel
theorem sc_136 : sh_T[136]? = some (2, 10, [0, 140, 0, 141, 1, 1, 143, 0]) := by decide +kernel
theorem sc_137 : sh_T[137]? = some (0, 0, [3]) := by decide +kernel
theorem sc_138 : sh_T[138]? = some (2, 9, [1, 1, 0, 142, 0]) := by decide +kernel
theorem sc_139 : sh_T[139]? = some (0, 0, [4]) := by decide +kernel
theorem sc_140 : sh_T[140]? = some (0, 0, [4]) := by decide +kernel
theorem sc_141 : sh_T[141]? = some (2, 10, [0, 145, 0, 146, 1, 1, 148, 0]) := by decide +kernel
theorem sc_142 : sh_T[142]? = some (0, 0, [3]) := by decide +kernel
theorem sc_143 : sh_T[143]? = some (2, 9, [1, 1, 0, 147, 0]) := by decide +kernel
theorem sc_144 : sh_T[144]? = some (0, 0, [4]) := by decide +kernel
theorem sc_145 : sh_T[145]? = some (0, 0, [4]) := by decide +kernel
theorem sc_146 : sh_T[146]? = some (2, 10, [0, 150, 0, 151, 1, 1, 153, 0]) := by decide +kernel
theorem sc_147 : sh_T[147]? = some (0, 0, [3]) := by decide +kernel
theorem sc_148 : sh_T[148]? = some (2, 9, [1, 1, 0, 152, 0]) := by decide +kernel
theorem sc_149 : sh_T[149]? = some (0, 0, [4]) := by decide +kernel
theorem sc_150 : sh_T[150]? = some (0, 0, [4]) := by decide +kernel
theorem sc_151 : sh_T[151]? = some (2, 10, [0, 155, 0, 156, 1, 1, 158, 0]) := by decide +kernel
theorem sc_152 : sh_T[152]? = some (0, 0, [3]) := by decide +kernel
theorem sc_153 : sh_T[153]? = some (2, 9, [1, 1, 0, 157, 0]) := by decide +kernel
theorem sc_154 : sh_T[154]? = some (0, 0, [4]) := by decide +kernel
theorem sc_155 : sh_T[155]? = some (0, 0, [4]) := by decide +kernel
theorem sc_156 : sh_T[156]? = some (2, 10, [0, 160, 0, 161, 1, 1, 163, 0]) := by decide +kernel
theorem sc_157 : sh_T[157]? = some (0, 0, [3]) := by decide +kernel
theorem sc_158 : sh_T[158]? = some (2, 9, [1, 1, 0, 162, 0]) := by decide +kernel
theorem sc_159 : sh_T[159]? = some (0, 0, [4]) := by decide +kernel
theorem sc_160 : sh_T[160]? = some (0, 0, [4]) := by decide +kernel
theorem sc_161 : sh_T[161]? = some (2, 10, [0, 165, 0, 166, 1, 1, 168, 0]) := by decide +kernel
theorem sc_162 : sh_T[162]? = some (0, 0, [3]) := by decide +kernel
theorem sc_163 : sh_T[163]? = some (2, 9, [1, 1, 0, 167, 0]) := by decide +kernel
theorem sc_164 : sh_T[164]? = some (0, 0, [4]) := by decide +kernel
theorem sc_165 : sh_T[165]? = some (0, 0, [4]) := by decide +kernel
theorem sc_166 : sh_T[166]? = some (2, 10, [0, 170, 0, 171, 1, 1, 173, 0]) := by decide +kernel
theorem sc_167 : sh_T[167]? = some (0, 0, [3]) := by decide +kernel
theorem sc_168 : sh_T[168]? = some (2, 9, [1, 1, 0, 172, 0]) := by decide +kernel
theorem sc_169 : sh_T[169]? = some (0, 0, [4]) := by decide +kernel
theorem sc_170 : sh_T[170]? = some (0, 0, [4]) := by decide +kernel
theorem sc_171 : sh_T[171]? = some (2, 10, [0, 175, 0, 176, 1, 1, 178, 0]) := by decide +kernel
theorem sc_172 : sh_T[172]? = some (0, 0, [3]) := by decide +kernel
theorem sc_173 : sh_T[173]? = some (2, 9, [1, 1, 0, 177, 0]) := by decide +kernel
theorem sc_174 : sh_T[174]? = some (0, 0, [4]) := by decide +kernel
theorem sc_175 : sh_T[175]? = some (0, 0, [4]) := by decide +kernel
theorem sc_176 : sh_T[176]? = some (2, 10, [0, 180, 0, 181, 1, 1, 183, 0]) := by decide +kernel
theorem sc_177 : sh_T[177]? = some (0, 0, [3]) := by decide +kernel
theorem sc_178 : sh_T[178]? = some (2, 9, [1, 1, 0, 182, 0]) := by decide +kernel
theorem sc_179 : sh_T[179]? = some (0, 0, [4]) := by decide +kernel
theorem sc_180 : sh_T[180]? = some (0, 0, [4]) := by decide +kernel
theorem sc_181 : sh_T[181]? = some (2, 10, [0, 185, 0, 186, 1, 1, 188, 0]) := by decide +kernel
theorem sc_182 : sh_T[182]? = some (0, 0, [3]) := by decide +kernel
theorem sc_183 : sh_T[183]? = some (2, 9, [1, 1, 0, 187, 0]) := by decide +kernel
theorem sc_184 : sh_T[184]? = some (0, 0, [4]) := by decide +kernel
theorem sc_185 : sh_T[185]? = some (0, 0, [4]) := by decide +kernel
theorem sc_186 : sh_T[186]? = some (2, 10, [0, 190, 0, 191, 1, 1, 193, 0]) := by decide +kernel
theorem sc_187 : sh_T[187]? = some (0, 0, [3]) := by decide +kernel
theorem sc_188 : sh_T[188]? = some (2, 9, [1, 1, 0, 192, 0]) := by decide +kernel
theorem sc_189 : sh_T[189]? = some (0, 0, [4]) := by decide +kernel
theorem sc_190 : sh_T[190]? = some (0, 0, [4]) := by decide +kernel
theorem sc_191 : sh_T[191]? = some (2, 10, [0, 195, 0, 196, 1, 1, 198, 0]) := by decide +kernel
theorem sc_192 : sh_T[192]? = some (0, 0, [3]) := by decide +kernel
theorem sc_193 : sh_T[193]? = some (2, 9, [1, 1, 0, 197, 0]) := by decide +kernel
theorem sc_194 : sh_T[194]? = some (0, 0, [4]) := by decide +kernel
theorem sc_195 : sh_T[195]? = some (0, 0, [4]) := by decide +kernel
theorem sc_196 : sh_T[196]? = some (2, 10, [0, 200, 0, 201, 1, 1, 203, 0]) := by decide +kernel
theorem sc_197 : sh_T[197]? = some (0, 0, [3]) := by decide +kernel
theorem sc_198 : sh_T[198]? = some (2, 9, [1, 1, 0, 202, 0]) := by decide +kernel
theorem sc_199 : sh_T[199]? = some (0, 0, [4]) := by decide +kernel
theorem sc_200 : sh_T[200]? = some (0, 0, [4]) := by decide +kernel
theorem sc_201 : sh_T[201]? = some (2, 10, [0, 205, 0, 206, 1, 1, 208, 0]) := by decide +kernel
theorem sc_202 : sh_T[202]? = some (0, 0, [3]) := by decide +kernel
theorem sc_203 : sh_T[203]? = some (2, 9, [1, 1, 0, 207, 0]) := by decide +kernel
theorem sc_204 : sh_T[204]? = some (0, 0, [4]) := by decide +kernel
theorem sc_205 : sh_T[205]? = some (0, 0, [4]) := by decide +kernel
theorem sc_206 : sh_T[206]? = some (2, 10, [0, 210, 0, 211, 1, 1, 213, 0]) := by decide +kernel
theorem sc_207 : sh_T[207]? = some (0, 0, [3]) := by decide +kernel
theorem sc_208 : sh_T[208]? = some (2, 9, [1, 1, 0, 212, 0]) := by decide +kernel
theorem sc_209 : sh_T[209]? = some (0, 0, [4]) := by decide +kernel
theorem sc_210 : sh_T[210]? = some (0, 0, [4]) := by decide +kernel
theorem sc_211 : sh_T[211]? = some (2, 10, [0, 215, 0, 216, 1, 1, 218, 0]) := by decide +kernel
theorem sc_212 : sh_T[212]? = some (0, 0, [3]) := by decide +kernel
theorem sc_213 : sh_T[213]? = some (2, 9, [1, 1, 0, 217, 0]) := by decide +kernel
theorem sc_214 : sh_T[214]? = some (0, 0, [4]) := by decide +kernel
theorem sc_215 : sh_T[215]? = some (0, 0, [4]) := by decide +kernel
theorem sc_216 : sh_T[216]? = some (2, 10, [0, 220, 0, 221, 1, 1, 223, 0]) := by decide +kernel
theorem sc_217 : sh_T[217]? = some (0, 0, [3]) := by decide +kernel
theorem sc_218 : sh_T[218]? = some (2, 9, [1, 1, 0, 222, 0]) := by decide +kernel
theorem sc_219 : sh_T[219]? = some (0, 0, [4]) := by decide +kernel
theorem sc_220 : sh_T[220]? = some (0, 0, [4]) := by decide +kernel
theorem sc_221 : sh_T[221]? = some (2, 10, [0, 225, 0, 226, 1, 1, 228, 0]) := by decide +kernel
theorem sc_222 : sh_T[222]? = some (0, 0, [3]) := by decide +kernel
theorem sc_223 : sh_T[223]? = some (2, 9, [1, 1, 0, 227, 0]) := by decide +kernel
theorem sc_224 : sh_T[224]? = some (0, 0, [4]) := by decide +kernel
theorem sc_225 : sh_T[225]? = some (0, 0, [4]) := by decide +kernel
theorem sc_226 : sh_T[226]? = some (2, 10, [0, 230, 0, 231, 1, 1, 233, 0]) := by decide +kernel
theorem sc_227 : sh_T[227]? = some (0, 0, [3]) := by decide +kernel
theorem sc_228 : sh_T[228]? = some (2, 9, [1, 1, 0, 232, 0]) := by decide +kernel
theorem sc_229 : sh_T[229]? = some (0, 0, [4]) := by decide +kernel
theorem sc_230 : sh_T[230]? = some (0, 0, [4]) := by decide +kernel
theorem sc_231 : sh_T[231]? = some (2, 10, [0, 235, 0, 236, 1, 1, 238, 0]) := by decide +kernel
theorem sc_232 : sh_T[232]? = some (0, 0, [3]) := by decide +kernel
theorem sc_233 : sh_T[233]? = some (2, 9, [1, 1, 0, 237, 0]) := by decide +kernel
theorem sc_234 : sh_T[234]? = some (0, 0, [4]) := by decide +kernel
theorem sc_235 : sh_T[235]? = some (0, 0, [4]) := by decide +kernel
theorem sc_236 : sh_T[236]? = some (2, 10, [0, 240, 0, 241, 1, 1, 243, 0]) := by decide +kernel
theorem sc_237 : sh_T[237]? = some (0, 0, [3]) := by decide +kernel
theorem sc_238 : sh_T[238]? = some (2, 9, [1, 1, 0, 242, 0]) := by decide +kernel
theorem sc_239 : sh_T[239]? = some (0, 0, [4]) := by decide +kernel
theorem sc_240 : sh_T[240]? = some (0, 0, [4]) := by decide +kernel
theorem sc_241 : sh_T[241]? = some (2, 10, [0, 245, 0, 246, 1, 1, 248, 0]) := by decide +kernel
theorem sc_242 : sh_T[242]? = some (0, 0, [3]) := by decide +kernel
theorem sc_243 : sh_T[243]? = some (2, 9, [1, 1, 0, 247, 0]) := by decide +kernel
theorem sc_244 : sh_T[244]? = some (0, 0, [4]) := by decide +kernel
theorem sc_245 : sh_T[245]? = some (0, 0, [4]) := by decide +kernel
theorem sc_246 : sh_T[246]? = some (2, 10, [0, 250, 0, 251, 1, 1, 253, 0]) := by decide +kernel
theorem sc_247 : sh_T[247]? = some (0, 0, [3]) := by decide +kernel
theorem sc_248 : sh_T[248]? = some (2, 9, [1, 1, 0, 252, 0]) := by decide +kernel
theorem sc_249 : sh_T[249]? = some (0, 0, [4]) := by decide +kernel
theorem sc_250 : sh_T[250]? = some (0, 0, [4]) := by decide +kernel
theorem sc_251 : sh_T[251]? = some (2, 10, [0, 255, 0, 256, 1, 1, 258, 0]) := by decide +kernel
theorem sc_252 : sh_T[252]? = some (0, 0, [3]) := by decide +kernel
theorem sc_253 : sh_T[253]? = some (2, 9, [1, 1, 0, 257, 0]) := by decide +kernel
theorem sc_254 : sh_T[254]? = some (0, 0, [4]) := by decide +kernel
theorem sc_255 : sh_T[255]? = some (0, 0, [4]) := by decide +kernel
theorem sc_256 : sh_T[256]? = some (2, 10, [0, 260, 0, 261, 1, 1, 263, 0]) := by decide +kernel
theorem sc_257 : sh_T[257]? = some (0, 0, [3]) := by decide +kernel
theorem sc_258 : sh_T[258]? = some (2, 9, [1, 1, 0, 262, 0]) := by decide +kernel
theorem sc_259 : sh_T[259]? = some (0, 0, [4]) := by decide +kernel
theorem sc_260 : sh_T[260]? = some (0, 0, [4]) := by decide +kernel
theorem sc_261 : sh_T[261]? = some (2, 10, [0, 265, 0, 266, 1, 1, 268, 0]) := by decide +kernel
theorem sc_262 : sh_T[262]? = some (0, 0, [3]) := by decide +kernel
theorem sc_263 : sh_T[263]? = some (2, 9, [1, 1, 0, 267, 0]) := by decide +kernel
theorem sc_264 : sh_T[264]? = some (0, 0, [4]) := by decide +kernel
theorem sc_265 : sh_T[265]? = some (0, 0, [4]) := by decide +kernel
theorem sc_266 : sh_T[266]? = some (2, 10, [0, 270, 0, 271, 1, 1, 273, 0]) := by decide +kernel
theorem sc_267 : sh_T[267]? = some (0, 0, [3]) := by decide +kernel
theorem sc_268 : sh_T[268]? = some (2, 9, [1, 1, 0, 272, 0]) := by decide +kernel
theorem sc_269 : sh_T[269]? = some (0, 0, [4]) := by decide +kernel
theorem sc_270 : sh_T[270]? = some (0, 0, [4]) := by decide +kernel
theorem sc_271 : sh_T[271]? = some (2, 10, [0, 275, 0, 276, 1, 1, 278, 0]) := by decide +kernel
theorem sc_272 : sh_T[272]? = some (0, 0, [3]) := by decide +kernel
theorem sc_273 : sh_T[273]? = some (2, 9, [1, 1, 0, 277, 0]) := by decide +kernel
theorem sc_274 : sh_T[274]? = some (0, 0, [4]) := by decide +kernel
theorem sc_275 : sh_T[275]? = some (0, 0, [4]) := by decide +kernel
theorem sc_276 : sh_T[276]? = some (2, 10, [0, 280, 0, 281, 1, 1, 283, 0]) := by decide +kernel
theorem sc_277 : sh_T[277]? = some (0, 0, [3]) := by decide +kernel
theorem sc_278 : sh_T[278]? = some (2, 9, [1, 1, 0, 282, 0]) := by decide +kernel
theorem sc_279 : sh_T[279]? = some (0, 0, [4]) := by decide +kernel
theorem sc_280 : sh_T[280]? = some (0, 0, [4]) := by decide +kernel
theorem sc_281 : sh_T[281]? = some (2, 10, [0, 285, 0, 286, 1, 1, 288, 0]) := by decide +kernel
theorem sc_282 : sh_T[282]? = some (0, 0, [3]) := by decide +kernel
theorem sc_283 : sh_T[283]? = some (2, 9, [1, 1, 0, 287, 0]) := by decide +kernel
theorem sc_284 : sh_T[284]? = some (0, 0, [4]) := by decide +kernel
theorem sc_285 : sh_T[285]? = some (0, 0, [4]) := by decide +kernel
theorem sc_286 : sh_T[286]? = some (2, 10, [0, 290, 0, 291, 1, 1, 293, 0]) := by decide +kernel
theorem sc_287 : sh_T[287]? = some (0, 0, [3]) := by decide +kernel
theorem sc_288 : sh_T[288]? = some (2, 9, [1, 1, 0, 292, 0]) := by decide +kernel
theorem sc_289 : sh_T[289]? = some (0, 0, [4]) := by decide +kernel
theorem sc_290 : sh_T[290]? = some (0, 0, [4]) := by decide +kernel
theorem sc_291 : sh_T[291]? = some (2, 10, [0, 295, 0, 296, 1, 1, 298, 0]) := by decide +kernel
theorem sc_292 : sh_T[292]? = some (0, 0, [3]) := by decide +kernel
theorem sc_293 : sh_T[293]? = some (2, 9, [1, 1, 0, 297, 0]) := by decide +kernel
theorem sc_294 : sh_T[294]? = some (0, 0, [4]) := by decide +kernel
theorem sc_295 : sh_T[295]? = some (0, 0, [4]) := by decide +kernel
theorem sc_296 : sh_T[296]? = some (2, 10, [0, 300, 0, 301, 1, 1, 303, 0]) := by decide +kernel
theorem sc_297 : sh_T[297]? = some (0, 0, [3]) := by decide +kernel
theorem sc_298 : sh_T[298]? = some (2, 9, [1, 1, 0, 302, 0]) := by decide +kernel
theorem sc_299 : sh_T[299]? = some (0, 0, [4]) := by decide +kernel
theorem sc_300 : sh_T[300]? = some (0, 0, [4]) := by decide +kernel
theorem sc_301 : sh_T[301]? = some (2, 10, [0, 305, 0, 306, 1, 1, 308, 0]) := by decide +kernel
theorem sc_302 : sh_T[302]? = some (0, 0, [3]) := by decide +kernel
theorem sc_303 : sh_T[303]? = some (2, 9, [1, 1, 0, 307, 0]) := by decide +kernel
theorem sc_304 : sh_T[304]? = some (0, 0, [4]) := by decide +kernel
theorem sc_305 : sh_T[305]? = some (0, 0, [4]) := by decide +kernel
theorem sc_306 : sh_T[306]? = some (2, 10, [0, 310, 0, 311, 1, 1, 313, 0]) := by decide +kernel
theorem sc_307 : sh_T[307]? = some (0, 0, [3]) := by decide +kernel
theorem sc_308 : sh_T[308]? = some (2, 9, [1, 1, 0, 312, 0]) := by decide +kernel
theorem sc_309 : sh_T[309]? = some (0, 0, [4]) := by decide +kernel
theorem sc_310 : sh_T[310]? = some (0, 0, [4]) := by decide +kernel
theorem sc_311 : sh_T[311]? = some (2, 10, [0, 315, 0, 316, 1, 1, 318, 0]) := by decide +kernel
theorem sc_312 : sh_T[312]? = some (0, 0, [3]) := by decide +kernel
theorem sc_313 : sh_T[313]? = some (2, 9, [1, 1, 0, 317, 0]) := by decide +kernel
theorem sc_314 : sh_T[314]? = some (0, 0, [4]) := by decide +kernel
theorem sc_315 : sh_T[315]? = some (0, 0, [4]) := by decide +kernel
theorem sc_316 : sh_T[316]? = some (2, 10, [0, 320, 0, 321, 1, 1, 323, 0]) := by decide +kernel
theorem sc_317 : sh_T[317]? = some (0, 0, [3]) := by decide +kernel
theorem sc_318 : sh_T[318]? = some (2, 9, [1, 1, 0, 322, 0]) := by decide +kernel
theorem sc_319 : sh_T[319]? = some (0, 0, [4]) := by decide +kernel
theorem sc_320 : sh_T[320]? = some (0, 0, [4]) := by decide +kernel
theorem sc_321 : sh_T[321]? = some (2, 10, [0, 325, 0, 326, 1, 1, 328, 0]) := by decide +kernel
theorem sc_322 : sh_T[322]? = some (0, 0, [3]) := by decide +kernel
theorem sc_323 : sh_T[323]? = some (2, 9, [1, 1, 0, 327, 0]) := by decide +kernel
theorem sc_324 : sh_T[324]? = some (0, 0, [4]) := by decide +kernel
theorem sc_325 : sh_T[325]? = some (0, 0, [4]) := by decide +kernel
theorem sc_326 : sh_T[326]? = some (2, 10, [0, 330, 0, 331, 1, 1, 333, 0]) := by decide +kernel
theorem sc_327 : sh_T[327]? = some (0, 0, [3]) := by decide +kernel
theorem sc_328 : sh_T[328]? = some (2, 9, [1, 1, 0, 332, 0]) := by decide +kernel
theorem sc_329 : sh_T[329]? = some (0, 0, [4]) := by decide +kernel
theorem sc_330 : sh_T[330]? = some (0, 0, [4]) := by decide +kernel
theorem sc_331 : sh_T[331]? = some (2, 11, [123, 335, 336, 337, 338, 339, 340, 341, 0, 0, 0, 0, 0, 342]) := by decide +kernel
theorem sc_332 : sh_T[332]? = some (0, 1, [200]) := by decide +kernel
theorem sc_333 : sh_T[333]? = some (0, 0, [200]) := by decide +kernel
theorem sc_334 : sh_T[334]? = some (0, 0, [200]) := by decide +kernel
theorem sc_335 : sh_T[335]? = some (0, 0, [201]) := by decide +kernel
theorem sc_336 : sh_T[336]? = some (0, 0, [201]) := by decide +kernel
theorem sc_337 : sh_T[337]? = some (0, 0, [201]) := by decide +kernel
theorem sc_338 : sh_T[338]? = some (0, 0, [512]) := by decide +kernel
theorem sc_339 : sh_T[339]? = some (0, 0, [200]) := by decide +kernel
theorem sc_340 : sh_T[340]? = some (2, 12, [123, 344]) := by decide +kernel
theorem sc_341 : sh_T[341]? = some (0, 0, [40]) := by decide +kernel
theorem sc_342 : sh_T[342]? = some (0, 0, [60]) := by decide +kernel
theorem sc_343 : sh_T[343]? = some (0, 2, [6000]) := by decide +kernel
theorem sc_344 : sh_T[344]? = some (2, 13, [0, 0, 348, 349, 0, 0, 350, 351, 0, 0, 0, 0, 0, 0, 1, 0, 352, 0, 353, 354, 355, 0, 356, 357, 358, 359, 360, 361, 362, 363, 364, 365, 366, 0, 367, 368, 0, 369, 1, 0, 370, 371, 372, 373, 374, 375, 1, 1, 0, 0, 376, 377, 378, 379, 380, 381, 382, 383, 0, 384, 0, 385, 386, 0, 1, 387, 0, 0, 0, 0, 388]) := by decide +kernel
theorem sc_345 : sh_T[345]? = some (0, 0, [600]) := by decide +kernel
theorem sc_346 : sh_T[346]? = some (0, 0, [76]) := by decide +kernel
theorem sc_347 : sh_T[347]? = some (0, 0, [602]) := by decide +kernel
theorem sc_348 : sh_T[348]? = some (0, 0, [602]) := by decide +kernel
theorem sc_349 : sh_T[349]? = some (0, 1, [5]) := by decide +kernel
theorem sc_350 : sh_T[350]? = some (0, 1, [6]) := by decide +kernel
theorem sc_351 : sh_T[351]? = some (0, 0, [6]) := by decide +kernel
theorem sc_352 : sh_T[352]? = some (0, 0, [12]) := by decide +kernel
theorem sc_353 : sh_T[353]? = some (0, 1, [5]) := by decide +kernel
theorem sc_354 : sh_T[354]? = some (0, 0, [5]) := by decide +kernel
theorem sc_355 : sh_T[355]? = some (0, 0, [15]) := by decide +kernel
theorem sc_356 : sh_T[356]? = some (0, 1, [15]) := by decide +kernel
theorem sc_357 : sh_T[357]? = some (0, 0, [5]) := by decide +kernel
theorem sc_358 : sh_T[358]? = some (0, 0, [6]) := by decide +kernel
theorem sc_359 : sh_T[359]? = some (0, 0, [5]) := by decide +kernel
theorem sc_360 : sh_T[360]? = some (0, 3, [44]) := by decide +kernel
theorem sc_361 : sh_T[361]? = some (0, 3, [44]) := by decide +kernel
theorem sc_362 : sh_T[362]? = some (0, 0, [44]) := by decide +kernel
theorem sc_363 : sh_T[363]? = some (0, 0, [88]) := by decide +kernel
theorem sc_364 : sh_T[364]? = some (0, 1, [6]) := by decide +kernel
theorem sc_365 : sh_T[365]? = some (0, 0, [6]) := by decide +kernel
theorem sc_366 : sh_T[366]? = some (0, 0, [216]) := by decide +kernel
theorem sc_367 : sh_T[367]? = some (0, 0, [40]) := by decide +kernel
theorem sc_368 : sh_T[368]? = some (0, 0, [120]) := by decide +kernel
theorem sc_369 : sh_T[369]? = some (0, 1, [40]) := by decide +kernel
theorem sc_370 : sh_T[370]? = some (0, 1, [40]) := by decide +kernel
theorem sc_371 : sh_T[371]? = some (0, 1, [40]) := by decide +kernel
theorem sc_372 : sh_T[372]? = some (0, 1, [40]) := by decide +kernel
theorem sc_373 : sh_T[373]? = some (0, 1, [201]) := by decide +kernel
theorem sc_374 : sh_T[374]? = some (0, 0, [201]) := by decide +kernel
theorem sc_375 : sh_T[375]? = some (0, 0, [201]) := by decide +kernel
theorem sc_376 : sh_T[376]? = some (0, 0, [201]) := by decide +kernel
theorem sc_377 : sh_T[377]? = some (0, 0, [201]) := by decide +kernel
theorem sc_378 : sh_T[378]? = some (0, 0, [512]) := by decide +kernel
theorem sc_379 : sh_T[379]? = some (0, 0, [201]) := by decide +kernel
theorem sc_380 : sh_T[380]? = some (0, 0, [201]) := by decide +kernel
theorem sc_381 : sh_T[381]? = some (0, 0, [201]) := by decide +kernel
theorem sc_382 : sh_T[382]? = some (0, 0, [60]) := by decide +kernel
theorem sc_383 : sh_T[383]? = some (0, 1, [2]) := by decide +kernel
theorem sc_384 : sh_T[384]? = some (0, 0, [3]) := by decide +kernel
theorem sc_385 : sh_T[385]? = some (0, 0, [40]) := by decide +kernel
theorem sc_386 : sh_T[386]? = some (0, 1, [1]) := by decide +kernel
/-! POSTCONDITIONS -/
def gqi (P : Int → xi_H → Prop) (W : Nat → xi_H → Prop) (o : Outcome) (A : xi_H) : Prop := match o with
  | .returned (some (.int x)) => ∃ z, x = Int32.ofInt z ∧ P z A
  | .threw j => W j A
  | _ => False
def gql (P : Int → xi_H → Prop) (W : Nat → xi_H → Prop) (o : Outcome) (A : xi_H) : Prop := match o with
  | .returned (some (.long x)) => ∃ z, x = Int64.ofInt z ∧ P z A
  | .threw j => W j A
  | _ => False
def gqv (P : xi_H → Prop) (W : Nat → xi_H → Prop) (o : Outcome) (A : xi_H) : Prop := match o with
  | .returned none => P A
  | .threw j => W j A
  | _ => False
abbrev gqn : Nat → xi_H → Prop := fun _ _ => False
abbrev gx (ci : Nat) : xi_E := .inr (ci, List.replicate 6 .null)
section GQ
variable {Ms : List xi_M} {y fr lo pc : Nat} {M : xi_M} {lv : xi_L} {st r : List Value} {A : xi_H} {nx : Nat} {aux : List Nat} {Q : Outcome → xi_H → Prop} {P : Int → xi_H → Prop} {Pv : xi_H → Prop} {W W1 : Nat → xi_H → Prop}
theorem gr_i {z : Int} {ty : FieldType} (hM : Ms[y]? = some M) (hrow : xi_row M.2.2.2.2.1 pc = some (.ireturn, nx, aux)) (hty : M.2.2.2.1 = some ty) (hn : narrow ty (.int (Int32.ofInt z)) = .int (Int32.ofInt z)) (hk : P z A) : fl_R Ms y fr lo pc lv [.int (Int32.ofInt z)] A (gqi P W) := ga_iret hM hrow hty hn ⟨z, rfl, hk⟩
theorem gr_l {z : Int} (hM : Ms[y]? = some M) (hrow : xi_row M.2.2.2.2.1 pc = some (.lreturn, nx, aux)) (hty : M.2.2.2.1 = some .long) (hk : P z A) : fl_R Ms y fr lo pc lv [.long (Int64.ofInt z)] A (gql P W) := ga_lret hM hrow hty ⟨z, rfl, hk⟩
theorem gr_v (hM : Ms[y]? = some M) (hrow : xi_row M.2.2.2.2.1 pc = some (.return_, nx, aux)) (hty : M.2.2.2.1 = none) (hk : Pv A) : fl_R Ms y fr lo pc lv [] A (gqv Pv W) := ga_ret hM hrow hty hk
theorem gVi {i x cM k b ci F L nY : Nat} {tl : List Nat} {As rest fs : List Value} {Mc : xi_M} (hM : Ms[y]? = some M) (hrow : xi_row M.2.2.2.2.1 pc = some (.invokevirtual i, nx, x :: cM :: k :: tl)) (hMc : Ms[cM]? = some Mc) (hst : st = As.reverse ++ .ref b :: rest) (hk : As.length = k) (hb : A[b]? = some (.inr (ci, fs))) (hc : (xi_cl[ci]?).map (·.1) = some Mc.1.cls) (hw : Nat.ble (xi_wt rest) 8 = true) (hn : Mc.2.2.1 = nY) (hwt : Nat.ble (xi_wt (.ref b :: As)) nY = true) (hh : Mc.2.2.2.2.2 = []) (hfr : F + 1 ≤ fr) (hlo : L + (19 + nY) ≤ lo) (hcal : fl_M Ms cM F L (.ref b :: As) A (gqi P W1)) (h2 : ∀ j A1, W1 j A1 → M.2.2.2.2.2 = [] ∧ Q (.threw j) A1) (h1 : ∀ z A1, P z A1 → fl_R Ms y fr lo nx lv (.int (Int32.ofInt z) :: rest) A1 Q) : fl_R Ms y fr lo pc lv st A Q := by
  subst hn
  refine fl_V hM hrow hMc hst hk hb hc (Nat.le_of_ble_eq_true hw) hfr hlo (Nat.le_of_ble_eq_true hwt) hh hcal (fun v A1 hq => ?_) (fun j A1 hq => h2 j A1 hq)
  match v, hq with
  | some (.int _), ⟨z, hz, hp⟩ => subst hz; exact h1 z A1 hp
  | none, hq => exact False.elim hq
  | some (.long _), hq => exact False.elim hq
  | some (.float _), hq => exact False.elim hq
  | some (.double _), hq => exact False.elim hq
  | some (.ref _), hq => exact False.elim hq
  | some .null, hq => exact False.elim hq
  | some (.retAddr _), hq => exact False.elim hq
theorem gSi {i x cM k F L nY : Nat} {tl : List Nat} {As rest : List Value} {Mc : xi_M} (hM : Ms[y]? = some M) (hrow : xi_row M.2.2.2.2.1 pc = some (.invokestatic i, nx, x :: cM :: k :: tl)) (hMc : Ms[cM]? = some Mc) (hst : st = As.reverse ++ rest) (hk : As.length = k) (hpos : 0 < A.length) (hw : Nat.ble (xi_wt rest) 8 = true) (hn : Mc.2.2.1 = nY) (hwt : Nat.ble (xi_wt As) nY = true) (hh : Mc.2.2.2.2.2 = []) (hfr : F + 1 ≤ fr) (hlo : L + (19 + nY) ≤ lo) (hcal : fl_M Ms cM F L As A (gqi P gqn)) (h1 : ∀ z A1, P z A1 → fl_R Ms y fr lo nx lv (.int (Int32.ofInt z) :: rest) A1 Q) : fl_R Ms y fr lo pc lv st A Q := by
  subst hn
  refine fl_S hM hrow hMc hst hk hpos (Nat.le_of_ble_eq_true hw) hfr hlo (Nat.le_of_ble_eq_true hwt) hh (fun f l hf hl => fl_mono (hcal f l hf hl) (fun o A1 hq => ?_))
  match o, hq with
  | .returned (some (.int _)), ⟨z, hz, hp⟩ => subst hz; exact ⟨_, rfl, h1 z A1 hp⟩
  | .returned none, hq => exact False.elim hq
  | .threw _, hq => exact False.elim hq
  | .returned (some (.long _)), hq => exact False.elim hq
  | .returned (some (.float _)), hq => exact False.elim hq
  | .returned (some (.double _)), hq => exact False.elim hq
  | .returned (some (.ref _)), hq => exact False.elim hq
  | .returned (some .null), hq => exact False.elim hq
  | .returned (some (.retAddr _)), hq => exact False.elim hq
theorem gVl {i x cM k b ci F L nY : Nat} {tl : List Nat} {As rest fs : List Value} {Mc : xi_M} (hM : Ms[y]? = some M) (hrow : xi_row M.2.2.2.2.1 pc = some (.invokevirtual i, nx, x :: cM :: k :: tl)) (hMc : Ms[cM]? = some Mc) (hst : st = As.reverse ++ .ref b :: rest) (hk : As.length = k) (hb : A[b]? = some (.inr (ci, fs))) (hc : (xi_cl[ci]?).map (·.1) = some Mc.1.cls) (hw : Nat.ble (xi_wt rest) 8 = true) (hn : Mc.2.2.1 = nY) (hwt : Nat.ble (xi_wt (.ref b :: As)) nY = true) (hh : Mc.2.2.2.2.2 = []) (hfr : F + 1 ≤ fr) (hlo : L + (19 + nY) ≤ lo) (hcal : fl_M Ms cM F L (.ref b :: As) A (gql P W1)) (h2 : ∀ j A1, W1 j A1 → M.2.2.2.2.2 = [] ∧ Q (.threw j) A1) (h1 : ∀ z A1, P z A1 → fl_R Ms y fr lo nx lv (.long (Int64.ofInt z) :: rest) A1 Q) : fl_R Ms y fr lo pc lv st A Q := by
  subst hn
  refine fl_V hM hrow hMc hst hk hb hc (Nat.le_of_ble_eq_true hw) hfr hlo (Nat.le_of_ble_eq_true hwt) hh hcal (fun v A1 hq => ?_) (fun j A1 hq => h2 j A1 hq)
  match v, hq with
  | some (.long _), ⟨z, hz, hp⟩ => subst hz; exact h1 z A1 hp
  | none, hq => exact False.elim hq
  | some (.int _), hq => exact False.elim hq
  | some (.float _), hq => exact False.elim hq
  | some (.double _), hq => exact False.elim hq
  | some (.ref _), hq => exact False.elim hq
  | some .null, hq => exact False.elim hq
  | some (.retAddr _), hq => exact False.elim hq
theorem gSl {i x cM k F L nY : Nat} {tl : List Nat} {As rest : List Value} {Mc : xi_M} (hM : Ms[y]? = some M) (hrow : xi_row M.2.2.2.2.1 pc = some (.invokestatic i, nx, x :: cM :: k :: tl)) (hMc : Ms[cM]? = some Mc) (hst : st = As.reverse ++ rest) (hk : As.length = k) (hpos : 0 < A.length) (hw : Nat.ble (xi_wt rest) 8 = true) (hn : Mc.2.2.1 = nY) (hwt : Nat.ble (xi_wt As) nY = true) (hh : Mc.2.2.2.2.2 = []) (hfr : F + 1 ≤ fr) (hlo : L + (19 + nY) ≤ lo) (hcal : fl_M Ms cM F L As A (gql P gqn)) (h1 : ∀ z A1, P z A1 → fl_R Ms y fr lo nx lv (.long (Int64.ofInt z) :: rest) A1 Q) : fl_R Ms y fr lo pc lv st A Q := by
  subst hn
  refine fl_S hM hrow hMc hst hk hpos (Nat.le_of_ble_eq_true hw) hfr hlo (Nat.le_of_ble_eq_true hwt) hh (fun f l hf hl => fl_mono (hcal f l hf hl) (fun o A1 hq => ?_))
  match o, hq with
  | .returned (some (.long _)), ⟨z, hz, hp⟩ => subst hz; exact ⟨_, rfl, h1 z A1 hp⟩
  | .returned none, hq => exact False.elim hq
  | .threw _, hq => exact False.elim hq
  | .returned (some (.int _)), hq => exact False.elim hq
  | .returned (some (.float _)), hq => exact False.elim hq
  | .returned (some (.double _)), hq => exact False.elim hq
  | .returned (some (.ref _)), hq => exact False.elim hq
  | .returned (some .null), hq => exact False.elim hq
  | .returned (some (.retAddr _)), hq => exact False.elim hq
theorem gVv {i x cM k b ci F L nY : Nat} {tl : List Nat} {As rest fs : List Value} {Mc : xi_M} (hM : Ms[y]? = some M) (hrow : xi_row M.2.2.2.2.1 pc = some (.invokevirtual i, nx, x :: cM :: k :: tl)) (hMc : Ms[cM]? = some Mc) (hst : st = As.reverse ++ .ref b :: rest) (hk : As.length = k) (hb : A[b]? = some (.inr (ci, fs))) (hc : (xi_cl[ci]?).map (·.1) = some Mc.1.cls) (hw : Nat.ble (xi_wt rest) 8 = true) (hn : Mc.2.2.1 = nY) (hwt : Nat.ble (xi_wt (.ref b :: As)) nY = true) (hh : Mc.2.2.2.2.2 = []) (hfr : F + 1 ≤ fr) (hlo : L + (19 + nY) ≤ lo) (hcal : fl_M Ms cM F L (.ref b :: As) A (gqv Pv W1)) (h2 : ∀ j A1, W1 j A1 → M.2.2.2.2.2 = [] ∧ Q (.threw j) A1) (h1 : ∀ A1, Pv A1 → fl_R Ms y fr lo nx lv (rest) A1 Q) : fl_R Ms y fr lo pc lv st A Q := by
  subst hn
  refine fl_V hM hrow hMc hst hk hb hc (Nat.le_of_ble_eq_true hw) hfr hlo (Nat.le_of_ble_eq_true hwt) hh hcal (fun v A1 hq => ?_) (fun j A1 hq => h2 j A1 hq)
  match v, hq with
  | none, hq => exact h1 A1 hq
  | some _, hq => exact False.elim hq
theorem gSv {i x cM k F L nY : Nat} {tl : List Nat} {As rest : List Value} {Mc : xi_M} (hM : Ms[y]? = some M) (hrow : xi_row M.2.2.2.2.1 pc = some (.invokestatic i, nx, x :: cM :: k :: tl)) (hMc : Ms[cM]? = some Mc) (hst : st = As.reverse ++ rest) (hk : As.length = k) (hpos : 0 < A.length) (hw : Nat.ble (xi_wt rest) 8 = true) (hn : Mc.2.2.1 = nY) (hwt : Nat.ble (xi_wt As) nY = true) (hh : Mc.2.2.2.2.2 = []) (hfr : F + 1 ≤ fr) (hlo : L + (19 + nY) ≤ lo) (hcal : fl_M Ms cM F L As A (gqv Pv gqn)) (h1 : ∀ A1, Pv A1 → fl_R Ms y fr lo nx lv (rest) A1 Q) : fl_R Ms y fr lo pc lv st A Q := by
  subst hn
  refine fl_S hM hrow hMc hst hk hpos (Nat.le_of_ble_eq_true hw) hfr hlo (Nat.le_of_ble_eq_true hwt) hh (fun f l hf hl => fl_mono (hcal f l hf hl) (fun o A1 hq => ?_))
  match o, hq with
  | .returned none, hq => exact ⟨none, rfl, h1 A1 hq⟩
  | .returned (some _), hq => exact False.elim hq
  | .threw _, hq => exact False.elim hq
theorem gIi {i x cM k b ci F L nY : Nat} {tl : List Nat} {As rest fs : List Value} {Mc : xi_M} (hM : Ms[y]? = some M) (hrow : xi_row M.2.2.2.2.1 pc = some (.invokevirtual i, nx, x :: cM :: k :: tl)) (hMc : Ms[cM]? = some Mc) (hst : st = As.reverse ++ .ref b :: rest) (hk : As.length = k) (hb : A[b]? = some (.inr (ci, fs))) (hc : (xi_cl[ci]?).map (·.1) = some Mc.1.cls) (hw : Nat.ble (xi_wt rest) 8 = true) (hn : Mc.2.2.1 = nY) (hwt : Nat.ble (xi_wt (.ref b :: As)) nY = true) (hh : Mc.2.2.2.2.2 = []) (hfr : F + 1 ≤ fr) (hlo : L + (19 + nY) ≤ lo) (hcal : fl_M Ms cM F L (.ref b :: As) A (gqi (fun z A1 => fl_R Ms y fr lo nx lv (.int (Int32.ofInt z) :: rest) A1 Q) (fun j A1 => M.2.2.2.2.2 = [] ∧ Q (.threw j) A1))) : fl_R Ms y fr lo pc lv st A Q := gVi hM hrow hMc hst hk hb hc hw hn hwt hh hfr hlo hcal (fun _ _ h => h) (fun _ _ h => h)
theorem gJi {i x cM k F L nY : Nat} {tl : List Nat} {As rest : List Value} {Mc : xi_M} (hM : Ms[y]? = some M) (hrow : xi_row M.2.2.2.2.1 pc = some (.invokestatic i, nx, x :: cM :: k :: tl)) (hMc : Ms[cM]? = some Mc) (hst : st = As.reverse ++ rest) (hk : As.length = k) (hpos : 0 < A.length) (hw : Nat.ble (xi_wt rest) 8 = true) (hn : Mc.2.2.1 = nY) (hwt : Nat.ble (xi_wt As) nY = true) (hh : Mc.2.2.2.2.2 = []) (hfr : F + 1 ≤ fr) (hlo : L + (19 + nY) ≤ lo) (hcal : fl_M Ms cM F L As A (gqi (fun z A1 => fl_R Ms y fr lo nx lv (.int (Int32.ofInt z) :: rest) A1 Q) gqn)) : fl_R Ms y fr lo pc lv st A Q := gSi hM hrow hMc hst hk hpos hw hn hwt hh hfr hlo hcal (fun _ _ h => h)
theorem gIl {i x cM k b ci F L nY : Nat} {tl : List Nat} {As rest fs : List Value} {Mc : xi_M} (hM : Ms[y]? = some M) (hrow : xi_row M.2.2.2.2.1 pc = some (.invokevirtual i, nx, x :: cM :: k :: tl)) (hMc : Ms[cM]? = some Mc) (hst : st = As.reverse ++ .ref b :: rest) (hk : As.length = k) (hb : A[b]? = some (.inr (ci, fs))) (hc : (xi_cl[ci]?).map (·.1) = some Mc.1.cls) (hw : Nat.ble (xi_wt rest) 8 = true) (hn : Mc.2.2.1 = nY) (hwt : Nat.ble (xi_wt (.ref b :: As)) nY = true) (hh : Mc.2.2.2.2.2 = []) (hfr : F + 1 ≤ fr) (hlo : L + (19 + nY) ≤ lo) (hcal : fl_M Ms cM F L (.ref b :: As) A (gql (fun z A1 => fl_R Ms y fr lo nx lv (.long (Int64.ofInt z) :: rest) A1 Q) (fun j A1 => M.2.2.2.2.2 = [] ∧ Q (.threw j) A1))) : fl_R Ms y fr lo pc lv st A Q := gVl hM hrow hMc hst hk hb hc hw hn hwt hh hfr hlo hcal (fun _ _ h => h) (fun _ _ h => h)
theorem gJl {i x cM k F L nY : Nat} {tl : List Nat} {As rest : List Value} {Mc : xi_M} (hM : Ms[y]? = some M) (hrow : xi_row M.2.2.2.2.1 pc = some (.invokestatic i, nx, x :: cM :: k :: tl)) (hMc : Ms[cM]? = some Mc) (hst : st = As.reverse ++ rest) (hk : As.length = k) (hpos : 0 < A.length) (hw : Nat.ble (xi_wt rest) 8 = true) (hn : Mc.2.2.1 = nY) (hwt : Nat.ble (xi_wt As) nY = true) (hh : Mc.2.2.2.2.2 = []) (hfr : F + 1 ≤ fr) (hlo : L + (19 + nY) ≤ lo) (hcal : fl_M Ms cM F L As A (gql (fun z A1 => fl_R Ms y fr lo nx lv (.long (Int64.ofInt z) :: rest) A1 Q) gqn)) : fl_R Ms y fr lo pc lv st A Q := gSl hM hrow hMc hst hk hpos hw hn hwt hh hfr hlo hcal (fun _ _ h => h)
theorem gIv {i x cM k b ci F L nY : Nat} {tl : List Nat} {As rest fs : List Value} {Mc : xi_M} (hM : Ms[y]? = some M) (hrow : xi_row M.2.2.2.2.1 pc = some (.invokevirtual i, nx, x :: cM :: k :: tl)) (hMc : Ms[cM]? = some Mc) (hst : st = As.reverse ++ .ref b :: rest) (hk : As.length = k) (hb : A[b]? = some (.inr (ci, fs))) (hc : (xi_cl[ci]?).map (·.1) = some Mc.1.cls) (hw : Nat.ble (xi_wt rest) 8 = true) (hn : Mc.2.2.1 = nY) (hwt : Nat.ble (xi_wt (.ref b :: As)) nY = true) (hh : Mc.2.2.2.2.2 = []) (hfr : F + 1 ≤ fr) (hlo : L + (19 + nY) ≤ lo) (hcal : fl_M Ms cM F L (.ref b :: As) A (gqv (fun A1 => fl_R Ms y fr lo nx lv (rest) A1 Q) (fun j A1 => M.2.2.2.2.2 = [] ∧ Q (.threw j) A1))) : fl_R Ms y fr lo pc lv st A Q := gVv hM hrow hMc hst hk hb hc hw hn hwt hh hfr hlo hcal (fun _ _ h => h) (fun _ h => h)
theorem gJv {i x cM k F L nY : Nat} {tl : List Nat} {As rest : List Value} {Mc : xi_M} (hM : Ms[y]? = some M) (hrow : xi_row M.2.2.2.2.1 pc = some (.invokestatic i, nx, x :: cM :: k :: tl)) (hMc : Ms[cM]? = some Mc) (hst : st = As.reverse ++ rest) (hk : As.length = k) (hpos : 0 < A.length) (hw : Nat.ble (xi_wt rest) 8 = true) (hn : Mc.2.2.1 = nY) (hwt : Nat.ble (xi_wt As) nY = true) (hh : Mc.2.2.2.2.2 = []) (hfr : F + 1 ≤ fr) (hlo : L + (19 + nY) ≤ lo) (hcal : fl_M Ms cM F L As A (gqv (fun A1 => fl_R Ms y fr lo nx lv (rest) A1 Q) gqn)) : fl_R Ms y fr lo pc lv st A Q := gSv hM hrow hMc hst hk hpos hw hn hwt hh hfr hlo hcal (fun _ h => h)
theorem gw_i {j : Nat} (h : W j A) : gqi P W (.threw j) A := h
theorem gw_l {j : Nat} (h : W j A) : gql P W (.threw j) A := h
theorem gw_v {j : Nat} (h : W j A) : gqv Pv W (.threw j) A := h
theorem ga_iadd {a b c : Int} (hM : Ms[y]? = some M) (hrow : xi_row M.2.2.2.2.1 pc = some (.iadd, nx, aux)) (hc : a + b = c) (hk : fl_R Ms y fr lo nx lv (.int (Int32.ofInt c) :: r) A Q) : fl_R Ms y fr lo pc lv (.int (Int32.ofInt b) :: .int (Int32.ofInt a) :: r) A Q := by
  subst hc
  exact fl_iadd hM hrow hk
theorem ga_isub {a b c : Int} (hM : Ms[y]? = some M) (hrow : xi_row M.2.2.2.2.1 pc = some (.isub, nx, aux)) (hc : a - b = c) (hk : fl_R Ms y fr lo nx lv (.int (Int32.ofInt c) :: r) A Q) : fl_R Ms y fr lo pc lv (.int (Int32.ofInt b) :: .int (Int32.ofInt a) :: r) A Q := by
  subst hc
  exact fl_isub hM hrow hk
theorem ga_imul {a b c : Int} (hM : Ms[y]? = some M) (hrow : xi_row M.2.2.2.2.1 pc = some (.imul, nx, aux)) (hc : a * b = c) (hk : fl_R Ms y fr lo nx lv (.int (Int32.ofInt c) :: r) A Q) : fl_R Ms y fr lo pc lv (.int (Int32.ofInt b) :: .int (Int32.ofInt a) :: r) A Q := by
  subst hc
  exact fl_imul hM hrow hk
theorem ga_inc {i : Nat} {n a c : Int} {lv2 : xi_L} (hM : Ms[y]? = some M) (hrow : xi_row M.2.2.2.2.1 pc = some (.iinc i n, nx, aux)) (hg : xi_get lv i = some (.int (Int32.ofInt a))) (hi : i < M.2.2.1) (hc : a + n = c) (hp : xi_put1 lv i (.int (Int32.ofInt c)) = lv2) (hk : fl_R Ms y fr lo nx lv2 r A Q) : fl_R Ms y fr lo pc lv r A Q := by
  subst hc
  exact ga_iinc hM hrow hg hi hp hk
end GQ
/-! FRAMES: rectangles of cells and places that may have changed -/
def fs_in (S : List (Nat × Nat × Nat × Nat)) (r k : Nat) : Bool := S.any (fun q => Nat.ble q.1 r && Nat.ble r q.2.1 && (Nat.ble q.2.2.1 k && Nat.ble k q.2.2.2))
def fs (S : List (Nat × Nat × Nat × Nat)) (F F' : fl_N) : Prop := ∀ r k, fs_in S r k = false → F' r k = F r k
def fs_le (S S' : List (Nat × Nat × Nat × Nat)) : Bool := S.all (fun q => S'.any (fun p => Nat.ble p.1 q.1 && Nat.ble q.2.1 p.2.1 && (Nat.ble p.2.2.1 q.2.2.1 && Nat.ble q.2.2.2 p.2.2.2)))
theorem fs_refl {S : List (Nat × Nat × Nat × Nat)} {F : fl_N} : fs S F F := fun _ _ _ => rfl
theorem fs_u {S : List (Nat × Nat × Nat × Nat)} {F F' : fl_N} {a k : Nat} {z : Int} (h : fs S F F') (hS : fs_in S a k = true) : fs S F (fl_u F' a k z) := fun r j hr => by
  rw [fl_u_ne (fun e => by rw [e.1, e.2, hS] at hr; cases hr)]
  exact h r j hr
theorem fs_lt {S S' : List (Nat × Nat × Nat × Nat)} (h : fs_le S S' = true) {r k : Nat} (hk : fs_in S' r k = false) : fs_in S r k = false := by
  cases hc : fs_in S r k with
  | false => rfl
  | true =>
    simp only [fs_in, List.any_eq_true, Bool.and_eq_true, Nat.ble_eq] at hc
    obtain ⟨q, hq, h1⟩ := hc
    have h2 := List.all_eq_true.mp h q hq
    simp only [List.any_eq_true, Bool.and_eq_true, Nat.ble_eq] at h2
    obtain ⟨p, hp, h3⟩ := h2
    have h4 : fs_in S' r k = true := by
      simp only [fs_in, List.any_eq_true, Bool.and_eq_true, Nat.ble_eq]
      exact ⟨p, hp, by omega⟩
    rw [h4] at hk
    cases hk
theorem fs_tr {S S' : List (Nat × Nat × Nat × Nat)} {F F1 F2 : fl_N} (h : fs S F F1) (h1 : fs S' F1 F2) (hl : fs_le S' S = true) : fs S F F2 := fun r k hk => by
  rw [h1 r k (fs_lt hl hk), h r k hk]
theorem fs_w {S S' : List (Nat × Nat × Nat × Nat)} {F F1 : fl_N} (h : fs S F F1) (hl : fs_le S S' = true) : fs S' F F1 := fun r k hk => h r k (fs_lt hl hk)
theorem fs_n {S : List (Nat × Nat × Nat × Nat)} {a b c d r k : Nat} (h : r < a ∨ b < r ∨ k < c ∨ d < k) (hs : fs_in S r k = false) : fs_in ((a, b, c, d) :: S) r k = false := by
  cases hc : fs_in ((a, b, c, d) :: S) r k with
  | false => rfl
  | true =>
    simp only [fs_in, List.any_cons, Bool.or_eq_true, Bool.and_eq_true, Nat.ble_eq] at hc
    rcases hc with hc | hc
    · omega
    · unfold fs_in at hs
      rw [hs] at hc
      cases hc
theorem fs_y {S : List (Nat × Nat × Nat × Nat)} {a b c d r k : Nat} (h : a ≤ r ∧ r ≤ b ∧ c ≤ k ∧ k ≤ d) : fs_in ((a, b, c, d) :: S) r k = true := by
  simp only [fs_in, List.any_cons, Bool.or_eq_true, Bool.and_eq_true, Nat.ble_eq]
  exact Or.inl ⟨⟨h.1, h.2.1⟩, h.2.2⟩
theorem fs_z {S : List (Nat × Nat × Nat × Nat)} {q : Nat × Nat × Nat × Nat} {r k : Nat} (h : fs_in S r k = true) : fs_in (q :: S) r k = true := by
  simp only [fs_in, List.any_cons, Bool.or_eq_true]
  exact Or.inr h
/-! BOUNDS that hold at every time -/

def gb_T : List (Nat × List (Int × Int)) := [(1, [(0, 0), (0, 0), (0, 0), (0, 0), (0, 0), (0, 0), (0, 0), (0, 1), (0, 1), (0, 0), (0, 60), (0, 0), (0, 6000)]), (1, [(0, 0), (0, 600), (0, 0), (0, 0), (0, 0), (0, 0), (0, 601), (0, 600), (0, 100000)]), (0, [(0, 126)]), (0, [(0, 5)]), (0, [(0, 600)]), (0, [(0, 600)]), (0, [((-9223372036854775808), 9223372036854775807)]), (1, [((-9223372036854775808), 9223372036854775807), (0, 0), (0, 0), (0, 0), (0, 0), (0, 0), (0, 0), (0, 0)]), (1, [(0, 0), (0, 0), (0, 4)]), (0, [((-9223372036854775808), 9223372036854775807)]), (0, [((-1), 3)]), (1, [(0, 0), (0, 0), (0, 6)]), (0, [((-9223372036854775808), 9223372036854775807)]), (0, [((-1), 3)]), (0, [(0, 0)]), (1, [(0, 0), (0, 0), (0, 5)]), (0, [((-9223372036854775808), 9223372036854775807)]), (0, [((-1), 3)]), (0, [(0, 0)]), (0, [(0, 0)]), (0, [(0, 0)]), (1, [(0, 0), (0, 0), (0, 2)]), (0, [((-9223372036854775808), 9223372036854775807)]), (0, [((-1), 3)]), (1, [(0, 0), (0, 0), (0, 2)]), (0, [((-9223372036854775808), 9223372036854775807)]), (0, [((-1), 3)]), (1, [(0, 0), (0, 0), (0, 2)]), (0, [((-9223372036854775808), 9223372036854775807)]), (0, [((-1), 3)]), (1, [(0, 0), (0, 0), (0, 2)]), (0, [((-9223372036854775808), 9223372036854775807)]), (0, [((-1), 3)]), (1, [(0, 0), (0, 0), (0, 2)]), (0, [((-9223372036854775808), 9223372036854775807)]), (0, [((-1), 3)]), (1, [(0, 0), (0, 0), (0, 2)]), (0, [((-9223372036854775808), 9223372036854775807)]), (0, [((-1), 3)]), (1, [(0, 0), (0, 0), (0, 3)]), (0, [((-9223372036854775808), 9223372036854775807)]), (0, [((-1), 3)]), (1, [(0, 0), (0, 0), (0, 0), (0, 0), (0, 4), (0, 999)]), (0, [((-1), 5)]), (0, [(0, 1)]), (0, [((-1), 2)]), (0, [((-1), 2)]), (1, [(0, 0), (0, 0), (0, 0), (0, 0), (0, 4), (0, 999)]), (0, [(0, 5)]), (0, [(0, 1)]), (0, [((-1), 2)]), (0, [((-1), 2)]), (1, [(0, 0), (0, 0), (0, 3)]), (0, [((-9223372036854775808), 9223372036854775807)]), (0, [((-1), 3)]), (1, [(0, 0), (0, 0), (0, 0), (0, 0), (0, 4), (0, 999)]), (0, [((-1), 5)]), (0, [(0, 1)]), (0, [((-1), 2)]), (0, [((-1), 2)]), (1, [(0, 0), (0, 0), (0, 0), (0, 0), (0, 4), (0, 999)]), (0, [(0, 5)]), (0, [(0, 1)]), (0, [((-1), 2)]), (0, [((-1), 2)]), (1, [(0, 0), (0, 0), (0, 3)]), (0, [((-9223372036854775808), 9223372036854775807)]), (0, [((-1), 3)]), (1, [(0, 0), (0, 0), (0, 0), (0, 0), (0, 4), (0, 999)]), (0, [((-1), 5)]), (0, [(0, 1)]), (0, [((-1), 2)]), (0, [((-1), 2)]), (1, [(0, 0), (0, 0), (0, 0), (0, 0), (0, 4), (0, 999)]), (0, [(0, 5)]), (0, [(0, 1)]), (0, [((-1), 2)]), (0, [((-1), 2)]), (1, [(0, 0), (0, 0), (0, 3)]), (0, [((-9223372036854775808), 9223372036854775807)]), (0, [((-1), 3)]), (1, [(0, 0), (0, 0), (0, 0), (0, 0), (0, 4), (0, 999)]), (0, [((-1), 5)]), (0, [(0, 1)]), (0, [((-1), 2)]), (0, [((-1), 2)]), (1, [(0, 0), (0, 0), (0, 0), (0, 0), (0, 4), (0, 999)]), (0, [(0, 5)]), (0, [(0, 1)]), (0, [((-1), 2)]), (0, [((-1), 2)]), (1, [(0, 0), (0, 0), (0, 3)]), (0, [((-9223372036854775808), 9223372036854775807)]), (0, [((-1), 3)]), (1, [(0, 0), (0, 0), (0, 0), (0, 0), (0, 4), (0, 999)]), (0, [((-1), 5)]), (0, [(0, 1)]), (0, [((-1), 2)]), (0, [((-1), 2)]), (1, [(0, 0), (0, 0), (0, 0), (0, 0), (0, 4), (0, 999)]), (0, [(0, 5)]), (0, [(0, 1)]), (0, [((-1), 2)]), (0, [((-1), 2)]), (1, [(0, 0), (0, 0), (0, 0)]), (1, [(0, 0), (0, 0), (0, 6)]), (0, [((-9223372036854775808), 9223372036854775807)]), (0, [((-1), 3)]), (1, [(0, 0), (0, 0), (0, 0), (0, 0), (0, 12), (0, 999)]), (0, [(0, 5)]), (0, [(0, 1)]), (0, [((-1), 5)]), (0, [((-1), 5)]), (1, [(0, 0), (0, 0), (0, 0), (0, 0), (0, 4), (0, 999)]), (0, [((-1), 5)]), (0, [(0, 1)]), (0, [((-1), 5)]), (0, [((-1), 5)]), (1, [(0, 0), (0, 0), (0, 0), (0, 0)]), (1, [(0, 0), (0, 0), (8, 105), (2, 3)]), (1, [(0, 0), (0, 40), (0, 0), (0, 41), ((-9223372036854775808), 9223372036854775807), (0, 0), (0, 0)]), (0, [(0, 39)]), (0, [(0, 0)]), (1, [((-9223372036854775808), 9223372036854775807), ((-9223372036854775808), 9223372036854775807), (0, 1), (0, 0), (0, 4)]), (0, [(0, 39)]), (0, [(0, 5)]), (1, [(0, 4), (0, 0), (0, 999), (0, 0), ((-9223372036854775808), 9223372036854775807), ((-9223372036854775808), 9223372036854775807), (0, 0), (0, 4)]), (0, [((-1), 5)]), (1, [((-9223372036854775808), 9223372036854775807), ((-9223372036854775808), 9223372036854775807), (0, 1), (0, 0), (0, 4)]), (0, [(0, 39)]), (0, [(0, 39)]), (1, [(0, 4), (0, 0), (0, 999), (0, 0), ((-9223372036854775808), 9223372036854775807), ((-9223372036854775808), 9223372036854775807), (0, 0), (0, 4)]), (0, [((-1), 5)]), (1, [((-9223372036854775808), 9223372036854775807), ((-9223372036854775808), 9223372036854775807), (0, 1), (0, 0), (0, 4)]), (0, [(0, 39)]), (0, [(0, 39)]), (1, [(0, 4), (0, 0), (0, 999), (0, 0), ((-9223372036854775808), 9223372036854775807), ((-9223372036854775808), 9223372036854775807), (0, 0), (0, 4)]), (0, [((-1), 5)]), (1, [((-9223372036854775808), 9223372036854775807), ((-9223372036854775808), 9223372036854775807), (0, 1), (0, 0), (0, 4)]), (0, [(0, 39)]), (0, [(0, 39)]), (1, [(0, 4), (0, 0), (0, 999), (0, 0), ((-9223372036854775808), 9223372036854775807), ((-9223372036854775808), 9223372036854775807), (0, 0), (0, 4)]), (0, [((-1), 5)]), (1, [((-9223372036854775808), 9223372036854775807), ((-9223372036854775808), 9223372036854775807), (0, 1), (0, 0), (0, 4)]), (0, [(0, 39)]), (0, [(0, 39)]), (1, [(0, 4), (0, 0), (0, 999), (0, 0), ((-9223372036854775808), 9223372036854775807), ((-9223372036854775808), 9223372036854775807), (0, 0), (0, 4)]), (0, [((-1), 5)]), (1, [((-9223372036854775808), 9223372036854775807), ((-9223372036854775808), 9223372036854775807), (0, 1), (0, 0), (0, 4)]), (0, [(0, 39)]), (0, [(0, 39)]), (1, [(0, 4), (0, 0), (0, 999), (0, 0), ((-9223372036854775808), 9223372036854775807), ((-9223372036854775808), 9223372036854775807), (0, 0), (0, 4)]), (0, [((-1), 5)]), (1, [((-9223372036854775808), 9223372036854775807), ((-9223372036854775808), 9223372036854775807), (0, 1), (0, 0), (0, 4)]), (0, [(0, 39)]), (0, [(0, 39)]), (1, [(0, 4), (0, 0), (0, 999), (0, 0), ((-9223372036854775808), 9223372036854775807), ((-9223372036854775808), 9223372036854775807), (0, 0), (0, 4)]), (0, [((-1), 5)]), (1, [((-9223372036854775808), 9223372036854775807), ((-9223372036854775808), 9223372036854775807), (0, 1), (0, 0), (0, 4)]), (0, [(0, 39)]), (0, [(0, 39)]), (1, [(0, 4), (0, 0), (0, 999), (0, 0), ((-9223372036854775808), 9223372036854775807), ((-9223372036854775808), 9223372036854775807), (0, 0), (0, 4)]), (0, [((-1), 5)]), (1, [((-9223372036854775808), 9223372036854775807), ((-9223372036854775808), 9223372036854775807), (0, 1), (0, 0), (0, 4)]), (0, [(0, 39)]), (0, [(0, 39)]), (1, [(0, 4), (0, 0), (0, 999), (0, 0), ((-9223372036854775808), 9223372036854775807), ((-9223372036854775808), 9223372036854775807), (0, 0), (0, 4)]), (0, [((-1), 5)]), (1, [((-9223372036854775808), 9223372036854775807), ((-9223372036854775808), 9223372036854775807), (0, 1), (0, 0), (0, 4)]), (0, [(0, 39)]), (0, [(0, 39)]), (1, [(0, 4), (0, 0), (0, 999), (0, 0), ((-9223372036854775808), 9223372036854775807), ((-9223372036854775808), 9223372036854775807), (0, 0), (0, 4)]), (0, [((-1), 5)]), (1, [((-9223372036854775808), 9223372036854775807), ((-9223372036854775808), 9223372036854775807), (0, 1), (0, 0), (0, 4)]), (0, [(0, 39)]), (0, [(0, 39)]), (1, [(0, 4), (0, 0), (0, 999), (0, 0), ((-9223372036854775808), 9223372036854775807), ((-9223372036854775808), 9223372036854775807), (0, 0), (0, 4)]), (0, [((-1), 5)]), (1, [((-9223372036854775808), 9223372036854775807), ((-9223372036854775808), 9223372036854775807), (0, 1), (0, 0), (0, 4)]), (0, [(0, 39)]), (0, [(0, 39)]), (1, [(0, 4), (0, 0), (0, 999), (0, 0), ((-9223372036854775808), 9223372036854775807), ((-9223372036854775808), 9223372036854775807), (0, 0), (0, 4)]), (0, [((-1), 5)]), (1, [((-9223372036854775808), 9223372036854775807), ((-9223372036854775808), 9223372036854775807), (0, 1), (0, 0), (0, 4)]), (0, [(0, 39)]), (0, [(0, 39)]), (1, [(0, 4), (0, 0), (0, 999), (0, 0), ((-9223372036854775808), 9223372036854775807), ((-9223372036854775808), 9223372036854775807), (0, 0), (0, 4)]), (0, [((-1), 5)]), (1, [((-9223372036854775808), 9223372036854775807), ((-9223372036854775808), 9223372036854775807), (0, 1), (0, 0), (0, 4)]), (0, [(0, 39)]), (0, [(0, 39)]), (1, [(0, 4), (0, 0), (0, 999), (0, 0), ((-9223372036854775808), 9223372036854775807), ((-9223372036854775808), 9223372036854775807), (0, 0), (0, 4)]), (0, [((-1), 5)]), (1, [((-9223372036854775808), 9223372036854775807), ((-9223372036854775808), 9223372036854775807), (0, 1), (0, 0), (0, 4)]), (0, [(0, 39)]), (0, [(0, 39)]), (1, [(0, 4), (0, 0), (0, 999), (0, 0), ((-9223372036854775808), 9223372036854775807), ((-9223372036854775808), 9223372036854775807), (0, 0), (0, 4)]), (0, [((-1), 5)]), (1, [((-9223372036854775808), 9223372036854775807), ((-9223372036854775808), 9223372036854775807), (0, 1), (0, 0), (0, 4)]), (0, [(0, 39)]), (0, [(0, 39)]), (1, [(0, 4), (0, 0), (0, 999), (0, 0), ((-9223372036854775808), 9223372036854775807), ((-9223372036854775808), 9223372036854775807), (0, 0), (0, 4)]), (0, [((-1), 5)]), (1, [((-9223372036854775808), 9223372036854775807), ((-9223372036854775808), 9223372036854775807), (0, 1), (0, 0), (0, 4)]), (0, [(0, 39)]), (0, [(0, 39)]), (1, [(0, 4), (0, 0), (0, 999), (0, 0), ((-9223372036854775808), 9223372036854775807), ((-9223372036854775808), 9223372036854775807), (0, 0), (0, 4)]), (0, [((-1), 5)]), (1, [((-9223372036854775808), 9223372036854775807), ((-9223372036854775808), 9223372036854775807), (0, 1), (0, 0), (0, 4)]), (0, [(0, 39)]), (0, [(0, 39)]), (1, [(0, 4), (0, 0), (0, 999), (0, 0), ((-9223372036854775808), 9223372036854775807), ((-9223372036854775808), 9223372036854775807), (0, 0), (0, 4)]), (0, [((-1), 5)]), (1, [((-9223372036854775808), 9223372036854775807), ((-9223372036854775808), 9223372036854775807), (0, 1), (0, 0), (0, 4)]), (0, [(0, 39)]), (0, [(0, 39)]), (1, [(0, 4), (0, 0), (0, 999), (0, 0), ((-9223372036854775808), 9223372036854775807), ((-9223372036854775808), 9223372036854775807), (0, 0), (0, 4)]), (0, [((-1), 5)]), (1, [((-9223372036854775808), 9223372036854775807), ((-9223372036854775808), 9223372036854775807), (0, 1), (0, 0), (0, 4)]), (0, [(0, 39)]), (0, [(0, 39)]), (1, [(0, 4), (0, 0), (0, 999), (0, 0), ((-9223372036854775808), 9223372036854775807), ((-9223372036854775808), 9223372036854775807), (0, 0), (0, 4)]), (0, [((-1), 5)]), (1, [((-9223372036854775808), 9223372036854775807), ((-9223372036854775808), 9223372036854775807), (0, 1), (0, 0), (0, 4)]), (0, [(0, 39)]), (0, [(0, 39)]), (1, [(0, 4), (0, 0), (0, 999), (0, 0), ((-9223372036854775808), 9223372036854775807), ((-9223372036854775808), 9223372036854775807), (0, 0), (0, 4)]), (0, [((-1), 5)]), (1, [((-9223372036854775808), 9223372036854775807), ((-9223372036854775808), 9223372036854775807), (0, 1), (0, 0), (0, 4)]), (0, [(0, 39)]), (0, [(0, 39)]), (1, [(0, 4), (0, 0), (0, 999), (0, 0), ((-9223372036854775808), 9223372036854775807), ((-9223372036854775808), 9223372036854775807), (0, 0), (0, 4)]), (0, [((-1), 5)]), (1, [((-9223372036854775808), 9223372036854775807), ((-9223372036854775808), 9223372036854775807), (0, 1), (0, 0), (0, 4)]), (0, [(0, 39)]), (0, [(0, 39)]), (1, [(0, 4), (0, 0), (0, 999), (0, 0), ((-9223372036854775808), 9223372036854775807), ((-9223372036854775808), 9223372036854775807), (0, 0), (0, 4)]), (0, [((-1), 5)]), (1, [((-9223372036854775808), 9223372036854775807), ((-9223372036854775808), 9223372036854775807), (0, 1), (0, 0), (0, 4)]), (0, [(0, 39)]), (0, [(0, 39)]), (1, [(0, 4), (0, 0), (0, 999), (0, 0), ((-9223372036854775808), 9223372036854775807), ((-9223372036854775808), 9223372036854775807), (0, 0), (0, 4)]), (0, [((-1), 5)]), (1, [((-9223372036854775808), 9223372036854775807), ((-9223372036854775808), 9223372036854775807), (0, 1), (0, 0), (0, 4)]), (0, [(0, 39)]), (0, [(0, 39)]), (1, [(0, 4), (0, 0), (0, 999), (0, 0), ((-9223372036854775808), 9223372036854775807), ((-9223372036854775808), 9223372036854775807), (0, 0), (0, 4)]), (0, [((-1), 5)]), (1, [((-9223372036854775808), 9223372036854775807), ((-9223372036854775808), 9223372036854775807), (0, 1), (0, 0), (0, 4)]), (0, [(0, 39)]), (0, [(0, 39)]), (1, [(0, 4), (0, 0), (0, 999), (0, 0), ((-9223372036854775808), 9223372036854775807), ((-9223372036854775808), 9223372036854775807), (0, 0), (0, 4)]), (0, [((-1), 5)]), (1, [((-9223372036854775808), 9223372036854775807), ((-9223372036854775808), 9223372036854775807), (0, 1), (0, 0), (0, 4)]), (0, [(0, 39)]), (0, [(0, 39)]), (1, [(0, 4), (0, 0), (0, 999), (0, 0), ((-9223372036854775808), 9223372036854775807), ((-9223372036854775808), 9223372036854775807), (0, 0), (0, 4)]), (0, [((-1), 5)]), (1, [((-9223372036854775808), 9223372036854775807), ((-9223372036854775808), 9223372036854775807), (0, 1), (0, 0), (0, 4)]), (0, [(0, 39)]), (0, [(0, 39)]), (1, [(0, 4), (0, 0), (0, 999), (0, 0), ((-9223372036854775808), 9223372036854775807), ((-9223372036854775808), 9223372036854775807), (0, 0), (0, 4)]), (0, [((-1), 5)]), (1, [((-9223372036854775808), 9223372036854775807), ((-9223372036854775808), 9223372036854775807), (0, 1), (0, 0), (0, 4)]), (0, [(0, 39)]), (0, [(0, 39)]), (1, [(0, 4), (0, 0), (0, 999), (0, 0), ((-9223372036854775808), 9223372036854775807), ((-9223372036854775808), 9223372036854775807), (0, 0), (0, 4)]), (0, [((-1), 5)]), (1, [((-9223372036854775808), 9223372036854775807), ((-9223372036854775808), 9223372036854775807), (0, 1), (0, 0), (0, 4)]), (0, [(0, 39)]), (0, [(0, 39)]), (1, [(0, 4), (0, 0), (0, 999), (0, 0), ((-9223372036854775808), 9223372036854775807), ((-9223372036854775808), 9223372036854775807), (0, 0), (0, 4)]), (0, [((-1), 5)]), (1, [((-9223372036854775808), 9223372036854775807), ((-9223372036854775808), 9223372036854775807), (0, 1), (0, 0), (0, 4)]), (0, [(0, 39)]), (0, [(0, 39)]), (1, [(0, 4), (0, 0), (0, 999), (0, 0), ((-9223372036854775808), 9223372036854775807), ((-9223372036854775808), 9223372036854775807), (0, 0), (0, 4)]), (0, [((-1), 5)]), (1, [((-9223372036854775808), 9223372036854775807), ((-9223372036854775808), 9223372036854775807), (0, 1), (0, 0), (0, 4)]), (0, [(0, 39)]), (0, [(0, 39)]), (1, [(0, 4), (0, 0), (0, 999), (0, 0), ((-9223372036854775808), 9223372036854775807), ((-9223372036854775808), 9223372036854775807), (0, 0), (0, 4)]), (0, [((-1), 5)]), (1, [((-9223372036854775808), 9223372036854775807), ((-9223372036854775808), 9223372036854775807), (0, 1), (0, 0), (0, 4)]), (0, [(0, 39)]), (0, [(0, 39)]), (1, [(0, 4), (0, 0), (0, 999), (0, 0), ((-9223372036854775808), 9223372036854775807), ((-9223372036854775808), 9223372036854775807), (0, 0), (0, 4)]), (0, [((-1), 5)]), (1, [((-9223372036854775808), 9223372036854775807), ((-9223372036854775808), 9223372036854775807), (0, 1), (0, 0), (0, 4)]), (0, [(0, 39)]), (0, [(0, 39)]), (1, [(0, 4), (0, 0), (0, 999), (0, 0), ((-9223372036854775808), 9223372036854775807), ((-9223372036854775808), 9223372036854775807), (0, 0), (0, 4)]), (0, [((-1), 5)]), (1, [((-9223372036854775808), 9223372036854775807), ((-9223372036854775808), 9223372036854775807), (0, 1), (0, 0), (0, 4)]), (0, [(0, 39)]), (0, [(0, 39)]), (1, [(0, 4), (0, 0), (0, 999), (0, 0), ((-9223372036854775808), 9223372036854775807), ((-9223372036854775808), 9223372036854775807), (0, 0), (0, 4)]), (0, [((-1), 5)]), (1, [((-9223372036854775808), 9223372036854775807), ((-9223372036854775808), 9223372036854775807), (0, 1), (0, 0), (0, 4)]), (0, [(0, 39)]), (0, [(0, 39)]), (1, [(0, 4), (0, 0), (0, 999), (0, 0), ((-9223372036854775808), 9223372036854775807), ((-9223372036854775808), 9223372036854775807), (0, 0), (0, 4)]), (0, [((-1), 5)]), (1, [((-9223372036854775808), 9223372036854775807), ((-9223372036854775808), 9223372036854775807), (0, 1), (0, 0), (0, 4)]), (0, [(0, 39)]), (0, [(0, 39)]), (1, [(0, 4), (0, 0), (0, 999), (0, 0), ((-9223372036854775808), 9223372036854775807), ((-9223372036854775808), 9223372036854775807), (0, 0), (0, 4)]), (0, [((-1), 5)]), (1, [((-9223372036854775808), 9223372036854775807), ((-9223372036854775808), 9223372036854775807), (0, 1), (0, 0), (0, 4)]), (0, [(0, 39)]), (0, [(0, 39)]), (1, [(0, 4), (0, 0), (0, 999), (0, 0), ((-9223372036854775808), 9223372036854775807), ((-9223372036854775808), 9223372036854775807), (0, 0), (0, 4)]), (0, [((-1), 5)]), (1, [((-9223372036854775808), 9223372036854775807), ((-9223372036854775808), 9223372036854775807), (0, 1), (0, 0), (0, 4)]), (0, [(0, 39)]), (0, [(0, 39)]), (1, [(0, 4), (0, 0), (0, 999), (0, 0), ((-9223372036854775808), 9223372036854775807), ((-9223372036854775808), 9223372036854775807), (0, 0), (0, 4)]), (0, [((-1), 5)]), (1, [((-9223372036854775808), 9223372036854775807), ((-9223372036854775808), 9223372036854775807), (0, 1), (0, 0), (0, 4)]), (0, [(0, 39)]), (0, [(0, 39)]), (1, [(0, 4), (0, 0), (0, 999), (0, 0), ((-9223372036854775808), 9223372036854775807), ((-9223372036854775808), 9223372036854775807), (0, 0), (0, 4)]), (0, [((-1), 5)]), (1, [((-9223372036854775808), 9223372036854775807), ((-9223372036854775808), 9223372036854775807), (0, 1), (0, 0), (0, 4)]), (0, [(0, 39)]), (0, [(0, 39)]), (1, [(0, 4), (0, 0), (0, 999), (0, 0), ((-9223372036854775808), 9223372036854775807), ((-9223372036854775808), 9223372036854775807), (0, 0), (0, 4)]), (0, [((-1), 5)]), (1, [((-9223372036854775808), 9223372036854775807), ((-9223372036854775808), 9223372036854775807), (0, 1), (0, 0), (0, 4)]), (0, [(0, 39)]), (0, [(0, 39)]), (1, [(0, 0), (0, 0), (0, 0), (0, 0), (0, 0), (0, 0), (0, 0), (0, 0), (0, 200), (0, 200), (0, 1), (0, 1), ((-2147483648), 2147483647), (0, 0)]), (0, [((-9223372036854775808), 9223372036854775807)]), (0, [((-2147483648), 2147483647)]), (0, [((-2147483648), 2147483647)]), (0, [((-2147483648), 2147483647)]), (0, [(0, 199)]), (0, [(0, 40)]), (0, [(0, 200)]), (0, [(0, 40)]), (1, [(0, 0), (0, 0)]), (0, [((-2147483648), 2147483647)]), (0, [(0, 40)]), (0, [(0, 65535)]), (1, [(0, 3), (0, 600), (0, 0), (0, 0), (0, 600), (0, 600), (0, 0), (0, 0), (0, 100000), (0, 5), (0, 600), (0, 1), (0, 1), (0, 1), (0, 2565726408), (0, 4), (0, 0), (0, 6), (0, 0), (0, 0), (0, 0), (0, 5), (0, 0), (0, 0), (0, 0), (0, 0), (0, 0), (0, 0), (0, 0), (0, 0), (0, 0), (0, 0), (0, 0), (0, 6), (0, 0), (0, 0), (0, 216), (0, 0), ((-9223372036854775808), 9223372036854775807), (0, 40), (0, 0), (0, 0), (0, 0), (0, 0), (0, 0), (0, 0), ((-9223372036854775808), 9223372036854775807), ((-9223372036854775808), 9223372036854775807), (0, 1), (0, 200), (0, 0), (0, 0), (0, 0), (0, 0), (0, 0), (0, 0), (0, 0), (0, 0), (0, 200), (0, 0), (0, 60), (0, 0), (0, 0), (0, 1), ((-9223372036854775808), 9223372036854775807), (0, 0), (0, 1), ((-2147483648), 2147483647), ((-2147483648), 2147483647), ((-2147483648), 2147483647), (0, 0)]), (0, [(0, 126)]), (0, [((-2147483648), 2147483647)]), (0, [(0, 600)]), (0, [(0, 600)]), (0, [(0, 2565726408)]), (0, [(0, 2565726408)]), (0, [(0, 2)]), (0, [(0, 4)]), (0, [(0, 2565726408)]), (0, [(0, 3)]), (0, [(0, 4)]), (0, [(0, 2565726408)]), (0, [((-1000), 2000)]), (0, [(0, 4)]), (0, [(0, 4)]), (0, [(0, 1)]), (0, [(0, 1)]), (0, [(0, 5)]), (1, [(0, 2), (0, 2), (0, 2), (0, 2), (0, 2), (0, 2), (0, 2), (0, 2), (0, 2), (0, 2), (0, 2), (0, 2), (0, 2), (0, 2), (0, 2), (0, 2), (0, 2), (0, 2), (0, 2), (0, 2), (0, 2), (0, 2), (0, 2), (0, 2), (0, 2), (0, 2), (0, 2), (0, 2), (0, 2), (0, 2), (0, 2), (0, 2), (0, 2), (0, 2), (0, 2), (0, 2), (0, 2), (0, 2), (0, 2), (0, 2), (0, 2), (0, 2), (0, 2), (0, 2), (0, 2), (0, 2), (0, 2), (0, 2), (0, 2), (0, 2), (0, 2), (0, 2), (0, 2), (0, 2), (0, 2), (0, 2), (0, 2), (0, 2), (0, 2), (0, 2), (0, 2), (0, 2), (0, 2), (0, 2), (0, 2), (0, 2), (0, 2), (0, 2), (0, 2), (0, 2), (0, 2), (0, 2), (0, 2), (0, 2), (0, 2), (0, 2), (0, 2), (0, 2), (0, 2), (0, 2), (0, 5), (0, 5), (0, 5), (0, 5), (0, 5), (0, 5), (0, 5), (0, 5)]), (0, [(0, 2565726408)]), (0, [(0, 4)]), (0, [(0, 215)]), (0, [(0, 4)]), (0, [((-1), 5)]), (0, [((-9223372036854775808), 9223372036854775807)]), (0, [((-9223372036854775808), 9223372036854775807)]), (0, [((-9223372036854775808), 9223372036854775807)]), (0, [((-9223372036854775808), 9223372036854775807)]), (0, [((-9223372036854775808), 9223372036854775807)]), (0, [((-2147483648), 2147483647)]), (0, [(0, 201)]), (0, [(0, 200)]), (0, [(0, 39)]), (0, [(0, 200)]), (0, [(0, 39)]), (0, [(0, 39)]), (0, [(0, 39)]), (0, [(0, 39)]), (0, [(0, 2565726408)]), (0, [(0, 5)]), (0, [((-2147483648), 2147483647)]), (0, [((-9223372036854775808), 9223372036854775807)])]
def gb (r k : Nat) : Int × Int := match gb_T[r]? with
  | some (0, b :: _) => b
  | some (_, bs) => bs.getD k (0, 0)
  | none => (0, 0)
def gi (F : fl_N) : Prop := ∀ r k, (gb r k).1 ≤ F r k ∧ F r k ≤ (gb r k).2
theorem gi_u {F : fl_N} {r k : Nat} {z a b : Int} (h : gi F) (hb : gb r k = (a, b)) (h1 : a ≤ z) (h2 : z ≤ b) : gi (fl_u F r k z) := by
  intro r' k'
  by_cases e : r' = r ∧ k' = k
  · rw [e.1, e.2, fl_u_eq, hb]
    exact ⟨h1, h2⟩
  · rw [fl_u_ne e]
    exact h r' k'
theorem gi_g {F : fl_N} {r k : Nat} {a b : Int} (h : gi F) (hb : gb r k = (a, b)) : a ≤ F r k ∧ F r k ≤ b := by
  have := h r k
  rw [hb] at this
  exact this
theorem gb_363 (k : Nat) : gb 363 k = (0, if k < 80 then 2 else if k < 88 then 5 else 0) := by
  by_cases h : k < 88
  · have h9 : ∀ j : Nat, j < 88 → gb 363 j = (0, if j < 80 then 2 else if j < 88 then 5 else 0) := by decide +kernel
    exact h9 k h
  · rw [if_neg (by omega), if_neg h]
    have h9 : ∀ bs : List (Int × Int), bs.length = 88 → bs.getD k (0, 0) = (0, 0) := fun bs hb => by
      rw [List.getD_eq_getElem?_getD, List.getElem?_eq_none (by omega)]
      rfl
    have e : gb_T[363]? = some (1, List.replicate 80 (0, 2) ++ List.replicate 8 (0, 5)) := by decide +kernel
    unfold gb
    rw [e]
    exact h9 (List.replicate 80 (0, 2) ++ List.replicate 8 (0, 5)) rfl
theorem gi_t363 {F : fl_N} (h : gi F) (k : Nat) : 0 ≤ F 363 k ∧ F 363 k ≤ 5 ∧ (k < 80 → F 363 k ≤ 2) := by
  have h1 := h 363 k
  rw [gb_363] at h1
  refine ⟨h1.1, ?_, fun h2 => ?_⟩
  · have h3 := h1.2
    revert h3
    show F 363 k ≤ (if k < 80 then 2 else if k < 88 then 5 else 0) → _
    split
    · intro h3; omega
    · split
      · intro h3; exact h3
      · intro h3; omega
  · have h3 := h1.2
    revert h3
    show F 363 k ≤ (if k < 80 then 2 else if k < 88 then 5 else 0) → _
    rw [if_pos h2]
    exact id
theorem gi_u363 {F : fl_N} {k : Nat} {z : Int} (h : gi F) (h1 : 0 ≤ z) (h2 : z ≤ 5) (h3 : k < 80 → z ≤ 2) (hk : k < 88) : gi (fl_u F 363 k z) := by
  refine gi_u (a := 0) (b := if k < 80 then 2 else if k < 88 then 5 else 0) h (gb_363 k) h1 ?_
  by_cases h4 : k < 80
  · rw [if_pos h4]
    exact h3 h4
  · rw [if_neg h4]
    first | exact h2 | (rw [if_pos hk]; exact h2)
def gg (G : Nat → Nat → Option Nat) : Prop := ∀ r t rs, sh_T[r]? = some (1, t, rs) → ∀ j, j < rs.length → G r j = rs[j]?
/-! FAMILIES of cells -/
def nm (a n : Nat) : Prop := (sh_T[a]? = some (2, 3, [a + 1 + 3, a + 2 + 3, 0]) ∧ sh_T[a + 1]? = some (0, 1, [n]) ∧ sh_T[a + 2]? = some (0, 0, [n])) ∧ (gb a 2 = (0, (n : Int)) ∧ gb_T[a + 2]? = some (0, [(-1, 3)]) ∧ gb_T[a + 1]? = some (0, [(-9223372036854775808, 9223372036854775807)])) ∧ 8 ≤ a ∧ a + 2 ≤ 107 ∧ 2 ≤ n ∧ n ≤ 6
def cl (a n : Nat) (t q : Int) : Prop := (sh_T[a]? = some (2, 4, [a + 1 + 3, a + 2 + 3, a + 3 + 3, a + 4 + 3, 0, 0]) ∧ sh_T[a + 1]? = some (0, 0, [n]) ∧ sh_T[a + 2]? = some (0, 3, [n]) ∧ sh_T[a + 3]? = some (0, 0, [n]) ∧ sh_T[a + 4]? = some (0, 0, [n])) ∧ (gb a 4 = (0, (n : Int)) ∧ gb a 5 = (0, 999) ∧ gb_T[a + 1]? = some (0, [(q, 5)]) ∧ gb_T[a + 2]? = some (0, [(0, 1)]) ∧ gb_T[a + 3]? = some (0, [(-1, t)]) ∧ gb_T[a + 4]? = some (0, [(-1, t)])) ∧ 42 ≤ a ∧ a + 4 ≤ 117 ∧ 4 ≤ n ∧ n ≤ 12 ∧ 2 ≤ t ∧ t ≤ 5 ∧ -1 ≤ q ∧ q ≤ 0
def sp (a : Nat) : Prop := (sh_T[a]? = some (2, 10, [0, a + 1 + 3, 0, a + 2 + 3, 1, 1, a + 4 + 3, 0]) ∧ sh_T[a + 1]? = some (0, 0, [3]) ∧ sh_T[a + 2]? = some (2, 9, [1, 1, 0, a + 3 + 3, 0]) ∧ sh_T[a + 3]? = some (0, 0, [4]) ∧ sh_T[a + 4]? = some (0, 0, [4])) ∧ (gb a 0 = (0, 4) ∧ gb_T[a + 1]? = some (0, [(-1, 5)]) ∧ gb a 2 = (0, 999) ∧ gb a 4 = (-9223372036854775808, 9223372036854775807) ∧ gb a 5 = (-9223372036854775808, 9223372036854775807) ∧ gb a 7 = (0, 4) ∧ gb (a + 2) 0 = (-9223372036854775808, 9223372036854775807) ∧ gb (a + 2) 1 = (-9223372036854775808, 9223372036854775807) ∧ gb (a + 2) 2 = (0, 1) ∧ gb (a + 2) 4 = (0, 4) ∧ gb_T[a + 3]? = some (0, [(0, 39)]) ∧ gb_T[a + 4]? = some (0, [(0, 39)])) ∧ 126 ≤ a ∧ a + 4 ≤ 330
theorem gb_a {r k : Nat} {b : Int × Int} {bs : List (Int × Int)} (h : gb_T[r]? = some (0, b :: bs)) : gb r k = b := by
  simp only [gb, h]
