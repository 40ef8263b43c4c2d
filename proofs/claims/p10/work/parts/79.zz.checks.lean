theorem xi_ok132 : xi_okM xi_ms xi_m132 = true := by decide +kernel
theorem xi_ok133 : xi_okM xi_ms xi_m133 = true := by decide +kernel
theorem xi_ok134 : xi_okM xi_ms xi_m134 = true := by decide +kernel
theorem xi_ok135 : xi_okM xi_ms xi_m135 = true := by decide +kernel
theorem xi_ok136 : xi_okM xi_ms xi_m136 = true := by decide +kernel
theorem xi_ok137 : xi_okM xi_ms xi_m137 = true := by decide +kernel
theorem xi_ok138 : xi_okM xi_ms xi_m138 = true := by decide +kernel
theorem xi_ok139 : xi_okM xi_ms xi_m139 = true := by decide +kernel
theorem xi_ok140 : xi_okM xi_ms xi_m140 = true := by decide +kernel
theorem xi_ok141 : xi_okM xi_ms xi_m141 = true := by decide +kernel
theorem xi_ok142 : xi_okM xi_ms xi_m142 = true := by decide +kernel
theorem xi_ok143 : xi_okM xi_ms xi_m143 = true := by decide +kernel
theorem xi_ok144 : xi_okM xi_ms xi_m144 = true := by decide +kernel
theorem xi_ok145 : xi_okM xi_ms xi_m145 = true := by decide +kernel
theorem xi_ok146 : xi_okM xi_ms xi_m146 = true := by decide +kernel
theorem xi_ok147 : xi_okM xi_ms xi_m147 = true := by decide +kernel
theorem xi_ok148 : xi_okM xi_ms xi_m148 = true := by decide +kernel
theorem xi_ok149 : xi_okM xi_ms xi_m149 = true := by decide +kernel
theorem xi_ok150 : xi_okM xi_ms xi_m150 = true := by decide +kernel
theorem xi_ok151 : xi_okM xi_ms xi_m151 = true := by decide +kernel
theorem xi_ok152 : xi_okM xi_ms xi_m152 = true := by decide +kernel
theorem xi_ok153 : xi_okM xi_ms xi_m153 = true := by decide +kernel
theorem xi_ok154 : xi_okM xi_ms xi_m154 = true := by decide +kernel
theorem xi_ok155 : xi_okM xi_ms xi_m155 = true := by decide +kernel
theorem xi_ok156 : xi_okM xi_ms xi_m156 = true := by decide +kernel
theorem xi_ok157 : xi_okM xi_ms xi_m157 = true := by decide +kernel
theorem xi_ok158 : xi_okM xi_ms xi_m158 = true := by decide +kernel
theorem xi_ok159 : xi_okM xi_ms xi_m159 = true := by decide +kernel
theorem xi_ok160 : xi_okM xi_ms xi_m160 = true := by decide +kernel
theorem xi_ok161 : xi_okM xi_ms xi_m161 = true := by decide +kernel
theorem xi_ok162 : xi_okM xi_ms xi_m162 = true := by decide +kernel
theorem xi_ok163 : xi_okM xi_ms xi_m163 = true := by decide +kernel
theorem xi_ok164 : xi_okM xi_ms xi_m164 = true := by decide +kernel
theorem xi_ok165 : xi_okM xi_ms xi_m165 = true := by decide +kernel
theorem xi_ok166 : xi_okM xi_ms xi_m166 = true := by decide +kernel
theorem xi_ok167 : xi_okM xi_ms xi_m167 = true := by decide +kernel
theorem xi_ok168 : xi_okM xi_ms xi_m168 = true := by decide +kernel
theorem xi_ok169 : xi_okM xi_ms xi_m169 = true := by decide +kernel
theorem xi_ok170 : xi_okM xi_ms xi_m170 = true := by decide +kernel
theorem xi_ok171 : xi_okM xi_ms xi_m171 = true := by decide +kernel
theorem xi_ok172 : xi_okM xi_ms xi_m172 = true := by decide +kernel
theorem xi_ok173 : xi_okM xi_ms xi_m173 = true := by decide +kernel
theorem xi_ok174 : xi_okM xi_ms xi_m174 = true := by decide +kernel
theorem xi_ok175 : xi_okM xi_ms xi_m175 = true := by decide +kernel
theorem xi_ok176 : xi_okM xi_ms xi_m176 = true := by decide +kernel
theorem xi_ok177 : xi_okM xi_ms xi_m177 = true := by decide +kernel
theorem xi_ok178 : xi_okM xi_ms xi_m178 = true := by decide +kernel
theorem xi_ok179 : xi_okM xi_ms xi_m179 = true := by decide +kernel
theorem xi_ok180 : xi_okM xi_ms xi_m180 = true := by decide +kernel
theorem xi_ok181 : xi_okM xi_ms xi_m181 = true := by decide +kernel
theorem xi_ok182 : xi_okM xi_ms xi_m182 = true := by decide +kernel
theorem xi_ok183 : xi_okM xi_ms xi_m183 = true := by decide +kernel
theorem xi_ok184 : xi_okM xi_ms xi_m184 = true := by decide +kernel
theorem xi_ok185 : xi_okM xi_ms xi_m185 = true := by decide +kernel
theorem xi_ok186 : xi_okM xi_ms xi_m186 = true := by decide +kernel
theorem xi_ok187 : xi_okM xi_ms xi_m187 = true := by decide +kernel
theorem xi_ok188 : xi_okM xi_ms xi_m188 = true := by decide +kernel
theorem xi_ok189 : xi_okM xi_ms xi_m189 = true := by decide +kernel
theorem xi_ok190 : xi_okM xi_ms xi_m190 = true := by decide +kernel
theorem xi_ok191 : xi_okM xi_ms xi_m191 = true := by decide +kernel
theorem xi_ok192 : xi_okM xi_ms xi_m192 = true := by decide +kernel
theorem xi_ok193 : xi_okM xi_ms xi_m193 = true := by decide +kernel
theorem xi_ok194 : xi_okM xi_ms xi_m194 = true := by decide +kernel
theorem xi_ok195 : xi_okM xi_ms xi_m195 = true := by decide +kernel
theorem xi_ok196 : xi_okM xi_ms xi_m196 = true := by decide +kernel
theorem xi_ok197 : xi_okM xi_ms xi_m197 = true := by decide +kernel
set_option maxRecDepth 100000 in
theorem xi_oks : ∀ (y : Nat) (M : xi_M), xi_ms[y]? = some M → xi_okM xi_ms M = true
  | 0, _, h => by cases h; exact xi_ok0
  | 1, _, h => by cases h; exact xi_ok1
  | 2, _, h => by cases h; exact xi_ok2
  | 3, _, h => by cases h; exact xi_ok3
  | 4, _, h => by cases h; exact xi_ok4
  | 5, _, h => by cases h; exact xi_ok5
  | 6, _, h => by cases h; exact xi_ok6
  | 7, _, h => by cases h; exact xi_ok7
  | 8, _, h => by cases h; exact xi_ok8
  | 9, _, h => by cases h; exact xi_ok9
  | 10, _, h => by cases h; exact xi_ok10
  | 11, _, h => by cases h; exact xi_ok11
  | 12, _, h => by cases h; exact xi_ok12
  | 13, _, h => by cases h; exact xi_ok13
  | 14, _, h => by cases h; exact xi_ok14
  | 15, _, h => by cases h; exact xi_ok15
  | 16, _, h => by cases h; exact xi_ok16
  | 17, _, h => by cases h; exact xi_ok17
  | 18, _, h => by cases h; exact xi_ok18
  | 19, _, h => by cases h; exact xi_ok19
  | 20, _, h => by cases h; exact xi_ok20
  | 21, _, h => by cases h; exact xi_ok21
  | 22, _, h => by cases h; exact xi_ok22
  | 23, _, h => by cases h; exact xi_ok23
  | 24, _, h => by cases h; exact xi_ok24
  | 25, _, h => by cases h; exact xi_ok25
  | 26, _, h => by cases h; exact xi_ok26
  | 27, _, h => by cases h; exact xi_ok27
  | 28, _, h => by cases h; exact xi_ok28
  | 29, _, h => by cases h; exact xi_ok29
  | 30, _, h => by cases h; exact xi_ok30
  | 31, _, h => by cases h; exact xi_ok31
  | 32, _, h => by cases h; exact xi_ok32
  | 33, _, h => by cases h; exact xi_ok33
  | 34, _, h => by cases h; exact xi_ok34
  | 35, _, h => by cases h; exact xi_ok35
  | 36, _, h => by cases h; exact xi_ok36
  | 37, _, h => by cases h; exact xi_ok37
  | 38, _, h => by cases h; exact xi_ok38
  | 39, _, h => by cases h; exact xi_ok39
  | 40, _, h => by cases h; exact xi_ok40
  | 41, _, h => by cases h; exact xi_ok41
  | 42, _, h => by cases h; exact xi_ok42
  | 43, _, h => by cases h; exact xi_ok43
  | 44, _, h => by cases h; exact xi_ok44
  | 45, _, h => by cases h; exact xi_ok45
  | 46, _, h => by cases h; exact xi_ok46
  | 47, _, h => by cases h; exact xi_ok47
  | 48, _, h => by cases h; exact xi_ok48
  | 49, _, h => by cases h; exact xi_ok49
  | 50, _, h => by cases h; exact xi_ok50
  | 51, _, h => by cases h; exact xi_ok51
  | 52, _, h => by cases h; exact xi_ok52
  | 53, _, h => by cases h; exact xi_ok53
  | 54, _, h => by cases h; exact xi_ok54
  | 55, _, h => by cases h; exact xi_ok55
  | 56, _, h => by cases h; exact xi_ok56
  | 57, _, h => by cases h; exact xi_ok57
  | 58, _, h => by cases h; exact xi_ok58
  | 59, _, h => by cases h; exact xi_ok59
  | 60, _, h => by cases h; exact xi_ok60
  | 61, _, h => by cases h; exact xi_ok61
  | 62, _, h => by cases h; exact xi_ok62
  | 63, _, h => by cases h; exact xi_ok63
  | 64, _, h => by cases h; exact xi_ok64
  | 65, _, h => by cases h; exact xi_ok65
  | 66, _, h => by cases h; exact xi_ok66
  | 67, _, h => by cases h; exact xi_ok67
  | 68, _, h => by cases h; exact xi_ok68
  | 69, _, h => by cases h; exact xi_ok69
  | 70, _, h => by cases h; exact xi_ok70
  | 71, _, h => by cases h; exact xi_ok71
  | 72, _, h => by cases h; exact xi_ok72
  | 73, _, h => by cases h; exact xi_ok73
  | 74, _, h => by cases h; exact xi_ok74
  | 75, _, h => by cases h; exact xi_ok75
  | 76, _, h => by cases h; exact xi_ok76
  | 77, _, h => by cases h; exact xi_ok77
  | 78, _, h => by cases h; exact xi_ok78
  | 79, _, h => by cases h; exact xi_ok79
  | 80, _, h => by cases h; exact xi_ok80
  | 81, _, h => by cases h; exact xi_ok81
  | 82, _, h => by cases h; exact xi_ok82
  | 83, _, h => by cases h; exact xi_ok83
  | 84, _, h => by cases h; exact xi_ok84
  | 85, _, h => by cases h; exact xi_ok85
  | 86, _, h => by cases h; exact xi_ok86
  | 87, _, h => by cases h; exact xi_ok87
  | 88, _, h => by cases h; exact xi_ok88
  | 89, _, h => by cases h; exact xi_ok89
  | 90, _, h => by cases h; exact xi_ok90
  | 91, _, h => by cases h; exact xi_ok91
  | 92, _, h => by cases h; exact xi_ok92
  | 93, _, h => by cases h; exact xi_ok93
  | 94, _, h => by cases h; exact xi_ok94
  | 95, _, h => by cases h; exact xi_ok95
  | 96, _, h => by cases h; exact xi_ok96
  | 97, _, h => by cases h; exact xi_ok97
  | 98, _, h => by cases h; exact xi_ok98
  | 99, _, h => by cases h; exact xi_ok99
  | 100, _, h => by cases h; exact xi_ok100
  | 101, _, h => by cases h; exact xi_ok101
  | 102, _, h => by cases h; exact xi_ok102
  | 103, _, h => by cases h; exact xi_ok103
  | 104, _, h => by cases h; exact xi_ok104
  | 105, _, h => by cases h; exact xi_ok105
  | 106, _, h => by cases h; exact xi_ok106
  | 107, _, h => by cases h; exact xi_ok107
  | 108, _, h => by cases h; exact xi_ok108
  | 109, _, h => by cases h; exact xi_ok109
  | 110, _, h => by cases h; exact xi_ok110
  | 111, _, h => by cases h; exact xi_ok111
  | 112, _, h => by cases h; exact xi_ok112
  | 113, _, h => by cases h; exact xi_ok113
  | 114, _, h => by cases h; exact xi_ok114
  | 115, _, h => by cases h; exact xi_ok115
  | 116, _, h => by cases h; exact xi_ok116
  | 117, _, h => by cases h; exact xi_ok117
  | 118, _, h => by cases h; exact xi_ok118
  | 119, _, h => by cases h; exact xi_ok119
  | 120, _, h => by cases h; exact xi_ok120
  | 121, _, h => by cases h; exact xi_ok121
  | 122, _, h => by cases h; exact xi_ok122
  | 123, _, h => by cases h; exact xi_ok123
  | 124, _, h => by cases h; exact xi_ok124
  | 125, _, h => by cases h; exact xi_ok125
  | 126, _, h => by cases h; exact xi_ok126
  | 127, _, h => by cases h; exact xi_ok127
  | 128, _, h => by cases h; exact xi_ok128
  | 129, _, h => by cases h; exact xi_ok129
  | 130, _, h => by cases h; exact xi_ok130
  | 131, _, h => by cases h; exact xi_ok131
  | 132, _, h => by cases h; exact xi_ok132
  | 133, _, h => by cases h; exact xi_ok133
  | 134, _, h => by cases h; exact xi_ok134
  | 135, _, h => by cases h; exact xi_ok135
  | 136, _, h => by cases h; exact xi_ok136
  | 137, _, h => by cases h; exact xi_ok137
  | 138, _, h => by cases h; exact xi_ok138
  | 139, _, h => by cases h; exact xi_ok139
  | 140, _, h => by cases h; exact xi_ok140
  | 141, _, h => by cases h; exact xi_ok141
  | 142, _, h => by cases h; exact xi_ok142
  | 143, _, h => by cases h; exact xi_ok143
  | 144, _, h => by cases h; exact xi_ok144
  | 145, _, h => by cases h; exact xi_ok145
  | 146, _, h => by cases h; exact xi_ok146
  | 147, _, h => by cases h; exact xi_ok147
  | 148, _, h => by cases h; exact xi_ok148
  | 149, _, h => by cases h; exact xi_ok149
  | 150, _, h => by cases h; exact xi_ok150
  | 151, _, h => by cases h; exact xi_ok151
  | 152, _, h => by cases h; exact xi_ok152
  | 153, _, h => by cases h; exact xi_ok153
  | 154, _, h => by cases h; exact xi_ok154
  | 155, _, h => by cases h; exact xi_ok155
  | 156, _, h => by cases h; exact xi_ok156
  | 157, _, h => by cases h; exact xi_ok157
  | 158, _, h => by cases h; exact xi_ok158
  | 159, _, h => by cases h; exact xi_ok159
  | 160, _, h => by cases h; exact xi_ok160
  | 161, _, h => by cases h; exact xi_ok161
  | 162, _, h => by cases h; exact xi_ok162
  | 163, _, h => by cases h; exact xi_ok163
  | 164, _, h => by cases h; exact xi_ok164
  | 165, _, h => by cases h; exact xi_ok165
  | 166, _, h => by cases h; exact xi_ok166
  | 167, _, h => by cases h; exact xi_ok167
  | 168, _, h => by cases h; exact xi_ok168
  | 169, _, h => by cases h; exact xi_ok169
  | 170, _, h => by cases h; exact xi_ok170
  | 171, _, h => by cases h; exact xi_ok171
  | 172, _, h => by cases h; exact xi_ok172
  | 173, _, h => by cases h; exact xi_ok173
  | 174, _, h => by cases h; exact xi_ok174
  | 175, _, h => by cases h; exact xi_ok175
  | 176, _, h => by cases h; exact xi_ok176
  | 177, _, h => by cases h; exact xi_ok177
  | 178, _, h => by cases h; exact xi_ok178
  | 179, _, h => by cases h; exact xi_ok179
  | 180, _, h => by cases h; exact xi_ok180
  | 181, _, h => by cases h; exact xi_ok181
  | 182, _, h => by cases h; exact xi_ok182
  | 183, _, h => by cases h; exact xi_ok183
  | 184, _, h => by cases h; exact xi_ok184
  | 185, _, h => by cases h; exact xi_ok185
  | 186, _, h => by cases h; exact xi_ok186
  | 187, _, h => by cases h; exact xi_ok187
  | 188, _, h => by cases h; exact xi_ok188
  | 189, _, h => by cases h; exact xi_ok189
  | 190, _, h => by cases h; exact xi_ok190
  | 191, _, h => by cases h; exact xi_ok191
  | 192, _, h => by cases h; exact xi_ok192
  | 193, _, h => by cases h; exact xi_ok193
  | 194, _, h => by cases h; exact xi_ok194
  | 195, _, h => by cases h; exact xi_ok195
  | 196, _, h => by cases h; exact xi_ok196
  | 197, _, h => by cases h; exact xi_ok197
  | y + 198, _, h => by simp [xi_ms] at h
