set_option maxRecDepth 100000 in
theorem ck113 : chkL 113 0 cd113 = true := by decide +kernel
set_option maxRecDepth 100000 in
theorem ck114 : chkL 114 0 cd114 = true := by decide +kernel
set_option maxRecDepth 100000 in
theorem ck115 : chkL 115 0 cd115 = true := by decide +kernel
set_option maxRecDepth 100000 in
theorem ck116 : chkL 116 0 cd116 = true := by decide +kernel
set_option maxRecDepth 100000 in
theorem ck117 : chkL 117 0 cd117 = true := by decide +kernel
set_option maxRecDepth 100000 in
theorem ck118 : chkL 118 0 cd118 = true := by decide +kernel
set_option maxRecDepth 100000 in
theorem ck119 : chkL 119 0 cd119 = true := by decide +kernel
set_option maxRecDepth 100000 in
theorem ck120 : chkL 120 0 cd120 = true := by decide +kernel
set_option maxRecDepth 100000 in
theorem ck121 : chkL 121 0 cd121 = true := by decide +kernel
set_option maxRecDepth 100000 in
theorem ck122 : chkL 122 0 cd122 = true := by decide +kernel
set_option maxRecDepth 100000 in
theorem ck123 : chkL 123 0 cd123 = true := by decide +kernel
set_option maxRecDepth 100000 in
theorem ck124 : chkL 124 0 cd124 = true := by decide +kernel
set_option maxRecDepth 100000 in
theorem ck125 : chkL 125 0 cd125 = true := by decide +kernel
set_option maxRecDepth 100000 in
theorem ck126 : chkL 126 0 cd126 = true := by decide +kernel
set_option maxRecDepth 100000 in
theorem ck127 : chkL 127 0 cd127 = true := by decide +kernel
set_option maxRecDepth 100000 in
theorem ck128 : chkL 128 0 cd128 = true := by decide +kernel
set_option maxRecDepth 100000 in
theorem ck129 : chkL 129 0 cd129 = true := by decide +kernel
set_option maxRecDepth 100000 in
theorem ck130 : chkL 130 0 cd130 = true := by decide +kernel
set_option maxRecDepth 100000 in
theorem ck131 : chkL 131 0 cd131 = true := by decide +kernel
set_option maxRecDepth 100000 in
theorem ck132 : chkL 132 0 cd132 = true := by decide +kernel
set_option maxRecDepth 100000 in
theorem ck133 : chkL 133 0 cd133 = true := by decide +kernel
set_option maxRecDepth 100000 in
theorem ck134 : chkL 134 0 cd134 = true := by decide +kernel
set_option maxRecDepth 100000 in
theorem ck135 : chkL 135 0 cd135 = true := by decide +kernel
set_option maxRecDepth 100000 in
theorem ck136 : chkL 136 0 cd136 = true := by decide +kernel
set_option maxRecDepth 100000 in
theorem ck137 : chkL 137 0 cd137 = true := by decide +kernel
set_option maxRecDepth 100000 in
theorem ck138 : chkL 138 0 cd138 = true := by decide +kernel
set_option maxRecDepth 100000 in
theorem ck139 : chkL 139 0 cd139 = true := by decide +kernel
set_option maxRecDepth 100000 in
theorem ck140 : chkL 140 0 cd140 = true := by decide +kernel
set_option maxRecDepth 100000 in
theorem ck141 : chkL 141 0 cd141 = true := by decide +kernel
set_option maxRecDepth 100000 in
theorem ck142 : chkL 142 0 cd142 = true := by decide +kernel
set_option maxRecDepth 100000 in
theorem ck143 : chkL 143 0 cd143 = true := by decide +kernel
set_option maxRecDepth 100000 in
theorem ck144 : chkL 144 0 cd144 = true := by decide +kernel
set_option maxRecDepth 100000 in
theorem ck145 : chkL 145 0 cd145 = true := by decide +kernel
set_option maxRecDepth 100000 in
theorem ck146 : chkL 146 0 cd146 = true := by decide +kernel
set_option maxRecDepth 100000 in
theorem ck147 : chkL 147 0 cd147 = true := by decide +kernel
set_option maxRecDepth 100000 in
theorem ck148 : chkL 148 0 cd148 = true := by decide +kernel
set_option maxRecDepth 100000 in
theorem ck149 : chkL 149 0 cd149 = true := by decide +kernel
set_option maxRecDepth 100000 in
theorem ck150 : chkL 150 0 cd150 = true := by decide +kernel
set_option maxRecDepth 100000 in
theorem ck151 : chkL 151 0 cd151 = true := by decide +kernel
set_option maxRecDepth 100000 in
theorem ck152 : chkL 152 0 cd152 = true := by decide +kernel
set_option maxRecDepth 100000 in
theorem ck153 : chkL 153 0 cd153 = true := by decide +kernel
set_option maxRecDepth 100000 in
theorem ck154 : chkL 154 0 cd154 = true := by decide +kernel
set_option maxRecDepth 100000 in
theorem ck155 : chkL 155 0 cd155 = true := by decide +kernel
set_option maxRecDepth 100000 in
theorem ck156 : chkL 156 0 cd156 = true := by decide +kernel
set_option maxRecDepth 100000 in
theorem ck157 : chkL 157 0 cd157 = true := by decide +kernel
set_option maxRecDepth 100000 in
theorem ck158 : chkL 158 0 cd158 = true := by decide +kernel
set_option maxRecDepth 100000 in
theorem ck159 : chkL 159 0 cd159 = true := by decide +kernel
set_option maxRecDepth 100000 in
theorem ck160 : chkL 160 0 cd160 = true := by decide +kernel
set_option maxRecDepth 100000 in
theorem ck161 : chkL 161 0 cd161 = true := by decide +kernel
set_option maxRecDepth 100000 in
theorem ck162 : chkL 162 0 cd162 = true := by decide +kernel
set_option maxRecDepth 100000 in
theorem ck163 : chkL 163 0 cd163 = true := by decide +kernel
set_option maxRecDepth 100000 in
theorem ck164 : chkL 164 0 cd164 = true := by decide +kernel
set_option maxRecDepth 100000 in
theorem ck165 : chkL 165 0 cd165 = true := by decide +kernel
set_option maxRecDepth 100000 in
theorem ck166 : chkL 166 0 cd166 = true := by decide +kernel
set_option maxRecDepth 100000 in
theorem ck167 : chkL 167 0 cd167 = true := by decide +kernel
set_option maxRecDepth 100000 in
theorem ck168 : chkL 168 0 cd168 = true := by decide +kernel
set_option maxRecDepth 100000 in
theorem ck169 : chkL 169 0 cd169 = true := by decide +kernel
set_option maxRecDepth 100000 in
theorem ck170 : chkL 170 0 cd170 = true := by decide +kernel
set_option maxRecDepth 100000 in
theorem ck171 : chkL 171 0 cd171 = true := by decide +kernel
set_option maxRecDepth 100000 in
theorem ck172 : chkL 172 0 cd172 = true := by decide +kernel
set_option maxRecDepth 100000 in
theorem ck173 : chkL 173 0 cd173 = true := by decide +kernel
set_option maxRecDepth 100000 in
theorem ck174 : chkL 174 0 cd174 = true := by decide +kernel
set_option maxRecDepth 100000 in
theorem ck175 : chkL 175 0 cd175 = true := by decide +kernel
set_option maxRecDepth 100000 in
theorem ck176 : chkL 176 0 cd176 = true := by decide +kernel
set_option maxRecDepth 100000 in
theorem ck177 : chkL 177 0 cd177 = true := by decide +kernel
set_option maxRecDepth 100000 in
theorem ck178 : chkL 178 0 cd178 = true := by decide +kernel
set_option maxRecDepth 100000 in
theorem ck179 : chkL 179 0 cd179 = true := by decide +kernel
set_option maxRecDepth 100000 in
theorem ck180 : chkL 180 0 cd180 = true := by decide +kernel
set_option maxRecDepth 100000 in
theorem ck181 : chkL 181 0 cd181 = true := by decide +kernel
set_option maxRecDepth 100000 in
theorem ck182 : chkL 182 0 cd182 = true := by decide +kernel
set_option maxRecDepth 100000 in
theorem ck183 : chkL 183 0 cd183 = true := by decide +kernel
set_option maxRecDepth 100000 in
theorem ck184 : chkL 184 0 cd184 = true := by decide +kernel
set_option maxRecDepth 100000 in
theorem ck185 : chkL 185 0 cd185 = true := by decide +kernel
set_option maxRecDepth 100000 in
theorem ck186 : chkL 186 0 cd186 = true := by decide +kernel
set_option maxRecDepth 100000 in
theorem ck187 : chkL 187 0 cd187 = true := by decide +kernel
set_option maxRecDepth 100000 in
theorem ck188 : chkL 188 0 cd188 = true := by decide +kernel
set_option maxRecDepth 100000 in
theorem ck189 : chkL 189 0 cd189 = true := by decide +kernel
set_option maxRecDepth 100000 in
theorem ck190 : chkL 190 0 cd190 = true := by decide +kernel
set_option maxRecDepth 100000 in
theorem ck191 : chkL 191 0 cd191 = true := by decide +kernel
set_option maxRecDepth 100000 in
theorem ck192 : chkL 192 0 cd192 = true := by decide +kernel
set_option maxRecDepth 100000 in
theorem ck193 : chkL 193 0 cd193 = true := by decide +kernel
set_option maxRecDepth 100000 in
theorem ck194 : chkL 194 0 cd194 = true := by decide +kernel
set_option maxRecDepth 100000 in
theorem ck195 : chkL 195 0 cd195 = true := by decide +kernel
set_option maxRecDepth 100000 in
theorem ck196 : chkL 196 0 cd196 = true := by decide +kernel
set_option maxRecDepth 100000 in
theorem ck197 : chkL 197 0 cd197 = true := by decide +kernel
set_option maxRecDepth 100000 in
theorem ck198 : chkL 198 0 cd198 = true := by decide +kernel
set_option maxRecDepth 100000 in
theorem ck199 : chkL 199 0 cd199 = true := by decide +kernel
set_option maxRecDepth 100000 in
theorem ck200 : chkL 200 0 cd200 = true := by decide +kernel
set_option maxRecDepth 100000 in
theorem ck201 : chkL 201 0 cd201 = true := by decide +kernel
set_option maxRecDepth 100000 in
theorem ck202 : chkL 202 0 cd202 = true := by decide +kernel
set_option maxRecDepth 100000 in
theorem ck203 : chkL 203 0 cd203 = true := by decide +kernel
set_option maxRecDepth 100000 in
theorem ck204 : chkL 204 0 cd204 = true := by decide +kernel
set_option maxRecDepth 100000 in
theorem ck205 : chkL 205 0 cd205 = true := by decide +kernel
set_option maxRecDepth 100000 in
theorem ck206 : chkL 206 0 cd206 = true := by decide +kernel
set_option maxRecDepth 100000 in
theorem ck207 : chkL 207 0 cd207 = true := by decide +kernel
set_option maxRecDepth 100000 in
theorem ck208 : chkL 208 0 cd208 = true := by decide +kernel
set_option maxRecDepth 100000 in
theorem ck209 : chkL 209 0 cd209 = true := by decide +kernel
set_option maxRecDepth 100000 in
theorem ck210 : chkL 210 0 cd210 = true := by decide +kernel
set_option maxRecDepth 100000 in
theorem ck211 : chkL 211 0 cd211 = true := by decide +kernel
set_option maxRecDepth 100000 in
theorem ck212 : chkL 212 0 cd212 = true := by decide +kernel
set_option maxRecDepth 100000 in
theorem ck213 : chkL 213 0 cd213 = true := by decide +kernel
set_option maxRecDepth 100000 in
theorem ck214 : chkL 214 0 cd214 = true := by decide +kernel
set_option maxRecDepth 100000 in
theorem ck215 : chkL 215 0 cd215 = true := by decide +kernel
set_option maxRecDepth 100000 in
theorem ck216 : chkL 216 0 cd216 = true := by decide +kernel
set_option maxRecDepth 100000 in
theorem ck217 : chkL 217 0 cd217 = true := by decide +kernel
set_option maxRecDepth 100000 in
theorem ck218 : chkL 218 0 cd218 = true := by decide +kernel
set_option maxRecDepth 100000 in
theorem ck219 : chkL 219 0 cd219 = true := by decide +kernel
set_option maxRecDepth 100000 in
theorem ck220 : chkL 220 0 cd220 = true := by decide +kernel
set_option maxRecDepth 100000 in
theorem ck221 : chkL 221 0 cd221 = true := by decide +kernel
set_option maxRecDepth 100000 in
theorem ck222 : chkL 222 0 cd222 = true := by decide +kernel
set_option maxRecDepth 100000 in
theorem ck223 : chkL 223 0 cd223 = true := by decide +kernel
set_option maxRecDepth 100000 in
theorem ck224 : chkL 224 0 cd224 = true := by decide +kernel
set_option maxRecDepth 100000 in
theorem ck225 : chkL 225 0 cd225 = true := by decide +kernel
set_option maxRecDepth 100000 in
theorem ck226 : chkL 226 0 cd226 = true := by decide +kernel
set_option maxRecDepth 100000 in
theorem ck227 : chkL 227 0 cd227 = true := by decide +kernel
set_option maxRecDepth 100000 in
theorem ck228 : chkL 228 0 cd228 = true := by decide +kernel
set_option maxRecDepth 100000 in
theorem ck229 : chkL 229 0 cd229 = true := by decide +kernel
set_option maxRecDepth 100000 in
theorem ck230 : chkL 230 0 cd230 = true := by decide +kernel
set_option maxRecDepth 100000 in
theorem ck231 : chkL 231 0 cd231 = true := by decide +kernel
set_option maxRecDepth 100000 in
theorem ck232 : chkL 232 0 cd232 = true := by decide +kernel
set_option maxRecDepth 100000 in
theorem ck233 : chkL 233 0 cd233 = true := by decide +kernel
set_option maxRecDepth 100000 in
theorem ck234 : chkL 234 0 cd234 = true := by decide +kernel
set_option maxRecDepth 100000 in
theorem ck235 : chkL 235 0 cd235 = true := by decide +kernel
set_option maxRecDepth 100000 in
theorem ck236 : chkL 236 0 cd236 = true := by decide +kernel
set_option maxRecDepth 100000 in
theorem ck237 : chkL 237 0 cd237 = true := by decide +kernel
set_option maxRecDepth 100000 in
theorem ck238 : chkL 238 0 cd238 = true := by decide +kernel
set_option maxRecDepth 100000 in
theorem ck239 : chkL 239 0 cd239 = true := by decide +kernel
set_option maxRecDepth 100000 in
theorem ck240 : chkL 240 0 cd240 = true := by decide +kernel
set_option maxRecDepth 100000 in
theorem ck241 : chkL 241 0 cd241 = true := by decide +kernel
theorem CKall : CKd := by
  intro m hm
  have hm : m < 242 := hm
  match m, hm with
  | 0, _ => exact ck0
  | 1, _ => exact ck1
  | 2, _ => exact ck2
  | 3, _ => exact ck3
  | 4, _ => exact ck4
  | 5, _ => exact ck5
  | 6, _ => exact ck6
  | 7, _ => exact ck7
  | 8, _ => exact ck8
  | 9, _ => exact ck9
  | 10, _ => exact ck10
  | 11, _ => exact ck11
  | 12, _ => exact ck12
  | 13, _ => exact ck13
  | 14, _ => exact ck14
  | 15, _ => exact ck15
  | 16, _ => exact ck16
  | 17, _ => exact ck17
  | 18, _ => exact ck18
  | 19, _ => exact ck19
  | 20, _ => exact ck20
  | 21, _ => exact ck21
  | 22, _ => exact ck22
  | 23, _ => exact ck23
  | 24, _ => exact ck24
  | 25, _ => exact ck25
  | 26, _ => exact ck26
  | 27, _ => exact ck27
  | 28, _ => exact ck28
  | 29, _ => exact ck29
  | 30, _ => exact ck30
  | 31, _ => exact ck31
  | 32, _ => exact ck32
  | 33, _ => exact ck33
  | 34, _ => exact ck34
  | 35, _ => exact ck35
  | 36, _ => exact ck36
  | 37, _ => exact ck37
  | 38, _ => exact ck38
  | 39, _ => exact ck39
  | 40, _ => exact ck40
  | 41, _ => exact ck41
  | 42, _ => exact ck42
  | 43, _ => exact ck43
  | 44, _ => exact ck44
  | 45, _ => exact ck45
  | 46, _ => exact ck46
  | 47, _ => exact ck47
  | 48, _ => exact ck48
  | 49, _ => exact ck49
  | 50, _ => exact ck50
  | 51, _ => exact ck51
  | 52, _ => exact ck52
  | 53, _ => exact ck53
  | 54, _ => exact ck54
  | 55, _ => exact ck55
  | 56, _ => exact ck56
  | 57, _ => exact ck57
  | 58, _ => exact ck58
  | 59, _ => exact ck59
  | 60, _ => exact ck60
  | 61, _ => exact ck61
  | 62, _ => exact ck62
  | 63, _ => exact ck63
  | 64, _ => exact ck64
  | 65, _ => exact ck65
  | 66, _ => exact ck66
  | 67, _ => exact ck67
  | 68, _ => exact ck68
  | 69, _ => exact ck69
  | 70, _ => exact ck70
  | 71, _ => exact ck71
  | 72, _ => exact ck72
  | 73, _ => exact ck73
  | 74, _ => exact ck74
  | 75, _ => exact ck75
  | 76, _ => exact ck76
  | 77, _ => exact ck77
  | 78, _ => exact ck78
  | 79, _ => exact ck79
  | 80, _ => exact ck80
  | 81, _ => exact ck81
  | 82, _ => exact ck82
  | 83, _ => exact ck83
  | 84, _ => exact ck84
  | 85, _ => exact ck85
  | 86, _ => exact ck86
  | 87, _ => exact ck87
  | 88, _ => exact ck88
  | 89, _ => exact ck89
  | 90, _ => exact ck90
  | 91, _ => exact ck91
  | 92, _ => exact ck92
  | 93, _ => exact ck93
  | 94, _ => exact ck94
  | 95, _ => exact ck95
  | 96, _ => exact ck96
  | 97, _ => exact ck97
  | 98, _ => exact ck98
  | 99, _ => exact ck99
  | 100, _ => exact ck100
  | 101, _ => exact ck101
  | 102, _ => exact ck102
  | 103, _ => exact ck103
  | 104, _ => exact ck104
  | 105, _ => exact ck105
  | 106, _ => exact ck106
  | 107, _ => exact ck107
  | 108, _ => exact ck108
  | 109, _ => exact ck109
  | 110, _ => exact ck110
  | 111, _ => exact ck111
  | 112, _ => exact ck112
  | 113, _ => exact ck113
  | 114, _ => exact ck114
  | 115, _ => exact ck115
  | 116, _ => exact ck116
  | 117, _ => exact ck117
  | 118, _ => exact ck118
  | 119, _ => exact ck119
  | 120, _ => exact ck120
  | 121, _ => exact ck121
  | 122, _ => exact ck122
  | 123, _ => exact ck123
  | 124, _ => exact ck124
  | 125, _ => exact ck125
  | 126, _ => exact ck126
  | 127, _ => exact ck127
  | 128, _ => exact ck128
  | 129, _ => exact ck129
  | 130, _ => exact ck130
  | 131, _ => exact ck131
  | 132, _ => exact ck132
  | 133, _ => exact ck133
  | 134, _ => exact ck134
  | 135, _ => exact ck135
  | 136, _ => exact ck136
  | 137, _ => exact ck137
  | 138, _ => exact ck138
  | 139, _ => exact ck139
  | 140, _ => exact ck140
  | 141, _ => exact ck141
  | 142, _ => exact ck142
  | 143, _ => exact ck143
  | 144, _ => exact ck144
  | 145, _ => exact ck145
  | 146, _ => exact ck146
  | 147, _ => exact ck147
  | 148, _ => exact ck148
  | 149, _ => exact ck149
  | 150, _ => exact ck150
  | 151, _ => exact ck151
  | 152, _ => exact ck152
  | 153, _ => exact ck153
  | 154, _ => exact ck154
  | 155, _ => exact ck155
  | 156, _ => exact ck156
  | 157, _ => exact ck157
  | 158, _ => exact ck158
  | 159, _ => exact ck159
  | 160, _ => exact ck160
  | 161, _ => exact ck161
  | 162, _ => exact ck162
  | 163, _ => exact ck163
  | 164, _ => exact ck164
  | 165, _ => exact ck165
  | 166, _ => exact ck166
  | 167, _ => exact ck167
  | 168, _ => exact ck168
  | 169, _ => exact ck169
  | 170, _ => exact ck170
  | 171, _ => exact ck171
  | 172, _ => exact ck172
  | 173, _ => exact ck173
  | 174, _ => exact ck174
  | 175, _ => exact ck175
  | 176, _ => exact ck176
  | 177, _ => exact ck177
  | 178, _ => exact ck178
  | 179, _ => exact ck179
  | 180, _ => exact ck180
  | 181, _ => exact ck181
  | 182, _ => exact ck182
  | 183, _ => exact ck183
  | 184, _ => exact ck184
  | 185, _ => exact ck185
  | 186, _ => exact ck186
  | 187, _ => exact ck187
  | 188, _ => exact ck188
  | 189, _ => exact ck189
  | 190, _ => exact ck190
  | 191, _ => exact ck191
  | 192, _ => exact ck192
  | 193, _ => exact ck193
  | 194, _ => exact ck194
  | 195, _ => exact ck195
  | 196, _ => exact ck196
  | 197, _ => exact ck197
  | 198, _ => exact ck198
  | 199, _ => exact ck199
  | 200, _ => exact ck200
  | 201, _ => exact ck201
  | 202, _ => exact ck202
  | 203, _ => exact ck203
  | 204, _ => exact ck204
  | 205, _ => exact ck205
  | 206, _ => exact ck206
  | 207, _ => exact ck207
  | 208, _ => exact ck208
  | 209, _ => exact ck209
  | 210, _ => exact ck210
  | 211, _ => exact ck211
  | 212, _ => exact ck212
  | 213, _ => exact ck213
  | 214, _ => exact ck214
  | 215, _ => exact ck215
  | 216, _ => exact ck216
  | 217, _ => exact ck217
  | 218, _ => exact ck218
  | 219, _ => exact ck219
  | 220, _ => exact ck220
  | 221, _ => exact ck221
  | 222, _ => exact ck222
  | 223, _ => exact ck223
  | 224, _ => exact ck224
  | 225, _ => exact ck225
  | 226, _ => exact ck226
  | 227, _ => exact ck227
  | 228, _ => exact ck228
  | 229, _ => exact ck229
  | 230, _ => exact ck230
  | 231, _ => exact ck231
  | 232, _ => exact ck232
  | 233, _ => exact ck233
  | 234, _ => exact ck234
  | 235, _ => exact ck235
  | 236, _ => exact ck236
  | 237, _ => exact ck237
  | 238, _ => exact ck238
  | 239, _ => exact ck239
  | 240, _ => exact ck240
  | 241, _ => exact ck241
  | k + 242, h => omega
