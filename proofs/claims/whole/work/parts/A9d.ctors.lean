/-! The constructors. -/
def ownX11 (b : Nat) : List Value := [.ref (b + 0), .int 0, .int 0, .int 0, .int 0, .int 0, .int 0, .long 0, .int 0, .int (-1), .int 0, .int (-1), .int (-1), .int 0, .ref (b + 1), .ref (b + 2), .ref (b + 3), .ref (b + 4), .ref (b + 5), .ref (b + 6), .ref (b + 7), .ref (b + 8), .ref (b + 9), .ref (b + 10), .ref (b + 11), .ref (b + 12), .ref (b + 13), .ref (b + 14), .ref (b + 15), .ref (b + 16), .ref (b + 17), .ref (b + 18), .int 1, .ref (b + 19), .ref (b + 20), .ref (b + 21), .ref (b + 22), .ref (b + 23), .ref (b + 24), .ref (b + 25), .ref (b + 26), .int 0, .int 0, .long 1, .int (-1), .int (-1), .int 0, .ref (b + 27), .ref (b + 28), .ref (b + 29), .ref (b + 30), .ref (b + 31), .ref (b + 32), .ref (b + 33), .ref (b + 34), .ref (b + 35), .ref (b + 36), .int (-1), .ref (b + 37), .ref (b + 38), .ref (b + 39), .ref (b + 40), .ref (b + 41), .ref (b + 42), .int 0]
def tmX11 (G : Geo) (b : Nat) : List va_E := [.inl (G.2.1 20, 1800, .inl fun _ => 0), .inl (G.2.1 20, 2, .inl fun _ => 0), .inl (G.2.1 21, 28, .inr (.inl fun _ => 0)), .inl (G.2.1 20, 2, .inl fun _ => 0), .inl (G.2.1 20, 2, .inl fun _ => 0), .inl (G.2.1 21, 12, .inr (.inl fun _ => 0)), .inl (G.2.1 20, 12, .inl fun _ => 0), .inl (G.2.1 20, 12, .inl fun _ => 0), .inl (G.2.1 20, 12, .inl fun _ => 0), .inl (G.2.1 20, 96, .inl fun _ => 0), .inl (G.2.1 20, 96, .inl fun _ => 0), .inl (G.2.1 20, 2, .inl fun _ => 0), .inl (G.2.1 21, 20, .inr (.inl fun _ => 0)), .inl (G.2.1 20, 20, .inl fun _ => 0), .inl (G.2.1 20, 20, .inl fun _ => 0), .inl (G.2.1 20, 20, .inl fun _ => 0), .inl (G.2.1 20, 20, .inl fun _ => 0), .inl (G.2.1 20, 20, .inl fun _ => 0), .inl (G.2.1 20, 20, .inl fun _ => 0), .inl (G.2.1 20, 6, .inl fun _ => 0), .inl (G.2.1 20, 22, .inl fun _ => 0), .inl (G.2.1 20, 220, .inl fun _ => 0), .inl (G.2.1 20, 220, .inl fun _ => 0), .inl (G.2.1 20, 220, .inl fun _ => 0), .inl (G.2.1 20, 220, .inl fun _ => 0), .inl (G.2.1 20, 220, .inl fun _ => 0), .inl (G.2.1 20, 220, .inl fun _ => 0), .inl (G.2.1 20, 6, .inl fun _ => 0), .inl (G.2.1 20, 6, .inl fun _ => 0), .inl (G.2.1 20, 48, .inl fun _ => 0), .inl (G.2.1 20, 48, .inl fun _ => 0), .inl (G.2.1 20, 48, .inl fun _ => 0), .inl (G.2.1 20, 48, .inl fun _ => 0), .inl (G.2.1 20, 48, .inl fun _ => 0), .inl (G.2.1 20, 48, .inl fun _ => 0), .inl (G.2.1 20, 48, .inl fun _ => 0), .inl (G.2.1 20, 48, .inl fun _ => 0), .inl (G.2.1 20, 10, .inl fun _ => 0), .inl (G.2.1 20, 10, .inl fun _ => 0), .inl (G.2.1 20, 10, .inl fun _ => 0), .inl (G.2.1 20, 10, .inl fun _ => 0), .inl (G.2.1 20, 10, .inl fun _ => 0), .inl (G.2.1 20, 80, .inl fun _ => 0)]
def csX11 (G : Geo) (b : Nat) : List va_E := (tmX11 G b).set 3 (.inl (G.2.1 20, 2, .inl (upd (fun _ => 0) (0 : Int32).toNatClampNeg 4)))
theorem len_tm11 (G : Geo) (b : Nat) : (tmX11 G b).length = 43 := rfl
theorem len_cs11 (G : Geo) (b : Nat) : (csX11 G b).length = 43 := by rw [csX11, List.length_set, len_tm11]
theorem dfl11 : dfl 11 = [.null, .int 0, .int 0, .int 0, .int 0, .int 0, .int 0, .long 0, .int 0, .int 0, .int 0, .int 0, .int 0, .int 0, .null, .null, .null, .null, .null, .null, .null, .null, .null, .null, .null, .null, .null, .null, .null, .null, .null, .null, .int 0, .null, .null, .null, .null, .null, .null, .null, .null, .int 0, .int 0, .long 0, .int 0, .int 0, .int 0, .null, .null, .null, .null, .null, .null, .null, .null, .null, .null, .int 0, .null, .null, .null, .null, .null, .null, .int 0] := rfl
set_option maxRecDepth 100000 in
theorem fin11 (b : Nat) : ((((((((((((((((((((((((((((((((((((((((((((((((((((((((((((((((((dfl 11).set 0 (.ref (b + 0))).set 1 (.int 0)).set 2 (.int 0)).set 3 (.int 0)).set 4 (.int 0)).set 5 (.int 0)).set 6 (.int 0)).set 7 (.long 0)).set 8 (.int 0)).set 9 (.int (-1))).set 10 (.int 0)).set 11 (.int (-1))).set 12 (.int (-1))).set 13 (.int 0)).set 14 (.ref (b + 1))).set 15 (.ref (b + 2))).set 16 (.ref (b + 3))).set 17 (.ref (b + 4))).set 18 (.ref (b + 5))).set 19 (.ref (b + 6))).set 20 (.ref (b + 7))).set 21 (.ref (b + 8))).set 22 (.ref (b + 9))).set 23 (.ref (b + 10))).set 24 (.ref (b + 11))).set 25 (.ref (b + 12))).set 26 (.ref (b + 13))).set 27 (.ref (b + 14))).set 28 (.ref (b + 15))).set 29 (.ref (b + 16))).set 30 (.ref (b + 17))).set 31 (.ref (b + 18))).set 32 (.int 1)).set 33 (.ref (b + 19))).set 34 (.ref (b + 20))).set 35 (.ref (b + 21))).set 36 (.ref (b + 22))).set 37 (.ref (b + 23))).set 38 (.ref (b + 24))).set 39 (.ref (b + 25))).set 40 (.ref (b + 26))).set 41 (.int 0)).set 42 (.int 0)).set 43 (.long 1)).set 44 (.int (-1))).set 45 (.int (-1))).set 46 (.int 0)).set 47 (.ref (b + 27))).set 48 (.ref (b + 28))).set 49 (.ref (b + 29))).set 50 (.ref (b + 30))).set 51 (.ref (b + 31))).set 52 (.ref (b + 32))).set 53 (.ref (b + 33))).set 54 (.ref (b + 34))).set 55 (.ref (b + 35))).set 56 (.ref (b + 36))).set 57 (.int (-1))).set 58 (.ref (b + 37))).set 59 (.ref (b + 38))).set 60 (.ref (b + 39))).set 61 (.ref (b + 40))).set 62 (.ref (b + 41))).set 63 (.ref (b + 42))).set 64 (.int 0)) = ownX11 b := by
  simp only [dfl11, List.set_cons_zero, List.set_cons_succ, ownX11]
theorem dX11_init_0 : decode cX11_init 0 = .ok (.aload_n 0, 1) := by decide +kernel
theorem dX11_init_1 : decode cX11_init 1 = .ok (.invokespecial 1, 3) := by decide +kernel
theorem dX11_init_4 : decode cX11_init 4 = .ok (.aload_n 0, 1) := by decide +kernel
theorem dX11_init_5 : decode cX11_init 5 = .ok (.sipush 1800, 3) := by decide +kernel
theorem dX11_init_8 : decode cX11_init 8 = .ok (.newarray .int, 2) := by decide +kernel
theorem dX11_init_10 : decode cX11_init 10 = .ok (.putfield 7, 3) := by decide +kernel
theorem dX11_init_13 : decode cX11_init 13 = .ok (.aload_n 0, 1) := by decide +kernel
theorem dX11_init_14 : decode cX11_init 14 = .ok (.iconst 0, 1) := by decide +kernel
theorem dX11_init_15 : decode cX11_init 15 = .ok (.putfield 13, 3) := by decide +kernel
theorem dX11_init_18 : decode cX11_init 18 = .ok (.aload_n 0, 1) := by decide +kernel
theorem dX11_init_19 : decode cX11_init 19 = .ok (.iconst 0, 1) := by decide +kernel
theorem dX11_init_20 : decode cX11_init 20 = .ok (.putfield 17, 3) := by decide +kernel
theorem dX11_init_23 : decode cX11_init 23 = .ok (.aload_n 0, 1) := by decide +kernel
theorem dX11_init_24 : decode cX11_init 24 = .ok (.iconst 0, 1) := by decide +kernel
theorem dX11_init_25 : decode cX11_init 25 = .ok (.putfield 20, 3) := by decide +kernel
theorem dX11_init_28 : decode cX11_init 28 = .ok (.aload_n 0, 1) := by decide +kernel
theorem dX11_init_29 : decode cX11_init 29 = .ok (.iconst 0, 1) := by decide +kernel
theorem dX11_init_30 : decode cX11_init 30 = .ok (.putfield 23, 3) := by decide +kernel
theorem dX11_init_33 : decode cX11_init 33 = .ok (.aload_n 0, 1) := by decide +kernel
theorem dX11_init_34 : decode cX11_init 34 = .ok (.iconst 0, 1) := by decide +kernel
theorem dX11_init_35 : decode cX11_init 35 = .ok (.putfield 26, 3) := by decide +kernel
theorem dX11_init_38 : decode cX11_init 38 = .ok (.aload_n 0, 1) := by decide +kernel
theorem dX11_init_39 : decode cX11_init 39 = .ok (.iconst 0, 1) := by decide +kernel
theorem dX11_init_40 : decode cX11_init 40 = .ok (.putfield 29, 3) := by decide +kernel
theorem dX11_init_43 : decode cX11_init 43 = .ok (.aload_n 0, 1) := by decide +kernel
theorem dX11_init_44 : decode cX11_init 44 = .ok (.lconst 0, 1) := by decide +kernel
theorem dX11_init_45 : decode cX11_init 45 = .ok (.putfield 32, 3) := by decide +kernel
theorem dX11_init_48 : decode cX11_init 48 = .ok (.aload_n 0, 1) := by decide +kernel
theorem dX11_init_49 : decode cX11_init 49 = .ok (.iconst 0, 1) := by decide +kernel
theorem dX11_init_50 : decode cX11_init 50 = .ok (.putfield 36, 3) := by decide +kernel
theorem dX11_init_53 : decode cX11_init 53 = .ok (.aload_n 0, 1) := by decide +kernel
theorem dX11_init_54 : decode cX11_init 54 = .ok (.iconst (-1), 1) := by decide +kernel
theorem dX11_init_55 : decode cX11_init 55 = .ok (.putfield 39, 3) := by decide +kernel
theorem dX11_init_58 : decode cX11_init 58 = .ok (.aload_n 0, 1) := by decide +kernel
theorem dX11_init_59 : decode cX11_init 59 = .ok (.iconst 0, 1) := by decide +kernel
theorem dX11_init_60 : decode cX11_init 60 = .ok (.putfield 42, 3) := by decide +kernel
theorem dX11_init_63 : decode cX11_init 63 = .ok (.aload_n 0, 1) := by decide +kernel
theorem dX11_init_64 : decode cX11_init 64 = .ok (.iconst (-1), 1) := by decide +kernel
theorem dX11_init_65 : decode cX11_init 65 = .ok (.putfield 45, 3) := by decide +kernel
theorem dX11_init_68 : decode cX11_init 68 = .ok (.aload_n 0, 1) := by decide +kernel
theorem dX11_init_69 : decode cX11_init 69 = .ok (.iconst (-1), 1) := by decide +kernel
theorem dX11_init_70 : decode cX11_init 70 = .ok (.putfield 48, 3) := by decide +kernel
theorem dX11_init_73 : decode cX11_init 73 = .ok (.aload_n 0, 1) := by decide +kernel
theorem dX11_init_74 : decode cX11_init 74 = .ok (.iconst 0, 1) := by decide +kernel
theorem dX11_init_75 : decode cX11_init 75 = .ok (.putfield 51, 3) := by decide +kernel
theorem dX11_init_78 : decode cX11_init 78 = .ok (.aload_n 0, 1) := by decide +kernel
theorem dX11_init_79 : decode cX11_init 79 = .ok (.iconst 2, 1) := by decide +kernel
theorem dX11_init_80 : decode cX11_init 80 = .ok (.newarray .int, 2) := by decide +kernel
theorem dX11_init_82 : decode cX11_init 82 = .ok (.putfield 54, 3) := by decide +kernel
theorem dX11_init_85 : decode cX11_init 85 = .ok (.aload_n 0, 1) := by decide +kernel
theorem dX11_init_86 : decode cX11_init 86 = .ok (.bipush 28, 2) := by decide +kernel
theorem dX11_init_88 : decode cX11_init 88 = .ok (.newarray .long, 2) := by decide +kernel
theorem dX11_init_90 : decode cX11_init 90 = .ok (.putfield 57, 3) := by decide +kernel
theorem dX11_init_93 : decode cX11_init 93 = .ok (.aload_n 0, 1) := by decide +kernel
theorem dX11_init_94 : decode cX11_init 94 = .ok (.iconst 2, 1) := by decide +kernel
theorem dX11_init_95 : decode cX11_init 95 = .ok (.newarray .int, 2) := by decide +kernel
theorem dX11_init_97 : decode cX11_init 97 = .ok (.putfield 61, 3) := by decide +kernel
theorem dX11_init_100 : decode cX11_init 100 = .ok (.aload_n 0, 1) := by decide +kernel
theorem dX11_init_101 : decode cX11_init 101 = .ok (.iconst 2, 1) := by decide +kernel
theorem dX11_init_102 : decode cX11_init 102 = .ok (.newarray .int, 2) := by decide +kernel
theorem dX11_init_104 : decode cX11_init 104 = .ok (.putfield 64, 3) := by decide +kernel
theorem dX11_init_107 : decode cX11_init 107 = .ok (.aload_n 0, 1) := by decide +kernel
theorem dX11_init_108 : decode cX11_init 108 = .ok (.bipush 12, 2) := by decide +kernel
theorem dX11_init_110 : decode cX11_init 110 = .ok (.newarray .long, 2) := by decide +kernel
theorem dX11_init_112 : decode cX11_init 112 = .ok (.putfield 67, 3) := by decide +kernel
theorem dX11_init_115 : decode cX11_init 115 = .ok (.aload_n 0, 1) := by decide +kernel
theorem dX11_init_116 : decode cX11_init 116 = .ok (.bipush 12, 2) := by decide +kernel
theorem dX11_init_118 : decode cX11_init 118 = .ok (.newarray .int, 2) := by decide +kernel
theorem dX11_init_120 : decode cX11_init 120 = .ok (.putfield 70, 3) := by decide +kernel
theorem dX11_init_123 : decode cX11_init 123 = .ok (.aload_n 0, 1) := by decide +kernel
theorem dX11_init_124 : decode cX11_init 124 = .ok (.bipush 12, 2) := by decide +kernel
theorem dX11_init_126 : decode cX11_init 126 = .ok (.newarray .int, 2) := by decide +kernel
theorem dX11_init_128 : decode cX11_init 128 = .ok (.putfield 73, 3) := by decide +kernel
theorem dX11_init_131 : decode cX11_init 131 = .ok (.aload_n 0, 1) := by decide +kernel
theorem dX11_init_132 : decode cX11_init 132 = .ok (.bipush 12, 2) := by decide +kernel
theorem dX11_init_134 : decode cX11_init 134 = .ok (.newarray .int, 2) := by decide +kernel
theorem dX11_init_136 : decode cX11_init 136 = .ok (.putfield 76, 3) := by decide +kernel
theorem dX11_init_139 : decode cX11_init 139 = .ok (.aload_n 0, 1) := by decide +kernel
theorem dX11_init_140 : decode cX11_init 140 = .ok (.bipush 96, 2) := by decide +kernel
theorem dX11_init_142 : decode cX11_init 142 = .ok (.newarray .int, 2) := by decide +kernel
theorem dX11_init_144 : decode cX11_init 144 = .ok (.putfield 79, 3) := by decide +kernel
theorem dX11_init_147 : decode cX11_init 147 = .ok (.aload_n 0, 1) := by decide +kernel
theorem dX11_init_148 : decode cX11_init 148 = .ok (.bipush 96, 2) := by decide +kernel
theorem dX11_init_150 : decode cX11_init 150 = .ok (.newarray .int, 2) := by decide +kernel
theorem dX11_init_152 : decode cX11_init 152 = .ok (.putfield 82, 3) := by decide +kernel
theorem dX11_init_155 : decode cX11_init 155 = .ok (.aload_n 0, 1) := by decide +kernel
theorem dX11_init_156 : decode cX11_init 156 = .ok (.iconst 2, 1) := by decide +kernel
theorem dX11_init_157 : decode cX11_init 157 = .ok (.newarray .int, 2) := by decide +kernel
theorem dX11_init_159 : decode cX11_init 159 = .ok (.putfield 85, 3) := by decide +kernel
theorem dX11_init_162 : decode cX11_init 162 = .ok (.aload_n 0, 1) := by decide +kernel
theorem dX11_init_163 : decode cX11_init 163 = .ok (.bipush 20, 2) := by decide +kernel
theorem dX11_init_165 : decode cX11_init 165 = .ok (.newarray .long, 2) := by decide +kernel
theorem dX11_init_167 : decode cX11_init 167 = .ok (.putfield 88, 3) := by decide +kernel
theorem dX11_init_170 : decode cX11_init 170 = .ok (.aload_n 0, 1) := by decide +kernel
theorem dX11_init_171 : decode cX11_init 171 = .ok (.bipush 20, 2) := by decide +kernel
theorem dX11_init_173 : decode cX11_init 173 = .ok (.newarray .int, 2) := by decide +kernel
theorem dX11_init_175 : decode cX11_init 175 = .ok (.putfield 91, 3) := by decide +kernel
theorem dX11_init_178 : decode cX11_init 178 = .ok (.aload_n 0, 1) := by decide +kernel
theorem dX11_init_179 : decode cX11_init 179 = .ok (.bipush 20, 2) := by decide +kernel
theorem dX11_init_181 : decode cX11_init 181 = .ok (.newarray .int, 2) := by decide +kernel
theorem dX11_init_183 : decode cX11_init 183 = .ok (.putfield 94, 3) := by decide +kernel
theorem dX11_init_186 : decode cX11_init 186 = .ok (.aload_n 0, 1) := by decide +kernel
theorem dX11_init_187 : decode cX11_init 187 = .ok (.bipush 20, 2) := by decide +kernel
theorem dX11_init_189 : decode cX11_init 189 = .ok (.newarray .int, 2) := by decide +kernel
theorem dX11_init_191 : decode cX11_init 191 = .ok (.putfield 97, 3) := by decide +kernel
theorem dX11_init_194 : decode cX11_init 194 = .ok (.aload_n 0, 1) := by decide +kernel
theorem dX11_init_195 : decode cX11_init 195 = .ok (.bipush 20, 2) := by decide +kernel
theorem dX11_init_197 : decode cX11_init 197 = .ok (.newarray .int, 2) := by decide +kernel
theorem dX11_init_199 : decode cX11_init 199 = .ok (.putfield 100, 3) := by decide +kernel
theorem dX11_init_202 : decode cX11_init 202 = .ok (.aload_n 0, 1) := by decide +kernel
theorem dX11_init_203 : decode cX11_init 203 = .ok (.bipush 20, 2) := by decide +kernel
theorem dX11_init_205 : decode cX11_init 205 = .ok (.newarray .int, 2) := by decide +kernel
theorem dX11_init_207 : decode cX11_init 207 = .ok (.putfield 103, 3) := by decide +kernel
theorem dX11_init_210 : decode cX11_init 210 = .ok (.aload_n 0, 1) := by decide +kernel
theorem dX11_init_211 : decode cX11_init 211 = .ok (.bipush 20, 2) := by decide +kernel
theorem dX11_init_213 : decode cX11_init 213 = .ok (.newarray .int, 2) := by decide +kernel
theorem dX11_init_215 : decode cX11_init 215 = .ok (.putfield 106, 3) := by decide +kernel
theorem dX11_init_218 : decode cX11_init 218 = .ok (.aload_n 0, 1) := by decide +kernel
theorem dX11_init_219 : decode cX11_init 219 = .ok (.iconst 1, 1) := by decide +kernel
theorem dX11_init_220 : decode cX11_init 220 = .ok (.putfield 109, 3) := by decide +kernel
theorem dX11_init_223 : decode cX11_init 223 = .ok (.aload_n 0, 1) := by decide +kernel
theorem dX11_init_224 : decode cX11_init 224 = .ok (.bipush 6, 2) := by decide +kernel
theorem dX11_init_226 : decode cX11_init 226 = .ok (.newarray .int, 2) := by decide +kernel
theorem dX11_init_228 : decode cX11_init 228 = .ok (.putfield 112, 3) := by decide +kernel
theorem dX11_init_231 : decode cX11_init 231 = .ok (.aload_n 0, 1) := by decide +kernel
theorem dX11_init_232 : decode cX11_init 232 = .ok (.bipush 22, 2) := by decide +kernel
theorem dX11_init_234 : decode cX11_init 234 = .ok (.newarray .int, 2) := by decide +kernel
theorem dX11_init_236 : decode cX11_init 236 = .ok (.putfield 115, 3) := by decide +kernel
theorem dX11_init_239 : decode cX11_init 239 = .ok (.aload_n 0, 1) := by decide +kernel
theorem dX11_init_240 : decode cX11_init 240 = .ok (.sipush 220, 3) := by decide +kernel
theorem dX11_init_243 : decode cX11_init 243 = .ok (.newarray .int, 2) := by decide +kernel
theorem dX11_init_245 : decode cX11_init 245 = .ok (.putfield 118, 3) := by decide +kernel
theorem dX11_init_248 : decode cX11_init 248 = .ok (.aload_n 0, 1) := by decide +kernel
theorem dX11_init_249 : decode cX11_init 249 = .ok (.sipush 220, 3) := by decide +kernel
theorem dX11_init_252 : decode cX11_init 252 = .ok (.newarray .int, 2) := by decide +kernel
theorem dX11_init_254 : decode cX11_init 254 = .ok (.putfield 121, 3) := by decide +kernel
theorem dX11_init_257 : decode cX11_init 257 = .ok (.aload_n 0, 1) := by decide +kernel
theorem dX11_init_258 : decode cX11_init 258 = .ok (.sipush 220, 3) := by decide +kernel
theorem dX11_init_261 : decode cX11_init 261 = .ok (.newarray .int, 2) := by decide +kernel
theorem dX11_init_263 : decode cX11_init 263 = .ok (.putfield 124, 3) := by decide +kernel
theorem dX11_init_266 : decode cX11_init 266 = .ok (.aload_n 0, 1) := by decide +kernel
theorem dX11_init_267 : decode cX11_init 267 = .ok (.sipush 220, 3) := by decide +kernel
theorem dX11_init_270 : decode cX11_init 270 = .ok (.newarray .int, 2) := by decide +kernel
theorem dX11_init_272 : decode cX11_init 272 = .ok (.putfield 127, 3) := by decide +kernel
theorem dX11_init_275 : decode cX11_init 275 = .ok (.aload_n 0, 1) := by decide +kernel
theorem dX11_init_276 : decode cX11_init 276 = .ok (.sipush 220, 3) := by decide +kernel
theorem dX11_init_279 : decode cX11_init 279 = .ok (.newarray .int, 2) := by decide +kernel
theorem dX11_init_281 : decode cX11_init 281 = .ok (.putfield 130, 3) := by decide +kernel
theorem dX11_init_284 : decode cX11_init 284 = .ok (.aload_n 0, 1) := by decide +kernel
theorem dX11_init_285 : decode cX11_init 285 = .ok (.sipush 220, 3) := by decide +kernel
theorem dX11_init_288 : decode cX11_init 288 = .ok (.newarray .int, 2) := by decide +kernel
theorem dX11_init_290 : decode cX11_init 290 = .ok (.putfield 133, 3) := by decide +kernel
theorem dX11_init_293 : decode cX11_init 293 = .ok (.aload_n 0, 1) := by decide +kernel
theorem dX11_init_294 : decode cX11_init 294 = .ok (.iconst 0, 1) := by decide +kernel
theorem dX11_init_295 : decode cX11_init 295 = .ok (.putfield 136, 3) := by decide +kernel
theorem dX11_init_298 : decode cX11_init 298 = .ok (.aload_n 0, 1) := by decide +kernel
theorem dX11_init_299 : decode cX11_init 299 = .ok (.iconst 0, 1) := by decide +kernel
theorem dX11_init_300 : decode cX11_init 300 = .ok (.putfield 139, 3) := by decide +kernel
theorem dX11_init_303 : decode cX11_init 303 = .ok (.aload_n 0, 1) := by decide +kernel
theorem dX11_init_304 : decode cX11_init 304 = .ok (.lconst 1, 1) := by decide +kernel
theorem dX11_init_305 : decode cX11_init 305 = .ok (.putfield 142, 3) := by decide +kernel
theorem dX11_init_308 : decode cX11_init 308 = .ok (.aload_n 0, 1) := by decide +kernel
theorem dX11_init_309 : decode cX11_init 309 = .ok (.iconst (-1), 1) := by decide +kernel
theorem dX11_init_310 : decode cX11_init 310 = .ok (.putfield 145, 3) := by decide +kernel
theorem dX11_init_313 : decode cX11_init 313 = .ok (.aload_n 0, 1) := by decide +kernel
theorem dX11_init_314 : decode cX11_init 314 = .ok (.iconst (-1), 1) := by decide +kernel
theorem dX11_init_315 : decode cX11_init 315 = .ok (.putfield 148, 3) := by decide +kernel
theorem dX11_init_318 : decode cX11_init 318 = .ok (.aload_n 0, 1) := by decide +kernel
theorem dX11_init_319 : decode cX11_init 319 = .ok (.iconst 0, 1) := by decide +kernel
theorem dX11_init_320 : decode cX11_init 320 = .ok (.putfield 151, 3) := by decide +kernel
theorem dX11_init_323 : decode cX11_init 323 = .ok (.aload_n 0, 1) := by decide +kernel
theorem dX11_init_324 : decode cX11_init 324 = .ok (.bipush 6, 2) := by decide +kernel
theorem dX11_init_326 : decode cX11_init 326 = .ok (.newarray .int, 2) := by decide +kernel
theorem dX11_init_328 : decode cX11_init 328 = .ok (.putfield 154, 3) := by decide +kernel
theorem dX11_init_331 : decode cX11_init 331 = .ok (.aload_n 0, 1) := by decide +kernel
theorem dX11_init_332 : decode cX11_init 332 = .ok (.bipush 6, 2) := by decide +kernel
theorem dX11_init_334 : decode cX11_init 334 = .ok (.newarray .int, 2) := by decide +kernel
theorem dX11_init_336 : decode cX11_init 336 = .ok (.putfield 157, 3) := by decide +kernel
theorem dX11_init_339 : decode cX11_init 339 = .ok (.aload_n 0, 1) := by decide +kernel
theorem dX11_init_340 : decode cX11_init 340 = .ok (.bipush 48, 2) := by decide +kernel
theorem dX11_init_342 : decode cX11_init 342 = .ok (.newarray .int, 2) := by decide +kernel
theorem dX11_init_344 : decode cX11_init 344 = .ok (.putfield 160, 3) := by decide +kernel
theorem dX11_init_347 : decode cX11_init 347 = .ok (.aload_n 0, 1) := by decide +kernel
theorem dX11_init_348 : decode cX11_init 348 = .ok (.bipush 48, 2) := by decide +kernel
theorem dX11_init_350 : decode cX11_init 350 = .ok (.newarray .int, 2) := by decide +kernel
theorem dX11_init_352 : decode cX11_init 352 = .ok (.putfield 163, 3) := by decide +kernel
theorem dX11_init_355 : decode cX11_init 355 = .ok (.aload_n 0, 1) := by decide +kernel
theorem dX11_init_356 : decode cX11_init 356 = .ok (.bipush 48, 2) := by decide +kernel
theorem dX11_init_358 : decode cX11_init 358 = .ok (.newarray .int, 2) := by decide +kernel
theorem dX11_init_360 : decode cX11_init 360 = .ok (.putfield 166, 3) := by decide +kernel
theorem dX11_init_363 : decode cX11_init 363 = .ok (.aload_n 0, 1) := by decide +kernel
theorem dX11_init_364 : decode cX11_init 364 = .ok (.bipush 48, 2) := by decide +kernel
theorem dX11_init_366 : decode cX11_init 366 = .ok (.newarray .int, 2) := by decide +kernel
theorem dX11_init_368 : decode cX11_init 368 = .ok (.putfield 169, 3) := by decide +kernel
theorem dX11_init_371 : decode cX11_init 371 = .ok (.aload_n 0, 1) := by decide +kernel
theorem dX11_init_372 : decode cX11_init 372 = .ok (.bipush 48, 2) := by decide +kernel
theorem dX11_init_374 : decode cX11_init 374 = .ok (.newarray .int, 2) := by decide +kernel
theorem dX11_init_376 : decode cX11_init 376 = .ok (.putfield 172, 3) := by decide +kernel
theorem dX11_init_379 : decode cX11_init 379 = .ok (.aload_n 0, 1) := by decide +kernel
theorem dX11_init_380 : decode cX11_init 380 = .ok (.bipush 48, 2) := by decide +kernel
theorem dX11_init_382 : decode cX11_init 382 = .ok (.newarray .int, 2) := by decide +kernel
theorem dX11_init_384 : decode cX11_init 384 = .ok (.putfield 175, 3) := by decide +kernel
theorem dX11_init_387 : decode cX11_init 387 = .ok (.aload_n 0, 1) := by decide +kernel
theorem dX11_init_388 : decode cX11_init 388 = .ok (.bipush 48, 2) := by decide +kernel
theorem dX11_init_390 : decode cX11_init 390 = .ok (.newarray .int, 2) := by decide +kernel
theorem dX11_init_392 : decode cX11_init 392 = .ok (.putfield 178, 3) := by decide +kernel
theorem dX11_init_395 : decode cX11_init 395 = .ok (.aload_n 0, 1) := by decide +kernel
theorem dX11_init_396 : decode cX11_init 396 = .ok (.bipush 48, 2) := by decide +kernel
theorem dX11_init_398 : decode cX11_init 398 = .ok (.newarray .int, 2) := by decide +kernel
theorem dX11_init_400 : decode cX11_init 400 = .ok (.putfield 181, 3) := by decide +kernel
theorem dX11_init_403 : decode cX11_init 403 = .ok (.aload_n 0, 1) := by decide +kernel
theorem dX11_init_404 : decode cX11_init 404 = .ok (.iconst (-1), 1) := by decide +kernel
theorem dX11_init_405 : decode cX11_init 405 = .ok (.putfield 184, 3) := by decide +kernel
theorem dX11_init_408 : decode cX11_init 408 = .ok (.aload_n 0, 1) := by decide +kernel
theorem dX11_init_409 : decode cX11_init 409 = .ok (.bipush 10, 2) := by decide +kernel
theorem dX11_init_411 : decode cX11_init 411 = .ok (.newarray .int, 2) := by decide +kernel
theorem dX11_init_413 : decode cX11_init 413 = .ok (.putfield 187, 3) := by decide +kernel
theorem dX11_init_416 : decode cX11_init 416 = .ok (.aload_n 0, 1) := by decide +kernel
theorem dX11_init_417 : decode cX11_init 417 = .ok (.bipush 10, 2) := by decide +kernel
theorem dX11_init_419 : decode cX11_init 419 = .ok (.newarray .int, 2) := by decide +kernel
theorem dX11_init_421 : decode cX11_init 421 = .ok (.putfield 190, 3) := by decide +kernel
theorem dX11_init_424 : decode cX11_init 424 = .ok (.aload_n 0, 1) := by decide +kernel
theorem dX11_init_425 : decode cX11_init 425 = .ok (.bipush 10, 2) := by decide +kernel
theorem dX11_init_427 : decode cX11_init 427 = .ok (.newarray .int, 2) := by decide +kernel
theorem dX11_init_429 : decode cX11_init 429 = .ok (.putfield 193, 3) := by decide +kernel
theorem dX11_init_432 : decode cX11_init 432 = .ok (.aload_n 0, 1) := by decide +kernel
theorem dX11_init_433 : decode cX11_init 433 = .ok (.bipush 10, 2) := by decide +kernel
theorem dX11_init_435 : decode cX11_init 435 = .ok (.newarray .int, 2) := by decide +kernel
theorem dX11_init_437 : decode cX11_init 437 = .ok (.putfield 196, 3) := by decide +kernel
theorem dX11_init_440 : decode cX11_init 440 = .ok (.aload_n 0, 1) := by decide +kernel
theorem dX11_init_441 : decode cX11_init 441 = .ok (.bipush 10, 2) := by decide +kernel
theorem dX11_init_443 : decode cX11_init 443 = .ok (.newarray .int, 2) := by decide +kernel
theorem dX11_init_445 : decode cX11_init 445 = .ok (.putfield 199, 3) := by decide +kernel
theorem dX11_init_448 : decode cX11_init 448 = .ok (.aload_n 0, 1) := by decide +kernel
theorem dX11_init_449 : decode cX11_init 449 = .ok (.bipush 80, 2) := by decide +kernel
theorem dX11_init_451 : decode cX11_init 451 = .ok (.newarray .int, 2) := by decide +kernel
theorem dX11_init_453 : decode cX11_init 453 = .ok (.putfield 202, 3) := by decide +kernel
theorem dX11_init_456 : decode cX11_init 456 = .ok (.aload_n 0, 1) := by decide +kernel
theorem dX11_init_457 : decode cX11_init 457 = .ok (.iconst 0, 1) := by decide +kernel
theorem dX11_init_458 : decode cX11_init 458 = .ok (.putfield 205, 3) := by decide +kernel
theorem dX11_init_461 : decode cX11_init 461 = .ok (.aload_n 0, 1) := by decide +kernel
theorem dX11_init_462 : decode cX11_init 462 = .ok (.getfield 61, 3) := by decide +kernel
theorem dX11_init_465 : decode cX11_init 465 = .ok (.iconst 0, 1) := by decide +kernel
theorem dX11_init_466 : decode cX11_init 466 = .ok (.iconst 4, 1) := by decide +kernel
theorem dX11_init_467 : decode cX11_init 467 = .ok (.iastore, 1) := by decide +kernel
theorem dX11_init_468 : decode cX11_init 468 = .ok (.return_, 1) := by decide +kernel
set_option maxHeartbeats 4000000 in
set_option maxRecDepth 100000 in
theorem mk_X11 (l : Launch) (G : Geo) (h0 sz : Nat) : Met l (ctY 11) (.code (ctY 11) cX11_init 1 none :: GC) ({ frames := 1, cells := 43, slots := 4090, locals := 12 }) (MPre G 11 h0 sz) (MPost G 11 h0 sz ownX11 (csX11 G)) 43 4090 (fun q => q = h0 ∨ sz ≤ q) := by
  refine Met.ofW (cc := cX11_init) (maxL := 1) (ret := none) (by decide) rfl ?_
  intro p e s m args below meth c s₁ B hml hv
  obtain ⟨rfl, hsz, hh, hP, hK, hN⟩ := hv
  subst hsz
  have hx := B.exec
  have hb := B.bytes
  have hr := B.returns
  have hts0 := atoms_spec (ws := .code (ctY 11) cX11_init 1 none :: GC) B.pre
  have hts : ∀ w ∈ GC, w.before _ s = true := fun w hw => hts0 w (List.mem_cons_of_mem _ hw)
  have hown : s.vm.findClass (clR 11) = some m.cls := findClass_of_methodNamed B.named
  have hlocks := B.notSynchronized
  have hin : meth.name = "<init>" := (name_of_methodNamed B.named B.method).1
  have C : CtX G 11 p s m _ meth c cX11_init := ⟨hx, hb, hown, hts, hK, hin, by decide⟩
  have K : KS G h0 11 (dfl 11) [] s.heap s.heap [] := ⟨hh, rfl, hP, va_S.rf⟩
  have hf : (dfl 11).length = 65 := rfl
  have hn : ([] : List va_E).length = 0 := rfl
  have c20 : s.vm.findClass ("[" ++ (FieldType.int).toString) = some (G.2.1 20) := (hK.2 0 _ rfl).2
  have c21 : s.vm.findClass ("[" ++ (FieldType.long).toString) = some (G.2.1 21) := (hK.2 1 _ rfl).2
  have c22 : s.vm.findClass ("[" ++ (FieldType.boolean).toString) = some (G.2.1 22) := (hK.2 2 _ rfl).2
  have hl := lv_entry ([.ref h0]) (n := 1) (Nat.le_of_ble_eq_true rfl)
  rw [lg_entry_eq]
  generalize (lg_sl ([.ref h0]) ++ List.replicate (1 - (lg_sl ([.ref h0])).length) Slot.unset).toArray = ls at hl ⊢
  have hl : lv_has ls 1 [(0, .ref h0)] := hl
  refine lv_aload_n hx hb dX11_init_0 rfl (lv_at hl 0 rfl) ?_
  refine W.objInit hx hb hown (hts _ gx_oi_11) (hts _ gx_in) (hts _ gx_co) rfl (by rw [hml]; exact hl.1) rfl dX11_init_1 (Nat.le_of_ble_eq_true rfl) (Nat.le_of_ble_eq_true rfl) ?_
  refine W.eq (g2 := F0 m 4 ls []) rfl ?_
  refine lv_aload_n hx hb dX11_init_4 rfl (lv_at hl 0 rfl) ?_
  refine lv_sipush hx hb (v := 1800) dX11_init_5 (by decide +kernel) ?_
  refine mkA_arr 1800 0 1 (z := (1800, .inl fun _ => 0)) rfl hn C gx_ai rfl c20 (fun _ => rfl) (by decide +kernel) (by decide +kernel) (by decide +kernel) (Nat.le_of_ble_eq_true rfl) (Nat.le_of_ble_eq_true rfl) dX11_init_8 K (fun H1 L1 e8 hn K => ?_)
  refine mkA_put 0 hf (by decide) C (by decide) gx_f_11_0 rfl ⟨rfl, rfl⟩ dX11_init_10 K (fun H1 locs1 fs1 f10 hf K => ?_)
  refine lv_aload_n hx hb dX11_init_13 rfl (lv_at hl 0 rfl) ?_
  refine lv_iconst hx hb (v := 0) dX11_init_14 (by decide +kernel) ?_
  refine mkA_put 1 hf (by decide) C (by decide) gx_f_11_1 rfl ⟨rfl, rfl⟩ dX11_init_15 K (fun H1 locs1 fs1 f15 hf K => ?_)
  refine lv_aload_n hx hb dX11_init_18 rfl (lv_at hl 0 rfl) ?_
  refine lv_iconst hx hb (v := 0) dX11_init_19 (by decide +kernel) ?_
  refine mkA_put 2 hf (by decide) C (by decide) gx_f_11_2 rfl ⟨rfl, rfl⟩ dX11_init_20 K (fun H1 locs1 fs1 f20 hf K => ?_)
  refine lv_aload_n hx hb dX11_init_23 rfl (lv_at hl 0 rfl) ?_
  refine lv_iconst hx hb (v := 0) dX11_init_24 (by decide +kernel) ?_
  refine mkA_put 3 hf (by decide) C (by decide) gx_f_11_3 rfl ⟨rfl, rfl⟩ dX11_init_25 K (fun H1 locs1 fs1 f25 hf K => ?_)
  refine lv_aload_n hx hb dX11_init_28 rfl (lv_at hl 0 rfl) ?_
  refine lv_iconst hx hb (v := 0) dX11_init_29 (by decide +kernel) ?_
  refine mkA_put 4 hf (by decide) C (by decide) gx_f_11_4 rfl ⟨rfl, rfl⟩ dX11_init_30 K (fun H1 locs1 fs1 f30 hf K => ?_)
  refine lv_aload_n hx hb dX11_init_33 rfl (lv_at hl 0 rfl) ?_
  refine lv_iconst hx hb (v := 0) dX11_init_34 (by decide +kernel) ?_
  refine mkA_put 5 hf (by decide) C (by decide) gx_f_11_5 rfl ⟨rfl, rfl⟩ dX11_init_35 K (fun H1 locs1 fs1 f35 hf K => ?_)
  refine lv_aload_n hx hb dX11_init_38 rfl (lv_at hl 0 rfl) ?_
  refine lv_iconst hx hb (v := 0) dX11_init_39 (by decide +kernel) ?_
  refine mkA_put 6 hf (by decide) C (by decide) gx_f_11_6 rfl ⟨rfl, rfl⟩ dX11_init_40 K (fun H1 locs1 fs1 f40 hf K => ?_)
  refine lv_aload_n hx hb dX11_init_43 rfl (lv_at hl 0 rfl) ?_
  refine lv_lconst hx hb (v := 0) dX11_init_44 (by decide +kernel) ?_
  refine mkA_put 7 hf (by decide) C (by decide) gx_f_11_7 rfl ⟨rfl, rfl⟩ dX11_init_45 K (fun H1 locs1 fs1 f45 hf K => ?_)
  refine lv_aload_n hx hb dX11_init_48 rfl (lv_at hl 0 rfl) ?_
  refine lv_iconst hx hb (v := 0) dX11_init_49 (by decide +kernel) ?_
  refine mkA_put 8 hf (by decide) C (by decide) gx_f_11_8 rfl ⟨rfl, rfl⟩ dX11_init_50 K (fun H1 locs1 fs1 f50 hf K => ?_)
  refine lv_aload_n hx hb dX11_init_53 rfl (lv_at hl 0 rfl) ?_
  refine lv_iconst hx hb (v := (-1)) dX11_init_54 (by decide +kernel) ?_
  refine mkA_put 9 hf (by decide) C (by decide) gx_f_11_9 rfl ⟨rfl, rfl⟩ dX11_init_55 K (fun H1 locs1 fs1 f55 hf K => ?_)
  refine lv_aload_n hx hb dX11_init_58 rfl (lv_at hl 0 rfl) ?_
  refine lv_iconst hx hb (v := 0) dX11_init_59 (by decide +kernel) ?_
  refine mkA_put 10 hf (by decide) C (by decide) gx_f_11_10 rfl ⟨rfl, rfl⟩ dX11_init_60 K (fun H1 locs1 fs1 f60 hf K => ?_)
  refine lv_aload_n hx hb dX11_init_63 rfl (lv_at hl 0 rfl) ?_
  refine lv_iconst hx hb (v := (-1)) dX11_init_64 (by decide +kernel) ?_
  refine mkA_put 11 hf (by decide) C (by decide) gx_f_11_11 rfl ⟨rfl, rfl⟩ dX11_init_65 K (fun H1 locs1 fs1 f65 hf K => ?_)
  refine lv_aload_n hx hb dX11_init_68 rfl (lv_at hl 0 rfl) ?_
  refine lv_iconst hx hb (v := (-1)) dX11_init_69 (by decide +kernel) ?_
  refine mkA_put 12 hf (by decide) C (by decide) gx_f_11_12 rfl ⟨rfl, rfl⟩ dX11_init_70 K (fun H1 locs1 fs1 f70 hf K => ?_)
  refine lv_aload_n hx hb dX11_init_73 rfl (lv_at hl 0 rfl) ?_
  refine lv_iconst hx hb (v := 0) dX11_init_74 (by decide +kernel) ?_
  refine mkA_put 13 hf (by decide) C (by decide) gx_f_11_13 rfl ⟨rfl, rfl⟩ dX11_init_75 K (fun H1 locs1 fs1 f75 hf K => ?_)
  refine lv_aload_n hx hb dX11_init_78 rfl (lv_at hl 0 rfl) ?_
  refine lv_iconst hx hb (v := 2) dX11_init_79 (by decide +kernel) ?_
  refine mkA_arr 2 1 2 (z := (2, .inl fun _ => 0)) rfl hn C gx_ai rfl c20 (fun _ => rfl) (by decide +kernel) (by decide +kernel) (by decide +kernel) (Nat.le_of_ble_eq_true rfl) (Nat.le_of_ble_eq_true rfl) dX11_init_80 K (fun H1 L1 e80 hn K => ?_)
  refine mkA_put 14 hf (by decide) C (by decide) gx_f_11_14 rfl ⟨rfl, rfl⟩ dX11_init_82 K (fun H1 locs1 fs1 f82 hf K => ?_)
  refine lv_aload_n hx hb dX11_init_85 rfl (lv_at hl 0 rfl) ?_
  refine lv_bipush hx hb (v := 28) dX11_init_86 (by decide +kernel) ?_
  refine mkA_arr 28 2 3 (z := (28, .inr (.inl fun _ => 0))) rfl hn C gx_aj rfl c21 (fun _ => rfl) (by decide +kernel) (by decide +kernel) (by decide +kernel) (Nat.le_of_ble_eq_true rfl) (Nat.le_of_ble_eq_true rfl) dX11_init_88 K (fun H1 L1 e88 hn K => ?_)
  refine mkA_put 15 hf (by decide) C (by decide) gx_f_11_15 rfl ⟨rfl, rfl⟩ dX11_init_90 K (fun H1 locs1 fs1 f90 hf K => ?_)
  refine lv_aload_n hx hb dX11_init_93 rfl (lv_at hl 0 rfl) ?_
  refine lv_iconst hx hb (v := 2) dX11_init_94 (by decide +kernel) ?_
  refine mkA_arr 2 3 4 (z := (2, .inl fun _ => 0)) rfl hn C gx_ai rfl c20 (fun _ => rfl) (by decide +kernel) (by decide +kernel) (by decide +kernel) (Nat.le_of_ble_eq_true rfl) (Nat.le_of_ble_eq_true rfl) dX11_init_95 K (fun H1 L1 e95 hn K => ?_)
  refine mkA_put 16 hf (by decide) C (by decide) gx_f_11_16 rfl ⟨rfl, rfl⟩ dX11_init_97 K (fun H1 locs1 fs1 f97 hf K => ?_)
  refine lv_aload_n hx hb dX11_init_100 rfl (lv_at hl 0 rfl) ?_
  refine lv_iconst hx hb (v := 2) dX11_init_101 (by decide +kernel) ?_
  refine mkA_arr 2 4 5 (z := (2, .inl fun _ => 0)) rfl hn C gx_ai rfl c20 (fun _ => rfl) (by decide +kernel) (by decide +kernel) (by decide +kernel) (Nat.le_of_ble_eq_true rfl) (Nat.le_of_ble_eq_true rfl) dX11_init_102 K (fun H1 L1 e102 hn K => ?_)
  refine mkA_put 17 hf (by decide) C (by decide) gx_f_11_17 rfl ⟨rfl, rfl⟩ dX11_init_104 K (fun H1 locs1 fs1 f104 hf K => ?_)
  refine lv_aload_n hx hb dX11_init_107 rfl (lv_at hl 0 rfl) ?_
  refine lv_bipush hx hb (v := 12) dX11_init_108 (by decide +kernel) ?_
  refine mkA_arr 12 5 6 (z := (12, .inr (.inl fun _ => 0))) rfl hn C gx_aj rfl c21 (fun _ => rfl) (by decide +kernel) (by decide +kernel) (by decide +kernel) (Nat.le_of_ble_eq_true rfl) (Nat.le_of_ble_eq_true rfl) dX11_init_110 K (fun H1 L1 e110 hn K => ?_)
  refine mkA_put 18 hf (by decide) C (by decide) gx_f_11_18 rfl ⟨rfl, rfl⟩ dX11_init_112 K (fun H1 locs1 fs1 f112 hf K => ?_)
  refine lv_aload_n hx hb dX11_init_115 rfl (lv_at hl 0 rfl) ?_
  refine lv_bipush hx hb (v := 12) dX11_init_116 (by decide +kernel) ?_
  refine mkA_arr 12 6 7 (z := (12, .inl fun _ => 0)) rfl hn C gx_ai rfl c20 (fun _ => rfl) (by decide +kernel) (by decide +kernel) (by decide +kernel) (Nat.le_of_ble_eq_true rfl) (Nat.le_of_ble_eq_true rfl) dX11_init_118 K (fun H1 L1 e118 hn K => ?_)
  refine mkA_put 19 hf (by decide) C (by decide) gx_f_11_19 rfl ⟨rfl, rfl⟩ dX11_init_120 K (fun H1 locs1 fs1 f120 hf K => ?_)
  refine lv_aload_n hx hb dX11_init_123 rfl (lv_at hl 0 rfl) ?_
  refine lv_bipush hx hb (v := 12) dX11_init_124 (by decide +kernel) ?_
  refine mkA_arr 12 7 8 (z := (12, .inl fun _ => 0)) rfl hn C gx_ai rfl c20 (fun _ => rfl) (by decide +kernel) (by decide +kernel) (by decide +kernel) (Nat.le_of_ble_eq_true rfl) (Nat.le_of_ble_eq_true rfl) dX11_init_126 K (fun H1 L1 e126 hn K => ?_)
  refine mkA_put 20 hf (by decide) C (by decide) gx_f_11_20 rfl ⟨rfl, rfl⟩ dX11_init_128 K (fun H1 locs1 fs1 f128 hf K => ?_)
  refine lv_aload_n hx hb dX11_init_131 rfl (lv_at hl 0 rfl) ?_
  refine lv_bipush hx hb (v := 12) dX11_init_132 (by decide +kernel) ?_
  refine mkA_arr 12 8 9 (z := (12, .inl fun _ => 0)) rfl hn C gx_ai rfl c20 (fun _ => rfl) (by decide +kernel) (by decide +kernel) (by decide +kernel) (Nat.le_of_ble_eq_true rfl) (Nat.le_of_ble_eq_true rfl) dX11_init_134 K (fun H1 L1 e134 hn K => ?_)
  refine mkA_put 21 hf (by decide) C (by decide) gx_f_11_21 rfl ⟨rfl, rfl⟩ dX11_init_136 K (fun H1 locs1 fs1 f136 hf K => ?_)
  refine lv_aload_n hx hb dX11_init_139 rfl (lv_at hl 0 rfl) ?_
  refine lv_bipush hx hb (v := 96) dX11_init_140 (by decide +kernel) ?_
  refine mkA_arr 96 9 10 (z := (96, .inl fun _ => 0)) rfl hn C gx_ai rfl c20 (fun _ => rfl) (by decide +kernel) (by decide +kernel) (by decide +kernel) (Nat.le_of_ble_eq_true rfl) (Nat.le_of_ble_eq_true rfl) dX11_init_142 K (fun H1 L1 e142 hn K => ?_)
  refine mkA_put 22 hf (by decide) C (by decide) gx_f_11_22 rfl ⟨rfl, rfl⟩ dX11_init_144 K (fun H1 locs1 fs1 f144 hf K => ?_)
  refine lv_aload_n hx hb dX11_init_147 rfl (lv_at hl 0 rfl) ?_
  refine lv_bipush hx hb (v := 96) dX11_init_148 (by decide +kernel) ?_
  refine mkA_arr 96 10 11 (z := (96, .inl fun _ => 0)) rfl hn C gx_ai rfl c20 (fun _ => rfl) (by decide +kernel) (by decide +kernel) (by decide +kernel) (Nat.le_of_ble_eq_true rfl) (Nat.le_of_ble_eq_true rfl) dX11_init_150 K (fun H1 L1 e150 hn K => ?_)
  refine mkA_put 23 hf (by decide) C (by decide) gx_f_11_23 rfl ⟨rfl, rfl⟩ dX11_init_152 K (fun H1 locs1 fs1 f152 hf K => ?_)
  refine lv_aload_n hx hb dX11_init_155 rfl (lv_at hl 0 rfl) ?_
  refine lv_iconst hx hb (v := 2) dX11_init_156 (by decide +kernel) ?_
  refine mkA_arr 2 11 12 (z := (2, .inl fun _ => 0)) rfl hn C gx_ai rfl c20 (fun _ => rfl) (by decide +kernel) (by decide +kernel) (by decide +kernel) (Nat.le_of_ble_eq_true rfl) (Nat.le_of_ble_eq_true rfl) dX11_init_157 K (fun H1 L1 e157 hn K => ?_)
  refine mkA_put 24 hf (by decide) C (by decide) gx_f_11_24 rfl ⟨rfl, rfl⟩ dX11_init_159 K (fun H1 locs1 fs1 f159 hf K => ?_)
  refine lv_aload_n hx hb dX11_init_162 rfl (lv_at hl 0 rfl) ?_
  refine lv_bipush hx hb (v := 20) dX11_init_163 (by decide +kernel) ?_
  refine mkA_arr 20 12 13 (z := (20, .inr (.inl fun _ => 0))) rfl hn C gx_aj rfl c21 (fun _ => rfl) (by decide +kernel) (by decide +kernel) (by decide +kernel) (Nat.le_of_ble_eq_true rfl) (Nat.le_of_ble_eq_true rfl) dX11_init_165 K (fun H1 L1 e165 hn K => ?_)
  refine mkA_put 25 hf (by decide) C (by decide) gx_f_11_25 rfl ⟨rfl, rfl⟩ dX11_init_167 K (fun H1 locs1 fs1 f167 hf K => ?_)
  refine lv_aload_n hx hb dX11_init_170 rfl (lv_at hl 0 rfl) ?_
  refine lv_bipush hx hb (v := 20) dX11_init_171 (by decide +kernel) ?_
  refine mkA_arr 20 13 14 (z := (20, .inl fun _ => 0)) rfl hn C gx_ai rfl c20 (fun _ => rfl) (by decide +kernel) (by decide +kernel) (by decide +kernel) (Nat.le_of_ble_eq_true rfl) (Nat.le_of_ble_eq_true rfl) dX11_init_173 K (fun H1 L1 e173 hn K => ?_)
  refine mkA_put 26 hf (by decide) C (by decide) gx_f_11_26 rfl ⟨rfl, rfl⟩ dX11_init_175 K (fun H1 locs1 fs1 f175 hf K => ?_)
  refine lv_aload_n hx hb dX11_init_178 rfl (lv_at hl 0 rfl) ?_
  refine lv_bipush hx hb (v := 20) dX11_init_179 (by decide +kernel) ?_
  refine mkA_arr 20 14 15 (z := (20, .inl fun _ => 0)) rfl hn C gx_ai rfl c20 (fun _ => rfl) (by decide +kernel) (by decide +kernel) (by decide +kernel) (Nat.le_of_ble_eq_true rfl) (Nat.le_of_ble_eq_true rfl) dX11_init_181 K (fun H1 L1 e181 hn K => ?_)
  refine mkA_put 27 hf (by decide) C (by decide) gx_f_11_27 rfl ⟨rfl, rfl⟩ dX11_init_183 K (fun H1 locs1 fs1 f183 hf K => ?_)
  refine lv_aload_n hx hb dX11_init_186 rfl (lv_at hl 0 rfl) ?_
  refine lv_bipush hx hb (v := 20) dX11_init_187 (by decide +kernel) ?_
  refine mkA_arr 20 15 16 (z := (20, .inl fun _ => 0)) rfl hn C gx_ai rfl c20 (fun _ => rfl) (by decide +kernel) (by decide +kernel) (by decide +kernel) (Nat.le_of_ble_eq_true rfl) (Nat.le_of_ble_eq_true rfl) dX11_init_189 K (fun H1 L1 e189 hn K => ?_)
  refine mkA_put 28 hf (by decide) C (by decide) gx_f_11_28 rfl ⟨rfl, rfl⟩ dX11_init_191 K (fun H1 locs1 fs1 f191 hf K => ?_)
  refine lv_aload_n hx hb dX11_init_194 rfl (lv_at hl 0 rfl) ?_
  refine lv_bipush hx hb (v := 20) dX11_init_195 (by decide +kernel) ?_
  refine mkA_arr 20 16 17 (z := (20, .inl fun _ => 0)) rfl hn C gx_ai rfl c20 (fun _ => rfl) (by decide +kernel) (by decide +kernel) (by decide +kernel) (Nat.le_of_ble_eq_true rfl) (Nat.le_of_ble_eq_true rfl) dX11_init_197 K (fun H1 L1 e197 hn K => ?_)
  refine mkA_put 29 hf (by decide) C (by decide) gx_f_11_29 rfl ⟨rfl, rfl⟩ dX11_init_199 K (fun H1 locs1 fs1 f199 hf K => ?_)
  refine lv_aload_n hx hb dX11_init_202 rfl (lv_at hl 0 rfl) ?_
  refine lv_bipush hx hb (v := 20) dX11_init_203 (by decide +kernel) ?_
  refine mkA_arr 20 17 18 (z := (20, .inl fun _ => 0)) rfl hn C gx_ai rfl c20 (fun _ => rfl) (by decide +kernel) (by decide +kernel) (by decide +kernel) (Nat.le_of_ble_eq_true rfl) (Nat.le_of_ble_eq_true rfl) dX11_init_205 K (fun H1 L1 e205 hn K => ?_)
  refine mkA_put 30 hf (by decide) C (by decide) gx_f_11_30 rfl ⟨rfl, rfl⟩ dX11_init_207 K (fun H1 locs1 fs1 f207 hf K => ?_)
  refine lv_aload_n hx hb dX11_init_210 rfl (lv_at hl 0 rfl) ?_
  refine lv_bipush hx hb (v := 20) dX11_init_211 (by decide +kernel) ?_
  refine mkA_arr 20 18 19 (z := (20, .inl fun _ => 0)) rfl hn C gx_ai rfl c20 (fun _ => rfl) (by decide +kernel) (by decide +kernel) (by decide +kernel) (Nat.le_of_ble_eq_true rfl) (Nat.le_of_ble_eq_true rfl) dX11_init_213 K (fun H1 L1 e213 hn K => ?_)
  refine mkA_put 31 hf (by decide) C (by decide) gx_f_11_31 rfl ⟨rfl, rfl⟩ dX11_init_215 K (fun H1 locs1 fs1 f215 hf K => ?_)
  refine lv_aload_n hx hb dX11_init_218 rfl (lv_at hl 0 rfl) ?_
  refine lv_iconst hx hb (v := 1) dX11_init_219 (by decide +kernel) ?_
  refine mkA_put 32 hf (by decide) C (by decide) gx_f_11_32 rfl ⟨rfl, rfl⟩ dX11_init_220 K (fun H1 locs1 fs1 f220 hf K => ?_)
  refine lv_aload_n hx hb dX11_init_223 rfl (lv_at hl 0 rfl) ?_
  refine lv_bipush hx hb (v := 6) dX11_init_224 (by decide +kernel) ?_
  refine mkA_arr 6 19 20 (z := (6, .inl fun _ => 0)) rfl hn C gx_ai rfl c20 (fun _ => rfl) (by decide +kernel) (by decide +kernel) (by decide +kernel) (Nat.le_of_ble_eq_true rfl) (Nat.le_of_ble_eq_true rfl) dX11_init_226 K (fun H1 L1 e226 hn K => ?_)
  refine mkA_put 33 hf (by decide) C (by decide) gx_f_11_33 rfl ⟨rfl, rfl⟩ dX11_init_228 K (fun H1 locs1 fs1 f228 hf K => ?_)
  refine lv_aload_n hx hb dX11_init_231 rfl (lv_at hl 0 rfl) ?_
  refine lv_bipush hx hb (v := 22) dX11_init_232 (by decide +kernel) ?_
  refine mkA_arr 22 20 21 (z := (22, .inl fun _ => 0)) rfl hn C gx_ai rfl c20 (fun _ => rfl) (by decide +kernel) (by decide +kernel) (by decide +kernel) (Nat.le_of_ble_eq_true rfl) (Nat.le_of_ble_eq_true rfl) dX11_init_234 K (fun H1 L1 e234 hn K => ?_)
  refine mkA_put 34 hf (by decide) C (by decide) gx_f_11_34 rfl ⟨rfl, rfl⟩ dX11_init_236 K (fun H1 locs1 fs1 f236 hf K => ?_)
  refine lv_aload_n hx hb dX11_init_239 rfl (lv_at hl 0 rfl) ?_
  refine lv_sipush hx hb (v := 220) dX11_init_240 (by decide +kernel) ?_
  refine mkA_arr 220 21 22 (z := (220, .inl fun _ => 0)) rfl hn C gx_ai rfl c20 (fun _ => rfl) (by decide +kernel) (by decide +kernel) (by decide +kernel) (Nat.le_of_ble_eq_true rfl) (Nat.le_of_ble_eq_true rfl) dX11_init_243 K (fun H1 L1 e243 hn K => ?_)
  refine mkA_put 35 hf (by decide) C (by decide) gx_f_11_35 rfl ⟨rfl, rfl⟩ dX11_init_245 K (fun H1 locs1 fs1 f245 hf K => ?_)
  refine lv_aload_n hx hb dX11_init_248 rfl (lv_at hl 0 rfl) ?_
  refine lv_sipush hx hb (v := 220) dX11_init_249 (by decide +kernel) ?_
  refine mkA_arr 220 22 23 (z := (220, .inl fun _ => 0)) rfl hn C gx_ai rfl c20 (fun _ => rfl) (by decide +kernel) (by decide +kernel) (by decide +kernel) (Nat.le_of_ble_eq_true rfl) (Nat.le_of_ble_eq_true rfl) dX11_init_252 K (fun H1 L1 e252 hn K => ?_)
  refine mkA_put 36 hf (by decide) C (by decide) gx_f_11_36 rfl ⟨rfl, rfl⟩ dX11_init_254 K (fun H1 locs1 fs1 f254 hf K => ?_)
  refine lv_aload_n hx hb dX11_init_257 rfl (lv_at hl 0 rfl) ?_
  refine lv_sipush hx hb (v := 220) dX11_init_258 (by decide +kernel) ?_
  refine mkA_arr 220 23 24 (z := (220, .inl fun _ => 0)) rfl hn C gx_ai rfl c20 (fun _ => rfl) (by decide +kernel) (by decide +kernel) (by decide +kernel) (Nat.le_of_ble_eq_true rfl) (Nat.le_of_ble_eq_true rfl) dX11_init_261 K (fun H1 L1 e261 hn K => ?_)
  refine mkA_put 37 hf (by decide) C (by decide) gx_f_11_37 rfl ⟨rfl, rfl⟩ dX11_init_263 K (fun H1 locs1 fs1 f263 hf K => ?_)
  refine lv_aload_n hx hb dX11_init_266 rfl (lv_at hl 0 rfl) ?_
  refine lv_sipush hx hb (v := 220) dX11_init_267 (by decide +kernel) ?_
  refine mkA_arr 220 24 25 (z := (220, .inl fun _ => 0)) rfl hn C gx_ai rfl c20 (fun _ => rfl) (by decide +kernel) (by decide +kernel) (by decide +kernel) (Nat.le_of_ble_eq_true rfl) (Nat.le_of_ble_eq_true rfl) dX11_init_270 K (fun H1 L1 e270 hn K => ?_)
  refine mkA_put 38 hf (by decide) C (by decide) gx_f_11_38 rfl ⟨rfl, rfl⟩ dX11_init_272 K (fun H1 locs1 fs1 f272 hf K => ?_)
  refine lv_aload_n hx hb dX11_init_275 rfl (lv_at hl 0 rfl) ?_
  refine lv_sipush hx hb (v := 220) dX11_init_276 (by decide +kernel) ?_
  refine mkA_arr 220 25 26 (z := (220, .inl fun _ => 0)) rfl hn C gx_ai rfl c20 (fun _ => rfl) (by decide +kernel) (by decide +kernel) (by decide +kernel) (Nat.le_of_ble_eq_true rfl) (Nat.le_of_ble_eq_true rfl) dX11_init_279 K (fun H1 L1 e279 hn K => ?_)
  refine mkA_put 39 hf (by decide) C (by decide) gx_f_11_39 rfl ⟨rfl, rfl⟩ dX11_init_281 K (fun H1 locs1 fs1 f281 hf K => ?_)
  refine lv_aload_n hx hb dX11_init_284 rfl (lv_at hl 0 rfl) ?_
  refine lv_sipush hx hb (v := 220) dX11_init_285 (by decide +kernel) ?_
  refine mkA_arr 220 26 27 (z := (220, .inl fun _ => 0)) rfl hn C gx_ai rfl c20 (fun _ => rfl) (by decide +kernel) (by decide +kernel) (by decide +kernel) (Nat.le_of_ble_eq_true rfl) (Nat.le_of_ble_eq_true rfl) dX11_init_288 K (fun H1 L1 e288 hn K => ?_)
  refine mkA_put 40 hf (by decide) C (by decide) gx_f_11_40 rfl ⟨rfl, rfl⟩ dX11_init_290 K (fun H1 locs1 fs1 f290 hf K => ?_)
  refine lv_aload_n hx hb dX11_init_293 rfl (lv_at hl 0 rfl) ?_
  refine lv_iconst hx hb (v := 0) dX11_init_294 (by decide +kernel) ?_
  refine mkA_put 41 hf (by decide) C (by decide) gx_f_11_41 rfl ⟨rfl, rfl⟩ dX11_init_295 K (fun H1 locs1 fs1 f295 hf K => ?_)
  refine lv_aload_n hx hb dX11_init_298 rfl (lv_at hl 0 rfl) ?_
  refine lv_iconst hx hb (v := 0) dX11_init_299 (by decide +kernel) ?_
  refine mkA_put 42 hf (by decide) C (by decide) gx_f_11_42 rfl ⟨rfl, rfl⟩ dX11_init_300 K (fun H1 locs1 fs1 f300 hf K => ?_)
  refine lv_aload_n hx hb dX11_init_303 rfl (lv_at hl 0 rfl) ?_
  refine lv_lconst hx hb (v := 1) dX11_init_304 (by decide +kernel) ?_
  refine mkA_put 43 hf (by decide) C (by decide) gx_f_11_43 rfl ⟨rfl, rfl⟩ dX11_init_305 K (fun H1 locs1 fs1 f305 hf K => ?_)
  refine lv_aload_n hx hb dX11_init_308 rfl (lv_at hl 0 rfl) ?_
  refine lv_iconst hx hb (v := (-1)) dX11_init_309 (by decide +kernel) ?_
  refine mkA_put 44 hf (by decide) C (by decide) gx_f_11_44 rfl ⟨rfl, rfl⟩ dX11_init_310 K (fun H1 locs1 fs1 f310 hf K => ?_)
  refine lv_aload_n hx hb dX11_init_313 rfl (lv_at hl 0 rfl) ?_
  refine lv_iconst hx hb (v := (-1)) dX11_init_314 (by decide +kernel) ?_
  refine mkA_put 45 hf (by decide) C (by decide) gx_f_11_45 rfl ⟨rfl, rfl⟩ dX11_init_315 K (fun H1 locs1 fs1 f315 hf K => ?_)
  refine lv_aload_n hx hb dX11_init_318 rfl (lv_at hl 0 rfl) ?_
  refine lv_iconst hx hb (v := 0) dX11_init_319 (by decide +kernel) ?_
  refine mkA_put 46 hf (by decide) C (by decide) gx_f_11_46 rfl ⟨rfl, rfl⟩ dX11_init_320 K (fun H1 locs1 fs1 f320 hf K => ?_)
  refine lv_aload_n hx hb dX11_init_323 rfl (lv_at hl 0 rfl) ?_
  refine lv_bipush hx hb (v := 6) dX11_init_324 (by decide +kernel) ?_
  refine mkA_arr 6 27 28 (z := (6, .inl fun _ => 0)) rfl hn C gx_ai rfl c20 (fun _ => rfl) (by decide +kernel) (by decide +kernel) (by decide +kernel) (Nat.le_of_ble_eq_true rfl) (Nat.le_of_ble_eq_true rfl) dX11_init_326 K (fun H1 L1 e326 hn K => ?_)
  refine mkA_put 47 hf (by decide) C (by decide) gx_f_11_47 rfl ⟨rfl, rfl⟩ dX11_init_328 K (fun H1 locs1 fs1 f328 hf K => ?_)
  refine lv_aload_n hx hb dX11_init_331 rfl (lv_at hl 0 rfl) ?_
  refine lv_bipush hx hb (v := 6) dX11_init_332 (by decide +kernel) ?_
  refine mkA_arr 6 28 29 (z := (6, .inl fun _ => 0)) rfl hn C gx_ai rfl c20 (fun _ => rfl) (by decide +kernel) (by decide +kernel) (by decide +kernel) (Nat.le_of_ble_eq_true rfl) (Nat.le_of_ble_eq_true rfl) dX11_init_334 K (fun H1 L1 e334 hn K => ?_)
  refine mkA_put 48 hf (by decide) C (by decide) gx_f_11_48 rfl ⟨rfl, rfl⟩ dX11_init_336 K (fun H1 locs1 fs1 f336 hf K => ?_)
  refine lv_aload_n hx hb dX11_init_339 rfl (lv_at hl 0 rfl) ?_
  refine lv_bipush hx hb (v := 48) dX11_init_340 (by decide +kernel) ?_
  refine mkA_arr 48 29 30 (z := (48, .inl fun _ => 0)) rfl hn C gx_ai rfl c20 (fun _ => rfl) (by decide +kernel) (by decide +kernel) (by decide +kernel) (Nat.le_of_ble_eq_true rfl) (Nat.le_of_ble_eq_true rfl) dX11_init_342 K (fun H1 L1 e342 hn K => ?_)
  refine mkA_put 49 hf (by decide) C (by decide) gx_f_11_49 rfl ⟨rfl, rfl⟩ dX11_init_344 K (fun H1 locs1 fs1 f344 hf K => ?_)
  refine lv_aload_n hx hb dX11_init_347 rfl (lv_at hl 0 rfl) ?_
  refine lv_bipush hx hb (v := 48) dX11_init_348 (by decide +kernel) ?_
  refine mkA_arr 48 30 31 (z := (48, .inl fun _ => 0)) rfl hn C gx_ai rfl c20 (fun _ => rfl) (by decide +kernel) (by decide +kernel) (by decide +kernel) (Nat.le_of_ble_eq_true rfl) (Nat.le_of_ble_eq_true rfl) dX11_init_350 K (fun H1 L1 e350 hn K => ?_)
  refine mkA_put 50 hf (by decide) C (by decide) gx_f_11_50 rfl ⟨rfl, rfl⟩ dX11_init_352 K (fun H1 locs1 fs1 f352 hf K => ?_)
  refine lv_aload_n hx hb dX11_init_355 rfl (lv_at hl 0 rfl) ?_
  refine lv_bipush hx hb (v := 48) dX11_init_356 (by decide +kernel) ?_
  refine mkA_arr 48 31 32 (z := (48, .inl fun _ => 0)) rfl hn C gx_ai rfl c20 (fun _ => rfl) (by decide +kernel) (by decide +kernel) (by decide +kernel) (Nat.le_of_ble_eq_true rfl) (Nat.le_of_ble_eq_true rfl) dX11_init_358 K (fun H1 L1 e358 hn K => ?_)
  refine mkA_put 51 hf (by decide) C (by decide) gx_f_11_51 rfl ⟨rfl, rfl⟩ dX11_init_360 K (fun H1 locs1 fs1 f360 hf K => ?_)
  refine lv_aload_n hx hb dX11_init_363 rfl (lv_at hl 0 rfl) ?_
  refine lv_bipush hx hb (v := 48) dX11_init_364 (by decide +kernel) ?_
  refine mkA_arr 48 32 33 (z := (48, .inl fun _ => 0)) rfl hn C gx_ai rfl c20 (fun _ => rfl) (by decide +kernel) (by decide +kernel) (by decide +kernel) (Nat.le_of_ble_eq_true rfl) (Nat.le_of_ble_eq_true rfl) dX11_init_366 K (fun H1 L1 e366 hn K => ?_)
  refine mkA_put 52 hf (by decide) C (by decide) gx_f_11_52 rfl ⟨rfl, rfl⟩ dX11_init_368 K (fun H1 locs1 fs1 f368 hf K => ?_)
  refine lv_aload_n hx hb dX11_init_371 rfl (lv_at hl 0 rfl) ?_
  refine lv_bipush hx hb (v := 48) dX11_init_372 (by decide +kernel) ?_
  refine mkA_arr 48 33 34 (z := (48, .inl fun _ => 0)) rfl hn C gx_ai rfl c20 (fun _ => rfl) (by decide +kernel) (by decide +kernel) (by decide +kernel) (Nat.le_of_ble_eq_true rfl) (Nat.le_of_ble_eq_true rfl) dX11_init_374 K (fun H1 L1 e374 hn K => ?_)
  refine mkA_put 53 hf (by decide) C (by decide) gx_f_11_53 rfl ⟨rfl, rfl⟩ dX11_init_376 K (fun H1 locs1 fs1 f376 hf K => ?_)
  refine lv_aload_n hx hb dX11_init_379 rfl (lv_at hl 0 rfl) ?_
  refine lv_bipush hx hb (v := 48) dX11_init_380 (by decide +kernel) ?_
  refine mkA_arr 48 34 35 (z := (48, .inl fun _ => 0)) rfl hn C gx_ai rfl c20 (fun _ => rfl) (by decide +kernel) (by decide +kernel) (by decide +kernel) (Nat.le_of_ble_eq_true rfl) (Nat.le_of_ble_eq_true rfl) dX11_init_382 K (fun H1 L1 e382 hn K => ?_)
  refine mkA_put 54 hf (by decide) C (by decide) gx_f_11_54 rfl ⟨rfl, rfl⟩ dX11_init_384 K (fun H1 locs1 fs1 f384 hf K => ?_)
  refine lv_aload_n hx hb dX11_init_387 rfl (lv_at hl 0 rfl) ?_
  refine lv_bipush hx hb (v := 48) dX11_init_388 (by decide +kernel) ?_
  refine mkA_arr 48 35 36 (z := (48, .inl fun _ => 0)) rfl hn C gx_ai rfl c20 (fun _ => rfl) (by decide +kernel) (by decide +kernel) (by decide +kernel) (Nat.le_of_ble_eq_true rfl) (Nat.le_of_ble_eq_true rfl) dX11_init_390 K (fun H1 L1 e390 hn K => ?_)
  refine mkA_put 55 hf (by decide) C (by decide) gx_f_11_55 rfl ⟨rfl, rfl⟩ dX11_init_392 K (fun H1 locs1 fs1 f392 hf K => ?_)
  refine lv_aload_n hx hb dX11_init_395 rfl (lv_at hl 0 rfl) ?_
  refine lv_bipush hx hb (v := 48) dX11_init_396 (by decide +kernel) ?_
  refine mkA_arr 48 36 37 (z := (48, .inl fun _ => 0)) rfl hn C gx_ai rfl c20 (fun _ => rfl) (by decide +kernel) (by decide +kernel) (by decide +kernel) (Nat.le_of_ble_eq_true rfl) (Nat.le_of_ble_eq_true rfl) dX11_init_398 K (fun H1 L1 e398 hn K => ?_)
  refine mkA_put 56 hf (by decide) C (by decide) gx_f_11_56 rfl ⟨rfl, rfl⟩ dX11_init_400 K (fun H1 locs1 fs1 f400 hf K => ?_)
  refine lv_aload_n hx hb dX11_init_403 rfl (lv_at hl 0 rfl) ?_
  refine lv_iconst hx hb (v := (-1)) dX11_init_404 (by decide +kernel) ?_
  refine mkA_put 57 hf (by decide) C (by decide) gx_f_11_57 rfl ⟨rfl, rfl⟩ dX11_init_405 K (fun H1 locs1 fs1 f405 hf K => ?_)
  refine lv_aload_n hx hb dX11_init_408 rfl (lv_at hl 0 rfl) ?_
  refine lv_bipush hx hb (v := 10) dX11_init_409 (by decide +kernel) ?_
  refine mkA_arr 10 37 38 (z := (10, .inl fun _ => 0)) rfl hn C gx_ai rfl c20 (fun _ => rfl) (by decide +kernel) (by decide +kernel) (by decide +kernel) (Nat.le_of_ble_eq_true rfl) (Nat.le_of_ble_eq_true rfl) dX11_init_411 K (fun H1 L1 e411 hn K => ?_)
  refine mkA_put 58 hf (by decide) C (by decide) gx_f_11_58 rfl ⟨rfl, rfl⟩ dX11_init_413 K (fun H1 locs1 fs1 f413 hf K => ?_)
  refine lv_aload_n hx hb dX11_init_416 rfl (lv_at hl 0 rfl) ?_
  refine lv_bipush hx hb (v := 10) dX11_init_417 (by decide +kernel) ?_
  refine mkA_arr 10 38 39 (z := (10, .inl fun _ => 0)) rfl hn C gx_ai rfl c20 (fun _ => rfl) (by decide +kernel) (by decide +kernel) (by decide +kernel) (Nat.le_of_ble_eq_true rfl) (Nat.le_of_ble_eq_true rfl) dX11_init_419 K (fun H1 L1 e419 hn K => ?_)
  refine mkA_put 59 hf (by decide) C (by decide) gx_f_11_59 rfl ⟨rfl, rfl⟩ dX11_init_421 K (fun H1 locs1 fs1 f421 hf K => ?_)
  refine lv_aload_n hx hb dX11_init_424 rfl (lv_at hl 0 rfl) ?_
  refine lv_bipush hx hb (v := 10) dX11_init_425 (by decide +kernel) ?_
  refine mkA_arr 10 39 40 (z := (10, .inl fun _ => 0)) rfl hn C gx_ai rfl c20 (fun _ => rfl) (by decide +kernel) (by decide +kernel) (by decide +kernel) (Nat.le_of_ble_eq_true rfl) (Nat.le_of_ble_eq_true rfl) dX11_init_427 K (fun H1 L1 e427 hn K => ?_)
  refine mkA_put 60 hf (by decide) C (by decide) gx_f_11_60 rfl ⟨rfl, rfl⟩ dX11_init_429 K (fun H1 locs1 fs1 f429 hf K => ?_)
  refine lv_aload_n hx hb dX11_init_432 rfl (lv_at hl 0 rfl) ?_
  refine lv_bipush hx hb (v := 10) dX11_init_433 (by decide +kernel) ?_
  refine mkA_arr 10 40 41 (z := (10, .inl fun _ => 0)) rfl hn C gx_ai rfl c20 (fun _ => rfl) (by decide +kernel) (by decide +kernel) (by decide +kernel) (Nat.le_of_ble_eq_true rfl) (Nat.le_of_ble_eq_true rfl) dX11_init_435 K (fun H1 L1 e435 hn K => ?_)
  refine mkA_put 61 hf (by decide) C (by decide) gx_f_11_61 rfl ⟨rfl, rfl⟩ dX11_init_437 K (fun H1 locs1 fs1 f437 hf K => ?_)
  refine lv_aload_n hx hb dX11_init_440 rfl (lv_at hl 0 rfl) ?_
  refine lv_bipush hx hb (v := 10) dX11_init_441 (by decide +kernel) ?_
  refine mkA_arr 10 41 42 (z := (10, .inl fun _ => 0)) rfl hn C gx_ai rfl c20 (fun _ => rfl) (by decide +kernel) (by decide +kernel) (by decide +kernel) (Nat.le_of_ble_eq_true rfl) (Nat.le_of_ble_eq_true rfl) dX11_init_443 K (fun H1 L1 e443 hn K => ?_)
  refine mkA_put 62 hf (by decide) C (by decide) gx_f_11_62 rfl ⟨rfl, rfl⟩ dX11_init_445 K (fun H1 locs1 fs1 f445 hf K => ?_)
  refine lv_aload_n hx hb dX11_init_448 rfl (lv_at hl 0 rfl) ?_
  refine lv_bipush hx hb (v := 80) dX11_init_449 (by decide +kernel) ?_
  refine mkA_arr 80 42 43 (z := (80, .inl fun _ => 0)) rfl hn C gx_ai rfl c20 (fun _ => rfl) (by decide +kernel) (by decide +kernel) (by decide +kernel) (Nat.le_of_ble_eq_true rfl) (Nat.le_of_ble_eq_true rfl) dX11_init_451 K (fun H1 L1 e451 hn K => ?_)
  refine mkA_put 63 hf (by decide) C (by decide) gx_f_11_63 rfl ⟨rfl, rfl⟩ dX11_init_453 K (fun H1 locs1 fs1 f453 hf K => ?_)
  refine lv_aload_n hx hb dX11_init_456 rfl (lv_at hl 0 rfl) ?_
  refine lv_iconst hx hb (v := 0) dX11_init_457 (by decide +kernel) ?_
  refine mkA_put 64 hf (by decide) C (by decide) gx_f_11_64 rfl ⟨rfl, rfl⟩ dX11_init_458 K (fun H1 locs1 fs1 f458 hf K => ?_)
  refine lv_aload_n hx hb dX11_init_461 rfl (lv_at hl 0 rfl) ?_
  have eF : fs1 = ownX11 s.heap.size := by rw [f458, f453, f445, f437, f429, f421, f413, f405, f400, f392, f384, f376, f368, f360, f352, f344, f336, f328, f320, f315, f310, f305, f300, f295, f290, f281, f272, f263, f254, f245, f236, f228, f220, f215, f207, f199, f191, f183, f175, f167, f159, f152, f144, f136, f128, f120, f112, f104, f97, f90, f82, f75, f70, f65, f60, f55, f50, f45, f40, f35, f30, f25, f20, f15, f10]; exact fin11 _
  rw [eF] at K
  refine mk_get 16 (v := .ref (s.heap.size + 3)) C (by decide) gx_f_11_16 rfl rfl dX11_init_462 K ?_
  refine lv_iconst hx hb (v := 0) dX11_init_465 (by decide +kernel) ?_
  refine lv_iconst hx hb (v := 4) dX11_init_466 (by decide +kernel) ?_
  have eL : L1 = tmX11 G s.heap.size := by
    rw [e451, e443, e435, e427, e419, e411, e398, e390, e382, e374, e366, e358, e350, e342, e334, e326, e288, e279, e270, e261, e252, e243, e234, e226, e213, e205, e197, e189, e181, e173, e165, e157, e150, e142, e134, e126, e118, e110, e102, e95, e88, e80, e8]
    simp only [List.nil_append, List.cons_append, tmX11]
  rw [eL] at K
  refine mk_iast 3 (j := 0) (x := 4) (L1 := csX11 G s.heap.size) rfl rfl rfl C (by unfold vp_in; decide +kernel) dX11_init_467 K (fun H1 locs1 K => ?_)
  exact W.vret hx hb hr (fun t ht hW => ⟨rfl, by rw [ht]; exact K.2.1, by rw [ht]; exact K.2.2.1, K.2.2.2.F ht⟩) K.2.2.2.2.2 dX11_init_468
