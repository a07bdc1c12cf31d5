def m_M_init : MR := (⟨"SubgraphDeskModel", "<init>", "()V"⟩, prog_14_method_1_code, 1, none)
theorem cf_M_init : CF m_M_init 0 := ⟨gd 1453 (by decide +kernel) rfl, gd 151 (by decide +kernel) rfl, by decide +kernel, by decide, by decide +kernel⟩
theorem ci_M_init : Cond.instanceMethod m_M_init.1 ∈ lw_gd := gd 1452 (by decide +kernel) rfl
theorem d_M_init_0 : Dc prog_14_method_1_code 0 (.aload_n 0) 1 1 := ⟨by decide +kernel, rfl⟩
theorem d_M_init_1 : Dc prog_14_method_1_code 1 (.invokespecial 1) 3 4 := ⟨by decide +kernel, rfl⟩
theorem d_M_init_4 : Dc prog_14_method_1_code 4 (.aload_n 0) 1 5 := ⟨by decide +kernel, rfl⟩
theorem d_M_init_5 : Dc prog_14_method_1_code 5 (.bipush 7) 2 7 := ⟨by decide +kernel, rfl⟩
theorem d_M_init_7 : Dc prog_14_method_1_code 7 (.newarray .int) 2 9 := ⟨by decide +kernel, rfl⟩
theorem d_M_init_9 : Dc prog_14_method_1_code 9 (.putfield 7) 3 12 := ⟨by decide +kernel, rfl⟩
theorem d_M_init_12 : Dc prog_14_method_1_code 12 (.aload_n 0) 1 13 := ⟨by decide +kernel, rfl⟩
theorem d_M_init_13 : Dc prog_14_method_1_code 13 (.sipush 5510) 3 16 := ⟨by decide +kernel, rfl⟩
theorem d_M_init_16 : Dc prog_14_method_1_code 16 (.newarray .int) 2 18 := ⟨by decide +kernel, rfl⟩
theorem d_M_init_18 : Dc prog_14_method_1_code 18 (.putfield 13) 3 21 := ⟨by decide +kernel, rfl⟩
theorem d_M_init_21 : Dc prog_14_method_1_code 21 (.aload_n 0) 1 22 := ⟨by decide +kernel, rfl⟩
theorem d_M_init_22 : Dc prog_14_method_1_code 22 (.sipush 11020) 3 25 := ⟨by decide +kernel, rfl⟩
theorem d_M_init_25 : Dc prog_14_method_1_code 25 (.newarray .int) 2 27 := ⟨by decide +kernel, rfl⟩
theorem d_M_init_27 : Dc prog_14_method_1_code 27 (.putfield 16) 3 30 := ⟨by decide +kernel, rfl⟩
theorem d_M_init_30 : Dc prog_14_method_1_code 30 (.aload_n 0) 1 31 := ⟨by decide +kernel, rfl⟩
theorem d_M_init_31 : Dc prog_14_method_1_code 31 (.iconst 2) 1 32 := ⟨by decide +kernel, rfl⟩
theorem d_M_init_32 : Dc prog_14_method_1_code 32 (.newarray .boolean) 2 34 := ⟨by decide +kernel, rfl⟩
theorem d_M_init_34 : Dc prog_14_method_1_code 34 (.putfield 19) 3 37 := ⟨by decide +kernel, rfl⟩
theorem d_M_init_37 : Dc prog_14_method_1_code 37 (.aload_n 0) 1 38 := ⟨by decide +kernel, rfl⟩
theorem d_M_init_38 : Dc prog_14_method_1_code 38 (.sipush 1656) 3 41 := ⟨by decide +kernel, rfl⟩
theorem d_M_init_41 : Dc prog_14_method_1_code 41 (.newarray .int) 2 43 := ⟨by decide +kernel, rfl⟩
theorem d_M_init_43 : Dc prog_14_method_1_code 43 (.putfield 23) 3 46 := ⟨by decide +kernel, rfl⟩
theorem d_M_init_46 : Dc prog_14_method_1_code 46 (.aload_n 0) 1 47 := ⟨by decide +kernel, rfl⟩
theorem d_M_init_47 : Dc prog_14_method_1_code 47 (.bipush 16) 2 49 := ⟨by decide +kernel, rfl⟩
theorem d_M_init_49 : Dc prog_14_method_1_code 49 (.newarray .int) 2 51 := ⟨by decide +kernel, rfl⟩
theorem d_M_init_51 : Dc prog_14_method_1_code 51 (.putfield 26) 3 54 := ⟨by decide +kernel, rfl⟩
theorem d_M_init_54 : Dc prog_14_method_1_code 54 (.aload_n 0) 1 55 := ⟨by decide +kernel, rfl⟩
theorem d_M_init_55 : Dc prog_14_method_1_code 55 (.sipush 1472) 3 58 := ⟨by decide +kernel, rfl⟩
theorem d_M_init_58 : Dc prog_14_method_1_code 58 (.newarray .int) 2 60 := ⟨by decide +kernel, rfl⟩
theorem d_M_init_60 : Dc prog_14_method_1_code 60 (.putfield 29) 3 63 := ⟨by decide +kernel, rfl⟩
theorem d_M_init_63 : Dc prog_14_method_1_code 63 (.aload_n 0) 1 64 := ⟨by decide +kernel, rfl⟩
theorem d_M_init_64 : Dc prog_14_method_1_code 64 (.bipush 16) 2 66 := ⟨by decide +kernel, rfl⟩
theorem d_M_init_66 : Dc prog_14_method_1_code 66 (.newarray .int) 2 68 := ⟨by decide +kernel, rfl⟩
theorem d_M_init_68 : Dc prog_14_method_1_code 68 (.putfield 32) 3 71 := ⟨by decide +kernel, rfl⟩
theorem d_M_init_71 : Dc prog_14_method_1_code 71 (.aload_n 0) 1 72 := ⟨by decide +kernel, rfl⟩
theorem d_M_init_72 : Dc prog_14_method_1_code 72 (.sipush 400) 3 75 := ⟨by decide +kernel, rfl⟩
theorem d_M_init_75 : Dc prog_14_method_1_code 75 (.newarray .int) 2 77 := ⟨by decide +kernel, rfl⟩
theorem d_M_init_77 : Dc prog_14_method_1_code 77 (.putfield 35) 3 80 := ⟨by decide +kernel, rfl⟩
theorem d_M_init_80 : Dc prog_14_method_1_code 80 (.aload_n 0) 1 81 := ⟨by decide +kernel, rfl⟩
theorem d_M_init_81 : Dc prog_14_method_1_code 81 (.iconst (-1)) 1 82 := ⟨by decide +kernel, rfl⟩
theorem d_M_init_82 : Dc prog_14_method_1_code 82 (.putfield 38) 3 85 := ⟨by decide +kernel, rfl⟩
theorem d_M_init_85 : Dc prog_14_method_1_code 85 (.aload_n 0) 1 86 := ⟨by decide +kernel, rfl⟩
theorem d_M_init_86 : Dc prog_14_method_1_code 86 (.bipush 96) 2 88 := ⟨by decide +kernel, rfl⟩
theorem d_M_init_88 : Dc prog_14_method_1_code 88 (.newarray .int) 2 90 := ⟨by decide +kernel, rfl⟩
theorem d_M_init_90 : Dc prog_14_method_1_code 90 (.putfield 42) 3 93 := ⟨by decide +kernel, rfl⟩
theorem d_M_init_93 : Dc prog_14_method_1_code 93 (.aload_n 0) 1 94 := ⟨by decide +kernel, rfl⟩
theorem d_M_init_94 : Dc prog_14_method_1_code 94 (.sipush 400) 3 97 := ⟨by decide +kernel, rfl⟩
theorem d_M_init_97 : Dc prog_14_method_1_code 97 (.newarray .int) 2 99 := ⟨by decide +kernel, rfl⟩
theorem d_M_init_99 : Dc prog_14_method_1_code 99 (.putfield 45) 3 102 := ⟨by decide +kernel, rfl⟩
theorem d_M_init_102 : Dc prog_14_method_1_code 102 (.aload_n 0) 1 103 := ⟨by decide +kernel, rfl⟩
theorem d_M_init_103 : Dc prog_14_method_1_code 103 (.sipush 400) 3 106 := ⟨by decide +kernel, rfl⟩
theorem d_M_init_106 : Dc prog_14_method_1_code 106 (.newarray .int) 2 108 := ⟨by decide +kernel, rfl⟩
theorem d_M_init_108 : Dc prog_14_method_1_code 108 (.putfield 48) 3 111 := ⟨by decide +kernel, rfl⟩
theorem d_M_init_111 : Dc prog_14_method_1_code 111 (.aload_n 0) 1 112 := ⟨by decide +kernel, rfl⟩
theorem d_M_init_112 : Dc prog_14_method_1_code 112 (.sipush 400) 3 115 := ⟨by decide +kernel, rfl⟩
theorem d_M_init_115 : Dc prog_14_method_1_code 115 (.newarray .int) 2 117 := ⟨by decide +kernel, rfl⟩
theorem d_M_init_117 : Dc prog_14_method_1_code 117 (.putfield 51) 3 120 := ⟨by decide +kernel, rfl⟩
theorem d_M_init_120 : Dc prog_14_method_1_code 120 (.aload_n 0) 1 121 := ⟨by decide +kernel, rfl⟩
theorem d_M_init_121 : Dc prog_14_method_1_code 121 (.sipush 400) 3 124 := ⟨by decide +kernel, rfl⟩
theorem d_M_init_124 : Dc prog_14_method_1_code 124 (.newarray .int) 2 126 := ⟨by decide +kernel, rfl⟩
theorem d_M_init_126 : Dc prog_14_method_1_code 126 (.putfield 54) 3 129 := ⟨by decide +kernel, rfl⟩
theorem d_M_init_129 : Dc prog_14_method_1_code 129 (.aload_n 0) 1 130 := ⟨by decide +kernel, rfl⟩
theorem d_M_init_130 : Dc prog_14_method_1_code 130 (.bipush 7) 2 132 := ⟨by decide +kernel, rfl⟩
theorem d_M_init_132 : Dc prog_14_method_1_code 132 (.newarray .long) 2 134 := ⟨by decide +kernel, rfl⟩
theorem d_M_init_134 : Dc prog_14_method_1_code 134 (.dup) 1 135 := ⟨by decide +kernel, rfl⟩
theorem d_M_init_135 : Dc prog_14_method_1_code 135 (.iconst 0) 1 136 := ⟨by decide +kernel, rfl⟩
theorem d_M_init_136 : Dc prog_14_method_1_code 136 (.ldc2_w 57) 3 139 := ⟨by decide +kernel, rfl⟩
theorem d_M_init_139 : Dc prog_14_method_1_code 139 (.lastore) 1 140 := ⟨by decide +kernel, rfl⟩
theorem d_M_init_140 : Dc prog_14_method_1_code 140 (.dup) 1 141 := ⟨by decide +kernel, rfl⟩
theorem d_M_init_141 : Dc prog_14_method_1_code 141 (.iconst 1) 1 142 := ⟨by decide +kernel, rfl⟩
theorem d_M_init_142 : Dc prog_14_method_1_code 142 (.ldc2_w 59) 3 145 := ⟨by decide +kernel, rfl⟩
theorem d_M_init_145 : Dc prog_14_method_1_code 145 (.lastore) 1 146 := ⟨by decide +kernel, rfl⟩
theorem d_M_init_146 : Dc prog_14_method_1_code 146 (.dup) 1 147 := ⟨by decide +kernel, rfl⟩
theorem d_M_init_147 : Dc prog_14_method_1_code 147 (.iconst 2) 1 148 := ⟨by decide +kernel, rfl⟩
theorem d_M_init_148 : Dc prog_14_method_1_code 148 (.ldc2_w 61) 3 151 := ⟨by decide +kernel, rfl⟩
theorem d_M_init_151 : Dc prog_14_method_1_code 151 (.lastore) 1 152 := ⟨by decide +kernel, rfl⟩
theorem d_M_init_152 : Dc prog_14_method_1_code 152 (.dup) 1 153 := ⟨by decide +kernel, rfl⟩
theorem d_M_init_153 : Dc prog_14_method_1_code 153 (.iconst 3) 1 154 := ⟨by decide +kernel, rfl⟩
theorem d_M_init_154 : Dc prog_14_method_1_code 154 (.ldc2_w 63) 3 157 := ⟨by decide +kernel, rfl⟩
theorem d_M_init_157 : Dc prog_14_method_1_code 157 (.lastore) 1 158 := ⟨by decide +kernel, rfl⟩
theorem d_M_init_158 : Dc prog_14_method_1_code 158 (.dup) 1 159 := ⟨by decide +kernel, rfl⟩
theorem d_M_init_159 : Dc prog_14_method_1_code 159 (.iconst 4) 1 160 := ⟨by decide +kernel, rfl⟩
theorem d_M_init_160 : Dc prog_14_method_1_code 160 (.ldc2_w 65) 3 163 := ⟨by decide +kernel, rfl⟩
theorem d_M_init_163 : Dc prog_14_method_1_code 163 (.lastore) 1 164 := ⟨by decide +kernel, rfl⟩
theorem d_M_init_164 : Dc prog_14_method_1_code 164 (.dup) 1 165 := ⟨by decide +kernel, rfl⟩
theorem d_M_init_165 : Dc prog_14_method_1_code 165 (.iconst 5) 1 166 := ⟨by decide +kernel, rfl⟩
theorem d_M_init_166 : Dc prog_14_method_1_code 166 (.ldc2_w 67) 3 169 := ⟨by decide +kernel, rfl⟩
theorem d_M_init_169 : Dc prog_14_method_1_code 169 (.lastore) 1 170 := ⟨by decide +kernel, rfl⟩
theorem d_M_init_170 : Dc prog_14_method_1_code 170 (.dup) 1 171 := ⟨by decide +kernel, rfl⟩
theorem d_M_init_171 : Dc prog_14_method_1_code 171 (.bipush 6) 2 173 := ⟨by decide +kernel, rfl⟩
theorem d_M_init_173 : Dc prog_14_method_1_code 173 (.ldc2_w 69) 3 176 := ⟨by decide +kernel, rfl⟩
theorem d_M_init_176 : Dc prog_14_method_1_code 176 (.lastore) 1 177 := ⟨by decide +kernel, rfl⟩
theorem d_M_init_177 : Dc prog_14_method_1_code 177 (.putfield 71) 3 180 := ⟨by decide +kernel, rfl⟩
theorem d_M_init_180 : Dc prog_14_method_1_code 180 (.aload_n 0) 1 181 := ⟨by decide +kernel, rfl⟩
theorem d_M_init_181 : Dc prog_14_method_1_code 181 (.bipush 6) 2 183 := ⟨by decide +kernel, rfl⟩
theorem d_M_init_183 : Dc prog_14_method_1_code 183 (.newarray .long) 2 185 := ⟨by decide +kernel, rfl⟩
theorem d_M_init_185 : Dc prog_14_method_1_code 185 (.dup) 1 186 := ⟨by decide +kernel, rfl⟩
theorem d_M_init_186 : Dc prog_14_method_1_code 186 (.iconst 0) 1 187 := ⟨by decide +kernel, rfl⟩
theorem d_M_init_187 : Dc prog_14_method_1_code 187 (.ldc2_w 67) 3 190 := ⟨by decide +kernel, rfl⟩
theorem d_M_init_190 : Dc prog_14_method_1_code 190 (.lastore) 1 191 := ⟨by decide +kernel, rfl⟩
theorem d_M_init_191 : Dc prog_14_method_1_code 191 (.dup) 1 192 := ⟨by decide +kernel, rfl⟩
theorem d_M_init_192 : Dc prog_14_method_1_code 192 (.iconst 1) 1 193 := ⟨by decide +kernel, rfl⟩
theorem d_M_init_193 : Dc prog_14_method_1_code 193 (.ldc2_w 75) 3 196 := ⟨by decide +kernel, rfl⟩
theorem d_M_init_196 : Dc prog_14_method_1_code 196 (.lastore) 1 197 := ⟨by decide +kernel, rfl⟩
theorem d_M_init_197 : Dc prog_14_method_1_code 197 (.dup) 1 198 := ⟨by decide +kernel, rfl⟩
theorem d_M_init_198 : Dc prog_14_method_1_code 198 (.iconst 2) 1 199 := ⟨by decide +kernel, rfl⟩
theorem d_M_init_199 : Dc prog_14_method_1_code 199 (.ldc2_w 77) 3 202 := ⟨by decide +kernel, rfl⟩
theorem d_M_init_202 : Dc prog_14_method_1_code 202 (.lastore) 1 203 := ⟨by decide +kernel, rfl⟩
theorem d_M_init_203 : Dc prog_14_method_1_code 203 (.dup) 1 204 := ⟨by decide +kernel, rfl⟩
theorem d_M_init_204 : Dc prog_14_method_1_code 204 (.iconst 3) 1 205 := ⟨by decide +kernel, rfl⟩
theorem d_M_init_205 : Dc prog_14_method_1_code 205 (.ldc2_w 79) 3 208 := ⟨by decide +kernel, rfl⟩
theorem d_M_init_208 : Dc prog_14_method_1_code 208 (.lastore) 1 209 := ⟨by decide +kernel, rfl⟩
theorem d_M_init_209 : Dc prog_14_method_1_code 209 (.dup) 1 210 := ⟨by decide +kernel, rfl⟩
theorem d_M_init_210 : Dc prog_14_method_1_code 210 (.iconst 4) 1 211 := ⟨by decide +kernel, rfl⟩
theorem d_M_init_211 : Dc prog_14_method_1_code 211 (.ldc2_w 81) 3 214 := ⟨by decide +kernel, rfl⟩
theorem d_M_init_214 : Dc prog_14_method_1_code 214 (.lastore) 1 215 := ⟨by decide +kernel, rfl⟩
theorem d_M_init_215 : Dc prog_14_method_1_code 215 (.dup) 1 216 := ⟨by decide +kernel, rfl⟩
theorem d_M_init_216 : Dc prog_14_method_1_code 216 (.iconst 5) 1 217 := ⟨by decide +kernel, rfl⟩
theorem d_M_init_217 : Dc prog_14_method_1_code 217 (.ldc2_w 63) 3 220 := ⟨by decide +kernel, rfl⟩
theorem d_M_init_220 : Dc prog_14_method_1_code 220 (.lastore) 1 221 := ⟨by decide +kernel, rfl⟩
theorem d_M_init_221 : Dc prog_14_method_1_code 221 (.putfield 83) 3 224 := ⟨by decide +kernel, rfl⟩
theorem d_M_init_224 : Dc prog_14_method_1_code 224 (.aload_n 0) 1 225 := ⟨by decide +kernel, rfl⟩
theorem d_M_init_225 : Dc prog_14_method_1_code 225 (.iconst 2) 1 226 := ⟨by decide +kernel, rfl⟩
theorem d_M_init_226 : Dc prog_14_method_1_code 226 (.newarray .long) 2 228 := ⟨by decide +kernel, rfl⟩
theorem d_M_init_228 : Dc prog_14_method_1_code 228 (.dup) 1 229 := ⟨by decide +kernel, rfl⟩
theorem d_M_init_229 : Dc prog_14_method_1_code 229 (.iconst 0) 1 230 := ⟨by decide +kernel, rfl⟩
theorem d_M_init_230 : Dc prog_14_method_1_code 230 (.ldc2_w 86) 3 233 := ⟨by decide +kernel, rfl⟩
theorem d_M_init_233 : Dc prog_14_method_1_code 233 (.lastore) 1 234 := ⟨by decide +kernel, rfl⟩
theorem d_M_init_234 : Dc prog_14_method_1_code 234 (.dup) 1 235 := ⟨by decide +kernel, rfl⟩
theorem d_M_init_235 : Dc prog_14_method_1_code 235 (.iconst 1) 1 236 := ⟨by decide +kernel, rfl⟩
theorem d_M_init_236 : Dc prog_14_method_1_code 236 (.ldc2_w 88) 3 239 := ⟨by decide +kernel, rfl⟩
theorem d_M_init_239 : Dc prog_14_method_1_code 239 (.lastore) 1 240 := ⟨by decide +kernel, rfl⟩
theorem d_M_init_240 : Dc prog_14_method_1_code 240 (.putfield 90) 3 243 := ⟨by decide +kernel, rfl⟩
theorem d_M_init_243 : Dc prog_14_method_1_code 243 (.aload_n 0) 1 244 := ⟨by decide +kernel, rfl⟩
theorem d_M_init_244 : Dc prog_14_method_1_code 244 (.bipush 13) 2 246 := ⟨by decide +kernel, rfl⟩
theorem d_M_init_246 : Dc prog_14_method_1_code 246 (.newarray .long) 2 248 := ⟨by decide +kernel, rfl⟩
theorem d_M_init_248 : Dc prog_14_method_1_code 248 (.putfield 93) 3 251 := ⟨by decide +kernel, rfl⟩
theorem d_M_init_251 : Dc prog_14_method_1_code 251 (.aload_n 0) 1 252 := ⟨by decide +kernel, rfl⟩
theorem d_M_init_252 : Dc prog_14_method_1_code 252 (.bipush 13) 2 254 := ⟨by decide +kernel, rfl⟩
theorem d_M_init_254 : Dc prog_14_method_1_code 254 (.newarray .long) 2 256 := ⟨by decide +kernel, rfl⟩
theorem d_M_init_256 : Dc prog_14_method_1_code 256 (.putfield 96) 3 259 := ⟨by decide +kernel, rfl⟩
theorem d_M_init_259 : Dc prog_14_method_1_code 259 (.aload_n 0) 1 260 := ⟨by decide +kernel, rfl⟩
theorem d_M_init_260 : Dc prog_14_method_1_code 260 (.sipush 400) 3 263 := ⟨by decide +kernel, rfl⟩
theorem d_M_init_263 : Dc prog_14_method_1_code 263 (.newarray .long) 2 265 := ⟨by decide +kernel, rfl⟩
theorem d_M_init_265 : Dc prog_14_method_1_code 265 (.putfield 99) 3 268 := ⟨by decide +kernel, rfl⟩
theorem d_M_init_268 : Dc prog_14_method_1_code 268 (.aload_n 0) 1 269 := ⟨by decide +kernel, rfl⟩
theorem d_M_init_269 : Dc prog_14_method_1_code 269 (.bipush 12) 2 271 := ⟨by decide +kernel, rfl⟩
theorem d_M_init_271 : Dc prog_14_method_1_code 271 (.newarray .int) 2 273 := ⟨by decide +kernel, rfl⟩
theorem d_M_init_273 : Dc prog_14_method_1_code 273 (.putfield 102) 3 276 := ⟨by decide +kernel, rfl⟩
theorem d_M_init_276 : Dc prog_14_method_1_code 276 (.aload_n 0) 1 277 := ⟨by decide +kernel, rfl⟩
theorem d_M_init_277 : Dc prog_14_method_1_code 277 (.iconst 5) 1 278 := ⟨by decide +kernel, rfl⟩
theorem d_M_init_278 : Dc prog_14_method_1_code 278 (.newarray .int) 2 280 := ⟨by decide +kernel, rfl⟩
theorem d_M_init_280 : Dc prog_14_method_1_code 280 (.putfield 105) 3 283 := ⟨by decide +kernel, rfl⟩
theorem d_M_init_283 : Dc prog_14_method_1_code 283 (.aload_n 0) 1 284 := ⟨by decide +kernel, rfl⟩
theorem d_M_init_284 : Dc prog_14_method_1_code 284 (.bipush 60) 2 286 := ⟨by decide +kernel, rfl⟩
theorem d_M_init_286 : Dc prog_14_method_1_code 286 (.newarray .int) 2 288 := ⟨by decide +kernel, rfl⟩
theorem d_M_init_288 : Dc prog_14_method_1_code 288 (.putfield 108) 3 291 := ⟨by decide +kernel, rfl⟩
theorem d_M_init_291 : Dc prog_14_method_1_code 291 (.aload_n 0) 1 292 := ⟨by decide +kernel, rfl⟩
theorem d_M_init_292 : Dc prog_14_method_1_code 292 (.iconst 5) 1 293 := ⟨by decide +kernel, rfl⟩
theorem d_M_init_293 : Dc prog_14_method_1_code 293 (.newarray .int) 2 295 := ⟨by decide +kernel, rfl⟩
theorem d_M_init_295 : Dc prog_14_method_1_code 295 (.putfield 111) 3 298 := ⟨by decide +kernel, rfl⟩
theorem d_M_init_298 : Dc prog_14_method_1_code 298 (.aload_n 0) 1 299 := ⟨by decide +kernel, rfl⟩
theorem d_M_init_299 : Dc prog_14_method_1_code 299 (.sipush 600) 3 302 := ⟨by decide +kernel, rfl⟩
theorem d_M_init_302 : Dc prog_14_method_1_code 302 (.newarray .int) 2 304 := ⟨by decide +kernel, rfl⟩
theorem d_M_init_304 : Dc prog_14_method_1_code 304 (.putfield 114) 3 307 := ⟨by decide +kernel, rfl⟩
theorem d_M_init_307 : Dc prog_14_method_1_code 307 (.aload_n 0) 1 308 := ⟨by decide +kernel, rfl⟩
theorem d_M_init_308 : Dc prog_14_method_1_code 308 (.iconst 5) 1 309 := ⟨by decide +kernel, rfl⟩
theorem d_M_init_309 : Dc prog_14_method_1_code 309 (.newarray .int) 2 311 := ⟨by decide +kernel, rfl⟩
theorem d_M_init_311 : Dc prog_14_method_1_code 311 (.putfield 117) 3 314 := ⟨by decide +kernel, rfl⟩
theorem d_M_init_314 : Dc prog_14_method_1_code 314 (.aload_n 0) 1 315 := ⟨by decide +kernel, rfl⟩
theorem d_M_init_315 : Dc prog_14_method_1_code 315 (.iconst 5) 1 316 := ⟨by decide +kernel, rfl⟩
theorem d_M_init_316 : Dc prog_14_method_1_code 316 (.newarray .int) 2 318 := ⟨by decide +kernel, rfl⟩
theorem d_M_init_318 : Dc prog_14_method_1_code 318 (.putfield 120) 3 321 := ⟨by decide +kernel, rfl⟩
theorem d_M_init_321 : Dc prog_14_method_1_code 321 (.aload_n 0) 1 322 := ⟨by decide +kernel, rfl⟩
theorem d_M_init_322 : Dc prog_14_method_1_code 322 (.iconst 5) 1 323 := ⟨by decide +kernel, rfl⟩
theorem d_M_init_323 : Dc prog_14_method_1_code 323 (.newarray .int) 2 325 := ⟨by decide +kernel, rfl⟩
theorem d_M_init_325 : Dc prog_14_method_1_code 325 (.putfield 123) 3 328 := ⟨by decide +kernel, rfl⟩
theorem d_M_init_328 : Dc prog_14_method_1_code 328 (.aload_n 0) 1 329 := ⟨by decide +kernel, rfl⟩
theorem d_M_init_329 : Dc prog_14_method_1_code 329 (.iconst 5) 1 330 := ⟨by decide +kernel, rfl⟩
theorem d_M_init_330 : Dc prog_14_method_1_code 330 (.newarray .int) 2 332 := ⟨by decide +kernel, rfl⟩
theorem d_M_init_332 : Dc prog_14_method_1_code 332 (.putfield 126) 3 335 := ⟨by decide +kernel, rfl⟩
theorem d_M_init_335 : Dc prog_14_method_1_code 335 (.aload_n 0) 1 336 := ⟨by decide +kernel, rfl⟩
theorem d_M_init_336 : Dc prog_14_method_1_code 336 (.iconst 5) 1 337 := ⟨by decide +kernel, rfl⟩
theorem d_M_init_337 : Dc prog_14_method_1_code 337 (.newarray .int) 2 339 := ⟨by decide +kernel, rfl⟩
theorem d_M_init_339 : Dc prog_14_method_1_code 339 (.putfield 129) 3 342 := ⟨by decide +kernel, rfl⟩
theorem d_M_init_342 : Dc prog_14_method_1_code 342 (.aload_n 0) 1 343 := ⟨by decide +kernel, rfl⟩
theorem d_M_init_343 : Dc prog_14_method_1_code 343 (.bipush 12) 2 345 := ⟨by decide +kernel, rfl⟩
theorem d_M_init_345 : Dc prog_14_method_1_code 345 (.newarray .int) 2 347 := ⟨by decide +kernel, rfl⟩
theorem d_M_init_347 : Dc prog_14_method_1_code 347 (.putfield 132) 3 350 := ⟨by decide +kernel, rfl⟩
theorem d_M_init_350 : Dc prog_14_method_1_code 350 (.aload_n 0) 1 351 := ⟨by decide +kernel, rfl⟩
theorem d_M_init_351 : Dc prog_14_method_1_code 351 (.bipush 12) 2 353 := ⟨by decide +kernel, rfl⟩
theorem d_M_init_353 : Dc prog_14_method_1_code 353 (.newarray .int) 2 355 := ⟨by decide +kernel, rfl⟩
theorem d_M_init_355 : Dc prog_14_method_1_code 355 (.putfield 135) 3 358 := ⟨by decide +kernel, rfl⟩
theorem d_M_init_358 : Dc prog_14_method_1_code 358 (.aload_n 0) 1 359 := ⟨by decide +kernel, rfl⟩
theorem d_M_init_359 : Dc prog_14_method_1_code 359 (.bipush 60) 2 361 := ⟨by decide +kernel, rfl⟩
theorem d_M_init_361 : Dc prog_14_method_1_code 361 (.newarray .int) 2 363 := ⟨by decide +kernel, rfl⟩
theorem d_M_init_363 : Dc prog_14_method_1_code 363 (.putfield 138) 3 366 := ⟨by decide +kernel, rfl⟩
theorem d_M_init_366 : Dc prog_14_method_1_code 366 (.aload_n 0) 1 367 := ⟨by decide +kernel, rfl⟩
theorem d_M_init_367 : Dc prog_14_method_1_code 367 (.bipush 60) 2 369 := ⟨by decide +kernel, rfl⟩
theorem d_M_init_369 : Dc prog_14_method_1_code 369 (.newarray .int) 2 371 := ⟨by decide +kernel, rfl⟩
theorem d_M_init_371 : Dc prog_14_method_1_code 371 (.putfield 141) 3 374 := ⟨by decide +kernel, rfl⟩
theorem d_M_init_374 : Dc prog_14_method_1_code 374 (.aload_n 0) 1 375 := ⟨by decide +kernel, rfl⟩
theorem d_M_init_375 : Dc prog_14_method_1_code 375 (.bipush 21) 2 377 := ⟨by decide +kernel, rfl⟩
theorem d_M_init_377 : Dc prog_14_method_1_code 377 (.newarray .long) 2 379 := ⟨by decide +kernel, rfl⟩
theorem d_M_init_379 : Dc prog_14_method_1_code 379 (.putfield 144) 3 382 := ⟨by decide +kernel, rfl⟩
theorem d_M_init_382 : Dc prog_14_method_1_code 382 (.aload_n 0) 1 383 := ⟨by decide +kernel, rfl⟩
theorem d_M_init_383 : Dc prog_14_method_1_code 383 (.iconst 4) 1 384 := ⟨by decide +kernel, rfl⟩
theorem d_M_init_384 : Dc prog_14_method_1_code 384 (.newarray .long) 2 386 := ⟨by decide +kernel, rfl⟩
theorem d_M_init_386 : Dc prog_14_method_1_code 386 (.dup) 1 387 := ⟨by decide +kernel, rfl⟩
theorem d_M_init_387 : Dc prog_14_method_1_code 387 (.iconst 0) 1 388 := ⟨by decide +kernel, rfl⟩
theorem d_M_init_388 : Dc prog_14_method_1_code 388 (.ldc2_w 147) 3 391 := ⟨by decide +kernel, rfl⟩
theorem d_M_init_391 : Dc prog_14_method_1_code 391 (.lastore) 1 392 := ⟨by decide +kernel, rfl⟩
theorem d_M_init_392 : Dc prog_14_method_1_code 392 (.dup) 1 393 := ⟨by decide +kernel, rfl⟩
theorem d_M_init_393 : Dc prog_14_method_1_code 393 (.iconst 1) 1 394 := ⟨by decide +kernel, rfl⟩
theorem d_M_init_394 : Dc prog_14_method_1_code 394 (.ldc2_w 149) 3 397 := ⟨by decide +kernel, rfl⟩
theorem d_M_init_397 : Dc prog_14_method_1_code 397 (.lastore) 1 398 := ⟨by decide +kernel, rfl⟩
theorem d_M_init_398 : Dc prog_14_method_1_code 398 (.dup) 1 399 := ⟨by decide +kernel, rfl⟩
theorem d_M_init_399 : Dc prog_14_method_1_code 399 (.iconst 2) 1 400 := ⟨by decide +kernel, rfl⟩
theorem d_M_init_400 : Dc prog_14_method_1_code 400 (.ldc2_w 151) 3 403 := ⟨by decide +kernel, rfl⟩
theorem d_M_init_403 : Dc prog_14_method_1_code 403 (.lastore) 1 404 := ⟨by decide +kernel, rfl⟩
theorem d_M_init_404 : Dc prog_14_method_1_code 404 (.dup) 1 405 := ⟨by decide +kernel, rfl⟩
theorem d_M_init_405 : Dc prog_14_method_1_code 405 (.iconst 3) 1 406 := ⟨by decide +kernel, rfl⟩
theorem d_M_init_406 : Dc prog_14_method_1_code 406 (.ldc2_w 153) 3 409 := ⟨by decide +kernel, rfl⟩
theorem d_M_init_409 : Dc prog_14_method_1_code 409 (.lastore) 1 410 := ⟨by decide +kernel, rfl⟩
theorem d_M_init_410 : Dc prog_14_method_1_code 410 (.putfield 155) 3 413 := ⟨by decide +kernel, rfl⟩
theorem d_M_init_413 : Dc prog_14_method_1_code 413 (.aload_n 0) 1 414 := ⟨by decide +kernel, rfl⟩
theorem d_M_init_414 : Dc prog_14_method_1_code 414 (.bipush 96) 2 416 := ⟨by decide +kernel, rfl⟩
theorem d_M_init_416 : Dc prog_14_method_1_code 416 (.newarray .int) 2 418 := ⟨by decide +kernel, rfl⟩
theorem d_M_init_418 : Dc prog_14_method_1_code 418 (.putfield 158) 3 421 := ⟨by decide +kernel, rfl⟩
theorem d_M_init_421 : Dc prog_14_method_1_code 421 (.aload_n 0) 1 422 := ⟨by decide +kernel, rfl⟩
theorem d_M_init_422 : Dc prog_14_method_1_code 422 (.iconst (-1)) 1 423 := ⟨by decide +kernel, rfl⟩
theorem d_M_init_423 : Dc prog_14_method_1_code 423 (.putfield 161) 3 426 := ⟨by decide +kernel, rfl⟩
theorem d_M_init_426 : Dc prog_14_method_1_code 426 (.aload_n 0) 1 427 := ⟨by decide +kernel, rfl⟩
theorem d_M_init_427 : Dc prog_14_method_1_code 427 (.bipush 24) 2 429 := ⟨by decide +kernel, rfl⟩
theorem d_M_init_429 : Dc prog_14_method_1_code 429 (.newarray .int) 2 431 := ⟨by decide +kernel, rfl⟩
theorem d_M_init_431 : Dc prog_14_method_1_code 431 (.putfield 164) 3 434 := ⟨by decide +kernel, rfl⟩
theorem d_M_init_434 : Dc prog_14_method_1_code 434 (.aload_n 0) 1 435 := ⟨by decide +kernel, rfl⟩
theorem d_M_init_435 : Dc prog_14_method_1_code 435 (.iconst (-1)) 1 436 := ⟨by decide +kernel, rfl⟩
theorem d_M_init_436 : Dc prog_14_method_1_code 436 (.putfield 167) 3 439 := ⟨by decide +kernel, rfl⟩
theorem d_M_init_439 : Dc prog_14_method_1_code 439 (.aload_n 0) 1 440 := ⟨by decide +kernel, rfl⟩
theorem d_M_init_440 : Dc prog_14_method_1_code 440 (.getfield 13) 3 443 := ⟨by decide +kernel, rfl⟩
theorem d_M_init_443 : Dc prog_14_method_1_code 443 (.iconst 4) 1 444 := ⟨by decide +kernel, rfl⟩
theorem d_M_init_444 : Dc prog_14_method_1_code 444 (.iconst (-1)) 1 445 := ⟨by decide +kernel, rfl⟩
theorem d_M_init_445 : Dc prog_14_method_1_code 445 (.iastore) 1 446 := ⟨by decide +kernel, rfl⟩
theorem d_M_init_446 : Dc prog_14_method_1_code 446 (.aload_n 0) 1 447 := ⟨by decide +kernel, rfl⟩
theorem d_M_init_447 : Dc prog_14_method_1_code 447 (.getfield 13) 3 450 := ⟨by decide +kernel, rfl⟩
theorem d_M_init_450 : Dc prog_14_method_1_code 450 (.bipush 7) 2 452 := ⟨by decide +kernel, rfl⟩
theorem d_M_init_452 : Dc prog_14_method_1_code 452 (.iconst 1) 1 453 := ⟨by decide +kernel, rfl⟩
theorem d_M_init_453 : Dc prog_14_method_1_code 453 (.iastore) 1 454 := ⟨by decide +kernel, rfl⟩
theorem d_M_init_454 : Dc prog_14_method_1_code 454 (.return_) 1 455 := ⟨by decide +kernel, rfl⟩
theorem k_M_57 : Cond.constantLong "SubgraphDeskModel" 57 (744050872) ∈ lw_gd := gd 1455 (by decide +kernel) rfl
theorem k_M_59 : Cond.constantLong "SubgraphDeskModel" 59 (474245) ∈ lw_gd := gd 1456 (by decide +kernel) rfl
theorem k_M_61 : Cond.constantLong "SubgraphDeskModel" 61 (116801202) ∈ lw_gd := gd 1457 (by decide +kernel) rfl
theorem k_M_63 : Cond.constantLong "SubgraphDeskModel" 63 (139708581) ∈ lw_gd := gd 1458 (by decide +kernel) rfl
theorem k_M_65 : Cond.constantLong "SubgraphDeskModel" 65 (12892531) ∈ lw_gd := gd 1459 (by decide +kernel) rfl
theorem k_M_67 : Cond.constantLong "SubgraphDeskModel" 67 (664997) ∈ lw_gd := gd 1460 (by decide +kernel) rfl
theorem k_M_69 : Cond.constantLong "SubgraphDeskModel" 69 (441828) ∈ lw_gd := gd 1461 (by decide +kernel) rfl
theorem k_M_75 : Cond.constantLong "SubgraphDeskModel" 75 (146885) ∈ lw_gd := gd 1462 (by decide +kernel) rfl
theorem k_M_77 : Cond.constantLong "SubgraphDeskModel" 77 (404362868) ∈ lw_gd := gd 1463 (by decide +kernel) rfl
theorem k_M_79 : Cond.constantLong "SubgraphDeskModel" 79 (5381299) ∈ lw_gd := gd 1464 (by decide +kernel) rfl
theorem k_M_81 : Cond.constantLong "SubgraphDeskModel" 81 (755507) ∈ lw_gd := gd 1465 (by decide +kernel) rfl
theorem k_M_86 : Cond.constantLong "SubgraphDeskModel" 86 (3657363) ∈ lw_gd := gd 1466 (by decide +kernel) rfl
theorem k_M_88 : Cond.constantLong "SubgraphDeskModel" 88 (67155) ∈ lw_gd := gd 1467 (by decide +kernel) rfl
theorem k_M_147 : Cond.constantLong "SubgraphDeskModel" 147 (343342) ∈ lw_gd := gd 1468 (by decide +kernel) rfl
theorem k_M_149 : Cond.constantLong "SubgraphDeskModel" 149 (20773) ∈ lw_gd := gd 1469 (by decide +kernel) rfl
theorem k_M_151 : Cond.constantLong "SubgraphDeskModel" 151 (16819668) ∈ lw_gd := gd 1470 (by decide +kernel) rfl
theorem k_M_153 : Cond.constantLong "SubgraphDeskModel" 153 (4901) ∈ lw_gd := gd 1471 (by decide +kernel) rfl
section GKm
variable {E : EV} {r : Nat → Nat} {X : XT} {b : ByteArray} {own : String} {nL : Nat} {ca sa pc pc2 : Nat} {L st : List Value} {ch : List va_E} {e0 : va_E}
theorem len_c {n : Nat} (h : ch.length = n) : (e0 :: ch).length = n + 1 := by rw [List.length_cons, h]
theorem get_lastZ {x : va_E} {n : Nat} (h : ch.length = n) : (e0 :: (ch ++ [x]))[n + 1]? = some x := by
  rw [List.getElem?_cons_succ, List.getElem?_append_right (by omega), h, Nat.sub_self]
  rfl
theorem set_lastZ {x y : va_E} {n : Nat} (h : ch.length = n) : (e0 :: (ch ++ [x])).set (n + 1) y = e0 :: (ch ++ [y]) := by
  rw [List.set_cons_succ, List.set_append_right _ _ (by omega), h, Nat.sub_self]
  rfl
theorem z_snoc {B ch2 : List va_E} (h : ch ++ B = ch2) (k : GK E r X ca sa pc L st (e0 :: ch2)) : GK E r X ca sa pc L st ((e0 :: ch) ++ B) := by
  rw [List.cons_append, h]
  exact k
theorem z_hd {e2 : va_E} (h : e0 = e2) (k : GK E r X ca sa pc L st (e2 :: ch)) : GK E r X ca sa pc L st (e0 :: ch) := by
  subst h
  exact k
theorem z_tl {ch2 : List va_E} (h : ch = ch2) (k : GK E r X ca sa pc L st (e0 :: ch2)) : GK E r X ca sa pc L st (e0 :: ch) := by
  subst h
  exact k
/-- a store into the row of longs that was made last -/
theorem z_lastL {n m N j : Nat} {f : Nat → Int64} {x : Int64} {i : Int32} (hX : CK E r X b own nL) (hd : Dc b pc .lastore 1 pc2) (hc : ch.length = n) (hm : n + 1 = m) (hm2 : m < 200) (hi : i = nI j) (hj : j < N) (hN : N < 100000) (kk : GK E r X ca sa pc2 L st (e0 :: (ch ++ [.inl (eC E 1, N, .inr (.inl (vp_updL f j x)))]))) : GK E r X ca sa pc L (.long x :: .int i :: .ref m :: st) (e0 :: (ch ++ [.inl (eC E 1, N, .inr (.inl f))])) := by
  subst hm
  refine z_last (n := n + 1) (N := N) (j := j) (f := f) hX hd (hX.ra _ hm2) (get_lastZ hc) hi hj hN ?_
  rw [set_lastZ hc]
  exact kk
end GKm
def mf_0 (b0 : Nat) : List Value := dfl_M
theorem mfl_0 {b0 : Nat} : (mf_0 b0).length = 69 := rfl
def mc_0 (E : EV) : List va_E := []
theorem mcl_0 {E : EV} : (mc_0 E).length = 0 := rfl
def mc_1 (E : EV) : List va_E := mc_0 E ++ [.inl (eC E 0, 7, .inl (fun _ => 0))]
theorem mcl_1 {E : EV} : (mc_1 E).length = 1 := by unfold mc_1; rw [List.length_append, mcl_0]; rfl
theorem mcd_1 {E : EV} : mc_0 E ++ [.inl (eC E 0, 7, .inl (fun _ => 0))] = mc_1 E := rfl
def mf_1 (b0 : Nat) : List Value := (mf_0 b0).set 2 (.ref (b0 + 1))
theorem mfl_1 {b0 : Nat} : (mf_1 b0).length = 69 := by unfold mf_1; rw [List.length_set, mfl_0]
theorem mfd_1 {b0 : Nat} : ((.inr (12, (mf_0 b0).set 2 (.ref (b0 + 1)))) : va_E) = .inr (12, mf_1 b0) := rfl
def mc_2 (E : EV) : List va_E := mc_1 E ++ [.inl (eC E 0, 5510, .inl (fun _ => 0))]
theorem mcl_2 {E : EV} : (mc_2 E).length = 2 := by unfold mc_2; rw [List.length_append, mcl_1]; rfl
theorem mcd_2 {E : EV} : mc_1 E ++ [.inl (eC E 0, 5510, .inl (fun _ => 0))] = mc_2 E := rfl
def mf_2 (b0 : Nat) : List Value := (mf_1 b0).set 3 (.ref (b0 + 2))
theorem mfl_2 {b0 : Nat} : (mf_2 b0).length = 69 := by unfold mf_2; rw [List.length_set, mfl_1]
theorem mfd_2 {b0 : Nat} : ((.inr (12, (mf_1 b0).set 3 (.ref (b0 + 2)))) : va_E) = .inr (12, mf_2 b0) := rfl
def mc_3 (E : EV) : List va_E := mc_2 E ++ [.inl (eC E 0, 11020, .inl (fun _ => 0))]
theorem mcl_3 {E : EV} : (mc_3 E).length = 3 := by unfold mc_3; rw [List.length_append, mcl_2]; rfl
theorem mcd_3 {E : EV} : mc_2 E ++ [.inl (eC E 0, 11020, .inl (fun _ => 0))] = mc_3 E := rfl
def mf_3 (b0 : Nat) : List Value := (mf_2 b0).set 4 (.ref (b0 + 3))
theorem mfl_3 {b0 : Nat} : (mf_3 b0).length = 69 := by unfold mf_3; rw [List.length_set, mfl_2]
theorem mfd_3 {b0 : Nat} : ((.inr (12, (mf_2 b0).set 4 (.ref (b0 + 3)))) : va_E) = .inr (12, mf_3 b0) := rfl
def mc_4 (E : EV) : List va_E := mc_3 E ++ [.inl (eC E 2, 2, .inl (fun _ => 0))]
theorem mcl_4 {E : EV} : (mc_4 E).length = 4 := by unfold mc_4; rw [List.length_append, mcl_3]; rfl
theorem mcd_4 {E : EV} : mc_3 E ++ [.inl (eC E 2, 2, .inl (fun _ => 0))] = mc_4 E := rfl
def mf_4 (b0 : Nat) : List Value := (mf_3 b0).set 5 (.ref (b0 + 4))
theorem mfl_4 {b0 : Nat} : (mf_4 b0).length = 69 := by unfold mf_4; rw [List.length_set, mfl_3]
theorem mfd_4 {b0 : Nat} : ((.inr (12, (mf_3 b0).set 5 (.ref (b0 + 4)))) : va_E) = .inr (12, mf_4 b0) := rfl
def mc_5 (E : EV) : List va_E := mc_4 E ++ [.inl (eC E 0, 1656, .inl (fun _ => 0))]
theorem mcl_5 {E : EV} : (mc_5 E).length = 5 := by unfold mc_5; rw [List.length_append, mcl_4]; rfl
theorem mcd_5 {E : EV} : mc_4 E ++ [.inl (eC E 0, 1656, .inl (fun _ => 0))] = mc_5 E := rfl
def mf_5 (b0 : Nat) : List Value := (mf_4 b0).set 6 (.ref (b0 + 5))
theorem mfl_5 {b0 : Nat} : (mf_5 b0).length = 69 := by unfold mf_5; rw [List.length_set, mfl_4]
theorem mfd_5 {b0 : Nat} : ((.inr (12, (mf_4 b0).set 6 (.ref (b0 + 5)))) : va_E) = .inr (12, mf_5 b0) := rfl
def mc_6 (E : EV) : List va_E := mc_5 E ++ [.inl (eC E 0, 16, .inl (fun _ => 0))]
theorem mcl_6 {E : EV} : (mc_6 E).length = 6 := by unfold mc_6; rw [List.length_append, mcl_5]; rfl
theorem mcd_6 {E : EV} : mc_5 E ++ [.inl (eC E 0, 16, .inl (fun _ => 0))] = mc_6 E := rfl
def mf_6 (b0 : Nat) : List Value := (mf_5 b0).set 7 (.ref (b0 + 6))
theorem mfl_6 {b0 : Nat} : (mf_6 b0).length = 69 := by unfold mf_6; rw [List.length_set, mfl_5]
theorem mfd_6 {b0 : Nat} : ((.inr (12, (mf_5 b0).set 7 (.ref (b0 + 6)))) : va_E) = .inr (12, mf_6 b0) := rfl
def mc_7 (E : EV) : List va_E := mc_6 E ++ [.inl (eC E 0, 1472, .inl (fun _ => 0))]
theorem mcl_7 {E : EV} : (mc_7 E).length = 7 := by unfold mc_7; rw [List.length_append, mcl_6]; rfl
theorem mcd_7 {E : EV} : mc_6 E ++ [.inl (eC E 0, 1472, .inl (fun _ => 0))] = mc_7 E := rfl
def mf_7 (b0 : Nat) : List Value := (mf_6 b0).set 9 (.ref (b0 + 7))
theorem mfl_7 {b0 : Nat} : (mf_7 b0).length = 69 := by unfold mf_7; rw [List.length_set, mfl_6]
theorem mfd_7 {b0 : Nat} : ((.inr (12, (mf_6 b0).set 9 (.ref (b0 + 7)))) : va_E) = .inr (12, mf_7 b0) := rfl
def mc_8 (E : EV) : List va_E := mc_7 E ++ [.inl (eC E 0, 16, .inl (fun _ => 0))]
theorem mcl_8 {E : EV} : (mc_8 E).length = 8 := by unfold mc_8; rw [List.length_append, mcl_7]; rfl
theorem mcd_8 {E : EV} : mc_7 E ++ [.inl (eC E 0, 16, .inl (fun _ => 0))] = mc_8 E := rfl
def mf_8 (b0 : Nat) : List Value := (mf_7 b0).set 10 (.ref (b0 + 8))
theorem mfl_8 {b0 : Nat} : (mf_8 b0).length = 69 := by unfold mf_8; rw [List.length_set, mfl_7]
theorem mfd_8 {b0 : Nat} : ((.inr (12, (mf_7 b0).set 10 (.ref (b0 + 8)))) : va_E) = .inr (12, mf_8 b0) := rfl
def mc_9 (E : EV) : List va_E := mc_8 E ++ [.inl (eC E 0, 400, .inl (fun _ => 0))]
theorem mcl_9 {E : EV} : (mc_9 E).length = 9 := by unfold mc_9; rw [List.length_append, mcl_8]; rfl
theorem mcd_9 {E : EV} : mc_8 E ++ [.inl (eC E 0, 400, .inl (fun _ => 0))] = mc_9 E := rfl
def mf_9 (b0 : Nat) : List Value := (mf_8 b0).set 12 (.ref (b0 + 9))
theorem mfl_9 {b0 : Nat} : (mf_9 b0).length = 69 := by unfold mf_9; rw [List.length_set, mfl_8]
theorem mfd_9 {b0 : Nat} : ((.inr (12, (mf_8 b0).set 12 (.ref (b0 + 9)))) : va_E) = .inr (12, mf_9 b0) := rfl
def mf_10 (b0 : Nat) : List Value := (mf_9 b0).set 18 (.int (-1))
theorem mfl_10 {b0 : Nat} : (mf_10 b0).length = 69 := by unfold mf_10; rw [List.length_set, mfl_9]
theorem mfd_10 {b0 : Nat} : ((.inr (12, (mf_9 b0).set 18 (.int (-1)))) : va_E) = .inr (12, mf_10 b0) := rfl
def mc_10 (E : EV) : List va_E := mc_9 E ++ [.inl (eC E 0, 96, .inl (fun _ => 0))]
theorem mcl_10 {E : EV} : (mc_10 E).length = 10 := by unfold mc_10; rw [List.length_append, mcl_9]; rfl
theorem mcd_10 {E : EV} : mc_9 E ++ [.inl (eC E 0, 96, .inl (fun _ => 0))] = mc_10 E := rfl
def mf_11 (b0 : Nat) : List Value := (mf_10 b0).set 22 (.ref (b0 + 10))
theorem mfl_11 {b0 : Nat} : (mf_11 b0).length = 69 := by unfold mf_11; rw [List.length_set, mfl_10]
theorem mfd_11 {b0 : Nat} : ((.inr (12, (mf_10 b0).set 22 (.ref (b0 + 10)))) : va_E) = .inr (12, mf_11 b0) := rfl
def mc_11 (E : EV) : List va_E := mc_10 E ++ [.inl (eC E 0, 400, .inl (fun _ => 0))]
theorem mcl_11 {E : EV} : (mc_11 E).length = 11 := by unfold mc_11; rw [List.length_append, mcl_10]; rfl
theorem mcd_11 {E : EV} : mc_10 E ++ [.inl (eC E 0, 400, .inl (fun _ => 0))] = mc_11 E := rfl
def mf_12 (b0 : Nat) : List Value := (mf_11 b0).set 24 (.ref (b0 + 11))
theorem mfl_12 {b0 : Nat} : (mf_12 b0).length = 69 := by unfold mf_12; rw [List.length_set, mfl_11]
theorem mfd_12 {b0 : Nat} : ((.inr (12, (mf_11 b0).set 24 (.ref (b0 + 11)))) : va_E) = .inr (12, mf_12 b0) := rfl
def mc_12 (E : EV) : List va_E := mc_11 E ++ [.inl (eC E 0, 400, .inl (fun _ => 0))]
theorem mcl_12 {E : EV} : (mc_12 E).length = 12 := by unfold mc_12; rw [List.length_append, mcl_11]; rfl
theorem mcd_12 {E : EV} : mc_11 E ++ [.inl (eC E 0, 400, .inl (fun _ => 0))] = mc_12 E := rfl
def mf_13 (b0 : Nat) : List Value := (mf_12 b0).set 25 (.ref (b0 + 12))
theorem mfl_13 {b0 : Nat} : (mf_13 b0).length = 69 := by unfold mf_13; rw [List.length_set, mfl_12]
theorem mfd_13 {b0 : Nat} : ((.inr (12, (mf_12 b0).set 25 (.ref (b0 + 12)))) : va_E) = .inr (12, mf_13 b0) := rfl
def mc_13 (E : EV) : List va_E := mc_12 E ++ [.inl (eC E 0, 400, .inl (fun _ => 0))]
theorem mcl_13 {E : EV} : (mc_13 E).length = 13 := by unfold mc_13; rw [List.length_append, mcl_12]; rfl
theorem mcd_13 {E : EV} : mc_12 E ++ [.inl (eC E 0, 400, .inl (fun _ => 0))] = mc_13 E := rfl
def mf_14 (b0 : Nat) : List Value := (mf_13 b0).set 27 (.ref (b0 + 13))
theorem mfl_14 {b0 : Nat} : (mf_14 b0).length = 69 := by unfold mf_14; rw [List.length_set, mfl_13]
theorem mfd_14 {b0 : Nat} : ((.inr (12, (mf_13 b0).set 27 (.ref (b0 + 13)))) : va_E) = .inr (12, mf_14 b0) := rfl
def mc_14 (E : EV) : List va_E := mc_13 E ++ [.inl (eC E 0, 400, .inl (fun _ => 0))]
theorem mcl_14 {E : EV} : (mc_14 E).length = 14 := by unfold mc_14; rw [List.length_append, mcl_13]; rfl
theorem mcd_14 {E : EV} : mc_13 E ++ [.inl (eC E 0, 400, .inl (fun _ => 0))] = mc_14 E := rfl
def mf_15 (b0 : Nat) : List Value := (mf_14 b0).set 28 (.ref (b0 + 14))
theorem mfl_15 {b0 : Nat} : (mf_15 b0).length = 69 := by unfold mf_15; rw [List.length_set, mfl_14]
theorem mfd_15 {b0 : Nat} : ((.inr (12, (mf_14 b0).set 28 (.ref (b0 + 14)))) : va_E) = .inr (12, mf_15 b0) := rfl
def mc_15 (E : EV) : List va_E := mc_14 E ++ [.inl (eC E 1, 7, .inr (.inl (vp_updL (vp_updL (vp_updL (vp_updL (vp_updL (vp_updL (vp_updL (fun _ => 0) 0 744050872) 1 474245) 2 116801202) 3 139708581) 4 12892531) 5 664997) 6 441828)))]
theorem mcl_15 {E : EV} : (mc_15 E).length = 15 := by unfold mc_15; rw [List.length_append, mcl_14]; rfl
theorem mcd_15 {E : EV} : mc_14 E ++ [.inl (eC E 1, 7, .inr (.inl (vp_updL (vp_updL (vp_updL (vp_updL (vp_updL (vp_updL (vp_updL (fun _ => 0) 0 744050872) 1 474245) 2 116801202) 3 139708581) 4 12892531) 5 664997) 6 441828)))] = mc_15 E := rfl
def mf_16 (b0 : Nat) : List Value := (mf_15 b0).set 31 (.ref (b0 + 15))
theorem mfl_16 {b0 : Nat} : (mf_16 b0).length = 69 := by unfold mf_16; rw [List.length_set, mfl_15]
theorem mfd_16 {b0 : Nat} : ((.inr (12, (mf_15 b0).set 31 (.ref (b0 + 15)))) : va_E) = .inr (12, mf_16 b0) := rfl
def mc_16 (E : EV) : List va_E := mc_15 E ++ [.inl (eC E 1, 6, .inr (.inl (vp_updL (vp_updL (vp_updL (vp_updL (vp_updL (vp_updL (fun _ => 0) 0 664997) 1 146885) 2 404362868) 3 5381299) 4 755507) 5 139708581)))]
theorem mcl_16 {E : EV} : (mc_16 E).length = 16 := by unfold mc_16; rw [List.length_append, mcl_15]; rfl
theorem mcd_16 {E : EV} : mc_15 E ++ [.inl (eC E 1, 6, .inr (.inl (vp_updL (vp_updL (vp_updL (vp_updL (vp_updL (vp_updL (fun _ => 0) 0 664997) 1 146885) 2 404362868) 3 5381299) 4 755507) 5 139708581)))] = mc_16 E := rfl
def mf_17 (b0 : Nat) : List Value := (mf_16 b0).set 32 (.ref (b0 + 16))
theorem mfl_17 {b0 : Nat} : (mf_17 b0).length = 69 := by unfold mf_17; rw [List.length_set, mfl_16]
theorem mfd_17 {b0 : Nat} : ((.inr (12, (mf_16 b0).set 32 (.ref (b0 + 16)))) : va_E) = .inr (12, mf_17 b0) := rfl
def mc_17 (E : EV) : List va_E := mc_16 E ++ [.inl (eC E 1, 2, .inr (.inl (vp_updL (vp_updL (fun _ => 0) 0 3657363) 1 67155)))]
theorem mcl_17 {E : EV} : (mc_17 E).length = 17 := by unfold mc_17; rw [List.length_append, mcl_16]; rfl
theorem mcd_17 {E : EV} : mc_16 E ++ [.inl (eC E 1, 2, .inr (.inl (vp_updL (vp_updL (fun _ => 0) 0 3657363) 1 67155)))] = mc_17 E := rfl
def mf_18 (b0 : Nat) : List Value := (mf_17 b0).set 33 (.ref (b0 + 17))
theorem mfl_18 {b0 : Nat} : (mf_18 b0).length = 69 := by unfold mf_18; rw [List.length_set, mfl_17]
theorem mfd_18 {b0 : Nat} : ((.inr (12, (mf_17 b0).set 33 (.ref (b0 + 17)))) : va_E) = .inr (12, mf_18 b0) := rfl
def mc_18 (E : EV) : List va_E := mc_17 E ++ [.inl (eC E 1, 13, .inr (.inl (fun _ => 0)))]
theorem mcl_18 {E : EV} : (mc_18 E).length = 18 := by unfold mc_18; rw [List.length_append, mcl_17]; rfl
theorem mcd_18 {E : EV} : mc_17 E ++ [.inl (eC E 1, 13, .inr (.inl (fun _ => 0)))] = mc_18 E := rfl
def mf_19 (b0 : Nat) : List Value := (mf_18 b0).set 35 (.ref (b0 + 18))
theorem mfl_19 {b0 : Nat} : (mf_19 b0).length = 69 := by unfold mf_19; rw [List.length_set, mfl_18]
theorem mfd_19 {b0 : Nat} : ((.inr (12, (mf_18 b0).set 35 (.ref (b0 + 18)))) : va_E) = .inr (12, mf_19 b0) := rfl
def mc_19 (E : EV) : List va_E := mc_18 E ++ [.inl (eC E 1, 13, .inr (.inl (fun _ => 0)))]
theorem mcl_19 {E : EV} : (mc_19 E).length = 19 := by unfold mc_19; rw [List.length_append, mcl_18]; rfl
theorem mcd_19 {E : EV} : mc_18 E ++ [.inl (eC E 1, 13, .inr (.inl (fun _ => 0)))] = mc_19 E := rfl
def mf_20 (b0 : Nat) : List Value := (mf_19 b0).set 36 (.ref (b0 + 19))
theorem mfl_20 {b0 : Nat} : (mf_20 b0).length = 69 := by unfold mf_20; rw [List.length_set, mfl_19]
theorem mfd_20 {b0 : Nat} : ((.inr (12, (mf_19 b0).set 36 (.ref (b0 + 19)))) : va_E) = .inr (12, mf_20 b0) := rfl
def mc_20 (E : EV) : List va_E := mc_19 E ++ [.inl (eC E 1, 400, .inr (.inl (fun _ => 0)))]
theorem mcl_20 {E : EV} : (mc_20 E).length = 20 := by unfold mc_20; rw [List.length_append, mcl_19]; rfl
theorem mcd_20 {E : EV} : mc_19 E ++ [.inl (eC E 1, 400, .inr (.inl (fun _ => 0)))] = mc_20 E := rfl
def mf_21 (b0 : Nat) : List Value := (mf_20 b0).set 37 (.ref (b0 + 20))
theorem mfl_21 {b0 : Nat} : (mf_21 b0).length = 69 := by unfold mf_21; rw [List.length_set, mfl_20]
theorem mfd_21 {b0 : Nat} : ((.inr (12, (mf_20 b0).set 37 (.ref (b0 + 20)))) : va_E) = .inr (12, mf_21 b0) := rfl
def mc_21 (E : EV) : List va_E := mc_20 E ++ [.inl (eC E 0, 12, .inl (fun _ => 0))]
theorem mcl_21 {E : EV} : (mc_21 E).length = 21 := by unfold mc_21; rw [List.length_append, mcl_20]; rfl
theorem mcd_21 {E : EV} : mc_20 E ++ [.inl (eC E 0, 12, .inl (fun _ => 0))] = mc_21 E := rfl
def mf_22 (b0 : Nat) : List Value := (mf_21 b0).set 41 (.ref (b0 + 21))
theorem mfl_22 {b0 : Nat} : (mf_22 b0).length = 69 := by unfold mf_22; rw [List.length_set, mfl_21]
theorem mfd_22 {b0 : Nat} : ((.inr (12, (mf_21 b0).set 41 (.ref (b0 + 21)))) : va_E) = .inr (12, mf_22 b0) := rfl
def mc_22 (E : EV) : List va_E := mc_21 E ++ [.inl (eC E 0, 5, .inl (fun _ => 0))]
theorem mcl_22 {E : EV} : (mc_22 E).length = 22 := by unfold mc_22; rw [List.length_append, mcl_21]; rfl
theorem mcd_22 {E : EV} : mc_21 E ++ [.inl (eC E 0, 5, .inl (fun _ => 0))] = mc_22 E := rfl
def mf_23 (b0 : Nat) : List Value := (mf_22 b0).set 42 (.ref (b0 + 22))
theorem mfl_23 {b0 : Nat} : (mf_23 b0).length = 69 := by unfold mf_23; rw [List.length_set, mfl_22]
theorem mfd_23 {b0 : Nat} : ((.inr (12, (mf_22 b0).set 42 (.ref (b0 + 22)))) : va_E) = .inr (12, mf_23 b0) := rfl
def mc_23 (E : EV) : List va_E := mc_22 E ++ [.inl (eC E 0, 60, .inl (fun _ => 0))]
theorem mcl_23 {E : EV} : (mc_23 E).length = 23 := by unfold mc_23; rw [List.length_append, mcl_22]; rfl
theorem mcd_23 {E : EV} : mc_22 E ++ [.inl (eC E 0, 60, .inl (fun _ => 0))] = mc_23 E := rfl
def mf_24 (b0 : Nat) : List Value := (mf_23 b0).set 43 (.ref (b0 + 23))
theorem mfl_24 {b0 : Nat} : (mf_24 b0).length = 69 := by unfold mf_24; rw [List.length_set, mfl_23]
theorem mfd_24 {b0 : Nat} : ((.inr (12, (mf_23 b0).set 43 (.ref (b0 + 23)))) : va_E) = .inr (12, mf_24 b0) := rfl
def mc_24 (E : EV) : List va_E := mc_23 E ++ [.inl (eC E 0, 5, .inl (fun _ => 0))]
theorem mcl_24 {E : EV} : (mc_24 E).length = 24 := by unfold mc_24; rw [List.length_append, mcl_23]; rfl
theorem mcd_24 {E : EV} : mc_23 E ++ [.inl (eC E 0, 5, .inl (fun _ => 0))] = mc_24 E := rfl
def mf_25 (b0 : Nat) : List Value := (mf_24 b0).set 44 (.ref (b0 + 24))
theorem mfl_25 {b0 : Nat} : (mf_25 b0).length = 69 := by unfold mf_25; rw [List.length_set, mfl_24]
theorem mfd_25 {b0 : Nat} : ((.inr (12, (mf_24 b0).set 44 (.ref (b0 + 24)))) : va_E) = .inr (12, mf_25 b0) := rfl
def mc_25 (E : EV) : List va_E := mc_24 E ++ [.inl (eC E 0, 600, .inl (fun _ => 0))]
theorem mcl_25 {E : EV} : (mc_25 E).length = 25 := by unfold mc_25; rw [List.length_append, mcl_24]; rfl
theorem mcd_25 {E : EV} : mc_24 E ++ [.inl (eC E 0, 600, .inl (fun _ => 0))] = mc_25 E := rfl
def mf_26 (b0 : Nat) : List Value := (mf_25 b0).set 46 (.ref (b0 + 25))
theorem mfl_26 {b0 : Nat} : (mf_26 b0).length = 69 := by unfold mf_26; rw [List.length_set, mfl_25]
theorem mfd_26 {b0 : Nat} : ((.inr (12, (mf_25 b0).set 46 (.ref (b0 + 25)))) : va_E) = .inr (12, mf_26 b0) := rfl
def mc_26 (E : EV) : List va_E := mc_25 E ++ [.inl (eC E 0, 5, .inl (fun _ => 0))]
theorem mcl_26 {E : EV} : (mc_26 E).length = 26 := by unfold mc_26; rw [List.length_append, mcl_25]; rfl
theorem mcd_26 {E : EV} : mc_25 E ++ [.inl (eC E 0, 5, .inl (fun _ => 0))] = mc_26 E := rfl
def mf_27 (b0 : Nat) : List Value := (mf_26 b0).set 48 (.ref (b0 + 26))
theorem mfl_27 {b0 : Nat} : (mf_27 b0).length = 69 := by unfold mf_27; rw [List.length_set, mfl_26]
theorem mfd_27 {b0 : Nat} : ((.inr (12, (mf_26 b0).set 48 (.ref (b0 + 26)))) : va_E) = .inr (12, mf_27 b0) := rfl
def mc_27 (E : EV) : List va_E := mc_26 E ++ [.inl (eC E 0, 5, .inl (fun _ => 0))]
theorem mcl_27 {E : EV} : (mc_27 E).length = 27 := by unfold mc_27; rw [List.length_append, mcl_26]; rfl
theorem mcd_27 {E : EV} : mc_26 E ++ [.inl (eC E 0, 5, .inl (fun _ => 0))] = mc_27 E := rfl
def mf_28 (b0 : Nat) : List Value := (mf_27 b0).set 49 (.ref (b0 + 27))
theorem mfl_28 {b0 : Nat} : (mf_28 b0).length = 69 := by unfold mf_28; rw [List.length_set, mfl_27]
theorem mfd_28 {b0 : Nat} : ((.inr (12, (mf_27 b0).set 49 (.ref (b0 + 27)))) : va_E) = .inr (12, mf_28 b0) := rfl
def mc_28 (E : EV) : List va_E := mc_27 E ++ [.inl (eC E 0, 5, .inl (fun _ => 0))]
theorem mcl_28 {E : EV} : (mc_28 E).length = 28 := by unfold mc_28; rw [List.length_append, mcl_27]; rfl
theorem mcd_28 {E : EV} : mc_27 E ++ [.inl (eC E 0, 5, .inl (fun _ => 0))] = mc_28 E := rfl
def mf_29 (b0 : Nat) : List Value := (mf_28 b0).set 50 (.ref (b0 + 28))
theorem mfl_29 {b0 : Nat} : (mf_29 b0).length = 69 := by unfold mf_29; rw [List.length_set, mfl_28]
theorem mfd_29 {b0 : Nat} : ((.inr (12, (mf_28 b0).set 50 (.ref (b0 + 28)))) : va_E) = .inr (12, mf_29 b0) := rfl
def mc_29 (E : EV) : List va_E := mc_28 E ++ [.inl (eC E 0, 5, .inl (fun _ => 0))]
theorem mcl_29 {E : EV} : (mc_29 E).length = 29 := by unfold mc_29; rw [List.length_append, mcl_28]; rfl
theorem mcd_29 {E : EV} : mc_28 E ++ [.inl (eC E 0, 5, .inl (fun _ => 0))] = mc_29 E := rfl
def mf_30 (b0 : Nat) : List Value := (mf_29 b0).set 51 (.ref (b0 + 29))
theorem mfl_30 {b0 : Nat} : (mf_30 b0).length = 69 := by unfold mf_30; rw [List.length_set, mfl_29]
theorem mfd_30 {b0 : Nat} : ((.inr (12, (mf_29 b0).set 51 (.ref (b0 + 29)))) : va_E) = .inr (12, mf_30 b0) := rfl
def mc_30 (E : EV) : List va_E := mc_29 E ++ [.inl (eC E 0, 5, .inl (fun _ => 0))]
theorem mcl_30 {E : EV} : (mc_30 E).length = 30 := by unfold mc_30; rw [List.length_append, mcl_29]; rfl
theorem mcd_30 {E : EV} : mc_29 E ++ [.inl (eC E 0, 5, .inl (fun _ => 0))] = mc_30 E := rfl
def mf_31 (b0 : Nat) : List Value := (mf_30 b0).set 52 (.ref (b0 + 30))
theorem mfl_31 {b0 : Nat} : (mf_31 b0).length = 69 := by unfold mf_31; rw [List.length_set, mfl_30]
theorem mfd_31 {b0 : Nat} : ((.inr (12, (mf_30 b0).set 52 (.ref (b0 + 30)))) : va_E) = .inr (12, mf_31 b0) := rfl
def mc_31 (E : EV) : List va_E := mc_30 E ++ [.inl (eC E 0, 12, .inl (fun _ => 0))]
theorem mcl_31 {E : EV} : (mc_31 E).length = 31 := by unfold mc_31; rw [List.length_append, mcl_30]; rfl
theorem mcd_31 {E : EV} : mc_30 E ++ [.inl (eC E 0, 12, .inl (fun _ => 0))] = mc_31 E := rfl
def mf_32 (b0 : Nat) : List Value := (mf_31 b0).set 55 (.ref (b0 + 31))
theorem mfl_32 {b0 : Nat} : (mf_32 b0).length = 69 := by unfold mf_32; rw [List.length_set, mfl_31]
theorem mfd_32 {b0 : Nat} : ((.inr (12, (mf_31 b0).set 55 (.ref (b0 + 31)))) : va_E) = .inr (12, mf_32 b0) := rfl
def mc_32 (E : EV) : List va_E := mc_31 E ++ [.inl (eC E 0, 12, .inl (fun _ => 0))]
theorem mcl_32 {E : EV} : (mc_32 E).length = 32 := by unfold mc_32; rw [List.length_append, mcl_31]; rfl
theorem mcd_32 {E : EV} : mc_31 E ++ [.inl (eC E 0, 12, .inl (fun _ => 0))] = mc_32 E := rfl
def mf_33 (b0 : Nat) : List Value := (mf_32 b0).set 56 (.ref (b0 + 32))
theorem mfl_33 {b0 : Nat} : (mf_33 b0).length = 69 := by unfold mf_33; rw [List.length_set, mfl_32]
theorem mfd_33 {b0 : Nat} : ((.inr (12, (mf_32 b0).set 56 (.ref (b0 + 32)))) : va_E) = .inr (12, mf_33 b0) := rfl
def mc_33 (E : EV) : List va_E := mc_32 E ++ [.inl (eC E 0, 60, .inl (fun _ => 0))]
theorem mcl_33 {E : EV} : (mc_33 E).length = 33 := by unfold mc_33; rw [List.length_append, mcl_32]; rfl
theorem mcd_33 {E : EV} : mc_32 E ++ [.inl (eC E 0, 60, .inl (fun _ => 0))] = mc_33 E := rfl
def mf_34 (b0 : Nat) : List Value := (mf_33 b0).set 57 (.ref (b0 + 33))
theorem mfl_34 {b0 : Nat} : (mf_34 b0).length = 69 := by unfold mf_34; rw [List.length_set, mfl_33]
theorem mfd_34 {b0 : Nat} : ((.inr (12, (mf_33 b0).set 57 (.ref (b0 + 33)))) : va_E) = .inr (12, mf_34 b0) := rfl
def mc_34 (E : EV) : List va_E := mc_33 E ++ [.inl (eC E 0, 60, .inl (fun _ => 0))]
theorem mcl_34 {E : EV} : (mc_34 E).length = 34 := by unfold mc_34; rw [List.length_append, mcl_33]; rfl
theorem mcd_34 {E : EV} : mc_33 E ++ [.inl (eC E 0, 60, .inl (fun _ => 0))] = mc_34 E := rfl
def mf_35 (b0 : Nat) : List Value := (mf_34 b0).set 58 (.ref (b0 + 34))
theorem mfl_35 {b0 : Nat} : (mf_35 b0).length = 69 := by unfold mf_35; rw [List.length_set, mfl_34]
theorem mfd_35 {b0 : Nat} : ((.inr (12, (mf_34 b0).set 58 (.ref (b0 + 34)))) : va_E) = .inr (12, mf_35 b0) := rfl
def mc_35 (E : EV) : List va_E := mc_34 E ++ [.inl (eC E 1, 21, .inr (.inl (fun _ => 0)))]
theorem mcl_35 {E : EV} : (mc_35 E).length = 35 := by unfold mc_35; rw [List.length_append, mcl_34]; rfl
theorem mcd_35 {E : EV} : mc_34 E ++ [.inl (eC E 1, 21, .inr (.inl (fun _ => 0)))] = mc_35 E := rfl
def mf_36 (b0 : Nat) : List Value := (mf_35 b0).set 59 (.ref (b0 + 35))
theorem mfl_36 {b0 : Nat} : (mf_36 b0).length = 69 := by unfold mf_36; rw [List.length_set, mfl_35]
theorem mfd_36 {b0 : Nat} : ((.inr (12, (mf_35 b0).set 59 (.ref (b0 + 35)))) : va_E) = .inr (12, mf_36 b0) := rfl
def mc_36 (E : EV) : List va_E := mc_35 E ++ [.inl (eC E 1, 4, .inr (.inl (vp_updL (vp_updL (vp_updL (vp_updL (fun _ => 0) 0 343342) 1 20773) 2 16819668) 3 4901)))]
theorem mcl_36 {E : EV} : (mc_36 E).length = 36 := by unfold mc_36; rw [List.length_append, mcl_35]; rfl
theorem mcd_36 {E : EV} : mc_35 E ++ [.inl (eC E 1, 4, .inr (.inl (vp_updL (vp_updL (vp_updL (vp_updL (fun _ => 0) 0 343342) 1 20773) 2 16819668) 3 4901)))] = mc_36 E := rfl
def mf_37 (b0 : Nat) : List Value := (mf_36 b0).set 60 (.ref (b0 + 36))
theorem mfl_37 {b0 : Nat} : (mf_37 b0).length = 69 := by unfold mf_37; rw [List.length_set, mfl_36]
theorem mfd_37 {b0 : Nat} : ((.inr (12, (mf_36 b0).set 60 (.ref (b0 + 36)))) : va_E) = .inr (12, mf_37 b0) := rfl
def mc_37 (E : EV) : List va_E := mc_36 E ++ [.inl (eC E 0, 96, .inl (fun _ => 0))]
theorem mcl_37 {E : EV} : (mc_37 E).length = 37 := by unfold mc_37; rw [List.length_append, mcl_36]; rfl
theorem mcd_37 {E : EV} : mc_36 E ++ [.inl (eC E 0, 96, .inl (fun _ => 0))] = mc_37 E := rfl
def mf_38 (b0 : Nat) : List Value := (mf_37 b0).set 61 (.ref (b0 + 37))
theorem mfl_38 {b0 : Nat} : (mf_38 b0).length = 69 := by unfold mf_38; rw [List.length_set, mfl_37]
theorem mfd_38 {b0 : Nat} : ((.inr (12, (mf_37 b0).set 61 (.ref (b0 + 37)))) : va_E) = .inr (12, mf_38 b0) := rfl
def mf_39 (b0 : Nat) : List Value := (mf_38 b0).set 64 (.int (-1))
theorem mfl_39 {b0 : Nat} : (mf_39 b0).length = 69 := by unfold mf_39; rw [List.length_set, mfl_38]
theorem mfd_39 {b0 : Nat} : ((.inr (12, (mf_38 b0).set 64 (.int (-1)))) : va_E) = .inr (12, mf_39 b0) := rfl
def mc_38 (E : EV) : List va_E := mc_37 E ++ [.inl (eC E 0, 24, .inl (fun _ => 0))]
theorem mcl_38 {E : EV} : (mc_38 E).length = 38 := by unfold mc_38; rw [List.length_append, mcl_37]; rfl
theorem mcd_38 {E : EV} : mc_37 E ++ [.inl (eC E 0, 24, .inl (fun _ => 0))] = mc_38 E := rfl
def mf_40 (b0 : Nat) : List Value := (mf_39 b0).set 67 (.ref (b0 + 38))
theorem mfl_40 {b0 : Nat} : (mf_40 b0).length = 69 := by unfold mf_40; rw [List.length_set, mfl_39]
theorem mfd_40 {b0 : Nat} : ((.inr (12, (mf_39 b0).set 67 (.ref (b0 + 38)))) : va_E) = .inr (12, mf_40 b0) := rfl
def mf_41 (b0 : Nat) : List Value := (mf_40 b0).set 68 (.int (-1))
theorem mfl_41 {b0 : Nat} : (mf_41 b0).length = 69 := by unfold mf_41; rw [List.length_set, mfl_40]
theorem mfd_41 {b0 : Nat} : ((.inr (12, (mf_40 b0).set 68 (.int (-1)))) : va_E) = .inr (12, mf_41 b0) := rfl
theorem mfe_1 {b0 : Nat} : mf_1 b0 = [.int 0, .int 0, .ref (b0 + 1), .null, .null, .null, .null, .null, .int 0, .null, .null, .int 0, .null, .int 0, .int 0, .int 0, .int 0, .long 0, .int 0, .int 0, .int 0, .int 0, .null, .int 0, .null, .null, .int 0, .null, .null, .int 0, .int 0, .null, .null, .null, .int 0, .null, .null, .null, .int 0, .long 0, .long 0, .null, .null, .null, .null, .int 0, .null, .int 0, .null, .null, .null, .null, .null, .int 0, .int 0, .null, .null, .null, .null, .null, .null, .null, .int 0, .int 0, .int 0, .int 0, .long 0, .null, .int 0] := by
  unfold mf_1
  unfold mf_0 dfl_M
  rfl
theorem mfe_2 {b0 : Nat} : mf_2 b0 = [.int 0, .int 0, .ref (b0 + 1), .ref (b0 + 2), .null, .null, .null, .null, .int 0, .null, .null, .int 0, .null, .int 0, .int 0, .int 0, .int 0, .long 0, .int 0, .int 0, .int 0, .int 0, .null, .int 0, .null, .null, .int 0, .null, .null, .int 0, .int 0, .null, .null, .null, .int 0, .null, .null, .null, .int 0, .long 0, .long 0, .null, .null, .null, .null, .int 0, .null, .int 0, .null, .null, .null, .null, .null, .int 0, .int 0, .null, .null, .null, .null, .null, .null, .null, .int 0, .int 0, .int 0, .int 0, .long 0, .null, .int 0] := by
  unfold mf_2
  rw [mfe_1]
  rfl
theorem mfe_3 {b0 : Nat} : mf_3 b0 = [.int 0, .int 0, .ref (b0 + 1), .ref (b0 + 2), .ref (b0 + 3), .null, .null, .null, .int 0, .null, .null, .int 0, .null, .int 0, .int 0, .int 0, .int 0, .long 0, .int 0, .int 0, .int 0, .int 0, .null, .int 0, .null, .null, .int 0, .null, .null, .int 0, .int 0, .null, .null, .null, .int 0, .null, .null, .null, .int 0, .long 0, .long 0, .null, .null, .null, .null, .int 0, .null, .int 0, .null, .null, .null, .null, .null, .int 0, .int 0, .null, .null, .null, .null, .null, .null, .null, .int 0, .int 0, .int 0, .int 0, .long 0, .null, .int 0] := by
  unfold mf_3
  rw [mfe_2]
  rfl
theorem mfe_4 {b0 : Nat} : mf_4 b0 = [.int 0, .int 0, .ref (b0 + 1), .ref (b0 + 2), .ref (b0 + 3), .ref (b0 + 4), .null, .null, .int 0, .null, .null, .int 0, .null, .int 0, .int 0, .int 0, .int 0, .long 0, .int 0, .int 0, .int 0, .int 0, .null, .int 0, .null, .null, .int 0, .null, .null, .int 0, .int 0, .null, .null, .null, .int 0, .null, .null, .null, .int 0, .long 0, .long 0, .null, .null, .null, .null, .int 0, .null, .int 0, .null, .null, .null, .null, .null, .int 0, .int 0, .null, .null, .null, .null, .null, .null, .null, .int 0, .int 0, .int 0, .int 0, .long 0, .null, .int 0] := by
  unfold mf_4
  rw [mfe_3]
  rfl
theorem mfe_5 {b0 : Nat} : mf_5 b0 = [.int 0, .int 0, .ref (b0 + 1), .ref (b0 + 2), .ref (b0 + 3), .ref (b0 + 4), .ref (b0 + 5), .null, .int 0, .null, .null, .int 0, .null, .int 0, .int 0, .int 0, .int 0, .long 0, .int 0, .int 0, .int 0, .int 0, .null, .int 0, .null, .null, .int 0, .null, .null, .int 0, .int 0, .null, .null, .null, .int 0, .null, .null, .null, .int 0, .long 0, .long 0, .null, .null, .null, .null, .int 0, .null, .int 0, .null, .null, .null, .null, .null, .int 0, .int 0, .null, .null, .null, .null, .null, .null, .null, .int 0, .int 0, .int 0, .int 0, .long 0, .null, .int 0] := by
  unfold mf_5
  rw [mfe_4]
  rfl
theorem mfe_6 {b0 : Nat} : mf_6 b0 = [.int 0, .int 0, .ref (b0 + 1), .ref (b0 + 2), .ref (b0 + 3), .ref (b0 + 4), .ref (b0 + 5), .ref (b0 + 6), .int 0, .null, .null, .int 0, .null, .int 0, .int 0, .int 0, .int 0, .long 0, .int 0, .int 0, .int 0, .int 0, .null, .int 0, .null, .null, .int 0, .null, .null, .int 0, .int 0, .null, .null, .null, .int 0, .null, .null, .null, .int 0, .long 0, .long 0, .null, .null, .null, .null, .int 0, .null, .int 0, .null, .null, .null, .null, .null, .int 0, .int 0, .null, .null, .null, .null, .null, .null, .null, .int 0, .int 0, .int 0, .int 0, .long 0, .null, .int 0] := by
  unfold mf_6
  rw [mfe_5]
  rfl
theorem mfe_7 {b0 : Nat} : mf_7 b0 = [.int 0, .int 0, .ref (b0 + 1), .ref (b0 + 2), .ref (b0 + 3), .ref (b0 + 4), .ref (b0 + 5), .ref (b0 + 6), .int 0, .ref (b0 + 7), .null, .int 0, .null, .int 0, .int 0, .int 0, .int 0, .long 0, .int 0, .int 0, .int 0, .int 0, .null, .int 0, .null, .null, .int 0, .null, .null, .int 0, .int 0, .null, .null, .null, .int 0, .null, .null, .null, .int 0, .long 0, .long 0, .null, .null, .null, .null, .int 0, .null, .int 0, .null, .null, .null, .null, .null, .int 0, .int 0, .null, .null, .null, .null, .null, .null, .null, .int 0, .int 0, .int 0, .int 0, .long 0, .null, .int 0] := by
  unfold mf_7
  rw [mfe_6]
  rfl
theorem mfe_8 {b0 : Nat} : mf_8 b0 = [.int 0, .int 0, .ref (b0 + 1), .ref (b0 + 2), .ref (b0 + 3), .ref (b0 + 4), .ref (b0 + 5), .ref (b0 + 6), .int 0, .ref (b0 + 7), .ref (b0 + 8), .int 0, .null, .int 0, .int 0, .int 0, .int 0, .long 0, .int 0, .int 0, .int 0, .int 0, .null, .int 0, .null, .null, .int 0, .null, .null, .int 0, .int 0, .null, .null, .null, .int 0, .null, .null, .null, .int 0, .long 0, .long 0, .null, .null, .null, .null, .int 0, .null, .int 0, .null, .null, .null, .null, .null, .int 0, .int 0, .null, .null, .null, .null, .null, .null, .null, .int 0, .int 0, .int 0, .int 0, .long 0, .null, .int 0] := by
  unfold mf_8
  rw [mfe_7]
  rfl
theorem mfe_9 {b0 : Nat} : mf_9 b0 = [.int 0, .int 0, .ref (b0 + 1), .ref (b0 + 2), .ref (b0 + 3), .ref (b0 + 4), .ref (b0 + 5), .ref (b0 + 6), .int 0, .ref (b0 + 7), .ref (b0 + 8), .int 0, .ref (b0 + 9), .int 0, .int 0, .int 0, .int 0, .long 0, .int 0, .int 0, .int 0, .int 0, .null, .int 0, .null, .null, .int 0, .null, .null, .int 0, .int 0, .null, .null, .null, .int 0, .null, .null, .null, .int 0, .long 0, .long 0, .null, .null, .null, .null, .int 0, .null, .int 0, .null, .null, .null, .null, .null, .int 0, .int 0, .null, .null, .null, .null, .null, .null, .null, .int 0, .int 0, .int 0, .int 0, .long 0, .null, .int 0] := by
  unfold mf_9
  rw [mfe_8]
  rfl
theorem mfe_10 {b0 : Nat} : mf_10 b0 = [.int 0, .int 0, .ref (b0 + 1), .ref (b0 + 2), .ref (b0 + 3), .ref (b0 + 4), .ref (b0 + 5), .ref (b0 + 6), .int 0, .ref (b0 + 7), .ref (b0 + 8), .int 0, .ref (b0 + 9), .int 0, .int 0, .int 0, .int 0, .long 0, .int (-1), .int 0, .int 0, .int 0, .null, .int 0, .null, .null, .int 0, .null, .null, .int 0, .int 0, .null, .null, .null, .int 0, .null, .null, .null, .int 0, .long 0, .long 0, .null, .null, .null, .null, .int 0, .null, .int 0, .null, .null, .null, .null, .null, .int 0, .int 0, .null, .null, .null, .null, .null, .null, .null, .int 0, .int 0, .int 0, .int 0, .long 0, .null, .int 0] := by
  unfold mf_10
  rw [mfe_9]
  rfl
theorem mfe_11 {b0 : Nat} : mf_11 b0 = [.int 0, .int 0, .ref (b0 + 1), .ref (b0 + 2), .ref (b0 + 3), .ref (b0 + 4), .ref (b0 + 5), .ref (b0 + 6), .int 0, .ref (b0 + 7), .ref (b0 + 8), .int 0, .ref (b0 + 9), .int 0, .int 0, .int 0, .int 0, .long 0, .int (-1), .int 0, .int 0, .int 0, .ref (b0 + 10), .int 0, .null, .null, .int 0, .null, .null, .int 0, .int 0, .null, .null, .null, .int 0, .null, .null, .null, .int 0, .long 0, .long 0, .null, .null, .null, .null, .int 0, .null, .int 0, .null, .null, .null, .null, .null, .int 0, .int 0, .null, .null, .null, .null, .null, .null, .null, .int 0, .int 0, .int 0, .int 0, .long 0, .null, .int 0] := by
  unfold mf_11
  rw [mfe_10]
  rfl
theorem mfe_12 {b0 : Nat} : mf_12 b0 = [.int 0, .int 0, .ref (b0 + 1), .ref (b0 + 2), .ref (b0 + 3), .ref (b0 + 4), .ref (b0 + 5), .ref (b0 + 6), .int 0, .ref (b0 + 7), .ref (b0 + 8), .int 0, .ref (b0 + 9), .int 0, .int 0, .int 0, .int 0, .long 0, .int (-1), .int 0, .int 0, .int 0, .ref (b0 + 10), .int 0, .ref (b0 + 11), .null, .int 0, .null, .null, .int 0, .int 0, .null, .null, .null, .int 0, .null, .null, .null, .int 0, .long 0, .long 0, .null, .null, .null, .null, .int 0, .null, .int 0, .null, .null, .null, .null, .null, .int 0, .int 0, .null, .null, .null, .null, .null, .null, .null, .int 0, .int 0, .int 0, .int 0, .long 0, .null, .int 0] := by
  unfold mf_12
  rw [mfe_11]
  rfl
theorem mfe_13 {b0 : Nat} : mf_13 b0 = [.int 0, .int 0, .ref (b0 + 1), .ref (b0 + 2), .ref (b0 + 3), .ref (b0 + 4), .ref (b0 + 5), .ref (b0 + 6), .int 0, .ref (b0 + 7), .ref (b0 + 8), .int 0, .ref (b0 + 9), .int 0, .int 0, .int 0, .int 0, .long 0, .int (-1), .int 0, .int 0, .int 0, .ref (b0 + 10), .int 0, .ref (b0 + 11), .ref (b0 + 12), .int 0, .null, .null, .int 0, .int 0, .null, .null, .null, .int 0, .null, .null, .null, .int 0, .long 0, .long 0, .null, .null, .null, .null, .int 0, .null, .int 0, .null, .null, .null, .null, .null, .int 0, .int 0, .null, .null, .null, .null, .null, .null, .null, .int 0, .int 0, .int 0, .int 0, .long 0, .null, .int 0] := by
  unfold mf_13
  rw [mfe_12]
  rfl
theorem mfe_14 {b0 : Nat} : mf_14 b0 = [.int 0, .int 0, .ref (b0 + 1), .ref (b0 + 2), .ref (b0 + 3), .ref (b0 + 4), .ref (b0 + 5), .ref (b0 + 6), .int 0, .ref (b0 + 7), .ref (b0 + 8), .int 0, .ref (b0 + 9), .int 0, .int 0, .int 0, .int 0, .long 0, .int (-1), .int 0, .int 0, .int 0, .ref (b0 + 10), .int 0, .ref (b0 + 11), .ref (b0 + 12), .int 0, .ref (b0 + 13), .null, .int 0, .int 0, .null, .null, .null, .int 0, .null, .null, .null, .int 0, .long 0, .long 0, .null, .null, .null, .null, .int 0, .null, .int 0, .null, .null, .null, .null, .null, .int 0, .int 0, .null, .null, .null, .null, .null, .null, .null, .int 0, .int 0, .int 0, .int 0, .long 0, .null, .int 0] := by
  unfold mf_14
  rw [mfe_13]
  rfl
theorem mfe_15 {b0 : Nat} : mf_15 b0 = [.int 0, .int 0, .ref (b0 + 1), .ref (b0 + 2), .ref (b0 + 3), .ref (b0 + 4), .ref (b0 + 5), .ref (b0 + 6), .int 0, .ref (b0 + 7), .ref (b0 + 8), .int 0, .ref (b0 + 9), .int 0, .int 0, .int 0, .int 0, .long 0, .int (-1), .int 0, .int 0, .int 0, .ref (b0 + 10), .int 0, .ref (b0 + 11), .ref (b0 + 12), .int 0, .ref (b0 + 13), .ref (b0 + 14), .int 0, .int 0, .null, .null, .null, .int 0, .null, .null, .null, .int 0, .long 0, .long 0, .null, .null, .null, .null, .int 0, .null, .int 0, .null, .null, .null, .null, .null, .int 0, .int 0, .null, .null, .null, .null, .null, .null, .null, .int 0, .int 0, .int 0, .int 0, .long 0, .null, .int 0] := by
  unfold mf_15
  rw [mfe_14]
  rfl
theorem mfe_16 {b0 : Nat} : mf_16 b0 = [.int 0, .int 0, .ref (b0 + 1), .ref (b0 + 2), .ref (b0 + 3), .ref (b0 + 4), .ref (b0 + 5), .ref (b0 + 6), .int 0, .ref (b0 + 7), .ref (b0 + 8), .int 0, .ref (b0 + 9), .int 0, .int 0, .int 0, .int 0, .long 0, .int (-1), .int 0, .int 0, .int 0, .ref (b0 + 10), .int 0, .ref (b0 + 11), .ref (b0 + 12), .int 0, .ref (b0 + 13), .ref (b0 + 14), .int 0, .int 0, .ref (b0 + 15), .null, .null, .int 0, .null, .null, .null, .int 0, .long 0, .long 0, .null, .null, .null, .null, .int 0, .null, .int 0, .null, .null, .null, .null, .null, .int 0, .int 0, .null, .null, .null, .null, .null, .null, .null, .int 0, .int 0, .int 0, .int 0, .long 0, .null, .int 0] := by
  unfold mf_16
  rw [mfe_15]
  rfl
theorem mfe_17 {b0 : Nat} : mf_17 b0 = [.int 0, .int 0, .ref (b0 + 1), .ref (b0 + 2), .ref (b0 + 3), .ref (b0 + 4), .ref (b0 + 5), .ref (b0 + 6), .int 0, .ref (b0 + 7), .ref (b0 + 8), .int 0, .ref (b0 + 9), .int 0, .int 0, .int 0, .int 0, .long 0, .int (-1), .int 0, .int 0, .int 0, .ref (b0 + 10), .int 0, .ref (b0 + 11), .ref (b0 + 12), .int 0, .ref (b0 + 13), .ref (b0 + 14), .int 0, .int 0, .ref (b0 + 15), .ref (b0 + 16), .null, .int 0, .null, .null, .null, .int 0, .long 0, .long 0, .null, .null, .null, .null, .int 0, .null, .int 0, .null, .null, .null, .null, .null, .int 0, .int 0, .null, .null, .null, .null, .null, .null, .null, .int 0, .int 0, .int 0, .int 0, .long 0, .null, .int 0] := by
  unfold mf_17
  rw [mfe_16]
  rfl
theorem mfe_18 {b0 : Nat} : mf_18 b0 = [.int 0, .int 0, .ref (b0 + 1), .ref (b0 + 2), .ref (b0 + 3), .ref (b0 + 4), .ref (b0 + 5), .ref (b0 + 6), .int 0, .ref (b0 + 7), .ref (b0 + 8), .int 0, .ref (b0 + 9), .int 0, .int 0, .int 0, .int 0, .long 0, .int (-1), .int 0, .int 0, .int 0, .ref (b0 + 10), .int 0, .ref (b0 + 11), .ref (b0 + 12), .int 0, .ref (b0 + 13), .ref (b0 + 14), .int 0, .int 0, .ref (b0 + 15), .ref (b0 + 16), .ref (b0 + 17), .int 0, .null, .null, .null, .int 0, .long 0, .long 0, .null, .null, .null, .null, .int 0, .null, .int 0, .null, .null, .null, .null, .null, .int 0, .int 0, .null, .null, .null, .null, .null, .null, .null, .int 0, .int 0, .int 0, .int 0, .long 0, .null, .int 0] := by
  unfold mf_18
  rw [mfe_17]
  rfl
theorem mfe_19 {b0 : Nat} : mf_19 b0 = [.int 0, .int 0, .ref (b0 + 1), .ref (b0 + 2), .ref (b0 + 3), .ref (b0 + 4), .ref (b0 + 5), .ref (b0 + 6), .int 0, .ref (b0 + 7), .ref (b0 + 8), .int 0, .ref (b0 + 9), .int 0, .int 0, .int 0, .int 0, .long 0, .int (-1), .int 0, .int 0, .int 0, .ref (b0 + 10), .int 0, .ref (b0 + 11), .ref (b0 + 12), .int 0, .ref (b0 + 13), .ref (b0 + 14), .int 0, .int 0, .ref (b0 + 15), .ref (b0 + 16), .ref (b0 + 17), .int 0, .ref (b0 + 18), .null, .null, .int 0, .long 0, .long 0, .null, .null, .null, .null, .int 0, .null, .int 0, .null, .null, .null, .null, .null, .int 0, .int 0, .null, .null, .null, .null, .null, .null, .null, .int 0, .int 0, .int 0, .int 0, .long 0, .null, .int 0] := by
  unfold mf_19
  rw [mfe_18]
  rfl
theorem mfe_20 {b0 : Nat} : mf_20 b0 = [.int 0, .int 0, .ref (b0 + 1), .ref (b0 + 2), .ref (b0 + 3), .ref (b0 + 4), .ref (b0 + 5), .ref (b0 + 6), .int 0, .ref (b0 + 7), .ref (b0 + 8), .int 0, .ref (b0 + 9), .int 0, .int 0, .int 0, .int 0, .long 0, .int (-1), .int 0, .int 0, .int 0, .ref (b0 + 10), .int 0, .ref (b0 + 11), .ref (b0 + 12), .int 0, .ref (b0 + 13), .ref (b0 + 14), .int 0, .int 0, .ref (b0 + 15), .ref (b0 + 16), .ref (b0 + 17), .int 0, .ref (b0 + 18), .ref (b0 + 19), .null, .int 0, .long 0, .long 0, .null, .null, .null, .null, .int 0, .null, .int 0, .null, .null, .null, .null, .null, .int 0, .int 0, .null, .null, .null, .null, .null, .null, .null, .int 0, .int 0, .int 0, .int 0, .long 0, .null, .int 0] := by
  unfold mf_20
  rw [mfe_19]
  rfl
theorem mfe_21 {b0 : Nat} : mf_21 b0 = [.int 0, .int 0, .ref (b0 + 1), .ref (b0 + 2), .ref (b0 + 3), .ref (b0 + 4), .ref (b0 + 5), .ref (b0 + 6), .int 0, .ref (b0 + 7), .ref (b0 + 8), .int 0, .ref (b0 + 9), .int 0, .int 0, .int 0, .int 0, .long 0, .int (-1), .int 0, .int 0, .int 0, .ref (b0 + 10), .int 0, .ref (b0 + 11), .ref (b0 + 12), .int 0, .ref (b0 + 13), .ref (b0 + 14), .int 0, .int 0, .ref (b0 + 15), .ref (b0 + 16), .ref (b0 + 17), .int 0, .ref (b0 + 18), .ref (b0 + 19), .ref (b0 + 20), .int 0, .long 0, .long 0, .null, .null, .null, .null, .int 0, .null, .int 0, .null, .null, .null, .null, .null, .int 0, .int 0, .null, .null, .null, .null, .null, .null, .null, .int 0, .int 0, .int 0, .int 0, .long 0, .null, .int 0] := by
  unfold mf_21
  rw [mfe_20]
  rfl
theorem mfe_22 {b0 : Nat} : mf_22 b0 = [.int 0, .int 0, .ref (b0 + 1), .ref (b0 + 2), .ref (b0 + 3), .ref (b0 + 4), .ref (b0 + 5), .ref (b0 + 6), .int 0, .ref (b0 + 7), .ref (b0 + 8), .int 0, .ref (b0 + 9), .int 0, .int 0, .int 0, .int 0, .long 0, .int (-1), .int 0, .int 0, .int 0, .ref (b0 + 10), .int 0, .ref (b0 + 11), .ref (b0 + 12), .int 0, .ref (b0 + 13), .ref (b0 + 14), .int 0, .int 0, .ref (b0 + 15), .ref (b0 + 16), .ref (b0 + 17), .int 0, .ref (b0 + 18), .ref (b0 + 19), .ref (b0 + 20), .int 0, .long 0, .long 0, .ref (b0 + 21), .null, .null, .null, .int 0, .null, .int 0, .null, .null, .null, .null, .null, .int 0, .int 0, .null, .null, .null, .null, .null, .null, .null, .int 0, .int 0, .int 0, .int 0, .long 0, .null, .int 0] := by
  unfold mf_22
  rw [mfe_21]
  rfl
theorem mfe_23 {b0 : Nat} : mf_23 b0 = [.int 0, .int 0, .ref (b0 + 1), .ref (b0 + 2), .ref (b0 + 3), .ref (b0 + 4), .ref (b0 + 5), .ref (b0 + 6), .int 0, .ref (b0 + 7), .ref (b0 + 8), .int 0, .ref (b0 + 9), .int 0, .int 0, .int 0, .int 0, .long 0, .int (-1), .int 0, .int 0, .int 0, .ref (b0 + 10), .int 0, .ref (b0 + 11), .ref (b0 + 12), .int 0, .ref (b0 + 13), .ref (b0 + 14), .int 0, .int 0, .ref (b0 + 15), .ref (b0 + 16), .ref (b0 + 17), .int 0, .ref (b0 + 18), .ref (b0 + 19), .ref (b0 + 20), .int 0, .long 0, .long 0, .ref (b0 + 21), .ref (b0 + 22), .null, .null, .int 0, .null, .int 0, .null, .null, .null, .null, .null, .int 0, .int 0, .null, .null, .null, .null, .null, .null, .null, .int 0, .int 0, .int 0, .int 0, .long 0, .null, .int 0] := by
  unfold mf_23
  rw [mfe_22]
  rfl
theorem mfe_24 {b0 : Nat} : mf_24 b0 = [.int 0, .int 0, .ref (b0 + 1), .ref (b0 + 2), .ref (b0 + 3), .ref (b0 + 4), .ref (b0 + 5), .ref (b0 + 6), .int 0, .ref (b0 + 7), .ref (b0 + 8), .int 0, .ref (b0 + 9), .int 0, .int 0, .int 0, .int 0, .long 0, .int (-1), .int 0, .int 0, .int 0, .ref (b0 + 10), .int 0, .ref (b0 + 11), .ref (b0 + 12), .int 0, .ref (b0 + 13), .ref (b0 + 14), .int 0, .int 0, .ref (b0 + 15), .ref (b0 + 16), .ref (b0 + 17), .int 0, .ref (b0 + 18), .ref (b0 + 19), .ref (b0 + 20), .int 0, .long 0, .long 0, .ref (b0 + 21), .ref (b0 + 22), .ref (b0 + 23), .null, .int 0, .null, .int 0, .null, .null, .null, .null, .null, .int 0, .int 0, .null, .null, .null, .null, .null, .null, .null, .int 0, .int 0, .int 0, .int 0, .long 0, .null, .int 0] := by
  unfold mf_24
  rw [mfe_23]
  rfl
theorem mfe_25 {b0 : Nat} : mf_25 b0 = [.int 0, .int 0, .ref (b0 + 1), .ref (b0 + 2), .ref (b0 + 3), .ref (b0 + 4), .ref (b0 + 5), .ref (b0 + 6), .int 0, .ref (b0 + 7), .ref (b0 + 8), .int 0, .ref (b0 + 9), .int 0, .int 0, .int 0, .int 0, .long 0, .int (-1), .int 0, .int 0, .int 0, .ref (b0 + 10), .int 0, .ref (b0 + 11), .ref (b0 + 12), .int 0, .ref (b0 + 13), .ref (b0 + 14), .int 0, .int 0, .ref (b0 + 15), .ref (b0 + 16), .ref (b0 + 17), .int 0, .ref (b0 + 18), .ref (b0 + 19), .ref (b0 + 20), .int 0, .long 0, .long 0, .ref (b0 + 21), .ref (b0 + 22), .ref (b0 + 23), .ref (b0 + 24), .int 0, .null, .int 0, .null, .null, .null, .null, .null, .int 0, .int 0, .null, .null, .null, .null, .null, .null, .null, .int 0, .int 0, .int 0, .int 0, .long 0, .null, .int 0] := by
  unfold mf_25
  rw [mfe_24]
  rfl
theorem mfe_26 {b0 : Nat} : mf_26 b0 = [.int 0, .int 0, .ref (b0 + 1), .ref (b0 + 2), .ref (b0 + 3), .ref (b0 + 4), .ref (b0 + 5), .ref (b0 + 6), .int 0, .ref (b0 + 7), .ref (b0 + 8), .int 0, .ref (b0 + 9), .int 0, .int 0, .int 0, .int 0, .long 0, .int (-1), .int 0, .int 0, .int 0, .ref (b0 + 10), .int 0, .ref (b0 + 11), .ref (b0 + 12), .int 0, .ref (b0 + 13), .ref (b0 + 14), .int 0, .int 0, .ref (b0 + 15), .ref (b0 + 16), .ref (b0 + 17), .int 0, .ref (b0 + 18), .ref (b0 + 19), .ref (b0 + 20), .int 0, .long 0, .long 0, .ref (b0 + 21), .ref (b0 + 22), .ref (b0 + 23), .ref (b0 + 24), .int 0, .ref (b0 + 25), .int 0, .null, .null, .null, .null, .null, .int 0, .int 0, .null, .null, .null, .null, .null, .null, .null, .int 0, .int 0, .int 0, .int 0, .long 0, .null, .int 0] := by
  unfold mf_26
  rw [mfe_25]
  rfl
theorem mfe_27 {b0 : Nat} : mf_27 b0 = [.int 0, .int 0, .ref (b0 + 1), .ref (b0 + 2), .ref (b0 + 3), .ref (b0 + 4), .ref (b0 + 5), .ref (b0 + 6), .int 0, .ref (b0 + 7), .ref (b0 + 8), .int 0, .ref (b0 + 9), .int 0, .int 0, .int 0, .int 0, .long 0, .int (-1), .int 0, .int 0, .int 0, .ref (b0 + 10), .int 0, .ref (b0 + 11), .ref (b0 + 12), .int 0, .ref (b0 + 13), .ref (b0 + 14), .int 0, .int 0, .ref (b0 + 15), .ref (b0 + 16), .ref (b0 + 17), .int 0, .ref (b0 + 18), .ref (b0 + 19), .ref (b0 + 20), .int 0, .long 0, .long 0, .ref (b0 + 21), .ref (b0 + 22), .ref (b0 + 23), .ref (b0 + 24), .int 0, .ref (b0 + 25), .int 0, .ref (b0 + 26), .null, .null, .null, .null, .int 0, .int 0, .null, .null, .null, .null, .null, .null, .null, .int 0, .int 0, .int 0, .int 0, .long 0, .null, .int 0] := by
  unfold mf_27
  rw [mfe_26]
  rfl
theorem mfe_28 {b0 : Nat} : mf_28 b0 = [.int 0, .int 0, .ref (b0 + 1), .ref (b0 + 2), .ref (b0 + 3), .ref (b0 + 4), .ref (b0 + 5), .ref (b0 + 6), .int 0, .ref (b0 + 7), .ref (b0 + 8), .int 0, .ref (b0 + 9), .int 0, .int 0, .int 0, .int 0, .long 0, .int (-1), .int 0, .int 0, .int 0, .ref (b0 + 10), .int 0, .ref (b0 + 11), .ref (b0 + 12), .int 0, .ref (b0 + 13), .ref (b0 + 14), .int 0, .int 0, .ref (b0 + 15), .ref (b0 + 16), .ref (b0 + 17), .int 0, .ref (b0 + 18), .ref (b0 + 19), .ref (b0 + 20), .int 0, .long 0, .long 0, .ref (b0 + 21), .ref (b0 + 22), .ref (b0 + 23), .ref (b0 + 24), .int 0, .ref (b0 + 25), .int 0, .ref (b0 + 26), .ref (b0 + 27), .null, .null, .null, .int 0, .int 0, .null, .null, .null, .null, .null, .null, .null, .int 0, .int 0, .int 0, .int 0, .long 0, .null, .int 0] := by
  unfold mf_28
  rw [mfe_27]
  rfl
theorem mfe_29 {b0 : Nat} : mf_29 b0 = [.int 0, .int 0, .ref (b0 + 1), .ref (b0 + 2), .ref (b0 + 3), .ref (b0 + 4), .ref (b0 + 5), .ref (b0 + 6), .int 0, .ref (b0 + 7), .ref (b0 + 8), .int 0, .ref (b0 + 9), .int 0, .int 0, .int 0, .int 0, .long 0, .int (-1), .int 0, .int 0, .int 0, .ref (b0 + 10), .int 0, .ref (b0 + 11), .ref (b0 + 12), .int 0, .ref (b0 + 13), .ref (b0 + 14), .int 0, .int 0, .ref (b0 + 15), .ref (b0 + 16), .ref (b0 + 17), .int 0, .ref (b0 + 18), .ref (b0 + 19), .ref (b0 + 20), .int 0, .long 0, .long 0, .ref (b0 + 21), .ref (b0 + 22), .ref (b0 + 23), .ref (b0 + 24), .int 0, .ref (b0 + 25), .int 0, .ref (b0 + 26), .ref (b0 + 27), .ref (b0 + 28), .null, .null, .int 0, .int 0, .null, .null, .null, .null, .null, .null, .null, .int 0, .int 0, .int 0, .int 0, .long 0, .null, .int 0] := by
  unfold mf_29
  rw [mfe_28]
  rfl
theorem mfe_30 {b0 : Nat} : mf_30 b0 = [.int 0, .int 0, .ref (b0 + 1), .ref (b0 + 2), .ref (b0 + 3), .ref (b0 + 4), .ref (b0 + 5), .ref (b0 + 6), .int 0, .ref (b0 + 7), .ref (b0 + 8), .int 0, .ref (b0 + 9), .int 0, .int 0, .int 0, .int 0, .long 0, .int (-1), .int 0, .int 0, .int 0, .ref (b0 + 10), .int 0, .ref (b0 + 11), .ref (b0 + 12), .int 0, .ref (b0 + 13), .ref (b0 + 14), .int 0, .int 0, .ref (b0 + 15), .ref (b0 + 16), .ref (b0 + 17), .int 0, .ref (b0 + 18), .ref (b0 + 19), .ref (b0 + 20), .int 0, .long 0, .long 0, .ref (b0 + 21), .ref (b0 + 22), .ref (b0 + 23), .ref (b0 + 24), .int 0, .ref (b0 + 25), .int 0, .ref (b0 + 26), .ref (b0 + 27), .ref (b0 + 28), .ref (b0 + 29), .null, .int 0, .int 0, .null, .null, .null, .null, .null, .null, .null, .int 0, .int 0, .int 0, .int 0, .long 0, .null, .int 0] := by
  unfold mf_30
  rw [mfe_29]
  rfl
theorem mfe_31 {b0 : Nat} : mf_31 b0 = [.int 0, .int 0, .ref (b0 + 1), .ref (b0 + 2), .ref (b0 + 3), .ref (b0 + 4), .ref (b0 + 5), .ref (b0 + 6), .int 0, .ref (b0 + 7), .ref (b0 + 8), .int 0, .ref (b0 + 9), .int 0, .int 0, .int 0, .int 0, .long 0, .int (-1), .int 0, .int 0, .int 0, .ref (b0 + 10), .int 0, .ref (b0 + 11), .ref (b0 + 12), .int 0, .ref (b0 + 13), .ref (b0 + 14), .int 0, .int 0, .ref (b0 + 15), .ref (b0 + 16), .ref (b0 + 17), .int 0, .ref (b0 + 18), .ref (b0 + 19), .ref (b0 + 20), .int 0, .long 0, .long 0, .ref (b0 + 21), .ref (b0 + 22), .ref (b0 + 23), .ref (b0 + 24), .int 0, .ref (b0 + 25), .int 0, .ref (b0 + 26), .ref (b0 + 27), .ref (b0 + 28), .ref (b0 + 29), .ref (b0 + 30), .int 0, .int 0, .null, .null, .null, .null, .null, .null, .null, .int 0, .int 0, .int 0, .int 0, .long 0, .null, .int 0] := by
  unfold mf_31
  rw [mfe_30]
  rfl
theorem mfe_32 {b0 : Nat} : mf_32 b0 = [.int 0, .int 0, .ref (b0 + 1), .ref (b0 + 2), .ref (b0 + 3), .ref (b0 + 4), .ref (b0 + 5), .ref (b0 + 6), .int 0, .ref (b0 + 7), .ref (b0 + 8), .int 0, .ref (b0 + 9), .int 0, .int 0, .int 0, .int 0, .long 0, .int (-1), .int 0, .int 0, .int 0, .ref (b0 + 10), .int 0, .ref (b0 + 11), .ref (b0 + 12), .int 0, .ref (b0 + 13), .ref (b0 + 14), .int 0, .int 0, .ref (b0 + 15), .ref (b0 + 16), .ref (b0 + 17), .int 0, .ref (b0 + 18), .ref (b0 + 19), .ref (b0 + 20), .int 0, .long 0, .long 0, .ref (b0 + 21), .ref (b0 + 22), .ref (b0 + 23), .ref (b0 + 24), .int 0, .ref (b0 + 25), .int 0, .ref (b0 + 26), .ref (b0 + 27), .ref (b0 + 28), .ref (b0 + 29), .ref (b0 + 30), .int 0, .int 0, .ref (b0 + 31), .null, .null, .null, .null, .null, .null, .int 0, .int 0, .int 0, .int 0, .long 0, .null, .int 0] := by
  unfold mf_32
  rw [mfe_31]
  rfl
theorem mfe_33 {b0 : Nat} : mf_33 b0 = [.int 0, .int 0, .ref (b0 + 1), .ref (b0 + 2), .ref (b0 + 3), .ref (b0 + 4), .ref (b0 + 5), .ref (b0 + 6), .int 0, .ref (b0 + 7), .ref (b0 + 8), .int 0, .ref (b0 + 9), .int 0, .int 0, .int 0, .int 0, .long 0, .int (-1), .int 0, .int 0, .int 0, .ref (b0 + 10), .int 0, .ref (b0 + 11), .ref (b0 + 12), .int 0, .ref (b0 + 13), .ref (b0 + 14), .int 0, .int 0, .ref (b0 + 15), .ref (b0 + 16), .ref (b0 + 17), .int 0, .ref (b0 + 18), .ref (b0 + 19), .ref (b0 + 20), .int 0, .long 0, .long 0, .ref (b0 + 21), .ref (b0 + 22), .ref (b0 + 23), .ref (b0 + 24), .int 0, .ref (b0 + 25), .int 0, .ref (b0 + 26), .ref (b0 + 27), .ref (b0 + 28), .ref (b0 + 29), .ref (b0 + 30), .int 0, .int 0, .ref (b0 + 31), .ref (b0 + 32), .null, .null, .null, .null, .null, .int 0, .int 0, .int 0, .int 0, .long 0, .null, .int 0] := by
  unfold mf_33
  rw [mfe_32]
  rfl
theorem mfe_34 {b0 : Nat} : mf_34 b0 = [.int 0, .int 0, .ref (b0 + 1), .ref (b0 + 2), .ref (b0 + 3), .ref (b0 + 4), .ref (b0 + 5), .ref (b0 + 6), .int 0, .ref (b0 + 7), .ref (b0 + 8), .int 0, .ref (b0 + 9), .int 0, .int 0, .int 0, .int 0, .long 0, .int (-1), .int 0, .int 0, .int 0, .ref (b0 + 10), .int 0, .ref (b0 + 11), .ref (b0 + 12), .int 0, .ref (b0 + 13), .ref (b0 + 14), .int 0, .int 0, .ref (b0 + 15), .ref (b0 + 16), .ref (b0 + 17), .int 0, .ref (b0 + 18), .ref (b0 + 19), .ref (b0 + 20), .int 0, .long 0, .long 0, .ref (b0 + 21), .ref (b0 + 22), .ref (b0 + 23), .ref (b0 + 24), .int 0, .ref (b0 + 25), .int 0, .ref (b0 + 26), .ref (b0 + 27), .ref (b0 + 28), .ref (b0 + 29), .ref (b0 + 30), .int 0, .int 0, .ref (b0 + 31), .ref (b0 + 32), .ref (b0 + 33), .null, .null, .null, .null, .int 0, .int 0, .int 0, .int 0, .long 0, .null, .int 0] := by
  unfold mf_34
  rw [mfe_33]
  rfl
theorem mfe_35 {b0 : Nat} : mf_35 b0 = [.int 0, .int 0, .ref (b0 + 1), .ref (b0 + 2), .ref (b0 + 3), .ref (b0 + 4), .ref (b0 + 5), .ref (b0 + 6), .int 0, .ref (b0 + 7), .ref (b0 + 8), .int 0, .ref (b0 + 9), .int 0, .int 0, .int 0, .int 0, .long 0, .int (-1), .int 0, .int 0, .int 0, .ref (b0 + 10), .int 0, .ref (b0 + 11), .ref (b0 + 12), .int 0, .ref (b0 + 13), .ref (b0 + 14), .int 0, .int 0, .ref (b0 + 15), .ref (b0 + 16), .ref (b0 + 17), .int 0, .ref (b0 + 18), .ref (b0 + 19), .ref (b0 + 20), .int 0, .long 0, .long 0, .ref (b0 + 21), .ref (b0 + 22), .ref (b0 + 23), .ref (b0 + 24), .int 0, .ref (b0 + 25), .int 0, .ref (b0 + 26), .ref (b0 + 27), .ref (b0 + 28), .ref (b0 + 29), .ref (b0 + 30), .int 0, .int 0, .ref (b0 + 31), .ref (b0 + 32), .ref (b0 + 33), .ref (b0 + 34), .null, .null, .null, .int 0, .int 0, .int 0, .int 0, .long 0, .null, .int 0] := by
  unfold mf_35
  rw [mfe_34]
  rfl
theorem mfe_36 {b0 : Nat} : mf_36 b0 = [.int 0, .int 0, .ref (b0 + 1), .ref (b0 + 2), .ref (b0 + 3), .ref (b0 + 4), .ref (b0 + 5), .ref (b0 + 6), .int 0, .ref (b0 + 7), .ref (b0 + 8), .int 0, .ref (b0 + 9), .int 0, .int 0, .int 0, .int 0, .long 0, .int (-1), .int 0, .int 0, .int 0, .ref (b0 + 10), .int 0, .ref (b0 + 11), .ref (b0 + 12), .int 0, .ref (b0 + 13), .ref (b0 + 14), .int 0, .int 0, .ref (b0 + 15), .ref (b0 + 16), .ref (b0 + 17), .int 0, .ref (b0 + 18), .ref (b0 + 19), .ref (b0 + 20), .int 0, .long 0, .long 0, .ref (b0 + 21), .ref (b0 + 22), .ref (b0 + 23), .ref (b0 + 24), .int 0, .ref (b0 + 25), .int 0, .ref (b0 + 26), .ref (b0 + 27), .ref (b0 + 28), .ref (b0 + 29), .ref (b0 + 30), .int 0, .int 0, .ref (b0 + 31), .ref (b0 + 32), .ref (b0 + 33), .ref (b0 + 34), .ref (b0 + 35), .null, .null, .int 0, .int 0, .int 0, .int 0, .long 0, .null, .int 0] := by
  unfold mf_36
  rw [mfe_35]
  rfl
theorem mfe_37 {b0 : Nat} : mf_37 b0 = [.int 0, .int 0, .ref (b0 + 1), .ref (b0 + 2), .ref (b0 + 3), .ref (b0 + 4), .ref (b0 + 5), .ref (b0 + 6), .int 0, .ref (b0 + 7), .ref (b0 + 8), .int 0, .ref (b0 + 9), .int 0, .int 0, .int 0, .int 0, .long 0, .int (-1), .int 0, .int 0, .int 0, .ref (b0 + 10), .int 0, .ref (b0 + 11), .ref (b0 + 12), .int 0, .ref (b0 + 13), .ref (b0 + 14), .int 0, .int 0, .ref (b0 + 15), .ref (b0 + 16), .ref (b0 + 17), .int 0, .ref (b0 + 18), .ref (b0 + 19), .ref (b0 + 20), .int 0, .long 0, .long 0, .ref (b0 + 21), .ref (b0 + 22), .ref (b0 + 23), .ref (b0 + 24), .int 0, .ref (b0 + 25), .int 0, .ref (b0 + 26), .ref (b0 + 27), .ref (b0 + 28), .ref (b0 + 29), .ref (b0 + 30), .int 0, .int 0, .ref (b0 + 31), .ref (b0 + 32), .ref (b0 + 33), .ref (b0 + 34), .ref (b0 + 35), .ref (b0 + 36), .null, .int 0, .int 0, .int 0, .int 0, .long 0, .null, .int 0] := by
  unfold mf_37
  rw [mfe_36]
  rfl
theorem mfe_38 {b0 : Nat} : mf_38 b0 = [.int 0, .int 0, .ref (b0 + 1), .ref (b0 + 2), .ref (b0 + 3), .ref (b0 + 4), .ref (b0 + 5), .ref (b0 + 6), .int 0, .ref (b0 + 7), .ref (b0 + 8), .int 0, .ref (b0 + 9), .int 0, .int 0, .int 0, .int 0, .long 0, .int (-1), .int 0, .int 0, .int 0, .ref (b0 + 10), .int 0, .ref (b0 + 11), .ref (b0 + 12), .int 0, .ref (b0 + 13), .ref (b0 + 14), .int 0, .int 0, .ref (b0 + 15), .ref (b0 + 16), .ref (b0 + 17), .int 0, .ref (b0 + 18), .ref (b0 + 19), .ref (b0 + 20), .int 0, .long 0, .long 0, .ref (b0 + 21), .ref (b0 + 22), .ref (b0 + 23), .ref (b0 + 24), .int 0, .ref (b0 + 25), .int 0, .ref (b0 + 26), .ref (b0 + 27), .ref (b0 + 28), .ref (b0 + 29), .ref (b0 + 30), .int 0, .int 0, .ref (b0 + 31), .ref (b0 + 32), .ref (b0 + 33), .ref (b0 + 34), .ref (b0 + 35), .ref (b0 + 36), .ref (b0 + 37), .int 0, .int 0, .int 0, .int 0, .long 0, .null, .int 0] := by
  unfold mf_38
  rw [mfe_37]
  rfl
theorem mfe_39 {b0 : Nat} : mf_39 b0 = [.int 0, .int 0, .ref (b0 + 1), .ref (b0 + 2), .ref (b0 + 3), .ref (b0 + 4), .ref (b0 + 5), .ref (b0 + 6), .int 0, .ref (b0 + 7), .ref (b0 + 8), .int 0, .ref (b0 + 9), .int 0, .int 0, .int 0, .int 0, .long 0, .int (-1), .int 0, .int 0, .int 0, .ref (b0 + 10), .int 0, .ref (b0 + 11), .ref (b0 + 12), .int 0, .ref (b0 + 13), .ref (b0 + 14), .int 0, .int 0, .ref (b0 + 15), .ref (b0 + 16), .ref (b0 + 17), .int 0, .ref (b0 + 18), .ref (b0 + 19), .ref (b0 + 20), .int 0, .long 0, .long 0, .ref (b0 + 21), .ref (b0 + 22), .ref (b0 + 23), .ref (b0 + 24), .int 0, .ref (b0 + 25), .int 0, .ref (b0 + 26), .ref (b0 + 27), .ref (b0 + 28), .ref (b0 + 29), .ref (b0 + 30), .int 0, .int 0, .ref (b0 + 31), .ref (b0 + 32), .ref (b0 + 33), .ref (b0 + 34), .ref (b0 + 35), .ref (b0 + 36), .ref (b0 + 37), .int 0, .int 0, .int (-1), .int 0, .long 0, .null, .int 0] := by
  unfold mf_39
  rw [mfe_38]
  rfl
theorem mfe_40 {b0 : Nat} : mf_40 b0 = [.int 0, .int 0, .ref (b0 + 1), .ref (b0 + 2), .ref (b0 + 3), .ref (b0 + 4), .ref (b0 + 5), .ref (b0 + 6), .int 0, .ref (b0 + 7), .ref (b0 + 8), .int 0, .ref (b0 + 9), .int 0, .int 0, .int 0, .int 0, .long 0, .int (-1), .int 0, .int 0, .int 0, .ref (b0 + 10), .int 0, .ref (b0 + 11), .ref (b0 + 12), .int 0, .ref (b0 + 13), .ref (b0 + 14), .int 0, .int 0, .ref (b0 + 15), .ref (b0 + 16), .ref (b0 + 17), .int 0, .ref (b0 + 18), .ref (b0 + 19), .ref (b0 + 20), .int 0, .long 0, .long 0, .ref (b0 + 21), .ref (b0 + 22), .ref (b0 + 23), .ref (b0 + 24), .int 0, .ref (b0 + 25), .int 0, .ref (b0 + 26), .ref (b0 + 27), .ref (b0 + 28), .ref (b0 + 29), .ref (b0 + 30), .int 0, .int 0, .ref (b0 + 31), .ref (b0 + 32), .ref (b0 + 33), .ref (b0 + 34), .ref (b0 + 35), .ref (b0 + 36), .ref (b0 + 37), .int 0, .int 0, .int (-1), .int 0, .long 0, .ref (b0 + 38), .int 0] := by
  unfold mf_40
  rw [mfe_39]
  rfl
theorem mfe_41 {b0 : Nat} : mf_41 b0 = [.int 0, .int 0, .ref (b0 + 1), .ref (b0 + 2), .ref (b0 + 3), .ref (b0 + 4), .ref (b0 + 5), .ref (b0 + 6), .int 0, .ref (b0 + 7), .ref (b0 + 8), .int 0, .ref (b0 + 9), .int 0, .int 0, .int 0, .int 0, .long 0, .int (-1), .int 0, .int 0, .int 0, .ref (b0 + 10), .int 0, .ref (b0 + 11), .ref (b0 + 12), .int 0, .ref (b0 + 13), .ref (b0 + 14), .int 0, .int 0, .ref (b0 + 15), .ref (b0 + 16), .ref (b0 + 17), .int 0, .ref (b0 + 18), .ref (b0 + 19), .ref (b0 + 20), .int 0, .long 0, .long 0, .ref (b0 + 21), .ref (b0 + 22), .ref (b0 + 23), .ref (b0 + 24), .int 0, .ref (b0 + 25), .int 0, .ref (b0 + 26), .ref (b0 + 27), .ref (b0 + 28), .ref (b0 + 29), .ref (b0 + 30), .int 0, .int 0, .ref (b0 + 31), .ref (b0 + 32), .ref (b0 + 33), .ref (b0 + 34), .ref (b0 + 35), .ref (b0 + 36), .ref (b0 + 37), .int 0, .int 0, .int (-1), .int 0, .long 0, .ref (b0 + 38), .int (-1)] := by
  unfold mf_41
  rw [mfe_40]
  rfl
theorem mf_row {b0 : Nat} : (mf_41 b0)[3]? = some (.ref (b0 + 2)) := by
  rw [mfe_41]
  rfl
theorem mcr_2 {E : EV} : (mc_2 E)[1]? = some (.inl (eC E 0, 5510, .inl (fun _ => 0))) := by
  unfold mc_2
  rw [List.getElem?_append_right (by rw [mcl_1]; exact Nat.le_refl _), mcl_1]
  rfl
theorem mcr_3 {E : EV} : (mc_3 E)[1]? = some (.inl (eC E 0, 5510, .inl (fun _ => 0))) := by
  unfold mc_3
  rw [List.getElem?_append_left (by rw [mcl_2]; exact Nat.le_of_ble_eq_true rfl)]
  exact mcr_2
theorem mcr_4 {E : EV} : (mc_4 E)[1]? = some (.inl (eC E 0, 5510, .inl (fun _ => 0))) := by
  unfold mc_4
  rw [List.getElem?_append_left (by rw [mcl_3]; exact Nat.le_of_ble_eq_true rfl)]
  exact mcr_3
theorem mcr_5 {E : EV} : (mc_5 E)[1]? = some (.inl (eC E 0, 5510, .inl (fun _ => 0))) := by
  unfold mc_5
  rw [List.getElem?_append_left (by rw [mcl_4]; exact Nat.le_of_ble_eq_true rfl)]
  exact mcr_4
theorem mcr_6 {E : EV} : (mc_6 E)[1]? = some (.inl (eC E 0, 5510, .inl (fun _ => 0))) := by
  unfold mc_6
  rw [List.getElem?_append_left (by rw [mcl_5]; exact Nat.le_of_ble_eq_true rfl)]
  exact mcr_5
theorem mcr_7 {E : EV} : (mc_7 E)[1]? = some (.inl (eC E 0, 5510, .inl (fun _ => 0))) := by
  unfold mc_7
  rw [List.getElem?_append_left (by rw [mcl_6]; exact Nat.le_of_ble_eq_true rfl)]
  exact mcr_6
theorem mcr_8 {E : EV} : (mc_8 E)[1]? = some (.inl (eC E 0, 5510, .inl (fun _ => 0))) := by
  unfold mc_8
  rw [List.getElem?_append_left (by rw [mcl_7]; exact Nat.le_of_ble_eq_true rfl)]
  exact mcr_7
theorem mcr_9 {E : EV} : (mc_9 E)[1]? = some (.inl (eC E 0, 5510, .inl (fun _ => 0))) := by
  unfold mc_9
  rw [List.getElem?_append_left (by rw [mcl_8]; exact Nat.le_of_ble_eq_true rfl)]
  exact mcr_8
theorem mcr_10 {E : EV} : (mc_10 E)[1]? = some (.inl (eC E 0, 5510, .inl (fun _ => 0))) := by
  unfold mc_10
  rw [List.getElem?_append_left (by rw [mcl_9]; exact Nat.le_of_ble_eq_true rfl)]
  exact mcr_9
theorem mcr_11 {E : EV} : (mc_11 E)[1]? = some (.inl (eC E 0, 5510, .inl (fun _ => 0))) := by
  unfold mc_11
  rw [List.getElem?_append_left (by rw [mcl_10]; exact Nat.le_of_ble_eq_true rfl)]
  exact mcr_10
theorem mcr_12 {E : EV} : (mc_12 E)[1]? = some (.inl (eC E 0, 5510, .inl (fun _ => 0))) := by
  unfold mc_12
  rw [List.getElem?_append_left (by rw [mcl_11]; exact Nat.le_of_ble_eq_true rfl)]
  exact mcr_11
theorem mcr_13 {E : EV} : (mc_13 E)[1]? = some (.inl (eC E 0, 5510, .inl (fun _ => 0))) := by
  unfold mc_13
  rw [List.getElem?_append_left (by rw [mcl_12]; exact Nat.le_of_ble_eq_true rfl)]
  exact mcr_12
theorem mcr_14 {E : EV} : (mc_14 E)[1]? = some (.inl (eC E 0, 5510, .inl (fun _ => 0))) := by
  unfold mc_14
  rw [List.getElem?_append_left (by rw [mcl_13]; exact Nat.le_of_ble_eq_true rfl)]
  exact mcr_13
theorem mcr_15 {E : EV} : (mc_15 E)[1]? = some (.inl (eC E 0, 5510, .inl (fun _ => 0))) := by
  unfold mc_15
  rw [List.getElem?_append_left (by rw [mcl_14]; exact Nat.le_of_ble_eq_true rfl)]
  exact mcr_14
theorem mcr_16 {E : EV} : (mc_16 E)[1]? = some (.inl (eC E 0, 5510, .inl (fun _ => 0))) := by
  unfold mc_16
  rw [List.getElem?_append_left (by rw [mcl_15]; exact Nat.le_of_ble_eq_true rfl)]
  exact mcr_15
theorem mcr_17 {E : EV} : (mc_17 E)[1]? = some (.inl (eC E 0, 5510, .inl (fun _ => 0))) := by
  unfold mc_17
  rw [List.getElem?_append_left (by rw [mcl_16]; exact Nat.le_of_ble_eq_true rfl)]
  exact mcr_16
theorem mcr_18 {E : EV} : (mc_18 E)[1]? = some (.inl (eC E 0, 5510, .inl (fun _ => 0))) := by
  unfold mc_18
  rw [List.getElem?_append_left (by rw [mcl_17]; exact Nat.le_of_ble_eq_true rfl)]
  exact mcr_17
theorem mcr_19 {E : EV} : (mc_19 E)[1]? = some (.inl (eC E 0, 5510, .inl (fun _ => 0))) := by
  unfold mc_19
  rw [List.getElem?_append_left (by rw [mcl_18]; exact Nat.le_of_ble_eq_true rfl)]
  exact mcr_18
theorem mcr_20 {E : EV} : (mc_20 E)[1]? = some (.inl (eC E 0, 5510, .inl (fun _ => 0))) := by
  unfold mc_20
  rw [List.getElem?_append_left (by rw [mcl_19]; exact Nat.le_of_ble_eq_true rfl)]
  exact mcr_19
theorem mcr_21 {E : EV} : (mc_21 E)[1]? = some (.inl (eC E 0, 5510, .inl (fun _ => 0))) := by
  unfold mc_21
  rw [List.getElem?_append_left (by rw [mcl_20]; exact Nat.le_of_ble_eq_true rfl)]
  exact mcr_20
theorem mcr_22 {E : EV} : (mc_22 E)[1]? = some (.inl (eC E 0, 5510, .inl (fun _ => 0))) := by
  unfold mc_22
  rw [List.getElem?_append_left (by rw [mcl_21]; exact Nat.le_of_ble_eq_true rfl)]
  exact mcr_21
theorem mcr_23 {E : EV} : (mc_23 E)[1]? = some (.inl (eC E 0, 5510, .inl (fun _ => 0))) := by
  unfold mc_23
  rw [List.getElem?_append_left (by rw [mcl_22]; exact Nat.le_of_ble_eq_true rfl)]
  exact mcr_22
theorem mcr_24 {E : EV} : (mc_24 E)[1]? = some (.inl (eC E 0, 5510, .inl (fun _ => 0))) := by
  unfold mc_24
  rw [List.getElem?_append_left (by rw [mcl_23]; exact Nat.le_of_ble_eq_true rfl)]
  exact mcr_23
theorem mcr_25 {E : EV} : (mc_25 E)[1]? = some (.inl (eC E 0, 5510, .inl (fun _ => 0))) := by
  unfold mc_25
  rw [List.getElem?_append_left (by rw [mcl_24]; exact Nat.le_of_ble_eq_true rfl)]
  exact mcr_24
theorem mcr_26 {E : EV} : (mc_26 E)[1]? = some (.inl (eC E 0, 5510, .inl (fun _ => 0))) := by
  unfold mc_26
  rw [List.getElem?_append_left (by rw [mcl_25]; exact Nat.le_of_ble_eq_true rfl)]
  exact mcr_25
theorem mcr_27 {E : EV} : (mc_27 E)[1]? = some (.inl (eC E 0, 5510, .inl (fun _ => 0))) := by
  unfold mc_27
  rw [List.getElem?_append_left (by rw [mcl_26]; exact Nat.le_of_ble_eq_true rfl)]
  exact mcr_26
theorem mcr_28 {E : EV} : (mc_28 E)[1]? = some (.inl (eC E 0, 5510, .inl (fun _ => 0))) := by
  unfold mc_28
  rw [List.getElem?_append_left (by rw [mcl_27]; exact Nat.le_of_ble_eq_true rfl)]
  exact mcr_27
theorem mcr_29 {E : EV} : (mc_29 E)[1]? = some (.inl (eC E 0, 5510, .inl (fun _ => 0))) := by
  unfold mc_29
  rw [List.getElem?_append_left (by rw [mcl_28]; exact Nat.le_of_ble_eq_true rfl)]
  exact mcr_28
theorem mcr_30 {E : EV} : (mc_30 E)[1]? = some (.inl (eC E 0, 5510, .inl (fun _ => 0))) := by
  unfold mc_30
  rw [List.getElem?_append_left (by rw [mcl_29]; exact Nat.le_of_ble_eq_true rfl)]
  exact mcr_29
theorem mcr_31 {E : EV} : (mc_31 E)[1]? = some (.inl (eC E 0, 5510, .inl (fun _ => 0))) := by
  unfold mc_31
  rw [List.getElem?_append_left (by rw [mcl_30]; exact Nat.le_of_ble_eq_true rfl)]
  exact mcr_30
theorem mcr_32 {E : EV} : (mc_32 E)[1]? = some (.inl (eC E 0, 5510, .inl (fun _ => 0))) := by
  unfold mc_32
  rw [List.getElem?_append_left (by rw [mcl_31]; exact Nat.le_of_ble_eq_true rfl)]
  exact mcr_31
theorem mcr_33 {E : EV} : (mc_33 E)[1]? = some (.inl (eC E 0, 5510, .inl (fun _ => 0))) := by
  unfold mc_33
  rw [List.getElem?_append_left (by rw [mcl_32]; exact Nat.le_of_ble_eq_true rfl)]
  exact mcr_32
theorem mcr_34 {E : EV} : (mc_34 E)[1]? = some (.inl (eC E 0, 5510, .inl (fun _ => 0))) := by
  unfold mc_34
  rw [List.getElem?_append_left (by rw [mcl_33]; exact Nat.le_of_ble_eq_true rfl)]
  exact mcr_33
theorem mcr_35 {E : EV} : (mc_35 E)[1]? = some (.inl (eC E 0, 5510, .inl (fun _ => 0))) := by
  unfold mc_35
  rw [List.getElem?_append_left (by rw [mcl_34]; exact Nat.le_of_ble_eq_true rfl)]
  exact mcr_34
theorem mcr_36 {E : EV} : (mc_36 E)[1]? = some (.inl (eC E 0, 5510, .inl (fun _ => 0))) := by
  unfold mc_36
  rw [List.getElem?_append_left (by rw [mcl_35]; exact Nat.le_of_ble_eq_true rfl)]
  exact mcr_35
theorem mcr_37 {E : EV} : (mc_37 E)[1]? = some (.inl (eC E 0, 5510, .inl (fun _ => 0))) := by
  unfold mc_37
  rw [List.getElem?_append_left (by rw [mcl_36]; exact Nat.le_of_ble_eq_true rfl)]
  exact mcr_36
theorem mcr_38 {E : EV} : (mc_38 E)[1]? = some (.inl (eC E 0, 5510, .inl (fun _ => 0))) := by
  unfold mc_38
  rw [List.getElem?_append_left (by rw [mcl_37]; exact Nat.le_of_ble_eq_true rfl)]
  exact mcr_37
theorem mc_row {E : EV} : (mc_38 E)[1]? = some (.inl (eC E 0, 5510, .inl (fun _ => 0))) := mcr_38
def mcA (E : EV) : List va_E := (mc_38 E).set 1 (.inl (eC E 0, 5510, .inl (upd (fun _ => 0) 4 (-1))))
theorem mcA_row {E : EV} : (mcA E)[1]? = some (.inl (eC E 0, 5510, .inl (upd (fun _ => 0) 4 (-1)))) := by unfold mcA; rw [List.getElem?_set_self (by rw [mcl_38]; exact Nat.le_of_ble_eq_true rfl)]
def mcB (E : EV) : List va_E := (mcA E).set 1 (.inl (eC E 0, 5510, .inl (upd (upd (fun _ => 0) 4 (-1)) 7 (nI 1))))
theorem mcA_d {E : EV} {e0 : va_E} : (e0 :: mc_38 E).set 2 (.inl (eC E 0, 5510, .inl (upd (fun _ => 0) 4 (-1)))) = e0 :: mcA E := by unfold mcA; rw [List.set_cons_succ]
theorem mcB_d {E : EV} {e0 : va_E} : (e0 :: mcA E).set 2 (.inl (eC E 0, 5510, .inl (upd (upd (fun _ => 0) 4 (-1)) 7 (nI 1)))) = e0 :: mcB E := by unfold mcB; rw [List.set_cons_succ]
def blk_M (E : EV) (b0 : Nat) : List va_E := .inr (12, mf_41 b0) :: mcB E
set_option maxHeartbeats 4000000 in
set_option maxRecDepth 100000 in
theorem c_Mk {E : EV} {b0 : Nat} : KT E m_M_init 1 38 23232 b0 [.ref 0] [.inr (12, dfl_M)] (blk_M E b0) := by
  refine KT_of (L := [.ref 0]) cf_M_init rfl rfl rfl (Nat.le_of_ble_eq_true rfl) (fun X hX hF hin => ?_)
  have hcc := hF.1.2.2.1
  have hss := hF.1.2.2.2
  refine z_eq (cs2 := .inr (12, mf_0 b0) :: mc_0 E) rfl ?_
  refine z_aload0 hX d_M_init_0 ?_
  refine z_objI hX hF.1 d_M_init_1 zo_M (by omega) (Nat.le_of_ble_eq_true rfl) ?_
  refine z_aload0 hX d_M_init_4 ?_
  refine z_bipush (v := nI 7) hX d_M_init_5 rfl ?_
  refine z_newI (n := 1) (N := 7) hX d_M_init_7 rfl (Nat.le_of_ble_eq_true rfl) (len_c mcl_0) (Nat.le_of_ble_eq_true rfl) (by omega) (by omega) ?_
  refine z_snoc mcd_1 ?_
  refine z_putF (v2 := .ref (b0 + 1)) hX hin d_M_init_9 fl_M_7 cd_M rfl rfl rfl (by rw [mfl_0]; exact Nat.le_of_ble_eq_true rfl) ?_
  refine z_hd mfd_1 ?_
  refine z_aload0 hX d_M_init_12 ?_
  refine z_sipush (v := nI 5510) hX d_M_init_13 rfl ?_
  refine z_newI (n := 2) (N := 5510) hX d_M_init_16 rfl (Nat.le_of_ble_eq_true rfl) (len_c mcl_1) (Nat.le_of_ble_eq_true rfl) (by omega) (by omega) ?_
  refine z_snoc mcd_2 ?_
  refine z_putF (v2 := .ref (b0 + 2)) hX hin d_M_init_18 fl_M_13 cd_M rfl rfl rfl (by rw [mfl_1]; exact Nat.le_of_ble_eq_true rfl) ?_
  refine z_hd mfd_2 ?_
  refine z_aload0 hX d_M_init_21 ?_
  refine z_sipush (v := nI 11020) hX d_M_init_22 rfl ?_
  refine z_newI (n := 3) (N := 11020) hX d_M_init_25 rfl (Nat.le_of_ble_eq_true rfl) (len_c mcl_2) (Nat.le_of_ble_eq_true rfl) (by omega) (by omega) ?_
  refine z_snoc mcd_3 ?_
  refine z_putF (v2 := .ref (b0 + 3)) hX hin d_M_init_27 fl_M_16 cd_M rfl rfl rfl (by rw [mfl_2]; exact Nat.le_of_ble_eq_true rfl) ?_
  refine z_hd mfd_3 ?_
  refine z_aload0 hX d_M_init_30 ?_
  refine z_iconst (v := nI 2) hX d_M_init_31 rfl ?_
  refine z_newZ (n := 4) (N := 2) hX d_M_init_32 rfl (Nat.le_of_ble_eq_true rfl) (len_c mcl_3) (Nat.le_of_ble_eq_true rfl) (by omega) (by omega) ?_
  refine z_snoc mcd_4 ?_
  refine z_putF (v2 := .ref (b0 + 4)) hX hin d_M_init_34 fl_M_19 cd_M rfl rfl rfl (by rw [mfl_3]; exact Nat.le_of_ble_eq_true rfl) ?_
  refine z_hd mfd_4 ?_
  refine z_aload0 hX d_M_init_37 ?_
  refine z_sipush (v := nI 1656) hX d_M_init_38 rfl ?_
  refine z_newI (n := 5) (N := 1656) hX d_M_init_41 rfl (Nat.le_of_ble_eq_true rfl) (len_c mcl_4) (Nat.le_of_ble_eq_true rfl) (by omega) (by omega) ?_
  refine z_snoc mcd_5 ?_
  refine z_putF (v2 := .ref (b0 + 5)) hX hin d_M_init_43 fl_M_23 cd_M rfl rfl rfl (by rw [mfl_4]; exact Nat.le_of_ble_eq_true rfl) ?_
  refine z_hd mfd_5 ?_
  refine z_aload0 hX d_M_init_46 ?_
  refine z_bipush (v := nI 16) hX d_M_init_47 rfl ?_
  refine z_newI (n := 6) (N := 16) hX d_M_init_49 rfl (Nat.le_of_ble_eq_true rfl) (len_c mcl_5) (Nat.le_of_ble_eq_true rfl) (by omega) (by omega) ?_
  refine z_snoc mcd_6 ?_
  refine z_putF (v2 := .ref (b0 + 6)) hX hin d_M_init_51 fl_M_26 cd_M rfl rfl rfl (by rw [mfl_5]; exact Nat.le_of_ble_eq_true rfl) ?_
  refine z_hd mfd_6 ?_
  refine z_aload0 hX d_M_init_54 ?_
  refine z_sipush (v := nI 1472) hX d_M_init_55 rfl ?_
  refine z_newI (n := 7) (N := 1472) hX d_M_init_58 rfl (Nat.le_of_ble_eq_true rfl) (len_c mcl_6) (Nat.le_of_ble_eq_true rfl) (by omega) (by omega) ?_
  refine z_snoc mcd_7 ?_
  refine z_putF (v2 := .ref (b0 + 7)) hX hin d_M_init_60 fl_M_29 cd_M rfl rfl rfl (by rw [mfl_6]; exact Nat.le_of_ble_eq_true rfl) ?_
  refine z_hd mfd_7 ?_
  refine z_aload0 hX d_M_init_63 ?_
  refine z_bipush (v := nI 16) hX d_M_init_64 rfl ?_
  refine z_newI (n := 8) (N := 16) hX d_M_init_66 rfl (Nat.le_of_ble_eq_true rfl) (len_c mcl_7) (Nat.le_of_ble_eq_true rfl) (by omega) (by omega) ?_
  refine z_snoc mcd_8 ?_
  refine z_putF (v2 := .ref (b0 + 8)) hX hin d_M_init_68 fl_M_32 cd_M rfl rfl rfl (by rw [mfl_7]; exact Nat.le_of_ble_eq_true rfl) ?_
  refine z_hd mfd_8 ?_
  refine z_aload0 hX d_M_init_71 ?_
  refine z_sipush (v := nI 400) hX d_M_init_72 rfl ?_
  refine z_newI (n := 9) (N := 400) hX d_M_init_75 rfl (Nat.le_of_ble_eq_true rfl) (len_c mcl_8) (Nat.le_of_ble_eq_true rfl) (by omega) (by omega) ?_
  refine z_snoc mcd_9 ?_
  refine z_putF (v2 := .ref (b0 + 9)) hX hin d_M_init_77 fl_M_35 cd_M rfl rfl rfl (by rw [mfl_8]; exact Nat.le_of_ble_eq_true rfl) ?_
  refine z_hd mfd_9 ?_
  refine z_aload0 hX d_M_init_80 ?_
  refine z_iconst (v := -1) hX d_M_init_81 rfl ?_
  refine z_put (v2 := .int (-1)) hX d_M_init_82 fl_M_38 rfl rfl rfl (by rw [mfl_9]; exact Nat.le_of_ble_eq_true rfl) ?_
  refine z_hd mfd_10 ?_
  refine z_aload0 hX d_M_init_85 ?_
  refine z_bipush (v := nI 96) hX d_M_init_86 rfl ?_
  refine z_newI (n := 10) (N := 96) hX d_M_init_88 rfl (Nat.le_of_ble_eq_true rfl) (len_c mcl_9) (Nat.le_of_ble_eq_true rfl) (by omega) (by omega) ?_
  refine z_snoc mcd_10 ?_
  refine z_putF (v2 := .ref (b0 + 10)) hX hin d_M_init_90 fl_M_42 cd_M rfl rfl rfl (by rw [mfl_10]; exact Nat.le_of_ble_eq_true rfl) ?_
  refine z_hd mfd_11 ?_
  refine z_aload0 hX d_M_init_93 ?_
  refine z_sipush (v := nI 400) hX d_M_init_94 rfl ?_
  refine z_newI (n := 11) (N := 400) hX d_M_init_97 rfl (Nat.le_of_ble_eq_true rfl) (len_c mcl_10) (Nat.le_of_ble_eq_true rfl) (by omega) (by omega) ?_
  refine z_snoc mcd_11 ?_
  refine z_putF (v2 := .ref (b0 + 11)) hX hin d_M_init_99 fl_M_45 cd_M rfl rfl rfl (by rw [mfl_11]; exact Nat.le_of_ble_eq_true rfl) ?_
  refine z_hd mfd_12 ?_
  refine z_aload0 hX d_M_init_102 ?_
  refine z_sipush (v := nI 400) hX d_M_init_103 rfl ?_
  refine z_newI (n := 12) (N := 400) hX d_M_init_106 rfl (Nat.le_of_ble_eq_true rfl) (len_c mcl_11) (Nat.le_of_ble_eq_true rfl) (by omega) (by omega) ?_
  refine z_snoc mcd_12 ?_
  refine z_putF (v2 := .ref (b0 + 12)) hX hin d_M_init_108 fl_M_48 cd_M rfl rfl rfl (by rw [mfl_12]; exact Nat.le_of_ble_eq_true rfl) ?_
  refine z_hd mfd_13 ?_
  refine z_aload0 hX d_M_init_111 ?_
  refine z_sipush (v := nI 400) hX d_M_init_112 rfl ?_
  refine z_newI (n := 13) (N := 400) hX d_M_init_115 rfl (Nat.le_of_ble_eq_true rfl) (len_c mcl_12) (Nat.le_of_ble_eq_true rfl) (by omega) (by omega) ?_
  refine z_snoc mcd_13 ?_
  refine z_putF (v2 := .ref (b0 + 13)) hX hin d_M_init_117 fl_M_51 cd_M rfl rfl rfl (by rw [mfl_13]; exact Nat.le_of_ble_eq_true rfl) ?_
  refine z_hd mfd_14 ?_
  refine z_aload0 hX d_M_init_120 ?_
  refine z_sipush (v := nI 400) hX d_M_init_121 rfl ?_
  refine z_newI (n := 14) (N := 400) hX d_M_init_124 rfl (Nat.le_of_ble_eq_true rfl) (len_c mcl_13) (Nat.le_of_ble_eq_true rfl) (by omega) (by omega) ?_
  refine z_snoc mcd_14 ?_
  refine z_putF (v2 := .ref (b0 + 14)) hX hin d_M_init_126 fl_M_54 cd_M rfl rfl rfl (by rw [mfl_14]; exact Nat.le_of_ble_eq_true rfl) ?_
  refine z_hd mfd_15 ?_
  refine z_aload0 hX d_M_init_129 ?_
  refine z_bipush (v := nI 7) hX d_M_init_130 rfl ?_
  refine z_newJ (n := 15) (N := 7) hX d_M_init_132 rfl (Nat.le_of_ble_eq_true rfl) (len_c mcl_14) (Nat.le_of_ble_eq_true rfl) (by omega) (by omega) ?_
  refine z_snoc rfl ?_
  refine z_dup hX d_M_init_134 rfl ?_
  refine z_iconst (v := nI 0) hX d_M_init_135 rfl ?_
  refine z_ldc2 (v := 744050872) hX d_M_init_136 k_M_57 rfl ?_
  refine z_lastL (n := 14) (N := 7) (j := 0) (f := fun _ => 0) hX d_M_init_139 mcl_14 rfl (Nat.le_of_ble_eq_true rfl) rfl (Nat.le_of_ble_eq_true rfl) (Nat.le_of_ble_eq_true rfl) ?_
  refine z_dup hX d_M_init_140 rfl ?_
  refine z_iconst (v := nI 1) hX d_M_init_141 rfl ?_
  refine z_ldc2 (v := 474245) hX d_M_init_142 k_M_59 rfl ?_
  refine z_lastL (n := 14) (N := 7) (j := 1) (f := vp_updL (fun _ => 0) 0 744050872) hX d_M_init_145 mcl_14 rfl (Nat.le_of_ble_eq_true rfl) rfl (Nat.le_of_ble_eq_true rfl) (Nat.le_of_ble_eq_true rfl) ?_
  refine z_dup hX d_M_init_146 rfl ?_
  refine z_iconst (v := nI 2) hX d_M_init_147 rfl ?_
  refine z_ldc2 (v := 116801202) hX d_M_init_148 k_M_61 rfl ?_
  refine z_lastL (n := 14) (N := 7) (j := 2) (f := vp_updL (vp_updL (fun _ => 0) 0 744050872) 1 474245) hX d_M_init_151 mcl_14 rfl (Nat.le_of_ble_eq_true rfl) rfl (Nat.le_of_ble_eq_true rfl) (Nat.le_of_ble_eq_true rfl) ?_
  refine z_dup hX d_M_init_152 rfl ?_
  refine z_iconst (v := nI 3) hX d_M_init_153 rfl ?_
  refine z_ldc2 (v := 139708581) hX d_M_init_154 k_M_63 rfl ?_
  refine z_lastL (n := 14) (N := 7) (j := 3) (f := vp_updL (vp_updL (vp_updL (fun _ => 0) 0 744050872) 1 474245) 2 116801202) hX d_M_init_157 mcl_14 rfl (Nat.le_of_ble_eq_true rfl) rfl (Nat.le_of_ble_eq_true rfl) (Nat.le_of_ble_eq_true rfl) ?_
  refine z_dup hX d_M_init_158 rfl ?_
  refine z_iconst (v := nI 4) hX d_M_init_159 rfl ?_
  refine z_ldc2 (v := 12892531) hX d_M_init_160 k_M_65 rfl ?_
  refine z_lastL (n := 14) (N := 7) (j := 4) (f := vp_updL (vp_updL (vp_updL (vp_updL (fun _ => 0) 0 744050872) 1 474245) 2 116801202) 3 139708581) hX d_M_init_163 mcl_14 rfl (Nat.le_of_ble_eq_true rfl) rfl (Nat.le_of_ble_eq_true rfl) (Nat.le_of_ble_eq_true rfl) ?_
  refine z_dup hX d_M_init_164 rfl ?_
  refine z_iconst (v := nI 5) hX d_M_init_165 rfl ?_
  refine z_ldc2 (v := 664997) hX d_M_init_166 k_M_67 rfl ?_
  refine z_lastL (n := 14) (N := 7) (j := 5) (f := vp_updL (vp_updL (vp_updL (vp_updL (vp_updL (fun _ => 0) 0 744050872) 1 474245) 2 116801202) 3 139708581) 4 12892531) hX d_M_init_169 mcl_14 rfl (Nat.le_of_ble_eq_true rfl) rfl (Nat.le_of_ble_eq_true rfl) (Nat.le_of_ble_eq_true rfl) ?_
  refine z_dup hX d_M_init_170 rfl ?_
  refine z_bipush (v := nI 6) hX d_M_init_171 rfl ?_
  refine z_ldc2 (v := 441828) hX d_M_init_173 k_M_69 rfl ?_
  refine z_lastL (n := 14) (N := 7) (j := 6) (f := vp_updL (vp_updL (vp_updL (vp_updL (vp_updL (vp_updL (fun _ => 0) 0 744050872) 1 474245) 2 116801202) 3 139708581) 4 12892531) 5 664997) hX d_M_init_176 mcl_14 rfl (Nat.le_of_ble_eq_true rfl) rfl (Nat.le_of_ble_eq_true rfl) (Nat.le_of_ble_eq_true rfl) ?_
  refine z_tl mcd_15 ?_
  refine z_putF (v2 := .ref (b0 + 15)) hX hin d_M_init_177 fl_M_71 cd_M rfl rfl rfl (by rw [mfl_15]; exact Nat.le_of_ble_eq_true rfl) ?_
  refine z_hd mfd_16 ?_
  refine z_aload0 hX d_M_init_180 ?_
  refine z_bipush (v := nI 6) hX d_M_init_181 rfl ?_
  refine z_newJ (n := 16) (N := 6) hX d_M_init_183 rfl (Nat.le_of_ble_eq_true rfl) (len_c mcl_15) (Nat.le_of_ble_eq_true rfl) (by omega) (by omega) ?_
  refine z_snoc rfl ?_
  refine z_dup hX d_M_init_185 rfl ?_
  refine z_iconst (v := nI 0) hX d_M_init_186 rfl ?_
  refine z_ldc2 (v := 664997) hX d_M_init_187 k_M_67 rfl ?_
  refine z_lastL (n := 15) (N := 6) (j := 0) (f := fun _ => 0) hX d_M_init_190 mcl_15 rfl (Nat.le_of_ble_eq_true rfl) rfl (Nat.le_of_ble_eq_true rfl) (Nat.le_of_ble_eq_true rfl) ?_
  refine z_dup hX d_M_init_191 rfl ?_
  refine z_iconst (v := nI 1) hX d_M_init_192 rfl ?_
  refine z_ldc2 (v := 146885) hX d_M_init_193 k_M_75 rfl ?_
  refine z_lastL (n := 15) (N := 6) (j := 1) (f := vp_updL (fun _ => 0) 0 664997) hX d_M_init_196 mcl_15 rfl (Nat.le_of_ble_eq_true rfl) rfl (Nat.le_of_ble_eq_true rfl) (Nat.le_of_ble_eq_true rfl) ?_
  refine z_dup hX d_M_init_197 rfl ?_
  refine z_iconst (v := nI 2) hX d_M_init_198 rfl ?_
  refine z_ldc2 (v := 404362868) hX d_M_init_199 k_M_77 rfl ?_
  refine z_lastL (n := 15) (N := 6) (j := 2) (f := vp_updL (vp_updL (fun _ => 0) 0 664997) 1 146885) hX d_M_init_202 mcl_15 rfl (Nat.le_of_ble_eq_true rfl) rfl (Nat.le_of_ble_eq_true rfl) (Nat.le_of_ble_eq_true rfl) ?_
  refine z_dup hX d_M_init_203 rfl ?_
  refine z_iconst (v := nI 3) hX d_M_init_204 rfl ?_
  refine z_ldc2 (v := 5381299) hX d_M_init_205 k_M_79 rfl ?_
  refine z_lastL (n := 15) (N := 6) (j := 3) (f := vp_updL (vp_updL (vp_updL (fun _ => 0) 0 664997) 1 146885) 2 404362868) hX d_M_init_208 mcl_15 rfl (Nat.le_of_ble_eq_true rfl) rfl (Nat.le_of_ble_eq_true rfl) (Nat.le_of_ble_eq_true rfl) ?_
  refine z_dup hX d_M_init_209 rfl ?_
  refine z_iconst (v := nI 4) hX d_M_init_210 rfl ?_
  refine z_ldc2 (v := 755507) hX d_M_init_211 k_M_81 rfl ?_
  refine z_lastL (n := 15) (N := 6) (j := 4) (f := vp_updL (vp_updL (vp_updL (vp_updL (fun _ => 0) 0 664997) 1 146885) 2 404362868) 3 5381299) hX d_M_init_214 mcl_15 rfl (Nat.le_of_ble_eq_true rfl) rfl (Nat.le_of_ble_eq_true rfl) (Nat.le_of_ble_eq_true rfl) ?_
  refine z_dup hX d_M_init_215 rfl ?_
  refine z_iconst (v := nI 5) hX d_M_init_216 rfl ?_
  refine z_ldc2 (v := 139708581) hX d_M_init_217 k_M_63 rfl ?_
  refine z_lastL (n := 15) (N := 6) (j := 5) (f := vp_updL (vp_updL (vp_updL (vp_updL (vp_updL (fun _ => 0) 0 664997) 1 146885) 2 404362868) 3 5381299) 4 755507) hX d_M_init_220 mcl_15 rfl (Nat.le_of_ble_eq_true rfl) rfl (Nat.le_of_ble_eq_true rfl) (Nat.le_of_ble_eq_true rfl) ?_
  refine z_tl mcd_16 ?_
  refine z_putF (v2 := .ref (b0 + 16)) hX hin d_M_init_221 fl_M_83 cd_M rfl rfl rfl (by rw [mfl_16]; exact Nat.le_of_ble_eq_true rfl) ?_
  refine z_hd mfd_17 ?_
  refine z_aload0 hX d_M_init_224 ?_
  refine z_iconst (v := nI 2) hX d_M_init_225 rfl ?_
  refine z_newJ (n := 17) (N := 2) hX d_M_init_226 rfl (Nat.le_of_ble_eq_true rfl) (len_c mcl_16) (Nat.le_of_ble_eq_true rfl) (by omega) (by omega) ?_
  refine z_snoc rfl ?_
  refine z_dup hX d_M_init_228 rfl ?_
  refine z_iconst (v := nI 0) hX d_M_init_229 rfl ?_
  refine z_ldc2 (v := 3657363) hX d_M_init_230 k_M_86 rfl ?_
  refine z_lastL (n := 16) (N := 2) (j := 0) (f := fun _ => 0) hX d_M_init_233 mcl_16 rfl (Nat.le_of_ble_eq_true rfl) rfl (Nat.le_of_ble_eq_true rfl) (Nat.le_of_ble_eq_true rfl) ?_
  refine z_dup hX d_M_init_234 rfl ?_
  refine z_iconst (v := nI 1) hX d_M_init_235 rfl ?_
  refine z_ldc2 (v := 67155) hX d_M_init_236 k_M_88 rfl ?_
  refine z_lastL (n := 16) (N := 2) (j := 1) (f := vp_updL (fun _ => 0) 0 3657363) hX d_M_init_239 mcl_16 rfl (Nat.le_of_ble_eq_true rfl) rfl (Nat.le_of_ble_eq_true rfl) (Nat.le_of_ble_eq_true rfl) ?_
  refine z_tl mcd_17 ?_
  refine z_putF (v2 := .ref (b0 + 17)) hX hin d_M_init_240 fl_M_90 cd_M rfl rfl rfl (by rw [mfl_17]; exact Nat.le_of_ble_eq_true rfl) ?_
  refine z_hd mfd_18 ?_
  refine z_aload0 hX d_M_init_243 ?_
  refine z_bipush (v := nI 13) hX d_M_init_244 rfl ?_
  refine z_newJ (n := 18) (N := 13) hX d_M_init_246 rfl (Nat.le_of_ble_eq_true rfl) (len_c mcl_17) (Nat.le_of_ble_eq_true rfl) (by omega) (by omega) ?_
  refine z_snoc mcd_18 ?_
  refine z_putF (v2 := .ref (b0 + 18)) hX hin d_M_init_248 fl_M_93 cd_M rfl rfl rfl (by rw [mfl_18]; exact Nat.le_of_ble_eq_true rfl) ?_
  refine z_hd mfd_19 ?_
  refine z_aload0 hX d_M_init_251 ?_
  refine z_bipush (v := nI 13) hX d_M_init_252 rfl ?_
  refine z_newJ (n := 19) (N := 13) hX d_M_init_254 rfl (Nat.le_of_ble_eq_true rfl) (len_c mcl_18) (Nat.le_of_ble_eq_true rfl) (by omega) (by omega) ?_
  refine z_snoc mcd_19 ?_
  refine z_putF (v2 := .ref (b0 + 19)) hX hin d_M_init_256 fl_M_96 cd_M rfl rfl rfl (by rw [mfl_19]; exact Nat.le_of_ble_eq_true rfl) ?_
  refine z_hd mfd_20 ?_
  refine z_aload0 hX d_M_init_259 ?_
  refine z_sipush (v := nI 400) hX d_M_init_260 rfl ?_
  refine z_newJ (n := 20) (N := 400) hX d_M_init_263 rfl (Nat.le_of_ble_eq_true rfl) (len_c mcl_19) (Nat.le_of_ble_eq_true rfl) (by omega) (by omega) ?_
  refine z_snoc mcd_20 ?_
  refine z_putF (v2 := .ref (b0 + 20)) hX hin d_M_init_265 fl_M_99 cd_M rfl rfl rfl (by rw [mfl_20]; exact Nat.le_of_ble_eq_true rfl) ?_
  refine z_hd mfd_21 ?_
  refine z_aload0 hX d_M_init_268 ?_
  refine z_bipush (v := nI 12) hX d_M_init_269 rfl ?_
  refine z_newI (n := 21) (N := 12) hX d_M_init_271 rfl (Nat.le_of_ble_eq_true rfl) (len_c mcl_20) (Nat.le_of_ble_eq_true rfl) (by omega) (by omega) ?_
  refine z_snoc mcd_21 ?_
  refine z_putF (v2 := .ref (b0 + 21)) hX hin d_M_init_273 fl_M_102 cd_M rfl rfl rfl (by rw [mfl_21]; exact Nat.le_of_ble_eq_true rfl) ?_
  refine z_hd mfd_22 ?_
  refine z_aload0 hX d_M_init_276 ?_
  refine z_iconst (v := nI 5) hX d_M_init_277 rfl ?_
  refine z_newI (n := 22) (N := 5) hX d_M_init_278 rfl (Nat.le_of_ble_eq_true rfl) (len_c mcl_21) (Nat.le_of_ble_eq_true rfl) (by omega) (by omega) ?_
  refine z_snoc mcd_22 ?_
  refine z_putF (v2 := .ref (b0 + 22)) hX hin d_M_init_280 fl_M_105 cd_M rfl rfl rfl (by rw [mfl_22]; exact Nat.le_of_ble_eq_true rfl) ?_
  refine z_hd mfd_23 ?_
  refine z_aload0 hX d_M_init_283 ?_
  refine z_bipush (v := nI 60) hX d_M_init_284 rfl ?_
  refine z_newI (n := 23) (N := 60) hX d_M_init_286 rfl (Nat.le_of_ble_eq_true rfl) (len_c mcl_22) (Nat.le_of_ble_eq_true rfl) (by omega) (by omega) ?_
  refine z_snoc mcd_23 ?_
  refine z_putF (v2 := .ref (b0 + 23)) hX hin d_M_init_288 fl_M_108 cd_M rfl rfl rfl (by rw [mfl_23]; exact Nat.le_of_ble_eq_true rfl) ?_
  refine z_hd mfd_24 ?_
  refine z_aload0 hX d_M_init_291 ?_
  refine z_iconst (v := nI 5) hX d_M_init_292 rfl ?_
  refine z_newI (n := 24) (N := 5) hX d_M_init_293 rfl (Nat.le_of_ble_eq_true rfl) (len_c mcl_23) (Nat.le_of_ble_eq_true rfl) (by omega) (by omega) ?_
  refine z_snoc mcd_24 ?_
  refine z_putF (v2 := .ref (b0 + 24)) hX hin d_M_init_295 fl_M_111 cd_M rfl rfl rfl (by rw [mfl_24]; exact Nat.le_of_ble_eq_true rfl) ?_
  refine z_hd mfd_25 ?_
  refine z_aload0 hX d_M_init_298 ?_
  refine z_sipush (v := nI 600) hX d_M_init_299 rfl ?_
  refine z_newI (n := 25) (N := 600) hX d_M_init_302 rfl (Nat.le_of_ble_eq_true rfl) (len_c mcl_24) (Nat.le_of_ble_eq_true rfl) (by omega) (by omega) ?_
  refine z_snoc mcd_25 ?_
  refine z_putF (v2 := .ref (b0 + 25)) hX hin d_M_init_304 fl_M_114 cd_M rfl rfl rfl (by rw [mfl_25]; exact Nat.le_of_ble_eq_true rfl) ?_
  refine z_hd mfd_26 ?_
  refine z_aload0 hX d_M_init_307 ?_
  refine z_iconst (v := nI 5) hX d_M_init_308 rfl ?_
  refine z_newI (n := 26) (N := 5) hX d_M_init_309 rfl (Nat.le_of_ble_eq_true rfl) (len_c mcl_25) (Nat.le_of_ble_eq_true rfl) (by omega) (by omega) ?_
  refine z_snoc mcd_26 ?_
  refine z_putF (v2 := .ref (b0 + 26)) hX hin d_M_init_311 fl_M_117 cd_M rfl rfl rfl (by rw [mfl_26]; exact Nat.le_of_ble_eq_true rfl) ?_
  refine z_hd mfd_27 ?_
  refine z_aload0 hX d_M_init_314 ?_
  refine z_iconst (v := nI 5) hX d_M_init_315 rfl ?_
  refine z_newI (n := 27) (N := 5) hX d_M_init_316 rfl (Nat.le_of_ble_eq_true rfl) (len_c mcl_26) (Nat.le_of_ble_eq_true rfl) (by omega) (by omega) ?_
  refine z_snoc mcd_27 ?_
  refine z_putF (v2 := .ref (b0 + 27)) hX hin d_M_init_318 fl_M_120 cd_M rfl rfl rfl (by rw [mfl_27]; exact Nat.le_of_ble_eq_true rfl) ?_
  refine z_hd mfd_28 ?_
  refine z_aload0 hX d_M_init_321 ?_
  refine z_iconst (v := nI 5) hX d_M_init_322 rfl ?_
  refine z_newI (n := 28) (N := 5) hX d_M_init_323 rfl (Nat.le_of_ble_eq_true rfl) (len_c mcl_27) (Nat.le_of_ble_eq_true rfl) (by omega) (by omega) ?_
  refine z_snoc mcd_28 ?_
  refine z_putF (v2 := .ref (b0 + 28)) hX hin d_M_init_325 fl_M_123 cd_M rfl rfl rfl (by rw [mfl_28]; exact Nat.le_of_ble_eq_true rfl) ?_
  refine z_hd mfd_29 ?_
  refine z_aload0 hX d_M_init_328 ?_
  refine z_iconst (v := nI 5) hX d_M_init_329 rfl ?_
  refine z_newI (n := 29) (N := 5) hX d_M_init_330 rfl (Nat.le_of_ble_eq_true rfl) (len_c mcl_28) (Nat.le_of_ble_eq_true rfl) (by omega) (by omega) ?_
  refine z_snoc mcd_29 ?_
  refine z_putF (v2 := .ref (b0 + 29)) hX hin d_M_init_332 fl_M_126 cd_M rfl rfl rfl (by rw [mfl_29]; exact Nat.le_of_ble_eq_true rfl) ?_
  refine z_hd mfd_30 ?_
  refine z_aload0 hX d_M_init_335 ?_
  refine z_iconst (v := nI 5) hX d_M_init_336 rfl ?_
  refine z_newI (n := 30) (N := 5) hX d_M_init_337 rfl (Nat.le_of_ble_eq_true rfl) (len_c mcl_29) (Nat.le_of_ble_eq_true rfl) (by omega) (by omega) ?_
  refine z_snoc mcd_30 ?_
  refine z_putF (v2 := .ref (b0 + 30)) hX hin d_M_init_339 fl_M_129 cd_M rfl rfl rfl (by rw [mfl_30]; exact Nat.le_of_ble_eq_true rfl) ?_
  refine z_hd mfd_31 ?_
  refine z_aload0 hX d_M_init_342 ?_
  refine z_bipush (v := nI 12) hX d_M_init_343 rfl ?_
  refine z_newI (n := 31) (N := 12) hX d_M_init_345 rfl (Nat.le_of_ble_eq_true rfl) (len_c mcl_30) (Nat.le_of_ble_eq_true rfl) (by omega) (by omega) ?_
  refine z_snoc mcd_31 ?_
  refine z_putF (v2 := .ref (b0 + 31)) hX hin d_M_init_347 fl_M_132 cd_M rfl rfl rfl (by rw [mfl_31]; exact Nat.le_of_ble_eq_true rfl) ?_
  refine z_hd mfd_32 ?_
  refine z_aload0 hX d_M_init_350 ?_
  refine z_bipush (v := nI 12) hX d_M_init_351 rfl ?_
  refine z_newI (n := 32) (N := 12) hX d_M_init_353 rfl (Nat.le_of_ble_eq_true rfl) (len_c mcl_31) (Nat.le_of_ble_eq_true rfl) (by omega) (by omega) ?_
  refine z_snoc mcd_32 ?_
  refine z_putF (v2 := .ref (b0 + 32)) hX hin d_M_init_355 fl_M_135 cd_M rfl rfl rfl (by rw [mfl_32]; exact Nat.le_of_ble_eq_true rfl) ?_
  refine z_hd mfd_33 ?_
  refine z_aload0 hX d_M_init_358 ?_
  refine z_bipush (v := nI 60) hX d_M_init_359 rfl ?_
  refine z_newI (n := 33) (N := 60) hX d_M_init_361 rfl (Nat.le_of_ble_eq_true rfl) (len_c mcl_32) (Nat.le_of_ble_eq_true rfl) (by omega) (by omega) ?_
  refine z_snoc mcd_33 ?_
  refine z_putF (v2 := .ref (b0 + 33)) hX hin d_M_init_363 fl_M_138 cd_M rfl rfl rfl (by rw [mfl_33]; exact Nat.le_of_ble_eq_true rfl) ?_
  refine z_hd mfd_34 ?_
  refine z_aload0 hX d_M_init_366 ?_
  refine z_bipush (v := nI 60) hX d_M_init_367 rfl ?_
  refine z_newI (n := 34) (N := 60) hX d_M_init_369 rfl (Nat.le_of_ble_eq_true rfl) (len_c mcl_33) (Nat.le_of_ble_eq_true rfl) (by omega) (by omega) ?_
  refine z_snoc mcd_34 ?_
  refine z_putF (v2 := .ref (b0 + 34)) hX hin d_M_init_371 fl_M_141 cd_M rfl rfl rfl (by rw [mfl_34]; exact Nat.le_of_ble_eq_true rfl) ?_
  refine z_hd mfd_35 ?_
  refine z_aload0 hX d_M_init_374 ?_
  refine z_bipush (v := nI 21) hX d_M_init_375 rfl ?_
  refine z_newJ (n := 35) (N := 21) hX d_M_init_377 rfl (Nat.le_of_ble_eq_true rfl) (len_c mcl_34) (Nat.le_of_ble_eq_true rfl) (by omega) (by omega) ?_
  refine z_snoc mcd_35 ?_
  refine z_putF (v2 := .ref (b0 + 35)) hX hin d_M_init_379 fl_M_144 cd_M rfl rfl rfl (by rw [mfl_35]; exact Nat.le_of_ble_eq_true rfl) ?_
  refine z_hd mfd_36 ?_
  refine z_aload0 hX d_M_init_382 ?_
  refine z_iconst (v := nI 4) hX d_M_init_383 rfl ?_
  refine z_newJ (n := 36) (N := 4) hX d_M_init_384 rfl (Nat.le_of_ble_eq_true rfl) (len_c mcl_35) (Nat.le_of_ble_eq_true rfl) (by omega) (by omega) ?_
  refine z_snoc rfl ?_
  refine z_dup hX d_M_init_386 rfl ?_
  refine z_iconst (v := nI 0) hX d_M_init_387 rfl ?_
  refine z_ldc2 (v := 343342) hX d_M_init_388 k_M_147 rfl ?_
  refine z_lastL (n := 35) (N := 4) (j := 0) (f := fun _ => 0) hX d_M_init_391 mcl_35 rfl (Nat.le_of_ble_eq_true rfl) rfl (Nat.le_of_ble_eq_true rfl) (Nat.le_of_ble_eq_true rfl) ?_
  refine z_dup hX d_M_init_392 rfl ?_
  refine z_iconst (v := nI 1) hX d_M_init_393 rfl ?_
  refine z_ldc2 (v := 20773) hX d_M_init_394 k_M_149 rfl ?_
  refine z_lastL (n := 35) (N := 4) (j := 1) (f := vp_updL (fun _ => 0) 0 343342) hX d_M_init_397 mcl_35 rfl (Nat.le_of_ble_eq_true rfl) rfl (Nat.le_of_ble_eq_true rfl) (Nat.le_of_ble_eq_true rfl) ?_
  refine z_dup hX d_M_init_398 rfl ?_
  refine z_iconst (v := nI 2) hX d_M_init_399 rfl ?_
  refine z_ldc2 (v := 16819668) hX d_M_init_400 k_M_151 rfl ?_
  refine z_lastL (n := 35) (N := 4) (j := 2) (f := vp_updL (vp_updL (fun _ => 0) 0 343342) 1 20773) hX d_M_init_403 mcl_35 rfl (Nat.le_of_ble_eq_true rfl) rfl (Nat.le_of_ble_eq_true rfl) (Nat.le_of_ble_eq_true rfl) ?_
  refine z_dup hX d_M_init_404 rfl ?_
  refine z_iconst (v := nI 3) hX d_M_init_405 rfl ?_
  refine z_ldc2 (v := 4901) hX d_M_init_406 k_M_153 rfl ?_
  refine z_lastL (n := 35) (N := 4) (j := 3) (f := vp_updL (vp_updL (vp_updL (fun _ => 0) 0 343342) 1 20773) 2 16819668) hX d_M_init_409 mcl_35 rfl (Nat.le_of_ble_eq_true rfl) rfl (Nat.le_of_ble_eq_true rfl) (Nat.le_of_ble_eq_true rfl) ?_
  refine z_tl mcd_36 ?_
  refine z_putF (v2 := .ref (b0 + 36)) hX hin d_M_init_410 fl_M_155 cd_M rfl rfl rfl (by rw [mfl_36]; exact Nat.le_of_ble_eq_true rfl) ?_
  refine z_hd mfd_37 ?_
  refine z_aload0 hX d_M_init_413 ?_
  refine z_bipush (v := nI 96) hX d_M_init_414 rfl ?_
  refine z_newI (n := 37) (N := 96) hX d_M_init_416 rfl (Nat.le_of_ble_eq_true rfl) (len_c mcl_36) (Nat.le_of_ble_eq_true rfl) (by omega) (by omega) ?_
  refine z_snoc mcd_37 ?_
  refine z_putF (v2 := .ref (b0 + 37)) hX hin d_M_init_418 fl_M_158 cd_M rfl rfl rfl (by rw [mfl_37]; exact Nat.le_of_ble_eq_true rfl) ?_
  refine z_hd mfd_38 ?_
  refine z_aload0 hX d_M_init_421 ?_
  refine z_iconst (v := -1) hX d_M_init_422 rfl ?_
  refine z_put (v2 := .int (-1)) hX d_M_init_423 fl_M_161 rfl rfl rfl (by rw [mfl_38]; exact Nat.le_of_ble_eq_true rfl) ?_
  refine z_hd mfd_39 ?_
  refine z_aload0 hX d_M_init_426 ?_
  refine z_bipush (v := nI 24) hX d_M_init_427 rfl ?_
  refine z_newI (n := 38) (N := 24) hX d_M_init_429 rfl (Nat.le_of_ble_eq_true rfl) (len_c mcl_37) (Nat.le_of_ble_eq_true rfl) (by omega) (by omega) ?_
  refine z_snoc mcd_38 ?_
  refine z_putF (v2 := .ref (b0 + 38)) hX hin d_M_init_431 fl_M_164 cd_M rfl rfl rfl (by rw [mfl_39]; exact Nat.le_of_ble_eq_true rfl) ?_
  refine z_hd mfd_40 ?_
  refine z_aload0 hX d_M_init_434 ?_
  refine z_iconst (v := -1) hX d_M_init_435 rfl ?_
  refine z_put (v2 := .int (-1)) hX d_M_init_436 fl_M_167 rfl rfl rfl (by rw [mfl_40]; exact Nat.le_of_ble_eq_true rfl) ?_
  refine z_hd mfd_41 ?_
  refine z_aload0 hX d_M_init_439 ?_
  refine z_get (v := .ref 2) hX d_M_init_440 fl_M_13 mf_row ?_
  refine z_iconst (v := nI 4) hX d_M_init_443 rfl ?_
  refine z_iconst (v := -1) hX d_M_init_444 rfl ?_
  refine z_iast (n := 2) (N := 5510) (j := 4) (f := fun _ => 0) hX d_M_init_445 (hX.ra _ (Nat.le_of_ble_eq_true rfl)) (by rw [List.getElem?_cons_succ]; exact mc_row) rfl (Nat.le_of_ble_eq_true rfl) (Nat.le_of_ble_eq_true rfl) ?_
  refine z_eq (cs2 := .inr (12, mf_41 b0) :: mcA E) (mcA_d) ?_
  refine z_aload0 hX d_M_init_446 ?_
  refine z_get (v := .ref 2) hX d_M_init_447 fl_M_13 mf_row ?_
  refine z_bipush (v := nI 7) hX d_M_init_450 rfl ?_
  refine z_iconst (v := nI 1) hX d_M_init_452 rfl ?_
  refine z_iast (n := 2) (N := 5510) (j := 7) (f := upd (fun _ => 0) 4 (-1)) hX d_M_init_453 (hX.ra _ (Nat.le_of_ble_eq_true rfl)) (by rw [List.getElem?_cons_succ]; exact mcA_row) rfl (Nat.le_of_ble_eq_true rfl) (Nat.le_of_ble_eq_true rfl) ?_
  refine z_eq (cs2 := .inr (12, mf_41 b0) :: mcB E) (mcB_d) ?_
  exact z_vret hX hF d_M_init_454 (by omega) (by omega)
