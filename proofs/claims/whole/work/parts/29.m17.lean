def m_M_reckonAll : MR := (⟨"SubgraphDeskModel", "reckonAll", "(II)V"⟩, prog_14_method_67_code, 7, none)
theorem cf_M_reckonAll : CF m_M_reckonAll 2 := ⟨gd 1768 (by decide +kernel) rfl, gd 151 (by decide +kernel) rfl, by decide +kernel, by decide, by decide +kernel⟩
theorem cv_M_reckonAll : CV m_M_reckonAll := ⟨gd 1767 (by decide +kernel) rfl, gd 68 (by decide +kernel) rfl⟩
theorem d_M_reckonAll_0 : Dc prog_14_method_67_code 0 (.aload_n 0) 1 1 := ⟨by decide +kernel, rfl⟩
theorem d_M_reckonAll_1 : Dc prog_14_method_67_code 1 (.iconst 0) 1 2 := ⟨by decide +kernel, rfl⟩
theorem d_M_reckonAll_2 : Dc prog_14_method_67_code 2 (.putfield 409) 3 5 := ⟨by decide +kernel, rfl⟩
theorem d_M_reckonAll_5 : Dc prog_14_method_67_code 5 (.iconst 0) 1 6 := ⟨by decide +kernel, rfl⟩
theorem d_M_reckonAll_6 : Dc prog_14_method_67_code 6 (.istore_n 3) 1 7 := ⟨by decide +kernel, rfl⟩
theorem d_M_reckonAll_7 : Dc prog_14_method_67_code 7 (.iload_n 1) 1 8 := ⟨by decide +kernel, rfl⟩
theorem d_M_reckonAll_8 : Dc prog_14_method_67_code 8 (.istore 4) 2 10 := ⟨by decide +kernel, rfl⟩
theorem d_M_reckonAll_10 : Dc prog_14_method_67_code 10 (.iload 4) 2 12 := ⟨by decide +kernel, rfl⟩
theorem d_M_reckonAll_12 : Dc prog_14_method_67_code 12 (.iload_n 2) 1 13 := ⟨by decide +kernel, rfl⟩
theorem d_M_reckonAll_13 : Dj prog_14_method_67_code 13 (.if_icmp .ge 315) 16 315 328 := ⟨by decide +kernel, rfl, rfl⟩
theorem d_M_reckonAll_16 : Dc prog_14_method_67_code 16 (.aload_n 0) 1 17 := ⟨by decide +kernel, rfl⟩
theorem d_M_reckonAll_17 : Dc prog_14_method_67_code 17 (.getfield 409) 3 20 := ⟨by decide +kernel, rfl⟩
theorem d_M_reckonAll_20 : Dj prog_14_method_67_code 20 (.ifCond .ne 308) 23 308 328 := ⟨by decide +kernel, rfl, rfl⟩
theorem d_M_reckonAll_23 : Dc prog_14_method_67_code 23 (.aload_n 0) 1 24 := ⟨by decide +kernel, rfl⟩
theorem d_M_reckonAll_24 : Dc prog_14_method_67_code 24 (.getfield 335) 3 27 := ⟨by decide +kernel, rfl⟩
theorem d_M_reckonAll_27 : Dj prog_14_method_67_code 27 (.ifCond .eq 13) 30 13 40 := ⟨by decide +kernel, rfl, rfl⟩
theorem d_M_reckonAll_30 : Dc prog_14_method_67_code 30 (.aload_n 0) 1 31 := ⟨by decide +kernel, rfl⟩
theorem d_M_reckonAll_31 : Dc prog_14_method_67_code 31 (.getfield 45) 3 34 := ⟨by decide +kernel, rfl⟩
theorem d_M_reckonAll_34 : Dc prog_14_method_67_code 34 (.iload 4) 2 36 := ⟨by decide +kernel, rfl⟩
theorem d_M_reckonAll_36 : Dc prog_14_method_67_code 36 (.iaload) 1 37 := ⟨by decide +kernel, rfl⟩
theorem d_M_reckonAll_37 : Dj prog_14_method_67_code 37 (.goto 20) 40 20 57 := ⟨by decide +kernel, rfl, rfl⟩
theorem d_M_reckonAll_40 : Dc prog_14_method_67_code 40 (.aload_n 0) 1 41 := ⟨by decide +kernel, rfl⟩
theorem d_M_reckonAll_41 : Dc prog_14_method_67_code 41 (.getfield 13) 3 44 := ⟨by decide +kernel, rfl⟩
theorem d_M_reckonAll_44 : Dc prog_14_method_67_code 44 (.aload_n 0) 1 45 := ⟨by decide +kernel, rfl⟩
theorem d_M_reckonAll_45 : Dc prog_14_method_67_code 45 (.getfield 412) 3 48 := ⟨by decide +kernel, rfl⟩
theorem d_M_reckonAll_48 : Dc prog_14_method_67_code 48 (.bipush 98) 2 50 := ⟨by decide +kernel, rfl⟩
theorem d_M_reckonAll_50 : Dc prog_14_method_67_code 50 (.iadd) 1 51 := ⟨by decide +kernel, rfl⟩
theorem d_M_reckonAll_51 : Dc prog_14_method_67_code 51 (.iconst 2) 1 52 := ⟨by decide +kernel, rfl⟩
theorem d_M_reckonAll_52 : Dc prog_14_method_67_code 52 (.iload 4) 2 54 := ⟨by decide +kernel, rfl⟩
theorem d_M_reckonAll_54 : Dc prog_14_method_67_code 54 (.imul) 1 55 := ⟨by decide +kernel, rfl⟩
theorem d_M_reckonAll_55 : Dc prog_14_method_67_code 55 (.iadd) 1 56 := ⟨by decide +kernel, rfl⟩
theorem d_M_reckonAll_56 : Dc prog_14_method_67_code 56 (.iaload) 1 57 := ⟨by decide +kernel, rfl⟩
theorem d_M_reckonAll_57 : Dc prog_14_method_67_code 57 (.istore 5) 2 59 := ⟨by decide +kernel, rfl⟩
theorem d_M_reckonAll_59 : Dc prog_14_method_67_code 59 (.aload_n 0) 1 60 := ⟨by decide +kernel, rfl⟩
theorem d_M_reckonAll_60 : Dc prog_14_method_67_code 60 (.getfield 335) 3 63 := ⟨by decide +kernel, rfl⟩
theorem d_M_reckonAll_63 : Dj prog_14_method_67_code 63 (.ifCond .eq 13) 66 13 76 := ⟨by decide +kernel, rfl, rfl⟩
theorem d_M_reckonAll_66 : Dc prog_14_method_67_code 66 (.aload_n 0) 1 67 := ⟨by decide +kernel, rfl⟩
theorem d_M_reckonAll_67 : Dc prog_14_method_67_code 67 (.getfield 48) 3 70 := ⟨by decide +kernel, rfl⟩
theorem d_M_reckonAll_70 : Dc prog_14_method_67_code 70 (.iload 4) 2 72 := ⟨by decide +kernel, rfl⟩
theorem d_M_reckonAll_72 : Dc prog_14_method_67_code 72 (.iaload) 1 73 := ⟨by decide +kernel, rfl⟩
theorem d_M_reckonAll_73 : Dj prog_14_method_67_code 73 (.goto 22) 76 22 95 := ⟨by decide +kernel, rfl, rfl⟩
theorem d_M_reckonAll_76 : Dc prog_14_method_67_code 76 (.aload_n 0) 1 77 := ⟨by decide +kernel, rfl⟩
theorem d_M_reckonAll_77 : Dc prog_14_method_67_code 77 (.getfield 13) 3 80 := ⟨by decide +kernel, rfl⟩
theorem d_M_reckonAll_80 : Dc prog_14_method_67_code 80 (.aload_n 0) 1 81 := ⟨by decide +kernel, rfl⟩
theorem d_M_reckonAll_81 : Dc prog_14_method_67_code 81 (.getfield 412) 3 84 := ⟨by decide +kernel, rfl⟩
theorem d_M_reckonAll_84 : Dc prog_14_method_67_code 84 (.bipush 98) 2 86 := ⟨by decide +kernel, rfl⟩
theorem d_M_reckonAll_86 : Dc prog_14_method_67_code 86 (.iadd) 1 87 := ⟨by decide +kernel, rfl⟩
theorem d_M_reckonAll_87 : Dc prog_14_method_67_code 87 (.iconst 2) 1 88 := ⟨by decide +kernel, rfl⟩
theorem d_M_reckonAll_88 : Dc prog_14_method_67_code 88 (.iload 4) 2 90 := ⟨by decide +kernel, rfl⟩
theorem d_M_reckonAll_90 : Dc prog_14_method_67_code 90 (.imul) 1 91 := ⟨by decide +kernel, rfl⟩
theorem d_M_reckonAll_91 : Dc prog_14_method_67_code 91 (.iadd) 1 92 := ⟨by decide +kernel, rfl⟩
theorem d_M_reckonAll_92 : Dc prog_14_method_67_code 92 (.iconst 1) 1 93 := ⟨by decide +kernel, rfl⟩
theorem d_M_reckonAll_93 : Dc prog_14_method_67_code 93 (.iadd) 1 94 := ⟨by decide +kernel, rfl⟩
theorem d_M_reckonAll_94 : Dc prog_14_method_67_code 94 (.iaload) 1 95 := ⟨by decide +kernel, rfl⟩
theorem d_M_reckonAll_95 : Dc prog_14_method_67_code 95 (.istore 6) 2 97 := ⟨by decide +kernel, rfl⟩
theorem d_M_reckonAll_97 : Dc prog_14_method_67_code 97 (.iinc 4 1) 3 100 := ⟨by decide +kernel, rfl⟩
theorem d_M_reckonAll_100 : Dc prog_14_method_67_code 100 (.iload 5) 2 102 := ⟨by decide +kernel, rfl⟩
theorem d_M_reckonAll_102 : Dc prog_14_method_67_code 102 (.bipush 20) 2 104 := ⟨by decide +kernel, rfl⟩
theorem d_M_reckonAll_104 : Dj prog_14_method_67_code 104 (.if_icmp .ge 82) 107 82 186 := ⟨by decide +kernel, rfl, rfl⟩
theorem d_M_reckonAll_107 : Dc prog_14_method_67_code 107 (.aload_n 0) 1 108 := ⟨by decide +kernel, rfl⟩
theorem d_M_reckonAll_108 : Dc prog_14_method_67_code 108 (.getfield 99) 3 111 := ⟨by decide +kernel, rfl⟩
theorem d_M_reckonAll_111 : Dc prog_14_method_67_code 111 (.iload_n 3) 1 112 := ⟨by decide +kernel, rfl⟩
theorem d_M_reckonAll_112 : Dc prog_14_method_67_code 112 (.iload 5) 2 114 := ⟨by decide +kernel, rfl⟩
theorem d_M_reckonAll_114 : Dj prog_14_method_67_code 114 (.ifCond .ne 9) 117 9 123 := ⟨by decide +kernel, rfl, rfl⟩
theorem d_M_reckonAll_117 : Dc prog_14_method_67_code 117 (.iload 6) 2 119 := ⟨by decide +kernel, rfl⟩
theorem d_M_reckonAll_119 : Dc prog_14_method_67_code 119 (.i2l) 1 120 := ⟨by decide +kernel, rfl⟩
theorem d_M_reckonAll_120 : Dj prog_14_method_67_code 120 (.goto 59) 123 59 179 := ⟨by decide +kernel, rfl, rfl⟩
theorem d_M_reckonAll_123 : Dc prog_14_method_67_code 123 (.aload_n 0) 1 124 := ⟨by decide +kernel, rfl⟩
theorem d_M_reckonAll_124 : Dc prog_14_method_67_code 124 (.getfield 335) 3 127 := ⟨by decide +kernel, rfl⟩
theorem d_M_reckonAll_127 : Dj prog_14_method_67_code 127 (.ifCond .ne 13) 130 13 140 := ⟨by decide +kernel, rfl, rfl⟩
theorem d_M_reckonAll_130 : Dc prog_14_method_67_code 130 (.aload_n 0) 1 131 := ⟨by decide +kernel, rfl⟩
theorem d_M_reckonAll_131 : Dc prog_14_method_67_code 131 (.getfield 93) 3 134 := ⟨by decide +kernel, rfl⟩
theorem d_M_reckonAll_134 : Dc prog_14_method_67_code 134 (.iload 5) 2 136 := ⟨by decide +kernel, rfl⟩
theorem d_M_reckonAll_136 : Dc prog_14_method_67_code 136 (.laload) 1 137 := ⟨by decide +kernel, rfl⟩
theorem d_M_reckonAll_137 : Dj prog_14_method_67_code 137 (.goto 42) 140 42 179 := ⟨by decide +kernel, rfl, rfl⟩
theorem d_M_reckonAll_140 : Dc prog_14_method_67_code 140 (.iload 5) 2 142 := ⟨by decide +kernel, rfl⟩
theorem d_M_reckonAll_142 : Dc prog_14_method_67_code 142 (.bipush 6) 2 144 := ⟨by decide +kernel, rfl⟩
theorem d_M_reckonAll_144 : Dj prog_14_method_67_code 144 (.if_icmp .ge 13) 147 13 157 := ⟨by decide +kernel, rfl, rfl⟩
theorem d_M_reckonAll_147 : Dc prog_14_method_67_code 147 (.aload_n 0) 1 148 := ⟨by decide +kernel, rfl⟩
theorem d_M_reckonAll_148 : Dc prog_14_method_67_code 148 (.getfield 96) 3 151 := ⟨by decide +kernel, rfl⟩
theorem d_M_reckonAll_151 : Dc prog_14_method_67_code 151 (.iload 5) 2 153 := ⟨by decide +kernel, rfl⟩
theorem d_M_reckonAll_153 : Dc prog_14_method_67_code 153 (.laload) 1 154 := ⟨by decide +kernel, rfl⟩
theorem d_M_reckonAll_154 : Dj prog_14_method_67_code 154 (.goto 25) 157 25 179 := ⟨by decide +kernel, rfl, rfl⟩
theorem d_M_reckonAll_157 : Dc prog_14_method_67_code 157 (.aload_n 0) 1 158 := ⟨by decide +kernel, rfl⟩
theorem d_M_reckonAll_158 : Dc prog_14_method_67_code 158 (.iload 6) 2 160 := ⟨by decide +kernel, rfl⟩
theorem d_M_reckonAll_160 : Dc prog_14_method_67_code 160 (.invokevirtual 214) 3 163 := ⟨by decide +kernel, rfl⟩
theorem d_M_reckonAll_163 : Dj prog_14_method_67_code 163 (.ifCond .eq 13) 166 13 176 := ⟨by decide +kernel, rfl, rfl⟩
theorem d_M_reckonAll_166 : Dc prog_14_method_67_code 166 (.aload_n 0) 1 167 := ⟨by decide +kernel, rfl⟩
theorem d_M_reckonAll_167 : Dc prog_14_method_67_code 167 (.iload 6) 2 169 := ⟨by decide +kernel, rfl⟩
theorem d_M_reckonAll_169 : Dc prog_14_method_67_code 169 (.invokevirtual 218) 3 172 := ⟨by decide +kernel, rfl⟩
theorem d_M_reckonAll_172 : Dc prog_14_method_67_code 172 (.i2l) 1 173 := ⟨by decide +kernel, rfl⟩
theorem d_M_reckonAll_173 : Dj prog_14_method_67_code 173 (.goto 6) 176 6 179 := ⟨by decide +kernel, rfl, rfl⟩
theorem d_M_reckonAll_176 : Dc prog_14_method_67_code 176 (.ldc2_w 285) 3 179 := ⟨by decide +kernel, rfl⟩
theorem d_M_reckonAll_179 : Dc prog_14_method_67_code 179 (.lastore) 1 180 := ⟨by decide +kernel, rfl⟩
theorem d_M_reckonAll_180 : Dc prog_14_method_67_code 180 (.iinc 3 1) 3 183 := ⟨by decide +kernel, rfl⟩
theorem d_M_reckonAll_183 : Dj prog_14_method_67_code 183 (.goto 142) 186 142 325 := ⟨by decide +kernel, rfl, rfl⟩
theorem d_M_reckonAll_186 : Dc prog_14_method_67_code 186 (.iload 5) 2 188 := ⟨by decide +kernel, rfl⟩
theorem d_M_reckonAll_188 : Dc prog_14_method_67_code 188 (.bipush 28) 2 190 := ⟨by decide +kernel, rfl⟩
theorem d_M_reckonAll_190 : Dj prog_14_method_67_code 190 (.if_icmp .ge 73) 193 73 263 := ⟨by decide +kernel, rfl, rfl⟩
theorem d_M_reckonAll_193 : Dc prog_14_method_67_code 193 (.iinc 3 (-1)) 3 196 := ⟨by decide +kernel, rfl⟩
theorem d_M_reckonAll_196 : Dc prog_14_method_67_code 196 (.aload_n 0) 1 197 := ⟨by decide +kernel, rfl⟩
theorem d_M_reckonAll_197 : Dc prog_14_method_67_code 197 (.getfield 99) 3 200 := ⟨by decide +kernel, rfl⟩
theorem d_M_reckonAll_200 : Dc prog_14_method_67_code 200 (.iload_n 3) 1 201 := ⟨by decide +kernel, rfl⟩
theorem d_M_reckonAll_201 : Dc prog_14_method_67_code 201 (.iconst 1) 1 202 := ⟨by decide +kernel, rfl⟩
theorem d_M_reckonAll_202 : Dc prog_14_method_67_code 202 (.isub) 1 203 := ⟨by decide +kernel, rfl⟩
theorem d_M_reckonAll_203 : Dc prog_14_method_67_code 203 (.aload_n 0) 1 204 := ⟨by decide +kernel, rfl⟩
theorem d_M_reckonAll_204 : Dc prog_14_method_67_code 204 (.iload 5) 2 206 := ⟨by decide +kernel, rfl⟩
theorem d_M_reckonAll_206 : Dc prog_14_method_67_code 206 (.aload_n 0) 1 207 := ⟨by decide +kernel, rfl⟩
theorem d_M_reckonAll_207 : Dc prog_14_method_67_code 207 (.getfield 99) 3 210 := ⟨by decide +kernel, rfl⟩
theorem d_M_reckonAll_210 : Dc prog_14_method_67_code 210 (.iload_n 3) 1 211 := ⟨by decide +kernel, rfl⟩
theorem d_M_reckonAll_211 : Dc prog_14_method_67_code 211 (.iconst 1) 1 212 := ⟨by decide +kernel, rfl⟩
theorem d_M_reckonAll_212 : Dc prog_14_method_67_code 212 (.isub) 1 213 := ⟨by decide +kernel, rfl⟩
theorem d_M_reckonAll_213 : Dc prog_14_method_67_code 213 (.laload) 1 214 := ⟨by decide +kernel, rfl⟩
theorem d_M_reckonAll_214 : Dc prog_14_method_67_code 214 (.aload_n 0) 1 215 := ⟨by decide +kernel, rfl⟩
theorem d_M_reckonAll_215 : Dc prog_14_method_67_code 215 (.getfield 99) 3 218 := ⟨by decide +kernel, rfl⟩
theorem d_M_reckonAll_218 : Dc prog_14_method_67_code 218 (.iload_n 3) 1 219 := ⟨by decide +kernel, rfl⟩
theorem d_M_reckonAll_219 : Dc prog_14_method_67_code 219 (.laload) 1 220 := ⟨by decide +kernel, rfl⟩
theorem d_M_reckonAll_220 : Dc prog_14_method_67_code 220 (.invokevirtual 415) 3 223 := ⟨by decide +kernel, rfl⟩
theorem d_M_reckonAll_223 : Dc prog_14_method_67_code 223 (.lastore) 1 224 := ⟨by decide +kernel, rfl⟩
theorem d_M_reckonAll_224 : Dc prog_14_method_67_code 224 (.aload_n 0) 1 225 := ⟨by decide +kernel, rfl⟩
theorem d_M_reckonAll_225 : Dc prog_14_method_67_code 225 (.aload_n 0) 1 226 := ⟨by decide +kernel, rfl⟩
theorem d_M_reckonAll_226 : Dc prog_14_method_67_code 226 (.getfield 409) 3 229 := ⟨by decide +kernel, rfl⟩
theorem d_M_reckonAll_229 : Dj prog_14_method_67_code 229 (.ifCond .ne 23) 232 23 252 := ⟨by decide +kernel, rfl, rfl⟩
theorem d_M_reckonAll_232 : Dc prog_14_method_67_code 232 (.aload_n 0) 1 233 := ⟨by decide +kernel, rfl⟩
theorem d_M_reckonAll_233 : Dc prog_14_method_67_code 233 (.getfield 99) 3 236 := ⟨by decide +kernel, rfl⟩
theorem d_M_reckonAll_236 : Dc prog_14_method_67_code 236 (.iload_n 3) 1 237 := ⟨by decide +kernel, rfl⟩
theorem d_M_reckonAll_237 : Dc prog_14_method_67_code 237 (.iconst 1) 1 238 := ⟨by decide +kernel, rfl⟩
theorem d_M_reckonAll_238 : Dc prog_14_method_67_code 238 (.isub) 1 239 := ⟨by decide +kernel, rfl⟩
theorem d_M_reckonAll_239 : Dc prog_14_method_67_code 239 (.laload) 1 240 := ⟨by decide +kernel, rfl⟩
theorem d_M_reckonAll_240 : Dc prog_14_method_67_code 240 (.ldc2_w 419) 3 243 := ⟨by decide +kernel, rfl⟩
theorem d_M_reckonAll_243 : Dc prog_14_method_67_code 243 (.ldc2_w 421) 3 246 := ⟨by decide +kernel, rfl⟩
theorem d_M_reckonAll_246 : Dc prog_14_method_67_code 246 (.invokestatic 190) 3 249 := ⟨by decide +kernel, rfl⟩
theorem d_M_reckonAll_249 : Dj prog_14_method_67_code 249 (.ifCond .ne 7) 252 7 256 := ⟨by decide +kernel, rfl, rfl⟩
theorem d_M_reckonAll_252 : Dc prog_14_method_67_code 252 (.iconst 1) 1 253 := ⟨by decide +kernel, rfl⟩
theorem d_M_reckonAll_253 : Dj prog_14_method_67_code 253 (.goto 4) 256 4 257 := ⟨by decide +kernel, rfl, rfl⟩
theorem d_M_reckonAll_256 : Dc prog_14_method_67_code 256 (.iconst 0) 1 257 := ⟨by decide +kernel, rfl⟩
theorem d_M_reckonAll_257 : Dc prog_14_method_67_code 257 (.putfield 409) 3 260 := ⟨by decide +kernel, rfl⟩
theorem d_M_reckonAll_260 : Dj prog_14_method_67_code 260 (.goto 65) 263 65 325 := ⟨by decide +kernel, rfl, rfl⟩
theorem d_M_reckonAll_263 : Dc prog_14_method_67_code 263 (.iload 5) 2 265 := ⟨by decide +kernel, rfl⟩
theorem d_M_reckonAll_265 : Dc prog_14_method_67_code 265 (.bipush 28) 2 267 := ⟨by decide +kernel, rfl⟩
theorem d_M_reckonAll_267 : Dj prog_14_method_67_code 267 (.if_icmp .ne 24) 270 24 291 := ⟨by decide +kernel, rfl, rfl⟩
theorem d_M_reckonAll_270 : Dc prog_14_method_67_code 270 (.aload_n 0) 1 271 := ⟨by decide +kernel, rfl⟩
theorem d_M_reckonAll_271 : Dc prog_14_method_67_code 271 (.getfield 99) 3 274 := ⟨by decide +kernel, rfl⟩
theorem d_M_reckonAll_274 : Dc prog_14_method_67_code 274 (.iload_n 3) 1 275 := ⟨by decide +kernel, rfl⟩
theorem d_M_reckonAll_275 : Dc prog_14_method_67_code 275 (.iconst 1) 1 276 := ⟨by decide +kernel, rfl⟩
theorem d_M_reckonAll_276 : Dc prog_14_method_67_code 276 (.isub) 1 277 := ⟨by decide +kernel, rfl⟩
theorem d_M_reckonAll_277 : Dc prog_14_method_67_code 277 (.lconst 1) 1 278 := ⟨by decide +kernel, rfl⟩
theorem d_M_reckonAll_278 : Dc prog_14_method_67_code 278 (.aload_n 0) 1 279 := ⟨by decide +kernel, rfl⟩
theorem d_M_reckonAll_279 : Dc prog_14_method_67_code 279 (.getfield 99) 3 282 := ⟨by decide +kernel, rfl⟩
theorem d_M_reckonAll_282 : Dc prog_14_method_67_code 282 (.iload_n 3) 1 283 := ⟨by decide +kernel, rfl⟩
theorem d_M_reckonAll_283 : Dc prog_14_method_67_code 283 (.iconst 1) 1 284 := ⟨by decide +kernel, rfl⟩
theorem d_M_reckonAll_284 : Dc prog_14_method_67_code 284 (.isub) 1 285 := ⟨by decide +kernel, rfl⟩
theorem d_M_reckonAll_285 : Dc prog_14_method_67_code 285 (.laload) 1 286 := ⟨by decide +kernel, rfl⟩
theorem d_M_reckonAll_286 : Dc prog_14_method_67_code 286 (.lsub) 1 287 := ⟨by decide +kernel, rfl⟩
theorem d_M_reckonAll_287 : Dc prog_14_method_67_code 287 (.lastore) 1 288 := ⟨by decide +kernel, rfl⟩
theorem d_M_reckonAll_288 : Dj prog_14_method_67_code 288 (.goto 37) 291 37 325 := ⟨by decide +kernel, rfl, rfl⟩
theorem d_M_reckonAll_291 : Dc prog_14_method_67_code 291 (.aload_n 0) 1 292 := ⟨by decide +kernel, rfl⟩
theorem d_M_reckonAll_292 : Dc prog_14_method_67_code 292 (.getfield 99) 3 295 := ⟨by decide +kernel, rfl⟩
theorem d_M_reckonAll_295 : Dc prog_14_method_67_code 295 (.iload_n 3) 1 296 := ⟨by decide +kernel, rfl⟩
theorem d_M_reckonAll_296 : Dc prog_14_method_67_code 296 (.iconst 1) 1 297 := ⟨by decide +kernel, rfl⟩
theorem d_M_reckonAll_297 : Dc prog_14_method_67_code 297 (.isub) 1 298 := ⟨by decide +kernel, rfl⟩
theorem d_M_reckonAll_298 : Dc prog_14_method_67_code 298 (.laload) 1 299 := ⟨by decide +kernel, rfl⟩
theorem d_M_reckonAll_299 : Dc prog_14_method_67_code 299 (.iload 5) 2 301 := ⟨by decide +kernel, rfl⟩
theorem d_M_reckonAll_301 : Dc prog_14_method_67_code 301 (.bipush 29) 2 303 := ⟨by decide +kernel, rfl⟩
theorem d_M_reckonAll_303 : Dj prog_14_method_67_code 303 (.if_icmp .ne 7) 306 7 310 := ⟨by decide +kernel, rfl, rfl⟩
theorem d_M_reckonAll_306 : Dc prog_14_method_67_code 306 (.lconst 0) 1 307 := ⟨by decide +kernel, rfl⟩
theorem d_M_reckonAll_307 : Dj prog_14_method_67_code 307 (.goto 4) 310 4 311 := ⟨by decide +kernel, rfl, rfl⟩
theorem d_M_reckonAll_310 : Dc prog_14_method_67_code 310 (.lconst 1) 1 311 := ⟨by decide +kernel, rfl⟩
theorem d_M_reckonAll_311 : Dc prog_14_method_67_code 311 (.lcmp) 1 312 := ⟨by decide +kernel, rfl⟩
theorem d_M_reckonAll_312 : Dj prog_14_method_67_code 312 (.ifCond .ne 10) 315 10 322 := ⟨by decide +kernel, rfl, rfl⟩
theorem d_M_reckonAll_315 : Dc prog_14_method_67_code 315 (.iload 6) 2 317 := ⟨by decide +kernel, rfl⟩
theorem d_M_reckonAll_317 : Dc prog_14_method_67_code 317 (.istore 4) 2 319 := ⟨by decide +kernel, rfl⟩
theorem d_M_reckonAll_319 : Dj prog_14_method_67_code 319 (.goto 6) 322 6 325 := ⟨by decide +kernel, rfl, rfl⟩
theorem d_M_reckonAll_322 : Dc prog_14_method_67_code 322 (.iinc 3 (-1)) 3 325 := ⟨by decide +kernel, rfl⟩
theorem d_M_reckonAll_325 : Dj prog_14_method_67_code 325 (.goto (-315)) 328 (-315) 10 := ⟨by decide +kernel, rfl, rfl⟩
theorem d_M_reckonAll_328 : Dc prog_14_method_67_code 328 (.aload_n 0) 1 329 := ⟨by decide +kernel, rfl⟩
theorem d_M_reckonAll_329 : Dc prog_14_method_67_code 329 (.iload_n 3) 1 330 := ⟨by decide +kernel, rfl⟩
theorem d_M_reckonAll_330 : Dj prog_14_method_67_code 330 (.ifCond .le 12) 333 12 342 := ⟨by decide +kernel, rfl, rfl⟩
theorem d_M_reckonAll_333 : Dc prog_14_method_67_code 333 (.aload_n 0) 1 334 := ⟨by decide +kernel, rfl⟩
theorem d_M_reckonAll_334 : Dc prog_14_method_67_code 334 (.getfield 99) 3 337 := ⟨by decide +kernel, rfl⟩
theorem d_M_reckonAll_337 : Dc prog_14_method_67_code 337 (.iconst 0) 1 338 := ⟨by decide +kernel, rfl⟩
theorem d_M_reckonAll_338 : Dc prog_14_method_67_code 338 (.laload) 1 339 := ⟨by decide +kernel, rfl⟩
theorem d_M_reckonAll_339 : Dj prog_14_method_67_code 339 (.goto 4) 342 4 343 := ⟨by decide +kernel, rfl, rfl⟩
theorem d_M_reckonAll_342 : Dc prog_14_method_67_code 342 (.lconst 0) 1 343 := ⟨by decide +kernel, rfl⟩
theorem d_M_reckonAll_343 : Dc prog_14_method_67_code 343 (.putfield 423) 3 346 := ⟨by decide +kernel, rfl⟩
theorem d_M_reckonAll_346 : Dc prog_14_method_67_code 346 (.return_) 1 347 := ⟨by decide +kernel, rfl⟩
theorem fl_M_45 : FL "SubgraphDeskModel" 45 12 24 true (.array .int) (3, 11) := ⟨R_M, F_M, 69, ty_M, rfl, rfl, in_M, tyok_M, nm_M, by decide, gd 1496 (by decide +kernel) rfl, rfl, rfl, rfl⟩
theorem fl_M_48 : FL "SubgraphDeskModel" 48 12 25 true (.array .int) (3, 12) := ⟨R_M, F_M, 69, ty_M, rfl, rfl, in_M, tyok_M, nm_M, by decide, gd 1497 (by decide +kernel) rfl, rfl, rfl, rfl⟩
theorem fl_M_93 : FL "SubgraphDeskModel" 93 12 35 true (.array .long) (3, 18) := ⟨R_M, F_M, 69, ty_M, rfl, rfl, in_M, tyok_M, nm_M, by decide, gd 1507 (by decide +kernel) rfl, rfl, rfl, rfl⟩
theorem fl_M_96 : FL "SubgraphDeskModel" 96 12 36 true (.array .long) (3, 19) := ⟨R_M, F_M, 69, ty_M, rfl, rfl, in_M, tyok_M, nm_M, by decide, gd 1508 (by decide +kernel) rfl, rfl, rfl, rfl⟩
theorem fl_M_99 : FL "SubgraphDeskModel" 99 12 37 true (.array .long) (3, 20) := ⟨R_M, F_M, 69, ty_M, rfl, rfl, in_M, tyok_M, nm_M, by decide, gd 1509 (by decide +kernel) rfl, rfl, rfl, rfl⟩
theorem fl_M_335 : FL "SubgraphDeskModel" 335 12 20 false .boolean (1, 0) := ⟨R_M, F_M, 69, ty_M, rfl, rfl, in_M, tyok_M, nm_M, by decide, gd 1492 (by decide +kernel) rfl, rfl, rfl, rfl⟩
theorem fl_M_412 : FL "SubgraphDeskModel" 412 12 34 false .int (0, 0) := ⟨R_M, F_M, 69, ty_M, rfl, rfl, in_M, tyok_M, nm_M, by decide, gd 1506 (by decide +kernel) rfl, rfl, rfl, rfl⟩
theorem fl_M_423 : FL "SubgraphDeskModel" 423 12 39 false .long (2, 0) := ⟨R_M, F_M, 69, ty_M, rfl, rfl, in_M, tyok_M, nm_M, by decide, gd 1511 (by decide +kernel) rfl, rfl, rfl, rfl⟩
theorem ml_M_415 : Cond.methodLink "SubgraphDeskModel" 415 m_M_reckon.1 ∈ lw_gd := gd 1770 (by decide +kernel) rfl
theorem k_M_419 : Cond.constantLong "SubgraphDeskModel" 419 (-1000000000) ∈ lw_gd := gd 1774 (by decide +kernel) rfl
theorem k_M_421 : Cond.constantLong "SubgraphDeskModel" 421 (1000000000) ∈ lw_gd := gd 1775 (by decide +kernel) rfl
/-- while a text is reckoned -/
def FrE (w w2 : Mem) : Prop := (∀ a, a ≠ 89 → rI w2 a = rI w a) ∧ (∀ k, k ≠ 38 → rI w2 89 k = rI w 89 k) ∧ (∀ a, a ≠ 89 → a ≠ 109 → rJ w2 a = rJ w a) ∧ (∀ k, k ≠ 39 → k ≠ 40 → rJ w2 89 k = rJ w 89 k) ∧ w2.2.2 = w.2.2
theorem FrE.rf (w : Mem) : FrE w w := ⟨fun _ _ => rfl, fun _ _ => rfl, fun _ _ _ => rfl, fun _ _ _ => rfl, rfl⟩
theorem FrE.tr {a b c : Mem} (h : FrE a b) (h2 : FrE b c) : FrE a c := ⟨fun x hx => (h2.1 x hx).trans (h.1 x hx), fun x hx => (h2.2.1 x hx).trans (h.2.1 x hx), fun x hx hy => (h2.2.2.1 x hx hy).trans (h.2.2.1 x hx hy), fun x hx hy => (h2.2.2.2.1 x hx hy).trans (h.2.2.2.1 x hx hy), h2.2.2.2.2.trans h.2.2.2.2⟩
theorem FrE.I {w w2 : Mem} {x : Int32} (h : FrE w w2) : FrE w (sI w2 89 38 x) := ⟨fun a ha => by rw [rI_sI_ne _ _ _ ha]; exact h.1 a ha, fun k hk => by rw [rI_sI, upd_eq, if_neg hk]; exact h.2.1 k hk, h.2.2⟩
theorem FrE.J {w w2 : Mem} {k : Nat} {x : Int64} (h : FrE w w2) : FrE w (sJ w2 109 k x) := ⟨h.1, h.2.1, fun a h1 h2 => by rw [rJ_sJ_ne _ _ _ h2]; exact h.2.2.1 a h1 h2, fun k hk hk2 => by rw [rJ_sJ_ne _ _ _ (by decide)]; exact h.2.2.2.1 k hk hk2, h.2.2.2.2⟩
theorem FrE.J9 {w w2 : Mem} {x : Int64} {j : Nat} (hj : j = 39 ∨ j = 40) (h : FrE w w2) : FrE w (sJ w2 89 j x) := ⟨h.1, h.2.1, fun a h1 h2 => by rw [rJ_sJ_ne _ _ _ h1]; exact h.2.2.1 a h1 h2, fun k hk hk2 => by rw [rJ_sJ, updL_eq, if_neg (by omega)]; exact h.2.2.2.1 k hk hk2, h.2.2.2.2⟩
theorem FrE.M {w w2 : Mem} (h : FrE w w2) : FrM w w2 := ⟨fun a ha => h.1 a (by omega), fun a ha => h.2.2.1 a (by omega) (by omega), h.2.2.2.2⟩
theorem FrE.S {w w2 : Mem} (h : FrE w w2) : Scr w w2 := ⟨h.M, fun a ha => h.1 a (by rintro rfl; exact absurd ha (by decide)), fun k hk => h.2.1 k (by rintro rfl; exact absurd hk (by decide))⟩
/-- the pile of what is reckoned, the topmost first -/
def StR (g : Nat → Int64) : List Int → Prop
  | [] => True
  | v :: s => g s.length = lI v ∧ bd v ∧ StR g s
theorem StR.cong {g g2 : Nat → Int64} : ∀ {s : List Int}, StR g s → (∀ i, i < s.length → g2 i = g i) → StR g2 s
  | [], _, _ => trivial
  | v :: s, ⟨h1, h2, h3⟩, e => ⟨by rw [e _ (by rw [List.length_cons]; omega)]; exact h1, h2, h3.cong (fun i hi => e i (by rw [List.length_cons]; omega))⟩
theorem StR.push {g : Nat → Int64} {s : List Int} {v : Int} (h : StR g s) (hv : bd v) : StR (vp_updL g s.length (lI v)) (v :: s) := ⟨by rw [updL_eq, if_pos rfl], hv, h.cong (fun i hi => by rw [updL_eq, if_neg (by omega)])⟩
theorem mit_s {op arg : Nat → Nat} {env : Nat → Int} {b n k : Nat} {st : List Int} (h : k < b) : mit op arg env b (n + 1) (k, st) = (mstep op arg env (k, st)).bind (mit op arg env b n) := if_neg (by show ¬ b ≤ k; omega)
theorem mit_e {op arg : Nat → Nat} {env : Nat → Int} {b n k : Nat} {st : List Int} (h : b ≤ k) : mit op arg env b n (k, st) = some (k, st) := by
  cases n with
  | zero => rfl
  | succ n => exact if_pos h
theorem mit_stuck {op arg : Nat → Nat} {env : Nat → Int} {b k : Nat} {st : List Int} (h : mstep op arg env (k, st) = some (k, st)) (hk : k < b) : ∀ n, mit op arg env b n (k, st) = some (k, st)
  | 0 => rfl
  | n + 1 => by rw [mit_s hk, h]; exact mit_stuck h hk n
/-- it ends with one word on the pile, or nowhere -/
abbrev rsF (b : Nat) (r : Option Int) : Option (Nat × List Int) := r.map (fun v => (b, [v]))
theorem rs_end {b k : Nat} {st : List Int} {r : Option Int} (h : some (k, st) = rsF b r) : ∃ v, r = some v ∧ k = b ∧ st = [v] := by
  cases r with
  | none => cases h
  | some v =>
    have h2 : (k, st) = (b, [v]) := Option.some.inj h
    injection h2 with h3 h4
    exact ⟨v, rfl, h3, h4⟩
section
variable {op arg : Nat → Nat} {env : Nat → Int} {b n k : Nat} {st : List Int} {r : Option Int}
theorem ms_lit (h : op k = 0) : mstep op arg env (k, st) = some (k + 1, (arg k : Int) :: st) := if_pos h
theorem ms_word (h : ¬ op k = 0) (h2 : op k < 20) : mstep op arg env (k, st) = some (k + 1, env (if op k = 6 then 20 + arg k else op k) :: st) := (if_neg h).trans (if_pos h2)
theorem ms_two {v u : Int} {s : List Int} (h : 20 ≤ op k) (h2 : op k < 28) : mstep op arg env (k, v :: u :: s) = (comb (op k) u v).map (fun z => (k + 1, z :: s)) := (if_neg (show ¬ op k = 0 by omega)).trans ((if_neg (show ¬ op k < 20 by omega)).trans (if_pos h2))
theorem ms_not {v : Int} {s : List Int} (h : op k = 28) : mstep op arg env (k, v :: s) = some (k + 1, (1 - v) :: s) := (if_neg (show ¬ op k = 0 by omega)).trans ((if_neg (show ¬ op k < 20 by omega)).trans ((if_neg (show ¬ op k < 28 by omega)).trans (if_pos h)))
theorem ms_jump {v : Int} {s : List Int} (h : 28 < op k) : mstep op arg env (k, v :: s) = (if v = (if op k = 29 then 0 else 1) then some (arg k, v :: s) else some (k + 1, s)) := (if_neg (show ¬ op k = 0 by omega)).trans ((if_neg (show ¬ op k < 20 by omega)).trans ((if_neg (show ¬ op k < 28 by omega)).trans (if_neg (show ¬ op k = 28 by omega))))
theorem has_one (h : 20 ≤ op k) (hk : k < b) (hm : mit op arg env b n (k, st) = rsF b r) : ∃ v s, st = v :: s := by
  cases st with
  | cons v s => exact ⟨v, s, rfl⟩
  | nil =>
    have e : mstep op arg env (k, []) = some (k, []) := (if_neg (show ¬ op k = 0 by omega)).trans (if_neg (show ¬ op k < 20 by omega))
    rw [mit_stuck e hk n] at hm
    obtain ⟨v, -, h2, -⟩ := rs_end hm
    omega
theorem has_two (h : 20 ≤ op k) (h2 : op k < 28) (hk : k < b) (hm : mit op arg env b n (k, st) = rsF b r) : ∃ v u s, st = v :: u :: s := by
  obtain ⟨v, s, rfl⟩ := has_one h hk hm
  cases s with
  | cons u s => exact ⟨v, u, s, rfl⟩
  | nil =>
    have e : mstep op arg env (k, [v]) = some (k, [v]) := (if_neg (show ¬ op k = 0 by omega)).trans ((if_neg (show ¬ op k < 20 by omega)).trans (if_pos h2))
    rw [mit_stuck e hk n] at hm
    obtain ⟨v, -, h2, -⟩ := rs_end hm
    omega
theorem st_1 {x : Nat × List Int} (hm : mit op arg env b (n + 1) (k, st) = rsF b r) (hk : k < b) (e : mstep op arg env (k, st) = some x) : mit op arg env b n x = rsF b r := by
  rw [mit_s hk, e] at hm
  exact hm
theorem rs_none (h : none = rsF b r) : r = none := by
  cases r with
  | none => rfl
  | some v => cases h
theorem st_0 (hm : mit op arg env b (n + 1) (k, st) = rsF b r) (hk : k < b) (e : mstep op arg env (k, st) = none) : r = none := by
  rw [mit_s hk, e] at hm
  exact rs_none hm
end
theorem StR.w {w : Mem} {s : List Int} {v : Int} (h : StR (rJ w 109) s) (hv : bd v) : StR (rJ (sJ w 109 s.length (lI v)) 109) (v :: s) := by
  rw [rJ_sJ]
  exact h.push hv
theorem StR.w3 {w : Mem} {s : List Int} {v : Int} {x y : Int32} (h : StR (rJ w 109) s) (hv : bd v) : StR (rJ (sI (sJ (sI w 89 38 x) 109 s.length (lI v)) 89 38 y) 109) (v :: s) := by
  show StR (rJ (sJ (sI w 89 38 x) 109 s.length (lI v)) 109) (v :: s)
  rw [rJ_sJ]
  exact h.push hv
/-- what is reckoned stands where it is looked for -/
def EvP (r : Option Int) (w2 : Mem) : Prop := match r with
  | none => rI w2 89 38 = nI 1
  | some v => rI w2 89 38 = nI 0 ∧ rJ w2 89 39 = lI v ∧ bd v
theorem jump_v {v : Int} {o : Nat} (hv : bd v) (ho : 28 < o) (h : (o = 29 → lI v = lN 0) ∧ (¬ o = 29 → lI v = lN 1)) : v = (if o = 29 then 0 else 1) := by
  split
  · exact (lI_eq (b := 0) (by omega) (by omega)).mp (h.1 (by assumption))
  · exact (lI_eq (b := 1) (by omega) (by omega)).mp (h.2 (by assumption))
theorem jump_n {v : Int} {o : Nat} (hv : bd v) (ho : 28 < o) (h : (o = 29 → ¬ lI v = lN 0) ∧ (¬ o = 29 → ¬ lI v = lN 1)) : ¬ v = (if o = 29 then 0 else 1) := by
  split
  · exact fun z => h.1 (by assumption) (by rw [z]; rfl)
  · exact fun z => h.2 (by assumption) (by rw [z]; rfl)
theorem c_M_reckonAllL {E : EV} {w : Mem} {a b : Nat} {op arg : Nat → Nat} {len law : Nat} {env : Nat → Int} {f : Den} (hseg : SegM op arg a b f) (hok : ∀ j, j < b → op j < 31 ∧ arg j < 1001 ∧ (29 ≤ op j → j < arg j)) (hb4 : b ≤ 400) (hlaw : rI w 89 34 = nI law) (hl2 : law + 98 + 2 * b ≤ 5510) (hcode : ∀ j, j < b → rI w 91 (law + 98 + 2 * j) = nI (op j) ∧ rI w 91 (law + 98 + 2 * j + 1) = nI (arg j)) (hord : rI w 89 20 = nI 0) (hwd : ∀ j, j < b → 0 < op j → op j < 20 → op j < 13 ∧ rJ w 107 (op j) = lI (env (if op j = 6 then 20 + arg j else op j)) ∧ bd (env (if op j = 6 then 20 + arg j else op j))) : T E m_M_reckonAll 1 0 0 [.ref 89, .int (nI a), .int (nI b)] w (fun r w2 => r = none ∧ FrE w w2 ∧ EvP (f env) w2) := by
  refine T_of (L := [.ref 89, .int (nI a), .int (nI b), un, un, un, un]) cf_M_reckonAll rfl (Nat.le_of_ble_eq_true rfl) (fun X hX hF => ?_)
  have kB : ∀ (c k : Nat) (wk : Mem), c < 500 → k < 2000 → FrE w wk → rI wk 89 38 = nI 1 → f env = none → G0 E X 0 0 10 [.ref 89, .int (nI a), .int (nI b), .int (nI c), .int (nI k), un, un] [] wk := by
    intro c k wk q0 q1 q2 qb qr
    refine g_iload4 hX d_M_reckonAll_10 ?_
    refine g_iload2 hX d_M_reckonAll_12 ?_
    refine g_icmpN_ge hX d_M_reckonAll_13 (by omega) (by omega) (fun c0 => ?_) (fun c0 => ?_)
    · refine g_aload0 hX d_M_reckonAll_328 ?_
      refine g_iload3 hX d_M_reckonAll_329 ?_
      refine g_if_le hX d_M_reckonAll_330 (fun c1 => ?_) (fun c1 => ?_)
      · refine g_lconst (v := lN 0) hX d_M_reckonAll_342 rfl ?_
        refine g_putJ hX d_M_reckonAll_343 fl_M_423 (lv_89 _) ?_
        refine g_vret hX hF d_M_reckonAll_346 (by omega) (by omega) ?_
        exact ⟨rfl, q2.J9 (by decide), by rw [qr]; exact qb⟩
      · refine g_aload0 hX d_M_reckonAll_333 ?_
        refine g_getF hX d_M_reckonAll_334 fl_M_99 (lv_89 _) ?_
        refine g_iconst (v := nI 0) hX d_M_reckonAll_337 rfl ?_
        refine g_lald hX d_M_reckonAll_338 (lv_109 _) rfl (by decide) ?_
        refine g_goto hX d_M_reckonAll_339 ?_
        refine g_putJ hX d_M_reckonAll_343 fl_M_423 (lv_89 _) ?_
        refine g_vret hX hF d_M_reckonAll_346 (by omega) (by omega) ?_
        exact ⟨rfl, q2.J9 (by decide), by rw [qr]; exact qb⟩
    · refine g_aload0 hX d_M_reckonAll_16 ?_
      refine g_getZ hX d_M_reckonAll_17 fl_M_409 (lv_89 _) ?_
      refine g_topi qb ?_
      refine g_if_ne hX d_M_reckonAll_20 (fun e20 => ?_) (fun h => absurd h (by decide))
      refine g_aload0 hX d_M_reckonAll_328 ?_
      refine g_iload3 hX d_M_reckonAll_329 ?_
      refine g_if_le hX d_M_reckonAll_330 (fun c3 => ?_) (fun c3 => ?_)
      · refine g_lconst (v := lN 0) hX d_M_reckonAll_342 rfl ?_
        refine g_putJ hX d_M_reckonAll_343 fl_M_423 (lv_89 _) ?_
        refine g_vret hX hF d_M_reckonAll_346 (by omega) (by omega) ?_
        exact ⟨rfl, q2.J9 (by decide), by rw [qr]; exact qb⟩
      · refine g_aload0 hX d_M_reckonAll_333 ?_
        refine g_getF hX d_M_reckonAll_334 fl_M_99 (lv_89 _) ?_
        refine g_iconst (v := nI 0) hX d_M_reckonAll_337 rfl ?_
        refine g_lald hX d_M_reckonAll_338 (lv_109 _) rfl (by decide) ?_
        refine g_goto hX d_M_reckonAll_339 ?_
        refine g_putJ hX d_M_reckonAll_343 fl_M_423 (lv_89 _) ?_
        refine g_vret hX hF d_M_reckonAll_346 (by omega) (by omega) ?_
        exact ⟨rfl, q2.J9 (by decide), by rw [qr]; exact qb⟩
  have kE : ∀ (k : Nat) (st : List Int) (wk : Mem), StR (rJ wk 109) st → FrE w wk → rI wk 89 38 = nI 0 → some (k, st) = rsF b (f env) → G0 E X 0 0 328 [.ref 89, .int (nI a), .int (nI b), .int (nI st.length), .int (nI k), un, un] [] wk := by
    intro k st wk hst q3 q4 q5
    obtain ⟨v, hr, rfl, rfl⟩ := rs_end q5
    refine g_aload0 hX d_M_reckonAll_328 ?_
    refine g_iload3 hX d_M_reckonAll_329 ?_
    refine g_if_le hX d_M_reckonAll_330 (fun h => absurd h (by show ¬ nI 1 ≤ 0; decide)) (fun c0 => ?_)
    refine g_aload0 hX d_M_reckonAll_333 ?_
    refine g_getF hX d_M_reckonAll_334 fl_M_99 (lv_89 _) ?_
    refine g_iconst (v := nI 0) hX d_M_reckonAll_337 rfl ?_
    refine g_lald hX d_M_reckonAll_338 (lv_109 _) rfl (by decide) ?_
    refine g_topl hst.1 ?_
    refine g_goto hX d_M_reckonAll_339 ?_
    refine g_putJ hX d_M_reckonAll_343 fl_M_423 (lv_89 _) ?_
    refine g_vret hX hF d_M_reckonAll_346 (by omega) (by omega) ?_
    exact ⟨rfl, q3.J9 (by decide), by rw [hr]; exact ⟨q4, by rw [rJ_sJ, updL_eq, if_pos rfl], hst.2.1⟩⟩
  have lp : ∀ (n k : Nat) (st : List Int) (wk : Mem), mit op arg env b n (k, st) = rsF b (f env) → StR (rJ wk 109) st → FrE w wk → rI wk 89 38 = nI 0 → st.length + a ≤ k → k < 1001 → G0 E X 0 0 10 [.ref 89, .int (nI a), .int (nI b), .int (nI st.length), .int (nI k), un, un] [] wk := by
    intro n
    induction n with
    | zero =>
      intro k st wk q1 q2 q3 q4 q5 q6
      have hbk : b = k := by
        obtain ⟨v, -, h2, -⟩ := rs_end q1
        exact h2.symm
      refine g_iload4 hX d_M_reckonAll_10 ?_
      refine g_iload2 hX d_M_reckonAll_12 ?_
      refine g_icmpN_ge hX d_M_reckonAll_13 (by omega) (by omega) (fun e13 => ?_) (fun h => absurd h (by omega))
      exact kE k st wk q2 q3 q4 q1
    | succ n ih =>
      intro k st wk q1 q2 q3 q4 q5 q6
      refine g_iload4 hX d_M_reckonAll_10 ?_
      refine g_iload2 hX d_M_reckonAll_12 ?_
      refine g_icmpN_ge hX d_M_reckonAll_13 (by omega) (by omega) (fun e13 => ?_) (fun e13 => ?_)
      · exact kE k st wk q2 q3 q4 ((mit_e (by omega)).symm.trans q1)
      · have hkb : k < b := by omega
        have hk1 := hok k hkb
        refine g_aload0 hX d_M_reckonAll_16 ?_
        refine g_getZ hX d_M_reckonAll_17 fl_M_409 (lv_89 _) ?_
        refine g_topi q4 ?_
        refine g_if_ne hX d_M_reckonAll_20 (fun h => absurd rfl h) (fun c1 => ?_)
        refine g_aload0 hX d_M_reckonAll_23 ?_
        refine g_getZ hX d_M_reckonAll_24 fl_M_335 (lv_89 _) ?_
        refine g_topi (show rI wk 89 20 = nI 0 by rw [q3.2.1 20 (by decide)]; exact hord) ?_
        refine g_if_eq hX d_M_reckonAll_27 (fun c2 => ?_) (fun h => absurd rfl h)
        refine g_aload0 hX d_M_reckonAll_40 ?_
        refine g_getF hX d_M_reckonAll_41 fl_M_13 (lv_89 _) ?_
        refine g_aload0 hX d_M_reckonAll_44 ?_
        refine g_getI hX d_M_reckonAll_45 fl_M_412 (lv_89 _) ?_
        refine g_topi (show rI wk 89 34 = nI law by rw [q3.2.1 34 (by decide)]; exact hlaw) ?_
        refine g_bipush (v := nI 98) hX d_M_reckonAll_48 rfl ?_
        refine g_iaddN hX d_M_reckonAll_50 ?_
        refine g_iconst (v := nI 2) hX d_M_reckonAll_51 rfl ?_
        refine g_iload4 hX d_M_reckonAll_52 ?_
        refine g_imulN hX d_M_reckonAll_54 ?_
        refine g_iaddN hX d_M_reckonAll_55 ?_
        refine g_iald hX d_M_reckonAll_56 (lv_91 _) rfl (by omega) ?_
        refine g_topi (show rI wk 91 (law + 98 + 2 * k) = nI (op k) by rw [q3.1 91 (by decide)]; exact (hcode k hkb).1) ?_
        refine g_istore5 hX d_M_reckonAll_57 rfl (by decide) ?_
        refine g_aload0 hX d_M_reckonAll_59 ?_
        refine g_getZ hX d_M_reckonAll_60 fl_M_335 (lv_89 _) ?_
        refine g_topi (show rI wk 89 20 = nI 0 by rw [q3.2.1 20 (by decide)]; exact hord) ?_
        refine g_if_eq hX d_M_reckonAll_63 (fun c3 => ?_) (fun h => absurd rfl h)
        refine g_aload0 hX d_M_reckonAll_76 ?_
        refine g_getF hX d_M_reckonAll_77 fl_M_13 (lv_89 _) ?_
        refine g_aload0 hX d_M_reckonAll_80 ?_
        refine g_getI hX d_M_reckonAll_81 fl_M_412 (lv_89 _) ?_
        refine g_topi (show rI wk 89 34 = nI law by rw [q3.2.1 34 (by decide)]; exact hlaw) ?_
        refine g_bipush (v := nI 98) hX d_M_reckonAll_84 rfl ?_
        refine g_iaddN hX d_M_reckonAll_86 ?_
        refine g_iconst (v := nI 2) hX d_M_reckonAll_87 rfl ?_
        refine g_iload4 hX d_M_reckonAll_88 ?_
        refine g_imulN hX d_M_reckonAll_90 ?_
        refine g_iaddN hX d_M_reckonAll_91 ?_
        refine g_iconst (v := nI 1) hX d_M_reckonAll_92 rfl ?_
        refine g_iaddN hX d_M_reckonAll_93 ?_
        refine g_iald hX d_M_reckonAll_94 (lv_91 _) rfl (by omega) ?_
        refine g_topi (show rI wk 91 (law + 98 + 2 * k + 1) = nI (arg k) by rw [q3.1 91 (by decide)]; exact (hcode k hkb).2) ?_
        refine g_istore6 hX d_M_reckonAll_95 rfl (by decide) ?_
        refine g_iincN4 hX d_M_reckonAll_97 rfl (by decide) ?_
        refine g_iload5 hX d_M_reckonAll_100 ?_
        refine g_bipush (v := nI 20) hX d_M_reckonAll_102 rfl ?_
        refine g_icmpN_ge hX d_M_reckonAll_104 (by omega) (by omega) (fun e104 => ?_) (fun e104 => ?_)
        · refine g_iload5 hX d_M_reckonAll_186 ?_
          refine g_bipush (v := nI 28) hX d_M_reckonAll_188 rfl ?_
          refine g_icmpN_ge hX d_M_reckonAll_190 (by omega) (by omega) (fun e190 => ?_) (fun e190 => ?_)
          · obtain ⟨v, s, rfl⟩ := has_one (by omega) hkb q1
            have hlen : (v :: s).length = s.length + 1 := rfl
            obtain ⟨hs1, hs2, hs3⟩ := q2
            refine g_iload5 hX d_M_reckonAll_263 ?_
            refine g_bipush (v := nI 28) hX d_M_reckonAll_265 rfl ?_
            refine g_icmpN_ne hX d_M_reckonAll_267 (by omega) (by omega) (fun e267 => ?_) (fun e267 => ?_)
            · refine g_aload0 hX d_M_reckonAll_291 ?_
              refine g_getF hX d_M_reckonAll_292 fl_M_99 (lv_89 _) ?_
              refine g_iload3 hX d_M_reckonAll_295 ?_
              refine g_iconst (v := nI 1) hX d_M_reckonAll_296 rfl ?_
              refine g_isubN hX d_M_reckonAll_297 (by omega) ?_
              refine g_lald hX d_M_reckonAll_298 (lv_109 _) rfl (by omega) ?_
              refine g_topl (show rJ wk 109 (s.length + 1 - 1) = lI v from hs1) ?_
              refine g_iload5 hX d_M_reckonAll_299 ?_
              refine g_bipush (v := nI 29) hX d_M_reckonAll_301 rfl ?_
              refine g_icmpN_ne hX d_M_reckonAll_303 (by omega) (by omega) (fun e303 => ?_) (fun e303 => ?_)
              · refine g_lconst (v := lN 1) hX d_M_reckonAll_310 rfl ?_
                refine g_lcmp_ne hX d_M_reckonAll_311 d_M_reckonAll_312 (fun e312 => ?_) (fun e312 => ?_)
                · refine g_iinc3 hX d_M_reckonAll_322 (v := nI s.length) (nI_dec s.length) rfl (by decide) ?_
                  refine g_goto hX d_M_reckonAll_325 ?_
                  refine g_fget 5 ?_
                  refine g_fget 6 ?_
                  exact ih (k + 1) s _ (st_1 q1 hkb ((ms_jump (by omega)).trans (if_neg (jump_n hs2 (by omega) ⟨fun z => absurd z e303, fun _ => e312⟩)))) hs3 q3 q4 (by omega) (by omega)
                · refine g_iload6 hX d_M_reckonAll_315 ?_
                  refine g_istore4 hX d_M_reckonAll_317 rfl (by decide) ?_
                  refine g_goto hX d_M_reckonAll_319 ?_
                  refine g_goto hX d_M_reckonAll_325 ?_
                  refine g_fget 5 ?_
                  refine g_fget 6 ?_
                  exact ih (arg k) (v :: s) _ (st_1 q1 hkb ((ms_jump (by omega)).trans (if_pos (jump_v hs2 (by omega) ⟨fun z => absurd z e303, fun _ => e312⟩)))) ⟨hs1, hs2, hs3⟩ q3 q4 (by have := hk1.2.2 (by omega); omega) (by omega)
              · refine g_lconst (v := lN 0) hX d_M_reckonAll_306 rfl ?_
                refine g_goto hX d_M_reckonAll_307 ?_
                refine g_lcmp_ne hX d_M_reckonAll_311 d_M_reckonAll_312 (fun e312 => ?_) (fun e312 => ?_)
                · refine g_iinc3 hX d_M_reckonAll_322 (v := nI s.length) (nI_dec s.length) rfl (by decide) ?_
                  refine g_goto hX d_M_reckonAll_325 ?_
                  refine g_fget 5 ?_
                  refine g_fget 6 ?_
                  exact ih (k + 1) s _ (st_1 q1 hkb ((ms_jump (by omega)).trans (if_neg (jump_n hs2 (by omega) ⟨fun _ => e312, fun z => absurd e303 z⟩)))) hs3 q3 q4 (by omega) (by omega)
                · refine g_iload6 hX d_M_reckonAll_315 ?_
                  refine g_istore4 hX d_M_reckonAll_317 rfl (by decide) ?_
                  refine g_goto hX d_M_reckonAll_319 ?_
                  refine g_goto hX d_M_reckonAll_325 ?_
                  refine g_fget 5 ?_
                  refine g_fget 6 ?_
                  exact ih (arg k) (v :: s) _ (st_1 q1 hkb ((ms_jump (by omega)).trans (if_pos (jump_v hs2 (by omega) ⟨fun _ => e312, fun z => absurd e303 z⟩)))) ⟨hs1, hs2, hs3⟩ q3 q4 (by have := hk1.2.2 (by omega); omega) (by omega)
            · refine g_aload0 hX d_M_reckonAll_270 ?_
              refine g_getF hX d_M_reckonAll_271 fl_M_99 (lv_89 _) ?_
              refine g_iload3 hX d_M_reckonAll_274 ?_
              refine g_iconst (v := nI 1) hX d_M_reckonAll_275 rfl ?_
              refine g_isubN hX d_M_reckonAll_276 (by omega) ?_
              refine g_lconst (v := lN 1) hX d_M_reckonAll_277 rfl ?_
              refine g_aload0 hX d_M_reckonAll_278 ?_
              refine g_getF hX d_M_reckonAll_279 fl_M_99 (lv_89 _) ?_
              refine g_iload3 hX d_M_reckonAll_282 ?_
              refine g_iconst (v := nI 1) hX d_M_reckonAll_283 rfl ?_
              refine g_isubN hX d_M_reckonAll_284 (by omega) ?_
              refine g_lald hX d_M_reckonAll_285 (lv_109 _) rfl (by omega) ?_
              refine g_topl (show rJ wk 109 (s.length + 1 - 1) = lI v from hs1) ?_
              refine g_lsub hX d_M_reckonAll_286 ?_
              refine g_topl (y := lI (1 - v)) (lI_sub 1 v) ?_
              refine g_last hX d_M_reckonAll_287 (lv_109 _) rfl (by omega) ?_
              refine g_goto hX d_M_reckonAll_288 ?_
              refine g_goto hX d_M_reckonAll_325 ?_
              refine g_fget 5 ?_
              refine g_fget 6 ?_
              exact ih (k + 1) ((1 - v) :: s) _ (st_1 q1 hkb (ms_not (by omega))) (hs3.w (by omega)) q3.J q4 (by rw [List.length_cons]; omega) (by omega)
          · obtain ⟨v, u, s2, rfl⟩ := has_two (by omega) e190 hkb q1
            have hlen : (v :: u :: s2).length = s2.length + 2 := rfl
            obtain ⟨hs1, hs2, hs3, hs4, hs5⟩ := q2
            refine g_iinc3 hX d_M_reckonAll_193 (v := nI (s2.length + 1)) (nI_dec (s2.length + 1)) rfl (by decide) ?_
            refine g_aload0 hX d_M_reckonAll_196 ?_
            refine g_getF hX d_M_reckonAll_197 fl_M_99 (lv_89 _) ?_
            refine g_iload3 hX d_M_reckonAll_200 ?_
            refine g_iconst (v := nI 1) hX d_M_reckonAll_201 rfl ?_
            refine g_isubN hX d_M_reckonAll_202 (by omega) ?_
            refine g_aload0 hX d_M_reckonAll_203 ?_
            refine g_iload5 hX d_M_reckonAll_204 ?_
            refine g_aload0 hX d_M_reckonAll_206 ?_
            refine g_getF hX d_M_reckonAll_207 fl_M_99 (lv_89 _) ?_
            refine g_iload3 hX d_M_reckonAll_210 ?_
            refine g_iconst (v := nI 1) hX d_M_reckonAll_211 rfl ?_
            refine g_isubN hX d_M_reckonAll_212 (by omega) ?_
            refine g_lald hX d_M_reckonAll_213 (lv_109 _) rfl (by omega) ?_
            refine g_topl (show rJ wk 109 (s2.length + 1 - 1) = lI u from hs3) ?_
            refine g_aload0 hX d_M_reckonAll_214 ?_
            refine g_getF hX d_M_reckonAll_215 fl_M_99 (lv_89 _) ?_
            refine g_iload3 hX d_M_reckonAll_218 ?_
            refine g_lald hX d_M_reckonAll_219 (lv_109 _) rfl (by omega) ?_
            refine g_topl (show rJ wk 109 (s2.length + 1) = lI v from hs1) ?_
            refine g_callV (As := [_, _, _]) hX hF.1 d_M_reckonAll_220 ml_M_415 cf_M_reckon cv_M_reckon rfl rfl (c_M_reckon (by omega) (by omega) hs4 hs2 q4) (rcv_obj hX (lv_89 _) rfl rfl) (by omega) (by omega) (by omega) (Nat.le_of_ble_eq_true rfl) ?_
            rintro _ w2 ⟨z, e, rfl, rfl, he2, hz⟩
            show G0 _ _ _ _ _ _ _ _
            refine g_last hX d_M_reckonAll_223 (lv_109 _) rfl (by omega) ?_
            refine g_aload0 hX d_M_reckonAll_224 ?_
            refine g_aload0 hX d_M_reckonAll_225 ?_
            refine g_getZ hX d_M_reckonAll_226 fl_M_409 (lv_89 _) ?_
            refine g_topi (y := nI e) (show rI (sI wk 89 38 (nI e)) 89 38 = nI e by rw [rI_sI, upd_eq, if_pos rfl]) ?_
            refine g_if_ne hX d_M_reckonAll_229 (fun e229 => ?_) (fun e229 => ?_)
            · have e229 : e = 1 := by
                by_cases z : e = 0
                · exact absurd (by rw [z]; rfl) e229
                · omega
              refine g_iconst (v := nI 1) hX d_M_reckonAll_252 rfl ?_
              refine g_goto hX d_M_reckonAll_253 ?_
              refine g_putZ hX d_M_reckonAll_257 fl_M_409 (lv_89 _) (by first | exact Or.inl rfl | exact Or.inr rfl) ?_
              refine g_goto hX d_M_reckonAll_260 ?_
              refine g_goto hX d_M_reckonAll_325 ?_
              refine g_fget 5 ?_
              refine g_fget 6 ?_
              exact kB _ (k + 1) _ (by omega) (by omega) (q3.I.J.I) (by rw [rI_sI, upd_eq, if_pos rfl]) (st_0 q1 hkb ((ms_two (by omega) e190).trans (by rw [show comb (op k) u v = none from (hz.resolve_right (by omega)).2]; rfl)))
            · have e229 : e = 0 := nI_inj (by omega) (by decide) e229
              have hz2 : chk z = comb (op k) u v ∧ -2000000000000000000 ≤ z ∧ z ≤ 2000000000000000000 := by
                rcases hz with hz | hz
                · omega
                · exact hz.2
              refine g_aload0 hX d_M_reckonAll_232 ?_
              refine g_getF hX d_M_reckonAll_233 fl_M_99 (lv_89 _) ?_
              refine g_iload3 hX d_M_reckonAll_236 ?_
              refine g_iconst (v := nI 1) hX d_M_reckonAll_237 rfl ?_
              refine g_isubN hX d_M_reckonAll_238 (by omega) ?_
              refine g_lald hX d_M_reckonAll_239 (lv_109 _) rfl (by omega) ?_
              refine g_topl (y := lI z) (by rw [rJ_sJ, updL_eq, if_pos rfl]) ?_
              refine g_ldc2 (v := -1000000000) hX d_M_reckonAll_240 k_M_419 rfl ?_
              refine g_ldc2 (v := lN 1000000000) hX d_M_reckonAll_243 k_M_421 rfl ?_
              refine g_callS (As := [_, _, _]) hX hF.1 d_M_reckonAll_246 ml_M_190 cf_M_in cs_M_in rfl (c_M_in) (by omega) (by omega) (by omega) (Nat.le_of_ble_eq_true rfl) ?_
              refine ret_k ?_
              refine g_ifB_ne hX d_M_reckonAll_249 (fun e249 => ?_) (fun e249 => ?_)
              · have e249 := (in_chk hz2.2).mp e249
                refine g_iconst (v := nI 0) hX d_M_reckonAll_256 rfl ?_
                refine g_putZ hX d_M_reckonAll_257 fl_M_409 (lv_89 _) (by first | exact Or.inl rfl | exact Or.inr rfl) ?_
                refine g_goto hX d_M_reckonAll_260 ?_
                refine g_goto hX d_M_reckonAll_325 ?_
                refine g_fget 5 ?_
                refine g_fget 6 ?_
                exact ih (k + 1) (z :: s2) _ (st_1 q1 hkb ((ms_two (by omega) e190).trans (by rw [← hz2.1, chk_y e249]; rfl))) (hs5.w3 (by omega)) (q3.I.J.I) (by rw [rI_sI, upd_eq, if_pos rfl]) (by rw [List.length_cons]; omega) (by omega)
              · have e249 := mt (in_chk hz2.2).mpr e249
                refine g_iconst (v := nI 1) hX d_M_reckonAll_252 rfl ?_
                refine g_goto hX d_M_reckonAll_253 ?_
                refine g_putZ hX d_M_reckonAll_257 fl_M_409 (lv_89 _) (by first | exact Or.inl rfl | exact Or.inr rfl) ?_
                refine g_goto hX d_M_reckonAll_260 ?_
                refine g_goto hX d_M_reckonAll_325 ?_
                refine g_fget 5 ?_
                refine g_fget 6 ?_
                exact kB _ (k + 1) _ (by omega) (by omega) (q3.I.J.I) (by rw [rI_sI, upd_eq, if_pos rfl]) (st_0 q1 hkb ((ms_two (by omega) e190).trans (by rw [show comb (op k) u v = none from hz2.1.symm.trans (chk_n e249)]; rfl)))
        · refine g_aload0 hX d_M_reckonAll_107 ?_
          refine g_getF hX d_M_reckonAll_108 fl_M_99 (lv_89 _) ?_
          refine g_iload3 hX d_M_reckonAll_111 ?_
          refine g_iload5 hX d_M_reckonAll_112 ?_
          refine g_if_ne hX d_M_reckonAll_114 (fun e114 => ?_) (fun e114 => ?_)
          · have e114 : ¬ op k = 0 := fun z => e114 (by rw [z]; rfl)
            refine g_aload0 hX d_M_reckonAll_123 ?_
            refine g_getZ hX d_M_reckonAll_124 fl_M_335 (lv_89 _) ?_
            refine g_topi (show rI wk 89 20 = nI 0 by rw [q3.2.1 20 (by decide)]; exact hord) ?_
            refine g_if_ne hX d_M_reckonAll_127 (fun h => absurd rfl h) (fun c13 => ?_)
            refine g_aload0 hX d_M_reckonAll_130 ?_
            refine g_getF hX d_M_reckonAll_131 fl_M_93 (lv_89 _) ?_
            refine g_iload5 hX d_M_reckonAll_134 ?_
            refine g_lald hX d_M_reckonAll_136 (lv_107 _) rfl (by have := (hwd k hkb (by omega) (by omega)).1; omega) ?_
            refine g_topl (show rJ wk 107 (op k) = lI _ by rw [q3.2.2.1 107 (by decide) (by decide)]; exact (hwd k hkb (by omega) (by omega)).2.1) ?_
            refine g_goto hX d_M_reckonAll_137 ?_
            refine g_last hX d_M_reckonAll_179 (lv_109 _) rfl (by omega) ?_
            refine g_iincN3 hX d_M_reckonAll_180 rfl (by decide) ?_
            refine g_goto hX d_M_reckonAll_183 ?_
            refine g_goto hX d_M_reckonAll_325 ?_
            refine g_fget 5 ?_
            refine g_fget 6 ?_
            exact ih (k + 1) (env (if op k = 6 then 20 + arg k else op k) :: st) _ (st_1 q1 hkb (ms_word e114 (by omega))) (q2.w (v := env (if op k = 6 then 20 + arg k else op k)) (hwd k hkb (by omega) (by omega)).2.2) q3.J q4 (by rw [List.length_cons]; omega) (by omega)
          · have e114 : op k = 0 := nI_inj (by omega) (by decide) e114
            refine g_iload6 hX d_M_reckonAll_117 ?_
            refine g_i2l hX d_M_reckonAll_119 ?_
            refine g_topl ((nI_l (by omega)).trans (lI_nat (arg k))) ?_
            refine g_goto hX d_M_reckonAll_120 ?_
            refine g_last hX d_M_reckonAll_179 (lv_109 _) rfl (by omega) ?_
            refine g_iincN3 hX d_M_reckonAll_180 rfl (by decide) ?_
            refine g_goto hX d_M_reckonAll_183 ?_
            refine g_goto hX d_M_reckonAll_325 ?_
            refine g_fget 5 ?_
            refine g_fget 6 ?_
            exact ih (k + 1) ((arg k : Int) :: st) _ (st_1 q1 hkb (ms_lit e114)) (q2.w (v := (arg k : Int)) (by omega)) q3.J q4 (by rw [List.length_cons]; omega) (by omega)
  obtain ⟨hab, hsg⟩ := hseg
  obtain ⟨n, hn0⟩ := hsg b (Nat.le_refl _) env []
  refine g_aload0 hX d_M_reckonAll_0 ?_
  refine g_iconst (v := nI 0) hX d_M_reckonAll_1 rfl ?_
  refine g_putZ hX d_M_reckonAll_2 fl_M_409 (lv_89 _) (by first | exact Or.inl rfl | exact Or.inr rfl) ?_
  refine g_iconst (v := nI 0) hX d_M_reckonAll_5 rfl ?_
  refine g_istore3 hX d_M_reckonAll_6 rfl (by decide) ?_
  refine g_iload1 hX d_M_reckonAll_7 ?_
  refine g_istore4 hX d_M_reckonAll_8 rfl (by decide) ?_
  exact lp n a [] _ hn0 trivial (FrE.rf w).I (by rw [rI_sI, upd_eq, if_pos rfl]) (Nat.le_of_eq (Nat.zero_add a)) (by omega)
theorem c_M_reckonAllO {E : EV} {w : Mem} {a b : Nat} {op arg : Nat → Nat} {len law : Nat} {env : Nat → Int} {f : Den} (hseg : SegM op arg a b f) (hok : ∀ j, j < b → op j < 31 ∧ arg j < 1001 ∧ (29 ≤ op j → j < arg j)) (hb4 : b ≤ 400) (hcode : ∀ j, j < b → rI w 100 j = nI (op j) ∧ rI w 101 j = nI (arg j)) (hord : rI w 89 20 = nI 1) {g : GC} (hR : MRow (rI w 91) g) (hW : WG g) (hwd : ∀ j, 1 ≤ j → j < 6 → rJ w 108 j = lI (env j) ∧ bd (env j)) (hdg : ∀ x, x < 1001 → env (20 + x) = if x < gN g then (pop (nearB (gE g) x) : Int) else -1) (hws : ∀ j, j < b → op j < 20 → op j < 7) : T E m_M_reckonAll 2 0 0 [.ref 89, .int (nI a), .int (nI b)] w (fun r w2 => r = none ∧ FrE w w2 ∧ EvP (f env) w2) := by
  refine T_of (L := [.ref 89, .int (nI a), .int (nI b), un, un, un, un]) cf_M_reckonAll rfl (Nat.le_of_ble_eq_true rfl) (fun X hX hF => ?_)
  have kB : ∀ (c k : Nat) (wk : Mem), c < 500 → k < 2000 → FrE w wk → rI wk 89 38 = nI 1 → f env = none → G0 E X 0 0 10 [.ref 89, .int (nI a), .int (nI b), .int (nI c), .int (nI k), un, un] [] wk := by
    intro c k wk q0 q1 q2 qb qr
    refine g_iload4 hX d_M_reckonAll_10 ?_
    refine g_iload2 hX d_M_reckonAll_12 ?_
    refine g_icmpN_ge hX d_M_reckonAll_13 (by omega) (by omega) (fun c0 => ?_) (fun c0 => ?_)
    · refine g_aload0 hX d_M_reckonAll_328 ?_
      refine g_iload3 hX d_M_reckonAll_329 ?_
      refine g_if_le hX d_M_reckonAll_330 (fun c1 => ?_) (fun c1 => ?_)
      · refine g_lconst (v := lN 0) hX d_M_reckonAll_342 rfl ?_
        refine g_putJ hX d_M_reckonAll_343 fl_M_423 (lv_89 _) ?_
        refine g_vret hX hF d_M_reckonAll_346 (by omega) (by omega) ?_
        exact ⟨rfl, q2.J9 (by decide), by rw [qr]; exact qb⟩
      · refine g_aload0 hX d_M_reckonAll_333 ?_
        refine g_getF hX d_M_reckonAll_334 fl_M_99 (lv_89 _) ?_
        refine g_iconst (v := nI 0) hX d_M_reckonAll_337 rfl ?_
        refine g_lald hX d_M_reckonAll_338 (lv_109 _) rfl (by decide) ?_
        refine g_goto hX d_M_reckonAll_339 ?_
        refine g_putJ hX d_M_reckonAll_343 fl_M_423 (lv_89 _) ?_
        refine g_vret hX hF d_M_reckonAll_346 (by omega) (by omega) ?_
        exact ⟨rfl, q2.J9 (by decide), by rw [qr]; exact qb⟩
    · refine g_aload0 hX d_M_reckonAll_16 ?_
      refine g_getZ hX d_M_reckonAll_17 fl_M_409 (lv_89 _) ?_
      refine g_topi qb ?_
      refine g_if_ne hX d_M_reckonAll_20 (fun e20 => ?_) (fun h => absurd h (by decide))
      refine g_aload0 hX d_M_reckonAll_328 ?_
      refine g_iload3 hX d_M_reckonAll_329 ?_
      refine g_if_le hX d_M_reckonAll_330 (fun c3 => ?_) (fun c3 => ?_)
      · refine g_lconst (v := lN 0) hX d_M_reckonAll_342 rfl ?_
        refine g_putJ hX d_M_reckonAll_343 fl_M_423 (lv_89 _) ?_
        refine g_vret hX hF d_M_reckonAll_346 (by omega) (by omega) ?_
        exact ⟨rfl, q2.J9 (by decide), by rw [qr]; exact qb⟩
      · refine g_aload0 hX d_M_reckonAll_333 ?_
        refine g_getF hX d_M_reckonAll_334 fl_M_99 (lv_89 _) ?_
        refine g_iconst (v := nI 0) hX d_M_reckonAll_337 rfl ?_
        refine g_lald hX d_M_reckonAll_338 (lv_109 _) rfl (by decide) ?_
        refine g_goto hX d_M_reckonAll_339 ?_
        refine g_putJ hX d_M_reckonAll_343 fl_M_423 (lv_89 _) ?_
        refine g_vret hX hF d_M_reckonAll_346 (by omega) (by omega) ?_
        exact ⟨rfl, q2.J9 (by decide), by rw [qr]; exact qb⟩
  have kE : ∀ (k : Nat) (st : List Int) (wk : Mem), StR (rJ wk 109) st → FrE w wk → rI wk 89 38 = nI 0 → some (k, st) = rsF b (f env) → G0 E X 0 0 328 [.ref 89, .int (nI a), .int (nI b), .int (nI st.length), .int (nI k), un, un] [] wk := by
    intro k st wk hst q3 q4 q5
    obtain ⟨v, hr, rfl, rfl⟩ := rs_end q5
    refine g_aload0 hX d_M_reckonAll_328 ?_
    refine g_iload3 hX d_M_reckonAll_329 ?_
    refine g_if_le hX d_M_reckonAll_330 (fun h => absurd h (by show ¬ nI 1 ≤ 0; decide)) (fun c0 => ?_)
    refine g_aload0 hX d_M_reckonAll_333 ?_
    refine g_getF hX d_M_reckonAll_334 fl_M_99 (lv_89 _) ?_
    refine g_iconst (v := nI 0) hX d_M_reckonAll_337 rfl ?_
    refine g_lald hX d_M_reckonAll_338 (lv_109 _) rfl (by decide) ?_
    refine g_topl hst.1 ?_
    refine g_goto hX d_M_reckonAll_339 ?_
    refine g_putJ hX d_M_reckonAll_343 fl_M_423 (lv_89 _) ?_
    refine g_vret hX hF d_M_reckonAll_346 (by omega) (by omega) ?_
    exact ⟨rfl, q3.J9 (by decide), by rw [hr]; exact ⟨q4, by rw [rJ_sJ, updL_eq, if_pos rfl], hst.2.1⟩⟩
  have lp : ∀ (n k : Nat) (st : List Int) (wk : Mem), mit op arg env b n (k, st) = rsF b (f env) → StR (rJ wk 109) st → FrE w wk → rI wk 89 38 = nI 0 → st.length + a ≤ k → k < 1001 → G0 E X 0 0 10 [.ref 89, .int (nI a), .int (nI b), .int (nI st.length), .int (nI k), un, un] [] wk := by
    intro n
    induction n with
    | zero =>
      intro k st wk q1 q2 q3 q4 q5 q6
      have hbk : b = k := by
        obtain ⟨v, -, h2, -⟩ := rs_end q1
        exact h2.symm
      refine g_iload4 hX d_M_reckonAll_10 ?_
      refine g_iload2 hX d_M_reckonAll_12 ?_
      refine g_icmpN_ge hX d_M_reckonAll_13 (by omega) (by omega) (fun e13 => ?_) (fun h => absurd h (by omega))
      exact kE k st wk q2 q3 q4 q1
    | succ n ih =>
      intro k st wk q1 q2 q3 q4 q5 q6
      refine g_iload4 hX d_M_reckonAll_10 ?_
      refine g_iload2 hX d_M_reckonAll_12 ?_
      refine g_icmpN_ge hX d_M_reckonAll_13 (by omega) (by omega) (fun e13 => ?_) (fun e13 => ?_)
      · exact kE k st wk q2 q3 q4 ((mit_e (by omega)).symm.trans q1)
      · have hkb : k < b := by omega
        have hk1 := hok k hkb
        refine g_aload0 hX d_M_reckonAll_16 ?_
        refine g_getZ hX d_M_reckonAll_17 fl_M_409 (lv_89 _) ?_
        refine g_topi q4 ?_
        refine g_if_ne hX d_M_reckonAll_20 (fun h => absurd rfl h) (fun c1 => ?_)
        refine g_aload0 hX d_M_reckonAll_23 ?_
        refine g_getZ hX d_M_reckonAll_24 fl_M_335 (lv_89 _) ?_
        refine g_topi (show rI wk 89 20 = nI 1 by rw [q3.2.1 20 (by decide)]; exact hord) ?_
        refine g_if_eq hX d_M_reckonAll_27 (fun h => absurd h (by decide)) (fun c2 => ?_)
        refine g_aload0 hX d_M_reckonAll_30 ?_
        refine g_getF hX d_M_reckonAll_31 fl_M_45 (lv_89 _) ?_
        refine g_iload4 hX d_M_reckonAll_34 ?_
        refine g_iald hX d_M_reckonAll_36 (lv_100 _) rfl (by omega) ?_
        refine g_topi (show rI wk 100 k = nI (op k) by rw [q3.1 100 (by decide)]; exact (hcode k hkb).1) ?_
        refine g_goto hX d_M_reckonAll_37 ?_
        refine g_istore5 hX d_M_reckonAll_57 rfl (by decide) ?_
        refine g_aload0 hX d_M_reckonAll_59 ?_
        refine g_getZ hX d_M_reckonAll_60 fl_M_335 (lv_89 _) ?_
        refine g_topi (show rI wk 89 20 = nI 1 by rw [q3.2.1 20 (by decide)]; exact hord) ?_
        refine g_if_eq hX d_M_reckonAll_63 (fun h => absurd h (by decide)) (fun c3 => ?_)
        refine g_aload0 hX d_M_reckonAll_66 ?_
        refine g_getF hX d_M_reckonAll_67 fl_M_48 (lv_89 _) ?_
        refine g_iload4 hX d_M_reckonAll_70 ?_
        refine g_iald hX d_M_reckonAll_72 (lv_101 _) rfl (by omega) ?_
        refine g_topi (show rI wk 101 k = nI (arg k) by rw [q3.1 101 (by decide)]; exact (hcode k hkb).2) ?_
        refine g_goto hX d_M_reckonAll_73 ?_
        refine g_istore6 hX d_M_reckonAll_95 rfl (by decide) ?_
        refine g_iincN4 hX d_M_reckonAll_97 rfl (by decide) ?_
        refine g_iload5 hX d_M_reckonAll_100 ?_
        refine g_bipush (v := nI 20) hX d_M_reckonAll_102 rfl ?_
        refine g_icmpN_ge hX d_M_reckonAll_104 (by omega) (by omega) (fun e104 => ?_) (fun e104 => ?_)
        · refine g_iload5 hX d_M_reckonAll_186 ?_
          refine g_bipush (v := nI 28) hX d_M_reckonAll_188 rfl ?_
          refine g_icmpN_ge hX d_M_reckonAll_190 (by omega) (by omega) (fun e190 => ?_) (fun e190 => ?_)
          · obtain ⟨v, s, rfl⟩ := has_one (by omega) hkb q1
            have hlen : (v :: s).length = s.length + 1 := rfl
            obtain ⟨hs1, hs2, hs3⟩ := q2
            refine g_iload5 hX d_M_reckonAll_263 ?_
            refine g_bipush (v := nI 28) hX d_M_reckonAll_265 rfl ?_
            refine g_icmpN_ne hX d_M_reckonAll_267 (by omega) (by omega) (fun e267 => ?_) (fun e267 => ?_)
            · refine g_aload0 hX d_M_reckonAll_291 ?_
              refine g_getF hX d_M_reckonAll_292 fl_M_99 (lv_89 _) ?_
              refine g_iload3 hX d_M_reckonAll_295 ?_
              refine g_iconst (v := nI 1) hX d_M_reckonAll_296 rfl ?_
              refine g_isubN hX d_M_reckonAll_297 (by omega) ?_
              refine g_lald hX d_M_reckonAll_298 (lv_109 _) rfl (by omega) ?_
              refine g_topl (show rJ wk 109 (s.length + 1 - 1) = lI v from hs1) ?_
              refine g_iload5 hX d_M_reckonAll_299 ?_
              refine g_bipush (v := nI 29) hX d_M_reckonAll_301 rfl ?_
              refine g_icmpN_ne hX d_M_reckonAll_303 (by omega) (by omega) (fun e303 => ?_) (fun e303 => ?_)
              · refine g_lconst (v := lN 1) hX d_M_reckonAll_310 rfl ?_
                refine g_lcmp_ne hX d_M_reckonAll_311 d_M_reckonAll_312 (fun e312 => ?_) (fun e312 => ?_)
                · refine g_iinc3 hX d_M_reckonAll_322 (v := nI s.length) (nI_dec s.length) rfl (by decide) ?_
                  refine g_goto hX d_M_reckonAll_325 ?_
                  refine g_fget 5 ?_
                  refine g_fget 6 ?_
                  exact ih (k + 1) s _ (st_1 q1 hkb ((ms_jump (by omega)).trans (if_neg (jump_n hs2 (by omega) ⟨fun z => absurd z e303, fun _ => e312⟩)))) hs3 q3 q4 (by omega) (by omega)
                · refine g_iload6 hX d_M_reckonAll_315 ?_
                  refine g_istore4 hX d_M_reckonAll_317 rfl (by decide) ?_
                  refine g_goto hX d_M_reckonAll_319 ?_
                  refine g_goto hX d_M_reckonAll_325 ?_
                  refine g_fget 5 ?_
                  refine g_fget 6 ?_
                  exact ih (arg k) (v :: s) _ (st_1 q1 hkb ((ms_jump (by omega)).trans (if_pos (jump_v hs2 (by omega) ⟨fun z => absurd z e303, fun _ => e312⟩)))) ⟨hs1, hs2, hs3⟩ q3 q4 (by have := hk1.2.2 (by omega); omega) (by omega)
              · refine g_lconst (v := lN 0) hX d_M_reckonAll_306 rfl ?_
                refine g_goto hX d_M_reckonAll_307 ?_
                refine g_lcmp_ne hX d_M_reckonAll_311 d_M_reckonAll_312 (fun e312 => ?_) (fun e312 => ?_)
                · refine g_iinc3 hX d_M_reckonAll_322 (v := nI s.length) (nI_dec s.length) rfl (by decide) ?_
                  refine g_goto hX d_M_reckonAll_325 ?_
                  refine g_fget 5 ?_
                  refine g_fget 6 ?_
                  exact ih (k + 1) s _ (st_1 q1 hkb ((ms_jump (by omega)).trans (if_neg (jump_n hs2 (by omega) ⟨fun _ => e312, fun z => absurd e303 z⟩)))) hs3 q3 q4 (by omega) (by omega)
                · refine g_iload6 hX d_M_reckonAll_315 ?_
                  refine g_istore4 hX d_M_reckonAll_317 rfl (by decide) ?_
                  refine g_goto hX d_M_reckonAll_319 ?_
                  refine g_goto hX d_M_reckonAll_325 ?_
                  refine g_fget 5 ?_
                  refine g_fget 6 ?_
                  exact ih (arg k) (v :: s) _ (st_1 q1 hkb ((ms_jump (by omega)).trans (if_pos (jump_v hs2 (by omega) ⟨fun _ => e312, fun z => absurd e303 z⟩)))) ⟨hs1, hs2, hs3⟩ q3 q4 (by have := hk1.2.2 (by omega); omega) (by omega)
            · refine g_aload0 hX d_M_reckonAll_270 ?_
              refine g_getF hX d_M_reckonAll_271 fl_M_99 (lv_89 _) ?_
              refine g_iload3 hX d_M_reckonAll_274 ?_
              refine g_iconst (v := nI 1) hX d_M_reckonAll_275 rfl ?_
              refine g_isubN hX d_M_reckonAll_276 (by omega) ?_
              refine g_lconst (v := lN 1) hX d_M_reckonAll_277 rfl ?_
              refine g_aload0 hX d_M_reckonAll_278 ?_
              refine g_getF hX d_M_reckonAll_279 fl_M_99 (lv_89 _) ?_
              refine g_iload3 hX d_M_reckonAll_282 ?_
              refine g_iconst (v := nI 1) hX d_M_reckonAll_283 rfl ?_
              refine g_isubN hX d_M_reckonAll_284 (by omega) ?_
              refine g_lald hX d_M_reckonAll_285 (lv_109 _) rfl (by omega) ?_
              refine g_topl (show rJ wk 109 (s.length + 1 - 1) = lI v from hs1) ?_
              refine g_lsub hX d_M_reckonAll_286 ?_
              refine g_topl (y := lI (1 - v)) (lI_sub 1 v) ?_
              refine g_last hX d_M_reckonAll_287 (lv_109 _) rfl (by omega) ?_
              refine g_goto hX d_M_reckonAll_288 ?_
              refine g_goto hX d_M_reckonAll_325 ?_
              refine g_fget 5 ?_
              refine g_fget 6 ?_
              exact ih (k + 1) ((1 - v) :: s) _ (st_1 q1 hkb (ms_not (by omega))) (hs3.w (by omega)) q3.J q4 (by rw [List.length_cons]; omega) (by omega)
          · obtain ⟨v, u, s2, rfl⟩ := has_two (by omega) e190 hkb q1
            have hlen : (v :: u :: s2).length = s2.length + 2 := rfl
            obtain ⟨hs1, hs2, hs3, hs4, hs5⟩ := q2
            refine g_iinc3 hX d_M_reckonAll_193 (v := nI (s2.length + 1)) (nI_dec (s2.length + 1)) rfl (by decide) ?_
            refine g_aload0 hX d_M_reckonAll_196 ?_
            refine g_getF hX d_M_reckonAll_197 fl_M_99 (lv_89 _) ?_
            refine g_iload3 hX d_M_reckonAll_200 ?_
            refine g_iconst (v := nI 1) hX d_M_reckonAll_201 rfl ?_
            refine g_isubN hX d_M_reckonAll_202 (by omega) ?_
            refine g_aload0 hX d_M_reckonAll_203 ?_
            refine g_iload5 hX d_M_reckonAll_204 ?_
            refine g_aload0 hX d_M_reckonAll_206 ?_
            refine g_getF hX d_M_reckonAll_207 fl_M_99 (lv_89 _) ?_
            refine g_iload3 hX d_M_reckonAll_210 ?_
            refine g_iconst (v := nI 1) hX d_M_reckonAll_211 rfl ?_
            refine g_isubN hX d_M_reckonAll_212 (by omega) ?_
            refine g_lald hX d_M_reckonAll_213 (lv_109 _) rfl (by omega) ?_
            refine g_topl (show rJ wk 109 (s2.length + 1 - 1) = lI u from hs3) ?_
            refine g_aload0 hX d_M_reckonAll_214 ?_
            refine g_getF hX d_M_reckonAll_215 fl_M_99 (lv_89 _) ?_
            refine g_iload3 hX d_M_reckonAll_218 ?_
            refine g_lald hX d_M_reckonAll_219 (lv_109 _) rfl (by omega) ?_
            refine g_topl (show rJ wk 109 (s2.length + 1) = lI v from hs1) ?_
            refine g_callV (As := [_, _, _]) hX hF.1 d_M_reckonAll_220 ml_M_415 cf_M_reckon cv_M_reckon rfl rfl (c_M_reckon (by omega) (by omega) hs4 hs2 q4) (rcv_obj hX (lv_89 _) rfl rfl) (by omega) (by omega) (by omega) (Nat.le_of_ble_eq_true rfl) ?_
            rintro _ w2 ⟨z, e, rfl, rfl, he2, hz⟩
            show G0 _ _ _ _ _ _ _ _
            refine g_last hX d_M_reckonAll_223 (lv_109 _) rfl (by omega) ?_
            refine g_aload0 hX d_M_reckonAll_224 ?_
            refine g_aload0 hX d_M_reckonAll_225 ?_
            refine g_getZ hX d_M_reckonAll_226 fl_M_409 (lv_89 _) ?_
            refine g_topi (y := nI e) (show rI (sI wk 89 38 (nI e)) 89 38 = nI e by rw [rI_sI, upd_eq, if_pos rfl]) ?_
            refine g_if_ne hX d_M_reckonAll_229 (fun e229 => ?_) (fun e229 => ?_)
            · have e229 : e = 1 := by
                by_cases z : e = 0
                · exact absurd (by rw [z]; rfl) e229
                · omega
              refine g_iconst (v := nI 1) hX d_M_reckonAll_252 rfl ?_
              refine g_goto hX d_M_reckonAll_253 ?_
              refine g_putZ hX d_M_reckonAll_257 fl_M_409 (lv_89 _) (by first | exact Or.inl rfl | exact Or.inr rfl) ?_
              refine g_goto hX d_M_reckonAll_260 ?_
              refine g_goto hX d_M_reckonAll_325 ?_
              refine g_fget 5 ?_
              refine g_fget 6 ?_
              exact kB _ (k + 1) _ (by omega) (by omega) (q3.I.J.I) (by rw [rI_sI, upd_eq, if_pos rfl]) (st_0 q1 hkb ((ms_two (by omega) e190).trans (by rw [show comb (op k) u v = none from (hz.resolve_right (by omega)).2]; rfl)))
            · have e229 : e = 0 := nI_inj (by omega) (by decide) e229
              have hz2 : chk z = comb (op k) u v ∧ -2000000000000000000 ≤ z ∧ z ≤ 2000000000000000000 := by
                rcases hz with hz | hz
                · omega
                · exact hz.2
              refine g_aload0 hX d_M_reckonAll_232 ?_
              refine g_getF hX d_M_reckonAll_233 fl_M_99 (lv_89 _) ?_
              refine g_iload3 hX d_M_reckonAll_236 ?_
              refine g_iconst (v := nI 1) hX d_M_reckonAll_237 rfl ?_
              refine g_isubN hX d_M_reckonAll_238 (by omega) ?_
              refine g_lald hX d_M_reckonAll_239 (lv_109 _) rfl (by omega) ?_
              refine g_topl (y := lI z) (by rw [rJ_sJ, updL_eq, if_pos rfl]) ?_
              refine g_ldc2 (v := -1000000000) hX d_M_reckonAll_240 k_M_419 rfl ?_
              refine g_ldc2 (v := lN 1000000000) hX d_M_reckonAll_243 k_M_421 rfl ?_
              refine g_callS (As := [_, _, _]) hX hF.1 d_M_reckonAll_246 ml_M_190 cf_M_in cs_M_in rfl (c_M_in) (by omega) (by omega) (by omega) (Nat.le_of_ble_eq_true rfl) ?_
              refine ret_k ?_
              refine g_ifB_ne hX d_M_reckonAll_249 (fun e249 => ?_) (fun e249 => ?_)
              · have e249 := (in_chk hz2.2).mp e249
                refine g_iconst (v := nI 0) hX d_M_reckonAll_256 rfl ?_
                refine g_putZ hX d_M_reckonAll_257 fl_M_409 (lv_89 _) (by first | exact Or.inl rfl | exact Or.inr rfl) ?_
                refine g_goto hX d_M_reckonAll_260 ?_
                refine g_goto hX d_M_reckonAll_325 ?_
                refine g_fget 5 ?_
                refine g_fget 6 ?_
                exact ih (k + 1) (z :: s2) _ (st_1 q1 hkb ((ms_two (by omega) e190).trans (by rw [← hz2.1, chk_y e249]; rfl))) (hs5.w3 (by omega)) (q3.I.J.I) (by rw [rI_sI, upd_eq, if_pos rfl]) (by rw [List.length_cons]; omega) (by omega)
              · have e249 := mt (in_chk hz2.2).mpr e249
                refine g_iconst (v := nI 1) hX d_M_reckonAll_252 rfl ?_
                refine g_goto hX d_M_reckonAll_253 ?_
                refine g_putZ hX d_M_reckonAll_257 fl_M_409 (lv_89 _) (by first | exact Or.inl rfl | exact Or.inr rfl) ?_
                refine g_goto hX d_M_reckonAll_260 ?_
                refine g_goto hX d_M_reckonAll_325 ?_
                refine g_fget 5 ?_
                refine g_fget 6 ?_
                exact kB _ (k + 1) _ (by omega) (by omega) (q3.I.J.I) (by rw [rI_sI, upd_eq, if_pos rfl]) (st_0 q1 hkb ((ms_two (by omega) e190).trans (by rw [show comb (op k) u v = none from hz2.1.symm.trans (chk_n e249)]; rfl)))
        · refine g_aload0 hX d_M_reckonAll_107 ?_
          refine g_getF hX d_M_reckonAll_108 fl_M_99 (lv_89 _) ?_
          refine g_iload3 hX d_M_reckonAll_111 ?_
          refine g_iload5 hX d_M_reckonAll_112 ?_
          refine g_if_ne hX d_M_reckonAll_114 (fun e114 => ?_) (fun e114 => ?_)
          · have e114 : ¬ op k = 0 := fun z => e114 (by rw [z]; rfl)
            refine g_aload0 hX d_M_reckonAll_123 ?_
            refine g_getZ hX d_M_reckonAll_124 fl_M_335 (lv_89 _) ?_
            refine g_topi (show rI wk 89 20 = nI 1 by rw [q3.2.1 20 (by decide)]; exact hord) ?_
            refine g_if_ne hX d_M_reckonAll_127 (fun c13 => ?_) (fun h => absurd h (by decide))
            refine g_iload5 hX d_M_reckonAll_140 ?_
            refine g_bipush (v := nI 6) hX d_M_reckonAll_142 rfl ?_
            refine g_icmpN_ge hX d_M_reckonAll_144 (by omega) (by omega) (fun e144 => ?_) (fun e144 => ?_)
            · refine g_aload0 hX d_M_reckonAll_157 ?_
              refine g_iload6 hX d_M_reckonAll_158 ?_
              have hR2 : MRow (rI wk 91) g := by rw [q3.1 91 (by decide)]; exact hR
              have hn := hW.n
              refine g_callV (As := [_]) hX hF.1 d_M_reckonAll_160 ml_M_214 cf_M_isNode cv_M_isNode rfl rfl (c_M_isNode hR2 hW) (rcv_obj hX (lv_89 _) rfl rfl) (by omega) (by omega) (by omega) (Nat.le_of_ble_eq_true rfl) ?_
              refine ret_k ?_
              refine g_ifB_eq hX d_M_reckonAll_163 (fun e163 => ?_) (fun e163 => ?_)
              · have e163 : ¬ arg k < gN g := fun z => e163 ⟨nI_pos' (by omega), nI_lt z (show gN g < 2 ^ 31 by omega)⟩
                refine g_ldc2 (v := -1) hX d_M_reckonAll_176 k_M_285 rfl ?_
                refine g_last hX d_M_reckonAll_179 (lv_109 _) rfl (by omega) ?_
                refine g_iincN3 hX d_M_reckonAll_180 rfl (by decide) ?_
                refine g_goto hX d_M_reckonAll_183 ?_
                refine g_goto hX d_M_reckonAll_325 ?_
                refine g_mem (show _ = sJ wk 109 st.length (lI (-1)) from congrArg (sJ wk 109 st.length) (show (-1 : Int64) = lI (-1) by decide)) ?_
                refine g_fget 5 ?_
                refine g_fget 6 ?_
                exact ih (k + 1) ((-1) :: st) _ (st_1 q1 hkb ((ms_word e114 (by omega)).trans (by rw [if_pos (show op k = 6 by have := hws k hkb (by omega); omega), hdg (arg k) (by omega), if_neg e163]))) (q2.w (v := (-1)) (by omega)) q3.J q4 (by rw [List.length_cons]; omega) (by omega)
              · have e163 : arg k < gN g := (nI_ltI (by omega) (show gN g < 2 ^ 31 by omega)).mp e163.2
                refine g_aload0 hX d_M_reckonAll_166 ?_
                refine g_iload6 hX d_M_reckonAll_167 ?_
                refine g_callV (As := [_]) hX hF.1 d_M_reckonAll_169 ml_M_218 cf_M_degreeOf cv_M_degreeOf rfl rfl (c_M_degreeOf hR2 hW (by omega)) (rcv_obj hX (lv_89 _) rfl rfl) (by omega) (by omega) (by omega) (Nat.le_of_ble_eq_true rfl) ?_
                refine ret_k ?_
                refine g_i2l hX d_M_reckonAll_172 ?_
                refine g_topl ((nI_l (by have := pop_le (nearB (gE g) (arg k)); omega)).trans (lI_nat _)) ?_
                refine g_goto hX d_M_reckonAll_173 ?_
                refine g_last hX d_M_reckonAll_179 (lv_109 _) rfl (by omega) ?_
                refine g_iincN3 hX d_M_reckonAll_180 rfl (by decide) ?_
                refine g_goto hX d_M_reckonAll_183 ?_
                refine g_goto hX d_M_reckonAll_325 ?_
                refine g_fget 5 ?_
                refine g_fget 6 ?_
                exact ih (k + 1) ((pop (nearB (gE g) (arg k)) : Int) :: st) _ (st_1 q1 hkb ((ms_word e114 (by omega)).trans (by rw [if_pos (show op k = 6 by have := hws k hkb (by omega); omega), hdg (arg k) (by omega), if_pos e163]))) (q2.w (v := (pop (nearB (gE g) (arg k)) : Int)) (by have := pop_le (nearB (gE g) (arg k)); omega)) q3.J q4 (by rw [List.length_cons]; omega) (by omega)
            · refine g_aload0 hX d_M_reckonAll_147 ?_
              refine g_getF hX d_M_reckonAll_148 fl_M_96 (lv_89 _) ?_
              refine g_iload5 hX d_M_reckonAll_151 ?_
              refine g_lald hX d_M_reckonAll_153 (lv_108 _) rfl (by omega) ?_
              refine g_topl (show rJ wk 108 (op k) = lI (env (op k)) by rw [q3.2.2.1 108 (by decide) (by decide)]; exact (hwd (op k) (by omega) (by omega)).1) ?_
              refine g_goto hX d_M_reckonAll_154 ?_
              refine g_last hX d_M_reckonAll_179 (lv_109 _) rfl (by omega) ?_
              refine g_iincN3 hX d_M_reckonAll_180 rfl (by decide) ?_
              refine g_goto hX d_M_reckonAll_183 ?_
              refine g_goto hX d_M_reckonAll_325 ?_
              refine g_fget 5 ?_
              refine g_fget 6 ?_
              exact ih (k + 1) (env (op k) :: st) _ (st_1 q1 hkb ((ms_word e114 (by omega)).trans (by rw [if_neg (show ¬ op k = 6 by omega)]))) (q2.w (v := env (op k)) (hwd (op k) (by omega) (by omega)).2) q3.J q4 (by rw [List.length_cons]; omega) (by omega)
          · have e114 : op k = 0 := nI_inj (by omega) (by decide) e114
            refine g_iload6 hX d_M_reckonAll_117 ?_
            refine g_i2l hX d_M_reckonAll_119 ?_
            refine g_topl ((nI_l (by omega)).trans (lI_nat (arg k))) ?_
            refine g_goto hX d_M_reckonAll_120 ?_
            refine g_last hX d_M_reckonAll_179 (lv_109 _) rfl (by omega) ?_
            refine g_iincN3 hX d_M_reckonAll_180 rfl (by decide) ?_
            refine g_goto hX d_M_reckonAll_183 ?_
            refine g_goto hX d_M_reckonAll_325 ?_
            refine g_fget 5 ?_
            refine g_fget 6 ?_
            exact ih (k + 1) ((arg k : Int) :: st) _ (st_1 q1 hkb (ms_lit e114)) (q2.w (v := (arg k : Int)) (by omega)) q3.J q4 (by rw [List.length_cons]; omega) (by omega)
  obtain ⟨hab, hsg⟩ := hseg
  obtain ⟨n, hn0⟩ := hsg b (Nat.le_refl _) env []
  refine g_aload0 hX d_M_reckonAll_0 ?_
  refine g_iconst (v := nI 0) hX d_M_reckonAll_1 rfl ?_
  refine g_putZ hX d_M_reckonAll_2 fl_M_409 (lv_89 _) (by first | exact Or.inl rfl | exact Or.inr rfl) ?_
  refine g_iconst (v := nI 0) hX d_M_reckonAll_5 rfl ?_
  refine g_istore3 hX d_M_reckonAll_6 rfl (by decide) ?_
  refine g_iload1 hX d_M_reckonAll_7 ?_
  refine g_istore4 hX d_M_reckonAll_8 rfl (by decide) ?_
  exact lp n a [] _ hn0 trivial (FrE.rf w).I (by rw [rI_sI, upd_eq, if_pos rfl]) (Nat.le_of_eq (Nat.zero_add a)) (by omega)
