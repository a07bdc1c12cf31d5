def m_M_days : MR := (⟨"SubgraphDeskModel", "days", "(II)I"⟩, prog_14_method_132_code, 8, (some .int))
theorem cf_M_days : CF m_M_days 2 := ⟨gd 2220 (by decide +kernel) rfl, gd 151 (by decide +kernel) rfl, by decide +kernel, by decide, by decide +kernel⟩
theorem cv_M_days : CV m_M_days := ⟨gd 2218 (by decide +kernel) rfl, gd 2219 (by decide +kernel) rfl⟩
def m_M_draw : MR := (⟨"SubgraphDeskModel", "draw", "(I)I"⟩, prog_14_method_131_code, 2, (some .int))
theorem cf_M_draw : CF m_M_draw 1 := ⟨gd 2224 (by decide +kernel) rfl, gd 151 (by decide +kernel) rfl, by decide +kernel, by decide, by decide +kernel⟩
theorem cv_M_draw : CV m_M_draw := ⟨gd 2223 (by decide +kernel) rfl, gd 136 (by decide +kernel) rfl⟩
theorem d_M_days_0 : Dc prog_14_method_132_code 0 (.aload_n 0) 1 1 := ⟨by decide +kernel, rfl⟩
theorem d_M_days_1 : Dc prog_14_method_132_code 1 (.iconst 0) 1 2 := ⟨by decide +kernel, rfl⟩
theorem d_M_days_2 : Dc prog_14_method_132_code 2 (.putfield 170) 3 5 := ⟨by decide +kernel, rfl⟩
theorem d_M_days_5 : Dc prog_14_method_132_code 5 (.iload_n 1) 1 6 := ⟨by decide +kernel, rfl⟩
theorem d_M_days_6 : Dc prog_14_method_132_code 6 (.i2l) 1 7 := ⟨by decide +kernel, rfl⟩
theorem d_M_days_7 : Dc prog_14_method_132_code 7 (.lconst 0) 1 8 := ⟨by decide +kernel, rfl⟩
theorem d_M_days_8 : Dc prog_14_method_132_code 8 (.ldc2_w 287) 3 11 := ⟨by decide +kernel, rfl⟩
theorem d_M_days_11 : Dc prog_14_method_132_code 11 (.invokestatic 190) 3 14 := ⟨by decide +kernel, rfl⟩
theorem d_M_days_14 : Dj prog_14_method_132_code 14 (.ifCond .eq 15) 17 15 29 := ⟨by decide +kernel, rfl, rfl⟩
theorem d_M_days_17 : Dc prog_14_method_132_code 17 (.iload_n 2) 1 18 := ⟨by decide +kernel, rfl⟩
theorem d_M_days_18 : Dc prog_14_method_132_code 18 (.i2l) 1 19 := ⟨by decide +kernel, rfl⟩
theorem d_M_days_19 : Dc prog_14_method_132_code 19 (.lconst 1) 1 20 := ⟨by decide +kernel, rfl⟩
theorem d_M_days_20 : Dc prog_14_method_132_code 20 (.ldc2_w 547) 3 23 := ⟨by decide +kernel, rfl⟩
theorem d_M_days_23 : Dc prog_14_method_132_code 23 (.invokestatic 190) 3 26 := ⟨by decide +kernel, rfl⟩
theorem d_M_days_26 : Dj prog_14_method_132_code 26 (.ifCond .ne 9) 29 9 35 := ⟨by decide +kernel, rfl, rfl⟩
theorem d_M_days_29 : Dc prog_14_method_132_code 29 (.aload_n 0) 1 30 := ⟨by decide +kernel, rfl⟩
theorem d_M_days_30 : Dc prog_14_method_132_code 30 (.iconst (-1)) 1 31 := ⟨by decide +kernel, rfl⟩
theorem d_M_days_31 : Dc prog_14_method_132_code 31 (.invokevirtual 179) 3 34 := ⟨by decide +kernel, rfl⟩
theorem d_M_days_34 : Dc prog_14_method_132_code 34 (.ireturn) 1 35 := ⟨by decide +kernel, rfl⟩
theorem d_M_days_35 : Dc prog_14_method_132_code 35 (.aload_n 0) 1 36 := ⟨by decide +kernel, rfl⟩
theorem d_M_days_36 : Dc prog_14_method_132_code 36 (.getfield 13) 3 39 := ⟨by decide +kernel, rfl⟩
theorem d_M_days_39 : Dc prog_14_method_132_code 39 (.iconst 0) 1 40 := ⟨by decide +kernel, rfl⟩
theorem d_M_days_40 : Dc prog_14_method_132_code 40 (.iaload) 1 41 := ⟨by decide +kernel, rfl⟩
theorem d_M_days_41 : Dj prog_14_method_132_code 41 (.ifCond .ne 10) 44 10 51 := ⟨by decide +kernel, rfl, rfl⟩
theorem d_M_days_44 : Dc prog_14_method_132_code 44 (.aload_n 0) 1 45 := ⟨by decide +kernel, rfl⟩
theorem d_M_days_45 : Dc prog_14_method_132_code 45 (.bipush (-3)) 2 47 := ⟨by decide +kernel, rfl⟩
theorem d_M_days_47 : Dc prog_14_method_132_code 47 (.invokevirtual 179) 3 50 := ⟨by decide +kernel, rfl⟩
theorem d_M_days_50 : Dc prog_14_method_132_code 50 (.ireturn) 1 51 := ⟨by decide +kernel, rfl⟩
theorem d_M_days_51 : Dc prog_14_method_132_code 51 (.aload_n 0) 1 52 := ⟨by decide +kernel, rfl⟩
theorem d_M_days_52 : Dc prog_14_method_132_code 52 (.bipush 16) 2 54 := ⟨by decide +kernel, rfl⟩
theorem d_M_days_54 : Dc prog_14_method_132_code 54 (.invokevirtual 183) 3 57 := ⟨by decide +kernel, rfl⟩
theorem d_M_days_57 : Dc prog_14_method_132_code 57 (.aload_n 0) 1 58 := ⟨by decide +kernel, rfl⟩
theorem d_M_days_58 : Dc prog_14_method_132_code 58 (.iload_n 1) 1 59 := ⟨by decide +kernel, rfl⟩
theorem d_M_days_59 : Dc prog_14_method_132_code 59 (.i2l) 1 60 := ⟨by decide +kernel, rfl⟩
theorem d_M_days_60 : Dc prog_14_method_132_code 60 (.putfield 595) 3 63 := ⟨by decide +kernel, rfl⟩
theorem d_M_days_63 : Dc prog_14_method_132_code 63 (.iconst 0) 1 64 := ⟨by decide +kernel, rfl⟩
theorem d_M_days_64 : Dc prog_14_method_132_code 64 (.istore_n 3) 1 65 := ⟨by decide +kernel, rfl⟩
theorem d_M_days_65 : Dc prog_14_method_132_code 65 (.iload_n 3) 1 66 := ⟨by decide +kernel, rfl⟩
theorem d_M_days_66 : Dc prog_14_method_132_code 66 (.iload_n 2) 1 67 := ⟨by decide +kernel, rfl⟩
theorem d_M_days_67 : Dj prog_14_method_132_code 67 (.if_icmp .ge 112) 70 112 179 := ⟨by decide +kernel, rfl, rfl⟩
theorem d_M_days_70 : Dc prog_14_method_132_code 70 (.aload_n 0) 1 71 := ⟨by decide +kernel, rfl⟩
theorem d_M_days_71 : Dc prog_14_method_132_code 71 (.getfield 13) 3 74 := ⟨by decide +kernel, rfl⟩
theorem d_M_days_74 : Dc prog_14_method_132_code 74 (.bipush 6) 2 76 := ⟨by decide +kernel, rfl⟩
theorem d_M_days_76 : Dc prog_14_method_132_code 76 (.iaload) 1 77 := ⟨by decide +kernel, rfl⟩
theorem d_M_days_77 : Dc prog_14_method_132_code 77 (.sipush 999) 3 80 := ⟨by decide +kernel, rfl⟩
theorem d_M_days_80 : Dj prog_14_method_132_code 80 (.if_icmp .ge 99) 83 99 179 := ⟨by decide +kernel, rfl, rfl⟩
theorem d_M_days_83 : Dc prog_14_method_132_code 83 (.aload_n 0) 1 84 := ⟨by decide +kernel, rfl⟩
theorem d_M_days_84 : Dc prog_14_method_132_code 84 (.aload_n 0) 1 85 := ⟨by decide +kernel, rfl⟩
theorem d_M_days_85 : Dc prog_14_method_132_code 85 (.getfield 13) 3 88 := ⟨by decide +kernel, rfl⟩
theorem d_M_days_88 : Dc prog_14_method_132_code 88 (.iconst 0) 1 89 := ⟨by decide +kernel, rfl⟩
theorem d_M_days_89 : Dc prog_14_method_132_code 89 (.iaload) 1 90 := ⟨by decide +kernel, rfl⟩
theorem d_M_days_90 : Dc prog_14_method_132_code 90 (.invokevirtual 604) 3 93 := ⟨by decide +kernel, rfl⟩
theorem d_M_days_93 : Dc prog_14_method_132_code 93 (.istore 4) 2 95 := ⟨by decide +kernel, rfl⟩
theorem d_M_days_95 : Dc prog_14_method_132_code 95 (.aload_n 0) 1 96 := ⟨by decide +kernel, rfl⟩
theorem d_M_days_96 : Dc prog_14_method_132_code 96 (.aload_n 0) 1 97 := ⟨by decide +kernel, rfl⟩
theorem d_M_days_97 : Dc prog_14_method_132_code 97 (.getfield 13) 3 100 := ⟨by decide +kernel, rfl⟩
theorem d_M_days_100 : Dc prog_14_method_132_code 100 (.iconst 0) 1 101 := ⟨by decide +kernel, rfl⟩
theorem d_M_days_101 : Dc prog_14_method_132_code 101 (.iaload) 1 102 := ⟨by decide +kernel, rfl⟩
theorem d_M_days_102 : Dc prog_14_method_132_code 102 (.invokevirtual 604) 3 105 := ⟨by decide +kernel, rfl⟩
theorem d_M_days_105 : Dc prog_14_method_132_code 105 (.istore 5) 2 107 := ⟨by decide +kernel, rfl⟩
theorem d_M_days_107 : Dc prog_14_method_132_code 107 (.aload_n 0) 1 108 := ⟨by decide +kernel, rfl⟩
theorem d_M_days_108 : Dc prog_14_method_132_code 108 (.bipush 6) 2 110 := ⟨by decide +kernel, rfl⟩
theorem d_M_days_110 : Dc prog_14_method_132_code 110 (.invokevirtual 604) 3 113 := ⟨by decide +kernel, rfl⟩
theorem d_M_days_113 : Dc prog_14_method_132_code 113 (.istore 6) 2 115 := ⟨by decide +kernel, rfl⟩
theorem d_M_days_115 : Dc prog_14_method_132_code 115 (.aload_n 0) 1 116 := ⟨by decide +kernel, rfl⟩
theorem d_M_days_116 : Dc prog_14_method_132_code 116 (.iconst 4) 1 117 := ⟨by decide +kernel, rfl⟩
theorem d_M_days_117 : Dc prog_14_method_132_code 117 (.invokevirtual 604) 3 120 := ⟨by decide +kernel, rfl⟩
theorem d_M_days_120 : Dc prog_14_method_132_code 120 (.istore 7) 2 122 := ⟨by decide +kernel, rfl⟩
theorem d_M_days_122 : Dc prog_14_method_132_code 122 (.iload 7) 2 124 := ⟨by decide +kernel, rfl⟩
theorem d_M_days_124 : Dc prog_14_method_132_code 124 (.iconst 2) 1 125 := ⟨by decide +kernel, rfl⟩
theorem d_M_days_125 : Dj prog_14_method_132_code 125 (.if_icmp .ge 19) 128 19 144 := ⟨by decide +kernel, rfl, rfl⟩
theorem d_M_days_128 : Dc prog_14_method_132_code 128 (.iload 4) 2 130 := ⟨by decide +kernel, rfl⟩
theorem d_M_days_130 : Dc prog_14_method_132_code 130 (.iload 5) 2 132 := ⟨by decide +kernel, rfl⟩
theorem d_M_days_132 : Dj prog_14_method_132_code 132 (.if_icmp .eq 12) 135 12 144 := ⟨by decide +kernel, rfl, rfl⟩
theorem d_M_days_135 : Dc prog_14_method_132_code 135 (.aload_n 0) 1 136 := ⟨by decide +kernel, rfl⟩
theorem d_M_days_136 : Dc prog_14_method_132_code 136 (.iload 4) 2 138 := ⟨by decide +kernel, rfl⟩
theorem d_M_days_138 : Dc prog_14_method_132_code 138 (.iload 5) 2 140 := ⟨by decide +kernel, rfl⟩
theorem d_M_days_140 : Dc prog_14_method_132_code 140 (.invokevirtual 249) 3 143 := ⟨by decide +kernel, rfl⟩
theorem d_M_days_143 : Dc prog_14_method_132_code 143 (.pop) 1 144 := ⟨by decide +kernel, rfl⟩
theorem d_M_days_144 : Dc prog_14_method_132_code 144 (.iload 7) 2 146 := ⟨by decide +kernel, rfl⟩
theorem d_M_days_146 : Dc prog_14_method_132_code 146 (.iconst 2) 1 147 := ⟨by decide +kernel, rfl⟩
theorem d_M_days_147 : Dj prog_14_method_132_code 147 (.if_icmp .ne 15) 150 15 162 := ⟨by decide +kernel, rfl, rfl⟩
theorem d_M_days_150 : Dc prog_14_method_132_code 150 (.aload_n 0) 1 151 := ⟨by decide +kernel, rfl⟩
theorem d_M_days_151 : Dc prog_14_method_132_code 151 (.getfield 13) 3 154 := ⟨by decide +kernel, rfl⟩
theorem d_M_days_154 : Dc prog_14_method_132_code 154 (.bipush 9) 2 156 := ⟨by decide +kernel, rfl⟩
theorem d_M_days_156 : Dc prog_14_method_132_code 156 (.iload 4) 2 158 := ⟨by decide +kernel, rfl⟩
theorem d_M_days_158 : Dc prog_14_method_132_code 158 (.iadd) 1 159 := ⟨by decide +kernel, rfl⟩
theorem d_M_days_159 : Dc prog_14_method_132_code 159 (.iload 6) 2 161 := ⟨by decide +kernel, rfl⟩
theorem d_M_days_161 : Dc prog_14_method_132_code 161 (.iastore) 1 162 := ⟨by decide +kernel, rfl⟩
theorem d_M_days_162 : Dc prog_14_method_132_code 162 (.aload_n 0) 1 163 := ⟨by decide +kernel, rfl⟩
theorem d_M_days_163 : Dc prog_14_method_132_code 163 (.getfield 13) 3 166 := ⟨by decide +kernel, rfl⟩
theorem d_M_days_166 : Dc prog_14_method_132_code 166 (.bipush 6) 2 168 := ⟨by decide +kernel, rfl⟩
theorem d_M_days_168 : Dc prog_14_method_132_code 168 (.dup2) 1 169 := ⟨by decide +kernel, rfl⟩
theorem d_M_days_169 : Dc prog_14_method_132_code 169 (.iaload) 1 170 := ⟨by decide +kernel, rfl⟩
theorem d_M_days_170 : Dc prog_14_method_132_code 170 (.iconst 1) 1 171 := ⟨by decide +kernel, rfl⟩
theorem d_M_days_171 : Dc prog_14_method_132_code 171 (.iadd) 1 172 := ⟨by decide +kernel, rfl⟩
theorem d_M_days_172 : Dc prog_14_method_132_code 172 (.iastore) 1 173 := ⟨by decide +kernel, rfl⟩
theorem d_M_days_173 : Dc prog_14_method_132_code 173 (.iinc 3 1) 3 176 := ⟨by decide +kernel, rfl⟩
theorem d_M_days_176 : Dj prog_14_method_132_code 176 (.goto (-111)) 179 (-111) 65 := ⟨by decide +kernel, rfl, rfl⟩
theorem d_M_days_179 : Dc prog_14_method_132_code 179 (.aload_n 0) 1 180 := ⟨by decide +kernel, rfl⟩
theorem d_M_days_180 : Dc prog_14_method_132_code 180 (.getfield 13) 3 183 := ⟨by decide +kernel, rfl⟩
theorem d_M_days_183 : Dc prog_14_method_132_code 183 (.bipush 31) 2 185 := ⟨by decide +kernel, rfl⟩
theorem d_M_days_185 : Dc prog_14_method_132_code 185 (.iaload) 1 186 := ⟨by decide +kernel, rfl⟩
theorem d_M_days_186 : Dc prog_14_method_132_code 186 (.istore_n 3) 1 187 := ⟨by decide +kernel, rfl⟩
theorem d_M_days_187 : Dc prog_14_method_132_code 187 (.iconst 0) 1 188 := ⟨by decide +kernel, rfl⟩
theorem d_M_days_188 : Dc prog_14_method_132_code 188 (.istore 4) 2 190 := ⟨by decide +kernel, rfl⟩
theorem d_M_days_190 : Dc prog_14_method_132_code 190 (.iload 4) 2 192 := ⟨by decide +kernel, rfl⟩
theorem d_M_days_192 : Dc prog_14_method_132_code 192 (.aload_n 0) 1 193 := ⟨by decide +kernel, rfl⟩
theorem d_M_days_193 : Dc prog_14_method_132_code 193 (.getfield 13) 3 196 := ⟨by decide +kernel, rfl⟩
theorem d_M_days_196 : Dc prog_14_method_132_code 196 (.iconst 0) 1 197 := ⟨by decide +kernel, rfl⟩
theorem d_M_days_197 : Dc prog_14_method_132_code 197 (.iaload) 1 198 := ⟨by decide +kernel, rfl⟩
theorem d_M_days_198 : Dj prog_14_method_132_code 198 (.if_icmp .ge 45) 201 45 243 := ⟨by decide +kernel, rfl, rfl⟩
theorem d_M_days_201 : Dc prog_14_method_132_code 201 (.aload_n 0) 1 202 := ⟨by decide +kernel, rfl⟩
theorem d_M_days_202 : Dc prog_14_method_132_code 202 (.getfield 164) 3 205 := ⟨by decide +kernel, rfl⟩
theorem d_M_days_205 : Dc prog_14_method_132_code 205 (.iconst 2) 1 206 := ⟨by decide +kernel, rfl⟩
theorem d_M_days_206 : Dc prog_14_method_132_code 206 (.iload 4) 2 208 := ⟨by decide +kernel, rfl⟩
theorem d_M_days_208 : Dc prog_14_method_132_code 208 (.imul) 1 209 := ⟨by decide +kernel, rfl⟩
theorem d_M_days_209 : Dc prog_14_method_132_code 209 (.aload_n 0) 1 210 := ⟨by decide +kernel, rfl⟩
theorem d_M_days_210 : Dc prog_14_method_132_code 210 (.getfield 13) 3 213 := ⟨by decide +kernel, rfl⟩
theorem d_M_days_213 : Dc prog_14_method_132_code 213 (.bipush 9) 2 215 := ⟨by decide +kernel, rfl⟩
theorem d_M_days_215 : Dc prog_14_method_132_code 215 (.iload 4) 2 217 := ⟨by decide +kernel, rfl⟩
theorem d_M_days_217 : Dc prog_14_method_132_code 217 (.iadd) 1 218 := ⟨by decide +kernel, rfl⟩
theorem d_M_days_218 : Dc prog_14_method_132_code 218 (.iaload) 1 219 := ⟨by decide +kernel, rfl⟩
theorem d_M_days_219 : Dc prog_14_method_132_code 219 (.iastore) 1 220 := ⟨by decide +kernel, rfl⟩
theorem d_M_days_220 : Dc prog_14_method_132_code 220 (.aload_n 0) 1 221 := ⟨by decide +kernel, rfl⟩
theorem d_M_days_221 : Dc prog_14_method_132_code 221 (.getfield 164) 3 224 := ⟨by decide +kernel, rfl⟩
theorem d_M_days_224 : Dc prog_14_method_132_code 224 (.iconst 2) 1 225 := ⟨by decide +kernel, rfl⟩
theorem d_M_days_225 : Dc prog_14_method_132_code 225 (.iload 4) 2 227 := ⟨by decide +kernel, rfl⟩
theorem d_M_days_227 : Dc prog_14_method_132_code 227 (.imul) 1 228 := ⟨by decide +kernel, rfl⟩
theorem d_M_days_228 : Dc prog_14_method_132_code 228 (.iconst 1) 1 229 := ⟨by decide +kernel, rfl⟩
theorem d_M_days_229 : Dc prog_14_method_132_code 229 (.iadd) 1 230 := ⟨by decide +kernel, rfl⟩
theorem d_M_days_230 : Dc prog_14_method_132_code 230 (.aload_n 0) 1 231 := ⟨by decide +kernel, rfl⟩
theorem d_M_days_231 : Dc prog_14_method_132_code 231 (.iload 4) 2 233 := ⟨by decide +kernel, rfl⟩
theorem d_M_days_233 : Dc prog_14_method_132_code 233 (.invokevirtual 201) 3 236 := ⟨by decide +kernel, rfl⟩
theorem d_M_days_236 : Dc prog_14_method_132_code 236 (.iastore) 1 237 := ⟨by decide +kernel, rfl⟩
theorem d_M_days_237 : Dc prog_14_method_132_code 237 (.iinc 4 1) 3 240 := ⟨by decide +kernel, rfl⟩
theorem d_M_days_240 : Dj prog_14_method_132_code 240 (.goto (-50)) 243 (-50) 190 := ⟨by decide +kernel, rfl, rfl⟩
theorem d_M_days_243 : Dc prog_14_method_132_code 243 (.aload_n 0) 1 244 := ⟨by decide +kernel, rfl⟩
theorem d_M_days_244 : Dc prog_14_method_132_code 244 (.aload_n 0) 1 245 := ⟨by decide +kernel, rfl⟩
theorem d_M_days_245 : Dc prog_14_method_132_code 245 (.getfield 13) 3 248 := ⟨by decide +kernel, rfl⟩
theorem d_M_days_248 : Dc prog_14_method_132_code 248 (.iconst 0) 1 249 := ⟨by decide +kernel, rfl⟩
theorem d_M_days_249 : Dc prog_14_method_132_code 249 (.iaload) 1 250 := ⟨by decide +kernel, rfl⟩
theorem d_M_days_250 : Dc prog_14_method_132_code 250 (.putfield 167) 3 253 := ⟨by decide +kernel, rfl⟩
theorem d_M_days_253 : Dc prog_14_method_132_code 253 (.aload_n 0) 1 254 := ⟨by decide +kernel, rfl⟩
theorem d_M_days_254 : Dc prog_14_method_132_code 254 (.bipush 16) 2 256 := ⟨by decide +kernel, rfl⟩
theorem d_M_days_256 : Dc prog_14_method_132_code 256 (.invokevirtual 187) 3 259 := ⟨by decide +kernel, rfl⟩
theorem d_M_days_259 : Dc prog_14_method_132_code 259 (.aload_n 0) 1 260 := ⟨by decide +kernel, rfl⟩
theorem d_M_days_260 : Dc prog_14_method_132_code 260 (.iload_n 3) 1 261 := ⟨by decide +kernel, rfl⟩
theorem d_M_days_261 : Dc prog_14_method_132_code 261 (.invokevirtual 179) 3 264 := ⟨by decide +kernel, rfl⟩
theorem d_M_days_264 : Dc prog_14_method_132_code 264 (.ireturn) 1 265 := ⟨by decide +kernel, rfl⟩
theorem d_M_draw_0 : Dc prog_14_method_131_code 0 (.aload_n 0) 1 1 := ⟨by decide +kernel, rfl⟩
theorem d_M_draw_1 : Dc prog_14_method_131_code 1 (.aload_n 0) 1 2 := ⟨by decide +kernel, rfl⟩
theorem d_M_draw_2 : Dc prog_14_method_131_code 2 (.getfield 595) 3 5 := ⟨by decide +kernel, rfl⟩
theorem d_M_draw_5 : Dc prog_14_method_131_code 5 (.ldc2_w 598) 3 8 := ⟨by decide +kernel, rfl⟩
theorem d_M_draw_8 : Dc prog_14_method_131_code 8 (.lmul) 1 9 := ⟨by decide +kernel, rfl⟩
theorem d_M_draw_9 : Dc prog_14_method_131_code 9 (.ldc2_w 600) 3 12 := ⟨by decide +kernel, rfl⟩
theorem d_M_draw_12 : Dc prog_14_method_131_code 12 (.ladd) 1 13 := ⟨by decide +kernel, rfl⟩
theorem d_M_draw_13 : Dc prog_14_method_131_code 13 (.ldc2_w 602) 3 16 := ⟨by decide +kernel, rfl⟩
theorem d_M_draw_16 : Dc prog_14_method_131_code 16 (.lrem) 1 17 := ⟨by decide +kernel, rfl⟩
theorem d_M_draw_17 : Dc prog_14_method_131_code 17 (.putfield 595) 3 20 := ⟨by decide +kernel, rfl⟩
theorem d_M_draw_20 : Dc prog_14_method_131_code 20 (.aload_n 0) 1 21 := ⟨by decide +kernel, rfl⟩
theorem d_M_draw_21 : Dc prog_14_method_131_code 21 (.getfield 595) 3 24 := ⟨by decide +kernel, rfl⟩
theorem d_M_draw_24 : Dc prog_14_method_131_code 24 (.iload_n 1) 1 25 := ⟨by decide +kernel, rfl⟩
theorem d_M_draw_25 : Dc prog_14_method_131_code 25 (.i2l) 1 26 := ⟨by decide +kernel, rfl⟩
theorem d_M_draw_26 : Dc prog_14_method_131_code 26 (.lrem) 1 27 := ⟨by decide +kernel, rfl⟩
theorem d_M_draw_27 : Dc prog_14_method_131_code 27 (.l2i) 1 28 := ⟨by decide +kernel, rfl⟩
theorem d_M_draw_28 : Dc prog_14_method_131_code 28 (.ireturn) 1 29 := ⟨by decide +kernel, rfl⟩
theorem fl_M_595 : FL "SubgraphDeskModel" 595 12 66 false .long (2, 0) := ⟨R_M, F_M, 69, ty_M, rfl, rfl, in_M, tyok_M, nm_M, by decide, gd 1538 (by decide +kernel) rfl, rfl, rfl, rfl⟩
theorem ml_M_604 : Cond.methodLink "SubgraphDeskModel" 604 m_M_draw.1 ∈ lw_gd := gd 2221 (by decide +kernel) rfl
theorem k_M_287 : Cond.constantLong "SubgraphDeskModel" 287 (1000000) ∈ lw_gd := gd 1857 (by decide +kernel) rfl
theorem k_M_547 : Cond.constantLong "SubgraphDeskModel" 547 (60) ∈ lw_gd := gd 2143 (by decide +kernel) rfl
theorem k_M_598 : Cond.constantLong "SubgraphDeskModel" 598 (1103) ∈ lw_gd := gd 2225 (by decide +kernel) rfl
theorem k_M_600 : Cond.constantLong "SubgraphDeskModel" 600 (12345) ∈ lw_gd := gd 2226 (by decide +kernel) rfl
theorem k_M_602 : Cond.constantLong "SubgraphDeskModel" 602 (1000003) ∈ lw_gd := gd 2227 (by decide +kernel) rfl
theorem nextS_lt (x : Nat) : nextS x < 1000003 := Nat.mod_lt _ (by decide)
theorem dayOne_n {N x a b c d : Nat} {cs : Nat → Nat} {es : List Nat} (ha : nextS x = a) (hb : nextS a = b) (hc : nextS b = c) (hd : nextS c = d) : dayOne N (x, cs, es) = (d, (if d % 4 = 2 then (fun i => if i = a % N then c % 6 else cs i) else cs), (if d % 4 < 2 ∧ a % N ≠ b % N then tog es (codeOf (a % N) (b % N)) else es)) := by
  subst ha
  subst hb
  subst hc
  subst hd
  rfl
theorem lN_ne {m : Nat} (h0 : 0 < m) (h1 : m < 2 ^ 31) : ¬ lN m = 0 := fun z => by
  have := (pk_lEQ (a := m) (b := 0) (by omega) (by decide)).mp z
  omega
theorem MUndo.cong {f so f2 : Nat → Int32} {n : Int32} {g : GC} {u : List (Nat × Snap)} (h : MUndo f so n g u) (hW : WG g) (e : ∀ i, i < 1472 → f2 i = f i) : MUndo f2 so n g u := by
  obtain ⟨h1, h2, h3⟩ := h
  refine ⟨h1, h2, fun k q hq => ?_⟩
  have hk : k < u.length := (List.getElem?_eq_some_iff.mp hq).1
  obtain ⟨g1, g2, ⟨s1, s2, s3, s4, s5, s6⟩, g4⟩ := h3 k q hq
  have el := WG.el g4
  have hn := hW.n
  have hv := hW.v
  have ee : ∀ i, i < 92 → f2 (92 * k + i) = f (92 * k + i) := fun i hi => e _ (by omega)
  refine ⟨g1, g2, ⟨fun i hi => ?_, fun i hi => ?_, fun v hv2 => ?_, fun v hv2 => ?_, ?_, fun m hm => ?_⟩, g4⟩
  · show f2 _ = _; rw [ee _ (by omega)]; exact s1 i hi
  · show f2 _ = _; rw [ee _ (by omega)]; exact s2 i hi
  · show f2 _ = _; rw [ee _ (by omega)]; exact s3 v hv2
  · show f2 _ = _; rw [ee _ (by omega)]; exact s4 v hv2
  · show f2 _ = _; rw [ee _ (by omega)]; exact s5
  · have hm2 : m < (gE (unsnap g q.2)).length := hm
    show f2 _ = _; rw [ee _ (by omega)]; exact s6 m hm
/-- days on paper: the row's middle and the draws' state change -/
def FrD (w w2 : Mem) : Prop := (∀ a, a ≠ 91 → rI w2 a = rI w a) ∧ (∀ i, i < 6 ∨ 98 ≤ i → rI w2 91 i = rI w 91 i) ∧ (∀ a, a ≠ 89 → rJ w2 a = rJ w a) ∧ w2.2.2 = w.2.2
theorem FrD.rf (w : Mem) : FrD w w := ⟨fun _ _ => rfl, fun _ _ => rfl, fun _ _ => rfl, rfl⟩
theorem FrD.J {w w2 : Mem} {k : Nat} {x : Int64} (h : FrD w w2) : FrD w (sJ w2 89 k x) := ⟨h.1, h.2.1, fun a ha => by rw [rJ_sJ_ne _ _ _ ha]; exact h.2.2.1 a ha, h.2.2.2⟩
theorem FrD.I {w w2 : Mem} {k : Nat} {x : Int32} (hk : 6 ≤ k ∧ k < 98) (h : FrD w w2) : FrD w (sI w2 91 k x) := ⟨fun a ha => by rw [rI_sI_ne _ _ _ ha]; exact h.1 a ha, fun i hi => by rw [rI_sI, upd_eq, if_neg (by omega)]; exact h.2.1 i hi, h.2.2⟩
theorem FrD.A {w w2 : Mem} {f : Nat → Int32} (hf : ∀ i, i < 6 ∨ 98 ≤ i → f i = rI w2 91 i) (h : FrD w w2) : FrD w (sA w2 91 f) := ⟨fun a ha => by rw [rI_sA_ne _ _ ha]; exact h.1 a ha, fun i hi => by rw [rI_sA, hf i hi]; exact h.2.1 i hi, h.2.2⟩
theorem FrD.M {w w2 : Mem} (h : FrD w w2) : FrM w w2 := ⟨fun a ha => h.1 a (by omega), fun a ha => h.2.2.1 a (by omega), h.2.2.2⟩
theorem days_no1 {a n : Int32} {s : SG} (h : ¬ (inN a 1000001 ∧ nI 1 ≤ n ∧ n ≤ nI 60)) : opDays a n s = sNo 1 s := by unfold opDays; exact if_pos h
theorem days_no3 {a n : Int32} {s : SG} (h : inN a 1000001 ∧ nI 1 ≤ n ∧ n ≤ nI 60) (h2 : gN (sG s) = 0) : opDays a n s = sNo 3 s := by
  unfold opDays
  exact (if_neg (not_not_intro h)).trans (if_pos h2)
theorem days_ok {a n x : Nat} {s : SG} {c : Nat → Nat} {es : List Nat} (ha : a < 1000001) (h1 : 1 ≤ n) (h2 : n ≤ 60) (h3 : ¬ gN (sG s) = 0) (hr : dayN (gN (sG s)) (min n (999 - gT (sG s) 0)) (a, gC (sG s), gE (sG s)) = (x, c, es)) : opDays (nI a) (nI n) s = sOk (nI es.length) (wDr s (some (gN (sG s), c, fun k => nearB es k))) := by
  unfold opDays
  refine (if_neg (not_not_intro ⟨inN_nI ha (by decide), nI_le h1 (by omega), nI_le h2 (by decide)⟩)).trans ((if_neg h3).trans ?_)
  rw [tn_nI (by omega), tn_nI (by omega), hr]
theorem c_M_draw {E : EV} {w : Mem} {x y m : Nat} (hs : rJ w 89 66 = lN x) (hx : x < 1000003) (hy : nextS x = y) (h0 : 0 < m) (h1 : m < 2 ^ 31) : T E m_M_draw 0 0 0 [.ref 89, .int (nI m)] w (Ret (some (.int (nI (y % m)))) (sJ w 89 66 (lN y))) := by
  refine T_of (L := [.ref 89, .int (nI m)]) cf_M_draw rfl (Nat.le_of_ble_eq_true rfl) (fun X hX hF => ?_)
  have hlt := nextS_lt x
  rw [hy] at hlt
  have hml : y % m < m := Nat.mod_lt _ h0
  refine g_aload0 hX d_M_draw_0 ?_
  refine g_aload0 hX d_M_draw_1 ?_
  refine g_getJ hX d_M_draw_2 fl_M_595 (lv_89 _) ?_
  refine g_topl hs ?_
  refine g_ldc2 (v := lN 1103) hX d_M_draw_5 k_M_598 rfl ?_
  refine g_lmul hX d_M_draw_8 ?_
  refine g_topl (lN_mul _ _) ?_
  refine g_ldc2 (v := lN 12345) hX d_M_draw_9 k_M_600 rfl ?_
  refine g_ladd hX d_M_draw_12 ?_
  refine g_topl (lN_add _ _) ?_
  refine g_ldc2 (v := lN 1000003) hX d_M_draw_13 k_M_602 rfl ?_
  refine g_lrem hX d_M_draw_16 (by decide) ?_
  refine g_topl (y := lN y) (by rw [← hy]; exact pk_lRem (by omega) (by decide) (by decide)) ?_
  refine g_putJ hX d_M_draw_17 fl_M_595 (lv_89 _) ?_
  refine g_aload0 hX d_M_draw_20 ?_
  refine g_getJ hX d_M_draw_21 fl_M_595 (lv_89 _) ?_
  refine g_topl (y := lN y) (by rw [rJ_sJ, updL_eq, if_pos rfl]) ?_
  refine g_iload1 hX d_M_draw_24 ?_
  refine g_i2l hX d_M_draw_25 ?_
  refine g_topl (nI_l h1) ?_
  refine g_lrem hX d_M_draw_26 (lN_ne h0 h1) ?_
  refine g_topl (pk_lRem (by omega) h0 (by omega)) ?_
  refine g_l2i hX d_M_draw_27 ?_
  refine g_topi (lN_i _) ?_
  refine g_iret hX hF d_M_draw_28 (by omega) (by omega) ?_
  exact ⟨rfl, rfl⟩
theorem c_M_days {E : EV} {w : Mem} {a n : Int32} {s : SG} (h : MInv w s) : T E m_M_days 4 0 0 [.ref 89, .int a, .int n] w (fun r w2 => r = some (.int (opDays a n s).1) ∧ MInv w2 (opDays a n s).2 ∧ FrM w w2) := by
  refine T_of (L := [.ref 89, .int a, .int n, un, un, un, un, un]) cf_M_days rfl (Nat.le_of_ble_eq_true rfl) (fun X hX hF => ?_)
  obtain ⟨⟨hR, hL, hW⟩, hU, hT, hI, hRf, hSt, hFa, hSm, hSp, hDr, hOr⟩ := id h
  have hn := hW.n
  have hv := hW.v
  have he := hW.el
  refine g_aload0 hX d_M_days_0 ?_
  refine g_iconst (v := nI 0) hX d_M_days_1 rfl ?_
  refine g_putI hX d_M_days_2 fl_M_170 (lv_89 _) ?_
  refine g_iload1 hX d_M_days_5 ?_
  refine g_i2l hX d_M_days_6 ?_
  refine g_lconst (v := lN 0) hX d_M_days_7 rfl ?_
  refine g_ldc2 (v := lN 1000000) hX d_M_days_8 k_M_287 rfl ?_
  refine g_callS (As := [_, _, _]) hX hF.1 d_M_days_11 ml_M_190 cf_M_in cs_M_in rfl (c_M_in) (by omega) (by omega) (by omega) (Nat.le_of_ble_eq_true rfl) ?_
  refine ret_k ?_
  refine g_ifB_eq hX d_M_days_14 (fun e14 => ?_) (fun e14 => ?_)
  · have d14 := mt (in_le (by decide)).mpr e14
    refine g_aload0 hX d_M_days_29 ?_
    refine g_iconst (v := -1) hX d_M_days_30 rfl ?_
    refine g_callV (As := [_]) hX hF.1 d_M_days_31 ml_M_179 cf_M_tell cv_M_tell rfl rfl (c_M_tellN (k := 1) (by decide) (by decide)) (rcv_obj hX (lv_89 _) rfl rfl) (by omega) (by omega) (by omega) (Nat.le_of_ble_eq_true rfl) ?_
    refine ret_k ?_
    refine g_iret hX hF d_M_days_34 (by omega) (by omega) ?_
    rw [days_no1 (by first | exact fun z => d14 z.1 | exact fun z => d26 z.2)]
    exact ⟨rfl, (h.thr (x := nI 0)).no (k := 1) (by decide), (by repeat (first | exact FrM.rf _ | refine FrM.I (by decide) ?_ | refine FrM.A (by decide) ?_ | refine FrM.J9 ?_ | refine FrM.J (by decide) ?_))⟩
  · have d14 := (in_le (by decide)).mp e14
    refine g_iload2 hX d_M_days_17 ?_
    refine g_i2l hX d_M_days_18 ?_
    refine g_lconst (v := lN 1) hX d_M_days_19 rfl ?_
    refine g_ldc2 (v := lN 60) hX d_M_days_20 k_M_547 rfl ?_
    refine g_callS (As := [_, _, _]) hX hF.1 d_M_days_23 ml_M_190 cf_M_in cs_M_in rfl (c_M_in) (by omega) (by omega) (by omega) (Nat.le_of_ble_eq_true rfl) ?_
    refine ret_k ?_
    refine g_ifB_ne hX d_M_days_26 (fun e26 => ?_) (fun e26 => ?_)
    · have d26 := (in_isC (by decide) (by decide)).mp e26
      obtain ⟨n, hn1, hn2, rfl⟩ := one_of (by decide) d26
      obtain ⟨sd, hsd, rfl, -⟩ := inN_of d14 (by decide)
      refine g_aload0 hX d_M_days_35 ?_
      refine g_getF hX d_M_days_36 fl_M_13 (lv_89 _) ?_
      refine g_iconst (v := nI 0) hX d_M_days_39 rfl ?_
      refine g_iald hX d_M_days_40 (lv_91 _) rfl (by decide) ?_
      refine g_topi hR.n ?_
      refine g_if_ne hX d_M_days_41 (fun e41 => ?_) (fun e41 => ?_)
      · have hN0 : ¬ gN (sG s) = 0 := fun z => e41 (by rw [z]; rfl)
        refine g_aload0 hX d_M_days_51 ?_
        refine g_bipush (v := nI 16) hX d_M_days_52 rfl ?_
        refine g_callV (As := [_]) hX hF.1 d_M_days_54 ml_M_183 cf_M_keepAll cv_M_keepAll rfl rfl (c_M_keepAll (k := 16) (by omega)) (rcv_obj hX (lv_89 _) rfl rfl) (by omega) (by omega) (by omega) (Nat.le_of_ble_eq_true rfl) ?_
        refine ret_k ?_
        refine g_aload0 hX d_M_days_57 ?_
        refine g_iload1 hX d_M_days_58 ?_
        refine g_i2l hX d_M_days_59 ?_
        refine g_topl (nI_l (by omega)) ?_
        refine g_putJ hX d_M_days_60 fl_M_595 (lv_89 _) ?_
        refine g_iconst (v := nI 0) hX d_M_days_63 rfl ?_
        refine g_istore3 hX d_M_days_64 rfl (by decide) ?_
        obtain ⟨⟨fx, fc, fe⟩, hd0⟩ : ∃ r, dayN (gN (sG s)) (min n (999 - gT (sG s) 0)) (sd, gC (sG s), gE (sG s)) = r := ⟨_, rfl⟩
        have ht0 := hW.t.1
        have kE : ∀ (k x : Nat) (g : GC) (wk : Mem), MRow (rI wk 91) g → WG g → gN g = gN (sG s) → gT g 0 = gT (sG s) 0 + k → FrD (sJ (sA (sI w 89 0 (nI 0)) 94 (va_cpy (rI w 91) (rI w 94) 6 (92 * 16) 92)) 89 66 (lN sd)) wk → dayN (gN (sG s)) 0 (x, gC g, gE g) = (fx, fc, fe) → G0 E X 0 0 179 [.ref 89, .int (nI sd), .int (nI n), .int (nI k), un, un, un, un] [] wk := by
          intro k x g wk hG hGW hG3 hG4 hG5 hfin
          have gn := hGW.n
          have ge := hGW.el
          have lpE : ∀ (fuel : Nat) (i : Nat) (f : Nat → Int32), gN g - i < fuel → (i ≤ gN g) → (∀ j, j < i → f (2 * j) = nI (gC g j) ∧ f (2 * j + 1) = nI (nearB (gE g) j)) → G0 E X 0 0 190 [.ref 89, .int (nI sd), .int (nI n), .int (nI (gE g).length), .int (nI i), un, un, un] [] (sA wk 127 f) := by
            intro fuel
            induction fuel with
            | zero => intro i f q0; exact absurd q0 (Nat.not_lt_zero _)
            | succ fuel ih =>
              intro i f q0 q1 q2
              refine g_iload4 hX d_M_days_190 ?_
              refine g_aload0 hX d_M_days_192 ?_
              refine g_getF hX d_M_days_193 fl_M_13 (lv_89 _) ?_
              refine g_iconst (v := nI 0) hX d_M_days_196 rfl ?_
              refine g_iald hX d_M_days_197 (lv_91 _) rfl (by decide) ?_
              refine g_topi hG.n ?_
              refine g_icmpN_ge hX d_M_days_198 (by omega) (by omega) (fun c0 => ?_) (fun c0 => ?_)
              · refine g_aload0 hX d_M_days_243 ?_
                refine g_aload0 hX d_M_days_244 ?_
                refine g_getF hX d_M_days_245 fl_M_13 (lv_89 _) ?_
                refine g_iconst (v := nI 0) hX d_M_days_248 rfl ?_
                refine g_iald hX d_M_days_249 (lv_91 _) rfl (by decide) ?_
                refine g_topi hG.n ?_
                refine g_putI hX d_M_days_250 fl_M_167 (lv_89 _) ?_
                refine g_aload0 hX d_M_days_253 ?_
                refine g_bipush (v := nI 16) hX d_M_days_254 rfl ?_
                refine g_callV (As := [_]) hX hF.1 d_M_days_256 ml_M_187 cf_M_putBack cv_M_putBack rfl rfl (c_M_putBack (k := 16) (by omega)) (rcv_obj hX (lv_89 _) rfl rfl) (by omega) (by omega) (by omega) (Nat.le_of_ble_eq_true rfl) ?_
                refine ret_k ?_
                refine g_aload0 hX d_M_days_259 ?_
                refine g_iload3 hX d_M_days_260 ?_
                refine g_callV (As := [_]) hX hF.1 d_M_days_261 ml_M_179 cf_M_tell cv_M_tell rfl rfl (c_M_tell (by omega)) (rcv_obj hX (lv_89 _) rfl rfl) (by omega) (by omega) (by omega) (Nat.le_of_ble_eq_true rfl) ?_
                refine ret_k ?_
                refine g_iret hX hF d_M_days_264 (by omega) (by omega) ?_
                obtain rfl : i = gN g := by omega
                obtain ⟨rfl, rfl, rfl⟩ : x = fx ∧ gC g = fc ∧ gE g = fe := by
                  have hz : (x, gC g, gE g) = (fx, fc, fe) := hfin
                  injection hz with z1 z2
                  injection z2 with z3 z4
                  exact ⟨z1, z3, z4⟩
                rw [days_ok hsd hn1 hn2 hN0 hd0]
                have e94 : ∀ i, rI wk 94 i = va_cpy (rI w 91) (rI w 94) 6 (92 * 16) 92 i := fun i => by rw [hG5.1 94 (by decide)]; show rI (sA (sI w 89 0 (nI 0)) 94 _) 94 i = _; exact congrFun (rI_sA _ _ _) i
                have hrow : va_cpy (rI wk 94) (rI wk 91) (92 * 16) 6 92 = rI w 91 := by
                  funext i
                  by_cases hi : 6 ≤ i ∧ i < 6 + 92
                  · rw [va_cpy, if_pos hi, e94, va_cpy, if_pos (by omega)]
                    exact congrArg (rI w 91) (by omega)
                  · rw [va_cpy, if_neg hi]
                    exact hG5.2.1 i (by omega)
                refine ⟨rfl, ⟨⟨?_, ?_, hW⟩, ?_, ?_, ?_, ?_, rfl, ?_, ?_, ?_, ?_, ?_⟩, ?_⟩
                · show MRow (va_cpy (rI wk 94) (rI wk 91) (92 * 16) 6 92) (sG s)
                  rw [hrow]; exact hR
                · show MLaws (va_cpy (rI wk 94) (rI wk 91) (92 * 16) 6 92) (gL (sG s))
                  rw [hrow]; exact hL
                · show MUndo (rI wk 94) (rI wk 95) (rI wk 89 8) (sG s) (sU s)
                  rw [hG5.1 95 (by decide), hG5.1 89 (by decide)]
                  exact hU.cong hW (fun i hi => by rw [e94, va_cpy, if_neg (by omega)])
                · show MTape (rI wk 98) (rI wk 89 13) (sTp s)
                  rw [hG5.1 98 (by decide), hG5.1 89 (by decide)]; exact hT
                · show MImg (rI wk 92) (rI wk 93) (sIm s)
                  rw [hG5.1 92 (by decide), hG5.1 93 (by decide)]; exact hI
                · show ∀ k, k < 7 → rI wk 90 k = sRf s k
                  rw [hG5.1 90 (by decide)]; exact hRf
                · show rI wk 89 18 = sFa s
                  rw [hG5.1 89 (by decide)]; exact hFa
                · show rI wk 89 11 = sSm s
                  rw [hG5.1 89 (by decide)]; exact hSm
                · show rI wk 89 64 = sSp s
                  rw [hG5.1 89 (by decide)]; exact hSp
                · show MDr f (nI (gN g)) (some (gN (sG s), gC g, fun k => nearB (gE g) k))
                  rw [← hG3]
                  exact ⟨hGW.n, rfl, q2⟩
                · show rI wk 89 20 = nI 0
                  rw [hG5.1 89 (by decide)]; exact hOr
                · refine FrM.tr (b := (sJ (sA (sI w 89 0 (nI 0)) 94 (va_cpy (rI w 91) (rI w 94) 6 (92 * 16) 92)) 89 66 (lN sd))) (by repeat (first | exact FrM.rf _ | refine FrM.I (by decide) ?_ | refine FrM.A (by decide) ?_ | refine FrM.B (by decide) ?_ | refine FrM.J9 ?_ | refine FrM.J (by decide) ?_)) (FrM.tr hG5.M (by repeat (first | exact FrM.rf _ | refine FrM.I (by decide) ?_ | refine FrM.A (by decide) ?_ | refine FrM.B (by decide) ?_ | refine FrM.J9 ?_ | refine FrM.J (by decide) ?_)))
              · refine g_aload0 hX d_M_days_201 ?_
                refine g_getF hX d_M_days_202 fl_M_164 (lv_89 _) ?_
                refine g_iconst (v := nI 2) hX d_M_days_205 rfl ?_
                refine g_iload4 hX d_M_days_206 ?_
                refine g_imulN hX d_M_days_208 ?_
                refine g_aload0 hX d_M_days_209 ?_
                refine g_getF hX d_M_days_210 fl_M_13 (lv_89 _) ?_
                refine g_bipush (v := nI 9) hX d_M_days_213 rfl ?_
                refine g_iload4 hX d_M_days_215 ?_
                refine g_iaddN hX d_M_days_217 ?_
                refine g_iald hX d_M_days_218 (lv_91 _) rfl (by omega) ?_
                refine g_topi (hG.c i (by omega)) ?_
                refine g_iast hX d_M_days_219 (lv_127 _) rfl (by omega) ?_
                refine g_aload0 hX d_M_days_220 ?_
                refine g_getF hX d_M_days_221 fl_M_164 (lv_89 _) ?_
                refine g_iconst (v := nI 2) hX d_M_days_224 rfl ?_
                refine g_iload4 hX d_M_days_225 ?_
                refine g_imulN hX d_M_days_227 ?_
                refine g_iconst (v := nI 1) hX d_M_days_228 rfl ?_
                refine g_iaddN hX d_M_days_229 ?_
                refine g_aload0 hX d_M_days_230 ?_
                refine g_iload4 hX d_M_days_231 ?_
                refine g_callV (As := [_]) hX hF.1 d_M_days_233 ml_M_201 cf_M_bitsOf cv_M_bitsOf rfl rfl (c_M_bitsOf (g := g) hG hGW (by omega)) (rcv_obj hX (lv_89 _) rfl rfl) (by omega) (by omega) (by omega) (Nat.le_of_ble_eq_true rfl) ?_
                refine ret_k ?_
                refine g_iast hX d_M_days_236 (lv_127 _) rfl (by omega) ?_
                refine g_iincN4 hX d_M_days_237 rfl (by decide) ?_
                refine g_goto hX d_M_days_240 ?_
                rw [sI_sA, sI_sA]
                refine ih (i + 1) _ (by omega) (by omega) (fun j hj => ?_)
                rw [upd_eq, upd_eq, upd_eq, upd_eq, if_neg (by omega)]
                by_cases hji : j = i
                · rw [if_pos (by omega), if_pos (by omega), hji]
                  exact ⟨rfl, rfl⟩
                · rw [if_neg (by omega), if_neg (by omega), if_neg (by omega)]
                  exact q2 j (by omega)
          refine g_aload0 hX d_M_days_179 ?_
          refine g_getF hX d_M_days_180 fl_M_13 (lv_89 _) ?_
          refine g_bipush (v := nI 31) hX d_M_days_183 rfl ?_
          refine g_iald hX d_M_days_185 (lv_91 _) rfl (by decide) ?_
          refine g_topi hG.e.1 ?_
          refine g_istore3 hX d_M_days_186 rfl (by decide) ?_
          refine g_iconst (v := nI 0) hX d_M_days_187 rfl ?_
          refine g_istore4 hX d_M_days_188 rfl (by decide) ?_
          refine g_mem (show wk = sA wk 127 (rI wk 127) from (sA_self _ _).symm) ?_
          exact lpE (gN g + 1) 0 _ (by omega) (by omega) (fun j hj => absurd hj (Nat.not_lt_zero _))
        have lp : ∀ (fuel : Nat) (k x : Nat) (g : GC) (wk : Mem), (min n (999 - gT (sG s) 0)) - k < fuel → (MRow (rI wk 91) g) → (WG g) → (gN g = gN (sG s)) → (gT g 0 = gT (sG s) 0 + k) → (FrD (sJ (sA (sI w 89 0 (nI 0)) 94 (va_cpy (rI w 91) (rI w 94) 6 (92 * 16) 92)) 89 66 (lN sd)) wk) → (rJ wk 89 66 = lN x) → (x < 1000003) → (k ≤ (min n (999 - gT (sG s) 0))) → (dayN (gN (sG s)) ((min n (999 - gT (sG s) 0)) - k) (x, gC g, gE g) = (fx, fc, fe)) → G0 E X 0 0 65 [.ref 89, .int (nI sd), .int (nI n), .int (nI k), un, un, un, un] [] wk := by
          intro fuel
          induction fuel with
          | zero => intro k x g wk q0; exact absurd q0 (Nat.not_lt_zero _)
          | succ fuel ih =>
            intro k x g wk q0 q1 q2 q3 q4 q5 q6 q7 q8 q9
            refine g_iload3 hX d_M_days_65 ?_
            refine g_iload2 hX d_M_days_66 ?_
            refine g_icmpN_ge hX d_M_days_67 (by omega) (by omega) (fun c0 => ?_) (fun c0 => ?_)
            · exact kE k x g wk q1 q2 q3 q4 q5 (by rw [← q9, show (min n (999 - gT (sG s) 0)) - k = 0 by omega])
            · refine g_aload0 hX d_M_days_70 ?_
              refine g_getF hX d_M_days_71 fl_M_13 (lv_89 _) ?_
              refine g_bipush (v := nI 6) hX d_M_days_74 rfl ?_
              refine g_iald hX d_M_days_76 (lv_91 _) rfl (by decide) ?_
              refine g_topi (show rI wk 91 (6 + 0) = nI (gT (sG s) 0 + k) by rw [q1.t 0 (by decide), q4]) ?_
              refine g_sipush (v := nI 999) hX d_M_days_77 rfl ?_
              refine g_icmpN_ge hX d_M_days_80 (by omega) (by omega) (fun c1 => ?_) (fun c1 => ?_)
              · exact kE k x g wk q1 q2 q3 q4 q5 (by rw [← q9, show (min n (999 - gT (sG s) 0)) - k = 0 by omega])
              · obtain ⟨xa, hxa⟩ : ∃ a, nextS x = a := ⟨_, rfl⟩
                obtain ⟨xb, hxb⟩ : ∃ a, nextS xa = a := ⟨_, rfl⟩
                obtain ⟨xc, hxc⟩ : ∃ a, nextS xb = a := ⟨_, rfl⟩
                obtain ⟨xd, hxd⟩ : ∃ a, nextS xc = a := ⟨_, rfl⟩
                have hla : xa < 1000003 := hxa ▸ nextS_lt _
                have hlb : xb < 1000003 := hxb ▸ nextS_lt _
                have hlc : xc < 1000003 := hxc ▸ nextS_lt _
                have hld : xd < 1000003 := hxd ▸ nextS_lt _
                have ha : xa % (gN (sG s)) < (gN (sG s)) := Nat.mod_lt _ (by omega)
                have hb : xb % (gN (sG s)) < (gN (sG s)) := Nat.mod_lt _ (by omega)
                have hc6 : xc % 6 < 6 := Nat.mod_lt _ (by decide)
                have hh4 : xd % 4 < 4 := Nat.mod_lt _ (by decide)
                have hd1 : dayN (gN (sG s)) ((min n (999 - gT (sG s) 0)) - (k + 1)) (dayOne (gN (sG s)) (x, gC g, gE g)) = (fx, fc, fe) := by
                  rw [← q9, show (min n (999 - gT (sG s) 0)) - k = ((min n (999 - gT (sG s) 0)) - (k + 1)) + 1 by omega]
                  rfl
                have k162 : ∀ (g2 : GC) (w2 : Mem), MRow (rI w2 91) g2 → WG g2 → gN g2 = gN (sG s) → gT g2 0 = gT (sG s) 0 + k → FrD (sJ (sA (sI w 89 0 (nI 0)) 94 (va_cpy (rI w 91) (rI w 94) 6 (92 * 16) 92)) 89 66 (lN sd)) w2 → rJ w2 89 66 = lN (xd) → dayN (gN (sG s)) ((min n (999 - gT (sG s) 0)) - (k + 1)) (xd, gC g2, gE g2) = (fx, fc, fe) → G0 E X 0 0 162 [.ref 89, .int (nI sd), .int (nI n), .int (nI k), .int (nI (xa % (gN (sG s)))), .int (nI (xb % (gN (sG s)))), .int (nI (xc % 6)), .int (nI (xd % 4))] [] w2 := by
                  intro g2 w2 r1 r2 r3 r4 r5 r6 r7
                  refine g_aload0 hX d_M_days_162 ?_
                  refine g_getF hX d_M_days_163 fl_M_13 (lv_89 _) ?_
                  refine g_bipush (v := nI 6) hX d_M_days_166 rfl ?_
                  refine g_dup2 hX d_M_days_168 rfl rfl ?_
                  refine g_iald hX d_M_days_169 (lv_91 _) rfl (by decide) ?_
                  refine g_topi (show rI w2 91 (6 + 0) = nI (gT (sG s) 0 + k) by rw [r1.t 0 (by decide), r4]) ?_
                  refine g_iconst (v := nI 1) hX d_M_days_170 rfl ?_
                  refine g_iaddN hX d_M_days_171 ?_
                  refine g_iast hX d_M_days_172 (lv_91 _) rfl (by decide) ?_
                  refine g_iincN3 hX d_M_days_173 rfl (by decide) ?_
                  refine g_goto hX d_M_days_176 ?_
                  refine g_fget 4 ?_
                  refine g_fget 5 ?_
                  refine g_fget 6 ?_
                  refine g_fget 7 ?_
                  exact ih (k + 1) _ (gTerm g2 0 (gT (sG s) 0 + k + 1)) _ (by omega) (r1.term (j := 0) r2 (by decide)) (r2.term (j := 0) (Or.inl ⟨rfl, by omega⟩)) r3 rfl (r5.I (by decide)) r6 hld (by omega) r7
                have k144 : ∀ (g2 : GC) (w2 : Mem), MRow (rI w2 91) g2 → WG g2 → gN g2 = gN (sG s) → gT g2 0 = gT (sG s) 0 + k → FrD (sJ (sA (sI w 89 0 (nI 0)) 94 (va_cpy (rI w 91) (rI w 94) 6 (92 * 16) 92)) 89 66 (lN sd)) w2 → rJ w2 89 66 = lN (xd) → gC g2 = gC g → gE g2 = (if xd % 4 < 2 ∧ xa % (gN (sG s)) ≠ xb % (gN (sG s)) then tog (gE g) (codeOf (xa % (gN (sG s))) (xb % (gN (sG s)))) else gE g) → G0 E X 0 0 144 [.ref 89, .int (nI sd), .int (nI n), .int (nI k), .int (nI (xa % (gN (sG s)))), .int (nI (xb % (gN (sG s)))), .int (nI (xc % 6)), .int (nI (xd % 4))] [] w2 := by
                  intro g2 w2 r1 r2 r3 r4 r5 r6 r7 r8
                  refine g_iload7 hX d_M_days_144 ?_
                  refine g_iconst (v := nI 2) hX d_M_days_146 rfl ?_
                  refine g_icmpN_ne hX d_M_days_147 (by omega) (by omega) (fun e147 => ?_) (fun e147 => ?_)
                  · first
                      | exact k162 g2 w2 r1 r2 r3 r4 r5 r6 (by rw [r7, r8, ← hd1, dayOne_n hxa hxb hxc hxd, if_neg (show ¬ xd % 4 = 2 by omega)])
                      | exact k162 (gPaint g2 (xa % (gN (sG s))) (xc % 6)) _ (r1.paint r2 (by omega)) (r2.paint (Nat.mod_lt _ (by decide))) r3 r4 (r5.I (by omega)) r6 (by rw [← hd1, dayOne_n hxa hxb hxc hxd, if_pos (show xd % 4 = 2 by omega), ← r7, ← r8]; rfl)
                  · refine g_aload0 hX d_M_days_150 ?_
                    refine g_getF hX d_M_days_151 fl_M_13 (lv_89 _) ?_
                    refine g_bipush (v := nI 9) hX d_M_days_154 rfl ?_
                    refine g_iload4 hX d_M_days_156 ?_
                    refine g_iaddN hX d_M_days_158 ?_
                    refine g_iload6 hX d_M_days_159 ?_
                    refine g_iast hX d_M_days_161 (lv_91 _) rfl (by omega) ?_
                    first
                      | exact k162 g2 w2 r1 r2 r3 r4 r5 r6 (by rw [r7, r8, ← hd1, dayOne_n hxa hxb hxc hxd, if_neg (show ¬ xd % 4 = 2 by omega)])
                      | exact k162 (gPaint g2 (xa % (gN (sG s))) (xc % 6)) _ (r1.paint r2 (by omega)) (r2.paint (Nat.mod_lt _ (by decide))) r3 r4 (r5.I (by omega)) r6 (by rw [← hd1, dayOne_n hxa hxb hxc hxd, if_pos (show xd % 4 = 2 by omega), ← r7, ← r8]; rfl)
                refine g_aload0 hX d_M_days_83 ?_
                refine g_aload0 hX d_M_days_84 ?_
                refine g_getF hX d_M_days_85 fl_M_13 (lv_89 _) ?_
                refine g_iconst (v := nI 0) hX d_M_days_88 rfl ?_
                refine g_iald hX d_M_days_89 (lv_91 _) rfl (by decide) ?_
                refine g_topi (show rI wk 91 0 = nI (gN (sG s)) by rw [q1.n, q3]) ?_
                refine g_callV (As := [_]) hX hF.1 d_M_days_90 ml_M_604 cf_M_draw cv_M_draw rfl rfl (c_M_draw (x := x) q6 q7 hxa (by omega) (by omega)) (rcv_obj hX (lv_89 _) rfl rfl) (by omega) (by omega) (by omega) (Nat.le_of_ble_eq_true rfl) ?_
                refine ret_k ?_
                refine g_istore4 hX d_M_days_93 rfl (by decide) ?_
                refine g_aload0 hX d_M_days_95 ?_
                refine g_aload0 hX d_M_days_96 ?_
                refine g_getF hX d_M_days_97 fl_M_13 (lv_89 _) ?_
                refine g_iconst (v := nI 0) hX d_M_days_100 rfl ?_
                refine g_iald hX d_M_days_101 (lv_91 _) rfl (by decide) ?_
                refine g_topi (show rI wk 91 0 = nI (gN (sG s)) by rw [q1.n, q3]) ?_
                refine g_callV (As := [_]) hX hF.1 d_M_days_102 ml_M_604 cf_M_draw cv_M_draw rfl rfl (c_M_draw (x := xa) (by rw [rJ_sJ, updL_eq, if_pos rfl]) hla hxb (by omega) (by omega)) (rcv_obj hX (lv_89 _) rfl rfl) (by omega) (by omega) (by omega) (Nat.le_of_ble_eq_true rfl) ?_
                refine ret_k ?_
                refine g_istore5 hX d_M_days_105 rfl (by decide) ?_
                refine g_aload0 hX d_M_days_107 ?_
                refine g_bipush (v := nI 6) hX d_M_days_108 rfl ?_
                refine g_callV (As := [_]) hX hF.1 d_M_days_110 ml_M_604 cf_M_draw cv_M_draw rfl rfl (c_M_draw (x := xb) (by rw [rJ_sJ, updL_eq, if_pos rfl]) hlb hxc (by decide) (by omega)) (rcv_obj hX (lv_89 _) rfl rfl) (by omega) (by omega) (by omega) (Nat.le_of_ble_eq_true rfl) ?_
                refine ret_k ?_
                refine g_istore6 hX d_M_days_113 rfl (by decide) ?_
                refine g_aload0 hX d_M_days_115 ?_
                refine g_iconst (v := nI 4) hX d_M_days_116 rfl ?_
                refine g_callV (As := [_]) hX hF.1 d_M_days_117 ml_M_604 cf_M_draw cv_M_draw rfl rfl (c_M_draw (x := xc) (by rw [rJ_sJ, updL_eq, if_pos rfl]) hlc hxd (by decide) (by omega)) (rcv_obj hX (lv_89 _) rfl rfl) (by omega) (by omega) (by omega) (Nat.le_of_ble_eq_true rfl) ?_
                refine ret_k ?_
                refine g_istore7 hX d_M_days_120 rfl (by decide) ?_
                refine g_iload7 hX d_M_days_122 ?_
                refine g_iconst (v := nI 2) hX d_M_days_124 rfl ?_
                refine g_icmpN_ge hX d_M_days_125 (by omega) (by omega) (fun e125 => ?_) (fun e125 => ?_)
                · first
                    | exact k144 g _ q1 q2 q3 q4 (FrD.J (FrD.J (FrD.J (FrD.J q5)))) (by rw [rJ_sJ, updL_eq, if_pos rfl]) rfl (if_neg (fun z => by first | exact z.2 e132 | omega)).symm
                    | exact k144 (gJoin g (xa % (gN (sG s))) (xb % (gN (sG s)))) _ (q1.join q2 hf2 hf3) (q2.join (by omega) (by omega) e132) q3 q4 (FrD.A (fun i hi => hf2 i (by omega)) (FrD.J (FrD.J (FrD.J (FrD.J q5))))) (by show rJ (sJ _ 89 66 (lN xd)) 89 66 = _; rw [rJ_sJ, updL_eq, if_pos rfl]) rfl (if_pos ⟨by omega, e132⟩).symm
                · refine g_iload4 hX d_M_days_128 ?_
                  refine g_iload5 hX d_M_days_130 ?_
                  refine g_icmpN_eq hX d_M_days_132 (by omega) (by omega) (fun e132 => ?_) (fun e132 => ?_)
                  · first
                      | exact k144 g _ q1 q2 q3 q4 (FrD.J (FrD.J (FrD.J (FrD.J q5)))) (by rw [rJ_sJ, updL_eq, if_pos rfl]) rfl (if_neg (fun z => by first | exact z.2 e132 | omega)).symm
                      | exact k144 (gJoin g (xa % (gN (sG s))) (xb % (gN (sG s)))) _ (q1.join q2 hf2 hf3) (q2.join (by omega) (by omega) e132) q3 q4 (FrD.A (fun i hi => hf2 i (by omega)) (FrD.J (FrD.J (FrD.J (FrD.J q5))))) (by show rJ (sJ _ 89 66 (lN xd)) 89 66 = _; rw [rJ_sJ, updL_eq, if_pos rfl]) rfl (if_pos ⟨by omega, e132⟩).symm
                  · refine g_aload0 hX d_M_days_135 ?_
                    refine g_iload4 hX d_M_days_136 ?_
                    refine g_iload5 hX d_M_days_138 ?_
                    refine g_callV (As := [_, _]) hX hF.1 d_M_days_140 ml_M_249 cf_M_toggleEdge cv_M_toggleEdge rfl rfl (c_M_toggleEdge (g := g) q1 q2 (by omega) (by omega) e132) (rcv_obj hX (lv_89 _) rfl rfl) (by omega) (by omega) (by omega) (Nat.le_of_ble_eq_true rfl) ?_
                    rintro _ w2 ⟨f, rfl, hf2, hf3, rfl⟩
                    show G0 _ _ _ _ _ _ _ _
                    refine g_pop hX d_M_days_143 rfl ?_
                    first
                      | exact k144 g _ q1 q2 q3 q4 (FrD.J (FrD.J (FrD.J (FrD.J q5)))) (by rw [rJ_sJ, updL_eq, if_pos rfl]) rfl (if_neg (fun z => by first | exact z.2 e132 | omega)).symm
                      | exact k144 (gJoin g (xa % (gN (sG s))) (xb % (gN (sG s)))) _ (q1.join q2 hf2 hf3) (q2.join (by omega) (by omega) e132) q3 q4 (FrD.A (fun i hi => hf2 i (by omega)) (FrD.J (FrD.J (FrD.J (FrD.J q5))))) (by show rJ (sJ _ 89 66 (lN xd)) 89 66 = _; rw [rJ_sJ, updL_eq, if_pos rfl]) rfl (if_pos ⟨by omega, e132⟩).symm
        exact lp ((min n (999 - gT (sG s) 0)) + 1) 0 sd (sG s) _ (by omega) hR hW rfl rfl (FrD.rf _) (by rw [rJ_sJ, updL_eq, if_pos rfl]) (by omega) (by omega) hd0
      · have hN0 : gN (sG s) = 0 := nI_inj (by omega) (by decide) e41
        refine g_aload0 hX d_M_days_44 ?_
        refine g_bipush (v := -3) hX d_M_days_45 rfl ?_
        refine g_callV (As := [_]) hX hF.1 d_M_days_47 ml_M_179 cf_M_tell cv_M_tell rfl rfl (c_M_tellN (k := 3) (by decide) (by decide)) (rcv_obj hX (lv_89 _) rfl rfl) (by omega) (by omega) (by omega) (Nat.le_of_ble_eq_true rfl) ?_
        refine ret_k ?_
        refine g_iret hX hF d_M_days_50 (by omega) (by omega) ?_
        rw [days_no3 ⟨d14, d26⟩ hN0]
        exact ⟨rfl, (h.thr (x := nI 0)).no (k := 3) (by decide), (by repeat (first | exact FrM.rf _ | refine FrM.I (by decide) ?_ | refine FrM.A (by decide) ?_ | refine FrM.J9 ?_ | refine FrM.J (by decide) ?_))⟩
    · have d26 := mt (in_isC (by decide) (by decide)).mpr e26
      refine g_aload0 hX d_M_days_29 ?_
      refine g_iconst (v := -1) hX d_M_days_30 rfl ?_
      refine g_callV (As := [_]) hX hF.1 d_M_days_31 ml_M_179 cf_M_tell cv_M_tell rfl rfl (c_M_tellN (k := 1) (by decide) (by decide)) (rcv_obj hX (lv_89 _) rfl rfl) (by omega) (by omega) (by omega) (Nat.le_of_ble_eq_true rfl) ?_
      refine ret_k ?_
      refine g_iret hX hF d_M_days_34 (by omega) (by omega) ?_
      rw [days_no1 (by first | exact fun z => d14 z.1 | exact fun z => d26 z.2)]
      exact ⟨rfl, (h.thr (x := nI 0)).no (k := 1) (by decide), (by repeat (first | exact FrM.rf _ | refine FrM.I (by decide) ?_ | refine FrM.A (by decide) ?_ | refine FrM.J9 ?_ | refine FrM.J (by decide) ?_))⟩
