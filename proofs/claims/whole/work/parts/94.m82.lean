def m_Pr_ask : MR := (⟨"SubgraphDesk$Program", "ask", "(II[I[J)J"⟩, prog_7_method_11_code, 12, (some .long))
theorem cf_Pr_ask : CF m_Pr_ask 4 := ⟨gd 701 (by decide +kernel) rfl, gd 144 (by decide +kernel) rfl, by decide +kernel, by decide, by decide +kernel⟩
theorem cv_Pr_ask : CV m_Pr_ask := ⟨gd 699 (by decide +kernel) rfl, gd 700 (by decide +kernel) rfl⟩
def m_Pr_clearAll : MR := (⟨"SubgraphDesk$Program", "clearAll", "()V"⟩, prog_7_method_2_code, 1, none)
theorem cf_Pr_clearAll : CF m_Pr_clearAll 0 := ⟨gd 779 (by decide +kernel) rfl, gd 144 (by decide +kernel) rfl, by decide +kernel, by decide, by decide +kernel⟩
theorem cv_Pr_clearAll : CV m_Pr_clearAll := ⟨gd 777 (by decide +kernel) rfl, gd 778 (by decide +kernel) rfl⟩
def m_Pr_combine : MR := (⟨"SubgraphDesk$Program", "combine", "(IJJ)J"⟩, prog_7_method_12_code, 5, (some .long))
theorem cf_Pr_combine : CF m_Pr_combine 3 := ⟨gd 711 (by decide +kernel) rfl, gd 144 (by decide +kernel) rfl, by decide +kernel, by decide, by decide +kernel⟩
theorem cs_Pr_combine : CS m_Pr_combine := gd 710 (by decide +kernel) rfl
def m_Pr_has : MR := (⟨"SubgraphDesk$Program", "has", "(II)Z"⟩, prog_7_method_10_code, 3, (some .boolean))
theorem cf_Pr_has : CF m_Pr_has 2 := ⟨gd 693 (by decide +kernel) rfl, gd 144 (by decide +kernel) rfl, by decide +kernel, by decide, by decide +kernel⟩
theorem cv_Pr_has : CV m_Pr_has := ⟨gd 691 (by decide +kernel) rfl, gd 692 (by decide +kernel) rfl⟩
def m_Pr_tell : MR := (⟨"SubgraphDesk$Program", "tell", "(II)I"⟩, prog_7_method_5_code, 4, (some .int))
theorem cf_Pr_tell : CF m_Pr_tell 2 := ⟨gd 697 (by decide +kernel) rfl, gd 144 (by decide +kernel) rfl, by decide +kernel, by decide, by decide +kernel⟩
theorem cv_Pr_tell : CV m_Pr_tell := ⟨gd 695 (by decide +kernel) rfl, gd 696 (by decide +kernel) rfl⟩
theorem d_Pr_ask_0 : Dc prog_7_method_11_code 0 (.iconst 0) 1 1 := ⟨by decide +kernel, rfl⟩
theorem d_Pr_ask_1 : Dc prog_7_method_11_code 1 (.istore 5) 2 3 := ⟨by decide +kernel, rfl⟩
theorem d_Pr_ask_3 : Dc prog_7_method_11_code 3 (.aload_n 0) 1 4 := ⟨by decide +kernel, rfl⟩
theorem d_Pr_ask_4 : Dc prog_7_method_11_code 4 (.iload_n 1) 1 5 := ⟨by decide +kernel, rfl⟩
theorem d_Pr_ask_5 : Dc prog_7_method_11_code 5 (.iload_n 2) 1 6 := ⟨by decide +kernel, rfl⟩
theorem d_Pr_ask_6 : Dc prog_7_method_11_code 6 (.iconst 1) 1 7 := ⟨by decide +kernel, rfl⟩
theorem d_Pr_ask_7 : Dc prog_7_method_11_code 7 (.iadd) 1 8 := ⟨by decide +kernel, rfl⟩
theorem d_Pr_ask_8 : Dc prog_7_method_11_code 8 (.invokevirtual 40) 3 11 := ⟨by decide +kernel, rfl⟩
theorem d_Pr_ask_11 : Dc prog_7_method_11_code 11 (.aload_n 0) 1 12 := ⟨by decide +kernel, rfl⟩
theorem d_Pr_ask_12 : Dc prog_7_method_11_code 12 (.getfield 22) 3 15 := ⟨by decide +kernel, rfl⟩
theorem d_Pr_ask_15 : Dc prog_7_method_11_code 15 (.invokestatic 44) 3 18 := ⟨by decide +kernel, rfl⟩
theorem d_Pr_ask_18 : Dc prog_7_method_11_code 18 (.istore 6) 2 20 := ⟨by decide +kernel, rfl⟩
theorem d_Pr_ask_20 : Dc prog_7_method_11_code 20 (.aload_n 0) 1 21 := ⟨by decide +kernel, rfl⟩
theorem d_Pr_ask_21 : Dc prog_7_method_11_code 21 (.iload_n 1) 1 22 := ⟨by decide +kernel, rfl⟩
theorem d_Pr_ask_22 : Dc prog_7_method_11_code 22 (.iload_n 2) 1 23 := ⟨by decide +kernel, rfl⟩
theorem d_Pr_ask_23 : Dc prog_7_method_11_code 23 (.invokevirtual 40) 3 26 := ⟨by decide +kernel, rfl⟩
theorem d_Pr_ask_26 : Dc prog_7_method_11_code 26 (.istore 7) 2 28 := ⟨by decide +kernel, rfl⟩
theorem d_Pr_ask_28 : Dc prog_7_method_11_code 28 (.iload 7) 2 30 := ⟨by decide +kernel, rfl⟩
theorem d_Pr_ask_30 : Dc prog_7_method_11_code 30 (.iload 6) 2 32 := ⟨by decide +kernel, rfl⟩
theorem d_Pr_ask_32 : Dj prog_7_method_11_code 32 (.if_icmp .ge 256) 35 256 288 := ⟨by decide +kernel, rfl, rfl⟩
theorem d_Pr_ask_35 : Dc prog_7_method_11_code 35 (.aload_n 0) 1 36 := ⟨by decide +kernel, rfl⟩
theorem d_Pr_ask_36 : Dc prog_7_method_11_code 36 (.getfield 15) 3 39 := ⟨by decide +kernel, rfl⟩
theorem d_Pr_ask_39 : Dc prog_7_method_11_code 39 (.iload 7) 2 41 := ⟨by decide +kernel, rfl⟩
theorem d_Pr_ask_41 : Dc prog_7_method_11_code 41 (.iaload) 1 42 := ⟨by decide +kernel, rfl⟩
theorem d_Pr_ask_42 : Dc prog_7_method_11_code 42 (.bipush 12) 2 44 := ⟨by decide +kernel, rfl⟩
theorem d_Pr_ask_44 : Dc prog_7_method_11_code 44 (.ishr) 1 45 := ⟨by decide +kernel, rfl⟩
theorem d_Pr_ask_45 : Dc prog_7_method_11_code 45 (.istore 8) 2 47 := ⟨by decide +kernel, rfl⟩
theorem d_Pr_ask_47 : Dc prog_7_method_11_code 47 (.aload_n 0) 1 48 := ⟨by decide +kernel, rfl⟩
theorem d_Pr_ask_48 : Dc prog_7_method_11_code 48 (.getfield 15) 3 51 := ⟨by decide +kernel, rfl⟩
theorem d_Pr_ask_51 : Dc prog_7_method_11_code 51 (.iload 7) 2 53 := ⟨by decide +kernel, rfl⟩
theorem d_Pr_ask_53 : Dc prog_7_method_11_code 53 (.iaload) 1 54 := ⟨by decide +kernel, rfl⟩
theorem d_Pr_ask_54 : Dc prog_7_method_11_code 54 (.sipush 4095) 3 57 := ⟨by decide +kernel, rfl⟩
theorem d_Pr_ask_57 : Dc prog_7_method_11_code 57 (.iand) 1 58 := ⟨by decide +kernel, rfl⟩
theorem d_Pr_ask_58 : Dc prog_7_method_11_code 58 (.istore 9) 2 60 := ⟨by decide +kernel, rfl⟩
theorem d_Pr_ask_60 : Dc prog_7_method_11_code 60 (.iload 8) 2 62 := ⟨by decide +kernel, rfl⟩
theorem d_Pr_ask_62 : Dc prog_7_method_11_code 62 (.iconst 1) 1 63 := ⟨by decide +kernel, rfl⟩
theorem d_Pr_ask_63 : Dj prog_7_method_11_code 63 (.if_icmp .gt 56) 66 56 119 := ⟨by decide +kernel, rfl, rfl⟩
theorem d_Pr_ask_66 : Dc prog_7_method_11_code 66 (.iload 5) 2 68 := ⟨by decide +kernel, rfl⟩
theorem d_Pr_ask_68 : Dc prog_7_method_11_code 68 (.aload 4) 2 70 := ⟨by decide +kernel, rfl⟩
theorem d_Pr_ask_70 : Dc prog_7_method_11_code 70 (.arraylength) 1 71 := ⟨by decide +kernel, rfl⟩
theorem d_Pr_ask_71 : Dj prog_7_method_11_code 71 (.if_icmp .ge 16) 74 16 87 := ⟨by decide +kernel, rfl, rfl⟩
theorem d_Pr_ask_74 : Dc prog_7_method_11_code 74 (.iload 8) 2 76 := ⟨by decide +kernel, rfl⟩
theorem d_Pr_ask_76 : Dc prog_7_method_11_code 76 (.iconst 1) 1 77 := ⟨by decide +kernel, rfl⟩
theorem d_Pr_ask_77 : Dj prog_7_method_11_code 77 (.if_icmp .ne 14) 80 14 91 := ⟨by decide +kernel, rfl, rfl⟩
theorem d_Pr_ask_80 : Dc prog_7_method_11_code 80 (.iload 9) 2 82 := ⟨by decide +kernel, rfl⟩
theorem d_Pr_ask_82 : Dc prog_7_method_11_code 82 (.aload_n 3) 1 83 := ⟨by decide +kernel, rfl⟩
theorem d_Pr_ask_83 : Dc prog_7_method_11_code 83 (.arraylength) 1 84 := ⟨by decide +kernel, rfl⟩
theorem d_Pr_ask_84 : Dj prog_7_method_11_code 84 (.if_icmp .lt 7) 87 7 91 := ⟨by decide +kernel, rfl, rfl⟩
theorem d_Pr_ask_91 : Dc prog_7_method_11_code 91 (.aload 4) 2 93 := ⟨by decide +kernel, rfl⟩
theorem d_Pr_ask_93 : Dc prog_7_method_11_code 93 (.iload 5) 2 95 := ⟨by decide +kernel, rfl⟩
theorem d_Pr_ask_95 : Dc prog_7_method_11_code 95 (.iload 8) 2 97 := ⟨by decide +kernel, rfl⟩
theorem d_Pr_ask_97 : Dc prog_7_method_11_code 97 (.iconst 1) 1 98 := ⟨by decide +kernel, rfl⟩
theorem d_Pr_ask_98 : Dj prog_7_method_11_code 98 (.if_icmp .ne 11) 101 11 109 := ⟨by decide +kernel, rfl, rfl⟩
theorem d_Pr_ask_101 : Dc prog_7_method_11_code 101 (.aload_n 3) 1 102 := ⟨by decide +kernel, rfl⟩
theorem d_Pr_ask_102 : Dc prog_7_method_11_code 102 (.iload 9) 2 104 := ⟨by decide +kernel, rfl⟩
theorem d_Pr_ask_104 : Dc prog_7_method_11_code 104 (.iaload) 1 105 := ⟨by decide +kernel, rfl⟩
theorem d_Pr_ask_105 : Dc prog_7_method_11_code 105 (.i2l) 1 106 := ⟨by decide +kernel, rfl⟩
theorem d_Pr_ask_106 : Dj prog_7_method_11_code 106 (.goto 6) 109 6 112 := ⟨by decide +kernel, rfl, rfl⟩
theorem d_Pr_ask_109 : Dc prog_7_method_11_code 109 (.iload 9) 2 111 := ⟨by decide +kernel, rfl⟩
theorem d_Pr_ask_111 : Dc prog_7_method_11_code 111 (.i2l) 1 112 := ⟨by decide +kernel, rfl⟩
theorem d_Pr_ask_112 : Dc prog_7_method_11_code 112 (.lastore) 1 113 := ⟨by decide +kernel, rfl⟩
theorem d_Pr_ask_113 : Dc prog_7_method_11_code 113 (.iinc 5 1) 3 116 := ⟨by decide +kernel, rfl⟩
theorem d_Pr_ask_116 : Dj prog_7_method_11_code 116 (.goto 166) 119 166 282 := ⟨by decide +kernel, rfl, rfl⟩
theorem d_Pr_ask_119 : Dc prog_7_method_11_code 119 (.iload 5) 2 121 := ⟨by decide +kernel, rfl⟩
theorem d_Pr_ask_121 : Dc prog_7_method_11_code 121 (.iload 8) 2 123 := ⟨by decide +kernel, rfl⟩
theorem d_Pr_ask_123 : Dc prog_7_method_11_code 123 (.bipush 10) 2 125 := ⟨by decide +kernel, rfl⟩
theorem d_Pr_ask_125 : Dj prog_7_method_11_code 125 (.if_icmp .ge 7) 128 7 132 := ⟨by decide +kernel, rfl, rfl⟩
theorem d_Pr_ask_128 : Dc prog_7_method_11_code 128 (.iconst 2) 1 129 := ⟨by decide +kernel, rfl⟩
theorem d_Pr_ask_129 : Dj prog_7_method_11_code 129 (.goto 4) 132 4 133 := ⟨by decide +kernel, rfl, rfl⟩
theorem d_Pr_ask_132 : Dc prog_7_method_11_code 132 (.iconst 1) 1 133 := ⟨by decide +kernel, rfl⟩
theorem d_Pr_ask_133 : Dj prog_7_method_11_code 133 (.if_icmp .ge 7) 136 7 140 := ⟨by decide +kernel, rfl, rfl⟩
theorem d_Pr_ask_140 : Dc prog_7_method_11_code 140 (.iload 8) 2 142 := ⟨by decide +kernel, rfl⟩
theorem d_Pr_ask_142 : Dc prog_7_method_11_code 142 (.bipush 10) 2 144 := ⟨by decide +kernel, rfl⟩
theorem d_Pr_ask_144 : Dj prog_7_method_11_code 144 (.if_icmp .ne 22) 147 22 166 := ⟨by decide +kernel, rfl, rfl⟩
theorem d_Pr_ask_147 : Dc prog_7_method_11_code 147 (.aload 4) 2 149 := ⟨by decide +kernel, rfl⟩
theorem d_Pr_ask_149 : Dc prog_7_method_11_code 149 (.iload 5) 2 151 := ⟨by decide +kernel, rfl⟩
theorem d_Pr_ask_151 : Dc prog_7_method_11_code 151 (.iconst 1) 1 152 := ⟨by decide +kernel, rfl⟩
theorem d_Pr_ask_152 : Dc prog_7_method_11_code 152 (.isub) 1 153 := ⟨by decide +kernel, rfl⟩
theorem d_Pr_ask_153 : Dc prog_7_method_11_code 153 (.lconst 1) 1 154 := ⟨by decide +kernel, rfl⟩
theorem d_Pr_ask_154 : Dc prog_7_method_11_code 154 (.aload 4) 2 156 := ⟨by decide +kernel, rfl⟩
theorem d_Pr_ask_156 : Dc prog_7_method_11_code 156 (.iload 5) 2 158 := ⟨by decide +kernel, rfl⟩
theorem d_Pr_ask_158 : Dc prog_7_method_11_code 158 (.iconst 1) 1 159 := ⟨by decide +kernel, rfl⟩
theorem d_Pr_ask_159 : Dc prog_7_method_11_code 159 (.isub) 1 160 := ⟨by decide +kernel, rfl⟩
theorem d_Pr_ask_160 : Dc prog_7_method_11_code 160 (.laload) 1 161 := ⟨by decide +kernel, rfl⟩
theorem d_Pr_ask_161 : Dc prog_7_method_11_code 161 (.lsub) 1 162 := ⟨by decide +kernel, rfl⟩
theorem d_Pr_ask_162 : Dc prog_7_method_11_code 162 (.lastore) 1 163 := ⟨by decide +kernel, rfl⟩
theorem d_Pr_ask_163 : Dj prog_7_method_11_code 163 (.goto 119) 166 119 282 := ⟨by decide +kernel, rfl, rfl⟩
theorem d_Pr_ask_166 : Dc prog_7_method_11_code 166 (.iload 8) 2 168 := ⟨by decide +kernel, rfl⟩
theorem d_Pr_ask_168 : Dc prog_7_method_11_code 168 (.bipush 10) 2 170 := ⟨by decide +kernel, rfl⟩
theorem d_Pr_ask_170 : Dj prog_7_method_11_code 170 (.if_icmp .le 59) 173 59 229 := ⟨by decide +kernel, rfl, rfl⟩
theorem d_Pr_ask_173 : Dc prog_7_method_11_code 173 (.aload 4) 2 175 := ⟨by decide +kernel, rfl⟩
theorem d_Pr_ask_175 : Dc prog_7_method_11_code 175 (.iload 5) 2 177 := ⟨by decide +kernel, rfl⟩
theorem d_Pr_ask_177 : Dc prog_7_method_11_code 177 (.iconst 1) 1 178 := ⟨by decide +kernel, rfl⟩
theorem d_Pr_ask_178 : Dc prog_7_method_11_code 178 (.isub) 1 179 := ⟨by decide +kernel, rfl⟩
theorem d_Pr_ask_179 : Dc prog_7_method_11_code 179 (.laload) 1 180 := ⟨by decide +kernel, rfl⟩
theorem d_Pr_ask_180 : Dc prog_7_method_11_code 180 (.iload 8) 2 182 := ⟨by decide +kernel, rfl⟩
theorem d_Pr_ask_182 : Dc prog_7_method_11_code 182 (.bipush 12) 2 184 := ⟨by decide +kernel, rfl⟩
theorem d_Pr_ask_184 : Dj prog_7_method_11_code 184 (.if_icmp .ne 7) 187 7 191 := ⟨by decide +kernel, rfl, rfl⟩
theorem d_Pr_ask_187 : Dc prog_7_method_11_code 187 (.iconst 1) 1 188 := ⟨by decide +kernel, rfl⟩
theorem d_Pr_ask_188 : Dj prog_7_method_11_code 188 (.goto 4) 191 4 192 := ⟨by decide +kernel, rfl, rfl⟩
theorem d_Pr_ask_191 : Dc prog_7_method_11_code 191 (.iconst 0) 1 192 := ⟨by decide +kernel, rfl⟩
theorem d_Pr_ask_192 : Dc prog_7_method_11_code 192 (.i2l) 1 193 := ⟨by decide +kernel, rfl⟩
theorem d_Pr_ask_193 : Dc prog_7_method_11_code 193 (.lcmp) 1 194 := ⟨by decide +kernel, rfl⟩
theorem d_Pr_ask_194 : Dj prog_7_method_11_code 194 (.ifCond .ne 7) 197 7 201 := ⟨by decide +kernel, rfl, rfl⟩
theorem d_Pr_ask_197 : Dc prog_7_method_11_code 197 (.iconst 1) 1 198 := ⟨by decide +kernel, rfl⟩
theorem d_Pr_ask_198 : Dj prog_7_method_11_code 198 (.goto 4) 201 4 202 := ⟨by decide +kernel, rfl, rfl⟩
theorem d_Pr_ask_201 : Dc prog_7_method_11_code 201 (.iconst 0) 1 202 := ⟨by decide +kernel, rfl⟩
theorem d_Pr_ask_202 : Dc prog_7_method_11_code 202 (.istore 10) 2 204 := ⟨by decide +kernel, rfl⟩
theorem d_Pr_ask_204 : Dc prog_7_method_11_code 204 (.iload 10) 2 206 := ⟨by decide +kernel, rfl⟩
theorem d_Pr_ask_206 : Dj prog_7_method_11_code 206 (.ifCond .eq 17) 209 17 223 := ⟨by decide +kernel, rfl, rfl⟩
theorem d_Pr_ask_209 : Dc prog_7_method_11_code 209 (.iload 7) 2 211 := ⟨by decide +kernel, rfl⟩
theorem d_Pr_ask_211 : Dc prog_7_method_11_code 211 (.iload 9) 2 213 := ⟨by decide +kernel, rfl⟩
theorem d_Pr_ask_213 : Dc prog_7_method_11_code 213 (.iconst 1) 1 214 := ⟨by decide +kernel, rfl⟩
theorem d_Pr_ask_214 : Dc prog_7_method_11_code 214 (.isub) 1 215 := ⟨by decide +kernel, rfl⟩
theorem d_Pr_ask_215 : Dc prog_7_method_11_code 215 (.invokestatic 51) 3 218 := ⟨by decide +kernel, rfl⟩
theorem d_Pr_ask_218 : Dc prog_7_method_11_code 218 (.istore 7) 2 220 := ⟨by decide +kernel, rfl⟩
theorem d_Pr_ask_220 : Dj prog_7_method_11_code 220 (.goto 6) 223 6 226 := ⟨by decide +kernel, rfl, rfl⟩
theorem d_Pr_ask_223 : Dc prog_7_method_11_code 223 (.iinc 5 (-1)) 3 226 := ⟨by decide +kernel, rfl⟩
theorem d_Pr_ask_226 : Dj prog_7_method_11_code 226 (.goto 56) 229 56 282 := ⟨by decide +kernel, rfl, rfl⟩
theorem d_Pr_ask_229 : Dc prog_7_method_11_code 229 (.iinc 5 (-1)) 3 232 := ⟨by decide +kernel, rfl⟩
theorem d_Pr_ask_232 : Dc prog_7_method_11_code 232 (.iload 8) 2 234 := ⟨by decide +kernel, rfl⟩
theorem d_Pr_ask_234 : Dc prog_7_method_11_code 234 (.aload 4) 2 236 := ⟨by decide +kernel, rfl⟩
theorem d_Pr_ask_236 : Dc prog_7_method_11_code 236 (.iload 5) 2 238 := ⟨by decide +kernel, rfl⟩
theorem d_Pr_ask_238 : Dc prog_7_method_11_code 238 (.iconst 1) 1 239 := ⟨by decide +kernel, rfl⟩
theorem d_Pr_ask_239 : Dc prog_7_method_11_code 239 (.isub) 1 240 := ⟨by decide +kernel, rfl⟩
theorem d_Pr_ask_240 : Dc prog_7_method_11_code 240 (.laload) 1 241 := ⟨by decide +kernel, rfl⟩
theorem d_Pr_ask_241 : Dc prog_7_method_11_code 241 (.aload 4) 2 243 := ⟨by decide +kernel, rfl⟩
theorem d_Pr_ask_243 : Dc prog_7_method_11_code 243 (.iload 5) 2 245 := ⟨by decide +kernel, rfl⟩
theorem d_Pr_ask_245 : Dc prog_7_method_11_code 245 (.laload) 1 246 := ⟨by decide +kernel, rfl⟩
theorem d_Pr_ask_246 : Dc prog_7_method_11_code 246 (.invokestatic 54) 3 249 := ⟨by decide +kernel, rfl⟩
theorem d_Pr_ask_249 : Dc prog_7_method_11_code 249 (.lstore 10) 2 251 := ⟨by decide +kernel, rfl⟩
theorem d_Pr_ask_251 : Dc prog_7_method_11_code 251 (.lload 10) 2 253 := ⟨by decide +kernel, rfl⟩
theorem d_Pr_ask_253 : Dc prog_7_method_11_code 253 (.ldc2_w 58) 3 256 := ⟨by decide +kernel, rfl⟩
theorem d_Pr_ask_256 : Dc prog_7_method_11_code 256 (.lcmp) 1 257 := ⟨by decide +kernel, rfl⟩
theorem d_Pr_ask_257 : Dj prog_7_method_11_code 257 (.ifCond .gt 12) 260 12 269 := ⟨by decide +kernel, rfl, rfl⟩
theorem d_Pr_ask_260 : Dc prog_7_method_11_code 260 (.lload 10) 2 262 := ⟨by decide +kernel, rfl⟩
theorem d_Pr_ask_262 : Dc prog_7_method_11_code 262 (.ldc2_w 60) 3 265 := ⟨by decide +kernel, rfl⟩
theorem d_Pr_ask_265 : Dc prog_7_method_11_code 265 (.lcmp) 1 266 := ⟨by decide +kernel, rfl⟩
theorem d_Pr_ask_266 : Dj prog_7_method_11_code 266 (.ifCond .ge 7) 269 7 273 := ⟨by decide +kernel, rfl, rfl⟩
theorem d_Pr_ask_269 : Dc prog_7_method_11_code 269 (.ldc2_w 49) 3 272 := ⟨by decide +kernel, rfl⟩
theorem d_Pr_ask_272 : Dc prog_7_method_11_code 272 (.lreturn) 1 273 := ⟨by decide +kernel, rfl⟩
theorem d_Pr_ask_273 : Dc prog_7_method_11_code 273 (.aload 4) 2 275 := ⟨by decide +kernel, rfl⟩
theorem d_Pr_ask_275 : Dc prog_7_method_11_code 275 (.iload 5) 2 277 := ⟨by decide +kernel, rfl⟩
theorem d_Pr_ask_277 : Dc prog_7_method_11_code 277 (.iconst 1) 1 278 := ⟨by decide +kernel, rfl⟩
theorem d_Pr_ask_278 : Dc prog_7_method_11_code 278 (.isub) 1 279 := ⟨by decide +kernel, rfl⟩
theorem d_Pr_ask_279 : Dc prog_7_method_11_code 279 (.lload 10) 2 281 := ⟨by decide +kernel, rfl⟩
theorem d_Pr_ask_281 : Dc prog_7_method_11_code 281 (.lastore) 1 282 := ⟨by decide +kernel, rfl⟩
theorem d_Pr_ask_282 : Dc prog_7_method_11_code 282 (.iinc 7 1) 3 285 := ⟨by decide +kernel, rfl⟩
theorem d_Pr_ask_285 : Dj prog_7_method_11_code 285 (.goto (-257)) 288 (-257) 28 := ⟨by decide +kernel, rfl, rfl⟩
theorem d_Pr_ask_288 : Dc prog_7_method_11_code 288 (.iload 5) 2 290 := ⟨by decide +kernel, rfl⟩
theorem d_Pr_ask_290 : Dj prog_7_method_11_code 290 (.ifCond .le 13) 293 13 303 := ⟨by decide +kernel, rfl, rfl⟩
theorem d_Pr_ask_293 : Dc prog_7_method_11_code 293 (.aload 4) 2 295 := ⟨by decide +kernel, rfl⟩
theorem d_Pr_ask_295 : Dc prog_7_method_11_code 295 (.iload 5) 2 297 := ⟨by decide +kernel, rfl⟩
theorem d_Pr_ask_297 : Dc prog_7_method_11_code 297 (.iconst 1) 1 298 := ⟨by decide +kernel, rfl⟩
theorem d_Pr_ask_298 : Dc prog_7_method_11_code 298 (.isub) 1 299 := ⟨by decide +kernel, rfl⟩
theorem d_Pr_ask_299 : Dc prog_7_method_11_code 299 (.laload) 1 300 := ⟨by decide +kernel, rfl⟩
theorem d_Pr_ask_300 : Dj prog_7_method_11_code 300 (.goto 6) 303 6 306 := ⟨by decide +kernel, rfl, rfl⟩
theorem d_Pr_ask_306 : Dc prog_7_method_11_code 306 (.lreturn) 1 307 := ⟨by decide +kernel, rfl⟩
theorem d_Pr_clearAll_0 : Dc prog_7_method_2_code 0 (.aload_n 0) 1 1 := ⟨by decide +kernel, rfl⟩
theorem d_Pr_clearAll_1 : Dc prog_7_method_2_code 1 (.iconst 0) 1 2 := ⟨by decide +kernel, rfl⟩
theorem d_Pr_clearAll_2 : Dc prog_7_method_2_code 2 (.putfield 18) 3 5 := ⟨by decide +kernel, rfl⟩
theorem d_Pr_clearAll_5 : Dc prog_7_method_2_code 5 (.aload_n 0) 1 6 := ⟨by decide +kernel, rfl⟩
theorem d_Pr_clearAll_6 : Dc prog_7_method_2_code 6 (.iconst 0) 1 7 := ⟨by decide +kernel, rfl⟩
theorem d_Pr_clearAll_7 : Dc prog_7_method_2_code 7 (.putfield 22) 3 10 := ⟨by decide +kernel, rfl⟩
theorem d_Pr_clearAll_10 : Dc prog_7_method_2_code 10 (.return_) 1 11 := ⟨by decide +kernel, rfl⟩
theorem d_Pr_combine_0 : Dc prog_7_method_12_code 0 (.iload_n 0) 1 1 := ⟨by decide +kernel, rfl⟩
theorem d_Pr_combine_1 : Dc prog_7_method_12_code 1 (.tableswitch 111 2 8 #[43, 47, 51, 55, 71, 87, 99]) 43 44 := ⟨by decide +kernel, rfl⟩
theorem d_Pr_combine_44 : Dc prog_7_method_12_code 44 (.lload_n 1) 1 45 := ⟨by decide +kernel, rfl⟩
theorem d_Pr_combine_45 : Dc prog_7_method_12_code 45 (.lload_n 3) 1 46 := ⟨by decide +kernel, rfl⟩
theorem d_Pr_combine_46 : Dc prog_7_method_12_code 46 (.ladd) 1 47 := ⟨by decide +kernel, rfl⟩
theorem d_Pr_combine_47 : Dc prog_7_method_12_code 47 (.lreturn) 1 48 := ⟨by decide +kernel, rfl⟩
theorem d_Pr_combine_48 : Dc prog_7_method_12_code 48 (.lload_n 1) 1 49 := ⟨by decide +kernel, rfl⟩
theorem d_Pr_combine_49 : Dc prog_7_method_12_code 49 (.lload_n 3) 1 50 := ⟨by decide +kernel, rfl⟩
theorem d_Pr_combine_50 : Dc prog_7_method_12_code 50 (.lsub) 1 51 := ⟨by decide +kernel, rfl⟩
theorem d_Pr_combine_51 : Dc prog_7_method_12_code 51 (.lreturn) 1 52 := ⟨by decide +kernel, rfl⟩
theorem d_Pr_combine_52 : Dc prog_7_method_12_code 52 (.lload_n 1) 1 53 := ⟨by decide +kernel, rfl⟩
theorem d_Pr_combine_53 : Dc prog_7_method_12_code 53 (.lload_n 3) 1 54 := ⟨by decide +kernel, rfl⟩
theorem d_Pr_combine_54 : Dc prog_7_method_12_code 54 (.lmul) 1 55 := ⟨by decide +kernel, rfl⟩
theorem d_Pr_combine_55 : Dc prog_7_method_12_code 55 (.lreturn) 1 56 := ⟨by decide +kernel, rfl⟩
theorem d_Pr_combine_56 : Dc prog_7_method_12_code 56 (.lload_n 3) 1 57 := ⟨by decide +kernel, rfl⟩
theorem d_Pr_combine_57 : Dc prog_7_method_12_code 57 (.lconst 0) 1 58 := ⟨by decide +kernel, rfl⟩
theorem d_Pr_combine_58 : Dc prog_7_method_12_code 58 (.lcmp) 1 59 := ⟨by decide +kernel, rfl⟩
theorem d_Pr_combine_59 : Dj prog_7_method_12_code 59 (.ifCond .ne 9) 62 9 68 := ⟨by decide +kernel, rfl, rfl⟩
theorem d_Pr_combine_62 : Dc prog_7_method_12_code 62 (.ldc2_w 49) 3 65 := ⟨by decide +kernel, rfl⟩
theorem d_Pr_combine_65 : Dj prog_7_method_12_code 65 (.goto 6) 68 6 71 := ⟨by decide +kernel, rfl, rfl⟩
theorem d_Pr_combine_68 : Dc prog_7_method_12_code 68 (.lload_n 1) 1 69 := ⟨by decide +kernel, rfl⟩
theorem d_Pr_combine_69 : Dc prog_7_method_12_code 69 (.lload_n 3) 1 70 := ⟨by decide +kernel, rfl⟩
theorem d_Pr_combine_70 : Dc prog_7_method_12_code 70 (.ldiv) 1 71 := ⟨by decide +kernel, rfl⟩
theorem d_Pr_combine_71 : Dc prog_7_method_12_code 71 (.lreturn) 1 72 := ⟨by decide +kernel, rfl⟩
theorem d_Pr_combine_72 : Dc prog_7_method_12_code 72 (.lload_n 3) 1 73 := ⟨by decide +kernel, rfl⟩
theorem d_Pr_combine_73 : Dc prog_7_method_12_code 73 (.lconst 0) 1 74 := ⟨by decide +kernel, rfl⟩
theorem d_Pr_combine_74 : Dc prog_7_method_12_code 74 (.lcmp) 1 75 := ⟨by decide +kernel, rfl⟩
theorem d_Pr_combine_75 : Dj prog_7_method_12_code 75 (.ifCond .ne 9) 78 9 84 := ⟨by decide +kernel, rfl, rfl⟩
theorem d_Pr_combine_78 : Dc prog_7_method_12_code 78 (.ldc2_w 49) 3 81 := ⟨by decide +kernel, rfl⟩
theorem d_Pr_combine_81 : Dj prog_7_method_12_code 81 (.goto 6) 84 6 87 := ⟨by decide +kernel, rfl, rfl⟩
theorem d_Pr_combine_84 : Dc prog_7_method_12_code 84 (.lload_n 1) 1 85 := ⟨by decide +kernel, rfl⟩
theorem d_Pr_combine_85 : Dc prog_7_method_12_code 85 (.lload_n 3) 1 86 := ⟨by decide +kernel, rfl⟩
theorem d_Pr_combine_86 : Dc prog_7_method_12_code 86 (.lrem) 1 87 := ⟨by decide +kernel, rfl⟩
theorem d_Pr_combine_87 : Dc prog_7_method_12_code 87 (.lreturn) 1 88 := ⟨by decide +kernel, rfl⟩
theorem d_Pr_combine_88 : Dc prog_7_method_12_code 88 (.lload_n 1) 1 89 := ⟨by decide +kernel, rfl⟩
theorem d_Pr_combine_89 : Dc prog_7_method_12_code 89 (.lload_n 3) 1 90 := ⟨by decide +kernel, rfl⟩
theorem d_Pr_combine_90 : Dc prog_7_method_12_code 90 (.lcmp) 1 91 := ⟨by decide +kernel, rfl⟩
theorem d_Pr_combine_91 : Dj prog_7_method_12_code 91 (.ifCond .ge 7) 94 7 98 := ⟨by decide +kernel, rfl, rfl⟩
theorem d_Pr_combine_94 : Dc prog_7_method_12_code 94 (.lconst 1) 1 95 := ⟨by decide +kernel, rfl⟩
theorem d_Pr_combine_95 : Dj prog_7_method_12_code 95 (.goto 4) 98 4 99 := ⟨by decide +kernel, rfl, rfl⟩
theorem d_Pr_combine_98 : Dc prog_7_method_12_code 98 (.lconst 0) 1 99 := ⟨by decide +kernel, rfl⟩
theorem d_Pr_combine_99 : Dc prog_7_method_12_code 99 (.lreturn) 1 100 := ⟨by decide +kernel, rfl⟩
theorem d_Pr_combine_100 : Dc prog_7_method_12_code 100 (.lload_n 1) 1 101 := ⟨by decide +kernel, rfl⟩
theorem d_Pr_combine_101 : Dc prog_7_method_12_code 101 (.lload_n 3) 1 102 := ⟨by decide +kernel, rfl⟩
theorem d_Pr_combine_102 : Dc prog_7_method_12_code 102 (.lcmp) 1 103 := ⟨by decide +kernel, rfl⟩
theorem d_Pr_combine_103 : Dj prog_7_method_12_code 103 (.ifCond .le 7) 106 7 110 := ⟨by decide +kernel, rfl, rfl⟩
theorem d_Pr_combine_106 : Dc prog_7_method_12_code 106 (.lconst 1) 1 107 := ⟨by decide +kernel, rfl⟩
theorem d_Pr_combine_107 : Dj prog_7_method_12_code 107 (.goto 4) 110 4 111 := ⟨by decide +kernel, rfl, rfl⟩
theorem d_Pr_combine_110 : Dc prog_7_method_12_code 110 (.lconst 0) 1 111 := ⟨by decide +kernel, rfl⟩
theorem d_Pr_combine_111 : Dc prog_7_method_12_code 111 (.lreturn) 1 112 := ⟨by decide +kernel, rfl⟩
theorem d_Pr_combine_112 : Dc prog_7_method_12_code 112 (.lload_n 1) 1 113 := ⟨by decide +kernel, rfl⟩
theorem d_Pr_combine_113 : Dc prog_7_method_12_code 113 (.lload_n 3) 1 114 := ⟨by decide +kernel, rfl⟩
theorem d_Pr_combine_114 : Dc prog_7_method_12_code 114 (.lcmp) 1 115 := ⟨by decide +kernel, rfl⟩
theorem d_Pr_combine_115 : Dj prog_7_method_12_code 115 (.ifCond .ne 7) 118 7 122 := ⟨by decide +kernel, rfl, rfl⟩
theorem d_Pr_combine_118 : Dc prog_7_method_12_code 118 (.lconst 1) 1 119 := ⟨by decide +kernel, rfl⟩
theorem d_Pr_combine_119 : Dj prog_7_method_12_code 119 (.goto 4) 122 4 123 := ⟨by decide +kernel, rfl, rfl⟩
theorem d_Pr_combine_122 : Dc prog_7_method_12_code 122 (.lconst 0) 1 123 := ⟨by decide +kernel, rfl⟩
theorem d_Pr_combine_123 : Dc prog_7_method_12_code 123 (.lreturn) 1 124 := ⟨by decide +kernel, rfl⟩
theorem d_Pr_has_0 : Dc prog_7_method_10_code 0 (.aload_n 0) 1 1 := ⟨by decide +kernel, rfl⟩
theorem d_Pr_has_1 : Dc prog_7_method_10_code 1 (.iload_n 1) 1 2 := ⟨by decide +kernel, rfl⟩
theorem d_Pr_has_2 : Dc prog_7_method_10_code 2 (.iload_n 2) 1 3 := ⟨by decide +kernel, rfl⟩
theorem d_Pr_has_3 : Dc prog_7_method_10_code 3 (.iconst 1) 1 4 := ⟨by decide +kernel, rfl⟩
theorem d_Pr_has_4 : Dc prog_7_method_10_code 4 (.iadd) 1 5 := ⟨by decide +kernel, rfl⟩
theorem d_Pr_has_5 : Dc prog_7_method_10_code 5 (.invokevirtual 40) 3 8 := ⟨by decide +kernel, rfl⟩
theorem d_Pr_has_8 : Dc prog_7_method_10_code 8 (.aload_n 0) 1 9 := ⟨by decide +kernel, rfl⟩
theorem d_Pr_has_9 : Dc prog_7_method_10_code 9 (.iload_n 1) 1 10 := ⟨by decide +kernel, rfl⟩
theorem d_Pr_has_10 : Dc prog_7_method_10_code 10 (.iload_n 2) 1 11 := ⟨by decide +kernel, rfl⟩
theorem d_Pr_has_11 : Dc prog_7_method_10_code 11 (.invokevirtual 40) 3 14 := ⟨by decide +kernel, rfl⟩
theorem d_Pr_has_14 : Dj prog_7_method_10_code 14 (.if_icmp .le 7) 17 7 21 := ⟨by decide +kernel, rfl, rfl⟩
theorem d_Pr_has_17 : Dc prog_7_method_10_code 17 (.iconst 1) 1 18 := ⟨by decide +kernel, rfl⟩
theorem d_Pr_has_18 : Dj prog_7_method_10_code 18 (.goto 4) 21 4 22 := ⟨by decide +kernel, rfl, rfl⟩
theorem d_Pr_has_21 : Dc prog_7_method_10_code 21 (.iconst 0) 1 22 := ⟨by decide +kernel, rfl⟩
theorem d_Pr_has_22 : Dc prog_7_method_10_code 22 (.ireturn) 1 23 := ⟨by decide +kernel, rfl⟩
theorem d_Pr_tell_0 : Dc prog_7_method_5_code 0 (.iload_n 1) 1 1 := ⟨by decide +kernel, rfl⟩
theorem d_Pr_tell_1 : Dc prog_7_method_5_code 1 (.bipush 8) 2 3 := ⟨by decide +kernel, rfl⟩
theorem d_Pr_tell_3 : Dc prog_7_method_5_code 3 (.imul) 1 4 := ⟨by decide +kernel, rfl⟩
theorem d_Pr_tell_4 : Dc prog_7_method_5_code 4 (.iload_n 2) 1 5 := ⟨by decide +kernel, rfl⟩
theorem d_Pr_tell_5 : Dc prog_7_method_5_code 5 (.iadd) 1 6 := ⟨by decide +kernel, rfl⟩
theorem d_Pr_tell_6 : Dc prog_7_method_5_code 6 (.istore_n 3) 1 7 := ⟨by decide +kernel, rfl⟩
theorem d_Pr_tell_7 : Dc prog_7_method_5_code 7 (.iload_n 3) 1 8 := ⟨by decide +kernel, rfl⟩
theorem d_Pr_tell_8 : Dj prog_7_method_5_code 8 (.ifCond .lt 21) 11 21 29 := ⟨by decide +kernel, rfl, rfl⟩
theorem d_Pr_tell_11 : Dc prog_7_method_5_code 11 (.iload_n 3) 1 12 := ⟨by decide +kernel, rfl⟩
theorem d_Pr_tell_12 : Dc prog_7_method_5_code 12 (.aload_n 0) 1 13 := ⟨by decide +kernel, rfl⟩
theorem d_Pr_tell_13 : Dc prog_7_method_5_code 13 (.getfield 11) 3 16 := ⟨by decide +kernel, rfl⟩
theorem d_Pr_tell_16 : Dc prog_7_method_5_code 16 (.arraylength) 1 17 := ⟨by decide +kernel, rfl⟩
theorem d_Pr_tell_17 : Dj prog_7_method_5_code 17 (.if_icmp .ge 12) 20 12 29 := ⟨by decide +kernel, rfl, rfl⟩
theorem d_Pr_tell_20 : Dc prog_7_method_5_code 20 (.aload_n 0) 1 21 := ⟨by decide +kernel, rfl⟩
theorem d_Pr_tell_21 : Dc prog_7_method_5_code 21 (.getfield 11) 3 24 := ⟨by decide +kernel, rfl⟩
theorem d_Pr_tell_24 : Dc prog_7_method_5_code 24 (.iload_n 3) 1 25 := ⟨by decide +kernel, rfl⟩
theorem d_Pr_tell_25 : Dc prog_7_method_5_code 25 (.iaload) 1 26 := ⟨by decide +kernel, rfl⟩
theorem d_Pr_tell_26 : Dj prog_7_method_5_code 26 (.goto 4) 29 4 30 := ⟨by decide +kernel, rfl, rfl⟩
theorem d_Pr_tell_30 : Dc prog_7_method_5_code 30 (.ireturn) 1 31 := ⟨by decide +kernel, rfl⟩
theorem fl_Pr_11 : FL "SubgraphDesk$Program" 11 6 2 true (.array .int) (4, 0) := ⟨R_Pr, F_Pr, 4, ty_Pr, rfl, rfl, in_Pr, tyok_Pr, nm_Pr, by decide, gd 338 (by decide +kernel) rfl, rfl, rfl, rfl⟩
theorem fl_Pr_15 : FL "SubgraphDesk$Program" 15 6 3 true (.array .int) (4, 0) := ⟨R_Pr, F_Pr, 4, ty_Pr, rfl, rfl, in_Pr, tyok_Pr, nm_Pr, by decide, gd 339 (by decide +kernel) rfl, rfl, rfl, rfl⟩
theorem fl_Pr_18 : FL "SubgraphDesk$Program" 18 6 0 false .int (0, 0) := ⟨R_Pr, F_Pr, 4, ty_Pr, rfl, rfl, in_Pr, tyok_Pr, nm_Pr, by decide, gd 333 (by decide +kernel) rfl, rfl, rfl, rfl⟩
theorem fl_Pr_22 : FL "SubgraphDesk$Program" 22 6 1 false .int (0, 0) := ⟨R_Pr, F_Pr, 4, ty_Pr, rfl, rfl, in_Pr, tyok_Pr, nm_Pr, by decide, gd 336 (by decide +kernel) rfl, rfl, rfl, rfl⟩
theorem ml_Pr_40 : Cond.methodLink "SubgraphDesk$Program" 40 m_Pr_tell.1 ∈ lw_gd := gd 694 (by decide +kernel) rfl
theorem ml_Pr_44 : Cond.methodLink "SubgraphDesk$Program" 44 m_JMath_min.1 ∈ lw_gd := gd 702 (by decide +kernel) rfl
theorem ml_Pr_51 : Cond.methodLink "SubgraphDesk$Program" 51 m_JMath_max.1 ∈ lw_gd := gd 706 (by decide +kernel) rfl
theorem ml_Pr_54 : Cond.methodLink "SubgraphDesk$Program" 54 m_Pr_combine.1 ∈ lw_gd := gd 709 (by decide +kernel) rfl
theorem k_Pr_49 : Cond.constantLong "SubgraphDesk$Program" 49 (-1000000001) ∈ lw_gd := gd 705 (by decide +kernel) rfl
theorem k_Pr_58 : Cond.constantLong "SubgraphDesk$Program" 58 (1000000000) ∈ lw_gd := gd 712 (by decide +kernel) rfl
theorem k_Pr_60 : Cond.constantLong "SubgraphDesk$Program" 60 (-1000000000) ∈ lw_gd := gd 713 (by decide +kernel) rfl
/-! ===== a text that was read ===== -/
theorem Lv.fr {w w2 : Mem} {a : Nat} {s : Nat × Nat} (h : Lv w a s) (e : w2.2.2.2 = w.2.2.2) : Lv w2 a s := by
  obtain ⟨h1, h2, h3⟩ := h
  refine ⟨?_, ?_, h3⟩
  · unfold nms rD at h1 ⊢
    rw [e]; exact h1
  · unfold sh rL at h2 ⊢
    rw [e]; exact h2
/-- a Program at p: its table of nt ints, its code of nc -/
def PrO (w : Mem) (p tt cc nt nc : Nat) : Prop := Lv w p (1, 6) ∧ rR w p 2 = some tt ∧ rR w p 3 = some cc ∧ Lv w tt (2, nt) ∧ Lv w cc (2, nc)
theorem PrO.fr {w w2 : Mem} {p tt cc nt nc : Nat} (h : PrO w p tt cc nt nc) (e : w2.2.2 = w.2.2) : PrO w2 p tt cc nt nc := by
  have e2 : w2.2.2.2 = w.2.2.2 := by rw [e]
  refine ⟨h.1.fr e2, ?_, ?_, h.2.2.2.1.fr e2, h.2.2.2.2.fr e2⟩
  · unfold rR; rw [e]; exact h.2.1
  · unfold rR; rw [e]; exact h.2.2.1
/-- operation, operand of the desk's own code -/
def dO (o : Nat) : Nat := if o = 0 then 0 else if o < 20 then 1 else o - 18
def dA (o a : Nat) : Nat := if o = 0 then a else if o = 6 then 5 + a else if o < 20 then o - 1 else a
def cwd (o a : Nat) : Nat := dO o * 4096 + dA o a
theorem dO_lt {o : Nat} (h : o < 31) : dO o < 13 := by unfold dO; split <;> (try split) <;> omega
theorem dA_lt {o a : Nat} (h : o < 31) (ha : a < 1001) : dA o a < 1100 := by unfold dA; split <;> (try split) <;> (try split) <;> omega
theorem dO_0 {o : Nat} : dO o = 0 ↔ o = 0 := by unfold dO; split <;> (try split) <;> omega
theorem dO_1 {o : Nat} : dO o = 1 ↔ o ≠ 0 ∧ o < 20 := by
  unfold dO
  split
  · omega
  · split <;> omega
theorem dO_2 {o : Nat} (h : 1 < dO o) : 20 ≤ o ∧ dO o = o - 18 := by
  unfold dO at h ⊢
  split at h
  · omega
  · split at h
    · omega
    · rename_i h1 h2
      rw [if_neg h1, if_neg h2]
      exact ⟨by omega, rfl⟩
theorem dA_b {o a : Nat} (h : 20 ≤ o) : dA o a = a := by unfold dA; rw [if_neg (by omega), if_neg (by omega), if_neg (by omega)]
theorem dA_0 (a : Nat) : dA 0 a = a := if_pos rfl
theorem cwd_lt {o a : Nat} (h : o < 31) (ha : a < 1001) : cwd o a < 60000 := by
  have := dO_lt h
  have := dA_lt h ha
  unfold cwd
  omega
theorem cwd_sh {o a : Nat} (h : o < 31) (ha : a < 1001) : cwd o a >>> 12 = dO o := by
  have := dA_lt h ha
  rw [Nat.shiftRight_eq_div_pow]
  unfold cwd
  show (dO o * 4096 + dA o a) / 4096 = _
  omega
theorem cwd_an {o a : Nat} (h : o < 31) (ha : a < 1001) : cwd o a &&& 4095 = dA o a := by
  have := dA_lt h ha
  rw [show (4095 : Nat) = 2 ^ 12 - 1 from rfl, Nat.and_two_pow_sub_one_eq_mod]
  unfold cwd
  show (dO o * 4096 + dA o a) % 4096 = _
  omega
/-- how many words are laid by the code ahead of k -/
def psh (op : Nat → Nat) : Nat → Nat
  | 0 => 0
  | k + 1 => psh op k + (if op k < 20 then 1 else 0)
theorem psh_le (op : Nat → Nat) {k m : Nat} (h : k ≤ m) : psh op k ≤ psh op m := by
  induction m with
  | zero => rw [Nat.le_zero.mp h]; exact Nat.le_refl _
  | succ m ih =>
    by_cases e : k = m + 1
    · rw [e]; exact Nat.le_refl _
    · exact Nat.le_trans (ih (by omega)) (Nat.le_add_right _ _)
theorem psh_y {op : Nat → Nat} {k : Nat} (h : op k < 20) : psh op (k + 1) = psh op k + 1 := by
  show psh op k + _ = _
  rw [if_pos h]
theorem psh_s (op : Nat → Nat) (k : Nat) : psh op k ≤ psh op (k + 1) := psh_le op (Nat.le_succ k)
/-- only the stack changed -/
def FrS (w w2 : Mem) : Prop := w2.1 = w.1 ∧ (∀ a, a ≠ 35 → rJ w2 a = rJ w a) ∧ w2.2.2 = w.2.2
theorem FrS.rf (w : Mem) : FrS w w := ⟨rfl, fun _ _ => rfl, rfl⟩
theorem FrS.tr {a b c : Mem} (h : FrS a b) (h2 : FrS b c) : FrS a c := ⟨h2.1.trans h.1, fun x hx => (h2.2.1 x hx).trans (h.2.1 x hx), h2.2.2.trans h.2.2⟩
theorem FrS.J {w w2 : Mem} {k : Nat} {x : Int64} (h : FrS w w2) : FrS w (sJ w2 35 k x) := ⟨h.1, fun a ha => by rw [rJ_sJ_ne _ _ _ ha]; exact h.2.1 a ha, h.2.2⟩
theorem FrS.i {w w2 : Mem} (h : FrS w w2) (a : Nat) : rI w2 a = rI w a := by unfold rI; rw [h.1]
theorem StR.w5 {w : Mem} {s : List Int} {v : Int} (h : StR (rJ w 35) s) (hv : bd v) : StR (rJ (sJ w 35 s.length (lI v)) 35) (v :: s) := by
  rw [rJ_sJ]
  exact h.push hv
/-- what is asked, told: broken, or a word -/
def AskP (x : Option Int) (r : Option Value) : Prop := match x with
  | none => r = some (.long (-1000000001))
  | some v => r = some (.long (lI v)) ∧ bd v
theorem lI_TT {v : Int} (h : -9223372036854775808 ≤ v ∧ v ≤ 9223372036854775807) : (lI v).toInt = v := by
  unfold lI
  rw [Int64.toInt_ofInt]
  show v.bmod 18446744073709551616 = v
  refine Int.bmod_eq_of_le ?_ ?_ <;> omega
theorem lI_ltT {a b : Int} (ha : -9223372036854775808 ≤ a ∧ a ≤ 9223372036854775807) (hb : -9223372036854775808 ≤ b ∧ b ≤ 9223372036854775807) : lI a < lI b ↔ a < b := by rw [Int64.lt_iff_toInt_lt, lI_TT ha, lI_TT hb]
theorem lI_leT {a b : Int} (ha : -9223372036854775808 ≤ a ∧ a ≤ 9223372036854775807) (hb : -9223372036854775808 ≤ b ∧ b ≤ 9223372036854775807) : lI a ≤ lI b ↔ a ≤ b := by rw [Int64.le_iff_toInt_le, lI_TT ha, lI_TT hb]
theorem lI_min : (-1000000001 : Int64) = lI (-1000000001) := by decide
/-- two words together, or none in range -/
def CbP (o : Nat) (u v : Int) (w : Mem) (r : Option Value) (w2 : Mem) : Prop := ∃ z : Int, r = some (.long (lI z)) ∧ w2 = w ∧ -9223372036854775808 ≤ z ∧ z ≤ 2000000000000000000 ∧ chk z = comb o u v
theorem cb_c {o : Nat} {u v z : Int} {w : Mem} (h : chk z = comb o u v) (hz : -2000000000000000000 ≤ z ∧ z ≤ 2000000000000000000) : CbP o u v w (some (.long (lI z))) w := ⟨z, rfl, rfl, by omega, by omega, h⟩
theorem cb_m {o : Nat} {u v : Int} {w : Mem} (h : comb o u v = none) : CbP o u v w (some (.long (-1000000001))) w := ⟨-1000000001, by rw [lI_min], rfl, by omega, by omega, by rw [h]; exact chk_n (by omega)⟩
theorem cb_0 {o : Nat} {u v : Int} {w : Mem} (h : some 0 = comb o u v) : CbP o u v w (some (.long (lN 0))) w := cb_c (z := 0) h (by omega)
theorem cb_1 {o : Nat} {u v : Int} {w : Mem} (h : some 1 = comb o u v) : CbP o u v w (some (.long (lN 1))) w := cb_c (z := 1) h (by omega)
theorem c_Pr_clearAll {E : EV} {w : Mem} {p tt cc nt nc : Nat} (hp : PrO w p tt cc nt nc) : T E m_Pr_clearAll 0 0 0 [.ref p] w (Ret none (sI (sI w p 0 (nI 0)) p 1 (nI 0))) := by
  refine T_of (L := [.ref p]) cf_Pr_clearAll rfl (Nat.le_of_ble_eq_true rfl) (fun X hX hF => ?_)
  refine g_aload0 hX d_Pr_clearAll_0 ?_
  refine g_iconst (v := nI 0) hX d_Pr_clearAll_1 rfl ?_
  refine g_putI hX d_Pr_clearAll_2 fl_Pr_18 hp.1 ?_
  refine g_aload0 hX d_Pr_clearAll_5 ?_
  refine g_iconst (v := nI 0) hX d_Pr_clearAll_6 rfl ?_
  refine g_putI hX d_Pr_clearAll_7 fl_Pr_22 hp.1 ?_
  refine g_vret hX hF d_Pr_clearAll_10 (by omega) (by omega) ?_
  exact ⟨rfl, rfl⟩
theorem c_Pr_tell {E : EV} {w : Mem} {p tt cc nt nc : Nat} (hp : PrO w p tt cc nt nc) {c k x : Nat} (hx : rI w tt (8 * c + k) = nI x) (hl : 8 * c + k < nt) : T E m_Pr_tell 0 0 0 [.ref p, .int (nI c), .int (nI k)] w (Ret (some (.int (nI x))) w) := by
  refine T_of (L := [.ref p, .int (nI c), .int (nI k), un]) cf_Pr_tell rfl (Nat.le_of_ble_eq_true rfl) (fun X hX hF => ?_)
  have hnt := hp.2.2.2.1.2.2
  refine g_iload1 hX d_Pr_tell_0 ?_
  refine g_bipush (v := nI 8) hX d_Pr_tell_1 rfl ?_
  refine g_imulN hX d_Pr_tell_3 ?_
  refine g_iload2 hX d_Pr_tell_4 ?_
  refine g_iaddN hX d_Pr_tell_5 ?_
  refine g_topi (show nI (c * 8 + k) = nI (8 * c + k) by rw [Nat.mul_comm]) ?_
  refine g_istore3 hX d_Pr_tell_6 rfl (by decide) ?_
  refine g_iload3 hX d_Pr_tell_7 ?_
  refine g_if_lt hX d_Pr_tell_8 (fun h => absurd h (nI_pos (by omega))) (fun c0 => ?_)
  refine g_iload3 hX d_Pr_tell_11 ?_
  refine g_aload0 hX d_Pr_tell_12 ?_
  refine g_getR hX d_Pr_tell_13 fl_Pr_11 hp.1 hp.2.1 ?_
  refine g_alenI hX d_Pr_tell_16 hp.2.2.2.1 ?_
  refine g_icmpN_ge hX d_Pr_tell_17 (by omega) (by omega) (fun h => absurd h (by omega)) (fun c1 => ?_)
  refine g_aload0 hX d_Pr_tell_20 ?_
  refine g_getR hX d_Pr_tell_21 fl_Pr_11 hp.1 hp.2.1 ?_
  refine g_iload3 hX d_Pr_tell_24 ?_
  refine g_iald hX d_Pr_tell_25 hp.2.2.2.1 rfl (by omega) ?_
  refine g_topi hx ?_
  refine g_goto hX d_Pr_tell_26 ?_
  refine g_iret hX hF d_Pr_tell_30 (by omega) (by omega) ?_
  exact ⟨rfl, rfl⟩
theorem c_Pr_has {E : EV} {w : Mem} {p tt cc nt nc : Nat} (hp : PrO w p tt cc nt nc) {c k x y : Nat} (hx : rI w tt (8 * c + k) = nI x) (hy : rI w tt (8 * c + (k + 1)) = nI y) (hx3 : x < 2 ^ 31) (hy3 : y < 2 ^ 31) (hl : 8 * c + (k + 1) < nt) : T E m_Pr_has 1 0 0 [.ref p, .int (nI c), .int (nI k)] w (Ret (some (.int (b2i (x < y)))) w) := by
  refine T_of (L := [.ref p, .int (nI c), .int (nI k)]) cf_Pr_has rfl (Nat.le_of_ble_eq_true rfl) (fun X hX hF => ?_)
  refine g_aload0 hX d_Pr_has_0 ?_
  refine g_iload1 hX d_Pr_has_1 ?_
  refine g_iload2 hX d_Pr_has_2 ?_
  refine g_iconst (v := nI 1) hX d_Pr_has_3 rfl ?_
  refine g_iaddN hX d_Pr_has_4 ?_
  refine g_callV (As := [_, _]) hX hF.1 d_Pr_has_5 ml_Pr_40 cf_Pr_tell cv_Pr_tell rfl rfl (c_Pr_tell hp hy hl) (rcv_obj hX hp.1 rfl rfl) (by omega) (by omega) (by omega) (Nat.le_of_ble_eq_true rfl) ?_
  refine ret_k ?_
  refine g_aload0 hX d_Pr_has_8 ?_
  refine g_iload1 hX d_Pr_has_9 ?_
  refine g_iload2 hX d_Pr_has_10 ?_
  refine g_callV (As := [_, _]) hX hF.1 d_Pr_has_11 ml_Pr_40 cf_Pr_tell cv_Pr_tell rfl rfl (c_Pr_tell hp hx (by omega)) (rcv_obj hX hp.1 rfl rfl) (by omega) (by omega) (by omega) (Nat.le_of_ble_eq_true rfl) ?_
  refine ret_k ?_
  refine g_icmpN_le hX d_Pr_has_14 (by omega) (by omega) (fun e14 => ?_) (fun e14 => ?_)
  · refine g_iconst (v := nI 0) hX d_Pr_has_21 rfl ?_
    refine g_zret hX hF d_Pr_has_22 (Or.inl rfl) (by omega) (by omega) ?_
    first | exact ret_f (by omega) | exact ret_t (by omega)
  · refine g_iconst (v := nI 1) hX d_Pr_has_17 rfl ?_
    refine g_goto hX d_Pr_has_18 ?_
    refine g_zret hX hF d_Pr_has_22 (Or.inr rfl) (by omega) (by omega) ?_
    first | exact ret_f (by omega) | exact ret_t (by omega)
theorem c_Pr_combine {E : EV} {w : Mem} {q : Nat} {u v : Int} (h1 : 2 ≤ q) (h2 : q < 10) (hu : bd u) (hv : bd v) : T E m_Pr_combine 0 0 0 [.int (nI q), .long (lI u), .long (lI v)] w (CbP (q + 18) u v w) := by
  refine T_of (L := [.int (nI q), .long (lI u), un, .long (lI v), un]) cf_Pr_combine rfl (Nat.le_of_ble_eq_true rfl) (fun X hX hF => ?_)
  refine g_iload0 hX d_Pr_combine_0 ?_
  by_cases c0_2 : (nI q) = 2
  · refine g_tableIn (off := 43) (tgt := 44) hX d_Pr_combine_1 (by rw [c0_2]; decide) (by rw [c0_2]; decide) (by rw [c0_2]; rfl) rfl ?_
    have ho : q = 2 := nI_inj (by omega) (by decide) c0_2
    subst ho
    refine g_lload1 hX d_Pr_combine_44 ?_
    refine g_lload3 hX d_Pr_combine_45 ?_
    refine g_ladd hX d_Pr_combine_46 ?_
    refine g_topl (lI_add u v) ?_
    refine g_lret hX hF d_Pr_combine_47 (by omega) (by omega) ?_
    exact cb_c (o := 20) rfl (by omega)
  by_cases c0_3 : (nI q) = 3
  · refine g_tableIn (off := 47) (tgt := 48) hX d_Pr_combine_1 (by rw [c0_3]; decide) (by rw [c0_3]; decide) (by rw [c0_3]; rfl) rfl ?_
    have ho : q = 3 := nI_inj (by omega) (by decide) c0_3
    subst ho
    refine g_lload1 hX d_Pr_combine_48 ?_
    refine g_lload3 hX d_Pr_combine_49 ?_
    refine g_lsub hX d_Pr_combine_50 ?_
    refine g_topl (lI_sub u v) ?_
    refine g_lret hX hF d_Pr_combine_51 (by omega) (by omega) ?_
    exact cb_c (o := 21) rfl (by omega)
  by_cases c0_4 : (nI q) = 4
  · refine g_tableIn (off := 51) (tgt := 52) hX d_Pr_combine_1 (by rw [c0_4]; decide) (by rw [c0_4]; decide) (by rw [c0_4]; rfl) rfl ?_
    have ho : q = 4 := nI_inj (by omega) (by decide) c0_4
    subst ho
    refine g_lload1 hX d_Pr_combine_52 ?_
    refine g_lload3 hX d_Pr_combine_53 ?_
    refine g_lmul hX d_Pr_combine_54 ?_
    refine g_topl (lI_mul u v) ?_
    refine g_lret hX hF d_Pr_combine_55 (by omega) (by omega) ?_
    exact cb_c (o := 22) rfl (bd_mul hu hv)
  by_cases c0_5 : (nI q) = 5
  · refine g_tableIn (off := 55) (tgt := 56) hX d_Pr_combine_1 (by rw [c0_5]; decide) (by rw [c0_5]; decide) (by rw [c0_5]; rfl) rfl ?_
    have ho : q = 5 := nI_inj (by omega) (by decide) c0_5
    subst ho
    by_cases hv0 : v = 0
    · refine g_lload3 hX d_Pr_combine_56 ?_
      refine g_lconst (v := lN 0) hX d_Pr_combine_57 rfl ?_
      refine g_lcmp_ne hX d_Pr_combine_58 d_Pr_combine_59 (fun h => absurd (show lI v = lN 0 by rw [hv0]; rfl) h) (fun c0 => ?_)
      refine g_ldc2 (v := -1000000001) hX d_Pr_combine_62 k_Pr_49 rfl ?_
      refine g_goto hX d_Pr_combine_65 ?_
      refine g_lret hX hF d_Pr_combine_71 (by omega) (by omega) ?_
      exact cb_m (show (if v = 0 then none else _) = none from if_pos hv0)
    · refine g_lload3 hX d_Pr_combine_56 ?_
      refine g_lconst (v := lN 0) hX d_Pr_combine_57 rfl ?_
      refine g_lcmp_ne hX d_Pr_combine_58 d_Pr_combine_59 (fun c0 => ?_) (fun h => absurd h (fun q : lI v = lN 0 => hv0 ((lI_eq (a := v) (b := 0) (by omega) (by omega)).mp q)))
      refine g_lload1 hX d_Pr_combine_68 ?_
      refine g_lload3 hX d_Pr_combine_69 ?_
      refine g_ldiv hX d_Pr_combine_70 (fun q => hv0 ((lI_eq (a := v) (b := 0) (by omega) (by omega)).mp q)) ?_
      refine g_topl (lI_div hu hv) ?_
      refine g_lret hX hF d_Pr_combine_71 (by omega) (by omega) ?_
      exact cb_c (o := 23) (show _ = (if v = 0 then none else _) from (if_neg hv0).symm) (bd_div hu)
  by_cases c0_6 : (nI q) = 6
  · refine g_tableIn (off := 71) (tgt := 72) hX d_Pr_combine_1 (by rw [c0_6]; decide) (by rw [c0_6]; decide) (by rw [c0_6]; rfl) rfl ?_
    have ho : q = 6 := nI_inj (by omega) (by decide) c0_6
    subst ho
    by_cases hv0 : v = 0
    · refine g_lload3 hX d_Pr_combine_72 ?_
      refine g_lconst (v := lN 0) hX d_Pr_combine_73 rfl ?_
      refine g_lcmp_ne hX d_Pr_combine_74 d_Pr_combine_75 (fun h => absurd (show lI v = lN 0 by rw [hv0]; rfl) h) (fun c0 => ?_)
      refine g_ldc2 (v := -1000000001) hX d_Pr_combine_78 k_Pr_49 rfl ?_
      refine g_goto hX d_Pr_combine_81 ?_
      refine g_lret hX hF d_Pr_combine_87 (by omega) (by omega) ?_
      exact cb_m (show (if v = 0 then none else _) = none from if_pos hv0)
    · refine g_lload3 hX d_Pr_combine_72 ?_
      refine g_lconst (v := lN 0) hX d_Pr_combine_73 rfl ?_
      refine g_lcmp_ne hX d_Pr_combine_74 d_Pr_combine_75 (fun c0 => ?_) (fun h => absurd h (fun q : lI v = lN 0 => hv0 ((lI_eq (a := v) (b := 0) (by omega) (by omega)).mp q)))
      refine g_lload1 hX d_Pr_combine_84 ?_
      refine g_lload3 hX d_Pr_combine_85 ?_
      refine g_lrem hX d_Pr_combine_86 (fun q => hv0 ((lI_eq (a := v) (b := 0) (by omega) (by omega)).mp q)) ?_
      refine g_topl (lI_rem hu hv) ?_
      refine g_lret hX hF d_Pr_combine_87 (by omega) (by omega) ?_
      exact cb_c (o := 24) (show _ = (if v = 0 then none else _) from (if_neg hv0).symm) (bd_mod hu)
  by_cases c0_7 : (nI q) = 7
  · refine g_tableIn (off := 87) (tgt := 88) hX d_Pr_combine_1 (by rw [c0_7]; decide) (by rw [c0_7]; decide) (by rw [c0_7]; rfl) rfl ?_
    have ho : q = 7 := nI_inj (by omega) (by decide) c0_7
    subst ho
    refine g_lload1 hX d_Pr_combine_88 ?_
    refine g_lload3 hX d_Pr_combine_89 ?_
    refine g_lcmp_ge hX d_Pr_combine_90 d_Pr_combine_91 (fun e25 => ?_) (fun e25 => ?_)
    · refine g_lconst (v := lN 0) hX d_Pr_combine_98 rfl ?_
      refine g_lret hX hF d_Pr_combine_99 (by omega) (by omega) ?_
      rw [lI_le (by omega) (by omega)] at e25
      first
        | exact cb_1 (cb25y (by omega))
        | exact cb_0 (cb25n (by omega))
    · refine g_lconst (v := lN 1) hX d_Pr_combine_94 rfl ?_
      refine g_goto hX d_Pr_combine_95 ?_
      refine g_lret hX hF d_Pr_combine_99 (by omega) (by omega) ?_
      rw [lI_le (by omega) (by omega)] at e25
      first
        | exact cb_1 (cb25y (by omega))
        | exact cb_0 (cb25n (by omega))
  by_cases c0_8 : (nI q) = 8
  · refine g_tableIn (off := 99) (tgt := 100) hX d_Pr_combine_1 (by rw [c0_8]; decide) (by rw [c0_8]; decide) (by rw [c0_8]; rfl) rfl ?_
    have ho : q = 8 := nI_inj (by omega) (by decide) c0_8
    subst ho
    refine g_lload1 hX d_Pr_combine_100 ?_
    refine g_lload3 hX d_Pr_combine_101 ?_
    refine g_lcmp_le hX d_Pr_combine_102 d_Pr_combine_103 (fun e26 => ?_) (fun e26 => ?_)
    · refine g_lconst (v := lN 0) hX d_Pr_combine_110 rfl ?_
      refine g_lret hX hF d_Pr_combine_111 (by omega) (by omega) ?_
      rw [lI_le (by omega) (by omega)] at e26
      first
        | exact cb_1 (cb26y (by omega))
        | exact cb_0 (cb26n (by omega))
    · refine g_lconst (v := lN 1) hX d_Pr_combine_106 rfl ?_
      refine g_goto hX d_Pr_combine_107 ?_
      refine g_lret hX hF d_Pr_combine_111 (by omega) (by omega) ?_
      rw [lI_le (by omega) (by omega)] at e26
      first
        | exact cb_1 (cb26y (by omega))
        | exact cb_0 (cb26n (by omega))
  refine g_tableOut (tgt := 112) hX d_Pr_combine_1 (sw_outR (lo := 2) (hi := 8) (by decide) (by intro k hk1 hk2; rcases (show k = 2 ∨ k = 3 ∨ k = 4 ∨ k = 5 ∨ k = 6 ∨ k = 7 ∨ k = 8 by omega) with rfl | rfl | rfl | rfl | rfl | rfl | rfl <;> first | exact c0_2 | exact c0_3 | exact c0_4 | exact c0_5 | exact c0_6 | exact c0_7 | exact c0_8)) rfl ?_
  have ho : q = 9 := by
    have n1 : ∀ j, nI q ≠ nI j → q ≠ j := fun j h1 h2 => h1 (by rw [h2])
    have h2 := n1 2 c0_2
    have h3 := n1 3 c0_3
    have h4 := n1 4 c0_4
    have h5 := n1 5 c0_5
    have h6 := n1 6 c0_6
    have h7 := n1 7 c0_7
    have h8 := n1 8 c0_8
    omega
  subst ho
  refine g_lload1 hX d_Pr_combine_112 ?_
  refine g_lload3 hX d_Pr_combine_113 ?_
  refine g_lcmp_ne hX d_Pr_combine_114 d_Pr_combine_115 (fun e27 => ?_) (fun e27 => ?_)
  · refine g_lconst (v := lN 0) hX d_Pr_combine_122 rfl ?_
    refine g_lret hX hF d_Pr_combine_123 (by omega) (by omega) ?_
    rw [lI_eq (by omega) (by omega)] at e27
    first
      | exact cb_1 (cb27y (by omega))
      | exact cb_0 (cb27n (by omega))
  · refine g_lconst (v := lN 1) hX d_Pr_combine_118 rfl ?_
    refine g_goto hX d_Pr_combine_119 ?_
    refine g_lret hX hF d_Pr_combine_123 (by omega) (by omega) ?_
    rw [lI_eq (by omega) (by omega)] at e27
    first
      | exact cb_1 (cb27y (by omega))
      | exact cb_0 (cb27n (by omega))
theorem mit_le {op arg : Nat → Nat} {env : Nat → Int} {b n k : Nat} {st : List Int} {r : Option Int} (h : mit op arg env b n (k, st) = rsF b r) : k ≤ b := by
  rcases Nat.lt_or_ge b k with z | z
  · rw [mit_e (by omega)] at h
    obtain ⟨v, -, h2, -⟩ := rs_end h
    omega
  · exact z
theorem oI_l {v : Int} (h : bd v) : (Int32.ofInt v).toInt64 = lI v := by
  apply Int64.toInt_inj.mp
  rw [Int32.toInt_toInt64, Int32.toInt_ofInt, lI_T (by omega)]
  show v.bmod 4294967296 = v
  exact Int.bmod_eq_of_le (by omega) (by omega)
theorem c_Pr_ask {E : EV} {w : Mem} {p tt cc nt nc : Nat} (hp : PrO w p tt cc nt nc) {c pt a b len wr nw : Nat} {op arg : Nat → Nat} {env : Nat → Int} {f : Den} (hseg : SegM op arg a b f) (hok : ∀ j, j < b → op j < 31 ∧ arg j < 1001 ∧ (29 ≤ op j → j < arg j)) (hps : psh op b ≤ 63) (hlen : rI w p 1 = nI len) (hbl : b ≤ len) (hlc : len ≤ nc) (hnc : nc ≤ 400) (hcode : ∀ j, j < b → rI w cc j = nI (cwd (op j) (arg j))) (hta : rI w tt (8 * c + pt) = nI a) (htb : rI w tt (8 * c + (pt + 1)) = nI b) (hnt : 8 * c + (pt + 1) < nt) (hwr : Lv w wr (2, nw)) (hnw : nw < 100) (hwd : ∀ j, j < b → 0 < op j → op j < 20 → dA (op j) (arg j) < nw ∧ rI w wr (dA (op j) (arg j)) = Int32.ofInt (env (if op j = 6 then 20 + arg j else op j)) ∧ bd (env (if op j = 6 then 20 + arg j else op j))) : T E m_Pr_ask 1 0 0 [.ref p, .int (nI c), .int (nI pt), .ref wr, .ref 35] w (fun r w2 => AskP (f env) r ∧ FrS w w2) := by
  refine T_of (L := [.ref p, .int (nI c), .int (nI pt), .ref wr, .ref 35, un, un, un, un, un, un, un]) cf_Pr_ask rfl (Nat.le_of_ble_eq_true rfl) (fun X hX hF => ?_)
  have hnt1 := hp.2.2.2.1.2.2
  have kE : ∀ (k : Nat) (st : List Int) (wk : Mem), StR (rJ wk 35) st → FrS w wk → some (k, st) = rsF b (f env) → G0 E X 0 0 288 [.ref p, .int (nI c), .int (nI pt), .ref wr, .ref 35, .int (nI st.length), .int (nI b), .int (nI k), un, un, un, un] [] wk := by
    intro k st wk hst q3 q5
    obtain ⟨v, hr, rfl, rfl⟩ := rs_end q5
    have hp2 := hp.fr q3.2.2
    refine g_iload5 hX d_Pr_ask_288 ?_
    refine g_if_le hX d_Pr_ask_290 (fun h => absurd h (by show ¬ nI 1 ≤ 0; decide)) (fun c0 => ?_)
    refine g_aload4 hX d_Pr_ask_293 ?_
    refine g_iload5 hX d_Pr_ask_295 ?_
    refine g_iconst (v := nI 1) hX d_Pr_ask_297 rfl ?_
    refine g_isubN hX d_Pr_ask_298 (Nat.le_refl 1) ?_
    refine g_lald hX d_Pr_ask_299 (lv_35 _) rfl (by show 1 - 1 < 64; decide) ?_
    refine g_topl hst.1 ?_
    refine g_goto hX d_Pr_ask_300 ?_
    refine g_lret hX hF d_Pr_ask_306 (by omega) (by omega) ?_
    exact ⟨by rw [hr]; exact ⟨rfl, hst.2.1⟩, q3⟩
  have lp : ∀ (n k : Nat) (st : List Int) (wk : Mem), mit op arg env b n (k, st) = rsF b (f env) → StR (rJ wk 35) st → FrS w wk → k ≤ b → st.length ≤ psh op k → G0 E X 0 0 28 [.ref p, .int (nI c), .int (nI pt), .ref wr, .ref 35, .int (nI st.length), .int (nI b), .int (nI k), un, un, un, un] [] wk := by
    intro n
    induction n with
    | zero =>
      intro k st wk q1 q2 q3 q4 q5
      have hp2 := hp.fr q3.2.2
      have hwr2 := hwr.fr (show wk.2.2.2 = w.2.2.2 by rw [q3.2.2])
      have hbk : b = k := by
        obtain ⟨v, -, h2, -⟩ := rs_end q1
        exact h2.symm
      refine g_iload7 hX d_Pr_ask_28 ?_
      refine g_iload6 hX d_Pr_ask_30 ?_
      refine g_icmpN_ge hX d_Pr_ask_32 (by omega) (by omega) (fun e32 => ?_) (fun h => absurd h (by omega))
      exact kE k st wk q2 q3 q1
    | succ n ih =>
      intro k st wk q1 q2 q3 q4 q5
      have hp2 := hp.fr q3.2.2
      have hwr2 := hwr.fr (show wk.2.2.2 = w.2.2.2 by rw [q3.2.2])
      refine g_iload7 hX d_Pr_ask_28 ?_
      refine g_iload6 hX d_Pr_ask_30 ?_
      refine g_icmpN_ge hX d_Pr_ask_32 (by omega) (by omega) (fun e32 => ?_) (fun e32 => ?_)
      · exact kE k st wk q2 q3 ((mit_e (by omega)).symm.trans q1)
      · have hkb : k < b := by omega
        obtain ⟨ho31, ha1, hjm⟩ := hok k hkb
        have hdo := dO_lt ho31
        have hda := dA_lt ho31 ha1
        have hcw := cwd_lt ho31 ha1
        have hpb := psh_le op (show k + 1 ≤ b by omega)
        have hps := psh_s op k
        refine g_aload0 hX d_Pr_ask_35 ?_
        refine g_getR hX d_Pr_ask_36 fl_Pr_15 hp2.1 hp2.2.2.1 ?_
        refine g_iload7 hX d_Pr_ask_39 ?_
        refine g_iald hX d_Pr_ask_41 hp2.2.2.2.2 rfl (by omega) ?_
        refine g_topi (show rI wk cc k = nI (cwd (op k) (arg k)) by rw [q3.i]; exact hcode k hkb) ?_
        refine g_bipush (v := nI 12) hX d_Pr_ask_42 rfl ?_
        refine g_ishrN hX d_Pr_ask_44 (by omega) (by omega) ?_
        refine g_topi (show nI (cwd (op k) (arg k) >>> 12) = nI (dO (op k)) by rw [cwd_sh ho31 ha1]) ?_
        refine g_istore8 hX d_Pr_ask_45 rfl (by decide) ?_
        refine g_aload0 hX d_Pr_ask_47 ?_
        refine g_getR hX d_Pr_ask_48 fl_Pr_15 hp2.1 hp2.2.2.1 ?_
        refine g_iload7 hX d_Pr_ask_51 ?_
        refine g_iald hX d_Pr_ask_53 hp2.2.2.2.2 rfl (by omega) ?_
        refine g_topi (show rI wk cc k = nI (cwd (op k) (arg k)) by rw [q3.i]; exact hcode k hkb) ?_
        refine g_sipush (v := nI 4095) hX d_Pr_ask_54 rfl ?_
        refine g_iandC hX d_Pr_ask_57 (fun hm1 => ?_)
        refine g_topi (show nI (cwd (op k) (arg k) &&& 4095) = nI (dA (op k) (arg k)) by rw [cwd_an ho31 ha1]) ?_
        refine g_istore9 hX d_Pr_ask_58 rfl (by decide) ?_
        refine g_iload8 hX d_Pr_ask_60 ?_
        refine g_iconst (v := nI 1) hX d_Pr_ask_62 rfl ?_
        refine g_icmpN_gt hX d_Pr_ask_63 (by omega) (by omega) (fun e63 => ?_) (fun e63 => ?_)
        · obtain ⟨h20, hdq⟩ := dO_2 (o := op k) (by omega)
          have hdb := dA_b (a := arg k) h20
          refine g_iload5 hX d_Pr_ask_119 ?_
          refine g_iload8 hX d_Pr_ask_121 ?_
          refine g_bipush (v := nI 10) hX d_Pr_ask_123 rfl ?_
          refine g_icmpN_ge hX d_Pr_ask_125 (by omega) (by omega) (fun e125 => ?_) (fun e125 => ?_)
          · obtain ⟨v, s, rfl⟩ := has_one (by omega) hkb q1
            have hlen : (v :: s).length = s.length + 1 := rfl
            obtain ⟨hs1, hs2, hs3⟩ := q2
            refine g_iconst (v := nI 1) hX d_Pr_ask_132 rfl ?_
            refine g_icmpN_ge hX d_Pr_ask_133 (by omega) (by omega) (fun c4 => ?_) (fun h => absurd h (by omega))
            refine g_iload8 hX d_Pr_ask_140 ?_
            refine g_bipush (v := nI 10) hX d_Pr_ask_142 rfl ?_
            refine g_icmpN_ne hX d_Pr_ask_144 (by omega) (by omega) (fun e144 => ?_) (fun e144 => ?_)
            · refine g_iload8 hX d_Pr_ask_166 ?_
              refine g_bipush (v := nI 10) hX d_Pr_ask_168 rfl ?_
              refine g_icmpN_le hX d_Pr_ask_170 (by omega) (by omega) (fun h => absurd h (by omega)) (fun c6 => ?_)
              refine g_aload4 hX d_Pr_ask_173 ?_
              refine g_iload5 hX d_Pr_ask_175 ?_
              refine g_iconst (v := nI 1) hX d_Pr_ask_177 rfl ?_
              refine g_isubN hX d_Pr_ask_178 (by omega) ?_
              refine g_lald hX d_Pr_ask_179 (lv_35 _) rfl (by omega) ?_
              refine g_topl (show rJ wk 35 (s.length + 1 - 1) = lI v from hs1) ?_
              refine g_iload8 hX d_Pr_ask_180 ?_
              refine g_bipush (v := nI 12) hX d_Pr_ask_182 rfl ?_
              refine g_icmpN_ne hX d_Pr_ask_184 (by omega) (by omega) (fun e184 => ?_) (fun e184 => ?_)
              · refine g_iconst (v := nI 0) hX d_Pr_ask_191 rfl ?_
                refine g_i2l hX d_Pr_ask_192 ?_
                refine g_topl (show (nI 0).toInt64 = lN 0 from rfl) ?_
                refine g_lcmp_ne hX d_Pr_ask_193 d_Pr_ask_194 (fun e194 => ?_) (fun e194 => ?_)
                · refine g_iconst (v := nI 0) hX d_Pr_ask_201 rfl ?_
                  refine g_istore10 hX d_Pr_ask_202 rfl (by decide) ?_
                  refine g_iload10 hX d_Pr_ask_204 ?_
                  refine g_if_eq hX d_Pr_ask_206 (fun c9 => ?_) (fun h => absurd (by decide) h)
                  refine g_iinc5 hX d_Pr_ask_223 (v := nI s.length) (nI_dec s.length) rfl (by decide) ?_
                  refine g_goto hX d_Pr_ask_226 ?_
                  refine g_iincN7 hX d_Pr_ask_282 rfl (by decide) ?_
                  refine g_goto hX d_Pr_ask_285 ?_
                  refine g_fget 8 ?_
                  refine g_fget 9 ?_
                  refine g_fget 10 ?_
                  refine g_fget 11 ?_
                  exact ih (k + 1) s _ (st_1 q1 hkb ((ms_jump (by omega)).trans (if_neg (jump_n hs2 (by omega) ⟨fun _ => e194, fun z => absurd z (by omega)⟩)))) hs3 q3 (by omega) (by omega)
                · refine g_iconst (v := nI 1) hX d_Pr_ask_197 rfl ?_
                  refine g_goto hX d_Pr_ask_198 ?_
                  refine g_istore10 hX d_Pr_ask_202 rfl (by decide) ?_
                  refine g_iload10 hX d_Pr_ask_204 ?_
                  refine g_if_eq hX d_Pr_ask_206 (fun h => absurd h (by decide)) (fun c10 => ?_)
                  refine g_iload7 hX d_Pr_ask_209 ?_
                  refine g_iload9 hX d_Pr_ask_211 ?_
                  refine g_iconst (v := nI 1) hX d_Pr_ask_213 rfl ?_
                  refine g_isubN hX d_Pr_ask_214 (by omega) ?_
                  refine g_Math_max hX hF.1 d_Pr_ask_215 ml_Pr_51 (by omega) (by omega) (by omega) (Nat.le_of_ble_eq_true rfl) ?_
                  refine g_topi (maxI_n (by omega) (by omega)) ?_
                  refine g_istore7 hX d_Pr_ask_218 rfl (by decide) ?_
                  refine g_goto hX d_Pr_ask_220 ?_
                  refine g_goto hX d_Pr_ask_226 ?_
                  refine g_iincN7 hX d_Pr_ask_282 rfl (by decide) ?_
                  refine g_goto hX d_Pr_ask_285 ?_
                  refine g_fget 8 ?_
                  refine g_fget 9 ?_
                  refine g_fget 10 ?_
                  refine g_fget 11 ?_
                  rw [show max k (dA (op k) (arg k) - 1) + 1 = arg k by have := hjm (by omega); omega]
                  have hst := st_1 q1 hkb ((ms_jump (by omega)).trans (if_pos (jump_v hs2 (by omega) ⟨fun _ => e194, fun z => absurd z (by omega)⟩)))
                  exact ih (arg k) (v :: s) _ hst ⟨hs1, hs2, hs3⟩ q3 (mit_le hst) (by have := psh_le op (show k ≤ arg k by have := hjm (by omega); omega); omega)
              · refine g_iconst (v := nI 1) hX d_Pr_ask_187 rfl ?_
                refine g_goto hX d_Pr_ask_188 ?_
                refine g_i2l hX d_Pr_ask_192 ?_
                refine g_topl (show (nI 1).toInt64 = lN 1 from rfl) ?_
                refine g_lcmp_ne hX d_Pr_ask_193 d_Pr_ask_194 (fun e194 => ?_) (fun e194 => ?_)
                · refine g_iconst (v := nI 0) hX d_Pr_ask_201 rfl ?_
                  refine g_istore10 hX d_Pr_ask_202 rfl (by decide) ?_
                  refine g_iload10 hX d_Pr_ask_204 ?_
                  refine g_if_eq hX d_Pr_ask_206 (fun c12 => ?_) (fun h => absurd (by decide) h)
                  refine g_iinc5 hX d_Pr_ask_223 (v := nI s.length) (nI_dec s.length) rfl (by decide) ?_
                  refine g_goto hX d_Pr_ask_226 ?_
                  refine g_iincN7 hX d_Pr_ask_282 rfl (by decide) ?_
                  refine g_goto hX d_Pr_ask_285 ?_
                  refine g_fget 8 ?_
                  refine g_fget 9 ?_
                  refine g_fget 10 ?_
                  refine g_fget 11 ?_
                  exact ih (k + 1) s _ (st_1 q1 hkb ((ms_jump (by omega)).trans (if_neg (jump_n hs2 (by omega) ⟨fun z => absurd z (by omega), fun _ => e194⟩)))) hs3 q3 (by omega) (by omega)
                · refine g_iconst (v := nI 1) hX d_Pr_ask_197 rfl ?_
                  refine g_goto hX d_Pr_ask_198 ?_
                  refine g_istore10 hX d_Pr_ask_202 rfl (by decide) ?_
                  refine g_iload10 hX d_Pr_ask_204 ?_
                  refine g_if_eq hX d_Pr_ask_206 (fun h => absurd h (by decide)) (fun c13 => ?_)
                  refine g_iload7 hX d_Pr_ask_209 ?_
                  refine g_iload9 hX d_Pr_ask_211 ?_
                  refine g_iconst (v := nI 1) hX d_Pr_ask_213 rfl ?_
                  refine g_isubN hX d_Pr_ask_214 (by omega) ?_
                  refine g_Math_max hX hF.1 d_Pr_ask_215 ml_Pr_51 (by omega) (by omega) (by omega) (Nat.le_of_ble_eq_true rfl) ?_
                  refine g_topi (maxI_n (by omega) (by omega)) ?_
                  refine g_istore7 hX d_Pr_ask_218 rfl (by decide) ?_
                  refine g_goto hX d_Pr_ask_220 ?_
                  refine g_goto hX d_Pr_ask_226 ?_
                  refine g_iincN7 hX d_Pr_ask_282 rfl (by decide) ?_
                  refine g_goto hX d_Pr_ask_285 ?_
                  refine g_fget 8 ?_
                  refine g_fget 9 ?_
                  refine g_fget 10 ?_
                  refine g_fget 11 ?_
                  rw [show max k (dA (op k) (arg k) - 1) + 1 = arg k by have := hjm (by omega); omega]
                  have hst := st_1 q1 hkb ((ms_jump (by omega)).trans (if_pos (jump_v hs2 (by omega) ⟨fun z => absurd z (by omega), fun _ => e194⟩)))
                  exact ih (arg k) (v :: s) _ hst ⟨hs1, hs2, hs3⟩ q3 (mit_le hst) (by have := psh_le op (show k ≤ arg k by have := hjm (by omega); omega); omega)
            · refine g_aload4 hX d_Pr_ask_147 ?_
              refine g_iload5 hX d_Pr_ask_149 ?_
              refine g_iconst (v := nI 1) hX d_Pr_ask_151 rfl ?_
              refine g_isubN hX d_Pr_ask_152 (by omega) ?_
              refine g_lconst (v := lN 1) hX d_Pr_ask_153 rfl ?_
              refine g_aload4 hX d_Pr_ask_154 ?_
              refine g_iload5 hX d_Pr_ask_156 ?_
              refine g_iconst (v := nI 1) hX d_Pr_ask_158 rfl ?_
              refine g_isubN hX d_Pr_ask_159 (by omega) ?_
              refine g_lald hX d_Pr_ask_160 (lv_35 _) rfl (by omega) ?_
              refine g_topl (show rJ wk 35 (s.length + 1 - 1) = lI v from hs1) ?_
              refine g_lsub hX d_Pr_ask_161 ?_
              refine g_topl (y := lI (1 - v)) (lI_sub 1 v) ?_
              refine g_last hX d_Pr_ask_162 (lv_35 _) rfl (by omega) ?_
              refine g_goto hX d_Pr_ask_163 ?_
              refine g_iincN7 hX d_Pr_ask_282 rfl (by decide) ?_
              refine g_goto hX d_Pr_ask_285 ?_
              refine g_fget 8 ?_
              refine g_fget 9 ?_
              refine g_fget 10 ?_
              refine g_fget 11 ?_
              exact ih (k + 1) ((1 - v) :: s) _ (st_1 q1 hkb (ms_not (by omega))) (hs3.w5 (by omega)) q3.J (by omega) (by rw [List.length_cons]; omega)
          · obtain ⟨v, u, s2, rfl⟩ := has_two (by omega) (by omega) hkb q1
            have hlen : (v :: u :: s2).length = s2.length + 2 := rfl
            obtain ⟨hs1, hs2, hs3, hs4, hs5⟩ := q2
            refine g_iconst (v := nI 2) hX d_Pr_ask_128 rfl ?_
            refine g_goto hX d_Pr_ask_129 ?_
            refine g_icmpN_ge hX d_Pr_ask_133 (by omega) (by omega) (fun c14 => ?_) (fun h => absurd h (by omega))
            refine g_iload8 hX d_Pr_ask_140 ?_
            refine g_bipush (v := nI 10) hX d_Pr_ask_142 rfl ?_
            refine g_icmpN_ne hX d_Pr_ask_144 (by omega) (by omega) (fun e144 => ?_) (fun h => absurd h (by omega))
            refine g_iload8 hX d_Pr_ask_166 ?_
            refine g_bipush (v := nI 10) hX d_Pr_ask_168 rfl ?_
            refine g_icmpN_le hX d_Pr_ask_170 (by omega) (by omega) (fun c16 => ?_) (fun h => absurd h (by omega))
            refine g_iinc5 hX d_Pr_ask_229 (v := nI (s2.length + 1)) (nI_dec (s2.length + 1)) rfl (by decide) ?_
            refine g_iload8 hX d_Pr_ask_232 ?_
            refine g_aload4 hX d_Pr_ask_234 ?_
            refine g_iload5 hX d_Pr_ask_236 ?_
            refine g_iconst (v := nI 1) hX d_Pr_ask_238 rfl ?_
            refine g_isubN hX d_Pr_ask_239 (by omega) ?_
            refine g_lald hX d_Pr_ask_240 (lv_35 _) rfl (by omega) ?_
            refine g_topl (show rJ wk 35 (s2.length + 1 - 1) = lI u from hs3) ?_
            refine g_aload4 hX d_Pr_ask_241 ?_
            refine g_iload5 hX d_Pr_ask_243 ?_
            refine g_lald hX d_Pr_ask_245 (lv_35 _) rfl (by omega) ?_
            refine g_topl (show rJ wk 35 (s2.length + 1) = lI v from hs1) ?_
            refine g_callS (As := [_, _, _]) hX hF.1 d_Pr_ask_246 ml_Pr_54 cf_Pr_combine cs_Pr_combine rfl (c_Pr_combine (q := dO (op k)) (by omega) (by omega) hs4 hs2) (by omega) (by omega) (by omega) (Nat.le_of_ble_eq_true rfl) ?_
            rintro _ w2 ⟨z, rfl, rfl, hz1, hz2, hz3⟩
            rw [show dO (op k) + 18 = op k by omega] at hz3
            show G0 _ _ _ _ _ _ _ _
            refine g_lstore10 hX d_Pr_ask_249 rfl (by decide) ?_
            refine g_lload10 hX d_Pr_ask_251 ?_
            refine g_ldc2 (v := lN 1000000000) hX d_Pr_ask_253 k_Pr_58 rfl ?_
            refine g_lcmp_gt hX d_Pr_ask_256 d_Pr_ask_257 (fun e257 => ?_) (fun e257 => ?_)
            · refine g_ldc2 (v := -1000000001) hX d_Pr_ask_269 k_Pr_49 rfl ?_
              refine g_lret hX hF d_Pr_ask_272 (by omega) (by omega) ?_
              have hno : chk z = none := chk_n (by
                first
                | (have e := (lI_ltT (a := 1000000000) (by omega) (by omega)).mp e257; omega)
                | (have e266 : ¬ lI (-1000000000) ≤ lI z := e266
                   have e := mt (lI_leT (a := -1000000000) (by omega) (by omega)).mpr e266; omega))
              have hfn : f env = none := st_0 q1 hkb ((ms_two (by omega) (by omega)).trans (by rw [← hz3, hno]; rfl))
              exact ⟨by rw [hfn]; rfl, q3⟩
            · refine g_lload10 hX d_Pr_ask_260 ?_
              refine g_ldc2 (v := -1000000000) hX d_Pr_ask_262 k_Pr_60 rfl ?_
              refine g_lcmp_ge hX d_Pr_ask_265 d_Pr_ask_266 (fun e266 => ?_) (fun e266 => ?_)
              · refine g_aload4 hX d_Pr_ask_273 ?_
                refine g_iload5 hX d_Pr_ask_275 ?_
                refine g_iconst (v := nI 1) hX d_Pr_ask_277 rfl ?_
                refine g_isubN hX d_Pr_ask_278 (by omega) ?_
                refine g_lload10 hX d_Pr_ask_279 ?_
                refine g_last hX d_Pr_ask_281 (lv_35 _) rfl (by omega) ?_
                refine g_iincN7 hX d_Pr_ask_282 rfl (by decide) ?_
                refine g_goto hX d_Pr_ask_285 ?_
                refine g_fget 8 ?_
                refine g_fget 9 ?_
                refine g_fget 10 ?_
                refine g_fget 11 ?_
                have hin : -1000000000 ≤ z ∧ z ≤ 1000000000 := by
                  have g1 := mt (lI_ltT (a := 1000000000) (by omega) (by omega)).mpr e257
                  have e266 : lI (-1000000000) ≤ lI z := e266
                  have g2 := (lI_leT (a := -1000000000) (by omega) (by omega)).mp e266
                  omega
                exact ih (k + 1) (z :: s2) _ (st_1 q1 hkb ((ms_two (by omega) (by omega)).trans (by rw [← hz3, chk_y hin]; rfl))) (hs5.w5 (by omega)) q3.J (by omega) (by rw [List.length_cons]; omega)
              · refine g_ldc2 (v := -1000000001) hX d_Pr_ask_269 k_Pr_49 rfl ?_
                refine g_lret hX hF d_Pr_ask_272 (by omega) (by omega) ?_
                have hno : chk z = none := chk_n (by
                  first
                  | (have e := (lI_ltT (a := 1000000000) (by omega) (by omega)).mp e257; omega)
                  | (have e266 : ¬ lI (-1000000000) ≤ lI z := e266
                     have e := mt (lI_leT (a := -1000000000) (by omega) (by omega)).mpr e266; omega))
                have hfn : f env = none := st_0 q1 hkb ((ms_two (by omega) (by omega)).trans (by rw [← hz3, hno]; rfl))
                exact ⟨by rw [hfn]; rfl, q3⟩
        · have hlay : op k < 20 := by
            rcases Nat.lt_or_ge (op k) 20 with z | z
            · exact z
            · have : dO (op k) = op k - 18 := by unfold dO; rw [if_neg (by omega), if_neg (by omega)]
              omega
          have hpy := psh_y hlay
          refine g_iload5 hX d_Pr_ask_66 ?_
          refine g_aload4 hX d_Pr_ask_68 ?_
          refine g_alenJ hX d_Pr_ask_70 (lv_35 _) ?_
          refine g_icmpN_ge hX d_Pr_ask_71 (by omega) (by omega) (fun h => absurd h (by omega)) (fun c19 => ?_)
          refine g_iload8 hX d_Pr_ask_74 ?_
          refine g_iconst (v := nI 1) hX d_Pr_ask_76 rfl ?_
          refine g_icmpN_ne hX d_Pr_ask_77 (by omega) (by omega) (fun e77 => ?_) (fun e77 => ?_)
          · have h0 : op k = 0 := dO_0.mp (by omega)
            refine g_aload4 hX d_Pr_ask_91 ?_
            refine g_iload5 hX d_Pr_ask_93 ?_
            refine g_iload8 hX d_Pr_ask_95 ?_
            refine g_iconst (v := nI 1) hX d_Pr_ask_97 rfl ?_
            refine g_icmpN_ne hX d_Pr_ask_98 (by omega) (by omega) (fun c21 => ?_) (fun h => absurd h e77)
            refine g_iload9 hX d_Pr_ask_109 ?_
            refine g_i2l hX d_Pr_ask_111 ?_
            refine g_topl (show (nI (dA (op k) (arg k))).toInt64 = lI (arg k : Int) by rw [h0, dA_0]; exact (nI_l (by omega)).trans (lI_nat _)) ?_
            refine g_last hX d_Pr_ask_112 (lv_35 _) rfl (by omega) ?_
            refine g_iincN5 hX d_Pr_ask_113 rfl (by decide) ?_
            refine g_goto hX d_Pr_ask_116 ?_
            refine g_iincN7 hX d_Pr_ask_282 rfl (by decide) ?_
            refine g_goto hX d_Pr_ask_285 ?_
            refine g_fget 8 ?_
            refine g_fget 9 ?_
            refine g_fget 10 ?_
            refine g_fget 11 ?_
            exact ih (k + 1) ((arg k : Int) :: st) _ (st_1 q1 hkb (ms_lit h0)) (q2.w5 (v := (arg k : Int)) (by omega)) q3.J (by omega) (by have := psh_y (op := op) (k := k) (by omega); rw [List.length_cons]; omega)
          · have h0 := (dO_1 (o := op k)).mp (by omega)
            obtain ⟨hw1, hw2, hw3⟩ := hwd k hkb (by omega) h0.2
            refine g_iload9 hX d_Pr_ask_80 ?_
            refine g_aload3 hX d_Pr_ask_82 ?_
            refine g_alenI hX d_Pr_ask_83 hwr2 ?_
            refine g_icmpN_lt hX d_Pr_ask_84 (by omega) (by omega) (fun c22 => ?_) (fun h => absurd h (by omega))
            refine g_aload4 hX d_Pr_ask_91 ?_
            refine g_iload5 hX d_Pr_ask_93 ?_
            refine g_iload8 hX d_Pr_ask_95 ?_
            refine g_iconst (v := nI 1) hX d_Pr_ask_97 rfl ?_
            refine g_icmpN_ne hX d_Pr_ask_98 (by omega) (by omega) (fun h => absurd e77 h) (fun c23 => ?_)
            refine g_aload3 hX d_Pr_ask_101 ?_
            refine g_iload9 hX d_Pr_ask_102 ?_
            refine g_iald hX d_Pr_ask_104 hwr2 rfl (by omega) ?_
            refine g_topi (show rI wk wr (dA (op k) (arg k)) = Int32.ofInt (env (if op k = 6 then 20 + arg k else op k)) by rw [q3.i]; exact hw2) ?_
            refine g_i2l hX d_Pr_ask_105 ?_
            refine g_topl (oI_l hw3) ?_
            refine g_goto hX d_Pr_ask_106 ?_
            refine g_last hX d_Pr_ask_112 (lv_35 _) rfl (by omega) ?_
            refine g_iincN5 hX d_Pr_ask_113 rfl (by decide) ?_
            refine g_goto hX d_Pr_ask_116 ?_
            refine g_iincN7 hX d_Pr_ask_282 rfl (by decide) ?_
            refine g_goto hX d_Pr_ask_285 ?_
            refine g_fget 8 ?_
            refine g_fget 9 ?_
            refine g_fget 10 ?_
            refine g_fget 11 ?_
            exact ih (k + 1) ((env (if op k = 6 then 20 + arg k else op k)) :: st) _ (st_1 q1 hkb (ms_word (by omega) h0.2)) (q2.w5 (v := (env (if op k = 6 then 20 + arg k else op k))) hw3) q3.J (by omega) (by have := psh_y (op := op) (k := k) (by omega); rw [List.length_cons]; omega)
  obtain ⟨hab, hsg⟩ := hseg
  obtain ⟨n, hn0⟩ := hsg b (Nat.le_refl _) env []
  refine g_iconst (v := nI 0) hX d_Pr_ask_0 rfl ?_
  refine g_istore5 hX d_Pr_ask_1 rfl (by decide) ?_
  refine g_aload0 hX d_Pr_ask_3 ?_
  refine g_iload1 hX d_Pr_ask_4 ?_
  refine g_iload2 hX d_Pr_ask_5 ?_
  refine g_iconst (v := nI 1) hX d_Pr_ask_6 rfl ?_
  refine g_iaddN hX d_Pr_ask_7 ?_
  refine g_callV (As := [_, _]) hX hF.1 d_Pr_ask_8 ml_Pr_40 cf_Pr_tell cv_Pr_tell rfl rfl (c_Pr_tell hp htb hnt) (rcv_obj hX hp.1 rfl rfl) (by omega) (by omega) (by omega) (Nat.le_of_ble_eq_true rfl) ?_
  refine ret_k ?_
  refine g_aload0 hX d_Pr_ask_11 ?_
  refine g_getI hX d_Pr_ask_12 fl_Pr_22 hp.1 ?_
  refine g_topi hlen ?_
  refine g_Math_min hX hF.1 d_Pr_ask_15 ml_Pr_44 (by omega) (by omega) (by omega) (Nat.le_of_ble_eq_true rfl) ?_
  refine g_topi (minI_n (by omega) (by omega)) ?_
  refine g_topi (show nI (min b len) = nI b by rw [Nat.min_eq_left hbl]) ?_
  refine g_istore6 hX d_Pr_ask_18 rfl (by decide) ?_
  refine g_aload0 hX d_Pr_ask_20 ?_
  refine g_iload1 hX d_Pr_ask_21 ?_
  refine g_iload2 hX d_Pr_ask_22 ?_
  refine g_callV (As := [_, _]) hX hF.1 d_Pr_ask_23 ml_Pr_40 cf_Pr_tell cv_Pr_tell rfl rfl (c_Pr_tell hp hta (by omega)) (rcv_obj hX hp.1 rfl rfl) (by omega) (by omega) (by omega) (Nat.le_of_ble_eq_true rfl) ?_
  refine ret_k ?_
  refine g_istore7 hX d_Pr_ask_26 rfl (by decide) ?_
  exact lp n a [] _ hn0 trivial (FrS.rf w) (by omega) (Nat.zero_le _)
