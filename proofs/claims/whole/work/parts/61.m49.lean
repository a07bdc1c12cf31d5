def m_M_isDigit : MR := (⟨"SubgraphDeskModel", "isDigit", "(I)Z"⟩, prog_14_method_37_code, 1, (some .boolean))
theorem cf_M_isDigit : CF m_M_isDigit 1 := ⟨gd 1854 (by decide +kernel) rfl, gd 151 (by decide +kernel) rfl, by decide +kernel, by decide, by decide +kernel⟩
theorem cs_M_isDigit : CS m_M_isDigit := gd 1853 (by decide +kernel) rfl
def m_M_isSmall : MR := (⟨"SubgraphDeskModel", "isSmall", "(I)Z"⟩, prog_14_method_36_code, 1, (some .boolean))
theorem cf_M_isSmall : CF m_M_isSmall 1 := ⟨gd 1851 (by decide +kernel) rfl, gd 151 (by decide +kernel) rfl, by decide +kernel, by decide, by decide +kernel⟩
theorem cs_M_isSmall : CS m_M_isSmall := gd 1850 (by decide +kernel) rfl
def m_M_next : MR := (⟨"SubgraphDeskModel", "next", "()V"⟩, prog_14_method_39_code, 1, none)
theorem cf_M_next : CF m_M_next 0 := ⟨gd 1848 (by decide +kernel) rfl, gd 151 (by decide +kernel) rfl, by decide +kernel, by decide, by decide +kernel⟩
theorem cv_M_next : CV m_M_next := ⟨gd 1847 (by decide +kernel) rfl, gd 77 (by decide +kernel) rfl⟩
theorem d_M_isDigit_0 : Dc prog_14_method_37_code 0 (.iload_n 0) 1 1 := ⟨by decide +kernel, rfl⟩
theorem d_M_isDigit_1 : Dc prog_14_method_37_code 1 (.bipush 48) 2 3 := ⟨by decide +kernel, rfl⟩
theorem d_M_isDigit_3 : Dj prog_14_method_37_code 3 (.if_icmp .lt 13) 6 13 16 := ⟨by decide +kernel, rfl, rfl⟩
theorem d_M_isDigit_6 : Dc prog_14_method_37_code 6 (.iload_n 0) 1 7 := ⟨by decide +kernel, rfl⟩
theorem d_M_isDigit_7 : Dc prog_14_method_37_code 7 (.bipush 57) 2 9 := ⟨by decide +kernel, rfl⟩
theorem d_M_isDigit_9 : Dj prog_14_method_37_code 9 (.if_icmp .gt 7) 12 7 16 := ⟨by decide +kernel, rfl, rfl⟩
theorem d_M_isDigit_12 : Dc prog_14_method_37_code 12 (.iconst 1) 1 13 := ⟨by decide +kernel, rfl⟩
theorem d_M_isDigit_13 : Dj prog_14_method_37_code 13 (.goto 4) 16 4 17 := ⟨by decide +kernel, rfl, rfl⟩
theorem d_M_isDigit_16 : Dc prog_14_method_37_code 16 (.iconst 0) 1 17 := ⟨by decide +kernel, rfl⟩
theorem d_M_isDigit_17 : Dc prog_14_method_37_code 17 (.ireturn) 1 18 := ⟨by decide +kernel, rfl⟩
theorem d_M_isSmall_0 : Dc prog_14_method_36_code 0 (.iload_n 0) 1 1 := ⟨by decide +kernel, rfl⟩
theorem d_M_isSmall_1 : Dc prog_14_method_36_code 1 (.bipush 97) 2 3 := ⟨by decide +kernel, rfl⟩
theorem d_M_isSmall_3 : Dj prog_14_method_36_code 3 (.if_icmp .lt 13) 6 13 16 := ⟨by decide +kernel, rfl, rfl⟩
theorem d_M_isSmall_6 : Dc prog_14_method_36_code 6 (.iload_n 0) 1 7 := ⟨by decide +kernel, rfl⟩
theorem d_M_isSmall_7 : Dc prog_14_method_36_code 7 (.bipush 122) 2 9 := ⟨by decide +kernel, rfl⟩
theorem d_M_isSmall_9 : Dj prog_14_method_36_code 9 (.if_icmp .gt 7) 12 7 16 := ⟨by decide +kernel, rfl, rfl⟩
theorem d_M_isSmall_12 : Dc prog_14_method_36_code 12 (.iconst 1) 1 13 := ⟨by decide +kernel, rfl⟩
theorem d_M_isSmall_13 : Dj prog_14_method_36_code 13 (.goto 4) 16 4 17 := ⟨by decide +kernel, rfl, rfl⟩
theorem d_M_isSmall_16 : Dc prog_14_method_36_code 16 (.iconst 0) 1 17 := ⟨by decide +kernel, rfl⟩
theorem d_M_isSmall_17 : Dc prog_14_method_36_code 17 (.ireturn) 1 18 := ⟨by decide +kernel, rfl⟩
theorem d_M_next_0 : Dc prog_14_method_39_code 0 (.aload_n 0) 1 1 := ⟨by decide +kernel, rfl⟩
theorem d_M_next_1 : Dc prog_14_method_39_code 1 (.aload_n 0) 1 2 := ⟨by decide +kernel, rfl⟩
theorem d_M_next_2 : Dc prog_14_method_39_code 2 (.getfield 255) 3 5 := ⟨by decide +kernel, rfl⟩
theorem d_M_next_5 : Dc prog_14_method_39_code 5 (.putfield 265) 3 8 := ⟨by decide +kernel, rfl⟩
theorem d_M_next_8 : Dc prog_14_method_39_code 8 (.aload_n 0) 1 9 := ⟨by decide +kernel, rfl⟩
theorem d_M_next_9 : Dc prog_14_method_39_code 9 (.getfield 265) 3 12 := ⟨by decide +kernel, rfl⟩
theorem d_M_next_12 : Dc prog_14_method_39_code 12 (.aload_n 0) 1 13 := ⟨by decide +kernel, rfl⟩
theorem d_M_next_13 : Dc prog_14_method_39_code 13 (.getfield 243) 3 16 := ⟨by decide +kernel, rfl⟩
theorem d_M_next_16 : Dj prog_14_method_39_code 16 (.if_icmp .ge 30) 19 30 46 := ⟨by decide +kernel, rfl, rfl⟩
theorem d_M_next_19 : Dc prog_14_method_39_code 19 (.aload_n 0) 1 20 := ⟨by decide +kernel, rfl⟩
theorem d_M_next_20 : Dc prog_14_method_39_code 20 (.getfield 35) 3 23 := ⟨by decide +kernel, rfl⟩
theorem d_M_next_23 : Dc prog_14_method_39_code 23 (.aload_n 0) 1 24 := ⟨by decide +kernel, rfl⟩
theorem d_M_next_24 : Dc prog_14_method_39_code 24 (.getfield 265) 3 27 := ⟨by decide +kernel, rfl⟩
theorem d_M_next_27 : Dc prog_14_method_39_code 27 (.iaload) 1 28 := ⟨by decide +kernel, rfl⟩
theorem d_M_next_28 : Dc prog_14_method_39_code 28 (.bipush 32) 2 30 := ⟨by decide +kernel, rfl⟩
theorem d_M_next_30 : Dj prog_14_method_39_code 30 (.if_icmp .ne 16) 33 16 46 := ⟨by decide +kernel, rfl, rfl⟩
theorem d_M_next_33 : Dc prog_14_method_39_code 33 (.aload_n 0) 1 34 := ⟨by decide +kernel, rfl⟩
theorem d_M_next_34 : Dc prog_14_method_39_code 34 (.dup) 1 35 := ⟨by decide +kernel, rfl⟩
theorem d_M_next_35 : Dc prog_14_method_39_code 35 (.getfield 265) 3 38 := ⟨by decide +kernel, rfl⟩
theorem d_M_next_38 : Dc prog_14_method_39_code 38 (.iconst 1) 1 39 := ⟨by decide +kernel, rfl⟩
theorem d_M_next_39 : Dc prog_14_method_39_code 39 (.iadd) 1 40 := ⟨by decide +kernel, rfl⟩
theorem d_M_next_40 : Dc prog_14_method_39_code 40 (.putfield 265) 3 43 := ⟨by decide +kernel, rfl⟩
theorem d_M_next_43 : Dj prog_14_method_39_code 43 (.goto (-35)) 46 (-35) 8 := ⟨by decide +kernel, rfl, rfl⟩
theorem d_M_next_46 : Dc prog_14_method_39_code 46 (.aload_n 0) 1 47 := ⟨by decide +kernel, rfl⟩
theorem d_M_next_47 : Dc prog_14_method_39_code 47 (.aload_n 0) 1 48 := ⟨by decide +kernel, rfl⟩
theorem d_M_next_48 : Dc prog_14_method_39_code 48 (.getfield 265) 3 51 := ⟨by decide +kernel, rfl⟩
theorem d_M_next_51 : Dc prog_14_method_39_code 51 (.putfield 255) 3 54 := ⟨by decide +kernel, rfl⟩
theorem d_M_next_54 : Dc prog_14_method_39_code 54 (.aload_n 0) 1 55 := ⟨by decide +kernel, rfl⟩
theorem d_M_next_55 : Dc prog_14_method_39_code 55 (.lconst 0) 1 56 := ⟨by decide +kernel, rfl⟩
theorem d_M_next_56 : Dc prog_14_method_39_code 56 (.putfield 268) 3 59 := ⟨by decide +kernel, rfl⟩
theorem d_M_next_59 : Dc prog_14_method_39_code 59 (.aload_n 0) 1 60 := ⟨by decide +kernel, rfl⟩
theorem d_M_next_60 : Dc prog_14_method_39_code 60 (.aload_n 0) 1 61 := ⟨by decide +kernel, rfl⟩
theorem d_M_next_61 : Dc prog_14_method_39_code 61 (.getfield 265) 3 64 := ⟨by decide +kernel, rfl⟩
theorem d_M_next_64 : Dc prog_14_method_39_code 64 (.aload_n 0) 1 65 := ⟨by decide +kernel, rfl⟩
theorem d_M_next_65 : Dc prog_14_method_39_code 65 (.getfield 243) 3 68 := ⟨by decide +kernel, rfl⟩
theorem d_M_next_68 : Dj prog_14_method_39_code 68 (.if_icmp .ne 7) 71 7 75 := ⟨by decide +kernel, rfl, rfl⟩
theorem d_M_next_71 : Dc prog_14_method_39_code 71 (.iconst 0) 1 72 := ⟨by decide +kernel, rfl⟩
theorem d_M_next_72 : Dj prog_14_method_39_code 72 (.goto 42) 75 42 114 := ⟨by decide +kernel, rfl, rfl⟩
theorem d_M_next_75 : Dc prog_14_method_39_code 75 (.aload_n 0) 1 76 := ⟨by decide +kernel, rfl⟩
theorem d_M_next_76 : Dc prog_14_method_39_code 76 (.getfield 35) 3 79 := ⟨by decide +kernel, rfl⟩
theorem d_M_next_79 : Dc prog_14_method_39_code 79 (.aload_n 0) 1 80 := ⟨by decide +kernel, rfl⟩
theorem d_M_next_80 : Dc prog_14_method_39_code 80 (.getfield 265) 3 83 := ⟨by decide +kernel, rfl⟩
theorem d_M_next_83 : Dc prog_14_method_39_code 83 (.iaload) 1 84 := ⟨by decide +kernel, rfl⟩
theorem d_M_next_84 : Dc prog_14_method_39_code 84 (.invokestatic 272) 3 87 := ⟨by decide +kernel, rfl⟩
theorem d_M_next_87 : Dj prog_14_method_39_code 87 (.ifCond .eq 7) 90 7 94 := ⟨by decide +kernel, rfl, rfl⟩
theorem d_M_next_90 : Dc prog_14_method_39_code 90 (.iconst 1) 1 91 := ⟨by decide +kernel, rfl⟩
theorem d_M_next_91 : Dj prog_14_method_39_code 91 (.goto 23) 94 23 114 := ⟨by decide +kernel, rfl, rfl⟩
theorem d_M_next_94 : Dc prog_14_method_39_code 94 (.aload_n 0) 1 95 := ⟨by decide +kernel, rfl⟩
theorem d_M_next_95 : Dc prog_14_method_39_code 95 (.getfield 35) 3 98 := ⟨by decide +kernel, rfl⟩
theorem d_M_next_98 : Dc prog_14_method_39_code 98 (.aload_n 0) 1 99 := ⟨by decide +kernel, rfl⟩
theorem d_M_next_99 : Dc prog_14_method_39_code 99 (.getfield 265) 3 102 := ⟨by decide +kernel, rfl⟩
theorem d_M_next_102 : Dc prog_14_method_39_code 102 (.iaload) 1 103 := ⟨by decide +kernel, rfl⟩
theorem d_M_next_103 : Dc prog_14_method_39_code 103 (.invokestatic 275) 3 106 := ⟨by decide +kernel, rfl⟩
theorem d_M_next_106 : Dj prog_14_method_39_code 106 (.ifCond .eq 7) 109 7 113 := ⟨by decide +kernel, rfl, rfl⟩
theorem d_M_next_109 : Dc prog_14_method_39_code 109 (.iconst 2) 1 110 := ⟨by decide +kernel, rfl⟩
theorem d_M_next_110 : Dj prog_14_method_39_code 110 (.goto 4) 113 4 114 := ⟨by decide +kernel, rfl, rfl⟩
theorem d_M_next_113 : Dc prog_14_method_39_code 113 (.iconst 3) 1 114 := ⟨by decide +kernel, rfl⟩
theorem d_M_next_114 : Dc prog_14_method_39_code 114 (.putfield 278) 3 117 := ⟨by decide +kernel, rfl⟩
theorem d_M_next_117 : Dc prog_14_method_39_code 117 (.aload_n 0) 1 118 := ⟨by decide +kernel, rfl⟩
theorem d_M_next_118 : Dc prog_14_method_39_code 118 (.getfield 278) 3 121 := ⟨by decide +kernel, rfl⟩
theorem d_M_next_121 : Dc prog_14_method_39_code 121 (.iconst 3) 1 122 := ⟨by decide +kernel, rfl⟩
theorem d_M_next_122 : Dj prog_14_method_39_code 122 (.if_icmp .ne 27) 125 27 149 := ⟨by decide +kernel, rfl, rfl⟩
theorem d_M_next_125 : Dc prog_14_method_39_code 125 (.aload_n 0) 1 126 := ⟨by decide +kernel, rfl⟩
theorem d_M_next_126 : Dc prog_14_method_39_code 126 (.aload_n 0) 1 127 := ⟨by decide +kernel, rfl⟩
theorem d_M_next_127 : Dc prog_14_method_39_code 127 (.getfield 35) 3 130 := ⟨by decide +kernel, rfl⟩
theorem d_M_next_130 : Dc prog_14_method_39_code 130 (.aload_n 0) 1 131 := ⟨by decide +kernel, rfl⟩
theorem d_M_next_131 : Dc prog_14_method_39_code 131 (.getfield 265) 3 134 := ⟨by decide +kernel, rfl⟩
theorem d_M_next_134 : Dc prog_14_method_39_code 134 (.iaload) 1 135 := ⟨by decide +kernel, rfl⟩
theorem d_M_next_135 : Dc prog_14_method_39_code 135 (.i2l) 1 136 := ⟨by decide +kernel, rfl⟩
theorem d_M_next_136 : Dc prog_14_method_39_code 136 (.putfield 268) 3 139 := ⟨by decide +kernel, rfl⟩
theorem d_M_next_139 : Dc prog_14_method_39_code 139 (.aload_n 0) 1 140 := ⟨by decide +kernel, rfl⟩
theorem d_M_next_140 : Dc prog_14_method_39_code 140 (.dup) 1 141 := ⟨by decide +kernel, rfl⟩
theorem d_M_next_141 : Dc prog_14_method_39_code 141 (.getfield 255) 3 144 := ⟨by decide +kernel, rfl⟩
theorem d_M_next_144 : Dc prog_14_method_39_code 144 (.iconst 1) 1 145 := ⟨by decide +kernel, rfl⟩
theorem d_M_next_145 : Dc prog_14_method_39_code 145 (.iadd) 1 146 := ⟨by decide +kernel, rfl⟩
theorem d_M_next_146 : Dc prog_14_method_39_code 146 (.putfield 255) 3 149 := ⟨by decide +kernel, rfl⟩
theorem d_M_next_149 : Dc prog_14_method_39_code 149 (.aload_n 0) 1 150 := ⟨by decide +kernel, rfl⟩
theorem d_M_next_150 : Dc prog_14_method_39_code 150 (.getfield 278) 3 153 := ⟨by decide +kernel, rfl⟩
theorem d_M_next_153 : Dc prog_14_method_39_code 153 (.iconst 1) 1 154 := ⟨by decide +kernel, rfl⟩
theorem d_M_next_154 : Dj prog_14_method_39_code 154 (.if_icmp .ne 89) 157 89 243 := ⟨by decide +kernel, rfl, rfl⟩
theorem d_M_next_157 : Dc prog_14_method_39_code 157 (.aload_n 0) 1 158 := ⟨by decide +kernel, rfl⟩
theorem d_M_next_158 : Dc prog_14_method_39_code 158 (.getfield 255) 3 161 := ⟨by decide +kernel, rfl⟩
theorem d_M_next_161 : Dc prog_14_method_39_code 161 (.aload_n 0) 1 162 := ⟨by decide +kernel, rfl⟩
theorem d_M_next_162 : Dc prog_14_method_39_code 162 (.getfield 243) 3 165 := ⟨by decide +kernel, rfl⟩
theorem d_M_next_165 : Dj prog_14_method_39_code 165 (.if_icmp .ge 78) 168 78 243 := ⟨by decide +kernel, rfl, rfl⟩
theorem d_M_next_168 : Dc prog_14_method_39_code 168 (.aload_n 0) 1 169 := ⟨by decide +kernel, rfl⟩
theorem d_M_next_169 : Dc prog_14_method_39_code 169 (.getfield 35) 3 172 := ⟨by decide +kernel, rfl⟩
theorem d_M_next_172 : Dc prog_14_method_39_code 172 (.aload_n 0) 1 173 := ⟨by decide +kernel, rfl⟩
theorem d_M_next_173 : Dc prog_14_method_39_code 173 (.getfield 255) 3 176 := ⟨by decide +kernel, rfl⟩
theorem d_M_next_176 : Dc prog_14_method_39_code 176 (.iaload) 1 177 := ⟨by decide +kernel, rfl⟩
theorem d_M_next_177 : Dc prog_14_method_39_code 177 (.invokestatic 272) 3 180 := ⟨by decide +kernel, rfl⟩
theorem d_M_next_180 : Dj prog_14_method_39_code 180 (.ifCond .eq 63) 183 63 243 := ⟨by decide +kernel, rfl, rfl⟩
theorem d_M_next_183 : Dc prog_14_method_39_code 183 (.aload_n 0) 1 184 := ⟨by decide +kernel, rfl⟩
theorem d_M_next_184 : Dc prog_14_method_39_code 184 (.aload_n 0) 1 185 := ⟨by decide +kernel, rfl⟩
theorem d_M_next_185 : Dc prog_14_method_39_code 185 (.getfield 255) 3 188 := ⟨by decide +kernel, rfl⟩
theorem d_M_next_188 : Dc prog_14_method_39_code 188 (.aload_n 0) 1 189 := ⟨by decide +kernel, rfl⟩
theorem d_M_next_189 : Dc prog_14_method_39_code 189 (.getfield 265) 3 192 := ⟨by decide +kernel, rfl⟩
theorem d_M_next_192 : Dc prog_14_method_39_code 192 (.isub) 1 193 := ⟨by decide +kernel, rfl⟩
theorem d_M_next_193 : Dc prog_14_method_39_code 193 (.bipush 10) 2 195 := ⟨by decide +kernel, rfl⟩
theorem d_M_next_195 : Dj prog_14_method_39_code 195 (.if_icmp .ge 29) 198 29 224 := ⟨by decide +kernel, rfl, rfl⟩
theorem d_M_next_198 : Dc prog_14_method_39_code 198 (.aload_n 0) 1 199 := ⟨by decide +kernel, rfl⟩
theorem d_M_next_199 : Dc prog_14_method_39_code 199 (.getfield 268) 3 202 := ⟨by decide +kernel, rfl⟩
theorem d_M_next_202 : Dc prog_14_method_39_code 202 (.ldc2_w 281) 3 205 := ⟨by decide +kernel, rfl⟩
theorem d_M_next_205 : Dc prog_14_method_39_code 205 (.lmul) 1 206 := ⟨by decide +kernel, rfl⟩
theorem d_M_next_206 : Dc prog_14_method_39_code 206 (.aload_n 0) 1 207 := ⟨by decide +kernel, rfl⟩
theorem d_M_next_207 : Dc prog_14_method_39_code 207 (.getfield 35) 3 210 := ⟨by decide +kernel, rfl⟩
theorem d_M_next_210 : Dc prog_14_method_39_code 210 (.aload_n 0) 1 211 := ⟨by decide +kernel, rfl⟩
theorem d_M_next_211 : Dc prog_14_method_39_code 211 (.getfield 255) 3 214 := ⟨by decide +kernel, rfl⟩
theorem d_M_next_214 : Dc prog_14_method_39_code 214 (.iaload) 1 215 := ⟨by decide +kernel, rfl⟩
theorem d_M_next_215 : Dc prog_14_method_39_code 215 (.i2l) 1 216 := ⟨by decide +kernel, rfl⟩
theorem d_M_next_216 : Dc prog_14_method_39_code 216 (.ladd) 1 217 := ⟨by decide +kernel, rfl⟩
theorem d_M_next_217 : Dc prog_14_method_39_code 217 (.ldc2_w 283) 3 220 := ⟨by decide +kernel, rfl⟩
theorem d_M_next_220 : Dc prog_14_method_39_code 220 (.lsub) 1 221 := ⟨by decide +kernel, rfl⟩
theorem d_M_next_221 : Dj prog_14_method_39_code 221 (.goto 6) 224 6 227 := ⟨by decide +kernel, rfl, rfl⟩
theorem d_M_next_224 : Dc prog_14_method_39_code 224 (.ldc2_w 285) 3 227 := ⟨by decide +kernel, rfl⟩
theorem d_M_next_227 : Dc prog_14_method_39_code 227 (.putfield 268) 3 230 := ⟨by decide +kernel, rfl⟩
theorem d_M_next_230 : Dc prog_14_method_39_code 230 (.aload_n 0) 1 231 := ⟨by decide +kernel, rfl⟩
theorem d_M_next_231 : Dc prog_14_method_39_code 231 (.dup) 1 232 := ⟨by decide +kernel, rfl⟩
theorem d_M_next_232 : Dc prog_14_method_39_code 232 (.getfield 255) 3 235 := ⟨by decide +kernel, rfl⟩
theorem d_M_next_235 : Dc prog_14_method_39_code 235 (.iconst 1) 1 236 := ⟨by decide +kernel, rfl⟩
theorem d_M_next_236 : Dc prog_14_method_39_code 236 (.iadd) 1 237 := ⟨by decide +kernel, rfl⟩
theorem d_M_next_237 : Dc prog_14_method_39_code 237 (.putfield 255) 3 240 := ⟨by decide +kernel, rfl⟩
theorem d_M_next_240 : Dj prog_14_method_39_code 240 (.goto (-91)) 243 (-91) 149 := ⟨by decide +kernel, rfl, rfl⟩
theorem d_M_next_243 : Dc prog_14_method_39_code 243 (.aload_n 0) 1 244 := ⟨by decide +kernel, rfl⟩
theorem d_M_next_244 : Dc prog_14_method_39_code 244 (.getfield 278) 3 247 := ⟨by decide +kernel, rfl⟩
theorem d_M_next_247 : Dc prog_14_method_39_code 247 (.iconst 2) 1 248 := ⟨by decide +kernel, rfl⟩
theorem d_M_next_248 : Dj prog_14_method_39_code 248 (.if_icmp .ne 87) 251 87 335 := ⟨by decide +kernel, rfl, rfl⟩
theorem d_M_next_251 : Dc prog_14_method_39_code 251 (.aload_n 0) 1 252 := ⟨by decide +kernel, rfl⟩
theorem d_M_next_252 : Dc prog_14_method_39_code 252 (.getfield 255) 3 255 := ⟨by decide +kernel, rfl⟩
theorem d_M_next_255 : Dc prog_14_method_39_code 255 (.aload_n 0) 1 256 := ⟨by decide +kernel, rfl⟩
theorem d_M_next_256 : Dc prog_14_method_39_code 256 (.getfield 243) 3 259 := ⟨by decide +kernel, rfl⟩
theorem d_M_next_259 : Dj prog_14_method_39_code 259 (.if_icmp .ge 76) 262 76 335 := ⟨by decide +kernel, rfl, rfl⟩
theorem d_M_next_262 : Dc prog_14_method_39_code 262 (.aload_n 0) 1 263 := ⟨by decide +kernel, rfl⟩
theorem d_M_next_263 : Dc prog_14_method_39_code 263 (.getfield 35) 3 266 := ⟨by decide +kernel, rfl⟩
theorem d_M_next_266 : Dc prog_14_method_39_code 266 (.aload_n 0) 1 267 := ⟨by decide +kernel, rfl⟩
theorem d_M_next_267 : Dc prog_14_method_39_code 267 (.getfield 255) 3 270 := ⟨by decide +kernel, rfl⟩
theorem d_M_next_270 : Dc prog_14_method_39_code 270 (.iaload) 1 271 := ⟨by decide +kernel, rfl⟩
theorem d_M_next_271 : Dc prog_14_method_39_code 271 (.invokestatic 275) 3 274 := ⟨by decide +kernel, rfl⟩
theorem d_M_next_274 : Dj prog_14_method_39_code 274 (.ifCond .eq 61) 277 61 335 := ⟨by decide +kernel, rfl, rfl⟩
theorem d_M_next_277 : Dc prog_14_method_39_code 277 (.aload_n 0) 1 278 := ⟨by decide +kernel, rfl⟩
theorem d_M_next_278 : Dc prog_14_method_39_code 278 (.aload_n 0) 1 279 := ⟨by decide +kernel, rfl⟩
theorem d_M_next_279 : Dc prog_14_method_39_code 279 (.getfield 268) 3 282 := ⟨by decide +kernel, rfl⟩
theorem d_M_next_282 : Dc prog_14_method_39_code 282 (.ldc2_w 287) 3 285 := ⟨by decide +kernel, rfl⟩
theorem d_M_next_285 : Dc prog_14_method_39_code 285 (.lcmp) 1 286 := ⟨by decide +kernel, rfl⟩
theorem d_M_next_286 : Dj prog_14_method_39_code 286 (.ifCond .le 10) 289 10 296 := ⟨by decide +kernel, rfl, rfl⟩
theorem d_M_next_289 : Dc prog_14_method_39_code 289 (.aload_n 0) 1 290 := ⟨by decide +kernel, rfl⟩
theorem d_M_next_290 : Dc prog_14_method_39_code 290 (.getfield 268) 3 293 := ⟨by decide +kernel, rfl⟩
theorem d_M_next_293 : Dj prog_14_method_39_code 293 (.goto 26) 296 26 319 := ⟨by decide +kernel, rfl, rfl⟩
theorem d_M_next_296 : Dc prog_14_method_39_code 296 (.aload_n 0) 1 297 := ⟨by decide +kernel, rfl⟩
theorem d_M_next_297 : Dc prog_14_method_39_code 297 (.getfield 268) 3 300 := ⟨by decide +kernel, rfl⟩
theorem d_M_next_300 : Dc prog_14_method_39_code 300 (.ldc2_w 236) 3 303 := ⟨by decide +kernel, rfl⟩
theorem d_M_next_303 : Dc prog_14_method_39_code 303 (.lmul) 1 304 := ⟨by decide +kernel, rfl⟩
theorem d_M_next_304 : Dc prog_14_method_39_code 304 (.aload_n 0) 1 305 := ⟨by decide +kernel, rfl⟩
theorem d_M_next_305 : Dc prog_14_method_39_code 305 (.getfield 35) 3 308 := ⟨by decide +kernel, rfl⟩
theorem d_M_next_308 : Dc prog_14_method_39_code 308 (.aload_n 0) 1 309 := ⟨by decide +kernel, rfl⟩
theorem d_M_next_309 : Dc prog_14_method_39_code 309 (.getfield 255) 3 312 := ⟨by decide +kernel, rfl⟩
theorem d_M_next_312 : Dc prog_14_method_39_code 312 (.iaload) 1 313 := ⟨by decide +kernel, rfl⟩
theorem d_M_next_313 : Dc prog_14_method_39_code 313 (.i2l) 1 314 := ⟨by decide +kernel, rfl⟩
theorem d_M_next_314 : Dc prog_14_method_39_code 314 (.ladd) 1 315 := ⟨by decide +kernel, rfl⟩
theorem d_M_next_315 : Dc prog_14_method_39_code 315 (.ldc2_w 289) 3 318 := ⟨by decide +kernel, rfl⟩
theorem d_M_next_318 : Dc prog_14_method_39_code 318 (.lsub) 1 319 := ⟨by decide +kernel, rfl⟩
theorem d_M_next_319 : Dc prog_14_method_39_code 319 (.putfield 268) 3 322 := ⟨by decide +kernel, rfl⟩
theorem d_M_next_322 : Dc prog_14_method_39_code 322 (.aload_n 0) 1 323 := ⟨by decide +kernel, rfl⟩
theorem d_M_next_323 : Dc prog_14_method_39_code 323 (.dup) 1 324 := ⟨by decide +kernel, rfl⟩
theorem d_M_next_324 : Dc prog_14_method_39_code 324 (.getfield 255) 3 327 := ⟨by decide +kernel, rfl⟩
theorem d_M_next_327 : Dc prog_14_method_39_code 327 (.iconst 1) 1 328 := ⟨by decide +kernel, rfl⟩
theorem d_M_next_328 : Dc prog_14_method_39_code 328 (.iadd) 1 329 := ⟨by decide +kernel, rfl⟩
theorem d_M_next_329 : Dc prog_14_method_39_code 329 (.putfield 255) 3 332 := ⟨by decide +kernel, rfl⟩
theorem d_M_next_332 : Dj prog_14_method_39_code 332 (.goto (-89)) 335 (-89) 243 := ⟨by decide +kernel, rfl, rfl⟩
theorem d_M_next_335 : Dc prog_14_method_39_code 335 (.return_) 1 336 := ⟨by decide +kernel, rfl⟩
theorem fl_M_255 : FL "SubgraphDeskModel" 255 12 15 false .int (0, 0) := ⟨R_M, F_M, 69, ty_M, rfl, rfl, in_M, tyok_M, nm_M, by decide, gd 1487 (by decide +kernel) rfl, rfl, rfl, rfl⟩
theorem fl_M_265 : FL "SubgraphDeskModel" 265 12 14 false .int (0, 0) := ⟨R_M, F_M, 69, ty_M, rfl, rfl, in_M, tyok_M, nm_M, by decide, gd 1486 (by decide +kernel) rfl, rfl, rfl, rfl⟩
theorem fl_M_268 : FL "SubgraphDeskModel" 268 12 17 false .long (2, 0) := ⟨R_M, F_M, 69, ty_M, rfl, rfl, in_M, tyok_M, nm_M, by decide, gd 1489 (by decide +kernel) rfl, rfl, rfl, rfl⟩
theorem fl_M_278 : FL "SubgraphDeskModel" 278 12 16 false .int (0, 0) := ⟨R_M, F_M, 69, ty_M, rfl, rfl, in_M, tyok_M, nm_M, by decide, gd 1488 (by decide +kernel) rfl, rfl, rfl, rfl⟩
theorem ml_M_272 : Cond.methodLink "SubgraphDeskModel" 272 m_M_isSmall.1 ∈ lw_gd := gd 1849 (by decide +kernel) rfl
theorem ml_M_275 : Cond.methodLink "SubgraphDeskModel" 275 m_M_isDigit.1 ∈ lw_gd := gd 1852 (by decide +kernel) rfl
theorem k_M_281 : Cond.constantLong "SubgraphDeskModel" 281 (32) ∈ lw_gd := gd 1855 (by decide +kernel) rfl
theorem k_M_283 : Cond.constantLong "SubgraphDeskModel" 283 (96) ∈ lw_gd := gd 1856 (by decide +kernel) rfl
theorem k_M_289 : Cond.constantLong "SubgraphDeskModel" 289 (48) ∈ lw_gd := gd 1858 (by decide +kernel) rfl
/-- what a word of k letters is worth to the reference -/
def wordW (t : List Nat) (f : Nat) : Nat → Int
  | 0 => 0
  | k + 1 => if k < 10 then wordW t f k * 32 + (gA t (f + k) : Int) - 96 else -1
def digW (t : List Nat) (f : Nat) : Nat → Int
  | 0 => 0
  | k + 1 => if 1000000 < digW t f k then digW t f k else digW t f k * 10 + (gA t (f + k) : Int) - 48
def worI (t : List Nat) (f : Nat) : Int := if srt t f = 1 then wordW t f (enT t f - f) else if srt t f = 2 then digW t f (enT t f - f) else if srt t f = 3 then (gA t f : Int) else 0
/-- the letters as a number -/
def wcN (l : List Nat) : Nat → Int
  | 0 => 0
  | k + 1 => wcN l k * 32 + (gA l k : Int) - 96
theorem wordW_b {t : List Nat} {f : Nat} : ∀ k, (∀ i, i < k → 97 ≤ gA t (f + i) ∧ gA t (f + i) ≤ 122) → -1 ≤ wordW t f k ∧ wordW t f k < 1125899906842624 ∧ (k ≤ 10 → 0 ≤ wordW t f k ∧ wordW t f k < 32 ^ k)
  | 0, _ => ⟨by unfold wordW; omega, by unfold wordW; omega, fun _ => ⟨by unfold wordW; omega, by unfold wordW; decide⟩⟩
  | k + 1, h => by
    have ih := wordW_b k (fun i hi => h i (by omega))
    have hk := h k (by omega)
    unfold wordW
    by_cases e : k < 10
    · rw [if_pos e]
      obtain ⟨h1, h2⟩ := ih.2.2 (by omega)
      have h3 : (32 : Int) ^ (k + 1) = 32 ^ k * 32 := Int.pow_succ _ _
      have h4 : (32 : Int) ^ (k + 1) ≤ 32 ^ 10 := by
        have := Nat.pow_le_pow_right (show 0 < 32 by decide) (show k + 1 ≤ 10 by omega)
        have h5 : ((32 ^ (k + 1) : Nat) : Int) ≤ ((32 ^ 10 : Nat) : Int) := Int.ofNat_le.mpr this
        simpa using h5
      have h5 : (32 : Int) ^ 10 = 1125899906842624 := by decide
      refine ⟨by omega, by omega, fun _ => ⟨by omega, by omega⟩⟩
    · rw [if_neg e]
      exact ⟨by omega, by omega, fun z => by omega⟩
theorem digW_b {t : List Nat} {f : Nat} : ∀ k, (∀ i, i < k → 48 ≤ gA t (f + i) ∧ gA t (f + i) ≤ 57) → 0 ≤ digW t f k ∧ digW t f k ≤ 10000009
  | 0, _ => ⟨by unfold digW; omega, by unfold digW; omega⟩
  | k + 1, h => by
    have ih := digW_b k (fun i hi => h i (by omega))
    have hk := h k (by omega)
    unfold digW
    split <;> omega
theorem digW_C {t : List Nat} {f : Nat} : ∀ k, (∀ i, i < k → 48 ≤ gA t (f + i) ∧ gA t (f + i) ≤ 57) → (digW t f k ≤ 1000 ↔ digC t f k ≤ 1000) ∧ (digW t f k ≤ 1000 → digW t f k = (digC t f k : Int)) ∧ digC t f k ≤ 1001
  | 0, _ => ⟨by unfold digW digC; omega, fun _ => rfl, by unfold digC; omega⟩
  | k + 1, h => by
    have ih := digW_C k (fun i hi => h i (by omega))
    have hb := digW_b k (fun i hi => h i (by omega))
    have hk := h k (by omega)
    obtain ⟨i1, i2, i3⟩ := ih
    unfold digW digC
    by_cases e : 1000000 < digW t f k
    · rw [if_pos e]
      have h1 : ¬ digC t f k ≤ 1000 := fun z => by have := i1.mpr z; omega
      refine ⟨by omega, fun z => by omega, by omega⟩
    · rw [if_neg e]
      by_cases h1 : digW t f k ≤ 1000
      · have h2 := i2 h1
        refine ⟨by omega, fun z => by omega, by omega⟩
      · have h2 : ¬ digC t f k ≤ 1000 := fun z => h1 (i1.mpr z)
        refine ⟨by omega, fun z => by omega, by omega⟩
theorem rI_sJ9 (w : Mem) (o k : Nat) (x : Int64) : rI (sJ w o k x) = rI w := rfl
/-- tape and the word looked at, as the reference has them -/
def FrN (w w2 : Mem) : Prop := (∀ a, a ≠ 89 → rI w2 a = rI w a) ∧ (∀ k, k ≠ 14 → k ≠ 15 → k ≠ 16 → rI w2 89 k = rI w 89 k) ∧ (∀ a, a ≠ 89 → rJ w2 a = rJ w a) ∧ (∀ k, k ≠ 17 → rJ w2 89 k = rJ w 89 k) ∧ w2.2.2 = w.2.2
theorem FrN.rf (w : Mem) : FrN w w := ⟨fun _ _ => rfl, fun _ _ _ _ => rfl, fun _ _ => rfl, fun _ _ => rfl, rfl⟩
theorem FrN.tr {a b c : Mem} (h : FrN a b) (h2 : FrN b c) : FrN a c := ⟨fun x hx => (h2.1 x hx).trans (h.1 x hx), fun k h1 h3 h4 => (h2.2.1 k h1 h3 h4).trans (h.2.1 k h1 h3 h4), fun x hx => (h2.2.2.1 x hx).trans (h.2.2.1 x hx), fun k hk => (h2.2.2.2.1 k hk).trans (h.2.2.2.1 k hk), h2.2.2.2.2.trans h.2.2.2.2⟩
theorem FrN.I {w w2 : Mem} {k : Nat} {x : Int32} (hk : k = 14 ∨ k = 15 ∨ k = 16) (h : FrN w w2) : FrN w (sI w2 89 k x) := ⟨fun a ha => by rw [rI_sI_ne _ _ _ ha]; exact h.1 a ha, fun j h1 h2 h3 => by rw [rI_sI, upd_eq, if_neg (by omega)]; exact h.2.1 j h1 h2 h3, h.2.2.1, h.2.2.2.1, h.2.2.2.2⟩
theorem FrN.J {w w2 : Mem} {x : Int64} (h : FrN w w2) : FrN w (sJ w2 89 17 x) := ⟨h.1, h.2.1, fun a ha => by rw [rJ_sJ_ne _ _ _ ha]; exact h.2.2.1 a ha, fun k hk => by rw [rJ_sJ, updL_eq, if_neg hk]; exact h.2.2.2.1 k hk, h.2.2.2.2⟩
def TokP (w : Mem) (t : List Nat) (f : Nat) : Prop := MTape (rI w 98) (rI w 89 13) t ∧ rI w 89 14 = nI f ∧ rI w 89 15 = nI (enT t f) ∧ rI w 89 16 = nI (srt t f) ∧ rJ w 89 17 = lI (worI t f) ∧ okF t f
theorem c_M_isSmall {E : EV} {w : Mem} {x : Nat} (hx : x < 2 ^ 31) : T E m_M_isSmall 0 0 0 [.int (nI x)] w (Ret (some (.int (b2i (97 ≤ x ∧ x ≤ 122)))) w) := by
  refine T_of (L := [.int (nI x)]) cf_M_isSmall rfl (Nat.le_of_ble_eq_true rfl) (fun X hX hF => ?_)
  refine g_iload0 hX d_M_isSmall_0 ?_
  refine g_bipush (v := nI 97) hX d_M_isSmall_1 rfl ?_
  refine g_icmpN_lt hX d_M_isSmall_3 (by omega) (by omega) (fun c0 => ?_) (fun c0 => ?_)
  · refine g_iconst (v := nI 0) hX d_M_isSmall_16 rfl ?_
    refine g_zret hX hF d_M_isSmall_17 (Or.inl rfl) (by omega) (by omega) ?_
    first | exact ret_t ⟨by omega, by omega⟩ | exact ret_f (by omega)
  · refine g_iload0 hX d_M_isSmall_6 ?_
    refine g_bipush (v := nI 122) hX d_M_isSmall_7 rfl ?_
    refine g_icmpN_gt hX d_M_isSmall_9 (by omega) (by omega) (fun c1 => ?_) (fun c1 => ?_)
    · refine g_iconst (v := nI 0) hX d_M_isSmall_16 rfl ?_
      refine g_zret hX hF d_M_isSmall_17 (Or.inl rfl) (by omega) (by omega) ?_
      first | exact ret_t ⟨by omega, by omega⟩ | exact ret_f (by omega)
    · refine g_iconst (v := nI 1) hX d_M_isSmall_12 rfl ?_
      refine g_goto hX d_M_isSmall_13 ?_
      refine g_zret hX hF d_M_isSmall_17 (Or.inr rfl) (by omega) (by omega) ?_
      first | exact ret_t ⟨by omega, by omega⟩ | exact ret_f (by omega)
theorem c_M_isDigit {E : EV} {w : Mem} {x : Nat} (hx : x < 2 ^ 31) : T E m_M_isDigit 0 0 0 [.int (nI x)] w (Ret (some (.int (b2i (48 ≤ x ∧ x ≤ 57)))) w) := by
  refine T_of (L := [.int (nI x)]) cf_M_isDigit rfl (Nat.le_of_ble_eq_true rfl) (fun X hX hF => ?_)
  refine g_iload0 hX d_M_isDigit_0 ?_
  refine g_bipush (v := nI 48) hX d_M_isDigit_1 rfl ?_
  refine g_icmpN_lt hX d_M_isDigit_3 (by omega) (by omega) (fun c0 => ?_) (fun c0 => ?_)
  · refine g_iconst (v := nI 0) hX d_M_isDigit_16 rfl ?_
    refine g_zret hX hF d_M_isDigit_17 (Or.inl rfl) (by omega) (by omega) ?_
    first | exact ret_t ⟨by omega, by omega⟩ | exact ret_f (by omega)
  · refine g_iload0 hX d_M_isDigit_6 ?_
    refine g_bipush (v := nI 57) hX d_M_isDigit_7 rfl ?_
    refine g_icmpN_gt hX d_M_isDigit_9 (by omega) (by omega) (fun c1 => ?_) (fun c1 => ?_)
    · refine g_iconst (v := nI 0) hX d_M_isDigit_16 rfl ?_
      refine g_zret hX hF d_M_isDigit_17 (Or.inl rfl) (by omega) (by omega) ?_
      first | exact ret_t ⟨by omega, by omega⟩ | exact ret_f (by omega)
    · refine g_iconst (v := nI 1) hX d_M_isDigit_12 rfl ?_
      refine g_goto hX d_M_isDigit_13 ?_
      refine g_zret hX hF d_M_isDigit_17 (Or.inr rfl) (by omega) (by omega) ?_
      first | exact ret_t ⟨by omega, by omega⟩ | exact ret_f (by omega)
theorem c_M_next0 {E : EV} {w : Mem} {t : List Nat} {e F : Nat} (hT : MTape (rI w 98) (rI w 89 13) t) (he : rI w 89 15 = nI e) (hel : e ≤ t.length) (hFe : runE t 0 e = F) : T E m_M_next 1 0 0 [.ref 89] w (fun r w2 => r = none ∧ FrN w w2 ∧ TokP w2 t F) := by
  refine T_of (L := [.ref 89]) cf_M_next rfl (Nat.le_of_ble_eq_true rfl) (fun X hX hF => ?_)
  have htl := hT.1
  have hokF : okF t F := by
    rw [← hFe]
    exact ⟨runE_le hel, runE_stop _ _ _⟩
  have k117 : ∀ wk : Mem, FrN w wk → rI wk 89 14 = nI F → rI wk 89 15 = nI F → rI wk 89 16 = nI (srt t F) → rJ wk 89 17 = lI 0 → G0 E X 0 0 117 [.ref 89] [] wk := by
    intro wk hfr h14 h15 h16 h6
    have hsl := srt_le t F
    rcases (show srt t F = 0 ∨ srt t F = 1 ∨ srt t F = 2 ∨ srt t F = 3 by omega) with hs | hs | hs | hs
    · have h5 : rI wk 89 16 = nI 0 := by rw [h16, hs]
      refine g_aload0 hX d_M_next_117 ?_
      refine g_getI hX d_M_next_118 fl_M_278 (lv_89 _) ?_
      refine g_topi h5 ?_
      refine g_iconst (v := nI 3) hX d_M_next_121 rfl ?_
      refine g_icmpN_ne hX d_M_next_122 (by omega) (by omega) (fun c0 => ?_) (fun h => absurd h (by omega))
      refine g_aload0 hX d_M_next_149 ?_
      refine g_getI hX d_M_next_150 fl_M_278 (lv_89 _) ?_
      refine g_topi h5 ?_
      refine g_iconst (v := nI 1) hX d_M_next_153 rfl ?_
      refine g_icmpN_ne hX d_M_next_154 (by omega) (by omega) (fun c1 => ?_) (fun h => absurd h (by omega))
      refine g_aload0 hX d_M_next_243 ?_
      refine g_getI hX d_M_next_244 fl_M_278 (lv_89 _) ?_
      refine g_topi h5 ?_
      refine g_iconst (v := nI 2) hX d_M_next_247 rfl ?_
      refine g_icmpN_ne hX d_M_next_248 (by omega) (by omega) (fun c2 => ?_) (fun h => absurd h (by omega))
      refine g_vret hX hF d_M_next_335 (by omega) (by omega) ?_
      refine ⟨rfl, hfr, ⟨by rw [hfr.1 98 (by decide), hfr.2.1 13 (by decide) (by decide) (by decide)]; exact hT, h14, ?_, by rw [h16], ?_, hokF⟩⟩
      · unfold enT; rw [if_pos hs]; exact h15
      · unfold worI; rw [hs]; exact h6
    · have h5 : rI wk 89 16 = nI 1 := by rw [h16, hs]
      have lpW : ∀ (fuel : Nat) (k : Nat) (wk : Mem), t.length - (F + k) < fuel → (F + k ≤ t.length) → (FrN w wk) → (rI wk 89 14 = nI F) → (rI wk 89 15 = nI (F + k)) → (rI wk 89 16 = nI 1) → (rJ wk 89 17 = lI (wordW t F k)) → (runE t 1 F = runE t 1 (F + k)) → G0 E X 0 0 149 [.ref 89] [] wk := by
        intro fuel
        induction fuel with
        | zero => intro k wk q0; exact absurd q0 (Nat.not_lt_zero _)
        | succ fuel ih =>
          intro k wk q0 q1 q2 q3 q4 q5 q6 q7
          have hfr := q2
          have h14 := q3
          have h16 : rI wk 89 16 = nI (srt t F) := by rw [hs]; exact q5
          have hin : ∀ i, i < k → 97 ≤ gA t (F + i) ∧ gA t (F + i) ≤ 122 := fun i hi => by
            have hge := runE_ge t 1 (F + k)
            have := (runE_in (t := t) (q := 1) (p := F) (j := F + i) (by omega) (by omega)).2
            omega
          have hwb := wordW_b k hin
          refine g_aload0 hX d_M_next_149 ?_
          refine g_getI hX d_M_next_150 fl_M_278 (lv_89 _) ?_
          refine g_topi q5 ?_
          refine g_iconst (v := nI 1) hX d_M_next_153 rfl ?_
          refine g_icmpN_ne hX d_M_next_154 (by omega) (by omega) (fun h => absurd (by omega) h) (fun c0 => ?_)
          refine g_aload0 hX d_M_next_157 ?_
          refine g_getI hX d_M_next_158 fl_M_255 (lv_89 _) ?_
          refine g_topi q4 ?_
          refine g_aload0 hX d_M_next_161 ?_
          refine g_getI hX d_M_next_162 fl_M_243 (lv_89 _) ?_
          refine g_topi (show rI wk 89 13 = nI t.length by rw [hfr.2.1 13 (by decide) (by decide) (by decide)]; exact hT.2.1) ?_
          refine g_icmpN_ge hX d_M_next_165 (by omega) (by omega) (fun e165 => ?_) (fun e165 => ?_)
          · have hstop : runE t 1 (F + k) = F + k := runE_n (fun z => by first | exact absurd z.1 (by omega) | (have := z.2; omega))
            refine g_aload0 hX d_M_next_243 ?_
            refine g_getI hX d_M_next_244 fl_M_278 (lv_89 _) ?_
            refine g_topi q5 ?_
            refine g_iconst (v := nI 2) hX d_M_next_247 rfl ?_
            refine g_icmpN_ne hX d_M_next_248 (by omega) (by omega) (fun c2 => ?_) (fun h => absurd h (by omega))
            refine g_vret hX hF d_M_next_335 (by omega) (by omega) ?_
            have hen : enT t F = F + k := by unfold enT; rw [hs, if_neg (by decide), if_neg (by decide), q7, hstop]
            refine ⟨rfl, hfr, ⟨by rw [hfr.1 98 (by decide), hfr.2.1 13 (by decide) (by decide) (by decide)]; exact hT, h14, ?_, by rw [h16], ?_, hokF⟩⟩
            · rw [hen]; exact q4
            · unfold worI; rw [if_pos hs, hen, Nat.add_sub_cancel_left]; exact q6
          · have hgt := (hT.2.2 (F + k) e165).2
            refine g_aload0 hX d_M_next_168 ?_
            refine g_getF hX d_M_next_169 fl_M_35 (lv_89 _) ?_
            refine g_aload0 hX d_M_next_172 ?_
            refine g_getI hX d_M_next_173 fl_M_255 (lv_89 _) ?_
            refine g_topi q4 ?_
            refine g_iald hX d_M_next_176 (lv_98 _) rfl (by omega) ?_
            refine g_topi (show rI wk 98 (F + k) = nI (gA t (F + k)) by rw [hfr.1 98 (by decide)]; exact (hT.2.2 (F + k) e165).1) ?_
            refine g_callS (As := [_]) hX hF.1 d_M_next_177 ml_M_272 cf_M_isSmall cs_M_isSmall rfl (c_M_isSmall (by omega)) (by omega) (by omega) (by omega) (Nat.le_of_ble_eq_true rfl) ?_
            refine ret_k ?_
            refine g_ifB_eq hX d_M_next_180 (fun e180 => ?_) (fun e180 => ?_)
            · have hstop : runE t 1 (F + k) = F + k := runE_n (fun z => by first | exact absurd z.1 (by omega) | (have := z.2; omega))
              refine g_aload0 hX d_M_next_243 ?_
              refine g_getI hX d_M_next_244 fl_M_278 (lv_89 _) ?_
              refine g_topi q5 ?_
              refine g_iconst (v := nI 2) hX d_M_next_247 rfl ?_
              refine g_icmpN_ne hX d_M_next_248 (by omega) (by omega) (fun c4 => ?_) (fun h => absurd h (by omega))
              refine g_vret hX hF d_M_next_335 (by omega) (by omega) ?_
              have hen : enT t F = F + k := by unfold enT; rw [hs, if_neg (by decide), if_neg (by decide), q7, hstop]
              refine ⟨rfl, hfr, ⟨by rw [hfr.1 98 (by decide), hfr.2.1 13 (by decide) (by decide) (by decide)]; exact hT, h14, ?_, by rw [h16], ?_, hokF⟩⟩
              · rw [hen]; exact q4
              · unfold worI; rw [if_pos hs, hen, Nat.add_sub_cancel_left]; exact q6
            · refine g_aload0 hX d_M_next_183 ?_
              refine g_aload0 hX d_M_next_184 ?_
              refine g_getI hX d_M_next_185 fl_M_255 (lv_89 _) ?_
              refine g_topi q4 ?_
              refine g_aload0 hX d_M_next_188 ?_
              refine g_getI hX d_M_next_189 fl_M_265 (lv_89 _) ?_
              refine g_topi q3 ?_
              refine g_isubN hX d_M_next_192 (by omega) ?_
              refine g_bipush (v := nI 10) hX d_M_next_193 rfl ?_
              refine g_icmpN_ge hX d_M_next_195 (by omega) (by omega) (fun e195 => ?_) (fun e195 => ?_)
              · refine g_ldc2 (v := -1) hX d_M_next_224 k_M_285 rfl ?_
                refine g_putJ hX d_M_next_227 fl_M_268 (lv_89 _) ?_
                refine g_aload0 hX d_M_next_230 ?_
                refine g_dup hX d_M_next_231 rfl ?_
                refine g_getI hX d_M_next_232 fl_M_255 (lv_89 _) ?_
                refine g_topi (show rI (sJ wk 89 17 _) 89 15 = nI (F + k) from q4) ?_
                refine g_iconst (v := nI 1) hX d_M_next_235 rfl ?_
                refine g_iaddN hX d_M_next_236 ?_
                refine g_putI hX d_M_next_237 fl_M_255 (lv_89 _) ?_
                refine g_goto hX d_M_next_240 ?_
                refine ih (k + 1) _ (by omega) (by omega) ((hfr.J).I (Or.inr (Or.inl rfl))) ?_ ?_ ?_ ?_ (q7.trans (runE_y ⟨by omega, Or.inr (Or.inl ⟨rfl, e180⟩)⟩))
                · rw [rI_sI, upd_eq, if_neg (by decide)]; exact q3
                · rw [rI_sI, upd_eq, if_pos rfl]; rfl
                · rw [rI_sI, upd_eq, if_neg (by decide)]; exact q5
                · show rJ (sJ wk 89 17 _) 89 17 = _
                  rw [rJ_sJ, updL_eq, if_pos rfl, wordW]
                  first
                    | rw [if_pos (by omega)]
                    | (rw [if_neg (by omega)]; rfl)
              · refine g_aload0 hX d_M_next_198 ?_
                refine g_getJ hX d_M_next_199 fl_M_268 (lv_89 _) ?_
                refine g_topl q6 ?_
                refine g_ldc2 (v := lN 32) hX d_M_next_202 k_M_281 rfl ?_
                refine g_lmul hX d_M_next_205 ?_
                refine g_topl (show lI (wordW t F k) * lN 32 = lI (wordW t F k * 32) from lI_mul (wordW t F k) 32) ?_
                refine g_aload0 hX d_M_next_206 ?_
                refine g_getF hX d_M_next_207 fl_M_35 (lv_89 _) ?_
                refine g_aload0 hX d_M_next_210 ?_
                refine g_getI hX d_M_next_211 fl_M_255 (lv_89 _) ?_
                refine g_topi q4 ?_
                refine g_iald hX d_M_next_214 (lv_98 _) rfl (by omega) ?_
                refine g_topi (show rI wk 98 (F + k) = nI (gA t (F + k)) by rw [hfr.1 98 (by decide)]; exact (hT.2.2 (F + k) e165).1) ?_
                refine g_i2l hX d_M_next_215 ?_
                refine g_topl ((nI_l (by omega)).trans (lI_nat _)) ?_
                refine g_ladd hX d_M_next_216 ?_
                refine g_topl (lI_add _ _) ?_
                refine g_ldc2 (v := lN 96) hX d_M_next_217 k_M_283 rfl ?_
                refine g_lsub hX d_M_next_220 ?_
                refine g_topl (show lI (wordW t F k * 32 + (gA t (F + k) : Int)) - lN 96 = lI (wordW t F k * 32 + (gA t (F + k) : Int) - 96) from lI_sub (wordW t F k * 32 + (gA t (F + k) : Int)) 96) ?_
                refine g_goto hX d_M_next_221 ?_
                refine g_putJ hX d_M_next_227 fl_M_268 (lv_89 _) ?_
                refine g_aload0 hX d_M_next_230 ?_
                refine g_dup hX d_M_next_231 rfl ?_
                refine g_getI hX d_M_next_232 fl_M_255 (lv_89 _) ?_
                refine g_topi (show rI (sJ wk 89 17 _) 89 15 = nI (F + k) from q4) ?_
                refine g_iconst (v := nI 1) hX d_M_next_235 rfl ?_
                refine g_iaddN hX d_M_next_236 ?_
                refine g_putI hX d_M_next_237 fl_M_255 (lv_89 _) ?_
                refine g_goto hX d_M_next_240 ?_
                refine ih (k + 1) _ (by omega) (by omega) ((hfr.J).I (Or.inr (Or.inl rfl))) ?_ ?_ ?_ ?_ (q7.trans (runE_y ⟨by omega, Or.inr (Or.inl ⟨rfl, e180⟩)⟩))
                · rw [rI_sI, upd_eq, if_neg (by decide)]; exact q3
                · rw [rI_sI, upd_eq, if_pos rfl]; rfl
                · rw [rI_sI, upd_eq, if_neg (by decide)]; exact q5
                · show rJ (sJ wk 89 17 _) 89 17 = _
                  rw [rJ_sJ, updL_eq, if_pos rfl, wordW]
                  first
                    | rw [if_pos (by omega)]
                    | (rw [if_neg (by omega)]; rfl)
      refine g_aload0 hX d_M_next_117 ?_
      refine g_getI hX d_M_next_118 fl_M_278 (lv_89 _) ?_
      refine g_topi h5 ?_
      refine g_iconst (v := nI 3) hX d_M_next_121 rfl ?_
      refine g_icmpN_ne hX d_M_next_122 (by omega) (by omega) (fun c0 => ?_) (fun h => absurd h (by omega))
      exact lpW (t.length + 1) 0 wk (by omega) hokF.1 hfr h14 h15 h5 h6 rfl
    · have h5 : rI wk 89 16 = nI 2 := by rw [h16, hs]
      have lpD : ∀ (fuel : Nat) (k : Nat) (wk : Mem), t.length - (F + k) < fuel → (F + k ≤ t.length) → (FrN w wk) → (rI wk 89 14 = nI F) → (rI wk 89 15 = nI (F + k)) → (rI wk 89 16 = nI 2) → (rJ wk 89 17 = lI (digW t F k)) → (runE t 2 F = runE t 2 (F + k)) → G0 E X 0 0 243 [.ref 89] [] wk := by
        intro fuel
        induction fuel with
        | zero => intro k wk q0; exact absurd q0 (Nat.not_lt_zero _)
        | succ fuel ih =>
          intro k wk q0 q1 q2 q3 q4 q5 q6 q7
          have hfr := q2
          have h14 := q3
          have h16 : rI wk 89 16 = nI (srt t F) := by rw [hs]; exact q5
          have hin : ∀ i, i < k → 48 ≤ gA t (F + i) ∧ gA t (F + i) ≤ 57 := fun i hi => by
            have hge := runE_ge t 2 (F + k)
            have := (runE_in (t := t) (q := 2) (p := F) (j := F + i) (by omega) (by omega)).2
            omega
          have hwb := digW_b k hin
          refine g_aload0 hX d_M_next_243 ?_
          refine g_getI hX d_M_next_244 fl_M_278 (lv_89 _) ?_
          refine g_topi q5 ?_
          refine g_iconst (v := nI 2) hX d_M_next_247 rfl ?_
          refine g_icmpN_ne hX d_M_next_248 (by omega) (by omega) (fun h => absurd (by omega) h) (fun c0 => ?_)
          refine g_aload0 hX d_M_next_251 ?_
          refine g_getI hX d_M_next_252 fl_M_255 (lv_89 _) ?_
          refine g_topi q4 ?_
          refine g_aload0 hX d_M_next_255 ?_
          refine g_getI hX d_M_next_256 fl_M_243 (lv_89 _) ?_
          refine g_topi (show rI wk 89 13 = nI t.length by rw [hfr.2.1 13 (by decide) (by decide) (by decide)]; exact hT.2.1) ?_
          refine g_icmpN_ge hX d_M_next_259 (by omega) (by omega) (fun e259 => ?_) (fun e259 => ?_)
          · refine g_vret hX hF d_M_next_335 (by omega) (by omega) ?_
            have hstop : runE t 2 (F + k) = F + k := runE_n (fun z => by first | exact absurd z.1 (by omega) | (have := z.2; omega))
            have hen : enT t F = F + k := by unfold enT; rw [hs, if_neg (by decide), if_neg (by decide), q7, hstop]
            refine ⟨rfl, hfr, ⟨by rw [hfr.1 98 (by decide), hfr.2.1 13 (by decide) (by decide) (by decide)]; exact hT, h14, ?_, by rw [h16], ?_, hokF⟩⟩
            · rw [hen]; exact q4
            · unfold worI; rw [if_neg (by omega), if_pos hs, hen, Nat.add_sub_cancel_left]; exact q6
          · have hgt := (hT.2.2 (F + k) e259).2
            refine g_aload0 hX d_M_next_262 ?_
            refine g_getF hX d_M_next_263 fl_M_35 (lv_89 _) ?_
            refine g_aload0 hX d_M_next_266 ?_
            refine g_getI hX d_M_next_267 fl_M_255 (lv_89 _) ?_
            refine g_topi q4 ?_
            refine g_iald hX d_M_next_270 (lv_98 _) rfl (by omega) ?_
            refine g_topi (show rI wk 98 (F + k) = nI (gA t (F + k)) by rw [hfr.1 98 (by decide)]; exact (hT.2.2 (F + k) e259).1) ?_
            refine g_callS (As := [_]) hX hF.1 d_M_next_271 ml_M_275 cf_M_isDigit cs_M_isDigit rfl (c_M_isDigit (by omega)) (by omega) (by omega) (by omega) (Nat.le_of_ble_eq_true rfl) ?_
            refine ret_k ?_
            refine g_ifB_eq hX d_M_next_274 (fun e274 => ?_) (fun e274 => ?_)
            · refine g_vret hX hF d_M_next_335 (by omega) (by omega) ?_
              have hstop : runE t 2 (F + k) = F + k := runE_n (fun z => by first | exact absurd z.1 (by omega) | (have := z.2; omega))
              have hen : enT t F = F + k := by unfold enT; rw [hs, if_neg (by decide), if_neg (by decide), q7, hstop]
              refine ⟨rfl, hfr, ⟨by rw [hfr.1 98 (by decide), hfr.2.1 13 (by decide) (by decide) (by decide)]; exact hT, h14, ?_, by rw [h16], ?_, hokF⟩⟩
              · rw [hen]; exact q4
              · unfold worI; rw [if_neg (by omega), if_pos hs, hen, Nat.add_sub_cancel_left]; exact q6
            · refine g_aload0 hX d_M_next_277 ?_
              refine g_aload0 hX d_M_next_278 ?_
              refine g_getJ hX d_M_next_279 fl_M_268 (lv_89 _) ?_
              refine g_topl q6 ?_
              refine g_ldc2 (v := lN 1000000) hX d_M_next_282 k_M_287 rfl ?_
              refine g_lcmp_le hX d_M_next_285 d_M_next_286 (fun c286 => ?_) (fun c286 => ?_)
              · have e286 : ¬ 1000000 < digW t F k := fun z => by
                  rw [show lN 1000000 = lI 1000000 from rfl, lI_le (by omega) (by omega)] at c286
                  omega
                refine g_aload0 hX d_M_next_296 ?_
                refine g_getJ hX d_M_next_297 fl_M_268 (lv_89 _) ?_
                refine g_topl q6 ?_
                refine g_ldc2 (v := lN 10) hX d_M_next_300 k_M_236 rfl ?_
                refine g_lmul hX d_M_next_303 ?_
                refine g_topl (show lI (digW t F k) * lN 10 = lI (digW t F k * 10) from lI_mul (digW t F k) 10) ?_
                refine g_aload0 hX d_M_next_304 ?_
                refine g_getF hX d_M_next_305 fl_M_35 (lv_89 _) ?_
                refine g_aload0 hX d_M_next_308 ?_
                refine g_getI hX d_M_next_309 fl_M_255 (lv_89 _) ?_
                refine g_topi q4 ?_
                refine g_iald hX d_M_next_312 (lv_98 _) rfl (by omega) ?_
                refine g_topi (show rI wk 98 (F + k) = nI (gA t (F + k)) by rw [hfr.1 98 (by decide)]; exact (hT.2.2 (F + k) e259).1) ?_
                refine g_i2l hX d_M_next_313 ?_
                refine g_topl ((nI_l (by omega)).trans (lI_nat _)) ?_
                refine g_ladd hX d_M_next_314 ?_
                refine g_topl (lI_add _ _) ?_
                refine g_ldc2 (v := lN 48) hX d_M_next_315 k_M_289 rfl ?_
                refine g_lsub hX d_M_next_318 ?_
                refine g_topl (show lI (digW t F k * 10 + (gA t (F + k) : Int)) - lN 48 = lI (digW t F k * 10 + (gA t (F + k) : Int) - 48) from lI_sub (digW t F k * 10 + (gA t (F + k) : Int)) 48) ?_
                refine g_putJ hX d_M_next_319 fl_M_268 (lv_89 _) ?_
                refine g_aload0 hX d_M_next_322 ?_
                refine g_dup hX d_M_next_323 rfl ?_
                refine g_getI hX d_M_next_324 fl_M_255 (lv_89 _) ?_
                refine g_topi (show rI (sJ wk 89 17 _) 89 15 = nI (F + k) from q4) ?_
                refine g_iconst (v := nI 1) hX d_M_next_327 rfl ?_
                refine g_iaddN hX d_M_next_328 ?_
                refine g_putI hX d_M_next_329 fl_M_255 (lv_89 _) ?_
                refine g_goto hX d_M_next_332 ?_
                refine ih (k + 1) _ (by omega) (by omega) ((hfr.J).I (Or.inr (Or.inl rfl))) ?_ ?_ ?_ ?_ (q7.trans (runE_y ⟨by omega, Or.inr (Or.inr ⟨rfl, e274⟩)⟩))
                · rw [rI_sI, upd_eq, if_neg (by decide)]; exact q3
                · rw [rI_sI, upd_eq, if_pos rfl]; rfl
                · rw [rI_sI, upd_eq, if_neg (by decide)]; exact q5
                · show rJ (sJ wk 89 17 _) 89 17 = _
                  rw [rJ_sJ, updL_eq, if_pos rfl, digW]
                  first
                    | rw [if_pos e286]
                    | rw [if_neg e286]
              · have e286 : 1000000 < digW t F k := by
                  rw [show lN 1000000 = lI 1000000 from rfl, lI_le (by omega) (by omega)] at c286
                  omega
                refine g_aload0 hX d_M_next_289 ?_
                refine g_getJ hX d_M_next_290 fl_M_268 (lv_89 _) ?_
                refine g_topl q6 ?_
                refine g_goto hX d_M_next_293 ?_
                refine g_putJ hX d_M_next_319 fl_M_268 (lv_89 _) ?_
                refine g_aload0 hX d_M_next_322 ?_
                refine g_dup hX d_M_next_323 rfl ?_
                refine g_getI hX d_M_next_324 fl_M_255 (lv_89 _) ?_
                refine g_topi (show rI (sJ wk 89 17 _) 89 15 = nI (F + k) from q4) ?_
                refine g_iconst (v := nI 1) hX d_M_next_327 rfl ?_
                refine g_iaddN hX d_M_next_328 ?_
                refine g_putI hX d_M_next_329 fl_M_255 (lv_89 _) ?_
                refine g_goto hX d_M_next_332 ?_
                refine ih (k + 1) _ (by omega) (by omega) ((hfr.J).I (Or.inr (Or.inl rfl))) ?_ ?_ ?_ ?_ (q7.trans (runE_y ⟨by omega, Or.inr (Or.inr ⟨rfl, e274⟩)⟩))
                · rw [rI_sI, upd_eq, if_neg (by decide)]; exact q3
                · rw [rI_sI, upd_eq, if_pos rfl]; rfl
                · rw [rI_sI, upd_eq, if_neg (by decide)]; exact q5
                · show rJ (sJ wk 89 17 _) 89 17 = _
                  rw [rJ_sJ, updL_eq, if_pos rfl, digW]
                  first
                    | rw [if_pos e286]
                    | rw [if_neg e286]
      refine g_aload0 hX d_M_next_117 ?_
      refine g_getI hX d_M_next_118 fl_M_278 (lv_89 _) ?_
      refine g_topi h5 ?_
      refine g_iconst (v := nI 3) hX d_M_next_121 rfl ?_
      refine g_icmpN_ne hX d_M_next_122 (by omega) (by omega) (fun c0 => ?_) (fun h => absurd h (by omega))
      refine g_aload0 hX d_M_next_149 ?_
      refine g_getI hX d_M_next_150 fl_M_278 (lv_89 _) ?_
      refine g_topi h5 ?_
      refine g_iconst (v := nI 1) hX d_M_next_153 rfl ?_
      refine g_icmpN_ne hX d_M_next_154 (by omega) (by omega) (fun c1 => ?_) (fun h => absurd h (by omega))
      exact lpD (t.length + 1) 0 wk (by omega) hokF.1 hfr h14 h15 h5 h6 rfl
    · have h5 : rI wk 89 16 = nI 3 := by rw [h16, hs]
      have hFl := srt_lt (show srt t F ≠ 0 by omega)
      have hgt := (hT.2.2 F hFl).2
      refine g_aload0 hX d_M_next_117 ?_
      refine g_getI hX d_M_next_118 fl_M_278 (lv_89 _) ?_
      refine g_topi h5 ?_
      refine g_iconst (v := nI 3) hX d_M_next_121 rfl ?_
      refine g_icmpN_ne hX d_M_next_122 (by omega) (by omega) (fun h => absurd (by omega) h) (fun c0 => ?_)
      refine g_aload0 hX d_M_next_125 ?_
      refine g_aload0 hX d_M_next_126 ?_
      refine g_getF hX d_M_next_127 fl_M_35 (lv_89 _) ?_
      refine g_aload0 hX d_M_next_130 ?_
      refine g_getI hX d_M_next_131 fl_M_265 (lv_89 _) ?_
      refine g_topi h14 ?_
      refine g_iald hX d_M_next_134 (lv_98 _) rfl (by omega) ?_
      refine g_topi (show rI wk 98 (F) = nI (gA t (F)) by rw [hfr.1 98 (by decide)]; exact (hT.2.2 F hFl).1) ?_
      refine g_i2l hX d_M_next_135 ?_
      refine g_topl ((nI_l (by omega)).trans (lI_nat _)) ?_
      refine g_putJ hX d_M_next_136 fl_M_268 (lv_89 _) ?_
      refine g_aload0 hX d_M_next_139 ?_
      refine g_dup hX d_M_next_140 rfl ?_
      refine g_getI hX d_M_next_141 fl_M_255 (lv_89 _) ?_
      refine g_topi (show rI (sJ wk 89 17 _) 89 15 = nI F from h15) ?_
      refine g_iconst (v := nI 1) hX d_M_next_144 rfl ?_
      refine g_iaddN hX d_M_next_145 ?_
      refine g_putI hX d_M_next_146 fl_M_255 (lv_89 _) ?_
      refine g_aload0 hX d_M_next_149 ?_
      refine g_getI hX d_M_next_150 fl_M_278 (lv_89 _) ?_
      refine g_topi (show rI (sI (sJ wk 89 17 _) 89 15 _) 89 16 = nI 3 by rw [rI_sI, upd_eq, if_neg (by decide)]; exact h5) ?_
      refine g_iconst (v := nI 1) hX d_M_next_153 rfl ?_
      refine g_icmpN_ne hX d_M_next_154 (by omega) (by omega) (fun c1 => ?_) (fun h => absurd h (by omega))
      refine g_aload0 hX d_M_next_243 ?_
      refine g_getI hX d_M_next_244 fl_M_278 (lv_89 _) ?_
      refine g_topi (show rI (sI (sJ wk 89 17 _) 89 15 _) 89 16 = nI 3 by rw [rI_sI, upd_eq, if_neg (by decide)]; exact h5) ?_
      refine g_iconst (v := nI 2) hX d_M_next_247 rfl ?_
      refine g_icmpN_ne hX d_M_next_248 (by omega) (by omega) (fun c2 => ?_) (fun h => absurd h (by omega))
      refine g_vret hX hF d_M_next_335 (by omega) (by omega) ?_
      have hfr2 := (hfr.J (x := lI (gA t F : Int))).I (k := 15) (x := nI (F + 1)) (Or.inr (Or.inl rfl))
      refine ⟨rfl, hfr2, ⟨by rw [hfr2.1 98 (by decide), hfr2.2.1 13 (by decide) (by decide) (by decide)]; exact hT, by rw [rI_sI, upd_eq, if_neg (by decide)]; exact h14, ?_, by rw [rI_sI, upd_eq, if_neg (by decide)]; exact h16, ?_, hokF⟩⟩
      · rw [rI_sI, upd_eq, if_pos rfl]; unfold enT; rw [if_neg (by omega), if_pos hs]
      · show rJ (sJ wk 89 17 _) 89 17 = _
        rw [rJ_sJ, updL_eq, if_pos rfl]
        unfold worI
        rw [if_neg (by omega), if_neg (by omega), if_pos hs]
  have lpB : ∀ (fuel : Nat) (q : Nat) (wk : Mem), t.length - q < fuel → (q ≤ t.length) → (FrN w wk) → (rI wk 89 14 = nI q) → (runE t 0 q = F) → G0 E X 0 0 8 [.ref 89] [] wk := by
    intro fuel
    induction fuel with
    | zero => intro q wk q0; exact absurd q0 (Nat.not_lt_zero _)
    | succ fuel ih =>
      intro q wk q0 q1 q2 q3 q4
      have hfr := q2
      refine g_aload0 hX d_M_next_8 ?_
      refine g_getI hX d_M_next_9 fl_M_265 (lv_89 _) ?_
      refine g_topi q3 ?_
      refine g_aload0 hX d_M_next_12 ?_
      refine g_getI hX d_M_next_13 fl_M_243 (lv_89 _) ?_
      refine g_topi (show rI wk 89 13 = nI t.length by rw [hfr.2.1 13 (by decide) (by decide) (by decide)]; exact hT.2.1) ?_
      refine g_icmpN_ge hX d_M_next_16 (by omega) (by omega) (fun e16 => ?_) (fun e16 => ?_)
      · have hqF : q = F := (runE_n (t := t) (q := 0) (p := q) (fun z => by first | exact absurd z.1 (by omega) | (have := z.2; omega))).symm.trans q4
        rw [hqF] at q3
        have hF14 := q3
        have hFl := hokF.1
        refine g_aload0 hX d_M_next_46 ?_
        refine g_aload0 hX d_M_next_47 ?_
        refine g_getI hX d_M_next_48 fl_M_265 (lv_89 _) ?_
        refine g_topi hF14 ?_
        refine g_putI hX d_M_next_51 fl_M_255 (lv_89 _) ?_
        refine g_aload0 hX d_M_next_54 ?_
        refine g_lconst (v := lN 0) hX d_M_next_55 rfl ?_
        refine g_putJ hX d_M_next_56 fl_M_268 (lv_89 _) ?_
        refine g_aload0 hX d_M_next_59 ?_
        refine g_aload0 hX d_M_next_60 ?_
        refine g_getI hX d_M_next_61 fl_M_265 (lv_89 _) ?_
        refine g_topi (show rI (sJ (sI wk 89 15 (nI F)) 89 17 (lN 0)) 89 14 = nI F by rw [rI_sJ9, rI_sI, upd_eq, if_neg (by decide)]; exact hF14) ?_
        refine g_aload0 hX d_M_next_64 ?_
        refine g_getI hX d_M_next_65 fl_M_243 (lv_89 _) ?_
        refine g_topi (show rI (sJ (sI wk 89 15 (nI F)) 89 17 (lN 0)) 89 13 = nI t.length by rw [rI_sJ9, rI_sI, upd_eq, if_neg (by decide)]; exact (show rI wk 89 13 = nI t.length by rw [hfr.2.1 13 (by decide) (by decide) (by decide)]; exact hT.2.1)) ?_
        refine g_icmpN_ne hX d_M_next_68 (by omega) (by omega) (fun e68 => ?_) (fun e68 => ?_)
        · have hFlt : F < t.length := by omega
          have hgF := (hT.2.2 F hFlt).2
          have hrF : rI wk 98 F = nI (gA t F) := by rw [hfr.1 98 (by decide)]; exact (hT.2.2 F hFlt).1
          refine g_aload0 hX d_M_next_75 ?_
          refine g_getF hX d_M_next_76 fl_M_35 (lv_89 _) ?_
          refine g_aload0 hX d_M_next_79 ?_
          refine g_getI hX d_M_next_80 fl_M_265 (lv_89 _) ?_
          refine g_topi (show rI (sJ (sI wk 89 15 (nI F)) 89 17 (lN 0)) 89 14 = nI F by rw [rI_sJ9, rI_sI, upd_eq, if_neg (by decide)]; exact hF14) ?_
          refine g_iald hX d_M_next_83 (lv_98 _) rfl (by omega) ?_
          refine g_topi (show rI (sJ (sI wk 89 15 (nI F)) 89 17 (lN 0)) 98 F = nI (gA t F) from hrF) ?_
          refine g_callS (As := [_]) hX hF.1 d_M_next_84 ml_M_272 cf_M_isSmall cs_M_isSmall rfl (c_M_isSmall (by omega)) (by omega) (by omega) (by omega) (Nat.le_of_ble_eq_true rfl) ?_
          refine ret_k ?_
          refine g_ifB_eq hX d_M_next_87 (fun e87 => ?_) (fun e87 => ?_)
          · refine g_aload0 hX d_M_next_94 ?_
            refine g_getF hX d_M_next_95 fl_M_35 (lv_89 _) ?_
            refine g_aload0 hX d_M_next_98 ?_
            refine g_getI hX d_M_next_99 fl_M_265 (lv_89 _) ?_
            refine g_topi (show rI (sJ (sI wk 89 15 (nI F)) 89 17 (lN 0)) 89 14 = nI F by rw [rI_sJ9, rI_sI, upd_eq, if_neg (by decide)]; exact hF14) ?_
            refine g_iald hX d_M_next_102 (lv_98 _) rfl (by omega) ?_
            refine g_topi (show rI (sJ (sI wk 89 15 (nI F)) 89 17 (lN 0)) 98 F = nI (gA t F) from hrF) ?_
            refine g_callS (As := [_]) hX hF.1 d_M_next_103 ml_M_275 cf_M_isDigit cs_M_isDigit rfl (c_M_isDigit (by omega)) (by omega) (by omega) (by omega) (Nat.le_of_ble_eq_true rfl) ?_
            refine ret_k ?_
            refine g_ifB_eq hX d_M_next_106 (fun e106 => ?_) (fun e106 => ?_)
            · refine g_iconst (v := nI 3) hX d_M_next_113 rfl ?_
              refine g_putI hX d_M_next_114 fl_M_278 (lv_89 _) ?_
              refine k117 _ ((((hfr.I (Or.inr (Or.inl rfl))).J).I (Or.inr (Or.inr rfl)))) ?_ ?_ ?_ ?_
              · rw [rI_sI, upd_eq, if_neg (by decide), rI_sJ9, rI_sI, upd_eq, if_neg (by decide)]; exact hF14
              · rw [rI_sI, upd_eq, if_neg (by decide), rI_sJ9, rI_sI, upd_eq, if_pos rfl]
              · rw [rI_sI, upd_eq, if_pos rfl]
                unfold srt
                rw [if_neg (by omega), if_neg e87, if_neg e106]
              · show rJ (sJ _ 89 17 _) 89 17 = _
                rw [rJ_sJ, updL_eq, if_pos rfl]; rfl
            · refine g_iconst (v := nI 2) hX d_M_next_109 rfl ?_
              refine g_goto hX d_M_next_110 ?_
              refine g_putI hX d_M_next_114 fl_M_278 (lv_89 _) ?_
              refine k117 _ ((((hfr.I (Or.inr (Or.inl rfl))).J).I (Or.inr (Or.inr rfl)))) ?_ ?_ ?_ ?_
              · rw [rI_sI, upd_eq, if_neg (by decide), rI_sJ9, rI_sI, upd_eq, if_neg (by decide)]; exact hF14
              · rw [rI_sI, upd_eq, if_neg (by decide), rI_sJ9, rI_sI, upd_eq, if_pos rfl]
              · rw [rI_sI, upd_eq, if_pos rfl]
                unfold srt
                rw [if_neg (by omega), if_neg e87, if_pos e106]
              · show rJ (sJ _ 89 17 _) 89 17 = _
                rw [rJ_sJ, updL_eq, if_pos rfl]; rfl
          · refine g_iconst (v := nI 1) hX d_M_next_90 rfl ?_
            refine g_goto hX d_M_next_91 ?_
            refine g_putI hX d_M_next_114 fl_M_278 (lv_89 _) ?_
            refine k117 _ ((((hfr.I (Or.inr (Or.inl rfl))).J).I (Or.inr (Or.inr rfl)))) ?_ ?_ ?_ ?_
            · rw [rI_sI, upd_eq, if_neg (by decide), rI_sJ9, rI_sI, upd_eq, if_neg (by decide)]; exact hF14
            · rw [rI_sI, upd_eq, if_neg (by decide), rI_sJ9, rI_sI, upd_eq, if_pos rfl]
            · rw [rI_sI, upd_eq, if_pos rfl]
              unfold srt
              rw [if_neg (by omega), if_pos e87]
            · show rJ (sJ _ 89 17 _) 89 17 = _
              rw [rJ_sJ, updL_eq, if_pos rfl]; rfl
        · refine g_iconst (v := nI 0) hX d_M_next_71 rfl ?_
          refine g_goto hX d_M_next_72 ?_
          refine g_putI hX d_M_next_114 fl_M_278 (lv_89 _) ?_
          refine k117 _ ((((hfr.I (Or.inr (Or.inl rfl))).J).I (Or.inr (Or.inr rfl)))) ?_ ?_ ?_ ?_
          · rw [rI_sI, upd_eq, if_neg (by decide), rI_sJ9, rI_sI, upd_eq, if_neg (by decide)]; exact hF14
          · rw [rI_sI, upd_eq, if_neg (by decide), rI_sJ9, rI_sI, upd_eq, if_pos rfl]
          · rw [rI_sI, upd_eq, if_pos rfl]
            unfold srt
            rw [if_pos (by omega)]
          · show rJ (sJ _ 89 17 _) 89 17 = _
            rw [rJ_sJ, updL_eq, if_pos rfl]; rfl
      · have hgt := (hT.2.2 q e16).2
        refine g_aload0 hX d_M_next_19 ?_
        refine g_getF hX d_M_next_20 fl_M_35 (lv_89 _) ?_
        refine g_aload0 hX d_M_next_23 ?_
        refine g_getI hX d_M_next_24 fl_M_265 (lv_89 _) ?_
        refine g_topi q3 ?_
        refine g_iald hX d_M_next_27 (lv_98 _) rfl (by omega) ?_
        refine g_topi (show rI wk 98 (q) = nI (gA t (q)) by rw [hfr.1 98 (by decide)]; exact (hT.2.2 q e16).1) ?_
        refine g_bipush (v := nI 32) hX d_M_next_28 rfl ?_
        refine g_icmpN_ne hX d_M_next_30 (by omega) (by omega) (fun e30 => ?_) (fun e30 => ?_)
        · have hqF : q = F := (runE_n (t := t) (q := 0) (p := q) (fun z => by first | exact absurd z.1 (by omega) | (have := z.2; omega))).symm.trans q4
          rw [hqF] at q3
          have hF14 := q3
          have hFl := hokF.1
          refine g_aload0 hX d_M_next_46 ?_
          refine g_aload0 hX d_M_next_47 ?_
          refine g_getI hX d_M_next_48 fl_M_265 (lv_89 _) ?_
          refine g_topi hF14 ?_
          refine g_putI hX d_M_next_51 fl_M_255 (lv_89 _) ?_
          refine g_aload0 hX d_M_next_54 ?_
          refine g_lconst (v := lN 0) hX d_M_next_55 rfl ?_
          refine g_putJ hX d_M_next_56 fl_M_268 (lv_89 _) ?_
          refine g_aload0 hX d_M_next_59 ?_
          refine g_aload0 hX d_M_next_60 ?_
          refine g_getI hX d_M_next_61 fl_M_265 (lv_89 _) ?_
          refine g_topi (show rI (sJ (sI wk 89 15 (nI F)) 89 17 (lN 0)) 89 14 = nI F by rw [rI_sJ9, rI_sI, upd_eq, if_neg (by decide)]; exact hF14) ?_
          refine g_aload0 hX d_M_next_64 ?_
          refine g_getI hX d_M_next_65 fl_M_243 (lv_89 _) ?_
          refine g_topi (show rI (sJ (sI wk 89 15 (nI F)) 89 17 (lN 0)) 89 13 = nI t.length by rw [rI_sJ9, rI_sI, upd_eq, if_neg (by decide)]; exact (show rI wk 89 13 = nI t.length by rw [hfr.2.1 13 (by decide) (by decide) (by decide)]; exact hT.2.1)) ?_
          refine g_icmpN_ne hX d_M_next_68 (by omega) (by omega) (fun e68 => ?_) (fun e68 => ?_)
          · have hFlt : F < t.length := by omega
            have hgF := (hT.2.2 F hFlt).2
            have hrF : rI wk 98 F = nI (gA t F) := by rw [hfr.1 98 (by decide)]; exact (hT.2.2 F hFlt).1
            refine g_aload0 hX d_M_next_75 ?_
            refine g_getF hX d_M_next_76 fl_M_35 (lv_89 _) ?_
            refine g_aload0 hX d_M_next_79 ?_
            refine g_getI hX d_M_next_80 fl_M_265 (lv_89 _) ?_
            refine g_topi (show rI (sJ (sI wk 89 15 (nI F)) 89 17 (lN 0)) 89 14 = nI F by rw [rI_sJ9, rI_sI, upd_eq, if_neg (by decide)]; exact hF14) ?_
            refine g_iald hX d_M_next_83 (lv_98 _) rfl (by omega) ?_
            refine g_topi (show rI (sJ (sI wk 89 15 (nI F)) 89 17 (lN 0)) 98 F = nI (gA t F) from hrF) ?_
            refine g_callS (As := [_]) hX hF.1 d_M_next_84 ml_M_272 cf_M_isSmall cs_M_isSmall rfl (c_M_isSmall (by omega)) (by omega) (by omega) (by omega) (Nat.le_of_ble_eq_true rfl) ?_
            refine ret_k ?_
            refine g_ifB_eq hX d_M_next_87 (fun e87 => ?_) (fun e87 => ?_)
            · refine g_aload0 hX d_M_next_94 ?_
              refine g_getF hX d_M_next_95 fl_M_35 (lv_89 _) ?_
              refine g_aload0 hX d_M_next_98 ?_
              refine g_getI hX d_M_next_99 fl_M_265 (lv_89 _) ?_
              refine g_topi (show rI (sJ (sI wk 89 15 (nI F)) 89 17 (lN 0)) 89 14 = nI F by rw [rI_sJ9, rI_sI, upd_eq, if_neg (by decide)]; exact hF14) ?_
              refine g_iald hX d_M_next_102 (lv_98 _) rfl (by omega) ?_
              refine g_topi (show rI (sJ (sI wk 89 15 (nI F)) 89 17 (lN 0)) 98 F = nI (gA t F) from hrF) ?_
              refine g_callS (As := [_]) hX hF.1 d_M_next_103 ml_M_275 cf_M_isDigit cs_M_isDigit rfl (c_M_isDigit (by omega)) (by omega) (by omega) (by omega) (Nat.le_of_ble_eq_true rfl) ?_
              refine ret_k ?_
              refine g_ifB_eq hX d_M_next_106 (fun e106 => ?_) (fun e106 => ?_)
              · refine g_iconst (v := nI 3) hX d_M_next_113 rfl ?_
                refine g_putI hX d_M_next_114 fl_M_278 (lv_89 _) ?_
                refine k117 _ ((((hfr.I (Or.inr (Or.inl rfl))).J).I (Or.inr (Or.inr rfl)))) ?_ ?_ ?_ ?_
                · rw [rI_sI, upd_eq, if_neg (by decide), rI_sJ9, rI_sI, upd_eq, if_neg (by decide)]; exact hF14
                · rw [rI_sI, upd_eq, if_neg (by decide), rI_sJ9, rI_sI, upd_eq, if_pos rfl]
                · rw [rI_sI, upd_eq, if_pos rfl]
                  unfold srt
                  rw [if_neg (by omega), if_neg e87, if_neg e106]
                · show rJ (sJ _ 89 17 _) 89 17 = _
                  rw [rJ_sJ, updL_eq, if_pos rfl]; rfl
              · refine g_iconst (v := nI 2) hX d_M_next_109 rfl ?_
                refine g_goto hX d_M_next_110 ?_
                refine g_putI hX d_M_next_114 fl_M_278 (lv_89 _) ?_
                refine k117 _ ((((hfr.I (Or.inr (Or.inl rfl))).J).I (Or.inr (Or.inr rfl)))) ?_ ?_ ?_ ?_
                · rw [rI_sI, upd_eq, if_neg (by decide), rI_sJ9, rI_sI, upd_eq, if_neg (by decide)]; exact hF14
                · rw [rI_sI, upd_eq, if_neg (by decide), rI_sJ9, rI_sI, upd_eq, if_pos rfl]
                · rw [rI_sI, upd_eq, if_pos rfl]
                  unfold srt
                  rw [if_neg (by omega), if_neg e87, if_pos e106]
                · show rJ (sJ _ 89 17 _) 89 17 = _
                  rw [rJ_sJ, updL_eq, if_pos rfl]; rfl
            · refine g_iconst (v := nI 1) hX d_M_next_90 rfl ?_
              refine g_goto hX d_M_next_91 ?_
              refine g_putI hX d_M_next_114 fl_M_278 (lv_89 _) ?_
              refine k117 _ ((((hfr.I (Or.inr (Or.inl rfl))).J).I (Or.inr (Or.inr rfl)))) ?_ ?_ ?_ ?_
              · rw [rI_sI, upd_eq, if_neg (by decide), rI_sJ9, rI_sI, upd_eq, if_neg (by decide)]; exact hF14
              · rw [rI_sI, upd_eq, if_neg (by decide), rI_sJ9, rI_sI, upd_eq, if_pos rfl]
              · rw [rI_sI, upd_eq, if_pos rfl]
                unfold srt
                rw [if_neg (by omega), if_pos e87]
              · show rJ (sJ _ 89 17 _) 89 17 = _
                rw [rJ_sJ, updL_eq, if_pos rfl]; rfl
          · refine g_iconst (v := nI 0) hX d_M_next_71 rfl ?_
            refine g_goto hX d_M_next_72 ?_
            refine g_putI hX d_M_next_114 fl_M_278 (lv_89 _) ?_
            refine k117 _ ((((hfr.I (Or.inr (Or.inl rfl))).J).I (Or.inr (Or.inr rfl)))) ?_ ?_ ?_ ?_
            · rw [rI_sI, upd_eq, if_neg (by decide), rI_sJ9, rI_sI, upd_eq, if_neg (by decide)]; exact hF14
            · rw [rI_sI, upd_eq, if_neg (by decide), rI_sJ9, rI_sI, upd_eq, if_pos rfl]
            · rw [rI_sI, upd_eq, if_pos rfl]
              unfold srt
              rw [if_pos (by omega)]
            · show rJ (sJ _ 89 17 _) 89 17 = _
              rw [rJ_sJ, updL_eq, if_pos rfl]; rfl
        · refine g_aload0 hX d_M_next_33 ?_
          refine g_dup hX d_M_next_34 rfl ?_
          refine g_getI hX d_M_next_35 fl_M_265 (lv_89 _) ?_
          refine g_topi q3 ?_
          refine g_iconst (v := nI 1) hX d_M_next_38 rfl ?_
          refine g_iaddN hX d_M_next_39 ?_
          refine g_putI hX d_M_next_40 fl_M_265 (lv_89 _) ?_
          refine g_goto hX d_M_next_43 ?_
          exact ih (q + 1) _ (by omega) (by omega) (hfr.I (Or.inl rfl)) (by rw [rI_sI, upd_eq, if_pos rfl]) ((runE_y ⟨by omega, Or.inl ⟨rfl, e30⟩⟩).symm.trans q4)
  refine g_aload0 hX d_M_next_0 ?_
  refine g_aload0 hX d_M_next_1 ?_
  refine g_getI hX d_M_next_2 fl_M_255 (lv_89 _) ?_
  refine g_topi he ?_
  refine g_putI hX d_M_next_5 fl_M_265 (lv_89 _) ?_
  exact lpB (t.length + 1) e _ (by omega) hel ((FrN.rf w).I (Or.inl rfl)) (by rw [rI_sI, upd_eq, if_pos rfl]) hFe
theorem c_M_next {E : EV} {w : Mem} {t : List Nat} {f : Nat} (h : TokP w t f) : T E m_M_next 1 0 0 [.ref 89] w (fun r w2 => r = none ∧ FrN w w2 ∧ TokP w2 t (nxT t f)) := c_M_next0 h.1 h.2.2.1 (enT_le h.2.2.2.2.2.1) rfl
