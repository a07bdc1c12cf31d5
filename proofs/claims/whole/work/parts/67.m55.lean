def m_M_behindSum : MR := (⟨"SubgraphDeskModel", "behindSum", "(Z)I"⟩, prog_14_method_57_code, 4, (some .int))
theorem cf_M_behindSum : CF m_M_behindSum 1 := ⟨gd 1921 (by decide +kernel) rfl, gd 151 (by decide +kernel) rfl, by decide +kernel, by decide, by decide +kernel⟩
theorem cv_M_behindSum : CV m_M_behindSum := ⟨gd 1920 (by decide +kernel) rfl, gd 92 (by decide +kernel) rfl⟩
def m_M_behindTest : MR := (⟨"SubgraphDeskModel", "behindTest", "()I"⟩, prog_14_method_58_code, 2, (some .int))
theorem cf_M_behindTest : CF m_M_behindTest 0 := ⟨gd 1944 (by decide +kernel) rfl, gd 151 (by decide +kernel) rfl, by decide +kernel, by decide, by decide +kernel⟩
theorem cv_M_behindTest : CV m_M_behindTest := ⟨gd 1943 (by decide +kernel) rfl, gd 96 (by decide +kernel) rfl⟩
theorem d_M_behindSum_0 : Dc prog_14_method_57_code 0 (.aload_n 0) 1 1 := ⟨by decide +kernel, rfl⟩
theorem d_M_behindSum_1 : Dc prog_14_method_57_code 1 (.bipush 43) 2 3 := ⟨by decide +kernel, rfl⟩
theorem d_M_behindSum_3 : Dc prog_14_method_57_code 3 (.invokevirtual 329) 3 6 := ⟨by decide +kernel, rfl⟩
theorem d_M_behindSum_6 : Dj prog_14_method_57_code 6 (.ifCond .eq 8) 9 8 14 := ⟨by decide +kernel, rfl, rfl⟩
theorem d_M_behindSum_9 : Dc prog_14_method_57_code 9 (.bipush 20) 2 11 := ⟨by decide +kernel, rfl⟩
theorem d_M_behindSum_11 : Dj prog_14_method_57_code 11 (.goto 60) 14 60 71 := ⟨by decide +kernel, rfl, rfl⟩
theorem d_M_behindSum_14 : Dc prog_14_method_57_code 14 (.aload_n 0) 1 15 := ⟨by decide +kernel, rfl⟩
theorem d_M_behindSum_15 : Dc prog_14_method_57_code 15 (.bipush 45) 2 17 := ⟨by decide +kernel, rfl⟩
theorem d_M_behindSum_17 : Dc prog_14_method_57_code 17 (.invokevirtual 329) 3 20 := ⟨by decide +kernel, rfl⟩
theorem d_M_behindSum_20 : Dj prog_14_method_57_code 20 (.ifCond .eq 8) 23 8 28 := ⟨by decide +kernel, rfl, rfl⟩
theorem d_M_behindSum_23 : Dc prog_14_method_57_code 23 (.bipush 21) 2 25 := ⟨by decide +kernel, rfl⟩
theorem d_M_behindSum_25 : Dj prog_14_method_57_code 25 (.goto 46) 28 46 71 := ⟨by decide +kernel, rfl, rfl⟩
theorem d_M_behindSum_28 : Dc prog_14_method_57_code 28 (.aload_n 0) 1 29 := ⟨by decide +kernel, rfl⟩
theorem d_M_behindSum_29 : Dc prog_14_method_57_code 29 (.bipush 42) 2 31 := ⟨by decide +kernel, rfl⟩
theorem d_M_behindSum_31 : Dc prog_14_method_57_code 31 (.invokevirtual 329) 3 34 := ⟨by decide +kernel, rfl⟩
theorem d_M_behindSum_34 : Dj prog_14_method_57_code 34 (.ifCond .eq 8) 37 8 42 := ⟨by decide +kernel, rfl, rfl⟩
theorem d_M_behindSum_37 : Dc prog_14_method_57_code 37 (.bipush 22) 2 39 := ⟨by decide +kernel, rfl⟩
theorem d_M_behindSum_39 : Dj prog_14_method_57_code 39 (.goto 32) 42 32 71 := ⟨by decide +kernel, rfl, rfl⟩
theorem d_M_behindSum_42 : Dc prog_14_method_57_code 42 (.aload_n 0) 1 43 := ⟨by decide +kernel, rfl⟩
theorem d_M_behindSum_43 : Dc prog_14_method_57_code 43 (.bipush 47) 2 45 := ⟨by decide +kernel, rfl⟩
theorem d_M_behindSum_45 : Dc prog_14_method_57_code 45 (.invokevirtual 329) 3 48 := ⟨by decide +kernel, rfl⟩
theorem d_M_behindSum_48 : Dj prog_14_method_57_code 48 (.ifCond .eq 8) 51 8 56 := ⟨by decide +kernel, rfl, rfl⟩
theorem d_M_behindSum_51 : Dc prog_14_method_57_code 51 (.bipush 23) 2 53 := ⟨by decide +kernel, rfl⟩
theorem d_M_behindSum_53 : Dj prog_14_method_57_code 53 (.goto 18) 56 18 71 := ⟨by decide +kernel, rfl, rfl⟩
theorem d_M_behindSum_56 : Dc prog_14_method_57_code 56 (.aload_n 0) 1 57 := ⟨by decide +kernel, rfl⟩
theorem d_M_behindSum_57 : Dc prog_14_method_57_code 57 (.bipush 37) 2 59 := ⟨by decide +kernel, rfl⟩
theorem d_M_behindSum_59 : Dc prog_14_method_57_code 59 (.invokevirtual 329) 3 62 := ⟨by decide +kernel, rfl⟩
theorem d_M_behindSum_62 : Dj prog_14_method_57_code 62 (.ifCond .eq 8) 65 8 70 := ⟨by decide +kernel, rfl, rfl⟩
theorem d_M_behindSum_65 : Dc prog_14_method_57_code 65 (.bipush 24) 2 67 := ⟨by decide +kernel, rfl⟩
theorem d_M_behindSum_67 : Dj prog_14_method_57_code 67 (.goto 4) 70 4 71 := ⟨by decide +kernel, rfl, rfl⟩
theorem d_M_behindSum_70 : Dc prog_14_method_57_code 70 (.iconst (-1)) 1 71 := ⟨by decide +kernel, rfl⟩
theorem d_M_behindSum_71 : Dc prog_14_method_57_code 71 (.istore_n 2) 1 72 := ⟨by decide +kernel, rfl⟩
theorem d_M_behindSum_72 : Dc prog_14_method_57_code 72 (.iload_n 2) 1 73 := ⟨by decide +kernel, rfl⟩
theorem d_M_behindSum_73 : Dc prog_14_method_57_code 73 (.iconst (-1)) 1 74 := ⟨by decide +kernel, rfl⟩
theorem d_M_behindSum_74 : Dj prog_14_method_57_code 74 (.if_icmp .eq 23) 77 23 97 := ⟨by decide +kernel, rfl, rfl⟩
theorem d_M_behindSum_77 : Dc prog_14_method_57_code 77 (.aload_n 0) 1 78 := ⟨by decide +kernel, rfl⟩
theorem d_M_behindSum_78 : Dc prog_14_method_57_code 78 (.iload_n 2) 1 79 := ⟨by decide +kernel, rfl⟩
theorem d_M_behindSum_79 : Dc prog_14_method_57_code 79 (.invokestatic 301) 3 82 := ⟨by decide +kernel, rfl⟩
theorem d_M_behindSum_82 : Dc prog_14_method_57_code 82 (.invokevirtual 362) 3 85 := ⟨by decide +kernel, rfl⟩
theorem d_M_behindSum_85 : Dc prog_14_method_57_code 85 (.aload_n 0) 1 86 := ⟨by decide +kernel, rfl⟩
theorem d_M_behindSum_86 : Dc prog_14_method_57_code 86 (.iload_n 2) 1 87 := ⟨by decide +kernel, rfl⟩
theorem d_M_behindSum_87 : Dc prog_14_method_57_code 87 (.iconst 0) 1 88 := ⟨by decide +kernel, rfl⟩
theorem d_M_behindSum_88 : Dc prog_14_method_57_code 88 (.invokevirtual 323) 3 91 := ⟨by decide +kernel, rfl⟩
theorem d_M_behindSum_91 : Dc prog_14_method_57_code 91 (.aload_n 0) 1 92 := ⟨by decide +kernel, rfl⟩
theorem d_M_behindSum_92 : Dc prog_14_method_57_code 92 (.invokevirtual 262) 3 95 := ⟨by decide +kernel, rfl⟩
theorem d_M_behindSum_95 : Dc prog_14_method_57_code 95 (.iconst 1) 1 96 := ⟨by decide +kernel, rfl⟩
theorem d_M_behindSum_96 : Dc prog_14_method_57_code 96 (.ireturn) 1 97 := ⟨by decide +kernel, rfl⟩
theorem d_M_behindSum_97 : Dc prog_14_method_57_code 97 (.aload_n 0) 1 98 := ⟨by decide +kernel, rfl⟩
theorem d_M_behindSum_98 : Dc prog_14_method_57_code 98 (.invokevirtual 365) 3 101 := ⟨by decide +kernel, rfl⟩
theorem d_M_behindSum_101 : Dc prog_14_method_57_code 101 (.istore_n 3) 1 102 := ⟨by decide +kernel, rfl⟩
theorem d_M_behindSum_102 : Dc prog_14_method_57_code 102 (.iload_n 3) 1 103 := ⟨by decide +kernel, rfl⟩
theorem d_M_behindSum_103 : Dc prog_14_method_57_code 103 (.bipush 32) 2 105 := ⟨by decide +kernel, rfl⟩
theorem d_M_behindSum_105 : Dj prog_14_method_57_code 105 (.if_icmp .ne 47) 108 47 152 := ⟨by decide +kernel, rfl, rfl⟩
theorem d_M_behindSum_108 : Dc prog_14_method_57_code 108 (.aload_n 0) 1 109 := ⟨by decide +kernel, rfl⟩
theorem d_M_behindSum_109 : Dc prog_14_method_57_code 109 (.aload_n 0) 1 110 := ⟨by decide +kernel, rfl⟩
theorem d_M_behindSum_110 : Dc prog_14_method_57_code 110 (.bipush 93) 2 112 := ⟨by decide +kernel, rfl⟩
theorem d_M_behindSum_112 : Dc prog_14_method_57_code 112 (.invokevirtual 329) 3 115 := ⟨by decide +kernel, rfl⟩
theorem d_M_behindSum_115 : Dc prog_14_method_57_code 115 (.invokevirtual 291) 3 118 := ⟨by decide +kernel, rfl⟩
theorem d_M_behindSum_118 : Dc prog_14_method_57_code 118 (.aload_n 0) 1 119 := ⟨by decide +kernel, rfl⟩
theorem d_M_behindSum_119 : Dc prog_14_method_57_code 119 (.getfield 258) 3 122 := ⟨by decide +kernel, rfl⟩
theorem d_M_behindSum_122 : Dj prog_14_method_57_code 122 (.ifCond .ne 28) 125 28 150 := ⟨by decide +kernel, rfl, rfl⟩
theorem d_M_behindSum_125 : Dc prog_14_method_57_code 125 (.aload_n 0) 1 126 := ⟨by decide +kernel, rfl⟩
theorem d_M_behindSum_126 : Dc prog_14_method_57_code 126 (.iconst 5) 1 127 := ⟨by decide +kernel, rfl⟩
theorem d_M_behindSum_127 : Dc prog_14_method_57_code 127 (.invokevirtual 362) 3 130 := ⟨by decide +kernel, rfl⟩
theorem d_M_behindSum_130 : Dc prog_14_method_57_code 130 (.aload_n 0) 1 131 := ⟨by decide +kernel, rfl⟩
theorem d_M_behindSum_131 : Dc prog_14_method_57_code 131 (.dup) 1 132 := ⟨by decide +kernel, rfl⟩
theorem d_M_behindSum_132 : Dc prog_14_method_57_code 132 (.getfield 298) 3 135 := ⟨by decide +kernel, rfl⟩
theorem d_M_behindSum_135 : Dc prog_14_method_57_code 135 (.iconst 1) 1 136 := ⟨by decide +kernel, rfl⟩
theorem d_M_behindSum_136 : Dc prog_14_method_57_code 136 (.isub) 1 137 := ⟨by decide +kernel, rfl⟩
theorem d_M_behindSum_137 : Dc prog_14_method_57_code 137 (.putfield 298) 3 140 := ⟨by decide +kernel, rfl⟩
theorem d_M_behindSum_140 : Dc prog_14_method_57_code 140 (.aload_n 0) 1 141 := ⟨by decide +kernel, rfl⟩
theorem d_M_behindSum_141 : Dc prog_14_method_57_code 141 (.dup) 1 142 := ⟨by decide +kernel, rfl⟩
theorem d_M_behindSum_142 : Dc prog_14_method_57_code 142 (.getfield 320) 3 145 := ⟨by decide +kernel, rfl⟩
theorem d_M_behindSum_145 : Dc prog_14_method_57_code 145 (.iconst 1) 1 146 := ⟨by decide +kernel, rfl⟩
theorem d_M_behindSum_146 : Dc prog_14_method_57_code 146 (.isub) 1 147 := ⟨by decide +kernel, rfl⟩
theorem d_M_behindSum_147 : Dc prog_14_method_57_code 147 (.putfield 320) 3 150 := ⟨by decide +kernel, rfl⟩
theorem d_M_behindSum_150 : Dc prog_14_method_57_code 150 (.iconst 3) 1 151 := ⟨by decide +kernel, rfl⟩
theorem d_M_behindSum_151 : Dc prog_14_method_57_code 151 (.ireturn) 1 152 := ⟨by decide +kernel, rfl⟩
theorem d_M_behindSum_152 : Dc prog_14_method_57_code 152 (.iload_n 3) 1 153 := ⟨by decide +kernel, rfl⟩
theorem d_M_behindSum_153 : Dc prog_14_method_57_code 153 (.iconst (-1)) 1 154 := ⟨by decide +kernel, rfl⟩
theorem d_M_behindSum_154 : Dj prog_14_method_57_code 154 (.if_icmp .ne 9) 157 9 163 := ⟨by decide +kernel, rfl, rfl⟩
theorem d_M_behindSum_157 : Dc prog_14_method_57_code 157 (.iload_n 1) 1 158 := ⟨by decide +kernel, rfl⟩
theorem d_M_behindSum_158 : Dj prog_14_method_57_code 158 (.ifCond .ne 5) 161 5 163 := ⟨by decide +kernel, rfl, rfl⟩
theorem d_M_behindSum_161 : Dc prog_14_method_57_code 161 (.iconst 4) 1 162 := ⟨by decide +kernel, rfl⟩
theorem d_M_behindSum_162 : Dc prog_14_method_57_code 162 (.ireturn) 1 163 := ⟨by decide +kernel, rfl⟩
theorem d_M_behindSum_163 : Dc prog_14_method_57_code 163 (.aload_n 0) 1 164 := ⟨by decide +kernel, rfl⟩
theorem d_M_behindSum_164 : Dc prog_14_method_57_code 164 (.invokevirtual 368) 3 167 := ⟨by decide +kernel, rfl⟩
theorem d_M_behindSum_167 : Dj prog_14_method_57_code 167 (.ifCond .eq 5) 170 5 172 := ⟨by decide +kernel, rfl, rfl⟩
theorem d_M_behindSum_170 : Dc prog_14_method_57_code 170 (.iconst 2) 1 171 := ⟨by decide +kernel, rfl⟩
theorem d_M_behindSum_171 : Dc prog_14_method_57_code 171 (.ireturn) 1 172 := ⟨by decide +kernel, rfl⟩
theorem d_M_behindSum_172 : Dc prog_14_method_57_code 172 (.aload_n 0) 1 173 := ⟨by decide +kernel, rfl⟩
theorem d_M_behindSum_173 : Dc prog_14_method_57_code 173 (.bipush 60) 2 175 := ⟨by decide +kernel, rfl⟩
theorem d_M_behindSum_175 : Dc prog_14_method_57_code 175 (.invokevirtual 329) 3 178 := ⟨by decide +kernel, rfl⟩
theorem d_M_behindSum_178 : Dj prog_14_method_57_code 178 (.ifCond .eq 8) 181 8 186 := ⟨by decide +kernel, rfl, rfl⟩
theorem d_M_behindSum_181 : Dc prog_14_method_57_code 181 (.bipush 25) 2 183 := ⟨by decide +kernel, rfl⟩
theorem d_M_behindSum_183 : Dj prog_14_method_57_code 183 (.goto 19) 186 19 202 := ⟨by decide +kernel, rfl, rfl⟩
theorem d_M_behindSum_186 : Dc prog_14_method_57_code 186 (.aload_n 0) 1 187 := ⟨by decide +kernel, rfl⟩
theorem d_M_behindSum_187 : Dc prog_14_method_57_code 187 (.bipush 62) 2 189 := ⟨by decide +kernel, rfl⟩
theorem d_M_behindSum_189 : Dc prog_14_method_57_code 189 (.invokevirtual 329) 3 192 := ⟨by decide +kernel, rfl⟩
theorem d_M_behindSum_192 : Dj prog_14_method_57_code 192 (.ifCond .eq 8) 195 8 200 := ⟨by decide +kernel, rfl, rfl⟩
theorem d_M_behindSum_195 : Dc prog_14_method_57_code 195 (.bipush 26) 2 197 := ⟨by decide +kernel, rfl⟩
theorem d_M_behindSum_197 : Dj prog_14_method_57_code 197 (.goto 5) 200 5 202 := ⟨by decide +kernel, rfl, rfl⟩
theorem d_M_behindSum_200 : Dc prog_14_method_57_code 200 (.bipush 27) 2 202 := ⟨by decide +kernel, rfl⟩
theorem d_M_behindSum_202 : Dc prog_14_method_57_code 202 (.istore_n 2) 1 203 := ⟨by decide +kernel, rfl⟩
theorem d_M_behindSum_203 : Dc prog_14_method_57_code 203 (.aload_n 0) 1 204 := ⟨by decide +kernel, rfl⟩
theorem d_M_behindSum_204 : Dc prog_14_method_57_code 204 (.iload_n 2) 1 205 := ⟨by decide +kernel, rfl⟩
theorem d_M_behindSum_205 : Dc prog_14_method_57_code 205 (.bipush 27) 2 207 := ⟨by decide +kernel, rfl⟩
theorem d_M_behindSum_207 : Dj prog_14_method_57_code 207 (.if_icmp .ne 12) 210 12 219 := ⟨by decide +kernel, rfl, rfl⟩
theorem d_M_behindSum_210 : Dc prog_14_method_57_code 210 (.aload_n 0) 1 211 := ⟨by decide +kernel, rfl⟩
theorem d_M_behindSum_211 : Dc prog_14_method_57_code 211 (.bipush 61) 2 213 := ⟨by decide +kernel, rfl⟩
theorem d_M_behindSum_213 : Dc prog_14_method_57_code 213 (.invokevirtual 329) 3 216 := ⟨by decide +kernel, rfl⟩
theorem d_M_behindSum_216 : Dj prog_14_method_57_code 216 (.ifCond .eq 7) 219 7 223 := ⟨by decide +kernel, rfl, rfl⟩
theorem d_M_behindSum_219 : Dc prog_14_method_57_code 219 (.iconst 1) 1 220 := ⟨by decide +kernel, rfl⟩
theorem d_M_behindSum_220 : Dj prog_14_method_57_code 220 (.goto 4) 223 4 224 := ⟨by decide +kernel, rfl, rfl⟩
theorem d_M_behindSum_223 : Dc prog_14_method_57_code 223 (.iconst 0) 1 224 := ⟨by decide +kernel, rfl⟩
theorem d_M_behindSum_224 : Dc prog_14_method_57_code 224 (.invokevirtual 291) 3 227 := ⟨by decide +kernel, rfl⟩
theorem d_M_behindSum_227 : Dc prog_14_method_57_code 227 (.aload_n 0) 1 228 := ⟨by decide +kernel, rfl⟩
theorem d_M_behindSum_228 : Dc prog_14_method_57_code 228 (.getfield 258) 3 231 := ⟨by decide +kernel, rfl⟩
theorem d_M_behindSum_231 : Dj prog_14_method_57_code 231 (.ifCond .ne 14) 234 14 245 := ⟨by decide +kernel, rfl, rfl⟩
theorem d_M_behindSum_234 : Dc prog_14_method_57_code 234 (.aload_n 0) 1 235 := ⟨by decide +kernel, rfl⟩
theorem d_M_behindSum_235 : Dc prog_14_method_57_code 235 (.iconst 5) 1 236 := ⟨by decide +kernel, rfl⟩
theorem d_M_behindSum_236 : Dc prog_14_method_57_code 236 (.invokevirtual 362) 3 239 := ⟨by decide +kernel, rfl⟩
theorem d_M_behindSum_239 : Dc prog_14_method_57_code 239 (.aload_n 0) 1 240 := ⟨by decide +kernel, rfl⟩
theorem d_M_behindSum_240 : Dc prog_14_method_57_code 240 (.iload_n 2) 1 241 := ⟨by decide +kernel, rfl⟩
theorem d_M_behindSum_241 : Dc prog_14_method_57_code 241 (.iconst 0) 1 242 := ⟨by decide +kernel, rfl⟩
theorem d_M_behindSum_242 : Dc prog_14_method_57_code 242 (.invokevirtual 323) 3 245 := ⟨by decide +kernel, rfl⟩
theorem d_M_behindSum_245 : Dc prog_14_method_57_code 245 (.iconst 1) 1 246 := ⟨by decide +kernel, rfl⟩
theorem d_M_behindSum_246 : Dc prog_14_method_57_code 246 (.ireturn) 1 247 := ⟨by decide +kernel, rfl⟩
theorem d_M_behindTest_0 : Dc prog_14_method_58_code 0 (.aload_n 0) 1 1 := ⟨by decide +kernel, rfl⟩
theorem d_M_behindTest_1 : Dc prog_14_method_58_code 1 (.ldc2_w 372) 3 4 := ⟨by decide +kernel, rfl⟩
theorem d_M_behindTest_4 : Dc prog_14_method_58_code 4 (.invokevirtual 316) 3 7 := ⟨by decide +kernel, rfl⟩
theorem d_M_behindTest_7 : Dc prog_14_method_58_code 7 (.istore_n 1) 1 8 := ⟨by decide +kernel, rfl⟩
theorem d_M_behindTest_8 : Dc prog_14_method_58_code 8 (.iload_n 1) 1 9 := ⟨by decide +kernel, rfl⟩
theorem d_M_behindTest_9 : Dj prog_14_method_58_code 9 (.ifCond .ne 13) 12 13 22 := ⟨by decide +kernel, rfl, rfl⟩
theorem d_M_behindTest_12 : Dc prog_14_method_58_code 12 (.aload_n 0) 1 13 := ⟨by decide +kernel, rfl⟩
theorem d_M_behindTest_13 : Dc prog_14_method_58_code 13 (.ldc2_w 374) 3 16 := ⟨by decide +kernel, rfl⟩
theorem d_M_behindTest_16 : Dc prog_14_method_58_code 16 (.invokevirtual 316) 3 19 := ⟨by decide +kernel, rfl⟩
theorem d_M_behindTest_19 : Dj prog_14_method_58_code 19 (.ifCond .eq 57) 22 57 76 := ⟨by decide +kernel, rfl, rfl⟩
theorem d_M_behindTest_22 : Dc prog_14_method_58_code 22 (.aload_n 0) 1 23 := ⟨by decide +kernel, rfl⟩
theorem d_M_behindTest_23 : Dc prog_14_method_58_code 23 (.iload_n 1) 1 24 := ⟨by decide +kernel, rfl⟩
theorem d_M_behindTest_24 : Dj prog_14_method_58_code 24 (.ifCond .eq 7) 27 7 31 := ⟨by decide +kernel, rfl, rfl⟩
theorem d_M_behindTest_27 : Dc prog_14_method_58_code 27 (.iconst 2) 1 28 := ⟨by decide +kernel, rfl⟩
theorem d_M_behindTest_28 : Dj prog_14_method_58_code 28 (.goto 4) 31 4 32 := ⟨by decide +kernel, rfl, rfl⟩
theorem d_M_behindTest_31 : Dc prog_14_method_58_code 31 (.iconst 1) 1 32 := ⟨by decide +kernel, rfl⟩
theorem d_M_behindTest_32 : Dc prog_14_method_58_code 32 (.invokevirtual 362) 3 35 := ⟨by decide +kernel, rfl⟩
theorem d_M_behindTest_35 : Dc prog_14_method_58_code 35 (.aload_n 0) 1 36 := ⟨by decide +kernel, rfl⟩
theorem d_M_behindTest_36 : Dc prog_14_method_58_code 36 (.iload_n 1) 1 37 := ⟨by decide +kernel, rfl⟩
theorem d_M_behindTest_37 : Dj prog_14_method_58_code 37 (.ifCond .eq 8) 40 8 45 := ⟨by decide +kernel, rfl, rfl⟩
theorem d_M_behindTest_40 : Dc prog_14_method_58_code 40 (.bipush 29) 2 42 := ⟨by decide +kernel, rfl⟩
theorem d_M_behindTest_42 : Dj prog_14_method_58_code 42 (.goto 5) 45 5 47 := ⟨by decide +kernel, rfl, rfl⟩
theorem d_M_behindTest_45 : Dc prog_14_method_58_code 45 (.bipush 30) 2 47 := ⟨by decide +kernel, rfl⟩
theorem d_M_behindTest_47 : Dc prog_14_method_58_code 47 (.aload_n 0) 1 48 := ⟨by decide +kernel, rfl⟩
theorem d_M_behindTest_48 : Dc prog_14_method_58_code 48 (.getfield 295) 3 51 := ⟨by decide +kernel, rfl⟩
theorem d_M_behindTest_51 : Dc prog_14_method_58_code 51 (.invokevirtual 323) 3 54 := ⟨by decide +kernel, rfl⟩
theorem d_M_behindTest_54 : Dc prog_14_method_58_code 54 (.aload_n 0) 1 55 := ⟨by decide +kernel, rfl⟩
theorem d_M_behindTest_55 : Dc prog_14_method_58_code 55 (.iload_n 1) 1 56 := ⟨by decide +kernel, rfl⟩
theorem d_M_behindTest_56 : Dj prog_14_method_58_code 56 (.ifCond .eq 8) 59 8 64 := ⟨by decide +kernel, rfl, rfl⟩
theorem d_M_behindTest_59 : Dc prog_14_method_58_code 59 (.bipush 29) 2 61 := ⟨by decide +kernel, rfl⟩
theorem d_M_behindTest_61 : Dj prog_14_method_58_code 61 (.goto 5) 64 5 66 := ⟨by decide +kernel, rfl, rfl⟩
theorem d_M_behindTest_64 : Dc prog_14_method_58_code 64 (.bipush 30) 2 66 := ⟨by decide +kernel, rfl⟩
theorem d_M_behindTest_66 : Dc prog_14_method_58_code 66 (.iconst 0) 1 67 := ⟨by decide +kernel, rfl⟩
theorem d_M_behindTest_67 : Dc prog_14_method_58_code 67 (.invokevirtual 304) 3 70 := ⟨by decide +kernel, rfl⟩
theorem d_M_behindTest_70 : Dc prog_14_method_58_code 70 (.aload_n 0) 1 71 := ⟨by decide +kernel, rfl⟩
theorem d_M_behindTest_71 : Dc prog_14_method_58_code 71 (.invokevirtual 262) 3 74 := ⟨by decide +kernel, rfl⟩
theorem d_M_behindTest_74 : Dc prog_14_method_58_code 74 (.iconst 0) 1 75 := ⟨by decide +kernel, rfl⟩
theorem d_M_behindTest_75 : Dc prog_14_method_58_code 75 (.ireturn) 1 76 := ⟨by decide +kernel, rfl⟩
theorem d_M_behindTest_76 : Dc prog_14_method_58_code 76 (.aload_n 0) 1 77 := ⟨by decide +kernel, rfl⟩
theorem d_M_behindTest_77 : Dc prog_14_method_58_code 77 (.invokevirtual 365) 3 80 := ⟨by decide +kernel, rfl⟩
theorem d_M_behindTest_80 : Dc prog_14_method_58_code 80 (.iconst (-1)) 1 81 := ⟨by decide +kernel, rfl⟩
theorem d_M_behindTest_81 : Dj prog_14_method_58_code 81 (.if_icmp .ne 5) 84 5 86 := ⟨by decide +kernel, rfl, rfl⟩
theorem d_M_behindTest_84 : Dc prog_14_method_58_code 84 (.iconst 4) 1 85 := ⟨by decide +kernel, rfl⟩
theorem d_M_behindTest_85 : Dc prog_14_method_58_code 85 (.ireturn) 1 86 := ⟨by decide +kernel, rfl⟩
theorem d_M_behindTest_86 : Dc prog_14_method_58_code 86 (.aload_n 0) 1 87 := ⟨by decide +kernel, rfl⟩
theorem d_M_behindTest_87 : Dc prog_14_method_58_code 87 (.aload_n 0) 1 88 := ⟨by decide +kernel, rfl⟩
theorem d_M_behindTest_88 : Dc prog_14_method_58_code 88 (.bipush 41) 2 90 := ⟨by decide +kernel, rfl⟩
theorem d_M_behindTest_90 : Dc prog_14_method_58_code 90 (.invokevirtual 329) 3 93 := ⟨by decide +kernel, rfl⟩
theorem d_M_behindTest_93 : Dc prog_14_method_58_code 93 (.invokevirtual 291) 3 96 := ⟨by decide +kernel, rfl⟩
theorem d_M_behindTest_96 : Dc prog_14_method_58_code 96 (.aload_n 0) 1 97 := ⟨by decide +kernel, rfl⟩
theorem d_M_behindTest_97 : Dc prog_14_method_58_code 97 (.getfield 258) 3 100 := ⟨by decide +kernel, rfl⟩
theorem d_M_behindTest_100 : Dj prog_14_method_58_code 100 (.ifCond .ne 28) 103 28 128 := ⟨by decide +kernel, rfl, rfl⟩
theorem d_M_behindTest_103 : Dc prog_14_method_58_code 103 (.aload_n 0) 1 104 := ⟨by decide +kernel, rfl⟩
theorem d_M_behindTest_104 : Dc prog_14_method_58_code 104 (.iconst 1) 1 105 := ⟨by decide +kernel, rfl⟩
theorem d_M_behindTest_105 : Dc prog_14_method_58_code 105 (.invokevirtual 362) 3 108 := ⟨by decide +kernel, rfl⟩
theorem d_M_behindTest_108 : Dc prog_14_method_58_code 108 (.aload_n 0) 1 109 := ⟨by decide +kernel, rfl⟩
theorem d_M_behindTest_109 : Dc prog_14_method_58_code 109 (.dup) 1 110 := ⟨by decide +kernel, rfl⟩
theorem d_M_behindTest_110 : Dc prog_14_method_58_code 110 (.getfield 298) 3 113 := ⟨by decide +kernel, rfl⟩
theorem d_M_behindTest_113 : Dc prog_14_method_58_code 113 (.iconst 1) 1 114 := ⟨by decide +kernel, rfl⟩
theorem d_M_behindTest_114 : Dc prog_14_method_58_code 114 (.isub) 1 115 := ⟨by decide +kernel, rfl⟩
theorem d_M_behindTest_115 : Dc prog_14_method_58_code 115 (.putfield 298) 3 118 := ⟨by decide +kernel, rfl⟩
theorem d_M_behindTest_118 : Dc prog_14_method_58_code 118 (.aload_n 0) 1 119 := ⟨by decide +kernel, rfl⟩
theorem d_M_behindTest_119 : Dc prog_14_method_58_code 119 (.dup) 1 120 := ⟨by decide +kernel, rfl⟩
theorem d_M_behindTest_120 : Dc prog_14_method_58_code 120 (.getfield 320) 3 123 := ⟨by decide +kernel, rfl⟩
theorem d_M_behindTest_123 : Dc prog_14_method_58_code 123 (.iconst 1) 1 124 := ⟨by decide +kernel, rfl⟩
theorem d_M_behindTest_124 : Dc prog_14_method_58_code 124 (.isub) 1 125 := ⟨by decide +kernel, rfl⟩
theorem d_M_behindTest_125 : Dc prog_14_method_58_code 125 (.putfield 320) 3 128 := ⟨by decide +kernel, rfl⟩
theorem d_M_behindTest_128 : Dc prog_14_method_58_code 128 (.iconst 2) 1 129 := ⟨by decide +kernel, rfl⟩
theorem d_M_behindTest_129 : Dc prog_14_method_58_code 129 (.ireturn) 1 130 := ⟨by decide +kernel, rfl⟩
theorem ml_M_362 : Cond.methodLink "SubgraphDeskModel" 362 m_M_settle.1 ∈ lw_gd := gd 1925 (by decide +kernel) rfl
theorem ml_M_365 : Cond.methodLink "SubgraphDeskModel" 365 m_M_inner.1 ∈ lw_gd := gd 1929 (by decide +kernel) rfl
theorem ml_M_368 : Cond.methodLink "SubgraphDeskModel" 368 m_M_isCompared.1 ∈ lw_gd := gd 1933 (by decide +kernel) rfl
theorem k_M_372 : Cond.constantLong "SubgraphDeskModel" 372 (1476) ∈ lw_gd := gd 1945 (by decide +kernel) rfl
theorem k_M_374 : Cond.constantLong "SubgraphDeskModel" 374 (498) ∈ lw_gd := gd 1946 (by decide +kernel) rfl
theorem isS_no {t : List Nat} {f a b : Nat} (h : isS t f a) (hne : a ≠ b) : ¬ isS t f b := fun z => hne (h.2.symm.trans z.2)
/-- what holds of the pile where it is settled down to P -/
def SetW (P Q : List (Nat × Nat)) (least : Nat) : Prop := (∀ q ∈ Q, least ≤ bindsN q.1) ∧ ∀ x, 0 < P.length → cO P (P.length - 1) = x → bindsN x < least
theorem setC_len : ∀ (Q c : List (Nat × Nat)), (setC Q c).length ≤ c.length + Q.length
  | [], c => Nat.le_refl _
  | q :: Q, c => by
    have ih := setC_len Q c
    show (popC q (setC Q c)).length ≤ _
    unfold popC
    split
    · rw [List.length_set, List.length_cons]; omega
    · rw [List.length_append, List.length_singleton, List.length_cons]; omega
theorem c_M_behindSum_op20 {E : EV} {w : Mem} {t : List Nat} {f p : Nat} {c P Q : List (Nat × Nat)} {od : Nat} (h : RdP w t f p c (P ++ Q) od) (hP : PileW c (P ++ Q)) {b : Int32} (hs : isS t f 43) (hS : SetW P Q 5) (hlt : P.length < 400) : T E m_M_behindSum 3 0 0 [.ref 89, .int b] w (fun r w2 => r = some (.int (nI 1)) ∧ FrR w w2 ∧ RdP w2 t (nxT t f) p (setC Q c) (P ++ [(20, 0)]) od) := by
  refine T_of (L := [.ref 89, .int b, un, un]) cf_M_behindSum rfl (Nat.le_of_ble_eq_true rfl) (fun X hX hF => ?_)
  refine g_aload0 hX d_M_behindSum_0 ?_
  refine g_bipush (v := nI 43) hX d_M_behindSum_1 rfl ?_
  refine g_callV (As := [_]) hX hF.1 d_M_behindSum_3 ml_M_329 cf_M_isSign cv_M_isSign rfl rfl (c_M_isSign h.1 (by decide)) (rcv_obj hX (lv_89 _) rfl rfl) (by omega) (by omega) (by omega) (Nat.le_of_ble_eq_true rfl) ?_
  refine ret_k ?_
  refine g_ifB_eq hX d_M_behindSum_6 (fun h => absurd hs h) (fun c0 => ?_)
  refine g_bipush (v := nI 20) hX d_M_behindSum_9 rfl ?_
  refine g_goto hX d_M_behindSum_11 ?_
  refine g_istore2 hX d_M_behindSum_71 rfl (by decide) ?_
  refine g_iload2 hX d_M_behindSum_72 ?_
  refine g_iconst (v := -1) hX d_M_behindSum_73 rfl ?_
  refine g_icmp_eq hX d_M_behindSum_74 (fun h => absurd h (show ¬ nI 20 = -1 by decide)) (fun c1 => ?_)
  refine g_aload0 hX d_M_behindSum_77 ?_
  refine g_iload2 hX d_M_behindSum_78 ?_
  refine g_callS (As := [_]) hX hF.1 d_M_behindSum_79 ml_M_301 cf_M_binds cs_M_binds rfl (c_M_binds (a := 20) (by decide)) (by omega) (by omega) (by omega) (Nat.le_of_ble_eq_true rfl) ?_
  refine ret_k ?_
  refine g_topi (show nI (bindsN 20) = nI 5 from rfl) ?_
  refine g_callV (As := [_]) hX hF.1 d_M_behindSum_82 ml_M_362 cf_M_settle cv_M_settle rfl rfl (c_M_settle (least := 5) (P := P) (Q := Q) (by decide) (by decide) h.2.2.1 h.2.2.2.1 hP hS.1 hS.2) (rcv_obj hX (lv_89 _) rfl rfl) (by omega) (by omega) (by omega) (Nat.le_of_ble_eq_true rfl) ?_
  rintro _ w2 ⟨rfl, hf2, hc2, hp2⟩
  have h2 := h.set hf2 hc2 hp2
  show G0 _ _ _ _ _ _ _ _
  refine g_aload0 hX d_M_behindSum_85 ?_
  refine g_iload2 hX d_M_behindSum_86 ?_
  refine g_iconst (v := nI 0) hX d_M_behindSum_87 rfl ?_
  refine g_callV (As := [_, _]) hX hF.1 d_M_behindSum_88 ml_M_323 cf_M_push cv_M_push rfl rfl (c_M_push (m := P.length) hp2.1 (by omega)) (rcv_obj hX (lv_89 _) rfl rfl) (by omega) (by omega) (by omega) (Nat.le_of_ble_eq_true rfl) ?_
  refine ret_k ?_
  refine g_aload0 hX d_M_behindSum_91 ?_
  have h3 := RdP.push (q := (20, 0)) h2
  refine g_callV (As := []) hX hF.1 d_M_behindSum_92 ml_M_262 cf_M_next cv_M_next rfl rfl (c_M_next h3.1) (rcv_obj hX (lv_89 _) rfl rfl) (by omega) (by omega) (by omega) (Nat.le_of_ble_eq_true rfl) ?_
  rintro _ w4 ⟨rfl, hf4, hT4⟩
  show G0 _ _ _ _ _ _ _ _
  refine g_iconst (v := nI 1) hX d_M_behindSum_95 rfl ?_
  refine g_iret hX hF d_M_behindSum_96 (by omega) (by omega) ?_
  exact ⟨rfl, ((((hf2.R.I (by omega)).I (by omega)).I (by omega)).tr hf4.R), h3.tok hf4 hT4⟩
theorem c_M_behindSum_op21 {E : EV} {w : Mem} {t : List Nat} {f p : Nat} {c P Q : List (Nat × Nat)} {od : Nat} (h : RdP w t f p c (P ++ Q) od) (hP : PileW c (P ++ Q)) {b : Int32} (hs : isS t f 45) (hS : SetW P Q 5) (hlt : P.length < 400) : T E m_M_behindSum 3 0 0 [.ref 89, .int b] w (fun r w2 => r = some (.int (nI 1)) ∧ FrR w w2 ∧ RdP w2 t (nxT t f) p (setC Q c) (P ++ [(21, 0)]) od) := by
  refine T_of (L := [.ref 89, .int b, un, un]) cf_M_behindSum rfl (Nat.le_of_ble_eq_true rfl) (fun X hX hF => ?_)
  refine g_aload0 hX d_M_behindSum_0 ?_
  refine g_bipush (v := nI 43) hX d_M_behindSum_1 rfl ?_
  refine g_callV (As := [_]) hX hF.1 d_M_behindSum_3 ml_M_329 cf_M_isSign cv_M_isSign rfl rfl (c_M_isSign h.1 (by decide)) (rcv_obj hX (lv_89 _) rfl rfl) (by omega) (by omega) (by omega) (Nat.le_of_ble_eq_true rfl) ?_
  refine ret_k ?_
  refine g_ifB_eq hX d_M_behindSum_6 (fun c0 => ?_) (fun h => absurd h (isS_no hs (by decide)))
  refine g_aload0 hX d_M_behindSum_14 ?_
  refine g_bipush (v := nI 45) hX d_M_behindSum_15 rfl ?_
  refine g_callV (As := [_]) hX hF.1 d_M_behindSum_17 ml_M_329 cf_M_isSign cv_M_isSign rfl rfl (c_M_isSign h.1 (by decide)) (rcv_obj hX (lv_89 _) rfl rfl) (by omega) (by omega) (by omega) (Nat.le_of_ble_eq_true rfl) ?_
  refine ret_k ?_
  refine g_ifB_eq hX d_M_behindSum_20 (fun h => absurd hs h) (fun c1 => ?_)
  refine g_bipush (v := nI 21) hX d_M_behindSum_23 rfl ?_
  refine g_goto hX d_M_behindSum_25 ?_
  refine g_istore2 hX d_M_behindSum_71 rfl (by decide) ?_
  refine g_iload2 hX d_M_behindSum_72 ?_
  refine g_iconst (v := -1) hX d_M_behindSum_73 rfl ?_
  refine g_icmp_eq hX d_M_behindSum_74 (fun h => absurd h (show ¬ nI 21 = -1 by decide)) (fun c2 => ?_)
  refine g_aload0 hX d_M_behindSum_77 ?_
  refine g_iload2 hX d_M_behindSum_78 ?_
  refine g_callS (As := [_]) hX hF.1 d_M_behindSum_79 ml_M_301 cf_M_binds cs_M_binds rfl (c_M_binds (a := 21) (by decide)) (by omega) (by omega) (by omega) (Nat.le_of_ble_eq_true rfl) ?_
  refine ret_k ?_
  refine g_topi (show nI (bindsN 21) = nI 5 from rfl) ?_
  refine g_callV (As := [_]) hX hF.1 d_M_behindSum_82 ml_M_362 cf_M_settle cv_M_settle rfl rfl (c_M_settle (least := 5) (P := P) (Q := Q) (by decide) (by decide) h.2.2.1 h.2.2.2.1 hP hS.1 hS.2) (rcv_obj hX (lv_89 _) rfl rfl) (by omega) (by omega) (by omega) (Nat.le_of_ble_eq_true rfl) ?_
  rintro _ w2 ⟨rfl, hf2, hc2, hp2⟩
  have h2 := h.set hf2 hc2 hp2
  show G0 _ _ _ _ _ _ _ _
  refine g_aload0 hX d_M_behindSum_85 ?_
  refine g_iload2 hX d_M_behindSum_86 ?_
  refine g_iconst (v := nI 0) hX d_M_behindSum_87 rfl ?_
  refine g_callV (As := [_, _]) hX hF.1 d_M_behindSum_88 ml_M_323 cf_M_push cv_M_push rfl rfl (c_M_push (m := P.length) hp2.1 (by omega)) (rcv_obj hX (lv_89 _) rfl rfl) (by omega) (by omega) (by omega) (Nat.le_of_ble_eq_true rfl) ?_
  refine ret_k ?_
  refine g_aload0 hX d_M_behindSum_91 ?_
  have h3 := RdP.push (q := (21, 0)) h2
  refine g_callV (As := []) hX hF.1 d_M_behindSum_92 ml_M_262 cf_M_next cv_M_next rfl rfl (c_M_next h3.1) (rcv_obj hX (lv_89 _) rfl rfl) (by omega) (by omega) (by omega) (Nat.le_of_ble_eq_true rfl) ?_
  rintro _ w4 ⟨rfl, hf4, hT4⟩
  show G0 _ _ _ _ _ _ _ _
  refine g_iconst (v := nI 1) hX d_M_behindSum_95 rfl ?_
  refine g_iret hX hF d_M_behindSum_96 (by omega) (by omega) ?_
  exact ⟨rfl, ((((hf2.R.I (by omega)).I (by omega)).I (by omega)).tr hf4.R), h3.tok hf4 hT4⟩
theorem c_M_behindSum_op22 {E : EV} {w : Mem} {t : List Nat} {f p : Nat} {c P Q : List (Nat × Nat)} {od : Nat} (h : RdP w t f p c (P ++ Q) od) (hP : PileW c (P ++ Q)) {b : Int32} (hs : isS t f 42) (hS : SetW P Q 6) (hlt : P.length < 400) : T E m_M_behindSum 3 0 0 [.ref 89, .int b] w (fun r w2 => r = some (.int (nI 1)) ∧ FrR w w2 ∧ RdP w2 t (nxT t f) p (setC Q c) (P ++ [(22, 0)]) od) := by
  refine T_of (L := [.ref 89, .int b, un, un]) cf_M_behindSum rfl (Nat.le_of_ble_eq_true rfl) (fun X hX hF => ?_)
  refine g_aload0 hX d_M_behindSum_0 ?_
  refine g_bipush (v := nI 43) hX d_M_behindSum_1 rfl ?_
  refine g_callV (As := [_]) hX hF.1 d_M_behindSum_3 ml_M_329 cf_M_isSign cv_M_isSign rfl rfl (c_M_isSign h.1 (by decide)) (rcv_obj hX (lv_89 _) rfl rfl) (by omega) (by omega) (by omega) (Nat.le_of_ble_eq_true rfl) ?_
  refine ret_k ?_
  refine g_ifB_eq hX d_M_behindSum_6 (fun c0 => ?_) (fun h => absurd h (isS_no hs (by decide)))
  refine g_aload0 hX d_M_behindSum_14 ?_
  refine g_bipush (v := nI 45) hX d_M_behindSum_15 rfl ?_
  refine g_callV (As := [_]) hX hF.1 d_M_behindSum_17 ml_M_329 cf_M_isSign cv_M_isSign rfl rfl (c_M_isSign h.1 (by decide)) (rcv_obj hX (lv_89 _) rfl rfl) (by omega) (by omega) (by omega) (Nat.le_of_ble_eq_true rfl) ?_
  refine ret_k ?_
  refine g_ifB_eq hX d_M_behindSum_20 (fun c1 => ?_) (fun h => absurd h (isS_no hs (by decide)))
  refine g_aload0 hX d_M_behindSum_28 ?_
  refine g_bipush (v := nI 42) hX d_M_behindSum_29 rfl ?_
  refine g_callV (As := [_]) hX hF.1 d_M_behindSum_31 ml_M_329 cf_M_isSign cv_M_isSign rfl rfl (c_M_isSign h.1 (by decide)) (rcv_obj hX (lv_89 _) rfl rfl) (by omega) (by omega) (by omega) (Nat.le_of_ble_eq_true rfl) ?_
  refine ret_k ?_
  refine g_ifB_eq hX d_M_behindSum_34 (fun h => absurd hs h) (fun c2 => ?_)
  refine g_bipush (v := nI 22) hX d_M_behindSum_37 rfl ?_
  refine g_goto hX d_M_behindSum_39 ?_
  refine g_istore2 hX d_M_behindSum_71 rfl (by decide) ?_
  refine g_iload2 hX d_M_behindSum_72 ?_
  refine g_iconst (v := -1) hX d_M_behindSum_73 rfl ?_
  refine g_icmp_eq hX d_M_behindSum_74 (fun h => absurd h (show ¬ nI 22 = -1 by decide)) (fun c3 => ?_)
  refine g_aload0 hX d_M_behindSum_77 ?_
  refine g_iload2 hX d_M_behindSum_78 ?_
  refine g_callS (As := [_]) hX hF.1 d_M_behindSum_79 ml_M_301 cf_M_binds cs_M_binds rfl (c_M_binds (a := 22) (by decide)) (by omega) (by omega) (by omega) (Nat.le_of_ble_eq_true rfl) ?_
  refine ret_k ?_
  refine g_topi (show nI (bindsN 22) = nI 6 from rfl) ?_
  refine g_callV (As := [_]) hX hF.1 d_M_behindSum_82 ml_M_362 cf_M_settle cv_M_settle rfl rfl (c_M_settle (least := 6) (P := P) (Q := Q) (by decide) (by decide) h.2.2.1 h.2.2.2.1 hP hS.1 hS.2) (rcv_obj hX (lv_89 _) rfl rfl) (by omega) (by omega) (by omega) (Nat.le_of_ble_eq_true rfl) ?_
  rintro _ w2 ⟨rfl, hf2, hc2, hp2⟩
  have h2 := h.set hf2 hc2 hp2
  show G0 _ _ _ _ _ _ _ _
  refine g_aload0 hX d_M_behindSum_85 ?_
  refine g_iload2 hX d_M_behindSum_86 ?_
  refine g_iconst (v := nI 0) hX d_M_behindSum_87 rfl ?_
  refine g_callV (As := [_, _]) hX hF.1 d_M_behindSum_88 ml_M_323 cf_M_push cv_M_push rfl rfl (c_M_push (m := P.length) hp2.1 (by omega)) (rcv_obj hX (lv_89 _) rfl rfl) (by omega) (by omega) (by omega) (Nat.le_of_ble_eq_true rfl) ?_
  refine ret_k ?_
  refine g_aload0 hX d_M_behindSum_91 ?_
  have h3 := RdP.push (q := (22, 0)) h2
  refine g_callV (As := []) hX hF.1 d_M_behindSum_92 ml_M_262 cf_M_next cv_M_next rfl rfl (c_M_next h3.1) (rcv_obj hX (lv_89 _) rfl rfl) (by omega) (by omega) (by omega) (Nat.le_of_ble_eq_true rfl) ?_
  rintro _ w4 ⟨rfl, hf4, hT4⟩
  show G0 _ _ _ _ _ _ _ _
  refine g_iconst (v := nI 1) hX d_M_behindSum_95 rfl ?_
  refine g_iret hX hF d_M_behindSum_96 (by omega) (by omega) ?_
  exact ⟨rfl, ((((hf2.R.I (by omega)).I (by omega)).I (by omega)).tr hf4.R), h3.tok hf4 hT4⟩
theorem c_M_behindSum_op23 {E : EV} {w : Mem} {t : List Nat} {f p : Nat} {c P Q : List (Nat × Nat)} {od : Nat} (h : RdP w t f p c (P ++ Q) od) (hP : PileW c (P ++ Q)) {b : Int32} (hs : isS t f 47) (hS : SetW P Q 6) (hlt : P.length < 400) : T E m_M_behindSum 3 0 0 [.ref 89, .int b] w (fun r w2 => r = some (.int (nI 1)) ∧ FrR w w2 ∧ RdP w2 t (nxT t f) p (setC Q c) (P ++ [(23, 0)]) od) := by
  refine T_of (L := [.ref 89, .int b, un, un]) cf_M_behindSum rfl (Nat.le_of_ble_eq_true rfl) (fun X hX hF => ?_)
  refine g_aload0 hX d_M_behindSum_0 ?_
  refine g_bipush (v := nI 43) hX d_M_behindSum_1 rfl ?_
  refine g_callV (As := [_]) hX hF.1 d_M_behindSum_3 ml_M_329 cf_M_isSign cv_M_isSign rfl rfl (c_M_isSign h.1 (by decide)) (rcv_obj hX (lv_89 _) rfl rfl) (by omega) (by omega) (by omega) (Nat.le_of_ble_eq_true rfl) ?_
  refine ret_k ?_
  refine g_ifB_eq hX d_M_behindSum_6 (fun c0 => ?_) (fun h => absurd h (isS_no hs (by decide)))
  refine g_aload0 hX d_M_behindSum_14 ?_
  refine g_bipush (v := nI 45) hX d_M_behindSum_15 rfl ?_
  refine g_callV (As := [_]) hX hF.1 d_M_behindSum_17 ml_M_329 cf_M_isSign cv_M_isSign rfl rfl (c_M_isSign h.1 (by decide)) (rcv_obj hX (lv_89 _) rfl rfl) (by omega) (by omega) (by omega) (Nat.le_of_ble_eq_true rfl) ?_
  refine ret_k ?_
  refine g_ifB_eq hX d_M_behindSum_20 (fun c1 => ?_) (fun h => absurd h (isS_no hs (by decide)))
  refine g_aload0 hX d_M_behindSum_28 ?_
  refine g_bipush (v := nI 42) hX d_M_behindSum_29 rfl ?_
  refine g_callV (As := [_]) hX hF.1 d_M_behindSum_31 ml_M_329 cf_M_isSign cv_M_isSign rfl rfl (c_M_isSign h.1 (by decide)) (rcv_obj hX (lv_89 _) rfl rfl) (by omega) (by omega) (by omega) (Nat.le_of_ble_eq_true rfl) ?_
  refine ret_k ?_
  refine g_ifB_eq hX d_M_behindSum_34 (fun c2 => ?_) (fun h => absurd h (isS_no hs (by decide)))
  refine g_aload0 hX d_M_behindSum_42 ?_
  refine g_bipush (v := nI 47) hX d_M_behindSum_43 rfl ?_
  refine g_callV (As := [_]) hX hF.1 d_M_behindSum_45 ml_M_329 cf_M_isSign cv_M_isSign rfl rfl (c_M_isSign h.1 (by decide)) (rcv_obj hX (lv_89 _) rfl rfl) (by omega) (by omega) (by omega) (Nat.le_of_ble_eq_true rfl) ?_
  refine ret_k ?_
  refine g_ifB_eq hX d_M_behindSum_48 (fun h => absurd hs h) (fun c3 => ?_)
  refine g_bipush (v := nI 23) hX d_M_behindSum_51 rfl ?_
  refine g_goto hX d_M_behindSum_53 ?_
  refine g_istore2 hX d_M_behindSum_71 rfl (by decide) ?_
  refine g_iload2 hX d_M_behindSum_72 ?_
  refine g_iconst (v := -1) hX d_M_behindSum_73 rfl ?_
  refine g_icmp_eq hX d_M_behindSum_74 (fun h => absurd h (show ¬ nI 23 = -1 by decide)) (fun c4 => ?_)
  refine g_aload0 hX d_M_behindSum_77 ?_
  refine g_iload2 hX d_M_behindSum_78 ?_
  refine g_callS (As := [_]) hX hF.1 d_M_behindSum_79 ml_M_301 cf_M_binds cs_M_binds rfl (c_M_binds (a := 23) (by decide)) (by omega) (by omega) (by omega) (Nat.le_of_ble_eq_true rfl) ?_
  refine ret_k ?_
  refine g_topi (show nI (bindsN 23) = nI 6 from rfl) ?_
  refine g_callV (As := [_]) hX hF.1 d_M_behindSum_82 ml_M_362 cf_M_settle cv_M_settle rfl rfl (c_M_settle (least := 6) (P := P) (Q := Q) (by decide) (by decide) h.2.2.1 h.2.2.2.1 hP hS.1 hS.2) (rcv_obj hX (lv_89 _) rfl rfl) (by omega) (by omega) (by omega) (Nat.le_of_ble_eq_true rfl) ?_
  rintro _ w2 ⟨rfl, hf2, hc2, hp2⟩
  have h2 := h.set hf2 hc2 hp2
  show G0 _ _ _ _ _ _ _ _
  refine g_aload0 hX d_M_behindSum_85 ?_
  refine g_iload2 hX d_M_behindSum_86 ?_
  refine g_iconst (v := nI 0) hX d_M_behindSum_87 rfl ?_
  refine g_callV (As := [_, _]) hX hF.1 d_M_behindSum_88 ml_M_323 cf_M_push cv_M_push rfl rfl (c_M_push (m := P.length) hp2.1 (by omega)) (rcv_obj hX (lv_89 _) rfl rfl) (by omega) (by omega) (by omega) (Nat.le_of_ble_eq_true rfl) ?_
  refine ret_k ?_
  refine g_aload0 hX d_M_behindSum_91 ?_
  have h3 := RdP.push (q := (23, 0)) h2
  refine g_callV (As := []) hX hF.1 d_M_behindSum_92 ml_M_262 cf_M_next cv_M_next rfl rfl (c_M_next h3.1) (rcv_obj hX (lv_89 _) rfl rfl) (by omega) (by omega) (by omega) (Nat.le_of_ble_eq_true rfl) ?_
  rintro _ w4 ⟨rfl, hf4, hT4⟩
  show G0 _ _ _ _ _ _ _ _
  refine g_iconst (v := nI 1) hX d_M_behindSum_95 rfl ?_
  refine g_iret hX hF d_M_behindSum_96 (by omega) (by omega) ?_
  exact ⟨rfl, ((((hf2.R.I (by omega)).I (by omega)).I (by omega)).tr hf4.R), h3.tok hf4 hT4⟩
theorem c_M_behindSum_op24 {E : EV} {w : Mem} {t : List Nat} {f p : Nat} {c P Q : List (Nat × Nat)} {od : Nat} (h : RdP w t f p c (P ++ Q) od) (hP : PileW c (P ++ Q)) {b : Int32} (hs : isS t f 37) (hS : SetW P Q 6) (hlt : P.length < 400) : T E m_M_behindSum 3 0 0 [.ref 89, .int b] w (fun r w2 => r = some (.int (nI 1)) ∧ FrR w w2 ∧ RdP w2 t (nxT t f) p (setC Q c) (P ++ [(24, 0)]) od) := by
  refine T_of (L := [.ref 89, .int b, un, un]) cf_M_behindSum rfl (Nat.le_of_ble_eq_true rfl) (fun X hX hF => ?_)
  refine g_aload0 hX d_M_behindSum_0 ?_
  refine g_bipush (v := nI 43) hX d_M_behindSum_1 rfl ?_
  refine g_callV (As := [_]) hX hF.1 d_M_behindSum_3 ml_M_329 cf_M_isSign cv_M_isSign rfl rfl (c_M_isSign h.1 (by decide)) (rcv_obj hX (lv_89 _) rfl rfl) (by omega) (by omega) (by omega) (Nat.le_of_ble_eq_true rfl) ?_
  refine ret_k ?_
  refine g_ifB_eq hX d_M_behindSum_6 (fun c0 => ?_) (fun h => absurd h (isS_no hs (by decide)))
  refine g_aload0 hX d_M_behindSum_14 ?_
  refine g_bipush (v := nI 45) hX d_M_behindSum_15 rfl ?_
  refine g_callV (As := [_]) hX hF.1 d_M_behindSum_17 ml_M_329 cf_M_isSign cv_M_isSign rfl rfl (c_M_isSign h.1 (by decide)) (rcv_obj hX (lv_89 _) rfl rfl) (by omega) (by omega) (by omega) (Nat.le_of_ble_eq_true rfl) ?_
  refine ret_k ?_
  refine g_ifB_eq hX d_M_behindSum_20 (fun c1 => ?_) (fun h => absurd h (isS_no hs (by decide)))
  refine g_aload0 hX d_M_behindSum_28 ?_
  refine g_bipush (v := nI 42) hX d_M_behindSum_29 rfl ?_
  refine g_callV (As := [_]) hX hF.1 d_M_behindSum_31 ml_M_329 cf_M_isSign cv_M_isSign rfl rfl (c_M_isSign h.1 (by decide)) (rcv_obj hX (lv_89 _) rfl rfl) (by omega) (by omega) (by omega) (Nat.le_of_ble_eq_true rfl) ?_
  refine ret_k ?_
  refine g_ifB_eq hX d_M_behindSum_34 (fun c2 => ?_) (fun h => absurd h (isS_no hs (by decide)))
  refine g_aload0 hX d_M_behindSum_42 ?_
  refine g_bipush (v := nI 47) hX d_M_behindSum_43 rfl ?_
  refine g_callV (As := [_]) hX hF.1 d_M_behindSum_45 ml_M_329 cf_M_isSign cv_M_isSign rfl rfl (c_M_isSign h.1 (by decide)) (rcv_obj hX (lv_89 _) rfl rfl) (by omega) (by omega) (by omega) (Nat.le_of_ble_eq_true rfl) ?_
  refine ret_k ?_
  refine g_ifB_eq hX d_M_behindSum_48 (fun c3 => ?_) (fun h => absurd h (isS_no hs (by decide)))
  refine g_aload0 hX d_M_behindSum_56 ?_
  refine g_bipush (v := nI 37) hX d_M_behindSum_57 rfl ?_
  refine g_callV (As := [_]) hX hF.1 d_M_behindSum_59 ml_M_329 cf_M_isSign cv_M_isSign rfl rfl (c_M_isSign h.1 (by decide)) (rcv_obj hX (lv_89 _) rfl rfl) (by omega) (by omega) (by omega) (Nat.le_of_ble_eq_true rfl) ?_
  refine ret_k ?_
  refine g_ifB_eq hX d_M_behindSum_62 (fun h => absurd hs h) (fun c4 => ?_)
  refine g_bipush (v := nI 24) hX d_M_behindSum_65 rfl ?_
  refine g_goto hX d_M_behindSum_67 ?_
  refine g_istore2 hX d_M_behindSum_71 rfl (by decide) ?_
  refine g_iload2 hX d_M_behindSum_72 ?_
  refine g_iconst (v := -1) hX d_M_behindSum_73 rfl ?_
  refine g_icmp_eq hX d_M_behindSum_74 (fun h => absurd h (show ¬ nI 24 = -1 by decide)) (fun c5 => ?_)
  refine g_aload0 hX d_M_behindSum_77 ?_
  refine g_iload2 hX d_M_behindSum_78 ?_
  refine g_callS (As := [_]) hX hF.1 d_M_behindSum_79 ml_M_301 cf_M_binds cs_M_binds rfl (c_M_binds (a := 24) (by decide)) (by omega) (by omega) (by omega) (Nat.le_of_ble_eq_true rfl) ?_
  refine ret_k ?_
  refine g_topi (show nI (bindsN 24) = nI 6 from rfl) ?_
  refine g_callV (As := [_]) hX hF.1 d_M_behindSum_82 ml_M_362 cf_M_settle cv_M_settle rfl rfl (c_M_settle (least := 6) (P := P) (Q := Q) (by decide) (by decide) h.2.2.1 h.2.2.2.1 hP hS.1 hS.2) (rcv_obj hX (lv_89 _) rfl rfl) (by omega) (by omega) (by omega) (Nat.le_of_ble_eq_true rfl) ?_
  rintro _ w2 ⟨rfl, hf2, hc2, hp2⟩
  have h2 := h.set hf2 hc2 hp2
  show G0 _ _ _ _ _ _ _ _
  refine g_aload0 hX d_M_behindSum_85 ?_
  refine g_iload2 hX d_M_behindSum_86 ?_
  refine g_iconst (v := nI 0) hX d_M_behindSum_87 rfl ?_
  refine g_callV (As := [_, _]) hX hF.1 d_M_behindSum_88 ml_M_323 cf_M_push cv_M_push rfl rfl (c_M_push (m := P.length) hp2.1 (by omega)) (rcv_obj hX (lv_89 _) rfl rfl) (by omega) (by omega) (by omega) (Nat.le_of_ble_eq_true rfl) ?_
  refine ret_k ?_
  refine g_aload0 hX d_M_behindSum_91 ?_
  have h3 := RdP.push (q := (24, 0)) h2
  refine g_callV (As := []) hX hF.1 d_M_behindSum_92 ml_M_262 cf_M_next cv_M_next rfl rfl (c_M_next h3.1) (rcv_obj hX (lv_89 _) rfl rfl) (by omega) (by omega) (by omega) (Nat.le_of_ble_eq_true rfl) ?_
  rintro _ w4 ⟨rfl, hf4, hT4⟩
  show G0 _ _ _ _ _ _ _ _
  refine g_iconst (v := nI 1) hX d_M_behindSum_95 rfl ?_
  refine g_iret hX hF d_M_behindSum_96 (by omega) (by omega) ?_
  exact ⟨rfl, ((((hf2.R.I (by omega)).I (by omega)).I (by omega)).tr hf4.R), h3.tok hf4 hT4⟩
def sg5 : List Nat := [43, 45, 42, 47, 37]
theorem no5 {t : List Nat} {f : Nat} (h1 : sgn t f sgT = none) (h2 : sgn t f sgA = none) : ∀ k, k < 5 → ¬ isS t f (gA sg5 k) := by
  have a1 := sgn_none h1
  have a2 := sgn_none h2
  intro k hk
  rcases (show k = 0 ∨ k = 1 ∨ k = 2 ∨ k = 3 ∨ k = 4 by omega) with rfl | rfl | rfl | rfl | rfl
  · exact a2 (43, 20) (by decide)
  · exact a2 (45, 21) (by decide)
  · exact a1 (42, 22) (by decide)
  · exact a1 (47, 23) (by decide)
  · exact a1 (37, 24) (by decide)
theorem c_M_behindSum_closeY {E : EV} {w : Mem} {t : List Nat} {f p : Nat} {c P Q : List (Nat × Nat)} {od : Nat} (h : RdP w t f p c ((P ++ [(32, 0)]) ++ Q) od) (hP : PileW c ((P ++ [(32, 0)]) ++ Q)) (hno : ∀ k, k < 5 → ¬ isS t f (gA sg5 k)) {b : Int32} (hs : isS t f 93) (hin : innK ((P ++ [(32, 0)]) ++ Q) ((P ++ [(32, 0)]) ++ Q).length = nI 32) (hS : SetW (P ++ [(32, 0)]) Q 5) (hod : 1 ≤ od) : T E m_M_behindSum 3 0 0 [.ref 89, .int b] w (fun r w2 => r = some (.int (nI 3)) ∧ FrR w w2 ∧ RdP w2 t (nxT t f) p (setC Q c) P (od - 1)) := by
  refine T_of (L := [.ref 89, .int b, un, un]) cf_M_behindSum rfl (Nat.le_of_ble_eq_true rfl) (fun X hX hF => ?_)
  refine g_aload0 hX d_M_behindSum_0 ?_
  refine g_bipush (v := nI 43) hX d_M_behindSum_1 rfl ?_
  refine g_callV (As := [_]) hX hF.1 d_M_behindSum_3 ml_M_329 cf_M_isSign cv_M_isSign rfl rfl (c_M_isSign h.1 (by decide)) (rcv_obj hX (lv_89 _) rfl rfl) (by omega) (by omega) (by omega) (Nat.le_of_ble_eq_true rfl) ?_
  refine ret_k ?_
  refine g_ifB_eq hX d_M_behindSum_6 (fun c0 => ?_) (fun h => absurd h (hno 0 (by decide)))
  refine g_aload0 hX d_M_behindSum_14 ?_
  refine g_bipush (v := nI 45) hX d_M_behindSum_15 rfl ?_
  refine g_callV (As := [_]) hX hF.1 d_M_behindSum_17 ml_M_329 cf_M_isSign cv_M_isSign rfl rfl (c_M_isSign h.1 (by decide)) (rcv_obj hX (lv_89 _) rfl rfl) (by omega) (by omega) (by omega) (Nat.le_of_ble_eq_true rfl) ?_
  refine ret_k ?_
  refine g_ifB_eq hX d_M_behindSum_20 (fun c1 => ?_) (fun h => absurd h (hno 1 (by decide)))
  refine g_aload0 hX d_M_behindSum_28 ?_
  refine g_bipush (v := nI 42) hX d_M_behindSum_29 rfl ?_
  refine g_callV (As := [_]) hX hF.1 d_M_behindSum_31 ml_M_329 cf_M_isSign cv_M_isSign rfl rfl (c_M_isSign h.1 (by decide)) (rcv_obj hX (lv_89 _) rfl rfl) (by omega) (by omega) (by omega) (Nat.le_of_ble_eq_true rfl) ?_
  refine ret_k ?_
  refine g_ifB_eq hX d_M_behindSum_34 (fun c2 => ?_) (fun h => absurd h (hno 2 (by decide)))
  refine g_aload0 hX d_M_behindSum_42 ?_
  refine g_bipush (v := nI 47) hX d_M_behindSum_43 rfl ?_
  refine g_callV (As := [_]) hX hF.1 d_M_behindSum_45 ml_M_329 cf_M_isSign cv_M_isSign rfl rfl (c_M_isSign h.1 (by decide)) (rcv_obj hX (lv_89 _) rfl rfl) (by omega) (by omega) (by omega) (Nat.le_of_ble_eq_true rfl) ?_
  refine ret_k ?_
  refine g_ifB_eq hX d_M_behindSum_48 (fun c3 => ?_) (fun h => absurd h (hno 3 (by decide)))
  refine g_aload0 hX d_M_behindSum_56 ?_
  refine g_bipush (v := nI 37) hX d_M_behindSum_57 rfl ?_
  refine g_callV (As := [_]) hX hF.1 d_M_behindSum_59 ml_M_329 cf_M_isSign cv_M_isSign rfl rfl (c_M_isSign h.1 (by decide)) (rcv_obj hX (lv_89 _) rfl rfl) (by omega) (by omega) (by omega) (Nat.le_of_ble_eq_true rfl) ?_
  refine ret_k ?_
  refine g_ifB_eq hX d_M_behindSum_62 (fun c4 => ?_) (fun h => absurd h (hno 4 (by decide)))
  refine g_iconst (v := -1) hX d_M_behindSum_70 rfl ?_
  refine g_istore2 hX d_M_behindSum_71 rfl (by decide) ?_
  refine g_iload2 hX d_M_behindSum_72 ?_
  refine g_iconst (v := -1) hX d_M_behindSum_73 rfl ?_
  refine g_icmp_eq hX d_M_behindSum_74 (fun c5 => ?_) (fun h => absurd rfl h)
  refine g_aload0 hX d_M_behindSum_97 ?_
  refine g_callV (As := []) hX hF.1 d_M_behindSum_98 ml_M_365 cf_M_inner cv_M_inner rfl rfl (c_M_inner h.2.2.2.1 hP) (rcv_obj hX (lv_89 _) rfl rfl) (by omega) (by omega) (by omega) (Nat.le_of_ble_eq_true rfl) ?_
  refine ret_k ?_
  refine g_topi hin ?_
  refine g_istore3 hX d_M_behindSum_101 rfl (by decide) ?_
  refine g_iload3 hX d_M_behindSum_102 ?_
  refine g_bipush (v := nI 32) hX d_M_behindSum_103 rfl ?_
  refine g_icmpN_ne hX d_M_behindSum_105 (by omega) (by omega) (fun h => absurd (by omega) h) (fun c6 => ?_)
  refine g_aload0 hX d_M_behindSum_108 ?_
  refine g_aload0 hX d_M_behindSum_109 ?_
  refine g_bipush (v := nI 93) hX d_M_behindSum_110 rfl ?_
  refine g_callV (As := [_]) hX hF.1 d_M_behindSum_112 ml_M_329 cf_M_isSign cv_M_isSign rfl rfl (c_M_isSign h.1 (by decide)) (rcv_obj hX (lv_89 _) rfl rfl) (by omega) (by omega) (by omega) (Nat.le_of_ble_eq_true rfl) ?_
  refine ret_k ?_
  refine g_callV (As := [_]) hX hF.1 d_M_behindSum_115 ml_M_291 cf_M_must cv_M_must rfl rfl (c_M_mustY h.1 h.2.2.2.2.2.1 (by rw [b2i_t hs]; rfl)) (rcv_obj hX (lv_89 _) rfl rfl) (by omega) (by omega) (by omega) (Nat.le_of_ble_eq_true rfl) ?_
  rintro _ w2 ⟨rfl, hf, hT2⟩
  have h2 := h.tok hf hT2
  show G0 _ _ _ _ _ _ _ _
  refine g_aload0 hX d_M_behindSum_118 ?_
  refine g_getZ hX d_M_behindSum_119 fl_M_258 (lv_89 _) ?_
  refine g_topi h2.2.2.2.2.2.1 ?_
  refine g_if_ne hX d_M_behindSum_122 (fun h => absurd (by decide) h) (fun c7 => ?_)
  refine g_aload0 hX d_M_behindSum_125 ?_
  refine g_iconst (v := nI 5) hX d_M_behindSum_126 rfl ?_
  refine g_callV (As := [_]) hX hF.1 d_M_behindSum_127 ml_M_362 cf_M_settle cv_M_settle rfl rfl (c_M_settle (least := 5) (P := P ++ [(32, 0)]) (Q := Q) (by decide) (by decide) h2.2.2.1 h2.2.2.2.1 hP hS.1 hS.2) (rcv_obj hX (lv_89 _) rfl rfl) (by omega) (by omega) (by omega) (Nat.le_of_ble_eq_true rfl) ?_
  rintro _ w3 ⟨rfl, hf3, hc3, hp3⟩
  have h3 := h2.set hf3 hc3 hp3
  show G0 _ _ _ _ _ _ _ _
  refine g_aload0 hX d_M_behindSum_130 ?_
  refine g_dup hX d_M_behindSum_131 rfl ?_
  refine g_getI hX d_M_behindSum_132 fl_M_298 (lv_89 _) ?_
  refine g_topi (show rI w3 89 29 = nI (P.length + 1) by rw [hp3.1, List.length_append]; rfl) ?_
  refine g_iconst (v := nI 1) hX d_M_behindSum_135 rfl ?_
  refine g_isubN hX d_M_behindSum_136 (by omega) ?_
  refine g_topi (show nI (P.length + 1 - 1) = nI P.length from rfl) ?_
  refine g_putI hX d_M_behindSum_137 fl_M_298 (lv_89 _) ?_
  refine g_aload0 hX d_M_behindSum_140 ?_
  refine g_dup hX d_M_behindSum_141 rfl ?_
  refine g_getI hX d_M_behindSum_142 fl_M_320 (lv_89 _) ?_
  refine g_topi (h3.less (s := P)).2.2.2.2.1 ?_
  refine g_iconst (v := nI 1) hX d_M_behindSum_145 rfl ?_
  refine g_isubN hX d_M_behindSum_146 hod ?_
  refine g_putI hX d_M_behindSum_147 fl_M_320 (lv_89 _) ?_
  refine g_iconst (v := nI 3) hX d_M_behindSum_150 rfl ?_
  refine g_iret hX hF d_M_behindSum_151 (by omega) (by omega) ?_
  exact ⟨rfl, (((hf.R.tr hf3.R).I (by omega)).I (by omega)), (h3.less (s := P)).opd⟩
theorem c_M_behindSum_closeN {E : EV} {w : Mem} {t : List Nat} {f p : Nat} {c s : List (Nat × Nat)} {od : Nat} (h : RdP w t f p c s od) (hP : PileW c s) (hno : ∀ k, k < 5 → ¬ isS t f (gA sg5 k)) {b : Int32} (hs : ¬ isS t f 93) (hin : innK s s.length = nI 32) : T E m_M_behindSum 3 0 0 [.ref 89, .int b] w (fun r w2 => r = some (.int (nI 3)) ∧ FrR w w2 ∧ BadP w2 t f) := by
  refine T_of (L := [.ref 89, .int b, un, un]) cf_M_behindSum rfl (Nat.le_of_ble_eq_true rfl) (fun X hX hF => ?_)
  refine g_aload0 hX d_M_behindSum_0 ?_
  refine g_bipush (v := nI 43) hX d_M_behindSum_1 rfl ?_
  refine g_callV (As := [_]) hX hF.1 d_M_behindSum_3 ml_M_329 cf_M_isSign cv_M_isSign rfl rfl (c_M_isSign h.1 (by decide)) (rcv_obj hX (lv_89 _) rfl rfl) (by omega) (by omega) (by omega) (Nat.le_of_ble_eq_true rfl) ?_
  refine ret_k ?_
  refine g_ifB_eq hX d_M_behindSum_6 (fun c0 => ?_) (fun h => absurd h (hno 0 (by decide)))
  refine g_aload0 hX d_M_behindSum_14 ?_
  refine g_bipush (v := nI 45) hX d_M_behindSum_15 rfl ?_
  refine g_callV (As := [_]) hX hF.1 d_M_behindSum_17 ml_M_329 cf_M_isSign cv_M_isSign rfl rfl (c_M_isSign h.1 (by decide)) (rcv_obj hX (lv_89 _) rfl rfl) (by omega) (by omega) (by omega) (Nat.le_of_ble_eq_true rfl) ?_
  refine ret_k ?_
  refine g_ifB_eq hX d_M_behindSum_20 (fun c1 => ?_) (fun h => absurd h (hno 1 (by decide)))
  refine g_aload0 hX d_M_behindSum_28 ?_
  refine g_bipush (v := nI 42) hX d_M_behindSum_29 rfl ?_
  refine g_callV (As := [_]) hX hF.1 d_M_behindSum_31 ml_M_329 cf_M_isSign cv_M_isSign rfl rfl (c_M_isSign h.1 (by decide)) (rcv_obj hX (lv_89 _) rfl rfl) (by omega) (by omega) (by omega) (Nat.le_of_ble_eq_true rfl) ?_
  refine ret_k ?_
  refine g_ifB_eq hX d_M_behindSum_34 (fun c2 => ?_) (fun h => absurd h (hno 2 (by decide)))
  refine g_aload0 hX d_M_behindSum_42 ?_
  refine g_bipush (v := nI 47) hX d_M_behindSum_43 rfl ?_
  refine g_callV (As := [_]) hX hF.1 d_M_behindSum_45 ml_M_329 cf_M_isSign cv_M_isSign rfl rfl (c_M_isSign h.1 (by decide)) (rcv_obj hX (lv_89 _) rfl rfl) (by omega) (by omega) (by omega) (Nat.le_of_ble_eq_true rfl) ?_
  refine ret_k ?_
  refine g_ifB_eq hX d_M_behindSum_48 (fun c3 => ?_) (fun h => absurd h (hno 3 (by decide)))
  refine g_aload0 hX d_M_behindSum_56 ?_
  refine g_bipush (v := nI 37) hX d_M_behindSum_57 rfl ?_
  refine g_callV (As := [_]) hX hF.1 d_M_behindSum_59 ml_M_329 cf_M_isSign cv_M_isSign rfl rfl (c_M_isSign h.1 (by decide)) (rcv_obj hX (lv_89 _) rfl rfl) (by omega) (by omega) (by omega) (Nat.le_of_ble_eq_true rfl) ?_
  refine ret_k ?_
  refine g_ifB_eq hX d_M_behindSum_62 (fun c4 => ?_) (fun h => absurd h (hno 4 (by decide)))
  refine g_iconst (v := -1) hX d_M_behindSum_70 rfl ?_
  refine g_istore2 hX d_M_behindSum_71 rfl (by decide) ?_
  refine g_iload2 hX d_M_behindSum_72 ?_
  refine g_iconst (v := -1) hX d_M_behindSum_73 rfl ?_
  refine g_icmp_eq hX d_M_behindSum_74 (fun c5 => ?_) (fun h => absurd rfl h)
  refine g_aload0 hX d_M_behindSum_97 ?_
  refine g_callV (As := []) hX hF.1 d_M_behindSum_98 ml_M_365 cf_M_inner cv_M_inner rfl rfl (c_M_inner h.2.2.2.1 hP) (rcv_obj hX (lv_89 _) rfl rfl) (by omega) (by omega) (by omega) (Nat.le_of_ble_eq_true rfl) ?_
  refine ret_k ?_
  refine g_topi hin ?_
  refine g_istore3 hX d_M_behindSum_101 rfl (by decide) ?_
  refine g_iload3 hX d_M_behindSum_102 ?_
  refine g_bipush (v := nI 32) hX d_M_behindSum_103 rfl ?_
  refine g_icmpN_ne hX d_M_behindSum_105 (by omega) (by omega) (fun h => absurd (by omega) h) (fun c6 => ?_)
  refine g_aload0 hX d_M_behindSum_108 ?_
  refine g_aload0 hX d_M_behindSum_109 ?_
  refine g_bipush (v := nI 93) hX d_M_behindSum_110 rfl ?_
  refine g_callV (As := [_]) hX hF.1 d_M_behindSum_112 ml_M_329 cf_M_isSign cv_M_isSign rfl rfl (c_M_isSign h.1 (by decide)) (rcv_obj hX (lv_89 _) rfl rfl) (by omega) (by omega) (by omega) (Nat.le_of_ble_eq_true rfl) ?_
  refine ret_k ?_
  refine g_callV (As := [_]) hX hF.1 d_M_behindSum_115 ml_M_291 cf_M_must cv_M_must rfl rfl (c_M_mustN h.1.2.1 h.2.2.2.2.2.1 (by rw [b2i_f hs]; rfl)) (rcv_obj hX (lv_89 _) rfl rfl) (by omega) (by omega) (by omega) (Nat.le_of_ble_eq_true rfl) ?_
  refine ret_k ?_
  refine g_aload0 hX d_M_behindSum_118 ?_
  refine g_getZ hX d_M_behindSum_119 fl_M_258 (lv_89 _) ?_
  refine g_topi (h.bad hP).2.1 ?_
  refine g_if_ne hX d_M_behindSum_122 (fun c7 => ?_) (fun h => absurd h (by decide))
  refine g_iconst (v := nI 3) hX d_M_behindSum_150 rfl ?_
  refine g_iret hX hF d_M_behindSum_151 (by omega) (by omega) ?_
  exact ⟨rfl, (FrR.rf w).bad, h.bad hP⟩
theorem c_M_behindSum_over {E : EV} {w : Mem} {t : List Nat} {f p : Nat} {c s : List (Nat × Nat)} {od : Nat} (h : RdP w t f p c s od) (hP : PileW c s) (hno : ∀ k, k < 5 → ¬ isS t f (gA sg5 k)) (hin : innK s s.length = -1) : T E m_M_behindSum 3 0 0 [.ref 89, .int (nI 0)] w (Ret (some (.int (nI 4))) w) := by
  refine T_of (L := [.ref 89, .int (nI 0), un, un]) cf_M_behindSum rfl (Nat.le_of_ble_eq_true rfl) (fun X hX hF => ?_)
  refine g_aload0 hX d_M_behindSum_0 ?_
  refine g_bipush (v := nI 43) hX d_M_behindSum_1 rfl ?_
  refine g_callV (As := [_]) hX hF.1 d_M_behindSum_3 ml_M_329 cf_M_isSign cv_M_isSign rfl rfl (c_M_isSign h.1 (by decide)) (rcv_obj hX (lv_89 _) rfl rfl) (by omega) (by omega) (by omega) (Nat.le_of_ble_eq_true rfl) ?_
  refine ret_k ?_
  refine g_ifB_eq hX d_M_behindSum_6 (fun c0 => ?_) (fun h => absurd h (hno 0 (by decide)))
  refine g_aload0 hX d_M_behindSum_14 ?_
  refine g_bipush (v := nI 45) hX d_M_behindSum_15 rfl ?_
  refine g_callV (As := [_]) hX hF.1 d_M_behindSum_17 ml_M_329 cf_M_isSign cv_M_isSign rfl rfl (c_M_isSign h.1 (by decide)) (rcv_obj hX (lv_89 _) rfl rfl) (by omega) (by omega) (by omega) (Nat.le_of_ble_eq_true rfl) ?_
  refine ret_k ?_
  refine g_ifB_eq hX d_M_behindSum_20 (fun c1 => ?_) (fun h => absurd h (hno 1 (by decide)))
  refine g_aload0 hX d_M_behindSum_28 ?_
  refine g_bipush (v := nI 42) hX d_M_behindSum_29 rfl ?_
  refine g_callV (As := [_]) hX hF.1 d_M_behindSum_31 ml_M_329 cf_M_isSign cv_M_isSign rfl rfl (c_M_isSign h.1 (by decide)) (rcv_obj hX (lv_89 _) rfl rfl) (by omega) (by omega) (by omega) (Nat.le_of_ble_eq_true rfl) ?_
  refine ret_k ?_
  refine g_ifB_eq hX d_M_behindSum_34 (fun c2 => ?_) (fun h => absurd h (hno 2 (by decide)))
  refine g_aload0 hX d_M_behindSum_42 ?_
  refine g_bipush (v := nI 47) hX d_M_behindSum_43 rfl ?_
  refine g_callV (As := [_]) hX hF.1 d_M_behindSum_45 ml_M_329 cf_M_isSign cv_M_isSign rfl rfl (c_M_isSign h.1 (by decide)) (rcv_obj hX (lv_89 _) rfl rfl) (by omega) (by omega) (by omega) (Nat.le_of_ble_eq_true rfl) ?_
  refine ret_k ?_
  refine g_ifB_eq hX d_M_behindSum_48 (fun c3 => ?_) (fun h => absurd h (hno 3 (by decide)))
  refine g_aload0 hX d_M_behindSum_56 ?_
  refine g_bipush (v := nI 37) hX d_M_behindSum_57 rfl ?_
  refine g_callV (As := [_]) hX hF.1 d_M_behindSum_59 ml_M_329 cf_M_isSign cv_M_isSign rfl rfl (c_M_isSign h.1 (by decide)) (rcv_obj hX (lv_89 _) rfl rfl) (by omega) (by omega) (by omega) (Nat.le_of_ble_eq_true rfl) ?_
  refine ret_k ?_
  refine g_ifB_eq hX d_M_behindSum_62 (fun c4 => ?_) (fun h => absurd h (hno 4 (by decide)))
  refine g_iconst (v := -1) hX d_M_behindSum_70 rfl ?_
  refine g_istore2 hX d_M_behindSum_71 rfl (by decide) ?_
  refine g_iload2 hX d_M_behindSum_72 ?_
  refine g_iconst (v := -1) hX d_M_behindSum_73 rfl ?_
  refine g_icmp_eq hX d_M_behindSum_74 (fun c5 => ?_) (fun h => absurd rfl h)
  refine g_aload0 hX d_M_behindSum_97 ?_
  refine g_callV (As := []) hX hF.1 d_M_behindSum_98 ml_M_365 cf_M_inner cv_M_inner rfl rfl (c_M_inner h.2.2.2.1 hP) (rcv_obj hX (lv_89 _) rfl rfl) (by omega) (by omega) (by omega) (Nat.le_of_ble_eq_true rfl) ?_
  refine ret_k ?_
  refine g_topi hin ?_
  refine g_istore3 hX d_M_behindSum_101 rfl (by decide) ?_
  refine g_iload3 hX d_M_behindSum_102 ?_
  refine g_bipush (v := nI 32) hX d_M_behindSum_103 rfl ?_
  refine g_icmp_ne hX d_M_behindSum_105 (fun c6 => ?_) (fun h => absurd h (by decide))
  refine g_iload3 hX d_M_behindSum_152 ?_
  refine g_iconst (v := -1) hX d_M_behindSum_153 rfl ?_
  refine g_icmp_ne hX d_M_behindSum_154 (fun h => absurd rfl h) (fun c7 => ?_)
  refine g_iload1 hX d_M_behindSum_157 ?_
  refine g_if_ne hX d_M_behindSum_158 (fun h => absurd (by decide) h) (fun c8 => ?_)
  refine g_iconst (v := nI 4) hX d_M_behindSum_161 rfl ?_
  refine g_iret hX hF d_M_behindSum_162 (by omega) (by omega) ?_
  exact ⟨rfl, rfl⟩
theorem c_M_behindSum_told {E : EV} {w : Mem} {t : List Nat} {f p : Nat} {c s : List (Nat × Nat)} {od : Nat} (h : RdP w t f p c s od) (hP : PileW c s) (hno : ∀ k, k < 5 → ¬ isS t f (gA sg5 k)) (hin : ¬ innK s s.length = nI 32) (hc : cmpK s s.length = true) : T E m_M_behindSum 3 0 0 [.ref 89, .int (nI 1)] w (Ret (some (.int (nI 2))) w) := by
  refine T_of (L := [.ref 89, .int (nI 1), un, un]) cf_M_behindSum rfl (Nat.le_of_ble_eq_true rfl) (fun X hX hF => ?_)
  refine g_aload0 hX d_M_behindSum_0 ?_
  refine g_bipush (v := nI 43) hX d_M_behindSum_1 rfl ?_
  refine g_callV (As := [_]) hX hF.1 d_M_behindSum_3 ml_M_329 cf_M_isSign cv_M_isSign rfl rfl (c_M_isSign h.1 (by decide)) (rcv_obj hX (lv_89 _) rfl rfl) (by omega) (by omega) (by omega) (Nat.le_of_ble_eq_true rfl) ?_
  refine ret_k ?_
  refine g_ifB_eq hX d_M_behindSum_6 (fun c0 => ?_) (fun h => absurd h (hno 0 (by decide)))
  refine g_aload0 hX d_M_behindSum_14 ?_
  refine g_bipush (v := nI 45) hX d_M_behindSum_15 rfl ?_
  refine g_callV (As := [_]) hX hF.1 d_M_behindSum_17 ml_M_329 cf_M_isSign cv_M_isSign rfl rfl (c_M_isSign h.1 (by decide)) (rcv_obj hX (lv_89 _) rfl rfl) (by omega) (by omega) (by omega) (Nat.le_of_ble_eq_true rfl) ?_
  refine ret_k ?_
  refine g_ifB_eq hX d_M_behindSum_20 (fun c1 => ?_) (fun h => absurd h (hno 1 (by decide)))
  refine g_aload0 hX d_M_behindSum_28 ?_
  refine g_bipush (v := nI 42) hX d_M_behindSum_29 rfl ?_
  refine g_callV (As := [_]) hX hF.1 d_M_behindSum_31 ml_M_329 cf_M_isSign cv_M_isSign rfl rfl (c_M_isSign h.1 (by decide)) (rcv_obj hX (lv_89 _) rfl rfl) (by omega) (by omega) (by omega) (Nat.le_of_ble_eq_true rfl) ?_
  refine ret_k ?_
  refine g_ifB_eq hX d_M_behindSum_34 (fun c2 => ?_) (fun h => absurd h (hno 2 (by decide)))
  refine g_aload0 hX d_M_behindSum_42 ?_
  refine g_bipush (v := nI 47) hX d_M_behindSum_43 rfl ?_
  refine g_callV (As := [_]) hX hF.1 d_M_behindSum_45 ml_M_329 cf_M_isSign cv_M_isSign rfl rfl (c_M_isSign h.1 (by decide)) (rcv_obj hX (lv_89 _) rfl rfl) (by omega) (by omega) (by omega) (Nat.le_of_ble_eq_true rfl) ?_
  refine ret_k ?_
  refine g_ifB_eq hX d_M_behindSum_48 (fun c3 => ?_) (fun h => absurd h (hno 3 (by decide)))
  refine g_aload0 hX d_M_behindSum_56 ?_
  refine g_bipush (v := nI 37) hX d_M_behindSum_57 rfl ?_
  refine g_callV (As := [_]) hX hF.1 d_M_behindSum_59 ml_M_329 cf_M_isSign cv_M_isSign rfl rfl (c_M_isSign h.1 (by decide)) (rcv_obj hX (lv_89 _) rfl rfl) (by omega) (by omega) (by omega) (Nat.le_of_ble_eq_true rfl) ?_
  refine ret_k ?_
  refine g_ifB_eq hX d_M_behindSum_62 (fun c4 => ?_) (fun h => absurd h (hno 4 (by decide)))
  refine g_iconst (v := -1) hX d_M_behindSum_70 rfl ?_
  refine g_istore2 hX d_M_behindSum_71 rfl (by decide) ?_
  refine g_iload2 hX d_M_behindSum_72 ?_
  refine g_iconst (v := -1) hX d_M_behindSum_73 rfl ?_
  refine g_icmp_eq hX d_M_behindSum_74 (fun c5 => ?_) (fun h => absurd rfl h)
  refine g_aload0 hX d_M_behindSum_97 ?_
  refine g_callV (As := []) hX hF.1 d_M_behindSum_98 ml_M_365 cf_M_inner cv_M_inner rfl rfl (c_M_inner h.2.2.2.1 hP) (rcv_obj hX (lv_89 _) rfl rfl) (by omega) (by omega) (by omega) (Nat.le_of_ble_eq_true rfl) ?_
  refine ret_k ?_
  refine g_istore3 hX d_M_behindSum_101 rfl (by decide) ?_
  refine g_iload3 hX d_M_behindSum_102 ?_
  refine g_bipush (v := nI 32) hX d_M_behindSum_103 rfl ?_
  refine g_icmp_ne hX d_M_behindSum_105 (fun c6 => ?_) (fun h => absurd h hin)
  refine g_iload3 hX d_M_behindSum_152 ?_
  refine g_iconst (v := -1) hX d_M_behindSum_153 rfl ?_
  refine g_icmp_ne hX d_M_behindSum_154 (fun c7 => ?_) (fun c7 => ?_)
  · refine g_aload0 hX d_M_behindSum_163 ?_
    refine g_callV (As := []) hX hF.1 d_M_behindSum_164 ml_M_368 cf_M_isCompared cv_M_isCompared rfl rfl (c_M_isCompared h.2.2.2.1 hP) (rcv_obj hX (lv_89 _) rfl rfl) (by omega) (by omega) (by omega) (Nat.le_of_ble_eq_true rfl) ?_
    refine ret_k ?_
    refine g_ifB_eq hX d_M_behindSum_167 (fun h => absurd hc h) (fun c8 => ?_)
    refine g_iconst (v := nI 2) hX d_M_behindSum_170 rfl ?_
    refine g_iret hX hF d_M_behindSum_171 (by omega) (by omega) ?_
    exact ⟨rfl, rfl⟩
  · refine g_iload1 hX d_M_behindSum_157 ?_
    refine g_if_ne hX d_M_behindSum_158 (fun c9 => ?_) (fun h => absurd h (by decide))
    refine g_aload0 hX d_M_behindSum_163 ?_
    refine g_callV (As := []) hX hF.1 d_M_behindSum_164 ml_M_368 cf_M_isCompared cv_M_isCompared rfl rfl (c_M_isCompared h.2.2.2.1 hP) (rcv_obj hX (lv_89 _) rfl rfl) (by omega) (by omega) (by omega) (Nat.le_of_ble_eq_true rfl) ?_
    refine ret_k ?_
    refine g_ifB_eq hX d_M_behindSum_167 (fun h => absurd hc h) (fun c10 => ?_)
    refine g_iconst (v := nI 2) hX d_M_behindSum_170 rfl ?_
    refine g_iret hX hF d_M_behindSum_171 (by omega) (by omega) ?_
    exact ⟨rfl, rfl⟩
theorem c_M_behindSum_cmp25 {E : EV} {w : Mem} {t : List Nat} {f p : Nat} {c P Q : List (Nat × Nat)} {od : Nat} (h : RdP w t f p c (P ++ Q) od) (hP : PileW c (P ++ Q)) (hno : ∀ k, k < 5 → ¬ isS t f (gA sg5 k)) (hin : ¬ innK (P ++ Q) (P ++ Q).length = nI 32) (hc : ¬ cmpK (P ++ Q) (P ++ Q).length = true) (hs : isS t f 60) (hS : SetW P Q 5) (hlt : P.length < 400) : T E m_M_behindSum 3 0 0 [.ref 89, .int (nI 1)] w (fun r w2 => r = some (.int (nI 1)) ∧ FrR w w2 ∧ RdP w2 t (nxT t f) p (setC Q c) (P ++ [(25, 0)]) od) := by
  refine T_of (L := [.ref 89, .int (nI 1), un, un]) cf_M_behindSum rfl (Nat.le_of_ble_eq_true rfl) (fun X hX hF => ?_)
  refine g_aload0 hX d_M_behindSum_0 ?_
  refine g_bipush (v := nI 43) hX d_M_behindSum_1 rfl ?_
  refine g_callV (As := [_]) hX hF.1 d_M_behindSum_3 ml_M_329 cf_M_isSign cv_M_isSign rfl rfl (c_M_isSign h.1 (by decide)) (rcv_obj hX (lv_89 _) rfl rfl) (by omega) (by omega) (by omega) (Nat.le_of_ble_eq_true rfl) ?_
  refine ret_k ?_
  refine g_ifB_eq hX d_M_behindSum_6 (fun c0 => ?_) (fun h => absurd h (hno 0 (by decide)))
  refine g_aload0 hX d_M_behindSum_14 ?_
  refine g_bipush (v := nI 45) hX d_M_behindSum_15 rfl ?_
  refine g_callV (As := [_]) hX hF.1 d_M_behindSum_17 ml_M_329 cf_M_isSign cv_M_isSign rfl rfl (c_M_isSign h.1 (by decide)) (rcv_obj hX (lv_89 _) rfl rfl) (by omega) (by omega) (by omega) (Nat.le_of_ble_eq_true rfl) ?_
  refine ret_k ?_
  refine g_ifB_eq hX d_M_behindSum_20 (fun c1 => ?_) (fun h => absurd h (hno 1 (by decide)))
  refine g_aload0 hX d_M_behindSum_28 ?_
  refine g_bipush (v := nI 42) hX d_M_behindSum_29 rfl ?_
  refine g_callV (As := [_]) hX hF.1 d_M_behindSum_31 ml_M_329 cf_M_isSign cv_M_isSign rfl rfl (c_M_isSign h.1 (by decide)) (rcv_obj hX (lv_89 _) rfl rfl) (by omega) (by omega) (by omega) (Nat.le_of_ble_eq_true rfl) ?_
  refine ret_k ?_
  refine g_ifB_eq hX d_M_behindSum_34 (fun c2 => ?_) (fun h => absurd h (hno 2 (by decide)))
  refine g_aload0 hX d_M_behindSum_42 ?_
  refine g_bipush (v := nI 47) hX d_M_behindSum_43 rfl ?_
  refine g_callV (As := [_]) hX hF.1 d_M_behindSum_45 ml_M_329 cf_M_isSign cv_M_isSign rfl rfl (c_M_isSign h.1 (by decide)) (rcv_obj hX (lv_89 _) rfl rfl) (by omega) (by omega) (by omega) (Nat.le_of_ble_eq_true rfl) ?_
  refine ret_k ?_
  refine g_ifB_eq hX d_M_behindSum_48 (fun c3 => ?_) (fun h => absurd h (hno 3 (by decide)))
  refine g_aload0 hX d_M_behindSum_56 ?_
  refine g_bipush (v := nI 37) hX d_M_behindSum_57 rfl ?_
  refine g_callV (As := [_]) hX hF.1 d_M_behindSum_59 ml_M_329 cf_M_isSign cv_M_isSign rfl rfl (c_M_isSign h.1 (by decide)) (rcv_obj hX (lv_89 _) rfl rfl) (by omega) (by omega) (by omega) (Nat.le_of_ble_eq_true rfl) ?_
  refine ret_k ?_
  refine g_ifB_eq hX d_M_behindSum_62 (fun c4 => ?_) (fun h => absurd h (hno 4 (by decide)))
  refine g_iconst (v := -1) hX d_M_behindSum_70 rfl ?_
  refine g_istore2 hX d_M_behindSum_71 rfl (by decide) ?_
  refine g_iload2 hX d_M_behindSum_72 ?_
  refine g_iconst (v := -1) hX d_M_behindSum_73 rfl ?_
  refine g_icmp_eq hX d_M_behindSum_74 (fun c5 => ?_) (fun h => absurd rfl h)
  refine g_aload0 hX d_M_behindSum_97 ?_
  refine g_callV (As := []) hX hF.1 d_M_behindSum_98 ml_M_365 cf_M_inner cv_M_inner rfl rfl (c_M_inner h.2.2.2.1 hP) (rcv_obj hX (lv_89 _) rfl rfl) (by omega) (by omega) (by omega) (Nat.le_of_ble_eq_true rfl) ?_
  refine ret_k ?_
  refine g_istore3 hX d_M_behindSum_101 rfl (by decide) ?_
  refine g_iload3 hX d_M_behindSum_102 ?_
  refine g_bipush (v := nI 32) hX d_M_behindSum_103 rfl ?_
  refine g_icmp_ne hX d_M_behindSum_105 (fun c6 => ?_) (fun h => absurd h hin)
  refine g_iload3 hX d_M_behindSum_152 ?_
  refine g_iconst (v := -1) hX d_M_behindSum_153 rfl ?_
  refine g_icmp_ne hX d_M_behindSum_154 (fun c7 => ?_) (fun c7 => ?_)
  · refine g_aload0 hX d_M_behindSum_163 ?_
    refine g_callV (As := []) hX hF.1 d_M_behindSum_164 ml_M_368 cf_M_isCompared cv_M_isCompared rfl rfl (c_M_isCompared h.2.2.2.1 hP) (rcv_obj hX (lv_89 _) rfl rfl) (by omega) (by omega) (by omega) (Nat.le_of_ble_eq_true rfl) ?_
    refine ret_k ?_
    refine g_ifB_eq hX d_M_behindSum_167 (fun c8 => ?_) (fun h => absurd h hc)
    refine g_aload0 hX d_M_behindSum_172 ?_
    refine g_bipush (v := nI 60) hX d_M_behindSum_173 rfl ?_
    refine g_callV (As := [_]) hX hF.1 d_M_behindSum_175 ml_M_329 cf_M_isSign cv_M_isSign rfl rfl (c_M_isSign h.1 (by decide)) (rcv_obj hX (lv_89 _) rfl rfl) (by omega) (by omega) (by omega) (Nat.le_of_ble_eq_true rfl) ?_
    refine ret_k ?_
    refine g_ifB_eq hX d_M_behindSum_178 (fun h => absurd hs h) (fun c9 => ?_)
    refine g_bipush (v := nI 25) hX d_M_behindSum_181 rfl ?_
    refine g_goto hX d_M_behindSum_183 ?_
    refine g_istore2 hX d_M_behindSum_202 rfl (by decide) ?_
    refine g_aload0 hX d_M_behindSum_203 ?_
    refine g_iload2 hX d_M_behindSum_204 ?_
    refine g_bipush (v := nI 27) hX d_M_behindSum_205 rfl ?_
    refine g_icmpN_ne hX d_M_behindSum_207 (by omega) (by omega) (fun c10 => ?_) (fun h => absurd h (by omega))
    refine g_iconst (v := nI 1) hX d_M_behindSum_219 rfl ?_
    refine g_goto hX d_M_behindSum_220 ?_
    refine g_callV (As := [_]) hX hF.1 d_M_behindSum_224 ml_M_291 cf_M_must cv_M_must rfl rfl (c_M_mustY h.1 h.2.2.2.2.2.1 rfl) (rcv_obj hX (lv_89 _) rfl rfl) (by omega) (by omega) (by omega) (Nat.le_of_ble_eq_true rfl) ?_
    rintro _ w2 ⟨rfl, hf, hT2⟩
    have h2 := h.tok hf hT2
    show G0 _ _ _ _ _ _ _ _
    refine g_aload0 hX d_M_behindSum_227 ?_
    refine g_getZ hX d_M_behindSum_228 fl_M_258 (lv_89 _) ?_
    refine g_topi h2.2.2.2.2.2.1 ?_
    refine g_if_ne hX d_M_behindSum_231 (fun h => absurd (by decide) h) (fun c11 => ?_)
    refine g_aload0 hX d_M_behindSum_234 ?_
    refine g_iconst (v := nI 5) hX d_M_behindSum_235 rfl ?_
    refine g_callV (As := [_]) hX hF.1 d_M_behindSum_236 ml_M_362 cf_M_settle cv_M_settle rfl rfl (c_M_settle (least := 5) (P := P) (Q := Q) (by decide) (by decide) h2.2.2.1 h2.2.2.2.1 hP hS.1 hS.2) (rcv_obj hX (lv_89 _) rfl rfl) (by omega) (by omega) (by omega) (Nat.le_of_ble_eq_true rfl) ?_
    rintro _ w3 ⟨rfl, hf3, hc3, hp3⟩
    have h3 := h2.set hf3 hc3 hp3
    show G0 _ _ _ _ _ _ _ _
    refine g_aload0 hX d_M_behindSum_239 ?_
    refine g_iload2 hX d_M_behindSum_240 ?_
    refine g_iconst (v := nI 0) hX d_M_behindSum_241 rfl ?_
    refine g_callV (As := [_, _]) hX hF.1 d_M_behindSum_242 ml_M_323 cf_M_push cv_M_push rfl rfl (c_M_push (m := P.length) hp3.1 (by omega)) (rcv_obj hX (lv_89 _) rfl rfl) (by omega) (by omega) (by omega) (Nat.le_of_ble_eq_true rfl) ?_
    refine ret_k ?_
    refine g_iconst (v := nI 1) hX d_M_behindSum_245 rfl ?_
    refine g_iret hX hF d_M_behindSum_246 (by omega) (by omega) ?_
    exact ⟨rfl, ((((hf.R.tr hf3.R).I (by omega)).I (by omega)).I (by omega)), RdP.push (q := (25, 0)) h3⟩
  · refine g_iload1 hX d_M_behindSum_157 ?_
    refine g_if_ne hX d_M_behindSum_158 (fun c12 => ?_) (fun h => absurd h (by decide))
    refine g_aload0 hX d_M_behindSum_163 ?_
    refine g_callV (As := []) hX hF.1 d_M_behindSum_164 ml_M_368 cf_M_isCompared cv_M_isCompared rfl rfl (c_M_isCompared h.2.2.2.1 hP) (rcv_obj hX (lv_89 _) rfl rfl) (by omega) (by omega) (by omega) (Nat.le_of_ble_eq_true rfl) ?_
    refine ret_k ?_
    refine g_ifB_eq hX d_M_behindSum_167 (fun c13 => ?_) (fun h => absurd h hc)
    refine g_aload0 hX d_M_behindSum_172 ?_
    refine g_bipush (v := nI 60) hX d_M_behindSum_173 rfl ?_
    refine g_callV (As := [_]) hX hF.1 d_M_behindSum_175 ml_M_329 cf_M_isSign cv_M_isSign rfl rfl (c_M_isSign h.1 (by decide)) (rcv_obj hX (lv_89 _) rfl rfl) (by omega) (by omega) (by omega) (Nat.le_of_ble_eq_true rfl) ?_
    refine ret_k ?_
    refine g_ifB_eq hX d_M_behindSum_178 (fun h => absurd hs h) (fun c14 => ?_)
    refine g_bipush (v := nI 25) hX d_M_behindSum_181 rfl ?_
    refine g_goto hX d_M_behindSum_183 ?_
    refine g_istore2 hX d_M_behindSum_202 rfl (by decide) ?_
    refine g_aload0 hX d_M_behindSum_203 ?_
    refine g_iload2 hX d_M_behindSum_204 ?_
    refine g_bipush (v := nI 27) hX d_M_behindSum_205 rfl ?_
    refine g_icmpN_ne hX d_M_behindSum_207 (by omega) (by omega) (fun c15 => ?_) (fun h => absurd h (by omega))
    refine g_iconst (v := nI 1) hX d_M_behindSum_219 rfl ?_
    refine g_goto hX d_M_behindSum_220 ?_
    refine g_callV (As := [_]) hX hF.1 d_M_behindSum_224 ml_M_291 cf_M_must cv_M_must rfl rfl (c_M_mustY h.1 h.2.2.2.2.2.1 rfl) (rcv_obj hX (lv_89 _) rfl rfl) (by omega) (by omega) (by omega) (Nat.le_of_ble_eq_true rfl) ?_
    rintro _ w2 ⟨rfl, hf, hT2⟩
    have h2 := h.tok hf hT2
    show G0 _ _ _ _ _ _ _ _
    refine g_aload0 hX d_M_behindSum_227 ?_
    refine g_getZ hX d_M_behindSum_228 fl_M_258 (lv_89 _) ?_
    refine g_topi h2.2.2.2.2.2.1 ?_
    refine g_if_ne hX d_M_behindSum_231 (fun h => absurd (by decide) h) (fun c16 => ?_)
    refine g_aload0 hX d_M_behindSum_234 ?_
    refine g_iconst (v := nI 5) hX d_M_behindSum_235 rfl ?_
    refine g_callV (As := [_]) hX hF.1 d_M_behindSum_236 ml_M_362 cf_M_settle cv_M_settle rfl rfl (c_M_settle (least := 5) (P := P) (Q := Q) (by decide) (by decide) h2.2.2.1 h2.2.2.2.1 hP hS.1 hS.2) (rcv_obj hX (lv_89 _) rfl rfl) (by omega) (by omega) (by omega) (Nat.le_of_ble_eq_true rfl) ?_
    rintro _ w3 ⟨rfl, hf3, hc3, hp3⟩
    have h3 := h2.set hf3 hc3 hp3
    show G0 _ _ _ _ _ _ _ _
    refine g_aload0 hX d_M_behindSum_239 ?_
    refine g_iload2 hX d_M_behindSum_240 ?_
    refine g_iconst (v := nI 0) hX d_M_behindSum_241 rfl ?_
    refine g_callV (As := [_, _]) hX hF.1 d_M_behindSum_242 ml_M_323 cf_M_push cv_M_push rfl rfl (c_M_push (m := P.length) hp3.1 (by omega)) (rcv_obj hX (lv_89 _) rfl rfl) (by omega) (by omega) (by omega) (Nat.le_of_ble_eq_true rfl) ?_
    refine ret_k ?_
    refine g_iconst (v := nI 1) hX d_M_behindSum_245 rfl ?_
    refine g_iret hX hF d_M_behindSum_246 (by omega) (by omega) ?_
    exact ⟨rfl, ((((hf.R.tr hf3.R).I (by omega)).I (by omega)).I (by omega)), RdP.push (q := (25, 0)) h3⟩
theorem c_M_behindSum_cmp26 {E : EV} {w : Mem} {t : List Nat} {f p : Nat} {c P Q : List (Nat × Nat)} {od : Nat} (h : RdP w t f p c (P ++ Q) od) (hP : PileW c (P ++ Q)) (hno : ∀ k, k < 5 → ¬ isS t f (gA sg5 k)) (hin : ¬ innK (P ++ Q) (P ++ Q).length = nI 32) (hc : ¬ cmpK (P ++ Q) (P ++ Q).length = true) (hs : isS t f 62) (hS : SetW P Q 5) (hlt : P.length < 400) : T E m_M_behindSum 3 0 0 [.ref 89, .int (nI 1)] w (fun r w2 => r = some (.int (nI 1)) ∧ FrR w w2 ∧ RdP w2 t (nxT t f) p (setC Q c) (P ++ [(26, 0)]) od) := by
  refine T_of (L := [.ref 89, .int (nI 1), un, un]) cf_M_behindSum rfl (Nat.le_of_ble_eq_true rfl) (fun X hX hF => ?_)
  refine g_aload0 hX d_M_behindSum_0 ?_
  refine g_bipush (v := nI 43) hX d_M_behindSum_1 rfl ?_
  refine g_callV (As := [_]) hX hF.1 d_M_behindSum_3 ml_M_329 cf_M_isSign cv_M_isSign rfl rfl (c_M_isSign h.1 (by decide)) (rcv_obj hX (lv_89 _) rfl rfl) (by omega) (by omega) (by omega) (Nat.le_of_ble_eq_true rfl) ?_
  refine ret_k ?_
  refine g_ifB_eq hX d_M_behindSum_6 (fun c0 => ?_) (fun h => absurd h (hno 0 (by decide)))
  refine g_aload0 hX d_M_behindSum_14 ?_
  refine g_bipush (v := nI 45) hX d_M_behindSum_15 rfl ?_
  refine g_callV (As := [_]) hX hF.1 d_M_behindSum_17 ml_M_329 cf_M_isSign cv_M_isSign rfl rfl (c_M_isSign h.1 (by decide)) (rcv_obj hX (lv_89 _) rfl rfl) (by omega) (by omega) (by omega) (Nat.le_of_ble_eq_true rfl) ?_
  refine ret_k ?_
  refine g_ifB_eq hX d_M_behindSum_20 (fun c1 => ?_) (fun h => absurd h (hno 1 (by decide)))
  refine g_aload0 hX d_M_behindSum_28 ?_
  refine g_bipush (v := nI 42) hX d_M_behindSum_29 rfl ?_
  refine g_callV (As := [_]) hX hF.1 d_M_behindSum_31 ml_M_329 cf_M_isSign cv_M_isSign rfl rfl (c_M_isSign h.1 (by decide)) (rcv_obj hX (lv_89 _) rfl rfl) (by omega) (by omega) (by omega) (Nat.le_of_ble_eq_true rfl) ?_
  refine ret_k ?_
  refine g_ifB_eq hX d_M_behindSum_34 (fun c2 => ?_) (fun h => absurd h (hno 2 (by decide)))
  refine g_aload0 hX d_M_behindSum_42 ?_
  refine g_bipush (v := nI 47) hX d_M_behindSum_43 rfl ?_
  refine g_callV (As := [_]) hX hF.1 d_M_behindSum_45 ml_M_329 cf_M_isSign cv_M_isSign rfl rfl (c_M_isSign h.1 (by decide)) (rcv_obj hX (lv_89 _) rfl rfl) (by omega) (by omega) (by omega) (Nat.le_of_ble_eq_true rfl) ?_
  refine ret_k ?_
  refine g_ifB_eq hX d_M_behindSum_48 (fun c3 => ?_) (fun h => absurd h (hno 3 (by decide)))
  refine g_aload0 hX d_M_behindSum_56 ?_
  refine g_bipush (v := nI 37) hX d_M_behindSum_57 rfl ?_
  refine g_callV (As := [_]) hX hF.1 d_M_behindSum_59 ml_M_329 cf_M_isSign cv_M_isSign rfl rfl (c_M_isSign h.1 (by decide)) (rcv_obj hX (lv_89 _) rfl rfl) (by omega) (by omega) (by omega) (Nat.le_of_ble_eq_true rfl) ?_
  refine ret_k ?_
  refine g_ifB_eq hX d_M_behindSum_62 (fun c4 => ?_) (fun h => absurd h (hno 4 (by decide)))
  refine g_iconst (v := -1) hX d_M_behindSum_70 rfl ?_
  refine g_istore2 hX d_M_behindSum_71 rfl (by decide) ?_
  refine g_iload2 hX d_M_behindSum_72 ?_
  refine g_iconst (v := -1) hX d_M_behindSum_73 rfl ?_
  refine g_icmp_eq hX d_M_behindSum_74 (fun c5 => ?_) (fun h => absurd rfl h)
  refine g_aload0 hX d_M_behindSum_97 ?_
  refine g_callV (As := []) hX hF.1 d_M_behindSum_98 ml_M_365 cf_M_inner cv_M_inner rfl rfl (c_M_inner h.2.2.2.1 hP) (rcv_obj hX (lv_89 _) rfl rfl) (by omega) (by omega) (by omega) (Nat.le_of_ble_eq_true rfl) ?_
  refine ret_k ?_
  refine g_istore3 hX d_M_behindSum_101 rfl (by decide) ?_
  refine g_iload3 hX d_M_behindSum_102 ?_
  refine g_bipush (v := nI 32) hX d_M_behindSum_103 rfl ?_
  refine g_icmp_ne hX d_M_behindSum_105 (fun c6 => ?_) (fun h => absurd h hin)
  refine g_iload3 hX d_M_behindSum_152 ?_
  refine g_iconst (v := -1) hX d_M_behindSum_153 rfl ?_
  refine g_icmp_ne hX d_M_behindSum_154 (fun c7 => ?_) (fun c7 => ?_)
  · refine g_aload0 hX d_M_behindSum_163 ?_
    refine g_callV (As := []) hX hF.1 d_M_behindSum_164 ml_M_368 cf_M_isCompared cv_M_isCompared rfl rfl (c_M_isCompared h.2.2.2.1 hP) (rcv_obj hX (lv_89 _) rfl rfl) (by omega) (by omega) (by omega) (Nat.le_of_ble_eq_true rfl) ?_
    refine ret_k ?_
    refine g_ifB_eq hX d_M_behindSum_167 (fun c8 => ?_) (fun h => absurd h hc)
    refine g_aload0 hX d_M_behindSum_172 ?_
    refine g_bipush (v := nI 60) hX d_M_behindSum_173 rfl ?_
    refine g_callV (As := [_]) hX hF.1 d_M_behindSum_175 ml_M_329 cf_M_isSign cv_M_isSign rfl rfl (c_M_isSign h.1 (by decide)) (rcv_obj hX (lv_89 _) rfl rfl) (by omega) (by omega) (by omega) (Nat.le_of_ble_eq_true rfl) ?_
    refine ret_k ?_
    refine g_ifB_eq hX d_M_behindSum_178 (fun c9 => ?_) (fun h => absurd h (isS_no hs (by decide)))
    refine g_aload0 hX d_M_behindSum_186 ?_
    refine g_bipush (v := nI 62) hX d_M_behindSum_187 rfl ?_
    refine g_callV (As := [_]) hX hF.1 d_M_behindSum_189 ml_M_329 cf_M_isSign cv_M_isSign rfl rfl (c_M_isSign h.1 (by decide)) (rcv_obj hX (lv_89 _) rfl rfl) (by omega) (by omega) (by omega) (Nat.le_of_ble_eq_true rfl) ?_
    refine ret_k ?_
    refine g_ifB_eq hX d_M_behindSum_192 (fun h => absurd hs h) (fun c10 => ?_)
    refine g_bipush (v := nI 26) hX d_M_behindSum_195 rfl ?_
    refine g_goto hX d_M_behindSum_197 ?_
    refine g_istore2 hX d_M_behindSum_202 rfl (by decide) ?_
    refine g_aload0 hX d_M_behindSum_203 ?_
    refine g_iload2 hX d_M_behindSum_204 ?_
    refine g_bipush (v := nI 27) hX d_M_behindSum_205 rfl ?_
    refine g_icmpN_ne hX d_M_behindSum_207 (by omega) (by omega) (fun c11 => ?_) (fun h => absurd h (by omega))
    refine g_iconst (v := nI 1) hX d_M_behindSum_219 rfl ?_
    refine g_goto hX d_M_behindSum_220 ?_
    refine g_callV (As := [_]) hX hF.1 d_M_behindSum_224 ml_M_291 cf_M_must cv_M_must rfl rfl (c_M_mustY h.1 h.2.2.2.2.2.1 rfl) (rcv_obj hX (lv_89 _) rfl rfl) (by omega) (by omega) (by omega) (Nat.le_of_ble_eq_true rfl) ?_
    rintro _ w2 ⟨rfl, hf, hT2⟩
    have h2 := h.tok hf hT2
    show G0 _ _ _ _ _ _ _ _
    refine g_aload0 hX d_M_behindSum_227 ?_
    refine g_getZ hX d_M_behindSum_228 fl_M_258 (lv_89 _) ?_
    refine g_topi h2.2.2.2.2.2.1 ?_
    refine g_if_ne hX d_M_behindSum_231 (fun h => absurd (by decide) h) (fun c12 => ?_)
    refine g_aload0 hX d_M_behindSum_234 ?_
    refine g_iconst (v := nI 5) hX d_M_behindSum_235 rfl ?_
    refine g_callV (As := [_]) hX hF.1 d_M_behindSum_236 ml_M_362 cf_M_settle cv_M_settle rfl rfl (c_M_settle (least := 5) (P := P) (Q := Q) (by decide) (by decide) h2.2.2.1 h2.2.2.2.1 hP hS.1 hS.2) (rcv_obj hX (lv_89 _) rfl rfl) (by omega) (by omega) (by omega) (Nat.le_of_ble_eq_true rfl) ?_
    rintro _ w3 ⟨rfl, hf3, hc3, hp3⟩
    have h3 := h2.set hf3 hc3 hp3
    show G0 _ _ _ _ _ _ _ _
    refine g_aload0 hX d_M_behindSum_239 ?_
    refine g_iload2 hX d_M_behindSum_240 ?_
    refine g_iconst (v := nI 0) hX d_M_behindSum_241 rfl ?_
    refine g_callV (As := [_, _]) hX hF.1 d_M_behindSum_242 ml_M_323 cf_M_push cv_M_push rfl rfl (c_M_push (m := P.length) hp3.1 (by omega)) (rcv_obj hX (lv_89 _) rfl rfl) (by omega) (by omega) (by omega) (Nat.le_of_ble_eq_true rfl) ?_
    refine ret_k ?_
    refine g_iconst (v := nI 1) hX d_M_behindSum_245 rfl ?_
    refine g_iret hX hF d_M_behindSum_246 (by omega) (by omega) ?_
    exact ⟨rfl, ((((hf.R.tr hf3.R).I (by omega)).I (by omega)).I (by omega)), RdP.push (q := (26, 0)) h3⟩
  · refine g_iload1 hX d_M_behindSum_157 ?_
    refine g_if_ne hX d_M_behindSum_158 (fun c13 => ?_) (fun h => absurd h (by decide))
    refine g_aload0 hX d_M_behindSum_163 ?_
    refine g_callV (As := []) hX hF.1 d_M_behindSum_164 ml_M_368 cf_M_isCompared cv_M_isCompared rfl rfl (c_M_isCompared h.2.2.2.1 hP) (rcv_obj hX (lv_89 _) rfl rfl) (by omega) (by omega) (by omega) (Nat.le_of_ble_eq_true rfl) ?_
    refine ret_k ?_
    refine g_ifB_eq hX d_M_behindSum_167 (fun c14 => ?_) (fun h => absurd h hc)
    refine g_aload0 hX d_M_behindSum_172 ?_
    refine g_bipush (v := nI 60) hX d_M_behindSum_173 rfl ?_
    refine g_callV (As := [_]) hX hF.1 d_M_behindSum_175 ml_M_329 cf_M_isSign cv_M_isSign rfl rfl (c_M_isSign h.1 (by decide)) (rcv_obj hX (lv_89 _) rfl rfl) (by omega) (by omega) (by omega) (Nat.le_of_ble_eq_true rfl) ?_
    refine ret_k ?_
    refine g_ifB_eq hX d_M_behindSum_178 (fun c15 => ?_) (fun h => absurd h (isS_no hs (by decide)))
    refine g_aload0 hX d_M_behindSum_186 ?_
    refine g_bipush (v := nI 62) hX d_M_behindSum_187 rfl ?_
    refine g_callV (As := [_]) hX hF.1 d_M_behindSum_189 ml_M_329 cf_M_isSign cv_M_isSign rfl rfl (c_M_isSign h.1 (by decide)) (rcv_obj hX (lv_89 _) rfl rfl) (by omega) (by omega) (by omega) (Nat.le_of_ble_eq_true rfl) ?_
    refine ret_k ?_
    refine g_ifB_eq hX d_M_behindSum_192 (fun h => absurd hs h) (fun c16 => ?_)
    refine g_bipush (v := nI 26) hX d_M_behindSum_195 rfl ?_
    refine g_goto hX d_M_behindSum_197 ?_
    refine g_istore2 hX d_M_behindSum_202 rfl (by decide) ?_
    refine g_aload0 hX d_M_behindSum_203 ?_
    refine g_iload2 hX d_M_behindSum_204 ?_
    refine g_bipush (v := nI 27) hX d_M_behindSum_205 rfl ?_
    refine g_icmpN_ne hX d_M_behindSum_207 (by omega) (by omega) (fun c17 => ?_) (fun h => absurd h (by omega))
    refine g_iconst (v := nI 1) hX d_M_behindSum_219 rfl ?_
    refine g_goto hX d_M_behindSum_220 ?_
    refine g_callV (As := [_]) hX hF.1 d_M_behindSum_224 ml_M_291 cf_M_must cv_M_must rfl rfl (c_M_mustY h.1 h.2.2.2.2.2.1 rfl) (rcv_obj hX (lv_89 _) rfl rfl) (by omega) (by omega) (by omega) (Nat.le_of_ble_eq_true rfl) ?_
    rintro _ w2 ⟨rfl, hf, hT2⟩
    have h2 := h.tok hf hT2
    show G0 _ _ _ _ _ _ _ _
    refine g_aload0 hX d_M_behindSum_227 ?_
    refine g_getZ hX d_M_behindSum_228 fl_M_258 (lv_89 _) ?_
    refine g_topi h2.2.2.2.2.2.1 ?_
    refine g_if_ne hX d_M_behindSum_231 (fun h => absurd (by decide) h) (fun c18 => ?_)
    refine g_aload0 hX d_M_behindSum_234 ?_
    refine g_iconst (v := nI 5) hX d_M_behindSum_235 rfl ?_
    refine g_callV (As := [_]) hX hF.1 d_M_behindSum_236 ml_M_362 cf_M_settle cv_M_settle rfl rfl (c_M_settle (least := 5) (P := P) (Q := Q) (by decide) (by decide) h2.2.2.1 h2.2.2.2.1 hP hS.1 hS.2) (rcv_obj hX (lv_89 _) rfl rfl) (by omega) (by omega) (by omega) (Nat.le_of_ble_eq_true rfl) ?_
    rintro _ w3 ⟨rfl, hf3, hc3, hp3⟩
    have h3 := h2.set hf3 hc3 hp3
    show G0 _ _ _ _ _ _ _ _
    refine g_aload0 hX d_M_behindSum_239 ?_
    refine g_iload2 hX d_M_behindSum_240 ?_
    refine g_iconst (v := nI 0) hX d_M_behindSum_241 rfl ?_
    refine g_callV (As := [_, _]) hX hF.1 d_M_behindSum_242 ml_M_323 cf_M_push cv_M_push rfl rfl (c_M_push (m := P.length) hp3.1 (by omega)) (rcv_obj hX (lv_89 _) rfl rfl) (by omega) (by omega) (by omega) (Nat.le_of_ble_eq_true rfl) ?_
    refine ret_k ?_
    refine g_iconst (v := nI 1) hX d_M_behindSum_245 rfl ?_
    refine g_iret hX hF d_M_behindSum_246 (by omega) (by omega) ?_
    exact ⟨rfl, ((((hf.R.tr hf3.R).I (by omega)).I (by omega)).I (by omega)), RdP.push (q := (26, 0)) h3⟩
theorem c_M_behindSum_cmp27 {E : EV} {w : Mem} {t : List Nat} {f p : Nat} {c P Q : List (Nat × Nat)} {od : Nat} (h : RdP w t f p c (P ++ Q) od) (hP : PileW c (P ++ Q)) (hno : ∀ k, k < 5 → ¬ isS t f (gA sg5 k)) (hin : ¬ innK (P ++ Q) (P ++ Q).length = nI 32) (hc : ¬ cmpK (P ++ Q) (P ++ Q).length = true) (hs : isS t f 61) (hS : SetW P Q 5) (hlt : P.length < 400) : T E m_M_behindSum 3 0 0 [.ref 89, .int (nI 1)] w (fun r w2 => r = some (.int (nI 1)) ∧ FrR w w2 ∧ RdP w2 t (nxT t f) p (setC Q c) (P ++ [(27, 0)]) od) := by
  refine T_of (L := [.ref 89, .int (nI 1), un, un]) cf_M_behindSum rfl (Nat.le_of_ble_eq_true rfl) (fun X hX hF => ?_)
  refine g_aload0 hX d_M_behindSum_0 ?_
  refine g_bipush (v := nI 43) hX d_M_behindSum_1 rfl ?_
  refine g_callV (As := [_]) hX hF.1 d_M_behindSum_3 ml_M_329 cf_M_isSign cv_M_isSign rfl rfl (c_M_isSign h.1 (by decide)) (rcv_obj hX (lv_89 _) rfl rfl) (by omega) (by omega) (by omega) (Nat.le_of_ble_eq_true rfl) ?_
  refine ret_k ?_
  refine g_ifB_eq hX d_M_behindSum_6 (fun c0 => ?_) (fun h => absurd h (hno 0 (by decide)))
  refine g_aload0 hX d_M_behindSum_14 ?_
  refine g_bipush (v := nI 45) hX d_M_behindSum_15 rfl ?_
  refine g_callV (As := [_]) hX hF.1 d_M_behindSum_17 ml_M_329 cf_M_isSign cv_M_isSign rfl rfl (c_M_isSign h.1 (by decide)) (rcv_obj hX (lv_89 _) rfl rfl) (by omega) (by omega) (by omega) (Nat.le_of_ble_eq_true rfl) ?_
  refine ret_k ?_
  refine g_ifB_eq hX d_M_behindSum_20 (fun c1 => ?_) (fun h => absurd h (hno 1 (by decide)))
  refine g_aload0 hX d_M_behindSum_28 ?_
  refine g_bipush (v := nI 42) hX d_M_behindSum_29 rfl ?_
  refine g_callV (As := [_]) hX hF.1 d_M_behindSum_31 ml_M_329 cf_M_isSign cv_M_isSign rfl rfl (c_M_isSign h.1 (by decide)) (rcv_obj hX (lv_89 _) rfl rfl) (by omega) (by omega) (by omega) (Nat.le_of_ble_eq_true rfl) ?_
  refine ret_k ?_
  refine g_ifB_eq hX d_M_behindSum_34 (fun c2 => ?_) (fun h => absurd h (hno 2 (by decide)))
  refine g_aload0 hX d_M_behindSum_42 ?_
  refine g_bipush (v := nI 47) hX d_M_behindSum_43 rfl ?_
  refine g_callV (As := [_]) hX hF.1 d_M_behindSum_45 ml_M_329 cf_M_isSign cv_M_isSign rfl rfl (c_M_isSign h.1 (by decide)) (rcv_obj hX (lv_89 _) rfl rfl) (by omega) (by omega) (by omega) (Nat.le_of_ble_eq_true rfl) ?_
  refine ret_k ?_
  refine g_ifB_eq hX d_M_behindSum_48 (fun c3 => ?_) (fun h => absurd h (hno 3 (by decide)))
  refine g_aload0 hX d_M_behindSum_56 ?_
  refine g_bipush (v := nI 37) hX d_M_behindSum_57 rfl ?_
  refine g_callV (As := [_]) hX hF.1 d_M_behindSum_59 ml_M_329 cf_M_isSign cv_M_isSign rfl rfl (c_M_isSign h.1 (by decide)) (rcv_obj hX (lv_89 _) rfl rfl) (by omega) (by omega) (by omega) (Nat.le_of_ble_eq_true rfl) ?_
  refine ret_k ?_
  refine g_ifB_eq hX d_M_behindSum_62 (fun c4 => ?_) (fun h => absurd h (hno 4 (by decide)))
  refine g_iconst (v := -1) hX d_M_behindSum_70 rfl ?_
  refine g_istore2 hX d_M_behindSum_71 rfl (by decide) ?_
  refine g_iload2 hX d_M_behindSum_72 ?_
  refine g_iconst (v := -1) hX d_M_behindSum_73 rfl ?_
  refine g_icmp_eq hX d_M_behindSum_74 (fun c5 => ?_) (fun h => absurd rfl h)
  refine g_aload0 hX d_M_behindSum_97 ?_
  refine g_callV (As := []) hX hF.1 d_M_behindSum_98 ml_M_365 cf_M_inner cv_M_inner rfl rfl (c_M_inner h.2.2.2.1 hP) (rcv_obj hX (lv_89 _) rfl rfl) (by omega) (by omega) (by omega) (Nat.le_of_ble_eq_true rfl) ?_
  refine ret_k ?_
  refine g_istore3 hX d_M_behindSum_101 rfl (by decide) ?_
  refine g_iload3 hX d_M_behindSum_102 ?_
  refine g_bipush (v := nI 32) hX d_M_behindSum_103 rfl ?_
  refine g_icmp_ne hX d_M_behindSum_105 (fun c6 => ?_) (fun h => absurd h hin)
  refine g_iload3 hX d_M_behindSum_152 ?_
  refine g_iconst (v := -1) hX d_M_behindSum_153 rfl ?_
  refine g_icmp_ne hX d_M_behindSum_154 (fun c7 => ?_) (fun c7 => ?_)
  · refine g_aload0 hX d_M_behindSum_163 ?_
    refine g_callV (As := []) hX hF.1 d_M_behindSum_164 ml_M_368 cf_M_isCompared cv_M_isCompared rfl rfl (c_M_isCompared h.2.2.2.1 hP) (rcv_obj hX (lv_89 _) rfl rfl) (by omega) (by omega) (by omega) (Nat.le_of_ble_eq_true rfl) ?_
    refine ret_k ?_
    refine g_ifB_eq hX d_M_behindSum_167 (fun c8 => ?_) (fun h => absurd h hc)
    refine g_aload0 hX d_M_behindSum_172 ?_
    refine g_bipush (v := nI 60) hX d_M_behindSum_173 rfl ?_
    refine g_callV (As := [_]) hX hF.1 d_M_behindSum_175 ml_M_329 cf_M_isSign cv_M_isSign rfl rfl (c_M_isSign h.1 (by decide)) (rcv_obj hX (lv_89 _) rfl rfl) (by omega) (by omega) (by omega) (Nat.le_of_ble_eq_true rfl) ?_
    refine ret_k ?_
    refine g_ifB_eq hX d_M_behindSum_178 (fun c9 => ?_) (fun h => absurd h (isS_no hs (by decide)))
    refine g_aload0 hX d_M_behindSum_186 ?_
    refine g_bipush (v := nI 62) hX d_M_behindSum_187 rfl ?_
    refine g_callV (As := [_]) hX hF.1 d_M_behindSum_189 ml_M_329 cf_M_isSign cv_M_isSign rfl rfl (c_M_isSign h.1 (by decide)) (rcv_obj hX (lv_89 _) rfl rfl) (by omega) (by omega) (by omega) (Nat.le_of_ble_eq_true rfl) ?_
    refine ret_k ?_
    refine g_ifB_eq hX d_M_behindSum_192 (fun c10 => ?_) (fun h => absurd h (isS_no hs (by decide)))
    refine g_bipush (v := nI 27) hX d_M_behindSum_200 rfl ?_
    refine g_istore2 hX d_M_behindSum_202 rfl (by decide) ?_
    refine g_aload0 hX d_M_behindSum_203 ?_
    refine g_iload2 hX d_M_behindSum_204 ?_
    refine g_bipush (v := nI 27) hX d_M_behindSum_205 rfl ?_
    refine g_icmpN_ne hX d_M_behindSum_207 (by omega) (by omega) (fun h => absurd (by omega) h) (fun c11 => ?_)
    refine g_aload0 hX d_M_behindSum_210 ?_
    refine g_bipush (v := nI 61) hX d_M_behindSum_211 rfl ?_
    refine g_callV (As := [_]) hX hF.1 d_M_behindSum_213 ml_M_329 cf_M_isSign cv_M_isSign rfl rfl (c_M_isSign h.1 (by decide)) (rcv_obj hX (lv_89 _) rfl rfl) (by omega) (by omega) (by omega) (Nat.le_of_ble_eq_true rfl) ?_
    refine ret_k ?_
    refine g_ifB_eq hX d_M_behindSum_216 (fun h => absurd hs h) (fun c12 => ?_)
    refine g_iconst (v := nI 1) hX d_M_behindSum_219 rfl ?_
    refine g_goto hX d_M_behindSum_220 ?_
    refine g_callV (As := [_]) hX hF.1 d_M_behindSum_224 ml_M_291 cf_M_must cv_M_must rfl rfl (c_M_mustY h.1 h.2.2.2.2.2.1 rfl) (rcv_obj hX (lv_89 _) rfl rfl) (by omega) (by omega) (by omega) (Nat.le_of_ble_eq_true rfl) ?_
    rintro _ w2 ⟨rfl, hf, hT2⟩
    have h2 := h.tok hf hT2
    show G0 _ _ _ _ _ _ _ _
    refine g_aload0 hX d_M_behindSum_227 ?_
    refine g_getZ hX d_M_behindSum_228 fl_M_258 (lv_89 _) ?_
    refine g_topi h2.2.2.2.2.2.1 ?_
    refine g_if_ne hX d_M_behindSum_231 (fun h => absurd (by decide) h) (fun c13 => ?_)
    refine g_aload0 hX d_M_behindSum_234 ?_
    refine g_iconst (v := nI 5) hX d_M_behindSum_235 rfl ?_
    refine g_callV (As := [_]) hX hF.1 d_M_behindSum_236 ml_M_362 cf_M_settle cv_M_settle rfl rfl (c_M_settle (least := 5) (P := P) (Q := Q) (by decide) (by decide) h2.2.2.1 h2.2.2.2.1 hP hS.1 hS.2) (rcv_obj hX (lv_89 _) rfl rfl) (by omega) (by omega) (by omega) (Nat.le_of_ble_eq_true rfl) ?_
    rintro _ w3 ⟨rfl, hf3, hc3, hp3⟩
    have h3 := h2.set hf3 hc3 hp3
    show G0 _ _ _ _ _ _ _ _
    refine g_aload0 hX d_M_behindSum_239 ?_
    refine g_iload2 hX d_M_behindSum_240 ?_
    refine g_iconst (v := nI 0) hX d_M_behindSum_241 rfl ?_
    refine g_callV (As := [_, _]) hX hF.1 d_M_behindSum_242 ml_M_323 cf_M_push cv_M_push rfl rfl (c_M_push (m := P.length) hp3.1 (by omega)) (rcv_obj hX (lv_89 _) rfl rfl) (by omega) (by omega) (by omega) (Nat.le_of_ble_eq_true rfl) ?_
    refine ret_k ?_
    refine g_iconst (v := nI 1) hX d_M_behindSum_245 rfl ?_
    refine g_iret hX hF d_M_behindSum_246 (by omega) (by omega) ?_
    exact ⟨rfl, ((((hf.R.tr hf3.R).I (by omega)).I (by omega)).I (by omega)), RdP.push (q := (27, 0)) h3⟩
  · refine g_iload1 hX d_M_behindSum_157 ?_
    refine g_if_ne hX d_M_behindSum_158 (fun c14 => ?_) (fun h => absurd h (by decide))
    refine g_aload0 hX d_M_behindSum_163 ?_
    refine g_callV (As := []) hX hF.1 d_M_behindSum_164 ml_M_368 cf_M_isCompared cv_M_isCompared rfl rfl (c_M_isCompared h.2.2.2.1 hP) (rcv_obj hX (lv_89 _) rfl rfl) (by omega) (by omega) (by omega) (Nat.le_of_ble_eq_true rfl) ?_
    refine ret_k ?_
    refine g_ifB_eq hX d_M_behindSum_167 (fun c15 => ?_) (fun h => absurd h hc)
    refine g_aload0 hX d_M_behindSum_172 ?_
    refine g_bipush (v := nI 60) hX d_M_behindSum_173 rfl ?_
    refine g_callV (As := [_]) hX hF.1 d_M_behindSum_175 ml_M_329 cf_M_isSign cv_M_isSign rfl rfl (c_M_isSign h.1 (by decide)) (rcv_obj hX (lv_89 _) rfl rfl) (by omega) (by omega) (by omega) (Nat.le_of_ble_eq_true rfl) ?_
    refine ret_k ?_
    refine g_ifB_eq hX d_M_behindSum_178 (fun c16 => ?_) (fun h => absurd h (isS_no hs (by decide)))
    refine g_aload0 hX d_M_behindSum_186 ?_
    refine g_bipush (v := nI 62) hX d_M_behindSum_187 rfl ?_
    refine g_callV (As := [_]) hX hF.1 d_M_behindSum_189 ml_M_329 cf_M_isSign cv_M_isSign rfl rfl (c_M_isSign h.1 (by decide)) (rcv_obj hX (lv_89 _) rfl rfl) (by omega) (by omega) (by omega) (Nat.le_of_ble_eq_true rfl) ?_
    refine ret_k ?_
    refine g_ifB_eq hX d_M_behindSum_192 (fun c17 => ?_) (fun h => absurd h (isS_no hs (by decide)))
    refine g_bipush (v := nI 27) hX d_M_behindSum_200 rfl ?_
    refine g_istore2 hX d_M_behindSum_202 rfl (by decide) ?_
    refine g_aload0 hX d_M_behindSum_203 ?_
    refine g_iload2 hX d_M_behindSum_204 ?_
    refine g_bipush (v := nI 27) hX d_M_behindSum_205 rfl ?_
    refine g_icmpN_ne hX d_M_behindSum_207 (by omega) (by omega) (fun h => absurd (by omega) h) (fun c18 => ?_)
    refine g_aload0 hX d_M_behindSum_210 ?_
    refine g_bipush (v := nI 61) hX d_M_behindSum_211 rfl ?_
    refine g_callV (As := [_]) hX hF.1 d_M_behindSum_213 ml_M_329 cf_M_isSign cv_M_isSign rfl rfl (c_M_isSign h.1 (by decide)) (rcv_obj hX (lv_89 _) rfl rfl) (by omega) (by omega) (by omega) (Nat.le_of_ble_eq_true rfl) ?_
    refine ret_k ?_
    refine g_ifB_eq hX d_M_behindSum_216 (fun h => absurd hs h) (fun c19 => ?_)
    refine g_iconst (v := nI 1) hX d_M_behindSum_219 rfl ?_
    refine g_goto hX d_M_behindSum_220 ?_
    refine g_callV (As := [_]) hX hF.1 d_M_behindSum_224 ml_M_291 cf_M_must cv_M_must rfl rfl (c_M_mustY h.1 h.2.2.2.2.2.1 rfl) (rcv_obj hX (lv_89 _) rfl rfl) (by omega) (by omega) (by omega) (Nat.le_of_ble_eq_true rfl) ?_
    rintro _ w2 ⟨rfl, hf, hT2⟩
    have h2 := h.tok hf hT2
    show G0 _ _ _ _ _ _ _ _
    refine g_aload0 hX d_M_behindSum_227 ?_
    refine g_getZ hX d_M_behindSum_228 fl_M_258 (lv_89 _) ?_
    refine g_topi h2.2.2.2.2.2.1 ?_
    refine g_if_ne hX d_M_behindSum_231 (fun h => absurd (by decide) h) (fun c20 => ?_)
    refine g_aload0 hX d_M_behindSum_234 ?_
    refine g_iconst (v := nI 5) hX d_M_behindSum_235 rfl ?_
    refine g_callV (As := [_]) hX hF.1 d_M_behindSum_236 ml_M_362 cf_M_settle cv_M_settle rfl rfl (c_M_settle (least := 5) (P := P) (Q := Q) (by decide) (by decide) h2.2.2.1 h2.2.2.2.1 hP hS.1 hS.2) (rcv_obj hX (lv_89 _) rfl rfl) (by omega) (by omega) (by omega) (Nat.le_of_ble_eq_true rfl) ?_
    rintro _ w3 ⟨rfl, hf3, hc3, hp3⟩
    have h3 := h2.set hf3 hc3 hp3
    show G0 _ _ _ _ _ _ _ _
    refine g_aload0 hX d_M_behindSum_239 ?_
    refine g_iload2 hX d_M_behindSum_240 ?_
    refine g_iconst (v := nI 0) hX d_M_behindSum_241 rfl ?_
    refine g_callV (As := [_, _]) hX hF.1 d_M_behindSum_242 ml_M_323 cf_M_push cv_M_push rfl rfl (c_M_push (m := P.length) hp3.1 (by omega)) (rcv_obj hX (lv_89 _) rfl rfl) (by omega) (by omega) (by omega) (Nat.le_of_ble_eq_true rfl) ?_
    refine ret_k ?_
    refine g_iconst (v := nI 1) hX d_M_behindSum_245 rfl ?_
    refine g_iret hX hF d_M_behindSum_246 (by omega) (by omega) ?_
    exact ⟨rfl, ((((hf.R.tr hf3.R).I (by omega)).I (by omega)).I (by omega)), RdP.push (q := (27, 0)) h3⟩
theorem c_M_behindSum_cmpN {E : EV} {w : Mem} {t : List Nat} {f p : Nat} {c s : List (Nat × Nat)} {od : Nat} (h : RdP w t f p c s od) (hP : PileW c s) (hno : ∀ k, k < 5 → ¬ isS t f (gA sg5 k)) (hin : ¬ innK s s.length = nI 32) (hc : ¬ cmpK s s.length = true) (hs1 : ¬ isS t f 60) (hs2 : ¬ isS t f 62) (hs3 : ¬ isS t f 61) : T E m_M_behindSum 3 0 0 [.ref 89, .int (nI 1)] w (fun r w2 => r = some (.int (nI 1)) ∧ FrR w w2 ∧ BadP w2 t f) := by
  refine T_of (L := [.ref 89, .int (nI 1), un, un]) cf_M_behindSum rfl (Nat.le_of_ble_eq_true rfl) (fun X hX hF => ?_)
  refine g_aload0 hX d_M_behindSum_0 ?_
  refine g_bipush (v := nI 43) hX d_M_behindSum_1 rfl ?_
  refine g_callV (As := [_]) hX hF.1 d_M_behindSum_3 ml_M_329 cf_M_isSign cv_M_isSign rfl rfl (c_M_isSign h.1 (by decide)) (rcv_obj hX (lv_89 _) rfl rfl) (by omega) (by omega) (by omega) (Nat.le_of_ble_eq_true rfl) ?_
  refine ret_k ?_
  refine g_ifB_eq hX d_M_behindSum_6 (fun c0 => ?_) (fun h => absurd h (hno 0 (by decide)))
  refine g_aload0 hX d_M_behindSum_14 ?_
  refine g_bipush (v := nI 45) hX d_M_behindSum_15 rfl ?_
  refine g_callV (As := [_]) hX hF.1 d_M_behindSum_17 ml_M_329 cf_M_isSign cv_M_isSign rfl rfl (c_M_isSign h.1 (by decide)) (rcv_obj hX (lv_89 _) rfl rfl) (by omega) (by omega) (by omega) (Nat.le_of_ble_eq_true rfl) ?_
  refine ret_k ?_
  refine g_ifB_eq hX d_M_behindSum_20 (fun c1 => ?_) (fun h => absurd h (hno 1 (by decide)))
  refine g_aload0 hX d_M_behindSum_28 ?_
  refine g_bipush (v := nI 42) hX d_M_behindSum_29 rfl ?_
  refine g_callV (As := [_]) hX hF.1 d_M_behindSum_31 ml_M_329 cf_M_isSign cv_M_isSign rfl rfl (c_M_isSign h.1 (by decide)) (rcv_obj hX (lv_89 _) rfl rfl) (by omega) (by omega) (by omega) (Nat.le_of_ble_eq_true rfl) ?_
  refine ret_k ?_
  refine g_ifB_eq hX d_M_behindSum_34 (fun c2 => ?_) (fun h => absurd h (hno 2 (by decide)))
  refine g_aload0 hX d_M_behindSum_42 ?_
  refine g_bipush (v := nI 47) hX d_M_behindSum_43 rfl ?_
  refine g_callV (As := [_]) hX hF.1 d_M_behindSum_45 ml_M_329 cf_M_isSign cv_M_isSign rfl rfl (c_M_isSign h.1 (by decide)) (rcv_obj hX (lv_89 _) rfl rfl) (by omega) (by omega) (by omega) (Nat.le_of_ble_eq_true rfl) ?_
  refine ret_k ?_
  refine g_ifB_eq hX d_M_behindSum_48 (fun c3 => ?_) (fun h => absurd h (hno 3 (by decide)))
  refine g_aload0 hX d_M_behindSum_56 ?_
  refine g_bipush (v := nI 37) hX d_M_behindSum_57 rfl ?_
  refine g_callV (As := [_]) hX hF.1 d_M_behindSum_59 ml_M_329 cf_M_isSign cv_M_isSign rfl rfl (c_M_isSign h.1 (by decide)) (rcv_obj hX (lv_89 _) rfl rfl) (by omega) (by omega) (by omega) (Nat.le_of_ble_eq_true rfl) ?_
  refine ret_k ?_
  refine g_ifB_eq hX d_M_behindSum_62 (fun c4 => ?_) (fun h => absurd h (hno 4 (by decide)))
  refine g_iconst (v := -1) hX d_M_behindSum_70 rfl ?_
  refine g_istore2 hX d_M_behindSum_71 rfl (by decide) ?_
  refine g_iload2 hX d_M_behindSum_72 ?_
  refine g_iconst (v := -1) hX d_M_behindSum_73 rfl ?_
  refine g_icmp_eq hX d_M_behindSum_74 (fun c5 => ?_) (fun h => absurd rfl h)
  refine g_aload0 hX d_M_behindSum_97 ?_
  refine g_callV (As := []) hX hF.1 d_M_behindSum_98 ml_M_365 cf_M_inner cv_M_inner rfl rfl (c_M_inner h.2.2.2.1 hP) (rcv_obj hX (lv_89 _) rfl rfl) (by omega) (by omega) (by omega) (Nat.le_of_ble_eq_true rfl) ?_
  refine ret_k ?_
  refine g_istore3 hX d_M_behindSum_101 rfl (by decide) ?_
  refine g_iload3 hX d_M_behindSum_102 ?_
  refine g_bipush (v := nI 32) hX d_M_behindSum_103 rfl ?_
  refine g_icmp_ne hX d_M_behindSum_105 (fun c6 => ?_) (fun h => absurd h hin)
  refine g_iload3 hX d_M_behindSum_152 ?_
  refine g_iconst (v := -1) hX d_M_behindSum_153 rfl ?_
  refine g_icmp_ne hX d_M_behindSum_154 (fun c7 => ?_) (fun c7 => ?_)
  · refine g_aload0 hX d_M_behindSum_163 ?_
    refine g_callV (As := []) hX hF.1 d_M_behindSum_164 ml_M_368 cf_M_isCompared cv_M_isCompared rfl rfl (c_M_isCompared h.2.2.2.1 hP) (rcv_obj hX (lv_89 _) rfl rfl) (by omega) (by omega) (by omega) (Nat.le_of_ble_eq_true rfl) ?_
    refine ret_k ?_
    refine g_ifB_eq hX d_M_behindSum_167 (fun c8 => ?_) (fun h => absurd h hc)
    refine g_aload0 hX d_M_behindSum_172 ?_
    refine g_bipush (v := nI 60) hX d_M_behindSum_173 rfl ?_
    refine g_callV (As := [_]) hX hF.1 d_M_behindSum_175 ml_M_329 cf_M_isSign cv_M_isSign rfl rfl (c_M_isSign h.1 (by decide)) (rcv_obj hX (lv_89 _) rfl rfl) (by omega) (by omega) (by omega) (Nat.le_of_ble_eq_true rfl) ?_
    refine ret_k ?_
    refine g_ifB_eq hX d_M_behindSum_178 (fun c9 => ?_) (fun h => absurd h hs1)
    refine g_aload0 hX d_M_behindSum_186 ?_
    refine g_bipush (v := nI 62) hX d_M_behindSum_187 rfl ?_
    refine g_callV (As := [_]) hX hF.1 d_M_behindSum_189 ml_M_329 cf_M_isSign cv_M_isSign rfl rfl (c_M_isSign h.1 (by decide)) (rcv_obj hX (lv_89 _) rfl rfl) (by omega) (by omega) (by omega) (Nat.le_of_ble_eq_true rfl) ?_
    refine ret_k ?_
    refine g_ifB_eq hX d_M_behindSum_192 (fun c10 => ?_) (fun h => absurd h hs2)
    refine g_bipush (v := nI 27) hX d_M_behindSum_200 rfl ?_
    refine g_istore2 hX d_M_behindSum_202 rfl (by decide) ?_
    refine g_aload0 hX d_M_behindSum_203 ?_
    refine g_iload2 hX d_M_behindSum_204 ?_
    refine g_bipush (v := nI 27) hX d_M_behindSum_205 rfl ?_
    refine g_icmpN_ne hX d_M_behindSum_207 (by omega) (by omega) (fun h => absurd (by omega) h) (fun c11 => ?_)
    refine g_aload0 hX d_M_behindSum_210 ?_
    refine g_bipush (v := nI 61) hX d_M_behindSum_211 rfl ?_
    refine g_callV (As := [_]) hX hF.1 d_M_behindSum_213 ml_M_329 cf_M_isSign cv_M_isSign rfl rfl (c_M_isSign h.1 (by decide)) (rcv_obj hX (lv_89 _) rfl rfl) (by omega) (by omega) (by omega) (Nat.le_of_ble_eq_true rfl) ?_
    refine ret_k ?_
    refine g_ifB_eq hX d_M_behindSum_216 (fun c12 => ?_) (fun h => absurd h hs3)
    refine g_iconst (v := nI 0) hX d_M_behindSum_223 rfl ?_
    refine g_callV (As := [_]) hX hF.1 d_M_behindSum_224 ml_M_291 cf_M_must cv_M_must rfl rfl (c_M_mustN h.1.2.1 h.2.2.2.2.2.1 rfl) (rcv_obj hX (lv_89 _) rfl rfl) (by omega) (by omega) (by omega) (Nat.le_of_ble_eq_true rfl) ?_
    refine ret_k ?_
    refine g_aload0 hX d_M_behindSum_227 ?_
    refine g_getZ hX d_M_behindSum_228 fl_M_258 (lv_89 _) ?_
    refine g_topi (h.bad hP).2.1 ?_
    refine g_if_ne hX d_M_behindSum_231 (fun c13 => ?_) (fun h => absurd h (by decide))
    refine g_iconst (v := nI 1) hX d_M_behindSum_245 rfl ?_
    refine g_iret hX hF d_M_behindSum_246 (by omega) (by omega) ?_
    exact ⟨rfl, (FrR.rf w).bad, h.bad hP⟩
  · refine g_iload1 hX d_M_behindSum_157 ?_
    refine g_if_ne hX d_M_behindSum_158 (fun c14 => ?_) (fun h => absurd h (by decide))
    refine g_aload0 hX d_M_behindSum_163 ?_
    refine g_callV (As := []) hX hF.1 d_M_behindSum_164 ml_M_368 cf_M_isCompared cv_M_isCompared rfl rfl (c_M_isCompared h.2.2.2.1 hP) (rcv_obj hX (lv_89 _) rfl rfl) (by omega) (by omega) (by omega) (Nat.le_of_ble_eq_true rfl) ?_
    refine ret_k ?_
    refine g_ifB_eq hX d_M_behindSum_167 (fun c15 => ?_) (fun h => absurd h hc)
    refine g_aload0 hX d_M_behindSum_172 ?_
    refine g_bipush (v := nI 60) hX d_M_behindSum_173 rfl ?_
    refine g_callV (As := [_]) hX hF.1 d_M_behindSum_175 ml_M_329 cf_M_isSign cv_M_isSign rfl rfl (c_M_isSign h.1 (by decide)) (rcv_obj hX (lv_89 _) rfl rfl) (by omega) (by omega) (by omega) (Nat.le_of_ble_eq_true rfl) ?_
    refine ret_k ?_
    refine g_ifB_eq hX d_M_behindSum_178 (fun c16 => ?_) (fun h => absurd h hs1)
    refine g_aload0 hX d_M_behindSum_186 ?_
    refine g_bipush (v := nI 62) hX d_M_behindSum_187 rfl ?_
    refine g_callV (As := [_]) hX hF.1 d_M_behindSum_189 ml_M_329 cf_M_isSign cv_M_isSign rfl rfl (c_M_isSign h.1 (by decide)) (rcv_obj hX (lv_89 _) rfl rfl) (by omega) (by omega) (by omega) (Nat.le_of_ble_eq_true rfl) ?_
    refine ret_k ?_
    refine g_ifB_eq hX d_M_behindSum_192 (fun c17 => ?_) (fun h => absurd h hs2)
    refine g_bipush (v := nI 27) hX d_M_behindSum_200 rfl ?_
    refine g_istore2 hX d_M_behindSum_202 rfl (by decide) ?_
    refine g_aload0 hX d_M_behindSum_203 ?_
    refine g_iload2 hX d_M_behindSum_204 ?_
    refine g_bipush (v := nI 27) hX d_M_behindSum_205 rfl ?_
    refine g_icmpN_ne hX d_M_behindSum_207 (by omega) (by omega) (fun h => absurd (by omega) h) (fun c18 => ?_)
    refine g_aload0 hX d_M_behindSum_210 ?_
    refine g_bipush (v := nI 61) hX d_M_behindSum_211 rfl ?_
    refine g_callV (As := [_]) hX hF.1 d_M_behindSum_213 ml_M_329 cf_M_isSign cv_M_isSign rfl rfl (c_M_isSign h.1 (by decide)) (rcv_obj hX (lv_89 _) rfl rfl) (by omega) (by omega) (by omega) (Nat.le_of_ble_eq_true rfl) ?_
    refine ret_k ?_
    refine g_ifB_eq hX d_M_behindSum_216 (fun c19 => ?_) (fun h => absurd h hs3)
    refine g_iconst (v := nI 0) hX d_M_behindSum_223 rfl ?_
    refine g_callV (As := [_]) hX hF.1 d_M_behindSum_224 ml_M_291 cf_M_must cv_M_must rfl rfl (c_M_mustN h.1.2.1 h.2.2.2.2.2.1 rfl) (rcv_obj hX (lv_89 _) rfl rfl) (by omega) (by omega) (by omega) (Nat.le_of_ble_eq_true rfl) ?_
    refine ret_k ?_
    refine g_aload0 hX d_M_behindSum_227 ?_
    refine g_getZ hX d_M_behindSum_228 fl_M_258 (lv_89 _) ?_
    refine g_topi (h.bad hP).2.1 ?_
    refine g_if_ne hX d_M_behindSum_231 (fun c20 => ?_) (fun h => absurd h (by decide))
    refine g_iconst (v := nI 1) hX d_M_behindSum_245 rfl ?_
    refine g_iret hX hF d_M_behindSum_246 (by omega) (by omega) ?_
    exact ⟨rfl, (FrR.rf w).bad, h.bad hP⟩
theorem c_M_behindTest_29 {E : EV} {w : Mem} {t : List Nat} {f p : Nat} {c P Q : List (Nat × Nat)} {od : Nat} (h : RdP w t f p c (P ++ Q) od) (hP : PileW c (P ++ Q)) (hs : isW t f wAnd) (hS : SetW P Q 2) (hlt : P.length < 400) (hlt2 : (setC Q c).length < 400) : T E m_M_behindTest 3 0 0 [.ref 89] w (fun r w2 => r = some (.int (nI 0)) ∧ FrR w w2 ∧ RdP w2 t (nxT t f) p (setC Q c ++ [(29, 0)]) (P ++ [(29, (setC Q c).length)]) od) := by
  refine T_of (L := [.ref 89, un]) cf_M_behindTest rfl (Nat.le_of_ble_eq_true rfl) (fun X hX hF => ?_)
  refine g_aload0 hX d_M_behindTest_0 ?_
  refine g_ldc2 (v := lN 1476) hX d_M_behindTest_1 k_M_372 rfl ?_
  refine g_callV (As := [_]) hX hF.1 d_M_behindTest_4 ml_M_316 cf_M_isWord cv_M_isWord rfl rfl (c_M_isWord (wd := wAnd) h.1 rfl (by decide) (by decide)) (rcv_obj hX (lv_89 _) rfl rfl) (by omega) (by omega) (by omega) (Nat.le_of_ble_eq_true rfl) ?_
  refine ret_k ?_
  refine g_istore1 hX d_M_behindTest_7 rfl (by decide) ?_
  refine g_iload1 hX d_M_behindTest_8 ?_
  refine g_ifB_ne hX d_M_behindTest_9 (fun c0 => ?_) (fun h => absurd hs h)
  refine g_aload0 hX d_M_behindTest_22 ?_
  refine g_iload1 hX d_M_behindTest_23 ?_
  refine g_ifB_eq hX d_M_behindTest_24 (fun h => absurd hs h) (fun c1 => ?_)
  refine g_iconst (v := nI 2) hX d_M_behindTest_27 rfl ?_
  refine g_goto hX d_M_behindTest_28 ?_
  refine g_callV (As := [_]) hX hF.1 d_M_behindTest_32 ml_M_362 cf_M_settle cv_M_settle rfl rfl (c_M_settle (least := 2) (P := P) (Q := Q) (by decide) (by decide) h.2.2.1 h.2.2.2.1 hP hS.1 hS.2) (rcv_obj hX (lv_89 _) rfl rfl) (by omega) (by omega) (by omega) (Nat.le_of_ble_eq_true rfl) ?_
  rintro _ w2 ⟨rfl, hf2, hc2, hp2⟩
  have h2 := h.set hf2 hc2 hp2
  show G0 _ _ _ _ _ _ _ _
  refine g_aload0 hX d_M_behindTest_35 ?_
  refine g_iload1 hX d_M_behindTest_36 ?_
  refine g_ifB_eq hX d_M_behindTest_37 (fun h => absurd hs h) (fun c2 => ?_)
  refine g_bipush (v := nI 29) hX d_M_behindTest_40 rfl ?_
  refine g_goto hX d_M_behindTest_42 ?_
  refine g_aload0 hX d_M_behindTest_47 ?_
  refine g_getI hX d_M_behindTest_48 fl_M_295 (lv_89 _) ?_
  refine g_topi hc2.1 ?_
  refine g_callV (As := [_, _]) hX hF.1 d_M_behindTest_51 ml_M_323 cf_M_push cv_M_push rfl rfl (c_M_push (m := P.length) hp2.1 (by omega)) (rcv_obj hX (lv_89 _) rfl rfl) (by omega) (by omega) (by omega) (Nat.le_of_ble_eq_true rfl) ?_
  refine ret_k ?_
  refine g_aload0 hX d_M_behindTest_54 ?_
  refine g_iload1 hX d_M_behindTest_55 ?_
  refine g_ifB_eq hX d_M_behindTest_56 (fun h => absurd hs h) (fun c3 => ?_)
  refine g_bipush (v := nI 29) hX d_M_behindTest_59 rfl ?_
  refine g_goto hX d_M_behindTest_61 ?_
  refine g_iconst (v := nI 0) hX d_M_behindTest_66 rfl ?_
  have h3 := RdP.push (q := (29, (setC Q c).length)) h2
  refine g_callV (As := [_, _]) hX hF.1 d_M_behindTest_67 ml_M_304 cf_M_emit cv_M_emit rfl rfl (c_M_emit (m := (setC Q c).length) h3.2.2.1.1 hlt2) (rcv_obj hX (lv_89 _) rfl rfl) (by omega) (by omega) (by omega) (Nat.le_of_ble_eq_true rfl) ?_
  refine ret_k ?_
  refine g_aload0 hX d_M_behindTest_70 ?_
  have h4 := RdP.emit (q := (29, 0)) h3
  refine g_callV (As := []) hX hF.1 d_M_behindTest_71 ml_M_262 cf_M_next cv_M_next rfl rfl (c_M_next h4.1) (rcv_obj hX (lv_89 _) rfl rfl) (by omega) (by omega) (by omega) (Nat.le_of_ble_eq_true rfl) ?_
  rintro _ w5 ⟨rfl, hf5, hT5⟩
  show G0 _ _ _ _ _ _ _ _
  refine g_iconst (v := nI 0) hX d_M_behindTest_74 rfl ?_
  refine g_iret hX hF d_M_behindTest_75 (by omega) (by omega) ?_
  exact ⟨rfl, (((((((hf2.R.I (by omega)).I (by omega)).I (by omega)).I (by omega)).I (by omega)).I (by omega)).tr hf5.R), h4.tok hf5 hT5⟩
theorem c_M_behindTest_30 {E : EV} {w : Mem} {t : List Nat} {f p : Nat} {c P Q : List (Nat × Nat)} {od : Nat} (h : RdP w t f p c (P ++ Q) od) (hP : PileW c (P ++ Q)) (hs : isW t f wOr) (hna : ¬ isW t f wAnd) (hS : SetW P Q 1) (hlt : P.length < 400) (hlt2 : (setC Q c).length < 400) : T E m_M_behindTest 3 0 0 [.ref 89] w (fun r w2 => r = some (.int (nI 0)) ∧ FrR w w2 ∧ RdP w2 t (nxT t f) p (setC Q c ++ [(30, 0)]) (P ++ [(30, (setC Q c).length)]) od) := by
  refine T_of (L := [.ref 89, un]) cf_M_behindTest rfl (Nat.le_of_ble_eq_true rfl) (fun X hX hF => ?_)
  refine g_aload0 hX d_M_behindTest_0 ?_
  refine g_ldc2 (v := lN 1476) hX d_M_behindTest_1 k_M_372 rfl ?_
  refine g_callV (As := [_]) hX hF.1 d_M_behindTest_4 ml_M_316 cf_M_isWord cv_M_isWord rfl rfl (c_M_isWord (wd := wAnd) h.1 rfl (by decide) (by decide)) (rcv_obj hX (lv_89 _) rfl rfl) (by omega) (by omega) (by omega) (Nat.le_of_ble_eq_true rfl) ?_
  refine ret_k ?_
  refine g_istore1 hX d_M_behindTest_7 rfl (by decide) ?_
  refine g_iload1 hX d_M_behindTest_8 ?_
  refine g_ifB_ne hX d_M_behindTest_9 (fun h => absurd h hna) (fun c0 => ?_)
  refine g_aload0 hX d_M_behindTest_12 ?_
  refine g_ldc2 (v := lN 498) hX d_M_behindTest_13 k_M_374 rfl ?_
  refine g_callV (As := [_]) hX hF.1 d_M_behindTest_16 ml_M_316 cf_M_isWord cv_M_isWord rfl rfl (c_M_isWord (wd := wOr) h.1 rfl (by decide) (by decide)) (rcv_obj hX (lv_89 _) rfl rfl) (by omega) (by omega) (by omega) (Nat.le_of_ble_eq_true rfl) ?_
  refine ret_k ?_
  refine g_ifB_eq hX d_M_behindTest_19 (fun h => absurd hs h) (fun c1 => ?_)
  refine g_aload0 hX d_M_behindTest_22 ?_
  refine g_iload1 hX d_M_behindTest_23 ?_
  refine g_ifB_eq hX d_M_behindTest_24 (fun c2 => ?_) (fun h => absurd h hna)
  refine g_iconst (v := nI 1) hX d_M_behindTest_31 rfl ?_
  refine g_callV (As := [_]) hX hF.1 d_M_behindTest_32 ml_M_362 cf_M_settle cv_M_settle rfl rfl (c_M_settle (least := 1) (P := P) (Q := Q) (by decide) (by decide) h.2.2.1 h.2.2.2.1 hP hS.1 hS.2) (rcv_obj hX (lv_89 _) rfl rfl) (by omega) (by omega) (by omega) (Nat.le_of_ble_eq_true rfl) ?_
  rintro _ w2 ⟨rfl, hf2, hc2, hp2⟩
  have h2 := h.set hf2 hc2 hp2
  show G0 _ _ _ _ _ _ _ _
  refine g_aload0 hX d_M_behindTest_35 ?_
  refine g_iload1 hX d_M_behindTest_36 ?_
  refine g_ifB_eq hX d_M_behindTest_37 (fun c3 => ?_) (fun h => absurd h hna)
  refine g_bipush (v := nI 30) hX d_M_behindTest_45 rfl ?_
  refine g_aload0 hX d_M_behindTest_47 ?_
  refine g_getI hX d_M_behindTest_48 fl_M_295 (lv_89 _) ?_
  refine g_topi hc2.1 ?_
  refine g_callV (As := [_, _]) hX hF.1 d_M_behindTest_51 ml_M_323 cf_M_push cv_M_push rfl rfl (c_M_push (m := P.length) hp2.1 (by omega)) (rcv_obj hX (lv_89 _) rfl rfl) (by omega) (by omega) (by omega) (Nat.le_of_ble_eq_true rfl) ?_
  refine ret_k ?_
  refine g_aload0 hX d_M_behindTest_54 ?_
  refine g_iload1 hX d_M_behindTest_55 ?_
  refine g_ifB_eq hX d_M_behindTest_56 (fun c4 => ?_) (fun h => absurd h hna)
  refine g_bipush (v := nI 30) hX d_M_behindTest_64 rfl ?_
  refine g_iconst (v := nI 0) hX d_M_behindTest_66 rfl ?_
  have h3 := RdP.push (q := (30, (setC Q c).length)) h2
  refine g_callV (As := [_, _]) hX hF.1 d_M_behindTest_67 ml_M_304 cf_M_emit cv_M_emit rfl rfl (c_M_emit (m := (setC Q c).length) h3.2.2.1.1 hlt2) (rcv_obj hX (lv_89 _) rfl rfl) (by omega) (by omega) (by omega) (Nat.le_of_ble_eq_true rfl) ?_
  refine ret_k ?_
  refine g_aload0 hX d_M_behindTest_70 ?_
  have h4 := RdP.emit (q := (30, 0)) h3
  refine g_callV (As := []) hX hF.1 d_M_behindTest_71 ml_M_262 cf_M_next cv_M_next rfl rfl (c_M_next h4.1) (rcv_obj hX (lv_89 _) rfl rfl) (by omega) (by omega) (by omega) (Nat.le_of_ble_eq_true rfl) ?_
  rintro _ w5 ⟨rfl, hf5, hT5⟩
  show G0 _ _ _ _ _ _ _ _
  refine g_iconst (v := nI 0) hX d_M_behindTest_74 rfl ?_
  refine g_iret hX hF d_M_behindTest_75 (by omega) (by omega) ?_
  exact ⟨rfl, (((((((hf2.R.I (by omega)).I (by omega)).I (by omega)).I (by omega)).I (by omega)).I (by omega)).tr hf5.R), h4.tok hf5 hT5⟩
theorem c_M_behindTest_over {E : EV} {w : Mem} {t : List Nat} {f p : Nat} {c s : List (Nat × Nat)} {od : Nat} (h : RdP w t f p c s od) (hP : PileW c s) (hna : ¬ isW t f wAnd) (hno : ¬ isW t f wOr) (hin : innK s s.length = -1) : T E m_M_behindTest 3 0 0 [.ref 89] w (Ret (some (.int (nI 4))) w) := by
  refine T_of (L := [.ref 89, un]) cf_M_behindTest rfl (Nat.le_of_ble_eq_true rfl) (fun X hX hF => ?_)
  refine g_aload0 hX d_M_behindTest_0 ?_
  refine g_ldc2 (v := lN 1476) hX d_M_behindTest_1 k_M_372 rfl ?_
  refine g_callV (As := [_]) hX hF.1 d_M_behindTest_4 ml_M_316 cf_M_isWord cv_M_isWord rfl rfl (c_M_isWord (wd := wAnd) h.1 rfl (by decide) (by decide)) (rcv_obj hX (lv_89 _) rfl rfl) (by omega) (by omega) (by omega) (Nat.le_of_ble_eq_true rfl) ?_
  refine ret_k ?_
  refine g_istore1 hX d_M_behindTest_7 rfl (by decide) ?_
  refine g_iload1 hX d_M_behindTest_8 ?_
  refine g_ifB_ne hX d_M_behindTest_9 (fun h => absurd h hna) (fun c0 => ?_)
  refine g_aload0 hX d_M_behindTest_12 ?_
  refine g_ldc2 (v := lN 498) hX d_M_behindTest_13 k_M_374 rfl ?_
  refine g_callV (As := [_]) hX hF.1 d_M_behindTest_16 ml_M_316 cf_M_isWord cv_M_isWord rfl rfl (c_M_isWord (wd := wOr) h.1 rfl (by decide) (by decide)) (rcv_obj hX (lv_89 _) rfl rfl) (by omega) (by omega) (by omega) (Nat.le_of_ble_eq_true rfl) ?_
  refine ret_k ?_
  refine g_ifB_eq hX d_M_behindTest_19 (fun c1 => ?_) (fun h => absurd h hno)
  refine g_aload0 hX d_M_behindTest_76 ?_
  refine g_callV (As := []) hX hF.1 d_M_behindTest_77 ml_M_365 cf_M_inner cv_M_inner rfl rfl (c_M_inner h.2.2.2.1 hP) (rcv_obj hX (lv_89 _) rfl rfl) (by omega) (by omega) (by omega) (Nat.le_of_ble_eq_true rfl) ?_
  refine ret_k ?_
  refine g_topi hin ?_
  refine g_iconst (v := -1) hX d_M_behindTest_80 rfl ?_
  refine g_icmp_ne hX d_M_behindTest_81 (fun h => absurd rfl h) (fun c2 => ?_)
  refine g_iconst (v := nI 4) hX d_M_behindTest_84 rfl ?_
  refine g_iret hX hF d_M_behindTest_85 (by omega) (by omega) ?_
  exact ⟨rfl, rfl⟩
theorem c_M_behindTest_closeY {E : EV} {w : Mem} {t : List Nat} {f p : Nat} {c P Q : List (Nat × Nat)} {od : Nat} (h : RdP w t f p c ((P ++ [(31, 0)]) ++ Q) od) (hP : PileW c ((P ++ [(31, 0)]) ++ Q)) (hna : ¬ isW t f wAnd) (hno : ¬ isW t f wOr) (hs : isS t f 41) (hin : innK ((P ++ [(31, 0)]) ++ Q) ((P ++ [(31, 0)]) ++ Q).length = nI 31) (hS : SetW (P ++ [(31, 0)]) Q 1) (hod : 1 ≤ od) : T E m_M_behindTest 3 0 0 [.ref 89] w (fun r w2 => r = some (.int (nI 2)) ∧ FrR w w2 ∧ RdP w2 t (nxT t f) p (setC Q c) P (od - 1)) := by
  refine T_of (L := [.ref 89, un]) cf_M_behindTest rfl (Nat.le_of_ble_eq_true rfl) (fun X hX hF => ?_)
  refine g_aload0 hX d_M_behindTest_0 ?_
  refine g_ldc2 (v := lN 1476) hX d_M_behindTest_1 k_M_372 rfl ?_
  refine g_callV (As := [_]) hX hF.1 d_M_behindTest_4 ml_M_316 cf_M_isWord cv_M_isWord rfl rfl (c_M_isWord (wd := wAnd) h.1 rfl (by decide) (by decide)) (rcv_obj hX (lv_89 _) rfl rfl) (by omega) (by omega) (by omega) (Nat.le_of_ble_eq_true rfl) ?_
  refine ret_k ?_
  refine g_istore1 hX d_M_behindTest_7 rfl (by decide) ?_
  refine g_iload1 hX d_M_behindTest_8 ?_
  refine g_ifB_ne hX d_M_behindTest_9 (fun h => absurd h hna) (fun c0 => ?_)
  refine g_aload0 hX d_M_behindTest_12 ?_
  refine g_ldc2 (v := lN 498) hX d_M_behindTest_13 k_M_374 rfl ?_
  refine g_callV (As := [_]) hX hF.1 d_M_behindTest_16 ml_M_316 cf_M_isWord cv_M_isWord rfl rfl (c_M_isWord (wd := wOr) h.1 rfl (by decide) (by decide)) (rcv_obj hX (lv_89 _) rfl rfl) (by omega) (by omega) (by omega) (Nat.le_of_ble_eq_true rfl) ?_
  refine ret_k ?_
  refine g_ifB_eq hX d_M_behindTest_19 (fun c1 => ?_) (fun h => absurd h hno)
  refine g_aload0 hX d_M_behindTest_76 ?_
  refine g_callV (As := []) hX hF.1 d_M_behindTest_77 ml_M_365 cf_M_inner cv_M_inner rfl rfl (c_M_inner h.2.2.2.1 hP) (rcv_obj hX (lv_89 _) rfl rfl) (by omega) (by omega) (by omega) (Nat.le_of_ble_eq_true rfl) ?_
  refine ret_k ?_
  refine g_topi hin ?_
  refine g_iconst (v := -1) hX d_M_behindTest_80 rfl ?_
  refine g_icmp_ne hX d_M_behindTest_81 (fun c2 => ?_) (fun h => absurd h (show ¬ nI 31 = -1 by decide))
  refine g_aload0 hX d_M_behindTest_86 ?_
  refine g_aload0 hX d_M_behindTest_87 ?_
  refine g_bipush (v := nI 41) hX d_M_behindTest_88 rfl ?_
  refine g_callV (As := [_]) hX hF.1 d_M_behindTest_90 ml_M_329 cf_M_isSign cv_M_isSign rfl rfl (c_M_isSign h.1 (by decide)) (rcv_obj hX (lv_89 _) rfl rfl) (by omega) (by omega) (by omega) (Nat.le_of_ble_eq_true rfl) ?_
  refine ret_k ?_
  refine g_callV (As := [_]) hX hF.1 d_M_behindTest_93 ml_M_291 cf_M_must cv_M_must rfl rfl (c_M_mustY h.1 h.2.2.2.2.2.1 (by rw [b2i_t hs]; rfl)) (rcv_obj hX (lv_89 _) rfl rfl) (by omega) (by omega) (by omega) (Nat.le_of_ble_eq_true rfl) ?_
  rintro _ w2 ⟨rfl, hf, hT2⟩
  have h2 := h.tok hf hT2
  show G0 _ _ _ _ _ _ _ _
  refine g_aload0 hX d_M_behindTest_96 ?_
  refine g_getZ hX d_M_behindTest_97 fl_M_258 (lv_89 _) ?_
  refine g_topi h2.2.2.2.2.2.1 ?_
  refine g_if_ne hX d_M_behindTest_100 (fun h => absurd (by decide) h) (fun c3 => ?_)
  refine g_aload0 hX d_M_behindTest_103 ?_
  refine g_iconst (v := nI 1) hX d_M_behindTest_104 rfl ?_
  refine g_callV (As := [_]) hX hF.1 d_M_behindTest_105 ml_M_362 cf_M_settle cv_M_settle rfl rfl (c_M_settle (least := 1) (P := P ++ [(31, 0)]) (Q := Q) (by decide) (by decide) h2.2.2.1 h2.2.2.2.1 hP hS.1 hS.2) (rcv_obj hX (lv_89 _) rfl rfl) (by omega) (by omega) (by omega) (Nat.le_of_ble_eq_true rfl) ?_
  rintro _ w3 ⟨rfl, hf3, hc3, hp3⟩
  have h3 := h2.set hf3 hc3 hp3
  show G0 _ _ _ _ _ _ _ _
  refine g_aload0 hX d_M_behindTest_108 ?_
  refine g_dup hX d_M_behindTest_109 rfl ?_
  refine g_getI hX d_M_behindTest_110 fl_M_298 (lv_89 _) ?_
  refine g_topi (show rI w3 89 29 = nI (P.length + 1) by rw [hp3.1, List.length_append]; rfl) ?_
  refine g_iconst (v := nI 1) hX d_M_behindTest_113 rfl ?_
  refine g_isubN hX d_M_behindTest_114 (by omega) ?_
  refine g_topi (show nI (P.length + 1 - 1) = nI P.length from rfl) ?_
  refine g_putI hX d_M_behindTest_115 fl_M_298 (lv_89 _) ?_
  refine g_aload0 hX d_M_behindTest_118 ?_
  refine g_dup hX d_M_behindTest_119 rfl ?_
  refine g_getI hX d_M_behindTest_120 fl_M_320 (lv_89 _) ?_
  refine g_topi (h3.less (s := P)).2.2.2.2.1 ?_
  refine g_iconst (v := nI 1) hX d_M_behindTest_123 rfl ?_
  refine g_isubN hX d_M_behindTest_124 hod ?_
  refine g_putI hX d_M_behindTest_125 fl_M_320 (lv_89 _) ?_
  refine g_iconst (v := nI 2) hX d_M_behindTest_128 rfl ?_
  refine g_iret hX hF d_M_behindTest_129 (by omega) (by omega) ?_
  exact ⟨rfl, (((hf.R.tr hf3.R).I (by omega)).I (by omega)), (h3.less (s := P)).opd⟩
theorem c_M_behindTest_closeN {E : EV} {w : Mem} {t : List Nat} {f p : Nat} {c s : List (Nat × Nat)} {od : Nat} (h : RdP w t f p c s od) (hP : PileW c s) (hna : ¬ isW t f wAnd) (hno : ¬ isW t f wOr) (hs : ¬ isS t f 41) (hin : innK s s.length = nI 31) : T E m_M_behindTest 3 0 0 [.ref 89] w (fun r w2 => r = some (.int (nI 2)) ∧ FrR w w2 ∧ BadP w2 t f) := by
  refine T_of (L := [.ref 89, un]) cf_M_behindTest rfl (Nat.le_of_ble_eq_true rfl) (fun X hX hF => ?_)
  refine g_aload0 hX d_M_behindTest_0 ?_
  refine g_ldc2 (v := lN 1476) hX d_M_behindTest_1 k_M_372 rfl ?_
  refine g_callV (As := [_]) hX hF.1 d_M_behindTest_4 ml_M_316 cf_M_isWord cv_M_isWord rfl rfl (c_M_isWord (wd := wAnd) h.1 rfl (by decide) (by decide)) (rcv_obj hX (lv_89 _) rfl rfl) (by omega) (by omega) (by omega) (Nat.le_of_ble_eq_true rfl) ?_
  refine ret_k ?_
  refine g_istore1 hX d_M_behindTest_7 rfl (by decide) ?_
  refine g_iload1 hX d_M_behindTest_8 ?_
  refine g_ifB_ne hX d_M_behindTest_9 (fun h => absurd h hna) (fun c0 => ?_)
  refine g_aload0 hX d_M_behindTest_12 ?_
  refine g_ldc2 (v := lN 498) hX d_M_behindTest_13 k_M_374 rfl ?_
  refine g_callV (As := [_]) hX hF.1 d_M_behindTest_16 ml_M_316 cf_M_isWord cv_M_isWord rfl rfl (c_M_isWord (wd := wOr) h.1 rfl (by decide) (by decide)) (rcv_obj hX (lv_89 _) rfl rfl) (by omega) (by omega) (by omega) (Nat.le_of_ble_eq_true rfl) ?_
  refine ret_k ?_
  refine g_ifB_eq hX d_M_behindTest_19 (fun c1 => ?_) (fun h => absurd h hno)
  refine g_aload0 hX d_M_behindTest_76 ?_
  refine g_callV (As := []) hX hF.1 d_M_behindTest_77 ml_M_365 cf_M_inner cv_M_inner rfl rfl (c_M_inner h.2.2.2.1 hP) (rcv_obj hX (lv_89 _) rfl rfl) (by omega) (by omega) (by omega) (Nat.le_of_ble_eq_true rfl) ?_
  refine ret_k ?_
  refine g_topi hin ?_
  refine g_iconst (v := -1) hX d_M_behindTest_80 rfl ?_
  refine g_icmp_ne hX d_M_behindTest_81 (fun c2 => ?_) (fun h => absurd h (show ¬ nI 31 = -1 by decide))
  refine g_aload0 hX d_M_behindTest_86 ?_
  refine g_aload0 hX d_M_behindTest_87 ?_
  refine g_bipush (v := nI 41) hX d_M_behindTest_88 rfl ?_
  refine g_callV (As := [_]) hX hF.1 d_M_behindTest_90 ml_M_329 cf_M_isSign cv_M_isSign rfl rfl (c_M_isSign h.1 (by decide)) (rcv_obj hX (lv_89 _) rfl rfl) (by omega) (by omega) (by omega) (Nat.le_of_ble_eq_true rfl) ?_
  refine ret_k ?_
  refine g_callV (As := [_]) hX hF.1 d_M_behindTest_93 ml_M_291 cf_M_must cv_M_must rfl rfl (c_M_mustN h.1.2.1 h.2.2.2.2.2.1 (by rw [b2i_f hs]; rfl)) (rcv_obj hX (lv_89 _) rfl rfl) (by omega) (by omega) (by omega) (Nat.le_of_ble_eq_true rfl) ?_
  refine ret_k ?_
  refine g_aload0 hX d_M_behindTest_96 ?_
  refine g_getZ hX d_M_behindTest_97 fl_M_258 (lv_89 _) ?_
  refine g_topi (h.bad hP).2.1 ?_
  refine g_if_ne hX d_M_behindTest_100 (fun c3 => ?_) (fun h => absurd h (by decide))
  refine g_iconst (v := nI 2) hX d_M_behindTest_128 rfl ?_
  refine g_iret hX hF d_M_behindTest_129 (by omega) (by omega) ?_
  exact ⟨rfl, (FrR.rf w).bad, h.bad hP⟩
