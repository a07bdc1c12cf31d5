def m_M_readOrder : MR := (⟨"SubgraphDeskModel", "readOrder", "()V"⟩, prog_14_method_124_code, 4, none)
theorem cf_M_readOrder : CF m_M_readOrder 0 := ⟨gd 2189 (by decide +kernel) rfl, gd 151 (by decide +kernel) rfl, by decide +kernel, by decide, by decide +kernel⟩
theorem cv_M_readOrder : CV m_M_readOrder := ⟨gd 2188 (by decide +kernel) rfl, gd 130 (by decide +kernel) rfl⟩
theorem d_M_readOrder_0 : Dc prog_14_method_124_code 0 (.iconst (-1)) 1 1 := ⟨by decide +kernel, rfl⟩
theorem d_M_readOrder_1 : Dc prog_14_method_124_code 1 (.istore_n 1) 1 2 := ⟨by decide +kernel, rfl⟩
theorem d_M_readOrder_2 : Dc prog_14_method_124_code 2 (.iconst 0) 1 3 := ⟨by decide +kernel, rfl⟩
theorem d_M_readOrder_3 : Dc prog_14_method_124_code 3 (.istore_n 2) 1 4 := ⟨by decide +kernel, rfl⟩
theorem d_M_readOrder_4 : Dc prog_14_method_124_code 4 (.iload_n 2) 1 5 := ⟨by decide +kernel, rfl⟩
theorem d_M_readOrder_5 : Dc prog_14_method_124_code 5 (.iconst 4) 1 6 := ⟨by decide +kernel, rfl⟩
theorem d_M_readOrder_6 : Dj prog_14_method_124_code 6 (.if_icmp .ge 28) 9 28 34 := ⟨by decide +kernel, rfl, rfl⟩
theorem d_M_readOrder_9 : Dc prog_14_method_124_code 9 (.aload_n 0) 1 10 := ⟨by decide +kernel, rfl⟩
theorem d_M_readOrder_10 : Dc prog_14_method_124_code 10 (.aload_n 0) 1 11 := ⟨by decide +kernel, rfl⟩
theorem d_M_readOrder_11 : Dc prog_14_method_124_code 11 (.getfield 155) 3 14 := ⟨by decide +kernel, rfl⟩
theorem d_M_readOrder_14 : Dc prog_14_method_124_code 14 (.iload_n 2) 1 15 := ⟨by decide +kernel, rfl⟩
theorem d_M_readOrder_15 : Dc prog_14_method_124_code 15 (.laload) 1 16 := ⟨by decide +kernel, rfl⟩
theorem d_M_readOrder_16 : Dc prog_14_method_124_code 16 (.invokevirtual 316) 3 19 := ⟨by decide +kernel, rfl⟩
theorem d_M_readOrder_19 : Dj prog_14_method_124_code 19 (.ifCond .eq 7) 22 7 26 := ⟨by decide +kernel, rfl, rfl⟩
theorem d_M_readOrder_22 : Dc prog_14_method_124_code 22 (.iload_n 2) 1 23 := ⟨by decide +kernel, rfl⟩
theorem d_M_readOrder_23 : Dj prog_14_method_124_code 23 (.goto 4) 26 4 27 := ⟨by decide +kernel, rfl, rfl⟩
theorem d_M_readOrder_26 : Dc prog_14_method_124_code 26 (.iload_n 1) 1 27 := ⟨by decide +kernel, rfl⟩
theorem d_M_readOrder_27 : Dc prog_14_method_124_code 27 (.istore_n 1) 1 28 := ⟨by decide +kernel, rfl⟩
theorem d_M_readOrder_28 : Dc prog_14_method_124_code 28 (.iinc 2 1) 3 31 := ⟨by decide +kernel, rfl⟩
theorem d_M_readOrder_31 : Dj prog_14_method_124_code 31 (.goto (-27)) 34 (-27) 4 := ⟨by decide +kernel, rfl, rfl⟩
theorem d_M_readOrder_34 : Dc prog_14_method_124_code 34 (.aload_n 0) 1 35 := ⟨by decide +kernel, rfl⟩
theorem d_M_readOrder_35 : Dc prog_14_method_124_code 35 (.iload_n 1) 1 36 := ⟨by decide +kernel, rfl⟩
theorem d_M_readOrder_36 : Dc prog_14_method_124_code 36 (.iconst (-1)) 1 37 := ⟨by decide +kernel, rfl⟩
theorem d_M_readOrder_37 : Dj prog_14_method_124_code 37 (.if_icmp .eq 16) 40 16 53 := ⟨by decide +kernel, rfl, rfl⟩
theorem d_M_readOrder_40 : Dc prog_14_method_124_code 40 (.aload_n 0) 1 41 := ⟨by decide +kernel, rfl⟩
theorem d_M_readOrder_41 : Dc prog_14_method_124_code 41 (.getfield 389) 3 44 := ⟨by decide +kernel, rfl⟩
theorem d_M_readOrder_44 : Dc prog_14_method_124_code 44 (.bipush 12) 2 46 := ⟨by decide +kernel, rfl⟩
theorem d_M_readOrder_46 : Dj prog_14_method_124_code 46 (.if_icmp .ge 7) 49 7 53 := ⟨by decide +kernel, rfl, rfl⟩
theorem d_M_readOrder_49 : Dc prog_14_method_124_code 49 (.iconst 1) 1 50 := ⟨by decide +kernel, rfl⟩
theorem d_M_readOrder_50 : Dj prog_14_method_124_code 50 (.goto 4) 53 4 54 := ⟨by decide +kernel, rfl, rfl⟩
theorem d_M_readOrder_53 : Dc prog_14_method_124_code 53 (.iconst 0) 1 54 := ⟨by decide +kernel, rfl⟩
theorem d_M_readOrder_54 : Dc prog_14_method_124_code 54 (.invokevirtual 291) 3 57 := ⟨by decide +kernel, rfl⟩
theorem d_M_readOrder_57 : Dc prog_14_method_124_code 57 (.aload_n 0) 1 58 := ⟨by decide +kernel, rfl⟩
theorem d_M_readOrder_58 : Dc prog_14_method_124_code 58 (.getfield 258) 3 61 := ⟨by decide +kernel, rfl⟩
theorem d_M_readOrder_61 : Dj prog_14_method_124_code 61 (.ifCond .eq 4) 64 4 65 := ⟨by decide +kernel, rfl, rfl⟩
theorem d_M_readOrder_64 : Dc prog_14_method_124_code 64 (.return_) 1 65 := ⟨by decide +kernel, rfl⟩
theorem d_M_readOrder_65 : Dc prog_14_method_124_code 65 (.bipush 8) 2 67 := ⟨by decide +kernel, rfl⟩
theorem d_M_readOrder_67 : Dc prog_14_method_124_code 67 (.aload_n 0) 1 68 := ⟨by decide +kernel, rfl⟩
theorem d_M_readOrder_68 : Dc prog_14_method_124_code 68 (.getfield 389) 3 71 := ⟨by decide +kernel, rfl⟩
theorem d_M_readOrder_71 : Dc prog_14_method_124_code 71 (.imul) 1 72 := ⟨by decide +kernel, rfl⟩
theorem d_M_readOrder_72 : Dc prog_14_method_124_code 72 (.istore_n 2) 1 73 := ⟨by decide +kernel, rfl⟩
theorem d_M_readOrder_73 : Dc prog_14_method_124_code 73 (.aload_n 0) 1 74 := ⟨by decide +kernel, rfl⟩
theorem d_M_readOrder_74 : Dc prog_14_method_124_code 74 (.dup) 1 75 := ⟨by decide +kernel, rfl⟩
theorem d_M_readOrder_75 : Dc prog_14_method_124_code 75 (.getfield 389) 3 78 := ⟨by decide +kernel, rfl⟩
theorem d_M_readOrder_78 : Dc prog_14_method_124_code 78 (.iconst 1) 1 79 := ⟨by decide +kernel, rfl⟩
theorem d_M_readOrder_79 : Dc prog_14_method_124_code 79 (.iadd) 1 80 := ⟨by decide +kernel, rfl⟩
theorem d_M_readOrder_80 : Dc prog_14_method_124_code 80 (.putfield 389) 3 83 := ⟨by decide +kernel, rfl⟩
theorem d_M_readOrder_83 : Dc prog_14_method_124_code 83 (.iconst 0) 1 84 := ⟨by decide +kernel, rfl⟩
theorem d_M_readOrder_84 : Dc prog_14_method_124_code 84 (.istore_n 3) 1 85 := ⟨by decide +kernel, rfl⟩
theorem d_M_readOrder_85 : Dc prog_14_method_124_code 85 (.iload_n 3) 1 86 := ⟨by decide +kernel, rfl⟩
theorem d_M_readOrder_86 : Dc prog_14_method_124_code 86 (.bipush 8) 2 88 := ⟨by decide +kernel, rfl⟩
theorem d_M_readOrder_88 : Dj prog_14_method_124_code 88 (.if_icmp .ge 18) 91 18 106 := ⟨by decide +kernel, rfl, rfl⟩
theorem d_M_readOrder_91 : Dc prog_14_method_124_code 91 (.aload_n 0) 1 92 := ⟨by decide +kernel, rfl⟩
theorem d_M_readOrder_92 : Dc prog_14_method_124_code 92 (.getfield 158) 3 95 := ⟨by decide +kernel, rfl⟩
theorem d_M_readOrder_95 : Dc prog_14_method_124_code 95 (.iload_n 2) 1 96 := ⟨by decide +kernel, rfl⟩
theorem d_M_readOrder_96 : Dc prog_14_method_124_code 96 (.iload_n 3) 1 97 := ⟨by decide +kernel, rfl⟩
theorem d_M_readOrder_97 : Dc prog_14_method_124_code 97 (.iadd) 1 98 := ⟨by decide +kernel, rfl⟩
theorem d_M_readOrder_98 : Dc prog_14_method_124_code 98 (.iconst 0) 1 99 := ⟨by decide +kernel, rfl⟩
theorem d_M_readOrder_99 : Dc prog_14_method_124_code 99 (.iastore) 1 100 := ⟨by decide +kernel, rfl⟩
theorem d_M_readOrder_100 : Dc prog_14_method_124_code 100 (.iinc 3 1) 3 103 := ⟨by decide +kernel, rfl⟩
theorem d_M_readOrder_103 : Dj prog_14_method_124_code 103 (.goto (-18)) 106 (-18) 85 := ⟨by decide +kernel, rfl, rfl⟩
theorem d_M_readOrder_106 : Dc prog_14_method_124_code 106 (.aload_n 0) 1 107 := ⟨by decide +kernel, rfl⟩
theorem d_M_readOrder_107 : Dc prog_14_method_124_code 107 (.getfield 158) 3 110 := ⟨by decide +kernel, rfl⟩
theorem d_M_readOrder_110 : Dc prog_14_method_124_code 110 (.iload_n 2) 1 111 := ⟨by decide +kernel, rfl⟩
theorem d_M_readOrder_111 : Dc prog_14_method_124_code 111 (.iload_n 1) 1 112 := ⟨by decide +kernel, rfl⟩
theorem d_M_readOrder_112 : Dc prog_14_method_124_code 112 (.iastore) 1 113 := ⟨by decide +kernel, rfl⟩
theorem d_M_readOrder_113 : Dc prog_14_method_124_code 113 (.aload_n 0) 1 114 := ⟨by decide +kernel, rfl⟩
theorem d_M_readOrder_114 : Dc prog_14_method_124_code 114 (.iload_n 2) 1 115 := ⟨by decide +kernel, rfl⟩
theorem d_M_readOrder_115 : Dc prog_14_method_124_code 115 (.iconst 1) 1 116 := ⟨by decide +kernel, rfl⟩
theorem d_M_readOrder_116 : Dc prog_14_method_124_code 116 (.iadd) 1 117 := ⟨by decide +kernel, rfl⟩
theorem d_M_readOrder_117 : Dc prog_14_method_124_code 117 (.invokevirtual 562) 3 120 := ⟨by decide +kernel, rfl⟩
theorem d_M_readOrder_120 : Dc prog_14_method_124_code 120 (.aload_n 0) 1 121 := ⟨by decide +kernel, rfl⟩
theorem d_M_readOrder_121 : Dc prog_14_method_124_code 121 (.getfield 258) 3 124 := ⟨by decide +kernel, rfl⟩
theorem d_M_readOrder_124 : Dj prog_14_method_124_code 124 (.ifCond .ne 25) 127 25 149 := ⟨by decide +kernel, rfl, rfl⟩
theorem d_M_readOrder_127 : Dc prog_14_method_124_code 127 (.aload_n 0) 1 128 := ⟨by decide +kernel, rfl⟩
theorem d_M_readOrder_128 : Dc prog_14_method_124_code 128 (.aload_n 0) 1 129 := ⟨by decide +kernel, rfl⟩
theorem d_M_readOrder_129 : Dc prog_14_method_124_code 129 (.iload_n 1) 1 130 := ⟨by decide +kernel, rfl⟩
theorem d_M_readOrder_130 : Dc prog_14_method_124_code 130 (.iconst 2) 1 131 := ⟨by decide +kernel, rfl⟩
theorem d_M_readOrder_131 : Dj prog_14_method_124_code 131 (.if_icmp .ge 9) 134 9 140 := ⟨by decide +kernel, rfl, rfl⟩
theorem d_M_readOrder_134 : Dc prog_14_method_124_code 134 (.ldc2_w 565) 3 137 := ⟨by decide +kernel, rfl⟩
theorem d_M_readOrder_137 : Dj prog_14_method_124_code 137 (.goto 6) 140 6 143 := ⟨by decide +kernel, rfl, rfl⟩
theorem d_M_readOrder_140 : Dc prog_14_method_124_code 140 (.ldc2_w 567) 3 143 := ⟨by decide +kernel, rfl⟩
theorem d_M_readOrder_143 : Dc prog_14_method_124_code 143 (.invokevirtual 316) 3 146 := ⟨by decide +kernel, rfl⟩
theorem d_M_readOrder_146 : Dc prog_14_method_124_code 146 (.invokevirtual 291) 3 149 := ⟨by decide +kernel, rfl⟩
theorem d_M_readOrder_149 : Dc prog_14_method_124_code 149 (.aload_n 0) 1 150 := ⟨by decide +kernel, rfl⟩
theorem d_M_readOrder_150 : Dc prog_14_method_124_code 150 (.iload_n 2) 1 151 := ⟨by decide +kernel, rfl⟩
theorem d_M_readOrder_151 : Dc prog_14_method_124_code 151 (.iconst 3) 1 152 := ⟨by decide +kernel, rfl⟩
theorem d_M_readOrder_152 : Dc prog_14_method_124_code 152 (.iadd) 1 153 := ⟨by decide +kernel, rfl⟩
theorem d_M_readOrder_153 : Dc prog_14_method_124_code 153 (.invokevirtual 562) 3 156 := ⟨by decide +kernel, rfl⟩
theorem d_M_readOrder_156 : Dc prog_14_method_124_code 156 (.aload_n 0) 1 157 := ⟨by decide +kernel, rfl⟩
theorem d_M_readOrder_157 : Dc prog_14_method_124_code 157 (.getfield 158) 3 160 := ⟨by decide +kernel, rfl⟩
theorem d_M_readOrder_160 : Dc prog_14_method_124_code 160 (.iload_n 2) 1 161 := ⟨by decide +kernel, rfl⟩
theorem d_M_readOrder_161 : Dc prog_14_method_124_code 161 (.bipush 7) 2 163 := ⟨by decide +kernel, rfl⟩
theorem d_M_readOrder_163 : Dc prog_14_method_124_code 163 (.iadd) 1 164 := ⟨by decide +kernel, rfl⟩
theorem d_M_readOrder_164 : Dc prog_14_method_124_code 164 (.iconst 1) 1 165 := ⟨by decide +kernel, rfl⟩
theorem d_M_readOrder_165 : Dc prog_14_method_124_code 165 (.iastore) 1 166 := ⟨by decide +kernel, rfl⟩
theorem d_M_readOrder_166 : Dc prog_14_method_124_code 166 (.aload_n 0) 1 167 := ⟨by decide +kernel, rfl⟩
theorem d_M_readOrder_167 : Dc prog_14_method_124_code 167 (.getfield 258) 3 170 := ⟨by decide +kernel, rfl⟩
theorem d_M_readOrder_170 : Dj prog_14_method_124_code 170 (.ifCond .ne 34) 173 34 204 := ⟨by decide +kernel, rfl, rfl⟩
theorem d_M_readOrder_173 : Dc prog_14_method_124_code 173 (.aload_n 0) 1 174 := ⟨by decide +kernel, rfl⟩
theorem d_M_readOrder_174 : Dc prog_14_method_124_code 174 (.ldc2_w 569) 3 177 := ⟨by decide +kernel, rfl⟩
theorem d_M_readOrder_177 : Dc prog_14_method_124_code 177 (.invokevirtual 316) 3 180 := ⟨by decide +kernel, rfl⟩
theorem d_M_readOrder_180 : Dj prog_14_method_124_code 180 (.ifCond .eq 24) 183 24 204 := ⟨by decide +kernel, rfl, rfl⟩
theorem d_M_readOrder_183 : Dc prog_14_method_124_code 183 (.aload_n 0) 1 184 := ⟨by decide +kernel, rfl⟩
theorem d_M_readOrder_184 : Dc prog_14_method_124_code 184 (.invokevirtual 262) 3 187 := ⟨by decide +kernel, rfl⟩
theorem d_M_readOrder_187 : Dc prog_14_method_124_code 187 (.aload_n 0) 1 188 := ⟨by decide +kernel, rfl⟩
theorem d_M_readOrder_188 : Dc prog_14_method_124_code 188 (.getfield 158) 3 191 := ⟨by decide +kernel, rfl⟩
theorem d_M_readOrder_191 : Dc prog_14_method_124_code 191 (.iload_n 2) 1 192 := ⟨by decide +kernel, rfl⟩
theorem d_M_readOrder_192 : Dc prog_14_method_124_code 192 (.bipush 7) 2 194 := ⟨by decide +kernel, rfl⟩
theorem d_M_readOrder_194 : Dc prog_14_method_124_code 194 (.iadd) 1 195 := ⟨by decide +kernel, rfl⟩
theorem d_M_readOrder_195 : Dc prog_14_method_124_code 195 (.aload_n 0) 1 196 := ⟨by decide +kernel, rfl⟩
theorem d_M_readOrder_196 : Dc prog_14_method_124_code 196 (.lconst 1) 1 197 := ⟨by decide +kernel, rfl⟩
theorem d_M_readOrder_197 : Dc prog_14_method_124_code 197 (.ldc2_w 308) 3 200 := ⟨by decide +kernel, rfl⟩
theorem d_M_readOrder_200 : Dc prog_14_method_124_code 200 (.invokevirtual 353) 3 203 := ⟨by decide +kernel, rfl⟩
theorem d_M_readOrder_203 : Dc prog_14_method_124_code 203 (.iastore) 1 204 := ⟨by decide +kernel, rfl⟩
theorem d_M_readOrder_204 : Dc prog_14_method_124_code 204 (.aload_n 0) 1 205 := ⟨by decide +kernel, rfl⟩
theorem d_M_readOrder_205 : Dc prog_14_method_124_code 205 (.getfield 158) 3 208 := ⟨by decide +kernel, rfl⟩
theorem d_M_readOrder_208 : Dc prog_14_method_124_code 208 (.iload_n 2) 1 209 := ⟨by decide +kernel, rfl⟩
theorem d_M_readOrder_209 : Dc prog_14_method_124_code 209 (.iconst 5) 1 210 := ⟨by decide +kernel, rfl⟩
theorem d_M_readOrder_210 : Dc prog_14_method_124_code 210 (.iadd) 1 211 := ⟨by decide +kernel, rfl⟩
theorem d_M_readOrder_211 : Dc prog_14_method_124_code 211 (.aload_n 0) 1 212 := ⟨by decide +kernel, rfl⟩
theorem d_M_readOrder_212 : Dc prog_14_method_124_code 212 (.getfield 295) 3 215 := ⟨by decide +kernel, rfl⟩
theorem d_M_readOrder_215 : Dc prog_14_method_124_code 215 (.iastore) 1 216 := ⟨by decide +kernel, rfl⟩
theorem d_M_readOrder_216 : Dc prog_14_method_124_code 216 (.aload_n 0) 1 217 := ⟨by decide +kernel, rfl⟩
theorem d_M_readOrder_217 : Dc prog_14_method_124_code 217 (.getfield 258) 3 220 := ⟨by decide +kernel, rfl⟩
theorem d_M_readOrder_220 : Dj prog_14_method_124_code 220 (.ifCond .ne 22) 223 22 242 := ⟨by decide +kernel, rfl, rfl⟩
theorem d_M_readOrder_223 : Dc prog_14_method_124_code 223 (.aload_n 0) 1 224 := ⟨by decide +kernel, rfl⟩
theorem d_M_readOrder_224 : Dc prog_14_method_124_code 224 (.ldc2_w 395) 3 227 := ⟨by decide +kernel, rfl⟩
theorem d_M_readOrder_227 : Dc prog_14_method_124_code 227 (.invokevirtual 316) 3 230 := ⟨by decide +kernel, rfl⟩
theorem d_M_readOrder_230 : Dj prog_14_method_124_code 230 (.ifCond .eq 12) 233 12 242 := ⟨by decide +kernel, rfl, rfl⟩
theorem d_M_readOrder_233 : Dc prog_14_method_124_code 233 (.aload_n 0) 1 234 := ⟨by decide +kernel, rfl⟩
theorem d_M_readOrder_234 : Dc prog_14_method_124_code 234 (.invokevirtual 262) 3 237 := ⟨by decide +kernel, rfl⟩
theorem d_M_readOrder_237 : Dc prog_14_method_124_code 237 (.aload_n 0) 1 238 := ⟨by decide +kernel, rfl⟩
theorem d_M_readOrder_238 : Dc prog_14_method_124_code 238 (.iconst 1) 1 239 := ⟨by decide +kernel, rfl⟩
theorem d_M_readOrder_239 : Dc prog_14_method_124_code 239 (.invokevirtual 392) 3 242 := ⟨by decide +kernel, rfl⟩
theorem d_M_readOrder_242 : Dc prog_14_method_124_code 242 (.aload_n 0) 1 243 := ⟨by decide +kernel, rfl⟩
theorem d_M_readOrder_243 : Dc prog_14_method_124_code 243 (.getfield 158) 3 246 := ⟨by decide +kernel, rfl⟩
theorem d_M_readOrder_246 : Dc prog_14_method_124_code 246 (.iload_n 2) 1 247 := ⟨by decide +kernel, rfl⟩
theorem d_M_readOrder_247 : Dc prog_14_method_124_code 247 (.bipush 6) 2 249 := ⟨by decide +kernel, rfl⟩
theorem d_M_readOrder_249 : Dc prog_14_method_124_code 249 (.iadd) 1 250 := ⟨by decide +kernel, rfl⟩
theorem d_M_readOrder_250 : Dc prog_14_method_124_code 250 (.aload_n 0) 1 251 := ⟨by decide +kernel, rfl⟩
theorem d_M_readOrder_251 : Dc prog_14_method_124_code 251 (.getfield 295) 3 254 := ⟨by decide +kernel, rfl⟩
theorem d_M_readOrder_254 : Dc prog_14_method_124_code 254 (.iastore) 1 255 := ⟨by decide +kernel, rfl⟩
theorem d_M_readOrder_255 : Dc prog_14_method_124_code 255 (.return_) 1 256 := ⟨by decide +kernel, rfl⟩
theorem fl_M_155 : FL "SubgraphDeskModel" 155 12 60 true (.array .long) (3, 36) := ⟨R_M, F_M, 69, ty_M, rfl, rfl, in_M, tyok_M, nm_M, by decide, gd 1532 (by decide +kernel) rfl, rfl, rfl, rfl⟩
theorem ml_M_562 : Cond.methodLink "SubgraphDeskModel" 562 m_M_readSum.1 ∈ lw_gd := gd 2190 (by decide +kernel) rfl
theorem k_M_565 : Cond.constantLong "SubgraphDeskModel" 565 (655) ∈ lw_gd := gd 2194 (by decide +kernel) rfl
theorem k_M_567 : Cond.constantLong "SubgraphDeskModel" 567 (51) ∈ lw_gd := gd 2195 (by decide +kernel) rfl
theorem k_M_569 : Cond.constantLong "SubgraphDeskModel" 569 (21279923) ∈ lw_gd := gd 2196 (by decide +kernel) rfl
def OsF (w w2 : Mem) (cls : List OcT) (c0 c : List (Nat × Nat)) (a : Nat) : Prop := FrW w w2 ∧ RdC w2 true ∧ rI w2 89 21 = nI (cls.length + 1) ∧ (∀ j, j < 8 * cls.length → rI w2 126 j = rI w 126 j) ∧ rI w2 126 (8 * cls.length) = nI a ∧ SameC c0.length c0 c
def OsE (w2 : Mem) (k : Nat) (c : List (Nat × Nat)) (d : Den) : Prop := ∃ a b : Nat, rI w2 126 k = nI a ∧ rI w2 126 (k + 1) = nI b ∧ b ≤ c.length ∧ SegL c a b d
theorem OsF.step {w w2 w3 : Mem} {cls : List OcT} {c0 c c2 : List (Nat × Nat)} {a : Nat} (h : OsF w w2 cls c0 c a) (hf : FrW w2 w3) (h2 : ∀ j, j ≤ 8 * cls.length → rI w3 126 j = rI w2 126 j) (h3 : rI w3 89 21 = rI w2 89 21) (hs : SameC c.length c c2) : OsF w w3 cls c0 c2 a := by
  obtain ⟨a1, a2, a3, a4, a5, a6⟩ := h
  exact ⟨a1.tr hf, a2.W hf, by rw [h3]; exact a3, fun j hj => by rw [h2 j (by omega)]; exact a4 j hj, by rw [h2 _ (Nat.le_refl _)]; exact a5, a6.tr hs a6.1⟩
theorem OsE.step {w2 w3 : Mem} {k : Nat} {c c2 : List (Nat × Nat)} {d : Den} (h : OsE w2 k c d) (h1 : rI w3 126 k = rI w2 126 k) (h2 : rI w3 126 (k + 1) = rI w2 126 (k + 1)) (hs : SameC c.length c c2) : OsE w3 k c2 d := by
  obtain ⟨a, b, e1, e2, e3, e4⟩ := h
  have := hs.1
  exact ⟨a, b, by rw [h1]; exact e1, by rw [h2]; exact e2, by omega, SegS.same e4 hs e3⟩
theorem SameC.rf (c : List (Nat × Nat)) : SameC c.length c c := ⟨Nat.le_refl _, fun _ _ => ⟨rfl, rfl⟩⟩
theorem FrR.k21 {w w2 : Mem} (h : FrR w w2) : rI w2 89 21 = rI w 89 21 := h.2.1 21 (by decide) (by decide) (by decide) (by decide) (by decide) (by decide) (by decide) (by decide) (by decide)
theorem c_M_readOrder_a {E : EV} {w : Mem} {t : List Nat} {f p : Nat} {c : List (Nat × Nat)} {cls : List OcT} (h : RdB w t f p c) (hX0 : RdX true c [] f p 0) (hC : RdC w true) (hcl : OcsP w c cls) (hc12 : cls.length ≤ 12) {a : Nat} (hak : actK t f 4 = some a) (hk : cls.length < 12) : T E m_M_readOrder 8 0 0 [.ref 89] w (fun r w2 => r = none ∧ FrW w w2 ∧ ordQ t cls (ordCl t cls.length f p) w2) := by
  refine T_of (L := [.ref 89, un, un, un]) cf_M_readOrder rfl (Nat.le_of_ble_eq_true rfl) (fun X hX hF => ?_)
  have htl := h.1.1.1
  obtain ⟨ha4, hact⟩ := actK_lt 4 hak
  have hres0 : ordCl t cls.length f p = oS1 t a (rdE t true 3 (nxT t f) p) := by unfold ordCl; rw [if_neg (by omega), hak]
  have kb242 : ∀ (w2 : Mem) (e : Nat), ordCl t cls.length f p = .inl e → FrW w w2 → BadB w2 t e → G0 E X 0 0 242 [.ref 89, .int (nI a), .int (nI (8 * cls.length)), un] [] w2 := by
    intro w2 e hres hf hb
    obtain ⟨mc, hmc⟩ := hb.code
    refine g_aload0 hX d_M_readOrder_242 ?_
    refine g_getF hX d_M_readOrder_243 fl_M_158 (lv_89 _) ?_
    refine g_iload2 hX d_M_readOrder_246 ?_
    refine g_bipush (v := nI 6) hX d_M_readOrder_247 rfl ?_
    refine g_iaddN hX d_M_readOrder_249 ?_
    refine g_aload0 hX d_M_readOrder_250 ?_
    refine g_getI hX d_M_readOrder_251 fl_M_295 (lv_89 _) ?_
    refine g_topi hmc ?_
    refine g_iast hX d_M_readOrder_254 (lv_126 _) rfl (by omega) ?_
    refine g_vret hX hF d_M_readOrder_255 (by omega) (by omega) ?_
    refine ⟨rfl, hf.tr ((FrV.rf w2).I (Or.inr (Or.inl rfl))).W, ?_⟩
    rw [hres]
    exact hb.v ((FrV.rf w2).I (Or.inr (Or.inl rfl)))
  have kb204 : ∀ (w2 : Mem) (e : Nat), ordCl t cls.length f p = .inl e → FrW w w2 → BadB w2 t e → G0 E X 0 0 204 [.ref 89, .int (nI a), .int (nI (8 * cls.length)), un] [] w2 := by
    intro w2 e hres hf hb
    obtain ⟨mc, hmc⟩ := hb.code
    refine g_aload0 hX d_M_readOrder_204 ?_
    refine g_getF hX d_M_readOrder_205 fl_M_158 (lv_89 _) ?_
    refine g_iload2 hX d_M_readOrder_208 ?_
    refine g_iconst (v := nI 5) hX d_M_readOrder_209 rfl ?_
    refine g_iaddN hX d_M_readOrder_210 ?_
    refine g_aload0 hX d_M_readOrder_211 ?_
    refine g_getI hX d_M_readOrder_212 fl_M_295 (lv_89 _) ?_
    refine g_topi hmc ?_
    refine g_iast hX d_M_readOrder_215 (lv_126 _) rfl (by omega) ?_
    refine g_aload0 hX d_M_readOrder_216 ?_
    refine g_getZ hX d_M_readOrder_217 fl_M_258 (lv_89 _) ?_
    refine g_topi (show rI (sI w2 126 (8 * cls.length + 5) (nI mc)) 89 19 = nI 1 from hb.2.1) ?_
    refine g_if_ne hX d_M_readOrder_220 (fun c0 => ?_) (fun h => absurd h (by decide))
    exact kb242 _ e hres (hf.tr ((FrV.rf w2).I (Or.inr (Or.inl rfl))).W) (hb.v ((FrV.rf w2).I (Or.inr (Or.inl rfl))))
  have kb156 : ∀ (w2 : Mem) (e : Nat), ordCl t cls.length f p = .inl e → FrW w w2 → BadB w2 t e → G0 E X 0 0 156 [.ref 89, .int (nI a), .int (nI (8 * cls.length)), un] [] w2 := by
    intro w2 e hres hf hb
    refine g_aload0 hX d_M_readOrder_156 ?_
    refine g_getF hX d_M_readOrder_157 fl_M_158 (lv_89 _) ?_
    refine g_iload2 hX d_M_readOrder_160 ?_
    refine g_bipush (v := nI 7) hX d_M_readOrder_161 rfl ?_
    refine g_iaddN hX d_M_readOrder_163 ?_
    refine g_iconst (v := nI 1) hX d_M_readOrder_164 rfl ?_
    refine g_iast hX d_M_readOrder_165 (lv_126 _) rfl (by omega) ?_
    refine g_aload0 hX d_M_readOrder_166 ?_
    refine g_getZ hX d_M_readOrder_167 fl_M_258 (lv_89 _) ?_
    refine g_topi (show rI (sI w2 126 (8 * cls.length + 7) (nI 1)) 89 19 = nI 1 from hb.2.1) ?_
    refine g_if_ne hX d_M_readOrder_170 (fun c0 => ?_) (fun h => absurd h (by decide))
    exact kb204 _ e hres (hf.tr ((FrV.rf w2).I (Or.inr (Or.inl rfl))).W) (hb.v ((FrV.rf w2).I (Or.inr (Or.inl rfl))))
  have kb149 : ∀ (w2 : Mem) (e : Nat), ordCl t cls.length f p = .inl e → FrW w w2 → BadB w2 t e → G0 E X 0 0 149 [.ref 89, .int (nI a), .int (nI (8 * cls.length)), un] [] w2 := by
    intro w2 e hres hf hb
    refine g_aload0 hX d_M_readOrder_149 ?_
    refine g_iload2 hX d_M_readOrder_150 ?_
    refine g_iconst (v := nI 3) hX d_M_readOrder_151 rfl ?_
    refine g_iaddN hX d_M_readOrder_152 ?_
    refine g_callV (As := [_]) hX hF.1 d_M_readOrder_153 ml_M_562 cf_M_readSum cv_M_readSum rfl rfl (c_M_readSumB hb (by omega)) (rcv_obj hX (lv_89 _) rfl rfl) (by omega) (by omega) (by omega) (Nat.le_of_ble_eq_true rfl) ?_
    rintro _ w3 ⟨rfl, hf3, hb3⟩
    show G0 _ _ _ _ _ _ _ _
    exact kb156 w3 e hres (hf.tr hf3) hb3
  have kb120 : ∀ (w2 : Mem) (e : Nat), ordCl t cls.length f p = .inl e → FrW w w2 → BadB w2 t e → G0 E X 0 0 120 [.ref 89, .int (nI a), .int (nI (8 * cls.length)), un] [] w2 := by
    intro w2 e hres hf hb
    refine g_aload0 hX d_M_readOrder_120 ?_
    refine g_getZ hX d_M_readOrder_121 fl_M_258 (lv_89 _) ?_
    refine g_topi hb.2.1 ?_
    refine g_if_ne hX d_M_readOrder_124 (fun c0 => ?_) (fun h => absurd h (by decide))
    exact kb149 w2 e hres hf hb
  have k242 : ∀ (w2 : Mem) (f4 p4 m x0 : Nat) (kd : List (Nat × Nat)) (d1 d2 : Den) (q : Option Den), ordCl t cls.length f p = .inr (f4, p4, (a, d1, d2, m, q)) → OsF w w2 cls c kd a → OsE w2 (8 * cls.length + 1) kd d1 → OsE w2 (8 * cls.length + 3) kd d2 → rI w2 126 (8 * cls.length + 7) = nI m → m ≤ 20 → RdB w2 t f4 p4 kd → RdX true kd [] f4 p4 0 → rI w2 126 (8 * cls.length + 5) = nI x0 → x0 ≤ kd.length → (match q with | none => x0 = kd.length | some d => SegL kd x0 kd.length d) → G0 E X 0 0 242 [.ref 89, .int (nI a), .int (nI (8 * cls.length)), un] [] w2 := by
    intro w2 f4 p4 m x0 kd d1 d2 q hres hO hE1 hE2 h7 hm hb hX2 h5 hx0 htst
    refine g_aload0 hX d_M_readOrder_242 ?_
    refine g_getF hX d_M_readOrder_243 fl_M_158 (lv_89 _) ?_
    refine g_iload2 hX d_M_readOrder_246 ?_
    refine g_bipush (v := nI 6) hX d_M_readOrder_247 rfl ?_
    refine g_iaddN hX d_M_readOrder_249 ?_
    refine g_aload0 hX d_M_readOrder_250 ?_
    refine g_getI hX d_M_readOrder_251 fl_M_295 (lv_89 _) ?_
    refine g_topi hb.2.2.1.1 ?_
    refine g_iast hX d_M_readOrder_254 (lv_126 _) rfl (by omega) ?_
    refine g_vret hX hF d_M_readOrder_255 (by omega) (by omega) ?_
    have hv : FrV w2 (sI w2 126 (8 * cls.length + 6) (nI kd.length)) := ((FrV.rf w2).I (Or.inr (Or.inl rfl)))
    refine ⟨rfl, hO.1.tr hv.W, ?_⟩
    rw [hres]
    refine ⟨kd, hb.v hv, hX2, by rw [rI_sI_ne _ _ _ (by decide), List.length_append]; exact hO.2.2.1, fun j q hq => ?_⟩
    rw [rI_sI]
    by_cases hj : j < cls.length
    · rw [List.getElem?_append_left hj] at hq
      refine (hcl.2 j q hq).same hO.2.2.2.2.2 (fun m hm => ?_)
      rw [upd_eq, if_neg (by omega)]
      exact hO.2.2.2.1 _ (by omega)
    · rw [List.getElem?_append_right (by omega)] at hq
      have hj0 : j = cls.length := by
        by_cases z : j = cls.length
        · exact z
        · rw [List.getElem?_eq_none (by rw [List.length_singleton]; omega)] at hq
          cases hq
      subst hj0
      rw [Nat.sub_self] at hq
      obtain rfl := Option.some.inj hq.symm
      obtain ⟨x1, y1, u1, u2, u3, u4⟩ := hE1
      obtain ⟨x2, y2, v1, v2, v3, v4⟩ := hE2
      refine ⟨?_, ha4, ?_, hm, x1, y1, x2, y2, x0, kd.length, ?_, ?_, ?_, ?_, ?_, ?_, u3, v3, hx0, Nat.le_refl _, u4, v4, ?_⟩
      · rw [upd_eq, if_neg (by omega)]; exact hO.2.2.2.2.1
      · rw [upd_eq, if_neg (by omega)]; exact h7
      · rw [upd_eq, if_neg (by omega)]; exact u1
      · rw [upd_eq, if_neg (by omega)]; exact u2
      · rw [upd_eq, if_neg (by omega)]; exact v1
      · rw [upd_eq, if_neg (by omega)]; exact v2
      · rw [upd_eq, if_neg (by omega)]; exact h5
      · rw [upd_eq, if_pos rfl]
      · exact htst
  have k204 : ∀ (w2 : Mem) (f3 p2 m : Nat) (kd : List (Nat × Nat)) (d1 d2 : Den), ordCl t cls.length f p = oS4 a d1 d2 m (ifT t true f3 p2) → OsF w w2 cls c kd a → OsE w2 (8 * cls.length + 1) kd d1 → OsE w2 (8 * cls.length + 3) kd d2 → rI w2 126 (8 * cls.length + 7) = nI m → m ≤ 20 → RdB w2 t f3 p2 kd → RdX true kd [] f3 p2 0 → G0 E X 0 0 204 [.ref 89, .int (nI a), .int (nI (8 * cls.length)), un] [] w2 := by
    intro w2 f3 p2 m kd d1 d2 hres hO hE1 hE2 h7 hm hb hX2
    have hv5 : FrV w2 (sI w2 126 (8 * cls.length + 5) (nI kd.length)) := ((FrV.rf w2).I (Or.inr (Or.inl rfl)))
    have hF5 : OsF w (sI w2 126 (8 * cls.length + 5) (nI kd.length)) cls c kd a := hO.step ((FrV.rf w2).I (Or.inr (Or.inl rfl))).W (fun j hj => by rw [rI_sI, upd_eq, if_neg (by omega)]) rfl (SameC.rf kd)
    have hE15 : OsE (sI w2 126 (8 * cls.length + 5) (nI kd.length)) (8 * cls.length + 1) kd d1 := hE1.step (by rw [rI_sI, upd_eq, if_neg (by omega)]) (by rw [rI_sI, upd_eq, if_neg (by omega)]) (SameC.rf kd)
    have hE25 : OsE (sI w2 126 (8 * cls.length + 5) (nI kd.length)) (8 * cls.length + 3) kd d2 := hE2.step (by rw [rI_sI, upd_eq, if_neg (by omega)]) (by rw [rI_sI, upd_eq, if_neg (by omega)]) (SameC.rf kd)
    have h75 : rI (sI w2 126 (8 * cls.length + 5) (nI kd.length)) 126 (8 * cls.length + 7) = nI m := by rw [rI_sI, upd_eq, if_neg (by omega)]; exact h7
    have h55 : rI (sI w2 126 (8 * cls.length + 5) (nI kd.length)) 126 (8 * cls.length + 5) = nI kd.length := by rw [rI_sI, upd_eq, if_pos rfl]
    have hb5 := hb.v hv5
    by_cases hi : isW t f3 wIf
    · cases ht : rdE t true 8 (nxT t f3) p2 with
      | inl e =>
        refine g_aload0 hX d_M_readOrder_204 ?_
        refine g_getF hX d_M_readOrder_205 fl_M_158 (lv_89 _) ?_
        refine g_iload2 hX d_M_readOrder_208 ?_
        refine g_iconst (v := nI 5) hX d_M_readOrder_209 rfl ?_
        refine g_iaddN hX d_M_readOrder_210 ?_
        refine g_aload0 hX d_M_readOrder_211 ?_
        refine g_getI hX d_M_readOrder_212 fl_M_295 (lv_89 _) ?_
        refine g_topi hb.2.2.1.1 ?_
        refine g_iast hX d_M_readOrder_215 (lv_126 _) rfl (by omega) ?_
        refine g_aload0 hX d_M_readOrder_216 ?_
        refine g_getZ hX d_M_readOrder_217 fl_M_258 (lv_89 _) ?_
        refine g_topi (show rI (sI w2 126 (8 * cls.length + 5) (nI kd.length)) 89 19 = nI 0 from hb.2.2.2.1) ?_
        refine g_if_ne hX d_M_readOrder_220 (fun h => absurd (by decide) h) (fun c0 => ?_)
        refine g_aload0 hX d_M_readOrder_223 ?_
        refine g_ldc2 (v := lN 294) hX d_M_readOrder_224 k_M_395 rfl ?_
        refine g_callV (As := [_]) hX hF.1 d_M_readOrder_227 ml_M_316 cf_M_isWord cv_M_isWord rfl rfl (c_M_isWord (wd := wIf) hb5.1 rfl (by decide) (by decide)) (rcv_obj hX (lv_89 _) rfl rfl) (by omega) (by omega) (by omega) (Nat.le_of_ble_eq_true rfl) ?_
        refine ret_k ?_
        refine g_ifB_eq hX d_M_readOrder_230 (fun h => absurd hi h) (fun c1 => ?_)
        refine g_aload0 hX d_M_readOrder_233 ?_
        refine g_callV (As := []) hX hF.1 d_M_readOrder_234 ml_M_262 cf_M_next cv_M_next rfl rfl (c_M_next hb5.1) (rcv_obj hX (lv_89 _) rfl rfl) (by omega) (by omega) (by omega) (Nat.le_of_ble_eq_true rfl) ?_
        rintro _ w6 ⟨rfl, hf6, hT6⟩
        have hb6 := hb5.tok hf6 hT6
        have hC6 := hF5.2.1.fr hf6.R
        have hX6 := hX2.mono (Nat.le_of_lt (nxT_gt (isW_0 hi)))
        show G0 _ _ _ _ _ _ _ _
        refine g_aload0 hX d_M_readOrder_237 ?_
        refine g_iconst (v := nI 1) hX d_M_readOrder_238 rfl ?_
        refine g_callV (As := [_]) hX hF.1 d_M_readOrder_239 ml_M_392 cf_M_readExpression cv_M_readExpression rfl rfl (c_M_readExpression (tb := 1) hb6 hX6 hC6 (by decide) (rdE_eq (m := 8) htl hT6.2.2.2.2.2 hX2.1.2.2.1)) (rcv_obj hX (lv_89 _) rfl rfl) (by omega) (by omega) (by omega) (Nat.le_of_ble_eq_true rfl) ?_
        rintro _ w7 ⟨rfl, hf7, he7⟩
        rw [ht] at he7
        show G0 _ _ _ _ _ _ _ _
        exact kb242 w7 e (hres.trans (by rw [ifT_bad hi ht]; rfl)) (hF5.1.tr (hf6.R.tr hf7).W) (BadP.B he7)
      | inr z =>
        obtain ⟨f5, p5, d3⟩ := z
        refine g_aload0 hX d_M_readOrder_204 ?_
        refine g_getF hX d_M_readOrder_205 fl_M_158 (lv_89 _) ?_
        refine g_iload2 hX d_M_readOrder_208 ?_
        refine g_iconst (v := nI 5) hX d_M_readOrder_209 rfl ?_
        refine g_iaddN hX d_M_readOrder_210 ?_
        refine g_aload0 hX d_M_readOrder_211 ?_
        refine g_getI hX d_M_readOrder_212 fl_M_295 (lv_89 _) ?_
        refine g_topi hb.2.2.1.1 ?_
        refine g_iast hX d_M_readOrder_215 (lv_126 _) rfl (by omega) ?_
        refine g_aload0 hX d_M_readOrder_216 ?_
        refine g_getZ hX d_M_readOrder_217 fl_M_258 (lv_89 _) ?_
        refine g_topi (show rI (sI w2 126 (8 * cls.length + 5) (nI kd.length)) 89 19 = nI 0 from hb.2.2.2.1) ?_
        refine g_if_ne hX d_M_readOrder_220 (fun h => absurd (by decide) h) (fun c0 => ?_)
        refine g_aload0 hX d_M_readOrder_223 ?_
        refine g_ldc2 (v := lN 294) hX d_M_readOrder_224 k_M_395 rfl ?_
        refine g_callV (As := [_]) hX hF.1 d_M_readOrder_227 ml_M_316 cf_M_isWord cv_M_isWord rfl rfl (c_M_isWord (wd := wIf) hb5.1 rfl (by decide) (by decide)) (rcv_obj hX (lv_89 _) rfl rfl) (by omega) (by omega) (by omega) (Nat.le_of_ble_eq_true rfl) ?_
        refine ret_k ?_
        refine g_ifB_eq hX d_M_readOrder_230 (fun h => absurd hi h) (fun c1 => ?_)
        refine g_aload0 hX d_M_readOrder_233 ?_
        refine g_callV (As := []) hX hF.1 d_M_readOrder_234 ml_M_262 cf_M_next cv_M_next rfl rfl (c_M_next hb5.1) (rcv_obj hX (lv_89 _) rfl rfl) (by omega) (by omega) (by omega) (Nat.le_of_ble_eq_true rfl) ?_
        rintro _ w6 ⟨rfl, hf6, hT6⟩
        have hb6 := hb5.tok hf6 hT6
        have hC6 := hF5.2.1.fr hf6.R
        have hX6 := hX2.mono (Nat.le_of_lt (nxT_gt (isW_0 hi)))
        show G0 _ _ _ _ _ _ _ _
        refine g_aload0 hX d_M_readOrder_237 ?_
        refine g_iconst (v := nI 1) hX d_M_readOrder_238 rfl ?_
        refine g_callV (As := [_]) hX hF.1 d_M_readOrder_239 ml_M_392 cf_M_readExpression cv_M_readExpression rfl rfl (c_M_readExpression (tb := 1) hb6 hX6 hC6 (by decide) (rdE_eq (m := 8) htl hT6.2.2.2.2.2 hX2.1.2.2.1)) (rcv_obj hX (lv_89 _) rfl rfl) (by omega) (by omega) (by omega) (Nat.le_of_ble_eq_true rfl) ?_
        rintro _ w7 ⟨rfl, hf7, he7⟩
        rw [ht] at he7
        show G0 _ _ _ _ _ _ _ _
        obtain ⟨ke, hR7, hX7, hseg7, hsame7⟩ := he7
        have e126 : ∀ j, rI w7 126 j = rI (sI w2 126 (8 * cls.length + 5) (nI kd.length)) 126 j := fun j => by rw [hf7.1 126 (by decide) (by decide), hf6.1 126 (by decide)]
        exact k242 w7 f5 p5 m kd.length ke d1 d2 (some d3) (hres.trans (by rw [ifT_ok hi ht]; rfl)) (hF5.step (hf6.R.tr hf7).W (fun j _ => e126 j) (hf7.k21.trans hf6.R.k21) hsame7) (hE15.step (e126 _) (e126 _) hsame7) (hE25.step (e126 _) (e126 _) hsame7) (by rw [e126]; exact h75) hm hR7.B hX7 (by rw [e126]; exact h55) hsame7.1 hseg7
    · skip
      refine g_aload0 hX d_M_readOrder_204 ?_
      refine g_getF hX d_M_readOrder_205 fl_M_158 (lv_89 _) ?_
      refine g_iload2 hX d_M_readOrder_208 ?_
      refine g_iconst (v := nI 5) hX d_M_readOrder_209 rfl ?_
      refine g_iaddN hX d_M_readOrder_210 ?_
      refine g_aload0 hX d_M_readOrder_211 ?_
      refine g_getI hX d_M_readOrder_212 fl_M_295 (lv_89 _) ?_
      refine g_topi hb.2.2.1.1 ?_
      refine g_iast hX d_M_readOrder_215 (lv_126 _) rfl (by omega) ?_
      refine g_aload0 hX d_M_readOrder_216 ?_
      refine g_getZ hX d_M_readOrder_217 fl_M_258 (lv_89 _) ?_
      refine g_topi (show rI (sI w2 126 (8 * cls.length + 5) (nI kd.length)) 89 19 = nI 0 from hb.2.2.2.1) ?_
      refine g_if_ne hX d_M_readOrder_220 (fun h => absurd (by decide) h) (fun c0 => ?_)
      refine g_aload0 hX d_M_readOrder_223 ?_
      refine g_ldc2 (v := lN 294) hX d_M_readOrder_224 k_M_395 rfl ?_
      refine g_callV (As := [_]) hX hF.1 d_M_readOrder_227 ml_M_316 cf_M_isWord cv_M_isWord rfl rfl (c_M_isWord (wd := wIf) hb5.1 rfl (by decide) (by decide)) (rcv_obj hX (lv_89 _) rfl rfl) (by omega) (by omega) (by omega) (Nat.le_of_ble_eq_true rfl) ?_
      refine ret_k ?_
      refine g_ifB_eq hX d_M_readOrder_230 (fun c1 => ?_) (fun h => absurd h hi)
      exact k242 _ f3 p2 m kd.length kd d1 d2 none (hres.trans (by rw [ifT_no hi]; rfl)) hF5 hE15 hE25 h75 hm hb5 hX2 h55 (Nat.le_refl _) rfl
  have k156 : ∀ (w2 : Mem) (f2 p2 : Nat) (kd : List (Nat × Nat)) (d1 d2 : Den), ordCl t cls.length f p = oS3 t a d1 d2 p2 (timesT t f2) → OsF w w2 cls c kd a → OsE w2 (8 * cls.length + 1) kd d1 → OsE w2 (8 * cls.length + 3) kd d2 → RdB w2 t f2 p2 kd → RdX true kd [] f2 p2 0 → G0 E X 0 0 156 [.ref 89, .int (nI a), .int (nI (8 * cls.length)), un] [] w2 := by
    intro w2 f2 p2 kd d1 d2 hres hO hE1 hE2 hb hX2
    have hv7 : FrV w2 (sI w2 126 (8 * cls.length + 7) (nI 1)) := ((FrV.rf w2).I (Or.inr (Or.inl rfl)))
    have hF7 : OsF w (sI w2 126 (8 * cls.length + 7) (nI 1)) cls c kd a := hO.step ((FrV.rf w2).I (Or.inr (Or.inl rfl))).W (fun j hj => by rw [rI_sI, upd_eq, if_neg (by omega)]) rfl (SameC.rf kd)
    have hE17 : OsE (sI w2 126 (8 * cls.length + 7) (nI 1)) (8 * cls.length + 1) kd d1 := hE1.step (by rw [rI_sI, upd_eq, if_neg (by omega)]) (by rw [rI_sI, upd_eq, if_neg (by omega)]) (SameC.rf kd)
    have hE27 : OsE (sI w2 126 (8 * cls.length + 7) (nI 1)) (8 * cls.length + 3) kd d2 := hE2.step (by rw [rI_sI, upd_eq, if_neg (by omega)]) (by rw [rI_sI, upd_eq, if_neg (by omega)]) (SameC.rf kd)
    have h77 : rI (sI w2 126 (8 * cls.length + 7) (nI 1)) 126 (8 * cls.length + 7) = nI 1 := by rw [rI_sI, upd_eq, if_pos rfl]
    have hb7 := hb.v hv7
    by_cases hi : isW t f2 wTimes
    · by_cases ht : isN t (nxT t f2) 1 20
      · skip
        refine g_aload0 hX d_M_readOrder_156 ?_
        refine g_getF hX d_M_readOrder_157 fl_M_158 (lv_89 _) ?_
        refine g_iload2 hX d_M_readOrder_160 ?_
        refine g_bipush (v := nI 7) hX d_M_readOrder_161 rfl ?_
        refine g_iaddN hX d_M_readOrder_163 ?_
        refine g_iconst (v := nI 1) hX d_M_readOrder_164 rfl ?_
        refine g_iast hX d_M_readOrder_165 (lv_126 _) rfl (by omega) ?_
        refine g_aload0 hX d_M_readOrder_166 ?_
        refine g_getZ hX d_M_readOrder_167 fl_M_258 (lv_89 _) ?_
        refine g_topi (show rI (sI w2 126 (8 * cls.length + 7) (nI 1)) 89 19 = nI 0 from hb.2.2.2.1) ?_
        refine g_if_ne hX d_M_readOrder_170 (fun h => absurd (by decide) h) (fun c0 => ?_)
        refine g_aload0 hX d_M_readOrder_173 ?_
        refine g_ldc2 (v := lN 21279923) hX d_M_readOrder_174 k_M_569 rfl ?_
        refine g_callV (As := [_]) hX hF.1 d_M_readOrder_177 ml_M_316 cf_M_isWord cv_M_isWord rfl rfl (c_M_isWord (wd := wTimes) hb7.1 rfl (by decide) (by decide)) (rcv_obj hX (lv_89 _) rfl rfl) (by omega) (by omega) (by omega) (Nat.le_of_ble_eq_true rfl) ?_
        refine ret_k ?_
        refine g_ifB_eq hX d_M_readOrder_180 (fun h => absurd hi h) (fun c1 => ?_)
        refine g_aload0 hX d_M_readOrder_183 ?_
        refine g_callV (As := []) hX hF.1 d_M_readOrder_184 ml_M_262 cf_M_next cv_M_next rfl rfl (c_M_next hb7.1) (rcv_obj hX (lv_89 _) rfl rfl) (by omega) (by omega) (by omega) (Nat.le_of_ble_eq_true rfl) ?_
        rintro _ w6 ⟨rfl, hf6, hT6⟩
        have hb6 := hb7.tok hf6 hT6
        have hF6 : OsF w w6 cls c kd a := hF7.step hf6.R.W (fun j _ => by rw [hf6.1 126 (by decide)]) hf6.R.k21 (SameC.rf kd)
        have hX6 := hX2.mono (Nat.le_of_lt (nxT_gt (isW_0 hi)))
        show G0 _ _ _ _ _ _ _ _
        refine g_aload0 hX d_M_readOrder_187 ?_
        refine g_getF hX d_M_readOrder_188 fl_M_158 (lv_89 _) ?_
        refine g_iload2 hX d_M_readOrder_191 ?_
        refine g_bipush (v := nI 7) hX d_M_readOrder_192 rfl ?_
        refine g_iaddN hX d_M_readOrder_194 ?_
        refine g_aload0 hX d_M_readOrder_195 ?_
        refine g_lconst (v := lN 1) hX d_M_readOrder_196 rfl ?_
        refine g_ldc2 (v := lN 20) hX d_M_readOrder_197 k_M_308 rfl ?_
        refine g_callV (As := [_, _]) hX hF.1 d_M_readOrder_200 ml_M_353 cf_M_number cv_M_number rfl rfl (c_M_numberY (lo := 1) (hi := 20) hb6.1 hb6.2.2.2.1 (by decide) (by decide) ht) (rcv_obj hX (lv_89 _) rfl rfl) (by omega) (by omega) (by omega) (Nat.le_of_ble_eq_true rfl) ?_
        rintro _ w7 ⟨rfl, hf7, hT7⟩
        have hb8 := hb6.tok hf7 hT7
        have e126 : ∀ j, rI w7 126 j = rI (sI w2 126 (8 * cls.length + 7) (nI 1)) 126 j := fun j => by rw [hf7.1 126 (by decide), hf6.1 126 (by decide)]
        show G0 _ _ _ _ _ _ _ _
        refine g_iast hX d_M_readOrder_203 (lv_126 _) rfl (by omega) ?_
        have hv8 : FrV w7 (sI w7 126 (8 * cls.length + 7) (nI (numC t (nxT t f2)))) := (FrV.rf w7).I (Or.inr (Or.inl rfl))
        exact k204 _ (nxT t (nxT t f2)) p2 (numC t (nxT t f2)) kd d1 d2 (hres.trans (by unfold timesT; rw [if_pos hi, if_pos ht]; rfl)) (hF6.step (hf7.R.W.tr hv8.W) (fun j hj => by rw [rI_sI, upd_eq, if_neg (by omega), hf7.1 126 (by decide)]) (by rw [rI_sI_ne _ _ _ (by decide)]; exact hf7.R.k21) (SameC.rf kd)) (hE17.step (by rw [rI_sI, upd_eq, if_neg (by omega), e126]) (by rw [rI_sI, upd_eq, if_neg (by omega), e126]) (SameC.rf kd)) (hE27.step (by rw [rI_sI, upd_eq, if_neg (by omega), e126]) (by rw [rI_sI, upd_eq, if_neg (by omega), e126]) (SameC.rf kd)) (by rw [rI_sI, upd_eq, if_pos rfl]) ht.2.2 (hb8.v hv8) (hX6.mono (Nat.le_of_lt (nxT_gt (isN_0 ht))))
      · skip
        refine g_aload0 hX d_M_readOrder_156 ?_
        refine g_getF hX d_M_readOrder_157 fl_M_158 (lv_89 _) ?_
        refine g_iload2 hX d_M_readOrder_160 ?_
        refine g_bipush (v := nI 7) hX d_M_readOrder_161 rfl ?_
        refine g_iaddN hX d_M_readOrder_163 ?_
        refine g_iconst (v := nI 1) hX d_M_readOrder_164 rfl ?_
        refine g_iast hX d_M_readOrder_165 (lv_126 _) rfl (by omega) ?_
        refine g_aload0 hX d_M_readOrder_166 ?_
        refine g_getZ hX d_M_readOrder_167 fl_M_258 (lv_89 _) ?_
        refine g_topi (show rI (sI w2 126 (8 * cls.length + 7) (nI 1)) 89 19 = nI 0 from hb.2.2.2.1) ?_
        refine g_if_ne hX d_M_readOrder_170 (fun h => absurd (by decide) h) (fun c0 => ?_)
        refine g_aload0 hX d_M_readOrder_173 ?_
        refine g_ldc2 (v := lN 21279923) hX d_M_readOrder_174 k_M_569 rfl ?_
        refine g_callV (As := [_]) hX hF.1 d_M_readOrder_177 ml_M_316 cf_M_isWord cv_M_isWord rfl rfl (c_M_isWord (wd := wTimes) hb7.1 rfl (by decide) (by decide)) (rcv_obj hX (lv_89 _) rfl rfl) (by omega) (by omega) (by omega) (Nat.le_of_ble_eq_true rfl) ?_
        refine ret_k ?_
        refine g_ifB_eq hX d_M_readOrder_180 (fun h => absurd hi h) (fun c1 => ?_)
        refine g_aload0 hX d_M_readOrder_183 ?_
        refine g_callV (As := []) hX hF.1 d_M_readOrder_184 ml_M_262 cf_M_next cv_M_next rfl rfl (c_M_next hb7.1) (rcv_obj hX (lv_89 _) rfl rfl) (by omega) (by omega) (by omega) (Nat.le_of_ble_eq_true rfl) ?_
        rintro _ w6 ⟨rfl, hf6, hT6⟩
        have hb6 := hb7.tok hf6 hT6
        have hF6 : OsF w w6 cls c kd a := hF7.step hf6.R.W (fun j _ => by rw [hf6.1 126 (by decide)]) hf6.R.k21 (SameC.rf kd)
        have hX6 := hX2.mono (Nat.le_of_lt (nxT_gt (isW_0 hi)))
        show G0 _ _ _ _ _ _ _ _
        refine g_aload0 hX d_M_readOrder_187 ?_
        refine g_getF hX d_M_readOrder_188 fl_M_158 (lv_89 _) ?_
        refine g_iload2 hX d_M_readOrder_191 ?_
        refine g_bipush (v := nI 7) hX d_M_readOrder_192 rfl ?_
        refine g_iaddN hX d_M_readOrder_194 ?_
        refine g_aload0 hX d_M_readOrder_195 ?_
        refine g_lconst (v := lN 1) hX d_M_readOrder_196 rfl ?_
        refine g_ldc2 (v := lN 20) hX d_M_readOrder_197 k_M_308 rfl ?_
        refine g_callV (As := [_, _]) hX hF.1 d_M_readOrder_200 ml_M_353 cf_M_number cv_M_number rfl rfl (c_M_numberN (lo := 1) (hi := 20) hb6.1 hb6.2.2.2.1 (by decide) (by decide) ht) (rcv_obj hX (lv_89 _) rfl rfl) (by omega) (by omega) (by omega) (Nat.le_of_ble_eq_true rfl) ?_
        rintro _ w7 ⟨⟨x, rfl⟩, rfl⟩
        show G0 _ _ _ _ _ _ _ _
        refine g_iast hX d_M_readOrder_203 (lv_126 _) rfl (by omega) ?_
        exact kb204 _ (nxT t f2) (hres.trans (by unfold timesT; rw [if_pos hi, if_neg ht]; rfl)) ((hF6.1.tr (FrR.rf w6).bad.W).I (Or.inr (Or.inl rfl))) (hb6.bad.v ((FrV.rf _).I (Or.inr (Or.inl rfl))))
    · skip
      refine g_aload0 hX d_M_readOrder_156 ?_
      refine g_getF hX d_M_readOrder_157 fl_M_158 (lv_89 _) ?_
      refine g_iload2 hX d_M_readOrder_160 ?_
      refine g_bipush (v := nI 7) hX d_M_readOrder_161 rfl ?_
      refine g_iaddN hX d_M_readOrder_163 ?_
      refine g_iconst (v := nI 1) hX d_M_readOrder_164 rfl ?_
      refine g_iast hX d_M_readOrder_165 (lv_126 _) rfl (by omega) ?_
      refine g_aload0 hX d_M_readOrder_166 ?_
      refine g_getZ hX d_M_readOrder_167 fl_M_258 (lv_89 _) ?_
      refine g_topi (show rI (sI w2 126 (8 * cls.length + 7) (nI 1)) 89 19 = nI 0 from hb.2.2.2.1) ?_
      refine g_if_ne hX d_M_readOrder_170 (fun h => absurd (by decide) h) (fun c0 => ?_)
      refine g_aload0 hX d_M_readOrder_173 ?_
      refine g_ldc2 (v := lN 21279923) hX d_M_readOrder_174 k_M_569 rfl ?_
      refine g_callV (As := [_]) hX hF.1 d_M_readOrder_177 ml_M_316 cf_M_isWord cv_M_isWord rfl rfl (c_M_isWord (wd := wTimes) hb7.1 rfl (by decide) (by decide)) (rcv_obj hX (lv_89 _) rfl rfl) (by omega) (by omega) (by omega) (Nat.le_of_ble_eq_true rfl) ?_
      refine ret_k ?_
      refine g_ifB_eq hX d_M_readOrder_180 (fun c1 => ?_) (fun h => absurd h hi)
      exact k204 _ f2 p2 1 kd d1 d2 (hres.trans (by unfold timesT; rw [if_neg hi]; rfl)) hF7 hE17 hE27 h77 (by decide) hb7 hX2
  have k149 : ∀ (w2 : Mem) (f1 p1 : Nat) (kd : List (Nat × Nat)) (d1 : Den), ordCl t cls.length f p = oS2 t a d1 (rdE t true 3 f1 p1) → OsF w w2 cls c kd a → OsE w2 (8 * cls.length + 1) kd d1 → RdB w2 t f1 p1 kd → RdX true kd [] f1 p1 0 → G0 E X 0 0 149 [.ref 89, .int (nI a), .int (nI (8 * cls.length)), un] [] w2 := by
    intro w2 f1 p1 kd d1 hres hO hE1 hb hX2
    refine g_aload0 hX d_M_readOrder_149 ?_
    refine g_iload2 hX d_M_readOrder_150 ?_
    refine g_iconst (v := nI 3) hX d_M_readOrder_151 rfl ?_
    refine g_iaddN hX d_M_readOrder_152 ?_
    refine g_callV (As := [_]) hX hF.1 d_M_readOrder_153 ml_M_562 cf_M_readSum cv_M_readSum rfl rfl (c_M_readSum hb hX2 hO.2.1 (by omega)) (rcv_obj hX (lv_89 _) rfl rfl) (by omega) (by omega) (by omega) (Nat.le_of_ble_eq_true rfl) ?_
    rintro _ w3 ⟨rfl, hf3, hq3⟩
    show G0 _ _ _ _ _ _ _ _
    cases hs : rdE t true 3 f1 p1 with
    | inl e =>
      rw [hs] at hq3
      exact kb156 w3 e (hres.trans (by rw [hs]; rfl)) (hO.1.tr hf3.1) hq3
    | inr z =>
      obtain ⟨f5, p5, d5⟩ := z
      rw [hs] at hq3
      obtain ⟨ke, hb3, hX3, s1, s2, s3, s4⟩ := hq3
      refine k156 w3 f5 p5 ke d1 d5 (hres.trans (by rw [hs]; rfl)) (hO.step hf3.1 (fun j hj => hf3.2.1 j (by omega) (by omega)) hf3.2.2 s4) (hE1.step (hf3.2.1 _ (by omega) (by omega)) (hf3.2.1 _ (by omega) (by omega)) s4) ⟨_, _, s1, s2, Nat.le_refl _, s3⟩ hb3 hX3
  have k120 : ∀ (w2 : Mem) (f1 p1 : Nat) (kd : List (Nat × Nat)) (d1 : Den), ordCl t cls.length f p = oS1 t a (.inr (f1, p1, d1)) → OsF w w2 cls c kd a → OsE w2 (8 * cls.length + 1) kd d1 → RdB w2 t f1 p1 kd → RdX true kd [] f1 p1 0 → G0 E X 0 0 120 [.ref 89, .int (nI a), .int (nI (8 * cls.length)), un] [] w2 := by
    intro w2 f1 p1 kd d1 hres hO hE1 hb hX2
    by_cases ha2 : a < 2
    · have hto : toW a = wTo := if_pos ha2
      by_cases hw : isW t f1 wTo
      · have hwo : isW t f1 (toW a) := by rw [hto]; exact hw
        refine g_aload0 hX d_M_readOrder_120 ?_
        refine g_getZ hX d_M_readOrder_121 fl_M_258 (lv_89 _) ?_
        refine g_topi hb.2.2.2.1 ?_
        refine g_if_ne hX d_M_readOrder_124 (fun h => absurd (by decide) h) (fun c0 => ?_)
        refine g_aload0 hX d_M_readOrder_127 ?_
        refine g_aload0 hX d_M_readOrder_128 ?_
        refine g_iload1 hX d_M_readOrder_129 ?_
        refine g_iconst (v := nI 2) hX d_M_readOrder_130 rfl ?_
        refine g_icmpN_ge hX d_M_readOrder_131 (by omega) (by omega) (fun h => absurd h (by omega)) (fun c1 => ?_)
        refine g_ldc2 (v := lN 655) hX d_M_readOrder_134 k_M_565 rfl ?_
        refine g_goto hX d_M_readOrder_137 ?_
        refine g_callV (As := [_]) hX hF.1 d_M_readOrder_143 ml_M_316 cf_M_isWord cv_M_isWord rfl rfl (c_M_isWord (wd := wTo) hb.1 rfl (by decide) (by decide)) (rcv_obj hX (lv_89 _) rfl rfl) (by omega) (by omega) (by omega) (Nat.le_of_ble_eq_true rfl) ?_
        refine ret_k ?_
        refine g_callV (As := [_]) hX hF.1 d_M_readOrder_146 ml_M_291 cf_M_must cv_M_must rfl rfl (c_M_mustY hb.1 hb.2.2.2.1 (by rw [b2i_t hw]; rfl)) (rcv_obj hX (lv_89 _) rfl rfl) (by omega) (by omega) (by omega) (Nat.le_of_ble_eq_true rfl) ?_
        rintro _ w3 ⟨rfl, hf3, hT3⟩
        show G0 _ _ _ _ _ _ _ _
        exact k149 w3 (nxT t f1) p1 kd d1 (hres.trans (by unfold oS1; exact if_pos hwo)) (hO.step hf3.R.W (fun j _ => by rw [hf3.1 126 (by decide)]) hf3.R.k21 (SameC.rf kd)) (hE1.step (by rw [hf3.1 126 (by decide)]) (by rw [hf3.1 126 (by decide)]) (SameC.rf kd)) (hb.tok hf3 hT3) (hX2.mono (Nat.le_of_lt (nxT_gt (isW_0 hw))))
      · have hwo : ¬ isW t f1 (toW a) := by rw [hto]; exact hw
        refine g_aload0 hX d_M_readOrder_120 ?_
        refine g_getZ hX d_M_readOrder_121 fl_M_258 (lv_89 _) ?_
        refine g_topi hb.2.2.2.1 ?_
        refine g_if_ne hX d_M_readOrder_124 (fun h => absurd (by decide) h) (fun c0 => ?_)
        refine g_aload0 hX d_M_readOrder_127 ?_
        refine g_aload0 hX d_M_readOrder_128 ?_
        refine g_iload1 hX d_M_readOrder_129 ?_
        refine g_iconst (v := nI 2) hX d_M_readOrder_130 rfl ?_
        refine g_icmpN_ge hX d_M_readOrder_131 (by omega) (by omega) (fun h => absurd h (by omega)) (fun c1 => ?_)
        refine g_ldc2 (v := lN 655) hX d_M_readOrder_134 k_M_565 rfl ?_
        refine g_goto hX d_M_readOrder_137 ?_
        refine g_callV (As := [_]) hX hF.1 d_M_readOrder_143 ml_M_316 cf_M_isWord cv_M_isWord rfl rfl (c_M_isWord (wd := wTo) hb.1 rfl (by decide) (by decide)) (rcv_obj hX (lv_89 _) rfl rfl) (by omega) (by omega) (by omega) (Nat.le_of_ble_eq_true rfl) ?_
        refine ret_k ?_
        refine g_callV (As := [_]) hX hF.1 d_M_readOrder_146 ml_M_291 cf_M_must cv_M_must rfl rfl (c_M_mustN hb.1.2.1 hb.2.2.2.1 (by rw [b2i_f hw]; rfl)) (rcv_obj hX (lv_89 _) rfl rfl) (by omega) (by omega) (by omega) (Nat.le_of_ble_eq_true rfl) ?_
        refine ret_k ?_
        exact kb149 _ f1 (hres.trans (by unfold oS1; exact if_neg hwo)) (hO.1.tr (FrR.rf w2).bad.W) hb.bad
    · have hto : toW a = wAs := if_neg ha2
      by_cases hw : isW t f1 wAs
      · have hwo : isW t f1 (toW a) := by rw [hto]; exact hw
        refine g_aload0 hX d_M_readOrder_120 ?_
        refine g_getZ hX d_M_readOrder_121 fl_M_258 (lv_89 _) ?_
        refine g_topi hb.2.2.2.1 ?_
        refine g_if_ne hX d_M_readOrder_124 (fun h => absurd (by decide) h) (fun c0 => ?_)
        refine g_aload0 hX d_M_readOrder_127 ?_
        refine g_aload0 hX d_M_readOrder_128 ?_
        refine g_iload1 hX d_M_readOrder_129 ?_
        refine g_iconst (v := nI 2) hX d_M_readOrder_130 rfl ?_
        refine g_icmpN_ge hX d_M_readOrder_131 (by omega) (by omega) (fun c1 => ?_) (fun h => absurd h (by omega))
        refine g_ldc2 (v := lN 51) hX d_M_readOrder_140 k_M_567 rfl ?_
        refine g_callV (As := [_]) hX hF.1 d_M_readOrder_143 ml_M_316 cf_M_isWord cv_M_isWord rfl rfl (c_M_isWord (wd := wAs) hb.1 rfl (by decide) (by decide)) (rcv_obj hX (lv_89 _) rfl rfl) (by omega) (by omega) (by omega) (Nat.le_of_ble_eq_true rfl) ?_
        refine ret_k ?_
        refine g_callV (As := [_]) hX hF.1 d_M_readOrder_146 ml_M_291 cf_M_must cv_M_must rfl rfl (c_M_mustY hb.1 hb.2.2.2.1 (by rw [b2i_t hw]; rfl)) (rcv_obj hX (lv_89 _) rfl rfl) (by omega) (by omega) (by omega) (Nat.le_of_ble_eq_true rfl) ?_
        rintro _ w3 ⟨rfl, hf3, hT3⟩
        show G0 _ _ _ _ _ _ _ _
        exact k149 w3 (nxT t f1) p1 kd d1 (hres.trans (by unfold oS1; exact if_pos hwo)) (hO.step hf3.R.W (fun j _ => by rw [hf3.1 126 (by decide)]) hf3.R.k21 (SameC.rf kd)) (hE1.step (by rw [hf3.1 126 (by decide)]) (by rw [hf3.1 126 (by decide)]) (SameC.rf kd)) (hb.tok hf3 hT3) (hX2.mono (Nat.le_of_lt (nxT_gt (isW_0 hw))))
      · have hwo : ¬ isW t f1 (toW a) := by rw [hto]; exact hw
        refine g_aload0 hX d_M_readOrder_120 ?_
        refine g_getZ hX d_M_readOrder_121 fl_M_258 (lv_89 _) ?_
        refine g_topi hb.2.2.2.1 ?_
        refine g_if_ne hX d_M_readOrder_124 (fun h => absurd (by decide) h) (fun c0 => ?_)
        refine g_aload0 hX d_M_readOrder_127 ?_
        refine g_aload0 hX d_M_readOrder_128 ?_
        refine g_iload1 hX d_M_readOrder_129 ?_
        refine g_iconst (v := nI 2) hX d_M_readOrder_130 rfl ?_
        refine g_icmpN_ge hX d_M_readOrder_131 (by omega) (by omega) (fun c1 => ?_) (fun h => absurd h (by omega))
        refine g_ldc2 (v := lN 51) hX d_M_readOrder_140 k_M_567 rfl ?_
        refine g_callV (As := [_]) hX hF.1 d_M_readOrder_143 ml_M_316 cf_M_isWord cv_M_isWord rfl rfl (c_M_isWord (wd := wAs) hb.1 rfl (by decide) (by decide)) (rcv_obj hX (lv_89 _) rfl rfl) (by omega) (by omega) (by omega) (Nat.le_of_ble_eq_true rfl) ?_
        refine ret_k ?_
        refine g_callV (As := [_]) hX hF.1 d_M_readOrder_146 ml_M_291 cf_M_must cv_M_must rfl rfl (c_M_mustN hb.1.2.1 hb.2.2.2.1 (by rw [b2i_f hw]; rfl)) (rcv_obj hX (lv_89 _) rfl rfl) (by omega) (by omega) (by omega) (Nat.le_of_ble_eq_true rfl) ?_
        refine ret_k ?_
        exact kb149 _ f1 (hres.trans (by unfold oS1; exact if_neg hwo)) (hO.1.tr (FrR.rf w2).bad.W) hb.bad
  have k106 : ∀ (w3 : Mem) (g : Nat → Int32), FrW w w3 → RdC w3 true → rI w3 89 21 = nI (cls.length + 1) → (∀ j, j < 8 * cls.length → g j = rI w 126 j) → RdB w3 t (nxT t f) p c → G0 E X 0 0 106 [.ref 89, .int (nI a), .int (nI (8 * cls.length)), un] [] (sA w3 126 g) := by
    intro w3 g hf3 hC3 h21 hg hb
    have hv : FrV w3 (sI (sA w3 126 g) 126 (8 * cls.length) (nI a)) := ((FrV.rf w3).A (Or.inr rfl)).I (Or.inr (Or.inl rfl))
    have hb4 := hb.v hv
    have hX4 := hX0.mono (Nat.le_of_lt (nxT_gt (isW_0 hact)))
    have hO : OsF w (sI (sA w3 126 g) 126 (8 * cls.length) (nI a)) cls c c a := ⟨hf3.tr hv.W, hC3.W hv.W, h21, fun j hj => by rw [rI_sI, upd_eq, if_neg (by omega), rI_sA]; exact hg j hj, by rw [rI_sI, upd_eq, if_pos rfl], SameC.rf c⟩
    refine g_aload0 hX d_M_readOrder_106 ?_
    refine g_getF hX d_M_readOrder_107 fl_M_158 (lv_89 _) ?_
    refine g_iload2 hX d_M_readOrder_110 ?_
    refine g_iload1 hX d_M_readOrder_111 ?_
    refine g_iast hX d_M_readOrder_112 (lv_126 _) rfl (by omega) ?_
    refine g_aload0 hX d_M_readOrder_113 ?_
    refine g_iload2 hX d_M_readOrder_114 ?_
    refine g_iconst (v := nI 1) hX d_M_readOrder_115 rfl ?_
    refine g_iaddN hX d_M_readOrder_116 ?_
    refine g_callV (As := [_]) hX hF.1 d_M_readOrder_117 ml_M_562 cf_M_readSum cv_M_readSum rfl rfl (c_M_readSum hb4 hX4 hO.2.1 (by omega)) (rcv_obj hX (lv_89 _) rfl rfl) (by omega) (by omega) (by omega) (Nat.le_of_ble_eq_true rfl) ?_
    rintro _ w5 ⟨rfl, hf5, hq3⟩
    show G0 _ _ _ _ _ _ _ _
    cases hs : rdE t true 3 (nxT t f) p with
    | inl e =>
      rw [hs] at hq3
      exact kb120 w5 e (hres0.trans (by rw [hs]; rfl)) (hO.1.tr hf5.1) hq3
    | inr z =>
      obtain ⟨f5, p5, d5⟩ := z
      rw [hs] at hq3
      obtain ⟨ke, hb3, hX3, s1, s2, s3, s4⟩ := hq3
      exact k120 w5 f5 p5 ke d5 (hres0.trans (by rw [hs])) (hO.step hf5.1 (fun j hj => hf5.2.1 j (by omega) (by omega)) hf5.2.2 s4) ⟨_, _, s1, s2, Nat.le_refl _, s3⟩ hb3 hX3
  have lpZ : ∀ (fuel : Nat) (k : Nat) (g : Nat → Int32) (w3 : Mem), 8 - k < fuel → (k ≤ 8) → (FrW w w3) → (RdC w3 true) → (rI w3 89 21 = nI (cls.length + 1)) → (∀ j, j < 8 * cls.length → g j = rI w 126 j) → (RdB w3 t (nxT t f) p c) → G0 E X 0 0 85 [.ref 89, .int (nI a), .int (nI (8 * cls.length)), .int (nI k)] [] (sA w3 126 g) := by
    intro fuel
    induction fuel with
    | zero => intro k g w3 q0; exact absurd q0 (Nat.not_lt_zero _)
    | succ fuel ih =>
      intro k g w3 q0 q1 q2 q3 q4 q5 q6
      refine g_iload3 hX d_M_readOrder_85 ?_
      refine g_bipush (v := nI 8) hX d_M_readOrder_86 rfl ?_
      refine g_icmpN_ge hX d_M_readOrder_88 (by omega) (by omega) (fun c0 => ?_) (fun c0 => ?_)
      · refine g_fget 3 ?_
        exact k106 w3 g q2 q3 q4 q5 q6
      · refine g_aload0 hX d_M_readOrder_91 ?_
        refine g_getF hX d_M_readOrder_92 fl_M_158 (lv_89 _) ?_
        refine g_iload2 hX d_M_readOrder_95 ?_
        refine g_iload3 hX d_M_readOrder_96 ?_
        refine g_iaddN hX d_M_readOrder_97 ?_
        refine g_iconst (v := nI 0) hX d_M_readOrder_98 rfl ?_
        refine g_iast hX d_M_readOrder_99 (lv_126 _) rfl (by omega) ?_
        refine g_iincN3 hX d_M_readOrder_100 rfl (by decide) ?_
        refine g_goto hX d_M_readOrder_103 ?_
        rw [sI_sA]
        exact ih (k + 1) _ w3 (by omega) (by omega) q2 q3 q4 (fun j hj => by rw [upd_eq, if_neg (by omega)]; exact q5 j hj) q6
  have k34 : G0 E X 0 0 34 [.ref 89, .int (fInt (actK t f 4)), un, un] [] w := by
    rw [hak]
    refine g_loc (show _ = [.ref 89, .int (nI a), un, un] from rfl) ?_
    refine g_aload0 hX d_M_readOrder_34 ?_
    refine g_iload1 hX d_M_readOrder_35 ?_
    refine g_iconst (v := -1) hX d_M_readOrder_36 rfl ?_
    refine g_icmp_eq hX d_M_readOrder_37 (fun h => absurd h (nI_m1 (by omega))) (fun c0 => ?_)
    refine g_aload0 hX d_M_readOrder_40 ?_
    refine g_getI hX d_M_readOrder_41 fl_M_389 (lv_89 _) ?_
    refine g_topi hcl.1 ?_
    refine g_bipush (v := nI 12) hX d_M_readOrder_44 rfl ?_
    refine g_icmpN_ge hX d_M_readOrder_46 (by omega) (by omega) (fun h => absurd h (by omega)) (fun c1 => ?_)
    refine g_iconst (v := nI 1) hX d_M_readOrder_49 rfl ?_
    refine g_goto hX d_M_readOrder_50 ?_
    refine g_callV (As := [_]) hX hF.1 d_M_readOrder_54 ml_M_291 cf_M_must cv_M_must rfl rfl (c_M_mustY h.1 h.2.2.2.1 rfl) (rcv_obj hX (lv_89 _) rfl rfl) (by omega) (by omega) (by omega) (Nat.le_of_ble_eq_true rfl) ?_
    rintro _ w3 ⟨rfl, hf3, hT3⟩
    have hb3 := h.tok hf3 hT3
    have h21 : rI w3 89 21 = nI cls.length := by rw [hf3.2.1 21 (by decide) (by decide) (by decide)]; exact hcl.1
    show G0 _ _ _ _ _ _ _ _
    refine g_aload0 hX d_M_readOrder_57 ?_
    refine g_getZ hX d_M_readOrder_58 fl_M_258 (lv_89 _) ?_
    refine g_topi hb3.2.2.2.1 ?_
    refine g_if_eq hX d_M_readOrder_61 (fun c2 => ?_) (fun h => absurd (by decide) h)
    refine g_bipush (v := nI 8) hX d_M_readOrder_65 rfl ?_
    refine g_aload0 hX d_M_readOrder_67 ?_
    refine g_getI hX d_M_readOrder_68 fl_M_389 (lv_89 _) ?_
    refine g_topi h21 ?_
    refine g_imulN hX d_M_readOrder_71 ?_
    refine g_istore2 hX d_M_readOrder_72 rfl (by decide) ?_
    refine g_aload0 hX d_M_readOrder_73 ?_
    refine g_dup hX d_M_readOrder_74 rfl ?_
    refine g_getI hX d_M_readOrder_75 fl_M_389 (lv_89 _) ?_
    refine g_topi h21 ?_
    refine g_iconst (v := nI 1) hX d_M_readOrder_78 rfl ?_
    refine g_iaddN hX d_M_readOrder_79 ?_
    refine g_putI hX d_M_readOrder_80 fl_M_389 (lv_89 _) ?_
    refine g_iconst (v := nI 0) hX d_M_readOrder_83 rfl ?_
    refine g_istore3 hX d_M_readOrder_84 rfl (by decide) ?_
    have hv : FrV w3 (sI w3 89 21 (nI (cls.length + 1))) := (FrV.rf w3).I (Or.inr (Or.inr ⟨rfl, rfl⟩))
    refine g_mem (show _ = sA (sI w3 89 21 (nI (cls.length + 1))) 126 (rI (sI w3 89 21 (nI (cls.length + 1))) 126) from (sA_self _ _).symm) ?_
    exact lpZ 9 0 _ _ (by omega) (by omega) (hf3.R.W.tr hv.W) ((hC.fr hf3.R).W hv.W) (by rw [rI_sI, upd_eq, if_pos rfl]) (fun j hj => by rw [rI_sI_ne _ _ _ (by decide), hf3.1 126 (by decide)]) (hb3.v hv)
  have lpH : ∀ (fuel : Nat) (k : Nat), 4 - k < fuel → (k ≤ 4) → G0 E X 0 0 4 [.ref 89, .int (fInt (actK t f k)), .int (nI k), un] [] w := by
    intro fuel
    induction fuel with
    | zero => intro k q0; exact absurd q0 (Nat.not_lt_zero _)
    | succ fuel ih =>
      intro k q0 q1
      refine g_iload2 hX d_M_readOrder_4 ?_
      refine g_iconst (v := nI 4) hX d_M_readOrder_5 rfl ?_
      refine g_icmpN_ge hX d_M_readOrder_6 (by omega) (by omega) (fun c0 => ?_) (fun c0 => ?_)
      · refine g_fget 2 ?_
        have hk4 : k = 4 := by omega
        rw [hk4]
        exact k34
      · obtain ⟨w1, w2, w3⟩ := acts_w k (by omega)
        refine g_aload0 hX d_M_readOrder_9 ?_
        refine g_aload0 hX d_M_readOrder_10 ?_
        refine g_getF hX d_M_readOrder_11 fl_M_155 (lv_89 _) ?_
        refine g_iload2 hX d_M_readOrder_14 ?_
        refine g_lald hX d_M_readOrder_15 (lv_125 _) rfl (by omega) ?_
        refine g_topl (hC.2.2.2.2 k (by omega)) ?_
        refine g_callV (As := [_]) hX hF.1 d_M_readOrder_16 ml_M_316 cf_M_isWord cv_M_isWord rfl rfl (c_M_isWord h.1 (show lN _ = _ by rw [lI_nat]; exact congrArg lI w3) w1 w2) (rcv_obj hX (lv_89 _) rfl rfl) (by omega) (by omega) (by omega) (Nat.le_of_ble_eq_true rfl) ?_
        refine ret_k ?_
        refine g_ifB_eq hX d_M_readOrder_19 (fun e19 => ?_) (fun e19 => ?_)
        · refine g_iload1 hX d_M_readOrder_26 ?_
          refine g_istore1 hX d_M_readOrder_27 rfl (by decide) ?_
          refine g_iincN2 hX d_M_readOrder_28 rfl (by decide) ?_
          refine g_goto hX d_M_readOrder_31 ?_
          refine g_loc (show _ = [.ref 89, .int (fInt (actK t f (k + 1))), .int (nI (k + 1)), un] by rw [actK, if_neg e19]) ?_
          exact ih (k + 1) (by omega) (by omega)
        · refine g_iload2 hX d_M_readOrder_22 ?_
          refine g_goto hX d_M_readOrder_23 ?_
          refine g_istore1 hX d_M_readOrder_27 rfl (by decide) ?_
          refine g_iincN2 hX d_M_readOrder_28 rfl (by decide) ?_
          refine g_goto hX d_M_readOrder_31 ?_
          refine g_loc (show _ = [.ref 89, .int (fInt (actK t f (k + 1))), .int (nI (k + 1)), un] by rw [actK, if_pos e19]; rfl) ?_
          exact ih (k + 1) (by omega) (by omega)
  refine g_iconst (v := -1) hX d_M_readOrder_0 rfl ?_
  refine g_istore1 hX d_M_readOrder_1 rfl (by decide) ?_
  refine g_iconst (v := nI 0) hX d_M_readOrder_2 rfl ?_
  refine g_istore2 hX d_M_readOrder_3 rfl (by decide) ?_
  exact lpH 5 0 (by omega) (by omega)
theorem c_M_readOrder_n {E : EV} {w : Mem} {t : List Nat} {f p : Nat} {c : List (Nat × Nat)} {cls : List OcT} (h : RdB w t f p c) (hX0 : RdX true c [] f p 0) (hC : RdC w true) (hcl : OcsP w c cls) (hc12 : cls.length ≤ 12) (hak : actK t f 4 = none) : T E m_M_readOrder 8 0 0 [.ref 89] w (fun r w2 => r = none ∧ FrW w w2 ∧ BadB w2 t f) := by
  refine T_of (L := [.ref 89, un, un, un]) cf_M_readOrder rfl (Nat.le_of_ble_eq_true rfl) (fun X hX hF => ?_)
  have k34 : G0 E X 0 0 34 [.ref 89, .int (fInt (actK t f 4)), un, un] [] w := by
    refine g_loc (show _ = [.ref 89, .int (-1), un, un] by rw [hak]; rfl) ?_
    refine g_aload0 hX d_M_readOrder_34 ?_
    refine g_iload1 hX d_M_readOrder_35 ?_
    refine g_iconst (v := -1) hX d_M_readOrder_36 rfl ?_
    refine g_icmp_eq hX d_M_readOrder_37 (fun c0 => ?_) (fun h => absurd rfl h)
    refine g_iconst (v := nI 0) hX d_M_readOrder_53 rfl ?_
    refine g_callV (As := [_]) hX hF.1 d_M_readOrder_54 ml_M_291 cf_M_must cv_M_must rfl rfl (c_M_mustN h.1.2.1 h.2.2.2.1 rfl) (rcv_obj hX (lv_89 _) rfl rfl) (by omega) (by omega) (by omega) (Nat.le_of_ble_eq_true rfl) ?_
    refine ret_k ?_
    refine g_aload0 hX d_M_readOrder_57 ?_
    refine g_getZ hX d_M_readOrder_58 fl_M_258 (lv_89 _) ?_
    refine g_topi h.bad.2.1 ?_
    refine g_if_eq hX d_M_readOrder_61 (fun h => absurd h (by decide)) (fun c1 => ?_)
    refine g_vret hX hF d_M_readOrder_64 (by omega) (by omega) ?_
    exact ⟨rfl, (FrR.rf w).bad.W, h.bad⟩
  have lpH : ∀ (fuel : Nat) (k : Nat), 4 - k < fuel → (k ≤ 4) → G0 E X 0 0 4 [.ref 89, .int (fInt (actK t f k)), .int (nI k), un] [] w := by
    intro fuel
    induction fuel with
    | zero => intro k q0; exact absurd q0 (Nat.not_lt_zero _)
    | succ fuel ih =>
      intro k q0 q1
      refine g_iload2 hX d_M_readOrder_4 ?_
      refine g_iconst (v := nI 4) hX d_M_readOrder_5 rfl ?_
      refine g_icmpN_ge hX d_M_readOrder_6 (by omega) (by omega) (fun c0 => ?_) (fun c0 => ?_)
      · refine g_fget 2 ?_
        have hk4 : k = 4 := by omega
        rw [hk4]
        exact k34
      · obtain ⟨w1, w2, w3⟩ := acts_w k (by omega)
        refine g_aload0 hX d_M_readOrder_9 ?_
        refine g_aload0 hX d_M_readOrder_10 ?_
        refine g_getF hX d_M_readOrder_11 fl_M_155 (lv_89 _) ?_
        refine g_iload2 hX d_M_readOrder_14 ?_
        refine g_lald hX d_M_readOrder_15 (lv_125 _) rfl (by omega) ?_
        refine g_topl (hC.2.2.2.2 k (by omega)) ?_
        refine g_callV (As := [_]) hX hF.1 d_M_readOrder_16 ml_M_316 cf_M_isWord cv_M_isWord rfl rfl (c_M_isWord h.1 (show lN _ = _ by rw [lI_nat]; exact congrArg lI w3) w1 w2) (rcv_obj hX (lv_89 _) rfl rfl) (by omega) (by omega) (by omega) (Nat.le_of_ble_eq_true rfl) ?_
        refine ret_k ?_
        refine g_ifB_eq hX d_M_readOrder_19 (fun e19 => ?_) (fun e19 => ?_)
        · refine g_iload1 hX d_M_readOrder_26 ?_
          refine g_istore1 hX d_M_readOrder_27 rfl (by decide) ?_
          refine g_iincN2 hX d_M_readOrder_28 rfl (by decide) ?_
          refine g_goto hX d_M_readOrder_31 ?_
          refine g_loc (show _ = [.ref 89, .int (fInt (actK t f (k + 1))), .int (nI (k + 1)), un] by rw [actK, if_neg e19]) ?_
          exact ih (k + 1) (by omega) (by omega)
        · refine g_iload2 hX d_M_readOrder_22 ?_
          refine g_goto hX d_M_readOrder_23 ?_
          refine g_istore1 hX d_M_readOrder_27 rfl (by decide) ?_
          refine g_iincN2 hX d_M_readOrder_28 rfl (by decide) ?_
          refine g_goto hX d_M_readOrder_31 ?_
          refine g_loc (show _ = [.ref 89, .int (fInt (actK t f (k + 1))), .int (nI (k + 1)), un] by rw [actK, if_pos e19]; rfl) ?_
          exact ih (k + 1) (by omega) (by omega)
  refine g_iconst (v := -1) hX d_M_readOrder_0 rfl ?_
  refine g_istore1 hX d_M_readOrder_1 rfl (by decide) ?_
  refine g_iconst (v := nI 0) hX d_M_readOrder_2 rfl ?_
  refine g_istore2 hX d_M_readOrder_3 rfl (by decide) ?_
  exact lpH 5 0 (by omega) (by omega)
theorem c_M_readOrder_F {E : EV} {w : Mem} {t : List Nat} {f p : Nat} {c : List (Nat × Nat)} {cls : List OcT} (h : RdB w t f p c) (hX0 : RdX true c [] f p 0) (hC : RdC w true) (hcl : OcsP w c cls) (hc12 : cls.length ≤ 12) {a : Nat} (hak : actK t f 4 = some a) (hk : 12 ≤ cls.length) : T E m_M_readOrder 8 0 0 [.ref 89] w (fun r w2 => r = none ∧ FrW w w2 ∧ BadB w2 t f) := by
  refine T_of (L := [.ref 89, un, un, un]) cf_M_readOrder rfl (Nat.le_of_ble_eq_true rfl) (fun X hX hF => ?_)
  obtain ⟨ha4, hact⟩ := actK_lt 4 hak
  have k34 : G0 E X 0 0 34 [.ref 89, .int (fInt (actK t f 4)), un, un] [] w := by
    refine g_loc (show _ = [.ref 89, .int (nI a), un, un] by rw [hak]; rfl) ?_
    refine g_aload0 hX d_M_readOrder_34 ?_
    refine g_iload1 hX d_M_readOrder_35 ?_
    refine g_iconst (v := -1) hX d_M_readOrder_36 rfl ?_
    refine g_icmp_eq hX d_M_readOrder_37 (fun h => absurd h (nI_m1 (by omega))) (fun c0 => ?_)
    refine g_aload0 hX d_M_readOrder_40 ?_
    refine g_getI hX d_M_readOrder_41 fl_M_389 (lv_89 _) ?_
    refine g_topi hcl.1 ?_
    refine g_bipush (v := nI 12) hX d_M_readOrder_44 rfl ?_
    refine g_icmpN_ge hX d_M_readOrder_46 (by omega) (by omega) (fun c1 => ?_) (fun h => absurd h (by omega))
    refine g_iconst (v := nI 0) hX d_M_readOrder_53 rfl ?_
    refine g_callV (As := [_]) hX hF.1 d_M_readOrder_54 ml_M_291 cf_M_must cv_M_must rfl rfl (c_M_mustN h.1.2.1 h.2.2.2.1 rfl) (rcv_obj hX (lv_89 _) rfl rfl) (by omega) (by omega) (by omega) (Nat.le_of_ble_eq_true rfl) ?_
    refine ret_k ?_
    refine g_aload0 hX d_M_readOrder_57 ?_
    refine g_getZ hX d_M_readOrder_58 fl_M_258 (lv_89 _) ?_
    refine g_topi h.bad.2.1 ?_
    refine g_if_eq hX d_M_readOrder_61 (fun h => absurd h (by decide)) (fun c2 => ?_)
    refine g_vret hX hF d_M_readOrder_64 (by omega) (by omega) ?_
    exact ⟨rfl, (FrR.rf w).bad.W, h.bad⟩
  have lpH : ∀ (fuel : Nat) (k : Nat), 4 - k < fuel → (k ≤ 4) → G0 E X 0 0 4 [.ref 89, .int (fInt (actK t f k)), .int (nI k), un] [] w := by
    intro fuel
    induction fuel with
    | zero => intro k q0; exact absurd q0 (Nat.not_lt_zero _)
    | succ fuel ih =>
      intro k q0 q1
      refine g_iload2 hX d_M_readOrder_4 ?_
      refine g_iconst (v := nI 4) hX d_M_readOrder_5 rfl ?_
      refine g_icmpN_ge hX d_M_readOrder_6 (by omega) (by omega) (fun c0 => ?_) (fun c0 => ?_)
      · refine g_fget 2 ?_
        have hk4 : k = 4 := by omega
        rw [hk4]
        exact k34
      · obtain ⟨w1, w2, w3⟩ := acts_w k (by omega)
        refine g_aload0 hX d_M_readOrder_9 ?_
        refine g_aload0 hX d_M_readOrder_10 ?_
        refine g_getF hX d_M_readOrder_11 fl_M_155 (lv_89 _) ?_
        refine g_iload2 hX d_M_readOrder_14 ?_
        refine g_lald hX d_M_readOrder_15 (lv_125 _) rfl (by omega) ?_
        refine g_topl (hC.2.2.2.2 k (by omega)) ?_
        refine g_callV (As := [_]) hX hF.1 d_M_readOrder_16 ml_M_316 cf_M_isWord cv_M_isWord rfl rfl (c_M_isWord h.1 (show lN _ = _ by rw [lI_nat]; exact congrArg lI w3) w1 w2) (rcv_obj hX (lv_89 _) rfl rfl) (by omega) (by omega) (by omega) (Nat.le_of_ble_eq_true rfl) ?_
        refine ret_k ?_
        refine g_ifB_eq hX d_M_readOrder_19 (fun e19 => ?_) (fun e19 => ?_)
        · refine g_iload1 hX d_M_readOrder_26 ?_
          refine g_istore1 hX d_M_readOrder_27 rfl (by decide) ?_
          refine g_iincN2 hX d_M_readOrder_28 rfl (by decide) ?_
          refine g_goto hX d_M_readOrder_31 ?_
          refine g_loc (show _ = [.ref 89, .int (fInt (actK t f (k + 1))), .int (nI (k + 1)), un] by rw [actK, if_neg e19]) ?_
          exact ih (k + 1) (by omega) (by omega)
        · refine g_iload2 hX d_M_readOrder_22 ?_
          refine g_goto hX d_M_readOrder_23 ?_
          refine g_istore1 hX d_M_readOrder_27 rfl (by decide) ?_
          refine g_iincN2 hX d_M_readOrder_28 rfl (by decide) ?_
          refine g_goto hX d_M_readOrder_31 ?_
          refine g_loc (show _ = [.ref 89, .int (fInt (actK t f (k + 1))), .int (nI (k + 1)), un] by rw [actK, if_pos e19]; rfl) ?_
          exact ih (k + 1) (by omega) (by omega)
  refine g_iconst (v := -1) hX d_M_readOrder_0 rfl ?_
  refine g_istore1 hX d_M_readOrder_1 rfl (by decide) ?_
  refine g_iconst (v := nI 0) hX d_M_readOrder_2 rfl ?_
  refine g_istore2 hX d_M_readOrder_3 rfl (by decide) ?_
  exact lpH 5 0 (by omega) (by omega)
theorem c_M_readOrder {E : EV} {w : Mem} {t : List Nat} {f p : Nat} {c : List (Nat × Nat)} {cls : List OcT} (h : RdB w t f p c) (hX0 : RdX true c [] f p 0) (hC : RdC w true) (hcl : OcsP w c cls) (hc12 : cls.length ≤ 12) : T E m_M_readOrder 8 0 0 [.ref 89] w (fun r w2 => r = none ∧ FrW w w2 ∧ ordQ t cls (ordCl t cls.length f p) w2) := by
  cases hak : actK t f 4 with
  | none =>
    have e1 : ordCl t cls.length f p = .inl f := by
      unfold ordCl
      by_cases hk : 12 ≤ cls.length
      · rw [if_pos hk]
      · rw [if_neg hk, hak]
    rw [e1]
    exact c_M_readOrder_n h hX0 hC hcl hc12 hak
  | some a =>
    by_cases hk : cls.length < 12
    · exact c_M_readOrder_a h hX0 hC hcl hc12 hak hk
    · have e1 : ordCl t cls.length f p = .inl f := by unfold ordCl; rw [if_pos (by omega)]
      rw [e1]
      exact c_M_readOrder_F h hX0 hC hcl hc12 hak (by omega)
