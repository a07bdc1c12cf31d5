def m_M_count : MR := (⟨"SubgraphDeskModel", "count", "(I)I"⟩, prog_14_method_135_code, 2, (some .int))
theorem cf_M_count : CF m_M_count 1 := ⟨gd 2235 (by decide +kernel) rfl, gd 151 (by decide +kernel) rfl, by decide +kernel, by decide, by decide +kernel⟩
theorem cv_M_count : CV m_M_count := ⟨gd 2233 (by decide +kernel) rfl, gd 2234 (by decide +kernel) rfl⟩
def m_M_drawn : MR := (⟨"SubgraphDeskModel", "drawn", "(II)I"⟩, prog_14_method_133_code, 3, (some .int))
theorem cf_M_drawn : CF m_M_drawn 2 := ⟨gd 2231 (by decide +kernel) rfl, gd 151 (by decide +kernel) rfl, by decide +kernel, by decide, by decide +kernel⟩
theorem cv_M_drawn : CV m_M_drawn := ⟨gd 2229 (by decide +kernel) rfl, gd 2230 (by decide +kernel) rfl⟩
def m_M_linksOf : MR := (⟨"SubgraphDeskModel", "linksOf", "()I"⟩, prog_14_method_134_code, 3, (some .int))
theorem cf_M_linksOf : CF m_M_linksOf 0 := ⟨gd 2239 (by decide +kernel) rfl, gd 151 (by decide +kernel) rfl, by decide +kernel, by decide, by decide +kernel⟩
theorem cv_M_linksOf : CV m_M_linksOf := ⟨gd 2238 (by decide +kernel) rfl, gd 137 (by decide +kernel) rfl⟩
theorem d_M_count_0 : Dc prog_14_method_135_code 0 (.aload_n 0) 1 1 := ⟨by decide +kernel, rfl⟩
theorem d_M_count_1 : Dc prog_14_method_135_code 1 (.iconst 0) 1 2 := ⟨by decide +kernel, rfl⟩
theorem d_M_count_2 : Dc prog_14_method_135_code 2 (.putfield 170) 3 5 := ⟨by decide +kernel, rfl⟩
theorem d_M_count_5 : Dc prog_14_method_135_code 5 (.iload_n 1) 1 6 := ⟨by decide +kernel, rfl⟩
theorem d_M_count_6 : Dc prog_14_method_135_code 6 (.tableswitch 164 0 13 #[70, 77, 84, 92, 97, 104, 111, 116, 121, 128, 135, 142, 149, 157]) 70 76 := ⟨by decide +kernel, rfl⟩
theorem d_M_count_76 : Dc prog_14_method_135_code 76 (.aload_n 0) 1 77 := ⟨by decide +kernel, rfl⟩
theorem d_M_count_77 : Dc prog_14_method_135_code 77 (.getfield 13) 3 80 := ⟨by decide +kernel, rfl⟩
theorem d_M_count_80 : Dc prog_14_method_135_code 80 (.iconst 0) 1 81 := ⟨by decide +kernel, rfl⟩
theorem d_M_count_81 : Dc prog_14_method_135_code 81 (.iaload) 1 82 := ⟨by decide +kernel, rfl⟩
theorem d_M_count_82 : Dc prog_14_method_135_code 82 (.ireturn) 1 83 := ⟨by decide +kernel, rfl⟩
theorem d_M_count_83 : Dc prog_14_method_135_code 83 (.aload_n 0) 1 84 := ⟨by decide +kernel, rfl⟩
theorem d_M_count_84 : Dc prog_14_method_135_code 84 (.getfield 13) 3 87 := ⟨by decide +kernel, rfl⟩
theorem d_M_count_87 : Dc prog_14_method_135_code 87 (.iconst 1) 1 88 := ⟨by decide +kernel, rfl⟩
theorem d_M_count_88 : Dc prog_14_method_135_code 88 (.iaload) 1 89 := ⟨by decide +kernel, rfl⟩
theorem d_M_count_89 : Dc prog_14_method_135_code 89 (.ireturn) 1 90 := ⟨by decide +kernel, rfl⟩
theorem d_M_count_90 : Dc prog_14_method_135_code 90 (.aload_n 0) 1 91 := ⟨by decide +kernel, rfl⟩
theorem d_M_count_91 : Dc prog_14_method_135_code 91 (.getfield 13) 3 94 := ⟨by decide +kernel, rfl⟩
theorem d_M_count_94 : Dc prog_14_method_135_code 94 (.bipush 31) 2 96 := ⟨by decide +kernel, rfl⟩
theorem d_M_count_96 : Dc prog_14_method_135_code 96 (.iaload) 1 97 := ⟨by decide +kernel, rfl⟩
theorem d_M_count_97 : Dc prog_14_method_135_code 97 (.ireturn) 1 98 := ⟨by decide +kernel, rfl⟩
theorem d_M_count_98 : Dc prog_14_method_135_code 98 (.aload_n 0) 1 99 := ⟨by decide +kernel, rfl⟩
theorem d_M_count_99 : Dc prog_14_method_135_code 99 (.invokevirtual 607) 3 102 := ⟨by decide +kernel, rfl⟩
theorem d_M_count_102 : Dc prog_14_method_135_code 102 (.ireturn) 1 103 := ⟨by decide +kernel, rfl⟩
theorem d_M_count_103 : Dc prog_14_method_135_code 103 (.aload_n 0) 1 104 := ⟨by decide +kernel, rfl⟩
theorem d_M_count_104 : Dc prog_14_method_135_code 104 (.getfield 13) 3 107 := ⟨by decide +kernel, rfl⟩
theorem d_M_count_107 : Dc prog_14_method_135_code 107 (.iconst 2) 1 108 := ⟨by decide +kernel, rfl⟩
theorem d_M_count_108 : Dc prog_14_method_135_code 108 (.iaload) 1 109 := ⟨by decide +kernel, rfl⟩
theorem d_M_count_109 : Dc prog_14_method_135_code 109 (.ireturn) 1 110 := ⟨by decide +kernel, rfl⟩
theorem d_M_count_110 : Dc prog_14_method_135_code 110 (.aload_n 0) 1 111 := ⟨by decide +kernel, rfl⟩
theorem d_M_count_111 : Dc prog_14_method_135_code 111 (.getfield 13) 3 114 := ⟨by decide +kernel, rfl⟩
theorem d_M_count_114 : Dc prog_14_method_135_code 114 (.iconst 3) 1 115 := ⟨by decide +kernel, rfl⟩
theorem d_M_count_115 : Dc prog_14_method_135_code 115 (.iaload) 1 116 := ⟨by decide +kernel, rfl⟩
theorem d_M_count_116 : Dc prog_14_method_135_code 116 (.ireturn) 1 117 := ⟨by decide +kernel, rfl⟩
theorem d_M_count_117 : Dc prog_14_method_135_code 117 (.aload_n 0) 1 118 := ⟨by decide +kernel, rfl⟩
theorem d_M_count_118 : Dc prog_14_method_135_code 118 (.getfield 176) 3 121 := ⟨by decide +kernel, rfl⟩
theorem d_M_count_121 : Dc prog_14_method_135_code 121 (.ireturn) 1 122 := ⟨by decide +kernel, rfl⟩
theorem d_M_count_122 : Dc prog_14_method_135_code 122 (.aload_n 0) 1 123 := ⟨by decide +kernel, rfl⟩
theorem d_M_count_123 : Dc prog_14_method_135_code 123 (.getfield 243) 3 126 := ⟨by decide +kernel, rfl⟩
theorem d_M_count_126 : Dc prog_14_method_135_code 126 (.ireturn) 1 127 := ⟨by decide +kernel, rfl⟩
theorem d_M_count_127 : Dc prog_14_method_135_code 127 (.aload_n 0) 1 128 := ⟨by decide +kernel, rfl⟩
theorem d_M_count_128 : Dc prog_14_method_135_code 128 (.getfield 7) 3 131 := ⟨by decide +kernel, rfl⟩
theorem d_M_count_131 : Dc prog_14_method_135_code 131 (.iconst 1) 1 132 := ⟨by decide +kernel, rfl⟩
theorem d_M_count_132 : Dc prog_14_method_135_code 132 (.iaload) 1 133 := ⟨by decide +kernel, rfl⟩
theorem d_M_count_133 : Dc prog_14_method_135_code 133 (.ireturn) 1 134 := ⟨by decide +kernel, rfl⟩
theorem d_M_count_134 : Dc prog_14_method_135_code 134 (.aload_n 0) 1 135 := ⟨by decide +kernel, rfl⟩
theorem d_M_count_135 : Dc prog_14_method_135_code 135 (.getfield 7) 3 138 := ⟨by decide +kernel, rfl⟩
theorem d_M_count_138 : Dc prog_14_method_135_code 138 (.iconst 2) 1 139 := ⟨by decide +kernel, rfl⟩
theorem d_M_count_139 : Dc prog_14_method_135_code 139 (.iaload) 1 140 := ⟨by decide +kernel, rfl⟩
theorem d_M_count_140 : Dc prog_14_method_135_code 140 (.ireturn) 1 141 := ⟨by decide +kernel, rfl⟩
theorem d_M_count_141 : Dc prog_14_method_135_code 141 (.aload_n 0) 1 142 := ⟨by decide +kernel, rfl⟩
theorem d_M_count_142 : Dc prog_14_method_135_code 142 (.getfield 7) 3 145 := ⟨by decide +kernel, rfl⟩
theorem d_M_count_145 : Dc prog_14_method_135_code 145 (.iconst 3) 1 146 := ⟨by decide +kernel, rfl⟩
theorem d_M_count_146 : Dc prog_14_method_135_code 146 (.iaload) 1 147 := ⟨by decide +kernel, rfl⟩
theorem d_M_count_147 : Dc prog_14_method_135_code 147 (.ireturn) 1 148 := ⟨by decide +kernel, rfl⟩
theorem d_M_count_148 : Dc prog_14_method_135_code 148 (.aload_n 0) 1 149 := ⟨by decide +kernel, rfl⟩
theorem d_M_count_149 : Dc prog_14_method_135_code 149 (.getfield 7) 3 152 := ⟨by decide +kernel, rfl⟩
theorem d_M_count_152 : Dc prog_14_method_135_code 152 (.iconst 5) 1 153 := ⟨by decide +kernel, rfl⟩
theorem d_M_count_153 : Dc prog_14_method_135_code 153 (.iaload) 1 154 := ⟨by decide +kernel, rfl⟩
theorem d_M_count_154 : Dc prog_14_method_135_code 154 (.ireturn) 1 155 := ⟨by decide +kernel, rfl⟩
theorem d_M_count_155 : Dc prog_14_method_135_code 155 (.aload_n 0) 1 156 := ⟨by decide +kernel, rfl⟩
theorem d_M_count_156 : Dc prog_14_method_135_code 156 (.getfield 7) 3 159 := ⟨by decide +kernel, rfl⟩
theorem d_M_count_159 : Dc prog_14_method_135_code 159 (.bipush 6) 2 161 := ⟨by decide +kernel, rfl⟩
theorem d_M_count_161 : Dc prog_14_method_135_code 161 (.iaload) 1 162 := ⟨by decide +kernel, rfl⟩
theorem d_M_count_162 : Dc prog_14_method_135_code 162 (.ireturn) 1 163 := ⟨by decide +kernel, rfl⟩
theorem d_M_count_163 : Dc prog_14_method_135_code 163 (.aload_n 0) 1 164 := ⟨by decide +kernel, rfl⟩
theorem d_M_count_164 : Dc prog_14_method_135_code 164 (.getfield 13) 3 167 := ⟨by decide +kernel, rfl⟩
theorem d_M_count_167 : Dc prog_14_method_135_code 167 (.iconst 4) 1 168 := ⟨by decide +kernel, rfl⟩
theorem d_M_count_168 : Dc prog_14_method_135_code 168 (.iaload) 1 169 := ⟨by decide +kernel, rfl⟩
theorem d_M_count_169 : Dc prog_14_method_135_code 169 (.ireturn) 1 170 := ⟨by decide +kernel, rfl⟩
theorem d_M_count_170 : Dc prog_14_method_135_code 170 (.iload_n 1) 1 171 := ⟨by decide +kernel, rfl⟩
theorem d_M_count_171 : Dc prog_14_method_135_code 171 (.i2l) 1 172 := ⟨by decide +kernel, rfl⟩
theorem d_M_count_172 : Dc prog_14_method_135_code 172 (.ldc2_w 610) 3 175 := ⟨by decide +kernel, rfl⟩
theorem d_M_count_175 : Dc prog_14_method_135_code 175 (.ldc2_w 612) 3 178 := ⟨by decide +kernel, rfl⟩
theorem d_M_count_178 : Dc prog_14_method_135_code 178 (.invokestatic 190) 3 181 := ⟨by decide +kernel, rfl⟩
theorem d_M_count_181 : Dj prog_14_method_135_code 181 (.ifCond .eq 18) 184 18 199 := ⟨by decide +kernel, rfl, rfl⟩
theorem d_M_count_184 : Dc prog_14_method_135_code 184 (.aload_n 0) 1 185 := ⟨by decide +kernel, rfl⟩
theorem d_M_count_185 : Dc prog_14_method_135_code 185 (.getfield 13) 3 188 := ⟨by decide +kernel, rfl⟩
theorem d_M_count_188 : Dc prog_14_method_135_code 188 (.bipush 6) 2 190 := ⟨by decide +kernel, rfl⟩
theorem d_M_count_190 : Dc prog_14_method_135_code 190 (.iload_n 1) 1 191 := ⟨by decide +kernel, rfl⟩
theorem d_M_count_191 : Dc prog_14_method_135_code 191 (.iadd) 1 192 := ⟨by decide +kernel, rfl⟩
theorem d_M_count_192 : Dc prog_14_method_135_code 192 (.bipush 14) 2 194 := ⟨by decide +kernel, rfl⟩
theorem d_M_count_194 : Dc prog_14_method_135_code 194 (.isub) 1 195 := ⟨by decide +kernel, rfl⟩
theorem d_M_count_195 : Dc prog_14_method_135_code 195 (.iaload) 1 196 := ⟨by decide +kernel, rfl⟩
theorem d_M_count_196 : Dj prog_14_method_135_code 196 (.goto 4) 199 4 200 := ⟨by decide +kernel, rfl, rfl⟩
theorem d_M_count_199 : Dc prog_14_method_135_code 199 (.iconst (-1)) 1 200 := ⟨by decide +kernel, rfl⟩
theorem d_M_count_200 : Dc prog_14_method_135_code 200 (.ireturn) 1 201 := ⟨by decide +kernel, rfl⟩
theorem d_M_drawn_0 : Dc prog_14_method_133_code 0 (.aload_n 0) 1 1 := ⟨by decide +kernel, rfl⟩
theorem d_M_drawn_1 : Dc prog_14_method_133_code 1 (.iconst 0) 1 2 := ⟨by decide +kernel, rfl⟩
theorem d_M_drawn_2 : Dc prog_14_method_133_code 2 (.putfield 170) 3 5 := ⟨by decide +kernel, rfl⟩
theorem d_M_drawn_5 : Dc prog_14_method_133_code 5 (.iload_n 1) 1 6 := ⟨by decide +kernel, rfl⟩
theorem d_M_drawn_6 : Dc prog_14_method_133_code 6 (.i2l) 1 7 := ⟨by decide +kernel, rfl⟩
theorem d_M_drawn_7 : Dc prog_14_method_133_code 7 (.lconst 0) 1 8 := ⟨by decide +kernel, rfl⟩
theorem d_M_drawn_8 : Dc prog_14_method_133_code 8 (.aload_n 0) 1 9 := ⟨by decide +kernel, rfl⟩
theorem d_M_drawn_9 : Dc prog_14_method_133_code 9 (.getfield 167) 3 12 := ⟨by decide +kernel, rfl⟩
theorem d_M_drawn_12 : Dc prog_14_method_133_code 12 (.i2l) 1 13 := ⟨by decide +kernel, rfl⟩
theorem d_M_drawn_13 : Dc prog_14_method_133_code 13 (.lconst 1) 1 14 := ⟨by decide +kernel, rfl⟩
theorem d_M_drawn_14 : Dc prog_14_method_133_code 14 (.lsub) 1 15 := ⟨by decide +kernel, rfl⟩
theorem d_M_drawn_15 : Dc prog_14_method_133_code 15 (.invokestatic 190) 3 18 := ⟨by decide +kernel, rfl⟩
theorem d_M_drawn_18 : Dj prog_14_method_133_code 18 (.ifCond .eq 26) 21 26 44 := ⟨by decide +kernel, rfl, rfl⟩
theorem d_M_drawn_21 : Dc prog_14_method_133_code 21 (.iload_n 2) 1 22 := ⟨by decide +kernel, rfl⟩
theorem d_M_drawn_22 : Dc prog_14_method_133_code 22 (.i2l) 1 23 := ⟨by decide +kernel, rfl⟩
theorem d_M_drawn_23 : Dc prog_14_method_133_code 23 (.lconst 0) 1 24 := ⟨by decide +kernel, rfl⟩
theorem d_M_drawn_24 : Dc prog_14_method_133_code 24 (.lconst 1) 1 25 := ⟨by decide +kernel, rfl⟩
theorem d_M_drawn_25 : Dc prog_14_method_133_code 25 (.invokestatic 190) 3 28 := ⟨by decide +kernel, rfl⟩
theorem d_M_drawn_28 : Dj prog_14_method_133_code 28 (.ifCond .eq 16) 31 16 44 := ⟨by decide +kernel, rfl, rfl⟩
theorem d_M_drawn_31 : Dc prog_14_method_133_code 31 (.aload_n 0) 1 32 := ⟨by decide +kernel, rfl⟩
theorem d_M_drawn_32 : Dc prog_14_method_133_code 32 (.getfield 164) 3 35 := ⟨by decide +kernel, rfl⟩
theorem d_M_drawn_35 : Dc prog_14_method_133_code 35 (.iconst 2) 1 36 := ⟨by decide +kernel, rfl⟩
theorem d_M_drawn_36 : Dc prog_14_method_133_code 36 (.iload_n 1) 1 37 := ⟨by decide +kernel, rfl⟩
theorem d_M_drawn_37 : Dc prog_14_method_133_code 37 (.imul) 1 38 := ⟨by decide +kernel, rfl⟩
theorem d_M_drawn_38 : Dc prog_14_method_133_code 38 (.iload_n 2) 1 39 := ⟨by decide +kernel, rfl⟩
theorem d_M_drawn_39 : Dc prog_14_method_133_code 39 (.iadd) 1 40 := ⟨by decide +kernel, rfl⟩
theorem d_M_drawn_40 : Dc prog_14_method_133_code 40 (.iaload) 1 41 := ⟨by decide +kernel, rfl⟩
theorem d_M_drawn_41 : Dj prog_14_method_133_code 41 (.goto 4) 44 4 45 := ⟨by decide +kernel, rfl, rfl⟩
theorem d_M_drawn_44 : Dc prog_14_method_133_code 44 (.iconst (-1)) 1 45 := ⟨by decide +kernel, rfl⟩
theorem d_M_drawn_45 : Dc prog_14_method_133_code 45 (.ireturn) 1 46 := ⟨by decide +kernel, rfl⟩
theorem d_M_linksOf_0 : Dc prog_14_method_134_code 0 (.iconst 0) 1 1 := ⟨by decide +kernel, rfl⟩
theorem d_M_linksOf_1 : Dc prog_14_method_134_code 1 (.istore_n 1) 1 2 := ⟨by decide +kernel, rfl⟩
theorem d_M_linksOf_2 : Dc prog_14_method_134_code 2 (.iconst 0) 1 3 := ⟨by decide +kernel, rfl⟩
theorem d_M_linksOf_3 : Dc prog_14_method_134_code 3 (.istore_n 2) 1 4 := ⟨by decide +kernel, rfl⟩
theorem d_M_linksOf_4 : Dc prog_14_method_134_code 4 (.iload_n 2) 1 5 := ⟨by decide +kernel, rfl⟩
theorem d_M_linksOf_5 : Dc prog_14_method_134_code 5 (.aload_n 0) 1 6 := ⟨by decide +kernel, rfl⟩
theorem d_M_linksOf_6 : Dc prog_14_method_134_code 6 (.getfield 13) 3 9 := ⟨by decide +kernel, rfl⟩
theorem d_M_linksOf_9 : Dc prog_14_method_134_code 9 (.iconst 1) 1 10 := ⟨by decide +kernel, rfl⟩
theorem d_M_linksOf_10 : Dc prog_14_method_134_code 10 (.iaload) 1 11 := ⟨by decide +kernel, rfl⟩
theorem d_M_linksOf_11 : Dj prog_14_method_134_code 11 (.if_icmp .ge 24) 14 24 35 := ⟨by decide +kernel, rfl, rfl⟩
theorem d_M_linksOf_14 : Dc prog_14_method_134_code 14 (.iload_n 1) 1 15 := ⟨by decide +kernel, rfl⟩
theorem d_M_linksOf_15 : Dc prog_14_method_134_code 15 (.aload_n 0) 1 16 := ⟨by decide +kernel, rfl⟩
theorem d_M_linksOf_16 : Dc prog_14_method_134_code 16 (.getfield 13) 3 19 := ⟨by decide +kernel, rfl⟩
theorem d_M_linksOf_19 : Dc prog_14_method_134_code 19 (.bipush 26) 2 21 := ⟨by decide +kernel, rfl⟩
theorem d_M_linksOf_21 : Dc prog_14_method_134_code 21 (.iload_n 2) 1 22 := ⟨by decide +kernel, rfl⟩
theorem d_M_linksOf_22 : Dc prog_14_method_134_code 22 (.iadd) 1 23 := ⟨by decide +kernel, rfl⟩
theorem d_M_linksOf_23 : Dc prog_14_method_134_code 23 (.iaload) 1 24 := ⟨by decide +kernel, rfl⟩
theorem d_M_linksOf_24 : Dc prog_14_method_134_code 24 (.invokestatic 204) 3 27 := ⟨by decide +kernel, rfl⟩
theorem d_M_linksOf_27 : Dc prog_14_method_134_code 27 (.iadd) 1 28 := ⟨by decide +kernel, rfl⟩
theorem d_M_linksOf_28 : Dc prog_14_method_134_code 28 (.istore_n 1) 1 29 := ⟨by decide +kernel, rfl⟩
theorem d_M_linksOf_29 : Dc prog_14_method_134_code 29 (.iinc 2 1) 3 32 := ⟨by decide +kernel, rfl⟩
theorem d_M_linksOf_32 : Dj prog_14_method_134_code 32 (.goto (-28)) 35 (-28) 4 := ⟨by decide +kernel, rfl, rfl⟩
theorem d_M_linksOf_35 : Dc prog_14_method_134_code 35 (.iload_n 1) 1 36 := ⟨by decide +kernel, rfl⟩
theorem d_M_linksOf_36 : Dc prog_14_method_134_code 36 (.iconst 2) 1 37 := ⟨by decide +kernel, rfl⟩
theorem d_M_linksOf_37 : Dc prog_14_method_134_code 37 (.idiv) 1 38 := ⟨by decide +kernel, rfl⟩
theorem d_M_linksOf_38 : Dc prog_14_method_134_code 38 (.ireturn) 1 39 := ⟨by decide +kernel, rfl⟩
theorem fl_M_164 : FL "SubgraphDeskModel" 164 12 67 true (.array .int) (3, 38) := ⟨R_M, F_M, 69, ty_M, rfl, rfl, in_M, tyok_M, nm_M, by decide, gd 1539 (by decide +kernel) rfl, rfl, rfl, rfl⟩
theorem fl_M_167 : FL "SubgraphDeskModel" 167 12 68 false .int (0, 0) := ⟨R_M, F_M, 69, ty_M, rfl, rfl, in_M, tyok_M, nm_M, by decide, gd 1540 (by decide +kernel) rfl, rfl, rfl, rfl⟩
theorem fl_M_243 : FL "SubgraphDeskModel" 243 12 13 false .int (0, 0) := ⟨R_M, F_M, 69, ty_M, rfl, rfl, in_M, tyok_M, nm_M, by decide, gd 1485 (by decide +kernel) rfl, rfl, rfl, rfl⟩
theorem ml_M_607 : Cond.methodLink "SubgraphDeskModel" 607 m_M_linksOf.1 ∈ lw_gd := gd 2236 (by decide +kernel) rfl
theorem k_M_610 : Cond.constantLong "SubgraphDeskModel" 610 (14) ∈ lw_gd := gd 2240 (by decide +kernel) rfl
theorem k_M_612 : Cond.constantLong "SubgraphDeskModel" 612 (16) ∈ lw_gd := gd 2241 (by decide +kernel) rfl
theorem byte_of {v : Int32} {s : Nat} (hs : s ≤ 24) : (v >>> (nI s &&& 31)) &&& nI 255 = nI (v.toBitVec.toNat / 2 ^ s % 256) := by
  apply i32_ext
  apply BitVec.eq_of_getLsbD_eq
  intro i hi
  have e1 : (v >>> (nI s &&& 31)).toBitVec = v.toBitVec.sshiftRight s := by
    show v.toBitVec.sshiftRight ((nI s &&& 31).toBitVec.smod 32).toNat = _
    rw [nx_cnt s (by omega)]
  show ((v >>> (nI s &&& 31)).toBitVec &&& (BitVec.ofNat 32 255)).getLsbD i = (BitVec.ofNat 32 _).getLsbD i
  rw [e1, BitVec.getLsbD_and, BitVec.getLsbD_sshiftRight, BitVec.getLsbD_ofNat, BitVec.getLsbD_ofNat]
  have e2 : (255 : Nat).testBit i = decide (i < 8) := by
    rw [show (255 : Nat) = 2 ^ 8 - 1 from rfl, Nat.testBit_two_pow_sub_one]
  have e3 : (v.toBitVec.toNat / 2 ^ s % 256).testBit i = (decide (i < 8) && v.toBitVec.toNat.testBit (s + i)) := by
    rw [show (256 : Nat) = 2 ^ 8 from rfl, Nat.testBit_mod_two_pow, Nat.testBit_div_two_pow, Nat.add_comm]
  rw [e2, e3]
  by_cases h8 : i < 8
  · have h32 : s + i < 32 := by omega
    simp [h8, h32, hi, BitVec.getLsbD]
  · simp [h8]
def linkF (g : GC) (n : Nat) : Nat := (List.range n).foldl (fun s v => s + pop (gK g v)) 0
theorem linkF_s (g : GC) (n : Nat) : linkF g (n + 1) = linkF g n + pop (gK g n) := range_fold _ _ _
theorem linkF_le (g : GC) : ∀ n, linkF g n ≤ 12 * n
  | 0 => Nat.le_refl _
  | n + 1 => by
    have := linkF_le g n
    have := pop_le (gK g n)
    rw [linkF_s]
    omega
theorem c_M_linksOf {E : EV} {w : Mem} {g : GC} (hR : MRow (rI w 91) g) (hW : WG g) : T E m_M_linksOf 1 0 0 [.ref 89] w (Ret (some (.int (nI (linkN g)))) w) := by
  refine T_of (L := [.ref 89, un, un]) cf_M_linksOf rfl (Nat.le_of_ble_eq_true rfl) (fun X hX hF => ?_)
  have hn := hW.n
  have hv := hW.v
  have he := hW.el
  have lp : ∀ (fuel : Nat) (v : Nat), gV g - v < fuel → (v ≤ gV g) → G0 E X 0 0 4 [.ref 89, .int (nI (linkF g v)), .int (nI v)] [] w := by
    intro fuel
    induction fuel with
    | zero => intro v q0; exact absurd q0 (Nat.not_lt_zero _)
    | succ fuel ih =>
      intro v q0 q1
      refine g_iload2 hX d_M_linksOf_4 ?_
      refine g_aload0 hX d_M_linksOf_5 ?_
      refine g_getF hX d_M_linksOf_6 fl_M_13 (lv_89 _) ?_
      refine g_iconst (v := nI 1) hX d_M_linksOf_9 rfl ?_
      refine g_iald hX d_M_linksOf_10 (lv_91 _) rfl (by decide) ?_
      refine g_topi hR.v ?_
      have hlf := linkF_le g v
      refine g_icmpN_ge hX d_M_linksOf_11 (by omega) (by omega) (fun c0 => ?_) (fun c0 => ?_)
      · refine g_iload1 hX d_M_linksOf_35 ?_
        refine g_iconst (v := nI 2) hX d_M_linksOf_36 rfl ?_
        refine g_idivN hX d_M_linksOf_37 (by omega) (by decide) (by decide) ?_
        refine g_iret hX hF d_M_linksOf_38 (by omega) (by omega) ?_
        exact ⟨by rw [show v = gV g by omega]; rfl, rfl⟩
      · refine g_iload1 hX d_M_linksOf_14 ?_
        refine g_aload0 hX d_M_linksOf_15 ?_
        refine g_getF hX d_M_linksOf_16 fl_M_13 (lv_89 _) ?_
        refine g_bipush (v := nI 26) hX d_M_linksOf_19 rfl ?_
        refine g_iload2 hX d_M_linksOf_21 ?_
        refine g_iaddN hX d_M_linksOf_22 ?_
        refine g_iald hX d_M_linksOf_23 (lv_91 _) rfl (by omega) ?_
        refine g_topi (hR.k v (by omega)) ?_
        have hk := hW.k32 (v := v) (by omega)
        refine g_callS (As := [_]) hX hF.1 d_M_linksOf_24 ml_M_204 cf_M_many cs_M_many rfl (c_M_many (by omega)) (by omega) (by omega) (by omega) (Nat.le_of_ble_eq_true rfl) ?_
        refine ret_k ?_
        refine g_iaddN hX d_M_linksOf_27 ?_
        refine g_istore1 hX d_M_linksOf_28 rfl (by decide) ?_
        refine g_iincN2 hX d_M_linksOf_29 rfl (by decide) ?_
        refine g_goto hX d_M_linksOf_32 ?_
        refine g_eq rfl (by rw [linkF_s]) rfl rfl (ih (v + 1) (by omega) (by omega))
  refine g_iconst (v := nI 0) hX d_M_linksOf_0 rfl ?_
  refine g_istore1 hX d_M_linksOf_1 rfl (by decide) ?_
  refine g_iconst (v := nI 0) hX d_M_linksOf_2 rfl ?_
  refine g_istore2 hX d_M_linksOf_3 rfl (by decide) ?_
  exact lp (gV g + 1) 0 (by omega) (by omega)
theorem c_M_count {E : EV} {w : Mem} {what : Int32} {s : SG} (h : MInv w s) : T E m_M_count 2 0 0 [.ref 89, .int what] w (fun r w2 => r = some (.int (opCount what s)) ∧ MInv w2 s ∧ FrM w w2) := by
  refine T_of (L := [.ref 89, .int what]) cf_M_count rfl (Nat.le_of_ble_eq_true rfl) (fun X hX hF => ?_)
  obtain ⟨⟨hR, hL, hW⟩, hU, hT, hI, hRf, hSt, hFa, hSm, hSp, hDr, hOr⟩ := id h
  have hn := hW.n
  have hv := hW.v
  have he := hW.el
  refine g_aload0 hX d_M_count_0 ?_
  refine g_iconst (v := nI 0) hX d_M_count_1 rfl ?_
  refine g_putI hX d_M_count_2 fl_M_170 (lv_89 _) ?_
  refine g_iload1 hX d_M_count_5 ?_
  by_cases c0_0 : what = 0
  · refine g_tableIn (off := 70) (tgt := 76) hX d_M_count_6 (by rw [c0_0]; decide) (by rw [c0_0]; decide) (by rw [c0_0]; rfl) rfl ?_
    refine g_aload0 hX d_M_count_76 ?_
    refine g_getF hX d_M_count_77 fl_M_13 (lv_89 _) ?_
    refine g_iconst (v := nI 0) hX d_M_count_80 rfl ?_
    refine g_iald hX d_M_count_81 (lv_91 _) rfl (by decide) ?_
    refine g_topi hR.n ?_
    refine g_iret hX hF d_M_count_82 (by omega) (by omega) ?_
    refine ⟨?_, h.keep (by repeat (first | exact Scr.rf _ | refine Scr.I9 (by decide) ?_ | refine Scr.I (by decide) ?_ | refine Scr.A (by decide) ?_ | refine Scr.J9 ?_ | refine Scr.J (by decide) ?_ | refine Scr.B (by decide) ?_)), (by repeat (first | exact FrM.rf _ | refine FrM.I (by decide) ?_ | refine FrM.A (by decide) ?_ | refine FrM.J9 ?_ | refine FrM.J (by decide) ?_))⟩
    unfold opCount
    rw [if_pos c0_0]
  by_cases c0_1 : what = 1
  · refine g_tableIn (off := 77) (tgt := 83) hX d_M_count_6 (by rw [c0_1]; decide) (by rw [c0_1]; decide) (by rw [c0_1]; rfl) rfl ?_
    refine g_aload0 hX d_M_count_83 ?_
    refine g_getF hX d_M_count_84 fl_M_13 (lv_89 _) ?_
    refine g_iconst (v := nI 1) hX d_M_count_87 rfl ?_
    refine g_iald hX d_M_count_88 (lv_91 _) rfl (by decide) ?_
    refine g_topi hR.v ?_
    refine g_iret hX hF d_M_count_89 (by omega) (by omega) ?_
    refine ⟨?_, h.keep (by repeat (first | exact Scr.rf _ | refine Scr.I9 (by decide) ?_ | refine Scr.I (by decide) ?_ | refine Scr.A (by decide) ?_ | refine Scr.J9 ?_ | refine Scr.J (by decide) ?_ | refine Scr.B (by decide) ?_)), (by repeat (first | exact FrM.rf _ | refine FrM.I (by decide) ?_ | refine FrM.A (by decide) ?_ | refine FrM.J9 ?_ | refine FrM.J (by decide) ?_))⟩
    unfold opCount
    rw [if_neg (show ¬ what = 0 by rw [c0_1]; decide), if_pos c0_1]
  by_cases c0_2 : what = 2
  · refine g_tableIn (off := 84) (tgt := 90) hX d_M_count_6 (by rw [c0_2]; decide) (by rw [c0_2]; decide) (by rw [c0_2]; rfl) rfl ?_
    refine g_aload0 hX d_M_count_90 ?_
    refine g_getF hX d_M_count_91 fl_M_13 (lv_89 _) ?_
    refine g_bipush (v := nI 31) hX d_M_count_94 rfl ?_
    refine g_iald hX d_M_count_96 (lv_91 _) rfl (by decide) ?_
    refine g_topi hR.e.1 ?_
    refine g_iret hX hF d_M_count_97 (by omega) (by omega) ?_
    refine ⟨?_, h.keep (by repeat (first | exact Scr.rf _ | refine Scr.I9 (by decide) ?_ | refine Scr.I (by decide) ?_ | refine Scr.A (by decide) ?_ | refine Scr.J9 ?_ | refine Scr.J (by decide) ?_ | refine Scr.B (by decide) ?_)), (by repeat (first | exact FrM.rf _ | refine FrM.I (by decide) ?_ | refine FrM.A (by decide) ?_ | refine FrM.J9 ?_ | refine FrM.J (by decide) ?_))⟩
    unfold opCount
    rw [if_neg (show ¬ what = 0 by rw [c0_2]; decide), if_neg (show ¬ what = 1 by rw [c0_2]; decide), if_pos c0_2]
  by_cases c0_3 : what = 3
  · refine g_tableIn (off := 92) (tgt := 98) hX d_M_count_6 (by rw [c0_3]; decide) (by rw [c0_3]; decide) (by rw [c0_3]; rfl) rfl ?_
    refine g_aload0 hX d_M_count_98 ?_
    refine g_callV (As := []) hX hF.1 d_M_count_99 ml_M_607 cf_M_linksOf cv_M_linksOf rfl rfl (c_M_linksOf hR hW) (rcv_obj hX (lv_89 _) rfl rfl) (by omega) (by omega) (by omega) (Nat.le_of_ble_eq_true rfl) ?_
    refine ret_k ?_
    refine g_iret hX hF d_M_count_102 (by omega) (by omega) ?_
    refine ⟨?_, h.keep (by repeat (first | exact Scr.rf _ | refine Scr.I9 (by decide) ?_ | refine Scr.I (by decide) ?_ | refine Scr.A (by decide) ?_ | refine Scr.J9 ?_ | refine Scr.J (by decide) ?_ | refine Scr.B (by decide) ?_)), (by repeat (first | exact FrM.rf _ | refine FrM.I (by decide) ?_ | refine FrM.A (by decide) ?_ | refine FrM.J9 ?_ | refine FrM.J (by decide) ?_))⟩
    unfold opCount
    rw [if_neg (show ¬ what = 0 by rw [c0_3]; decide), if_neg (show ¬ what = 1 by rw [c0_3]; decide), if_neg (show ¬ what = 2 by rw [c0_3]; decide), if_pos c0_3]
  by_cases c0_4 : what = 4
  · refine g_tableIn (off := 97) (tgt := 103) hX d_M_count_6 (by rw [c0_4]; decide) (by rw [c0_4]; decide) (by rw [c0_4]; rfl) rfl ?_
    refine g_aload0 hX d_M_count_103 ?_
    refine g_getF hX d_M_count_104 fl_M_13 (lv_89 _) ?_
    refine g_iconst (v := nI 2) hX d_M_count_107 rfl ?_
    refine g_iald hX d_M_count_108 (lv_91 _) rfl (by decide) ?_
    refine g_topi hR.s ?_
    refine g_iret hX hF d_M_count_109 (by omega) (by omega) ?_
    refine ⟨?_, h.keep (by repeat (first | exact Scr.rf _ | refine Scr.I9 (by decide) ?_ | refine Scr.I (by decide) ?_ | refine Scr.A (by decide) ?_ | refine Scr.J9 ?_ | refine Scr.J (by decide) ?_ | refine Scr.B (by decide) ?_)), (by repeat (first | exact FrM.rf _ | refine FrM.I (by decide) ?_ | refine FrM.A (by decide) ?_ | refine FrM.J9 ?_ | refine FrM.J (by decide) ?_))⟩
    unfold opCount
    rw [if_neg (show ¬ what = 0 by rw [c0_4]; decide), if_neg (show ¬ what = 1 by rw [c0_4]; decide), if_neg (show ¬ what = 2 by rw [c0_4]; decide), if_neg (show ¬ what = 3 by rw [c0_4]; decide), if_pos c0_4]
  by_cases c0_5 : what = 5
  · refine g_tableIn (off := 104) (tgt := 110) hX d_M_count_6 (by rw [c0_5]; decide) (by rw [c0_5]; decide) (by rw [c0_5]; rfl) rfl ?_
    refine g_aload0 hX d_M_count_110 ?_
    refine g_getF hX d_M_count_111 fl_M_13 (lv_89 _) ?_
    refine g_iconst (v := nI 3) hX d_M_count_114 rfl ?_
    refine g_iald hX d_M_count_115 (lv_91 _) rfl (by decide) ?_
    refine g_topi hR.l ?_
    refine g_iret hX hF d_M_count_116 (by omega) (by omega) ?_
    refine ⟨?_, h.keep (by repeat (first | exact Scr.rf _ | refine Scr.I9 (by decide) ?_ | refine Scr.I (by decide) ?_ | refine Scr.A (by decide) ?_ | refine Scr.J9 ?_ | refine Scr.J (by decide) ?_ | refine Scr.B (by decide) ?_)), (by repeat (first | exact FrM.rf _ | refine FrM.I (by decide) ?_ | refine FrM.A (by decide) ?_ | refine FrM.J9 ?_ | refine FrM.J (by decide) ?_))⟩
    unfold opCount
    rw [if_neg (show ¬ what = 0 by rw [c0_5]; decide), if_neg (show ¬ what = 1 by rw [c0_5]; decide), if_neg (show ¬ what = 2 by rw [c0_5]; decide), if_neg (show ¬ what = 3 by rw [c0_5]; decide), if_neg (show ¬ what = 4 by rw [c0_5]; decide), if_pos c0_5]
  by_cases c0_6 : what = 6
  · refine g_tableIn (off := 111) (tgt := 117) hX d_M_count_6 (by rw [c0_6]; decide) (by rw [c0_6]; decide) (by rw [c0_6]; rfl) rfl ?_
    refine g_aload0 hX d_M_count_117 ?_
    refine g_getI hX d_M_count_118 fl_M_176 (lv_89 _) ?_
    refine g_iret hX hF d_M_count_121 (by omega) (by omega) ?_
    refine ⟨?_, h.keep (by repeat (first | exact Scr.rf _ | refine Scr.I9 (by decide) ?_ | refine Scr.I (by decide) ?_ | refine Scr.A (by decide) ?_ | refine Scr.J9 ?_ | refine Scr.J (by decide) ?_ | refine Scr.B (by decide) ?_)), (by repeat (first | exact FrM.rf _ | refine FrM.I (by decide) ?_ | refine FrM.A (by decide) ?_ | refine FrM.J9 ?_ | refine FrM.J (by decide) ?_))⟩
    unfold opCount
    rw [if_neg (show ¬ what = 0 by rw [c0_6]; decide), if_neg (show ¬ what = 1 by rw [c0_6]; decide), if_neg (show ¬ what = 2 by rw [c0_6]; decide), if_neg (show ¬ what = 3 by rw [c0_6]; decide), if_neg (show ¬ what = 4 by rw [c0_6]; decide), if_neg (show ¬ what = 5 by rw [c0_6]; decide), if_pos c0_6]
    exact congrArg (fun x => some (Value.int x)) (show rI w 89 8 = _ from hU.2.1)
  by_cases c0_7 : what = 7
  · refine g_tableIn (off := 116) (tgt := 122) hX d_M_count_6 (by rw [c0_7]; decide) (by rw [c0_7]; decide) (by rw [c0_7]; rfl) rfl ?_
    refine g_aload0 hX d_M_count_122 ?_
    refine g_getI hX d_M_count_123 fl_M_243 (lv_89 _) ?_
    refine g_iret hX hF d_M_count_126 (by omega) (by omega) ?_
    refine ⟨?_, h.keep (by repeat (first | exact Scr.rf _ | refine Scr.I9 (by decide) ?_ | refine Scr.I (by decide) ?_ | refine Scr.A (by decide) ?_ | refine Scr.J9 ?_ | refine Scr.J (by decide) ?_ | refine Scr.B (by decide) ?_)), (by repeat (first | exact FrM.rf _ | refine FrM.I (by decide) ?_ | refine FrM.A (by decide) ?_ | refine FrM.J9 ?_ | refine FrM.J (by decide) ?_))⟩
    unfold opCount
    rw [if_neg (show ¬ what = 0 by rw [c0_7]; decide), if_neg (show ¬ what = 1 by rw [c0_7]; decide), if_neg (show ¬ what = 2 by rw [c0_7]; decide), if_neg (show ¬ what = 3 by rw [c0_7]; decide), if_neg (show ¬ what = 4 by rw [c0_7]; decide), if_neg (show ¬ what = 5 by rw [c0_7]; decide), if_neg (show ¬ what = 6 by rw [c0_7]; decide), if_pos c0_7]
    exact congrArg (fun x => some (Value.int x)) (show rI w 89 13 = _ from hT.2.1)
  by_cases c0_8 : what = 8
  · refine g_tableIn (off := 121) (tgt := 127) hX d_M_count_6 (by rw [c0_8]; decide) (by rw [c0_8]; decide) (by rw [c0_8]; rfl) rfl ?_
    refine g_aload0 hX d_M_count_127 ?_
    refine g_getF hX d_M_count_128 fl_M_7 (lv_89 _) ?_
    refine g_iconst (v := nI 1) hX d_M_count_131 rfl ?_
    refine g_iald hX d_M_count_132 (lv_90 _) rfl (by decide) ?_
    refine g_iret hX hF d_M_count_133 (by omega) (by omega) ?_
    refine ⟨?_, h.keep (by repeat (first | exact Scr.rf _ | refine Scr.I9 (by decide) ?_ | refine Scr.I (by decide) ?_ | refine Scr.A (by decide) ?_ | refine Scr.J9 ?_ | refine Scr.J (by decide) ?_ | refine Scr.B (by decide) ?_)), (by repeat (first | exact FrM.rf _ | refine FrM.I (by decide) ?_ | refine FrM.A (by decide) ?_ | refine FrM.J9 ?_ | refine FrM.J (by decide) ?_))⟩
    unfold opCount
    rw [if_neg (show ¬ what = 0 by rw [c0_8]; decide), if_neg (show ¬ what = 1 by rw [c0_8]; decide), if_neg (show ¬ what = 2 by rw [c0_8]; decide), if_neg (show ¬ what = 3 by rw [c0_8]; decide), if_neg (show ¬ what = 4 by rw [c0_8]; decide), if_neg (show ¬ what = 5 by rw [c0_8]; decide), if_neg (show ¬ what = 6 by rw [c0_8]; decide), if_neg (show ¬ what = 7 by rw [c0_8]; decide), if_pos c0_8]
    exact congrArg (fun x => some (Value.int x)) (hRf 1 (by decide))
  by_cases c0_9 : what = 9
  · refine g_tableIn (off := 128) (tgt := 134) hX d_M_count_6 (by rw [c0_9]; decide) (by rw [c0_9]; decide) (by rw [c0_9]; rfl) rfl ?_
    refine g_aload0 hX d_M_count_134 ?_
    refine g_getF hX d_M_count_135 fl_M_7 (lv_89 _) ?_
    refine g_iconst (v := nI 2) hX d_M_count_138 rfl ?_
    refine g_iald hX d_M_count_139 (lv_90 _) rfl (by decide) ?_
    refine g_iret hX hF d_M_count_140 (by omega) (by omega) ?_
    refine ⟨?_, h.keep (by repeat (first | exact Scr.rf _ | refine Scr.I9 (by decide) ?_ | refine Scr.I (by decide) ?_ | refine Scr.A (by decide) ?_ | refine Scr.J9 ?_ | refine Scr.J (by decide) ?_ | refine Scr.B (by decide) ?_)), (by repeat (first | exact FrM.rf _ | refine FrM.I (by decide) ?_ | refine FrM.A (by decide) ?_ | refine FrM.J9 ?_ | refine FrM.J (by decide) ?_))⟩
    unfold opCount
    rw [if_neg (show ¬ what = 0 by rw [c0_9]; decide), if_neg (show ¬ what = 1 by rw [c0_9]; decide), if_neg (show ¬ what = 2 by rw [c0_9]; decide), if_neg (show ¬ what = 3 by rw [c0_9]; decide), if_neg (show ¬ what = 4 by rw [c0_9]; decide), if_neg (show ¬ what = 5 by rw [c0_9]; decide), if_neg (show ¬ what = 6 by rw [c0_9]; decide), if_neg (show ¬ what = 7 by rw [c0_9]; decide), if_neg (show ¬ what = 8 by rw [c0_9]; decide), if_pos c0_9]
    exact congrArg (fun x => some (Value.int x)) (hRf 2 (by decide))
  by_cases c0_10 : what = 10
  · refine g_tableIn (off := 135) (tgt := 141) hX d_M_count_6 (by rw [c0_10]; decide) (by rw [c0_10]; decide) (by rw [c0_10]; rfl) rfl ?_
    refine g_aload0 hX d_M_count_141 ?_
    refine g_getF hX d_M_count_142 fl_M_7 (lv_89 _) ?_
    refine g_iconst (v := nI 3) hX d_M_count_145 rfl ?_
    refine g_iald hX d_M_count_146 (lv_90 _) rfl (by decide) ?_
    refine g_iret hX hF d_M_count_147 (by omega) (by omega) ?_
    refine ⟨?_, h.keep (by repeat (first | exact Scr.rf _ | refine Scr.I9 (by decide) ?_ | refine Scr.I (by decide) ?_ | refine Scr.A (by decide) ?_ | refine Scr.J9 ?_ | refine Scr.J (by decide) ?_ | refine Scr.B (by decide) ?_)), (by repeat (first | exact FrM.rf _ | refine FrM.I (by decide) ?_ | refine FrM.A (by decide) ?_ | refine FrM.J9 ?_ | refine FrM.J (by decide) ?_))⟩
    unfold opCount
    rw [if_neg (show ¬ what = 0 by rw [c0_10]; decide), if_neg (show ¬ what = 1 by rw [c0_10]; decide), if_neg (show ¬ what = 2 by rw [c0_10]; decide), if_neg (show ¬ what = 3 by rw [c0_10]; decide), if_neg (show ¬ what = 4 by rw [c0_10]; decide), if_neg (show ¬ what = 5 by rw [c0_10]; decide), if_neg (show ¬ what = 6 by rw [c0_10]; decide), if_neg (show ¬ what = 7 by rw [c0_10]; decide), if_neg (show ¬ what = 8 by rw [c0_10]; decide), if_neg (show ¬ what = 9 by rw [c0_10]; decide), if_pos c0_10]
    exact congrArg (fun x => some (Value.int x)) (hRf 3 (by decide))
  by_cases c0_11 : what = 11
  · refine g_tableIn (off := 142) (tgt := 148) hX d_M_count_6 (by rw [c0_11]; decide) (by rw [c0_11]; decide) (by rw [c0_11]; rfl) rfl ?_
    refine g_aload0 hX d_M_count_148 ?_
    refine g_getF hX d_M_count_149 fl_M_7 (lv_89 _) ?_
    refine g_iconst (v := nI 5) hX d_M_count_152 rfl ?_
    refine g_iald hX d_M_count_153 (lv_90 _) rfl (by decide) ?_
    refine g_iret hX hF d_M_count_154 (by omega) (by omega) ?_
    refine ⟨?_, h.keep (by repeat (first | exact Scr.rf _ | refine Scr.I9 (by decide) ?_ | refine Scr.I (by decide) ?_ | refine Scr.A (by decide) ?_ | refine Scr.J9 ?_ | refine Scr.J (by decide) ?_ | refine Scr.B (by decide) ?_)), (by repeat (first | exact FrM.rf _ | refine FrM.I (by decide) ?_ | refine FrM.A (by decide) ?_ | refine FrM.J9 ?_ | refine FrM.J (by decide) ?_))⟩
    unfold opCount
    rw [if_neg (show ¬ what = 0 by rw [c0_11]; decide), if_neg (show ¬ what = 1 by rw [c0_11]; decide), if_neg (show ¬ what = 2 by rw [c0_11]; decide), if_neg (show ¬ what = 3 by rw [c0_11]; decide), if_neg (show ¬ what = 4 by rw [c0_11]; decide), if_neg (show ¬ what = 5 by rw [c0_11]; decide), if_neg (show ¬ what = 6 by rw [c0_11]; decide), if_neg (show ¬ what = 7 by rw [c0_11]; decide), if_neg (show ¬ what = 8 by rw [c0_11]; decide), if_neg (show ¬ what = 9 by rw [c0_11]; decide), if_neg (show ¬ what = 10 by rw [c0_11]; decide), if_pos c0_11]
    exact congrArg (fun x => some (Value.int x)) (hRf 5 (by decide))
  by_cases c0_12 : what = 12
  · refine g_tableIn (off := 149) (tgt := 155) hX d_M_count_6 (by rw [c0_12]; decide) (by rw [c0_12]; decide) (by rw [c0_12]; rfl) rfl ?_
    refine g_aload0 hX d_M_count_155 ?_
    refine g_getF hX d_M_count_156 fl_M_7 (lv_89 _) ?_
    refine g_bipush (v := nI 6) hX d_M_count_159 rfl ?_
    refine g_iald hX d_M_count_161 (lv_90 _) rfl (by decide) ?_
    refine g_iret hX hF d_M_count_162 (by omega) (by omega) ?_
    refine ⟨?_, h.keep (by repeat (first | exact Scr.rf _ | refine Scr.I9 (by decide) ?_ | refine Scr.I (by decide) ?_ | refine Scr.A (by decide) ?_ | refine Scr.J9 ?_ | refine Scr.J (by decide) ?_ | refine Scr.B (by decide) ?_)), (by repeat (first | exact FrM.rf _ | refine FrM.I (by decide) ?_ | refine FrM.A (by decide) ?_ | refine FrM.J9 ?_ | refine FrM.J (by decide) ?_))⟩
    unfold opCount
    rw [if_neg (show ¬ what = 0 by rw [c0_12]; decide), if_neg (show ¬ what = 1 by rw [c0_12]; decide), if_neg (show ¬ what = 2 by rw [c0_12]; decide), if_neg (show ¬ what = 3 by rw [c0_12]; decide), if_neg (show ¬ what = 4 by rw [c0_12]; decide), if_neg (show ¬ what = 5 by rw [c0_12]; decide), if_neg (show ¬ what = 6 by rw [c0_12]; decide), if_neg (show ¬ what = 7 by rw [c0_12]; decide), if_neg (show ¬ what = 8 by rw [c0_12]; decide), if_neg (show ¬ what = 9 by rw [c0_12]; decide), if_neg (show ¬ what = 10 by rw [c0_12]; decide), if_neg (show ¬ what = 11 by rw [c0_12]; decide), if_pos c0_12]
    exact congrArg (fun x => some (Value.int x)) (hRf 6 (by decide))
  by_cases c0_13 : what = 13
  · refine g_tableIn (off := 157) (tgt := 163) hX d_M_count_6 (by rw [c0_13]; decide) (by rw [c0_13]; decide) (by rw [c0_13]; rfl) rfl ?_
    refine g_aload0 hX d_M_count_163 ?_
    refine g_getF hX d_M_count_164 fl_M_13 (lv_89 _) ?_
    refine g_iconst (v := nI 4) hX d_M_count_167 rfl ?_
    refine g_iald hX d_M_count_168 (lv_91 _) rfl (by decide) ?_
    refine g_iret hX hF d_M_count_169 (by omega) (by omega) ?_
    refine ⟨?_, h.keep (by repeat (first | exact Scr.rf _ | refine Scr.I9 (by decide) ?_ | refine Scr.I (by decide) ?_ | refine Scr.A (by decide) ?_ | refine Scr.J9 ?_ | refine Scr.J (by decide) ?_ | refine Scr.B (by decide) ?_)), (by repeat (first | exact FrM.rf _ | refine FrM.I (by decide) ?_ | refine FrM.A (by decide) ?_ | refine FrM.J9 ?_ | refine FrM.J (by decide) ?_))⟩
    unfold opCount
    rw [if_neg (show ¬ what = 0 by rw [c0_13]; decide), if_neg (show ¬ what = 1 by rw [c0_13]; decide), if_neg (show ¬ what = 2 by rw [c0_13]; decide), if_neg (show ¬ what = 3 by rw [c0_13]; decide), if_neg (show ¬ what = 4 by rw [c0_13]; decide), if_neg (show ¬ what = 5 by rw [c0_13]; decide), if_neg (show ¬ what = 6 by rw [c0_13]; decide), if_neg (show ¬ what = 7 by rw [c0_13]; decide), if_neg (show ¬ what = 8 by rw [c0_13]; decide), if_neg (show ¬ what = 9 by rw [c0_13]; decide), if_neg (show ¬ what = 10 by rw [c0_13]; decide), if_neg (show ¬ what = 11 by rw [c0_13]; decide), if_neg (show ¬ what = 12 by rw [c0_13]; decide), if_pos c0_13]
    exact congrArg (fun x => some (Value.int x)) hR.fo
  refine g_tableOut (tgt := 170) hX d_M_count_6 (sw_outR (lo := 0) (hi := 13) (by decide) (by intro k hk1 hk2; rcases (show k = 0 ∨ k = 1 ∨ k = 2 ∨ k = 3 ∨ k = 4 ∨ k = 5 ∨ k = 6 ∨ k = 7 ∨ k = 8 ∨ k = 9 ∨ k = 10 ∨ k = 11 ∨ k = 12 ∨ k = 13 by omega) with rfl | rfl | rfl | rfl | rfl | rfl | rfl | rfl | rfl | rfl | rfl | rfl | rfl | rfl <;> first | exact c0_0 | exact c0_1 | exact c0_2 | exact c0_3 | exact c0_4 | exact c0_5 | exact c0_6 | exact c0_7 | exact c0_8 | exact c0_9 | exact c0_10 | exact c0_11 | exact c0_12 | exact c0_13)) rfl ?_
  refine g_iload1 hX d_M_count_170 ?_
  refine g_i2l hX d_M_count_171 ?_
  refine g_ldc2 (v := lN 14) hX d_M_count_172 k_M_610 rfl ?_
  refine g_ldc2 (v := lN 16) hX d_M_count_175 k_M_612 rfl ?_
  refine g_callS (As := [_, _, _]) hX hF.1 d_M_count_178 ml_M_190 cf_M_in cs_M_in rfl (c_M_in) (by omega) (by omega) (by omega) (Nat.le_of_ble_eq_true rfl) ?_
  refine ret_k ?_
  refine g_ifB_eq hX d_M_count_181 (fun d0 => ?_) (fun d0 => ?_)
  · have d2 : ∀ k : Nat, 14 ≤ k → k ≤ 16 → ¬ what = nI k := fun k h1 h2 e => d0 ((in_isC (by decide) (by decide)).mpr (by rw [e, Int32.le_iff_toInt_le, Int32.le_iff_toInt_le, nI_toInt (show 14 < 2 ^ 31 by decide), nI_toInt (show 16 < 2 ^ 31 by decide), nI_toInt (show k < 2 ^ 31 by omega)]; omega))
    refine g_iconst (v := -1) hX d_M_count_199 rfl ?_
    refine g_iret hX hF d_M_count_200 (by omega) (by omega) ?_
    refine ⟨?_, h.keep (by repeat (first | exact Scr.rf _ | refine Scr.I9 (by decide) ?_ | refine Scr.I (by decide) ?_ | refine Scr.A (by decide) ?_ | refine Scr.J9 ?_ | refine Scr.J (by decide) ?_ | refine Scr.B (by decide) ?_)), (by repeat (first | exact FrM.rf _ | refine FrM.I (by decide) ?_ | refine FrM.A (by decide) ?_ | refine FrM.J9 ?_ | refine FrM.J (by decide) ?_))⟩
    unfold opCount
    rw [if_neg c0_0, if_neg c0_1, if_neg c0_2, if_neg c0_3, if_neg c0_4, if_neg c0_5, if_neg c0_6, if_neg c0_7, if_neg c0_8, if_neg c0_9, if_neg c0_10, if_neg c0_11, if_neg c0_12, if_neg c0_13]
    first | (rw [if_neg (show ¬ what = 14 from d2 14 (by decide) (by decide)), if_neg (show ¬ what = 15 from d2 15 (by decide) (by decide)), if_neg (show ¬ what = 16 from d2 16 (by decide) (by decide))]) | (rcases (show j = 0 ∨ j = 1 ∨ j = 2 by omega) with rfl | rfl | rfl <;> rfl)
  · have d1 := (in_isC (by decide) (by decide)).mp d0
    rw [Int32.le_iff_toInt_le, Int32.le_iff_toInt_le, nI_toInt (by decide), nI_toInt (by decide)] at d1
    obtain ⟨j, hj, hwj⟩ : ∃ j : Nat, j < 3 ∧ what = nI (14 + j) := ⟨what.toInt.toNat - 14, by omega, by apply Int32.toInt_inj.mp; rw [nI_toInt (by omega)]; omega⟩
    obtain rfl := hwj
    refine g_aload0 hX d_M_count_184 ?_
    refine g_getF hX d_M_count_185 fl_M_13 (lv_89 _) ?_
    refine g_bipush (v := nI 6) hX d_M_count_188 rfl ?_
    refine g_iload1 hX d_M_count_190 ?_
    refine g_iaddN hX d_M_count_191 ?_
    refine g_bipush (v := nI 14) hX d_M_count_192 rfl ?_
    refine g_isubN hX d_M_count_194 (by omega) ?_
    refine g_iald hX d_M_count_195 (lv_91 _) (congrArg nI (show 6 + (14 + j) - 14 = 6 + j by omega)) (by omega) ?_
    refine g_topi (hR.t j hj) ?_
    refine g_goto hX d_M_count_196 ?_
    refine g_iret hX hF d_M_count_200 (by omega) (by omega) ?_
    refine ⟨?_, h.keep (by repeat (first | exact Scr.rf _ | refine Scr.I9 (by decide) ?_ | refine Scr.I (by decide) ?_ | refine Scr.A (by decide) ?_ | refine Scr.J9 ?_ | refine Scr.J (by decide) ?_ | refine Scr.B (by decide) ?_)), (by repeat (first | exact FrM.rf _ | refine FrM.I (by decide) ?_ | refine FrM.A (by decide) ?_ | refine FrM.J9 ?_ | refine FrM.J (by decide) ?_))⟩
    unfold opCount
    rw [if_neg c0_0, if_neg c0_1, if_neg c0_2, if_neg c0_3, if_neg c0_4, if_neg c0_5, if_neg c0_6, if_neg c0_7, if_neg c0_8, if_neg c0_9, if_neg c0_10, if_neg c0_11, if_neg c0_12, if_neg c0_13]
    first | (rw [if_neg (show ¬ what = 14 from d2 14 (by decide) (by decide)), if_neg (show ¬ what = 15 from d2 15 (by decide) (by decide)), if_neg (show ¬ what = 16 from d2 16 (by decide) (by decide))]) | (rcases (show j = 0 ∨ j = 1 ∨ j = 2 by omega) with rfl | rfl | rfl <;> rfl)
theorem dr_in {f : Nat → Int32} {n x : Int32} {d : Option (Nat × (Nat → Nat) × (Nat → Nat))} (h : MDr f n d) (hx : lN 0 ≤ x.toInt64 ∧ x.toInt64 ≤ n.toInt64 - lN 1) : ∃ q j, d = some q ∧ j < q.1 ∧ q.1 ≤ 12 ∧ x = nI j ∧ tn x = j ∧ f (2 * j) = nI (q.2.1 j) ∧ f (2 * j + 1) = nI (q.2.2 j) := by
  cases d with
  | none =>
    have hn : n = -1 := h
    subst hn
    obtain ⟨h1, h2⟩ := hx
    rw [Int64.le_iff_toInt_le] at h1 h2
    have e1 : (lN 0).toInt = 0 := rfl
    have e2 : ((-1 : Int32).toInt64 - lN 1).toInt = -2 := by decide
    rw [e1] at h1
    rw [e2] at h2
    omega
  | some q =>
    obtain ⟨h1, rfl, h3⟩ := h
    obtain ⟨j, hj, rfl, ht⟩ := inN_of (n := q.1) ((in_isN (by omega)).mp hx) (by omega)
    exact ⟨q, j, rfl, hj, h1, rfl, ht, h3 j hj⟩
theorem dr_out {f : Nat → Int32} {n x : Int32} {q : Nat × (Nat → Nat) × (Nat → Nat)} (h : MDr f n (some q)) (hx : ¬ (lN 0 ≤ x.toInt64 ∧ x.toInt64 ≤ n.toInt64 - lN 1)) : ¬ inN x q.1 := by
  obtain ⟨h1, rfl, h3⟩ := h
  exact fun hq => hx ((in_isN (by omega)).mpr hq)
theorem drn_out {f : Nat → Int32} {n x what : Int32} {s : SG} (h : MDr f n (sDr s)) (hx : ¬ (lN 0 ≤ x.toInt64 ∧ x.toInt64 ≤ n.toInt64 - lN 1)) : opDrawn x what s = -1 := by
  unfold opDrawn
  cases hd : sDr s with
  | none => rfl
  | some q =>
    rw [hd] at h
    have := dr_out h hx
    simp [this]
theorem drn_w {x what : Int32} {s : SG} {q : Nat × (Nat → Nat) × (Nat → Nat)} (hq : sDr s = some q) (hz : ∀ k : Nat, k < 2 → ¬ what = nI k) : opDrawn x what s = -1 := by
  unfold opDrawn
  rw [hq]
  have h0 : ¬ what = 0 := hz 0 (by decide)
  have h1 : ¬ what = 1 := hz 1 (by decide)
  simp [h0, h1]
theorem drn_k {f : Nat → Int32} {j k : Nat} {s : SG} {q : Nat × (Nat → Nat) × (Nat → Nat)} (hq : sDr s = some q) (hj : j < q.1) (h12 : q.1 < 2 ^ 31) (hk : k < 2) (hf1 : f (2 * j) = nI (q.2.1 j)) (hf2 : f (2 * j + 1) = nI (q.2.2 j)) : opDrawn (nI j) (nI k) s = f (2 * j + k) := by
  unfold opDrawn
  rw [hq]
  have h0 := inN_nI hj h12
  rcases (show k = 0 ∨ k = 1 by omega) with rfl | rfl
  · refine (if_pos ⟨h0, rfl⟩).trans ?_
    rw [tn_nI (show j < 2 ^ 31 by omega)]
    exact hf1.symm
  · refine (if_neg (fun hh => absurd hh.2 (by decide))).trans ((if_pos ⟨h0, rfl⟩).trans ?_)
    rw [tn_nI (show j < 2 ^ 31 by omega)]
    exact hf2.symm
theorem c_M_drawn {E : EV} {w : Mem} {n what : Int32} {s : SG} (h : MInv w s) : T E m_M_drawn 1 0 0 [.ref 89, .int n, .int what] w (fun r w2 => r = some (.int (opDrawn n what s)) ∧ MInv w2 s ∧ FrM w w2) := by
  refine T_of (L := [.ref 89, .int n, .int what]) cf_M_drawn rfl (Nat.le_of_ble_eq_true rfl) (fun X hX hF => ?_)
  obtain ⟨⟨hR, hL, hW⟩, hU, hT, hI, hRf, hSt, hFa, hSm, hSp, hDr, hOr⟩ := id h
  have hn := hW.n
  have hv := hW.v
  have he := hW.el
  refine g_aload0 hX d_M_drawn_0 ?_
  refine g_iconst (v := nI 0) hX d_M_drawn_1 rfl ?_
  refine g_putI hX d_M_drawn_2 fl_M_170 (lv_89 _) ?_
  refine g_iload1 hX d_M_drawn_5 ?_
  refine g_i2l hX d_M_drawn_6 ?_
  refine g_lconst (v := lN 0) hX d_M_drawn_7 rfl ?_
  refine g_aload0 hX d_M_drawn_8 ?_
  refine g_getI hX d_M_drawn_9 fl_M_167 (lv_89 _) ?_
  refine g_i2l hX d_M_drawn_12 ?_
  refine g_lconst (v := lN 1) hX d_M_drawn_13 rfl ?_
  refine g_lsub hX d_M_drawn_14 ?_
  refine g_callS (As := [_, _, _]) hX hF.1 d_M_drawn_15 ml_M_190 cf_M_in cs_M_in rfl (c_M_in) (by omega) (by omega) (by omega) (Nat.le_of_ble_eq_true rfl) ?_
  refine ret_k ?_
  refine g_ifB_eq hX d_M_drawn_18 (fun d0 => ?_) (fun d0 => ?_)
  · refine g_iconst (v := -1) hX d_M_drawn_44 rfl ?_
    refine g_iret hX hF d_M_drawn_45 (by omega) (by omega) ?_
    refine ⟨?_, h.keep (by repeat (first | exact Scr.rf _ | refine Scr.I9 (by decide) ?_ | refine Scr.I (by decide) ?_ | refine Scr.A (by decide) ?_ | refine Scr.J9 ?_ | refine Scr.J (by decide) ?_ | refine Scr.B (by decide) ?_)), (by repeat (first | exact FrM.rf _ | refine FrM.I (by decide) ?_ | refine FrM.A (by decide) ?_ | refine FrM.J9 ?_ | refine FrM.J (by decide) ?_))⟩
    first
      | exact congrArg (fun x => some (Value.int x)) (drn_out hDr d0).symm
      | exact congrArg (fun x => some (Value.int x)) (drn_w hq (fun k hk e => d1 ((in_le (by decide)).mpr (by rw [e]; exact inN_nI hk (by decide))))).symm
      | exact congrArg (fun x => some (Value.int x)) (drn_k hq hj (by omega) hk hf1 hf2).symm
  · obtain ⟨q, j, hq, hj, hq12, rfl, htn, hf1, hf2⟩ := dr_in hDr d0
    refine g_iload2 hX d_M_drawn_21 ?_
    refine g_i2l hX d_M_drawn_22 ?_
    refine g_lconst (v := lN 0) hX d_M_drawn_23 rfl ?_
    refine g_lconst (v := lN 1) hX d_M_drawn_24 rfl ?_
    refine g_callS (As := [_, _, _]) hX hF.1 d_M_drawn_25 ml_M_190 cf_M_in cs_M_in rfl (c_M_in) (by omega) (by omega) (by omega) (Nat.le_of_ble_eq_true rfl) ?_
    refine ret_k ?_
    refine g_ifB_eq hX d_M_drawn_28 (fun d1 => ?_) (fun d1 => ?_)
    · refine g_iconst (v := -1) hX d_M_drawn_44 rfl ?_
      refine g_iret hX hF d_M_drawn_45 (by omega) (by omega) ?_
      refine ⟨?_, h.keep (by repeat (first | exact Scr.rf _ | refine Scr.I9 (by decide) ?_ | refine Scr.I (by decide) ?_ | refine Scr.A (by decide) ?_ | refine Scr.J9 ?_ | refine Scr.J (by decide) ?_ | refine Scr.B (by decide) ?_)), (by repeat (first | exact FrM.rf _ | refine FrM.I (by decide) ?_ | refine FrM.A (by decide) ?_ | refine FrM.J9 ?_ | refine FrM.J (by decide) ?_))⟩
      first
        | exact congrArg (fun x => some (Value.int x)) (drn_out hDr d0).symm
        | exact congrArg (fun x => some (Value.int x)) (drn_w hq (fun k hk e => d1 ((in_le (by decide)).mpr (by rw [e]; exact inN_nI hk (by decide))))).symm
        | exact congrArg (fun x => some (Value.int x)) (drn_k hq hj (by omega) hk hf1 hf2).symm
    · obtain ⟨k, hk, rfl, htk⟩ := inN_of (n := 2) ((in_le (by decide)).mp d1) (by decide)
      refine g_aload0 hX d_M_drawn_31 ?_
      refine g_getF hX d_M_drawn_32 fl_M_164 (lv_89 _) ?_
      refine g_iconst (v := nI 2) hX d_M_drawn_35 rfl ?_
      refine g_iload1 hX d_M_drawn_36 ?_
      refine g_imulN hX d_M_drawn_37 ?_
      refine g_iload2 hX d_M_drawn_38 ?_
      refine g_iaddN hX d_M_drawn_39 ?_
      refine g_iald hX d_M_drawn_40 (lv_127 _) rfl (by omega) ?_
      refine g_goto hX d_M_drawn_41 ?_
      refine g_iret hX hF d_M_drawn_45 (by omega) (by omega) ?_
      refine ⟨?_, h.keep (by repeat (first | exact Scr.rf _ | refine Scr.I9 (by decide) ?_ | refine Scr.I (by decide) ?_ | refine Scr.A (by decide) ?_ | refine Scr.J9 ?_ | refine Scr.J (by decide) ?_ | refine Scr.B (by decide) ?_)), (by repeat (first | exact FrM.rf _ | refine FrM.I (by decide) ?_ | refine FrM.A (by decide) ?_ | refine FrM.J9 ?_ | refine FrM.J (by decide) ?_))⟩
      first
        | exact congrArg (fun x => some (Value.int x)) (drn_out hDr d0).symm
        | exact congrArg (fun x => some (Value.int x)) (drn_w hq (fun k hk e => d1 ((in_le (by decide)).mpr (by rw [e]; exact inN_nI hk (by decide))))).symm
        | exact congrArg (fun x => some (Value.int x)) (drn_k hq hj (by omega) hk hf1 hf2).symm
