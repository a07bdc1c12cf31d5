def m_D_back : MR := (⟨"SubgraphDesk", "back", "(I)I"⟩, prog_1_method_55_code, 2, (some .int))
theorem cf_D_back : CF m_D_back 1 := ⟨gd 1435 (by decide +kernel) rfl, gd 139 (by decide +kernel) rfl, by decide +kernel, by decide, by decide +kernel⟩
theorem cv_D_back : CV m_D_back := ⟨gd 1433 (by decide +kernel) rfl, gd 1434 (by decide +kernel) rfl⟩
def m_D_count : MR := (⟨"SubgraphDesk", "count", "(I)I"⟩, prog_1_method_56_code, 2, (some .int))
theorem cf_D_count : CF m_D_count 1 := ⟨gd 1439 (by decide +kernel) rfl, gd 139 (by decide +kernel) rfl, by decide +kernel, by decide, by decide +kernel⟩
theorem cv_D_count : CV m_D_count := ⟨gd 1437 (by decide +kernel) rfl, gd 1438 (by decide +kernel) rfl⟩
def m_D_drawn : MR := (⟨"SubgraphDesk", "drawn", "(II)I"⟩, prog_1_method_53_code, 3, (some .int))
theorem cf_D_drawn : CF m_D_drawn 2 := ⟨gd 1427 (by decide +kernel) rfl, gd 139 (by decide +kernel) rfl, by decide +kernel, by decide, by decide +kernel⟩
theorem cv_D_drawn : CV m_D_drawn := ⟨gd 1425 (by decide +kernel) rfl, gd 1426 (by decide +kernel) rfl⟩
def m_D_image : MR := (⟨"SubgraphDesk", "image", "(I)I"⟩, prog_1_method_54_code, 2, (some .int))
theorem cf_D_image : CF m_D_image 1 := ⟨gd 1431 (by decide +kernel) rfl, gd 139 (by decide +kernel) rfl, by decide +kernel, by decide, by decide +kernel⟩
theorem cv_D_image : CV m_D_image := ⟨gd 1429 (by decide +kernel) rfl, gd 1430 (by decide +kernel) rfl⟩
theorem d_D_back_0 : Dc prog_1_method_55_code 0 (.iload_n 1) 1 1 := ⟨by decide +kernel, rfl⟩
theorem d_D_back_1 : Dj prog_1_method_55_code 1 (.ifCond .lt 8) 4 8 9 := ⟨by decide +kernel, rfl, rfl⟩
theorem d_D_back_4 : Dc prog_1_method_55_code 4 (.iload_n 1) 1 5 := ⟨by decide +kernel, rfl⟩
theorem d_D_back_5 : Dc prog_1_method_55_code 5 (.iconst 2) 1 6 := ⟨by decide +kernel, rfl⟩
theorem d_D_back_6 : Dj prog_1_method_55_code 6 (.if_icmp .lt 9) 9 9 15 := ⟨by decide +kernel, rfl, rfl⟩
theorem d_D_back_9 : Dc prog_1_method_55_code 9 (.aload_n 0) 1 10 := ⟨by decide +kernel, rfl⟩
theorem d_D_back_10 : Dc prog_1_method_55_code 10 (.iconst (-1)) 1 11 := ⟨by decide +kernel, rfl⟩
theorem d_D_back_11 : Dc prog_1_method_55_code 11 (.invokevirtual 91) 3 14 := ⟨by decide +kernel, rfl⟩
theorem d_D_back_14 : Dc prog_1_method_55_code 14 (.ireturn) 1 15 := ⟨by decide +kernel, rfl⟩
theorem d_D_back_15 : Dc prog_1_method_55_code 15 (.aload_n 0) 1 16 := ⟨by decide +kernel, rfl⟩
theorem d_D_back_16 : Dc prog_1_method_55_code 16 (.getfield 16) 3 19 := ⟨by decide +kernel, rfl⟩
theorem d_D_back_19 : Dc prog_1_method_55_code 19 (.iload_n 1) 1 20 := ⟨by decide +kernel, rfl⟩
theorem d_D_back_20 : Dc prog_1_method_55_code 20 (.aaload) 1 21 := ⟨by decide +kernel, rfl⟩
theorem d_D_back_21 : Dc prog_1_method_55_code 21 (.getfield 391) 3 24 := ⟨by decide +kernel, rfl⟩
theorem d_D_back_24 : Dj prog_1_method_55_code 24 (.ifCond .ne 10) 27 10 34 := ⟨by decide +kernel, rfl, rfl⟩
theorem d_D_back_27 : Dc prog_1_method_55_code 27 (.aload_n 0) 1 28 := ⟨by decide +kernel, rfl⟩
theorem d_D_back_28 : Dc prog_1_method_55_code 28 (.bipush (-2)) 2 30 := ⟨by decide +kernel, rfl⟩
theorem d_D_back_30 : Dc prog_1_method_55_code 30 (.invokevirtual 91) 3 33 := ⟨by decide +kernel, rfl⟩
theorem d_D_back_33 : Dc prog_1_method_55_code 33 (.ireturn) 1 34 := ⟨by decide +kernel, rfl⟩
theorem d_D_back_34 : Dc prog_1_method_55_code 34 (.aload_n 0) 1 35 := ⟨by decide +kernel, rfl⟩
theorem d_D_back_35 : Dc prog_1_method_55_code 35 (.getfield 10) 3 38 := ⟨by decide +kernel, rfl⟩
theorem d_D_back_38 : Dc prog_1_method_55_code 38 (.aload_n 0) 1 39 := ⟨by decide +kernel, rfl⟩
theorem d_D_back_39 : Dc prog_1_method_55_code 39 (.getfield 16) 3 42 := ⟨by decide +kernel, rfl⟩
theorem d_D_back_42 : Dc prog_1_method_55_code 42 (.iload_n 1) 1 43 := ⟨by decide +kernel, rfl⟩
theorem d_D_back_43 : Dc prog_1_method_55_code 43 (.aaload) 1 44 := ⟨by decide +kernel, rfl⟩
theorem d_D_back_44 : Dc prog_1_method_55_code 44 (.invokevirtual 370) 3 47 := ⟨by decide +kernel, rfl⟩
theorem d_D_back_47 : Dc prog_1_method_55_code 47 (.aload_n 0) 1 48 := ⟨by decide +kernel, rfl⟩
theorem d_D_back_48 : Dc prog_1_method_55_code 48 (.getfield 26) 3 51 := ⟨by decide +kernel, rfl⟩
theorem d_D_back_51 : Dc prog_1_method_55_code 51 (.invokevirtual 101) 3 54 := ⟨by decide +kernel, rfl⟩
theorem d_D_back_54 : Dc prog_1_method_55_code 54 (.aload_n 0) 1 55 := ⟨by decide +kernel, rfl⟩
theorem d_D_back_55 : Dc prog_1_method_55_code 55 (.iconst 0) 1 56 := ⟨by decide +kernel, rfl⟩
theorem d_D_back_56 : Dc prog_1_method_55_code 56 (.invokevirtual 95) 3 59 := ⟨by decide +kernel, rfl⟩
theorem d_D_back_59 : Dc prog_1_method_55_code 59 (.ireturn) 1 60 := ⟨by decide +kernel, rfl⟩
theorem d_D_count_0 : Dc prog_1_method_56_code 0 (.iload_n 1) 1 1 := ⟨by decide +kernel, rfl⟩
theorem d_D_count_1 : Dc prog_1_method_56_code 1 (.bipush 8) 2 3 := ⟨by decide +kernel, rfl⟩
theorem d_D_count_3 : Dj prog_1_method_56_code 3 (.if_icmp .lt 19) 6 19 22 := ⟨by decide +kernel, rfl, rfl⟩
theorem d_D_count_6 : Dc prog_1_method_56_code 6 (.iload_n 1) 1 7 := ⟨by decide +kernel, rfl⟩
theorem d_D_count_7 : Dc prog_1_method_56_code 7 (.bipush 12) 2 9 := ⟨by decide +kernel, rfl⟩
theorem d_D_count_9 : Dj prog_1_method_56_code 9 (.if_icmp .gt 13) 12 13 22 := ⟨by decide +kernel, rfl, rfl⟩
theorem d_D_count_12 : Dc prog_1_method_56_code 12 (.aload_n 0) 1 13 := ⟨by decide +kernel, rfl⟩
theorem d_D_count_13 : Dc prog_1_method_56_code 13 (.getfield 83) 3 16 := ⟨by decide +kernel, rfl⟩
theorem d_D_count_16 : Dc prog_1_method_56_code 16 (.iload_n 1) 1 17 := ⟨by decide +kernel, rfl⟩
theorem d_D_count_17 : Dc prog_1_method_56_code 17 (.bipush 8) 2 19 := ⟨by decide +kernel, rfl⟩
theorem d_D_count_19 : Dc prog_1_method_56_code 19 (.isub) 1 20 := ⟨by decide +kernel, rfl⟩
theorem d_D_count_20 : Dc prog_1_method_56_code 20 (.iaload) 1 21 := ⟨by decide +kernel, rfl⟩
theorem d_D_count_21 : Dc prog_1_method_56_code 21 (.ireturn) 1 22 := ⟨by decide +kernel, rfl⟩
theorem d_D_count_22 : Dc prog_1_method_56_code 22 (.iload_n 1) 1 23 := ⟨by decide +kernel, rfl⟩
theorem d_D_count_23 : Dc prog_1_method_56_code 23 (.bipush 14) 2 25 := ⟨by decide +kernel, rfl⟩
theorem d_D_count_25 : Dj prog_1_method_56_code 25 (.if_icmp .lt 22) 28 22 47 := ⟨by decide +kernel, rfl, rfl⟩
theorem d_D_count_28 : Dc prog_1_method_56_code 28 (.iload_n 1) 1 29 := ⟨by decide +kernel, rfl⟩
theorem d_D_count_29 : Dc prog_1_method_56_code 29 (.bipush 16) 2 31 := ⟨by decide +kernel, rfl⟩
theorem d_D_count_31 : Dj prog_1_method_56_code 31 (.if_icmp .gt 16) 34 16 47 := ⟨by decide +kernel, rfl, rfl⟩
theorem d_D_count_34 : Dc prog_1_method_56_code 34 (.aload_n 0) 1 35 := ⟨by decide +kernel, rfl⟩
theorem d_D_count_35 : Dc prog_1_method_56_code 35 (.getfield 10) 3 38 := ⟨by decide +kernel, rfl⟩
theorem d_D_count_38 : Dc prog_1_method_56_code 38 (.getfield 165) 3 41 := ⟨by decide +kernel, rfl⟩
theorem d_D_count_41 : Dc prog_1_method_56_code 41 (.iload_n 1) 1 42 := ⟨by decide +kernel, rfl⟩
theorem d_D_count_42 : Dc prog_1_method_56_code 42 (.bipush 14) 2 44 := ⟨by decide +kernel, rfl⟩
theorem d_D_count_44 : Dc prog_1_method_56_code 44 (.isub) 1 45 := ⟨by decide +kernel, rfl⟩
theorem d_D_count_45 : Dc prog_1_method_56_code 45 (.iaload) 1 46 := ⟨by decide +kernel, rfl⟩
theorem d_D_count_46 : Dc prog_1_method_56_code 46 (.ireturn) 1 47 := ⟨by decide +kernel, rfl⟩
theorem d_D_count_47 : Dc prog_1_method_56_code 47 (.iload_n 1) 1 48 := ⟨by decide +kernel, rfl⟩
theorem d_D_count_48 : Dc prog_1_method_56_code 48 (.tableswitch 147 0 13 #[72, 80, 88, 96, 104, 112, 120, 128, 147, 147, 147, 147, 147, 139]) 72 120 := ⟨by decide +kernel, rfl⟩
theorem d_D_count_120 : Dc prog_1_method_56_code 120 (.aload_n 0) 1 121 := ⟨by decide +kernel, rfl⟩
theorem d_D_count_121 : Dc prog_1_method_56_code 121 (.getfield 10) 3 124 := ⟨by decide +kernel, rfl⟩
theorem d_D_count_124 : Dc prog_1_method_56_code 124 (.getfield 98) 3 127 := ⟨by decide +kernel, rfl⟩
theorem d_D_count_127 : Dc prog_1_method_56_code 127 (.ireturn) 1 128 := ⟨by decide +kernel, rfl⟩
theorem d_D_count_128 : Dc prog_1_method_56_code 128 (.aload_n 0) 1 129 := ⟨by decide +kernel, rfl⟩
theorem d_D_count_129 : Dc prog_1_method_56_code 129 (.getfield 10) 3 132 := ⟨by decide +kernel, rfl⟩
theorem d_D_count_132 : Dc prog_1_method_56_code 132 (.getfield 107) 3 135 := ⟨by decide +kernel, rfl⟩
theorem d_D_count_135 : Dc prog_1_method_56_code 135 (.ireturn) 1 136 := ⟨by decide +kernel, rfl⟩
theorem d_D_count_136 : Dc prog_1_method_56_code 136 (.aload_n 0) 1 137 := ⟨by decide +kernel, rfl⟩
theorem d_D_count_137 : Dc prog_1_method_56_code 137 (.getfield 10) 3 140 := ⟨by decide +kernel, rfl⟩
theorem d_D_count_140 : Dc prog_1_method_56_code 140 (.getfield 156) 3 143 := ⟨by decide +kernel, rfl⟩
theorem d_D_count_143 : Dc prog_1_method_56_code 143 (.ireturn) 1 144 := ⟨by decide +kernel, rfl⟩
theorem d_D_count_144 : Dc prog_1_method_56_code 144 (.aload_n 0) 1 145 := ⟨by decide +kernel, rfl⟩
theorem d_D_count_145 : Dc prog_1_method_56_code 145 (.getfield 10) 3 148 := ⟨by decide +kernel, rfl⟩
theorem d_D_count_148 : Dc prog_1_method_56_code 148 (.invokevirtual 395) 3 151 := ⟨by decide +kernel, rfl⟩
theorem d_D_count_151 : Dc prog_1_method_56_code 151 (.ireturn) 1 152 := ⟨by decide +kernel, rfl⟩
theorem d_D_count_152 : Dc prog_1_method_56_code 152 (.aload_n 0) 1 153 := ⟨by decide +kernel, rfl⟩
theorem d_D_count_153 : Dc prog_1_method_56_code 153 (.getfield 10) 3 156 := ⟨by decide +kernel, rfl⟩
theorem d_D_count_156 : Dc prog_1_method_56_code 156 (.getfield 341) 3 159 := ⟨by decide +kernel, rfl⟩
theorem d_D_count_159 : Dc prog_1_method_56_code 159 (.ireturn) 1 160 := ⟨by decide +kernel, rfl⟩
theorem d_D_count_160 : Dc prog_1_method_56_code 160 (.aload_n 0) 1 161 := ⟨by decide +kernel, rfl⟩
theorem d_D_count_161 : Dc prog_1_method_56_code 161 (.getfield 10) 3 164 := ⟨by decide +kernel, rfl⟩
theorem d_D_count_164 : Dc prog_1_method_56_code 164 (.getfield 195) 3 167 := ⟨by decide +kernel, rfl⟩
theorem d_D_count_167 : Dc prog_1_method_56_code 167 (.ireturn) 1 168 := ⟨by decide +kernel, rfl⟩
theorem d_D_count_168 : Dc prog_1_method_56_code 168 (.aload_n 0) 1 169 := ⟨by decide +kernel, rfl⟩
theorem d_D_count_169 : Dc prog_1_method_56_code 169 (.getfield 26) 3 172 := ⟨by decide +kernel, rfl⟩
theorem d_D_count_172 : Dc prog_1_method_56_code 172 (.getfield 398) 3 175 := ⟨by decide +kernel, rfl⟩
theorem d_D_count_175 : Dc prog_1_method_56_code 175 (.ireturn) 1 176 := ⟨by decide +kernel, rfl⟩
theorem d_D_count_176 : Dc prog_1_method_56_code 176 (.aload_n 0) 1 177 := ⟨by decide +kernel, rfl⟩
theorem d_D_count_177 : Dc prog_1_method_56_code 177 (.getfield 33) 3 180 := ⟨by decide +kernel, rfl⟩
theorem d_D_count_180 : Dc prog_1_method_56_code 180 (.getfield 168) 3 183 := ⟨by decide +kernel, rfl⟩
theorem d_D_count_183 : Dc prog_1_method_56_code 183 (.getfield 172) 3 186 := ⟨by decide +kernel, rfl⟩
theorem d_D_count_186 : Dc prog_1_method_56_code 186 (.ireturn) 1 187 := ⟨by decide +kernel, rfl⟩
theorem d_D_count_187 : Dc prog_1_method_56_code 187 (.aload_n 0) 1 188 := ⟨by decide +kernel, rfl⟩
theorem d_D_count_188 : Dc prog_1_method_56_code 188 (.getfield 10) 3 191 := ⟨by decide +kernel, rfl⟩
theorem d_D_count_191 : Dc prog_1_method_56_code 191 (.getfield 235) 3 194 := ⟨by decide +kernel, rfl⟩
theorem d_D_count_194 : Dc prog_1_method_56_code 194 (.ireturn) 1 195 := ⟨by decide +kernel, rfl⟩
theorem d_D_count_195 : Dc prog_1_method_56_code 195 (.iconst (-1)) 1 196 := ⟨by decide +kernel, rfl⟩
theorem d_D_count_196 : Dc prog_1_method_56_code 196 (.ireturn) 1 197 := ⟨by decide +kernel, rfl⟩
theorem d_D_drawn_0 : Dc prog_1_method_53_code 0 (.aload_n 0) 1 1 := ⟨by decide +kernel, rfl⟩
theorem d_D_drawn_1 : Dc prog_1_method_53_code 1 (.getfield 20) 3 4 := ⟨by decide +kernel, rfl⟩
theorem d_D_drawn_4 : Dc prog_1_method_53_code 4 (.iload_n 1) 1 5 := ⟨by decide +kernel, rfl⟩
theorem d_D_drawn_5 : Dc prog_1_method_53_code 5 (.invokevirtual 113) 3 8 := ⟨by decide +kernel, rfl⟩
theorem d_D_drawn_8 : Dj prog_1_method_53_code 8 (.ifCond .ne 5) 11 5 13 := ⟨by decide +kernel, rfl, rfl⟩
theorem d_D_drawn_11 : Dc prog_1_method_53_code 11 (.iconst (-1)) 1 12 := ⟨by decide +kernel, rfl⟩
theorem d_D_drawn_12 : Dc prog_1_method_53_code 12 (.ireturn) 1 13 := ⟨by decide +kernel, rfl⟩
theorem d_D_drawn_13 : Dc prog_1_method_53_code 13 (.iload_n 2) 1 14 := ⟨by decide +kernel, rfl⟩
theorem d_D_drawn_14 : Dc prog_1_method_53_code 14 (.lookupswitch 46 #[(0, 26), (1, 36)]) 26 40 := ⟨by decide +kernel, rfl⟩
theorem d_D_drawn_40 : Dc prog_1_method_53_code 40 (.aload_n 0) 1 41 := ⟨by decide +kernel, rfl⟩
theorem d_D_drawn_41 : Dc prog_1_method_53_code 41 (.getfield 20) 3 44 := ⟨by decide +kernel, rfl⟩
theorem d_D_drawn_44 : Dc prog_1_method_53_code 44 (.getfield 117) 3 47 := ⟨by decide +kernel, rfl⟩
theorem d_D_drawn_47 : Dc prog_1_method_53_code 47 (.iload_n 1) 1 48 := ⟨by decide +kernel, rfl⟩
theorem d_D_drawn_48 : Dc prog_1_method_53_code 48 (.iaload) 1 49 := ⟨by decide +kernel, rfl⟩
theorem d_D_drawn_49 : Dc prog_1_method_53_code 49 (.ireturn) 1 50 := ⟨by decide +kernel, rfl⟩
theorem d_D_drawn_50 : Dc prog_1_method_53_code 50 (.aload_n 0) 1 51 := ⟨by decide +kernel, rfl⟩
theorem d_D_drawn_51 : Dc prog_1_method_53_code 51 (.getfield 20) 3 54 := ⟨by decide +kernel, rfl⟩
theorem d_D_drawn_54 : Dc prog_1_method_53_code 54 (.getfield 123) 3 57 := ⟨by decide +kernel, rfl⟩
theorem d_D_drawn_57 : Dc prog_1_method_53_code 57 (.iload_n 1) 1 58 := ⟨by decide +kernel, rfl⟩
theorem d_D_drawn_58 : Dc prog_1_method_53_code 58 (.iaload) 1 59 := ⟨by decide +kernel, rfl⟩
theorem d_D_drawn_59 : Dc prog_1_method_53_code 59 (.ireturn) 1 60 := ⟨by decide +kernel, rfl⟩
theorem d_D_drawn_60 : Dc prog_1_method_53_code 60 (.iconst (-1)) 1 61 := ⟨by decide +kernel, rfl⟩
theorem d_D_drawn_61 : Dc prog_1_method_53_code 61 (.ireturn) 1 62 := ⟨by decide +kernel, rfl⟩
theorem d_D_image_0 : Dc prog_1_method_54_code 0 (.iload_n 1) 1 1 := ⟨by decide +kernel, rfl⟩
theorem d_D_image_1 : Dj prog_1_method_54_code 1 (.ifCond .lt 8) 4 8 9 := ⟨by decide +kernel, rfl, rfl⟩
theorem d_D_image_4 : Dc prog_1_method_54_code 4 (.iload_n 1) 1 5 := ⟨by decide +kernel, rfl⟩
theorem d_D_image_5 : Dc prog_1_method_54_code 5 (.iconst 2) 1 6 := ⟨by decide +kernel, rfl⟩
theorem d_D_image_6 : Dj prog_1_method_54_code 6 (.if_icmp .lt 9) 9 9 15 := ⟨by decide +kernel, rfl, rfl⟩
theorem d_D_image_9 : Dc prog_1_method_54_code 9 (.aload_n 0) 1 10 := ⟨by decide +kernel, rfl⟩
theorem d_D_image_10 : Dc prog_1_method_54_code 10 (.iconst (-1)) 1 11 := ⟨by decide +kernel, rfl⟩
theorem d_D_image_11 : Dc prog_1_method_54_code 11 (.invokevirtual 91) 3 14 := ⟨by decide +kernel, rfl⟩
theorem d_D_image_14 : Dc prog_1_method_54_code 14 (.ireturn) 1 15 := ⟨by decide +kernel, rfl⟩
theorem d_D_image_15 : Dc prog_1_method_54_code 15 (.aload_n 0) 1 16 := ⟨by decide +kernel, rfl⟩
theorem d_D_image_16 : Dc prog_1_method_54_code 16 (.getfield 16) 3 19 := ⟨by decide +kernel, rfl⟩
theorem d_D_image_19 : Dc prog_1_method_54_code 19 (.iload_n 1) 1 20 := ⟨by decide +kernel, rfl⟩
theorem d_D_image_20 : Dc prog_1_method_54_code 20 (.aaload) 1 21 := ⟨by decide +kernel, rfl⟩
theorem d_D_image_21 : Dc prog_1_method_54_code 21 (.aload_n 0) 1 22 := ⟨by decide +kernel, rfl⟩
theorem d_D_image_22 : Dc prog_1_method_54_code 22 (.getfield 10) 3 25 := ⟨by decide +kernel, rfl⟩
theorem d_D_image_25 : Dc prog_1_method_54_code 25 (.invokevirtual 370) 3 28 := ⟨by decide +kernel, rfl⟩
theorem d_D_image_28 : Dc prog_1_method_54_code 28 (.aload_n 0) 1 29 := ⟨by decide +kernel, rfl⟩
theorem d_D_image_29 : Dc prog_1_method_54_code 29 (.getfield 16) 3 32 := ⟨by decide +kernel, rfl⟩
theorem d_D_image_32 : Dc prog_1_method_54_code 32 (.iload_n 1) 1 33 := ⟨by decide +kernel, rfl⟩
theorem d_D_image_33 : Dc prog_1_method_54_code 33 (.aaload) 1 34 := ⟨by decide +kernel, rfl⟩
theorem d_D_image_34 : Dc prog_1_method_54_code 34 (.iconst 1) 1 35 := ⟨by decide +kernel, rfl⟩
theorem d_D_image_35 : Dc prog_1_method_54_code 35 (.putfield 391) 3 38 := ⟨by decide +kernel, rfl⟩
theorem d_D_image_38 : Dc prog_1_method_54_code 38 (.aload_n 0) 1 39 := ⟨by decide +kernel, rfl⟩
theorem d_D_image_39 : Dc prog_1_method_54_code 39 (.iconst 0) 1 40 := ⟨by decide +kernel, rfl⟩
theorem d_D_image_40 : Dc prog_1_method_54_code 40 (.invokevirtual 95) 3 43 := ⟨by decide +kernel, rfl⟩
theorem d_D_image_43 : Dc prog_1_method_54_code 43 (.ireturn) 1 44 := ⟨by decide +kernel, rfl⟩
theorem fl_D_16 : FL "SubgraphDesk" 16 0 1 true (.array (.object "SubgraphDesk$Board")) (3, 10) := ⟨R_D, F_D, 15, ty_D, rfl, rfl, in_D, tyok_D, nm_D, by decide, gd 555 (by decide +kernel) rfl, rfl, rfl, rfl⟩
theorem fl_D_20 : FL "SubgraphDesk" 20 0 2 true (.object "SubgraphDesk$Board") (3, 11) := ⟨R_D, F_D, 15, ty_D, rfl, rfl, in_D, tyok_D, nm_D, by decide, gd 556 (by decide +kernel) rfl, rfl, rfl, rfl⟩
theorem fl_D_195 : FL "SubgraphDesk" 195 2 11 false .int (0, 0) := ⟨R_Bo, F_Bo, 15, ty_Bo, rfl, rfl, in_Bo, tyok_Bo, nm_Bo, by decide, gd 227 (by decide +kernel) rfl, rfl, rfl, rfl⟩
theorem fl_D_391 : FL "SubgraphDesk" 391 2 14 false .boolean (1, 0) := ⟨R_Bo, F_Bo, 15, ty_Bo, rfl, rfl, in_Bo, tyok_Bo, nm_Bo, by decide, gd 231 (by decide +kernel) rfl, rfl, rfl, rfl⟩
theorem fl_D_398 : FL "SubgraphDesk" 398 1 0 false .int (0, 0) := ⟨R_Ac, F_Ac, 5, ty_Ac, rfl, rfl, in_Ac, tyok_Ac, nm_Ac, by decide, gd 272 (by decide +kernel) rfl, rfl, rfl, rfl⟩
theorem ml_D_370 : Cond.methodLink "SubgraphDesk" 370 m_Bo_copyFrom.1 ∈ lw_gd := gd 1411 (by decide +kernel) rfl
theorem ml_D_395 : Cond.methodLink "SubgraphDesk" 395 m_Bo_countLinks.1 ∈ lw_gd := gd 1440 (by decide +kernel) rfl
/-! ===== images, days, few ===== -/
theorem IsBo.ne {b : Nat} (h : IsBo b) : b + 8 ≠ 28 ∧ b + 8 ≠ 10 ∧ b + 8 < 128 ∧ b ≤ 80 := by
  rcases h with rfl | rfl | rfl | rfl | rfl <;> decide
theorem TxtOK.cp {w : Mem} {b b2 c : Nat} (h : TxtOK w c) (h2 : TxtOK w b2) : TxtOK (CpB w b b2) c := by
  by_cases e : c = b
  · subst e
    exact h2.fr2 rfl (fun i hi => CpB_txt w c b2 hi)
  · exact h.fr2 rfl (fun i _ => by rw [CpB_r _ _ _ (by omega)])
theorem BLaws.cpo {w : Mem} {b b2 c : Nat} {ls : List LawT} (h : BLaws w c ls) (hl : ls.length ≤ 6) (hb : IsBo b) (e : c ≠ b) : BLaws (CpB w b b2) c ls := h.fr2 hl (fun a ha => CpB_o _ _ _ (by have := hb.ne.2.2.2; omega)) (fun a ha => CpB_r _ _ _ (by have := hb.ne.2.2.1; omega)) rfl (fun i _ => by rw [CpB_r _ _ _ (by omega)])
theorem BLaws.cp {w : Mem} {b b2 : Nat} {ls : List LawT} (h : BLaws w b2 ls) (hl : ls.length ≤ 6) (hb : IsBo b) : BLaws (CpB w b b2) b ls := h.fr2 hl (fun a ha => CpB_o _ _ _ (by have := hb.ne.2.2.2; omega)) (fun a ha => CpB_r _ _ _ (by have := hb.ne.2.2.1; omega)) rfl (fun i hi => CpB_txt _ _ _ hi)
theorem DFx.cp {w : Mem} {b b2 : Nat} (h : DFx w) (hb : IsBo b) (h2 : TxtOK w b2) : DFx (CpB w b b2) := by
  obtain ⟨h1, h2', h3, h4, h5, h6, h7, h8⟩ := h
  obtain ⟨n1, n2, -, -⟩ := hb.ne
  refine ⟨?_, by rw [CpB_r _ _ _ n2.symm]; exact h2', by rw [CpB_r _ _ _ n2.symm]; exact h3, h4.cp h2, h5.cp h2, h6.cp h2, h7.cp h2, h8.cp h2⟩
  unfold Dra
  rw [CpB_r _ _ _ n1.symm]
  exact h1
theorem BRow.kept {w : Mem} {b : Nat} {g : GC} {x : Int32} (h : BRow w b g) : BRow (sI w b 14 x) b g := by
  unfold BRow
  rw [rI_sI, rI_sI_ne _ _ _ (show b + 1 ≠ b by omega), rI_sI_ne _ _ _ (show b + 2 ≠ b by omega), rI_sI_ne _ _ _ (show b + 3 ≠ b by omega), rI_sI_ne _ _ _ (show b + 4 ≠ b by omega), rI_sI_ne _ _ _ (show b + 5 ≠ b by omega), rI_sI_ne _ _ _ (show b + 6 ≠ b by omega), rI_sI_ne _ _ _ (show b + 7 ≠ b by omega)]
  exact h
theorem opImageD_no {k : Int32} {s : SG} (h : ¬ inN k 2) : opImage k s = sNo 1 s := by unfold opImage; exact if_neg h
theorem opImageD_ok {k : Int32} {s : SG} (h : inN k 2) : opImage k s = sOk (nI 0) (wIm s (fun j => if j = tn k then some (sG s) else sIm s j)) := by unfold opImage; exact if_pos h
theorem opBackD_1 {k : Int32} {s : SG} (h : ¬ inN k 2) : opBack k s = sNo 1 s := by unfold opBack; exact if_pos h
theorem opBackD_2 {k : Int32} {s : SG} (h : inN k 2) (h2 : sIm s (tn k) = none) : opBack k s = sNo 2 s := by
  unfold opBack
  refine (if_neg (not_not_intro h)).trans ?_
  rw [h2]
theorem opBackD_ok {k : Int32} {s : SG} {g : GC} (h : inN k 2) (h2 : sIm s (tn k) = some g) : opBack k s = sOk (nI 0) (wU (wG s g) []) := by
  unfold opBack
  refine (if_neg (not_not_intro h)).trans ?_
  rw [h2]
/-- an image is taken -/
theorem DInv.img {w w2 : Mem} {s : SG} {k : Nat} (h : DInv w s) (hk : k < 2) (f : DkR (sI (CpB w (71 + 9 * k) 1) (71 + 9 * k) 14 (nI 1)) w2) (hF : DRf w2 (sRf s) (nI 0)) : DInv w2 (wSt (wIm s (fun j => if j = k then some (sG s) else sIm s j)) (nI 0)) ∧ DkD w w2 := by
  obtain ⟨b, hb⟩ : ∃ b, 71 + 9 * k = b := ⟨_, rfl⟩
  have hB : IsBo b := hb ▸ isBoI hk
  rw [hb] at f
  have hb2 : b = 71 ∨ b = 80 := by omega
  obtain ⟨h1, h2, h3, h4, h5, ⟨h6, h6b, h6c⟩, h7, h8⟩ := h
  have ho : ∀ a, (a < b ∨ b + 7 < a) → a ≠ 0 → a ≠ 70 → rI w2 a = rI w a := fun a ha a0 a7 => by
    rw [f.1 a a0 a7, rI_sI_ne _ _ _ (by omega)]
    exact CpB_o _ _ _ ha
  have hrr : ∀ a, rR w2 a = rR (CpB w b 1) a := fun a => by unfold rR; rw [f.2.2]; rfl
  have hel : w2.2.2.2 = w.2.2.2 := by rw [f.2.2]; rfl
  have hll := h1.2.1.ll
  have hL0 : ∀ c ls, c ≠ b → ls.length ≤ 6 → BLaws w c ls → BLaws w2 c ls := fun c ls hc hl hL => hL.fr2 hl (fun a ha => ho a (by omega) (by omega) (by omega)) (fun a ha => by rw [hrr, CpB_r _ _ _ (by omega)]) hel (fun i _ => by rw [hrr, CpB_r _ _ _ (by omega)])
  have hfx : DFx w2 := by
    have := h8.cp hB h8.2.2.2.1
    obtain ⟨e1, e2, e3, e4, e5, e6, e7, e8⟩ := this
    refine ⟨?_, by rw [hrr]; exact e2, by rw [hrr]; exact e3, e4.fr2 hel (fun i _ => by rw [hrr]), e5.fr2 hel (fun i _ => by rw [hrr]), e6.fr2 hel (fun i _ => by rw [hrr]), e7.fr2 hel (fun i _ => by rw [hrr]), e8.fr2 hel (fun i _ => by rw [hrr])⟩
    unfold Dra
    rw [hrr]
    exact e1
  refine ⟨⟨h1.fr (fun a ha => ho a (by omega) (by omega) (by omega)), hL0 1 _ (by omega) hll h2, h3.fr (by rw [ho 26 (by omega) (by decide) (by decide)]) (ho 27 (by omega) (by decide) (by decide)), fun j hj => ?_, hF, ⟨by rw [f.2.1 14 (by decide), rI_sI_ne _ _ _ (by omega), CpB_o _ _ _ (by omega)]; exact h6, by rw [ho 25 (by omega) (by decide) (by decide)]; exact h6b, by rw [ho 53 (by omega) (by decide) (by decide)]; exact h6c⟩, h7.fr (fun a h1 h2 => ho a (by omega) (by omega) (by omega)), hfx⟩, ⟨fun a a1 a2 => ho a (by omega) (by omega) (by omega), fun a _ _ => by unfold rJ; rw [f.2.2]; rfl⟩⟩
  show rI w2 (71 + 9 * j) 14 = b2i ((if j = k then some (sG s) else sIm s j).isSome = true) ∧ ∀ g, (if j = k then some (sG s) else sIm s j) = some g → _
  by_cases e : j = k
  · rw [if_pos e, e, hb]
    refine ⟨by rw [f.1 b (by omega) (by omega), rI_sI, upd_eq, if_pos rfl]; rfl, fun g hg => ?_⟩
    obtain rfl := Option.some.inj hg
    refine ⟨((h1.1.copy h1.2.1 (b := b)).kept).fr (fun a a1 a2 => f.1 a (by omega) (by omega)), h1.2.1, ?_⟩
    exact (h2.cp hll hB).fr2 hll (fun a ha => by rw [f.1 a (by omega) (by omega), rI_sI_ne _ _ _ (by omega)]) (fun a _ => hrr a) (by rw [f.2.2]; rfl) (fun i _ => by rw [hrr])
  · rw [if_neg e]
    obtain ⟨g1, g2⟩ := h4 j hj
    refine ⟨by rw [ho _ (by omega) (by omega) (by omega)]; exact g1, fun g hg => ?_⟩
    obtain ⟨k1, k2, k3⟩ := g2 g hg
    exact ⟨k1.fr (fun a a1 a2 => ho a (by omega) (by omega) (by omega)), k2, hL0 _ _ (by omega) k2.ll k3⟩
/-- an image is gone back to -/
theorem DInv.bck {w w2 : Mem} {s : SG} {g : GC} {k : Nat} (h : DInv w s) (hk : k < 2) (hg : sIm s k = some g) (f : DkR (sI (CpB w 1 (71 + 9 * k)) 20 0 (nI 0)) w2) (hF : DRf w2 (sRf s) (nI 0)) : DInv w2 (wSt (wU (wG s g) []) (nI 0)) ∧ DkD w w2 := by
  obtain ⟨b, hb⟩ : ∃ b, 71 + 9 * k = b := ⟨_, rfl⟩
  obtain ⟨h1, h2, h3, h4, h5, ⟨h6, h6b, h6c⟩, h7, h8⟩ := h
  obtain ⟨k1, k2, k3⟩ := (h4 k hk).2 g hg
  rw [hb] at f k1 k3
  have hb2 : b = 71 ∨ b = 80 := by omega
  have hT : TxtOK w b := by
    rcases hb2 with rfl | rfl
    · exact h8.2.2.2.2.2.2.1
    · exact h8.2.2.2.2.2.2.2
  have ho : ∀ a, 8 < a → a ≠ 20 → a ≠ 70 → rI w2 a = rI w a := fun a ha a0 a7 => by
    rw [f.1 a (by omega) a7, rI_sI_ne _ _ _ a0]
    exact CpB_o _ _ _ (by omega)
  have hrr : ∀ a, rR w2 a = rR (CpB w 1 b) a := fun a => by unfold rR; rw [f.2.2]; rfl
  have hel : w2.2.2.2 = w.2.2.2 := by rw [f.2.2]; rfl
  have hfx : DFx w2 := by
    have := h8.cp isBo1 hT
    obtain ⟨e1, e2, e3, e4, e5, e6, e7, e8⟩ := this
    refine ⟨?_, by rw [hrr]; exact e2, by rw [hrr]; exact e3, e4.fr2 hel (fun i _ => by rw [hrr]), e5.fr2 hel (fun i _ => by rw [hrr]), e6.fr2 hel (fun i _ => by rw [hrr]), e7.fr2 hel (fun i _ => by rw [hrr]), e8.fr2 hel (fun i _ => by rw [hrr])⟩
    unfold Dra
    rw [hrr]
    exact e1
  refine ⟨⟨⟨(k1.copy k2 (b := 1)).fr (fun a a1 a2 => by rw [f.1 a (by omega) (by omega), rI_sI_ne _ _ _ (by omega)]), k2, ActP.nil (by rw [f.1 20 (by decide) (by decide), rI_sI, upd_eq, if_pos rfl])⟩, ?_, h3.fr (by rw [ho 26 (by decide) (by decide) (by decide)]) (ho 27 (by decide) (by decide) (by decide)), fun j hj => ?_, hF, ⟨by rw [f.2.1 14 (by decide), rI_sI_ne _ _ _ (by decide), CpB_o _ _ _ (by omega)]; exact h6, by rw [ho 25 (by decide) (by decide) (by decide)]; exact h6b, by rw [ho 53 (by decide) (by decide) (by decide)]; exact h6c⟩, h7.fr (fun a h1 h2 => ho a (by omega) (by omega) (by omega)), hfx⟩, ⟨fun a a1 a2 => ho a (by omega) (by omega) (by omega), fun a _ _ => by unfold rJ; rw [f.2.2]; rfl⟩⟩
  · exact (k3.cp k2.ll isBo1).fr2 k2.ll (fun a ha => by rw [f.1 a (by omega) (by omega), rI_sI_ne _ _ _ (by omega)]) (fun a _ => hrr a) (by rw [f.2.2]; rfl) (fun i _ => by rw [hrr])
  · obtain ⟨g1, g2⟩ := h4 j hj
    refine ⟨by rw [ho _ (by omega) (by omega) (by omega)]; exact g1, fun g hg => ?_⟩
    obtain ⟨e1, e2, e3⟩ := g2 g hg
    exact ⟨e1.fr (fun a a1 a2 => ho a (by omega) (by omega) (by omega)), e2, e3.fr2 e2.ll (fun a ha => ho a (by omega) (by omega) (by omega)) (fun a ha => by rw [hrr, CpB_r _ _ _ (by omega)]) hel (fun i _ => by rw [hrr, CpB_r _ _ _ (by omega)])⟩
theorem c_D_image {E : EV} {w : Mem} {k : Int32} {s : SG} (h : DInv w s) : T E m_D_image 2 0 0 [.ref 0, .int k] w (fun r w2 => r = some (.int (opImage k s).1) ∧ DInv w2 (opImage k s).2 ∧ DkD w w2) := by
  refine T_of (L := [.ref 0, .int k]) cf_D_image rfl (Nat.le_of_ble_eq_true rfl) (fun X hX hF => ?_)
  obtain ⟨⟨hR, hW, hA⟩, hL, hT, hI, hRF, ⟨hsm, hfa, hsp⟩, hdr, hfx⟩ := id h
  have hn := hW.n
  have hv := hW.v
  have he := hW.el
  have hll := hW.ll
  have hsl := hW.sl
  refine g_iload1 hX d_D_image_0 ?_
  refine g_if_lt hX d_D_image_1 (fun e1 => ?_) (fun e1 => ?_)
  · refine g_aload0 hX d_D_image_9 ?_
    refine g_iconst (v := -1) hX d_D_image_10 rfl ?_
    refine g_callV (As := [_]) hX hF.1 d_D_image_11 ml_D_91 cf_D_refuse cv_D_refuse rfl rfl (c_D_refuse1 hRF) (rcv_obj hX (lv_0 _) rfl rfl) (by omega) (by omega) (by omega) (Nat.le_of_ble_eq_true rfl) ?_
    rintro _ w2 ⟨rfl, hF2, hf2⟩
    show G0 _ _ _ _ _ _ _ _
    refine g_iret hX hF d_D_image_14 (by omega) (by omega) ?_
    rw [opImageD_no (fun q => by first | exact absurd e1 ((in6 (by decide)).mp q).1 | exact absurd ((in6 (by decide)).mp q).2 e6)]
    exact ⟨rfl, h.no hf2 hF2, hf2.N.D⟩
  · refine g_iload1 hX d_D_image_4 ?_
    refine g_iconst (v := nI 2) hX d_D_image_5 rfl ?_
    refine g_icmp_lt hX d_D_image_6 (fun e6 => ?_) (fun e6 => ?_)
    · have d0 : inN k 2 := (in6 (by decide)).mpr ⟨e1, e6⟩
      obtain ⟨m, hm, rfl, -⟩ := inN_of d0 (by decide)
      rcases (show m = 0 ∨ m = 1 by omega) with rfl | rfl
      · refine g_aload0 hX d_D_image_15 ?_
        refine g_getF hX d_D_image_16 fl_D_16 (lv_0 _) ?_
        refine g_iload1 hX d_D_image_19 ?_
        refine g_aaldB hX d_D_image_20 (lv_10 _) rfl (by decide) hfx.2.1 ?_
        refine g_aload0 hX d_D_image_21 ?_
        refine g_getF hX d_D_image_22 fl_D_10 (lv_0 _) ?_
        refine g_callV (As := [_]) hX hF.1 d_D_image_25 ml_D_370 cf_Bo_copyFrom cv_Bo_copyFrom rfl rfl (c_Bo_copyFrom isBo71 isBo1 (by decide) hfx.2.2.2.1) (rcv_obj hX (lv_71 _) rfl rfl) (by omega) (by omega) (by omega) (Nat.le_of_ble_eq_true rfl) ?_
        refine ret_k ?_
        refine g_aload0 hX d_D_image_28 ?_
        refine g_getF hX d_D_image_29 fl_D_16 (lv_0 _) ?_
        refine g_iload1 hX d_D_image_32 ?_
        refine g_aaldB hX d_D_image_33 (lv_10 _) rfl (by decide) (show rR (CpB w 71 1) 10 0 = some 71 by rw [CpB_r _ _ _ (by decide)]; exact hfx.2.1) ?_
        refine g_iconst (v := nI 1) hX d_D_image_34 rfl ?_
        refine g_putZ hX d_D_image_35 fl_D_391 (lv_71 _) (by first | exact Or.inl rfl | exact Or.inr rfl) ?_
        refine g_aload0 hX d_D_image_38 ?_
        refine g_iconst (v := nI 0) hX d_D_image_39 rfl ?_
        have hF1 : DRf (sI (CpB w 71 1) 71 14 (nI 1)) (sRf s) (sSt s) := hRF.fr (by rw [rI_sI_ne _ _ _ (by decide)]; exact CpB_o _ _ _ (by decide)) (by rw [rI_sI_ne _ _ _ (by decide), CpB_o _ _ _ (by decide)])
        refine g_callV (As := [_]) hX hF.1 d_D_image_40 ml_D_95 cf_D_grant cv_D_grant rfl rfl (c_D_grant (y := nI 0) hF1) (rcv_obj hX (lv_0 _) rfl rfl) (by omega) (by omega) (by omega) (Nat.le_of_ble_eq_true rfl) ?_
        rintro _ w2 ⟨rfl, hF2, hf2⟩
        show G0 _ _ _ _ _ _ _ _
        refine g_iret hX hF d_D_image_43 (by omega) (by omega) ?_
        rw [opImageD_ok (k := nI 0) (by decide)]
        obtain ⟨hA1, hA2⟩ := h.img (k := 0) (by decide) hf2 hF2
        exact ⟨rfl, hA1, hA2⟩
      · refine g_aload0 hX d_D_image_15 ?_
        refine g_getF hX d_D_image_16 fl_D_16 (lv_0 _) ?_
        refine g_iload1 hX d_D_image_19 ?_
        refine g_aaldB hX d_D_image_20 (lv_10 _) rfl (by decide) hfx.2.2.1 ?_
        refine g_aload0 hX d_D_image_21 ?_
        refine g_getF hX d_D_image_22 fl_D_10 (lv_0 _) ?_
        refine g_callV (As := [_]) hX hF.1 d_D_image_25 ml_D_370 cf_Bo_copyFrom cv_Bo_copyFrom rfl rfl (c_Bo_copyFrom isBo80 isBo1 (by decide) hfx.2.2.2.1) (rcv_obj hX (lv_80 _) rfl rfl) (by omega) (by omega) (by omega) (Nat.le_of_ble_eq_true rfl) ?_
        refine ret_k ?_
        refine g_aload0 hX d_D_image_28 ?_
        refine g_getF hX d_D_image_29 fl_D_16 (lv_0 _) ?_
        refine g_iload1 hX d_D_image_32 ?_
        refine g_aaldB hX d_D_image_33 (lv_10 _) rfl (by decide) (show rR (CpB w 80 1) 10 1 = some 80 by rw [CpB_r _ _ _ (by decide)]; exact hfx.2.2.1) ?_
        refine g_iconst (v := nI 1) hX d_D_image_34 rfl ?_
        refine g_putZ hX d_D_image_35 fl_D_391 (lv_80 _) (by first | exact Or.inl rfl | exact Or.inr rfl) ?_
        refine g_aload0 hX d_D_image_38 ?_
        refine g_iconst (v := nI 0) hX d_D_image_39 rfl ?_
        have hF1 : DRf (sI (CpB w 80 1) 80 14 (nI 1)) (sRf s) (sSt s) := hRF.fr (by rw [rI_sI_ne _ _ _ (by decide)]; exact CpB_o _ _ _ (by decide)) (by rw [rI_sI_ne _ _ _ (by decide), CpB_o _ _ _ (by decide)])
        refine g_callV (As := [_]) hX hF.1 d_D_image_40 ml_D_95 cf_D_grant cv_D_grant rfl rfl (c_D_grant (y := nI 0) hF1) (rcv_obj hX (lv_0 _) rfl rfl) (by omega) (by omega) (by omega) (Nat.le_of_ble_eq_true rfl) ?_
        rintro _ w2 ⟨rfl, hF2, hf2⟩
        show G0 _ _ _ _ _ _ _ _
        refine g_iret hX hF d_D_image_43 (by omega) (by omega) ?_
        rw [opImageD_ok (k := nI 1) (by decide)]
        obtain ⟨hA1, hA2⟩ := h.img (k := 1) (by decide) hf2 hF2
        exact ⟨rfl, hA1, hA2⟩
    · refine g_aload0 hX d_D_image_9 ?_
      refine g_iconst (v := -1) hX d_D_image_10 rfl ?_
      refine g_callV (As := [_]) hX hF.1 d_D_image_11 ml_D_91 cf_D_refuse cv_D_refuse rfl rfl (c_D_refuse1 hRF) (rcv_obj hX (lv_0 _) rfl rfl) (by omega) (by omega) (by omega) (Nat.le_of_ble_eq_true rfl) ?_
      rintro _ w2 ⟨rfl, hF2, hf2⟩
      show G0 _ _ _ _ _ _ _ _
      refine g_iret hX hF d_D_image_14 (by omega) (by omega) ?_
      rw [opImageD_no (fun q => by first | exact absurd e1 ((in6 (by decide)).mp q).1 | exact absurd ((in6 (by decide)).mp q).2 e6)]
      exact ⟨rfl, h.no hf2 hF2, hf2.N.D⟩
theorem c_D_back {E : EV} {w : Mem} {k : Int32} {s : SG} (h : DInv w s) : T E m_D_back 2 0 0 [.ref 0, .int k] w (fun r w2 => r = some (.int (opBack k s).1) ∧ DInv w2 (opBack k s).2 ∧ DkD w w2) := by
  refine T_of (L := [.ref 0, .int k]) cf_D_back rfl (Nat.le_of_ble_eq_true rfl) (fun X hX hF => ?_)
  obtain ⟨⟨hR, hW, hA⟩, hL, hT, hI, hRF, ⟨hsm, hfa, hsp⟩, hdr, hfx⟩ := id h
  have hn := hW.n
  have hv := hW.v
  have he := hW.el
  have hll := hW.ll
  have hsl := hW.sl
  refine g_iload1 hX d_D_back_0 ?_
  refine g_if_lt hX d_D_back_1 (fun e1 => ?_) (fun e1 => ?_)
  · refine g_aload0 hX d_D_back_9 ?_
    refine g_iconst (v := -1) hX d_D_back_10 rfl ?_
    refine g_callV (As := [_]) hX hF.1 d_D_back_11 ml_D_91 cf_D_refuse cv_D_refuse rfl rfl (c_D_refuse1 hRF) (rcv_obj hX (lv_0 _) rfl rfl) (by omega) (by omega) (by omega) (Nat.le_of_ble_eq_true rfl) ?_
    rintro _ w2 ⟨rfl, hF2, hf2⟩
    show G0 _ _ _ _ _ _ _ _
    refine g_iret hX hF d_D_back_14 (by omega) (by omega) ?_
    rw [opBackD_1 (fun q => by first | exact absurd e1 ((in6 (by decide)).mp q).1 | exact absurd ((in6 (by decide)).mp q).2 e6)]
    exact ⟨rfl, h.no hf2 hF2, hf2.N.D⟩
  · refine g_iload1 hX d_D_back_4 ?_
    refine g_iconst (v := nI 2) hX d_D_back_5 rfl ?_
    refine g_icmp_lt hX d_D_back_6 (fun e6 => ?_) (fun e6 => ?_)
    · have d0 : inN k 2 := (in6 (by decide)).mpr ⟨e1, e6⟩
      obtain ⟨m, hm, rfl, -⟩ := inN_of d0 (by decide)
      rcases (show m = 0 ∨ m = 1 by omega) with rfl | rfl
      · rcases him : sIm s 0 with _ | gi
        · refine g_aload0 hX d_D_back_15 ?_
          refine g_getF hX d_D_back_16 fl_D_16 (lv_0 _) ?_
          refine g_iload1 hX d_D_back_19 ?_
          refine g_aaldB hX d_D_back_20 (lv_10 _) rfl (by decide) hfx.2.1 ?_
          refine g_getZ hX d_D_back_21 fl_D_391 (lv_71 _) ?_
          refine g_topi (show rI w 71 14 = _ from (hI 0 (by decide)).1) ?_
          refine g_ifB_ne hX d_D_back_24 (fun h => absurd h (by rw [him]; decide)) (fun c0 => ?_)
          refine g_aload0 hX d_D_back_27 ?_
          refine g_bipush (v := -2) hX d_D_back_28 rfl ?_
          refine g_callV (As := [_]) hX hF.1 d_D_back_30 ml_D_91 cf_D_refuse cv_D_refuse rfl rfl (c_D_refuse2 hRF) (rcv_obj hX (lv_0 _) rfl rfl) (by omega) (by omega) (by omega) (Nat.le_of_ble_eq_true rfl) ?_
          rintro _ w2 ⟨rfl, hF2, hf2⟩
          show G0 _ _ _ _ _ _ _ _
          refine g_iret hX hF d_D_back_33 (by omega) (by omega) ?_
          rw [opBackD_2 (k := nI 0) (by decide) him]
          exact ⟨rfl, h.no hf2 hF2, hf2.N.D⟩
        · refine g_aload0 hX d_D_back_15 ?_
          refine g_getF hX d_D_back_16 fl_D_16 (lv_0 _) ?_
          refine g_iload1 hX d_D_back_19 ?_
          refine g_aaldB hX d_D_back_20 (lv_10 _) rfl (by decide) hfx.2.1 ?_
          refine g_getZ hX d_D_back_21 fl_D_391 (lv_71 _) ?_
          refine g_topi (show rI w 71 14 = _ from (hI 0 (by decide)).1) ?_
          refine g_ifB_ne hX d_D_back_24 (fun c0 => ?_) (fun h => absurd (by rw [him]; rfl) h)
          refine g_aload0 hX d_D_back_34 ?_
          refine g_getF hX d_D_back_35 fl_D_10 (lv_0 _) ?_
          refine g_aload0 hX d_D_back_38 ?_
          refine g_getF hX d_D_back_39 fl_D_16 (lv_0 _) ?_
          refine g_iload1 hX d_D_back_42 ?_
          refine g_aaldB hX d_D_back_43 (lv_10 _) rfl (by decide) hfx.2.1 ?_
          refine g_callV (As := [_]) hX hF.1 d_D_back_44 ml_D_370 cf_Bo_copyFrom cv_Bo_copyFrom rfl rfl (c_Bo_copyFrom isBo1 isBo71 (by decide) hfx.2.2.2.2.2.2.1) (rcv_obj hX (lv_1 _) rfl rfl) (by omega) (by omega) (by omega) (Nat.le_of_ble_eq_true rfl) ?_
          refine ret_k ?_
          refine g_aload0 hX d_D_back_47 ?_
          refine g_getF hX d_D_back_48 fl_D_26 (lv_0 _) ?_
          refine g_callV (As := []) hX hF.1 d_D_back_51 ml_D_101 cf_Ac_clearAll cv_Ac_clearAll rfl rfl (c_Ac_clearAll (Or.inl rfl)) (rcv_obj hX (lv_20 _) rfl rfl) (by omega) (by omega) (by omega) (Nat.le_of_ble_eq_true rfl) ?_
          refine ret_k ?_
          refine g_aload0 hX d_D_back_54 ?_
          refine g_iconst (v := nI 0) hX d_D_back_55 rfl ?_
          have hF1 : DRf (sI (CpB w 1 71) 20 0 (nI 0)) (sRf s) (sSt s) := hRF.fr (by rw [rI_sI_ne _ _ _ (by decide)]; exact CpB_o _ _ _ (by decide)) (by rw [rI_sI_ne _ _ _ (by decide), CpB_o _ _ _ (by decide)])
          refine g_callV (As := [_]) hX hF.1 d_D_back_56 ml_D_95 cf_D_grant cv_D_grant rfl rfl (c_D_grant (y := nI 0) hF1) (rcv_obj hX (lv_0 _) rfl rfl) (by omega) (by omega) (by omega) (Nat.le_of_ble_eq_true rfl) ?_
          rintro _ w2 ⟨rfl, hF2, hf2⟩
          show G0 _ _ _ _ _ _ _ _
          refine g_iret hX hF d_D_back_59 (by omega) (by omega) ?_
          rw [opBackD_ok (k := nI 0) (by decide) him]
          obtain ⟨hA1, hA2⟩ := h.bck (k := 0) (by decide) him hf2 hF2
          exact ⟨rfl, hA1, hA2⟩
      · rcases him : sIm s 1 with _ | gi
        · refine g_aload0 hX d_D_back_15 ?_
          refine g_getF hX d_D_back_16 fl_D_16 (lv_0 _) ?_
          refine g_iload1 hX d_D_back_19 ?_
          refine g_aaldB hX d_D_back_20 (lv_10 _) rfl (by decide) hfx.2.2.1 ?_
          refine g_getZ hX d_D_back_21 fl_D_391 (lv_80 _) ?_
          refine g_topi (show rI w 80 14 = _ from (hI 1 (by decide)).1) ?_
          refine g_ifB_ne hX d_D_back_24 (fun h => absurd h (by rw [him]; decide)) (fun c0 => ?_)
          refine g_aload0 hX d_D_back_27 ?_
          refine g_bipush (v := -2) hX d_D_back_28 rfl ?_
          refine g_callV (As := [_]) hX hF.1 d_D_back_30 ml_D_91 cf_D_refuse cv_D_refuse rfl rfl (c_D_refuse2 hRF) (rcv_obj hX (lv_0 _) rfl rfl) (by omega) (by omega) (by omega) (Nat.le_of_ble_eq_true rfl) ?_
          rintro _ w2 ⟨rfl, hF2, hf2⟩
          show G0 _ _ _ _ _ _ _ _
          refine g_iret hX hF d_D_back_33 (by omega) (by omega) ?_
          rw [opBackD_2 (k := nI 1) (by decide) him]
          exact ⟨rfl, h.no hf2 hF2, hf2.N.D⟩
        · refine g_aload0 hX d_D_back_15 ?_
          refine g_getF hX d_D_back_16 fl_D_16 (lv_0 _) ?_
          refine g_iload1 hX d_D_back_19 ?_
          refine g_aaldB hX d_D_back_20 (lv_10 _) rfl (by decide) hfx.2.2.1 ?_
          refine g_getZ hX d_D_back_21 fl_D_391 (lv_80 _) ?_
          refine g_topi (show rI w 80 14 = _ from (hI 1 (by decide)).1) ?_
          refine g_ifB_ne hX d_D_back_24 (fun c0 => ?_) (fun h => absurd (by rw [him]; rfl) h)
          refine g_aload0 hX d_D_back_34 ?_
          refine g_getF hX d_D_back_35 fl_D_10 (lv_0 _) ?_
          refine g_aload0 hX d_D_back_38 ?_
          refine g_getF hX d_D_back_39 fl_D_16 (lv_0 _) ?_
          refine g_iload1 hX d_D_back_42 ?_
          refine g_aaldB hX d_D_back_43 (lv_10 _) rfl (by decide) hfx.2.2.1 ?_
          refine g_callV (As := [_]) hX hF.1 d_D_back_44 ml_D_370 cf_Bo_copyFrom cv_Bo_copyFrom rfl rfl (c_Bo_copyFrom isBo1 isBo80 (by decide) hfx.2.2.2.2.2.2.2) (rcv_obj hX (lv_1 _) rfl rfl) (by omega) (by omega) (by omega) (Nat.le_of_ble_eq_true rfl) ?_
          refine ret_k ?_
          refine g_aload0 hX d_D_back_47 ?_
          refine g_getF hX d_D_back_48 fl_D_26 (lv_0 _) ?_
          refine g_callV (As := []) hX hF.1 d_D_back_51 ml_D_101 cf_Ac_clearAll cv_Ac_clearAll rfl rfl (c_Ac_clearAll (Or.inl rfl)) (rcv_obj hX (lv_20 _) rfl rfl) (by omega) (by omega) (by omega) (Nat.le_of_ble_eq_true rfl) ?_
          refine ret_k ?_
          refine g_aload0 hX d_D_back_54 ?_
          refine g_iconst (v := nI 0) hX d_D_back_55 rfl ?_
          have hF1 : DRf (sI (CpB w 1 80) 20 0 (nI 0)) (sRf s) (sSt s) := hRF.fr (by rw [rI_sI_ne _ _ _ (by decide)]; exact CpB_o _ _ _ (by decide)) (by rw [rI_sI_ne _ _ _ (by decide), CpB_o _ _ _ (by decide)])
          refine g_callV (As := [_]) hX hF.1 d_D_back_56 ml_D_95 cf_D_grant cv_D_grant rfl rfl (c_D_grant (y := nI 0) hF1) (rcv_obj hX (lv_0 _) rfl rfl) (by omega) (by omega) (by omega) (Nat.le_of_ble_eq_true rfl) ?_
          rintro _ w2 ⟨rfl, hF2, hf2⟩
          show G0 _ _ _ _ _ _ _ _
          refine g_iret hX hF d_D_back_59 (by omega) (by omega) ?_
          rw [opBackD_ok (k := nI 1) (by decide) him]
          obtain ⟨hA1, hA2⟩ := h.bck (k := 1) (by decide) him hf2 hF2
          exact ⟨rfl, hA1, hA2⟩
    · refine g_aload0 hX d_D_back_9 ?_
      refine g_iconst (v := -1) hX d_D_back_10 rfl ?_
      refine g_callV (As := [_]) hX hF.1 d_D_back_11 ml_D_91 cf_D_refuse cv_D_refuse rfl rfl (c_D_refuse1 hRF) (rcv_obj hX (lv_0 _) rfl rfl) (by omega) (by omega) (by omega) (Nat.le_of_ble_eq_true rfl) ?_
      rintro _ w2 ⟨rfl, hF2, hf2⟩
      show G0 _ _ _ _ _ _ _ _
      refine g_iret hX hF d_D_back_14 (by omega) (by omega) ?_
      rw [opBackD_1 (fun q => by first | exact absurd e1 ((in6 (by decide)).mp q).1 | exact absurd ((in6 (by decide)).mp q).2 e6)]
      exact ⟨rfl, h.no hf2 hF2, hf2.N.D⟩
theorem nI_btw {x : Int32} {a b : Nat} (hb : b < 2 ^ 31) (h1 : ¬ x < nI a) (h2 : ¬ nI b < x) (ha : a < 2 ^ 31) : ∃ m, a ≤ m ∧ m ≤ b ∧ x = nI m := by
  have h3 := Int32.not_lt.mp h1
  have h4 := Int32.not_lt.mp h2
  rw [Int32.le_iff_toInt_le, nI_toInt ha] at h3
  rw [Int32.le_iff_toInt_le, nI_toInt hb] at h4
  refine ⟨x.toInt.toNat, by omega, by omega, ?_⟩
  apply Int32.toInt_inj.mp
  rw [nI_toInt (by omega)]
  omega
theorem c_D_count {E : EV} {w : Mem} {what : Int32} {s : SG} (h : DInv w s) : T E m_D_count 3 0 0 [.ref 0, .int what] w (fun r w2 => r = some (.int (opCount what s)) ∧ DInv w2 s ∧ DkD w w2) := by
  refine T_of (L := [.ref 0, .int what]) cf_D_count rfl (Nat.le_of_ble_eq_true rfl) (fun X hX hF => ?_)
  obtain ⟨⟨hR, hW, hA⟩, hL, hT, hI, hRF, ⟨hsm, hfa, hsp⟩, hdr, hfx⟩ := id h
  have hn := hW.n
  have hv := hW.v
  have he := hW.el
  have hll := hW.ll
  have hsl := hW.sl
  have htl := hT.1
  have hul := hA.1
  have k47 : (∀ m, 8 ≤ m → m < 13 → ¬ what = nI m) → (∀ m, 14 ≤ m → m < 17 → ¬ what = nI m) → G0 E X 0 0 47 [.ref 0, .int what] [] w := by
    intro hn8 hn14
    refine g_iload1 hX d_D_count_47 ?_
    by_cases c0_0 : what = 0
    · refine g_tableIn (off := 72) (tgt := 120) hX d_D_count_48 (by rw [c0_0]; decide) (by rw [c0_0]; decide) (by rw [c0_0]; rfl) rfl ?_
      refine g_aload0 hX d_D_count_120 ?_
      refine g_getF hX d_D_count_121 fl_D_10 (lv_0 _) ?_
      refine g_getI hX d_D_count_124 fl_D_98 (lv_1 _) ?_
      refine g_topi hR.n ?_
      refine g_iret hX hF d_D_count_127 (by omega) (by omega) ?_
      unfold opCount
      rw [if_pos c0_0]
      exact ⟨rfl, h, DkD.rf w⟩
    by_cases c0_1 : what = 1
    · refine g_tableIn (off := 80) (tgt := 128) hX d_D_count_48 (by rw [c0_1]; decide) (by rw [c0_1]; decide) (by rw [c0_1]; rfl) rfl ?_
      refine g_aload0 hX d_D_count_128 ?_
      refine g_getF hX d_D_count_129 fl_D_10 (lv_0 _) ?_
      refine g_getI hX d_D_count_132 fl_D_107 (lv_1 _) ?_
      refine g_topi hR.v ?_
      refine g_iret hX hF d_D_count_135 (by omega) (by omega) ?_
      unfold opCount
      rw [if_neg (fun z => absurd (c0_1.symm.trans z) (by decide)), if_pos c0_1]
      exact ⟨rfl, h, DkD.rf w⟩
    by_cases c0_2 : what = 2
    · refine g_tableIn (off := 88) (tgt := 136) hX d_D_count_48 (by rw [c0_2]; decide) (by rw [c0_2]; decide) (by rw [c0_2]; rfl) rfl ?_
      refine g_aload0 hX d_D_count_136 ?_
      refine g_getF hX d_D_count_137 fl_D_10 (lv_0 _) ?_
      refine g_getI hX d_D_count_140 fl_D_156 (lv_1 _) ?_
      refine g_topi hR.el ?_
      refine g_iret hX hF d_D_count_143 (by omega) (by omega) ?_
      unfold opCount
      rw [if_neg (fun z => absurd (c0_2.symm.trans z) (by decide)), if_neg (fun z => absurd (c0_2.symm.trans z) (by decide)), if_pos c0_2]
      exact ⟨rfl, h, DkD.rf w⟩
    by_cases c0_3 : what = 3
    · refine g_tableIn (off := 96) (tgt := 144) hX d_D_count_48 (by rw [c0_3]; decide) (by rw [c0_3]; decide) (by rw [c0_3]; rfl) rfl ?_
      refine g_aload0 hX d_D_count_144 ?_
      refine g_getF hX d_D_count_145 fl_D_10 (lv_0 _) ?_
      refine g_callV (As := []) hX hF.1 d_D_count_148 ml_D_395 cf_Bo_countLinks cv_Bo_countLinks rfl rfl (c_Bo_countLinks isBo1 hR hW) (rcv_obj hX (lv_1 _) rfl rfl) (by omega) (by omega) (by omega) (Nat.le_of_ble_eq_true rfl) ?_
      refine ret_k ?_
      refine g_iret hX hF d_D_count_151 (by omega) (by omega) ?_
      unfold opCount
      rw [if_neg (fun z => absurd (c0_3.symm.trans z) (by decide)), if_neg (fun z => absurd (c0_3.symm.trans z) (by decide)), if_neg (fun z => absurd (c0_3.symm.trans z) (by decide)), if_pos c0_3]
      exact ⟨rfl, h, DkD.rf w⟩
    by_cases c0_4 : what = 4
    · refine g_tableIn (off := 104) (tgt := 152) hX d_D_count_48 (by rw [c0_4]; decide) (by rw [c0_4]; decide) (by rw [c0_4]; rfl) rfl ?_
      refine g_aload0 hX d_D_count_152 ?_
      refine g_getF hX d_D_count_153 fl_D_10 (lv_0 _) ?_
      refine g_getI hX d_D_count_156 fl_D_341 (lv_1 _) ?_
      refine g_topi hR.sl ?_
      refine g_iret hX hF d_D_count_159 (by omega) (by omega) ?_
      unfold opCount
      rw [if_neg (fun z => absurd (c0_4.symm.trans z) (by decide)), if_neg (fun z => absurd (c0_4.symm.trans z) (by decide)), if_neg (fun z => absurd (c0_4.symm.trans z) (by decide)), if_neg (fun z => absurd (c0_4.symm.trans z) (by decide)), if_pos c0_4]
      exact ⟨rfl, h, DkD.rf w⟩
    by_cases c0_5 : what = 5
    · refine g_tableIn (off := 112) (tgt := 160) hX d_D_count_48 (by rw [c0_5]; decide) (by rw [c0_5]; decide) (by rw [c0_5]; rfl) rfl ?_
      refine g_aload0 hX d_D_count_160 ?_
      refine g_getF hX d_D_count_161 fl_D_10 (lv_0 _) ?_
      refine g_getI hX d_D_count_164 fl_D_195 (lv_1 _) ?_
      refine g_topi hR.ll ?_
      refine g_iret hX hF d_D_count_167 (by omega) (by omega) ?_
      unfold opCount
      rw [if_neg (fun z => absurd (c0_5.symm.trans z) (by decide)), if_neg (fun z => absurd (c0_5.symm.trans z) (by decide)), if_neg (fun z => absurd (c0_5.symm.trans z) (by decide)), if_neg (fun z => absurd (c0_5.symm.trans z) (by decide)), if_neg (fun z => absurd (c0_5.symm.trans z) (by decide)), if_pos c0_5]
      exact ⟨rfl, h, DkD.rf w⟩
    by_cases c0_6 : what = 6
    · refine g_tableIn (off := 120) (tgt := 168) hX d_D_count_48 (by rw [c0_6]; decide) (by rw [c0_6]; decide) (by rw [c0_6]; rfl) rfl ?_
      refine g_aload0 hX d_D_count_168 ?_
      refine g_getF hX d_D_count_169 fl_D_26 (lv_0 _) ?_
      refine g_getI hX d_D_count_172 fl_D_398 (lv_20 _) ?_
      refine g_topi hA.2.1 ?_
      refine g_iret hX hF d_D_count_175 (by omega) (by omega) ?_
      unfold opCount
      rw [if_neg (fun z => absurd (c0_6.symm.trans z) (by decide)), if_neg (fun z => absurd (c0_6.symm.trans z) (by decide)), if_neg (fun z => absurd (c0_6.symm.trans z) (by decide)), if_neg (fun z => absurd (c0_6.symm.trans z) (by decide)), if_neg (fun z => absurd (c0_6.symm.trans z) (by decide)), if_neg (fun z => absurd (c0_6.symm.trans z) (by decide)), if_pos c0_6]
      exact ⟨rfl, h, DkD.rf w⟩
    by_cases c0_7 : what = 7
    · refine g_tableIn (off := 128) (tgt := 176) hX d_D_count_48 (by rw [c0_7]; decide) (by rw [c0_7]; decide) (by rw [c0_7]; rfl) rfl ?_
      refine g_aload0 hX d_D_count_176 ?_
      refine g_getF hX d_D_count_177 fl_D_33 (lv_0 _) ?_
      refine g_getF hX d_D_count_180 fl_D_168 (lv_25 _) ?_
      refine g_getI hX d_D_count_183 fl_D_172 (lv_26 _) ?_
      refine g_topi hT.2.1 ?_
      refine g_iret hX hF d_D_count_186 (by omega) (by omega) ?_
      unfold opCount
      rw [if_neg (fun z => absurd (c0_7.symm.trans z) (by decide)), if_neg (fun z => absurd (c0_7.symm.trans z) (by decide)), if_neg (fun z => absurd (c0_7.symm.trans z) (by decide)), if_neg (fun z => absurd (c0_7.symm.trans z) (by decide)), if_neg (fun z => absurd (c0_7.symm.trans z) (by decide)), if_neg (fun z => absurd (c0_7.symm.trans z) (by decide)), if_neg (fun z => absurd (c0_7.symm.trans z) (by decide)), if_pos c0_7]
      exact ⟨rfl, h, DkD.rf w⟩
    by_cases c0_8 : what = 8
    · refine g_tableIn (off := 147) (tgt := 195) hX d_D_count_48 (by rw [c0_8]; decide) (by rw [c0_8]; decide) (by rw [c0_8]; rfl) rfl ?_
      refine g_iconst (v := -1) hX d_D_count_195 rfl ?_
      refine g_iret hX hF d_D_count_196 (by omega) (by omega) ?_
      first
      | exact absurd c0_8 (hn8 8 (by decide) (by decide))
      | exact absurd c0_9 (hn8 9 (by decide) (by decide))
      | exact absurd c0_10 (hn8 10 (by decide) (by decide))
      | exact absurd c0_11 (hn8 11 (by decide) (by decide))
      | exact absurd c0_12 (hn8 12 (by decide) (by decide))
      | (unfold opCount
         rw [if_neg c0_0, if_neg c0_1, if_neg c0_2, if_neg c0_3, if_neg c0_4, if_neg c0_5, if_neg c0_6, if_neg c0_7, if_neg c0_8, if_neg c0_9, if_neg c0_10, if_neg c0_11, if_neg c0_12, if_neg c0_13, if_neg (show ¬ what = 14 from hn14 14 (by decide) (by decide)), if_neg (show ¬ what = 15 from hn14 15 (by decide) (by decide)), if_neg (show ¬ what = 16 from hn14 16 (by decide) (by decide))]
         exact ⟨rfl, h, DkD.rf w⟩)
    by_cases c0_9 : what = 9
    · refine g_tableIn (off := 147) (tgt := 195) hX d_D_count_48 (by rw [c0_9]; decide) (by rw [c0_9]; decide) (by rw [c0_9]; rfl) rfl ?_
      refine g_iconst (v := -1) hX d_D_count_195 rfl ?_
      refine g_iret hX hF d_D_count_196 (by omega) (by omega) ?_
      first
      | exact absurd c0_8 (hn8 8 (by decide) (by decide))
      | exact absurd c0_9 (hn8 9 (by decide) (by decide))
      | exact absurd c0_10 (hn8 10 (by decide) (by decide))
      | exact absurd c0_11 (hn8 11 (by decide) (by decide))
      | exact absurd c0_12 (hn8 12 (by decide) (by decide))
      | (unfold opCount
         rw [if_neg c0_0, if_neg c0_1, if_neg c0_2, if_neg c0_3, if_neg c0_4, if_neg c0_5, if_neg c0_6, if_neg c0_7, if_neg c0_8, if_neg c0_9, if_neg c0_10, if_neg c0_11, if_neg c0_12, if_neg c0_13, if_neg (show ¬ what = 14 from hn14 14 (by decide) (by decide)), if_neg (show ¬ what = 15 from hn14 15 (by decide) (by decide)), if_neg (show ¬ what = 16 from hn14 16 (by decide) (by decide))]
         exact ⟨rfl, h, DkD.rf w⟩)
    by_cases c0_10 : what = 10
    · refine g_tableIn (off := 147) (tgt := 195) hX d_D_count_48 (by rw [c0_10]; decide) (by rw [c0_10]; decide) (by rw [c0_10]; rfl) rfl ?_
      refine g_iconst (v := -1) hX d_D_count_195 rfl ?_
      refine g_iret hX hF d_D_count_196 (by omega) (by omega) ?_
      first
      | exact absurd c0_8 (hn8 8 (by decide) (by decide))
      | exact absurd c0_9 (hn8 9 (by decide) (by decide))
      | exact absurd c0_10 (hn8 10 (by decide) (by decide))
      | exact absurd c0_11 (hn8 11 (by decide) (by decide))
      | exact absurd c0_12 (hn8 12 (by decide) (by decide))
      | (unfold opCount
         rw [if_neg c0_0, if_neg c0_1, if_neg c0_2, if_neg c0_3, if_neg c0_4, if_neg c0_5, if_neg c0_6, if_neg c0_7, if_neg c0_8, if_neg c0_9, if_neg c0_10, if_neg c0_11, if_neg c0_12, if_neg c0_13, if_neg (show ¬ what = 14 from hn14 14 (by decide) (by decide)), if_neg (show ¬ what = 15 from hn14 15 (by decide) (by decide)), if_neg (show ¬ what = 16 from hn14 16 (by decide) (by decide))]
         exact ⟨rfl, h, DkD.rf w⟩)
    by_cases c0_11 : what = 11
    · refine g_tableIn (off := 147) (tgt := 195) hX d_D_count_48 (by rw [c0_11]; decide) (by rw [c0_11]; decide) (by rw [c0_11]; rfl) rfl ?_
      refine g_iconst (v := -1) hX d_D_count_195 rfl ?_
      refine g_iret hX hF d_D_count_196 (by omega) (by omega) ?_
      first
      | exact absurd c0_8 (hn8 8 (by decide) (by decide))
      | exact absurd c0_9 (hn8 9 (by decide) (by decide))
      | exact absurd c0_10 (hn8 10 (by decide) (by decide))
      | exact absurd c0_11 (hn8 11 (by decide) (by decide))
      | exact absurd c0_12 (hn8 12 (by decide) (by decide))
      | (unfold opCount
         rw [if_neg c0_0, if_neg c0_1, if_neg c0_2, if_neg c0_3, if_neg c0_4, if_neg c0_5, if_neg c0_6, if_neg c0_7, if_neg c0_8, if_neg c0_9, if_neg c0_10, if_neg c0_11, if_neg c0_12, if_neg c0_13, if_neg (show ¬ what = 14 from hn14 14 (by decide) (by decide)), if_neg (show ¬ what = 15 from hn14 15 (by decide) (by decide)), if_neg (show ¬ what = 16 from hn14 16 (by decide) (by decide))]
         exact ⟨rfl, h, DkD.rf w⟩)
    by_cases c0_12 : what = 12
    · refine g_tableIn (off := 147) (tgt := 195) hX d_D_count_48 (by rw [c0_12]; decide) (by rw [c0_12]; decide) (by rw [c0_12]; rfl) rfl ?_
      refine g_iconst (v := -1) hX d_D_count_195 rfl ?_
      refine g_iret hX hF d_D_count_196 (by omega) (by omega) ?_
      first
      | exact absurd c0_8 (hn8 8 (by decide) (by decide))
      | exact absurd c0_9 (hn8 9 (by decide) (by decide))
      | exact absurd c0_10 (hn8 10 (by decide) (by decide))
      | exact absurd c0_11 (hn8 11 (by decide) (by decide))
      | exact absurd c0_12 (hn8 12 (by decide) (by decide))
      | (unfold opCount
         rw [if_neg c0_0, if_neg c0_1, if_neg c0_2, if_neg c0_3, if_neg c0_4, if_neg c0_5, if_neg c0_6, if_neg c0_7, if_neg c0_8, if_neg c0_9, if_neg c0_10, if_neg c0_11, if_neg c0_12, if_neg c0_13, if_neg (show ¬ what = 14 from hn14 14 (by decide) (by decide)), if_neg (show ¬ what = 15 from hn14 15 (by decide) (by decide)), if_neg (show ¬ what = 16 from hn14 16 (by decide) (by decide))]
         exact ⟨rfl, h, DkD.rf w⟩)
    by_cases c0_13 : what = 13
    · refine g_tableIn (off := 139) (tgt := 187) hX d_D_count_48 (by rw [c0_13]; decide) (by rw [c0_13]; decide) (by rw [c0_13]; rfl) rfl ?_
      refine g_aload0 hX d_D_count_187 ?_
      refine g_getF hX d_D_count_188 fl_D_10 (lv_0 _) ?_
      refine g_getI hX d_D_count_191 fl_D_235 (lv_1 _) ?_
      refine g_topi hR.fo ?_
      refine g_iret hX hF d_D_count_194 (by omega) (by omega) ?_
      unfold opCount
      rw [if_neg (fun z => absurd (c0_13.symm.trans z) (by decide)), if_neg (fun z => absurd (c0_13.symm.trans z) (by decide)), if_neg (fun z => absurd (c0_13.symm.trans z) (by decide)), if_neg (fun z => absurd (c0_13.symm.trans z) (by decide)), if_neg (fun z => absurd (c0_13.symm.trans z) (by decide)), if_neg (fun z => absurd (c0_13.symm.trans z) (by decide)), if_neg (fun z => absurd (c0_13.symm.trans z) (by decide)), if_neg (fun z => absurd (c0_13.symm.trans z) (by decide)), if_neg (fun z => absurd (c0_13.symm.trans z) (by decide)), if_neg (fun z => absurd (c0_13.symm.trans z) (by decide)), if_neg (fun z => absurd (c0_13.symm.trans z) (by decide)), if_neg (fun z => absurd (c0_13.symm.trans z) (by decide)), if_neg (fun z => absurd (c0_13.symm.trans z) (by decide)), if_pos c0_13]
      exact ⟨rfl, h, DkD.rf w⟩
    refine g_tableOut (tgt := 195) hX d_D_count_48 (sw_outR (lo := 0) (hi := 13) (by decide) (by intro k hk1 hk2; rcases (show k = 0 ∨ k = 1 ∨ k = 2 ∨ k = 3 ∨ k = 4 ∨ k = 5 ∨ k = 6 ∨ k = 7 ∨ k = 8 ∨ k = 9 ∨ k = 10 ∨ k = 11 ∨ k = 12 ∨ k = 13 by omega) with rfl | rfl | rfl | rfl | rfl | rfl | rfl | rfl | rfl | rfl | rfl | rfl | rfl | rfl <;> first | exact c0_0 | exact c0_1 | exact c0_2 | exact c0_3 | exact c0_4 | exact c0_5 | exact c0_6 | exact c0_7 | exact c0_8 | exact c0_9 | exact c0_10 | exact c0_11 | exact c0_12 | exact c0_13)) rfl ?_
    refine g_iconst (v := -1) hX d_D_count_195 rfl ?_
    refine g_iret hX hF d_D_count_196 (by omega) (by omega) ?_
    first
    | exact absurd c0_8 (hn8 8 (by decide) (by decide))
    | exact absurd c0_9 (hn8 9 (by decide) (by decide))
    | exact absurd c0_10 (hn8 10 (by decide) (by decide))
    | exact absurd c0_11 (hn8 11 (by decide) (by decide))
    | exact absurd c0_12 (hn8 12 (by decide) (by decide))
    | (unfold opCount
       rw [if_neg c0_0, if_neg c0_1, if_neg c0_2, if_neg c0_3, if_neg c0_4, if_neg c0_5, if_neg c0_6, if_neg c0_7, if_neg c0_8, if_neg c0_9, if_neg c0_10, if_neg c0_11, if_neg c0_12, if_neg c0_13, if_neg (show ¬ what = 14 from hn14 14 (by decide) (by decide)), if_neg (show ¬ what = 15 from hn14 15 (by decide) (by decide)), if_neg (show ¬ what = 16 from hn14 16 (by decide) (by decide))]
       exact ⟨rfl, h, DkD.rf w⟩)
  have k22 : (∀ m, 8 ≤ m → m < 13 → ¬ what = nI m) → G0 E X 0 0 22 [.ref 0, .int what] [] w := by
    intro hn8
    refine g_iload1 hX d_D_count_22 ?_
    refine g_bipush (v := nI 14) hX d_D_count_23 rfl ?_
    refine g_icmp_lt hX d_D_count_25 (fun e25 => ?_) (fun e25 => ?_)
    · exact k47 hn8 (fun m h1 h2 z => absurd e25 (Int32.not_lt.mpr (by rw [z]; exact nI_le h1 (by omega))))
    · refine g_iload1 hX d_D_count_28 ?_
      refine g_bipush (v := nI 16) hX d_D_count_29 rfl ?_
      refine g_icmp_gt hX d_D_count_31 (fun e31 => ?_) (fun e31 => ?_)
      · exact k47 hn8 (fun m h1 h2 z => absurd e31 (Int32.not_lt.mpr (by rw [z]; exact nI_le (show m ≤ 16 by omega) (by decide))))
      · obtain ⟨m, hm1, hm2, rfl⟩ : ∃ m, 14 ≤ m ∧ m ≤ 16 ∧ what = nI m := nI_btw (by decide) e25 (Int32.not_lt.mpr (Int32.not_lt.mp e31)) (by decide)
        refine g_aload0 hX d_D_count_34 ?_
        refine g_getF hX d_D_count_35 fl_D_10 (lv_0 _) ?_
        refine g_getF hX d_D_count_38 fl_D_165 (lv_1 _) ?_
        refine g_iload1 hX d_D_count_41 ?_
        refine g_bipush (v := nI 14) hX d_D_count_42 rfl ?_
        refine g_isubN hX d_D_count_44 (by omega) ?_
        refine g_iald hX d_D_count_45 (lv_8 _) rfl (by omega) ?_
        refine g_topi (hR.t (m - 14) (by omega)) ?_
        refine g_iret hX hF d_D_count_46 (by omega) (by omega) ?_
        rcases (show m = 14 ∨ m = 15 ∨ m = 16 by omega) with rfl | rfl | rfl <;> exact ⟨rfl, h, DkD.rf w⟩
  refine g_iload1 hX d_D_count_0 ?_
  refine g_bipush (v := nI 8) hX d_D_count_1 rfl ?_
  refine g_icmp_lt hX d_D_count_3 (fun e3 => ?_) (fun e3 => ?_)
  · exact k22 (fun m h1 h2 z => absurd e3 (Int32.not_lt.mpr (by rw [z]; exact nI_le h1 (by omega))))
  · refine g_iload1 hX d_D_count_6 ?_
    refine g_bipush (v := nI 12) hX d_D_count_7 rfl ?_
    refine g_icmp_gt hX d_D_count_9 (fun e9 => ?_) (fun e9 => ?_)
    · exact k22 (fun m h1 h2 z => absurd e9 (Int32.not_lt.mpr (by rw [z]; exact nI_le (show m ≤ 12 by omega) (by decide))))
    · obtain ⟨m, hm1, hm2, rfl⟩ : ∃ m, 8 ≤ m ∧ m ≤ 12 ∧ what = nI m := nI_btw (by decide) e3 e9 (by decide)
      refine g_aload0 hX d_D_count_12 ?_
      refine g_getF hX d_D_count_13 fl_D_83 (lv_0 _) ?_
      refine g_iload1 hX d_D_count_16 ?_
      refine g_bipush (v := nI 8) hX d_D_count_17 rfl ?_
      refine g_isubN hX d_D_count_19 (by omega) ?_
      refine g_iald hX d_D_count_20 (lv_70 _) rfl (by omega) ?_
      refine g_topi (y := sRf s (if m < 11 then m - 7 else m - 6)) (by
        rcases (show m = 8 ∨ m = 9 ∨ m = 10 ∨ m = 11 ∨ m = 12 by omega) with rfl | rfl | rfl | rfl | rfl
        · exact hRF.2.1
        · exact hRF.2.2.1
        · exact hRF.2.2.2.1
        · exact hRF.2.2.2.2.1
        · exact hRF.2.2.2.2.2) ?_
      refine g_iret hX hF d_D_count_21 (by omega) (by omega) ?_
      rcases (show m = 8 ∨ m = 9 ∨ m = 10 ∨ m = 11 ∨ m = 12 by omega) with rfl | rfl | rfl | rfl | rfl <;> exact ⟨rfl, h, DkD.rf w⟩
theorem c_Bo_hasNodeR {E : EV} {w : Mem} {x : Int32} {b N : Nat} (hb : IsBo b) (hN : rI w b 0 = nI N) : T E m_Bo_hasNode 0 0 0 [.ref b, .int x] w (Ret (some (.int (b2i (inN x N)))) w) := by
  refine T_of (L := [.ref b, .int x]) cf_Bo_hasNode rfl (Nat.le_of_ble_eq_true rfl) (fun X hX hF => ?_)
  refine g_iload1 hX d_Bo_hasNode_0 ?_
  refine g_if_lt hX d_Bo_hasNode_1 (fun e1 => ?_) (fun e1 => ?_)
  · refine g_iconst (v := nI 0) hX d_Bo_hasNode_16 rfl ?_
    refine g_zret hX hF d_Bo_hasNode_17 (Or.inl rfl) (by omega) (by omega) ?_
    first | exact ret_f (fun h => absurd e1 (Int32.not_lt.mpr h.1)) | exact ret_f (fun h => absurd h.2 (Int32.not_lt.mpr e9)) | exact ret_t ⟨Int32.not_lt.mp e1, Int32.not_le.mp e9⟩
  · refine g_iload1 hX d_Bo_hasNode_4 ?_
    refine g_aload0 hX d_Bo_hasNode_5 ?_
    refine g_getI hX d_Bo_hasNode_6 fl_Bo_43 (lvBo_0 hb _) ?_
    refine g_topi hN ?_
    refine g_icmp_ge hX d_Bo_hasNode_9 (fun e9 => ?_) (fun e9 => ?_)
    · refine g_iconst (v := nI 0) hX d_Bo_hasNode_16 rfl ?_
      refine g_zret hX hF d_Bo_hasNode_17 (Or.inl rfl) (by omega) (by omega) ?_
      first | exact ret_f (fun h => absurd e1 (Int32.not_lt.mpr h.1)) | exact ret_f (fun h => absurd h.2 (Int32.not_lt.mpr e9)) | exact ret_t ⟨Int32.not_lt.mp e1, Int32.not_le.mp e9⟩
    · refine g_iconst (v := nI 1) hX d_Bo_hasNode_12 rfl ?_
      refine g_goto hX d_Bo_hasNode_13 ?_
      refine g_zret hX hF d_Bo_hasNode_17 (Or.inr rfl) (by omega) (by omega) ?_
      first | exact ret_f (fun h => absurd e1 (Int32.not_lt.mpr h.1)) | exact ret_f (fun h => absurd h.2 (Int32.not_lt.mpr e9)) | exact ret_t ⟨Int32.not_lt.mp e1, Int32.not_le.mp e9⟩
theorem drawn_0 {x what : Int32} {s : SG} (h : sDr s = none) : opDrawn x what s = -1 := by unfold opDrawn; rw [h]
theorem drawn_s {x what : Int32} {s : SG} {q : Nat × (Nat → Nat) × (Nat → Nat)} (h : sDr s = some q) : opDrawn x what s = if inN x q.1 ∧ what = 0 then nI (q.2.1 (tn x)) else if inN x q.1 ∧ what = 1 then nI (q.2.2 (tn x)) else -1 := by unfold opDrawn; rw [h]
theorem c_D_drawn {E : EV} {w : Mem} {x what : Int32} {s : SG} (h : DInv w s) : T E m_D_drawn 1 0 0 [.ref 0, .int x, .int what] w (fun r w2 => r = some (.int (opDrawn x what s)) ∧ DInv w2 s ∧ DkD w w2) := by
  refine T_of (L := [.ref 0, .int x, .int what]) cf_D_drawn rfl (Nat.le_of_ble_eq_true rfl) (fun X hX hF => ?_)
  obtain ⟨⟨hR, hW, hA⟩, hL, hT, hI, hRF, ⟨hsm, hfa, hsp⟩, hdr, hfx⟩ := id h
  have hn := hW.n
  have hv := hW.v
  have he := hW.el
  have hll := hW.ll
  have hsl := hW.sl
  unfold DPp at hdr
  rcases hd : sDr s with _ | q
  · rw [hd] at hdr
    replace hdr : rI w 11 0 = nI 0 := hdr
    refine g_aload0 hX d_D_drawn_0 ?_
    refine g_getF hX d_D_drawn_1 fl_D_20 (lv_0 _) ?_
    refine g_iload1 hX d_D_drawn_4 ?_
    refine g_callV (As := [_]) hX hF.1 d_D_drawn_5 ml_D_113 cf_Bo_hasNode cv_Bo_hasNode rfl rfl (c_Bo_hasNodeR (N := 0) isBo11 hdr) (rcv_obj hX (lv_11 _) rfl rfl) (by omega) (by omega) (by omega) (Nat.le_of_ble_eq_true rfl) ?_
    refine ret_k ?_
    refine g_ifB_ne hX d_D_drawn_8 (fun h => absurd h (fun z => absurd z.1 (Int32.not_le.mpr z.2))) (fun c0 => ?_)
    refine g_iconst (v := -1) hX d_D_drawn_11 rfl ?_
    refine g_iret hX hF d_D_drawn_12 (by omega) (by omega) ?_
    rw [drawn_0 hd]
    exact ⟨rfl, h, DkD.rf w⟩
  · rw [hd] at hdr
    replace hdr : q.1 ≤ 12 ∧ rI w 11 0 = nI q.1 ∧ ∀ k, k < q.1 → rI w 12 k = nI (q.2.1 k) ∧ rI w 13 k = nI (q.2.2 k) := hdr
    refine g_aload0 hX d_D_drawn_0 ?_
    refine g_getF hX d_D_drawn_1 fl_D_20 (lv_0 _) ?_
    refine g_iload1 hX d_D_drawn_4 ?_
    refine g_callV (As := [_]) hX hF.1 d_D_drawn_5 ml_D_113 cf_Bo_hasNode cv_Bo_hasNode rfl rfl (c_Bo_hasNodeR isBo11 hdr.2.1) (rcv_obj hX (lv_11 _) rfl rfl) (by omega) (by omega) (by omega) (Nat.le_of_ble_eq_true rfl) ?_
    refine ret_k ?_
    refine g_ifB_ne hX d_D_drawn_8 (fun e8 => ?_) (fun e8 => ?_)
    · obtain ⟨m, hm, rfl, htm⟩ := inN_of e8 (by have := hdr.1; omega)
      have hq12 := hdr.1
      refine g_iload2 hX d_D_drawn_13 ?_
      by_cases c1_0 : what = 0
      · refine g_lookup (off := 26) (tgt := 40) hX d_D_drawn_14 (by decide) (by rw [c1_0]; rfl) rfl ?_
        refine g_aload0 hX d_D_drawn_40 ?_
        refine g_getF hX d_D_drawn_41 fl_D_20 (lv_0 _) ?_
        refine g_getF hX d_D_drawn_44 fl_D_117 (lv_11 _) ?_
        refine g_iload1 hX d_D_drawn_47 ?_
        refine g_iald hX d_D_drawn_48 (lv_12 _) rfl (by omega) ?_
        refine g_topi (hdr.2.2 m hm).1 ?_
        refine g_iret hX hF d_D_drawn_49 (by omega) (by omega) ?_
        rw [drawn_s hd, if_pos ⟨e8, c1_0⟩, htm]
        exact ⟨rfl, h, DkD.rf w⟩
      by_cases c1_1 : what = 1
      · refine g_lookup (off := 36) (tgt := 50) hX d_D_drawn_14 (by decide) (by rw [c1_1]; rfl) rfl ?_
        refine g_aload0 hX d_D_drawn_50 ?_
        refine g_getF hX d_D_drawn_51 fl_D_20 (lv_0 _) ?_
        refine g_getF hX d_D_drawn_54 fl_D_123 (lv_11 _) ?_
        refine g_iload1 hX d_D_drawn_57 ?_
        refine g_iald hX d_D_drawn_58 (lv_13 _) rfl (by omega) ?_
        refine g_topi (hdr.2.2 m hm).2 ?_
        refine g_iret hX hF d_D_drawn_59 (by omega) (by omega) ?_
        rw [drawn_s hd, if_neg (fun z => absurd (c1_1.symm.trans z.2) (by decide)), if_pos ⟨e8, c1_1⟩, htm]
        exact ⟨rfl, h, DkD.rf w⟩
      refine g_lookup (off := 46) (tgt := 60) hX d_D_drawn_14 (by decide) (by exact (lv_osw c1_0 rfl).trans ((lv_osw c1_1 rfl).trans (rfl))) rfl ?_
      refine g_iconst (v := -1) hX d_D_drawn_60 rfl ?_
      refine g_iret hX hF d_D_drawn_61 (by omega) (by omega) ?_
      rw [drawn_s hd, if_neg (fun z => c1_0 z.2), if_neg (fun z => c1_1 z.2)]
      exact ⟨rfl, h, DkD.rf w⟩
    · refine g_iconst (v := -1) hX d_D_drawn_11 rfl ?_
      refine g_iret hX hF d_D_drawn_12 (by omega) (by omega) ?_
      rw [drawn_s hd, if_neg (fun z => e8 z.1), if_neg (fun z => e8 z.1)]
      exact ⟨rfl, h, DkD.rf w⟩
