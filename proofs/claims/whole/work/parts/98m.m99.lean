def m_D_days : MR := (⟨"SubgraphDesk", "days", "(II)I"⟩, prog_1_method_50_code, 14, (some .int))
theorem cf_D_days : CF m_D_days 2 := ⟨gd 1410 (by decide +kernel) rfl, gd 139 (by decide +kernel) rfl, by decide +kernel, by decide, by decide +kernel⟩
theorem cv_D_days : CV m_D_days := ⟨gd 1408 (by decide +kernel) rfl, gd 1409 (by decide +kernel) rfl⟩
def m_D_few : MR := (⟨"SubgraphDesk", "few", "(II)J"⟩, prog_1_method_49_code, 10, (some .long))
theorem cf_D_few : CF m_D_few 2 := ⟨gd 1400 (by decide +kernel) rfl, gd 139 (by decide +kernel) rfl, by decide +kernel, by decide, by decide +kernel⟩
theorem cv_D_few : CV m_D_few := ⟨gd 1398 (by decide +kernel) rfl, gd 1399 (by decide +kernel) rfl⟩
def m_D_liveDay : MR := (⟨"SubgraphDesk", "liveDay", "(IIII)V"⟩, prog_1_method_52_code, 5, none)
theorem cf_D_liveDay : CF m_D_liveDay 4 := ⟨gd 1423 (by decide +kernel) rfl, gd 139 (by decide +kernel) rfl, by decide +kernel, by decide, by decide +kernel⟩
theorem cv_D_liveDay : CV m_D_liveDay := ⟨gd 1422 (by decide +kernel) rfl, gd 56 (by decide +kernel) rfl⟩
def m_D_nextDraw : MR := (⟨"SubgraphDesk", "nextDraw", "(J)J"⟩, prog_1_method_51_code, 2, (some .long))
theorem cf_D_nextDraw : CF m_D_nextDraw 1 := ⟨gd 1414 (by decide +kernel) rfl, gd 139 (by decide +kernel) rfl, by decide +kernel, by decide, by decide +kernel⟩
theorem cs_D_nextDraw : CS m_D_nextDraw := gd 1413 (by decide +kernel) rfl
theorem d_D_days_0 : Dc prog_1_method_50_code 0 (.iload_n 1) 1 1 := ⟨by decide +kernel, rfl⟩
theorem d_D_days_1 : Dj prog_1_method_50_code 1 (.ifCond .lt 21) 4 21 22 := ⟨by decide +kernel, rfl, rfl⟩
theorem d_D_days_4 : Dc prog_1_method_50_code 4 (.iload_n 1) 1 5 := ⟨by decide +kernel, rfl⟩
theorem d_D_days_5 : Dc prog_1_method_50_code 5 (.ldc_w 278) 3 8 := ⟨by decide +kernel, rfl⟩
theorem d_D_days_8 : Dj prog_1_method_50_code 8 (.if_icmp .gt 14) 11 14 22 := ⟨by decide +kernel, rfl, rfl⟩
theorem d_D_days_11 : Dc prog_1_method_50_code 11 (.iload_n 2) 1 12 := ⟨by decide +kernel, rfl⟩
theorem d_D_days_12 : Dc prog_1_method_50_code 12 (.iconst 1) 1 13 := ⟨by decide +kernel, rfl⟩
theorem d_D_days_13 : Dj prog_1_method_50_code 13 (.if_icmp .lt 9) 16 9 22 := ⟨by decide +kernel, rfl, rfl⟩
theorem d_D_days_16 : Dc prog_1_method_50_code 16 (.iload_n 2) 1 17 := ⟨by decide +kernel, rfl⟩
theorem d_D_days_17 : Dc prog_1_method_50_code 17 (.bipush 60) 2 19 := ⟨by decide +kernel, rfl⟩
theorem d_D_days_19 : Dj prog_1_method_50_code 19 (.if_icmp .le 9) 22 9 28 := ⟨by decide +kernel, rfl, rfl⟩
theorem d_D_days_22 : Dc prog_1_method_50_code 22 (.aload_n 0) 1 23 := ⟨by decide +kernel, rfl⟩
theorem d_D_days_23 : Dc prog_1_method_50_code 23 (.iconst (-1)) 1 24 := ⟨by decide +kernel, rfl⟩
theorem d_D_days_24 : Dc prog_1_method_50_code 24 (.invokevirtual 91) 3 27 := ⟨by decide +kernel, rfl⟩
theorem d_D_days_27 : Dc prog_1_method_50_code 27 (.ireturn) 1 28 := ⟨by decide +kernel, rfl⟩
theorem d_D_days_28 : Dc prog_1_method_50_code 28 (.aload_n 0) 1 29 := ⟨by decide +kernel, rfl⟩
theorem d_D_days_29 : Dc prog_1_method_50_code 29 (.getfield 10) 3 32 := ⟨by decide +kernel, rfl⟩
theorem d_D_days_32 : Dc prog_1_method_50_code 32 (.getfield 98) 3 35 := ⟨by decide +kernel, rfl⟩
theorem d_D_days_35 : Dj prog_1_method_50_code 35 (.ifCond .ne 10) 38 10 45 := ⟨by decide +kernel, rfl, rfl⟩
theorem d_D_days_38 : Dc prog_1_method_50_code 38 (.aload_n 0) 1 39 := ⟨by decide +kernel, rfl⟩
theorem d_D_days_39 : Dc prog_1_method_50_code 39 (.bipush (-3)) 2 41 := ⟨by decide +kernel, rfl⟩
theorem d_D_days_41 : Dc prog_1_method_50_code 41 (.invokevirtual 91) 3 44 := ⟨by decide +kernel, rfl⟩
theorem d_D_days_44 : Dc prog_1_method_50_code 44 (.ireturn) 1 45 := ⟨by decide +kernel, rfl⟩
theorem d_D_days_45 : Dc prog_1_method_50_code 45 (.aload_n 0) 1 46 := ⟨by decide +kernel, rfl⟩
theorem d_D_days_46 : Dc prog_1_method_50_code 46 (.getfield 20) 3 49 := ⟨by decide +kernel, rfl⟩
theorem d_D_days_49 : Dc prog_1_method_50_code 49 (.aload_n 0) 1 50 := ⟨by decide +kernel, rfl⟩
theorem d_D_days_50 : Dc prog_1_method_50_code 50 (.getfield 10) 3 53 := ⟨by decide +kernel, rfl⟩
theorem d_D_days_53 : Dc prog_1_method_50_code 53 (.invokevirtual 370) 3 56 := ⟨by decide +kernel, rfl⟩
theorem d_D_days_56 : Dc prog_1_method_50_code 56 (.iload_n 1) 1 57 := ⟨by decide +kernel, rfl⟩
theorem d_D_days_57 : Dc prog_1_method_50_code 57 (.i2l) 1 58 := ⟨by decide +kernel, rfl⟩
theorem d_D_days_58 : Dc prog_1_method_50_code 58 (.lstore_n 3) 1 59 := ⟨by decide +kernel, rfl⟩
theorem d_D_days_59 : Dc prog_1_method_50_code 59 (.iconst 0) 1 60 := ⟨by decide +kernel, rfl⟩
theorem d_D_days_60 : Dc prog_1_method_50_code 60 (.istore 5) 2 62 := ⟨by decide +kernel, rfl⟩
theorem d_D_days_62 : Dc prog_1_method_50_code 62 (.iload 5) 2 64 := ⟨by decide +kernel, rfl⟩
theorem d_D_days_64 : Dc prog_1_method_50_code 64 (.iload_n 2) 1 65 := ⟨by decide +kernel, rfl⟩
theorem d_D_days_65 : Dj prog_1_method_50_code 65 (.if_icmp .ge 99) 68 99 164 := ⟨by decide +kernel, rfl, rfl⟩
theorem d_D_days_68 : Dc prog_1_method_50_code 68 (.aload_n 0) 1 69 := ⟨by decide +kernel, rfl⟩
theorem d_D_days_69 : Dc prog_1_method_50_code 69 (.getfield 20) 3 72 := ⟨by decide +kernel, rfl⟩
theorem d_D_days_72 : Dc prog_1_method_50_code 72 (.getfield 165) 3 75 := ⟨by decide +kernel, rfl⟩
theorem d_D_days_75 : Dc prog_1_method_50_code 75 (.iconst 0) 1 76 := ⟨by decide +kernel, rfl⟩
theorem d_D_days_76 : Dc prog_1_method_50_code 76 (.iaload) 1 77 := ⟨by decide +kernel, rfl⟩
theorem d_D_days_77 : Dc prog_1_method_50_code 77 (.sipush 999) 3 80 := ⟨by decide +kernel, rfl⟩
theorem d_D_days_80 : Dj prog_1_method_50_code 80 (.if_icmp .ge 84) 83 84 164 := ⟨by decide +kernel, rfl, rfl⟩
theorem d_D_days_83 : Dc prog_1_method_50_code 83 (.lload_n 3) 1 84 := ⟨by decide +kernel, rfl⟩
theorem d_D_days_84 : Dc prog_1_method_50_code 84 (.invokestatic 373) 3 87 := ⟨by decide +kernel, rfl⟩
theorem d_D_days_87 : Dc prog_1_method_50_code 87 (.lstore 6) 2 89 := ⟨by decide +kernel, rfl⟩
theorem d_D_days_89 : Dc prog_1_method_50_code 89 (.lload 6) 2 91 := ⟨by decide +kernel, rfl⟩
theorem d_D_days_91 : Dc prog_1_method_50_code 91 (.invokestatic 373) 3 94 := ⟨by decide +kernel, rfl⟩
theorem d_D_days_94 : Dc prog_1_method_50_code 94 (.lstore 8) 2 96 := ⟨by decide +kernel, rfl⟩
theorem d_D_days_96 : Dc prog_1_method_50_code 96 (.lload 8) 2 98 := ⟨by decide +kernel, rfl⟩
theorem d_D_days_98 : Dc prog_1_method_50_code 98 (.invokestatic 373) 3 101 := ⟨by decide +kernel, rfl⟩
theorem d_D_days_101 : Dc prog_1_method_50_code 101 (.lstore 10) 2 103 := ⟨by decide +kernel, rfl⟩
theorem d_D_days_103 : Dc prog_1_method_50_code 103 (.lload 10) 2 105 := ⟨by decide +kernel, rfl⟩
theorem d_D_days_105 : Dc prog_1_method_50_code 105 (.invokestatic 373) 3 108 := ⟨by decide +kernel, rfl⟩
theorem d_D_days_108 : Dc prog_1_method_50_code 108 (.lstore_n 3) 1 109 := ⟨by decide +kernel, rfl⟩
theorem d_D_days_109 : Dc prog_1_method_50_code 109 (.lload 6) 2 111 := ⟨by decide +kernel, rfl⟩
theorem d_D_days_111 : Dc prog_1_method_50_code 111 (.aload_n 0) 1 112 := ⟨by decide +kernel, rfl⟩
theorem d_D_days_112 : Dc prog_1_method_50_code 112 (.getfield 10) 3 115 := ⟨by decide +kernel, rfl⟩
theorem d_D_days_115 : Dc prog_1_method_50_code 115 (.getfield 98) 3 118 := ⟨by decide +kernel, rfl⟩
theorem d_D_days_118 : Dc prog_1_method_50_code 118 (.i2l) 1 119 := ⟨by decide +kernel, rfl⟩
theorem d_D_days_119 : Dc prog_1_method_50_code 119 (.lrem) 1 120 := ⟨by decide +kernel, rfl⟩
theorem d_D_days_120 : Dc prog_1_method_50_code 120 (.l2i) 1 121 := ⟨by decide +kernel, rfl⟩
theorem d_D_days_121 : Dc prog_1_method_50_code 121 (.istore 12) 2 123 := ⟨by decide +kernel, rfl⟩
theorem d_D_days_123 : Dc prog_1_method_50_code 123 (.lload 8) 2 125 := ⟨by decide +kernel, rfl⟩
theorem d_D_days_125 : Dc prog_1_method_50_code 125 (.aload_n 0) 1 126 := ⟨by decide +kernel, rfl⟩
theorem d_D_days_126 : Dc prog_1_method_50_code 126 (.getfield 10) 3 129 := ⟨by decide +kernel, rfl⟩
theorem d_D_days_129 : Dc prog_1_method_50_code 129 (.getfield 98) 3 132 := ⟨by decide +kernel, rfl⟩
theorem d_D_days_132 : Dc prog_1_method_50_code 132 (.i2l) 1 133 := ⟨by decide +kernel, rfl⟩
theorem d_D_days_133 : Dc prog_1_method_50_code 133 (.lrem) 1 134 := ⟨by decide +kernel, rfl⟩
theorem d_D_days_134 : Dc prog_1_method_50_code 134 (.l2i) 1 135 := ⟨by decide +kernel, rfl⟩
theorem d_D_days_135 : Dc prog_1_method_50_code 135 (.istore 13) 2 137 := ⟨by decide +kernel, rfl⟩
theorem d_D_days_137 : Dc prog_1_method_50_code 137 (.aload_n 0) 1 138 := ⟨by decide +kernel, rfl⟩
theorem d_D_days_138 : Dc prog_1_method_50_code 138 (.iload 12) 2 140 := ⟨by decide +kernel, rfl⟩
theorem d_D_days_140 : Dc prog_1_method_50_code 140 (.iload 13) 2 142 := ⟨by decide +kernel, rfl⟩
theorem d_D_days_142 : Dc prog_1_method_50_code 142 (.lload 10) 2 144 := ⟨by decide +kernel, rfl⟩
theorem d_D_days_144 : Dc prog_1_method_50_code 144 (.ldc2_w 377) 3 147 := ⟨by decide +kernel, rfl⟩
theorem d_D_days_147 : Dc prog_1_method_50_code 147 (.lrem) 1 148 := ⟨by decide +kernel, rfl⟩
theorem d_D_days_148 : Dc prog_1_method_50_code 148 (.l2i) 1 149 := ⟨by decide +kernel, rfl⟩
theorem d_D_days_149 : Dc prog_1_method_50_code 149 (.lload_n 3) 1 150 := ⟨by decide +kernel, rfl⟩
theorem d_D_days_150 : Dc prog_1_method_50_code 150 (.ldc2_w 379) 3 153 := ⟨by decide +kernel, rfl⟩
theorem d_D_days_153 : Dc prog_1_method_50_code 153 (.lrem) 1 154 := ⟨by decide +kernel, rfl⟩
theorem d_D_days_154 : Dc prog_1_method_50_code 154 (.l2i) 1 155 := ⟨by decide +kernel, rfl⟩
theorem d_D_days_155 : Dc prog_1_method_50_code 155 (.invokevirtual 381) 3 158 := ⟨by decide +kernel, rfl⟩
theorem d_D_days_158 : Dc prog_1_method_50_code 158 (.iinc 5 1) 3 161 := ⟨by decide +kernel, rfl⟩
theorem d_D_days_161 : Dj prog_1_method_50_code 161 (.goto (-99)) 164 (-99) 62 := ⟨by decide +kernel, rfl, rfl⟩
theorem d_D_days_164 : Dc prog_1_method_50_code 164 (.aload_n 0) 1 165 := ⟨by decide +kernel, rfl⟩
theorem d_D_days_165 : Dc prog_1_method_50_code 165 (.aload_n 0) 1 166 := ⟨by decide +kernel, rfl⟩
theorem d_D_days_166 : Dc prog_1_method_50_code 166 (.getfield 20) 3 169 := ⟨by decide +kernel, rfl⟩
theorem d_D_days_169 : Dc prog_1_method_50_code 169 (.getfield 156) 3 172 := ⟨by decide +kernel, rfl⟩
theorem d_D_days_172 : Dc prog_1_method_50_code 172 (.invokevirtual 95) 3 175 := ⟨by decide +kernel, rfl⟩
theorem d_D_days_175 : Dc prog_1_method_50_code 175 (.ireturn) 1 176 := ⟨by decide +kernel, rfl⟩
theorem d_D_few_0 : Dc prog_1_method_49_code 0 (.iload_n 1) 1 1 := ⟨by decide +kernel, rfl⟩
theorem d_D_few_1 : Dc prog_1_method_49_code 1 (.iconst 1) 1 2 := ⟨by decide +kernel, rfl⟩
theorem d_D_few_2 : Dj prog_1_method_49_code 2 (.if_icmp .lt 19) 5 19 21 := ⟨by decide +kernel, rfl, rfl⟩
theorem d_D_few_5 : Dc prog_1_method_49_code 5 (.iload_n 1) 1 6 := ⟨by decide +kernel, rfl⟩
theorem d_D_few_6 : Dc prog_1_method_49_code 6 (.bipush 20) 2 8 := ⟨by decide +kernel, rfl⟩
theorem d_D_few_8 : Dj prog_1_method_49_code 8 (.if_icmp .gt 13) 11 13 21 := ⟨by decide +kernel, rfl, rfl⟩
theorem d_D_few_11 : Dc prog_1_method_49_code 11 (.iload_n 2) 1 12 := ⟨by decide +kernel, rfl⟩
theorem d_D_few_12 : Dj prog_1_method_49_code 12 (.ifCond .lt 9) 15 9 21 := ⟨by decide +kernel, rfl, rfl⟩
theorem d_D_few_15 : Dc prog_1_method_49_code 15 (.iload_n 2) 1 16 := ⟨by decide +kernel, rfl⟩
theorem d_D_few_16 : Dc prog_1_method_49_code 16 (.bipush 99) 2 18 := ⟨by decide +kernel, rfl⟩
theorem d_D_few_18 : Dj prog_1_method_49_code 18 (.if_icmp .le 7) 21 7 25 := ⟨by decide +kernel, rfl, rfl⟩
theorem d_D_few_21 : Dc prog_1_method_49_code 21 (.ldc2_w 359) 3 24 := ⟨by decide +kernel, rfl⟩
theorem d_D_few_24 : Dc prog_1_method_49_code 24 (.lreturn) 1 25 := ⟨by decide +kernel, rfl⟩
theorem d_D_few_25 : Dc prog_1_method_49_code 25 (.aload_n 0) 1 26 := ⟨by decide +kernel, rfl⟩
theorem d_D_few_26 : Dc prog_1_method_49_code 26 (.getfield 10) 3 29 := ⟨by decide +kernel, rfl⟩
theorem d_D_few_29 : Dc prog_1_method_49_code 29 (.getfield 165) 3 32 := ⟨by decide +kernel, rfl⟩
theorem d_D_few_32 : Dc prog_1_method_49_code 32 (.iconst 1) 1 33 := ⟨by decide +kernel, rfl⟩
theorem d_D_few_33 : Dc prog_1_method_49_code 33 (.iaload) 1 34 := ⟨by decide +kernel, rfl⟩
theorem d_D_few_34 : Dc prog_1_method_49_code 34 (.istore_n 3) 1 35 := ⟨by decide +kernel, rfl⟩
theorem d_D_few_35 : Dc prog_1_method_49_code 35 (.aload_n 0) 1 36 := ⟨by decide +kernel, rfl⟩
theorem d_D_few_36 : Dc prog_1_method_49_code 36 (.getfield 79) 3 39 := ⟨by decide +kernel, rfl⟩
theorem d_D_few_39 : Dc prog_1_method_49_code 39 (.lconst 0) 1 40 := ⟨by decide +kernel, rfl⟩
theorem d_D_few_40 : Dc prog_1_method_49_code 40 (.invokestatic 361) 3 43 := ⟨by decide +kernel, rfl⟩
theorem d_D_few_43 : Dc prog_1_method_49_code 43 (.aload_n 0) 1 44 := ⟨by decide +kernel, rfl⟩
theorem d_D_few_44 : Dc prog_1_method_49_code 44 (.getfield 79) 3 47 := ⟨by decide +kernel, rfl⟩
theorem d_D_few_47 : Dc prog_1_method_49_code 47 (.iconst 0) 1 48 := ⟨by decide +kernel, rfl⟩
theorem d_D_few_48 : Dc prog_1_method_49_code 48 (.ldc2_w 366) 3 51 := ⟨by decide +kernel, rfl⟩
theorem d_D_few_51 : Dc prog_1_method_49_code 51 (.lastore) 1 52 := ⟨by decide +kernel, rfl⟩
theorem d_D_few_52 : Dc prog_1_method_49_code 52 (.iconst 0) 1 53 := ⟨by decide +kernel, rfl⟩
theorem d_D_few_53 : Dc prog_1_method_49_code 53 (.istore 4) 2 55 := ⟨by decide +kernel, rfl⟩
theorem d_D_few_55 : Dc prog_1_method_49_code 55 (.iload 4) 2 57 := ⟨by decide +kernel, rfl⟩
theorem d_D_few_57 : Dc prog_1_method_49_code 57 (.iload_n 2) 1 58 := ⟨by decide +kernel, rfl⟩
theorem d_D_few_58 : Dj prog_1_method_49_code 58 (.if_icmp .ge 83) 61 83 141 := ⟨by decide +kernel, rfl, rfl⟩
theorem d_D_few_61 : Dc prog_1_method_49_code 61 (.iload_n 1) 1 62 := ⟨by decide +kernel, rfl⟩
theorem d_D_few_62 : Dc prog_1_method_49_code 62 (.iconst 1) 1 63 := ⟨by decide +kernel, rfl⟩
theorem d_D_few_63 : Dc prog_1_method_49_code 63 (.isub) 1 64 := ⟨by decide +kernel, rfl⟩
theorem d_D_few_64 : Dc prog_1_method_49_code 64 (.istore 5) 2 66 := ⟨by decide +kernel, rfl⟩
theorem d_D_few_66 : Dc prog_1_method_49_code 66 (.iload 5) 2 68 := ⟨by decide +kernel, rfl⟩
theorem d_D_few_68 : Dj prog_1_method_49_code 68 (.ifCond .lt 67) 71 67 135 := ⟨by decide +kernel, rfl, rfl⟩
theorem d_D_few_71 : Dc prog_1_method_49_code 71 (.aload_n 0) 1 72 := ⟨by decide +kernel, rfl⟩
theorem d_D_few_72 : Dc prog_1_method_49_code 72 (.getfield 79) 3 75 := ⟨by decide +kernel, rfl⟩
theorem d_D_few_75 : Dc prog_1_method_49_code 75 (.iload 5) 2 77 := ⟨by decide +kernel, rfl⟩
theorem d_D_few_77 : Dc prog_1_method_49_code 77 (.laload) 1 78 := ⟨by decide +kernel, rfl⟩
theorem d_D_few_78 : Dc prog_1_method_49_code 78 (.bipush 10) 2 80 := ⟨by decide +kernel, rfl⟩
theorem d_D_few_80 : Dc prog_1_method_49_code 80 (.iload_n 3) 1 81 := ⟨by decide +kernel, rfl⟩
theorem d_D_few_81 : Dc prog_1_method_49_code 81 (.isub) 1 82 := ⟨by decide +kernel, rfl⟩
theorem d_D_few_82 : Dc prog_1_method_49_code 82 (.i2l) 1 83 := ⟨by decide +kernel, rfl⟩
theorem d_D_few_83 : Dc prog_1_method_49_code 83 (.lmul) 1 84 := ⟨by decide +kernel, rfl⟩
theorem d_D_few_84 : Dc prog_1_method_49_code 84 (.ldc2_w 368) 3 87 := ⟨by decide +kernel, rfl⟩
theorem d_D_few_87 : Dc prog_1_method_49_code 87 (.ldiv) 1 88 := ⟨by decide +kernel, rfl⟩
theorem d_D_few_88 : Dc prog_1_method_49_code 88 (.lstore 6) 2 90 := ⟨by decide +kernel, rfl⟩
theorem d_D_few_90 : Dc prog_1_method_49_code 90 (.iload 5) 2 92 := ⟨by decide +kernel, rfl⟩
theorem d_D_few_92 : Dj prog_1_method_49_code 92 (.ifCond .le 22) 95 22 114 := ⟨by decide +kernel, rfl, rfl⟩
theorem d_D_few_95 : Dc prog_1_method_49_code 95 (.aload_n 0) 1 96 := ⟨by decide +kernel, rfl⟩
theorem d_D_few_96 : Dc prog_1_method_49_code 96 (.getfield 79) 3 99 := ⟨by decide +kernel, rfl⟩
theorem d_D_few_99 : Dc prog_1_method_49_code 99 (.iload 5) 2 101 := ⟨by decide +kernel, rfl⟩
theorem d_D_few_101 : Dc prog_1_method_49_code 101 (.iconst 1) 1 102 := ⟨by decide +kernel, rfl⟩
theorem d_D_few_102 : Dc prog_1_method_49_code 102 (.isub) 1 103 := ⟨by decide +kernel, rfl⟩
theorem d_D_few_103 : Dc prog_1_method_49_code 103 (.laload) 1 104 := ⟨by decide +kernel, rfl⟩
theorem d_D_few_104 : Dc prog_1_method_49_code 104 (.iload_n 3) 1 105 := ⟨by decide +kernel, rfl⟩
theorem d_D_few_105 : Dc prog_1_method_49_code 105 (.i2l) 1 106 := ⟨by decide +kernel, rfl⟩
theorem d_D_few_106 : Dc prog_1_method_49_code 106 (.lmul) 1 107 := ⟨by decide +kernel, rfl⟩
theorem d_D_few_107 : Dc prog_1_method_49_code 107 (.ldc2_w 368) 3 110 := ⟨by decide +kernel, rfl⟩
theorem d_D_few_110 : Dc prog_1_method_49_code 110 (.ldiv) 1 111 := ⟨by decide +kernel, rfl⟩
theorem d_D_few_111 : Dj prog_1_method_49_code 111 (.goto 4) 114 4 115 := ⟨by decide +kernel, rfl, rfl⟩
theorem d_D_few_114 : Dc prog_1_method_49_code 114 (.lconst 0) 1 115 := ⟨by decide +kernel, rfl⟩
theorem d_D_few_115 : Dc prog_1_method_49_code 115 (.lstore 8) 2 117 := ⟨by decide +kernel, rfl⟩
theorem d_D_few_117 : Dc prog_1_method_49_code 117 (.aload_n 0) 1 118 := ⟨by decide +kernel, rfl⟩
theorem d_D_few_118 : Dc prog_1_method_49_code 118 (.getfield 79) 3 121 := ⟨by decide +kernel, rfl⟩
theorem d_D_few_121 : Dc prog_1_method_49_code 121 (.iload 5) 2 123 := ⟨by decide +kernel, rfl⟩
theorem d_D_few_123 : Dc prog_1_method_49_code 123 (.lload 6) 2 125 := ⟨by decide +kernel, rfl⟩
theorem d_D_few_125 : Dc prog_1_method_49_code 125 (.lload 8) 2 127 := ⟨by decide +kernel, rfl⟩
theorem d_D_few_127 : Dc prog_1_method_49_code 127 (.ladd) 1 128 := ⟨by decide +kernel, rfl⟩
theorem d_D_few_128 : Dc prog_1_method_49_code 128 (.lastore) 1 129 := ⟨by decide +kernel, rfl⟩
theorem d_D_few_129 : Dc prog_1_method_49_code 129 (.iinc 5 (-1)) 3 132 := ⟨by decide +kernel, rfl⟩
theorem d_D_few_132 : Dj prog_1_method_49_code 132 (.goto (-66)) 135 (-66) 66 := ⟨by decide +kernel, rfl, rfl⟩
theorem d_D_few_135 : Dc prog_1_method_49_code 135 (.iinc 4 1) 3 138 := ⟨by decide +kernel, rfl⟩
theorem d_D_few_138 : Dj prog_1_method_49_code 138 (.goto (-83)) 141 (-83) 55 := ⟨by decide +kernel, rfl, rfl⟩
theorem d_D_few_141 : Dc prog_1_method_49_code 141 (.lconst 0) 1 142 := ⟨by decide +kernel, rfl⟩
theorem d_D_few_142 : Dc prog_1_method_49_code 142 (.lstore 4) 2 144 := ⟨by decide +kernel, rfl⟩
theorem d_D_few_144 : Dc prog_1_method_49_code 144 (.iconst 0) 1 145 := ⟨by decide +kernel, rfl⟩
theorem d_D_few_145 : Dc prog_1_method_49_code 145 (.istore 6) 2 147 := ⟨by decide +kernel, rfl⟩
theorem d_D_few_147 : Dc prog_1_method_49_code 147 (.iload 6) 2 149 := ⟨by decide +kernel, rfl⟩
theorem d_D_few_149 : Dc prog_1_method_49_code 149 (.iload_n 1) 1 150 := ⟨by decide +kernel, rfl⟩
theorem d_D_few_150 : Dj prog_1_method_49_code 150 (.if_icmp .ge 21) 153 21 171 := ⟨by decide +kernel, rfl, rfl⟩
theorem d_D_few_153 : Dc prog_1_method_49_code 153 (.lload 4) 2 155 := ⟨by decide +kernel, rfl⟩
theorem d_D_few_155 : Dc prog_1_method_49_code 155 (.aload_n 0) 1 156 := ⟨by decide +kernel, rfl⟩
theorem d_D_few_156 : Dc prog_1_method_49_code 156 (.getfield 79) 3 159 := ⟨by decide +kernel, rfl⟩
theorem d_D_few_159 : Dc prog_1_method_49_code 159 (.iload 6) 2 161 := ⟨by decide +kernel, rfl⟩
theorem d_D_few_161 : Dc prog_1_method_49_code 161 (.laload) 1 162 := ⟨by decide +kernel, rfl⟩
theorem d_D_few_162 : Dc prog_1_method_49_code 162 (.ladd) 1 163 := ⟨by decide +kernel, rfl⟩
theorem d_D_few_163 : Dc prog_1_method_49_code 163 (.lstore 4) 2 165 := ⟨by decide +kernel, rfl⟩
theorem d_D_few_165 : Dc prog_1_method_49_code 165 (.iinc 6 1) 3 168 := ⟨by decide +kernel, rfl⟩
theorem d_D_few_168 : Dj prog_1_method_49_code 168 (.goto (-21)) 171 (-21) 147 := ⟨by decide +kernel, rfl, rfl⟩
theorem d_D_few_171 : Dc prog_1_method_49_code 171 (.lload 4) 2 173 := ⟨by decide +kernel, rfl⟩
theorem d_D_few_173 : Dc prog_1_method_49_code 173 (.lreturn) 1 174 := ⟨by decide +kernel, rfl⟩
theorem d_D_liveDay_0 : Dc prog_1_method_52_code 0 (.iload 4) 2 2 := ⟨by decide +kernel, rfl⟩
theorem d_D_liveDay_2 : Dc prog_1_method_52_code 2 (.iconst 2) 1 3 := ⟨by decide +kernel, rfl⟩
theorem d_D_liveDay_3 : Dj prog_1_method_52_code 3 (.if_icmp .ge 18) 6 18 21 := ⟨by decide +kernel, rfl, rfl⟩
theorem d_D_liveDay_6 : Dc prog_1_method_52_code 6 (.iload_n 1) 1 7 := ⟨by decide +kernel, rfl⟩
theorem d_D_liveDay_7 : Dc prog_1_method_52_code 7 (.iload_n 2) 1 8 := ⟨by decide +kernel, rfl⟩
theorem d_D_liveDay_8 : Dj prog_1_method_52_code 8 (.if_icmp .eq 13) 11 13 21 := ⟨by decide +kernel, rfl, rfl⟩
theorem d_D_liveDay_11 : Dc prog_1_method_52_code 11 (.aload_n 0) 1 12 := ⟨by decide +kernel, rfl⟩
theorem d_D_liveDay_12 : Dc prog_1_method_52_code 12 (.getfield 20) 3 15 := ⟨by decide +kernel, rfl⟩
theorem d_D_liveDay_15 : Dc prog_1_method_52_code 15 (.iload_n 1) 1 16 := ⟨by decide +kernel, rfl⟩
theorem d_D_liveDay_16 : Dc prog_1_method_52_code 16 (.iload_n 2) 1 17 := ⟨by decide +kernel, rfl⟩
theorem d_D_liveDay_17 : Dc prog_1_method_52_code 17 (.invokevirtual 188) 3 20 := ⟨by decide +kernel, rfl⟩
theorem d_D_liveDay_20 : Dc prog_1_method_52_code 20 (.pop) 1 21 := ⟨by decide +kernel, rfl⟩
theorem d_D_liveDay_21 : Dc prog_1_method_52_code 21 (.iload 4) 2 23 := ⟨by decide +kernel, rfl⟩
theorem d_D_liveDay_23 : Dc prog_1_method_52_code 23 (.iconst 2) 1 24 := ⟨by decide +kernel, rfl⟩
theorem d_D_liveDay_24 : Dj prog_1_method_52_code 24 (.if_icmp .ne 13) 27 13 37 := ⟨by decide +kernel, rfl, rfl⟩
theorem d_D_liveDay_27 : Dc prog_1_method_52_code 27 (.aload_n 0) 1 28 := ⟨by decide +kernel, rfl⟩
theorem d_D_liveDay_28 : Dc prog_1_method_52_code 28 (.getfield 20) 3 31 := ⟨by decide +kernel, rfl⟩
theorem d_D_liveDay_31 : Dc prog_1_method_52_code 31 (.getfield 117) 3 34 := ⟨by decide +kernel, rfl⟩
theorem d_D_liveDay_34 : Dc prog_1_method_52_code 34 (.iload_n 1) 1 35 := ⟨by decide +kernel, rfl⟩
theorem d_D_liveDay_35 : Dc prog_1_method_52_code 35 (.iload_n 3) 1 36 := ⟨by decide +kernel, rfl⟩
theorem d_D_liveDay_36 : Dc prog_1_method_52_code 36 (.iastore) 1 37 := ⟨by decide +kernel, rfl⟩
theorem d_D_liveDay_37 : Dc prog_1_method_52_code 37 (.aload_n 0) 1 38 := ⟨by decide +kernel, rfl⟩
theorem d_D_liveDay_38 : Dc prog_1_method_52_code 38 (.getfield 20) 3 41 := ⟨by decide +kernel, rfl⟩
theorem d_D_liveDay_41 : Dc prog_1_method_52_code 41 (.getfield 165) 3 44 := ⟨by decide +kernel, rfl⟩
theorem d_D_liveDay_44 : Dc prog_1_method_52_code 44 (.iconst 0) 1 45 := ⟨by decide +kernel, rfl⟩
theorem d_D_liveDay_45 : Dc prog_1_method_52_code 45 (.dup2) 1 46 := ⟨by decide +kernel, rfl⟩
theorem d_D_liveDay_46 : Dc prog_1_method_52_code 46 (.iaload) 1 47 := ⟨by decide +kernel, rfl⟩
theorem d_D_liveDay_47 : Dc prog_1_method_52_code 47 (.iconst 1) 1 48 := ⟨by decide +kernel, rfl⟩
theorem d_D_liveDay_48 : Dc prog_1_method_52_code 48 (.iadd) 1 49 := ⟨by decide +kernel, rfl⟩
theorem d_D_liveDay_49 : Dc prog_1_method_52_code 49 (.iastore) 1 50 := ⟨by decide +kernel, rfl⟩
theorem d_D_liveDay_50 : Dc prog_1_method_52_code 50 (.return_) 1 51 := ⟨by decide +kernel, rfl⟩
theorem d_D_nextDraw_0 : Dc prog_1_method_51_code 0 (.lload_n 0) 1 1 := ⟨by decide +kernel, rfl⟩
theorem d_D_nextDraw_1 : Dc prog_1_method_51_code 1 (.ldc2_w 385) 3 4 := ⟨by decide +kernel, rfl⟩
theorem d_D_nextDraw_4 : Dc prog_1_method_51_code 4 (.lmul) 1 5 := ⟨by decide +kernel, rfl⟩
theorem d_D_nextDraw_5 : Dc prog_1_method_51_code 5 (.ldc2_w 387) 3 8 := ⟨by decide +kernel, rfl⟩
theorem d_D_nextDraw_8 : Dc prog_1_method_51_code 8 (.ladd) 1 9 := ⟨by decide +kernel, rfl⟩
theorem d_D_nextDraw_9 : Dc prog_1_method_51_code 9 (.ldc2_w 389) 3 12 := ⟨by decide +kernel, rfl⟩
theorem d_D_nextDraw_12 : Dc prog_1_method_51_code 12 (.lrem) 1 13 := ⟨by decide +kernel, rfl⟩
theorem d_D_nextDraw_13 : Dc prog_1_method_51_code 13 (.lreturn) 1 14 := ⟨by decide +kernel, rfl⟩
theorem fl_D_79 : FL "SubgraphDesk" 79 0 11 true (.array .long) (3, 69) := ⟨R_D, F_D, 15, ty_D, rfl, rfl, in_D, tyok_D, nm_D, by decide, gd 565 (by decide +kernel) rfl, rfl, rfl, rfl⟩
theorem ml_D_361 : Cond.methodLink "SubgraphDesk" 361 m_JArrays_fill.1 ∈ lw_gd := gd 1402 (by decide +kernel) rfl
theorem ml_D_373 : Cond.methodLink "SubgraphDesk" 373 m_D_nextDraw.1 ∈ lw_gd := gd 1412 (by decide +kernel) rfl
theorem ml_D_381 : Cond.methodLink "SubgraphDesk" 381 m_D_liveDay.1 ∈ lw_gd := gd 1420 (by decide +kernel) rfl
theorem k_D_278 : Cond.constant "SubgraphDesk" 278 (1000000) ∈ lw_gd := gd 1188 (by decide +kernel) rfl
theorem k_D_359 : Cond.constantLong "SubgraphDesk" 359 (-1) ∈ lw_gd := gd 1401 (by decide +kernel) rfl
theorem k_D_366 : Cond.constantLong "SubgraphDesk" 366 (1000000000000) ∈ lw_gd := gd 1405 (by decide +kernel) rfl
theorem k_D_368 : Cond.constantLong "SubgraphDesk" 368 (10) ∈ lw_gd := gd 1406 (by decide +kernel) rfl
theorem k_D_377 : Cond.constantLong "SubgraphDesk" 377 (6) ∈ lw_gd := gd 1418 (by decide +kernel) rfl
theorem k_D_379 : Cond.constantLong "SubgraphDesk" 379 (4) ∈ lw_gd := gd 1419 (by decide +kernel) rfl
theorem k_D_385 : Cond.constantLong "SubgraphDesk" 385 (1103) ∈ lw_gd := gd 1415 (by decide +kernel) rfl
theorem k_D_387 : Cond.constantLong "SubgraphDesk" 387 (12345) ∈ lw_gd := gd 1416 (by decide +kernel) rfl
theorem k_D_389 : Cond.constantLong "SubgraphDesk" 389 (1000003) ∈ lw_gd := gd 1417 (by decide +kernel) rfl
theorem c_D_few {E : EV} {w : Mem} {k n : Int32} {s : SG} (h : DInv w s) : T E m_D_few 2 0 0 [.ref 0, .int k, .int n] w (fun r w2 => r = some (.long (opFew k n (sG s))) ∧ DInv w2 s ∧ DkD w w2) := by
  refine T_of (L := [.ref 0, .int k, .int n, un, un, un, un, un, un, un]) cf_D_few rfl (Nat.le_of_ble_eq_true rfl) (fun X hX hF => ?_)
  obtain ⟨⟨hR, hW, hA⟩, hL, hT, hI, hRF, ⟨hsm, hfa, hsp⟩, hdr, hfx⟩ := id h
  have hn := hW.n
  have hv := hW.v
  have he := hW.el
  have hll := hW.ll
  have hsl := hW.sl
  refine g_iload1 hX d_D_few_0 ?_
  refine g_iconst (v := nI 1) hX d_D_few_1 rfl ?_
  refine g_icmp_lt hX d_D_few_2 (fun e2 => ?_) (fun e2 => ?_)
  · refine g_ldc2 (v := -1) hX d_D_few_21 k_D_359 rfl ?_
    refine g_lret hX hF d_D_few_24 (by omega) (by omega) ?_
    rw [few_no (fun z => by
      first
      | exact absurd z.1 (Int32.not_le.mpr e2)
      | exact absurd z.2.1 (Int32.not_le.mpr e8)
      | exact absurd e12 ((in6 (by decide)).mp z.2.2).1
      | exact absurd (le_61 (m := 99) z.2.2.2 (by decide)) e18)]
    exact ⟨rfl, h, DkD.rf w⟩
  · refine g_iload1 hX d_D_few_5 ?_
    refine g_bipush (v := nI 20) hX d_D_few_6 rfl ?_
    refine g_icmp_gt hX d_D_few_8 (fun e8 => ?_) (fun e8 => ?_)
    · refine g_ldc2 (v := -1) hX d_D_few_21 k_D_359 rfl ?_
      refine g_lret hX hF d_D_few_24 (by omega) (by omega) ?_
      rw [few_no (fun z => by
        first
        | exact absurd z.1 (Int32.not_le.mpr e2)
        | exact absurd z.2.1 (Int32.not_le.mpr e8)
        | exact absurd e12 ((in6 (by decide)).mp z.2.2).1
        | exact absurd (le_61 (m := 99) z.2.2.2 (by decide)) e18)]
      exact ⟨rfl, h, DkD.rf w⟩
    · refine g_iload2 hX d_D_few_11 ?_
      refine g_if_lt hX d_D_few_12 (fun e12 => ?_) (fun e12 => ?_)
      · refine g_ldc2 (v := -1) hX d_D_few_21 k_D_359 rfl ?_
        refine g_lret hX hF d_D_few_24 (by omega) (by omega) ?_
        rw [few_no (fun z => by
          first
          | exact absurd z.1 (Int32.not_le.mpr e2)
          | exact absurd z.2.1 (Int32.not_le.mpr e8)
          | exact absurd e12 ((in6 (by decide)).mp z.2.2).1
          | exact absurd (le_61 (m := 99) z.2.2.2 (by decide)) e18)]
        exact ⟨rfl, h, DkD.rf w⟩
      · refine g_iload2 hX d_D_few_15 ?_
        refine g_bipush (v := nI 99) hX d_D_few_16 rfl ?_
        refine g_icmp_le hX d_D_few_18 (fun e18 => ?_) (fun e18 => ?_)
        · obtain ⟨k, hk1, hk2, rfl⟩ := one_of (n := 20) (by decide) ⟨Int32.not_lt.mp e2, Int32.not_lt.mp e8⟩
          obtain ⟨n, hn1, rfl, -⟩ := inN_of ((in6 (by decide)).mpr ⟨e12, lt_of1 (by decide) e18 (Nat.le_refl _)⟩ : inN n 100) (by decide)
          have hS : (gT (sG s) 1) ≤ 10 := hW.t.2.1
          have kE : ∀ (m : Nat) (f : Nat → Int64), (∀ j, j < k → f j = lN (fewP (gT (sG s) 1) n j)) → G0 E X 0 0 141 [.ref 0, .int (nI k), .int (nI n), .int (nI (gT (sG s) 1)), .int (nI m), un, un, un, un, un] [] (sB w 69 f) := by
            intro m f hf
            have lpS : ∀ (fuel : Nat) (i : Nat), k - i < fuel → (i ≤ k) → G0 E X 0 0 147 [.ref 0, .int (nI k), .int (nI n), .int (nI (gT (sG s) 1)), .long (lN (fewS (gT (sG s) 1) n i)), un, .int (nI i), un, un, un] [] (sB w 69 f) := by
              intro fuel
              induction fuel with
              | zero => intro i q0; exact absurd q0 (Nat.not_lt_zero _)
              | succ fuel ih =>
                intro i q0 q1
                refine g_iload6 hX d_D_few_147 ?_
                refine g_iload1 hX d_D_few_149 ?_
                refine g_icmpN_ge hX d_D_few_150 (by omega) (by omega) (fun c0 => ?_) (fun c0 => ?_)
                · refine g_lload4 hX d_D_few_171 ?_
                  refine g_lret hX hF d_D_few_173 (by omega) (by omega) ?_
                  obtain rfl : i = k := by omega
                  rw [few_ok hk1 hk2 hn1]
                  have hQ : DkQ w (sB w 69 f) := ⟨fun a _ => rfl, fun a ha => rJ_sB_ne _ _ (by omega), KpR.rf w⟩
                  exact ⟨rfl, h.q hQ, hQ.D⟩
                · refine g_lload4 hX d_D_few_153 ?_
                  refine g_aload0 hX d_D_few_155 ?_
                  refine g_getF hX d_D_few_156 fl_D_79 (lv_0 _) ?_
                  refine g_iload6 hX d_D_few_159 ?_
                  refine g_lald hX d_D_few_161 (lv_69 _) rfl (by omega) ?_
                  refine g_topl (show rJ (sB w 69 f) 69 i = lN (fewP (gT (sG s) 1) n i) by rw [rJ_sB]; exact hf i (by omega)) ?_
                  refine g_ladd hX d_D_few_162 ?_
                  refine g_topl (y := lN (fewS (gT (sG s) 1) n (i + 1))) (by rw [lN_add]; rfl) ?_
                  refine g_lstore4 hX d_D_few_163 rfl (by decide) ?_
                  refine g_iincN6 hX d_D_few_165 rfl (by decide) ?_
                  refine g_goto hX d_D_few_168 ?_
                  exact ih (i + 1) (by omega) (by omega)
            refine g_lconst (v := lN 0) hX d_D_few_141 rfl ?_
            refine g_lstore4 hX d_D_few_142 rfl (by decide) ?_
            refine g_iconst (v := nI 0) hX d_D_few_144 rfl ?_
            refine g_istore6 hX d_D_few_145 rfl (by decide) ?_
            exact lpS (k + 1) 0 (by omega) (by omega)
          have lpB : ∀ (fuel : Nat) (m : Nat) (f : Nat → Int64), n - m < fuel → (m ≤ n) → (∀ j, j < k → f j = lN (fewP (gT (sG s) 1) m j)) → G0 E X 0 0 55 [.ref 0, .int (nI k), .int (nI n), .int (nI (gT (sG s) 1)), .int (nI m), un, un, un, un, un] [] (sB w 69 f) := by
            intro fuel
            induction fuel with
            | zero => intro m f q0; exact absurd q0 (Nat.not_lt_zero _)
            | succ fuel ih =>
              intro m f q0 q1 q2
              refine g_iload4 hX d_D_few_55 ?_
              refine g_iload2 hX d_D_few_57 ?_
              refine g_icmpN_ge hX d_D_few_58 (by omega) (by omega) (fun c0 => ?_) (fun c0 => ?_)
              · exact kE m f (fun j hj => by rw [q2 j hj, show m = n by omega])
              · have lpC : ∀ (i : Nat) (f : Nat → Int64), i ≤ k → (∀ j, j < i → f j = lN (fewP (gT (sG s) 1) m j)) → (∀ j, i ≤ j → j < k → f j = lN (fewP (gT (sG s) 1) (m + 1) j)) → G0 E X 0 0 66 [.ref 0, .int (nI k), .int (nI n), .int (nI (gT (sG s) 1)), .int (nI m), .int (nI i - nI 1), un, un, un, un] [] (sB w 69 f) := by
                  have ihB := ih
                  intro i
                  induction i with
                  | zero =>
                    intro f c0 c1 c3
                    refine g_iload5 hX d_D_few_66 ?_
                    refine g_if_lt hX d_D_few_68 (fun c0 => ?_) (fun h => absurd (by decide) h)
                    refine g_iincN4 hX d_D_few_135 rfl (by decide) ?_
                    refine g_goto hX d_D_few_138 ?_
                    refine g_fget 5 ?_
                    exact ihB (m + 1) f (by omega) (by omega) (fun j hj => c3 j (Nat.zero_le _) hj)
                  | succ i ihC =>
                    intro f c0 c1 c3
                    refine g_loc (L2 := [.ref 0, .int (nI k), .int (nI n), .int (nI (gT (sG s) 1)), .int (nI m), .int (nI i), un, un, un, un]) (by rw [m1_nI]) ?_
                    refine g_iload5 hX d_D_few_66 ?_
                    refine g_if_lt hX d_D_few_68 (fun h => absurd h (nI_pos (by omega))) (fun c0 => ?_)
                    refine g_aload0 hX d_D_few_71 ?_
                    refine g_getF hX d_D_few_72 fl_D_79 (lv_0 _) ?_
                    refine g_iload5 hX d_D_few_75 ?_
                    refine g_lald hX d_D_few_77 (lv_69 _) rfl (by omega) ?_
                    refine g_topl (show rJ (sB w 69 f) 69 i = lN (fewP (gT (sG s) 1) m i) by rw [rJ_sB]; exact c1 i (by omega)) ?_
                    refine g_bipush (v := nI 10) hX d_D_few_78 rfl ?_
                    refine g_iload3 hX d_D_few_80 ?_
                    refine g_isubN hX d_D_few_81 (by omega) ?_
                    refine g_i2l hX d_D_few_82 ?_
                    refine g_topl (nI_l (by omega)) ?_
                    refine g_lmul hX d_D_few_83 ?_
                    refine g_ldc2 (v := lN 10) hX d_D_few_84 k_D_368 rfl ?_
                    refine g_ldiv hX d_D_few_87 (by decide) ?_
                    refine g_topl (fw_mul (fewP_le hS m i) (by omega)) ?_
                    refine g_lstore6 hX d_D_few_88 rfl (by decide) ?_
                    refine g_iload5 hX d_D_few_90 ?_
                    refine g_if_le hX d_D_few_92 (fun e92 => ?_) (fun e92 => ?_)
                    · have hi0 : i = 0 := by
                        rcases Nat.eq_zero_or_pos i with z | z
                        · exact z
                        · exact absurd e92 (nI_nle0 z (by omega))
                      refine g_lconst (v := lN 0) hX d_D_few_114 rfl ?_
                      refine g_lstore8 hX d_D_few_115 rfl (by decide) ?_
                      refine g_aload0 hX d_D_few_117 ?_
                      refine g_getF hX d_D_few_118 fl_D_79 (lv_0 _) ?_
                      refine g_iload5 hX d_D_few_121 ?_
                      refine g_lload6 hX d_D_few_123 ?_
                      refine g_lload8 hX d_D_few_125 ?_
                      refine g_ladd hX d_D_few_127 ?_
                      refine g_topl (y := lN (fewP (gT (sG s) 1) (m + 1) i)) (by rw [lN_add]; congr 1; show _ = fewP (gT (sG s) 1) m i * (10 - gT (sG s) 1) / 10 + (if i = 0 then 0 else _); rw [if_pos hi0]) ?_
                      refine g_last hX d_D_few_128 (lv_69 _) rfl (by omega) ?_
                      refine g_iinc5 hX d_D_few_129 (v := nI i - nI 1) (by rw [Int32.sub_eq_add_neg]; rfl) rfl (by decide) ?_
                      refine g_goto hX d_D_few_132 ?_
                      refine g_fget 6 ?_
                      refine g_fget 8 ?_
                      rw [sJ_sB]
                      refine ihC _ (by omega) (fun j hj => ?_) (fun j h0 hj => ?_)
                      · rw [updL_eq, if_neg (by omega)]
                        exact c1 j (by omega)
                      · rw [updL_eq]
                        by_cases h1 : j = i
                        · rw [if_pos h1, h1]
                        · rw [if_neg h1]
                          exact c3 j (by omega) hj
                    · have hi0 : i ≠ 0 := fun z => e92 (by rw [z]; exact Int32.le_refl _)
                      refine g_aload0 hX d_D_few_95 ?_
                      refine g_getF hX d_D_few_96 fl_D_79 (lv_0 _) ?_
                      refine g_iload5 hX d_D_few_99 ?_
                      refine g_iconst (v := nI 1) hX d_D_few_101 rfl ?_
                      refine g_isubN hX d_D_few_102 (by omega) ?_
                      refine g_lald hX d_D_few_103 (lv_69 _) rfl (by omega) ?_
                      refine g_topl (show rJ (sB w 69 f) 69 (i - 1) = lN (fewP (gT (sG s) 1) m (i - 1)) by rw [rJ_sB]; exact c1 (i - 1) (by omega)) ?_
                      refine g_iload3 hX d_D_few_104 ?_
                      refine g_i2l hX d_D_few_105 ?_
                      refine g_topl (nI_l (by omega)) ?_
                      refine g_lmul hX d_D_few_106 ?_
                      refine g_ldc2 (v := lN 10) hX d_D_few_107 k_D_368 rfl ?_
                      refine g_ldiv hX d_D_few_110 (by decide) ?_
                      refine g_topl (fw_mul (fewP_le hS m (i - 1)) hS) ?_
                      refine g_goto hX d_D_few_111 ?_
                      refine g_lstore8 hX d_D_few_115 rfl (by decide) ?_
                      refine g_aload0 hX d_D_few_117 ?_
                      refine g_getF hX d_D_few_118 fl_D_79 (lv_0 _) ?_
                      refine g_iload5 hX d_D_few_121 ?_
                      refine g_lload6 hX d_D_few_123 ?_
                      refine g_lload8 hX d_D_few_125 ?_
                      refine g_ladd hX d_D_few_127 ?_
                      refine g_topl (y := lN (fewP (gT (sG s) 1) (m + 1) i)) (by rw [lN_add]; congr 1; conv => rhs; unfold fewP; rw [if_neg hi0]) ?_
                      refine g_last hX d_D_few_128 (lv_69 _) rfl (by omega) ?_
                      refine g_iinc5 hX d_D_few_129 (v := nI i - nI 1) (by rw [Int32.sub_eq_add_neg]; rfl) rfl (by decide) ?_
                      refine g_goto hX d_D_few_132 ?_
                      refine g_fget 6 ?_
                      refine g_fget 8 ?_
                      rw [sJ_sB]
                      refine ihC _ (by omega) (fun j hj => ?_) (fun j h0 hj => ?_)
                      · rw [updL_eq, if_neg (by omega)]
                        exact c1 j (by omega)
                      · rw [updL_eq]
                        by_cases h1 : j = i
                        · rw [if_pos h1, h1]
                        · rw [if_neg h1]
                          exact c3 j (by omega) hj
                refine g_iload1 hX d_D_few_61 ?_
                refine g_iconst (v := nI 1) hX d_D_few_62 rfl ?_
                refine g_isub hX d_D_few_63 ?_
                refine g_istore5 hX d_D_few_64 rfl (by decide) ?_
                exact lpC k f (Nat.le_refl k) (fun j hj => q2 j hj) (fun j h1 h2 => by omega)
          refine g_aload0 hX d_D_few_25 ?_
          refine g_getF hX d_D_few_26 fl_D_10 (lv_0 _) ?_
          refine g_getF hX d_D_few_29 fl_D_165 (lv_1 _) ?_
          refine g_iconst (v := nI 1) hX d_D_few_32 rfl ?_
          refine g_iald hX d_D_few_33 (lv_8 _) rfl (by decide) ?_
          refine g_topi (hR.t 1 (by decide)) ?_
          refine g_istore3 hX d_D_few_34 rfl (by decide) ?_
          refine g_aload0 hX d_D_few_35 ?_
          refine g_getF hX d_D_few_36 fl_D_79 (lv_0 _) ?_
          refine g_lconst (v := lN 0) hX d_D_few_39 rfl ?_
          refine g_callS (As := [_, _]) hX hF.1 d_D_few_40 ml_D_361 cf_JArrays_fill cs_JArrays_fill rfl (c_JArrays_fillL (m := 20) (x := lN 0) (lv_69 _)) (by omega) (by omega) (by omega) (Nat.le_of_ble_eq_true rfl) ?_
          refine ret_k ?_
          refine g_aload0 hX d_D_few_43 ?_
          refine g_getF hX d_D_few_44 fl_D_79 (lv_0 _) ?_
          refine g_iconst (v := nI 0) hX d_D_few_47 rfl ?_
          refine g_ldc2 (v := lN 1000000000000) hX d_D_few_48 k_D_366 rfl ?_
          refine g_last hX d_D_few_51 (lv_69 _) rfl (by decide) ?_
          refine g_iconst (v := nI 0) hX d_D_few_52 rfl ?_
          refine g_istore4 hX d_D_few_53 rfl (by decide) ?_
          rw [sJ_sB]
          exact lpB (n + 1) 0 _ (by omega) (by omega) (fun j hj => by
            rw [updL_eq]
            unfold fewP
            by_cases h0 : j = 0
            · rw [if_pos h0, if_pos h0]
            · rw [if_neg h0, if_neg h0]
              unfold filL
              rw [if_pos (by omega)])
        · refine g_ldc2 (v := -1) hX d_D_few_21 k_D_359 rfl ?_
          refine g_lret hX hF d_D_few_24 (by omega) (by omega) ?_
          rw [few_no (fun z => by
            first
            | exact absurd z.1 (Int32.not_le.mpr e2)
            | exact absurd z.2.1 (Int32.not_le.mpr e8)
            | exact absurd e12 ((in6 (by decide)).mp z.2.2).1
            | exact absurd (le_61 (m := 99) z.2.2.2 (by decide)) e18)]
          exact ⟨rfl, h, DkD.rf w⟩
theorem c_D_nextDraw {E : EV} {w : Mem} {x : Nat} (hx : x < 1000003) : T E m_D_nextDraw 0 0 0 [.long (lN x)] w (Ret (some (.long (lN (nextS x)))) w) := by
  refine T_of (L := [.long (lN x), un]) cf_D_nextDraw rfl (Nat.le_of_ble_eq_true rfl) (fun X hX hF => ?_)
  refine g_lload0 hX d_D_nextDraw_0 ?_
  refine g_ldc2 (v := lN 1103) hX d_D_nextDraw_1 k_D_385 rfl ?_
  refine g_lmul hX d_D_nextDraw_4 ?_
  refine g_topl (lN_mul _ _) ?_
  refine g_ldc2 (v := lN 12345) hX d_D_nextDraw_5 k_D_387 rfl ?_
  refine g_ladd hX d_D_nextDraw_8 ?_
  refine g_topl (lN_add _ _) ?_
  refine g_ldc2 (v := lN 1000003) hX d_D_nextDraw_9 k_D_389 rfl ?_
  refine g_lrem hX d_D_nextDraw_12 (by decide) ?_
  refine g_topl (y := lN (nextS x)) (pk_lRem (by omega) (by decide) (by decide)) ?_
  refine g_lret hX hF d_D_nextDraw_13 (by omega) (by omega) ?_
  exact ⟨rfl, rfl⟩
/-- what a day makes of the paper -/
def DayP (g g2 : GC) (a b c d : Nat) : Prop := WG g2 ∧ gN g2 = gN g ∧ gT g2 0 = gT g 0 + 1 ∧ gC g2 = (if d = 2 then (fun i => if i = a then c else gC g i) else gC g) ∧ gE g2 = (if d < 2 ∧ a ≠ b then tog (gE g) (codeOf a b) else gE g)
theorem c_D_liveDay {E : EV} {w : Mem} {g : GC} {a b c d : Nat} (hR : BRow w 11 g) (hW : WG g) (ha : a < gN g) (hb : b < gN g) (hc : c < 6) (hd : d < 4) (ht : gT g 0 < 999) : T E m_D_liveDay 3 0 0 [.ref 0, .int (nI a), .int (nI b), .int (nI c), .int (nI d)] w (fun r w2 => r = none ∧ ∃ g2, BRow w2 11 g2 ∧ DayP g g2 a b c d ∧ FrBo 11 w w2) := by
  refine T_of (L := [.ref 0, .int (nI a), .int (nI b), .int (nI c), .int (nI d)]) cf_D_liveDay rfl (Nat.le_of_ble_eq_true rfl) (fun X hX hF => ?_)
  have hn := hW.n
  have k37 : ∀ (g1 : GC) (w1 : Mem), BRow w1 11 g1 → WG g1 → gT g1 0 = gT g 0 → gN g1 = gN g → FrBo 11 w w1 → gC g1 = (if d = 2 then (fun i => if i = a then c else gC g i) else gC g) → gE g1 = (if d < 2 ∧ a ≠ b then tog (gE g) (codeOf a b) else gE g) → G0 E X 0 0 37 [.ref 0, .int (nI a), .int (nI b), .int (nI c), .int (nI d)] [] w1 := by
    intro g1 w1 r1 r2 r3 r4 r5 r6 r7
    refine g_aload0 hX d_D_liveDay_37 ?_
    refine g_getF hX d_D_liveDay_38 fl_D_20 (lv_0 _) ?_
    refine g_getF hX d_D_liveDay_41 fl_D_165 (lv_11 _) ?_
    refine g_iconst (v := nI 0) hX d_D_liveDay_44 rfl ?_
    refine g_dup2 hX d_D_liveDay_45 rfl rfl ?_
    refine g_iald hX d_D_liveDay_46 (lv_18 _) rfl (by decide) ?_
    refine g_topi (show rI w1 18 0 = nI (gT g 0) by rw [← r3]; exact r1.t 0 (by decide)) ?_
    refine g_iconst (v := nI 1) hX d_D_liveDay_47 rfl ?_
    refine g_iaddN hX d_D_liveDay_48 ?_
    refine g_iast hX d_D_liveDay_49 (lv_18 _) rfl (by decide) ?_
    refine g_vret hX hF d_D_liveDay_50 (by omega) (by omega) ?_
    refine ⟨rfl, gTerm g1 0 (gT g 0 + 1), r1.term (by decide), ⟨r2.term (Or.inl ⟨rfl, by omega⟩), r4, ?_, r6, r7⟩, r5.I (by omega)⟩
    rfl
  have k21 : ∀ (g1 : GC) (w1 : Mem), BRow w1 11 g1 → WG g1 → gT g1 0 = gT g 0 → gN g1 = gN g → FrBo 11 w w1 → gC g1 = gC g → gE g1 = (if d < 2 ∧ a ≠ b then tog (gE g) (codeOf a b) else gE g) → G0 E X 0 0 21 [.ref 0, .int (nI a), .int (nI b), .int (nI c), .int (nI d)] [] w1 := by
    intro g1 w1 r1 r2 r3 r4 r5 r6 r7
    refine g_iload4 hX d_D_liveDay_21 ?_
    refine g_iconst (v := nI 2) hX d_D_liveDay_23 rfl ?_
    refine g_icmpN_ne hX d_D_liveDay_24 (by omega) (by omega) (fun e24 => ?_) (fun e24 => ?_)
    · first
      | exact k37 g1 w1 r1 r2 r3 r4 r5 (by rw [if_neg e24]; exact r6) r7
      | exact k37 (gPaint g1 a c) _ r1.paint (r2.paint hc) r3 r4 (r5.I (by omega)) (by rw [if_pos e24, ← r6]; rfl) r7
    · refine g_aload0 hX d_D_liveDay_27 ?_
      refine g_getF hX d_D_liveDay_28 fl_D_20 (lv_0 _) ?_
      refine g_getF hX d_D_liveDay_31 fl_D_117 (lv_11 _) ?_
      refine g_iload1 hX d_D_liveDay_34 ?_
      refine g_iload3 hX d_D_liveDay_35 ?_
      refine g_iast hX d_D_liveDay_36 (lv_12 _) rfl (by omega) ?_
      first
      | exact k37 g1 w1 r1 r2 r3 r4 r5 (by rw [if_neg e24]; exact r6) r7
      | exact k37 (gPaint g1 a c) _ r1.paint (r2.paint hc) r3 r4 (r5.I (by omega)) (by rw [if_pos e24, ← r6]; rfl) r7
  refine g_iload4 hX d_D_liveDay_0 ?_
  refine g_iconst (v := nI 2) hX d_D_liveDay_2 rfl ?_
  refine g_icmpN_ge hX d_D_liveDay_3 (by omega) (by omega) (fun e3 => ?_) (fun e3 => ?_)
  · exact k21 g w hR hW rfl rfl (FrBo.rf 11 w) rfl (by rw [if_neg (fun z => absurd z.1 (by omega))])
  · refine g_iload1 hX d_D_liveDay_6 ?_
    refine g_iload2 hX d_D_liveDay_7 ?_
    refine g_icmpN_eq hX d_D_liveDay_8 (by omega) (by omega) (fun e8 => ?_) (fun e8 => ?_)
    · exact k21 g w hR hW rfl rfl (FrBo.rf 11 w) rfl (by rw [if_neg (fun z => z.2 e8)])
    · refine g_aload0 hX d_D_liveDay_11 ?_
      refine g_getF hX d_D_liveDay_12 fl_D_20 (lv_0 _) ?_
      refine g_iload1 hX d_D_liveDay_15 ?_
      refine g_iload2 hX d_D_liveDay_16 ?_
      refine g_callV (As := [_, _]) hX hF.1 d_D_liveDay_17 ml_D_188 cf_Bo_toggleEdge cv_Bo_toggleEdge rfl rfl (c_Bo_toggleEdge isBo11 hR hW ha hb e8) (rcv_obj hX (lv_11 _) rfl rfl) (by omega) (by omega) (by omega) (Nat.le_of_ble_eq_true rfl) ?_
      rintro rr w1 ⟨hB1, hf1, hrr⟩
      obtain ⟨z, rfl, -⟩ := hrr.ex
      show G0 _ _ _ _ _ _ _ _
      refine g_pop hX d_D_liveDay_20 rfl ?_
      exact k21 (gJoin g a b) w1 hB1 (hW.join ha hb e8) rfl rfl hf1 rfl (by rw [if_pos ⟨by omega, e8⟩]; rfl)
theorem c_D_days {E : EV} {w : Mem} {a n : Int32} {s : SG} (h : DInv w s) : T E m_D_days 4 0 0 [.ref 0, .int a, .int n] w (fun r w2 => r = some (.int (opDays a n s).1) ∧ DInv w2 (opDays a n s).2 ∧ DkD w w2) := by
  refine T_of (L := [.ref 0, .int a, .int n, un, un, un, un, un, un, un, un, un, un, un]) cf_D_days rfl (Nat.le_of_ble_eq_true rfl) (fun X hX hF => ?_)
  obtain ⟨⟨hR, hW, hA⟩, hL, hT, hI, hRF, ⟨hsm, hfa, hsp⟩, hdr, hfx⟩ := id h
  have hn := hW.n
  have hv := hW.v
  have he := hW.el
  have hll := hW.ll
  have hsl := hW.sl
  refine g_iload1 hX d_D_days_0 ?_
  refine g_if_lt hX d_D_days_1 (fun e1 => ?_) (fun e1 => ?_)
  · refine g_aload0 hX d_D_days_22 ?_
    refine g_iconst (v := -1) hX d_D_days_23 rfl ?_
    refine g_callV (As := [_]) hX hF.1 d_D_days_24 ml_D_91 cf_D_refuse cv_D_refuse rfl rfl (c_D_refuse1 hRF) (rcv_obj hX (lv_0 _) rfl rfl) (by omega) (by omega) (by omega) (Nat.le_of_ble_eq_true rfl) ?_
    rintro _ w2 ⟨rfl, hF2, hf2⟩
    show G0 _ _ _ _ _ _ _ _
    refine g_iret hX hF d_D_days_27 (by omega) (by omega) ?_
    rw [days_no1 (fun z => by
      first
      | exact absurd e1 ((in6 (by decide)).mp z.1).1
      | exact absurd (le_61 (m := 1000000) z.1.2 (by decide)) (Int32.not_le.mpr e8)
      | exact absurd z.2.1 (Int32.not_le.mpr e13)
      | exact absurd z.2.2 e19)]
    exact ⟨rfl, h.no hf2 hF2, hf2.N.D⟩
  · refine g_iload1 hX d_D_days_4 ?_
    refine g_ldc_w (v := nI 1000000) hX d_D_days_5 k_D_278 rfl ?_
    refine g_icmp_gt hX d_D_days_8 (fun e8 => ?_) (fun e8 => ?_)
    · refine g_aload0 hX d_D_days_22 ?_
      refine g_iconst (v := -1) hX d_D_days_23 rfl ?_
      refine g_callV (As := [_]) hX hF.1 d_D_days_24 ml_D_91 cf_D_refuse cv_D_refuse rfl rfl (c_D_refuse1 hRF) (rcv_obj hX (lv_0 _) rfl rfl) (by omega) (by omega) (by omega) (Nat.le_of_ble_eq_true rfl) ?_
      rintro _ w2 ⟨rfl, hF2, hf2⟩
      show G0 _ _ _ _ _ _ _ _
      refine g_iret hX hF d_D_days_27 (by omega) (by omega) ?_
      rw [days_no1 (fun z => by
        first
        | exact absurd e1 ((in6 (by decide)).mp z.1).1
        | exact absurd (le_61 (m := 1000000) z.1.2 (by decide)) (Int32.not_le.mpr e8)
        | exact absurd z.2.1 (Int32.not_le.mpr e13)
        | exact absurd z.2.2 e19)]
      exact ⟨rfl, h.no hf2 hF2, hf2.N.D⟩
    · refine g_iload2 hX d_D_days_11 ?_
      refine g_iconst (v := nI 1) hX d_D_days_12 rfl ?_
      refine g_icmp_lt hX d_D_days_13 (fun e13 => ?_) (fun e13 => ?_)
      · refine g_aload0 hX d_D_days_22 ?_
        refine g_iconst (v := -1) hX d_D_days_23 rfl ?_
        refine g_callV (As := [_]) hX hF.1 d_D_days_24 ml_D_91 cf_D_refuse cv_D_refuse rfl rfl (c_D_refuse1 hRF) (rcv_obj hX (lv_0 _) rfl rfl) (by omega) (by omega) (by omega) (Nat.le_of_ble_eq_true rfl) ?_
        rintro _ w2 ⟨rfl, hF2, hf2⟩
        show G0 _ _ _ _ _ _ _ _
        refine g_iret hX hF d_D_days_27 (by omega) (by omega) ?_
        rw [days_no1 (fun z => by
          first
          | exact absurd e1 ((in6 (by decide)).mp z.1).1
          | exact absurd (le_61 (m := 1000000) z.1.2 (by decide)) (Int32.not_le.mpr e8)
          | exact absurd z.2.1 (Int32.not_le.mpr e13)
          | exact absurd z.2.2 e19)]
        exact ⟨rfl, h.no hf2 hF2, hf2.N.D⟩
      · refine g_iload2 hX d_D_days_16 ?_
        refine g_bipush (v := nI 60) hX d_D_days_17 rfl ?_
        refine g_icmp_le hX d_D_days_19 (fun e19 => ?_) (fun e19 => ?_)
        · have hd1 : inN a 1000001 := (in6 (by decide)).mpr ⟨e1, lt_of1 (by decide) (Int32.not_lt.mp e8) (Nat.le_refl _)⟩
          have hd2 : inN a 1000001 ∧ nI 1 ≤ n ∧ n ≤ nI 60 := ⟨hd1, Int32.not_lt.mp e13, e19⟩
          obtain ⟨sd, hsd, rfl, -⟩ := inN_of hd1 (by decide)
          obtain ⟨n, hn1, hn2, rfl⟩ := one_of (n := 60) (by decide) hd2.2
          refine g_aload0 hX d_D_days_28 ?_
          refine g_getF hX d_D_days_29 fl_D_10 (lv_0 _) ?_
          refine g_getI hX d_D_days_32 fl_D_98 (lv_1 _) ?_
          refine g_topi hR.n ?_
          refine g_if_ne hX d_D_days_35 (fun e35 => ?_) (fun e35 => ?_)
          · have hN0 : ¬ gN (sG s) = 0 := fun z => e35 (by rw [z]; rfl)
            have hT0 := hW.t.1
            refine g_aload0 hX d_D_days_45 ?_
            refine g_getF hX d_D_days_46 fl_D_20 (lv_0 _) ?_
            refine g_aload0 hX d_D_days_49 ?_
            refine g_getF hX d_D_days_50 fl_D_10 (lv_0 _) ?_
            refine g_callV (As := [_]) hX hF.1 d_D_days_53 ml_D_370 cf_Bo_copyFrom cv_Bo_copyFrom rfl rfl (c_Bo_copyFrom isBo11 isBo1 (by decide) hfx.2.2.2.1) (rcv_obj hX (lv_11 _) rfl rfl) (by omega) (by omega) (by omega) (Nat.le_of_ble_eq_true rfl) ?_
            refine ret_k ?_
            refine g_iload1 hX d_D_days_56 ?_
            refine g_i2l hX d_D_days_57 ?_
            refine g_topl (nI_l (by omega)) ?_
            refine g_lstore3 hX d_D_days_58 rfl (by decide) ?_
            refine g_iconst (v := nI 0) hX d_D_days_59 rfl ?_
            refine g_istore5 hX d_D_days_60 rfl (by decide) ?_
            obtain ⟨fx, fc, fe, hd0⟩ : ∃ fx fc fe, dayN (gN (sG s)) (min n (999 - gT (sG s) 0)) (sd, gC (sG s), gE (sG s)) = (fx, fc, fe) := ⟨_, _, _, rfl⟩
            have lp : ∀ (fuel : Nat) (k x : Nat) (g : GC) (wk : Mem), n - k < fuel → (BRow wk 11 g) → (WG g) → (gN g = (gN (sG s))) → (gT g 0 = gT (sG s) 0 + k) → (FrBo 11 (CpB w 11 1) wk) → (x < 1000003) → (k ≤ (min n (999 - gT (sG s) 0))) → (dayN (gN (sG s)) ((min n (999 - gT (sG s) 0)) - k) (x, gC g, gE g) = (fx, fc, fe)) → G0 E X 0 0 62 [.ref 0, .int (nI sd), .int (nI n), .long (lN x), un, .int (nI k), un, un, un, un, un, un, un, un] [] wk := by
              intro fuel
              induction fuel with
              | zero => intro k x g wk q0; exact absurd q0 (Nat.not_lt_zero _)
              | succ fuel ih =>
                intro k x g wk q0 q1 q2 q3 q4 q5 q6 q7 q8
                have gn := q2.n
                have ge := q2.el
                refine g_iload5 hX d_D_days_62 ?_
                refine g_iload2 hX d_D_days_64 ?_
                refine g_icmpN_ge hX d_D_days_65 (by omega) (by omega) (fun e65 => ?_) (fun e65 => ?_)
                · refine g_aload0 hX d_D_days_164 ?_
                  refine g_aload0 hX d_D_days_165 ?_
                  refine g_getF hX d_D_days_166 fl_D_20 (lv_0 _) ?_
                  refine g_getI hX d_D_days_169 fl_D_156 (lv_11 _) ?_
                  refine g_topi q1.el ?_
                  have hF1 : DRf wk (sRf s) (sSt s) := hRF.fr (by rw [q5.1 70 (by decide), CpB_o _ _ _ (by decide)]) (by rw [q5.1 0 (by decide), CpB_o _ _ _ (by decide)])
                  refine g_callV (As := [_]) hX hF.1 d_D_days_172 ml_D_95 cf_D_grant cv_D_grant rfl rfl (c_D_grant (y := nI (gE g).length) hF1) (rcv_obj hX (lv_0 _) rfl rfl) (by omega) (by omega) (by omega) (Nat.le_of_ble_eq_true rfl) ?_
                  rintro _ w2 ⟨rfl, hF2, hf2⟩
                  show G0 _ _ _ _ _ _ _ _
                  refine g_iret hX hF d_D_days_175 (by omega) (by omega) ?_
                  have hk : k = (min n (999 - gT (sG s) 0)) := by omega
                  have hz : (x, gC g, gE g) = (fx, fc, fe) := by rw [← q8, hk, Nat.sub_self]; rfl
                  injection hz with z1 z2
                  injection z2 with z3 z4
                  rw [days_ok hsd hn1 hn2 hN0 hd0, ← z3, ← z4]
                  have ho : ∀ a, (a < 11 ∨ 18 < a) → a ≠ 0 → a ≠ 70 → rI w2 a = rI w a := fun a a1 a2 a3 => by rw [hf2.1 a a2 a3, q5.1 a (by omega), CpB_o _ _ _ (by omega)]
                  have hrr : ∀ a, rR w2 a = rR (CpB w 11 1) a := fun a => by unfold rR; rw [hf2.2.2, q5.2]
                  have hel : w2.2.2.2 = w.2.2.2 := by rw [hf2.2.2, q5.2]; rfl
                  have hfx2 : DFx w2 := by
                    have := hfx.cp isBo11 hfx.2.2.2.1
                    obtain ⟨e1, e2, e3, e4, e5, e6, e7, e8⟩ := this
                    refine ⟨?_, by rw [hrr]; exact e2, by rw [hrr]; exact e3, e4.fr2 hel (fun i _ => by rw [hrr]), e5.fr2 hel (fun i _ => by rw [hrr]), e6.fr2 hel (fun i _ => by rw [hrr]), e7.fr2 hel (fun i _ => by rw [hrr]), e8.fr2 hel (fun i _ => by rw [hrr])⟩
                    unfold Dra
                    rw [hrr]
                    exact e1
                  have hL0 : ∀ c ls, c ≠ 11 → ls.length ≤ 6 → BLaws w c ls → BLaws w2 c ls := fun c ls hc hl hL => hL.fr2 hl (fun a ha => ho a (by omega) (by omega) (by omega)) (fun a ha => by rw [hrr, CpB_r _ _ _ (by omega)]) hel (fun i _ => by rw [hrr, CpB_r _ _ _ (by omega)])
                  refine ⟨rfl, ⟨h.g.fr (fun a ha => ho a (by omega) (by omega) (by omega)), hL0 1 _ (by decide) hll hL, hT.fr (by rw [ho 26 (by decide) (by decide) (by decide)]) (ho 27 (by decide) (by decide) (by decide)), fun j hj => ?_, hF2, ⟨?_, ?_, ?_⟩, ?_, hfx2⟩, ⟨fun a a1 a2 => ho a (by omega) (by omega) (by omega), fun a _ _ => by unfold rJ; rw [hf2.2.2, q5.2]; rfl⟩⟩
                  · obtain ⟨g1, g3⟩ := hI j hj
                    refine ⟨by rw [ho _ (by omega) (by omega) (by omega)]; exact g1, fun gz hg => ?_⟩
                    obtain ⟨e1, e2, e3⟩ := g3 gz hg
                    exact ⟨e1.fr (fun a a1 a2 => ho a (by omega) (by omega) (by omega)), e2, hL0 _ _ (by omega) e2.ll e3⟩
                  · rw [hf2.2.1 14 (by decide), q5.1 0 (by decide), CpB_o _ _ _ (by decide)]; exact hsm
                  · show rI w2 25 4 = _
                    rw [ho 25 (by decide) (by decide) (by decide)]; exact hfa
                  · show rI w2 53 9 = _
                    rw [ho 53 (by decide) (by decide) (by decide)]; exact hsp
                  · show gN (sG s) ≤ 12 ∧ rI w2 11 0 = nI (gN (sG s)) ∧ ∀ k, k < gN (sG s) → rI w2 12 k = nI (gC g k) ∧ rI w2 13 k = nI (nearB (gE g) k)
                    have hq1 : BRow w2 11 g := q1.fr (fun a a1 a2 => hf2.1 a (by omega) (by omega))
                    rw [← q3]
                    exact ⟨q2.n, hq1.n, fun k hk => ⟨hq1.c k hk, hq1.nr k hk⟩⟩
                · refine g_aload0 hX d_D_days_68 ?_
                  refine g_getF hX d_D_days_69 fl_D_20 (lv_0 _) ?_
                  refine g_getF hX d_D_days_72 fl_D_165 (lv_11 _) ?_
                  refine g_iconst (v := nI 0) hX d_D_days_75 rfl ?_
                  refine g_iald hX d_D_days_76 (lv_18 _) rfl (by decide) ?_
                  refine g_topi (show rI wk 18 0 = nI (gT (sG s) 0 + k) by rw [← q4]; exact q1.t 0 (by decide)) ?_
                  refine g_sipush (v := nI 999) hX d_D_days_77 rfl ?_
                  refine g_icmpN_ge hX d_D_days_80 (by omega) (by omega) (fun e80 => ?_) (fun e80 => ?_)
                  · refine g_aload0 hX d_D_days_164 ?_
                    refine g_aload0 hX d_D_days_165 ?_
                    refine g_getF hX d_D_days_166 fl_D_20 (lv_0 _) ?_
                    refine g_getI hX d_D_days_169 fl_D_156 (lv_11 _) ?_
                    refine g_topi q1.el ?_
                    have hF1 : DRf wk (sRf s) (sSt s) := hRF.fr (by rw [q5.1 70 (by decide), CpB_o _ _ _ (by decide)]) (by rw [q5.1 0 (by decide), CpB_o _ _ _ (by decide)])
                    refine g_callV (As := [_]) hX hF.1 d_D_days_172 ml_D_95 cf_D_grant cv_D_grant rfl rfl (c_D_grant (y := nI (gE g).length) hF1) (rcv_obj hX (lv_0 _) rfl rfl) (by omega) (by omega) (by omega) (Nat.le_of_ble_eq_true rfl) ?_
                    rintro _ w2 ⟨rfl, hF2, hf2⟩
                    show G0 _ _ _ _ _ _ _ _
                    refine g_iret hX hF d_D_days_175 (by omega) (by omega) ?_
                    have hk : k = (min n (999 - gT (sG s) 0)) := by omega
                    have hz : (x, gC g, gE g) = (fx, fc, fe) := by rw [← q8, hk, Nat.sub_self]; rfl
                    injection hz with z1 z2
                    injection z2 with z3 z4
                    rw [days_ok hsd hn1 hn2 hN0 hd0, ← z3, ← z4]
                    have ho : ∀ a, (a < 11 ∨ 18 < a) → a ≠ 0 → a ≠ 70 → rI w2 a = rI w a := fun a a1 a2 a3 => by rw [hf2.1 a a2 a3, q5.1 a (by omega), CpB_o _ _ _ (by omega)]
                    have hrr : ∀ a, rR w2 a = rR (CpB w 11 1) a := fun a => by unfold rR; rw [hf2.2.2, q5.2]
                    have hel : w2.2.2.2 = w.2.2.2 := by rw [hf2.2.2, q5.2]; rfl
                    have hfx2 : DFx w2 := by
                      have := hfx.cp isBo11 hfx.2.2.2.1
                      obtain ⟨e1, e2, e3, e4, e5, e6, e7, e8⟩ := this
                      refine ⟨?_, by rw [hrr]; exact e2, by rw [hrr]; exact e3, e4.fr2 hel (fun i _ => by rw [hrr]), e5.fr2 hel (fun i _ => by rw [hrr]), e6.fr2 hel (fun i _ => by rw [hrr]), e7.fr2 hel (fun i _ => by rw [hrr]), e8.fr2 hel (fun i _ => by rw [hrr])⟩
                      unfold Dra
                      rw [hrr]
                      exact e1
                    have hL0 : ∀ c ls, c ≠ 11 → ls.length ≤ 6 → BLaws w c ls → BLaws w2 c ls := fun c ls hc hl hL => hL.fr2 hl (fun a ha => ho a (by omega) (by omega) (by omega)) (fun a ha => by rw [hrr, CpB_r _ _ _ (by omega)]) hel (fun i _ => by rw [hrr, CpB_r _ _ _ (by omega)])
                    refine ⟨rfl, ⟨h.g.fr (fun a ha => ho a (by omega) (by omega) (by omega)), hL0 1 _ (by decide) hll hL, hT.fr (by rw [ho 26 (by decide) (by decide) (by decide)]) (ho 27 (by decide) (by decide) (by decide)), fun j hj => ?_, hF2, ⟨?_, ?_, ?_⟩, ?_, hfx2⟩, ⟨fun a a1 a2 => ho a (by omega) (by omega) (by omega), fun a _ _ => by unfold rJ; rw [hf2.2.2, q5.2]; rfl⟩⟩
                    · obtain ⟨g1, g3⟩ := hI j hj
                      refine ⟨by rw [ho _ (by omega) (by omega) (by omega)]; exact g1, fun gz hg => ?_⟩
                      obtain ⟨e1, e2, e3⟩ := g3 gz hg
                      exact ⟨e1.fr (fun a a1 a2 => ho a (by omega) (by omega) (by omega)), e2, hL0 _ _ (by omega) e2.ll e3⟩
                    · rw [hf2.2.1 14 (by decide), q5.1 0 (by decide), CpB_o _ _ _ (by decide)]; exact hsm
                    · show rI w2 25 4 = _
                      rw [ho 25 (by decide) (by decide) (by decide)]; exact hfa
                    · show rI w2 53 9 = _
                      rw [ho 53 (by decide) (by decide) (by decide)]; exact hsp
                    · show gN (sG s) ≤ 12 ∧ rI w2 11 0 = nI (gN (sG s)) ∧ ∀ k, k < gN (sG s) → rI w2 12 k = nI (gC g k) ∧ rI w2 13 k = nI (nearB (gE g) k)
                      have hq1 : BRow w2 11 g := q1.fr (fun a a1 a2 => hf2.1 a (by omega) (by omega))
                      rw [← q3]
                      exact ⟨q2.n, hq1.n, fun k hk => ⟨hq1.c k hk, hq1.nr k hk⟩⟩
                  · refine g_lload3 hX d_D_days_83 ?_
                    refine g_callS (As := [_]) hX hF.1 d_D_days_84 ml_D_373 cf_D_nextDraw cs_D_nextDraw rfl (c_D_nextDraw (by have := nextS_lt x; have := nextS_lt (nextS x); have := nextS_lt (nextS (nextS x)); have := nextS_lt (nextS (nextS (nextS x))); omega)) (by omega) (by omega) (by omega) (Nat.le_of_ble_eq_true rfl) ?_
                    refine ret_k ?_
                    refine g_lstore6 hX d_D_days_87 rfl (by decide) ?_
                    refine g_lload6 hX d_D_days_89 ?_
                    refine g_callS (As := [_]) hX hF.1 d_D_days_91 ml_D_373 cf_D_nextDraw cs_D_nextDraw rfl (c_D_nextDraw (by have := nextS_lt x; have := nextS_lt (nextS x); have := nextS_lt (nextS (nextS x)); have := nextS_lt (nextS (nextS (nextS x))); omega)) (by omega) (by omega) (by omega) (Nat.le_of_ble_eq_true rfl) ?_
                    refine ret_k ?_
                    refine g_lstore8 hX d_D_days_94 rfl (by decide) ?_
                    refine g_lload8 hX d_D_days_96 ?_
                    refine g_callS (As := [_]) hX hF.1 d_D_days_98 ml_D_373 cf_D_nextDraw cs_D_nextDraw rfl (c_D_nextDraw (by have := nextS_lt x; have := nextS_lt (nextS x); have := nextS_lt (nextS (nextS x)); have := nextS_lt (nextS (nextS (nextS x))); omega)) (by omega) (by omega) (by omega) (Nat.le_of_ble_eq_true rfl) ?_
                    refine ret_k ?_
                    refine g_lstore10 hX d_D_days_101 rfl (by decide) ?_
                    refine g_lload10 hX d_D_days_103 ?_
                    refine g_callS (As := [_]) hX hF.1 d_D_days_105 ml_D_373 cf_D_nextDraw cs_D_nextDraw rfl (c_D_nextDraw (by have := nextS_lt x; have := nextS_lt (nextS x); have := nextS_lt (nextS (nextS x)); have := nextS_lt (nextS (nextS (nextS x))); omega)) (by omega) (by omega) (by omega) (Nat.le_of_ble_eq_true rfl) ?_
                    refine ret_k ?_
                    refine g_lstore3 hX d_D_days_108 rfl (by decide) ?_
                    refine g_lload6 hX d_D_days_109 ?_
                    refine g_aload0 hX d_D_days_111 ?_
                    refine g_getF hX d_D_days_112 fl_D_10 (lv_0 _) ?_
                    refine g_getI hX d_D_days_115 fl_D_98 (lv_1 _) ?_
                    refine g_topi (show rI wk 1 0 = nI (gN (sG s)) by rw [q5.1 1 (by decide), CpB_o _ _ _ (by decide)]; exact hR.n) ?_
                    refine g_i2l hX d_D_days_118 ?_
                    refine g_topl (nI_l (by omega)) ?_
                    refine g_lrem hX d_D_days_119 (lN_ne (by omega) (by omega)) ?_
                    refine g_topl (pk_lRem (by have := nextS_lt x; omega) (by omega) (by omega)) ?_
                    refine g_l2i hX d_D_days_120 ?_
                    refine g_topi (lN_i _) ?_
                    refine g_istore12 hX d_D_days_121 rfl (by decide) ?_
                    refine g_lload8 hX d_D_days_123 ?_
                    refine g_aload0 hX d_D_days_125 ?_
                    refine g_getF hX d_D_days_126 fl_D_10 (lv_0 _) ?_
                    refine g_getI hX d_D_days_129 fl_D_98 (lv_1 _) ?_
                    refine g_topi (show rI wk 1 0 = nI (gN (sG s)) by rw [q5.1 1 (by decide), CpB_o _ _ _ (by decide)]; exact hR.n) ?_
                    refine g_i2l hX d_D_days_132 ?_
                    refine g_topl (nI_l (by omega)) ?_
                    refine g_lrem hX d_D_days_133 (lN_ne (by omega) (by omega)) ?_
                    refine g_topl (pk_lRem (by have := nextS_lt (nextS x); omega) (by omega) (by omega)) ?_
                    refine g_l2i hX d_D_days_134 ?_
                    refine g_topi (lN_i _) ?_
                    refine g_istore13 hX d_D_days_135 rfl (by decide) ?_
                    refine g_aload0 hX d_D_days_137 ?_
                    refine g_iload12 hX d_D_days_138 ?_
                    refine g_iload13 hX d_D_days_140 ?_
                    refine g_lload10 hX d_D_days_142 ?_
                    refine g_ldc2 (v := lN 6) hX d_D_days_144 k_D_377 rfl ?_
                    refine g_lrem hX d_D_days_147 (by decide) ?_
                    refine g_topl (pk_lRem (by have := nextS_lt (nextS (nextS x)); omega) (by decide) (by decide)) ?_
                    refine g_l2i hX d_D_days_148 ?_
                    refine g_topi (lN_i _) ?_
                    refine g_lload3 hX d_D_days_149 ?_
                    refine g_ldc2 (v := lN 4) hX d_D_days_150 k_D_379 rfl ?_
                    refine g_lrem hX d_D_days_153 (by decide) ?_
                    refine g_topl (pk_lRem (by have := nextS_lt (nextS (nextS (nextS x))); omega) (by decide) (by decide)) ?_
                    refine g_l2i hX d_D_days_154 ?_
                    refine g_topi (lN_i _) ?_
                    refine g_callV (As := [_, _, _, _]) hX hF.1 d_D_days_155 ml_D_381 cf_D_liveDay cv_D_liveDay rfl rfl (c_D_liveDay (g := g) q1 q2 (by rw [q3]; exact Nat.mod_lt _ (by omega)) (by rw [q3]; exact Nat.mod_lt _ (by omega)) (Nat.mod_lt _ (by decide)) (Nat.mod_lt _ (by decide)) (by omega)) (rcv_obj hX (lv_0 _) rfl rfl) (by omega) (by omega) (by omega) (Nat.le_of_ble_eq_true rfl) ?_
                    rintro _ w2 ⟨rfl, g2, hB2, ⟨hW2, hN2, hT2, hC2, hE2⟩, hf2⟩
                    show G0 _ _ _ _ _ _ _ _
                    refine g_iincN5 hX d_D_days_158 rfl (by decide) ?_
                    refine g_goto hX d_D_days_161 ?_
                    refine g_fget 6 ?_
                    refine g_fget 8 ?_
                    refine g_fget 10 ?_
                    refine g_fget 12 ?_
                    refine g_fget 13 ?_
                    refine ih (k + 1) (nextS (nextS (nextS (nextS x)))) g2 w2 (by omega) hB2 hW2 (hN2.trans q3) (by omega) (q5.tr hf2) (nextS_lt _) (by omega) ?_
                    rw [← q8, show (min n (999 - gT (sG s) 0)) - k = ((min n (999 - gT (sG s) 0)) - (k + 1)) + 1 by omega]
                    show _ = dayN (gN (sG s)) ((min n (999 - gT (sG s) 0)) - (k + 1)) (dayOne (gN (sG s)) (x, gC g, gE g))
                    rw [dayOne_n (N := (gN (sG s))) rfl rfl rfl rfl, hC2, hE2]
            exact lp (n + 1) 0 sd (sG s) _ (by omega) (hR.copy hW) hW rfl rfl (FrBo.rf 11 _) (by omega) (Nat.zero_le _) hd0
          · have hN0 : gN (sG s) = 0 := nI_inj (by omega) (by decide) e35
            refine g_aload0 hX d_D_days_38 ?_
            refine g_bipush (v := -3) hX d_D_days_39 rfl ?_
            refine g_callV (As := [_]) hX hF.1 d_D_days_41 ml_D_91 cf_D_refuse cv_D_refuse rfl rfl (c_D_refuse3 hRF) (rcv_obj hX (lv_0 _) rfl rfl) (by omega) (by omega) (by omega) (Nat.le_of_ble_eq_true rfl) ?_
            rintro _ w2 ⟨rfl, hF2, hf2⟩
            show G0 _ _ _ _ _ _ _ _
            refine g_iret hX hF d_D_days_44 (by omega) (by omega) ?_
            rw [days_no3 hd2 hN0]
            exact ⟨rfl, h.no hf2 hF2, hf2.N.D⟩
        · refine g_aload0 hX d_D_days_22 ?_
          refine g_iconst (v := -1) hX d_D_days_23 rfl ?_
          refine g_callV (As := [_]) hX hF.1 d_D_days_24 ml_D_91 cf_D_refuse cv_D_refuse rfl rfl (c_D_refuse1 hRF) (rcv_obj hX (lv_0 _) rfl rfl) (by omega) (by omega) (by omega) (Nat.le_of_ble_eq_true rfl) ?_
          rintro _ w2 ⟨rfl, hF2, hf2⟩
          show G0 _ _ _ _ _ _ _ _
          refine g_iret hX hF d_D_days_27 (by omega) (by omega) ?_
          rw [days_no1 (fun z => by
            first
            | exact absurd e1 ((in6 (by decide)).mp z.1).1
            | exact absurd (le_61 (m := 1000000) z.1.2 (by decide)) (Int32.not_le.mpr e8)
            | exact absurd z.2.1 (Int32.not_le.mpr e13)
            | exact absurd z.2.2 e19)]
          exact ⟨rfl, h.no hf2 hF2, hf2.N.D⟩
