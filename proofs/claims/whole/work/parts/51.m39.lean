def m_M_candidates : MR := (⟨"SubgraphDeskModel", "candidates", "(II)I"⟩, prog_14_method_102_code, 3, (some .int))
theorem cf_M_candidates : CF m_M_candidates 2 := ⟨gd 2079 (by decide +kernel) rfl, gd 151 (by decide +kernel) rfl, by decide +kernel, by decide, by decide +kernel⟩
theorem cv_M_candidates : CV m_M_candidates := ⟨gd 2077 (by decide +kernel) rfl, gd 2078 (by decide +kernel) rfl⟩
def m_M_layCandidates : MR := (⟨"SubgraphDeskModel", "layCandidates", "(I)V"⟩, prog_14_method_98_code, 4, none)
theorem cf_M_layCandidates : CF m_M_layCandidates 1 := ⟨gd 2083 (by decide +kernel) rfl, gd 151 (by decide +kernel) rfl, by decide +kernel, by decide, by decide +kernel⟩
theorem cv_M_layCandidates : CV m_M_layCandidates := ⟨gd 2082 (by decide +kernel) rfl, gd 116 (by decide +kernel) rfl⟩
def m_M_narrow : MR := (⟨"SubgraphDeskModel", "narrow", "(I)V"⟩, prog_14_method_101_code, 5, none)
theorem cf_M_narrow : CF m_M_narrow 1 := ⟨gd 2095 (by decide +kernel) rfl, gd 151 (by decide +kernel) rfl, by decide +kernel, by decide, by decide +kernel⟩
theorem cv_M_narrow : CV m_M_narrow := ⟨gd 2094 (by decide +kernel) rfl, gd 119 (by decide +kernel) rfl⟩
theorem d_M_candidates_0 : Dc prog_14_method_102_code 0 (.aload_n 0) 1 1 := ⟨by decide +kernel, rfl⟩
theorem d_M_candidates_1 : Dc prog_14_method_102_code 1 (.iconst 0) 1 2 := ⟨by decide +kernel, rfl⟩
theorem d_M_candidates_2 : Dc prog_14_method_102_code 2 (.putfield 170) 3 5 := ⟨by decide +kernel, rfl⟩
theorem d_M_candidates_5 : Dc prog_14_method_102_code 5 (.aload_n 0) 1 6 := ⟨by decide +kernel, rfl⟩
theorem d_M_candidates_6 : Dc prog_14_method_102_code 6 (.iload_n 1) 1 7 := ⟨by decide +kernel, rfl⟩
theorem d_M_candidates_7 : Dc prog_14_method_102_code 7 (.invokevirtual 221) 3 10 := ⟨by decide +kernel, rfl⟩
theorem d_M_candidates_10 : Dj prog_14_method_102_code 10 (.ifCond .eq 15) 13 15 25 := ⟨by decide +kernel, rfl, rfl⟩
theorem d_M_candidates_13 : Dc prog_14_method_102_code 13 (.iload_n 2) 1 14 := ⟨by decide +kernel, rfl⟩
theorem d_M_candidates_14 : Dc prog_14_method_102_code 14 (.i2l) 1 15 := ⟨by decide +kernel, rfl⟩
theorem d_M_candidates_15 : Dc prog_14_method_102_code 15 (.lconst 0) 1 16 := ⟨by decide +kernel, rfl⟩
theorem d_M_candidates_16 : Dc prog_14_method_102_code 16 (.ldc2_w 238) 3 19 := ⟨by decide +kernel, rfl⟩
theorem d_M_candidates_19 : Dc prog_14_method_102_code 19 (.invokestatic 190) 3 22 := ⟨by decide +kernel, rfl⟩
theorem d_M_candidates_22 : Dj prog_14_method_102_code 22 (.ifCond .ne 5) 25 5 27 := ⟨by decide +kernel, rfl, rfl⟩
theorem d_M_candidates_25 : Dc prog_14_method_102_code 25 (.iconst (-1)) 1 26 := ⟨by decide +kernel, rfl⟩
theorem d_M_candidates_26 : Dc prog_14_method_102_code 26 (.ireturn) 1 27 := ⟨by decide +kernel, rfl⟩
theorem d_M_candidates_27 : Dc prog_14_method_102_code 27 (.aload_n 0) 1 28 := ⟨by decide +kernel, rfl⟩
theorem d_M_candidates_28 : Dc prog_14_method_102_code 28 (.iload_n 2) 1 29 := ⟨by decide +kernel, rfl⟩
theorem d_M_candidates_29 : Dc prog_14_method_102_code 29 (.invokevirtual 511) 3 32 := ⟨by decide +kernel, rfl⟩
theorem d_M_candidates_32 : Dc prog_14_method_102_code 32 (.aload_n 0) 1 33 := ⟨by decide +kernel, rfl⟩
theorem d_M_candidates_33 : Dc prog_14_method_102_code 33 (.getfield 123) 3 36 := ⟨by decide +kernel, rfl⟩
theorem d_M_candidates_36 : Dc prog_14_method_102_code 36 (.iload_n 1) 1 37 := ⟨by decide +kernel, rfl⟩
theorem d_M_candidates_37 : Dc prog_14_method_102_code 37 (.iaload) 1 38 := ⟨by decide +kernel, rfl⟩
theorem d_M_candidates_38 : Dc prog_14_method_102_code 38 (.ireturn) 1 39 := ⟨by decide +kernel, rfl⟩
theorem d_M_layCandidates_0 : Dc prog_14_method_98_code 0 (.aload_n 0) 1 1 := ⟨by decide +kernel, rfl⟩
theorem d_M_layCandidates_1 : Dc prog_14_method_98_code 1 (.invokevirtual 462) 3 4 := ⟨by decide +kernel, rfl⟩
theorem d_M_layCandidates_4 : Dc prog_14_method_98_code 4 (.iconst 0) 1 5 := ⟨by decide +kernel, rfl⟩
theorem d_M_layCandidates_5 : Dc prog_14_method_98_code 5 (.istore_n 2) 1 6 := ⟨by decide +kernel, rfl⟩
theorem d_M_layCandidates_6 : Dc prog_14_method_98_code 6 (.iload_n 2) 1 7 := ⟨by decide +kernel, rfl⟩
theorem d_M_layCandidates_7 : Dc prog_14_method_98_code 7 (.aload_n 0) 1 8 := ⟨by decide +kernel, rfl⟩
theorem d_M_layCandidates_8 : Dc prog_14_method_98_code 8 (.getfield 13) 3 11 := ⟨by decide +kernel, rfl⟩
theorem d_M_layCandidates_11 : Dc prog_14_method_98_code 11 (.iconst 1) 1 12 := ⟨by decide +kernel, rfl⟩
theorem d_M_layCandidates_12 : Dc prog_14_method_98_code 12 (.iaload) 1 13 := ⟨by decide +kernel, rfl⟩
theorem d_M_layCandidates_13 : Dj prog_14_method_98_code 13 (.if_icmp .ge 87) 16 87 100 := ⟨by decide +kernel, rfl, rfl⟩
theorem d_M_layCandidates_16 : Dc prog_14_method_98_code 16 (.aload_n 0) 1 17 := ⟨by decide +kernel, rfl⟩
theorem d_M_layCandidates_17 : Dc prog_14_method_98_code 17 (.getfield 123) 3 20 := ⟨by decide +kernel, rfl⟩
theorem d_M_layCandidates_20 : Dc prog_14_method_98_code 20 (.iload_n 2) 1 21 := ⟨by decide +kernel, rfl⟩
theorem d_M_layCandidates_21 : Dc prog_14_method_98_code 21 (.iconst 0) 1 22 := ⟨by decide +kernel, rfl⟩
theorem d_M_layCandidates_22 : Dc prog_14_method_98_code 22 (.iastore) 1 23 := ⟨by decide +kernel, rfl⟩
theorem d_M_layCandidates_23 : Dc prog_14_method_98_code 23 (.iconst 0) 1 24 := ⟨by decide +kernel, rfl⟩
theorem d_M_layCandidates_24 : Dc prog_14_method_98_code 24 (.istore_n 3) 1 25 := ⟨by decide +kernel, rfl⟩
theorem d_M_layCandidates_25 : Dc prog_14_method_98_code 25 (.iload_n 3) 1 26 := ⟨by decide +kernel, rfl⟩
theorem d_M_layCandidates_26 : Dc prog_14_method_98_code 26 (.aload_n 0) 1 27 := ⟨by decide +kernel, rfl⟩
theorem d_M_layCandidates_27 : Dc prog_14_method_98_code 27 (.getfield 13) 3 30 := ⟨by decide +kernel, rfl⟩
theorem d_M_layCandidates_30 : Dc prog_14_method_98_code 30 (.iconst 0) 1 31 := ⟨by decide +kernel, rfl⟩
theorem d_M_layCandidates_31 : Dc prog_14_method_98_code 31 (.iaload) 1 32 := ⟨by decide +kernel, rfl⟩
theorem d_M_layCandidates_32 : Dj prog_14_method_98_code 32 (.if_icmp .ge 62) 35 62 94 := ⟨by decide +kernel, rfl, rfl⟩
theorem d_M_layCandidates_35 : Dc prog_14_method_98_code 35 (.aload_n 0) 1 36 := ⟨by decide +kernel, rfl⟩
theorem d_M_layCandidates_36 : Dc prog_14_method_98_code 36 (.getfield 123) 3 39 := ⟨by decide +kernel, rfl⟩
theorem d_M_layCandidates_39 : Dc prog_14_method_98_code 39 (.iload_n 2) 1 40 := ⟨by decide +kernel, rfl⟩
theorem d_M_layCandidates_40 : Dc prog_14_method_98_code 40 (.dup2) 1 41 := ⟨by decide +kernel, rfl⟩
theorem d_M_layCandidates_41 : Dc prog_14_method_98_code 41 (.iaload) 1 42 := ⟨by decide +kernel, rfl⟩
theorem d_M_layCandidates_42 : Dc prog_14_method_98_code 42 (.aload_n 0) 1 43 := ⟨by decide +kernel, rfl⟩
theorem d_M_layCandidates_43 : Dc prog_14_method_98_code 43 (.getfield 105) 3 46 := ⟨by decide +kernel, rfl⟩
theorem d_M_layCandidates_46 : Dc prog_14_method_98_code 46 (.iload_n 2) 1 47 := ⟨by decide +kernel, rfl⟩
theorem d_M_layCandidates_47 : Dc prog_14_method_98_code 47 (.iaload) 1 48 := ⟨by decide +kernel, rfl⟩
theorem d_M_layCandidates_48 : Dc prog_14_method_98_code 48 (.iload_n 3) 1 49 := ⟨by decide +kernel, rfl⟩
theorem d_M_layCandidates_49 : Dc prog_14_method_98_code 49 (.invokestatic 468) 3 52 := ⟨by decide +kernel, rfl⟩
theorem d_M_layCandidates_52 : Dj prog_14_method_98_code 52 (.ifCond .eq 33) 55 33 85 := ⟨by decide +kernel, rfl, rfl⟩
theorem d_M_layCandidates_55 : Dc prog_14_method_98_code 55 (.aload_n 0) 1 56 := ⟨by decide +kernel, rfl⟩
theorem d_M_layCandidates_56 : Dc prog_14_method_98_code 56 (.getfield 102) 3 59 := ⟨by decide +kernel, rfl⟩
theorem d_M_layCandidates_59 : Dc prog_14_method_98_code 59 (.iload_n 3) 1 60 := ⟨by decide +kernel, rfl⟩
theorem d_M_layCandidates_60 : Dc prog_14_method_98_code 60 (.iaload) 1 61 := ⟨by decide +kernel, rfl⟩
theorem d_M_layCandidates_61 : Dc prog_14_method_98_code 61 (.invokestatic 204) 3 64 := ⟨by decide +kernel, rfl⟩
theorem d_M_layCandidates_64 : Dc prog_14_method_98_code 64 (.aload_n 0) 1 65 := ⟨by decide +kernel, rfl⟩
theorem d_M_layCandidates_65 : Dc prog_14_method_98_code 65 (.getfield 13) 3 68 := ⟨by decide +kernel, rfl⟩
theorem d_M_layCandidates_68 : Dc prog_14_method_98_code 68 (.bipush 26) 2 70 := ⟨by decide +kernel, rfl⟩
theorem d_M_layCandidates_70 : Dc prog_14_method_98_code 70 (.iload_n 2) 1 71 := ⟨by decide +kernel, rfl⟩
theorem d_M_layCandidates_71 : Dc prog_14_method_98_code 71 (.iadd) 1 72 := ⟨by decide +kernel, rfl⟩
theorem d_M_layCandidates_72 : Dc prog_14_method_98_code 72 (.iaload) 1 73 := ⟨by decide +kernel, rfl⟩
theorem d_M_layCandidates_73 : Dc prog_14_method_98_code 73 (.invokestatic 204) 3 76 := ⟨by decide +kernel, rfl⟩
theorem d_M_layCandidates_76 : Dj prog_14_method_98_code 76 (.if_icmp .lt 9) 79 9 85 := ⟨by decide +kernel, rfl, rfl⟩
theorem d_M_layCandidates_79 : Dc prog_14_method_98_code 79 (.iconst 1) 1 80 := ⟨by decide +kernel, rfl⟩
theorem d_M_layCandidates_80 : Dc prog_14_method_98_code 80 (.iload_n 3) 1 81 := ⟨by decide +kernel, rfl⟩
theorem d_M_layCandidates_81 : Dc prog_14_method_98_code 81 (.ishl) 1 82 := ⟨by decide +kernel, rfl⟩
theorem d_M_layCandidates_82 : Dj prog_14_method_98_code 82 (.goto 4) 85 4 86 := ⟨by decide +kernel, rfl, rfl⟩
theorem d_M_layCandidates_85 : Dc prog_14_method_98_code 85 (.iconst 0) 1 86 := ⟨by decide +kernel, rfl⟩
theorem d_M_layCandidates_86 : Dc prog_14_method_98_code 86 (.ior) 1 87 := ⟨by decide +kernel, rfl⟩
theorem d_M_layCandidates_87 : Dc prog_14_method_98_code 87 (.iastore) 1 88 := ⟨by decide +kernel, rfl⟩
theorem d_M_layCandidates_88 : Dc prog_14_method_98_code 88 (.iinc 3 1) 3 91 := ⟨by decide +kernel, rfl⟩
theorem d_M_layCandidates_91 : Dj prog_14_method_98_code 91 (.goto (-66)) 94 (-66) 25 := ⟨by decide +kernel, rfl, rfl⟩
theorem d_M_layCandidates_94 : Dc prog_14_method_98_code 94 (.iinc 2 1) 3 97 := ⟨by decide +kernel, rfl⟩
theorem d_M_layCandidates_97 : Dj prog_14_method_98_code 97 (.goto (-91)) 100 (-91) 6 := ⟨by decide +kernel, rfl, rfl⟩
theorem d_M_layCandidates_100 : Dc prog_14_method_98_code 100 (.aload_n 0) 1 101 := ⟨by decide +kernel, rfl⟩
theorem d_M_layCandidates_101 : Dc prog_14_method_98_code 101 (.invokevirtual 502) 3 104 := ⟨by decide +kernel, rfl⟩
theorem d_M_layCandidates_104 : Dc prog_14_method_98_code 104 (.iconst 0) 1 105 := ⟨by decide +kernel, rfl⟩
theorem d_M_layCandidates_105 : Dc prog_14_method_98_code 105 (.istore_n 2) 1 106 := ⟨by decide +kernel, rfl⟩
theorem d_M_layCandidates_106 : Dc prog_14_method_98_code 106 (.iload_n 2) 1 107 := ⟨by decide +kernel, rfl⟩
theorem d_M_layCandidates_107 : Dc prog_14_method_98_code 107 (.iload_n 1) 1 108 := ⟨by decide +kernel, rfl⟩
theorem d_M_layCandidates_108 : Dj prog_14_method_98_code 108 (.if_icmp .ge 56) 111 56 164 := ⟨by decide +kernel, rfl, rfl⟩
theorem d_M_layCandidates_111 : Dc prog_14_method_98_code 111 (.iconst 0) 1 112 := ⟨by decide +kernel, rfl⟩
theorem d_M_layCandidates_112 : Dc prog_14_method_98_code 112 (.istore_n 3) 1 113 := ⟨by decide +kernel, rfl⟩
theorem d_M_layCandidates_113 : Dc prog_14_method_98_code 113 (.iload_n 3) 1 114 := ⟨by decide +kernel, rfl⟩
theorem d_M_layCandidates_114 : Dc prog_14_method_98_code 114 (.aload_n 0) 1 115 := ⟨by decide +kernel, rfl⟩
theorem d_M_layCandidates_115 : Dc prog_14_method_98_code 115 (.getfield 13) 3 118 := ⟨by decide +kernel, rfl⟩
theorem d_M_layCandidates_118 : Dc prog_14_method_98_code 118 (.iconst 1) 1 119 := ⟨by decide +kernel, rfl⟩
theorem d_M_layCandidates_119 : Dc prog_14_method_98_code 119 (.iaload) 1 120 := ⟨by decide +kernel, rfl⟩
theorem d_M_layCandidates_120 : Dj prog_14_method_98_code 120 (.if_icmp .ge 38) 123 38 158 := ⟨by decide +kernel, rfl, rfl⟩
theorem d_M_layCandidates_123 : Dc prog_14_method_98_code 123 (.aload_n 0) 1 124 := ⟨by decide +kernel, rfl⟩
theorem d_M_layCandidates_124 : Dc prog_14_method_98_code 124 (.aload_n 0) 1 125 := ⟨by decide +kernel, rfl⟩
theorem d_M_layCandidates_125 : Dc prog_14_method_98_code 125 (.getfield 126) 3 128 := ⟨by decide +kernel, rfl⟩
theorem d_M_layCandidates_128 : Dc prog_14_method_98_code 128 (.iload_n 2) 1 129 := ⟨by decide +kernel, rfl⟩
theorem d_M_layCandidates_129 : Dc prog_14_method_98_code 129 (.iconst 2) 1 130 := ⟨by decide +kernel, rfl⟩
theorem d_M_layCandidates_130 : Dc prog_14_method_98_code 130 (.irem) 1 131 := ⟨by decide +kernel, rfl⟩
theorem d_M_layCandidates_131 : Dj prog_14_method_98_code 131 (.ifCond .ne 16) 134 16 147 := ⟨by decide +kernel, rfl, rfl⟩
theorem d_M_layCandidates_134 : Dc prog_14_method_98_code 134 (.aload_n 0) 1 135 := ⟨by decide +kernel, rfl⟩
theorem d_M_layCandidates_135 : Dc prog_14_method_98_code 135 (.getfield 13) 3 138 := ⟨by decide +kernel, rfl⟩
theorem d_M_layCandidates_138 : Dc prog_14_method_98_code 138 (.iconst 1) 1 139 := ⟨by decide +kernel, rfl⟩
theorem d_M_layCandidates_139 : Dc prog_14_method_98_code 139 (.iaload) 1 140 := ⟨by decide +kernel, rfl⟩
theorem d_M_layCandidates_140 : Dc prog_14_method_98_code 140 (.iconst 1) 1 141 := ⟨by decide +kernel, rfl⟩
theorem d_M_layCandidates_141 : Dc prog_14_method_98_code 141 (.isub) 1 142 := ⟨by decide +kernel, rfl⟩
theorem d_M_layCandidates_142 : Dc prog_14_method_98_code 142 (.iload_n 3) 1 143 := ⟨by decide +kernel, rfl⟩
theorem d_M_layCandidates_143 : Dc prog_14_method_98_code 143 (.isub) 1 144 := ⟨by decide +kernel, rfl⟩
theorem d_M_layCandidates_144 : Dj prog_14_method_98_code 144 (.goto 4) 147 4 148 := ⟨by decide +kernel, rfl, rfl⟩
theorem d_M_layCandidates_147 : Dc prog_14_method_98_code 147 (.iload_n 3) 1 148 := ⟨by decide +kernel, rfl⟩
theorem d_M_layCandidates_148 : Dc prog_14_method_98_code 148 (.iaload) 1 149 := ⟨by decide +kernel, rfl⟩
theorem d_M_layCandidates_149 : Dc prog_14_method_98_code 149 (.invokevirtual 505) 3 152 := ⟨by decide +kernel, rfl⟩
theorem d_M_layCandidates_152 : Dc prog_14_method_98_code 152 (.iinc 3 1) 3 155 := ⟨by decide +kernel, rfl⟩
theorem d_M_layCandidates_155 : Dj prog_14_method_98_code 155 (.goto (-42)) 158 (-42) 113 := ⟨by decide +kernel, rfl, rfl⟩
theorem d_M_layCandidates_158 : Dc prog_14_method_98_code 158 (.iinc 2 1) 3 161 := ⟨by decide +kernel, rfl⟩
theorem d_M_layCandidates_161 : Dj prog_14_method_98_code 161 (.goto (-55)) 164 (-55) 106 := ⟨by decide +kernel, rfl, rfl⟩
theorem d_M_layCandidates_164 : Dc prog_14_method_98_code 164 (.return_) 1 165 := ⟨by decide +kernel, rfl⟩
theorem d_M_narrow_0 : Dc prog_14_method_101_code 0 (.iconst 0) 1 1 := ⟨by decide +kernel, rfl⟩
theorem d_M_narrow_1 : Dc prog_14_method_101_code 1 (.istore_n 2) 1 2 := ⟨by decide +kernel, rfl⟩
theorem d_M_narrow_2 : Dc prog_14_method_101_code 2 (.iload_n 2) 1 3 := ⟨by decide +kernel, rfl⟩
theorem d_M_narrow_3 : Dc prog_14_method_101_code 3 (.aload_n 0) 1 4 := ⟨by decide +kernel, rfl⟩
theorem d_M_narrow_4 : Dc prog_14_method_101_code 4 (.getfield 13) 3 7 := ⟨by decide +kernel, rfl⟩
theorem d_M_narrow_7 : Dc prog_14_method_101_code 7 (.iconst 0) 1 8 := ⟨by decide +kernel, rfl⟩
theorem d_M_narrow_8 : Dc prog_14_method_101_code 8 (.iaload) 1 9 := ⟨by decide +kernel, rfl⟩
theorem d_M_narrow_9 : Dj prog_14_method_101_code 9 (.if_icmp .ge 102) 12 102 111 := ⟨by decide +kernel, rfl, rfl⟩
theorem d_M_narrow_12 : Dc prog_14_method_101_code 12 (.iconst 1) 1 13 := ⟨by decide +kernel, rfl⟩
theorem d_M_narrow_13 : Dc prog_14_method_101_code 13 (.istore_n 3) 1 14 := ⟨by decide +kernel, rfl⟩
theorem d_M_narrow_14 : Dc prog_14_method_101_code 14 (.iconst 0) 1 15 := ⟨by decide +kernel, rfl⟩
theorem d_M_narrow_15 : Dc prog_14_method_101_code 15 (.istore 4) 2 17 := ⟨by decide +kernel, rfl⟩
theorem d_M_narrow_17 : Dc prog_14_method_101_code 17 (.iload 4) 2 19 := ⟨by decide +kernel, rfl⟩
theorem d_M_narrow_19 : Dc prog_14_method_101_code 19 (.aload_n 0) 1 20 := ⟨by decide +kernel, rfl⟩
theorem d_M_narrow_20 : Dc prog_14_method_101_code 20 (.getfield 13) 3 23 := ⟨by decide +kernel, rfl⟩
theorem d_M_narrow_23 : Dc prog_14_method_101_code 23 (.iconst 1) 1 24 := ⟨by decide +kernel, rfl⟩
theorem d_M_narrow_24 : Dc prog_14_method_101_code 24 (.iaload) 1 25 := ⟨by decide +kernel, rfl⟩
theorem d_M_narrow_25 : Dj prog_14_method_101_code 25 (.if_icmp .ge 53) 28 53 78 := ⟨by decide +kernel, rfl, rfl⟩
theorem d_M_narrow_28 : Dc prog_14_method_101_code 28 (.iload_n 3) 1 29 := ⟨by decide +kernel, rfl⟩
theorem d_M_narrow_29 : Dj prog_14_method_101_code 29 (.ifCond .eq 41) 32 41 70 := ⟨by decide +kernel, rfl, rfl⟩
theorem d_M_narrow_32 : Dc prog_14_method_101_code 32 (.aload_n 0) 1 33 := ⟨by decide +kernel, rfl⟩
theorem d_M_narrow_33 : Dc prog_14_method_101_code 33 (.getfield 13) 3 36 := ⟨by decide +kernel, rfl⟩
theorem d_M_narrow_36 : Dc prog_14_method_101_code 36 (.bipush 26) 2 38 := ⟨by decide +kernel, rfl⟩
theorem d_M_narrow_38 : Dc prog_14_method_101_code 38 (.iload_n 1) 1 39 := ⟨by decide +kernel, rfl⟩
theorem d_M_narrow_39 : Dc prog_14_method_101_code 39 (.iadd) 1 40 := ⟨by decide +kernel, rfl⟩
theorem d_M_narrow_40 : Dc prog_14_method_101_code 40 (.iaload) 1 41 := ⟨by decide +kernel, rfl⟩
theorem d_M_narrow_41 : Dc prog_14_method_101_code 41 (.iload 4) 2 43 := ⟨by decide +kernel, rfl⟩
theorem d_M_narrow_43 : Dc prog_14_method_101_code 43 (.invokestatic 468) 3 46 := ⟨by decide +kernel, rfl⟩
theorem d_M_narrow_46 : Dj prog_14_method_101_code 46 (.ifCond .eq 20) 49 20 66 := ⟨by decide +kernel, rfl, rfl⟩
theorem d_M_narrow_49 : Dc prog_14_method_101_code 49 (.aload_n 0) 1 50 := ⟨by decide +kernel, rfl⟩
theorem d_M_narrow_50 : Dc prog_14_method_101_code 50 (.getfield 102) 3 53 := ⟨by decide +kernel, rfl⟩
theorem d_M_narrow_53 : Dc prog_14_method_101_code 53 (.iload_n 2) 1 54 := ⟨by decide +kernel, rfl⟩
theorem d_M_narrow_54 : Dc prog_14_method_101_code 54 (.iaload) 1 55 := ⟨by decide +kernel, rfl⟩
theorem d_M_narrow_55 : Dc prog_14_method_101_code 55 (.aload_n 0) 1 56 := ⟨by decide +kernel, rfl⟩
theorem d_M_narrow_56 : Dc prog_14_method_101_code 56 (.getfield 123) 3 59 := ⟨by decide +kernel, rfl⟩
theorem d_M_narrow_59 : Dc prog_14_method_101_code 59 (.iload 4) 2 61 := ⟨by decide +kernel, rfl⟩
theorem d_M_narrow_61 : Dc prog_14_method_101_code 61 (.iaload) 1 62 := ⟨by decide +kernel, rfl⟩
theorem d_M_narrow_62 : Dc prog_14_method_101_code 62 (.iand) 1 63 := ⟨by decide +kernel, rfl⟩
theorem d_M_narrow_63 : Dj prog_14_method_101_code 63 (.ifCond .eq 7) 66 7 70 := ⟨by decide +kernel, rfl, rfl⟩
theorem d_M_narrow_66 : Dc prog_14_method_101_code 66 (.iconst 1) 1 67 := ⟨by decide +kernel, rfl⟩
theorem d_M_narrow_67 : Dj prog_14_method_101_code 67 (.goto 4) 70 4 71 := ⟨by decide +kernel, rfl, rfl⟩
theorem d_M_narrow_70 : Dc prog_14_method_101_code 70 (.iconst 0) 1 71 := ⟨by decide +kernel, rfl⟩
theorem d_M_narrow_71 : Dc prog_14_method_101_code 71 (.istore_n 3) 1 72 := ⟨by decide +kernel, rfl⟩
theorem d_M_narrow_72 : Dc prog_14_method_101_code 72 (.iinc 4 1) 3 75 := ⟨by decide +kernel, rfl⟩
theorem d_M_narrow_75 : Dj prog_14_method_101_code 75 (.goto (-58)) 78 (-58) 17 := ⟨by decide +kernel, rfl, rfl⟩
theorem d_M_narrow_78 : Dc prog_14_method_101_code 78 (.aload_n 0) 1 79 := ⟨by decide +kernel, rfl⟩
theorem d_M_narrow_79 : Dc prog_14_method_101_code 79 (.getfield 123) 3 82 := ⟨by decide +kernel, rfl⟩
theorem d_M_narrow_82 : Dc prog_14_method_101_code 82 (.iload_n 1) 1 83 := ⟨by decide +kernel, rfl⟩
theorem d_M_narrow_83 : Dc prog_14_method_101_code 83 (.dup2) 1 84 := ⟨by decide +kernel, rfl⟩
theorem d_M_narrow_84 : Dc prog_14_method_101_code 84 (.iaload) 1 85 := ⟨by decide +kernel, rfl⟩
theorem d_M_narrow_85 : Dc prog_14_method_101_code 85 (.iload_n 3) 1 86 := ⟨by decide +kernel, rfl⟩
theorem d_M_narrow_86 : Dj prog_14_method_101_code 86 (.ifCond .eq 12) 89 12 98 := ⟨by decide +kernel, rfl, rfl⟩
theorem d_M_narrow_89 : Dc prog_14_method_101_code 89 (.aload_n 0) 1 90 := ⟨by decide +kernel, rfl⟩
theorem d_M_narrow_90 : Dc prog_14_method_101_code 90 (.getfield 123) 3 93 := ⟨by decide +kernel, rfl⟩
theorem d_M_narrow_93 : Dc prog_14_method_101_code 93 (.iload_n 1) 1 94 := ⟨by decide +kernel, rfl⟩
theorem d_M_narrow_94 : Dc prog_14_method_101_code 94 (.iaload) 1 95 := ⟨by decide +kernel, rfl⟩
theorem d_M_narrow_95 : Dj prog_14_method_101_code 95 (.goto 8) 98 8 103 := ⟨by decide +kernel, rfl, rfl⟩
theorem d_M_narrow_98 : Dc prog_14_method_101_code 98 (.iconst 1) 1 99 := ⟨by decide +kernel, rfl⟩
theorem d_M_narrow_99 : Dc prog_14_method_101_code 99 (.iload_n 2) 1 100 := ⟨by decide +kernel, rfl⟩
theorem d_M_narrow_100 : Dc prog_14_method_101_code 100 (.ishl) 1 101 := ⟨by decide +kernel, rfl⟩
theorem d_M_narrow_101 : Dc prog_14_method_101_code 101 (.iconst (-1)) 1 102 := ⟨by decide +kernel, rfl⟩
theorem d_M_narrow_102 : Dc prog_14_method_101_code 102 (.ixor) 1 103 := ⟨by decide +kernel, rfl⟩
theorem d_M_narrow_103 : Dc prog_14_method_101_code 103 (.iand) 1 104 := ⟨by decide +kernel, rfl⟩
theorem d_M_narrow_104 : Dc prog_14_method_101_code 104 (.iastore) 1 105 := ⟨by decide +kernel, rfl⟩
theorem d_M_narrow_105 : Dc prog_14_method_101_code 105 (.iinc 2 1) 3 108 := ⟨by decide +kernel, rfl⟩
theorem d_M_narrow_108 : Dj prog_14_method_101_code 108 (.goto (-106)) 111 (-106) 2 := ⟨by decide +kernel, rfl, rfl⟩
theorem d_M_narrow_111 : Dc prog_14_method_101_code 111 (.return_) 1 112 := ⟨by decide +kernel, rfl⟩
theorem ml_M_502 : Cond.methodLink "SubgraphDeskModel" 502 m_M_layOrder.1 ∈ lw_gd := gd 2084 (by decide +kernel) rfl
theorem ml_M_505 : Cond.methodLink "SubgraphDeskModel" 505 m_M_narrow.1 ∈ lw_gd := gd 2092 (by decide +kernel) rfl
theorem ml_M_511 : Cond.methodLink "SubgraphDeskModel" 511 m_M_layCandidates.1 ∈ lw_gd := gd 2080 (by decide +kernel) rfl
theorem sup_l {v n o : Nat} {a b : Int32} (h : a = b) : ([.ref 89, .int (nI v), .int (nI n), .int a, .int (nI (o + 1))] : List Value) = [.ref 89, .int (nI v), .int (nI n), .int b, .int (nI (o + 1))] := by rw [h]
theorem sup_a {g : GC} {c : Nat → Nat} {v n o : Nat} (h : ¬ supK g c v n o = true) : nI 0 = b2i (supK g c v n (o + 1) = true) := by
  rw [b2i_f (by unfold supK; simp [h])]; rfl
theorem sup_b {g : GC} {c : Nat → Nat} {v n o : Nat} (h : supK g c v n o = true) (h2 : ¬ (gK g v).testBit o = true) : nI 1 = b2i (supK g c v n (o + 1) = true) := by
  rw [b2i_t (by unfold supK; simp [h, h2])]; rfl
theorem sup_c {g : GC} {c : Nat → Nat} {v n o : Nat} (h2 : (gK g v).testBit o = true) (h3 : nearB (gE g) n &&& c o = 0) : nI 0 = b2i (supK g c v n (o + 1) = true) := by
  rw [b2i_f (by unfold supK; simp [h2, h3])]; rfl
theorem sup_d {g : GC} {c : Nat → Nat} {v n o : Nat} (h : supK g c v n o = true) (h3 : ¬ nearB (gE g) n &&& c o = 0) : nI 1 = b2i (supK g c v n (o + 1) = true) := by
  rw [b2i_t (by unfold supK; simp [h, h3])]; rfl
theorem narN_y {g : GC} {c : Nat → Nat} {v n : Nat} (h : supK g c v n (gV g) = true) : narN g c v (n + 1) = narN g c v n := by rw [narN, if_pos h]
theorem narN_n {g : GC} {c : Nat → Nat} {v n : Nat} (h : ¬ supK g c v n (gV g) = true) : narN g c v (n + 1) = sd (narN g c v n) (1 <<< n) := by rw [narN, if_neg h]
theorem c0_a {g : GC} {v n : Nat} (h : ¬ (gMay g v n = true ∧ pop (gK g v) ≤ pop (nearB (gE g) n))) : c0B g v n ||| 0 = c0B g v (n + 1) := by rw [c0B, if_neg h]
theorem c0_b {g : GC} {v n : Nat} (h : gMay g v n = true) (h2 : pop (gK g v) ≤ pop (nearB (gE g) n)) : c0B g v n ||| 1 <<< n = c0B g v (n + 1) := by rw [c0B, if_pos ⟨h, h2⟩]
theorem c_M_narrow {E : EV} {w : Mem} {g : GC} {c : Nat → Nat} {v : Nat} (hR : MRow (rI w 91) g) (hW : WG g) (hNr : NearP w g) (hC : CandP w g c) (hc : ∀ v, v < gV g → c v < 2 ^ 12) (hv : v < gV g) : T E m_M_narrow 1 0 0 [.ref 89, .int (nI v)] w (fun r w2 => r = none ∧ FrC w w2 ∧ rI w2 118 = rI w 118 ∧ CandP w2 g (narC g c v)) := by
  refine T_of (L := [.ref 89, .int (nI v), un, un, un]) cf_M_narrow rfl (Nat.le_of_ble_eq_true rfl) (fun X hX hF => ?_)
  have hgv := hW.v
  have hgn := hW.n
  have hkv := hW.k32 hv
  have lpN : ∀ (fuel : Nat) (n : Nat) (wk : Mem), gN g - n < fuel → (n ≤ gN g) → (FrC w wk) → (rI wk 118 = rI w 118) → (∀ u, u < gV g → rI wk 117 u = nI (if u = v then narN g c v n else c u)) → G0 E X 0 0 2 [.ref 89, .int (nI v), .int (nI n), un, un] [] wk := by
    intro fuel
    induction fuel with
    | zero => intro n wk q0; exact absurd q0 (Nat.not_lt_zero _)
    | succ fuel ih =>
      intro n wk q0 q1 q2 q3 q4
      have hRk : MRow (rI wk 91) g := by rw [q2.1 91 (by decide) (by decide)]; exact hR
      refine g_iload2 hX d_M_narrow_2 ?_
      refine g_aload0 hX d_M_narrow_3 ?_
      refine g_getF hX d_M_narrow_4 fl_M_13 (lv_89 _) ?_
      refine g_iconst (v := nI 0) hX d_M_narrow_7 rfl ?_
      refine g_iald hX d_M_narrow_8 (lv_91 _) rfl (by decide) ?_
      refine g_topi hRk.n ?_
      refine g_icmpN_ge hX d_M_narrow_9 (by omega) (by omega) (fun c0 => ?_) (fun c0 => ?_)
      · refine g_vret hX hF d_M_narrow_111 (by omega) (by omega) ?_
        refine ⟨rfl, q2, q3, fun u hu => ?_⟩
        have hng : n = gN g := by omega
        rw [hng] at q4
        have := q4 u hu
        unfold narC
        exact this
      · have hnb := near_w hW n
        have hNk : NearP wk g := fun z hz => by rw [q2.1 110 (by decide) (by decide)]; exact hNr z hz
        have ihN := ih
        have q2' := q2
        have q3' := q3
        have q4' := q4
        have lpO : ∀ (fuel : Nat) (o : Nat), gV g - o < fuel → (o ≤ gV g) → G0 E X 0 0 17 [.ref 89, .int (nI v), .int (nI n), .int (b2i (supK g c v n o = true)), .int (nI o)] [] wk := by
          intro fuel
          induction fuel with
          | zero => intro o q0; exact absurd q0 (Nat.not_lt_zero _)
          | succ fuel ih =>
            intro o q0 q1
            refine g_iload4 hX d_M_narrow_17 ?_
            refine g_aload0 hX d_M_narrow_19 ?_
            refine g_getF hX d_M_narrow_20 fl_M_13 (lv_89 _) ?_
            refine g_iconst (v := nI 1) hX d_M_narrow_23 rfl ?_
            refine g_iald hX d_M_narrow_24 (lv_91 _) rfl (by decide) ?_
            refine g_topi hRk.v ?_
            refine g_icmpN_ge hX d_M_narrow_25 (by omega) (by omega) (fun c0 => ?_) (fun c0 => ?_)
            · have hog : o = gV g := by omega
              rw [hog]
              have hcv : rI wk 117 v = nI (narN g c v n) := by
                have := q4' v hv
                rw [if_pos rfl] at this
                exact this
              refine g_aload0 hX d_M_narrow_78 ?_
              refine g_getF hX d_M_narrow_79 fl_M_123 (lv_89 _) ?_
              refine g_iload1 hX d_M_narrow_82 ?_
              refine g_dup2 hX d_M_narrow_83 rfl rfl ?_
              refine g_iald hX d_M_narrow_84 (lv_117 _) rfl (by omega) ?_
              refine g_topi hcv ?_
              refine g_iload3 hX d_M_narrow_85 ?_
              refine g_ifB_eq hX d_M_narrow_86 (fun e86 => ?_) (fun e86 => ?_)
              · refine g_iconst (v := nI 1) hX d_M_narrow_98 rfl ?_
                refine g_iload2 hX d_M_narrow_99 ?_
                refine g_ishlN hX d_M_narrow_100 (by omega) ?_
                refine g_iconst (v := -1) hX d_M_narrow_101 rfl ?_
                refine g_ixor hX d_M_narrow_102 ?_
                refine g_iandX hX d_M_narrow_103 ?_
                refine g_iast hX d_M_narrow_104 (lv_117 _) rfl (by omega) ?_
                refine g_iincN2 hX d_M_narrow_105 rfl (by decide) ?_
                refine g_goto hX d_M_narrow_108 ?_
                refine g_fget 3 ?_
                refine g_fget 4 ?_
                refine ihN (n + 1) _ (by omega) (by omega) (q2'.I (Or.inl rfl)) (by rw [rI_sI_ne _ _ _ (by decide)]; exact q3') (fun u hu => ?_)
                rw [rI_sI, upd_eq]
                by_cases e : u = v
                · rw [if_pos e, if_pos e, narN_n e86]
                · rw [if_neg e, if_neg e]
                  have := q4' u hu
                  rw [if_neg e] at this
                  exact this
              · refine g_aload0 hX d_M_narrow_89 ?_
                refine g_getF hX d_M_narrow_90 fl_M_123 (lv_89 _) ?_
                refine g_iload1 hX d_M_narrow_93 ?_
                refine g_iald hX d_M_narrow_94 (lv_117 _) rfl (by omega) ?_
                refine g_topi hcv ?_
                refine g_goto hX d_M_narrow_95 ?_
                refine g_iandN hX d_M_narrow_103 ?_
                refine g_topi (congrArg nI (Nat.and_self _)) ?_
                refine g_iast hX d_M_narrow_104 (lv_117 _) rfl (by omega) ?_
                refine g_iincN2 hX d_M_narrow_105 rfl (by decide) ?_
                refine g_goto hX d_M_narrow_108 ?_
                refine g_fget 3 ?_
                refine g_fget 4 ?_
                refine ihN (n + 1) _ (by omega) (by omega) (q2'.I (Or.inl rfl)) (by rw [rI_sI_ne _ _ _ (by decide)]; exact q3') (fun u hu => ?_)
                rw [rI_sI, upd_eq]
                by_cases e : u = v
                · rw [if_pos e, if_pos e, narN_y e86]
                · rw [if_neg e, if_neg e]
                  have := q4' u hu
                  rw [if_neg e] at this
                  exact this
            · have hco := hc o (by omega)
              refine g_iload3 hX d_M_narrow_28 ?_
              refine g_ifB_eq hX d_M_narrow_29 (fun e29 => ?_) (fun e29 => ?_)
              · refine g_iconst (v := nI 0) hX d_M_narrow_70 rfl ?_
                refine g_istore3 hX d_M_narrow_71 rfl (by decide) ?_
                refine g_iincN4 hX d_M_narrow_72 rfl (by decide) ?_
                refine g_goto hX d_M_narrow_75 ?_
                refine g_loc (sup_l (sup_a e29)) ?_
                exact ih (o + 1) (by omega) (by omega)
              · refine g_aload0 hX d_M_narrow_32 ?_
                refine g_getF hX d_M_narrow_33 fl_M_13 (lv_89 _) ?_
                refine g_bipush (v := nI 26) hX d_M_narrow_36 rfl ?_
                refine g_iload1 hX d_M_narrow_38 ?_
                refine g_iaddN hX d_M_narrow_39 ?_
                refine g_iald hX d_M_narrow_40 (lv_91 _) rfl (by omega) ?_
                refine g_topi (hRk.k v hv) ?_
                refine g_iload4 hX d_M_narrow_41 ?_
                refine g_callS (As := [_, _]) hX hF.1 d_M_narrow_43 ml_M_468 cf_M_is cs_M_is rfl (c_M_is (by omega) (by omega)) (by omega) (by omega) (by omega) (Nat.le_of_ble_eq_true rfl) ?_
                refine ret_k ?_
                refine g_ifB_eq hX d_M_narrow_46 (fun e46 => ?_) (fun e46 => ?_)
                · refine g_iconst (v := nI 1) hX d_M_narrow_66 rfl ?_
                  refine g_goto hX d_M_narrow_67 ?_
                  refine g_istore3 hX d_M_narrow_71 rfl (by decide) ?_
                  refine g_iincN4 hX d_M_narrow_72 rfl (by decide) ?_
                  refine g_goto hX d_M_narrow_75 ?_
                  refine g_loc (sup_l (sup_b e29 e46)) ?_
                  exact ih (o + 1) (by omega) (by omega)
                · have hov : ¬ o = v := fun z => by
                    rw [z, hW.ki v hv] at e46
                    cases e46
                  have hcb := q4' o (by omega)
                  rw [if_neg hov] at hcb
                  have hal : nearB (gE g) n &&& c o ≤ nearB (gE g) n := Nat.and_le_left
                  refine g_aload0 hX d_M_narrow_49 ?_
                  refine g_getF hX d_M_narrow_50 fl_M_102 (lv_89 _) ?_
                  refine g_iload2 hX d_M_narrow_53 ?_
                  refine g_iald hX d_M_narrow_54 (lv_110 _) rfl (by omega) ?_
                  refine g_topi (hNk n (by omega)) ?_
                  refine g_aload0 hX d_M_narrow_55 ?_
                  refine g_getF hX d_M_narrow_56 fl_M_123 (lv_89 _) ?_
                  refine g_iload4 hX d_M_narrow_59 ?_
                  refine g_iald hX d_M_narrow_61 (lv_117 _) rfl (by omega) ?_
                  refine g_topi hcb ?_
                  refine g_iandN hX d_M_narrow_62 ?_
                  refine g_if_eq hX d_M_narrow_63 (fun e63 => ?_) (fun e63 => ?_)
                  · refine g_iconst (v := nI 0) hX d_M_narrow_70 rfl ?_
                    refine g_istore3 hX d_M_narrow_71 rfl (by decide) ?_
                    refine g_iincN4 hX d_M_narrow_72 rfl (by decide) ?_
                    refine g_goto hX d_M_narrow_75 ?_
                    refine g_loc (sup_l (sup_c e46 (nI_inj (by omega) (by decide) e63))) ?_
                    exact ih (o + 1) (by omega) (by omega)
                  · refine g_iconst (v := nI 1) hX d_M_narrow_66 rfl ?_
                    refine g_goto hX d_M_narrow_67 ?_
                    refine g_istore3 hX d_M_narrow_71 rfl (by decide) ?_
                    refine g_iincN4 hX d_M_narrow_72 rfl (by decide) ?_
                    refine g_goto hX d_M_narrow_75 ?_
                    refine g_loc (sup_l (sup_d e29 (fun z => e63 (by rw [z]; rfl)))) ?_
                    exact ih (o + 1) (by omega) (by omega)
        refine g_iconst (v := nI 1) hX d_M_narrow_12 rfl ?_
        refine g_istore3 hX d_M_narrow_13 rfl (by decide) ?_
        refine g_iconst (v := nI 0) hX d_M_narrow_14 rfl ?_
        refine g_istore4 hX d_M_narrow_15 rfl (by decide) ?_
        refine g_loc (show _ = [.ref 89, .int (nI v), .int (nI n), .int (b2i (supK g c v n 0 = true)), .int (nI 0)] by rw [b2i_t (show supK g c v n 0 = true from rfl)]; rfl) ?_
        exact lpO (gV g + 1) 0 (by omega) (Nat.zero_le _)
  refine g_iconst (v := nI 0) hX d_M_narrow_0 rfl ?_
  refine g_istore2 hX d_M_narrow_1 rfl (by decide) ?_
  refine lpN (gN g + 1) 0 w (by omega) (Nat.zero_le _) (FrC.rf w) rfl (fun u hu => ?_)
  by_cases e : u = v
  · rw [if_pos e, e]; exact hC v hv
  · rw [if_neg e]; exact hC u hu
theorem c_M_layCandidates {E : EV} {w : Mem} {g : GC} {ps : Nat} (hG : MG w g) (hW : WG g) (hps : ps < 10) : T E m_M_layCandidates 6 0 0 [.ref 89, .int (nI ps)] w (fun r w2 => r = none ∧ Scr w w2 ∧ Laid w2 g ∧ CandP w2 g (candN g ps)) := by
  refine T_of (L := [.ref 89, .int (nI ps), un, un]) cf_M_layCandidates rfl (Nat.le_of_ble_eq_true rfl) (fun X hX hF => ?_)
  have hgv := hW.v
  have hgn := hW.n
  refine g_aload0 hX d_M_layCandidates_0 ?_
  refine g_callV (As := []) hX hF.1 d_M_layCandidates_1 ml_M_462 cf_M_layAll cv_M_layAll rfl rfl (c_M_layAll hG hW) (rcv_obj hX (lv_89 _) rfl rfl) (by omega) (by omega) (by omega) (Nat.le_of_ble_eq_true rfl) ?_
  rintro _ w1 ⟨rfl, hfA, hLd⟩
  have hR1 : MRow (rI w1 91) g := (hG.scr hfA.S).1
  show G0 _ _ _ _ _ _ _ _
  refine g_iconst (v := nI 0) hX d_M_layCandidates_4 rfl ?_
  refine g_istore2 hX d_M_layCandidates_5 rfl (by decide) ?_
  have lpV : ∀ (fuel : Nat) (v : Nat) (wk : Mem), gV g - v < fuel → (v ≤ gV g) → (FrC w1 wk) → (∀ u, u < v → rI wk 117 u = nI (cFst g u)) → G0 E X 0 0 6 [.ref 89, .int (nI ps), .int (nI v), un] [] wk := by
    intro fuel
    induction fuel with
    | zero => intro v wk q0; exact absurd q0 (Nat.not_lt_zero _)
    | succ fuel ih =>
      intro v wk q0 q1 q2 q3
      have hRk0 : MRow (rI wk 91) g := by rw [q2.1 91 (by decide) (by decide)]; exact hR1
      refine g_iload2 hX d_M_layCandidates_6 ?_
      refine g_aload0 hX d_M_layCandidates_7 ?_
      refine g_getF hX d_M_layCandidates_8 fl_M_13 (lv_89 _) ?_
      refine g_iconst (v := nI 1) hX d_M_layCandidates_11 rfl ?_
      refine g_iald hX d_M_layCandidates_12 (lv_91 _) rfl (by decide) ?_
      refine g_topi hRk0.v ?_
      refine g_icmpN_ge hX d_M_layCandidates_13 (by omega) (by omega) (fun c0 => ?_) (fun c0 => ?_)
      · refine g_aload0 hX d_M_layCandidates_100 ?_
        have hvg : v = gV g := by omega
        rw [hvg] at q3
        refine g_callV (As := []) hX hF.1 d_M_layCandidates_101 ml_M_502 cf_M_layOrder cv_M_layOrder rfl rfl (c_M_layOrder (c := cFst g) hRk0 hW q3 (fun v _ => c0B_lt g v _ hgn)) (rcv_obj hX (lv_89 _) rfl rfl) (by omega) (by omega) (by omega) (Nat.le_of_ble_eq_true rfl) ?_
        rintro _ w2 ⟨rfl, hf2, hC2, hO2, hOW, hOl⟩
        have hO3 : OrdP w2 (orderG g) := hO2
        have hOW : OrdW g (orderG g) := hOW
        have hOl : gV g ≤ (orderG g).length := hOl
        have hol2 := hOW.len
        show G0 _ _ _ _ _ _ _ _
        have lpP : ∀ (fuel : Nat) (q : Nat) (wk : Mem), ps - q < fuel → (q ≤ ps) → (FrC w1 wk) → (CandP wk g (candN g q)) → (OrdP wk (orderG g)) → G0 E X 0 0 106 [.ref 89, .int (nI ps), .int (nI q), un] [] wk := by
          intro fuel
          induction fuel with
          | zero => intro q wk q0; exact absurd q0 (Nat.not_lt_zero _)
          | succ fuel ih =>
            intro q wk q0 q1 q2 q3 q4
            refine g_iload2 hX d_M_layCandidates_106 ?_
            refine g_iload1 hX d_M_layCandidates_107 ?_
            refine g_icmpN_ge hX d_M_layCandidates_108 (by omega) (by omega) (fun c0 => ?_) (fun c0 => ?_)
            · refine g_vret hX hF d_M_layCandidates_164 (by omega) (by omega) ?_
              have hqp : q = ps := by omega
              rw [hqp] at q3
              exact ⟨rfl, hfA.S.tr q2.S, q2.laid hLd, q3⟩
            · have ihP := ih
              have lpK : ∀ (fuel : Nat) (k : Nat) (wk : Mem), gV g - k < fuel → (k ≤ gV g) → (FrC w1 wk) → (CandP wk g (pasK g q (candN g q) k)) → (OrdP wk (orderG g)) → G0 E X 0 0 113 [.ref 89, .int (nI ps), .int (nI q), .int (nI k)] [] wk := by
                intro fuel
                induction fuel with
                | zero => intro k wk q0; exact absurd q0 (Nat.not_lt_zero _)
                | succ fuel ih =>
                  intro k wk q0 q1 q2 q3 q4
                  have hRk : MRow (rI wk 91) g := by rw [q2.1 91 (by decide) (by decide)]; exact hR1
                  have hLk := q2.laid hLd
                  refine g_iload3 hX d_M_layCandidates_113 ?_
                  refine g_aload0 hX d_M_layCandidates_114 ?_
                  refine g_getF hX d_M_layCandidates_115 fl_M_13 (lv_89 _) ?_
                  refine g_iconst (v := nI 1) hX d_M_layCandidates_118 rfl ?_
                  refine g_iald hX d_M_layCandidates_119 (lv_91 _) rfl (by decide) ?_
                  refine g_topi hRk.v ?_
                  refine g_icmpN_ge hX d_M_layCandidates_120 (by omega) (by omega) (fun c0 => ?_) (fun c0 => ?_)
                  · refine g_iincN2 hX d_M_layCandidates_158 rfl (by decide) ?_
                    refine g_goto hX d_M_layCandidates_161 ?_
                    refine g_fget 3 ?_
                    have hkg : k = gV g := by omega
                    rw [hkg] at q3
                    exact ihP (q + 1) wk (by omega) (by omega) q2 q3 q4
                  · have hcl : ∀ v, v < gV g → pasK g q (candN g q) k v < 2 ^ 12 := fun v _ => Nat.lt_of_le_of_lt (pasK_le g q _ v k) (candN_lt hgn v q)
                    refine g_aload0 hX d_M_layCandidates_123 ?_
                    refine g_aload0 hX d_M_layCandidates_124 ?_
                    refine g_getF hX d_M_layCandidates_125 fl_M_126 (lv_89 _) ?_
                    refine g_iload2 hX d_M_layCandidates_128 ?_
                    refine g_iconst (v := nI 2) hX d_M_layCandidates_129 rfl ?_
                    refine g_iremN hX d_M_layCandidates_130 (by omega) (by decide) (by decide) ?_
                    refine g_if_ne hX d_M_layCandidates_131 (fun c131 => ?_) (fun c131 => ?_)
                    · have e131 : ¬ q % 2 = 0 := fun z => c131 (by rw [z]; rfl)
                      refine g_iload3 hX d_M_layCandidates_147 ?_
                      refine g_iald hX d_M_layCandidates_148 (lv_118 _) rfl (by omega) ?_
                      refine g_topi (q4 _ (by omega)) ?_
                      refine g_callV (As := [_]) hX hF.1 d_M_layCandidates_149 ml_M_505 cf_M_narrow cv_M_narrow rfl rfl (c_M_narrow hRk hW hLk.1 q3 hcl (hOW.2 _ (gA_mem (by omega)))) (rcv_obj hX (lv_89 _) rfl rfl) (by omega) (by omega) (by omega) (Nat.le_of_ble_eq_true rfl) ?_
                      rintro _ w3 ⟨rfl, hf3, ho3, hC3⟩
                      show G0 _ _ _ _ _ _ _ _
                      refine g_iincN3 hX d_M_layCandidates_152 rfl (by decide) ?_
                      refine g_goto hX d_M_layCandidates_155 ?_
                      refine ih (k + 1) w3 (by omega) (by omega) (q2.tr hf3) ?_ (q4.p ho3)
                      rw [pasK]
                      first
                        | (rw [if_neg e131]; exact hC3)
                        | (rw [if_pos e131]; exact hC3)
                    · have e131 : q % 2 = 0 := nI_inj (by omega) (by decide) c131
                      refine g_aload0 hX d_M_layCandidates_134 ?_
                      refine g_getF hX d_M_layCandidates_135 fl_M_13 (lv_89 _) ?_
                      refine g_iconst (v := nI 1) hX d_M_layCandidates_138 rfl ?_
                      refine g_iald hX d_M_layCandidates_139 (lv_91 _) rfl (by decide) ?_
                      refine g_topi hRk.v ?_
                      refine g_iconst (v := nI 1) hX d_M_layCandidates_140 rfl ?_
                      refine g_isubN hX d_M_layCandidates_141 (by omega) ?_
                      refine g_iload3 hX d_M_layCandidates_142 ?_
                      refine g_isubN hX d_M_layCandidates_143 (by omega) ?_
                      refine g_goto hX d_M_layCandidates_144 ?_
                      refine g_iald hX d_M_layCandidates_148 (lv_118 _) rfl (by omega) ?_
                      refine g_topi (q4 _ (by omega)) ?_
                      refine g_callV (As := [_]) hX hF.1 d_M_layCandidates_149 ml_M_505 cf_M_narrow cv_M_narrow rfl rfl (c_M_narrow hRk hW hLk.1 q3 hcl (hOW.2 _ (gA_mem (by omega)))) (rcv_obj hX (lv_89 _) rfl rfl) (by omega) (by omega) (by omega) (Nat.le_of_ble_eq_true rfl) ?_
                      rintro _ w3 ⟨rfl, hf3, ho3, hC3⟩
                      show G0 _ _ _ _ _ _ _ _
                      refine g_iincN3 hX d_M_layCandidates_152 rfl (by decide) ?_
                      refine g_goto hX d_M_layCandidates_155 ?_
                      refine ih (k + 1) w3 (by omega) (by omega) (q2.tr hf3) ?_ (q4.p ho3)
                      rw [pasK]
                      first
                        | (rw [if_neg e131]; exact hC3)
                        | (rw [if_pos e131]; exact hC3)
              refine g_iconst (v := nI 0) hX d_M_layCandidates_111 rfl ?_
              refine g_istore3 hX d_M_layCandidates_112 rfl (by decide) ?_
              exact lpK (gV g + 1) 0 wk (by omega) (Nat.zero_le _) q2 q3 q4
        refine g_iconst (v := nI 0) hX d_M_layCandidates_104 rfl ?_
        refine g_istore2 hX d_M_layCandidates_105 rfl (by decide) ?_
        exact lpP (ps + 1) 0 w2 (by omega) (Nat.zero_le _) (q2.tr hf2) hC2 hO3
      · have hvv : v < gV g := by omega
        have ihV := ih
        have lpN : ∀ (fuel : Nat) (n : Nat) (wk : Mem), gN g - n < fuel → (n ≤ gN g) → (FrC w1 wk) → (∀ u, u < v → rI wk 117 u = nI (cFst g u)) → (rI wk 117 v = nI (c0B g v n)) → G0 E X 0 0 25 [.ref 89, .int (nI ps), .int (nI v), .int (nI n)] [] wk := by
          intro fuel
          induction fuel with
          | zero => intro n wk q0; exact absurd q0 (Nat.not_lt_zero _)
          | succ fuel ih =>
            intro n wk q0 q1 q2 q3 q4
            have hRk : MRow (rI wk 91) g := by rw [q2.1 91 (by decide) (by decide)]; exact hR1
            have hLk := q2.laid hLd
            refine g_iload3 hX d_M_layCandidates_25 ?_
            refine g_aload0 hX d_M_layCandidates_26 ?_
            refine g_getF hX d_M_layCandidates_27 fl_M_13 (lv_89 _) ?_
            refine g_iconst (v := nI 0) hX d_M_layCandidates_30 rfl ?_
            refine g_iald hX d_M_layCandidates_31 (lv_91 _) rfl (by decide) ?_
            refine g_topi hRk.n ?_
            refine g_icmpN_ge hX d_M_layCandidates_32 (by omega) (by omega) (fun c0 => ?_) (fun c0 => ?_)
            · have hng : n = gN g := by omega
              rw [hng] at q4
              refine g_iincN2 hX d_M_layCandidates_94 rfl (by decide) ?_
              refine g_goto hX d_M_layCandidates_97 ?_
              refine g_fget 3 ?_
              refine ihV (v + 1) wk (by omega) (by omega) q2 (fun u hu => ?_)
              by_cases e : u = v
              · rw [e]; exact q4
              · exact q3 u (by omega)
            · have hml := mayN_lt g v (gN g) hgn
              have htb := mayN_tb g v n (gN g)
              have hnb := near_w hW n
              have hk32 := hW.k32 hvv
              have hp1 := pop_le (gK g v)
              have hp2 := pop_le (nearB (gE g) n)
              refine g_aload0 hX d_M_layCandidates_35 ?_
              refine g_getF hX d_M_layCandidates_36 fl_M_123 (lv_89 _) ?_
              refine g_iload2 hX d_M_layCandidates_39 ?_
              refine g_dup2 hX d_M_layCandidates_40 rfl rfl ?_
              refine g_iald hX d_M_layCandidates_41 (lv_117 _) rfl (by omega) ?_
              refine g_topi q4 ?_
              refine g_aload0 hX d_M_layCandidates_42 ?_
              refine g_getF hX d_M_layCandidates_43 fl_M_105 (lv_89 _) ?_
              refine g_iload2 hX d_M_layCandidates_46 ?_
              refine g_iald hX d_M_layCandidates_47 (lv_111 _) rfl (by omega) ?_
              refine g_topi (hLk.2.1 v hvv) ?_
              refine g_iload3 hX d_M_layCandidates_48 ?_
              refine g_callS (As := [_, _]) hX hF.1 d_M_layCandidates_49 ml_M_468 cf_M_is cs_M_is rfl (c_M_is (by omega) (by omega)) (by omega) (by omega) (by omega) (Nat.le_of_ble_eq_true rfl) ?_
              refine ret_k ?_
              refine g_ifB_eq hX d_M_layCandidates_52 (fun e52 => ?_) (fun e52 => ?_)
              · refine g_iconst (v := nI 0) hX d_M_layCandidates_85 rfl ?_
                refine g_iorN hX d_M_layCandidates_86 ?_
                refine g_topi (congrArg nI (c0_a (fun z => by rw [may_no htb e52] at z; exact absurd z.1 (by decide)))) ?_
                refine g_iast hX d_M_layCandidates_87 (lv_117 _) rfl (by omega) ?_
                refine g_iincN3 hX d_M_layCandidates_88 rfl (by decide) ?_
                refine g_goto hX d_M_layCandidates_91 ?_
                refine ih (n + 1) _ (by omega) (by omega) (q2.I (Or.inl rfl)) (fun u hu => ?_) (by rw [rI_sI, upd_eq, if_pos rfl])
                rw [rI_sI, upd_eq, if_neg (by omega)]
                exact q3 u hu
              · refine g_aload0 hX d_M_layCandidates_55 ?_
                refine g_getF hX d_M_layCandidates_56 fl_M_102 (lv_89 _) ?_
                refine g_iload3 hX d_M_layCandidates_59 ?_
                refine g_iald hX d_M_layCandidates_60 (lv_110 _) rfl (by omega) ?_
                refine g_topi (hLk.1 n (by omega)) ?_
                refine g_callS (As := [_]) hX hF.1 d_M_layCandidates_61 ml_M_204 cf_M_many cs_M_many rfl (c_M_many (by omega)) (by omega) (by omega) (by omega) (Nat.le_of_ble_eq_true rfl) ?_
                refine ret_k ?_
                refine g_aload0 hX d_M_layCandidates_64 ?_
                refine g_getF hX d_M_layCandidates_65 fl_M_13 (lv_89 _) ?_
                refine g_bipush (v := nI 26) hX d_M_layCandidates_68 rfl ?_
                refine g_iload2 hX d_M_layCandidates_70 ?_
                refine g_iaddN hX d_M_layCandidates_71 ?_
                refine g_iald hX d_M_layCandidates_72 (lv_91 _) rfl (by omega) ?_
                refine g_topi (hRk.k v hvv) ?_
                refine g_callS (As := [_]) hX hF.1 d_M_layCandidates_73 ml_M_204 cf_M_many cs_M_many rfl (c_M_many (by omega)) (by omega) (by omega) (by omega) (Nat.le_of_ble_eq_true rfl) ?_
                refine ret_k ?_
                refine g_icmpN_lt hX d_M_layCandidates_76 (by omega) (by omega) (fun e76 => ?_) (fun e76 => ?_)
                · refine g_iconst (v := nI 0) hX d_M_layCandidates_85 rfl ?_
                  refine g_iorN hX d_M_layCandidates_86 ?_
                  refine g_topi (congrArg nI (c0_a (fun z => by have := z.2; omega))) ?_
                  refine g_iast hX d_M_layCandidates_87 (lv_117 _) rfl (by omega) ?_
                  refine g_iincN3 hX d_M_layCandidates_88 rfl (by decide) ?_
                  refine g_goto hX d_M_layCandidates_91 ?_
                  refine ih (n + 1) _ (by omega) (by omega) (q2.I (Or.inl rfl)) (fun u hu => ?_) (by rw [rI_sI, upd_eq, if_pos rfl])
                  rw [rI_sI, upd_eq, if_neg (by omega)]
                  exact q3 u hu
                · refine g_iconst (v := nI 1) hX d_M_layCandidates_79 rfl ?_
                  refine g_iload3 hX d_M_layCandidates_80 ?_
                  refine g_ishlN hX d_M_layCandidates_81 (by omega) ?_
                  refine g_goto hX d_M_layCandidates_82 ?_
                  refine g_iorN hX d_M_layCandidates_86 ?_
                  refine g_topi (congrArg nI (c0_b (may_yes htb e52) (by omega))) ?_
                  refine g_iast hX d_M_layCandidates_87 (lv_117 _) rfl (by omega) ?_
                  refine g_iincN3 hX d_M_layCandidates_88 rfl (by decide) ?_
                  refine g_goto hX d_M_layCandidates_91 ?_
                  refine ih (n + 1) _ (by omega) (by omega) (q2.I (Or.inl rfl)) (fun u hu => ?_) (by rw [rI_sI, upd_eq, if_pos rfl])
                  rw [rI_sI, upd_eq, if_neg (by omega)]
                  exact q3 u hu
        refine g_aload0 hX d_M_layCandidates_16 ?_
        refine g_getF hX d_M_layCandidates_17 fl_M_123 (lv_89 _) ?_
        refine g_iload2 hX d_M_layCandidates_20 ?_
        refine g_iconst (v := nI 0) hX d_M_layCandidates_21 rfl ?_
        refine g_iast hX d_M_layCandidates_22 (lv_117 _) rfl (by omega) ?_
        refine g_iconst (v := nI 0) hX d_M_layCandidates_23 rfl ?_
        refine g_istore3 hX d_M_layCandidates_24 rfl (by decide) ?_
        refine lpN (gN g + 1) 0 _ (by omega) (Nat.zero_le _) (q2.I (Or.inl rfl)) (fun u hu => ?_) (by rw [rI_sI, upd_eq, if_pos rfl]; rfl)
        rw [rI_sI, upd_eq, if_neg (by omega)]
        exact q3 u hu
  exact lpV (gV g + 1) 0 w1 (by omega) (Nat.zero_le _) (FrC.rf w1) (fun u hu => absurd hu (Nat.not_lt_zero _))
theorem c_M_candidates {E : EV} {w : Mem} {v n : Int32} {s : SG} (h : MInv w s) : T E m_M_candidates 8 0 0 [.ref 89, .int v, .int n] w (fun r w2 => r = some (.int (opCand v n (sG s))) ∧ MInv w2 s ∧ FrM w w2) := by
  refine T_of (L := [.ref 89, .int v, .int n]) cf_M_candidates rfl (Nat.le_of_ble_eq_true rfl) (fun X hX hF => ?_)
  obtain ⟨⟨hR, hL, hW⟩, hU, hT, hI, hRf, hSt, hFa, hSm, hSp, hDr, hOr⟩ := id h
  have hn := hW.n
  have hv := hW.v
  have he := hW.el
  refine g_aload0 hX d_M_candidates_0 ?_
  refine g_iconst (v := nI 0) hX d_M_candidates_1 rfl ?_
  refine g_putI hX d_M_candidates_2 fl_M_170 (lv_89 _) ?_
  refine g_aload0 hX d_M_candidates_5 ?_
  refine g_iload1 hX d_M_candidates_6 ?_
  refine g_callV (As := [_]) hX hF.1 d_M_candidates_7 ml_M_221 cf_M_isVertex cv_M_isVertex rfl rfl (c_M_isVertex hR hW) (rcv_obj hX (lv_89 _) rfl rfl) (by omega) (by omega) (by omega) (Nat.le_of_ble_eq_true rfl) ?_
  refine ret_k ?_
  refine g_ifB_eq hX d_M_candidates_10 (fun e10 => ?_) (fun e10 => ?_)
  · refine g_iconst (v := -1) hX d_M_candidates_25 rfl ?_
    refine g_iret hX hF d_M_candidates_26 (by omega) (by omega) ?_
    refine ⟨?_, h.keep (by repeat (first | exact Scr.rf _ | refine Scr.I9 (by decide) ?_ | refine Scr.I (by decide) ?_ | refine Scr.A (by decide) ?_ | refine Scr.J9 ?_ | refine Scr.J (by decide) ?_ | refine Scr.B (by decide) ?_)), (by repeat (first | exact FrM.rf _ | refine FrM.I (by decide) ?_ | refine FrM.A (by decide) ?_ | refine FrM.B (by decide) ?_ | refine FrM.J9 ?_ | refine FrM.J (by decide) ?_))⟩
    rw [cand_no (by first | exact Or.inl e10 | exact Or.inr (mt (in_le (by decide)).mpr e22))]
  · obtain ⟨v, hjv, rfl, htv⟩ := inN_of e10 (by omega)
    refine g_iload2 hX d_M_candidates_13 ?_
    refine g_i2l hX d_M_candidates_14 ?_
    refine g_lconst (v := lN 0) hX d_M_candidates_15 rfl ?_
    refine g_ldc2 (v := lN 9) hX d_M_candidates_16 k_M_238 rfl ?_
    refine g_callS (As := [_, _, _]) hX hF.1 d_M_candidates_19 ml_M_190 cf_M_in cs_M_in rfl (c_M_in) (by omega) (by omega) (by omega) (Nat.le_of_ble_eq_true rfl) ?_
    refine ret_k ?_
    refine g_ifB_ne hX d_M_candidates_22 (fun e22 => ?_) (fun e22 => ?_)
    · obtain ⟨n, hn10, rfl, htn⟩ := inN_of ((in_le (by decide)).mp e22) (by decide)
      have hMG : MG (sI w 89 0 (nI 0)) (sG s) := ⟨hR, hL, hOr⟩
      have hS0 : Scr w (sI w 89 0 (nI 0)) := (by repeat (first | exact Scr.rf _ | refine Scr.I9 (by decide) ?_ | refine Scr.I (by decide) ?_ | refine Scr.A (by decide) ?_ | refine Scr.J9 ?_ | refine Scr.J (by decide) ?_ | refine Scr.B (by decide) ?_))
      refine g_aload0 hX d_M_candidates_27 ?_
      refine g_iload2 hX d_M_candidates_28 ?_
      refine g_callV (As := [_]) hX hF.1 d_M_candidates_29 ml_M_511 cf_M_layCandidates cv_M_layCandidates rfl rfl (c_M_layCandidates (w := sI w 89 0 (nI 0)) hMG hW (by omega)) (rcv_obj hX (lv_89 _) rfl rfl) (by omega) (by omega) (by omega) (Nat.le_of_ble_eq_true rfl) ?_
      rintro _ w1 ⟨rfl, hS, hLd, hC⟩
      show G0 _ _ _ _ _ _ _ _
      refine g_aload0 hX d_M_candidates_32 ?_
      refine g_getF hX d_M_candidates_33 fl_M_123 (lv_89 _) ?_
      refine g_iload1 hX d_M_candidates_36 ?_
      refine g_iald hX d_M_candidates_37 (lv_117 _) rfl (by omega) ?_
      refine g_topi (hC v hjv) ?_
      refine g_iret hX hF d_M_candidates_38 (by omega) (by omega) ?_
      refine ⟨?_, h.keep (hS0.tr hS), (hS0.tr hS).1⟩
      rw [cand_ok hjv hv hn10]
    · refine g_iconst (v := -1) hX d_M_candidates_25 rfl ?_
      refine g_iret hX hF d_M_candidates_26 (by omega) (by omega) ?_
      refine ⟨?_, h.keep (by repeat (first | exact Scr.rf _ | refine Scr.I9 (by decide) ?_ | refine Scr.I (by decide) ?_ | refine Scr.A (by decide) ?_ | refine Scr.J9 ?_ | refine Scr.J (by decide) ?_ | refine Scr.B (by decide) ?_)), (by repeat (first | exact FrM.rf _ | refine FrM.I (by decide) ?_ | refine FrM.A (by decide) ?_ | refine FrM.B (by decide) ?_ | refine FrM.J9 ?_ | refine FrM.J (by decide) ?_))⟩
      rw [cand_no (by first | exact Or.inl e10 | exact Or.inr (mt (in_le (by decide)).mpr e22))]
