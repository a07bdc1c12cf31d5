def m_Re_readInBrackets : MR := (⟨"SubgraphDesk$Reader", "readInBrackets", "(I)Z"⟩, prog_8_method_14_code, 2, (some .boolean))
theorem cf_Re_readInBrackets : CF m_Re_readInBrackets 1 := ⟨gd 970 (by decide +kernel) rfl, gd 142 (by decide +kernel) rfl, by decide +kernel, by decide, by decide +kernel⟩
theorem cv_Re_readInBrackets : CV m_Re_readInBrackets := ⟨gd 969 (by decide +kernel) rfl, gd 20 (by decide +kernel) rfl⟩
def m_Re_readNots : MR := (⟨"SubgraphDesk$Reader", "readNots", "()Z"⟩, prog_8_method_13_code, 3, (some .boolean))
theorem cf_Re_readNots : CF m_Re_readNots 0 := ⟨gd 965 (by decide +kernel) rfl, gd 142 (by decide +kernel) rfl, by decide +kernel, by decide, by decide +kernel⟩
theorem cv_Re_readNots : CV m_Re_readNots := ⟨gd 964 (by decide +kernel) rfl, gd 19 (by decide +kernel) rfl⟩
def m_Re_readSumInBrackets : MR := (⟨"SubgraphDesk$Reader", "readSumInBrackets", "(I)Z"⟩, prog_8_method_19_code, 2, (some .boolean))
theorem cf_Re_readSumInBrackets : CF m_Re_readSumInBrackets 1 := ⟨gd 898 (by decide +kernel) rfl, gd 142 (by decide +kernel) rfl, by decide +kernel, by decide, by decide +kernel⟩
theorem cv_Re_readSumInBrackets : CV m_Re_readSumInBrackets := ⟨gd 897 (by decide +kernel) rfl, gd 11 (by decide +kernel) rfl⟩
theorem d_Re_readInBrackets_0 : Dc prog_8_method_14_code 0 (.iload_n 1) 1 1 := ⟨by decide +kernel, rfl⟩
theorem d_Re_readInBrackets_1 : Dc prog_8_method_14_code 1 (.bipush 8) 2 3 := ⟨by decide +kernel, rfl⟩
theorem d_Re_readInBrackets_3 : Dj prog_8_method_14_code 3 (.if_icmp .lt 8) 6 8 11 := ⟨by decide +kernel, rfl, rfl⟩
theorem d_Re_readInBrackets_6 : Dc prog_8_method_14_code 6 (.aload_n 0) 1 7 := ⟨by decide +kernel, rfl⟩
theorem d_Re_readInBrackets_7 : Dc prog_8_method_14_code 7 (.invokevirtual 64) 3 10 := ⟨by decide +kernel, rfl⟩
theorem d_Re_readInBrackets_10 : Dc prog_8_method_14_code 10 (.ireturn) 1 11 := ⟨by decide +kernel, rfl⟩
theorem d_Re_readInBrackets_11 : Dc prog_8_method_14_code 11 (.aload_n 0) 1 12 := ⟨by decide +kernel, rfl⟩
theorem d_Re_readInBrackets_12 : Dc prog_8_method_14_code 12 (.getfield 12) 3 15 := ⟨by decide +kernel, rfl⟩
theorem d_Re_readInBrackets_15 : Dc prog_8_method_14_code 15 (.invokevirtual 67) 3 18 := ⟨by decide +kernel, rfl⟩
theorem d_Re_readInBrackets_18 : Dc prog_8_method_14_code 18 (.aload_n 0) 1 19 := ⟨by decide +kernel, rfl⟩
theorem d_Re_readInBrackets_19 : Dc prog_8_method_14_code 19 (.iload_n 1) 1 20 := ⟨by decide +kernel, rfl⟩
theorem d_Re_readInBrackets_20 : Dc prog_8_method_14_code 20 (.iconst 1) 1 21 := ⟨by decide +kernel, rfl⟩
theorem d_Re_readInBrackets_21 : Dc prog_8_method_14_code 21 (.iadd) 1 22 := ⟨by decide +kernel, rfl⟩
theorem d_Re_readInBrackets_22 : Dc prog_8_method_14_code 22 (.invokevirtual 127) 3 25 := ⟨by decide +kernel, rfl⟩
theorem d_Re_readInBrackets_25 : Dj prog_8_method_14_code 25 (.ifCond .ne 5) 28 5 30 := ⟨by decide +kernel, rfl, rfl⟩
theorem d_Re_readInBrackets_28 : Dc prog_8_method_14_code 28 (.iconst 0) 1 29 := ⟨by decide +kernel, rfl⟩
theorem d_Re_readInBrackets_29 : Dc prog_8_method_14_code 29 (.ireturn) 1 30 := ⟨by decide +kernel, rfl⟩
theorem d_Re_readInBrackets_30 : Dc prog_8_method_14_code 30 (.aload_n 0) 1 31 := ⟨by decide +kernel, rfl⟩
theorem d_Re_readInBrackets_31 : Dc prog_8_method_14_code 31 (.getfield 12) 3 34 := ⟨by decide +kernel, rfl⟩
theorem d_Re_readInBrackets_34 : Dc prog_8_method_14_code 34 (.bipush 41) 2 36 := ⟨by decide +kernel, rfl⟩
theorem d_Re_readInBrackets_36 : Dc prog_8_method_14_code 36 (.invokevirtual 60) 3 39 := ⟨by decide +kernel, rfl⟩
theorem d_Re_readInBrackets_39 : Dj prog_8_method_14_code 39 (.ifCond .ne 8) 42 8 47 := ⟨by decide +kernel, rfl, rfl⟩
theorem d_Re_readInBrackets_42 : Dc prog_8_method_14_code 42 (.aload_n 0) 1 43 := ⟨by decide +kernel, rfl⟩
theorem d_Re_readInBrackets_43 : Dc prog_8_method_14_code 43 (.invokevirtual 64) 3 46 := ⟨by decide +kernel, rfl⟩
theorem d_Re_readInBrackets_46 : Dc prog_8_method_14_code 46 (.ireturn) 1 47 := ⟨by decide +kernel, rfl⟩
theorem d_Re_readInBrackets_47 : Dc prog_8_method_14_code 47 (.aload_n 0) 1 48 := ⟨by decide +kernel, rfl⟩
theorem d_Re_readInBrackets_48 : Dc prog_8_method_14_code 48 (.getfield 12) 3 51 := ⟨by decide +kernel, rfl⟩
theorem d_Re_readInBrackets_51 : Dc prog_8_method_14_code 51 (.invokevirtual 67) 3 54 := ⟨by decide +kernel, rfl⟩
theorem d_Re_readInBrackets_54 : Dc prog_8_method_14_code 54 (.iconst 1) 1 55 := ⟨by decide +kernel, rfl⟩
theorem d_Re_readInBrackets_55 : Dc prog_8_method_14_code 55 (.ireturn) 1 56 := ⟨by decide +kernel, rfl⟩
theorem d_Re_readNots_0 : Dc prog_8_method_13_code 0 (.iconst 0) 1 1 := ⟨by decide +kernel, rfl⟩
theorem d_Re_readNots_1 : Dc prog_8_method_13_code 1 (.istore_n 1) 1 2 := ⟨by decide +kernel, rfl⟩
theorem d_Re_readNots_2 : Dc prog_8_method_13_code 2 (.iconst 0) 1 3 := ⟨by decide +kernel, rfl⟩
theorem d_Re_readNots_3 : Dc prog_8_method_13_code 3 (.istore_n 2) 1 4 := ⟨by decide +kernel, rfl⟩
theorem d_Re_readNots_4 : Dc prog_8_method_13_code 4 (.iload_n 2) 1 5 := ⟨by decide +kernel, rfl⟩
theorem d_Re_readNots_5 : Dc prog_8_method_13_code 5 (.sipush 400) 3 8 := ⟨by decide +kernel, rfl⟩
theorem d_Re_readNots_8 : Dj prog_8_method_13_code 8 (.if_icmp .ge 38) 11 38 46 := ⟨by decide +kernel, rfl, rfl⟩
theorem d_Re_readNots_11 : Dc prog_8_method_13_code 11 (.aload_n 0) 1 12 := ⟨by decide +kernel, rfl⟩
theorem d_Re_readNots_12 : Dc prog_8_method_13_code 12 (.getfield 12) 3 15 := ⟨by decide +kernel, rfl⟩
theorem d_Re_readNots_15 : Dc prog_8_method_13_code 15 (.ldc 156) 2 17 := ⟨by decide +kernel, rfl⟩
theorem d_Re_readNots_17 : Dc prog_8_method_13_code 17 (.invokevirtual 72) 3 20 := ⟨by decide +kernel, rfl⟩
theorem d_Re_readNots_20 : Dj prog_8_method_13_code 20 (.ifCond .eq 26) 23 26 46 := ⟨by decide +kernel, rfl, rfl⟩
theorem d_Re_readNots_23 : Dc prog_8_method_13_code 23 (.aload_n 0) 1 24 := ⟨by decide +kernel, rfl⟩
theorem d_Re_readNots_24 : Dc prog_8_method_13_code 24 (.getfield 12) 3 27 := ⟨by decide +kernel, rfl⟩
theorem d_Re_readNots_27 : Dc prog_8_method_13_code 27 (.invokevirtual 67) 3 30 := ⟨by decide +kernel, rfl⟩
theorem d_Re_readNots_30 : Dc prog_8_method_13_code 30 (.iload_n 1) 1 31 := ⟨by decide +kernel, rfl⟩
theorem d_Re_readNots_31 : Dj prog_8_method_13_code 31 (.ifCond .ne 7) 34 7 38 := ⟨by decide +kernel, rfl, rfl⟩
theorem d_Re_readNots_34 : Dc prog_8_method_13_code 34 (.iconst 1) 1 35 := ⟨by decide +kernel, rfl⟩
theorem d_Re_readNots_35 : Dj prog_8_method_13_code 35 (.goto 4) 38 4 39 := ⟨by decide +kernel, rfl, rfl⟩
theorem d_Re_readNots_38 : Dc prog_8_method_13_code 38 (.iconst 0) 1 39 := ⟨by decide +kernel, rfl⟩
theorem d_Re_readNots_39 : Dc prog_8_method_13_code 39 (.istore_n 1) 1 40 := ⟨by decide +kernel, rfl⟩
theorem d_Re_readNots_40 : Dc prog_8_method_13_code 40 (.iinc 2 1) 3 43 := ⟨by decide +kernel, rfl⟩
theorem d_Re_readNots_43 : Dj prog_8_method_13_code 43 (.goto (-39)) 46 (-39) 4 := ⟨by decide +kernel, rfl, rfl⟩
theorem d_Re_readNots_46 : Dc prog_8_method_13_code 46 (.iload_n 1) 1 47 := ⟨by decide +kernel, rfl⟩
theorem d_Re_readNots_47 : Dc prog_8_method_13_code 47 (.ireturn) 1 48 := ⟨by decide +kernel, rfl⟩
theorem d_Re_readPart_0 : Dc prog_8_method_20_code 0 (.aload_n 0) 1 1 := ⟨by decide +kernel, rfl⟩
theorem d_Re_readPart_1 : Dc prog_8_method_20_code 1 (.getfield 12) 3 4 := ⟨by decide +kernel, rfl⟩
theorem d_Re_readPart_4 : Dc prog_8_method_20_code 4 (.bipush 91) 2 6 := ⟨by decide +kernel, rfl⟩
theorem d_Re_readPart_6 : Dc prog_8_method_20_code 6 (.invokevirtual 60) 3 9 := ⟨by decide +kernel, rfl⟩
theorem d_Re_readPart_9 : Dj prog_8_method_20_code 9 (.ifCond .eq 9) 12 9 18 := ⟨by decide +kernel, rfl, rfl⟩
theorem d_Re_readPart_12 : Dc prog_8_method_20_code 12 (.aload_n 0) 1 13 := ⟨by decide +kernel, rfl⟩
theorem d_Re_readPart_13 : Dc prog_8_method_20_code 13 (.iload_n 1) 1 14 := ⟨by decide +kernel, rfl⟩
theorem d_Re_readPart_14 : Dc prog_8_method_20_code 14 (.invokevirtual 167) 3 17 := ⟨by decide +kernel, rfl⟩
theorem d_Re_readPart_17 : Dc prog_8_method_20_code 17 (.ireturn) 1 18 := ⟨by decide +kernel, rfl⟩
theorem d_Re_readPart_18 : Dc prog_8_method_20_code 18 (.aload_n 0) 1 19 := ⟨by decide +kernel, rfl⟩
theorem d_Re_readPart_19 : Dc prog_8_method_20_code 19 (.getfield 38) 3 22 := ⟨by decide +kernel, rfl⟩
theorem d_Re_readPart_22 : Dc prog_8_method_20_code 22 (.bipush 50) 2 24 := ⟨by decide +kernel, rfl⟩
theorem d_Re_readPart_24 : Dj prog_8_method_20_code 24 (.if_icmp .lt 8) 27 8 32 := ⟨by decide +kernel, rfl, rfl⟩
theorem d_Re_readPart_27 : Dc prog_8_method_20_code 27 (.aload_n 0) 1 28 := ⟨by decide +kernel, rfl⟩
theorem d_Re_readPart_28 : Dc prog_8_method_20_code 28 (.invokevirtual 64) 3 31 := ⟨by decide +kernel, rfl⟩
theorem d_Re_readPart_31 : Dc prog_8_method_20_code 31 (.ireturn) 1 32 := ⟨by decide +kernel, rfl⟩
theorem d_Re_readPart_32 : Dc prog_8_method_20_code 32 (.aload_n 0) 1 33 := ⟨by decide +kernel, rfl⟩
theorem d_Re_readPart_33 : Dc prog_8_method_20_code 33 (.dup) 1 34 := ⟨by decide +kernel, rfl⟩
theorem d_Re_readPart_34 : Dc prog_8_method_20_code 34 (.getfield 38) 3 37 := ⟨by decide +kernel, rfl⟩
theorem d_Re_readPart_37 : Dc prog_8_method_20_code 37 (.iconst 1) 1 38 := ⟨by decide +kernel, rfl⟩
theorem d_Re_readPart_38 : Dc prog_8_method_20_code 38 (.iadd) 1 39 := ⟨by decide +kernel, rfl⟩
theorem d_Re_readPart_39 : Dc prog_8_method_20_code 39 (.putfield 38) 3 42 := ⟨by decide +kernel, rfl⟩
theorem d_Re_readPart_42 : Dc prog_8_method_20_code 42 (.aload_n 0) 1 43 := ⟨by decide +kernel, rfl⟩
theorem d_Re_readPart_43 : Dc prog_8_method_20_code 43 (.getfield 12) 3 46 := ⟨by decide +kernel, rfl⟩
theorem d_Re_readPart_46 : Dc prog_8_method_20_code 46 (.iconst 0) 1 47 := ⟨by decide +kernel, rfl⟩
theorem d_Re_readPart_47 : Dc prog_8_method_20_code 47 (.sipush 1000) 3 50 := ⟨by decide +kernel, rfl⟩
theorem d_Re_readPart_50 : Dc prog_8_method_20_code 50 (.invokevirtual 109) 3 53 := ⟨by decide +kernel, rfl⟩
theorem d_Re_readPart_53 : Dj prog_8_method_20_code 53 (.ifCond .eq 28) 56 28 81 := ⟨by decide +kernel, rfl, rfl⟩
theorem d_Re_readPart_56 : Dc prog_8_method_20_code 56 (.aload_n 0) 1 57 := ⟨by decide +kernel, rfl⟩
theorem d_Re_readPart_57 : Dc prog_8_method_20_code 57 (.getfield 23) 3 60 := ⟨by decide +kernel, rfl⟩
theorem d_Re_readPart_60 : Dc prog_8_method_20_code 60 (.iconst 0) 1 61 := ⟨by decide +kernel, rfl⟩
theorem d_Re_readPart_61 : Dc prog_8_method_20_code 61 (.aload_n 0) 1 62 := ⟨by decide +kernel, rfl⟩
theorem d_Re_readPart_62 : Dc prog_8_method_20_code 62 (.getfield 12) 3 65 := ⟨by decide +kernel, rfl⟩
theorem d_Re_readPart_65 : Dc prog_8_method_20_code 65 (.getfield 113) 3 68 := ⟨by decide +kernel, rfl⟩
theorem d_Re_readPart_68 : Dc prog_8_method_20_code 68 (.invokevirtual 135) 3 71 := ⟨by decide +kernel, rfl⟩
theorem d_Re_readPart_71 : Dc prog_8_method_20_code 71 (.pop) 1 72 := ⟨by decide +kernel, rfl⟩
theorem d_Re_readPart_72 : Dc prog_8_method_20_code 72 (.aload_n 0) 1 73 := ⟨by decide +kernel, rfl⟩
theorem d_Re_readPart_73 : Dc prog_8_method_20_code 73 (.getfield 12) 3 76 := ⟨by decide +kernel, rfl⟩
theorem d_Re_readPart_76 : Dc prog_8_method_20_code 76 (.invokevirtual 67) 3 79 := ⟨by decide +kernel, rfl⟩
theorem d_Re_readPart_79 : Dc prog_8_method_20_code 79 (.iconst 1) 1 80 := ⟨by decide +kernel, rfl⟩
theorem d_Re_readPart_80 : Dc prog_8_method_20_code 80 (.ireturn) 1 81 := ⟨by decide +kernel, rfl⟩
theorem d_Re_readPart_81 : Dc prog_8_method_20_code 81 (.aload_n 0) 1 82 := ⟨by decide +kernel, rfl⟩
theorem d_Re_readPart_82 : Dc prog_8_method_20_code 82 (.getfield 34) 3 85 := ⟨by decide +kernel, rfl⟩
theorem d_Re_readPart_85 : Dj prog_8_method_20_code 85 (.ifCond .eq 13) 88 13 98 := ⟨by decide +kernel, rfl, rfl⟩
theorem d_Re_readPart_88 : Dc prog_8_method_20_code 88 (.aload_n 0) 1 89 := ⟨by decide +kernel, rfl⟩
theorem d_Re_readPart_89 : Dc prog_8_method_20_code 89 (.getfield 12) 3 92 := ⟨by decide +kernel, rfl⟩
theorem d_Re_readPart_92 : Dc prog_8_method_20_code 92 (.invokestatic 170) 3 95 := ⟨by decide +kernel, rfl⟩
theorem d_Re_readPart_95 : Dj prog_8_method_20_code 95 (.goto 10) 98 10 105 := ⟨by decide +kernel, rfl, rfl⟩
theorem d_Re_readPart_98 : Dc prog_8_method_20_code 98 (.aload_n 0) 1 99 := ⟨by decide +kernel, rfl⟩
theorem d_Re_readPart_99 : Dc prog_8_method_20_code 99 (.getfield 12) 3 102 := ⟨by decide +kernel, rfl⟩
theorem d_Re_readPart_102 : Dc prog_8_method_20_code 102 (.invokestatic 176) 3 105 := ⟨by decide +kernel, rfl⟩
theorem d_Re_readPart_105 : Dc prog_8_method_20_code 105 (.istore_n 2) 1 106 := ⟨by decide +kernel, rfl⟩
theorem d_Re_readPart_106 : Dc prog_8_method_20_code 106 (.iload_n 2) 1 107 := ⟨by decide +kernel, rfl⟩
theorem d_Re_readPart_107 : Dc prog_8_method_20_code 107 (.iconst (-1)) 1 108 := ⟨by decide +kernel, rfl⟩
theorem d_Re_readPart_108 : Dj prog_8_method_20_code 108 (.if_icmp .ne 8) 111 8 116 := ⟨by decide +kernel, rfl, rfl⟩
theorem d_Re_readPart_111 : Dc prog_8_method_20_code 111 (.aload_n 0) 1 112 := ⟨by decide +kernel, rfl⟩
theorem d_Re_readPart_112 : Dc prog_8_method_20_code 112 (.invokevirtual 64) 3 115 := ⟨by decide +kernel, rfl⟩
theorem d_Re_readPart_115 : Dc prog_8_method_20_code 115 (.ireturn) 1 116 := ⟨by decide +kernel, rfl⟩
theorem d_Re_readPart_116 : Dc prog_8_method_20_code 116 (.aload_n 0) 1 117 := ⟨by decide +kernel, rfl⟩
theorem d_Re_readPart_117 : Dc prog_8_method_20_code 117 (.getfield 12) 3 120 := ⟨by decide +kernel, rfl⟩
theorem d_Re_readPart_120 : Dc prog_8_method_20_code 120 (.invokevirtual 67) 3 123 := ⟨by decide +kernel, rfl⟩
theorem d_Re_readPart_123 : Dc prog_8_method_20_code 123 (.aload_n 0) 1 124 := ⟨by decide +kernel, rfl⟩
theorem d_Re_readPart_124 : Dc prog_8_method_20_code 124 (.getfield 34) 3 127 := ⟨by decide +kernel, rfl⟩
theorem d_Re_readPart_127 : Dj prog_8_method_20_code 127 (.ifCond .eq 43) 130 43 170 := ⟨by decide +kernel, rfl, rfl⟩
theorem d_Re_readPart_130 : Dc prog_8_method_20_code 130 (.iload_n 2) 1 131 := ⟨by decide +kernel, rfl⟩
theorem d_Re_readPart_131 : Dc prog_8_method_20_code 131 (.iconst 5) 1 132 := ⟨by decide +kernel, rfl⟩
theorem d_Re_readPart_132 : Dj prog_8_method_20_code 132 (.if_icmp .ne 38) 135 38 170 := ⟨by decide +kernel, rfl, rfl⟩
theorem d_Re_readPart_135 : Dc prog_8_method_20_code 135 (.aload_n 0) 1 136 := ⟨by decide +kernel, rfl⟩
theorem d_Re_readPart_136 : Dc prog_8_method_20_code 136 (.getfield 12) 3 139 := ⟨by decide +kernel, rfl⟩
theorem d_Re_readPart_139 : Dc prog_8_method_20_code 139 (.iconst 0) 1 140 := ⟨by decide +kernel, rfl⟩
theorem d_Re_readPart_140 : Dc prog_8_method_20_code 140 (.bipush 11) 2 142 := ⟨by decide +kernel, rfl⟩
theorem d_Re_readPart_142 : Dc prog_8_method_20_code 142 (.invokevirtual 109) 3 145 := ⟨by decide +kernel, rfl⟩
theorem d_Re_readPart_145 : Dj prog_8_method_20_code 145 (.ifCond .ne 8) 148 8 153 := ⟨by decide +kernel, rfl, rfl⟩
theorem d_Re_readPart_148 : Dc prog_8_method_20_code 148 (.aload_n 0) 1 149 := ⟨by decide +kernel, rfl⟩
theorem d_Re_readPart_149 : Dc prog_8_method_20_code 149 (.invokevirtual 64) 3 152 := ⟨by decide +kernel, rfl⟩
theorem d_Re_readPart_152 : Dc prog_8_method_20_code 152 (.ireturn) 1 153 := ⟨by decide +kernel, rfl⟩
theorem d_Re_readPart_153 : Dc prog_8_method_20_code 153 (.iload_n 2) 1 154 := ⟨by decide +kernel, rfl⟩
theorem d_Re_readPart_154 : Dc prog_8_method_20_code 154 (.aload_n 0) 1 155 := ⟨by decide +kernel, rfl⟩
theorem d_Re_readPart_155 : Dc prog_8_method_20_code 155 (.getfield 12) 3 158 := ⟨by decide +kernel, rfl⟩
theorem d_Re_readPart_158 : Dc prog_8_method_20_code 158 (.getfield 113) 3 161 := ⟨by decide +kernel, rfl⟩
theorem d_Re_readPart_161 : Dc prog_8_method_20_code 161 (.iadd) 1 162 := ⟨by decide +kernel, rfl⟩
theorem d_Re_readPart_162 : Dc prog_8_method_20_code 162 (.istore_n 2) 1 163 := ⟨by decide +kernel, rfl⟩
theorem d_Re_readPart_163 : Dc prog_8_method_20_code 163 (.aload_n 0) 1 164 := ⟨by decide +kernel, rfl⟩
theorem d_Re_readPart_164 : Dc prog_8_method_20_code 164 (.getfield 12) 3 167 := ⟨by decide +kernel, rfl⟩
theorem d_Re_readPart_167 : Dc prog_8_method_20_code 167 (.invokevirtual 67) 3 170 := ⟨by decide +kernel, rfl⟩
theorem d_Re_readPart_170 : Dc prog_8_method_20_code 170 (.aload_n 0) 1 171 := ⟨by decide +kernel, rfl⟩
theorem d_Re_readPart_171 : Dc prog_8_method_20_code 171 (.getfield 23) 3 174 := ⟨by decide +kernel, rfl⟩
theorem d_Re_readPart_174 : Dc prog_8_method_20_code 174 (.iconst 1) 1 175 := ⟨by decide +kernel, rfl⟩
theorem d_Re_readPart_175 : Dc prog_8_method_20_code 175 (.iload_n 2) 1 176 := ⟨by decide +kernel, rfl⟩
theorem d_Re_readPart_176 : Dc prog_8_method_20_code 176 (.invokevirtual 135) 3 179 := ⟨by decide +kernel, rfl⟩
theorem d_Re_readPart_179 : Dc prog_8_method_20_code 179 (.pop) 1 180 := ⟨by decide +kernel, rfl⟩
theorem d_Re_readPart_180 : Dc prog_8_method_20_code 180 (.iconst 1) 1 181 := ⟨by decide +kernel, rfl⟩
theorem d_Re_readPart_181 : Dc prog_8_method_20_code 181 (.ireturn) 1 182 := ⟨by decide +kernel, rfl⟩
theorem d_Re_readPlain_0 : Dc prog_8_method_12_code 0 (.aload_n 0) 1 1 := ⟨by decide +kernel, rfl⟩
theorem d_Re_readPlain_1 : Dc prog_8_method_12_code 1 (.invokevirtual 147) 3 4 := ⟨by decide +kernel, rfl⟩
theorem d_Re_readPlain_4 : Dc prog_8_method_12_code 4 (.istore_n 2) 1 5 := ⟨by decide +kernel, rfl⟩
theorem d_Re_readPlain_5 : Dc prog_8_method_12_code 5 (.aload_n 0) 1 6 := ⟨by decide +kernel, rfl⟩
theorem d_Re_readPlain_6 : Dc prog_8_method_12_code 6 (.getfield 12) 3 9 := ⟨by decide +kernel, rfl⟩
theorem d_Re_readPlain_9 : Dc prog_8_method_12_code 9 (.bipush 40) 2 11 := ⟨by decide +kernel, rfl⟩
theorem d_Re_readPlain_11 : Dc prog_8_method_12_code 11 (.invokevirtual 60) 3 14 := ⟨by decide +kernel, rfl⟩
theorem d_Re_readPlain_14 : Dj prog_8_method_12_code 14 (.ifCond .eq 13) 17 13 27 := ⟨by decide +kernel, rfl, rfl⟩
theorem d_Re_readPlain_17 : Dc prog_8_method_12_code 17 (.aload_n 0) 1 18 := ⟨by decide +kernel, rfl⟩
theorem d_Re_readPlain_18 : Dc prog_8_method_12_code 18 (.iload_n 1) 1 19 := ⟨by decide +kernel, rfl⟩
theorem d_Re_readPlain_19 : Dc prog_8_method_12_code 19 (.invokevirtual 150) 3 22 := ⟨by decide +kernel, rfl⟩
theorem d_Re_readPlain_22 : Dj prog_8_method_12_code 22 (.ifCond .ne 57) 25 57 79 := ⟨by decide +kernel, rfl, rfl⟩
theorem d_Re_readPlain_25 : Dc prog_8_method_12_code 25 (.iconst 0) 1 26 := ⟨by decide +kernel, rfl⟩
theorem d_Re_readPlain_26 : Dc prog_8_method_12_code 26 (.ireturn) 1 27 := ⟨by decide +kernel, rfl⟩
theorem d_Re_readPlain_27 : Dc prog_8_method_12_code 27 (.aload_n 0) 1 28 := ⟨by decide +kernel, rfl⟩
theorem d_Re_readPlain_28 : Dc prog_8_method_12_code 28 (.iload_n 1) 1 29 := ⟨by decide +kernel, rfl⟩
theorem d_Re_readPlain_29 : Dc prog_8_method_12_code 29 (.invokevirtual 122) 3 32 := ⟨by decide +kernel, rfl⟩
theorem d_Re_readPlain_32 : Dj prog_8_method_12_code 32 (.ifCond .ne 5) 35 5 37 := ⟨by decide +kernel, rfl, rfl⟩
theorem d_Re_readPlain_35 : Dc prog_8_method_12_code 35 (.iconst 0) 1 36 := ⟨by decide +kernel, rfl⟩
theorem d_Re_readPlain_36 : Dc prog_8_method_12_code 36 (.ireturn) 1 37 := ⟨by decide +kernel, rfl⟩
theorem d_Re_readPlain_37 : Dc prog_8_method_12_code 37 (.aload_n 0) 1 38 := ⟨by decide +kernel, rfl⟩
theorem d_Re_readPlain_38 : Dc prog_8_method_12_code 38 (.invokevirtual 153) 3 41 := ⟨by decide +kernel, rfl⟩
theorem d_Re_readPlain_41 : Dc prog_8_method_12_code 41 (.istore_n 3) 1 42 := ⟨by decide +kernel, rfl⟩
theorem d_Re_readPlain_42 : Dc prog_8_method_12_code 42 (.iload_n 3) 1 43 := ⟨by decide +kernel, rfl⟩
theorem d_Re_readPlain_43 : Dc prog_8_method_12_code 43 (.iconst (-1)) 1 44 := ⟨by decide +kernel, rfl⟩
theorem d_Re_readPlain_44 : Dj prog_8_method_12_code 44 (.if_icmp .ne 8) 47 8 52 := ⟨by decide +kernel, rfl, rfl⟩
theorem d_Re_readPlain_47 : Dc prog_8_method_12_code 47 (.aload_n 0) 1 48 := ⟨by decide +kernel, rfl⟩
theorem d_Re_readPlain_48 : Dc prog_8_method_12_code 48 (.invokevirtual 64) 3 51 := ⟨by decide +kernel, rfl⟩
theorem d_Re_readPlain_51 : Dc prog_8_method_12_code 51 (.ireturn) 1 52 := ⟨by decide +kernel, rfl⟩
theorem d_Re_readPlain_52 : Dc prog_8_method_12_code 52 (.aload_n 0) 1 53 := ⟨by decide +kernel, rfl⟩
theorem d_Re_readPlain_53 : Dc prog_8_method_12_code 53 (.getfield 12) 3 56 := ⟨by decide +kernel, rfl⟩
theorem d_Re_readPlain_56 : Dc prog_8_method_12_code 56 (.invokevirtual 67) 3 59 := ⟨by decide +kernel, rfl⟩
theorem d_Re_readPlain_59 : Dc prog_8_method_12_code 59 (.aload_n 0) 1 60 := ⟨by decide +kernel, rfl⟩
theorem d_Re_readPlain_60 : Dc prog_8_method_12_code 60 (.iload_n 1) 1 61 := ⟨by decide +kernel, rfl⟩
theorem d_Re_readPlain_61 : Dc prog_8_method_12_code 61 (.invokevirtual 122) 3 64 := ⟨by decide +kernel, rfl⟩
theorem d_Re_readPlain_64 : Dj prog_8_method_12_code 64 (.ifCond .ne 5) 67 5 69 := ⟨by decide +kernel, rfl, rfl⟩
theorem d_Re_readPlain_67 : Dc prog_8_method_12_code 67 (.iconst 0) 1 68 := ⟨by decide +kernel, rfl⟩
theorem d_Re_readPlain_68 : Dc prog_8_method_12_code 68 (.ireturn) 1 69 := ⟨by decide +kernel, rfl⟩
theorem d_Re_readPlain_69 : Dc prog_8_method_12_code 69 (.aload_n 0) 1 70 := ⟨by decide +kernel, rfl⟩
theorem d_Re_readPlain_70 : Dc prog_8_method_12_code 70 (.getfield 23) 3 73 := ⟨by decide +kernel, rfl⟩
theorem d_Re_readPlain_73 : Dc prog_8_method_12_code 73 (.iload_n 3) 1 74 := ⟨by decide +kernel, rfl⟩
theorem d_Re_readPlain_74 : Dc prog_8_method_12_code 74 (.iconst 0) 1 75 := ⟨by decide +kernel, rfl⟩
theorem d_Re_readPlain_75 : Dc prog_8_method_12_code 75 (.invokevirtual 135) 3 78 := ⟨by decide +kernel, rfl⟩
theorem d_Re_readPlain_78 : Dc prog_8_method_12_code 78 (.pop) 1 79 := ⟨by decide +kernel, rfl⟩
theorem d_Re_readPlain_79 : Dc prog_8_method_12_code 79 (.iload_n 2) 1 80 := ⟨by decide +kernel, rfl⟩
theorem d_Re_readPlain_80 : Dj prog_8_method_12_code 80 (.ifCond .eq 14) 83 14 94 := ⟨by decide +kernel, rfl, rfl⟩
theorem d_Re_readPlain_83 : Dc prog_8_method_12_code 83 (.aload_n 0) 1 84 := ⟨by decide +kernel, rfl⟩
theorem d_Re_readPlain_84 : Dc prog_8_method_12_code 84 (.getfield 23) 3 87 := ⟨by decide +kernel, rfl⟩
theorem d_Re_readPlain_87 : Dc prog_8_method_12_code 87 (.bipush 10) 2 89 := ⟨by decide +kernel, rfl⟩
theorem d_Re_readPlain_89 : Dc prog_8_method_12_code 89 (.iconst 0) 1 90 := ⟨by decide +kernel, rfl⟩
theorem d_Re_readPlain_90 : Dc prog_8_method_12_code 90 (.invokevirtual 135) 3 93 := ⟨by decide +kernel, rfl⟩
theorem d_Re_readPlain_93 : Dc prog_8_method_12_code 93 (.pop) 1 94 := ⟨by decide +kernel, rfl⟩
theorem d_Re_readPlain_94 : Dc prog_8_method_12_code 94 (.iconst 1) 1 95 := ⟨by decide +kernel, rfl⟩
theorem d_Re_readPlain_95 : Dc prog_8_method_12_code 95 (.ireturn) 1 96 := ⟨by decide +kernel, rfl⟩
theorem d_Re_readSumInBrackets_0 : Dc prog_8_method_19_code 0 (.iload_n 1) 1 1 := ⟨by decide +kernel, rfl⟩
theorem d_Re_readSumInBrackets_1 : Dc prog_8_method_19_code 1 (.bipush 8) 2 3 := ⟨by decide +kernel, rfl⟩
theorem d_Re_readSumInBrackets_3 : Dj prog_8_method_19_code 3 (.if_icmp .lt 8) 6 8 11 := ⟨by decide +kernel, rfl, rfl⟩
theorem d_Re_readSumInBrackets_6 : Dc prog_8_method_19_code 6 (.aload_n 0) 1 7 := ⟨by decide +kernel, rfl⟩
theorem d_Re_readSumInBrackets_7 : Dc prog_8_method_19_code 7 (.invokevirtual 64) 3 10 := ⟨by decide +kernel, rfl⟩
theorem d_Re_readSumInBrackets_10 : Dc prog_8_method_19_code 10 (.ireturn) 1 11 := ⟨by decide +kernel, rfl⟩
theorem d_Re_readSumInBrackets_11 : Dc prog_8_method_19_code 11 (.aload_n 0) 1 12 := ⟨by decide +kernel, rfl⟩
theorem d_Re_readSumInBrackets_12 : Dc prog_8_method_19_code 12 (.getfield 12) 3 15 := ⟨by decide +kernel, rfl⟩
theorem d_Re_readSumInBrackets_15 : Dc prog_8_method_19_code 15 (.invokevirtual 67) 3 18 := ⟨by decide +kernel, rfl⟩
theorem d_Re_readSumInBrackets_18 : Dc prog_8_method_19_code 18 (.aload_n 0) 1 19 := ⟨by decide +kernel, rfl⟩
theorem d_Re_readSumInBrackets_19 : Dc prog_8_method_19_code 19 (.iload_n 1) 1 20 := ⟨by decide +kernel, rfl⟩
theorem d_Re_readSumInBrackets_20 : Dc prog_8_method_19_code 20 (.iconst 1) 1 21 := ⟨by decide +kernel, rfl⟩
theorem d_Re_readSumInBrackets_21 : Dc prog_8_method_19_code 21 (.iadd) 1 22 := ⟨by decide +kernel, rfl⟩
theorem d_Re_readSumInBrackets_22 : Dc prog_8_method_19_code 22 (.invokevirtual 122) 3 25 := ⟨by decide +kernel, rfl⟩
theorem d_Re_readSumInBrackets_25 : Dj prog_8_method_19_code 25 (.ifCond .ne 5) 28 5 30 := ⟨by decide +kernel, rfl, rfl⟩
theorem d_Re_readSumInBrackets_28 : Dc prog_8_method_19_code 28 (.iconst 0) 1 29 := ⟨by decide +kernel, rfl⟩
theorem d_Re_readSumInBrackets_29 : Dc prog_8_method_19_code 29 (.ireturn) 1 30 := ⟨by decide +kernel, rfl⟩
theorem d_Re_readSumInBrackets_30 : Dc prog_8_method_19_code 30 (.aload_n 0) 1 31 := ⟨by decide +kernel, rfl⟩
theorem d_Re_readSumInBrackets_31 : Dc prog_8_method_19_code 31 (.getfield 12) 3 34 := ⟨by decide +kernel, rfl⟩
theorem d_Re_readSumInBrackets_34 : Dc prog_8_method_19_code 34 (.bipush 93) 2 36 := ⟨by decide +kernel, rfl⟩
theorem d_Re_readSumInBrackets_36 : Dc prog_8_method_19_code 36 (.invokevirtual 60) 3 39 := ⟨by decide +kernel, rfl⟩
theorem d_Re_readSumInBrackets_39 : Dj prog_8_method_19_code 39 (.ifCond .ne 8) 42 8 47 := ⟨by decide +kernel, rfl, rfl⟩
theorem d_Re_readSumInBrackets_42 : Dc prog_8_method_19_code 42 (.aload_n 0) 1 43 := ⟨by decide +kernel, rfl⟩
theorem d_Re_readSumInBrackets_43 : Dc prog_8_method_19_code 43 (.invokevirtual 64) 3 46 := ⟨by decide +kernel, rfl⟩
theorem d_Re_readSumInBrackets_46 : Dc prog_8_method_19_code 46 (.ireturn) 1 47 := ⟨by decide +kernel, rfl⟩
theorem d_Re_readSumInBrackets_47 : Dc prog_8_method_19_code 47 (.aload_n 0) 1 48 := ⟨by decide +kernel, rfl⟩
theorem d_Re_readSumInBrackets_48 : Dc prog_8_method_19_code 48 (.getfield 12) 3 51 := ⟨by decide +kernel, rfl⟩
theorem d_Re_readSumInBrackets_51 : Dc prog_8_method_19_code 51 (.invokevirtual 67) 3 54 := ⟨by decide +kernel, rfl⟩
theorem d_Re_readSumInBrackets_54 : Dc prog_8_method_19_code 54 (.iconst 1) 1 55 := ⟨by decide +kernel, rfl⟩
theorem d_Re_readSumInBrackets_55 : Dc prog_8_method_19_code 55 (.ireturn) 1 56 := ⟨by decide +kernel, rfl⟩
theorem fl_Re_34 : FL "SubgraphDesk$Reader" 34 7 2 false .boolean (1, 0) := ⟨R_Re, F_Re, 5, ty_Re, rfl, rfl, in_Re, tyok_Re, nm_Re, by decide, gd 353 (by decide +kernel) rfl, rfl, rfl, rfl⟩
theorem fl_Re_38 : FL "SubgraphDesk$Reader" 38 7 3 false .int (0, 0) := ⟨R_Re, F_Re, 5, ty_Re, rfl, rfl, in_Re, tyok_Re, nm_Re, by decide, gd 354 (by decide +kernel) rfl, rfl, rfl, rfl⟩
theorem fl_Re_113 : FL "SubgraphDesk$Reader" 113 10 6 false .int (0, 0) := ⟨R_Ta, F_Ta, 7, ty_Ta, rfl, rfl, in_Ta, tyok_Ta, nm_Ta, by decide, gd 311 (by decide +kernel) rfl, rfl, rfl, rfl⟩
theorem ml_Re_64 : Cond.methodLink "SubgraphDesk$Reader" 64 m_Re_fail.1 ∈ lw_gd := gd 856 (by decide +kernel) rfl
theorem ml_Re_109 : Cond.methodLink "SubgraphDesk$Reader" 109 m_Ta_isNumber.1 ∈ lw_gd := gd 899 (by decide +kernel) rfl
theorem ml_Re_122 : Cond.methodLink "SubgraphDesk$Reader" 122 m_Re_readSum.1 ∈ lw_gd := gd 879 (by decide +kernel) rfl
theorem ml_Re_127 : Cond.methodLink "SubgraphDesk$Reader" 127 m_Re_readTest.1 ∈ lw_gd := gd 950 (by decide +kernel) rfl
theorem ml_Re_147 : Cond.methodLink "SubgraphDesk$Reader" 147 m_Re_readNots.1 ∈ lw_gd := gd 962 (by decide +kernel) rfl
theorem ml_Re_150 : Cond.methodLink "SubgraphDesk$Reader" 150 m_Re_readInBrackets.1 ∈ lw_gd := gd 967 (by decide +kernel) rfl
theorem ml_Re_153 : Cond.methodLink "SubgraphDesk$Reader" 153 m_Re_comparisonHere.1 ∈ lw_gd := gd 971 (by decide +kernel) rfl
theorem ml_Re_167 : Cond.methodLink "SubgraphDesk$Reader" 167 m_Re_readSumInBrackets.1 ∈ lw_gd := gd 895 (by decide +kernel) rfl
theorem ml_Re_170 : Cond.methodLink "SubgraphDesk$Reader" 170 m_Ru_wordHere.1 ∈ lw_gd := gd 907 (by decide +kernel) rfl
theorem ml_Re_176 : Cond.methodLink "SubgraphDesk$Reader" 176 m_Le_wordHere.1 ∈ lw_gd := gd 917 (by decide +kernel) rfl
theorem c_Re_readSumInBrackets {E : EV} {w : Mem} {t : List Nat} {o : Bool} {n dp f p : Nat} {a : Den} {c : List (Nat × Nat)} {x : ResT} (HS : CT E t o n 3 m_Re_readSum dS) (hdp : dp ≤ 8) (hx : if 8 ≤ dp then x = .inl f else bindR (rd t o n 3 (dp + 1) (nxT t f) p a) (closeR t 93) = some x) (h : RdI w t o f p c) : T E m_Re_readSumInBrackets (dSb dp) 0 0 [.ref 25, .int (nI dp)] w (fun r w2 => ExQ w w2 t o c f p x r) := by
  refine T_of (L := [.ref 25, .int (nI dp)]) cf_Re_readSumInBrackets rfl (Nat.le_of_ble_eq_true rfl) (fun X hX hF => ?_)
  refine g_iload1 hX d_Re_readSumInBrackets_0 ?_
  refine g_bipush (v := nI 8) hX d_Re_readSumInBrackets_1 rfl ?_
  refine g_icmpN_lt hX d_Re_readSumInBrackets_3 (by omega) (by omega) (fun e3 => ?_) (fun e3 => ?_)
  · refine g_aload0 hX d_Re_readSumInBrackets_11 ?_
    refine g_getF hX d_Re_readSumInBrackets_12 fl_Re_12 (lv_25 _) ?_
    refine g_callV (As := []) hX hF.1 d_Re_readSumInBrackets_15 ml_Re_67 cf_Ta_step cv_Ta_step rfl rfl (c_Ta_step h.1.1 h.1.2.2.1 (enT_le h.fl.1)) (rcv_obj hX (lv_26 _) rfl rfl) (by first | (unfold dP dT; omega) | (unfold dSb dP; omega) | (unfold dSb dS; omega) | (unfold dT dS; omega)  | (unfold dL dB; omega) | (unfold dB dE; omega) | (unfold dI dE; omega) | (unfold dI dL; omega) | (unfold dS dL; omega) | (unfold dP; omega) | (unfold dT; omega) | (unfold dS; omega) | (unfold dI; omega) | (unfold dL; omega) | (unfold dB; omega) | (unfold dE; omega) | (unfold dSb; omega) | omega) (by omega) (by omega) (Nat.le_of_ble_eq_true rfl) ?_
    rintro _ w3 ⟨rfl, ft_w3, tk_w3⟩
    have h3 := h.step ft_w3 tk_w3
    show G0 _ _ _ _ _ _ _ _
    refine g_aload0 hX d_Re_readSumInBrackets_18 ?_
    refine g_iload1 hX d_Re_readSumInBrackets_19 ?_
    refine g_iconst (v := nI 1) hX d_Re_readSumInBrackets_20 rfl ?_
    refine g_iaddN hX d_Re_readSumInBrackets_21 ?_
    rw [if_neg (by omega)] at hx
    obtain ⟨x0, hx0, hk0⟩ := bind_2 hx
    refine g_callV (As := [_]) hX hF.1 d_Re_readSumInBrackets_22 ml_Re_122 cf_Re_readSum cv_Re_readSum rfl rfl (HS _ _ _ _ _ _ _ (show dp + 1 ≤ 8 by omega) hx0 h3) (rcv_obj hX (lv_25 _) rfl rfl) (by first | (unfold dP dT; omega) | (unfold dSb dP; omega) | (unfold dSb dS; omega) | (unfold dT dS; omega)  | (unfold dL dB; omega) | (unfold dB dE; omega) | (unfold dI dE; omega) | (unfold dI dL; omega) | (unfold dS dL; omega) | (unfold dP; omega) | (unfold dT; omega) | (unfold dS; omega) | (unfold dI; omega) | (unfold dL; omega) | (unfold dB; omega) | (unfold dE; omega) | (unfold dSb; omega) | omega) (by omega) (by omega) (Nat.le_of_ble_eq_true rfl) ?_
    rintro r5 w5 hQ
    obtain rfl := hQ.rv
    show G0 _ _ _ _ _ _ _ _
    refine g_ifB_ne hX d_Re_readSumInBrackets_25 (fun e42 => ?_) (fun e42 => ?_)
    · obtain ⟨y, rfl⟩ := okR_t e42
      obtain ⟨c1, hA⟩ := hQ.acc
      replace hk0 : closeR t 93 y.1 y.2.1 y.2.2 = some x := hk0
      have hAt := hA.tk ft_w3 (nxT_ge t f h.fl.1)
      have hR5 := hA.2.2.2.1
      refine g_aload0 hX d_Re_readSumInBrackets_30 ?_
      refine g_getF hX d_Re_readSumInBrackets_31 fl_Re_12 (lv_25 _) ?_
      refine g_bipush (v := nI 93) hX d_Re_readSumInBrackets_34 rfl ?_
      refine g_callV (As := [_]) hX hF.1 d_Re_readSumInBrackets_36 ml_Re_60 cf_Ta_isSign cv_Ta_isSign rfl rfl (c_Ta_isSign (by decide) hR5.1) (rcv_obj hX (lv_26 _) rfl rfl) (by first | (unfold dP dT; omega) | (unfold dSb dP; omega) | (unfold dSb dS; omega) | (unfold dT dS; omega)  | (unfold dL dB; omega) | (unfold dB dE; omega) | (unfold dI dE; omega) | (unfold dI dL; omega) | (unfold dS dL; omega) | (unfold dP; omega) | (unfold dT; omega) | (unfold dS; omega) | (unfold dI; omega) | (unfold dL; omega) | (unfold dB; omega) | (unfold dE; omega) | (unfold dSb; omega) | omega) (by omega) (by omega) (Nat.le_of_ble_eq_true rfl) ?_
      refine ret_k ?_
      refine g_ifB_ne hX d_Re_readSumInBrackets_39 (fun e56 => ?_) (fun e56 => ?_)
      · refine g_aload0 hX d_Re_readSumInBrackets_47 ?_
        refine g_getF hX d_Re_readSumInBrackets_48 fl_Re_12 (lv_25 _) ?_
        refine g_callV (As := []) hX hF.1 d_Re_readSumInBrackets_51 ml_Re_67 cf_Ta_step cv_Ta_step rfl rfl (c_Ta_step hR5.1.1 hR5.1.2.2.1 (enT_le hR5.fl.1)) (rcv_obj hX (lv_26 _) rfl rfl) (by first | (unfold dP dT; omega) | (unfold dSb dP; omega) | (unfold dSb dS; omega) | (unfold dT dS; omega)  | (unfold dL dB; omega) | (unfold dB dE; omega) | (unfold dI dE; omega) | (unfold dI dL; omega) | (unfold dS dL; omega) | (unfold dP; omega) | (unfold dT; omega) | (unfold dS; omega) | (unfold dI; omega) | (unfold dL; omega) | (unfold dB; omega) | (unfold dE; omega) | (unfold dSb; omega) | omega) (by omega) (by omega) (Nat.le_of_ble_eq_true rfl) ?_
        rintro _ w6 ⟨rfl, ft_w6, tk_w6⟩
        have h6 := hR5.step ft_w6 tk_w6
        show G0 _ _ _ _ _ _ _ _
        refine g_iconst (v := nI 1) hX d_Re_readSumInBrackets_54 rfl ?_
        refine g_zret hX hF d_Re_readSumInBrackets_55 (Or.inr rfl) (by omega) (by omega) ?_
        rcases close_inv hk0 with ⟨-, rfl⟩ | ⟨z, -⟩
        · exact (hAt.tk2 ft_w6 tk_w6).ex
        · exact absurd e56 z
      · refine g_aload0 hX d_Re_readSumInBrackets_42 ?_
        refine g_callV (As := []) hX hF.1 d_Re_readSumInBrackets_43 ml_Re_64 cf_Re_fail cv_Re_fail rfl rfl (c_Re_fail hR5.1) (rcv_obj hX (lv_25 _) rfl rfl) (by first | (unfold dP dT; omega) | (unfold dSb dP; omega) | (unfold dSb dS; omega) | (unfold dT dS; omega)  | (unfold dL dB; omega) | (unfold dB dE; omega) | (unfold dI dE; omega) | (unfold dI dL; omega) | (unfold dS dL; omega) | (unfold dP; omega) | (unfold dT; omega) | (unfold dS; omega) | (unfold dI; omega) | (unfold dL; omega) | (unfold dB; omega) | (unfold dE; omega) | (unfold dSb; omega) | omega) (by omega) (by omega) (Nat.le_of_ble_eq_true rfl) ?_
        refine ret_k ?_
        refine g_zret hX hF d_Re_readSumInBrackets_46 (Or.inl rfl) (by omega) (by omega) ?_
        rcases close_inv hk0 with ⟨z, -⟩ | ⟨-, rfl⟩
        · exact absurd z e56
        · exact ExQ.fail (ft_w3.R.tr hA.1)
    · obtain ⟨e, rfl⟩ := okR_f e42
      obtain rfl : x = .inl e := hk0
      refine g_iconst (v := nI 0) hX d_Re_readSumInBrackets_28 rfl ?_
      refine g_zret hX hF d_Re_readSumInBrackets_29 (Or.inl rfl) (by omega) (by omega) ?_
      exact ExQ.bad ft_w3.R hQ
  · refine g_aload0 hX d_Re_readSumInBrackets_6 ?_
    refine g_callV (As := []) hX hF.1 d_Re_readSumInBrackets_7 ml_Re_64 cf_Re_fail cv_Re_fail rfl rfl (c_Re_fail h.1) (rcv_obj hX (lv_25 _) rfl rfl) (by first | (unfold dP dT; omega) | (unfold dSb dP; omega) | (unfold dSb dS; omega) | (unfold dT dS; omega)  | (unfold dL dB; omega) | (unfold dB dE; omega) | (unfold dI dE; omega) | (unfold dI dL; omega) | (unfold dS dL; omega) | (unfold dP; omega) | (unfold dT; omega) | (unfold dS; omega) | (unfold dI; omega) | (unfold dL; omega) | (unfold dB; omega) | (unfold dE; omega) | (unfold dSb; omega) | omega) (by omega) (by omega) (Nat.le_of_ble_eq_true rfl) ?_
    refine ret_k ?_
    refine g_zret hX hF d_Re_readSumInBrackets_10 (Or.inl rfl) (by omega) (by omega) ?_
    rw [if_pos (by omega)] at hx
    subst hx
    exact ExQ.fail (FrRd.rf w)
theorem c_Re_readPart {E : EV} {w : Mem} {t : List Nat} {o : Bool} {n dp f p : Nat} {a : Den} {c : List (Nat × Nat)} {x : ResT} (HS : ∀ k, k < n → CT E t o k 3 m_Re_readSum dS) (hdp : dp ≤ 8) (hrd : rd t o n 0 dp f p a = some x) (h : RdI w t o f p c) : T E m_Re_readPart (dP dp) 0 0 [.ref 25, .int (nI dp)] w (fun r w2 => ExQ w w2 t o c f p x r) := by
  refine T_of (L := [.ref 25, .int (nI dp), un]) cf_Re_readPart rfl (Nat.le_of_ble_eq_true rfl) (fun X hX hF => ?_)
  obtain ⟨n, rfl⟩ := rd_pos hrd
  have hp50 := h.2.2.2.2.1
  refine g_aload0 hX d_Re_readPart_0 ?_
  refine g_getF hX d_Re_readPart_1 fl_Re_12 (lv_25 _) ?_
  refine g_bipush (v := nI 91) hX d_Re_readPart_4 rfl ?_
  refine g_callV (As := [_]) hX hF.1 d_Re_readPart_6 ml_Re_60 cf_Ta_isSign cv_Ta_isSign rfl rfl (c_Ta_isSign (by decide) h.1) (rcv_obj hX (lv_26 _) rfl rfl) (by first | (unfold dP dT; omega) | (unfold dSb dP; omega) | (unfold dSb dS; omega) | (unfold dT dS; omega)  | (unfold dL dB; omega) | (unfold dB dE; omega) | (unfold dI dE; omega) | (unfold dI dL; omega) | (unfold dS dL; omega) | (unfold dP; omega) | (unfold dT; omega) | (unfold dS; omega) | (unfold dI; omega) | (unfold dL; omega) | (unfold dB; omega) | (unfold dE; omega) | (unfold dSb; omega) | omega) (by omega) (by omega) (Nat.le_of_ble_eq_true rfl) ?_
  refine ret_k ?_
  refine g_ifB_eq hX d_Re_readPart_9 (fun e9 => ?_) (fun e9 => ?_)
  · rw [rd_0c e9] at hrd
    obtain rfl := Option.some.inj hrd
    refine g_aload0 hX d_Re_readPart_18 ?_
    refine g_getI hX d_Re_readPart_19 fl_Re_38 (lv_25 _) ?_
    refine g_topi h.2.2.1 ?_
    refine g_bipush (v := nI 50) hX d_Re_readPart_22 rfl ?_
    refine g_icmpN_lt hX d_Re_readPart_24 (by omega) (by omega) (fun e6 => ?_) (fun e6 => ?_)
    · have hlen := h.len
      have hpsh := h.2.2.2.2.2.2
      have h36 := h.2.2.2.2.2.1
      have hfl := h.fl
      refine g_aload0 hX d_Re_readPart_32 ?_
      refine g_dup hX d_Re_readPart_33 rfl ?_
      refine g_getI hX d_Re_readPart_34 fl_Re_38 (lv_25 _) ?_
      refine g_topi h.2.2.1 ?_
      refine g_iconst (v := nI 1) hX d_Re_readPart_37 rfl ?_
      refine g_iaddN hX d_Re_readPart_38 ?_
      refine g_putI hX d_Re_readPart_39 fl_Re_38 (lv_25 _) ?_
      have h1 := h.part e6
      refine g_aload0 hX d_Re_readPart_42 ?_
      refine g_getF hX d_Re_readPart_43 fl_Re_12 (lv_25 _) ?_
      refine g_iconst (v := nI 0) hX d_Re_readPart_46 rfl ?_
      refine g_sipush (v := nI 1000) hX d_Re_readPart_47 rfl ?_
      refine g_callV (As := [_, _]) hX hF.1 d_Re_readPart_50 ml_Re_109 cf_Ta_isNumber cv_Ta_isNumber rfl rfl (c_Ta_isNumber (by decide) (by decide) h1.1) (rcv_obj hX (lv_26 _) rfl rfl) (by first | (unfold dP dT; omega) | (unfold dSb dP; omega) | (unfold dSb dS; omega) | (unfold dT dS; omega)  | (unfold dL dB; omega) | (unfold dB dE; omega) | (unfold dI dE; omega) | (unfold dI dL; omega) | (unfold dS dL; omega) | (unfold dP; omega) | (unfold dT; omega) | (unfold dS; omega) | (unfold dI; omega) | (unfold dL; omega) | (unfold dB; omega) | (unfold dE; omega) | (unfold dSb; omega) | omega) (by omega) (by omega) (Nat.le_of_ble_eq_true rfl) ?_
      refine ret_k ?_
      refine g_ifB_eq hX d_Re_readPart_53 (fun e35 => ?_) (fun e35 => ?_)
      · refine g_aload0 hX d_Re_readPart_81 ?_
        refine g_getZ hX d_Re_readPart_82 fl_Re_34 (lv_25 _) ?_
        refine g_topi h1.2.1 ?_
        refine g_ifB_eq hX d_Re_readPart_85 (fun e67 => ?_) (fun e67 => ?_)
        · obtain rfl : o = false := by cases o; rfl; exact absurd rfl e67
          refine g_aload0 hX d_Re_readPart_98 ?_
          refine g_getF hX d_Re_readPart_99 fl_Re_12 (lv_25 _) ?_
          refine g_callS (As := [_]) hX hF.1 d_Re_readPart_102 ml_Re_176 cf_Le_wordHere cs_Le_wordHere rfl (c_Le_wordHere h1.1) (by first | (unfold dP dT; omega) | (unfold dSb dP; omega) | (unfold dSb dS; omega) | (unfold dT dS; omega)  | (unfold dL dB; omega) | (unfold dB dE; omega) | (unfold dI dE; omega) | (unfold dI dL; omega) | (unfold dS dL; omega) | (unfold dP; omega) | (unfold dT; omega) | (unfold dS; omega) | (unfold dI; omega) | (unfold dL; omega) | (unfold dB; omega) | (unfold dE; omega) | (unfold dSb; omega) | omega) (by omega) (by omega) (Nat.le_of_ble_eq_true rfl) ?_
          rintro r5 w5 ⟨hword, hw5⟩
          have hw6 := hw5.symm
          subst hw6
          obtain ⟨x, rfl, hx⟩ : ∃ x : Int32, r5 = some (.int x) ∧ ((∃ k, k < (partsL false).length ∧ isW t f (gA2 (partsL false) k) ∧ x = nI k) ∨ (x = -1 ∧ ∀ k, k < (partsL false).length → ¬ isW t f (gA2 (partsL false) k))) := by
            rcases hword with ⟨k, a1, a2, a3⟩ | ⟨a1, a2⟩
            · exact ⟨nI k, a3, Or.inl ⟨k, a1, a2, rfl⟩⟩
            · exact ⟨-1, a1, Or.inr ⟨rfl, a2⟩⟩
          show G0 _ _ _ _ _ _ _ _
          refine g_istore2 hX d_Re_readPart_105 rfl (by decide) ?_
          refine g_iload2 hX d_Re_readPart_106 ?_
          refine g_iconst (v := -1) hX d_Re_readPart_107 rfl ?_
          refine g_icmp_ne hX d_Re_readPart_108 (fun e90 => ?_) (fun e90 => ?_)
          · obtain ⟨k, hk, hwk, rfl⟩ : ∃ k, k < (partsL false).length ∧ isW t f (gA2 (partsL false) k) ∧ x = nI k := hx.resolve_right (fun z => e90 z.1)
            have hk7 : k < 7 := Nat.lt_of_lt_of_le hk (partsL_le _)
            refine g_aload0 hX d_Re_readPart_116 ?_
            refine g_getF hX d_Re_readPart_117 fl_Re_12 (lv_25 _) ?_
            refine g_callV (As := []) hX hF.1 d_Re_readPart_120 ml_Re_67 cf_Ta_step cv_Ta_step rfl rfl (c_Ta_step h1.1.1 h1.1.2.2.1 (enT_le h1.fl.1)) (rcv_obj hX (lv_26 _) rfl rfl) (by first | (unfold dP dT; omega) | (unfold dSb dP; omega) | (unfold dSb dS; omega) | (unfold dT dS; omega)  | (unfold dL dB; omega) | (unfold dB dE; omega) | (unfold dI dE; omega) | (unfold dI dL; omega) | (unfold dS dL; omega) | (unfold dP; omega) | (unfold dT; omega) | (unfold dS; omega) | (unfold dI; omega) | (unfold dL; omega) | (unfold dB; omega) | (unfold dE; omega) | (unfold dSb; omega) | omega) (by omega) (by omega) (Nat.le_of_ble_eq_true rfl) ?_
            rintro _ w3 ⟨rfl, ft_w3, tk_w3⟩
            have h3 := h1.step ft_w3 tk_w3
            show G0 _ _ _ _ _ _ _ _
            refine g_aload0 hX d_Re_readPart_123 ?_
            refine g_getZ hX d_Re_readPart_124 fl_Re_34 (lv_25 _) ?_
            refine g_topi h3.2.1 ?_
            refine g_ifB_eq hX d_Re_readPart_127 (fun c5 => ?_) (fun h => absurd h (by decide))
            refine g_aload0 hX d_Re_readPart_170 ?_
            refine g_getF hX d_Re_readPart_171 fl_Re_23 (lv_25 _) ?_
            refine g_iconst (v := nI 1) hX d_Re_readPart_174 rfl ?_
            refine g_iload2 hX d_Re_readPart_175 ?_
            refine g_callV (As := [_, _]) hX hF.1 d_Re_readPart_176 ml_Re_135 cf_Pr_emit cv_Pr_emit rfl rfl (c_Pr_emit (o := 1) (a := k) (len := c.length) h3.2.2.2.1.1 h3.2.2.2.1.2.1 (by omega) (by decide) (by omega)) (rcv_obj hX (lv_28 _) rfl rfl) (by first | (unfold dP dT; omega) | (unfold dSb dP; omega) | (unfold dSb dS; omega) | (unfold dT dS; omega)  | (unfold dL dB; omega) | (unfold dB dE; omega) | (unfold dI dE; omega) | (unfold dI dL; omega) | (unfold dS dL; omega) | (unfold dP; omega) | (unfold dT; omega) | (unfold dS; omega) | (unfold dI; omega) | (unfold dL; omega) | (unfold dB; omega) | (unfold dE; omega) | (unfold dSb; omega) | omega) (by omega) (by omega) (Nat.le_of_ble_eq_true rfl) ?_
            refine ret_k ?_
            refine g_pop hX d_Re_readPart_179 rfl ?_
            refine g_iconst (v := nI 1) hX d_Re_readPart_180 rfl ?_
            refine g_zret hX hF d_Re_readPart_181 (Or.inr rfl) (by omega) (by omega) ?_
            have hfr3 := (((FrRd.rf w).pt (k := 3) (x := nI (p + 1)) (by decide)).tr ft_w3.R).em (m := c.length) (x := nI (1 * 4096 + k)) (k := 1) (y := nI (c.length + 1)) (by decide)
            have hge := nxT_ge t f h.fl.1
            refine ⟨hfr3, ?_⟩
            rw [leaf_word (by omega) e35 hk hwk (by simp)]
            exact ⟨rfl, (by rw [rI_sI_ne _ _ _ (by decide), rI_sI_ne _ _ _ (by decide), ft_w3.1 25 (by decide), rI_sI, upd_eq, if_neg (by decide)]), [(k + 1, 0)], h3.emit (q := (k + 1, 0)) (cwd_w hk7).symm (by omega) (by show psh (cO c) c.length + (if k + 1 < 20 then 1 else 0) ≤ p + 1; rw [if_pos (by omega)]; omega), leafW0 c k hk7, OkX.one ⟨⟨(show 0 < 1001 by decide), Or.inl (show k + 1 ≤ (partsL false).length by omega)⟩, fun _ => ⟨fun _ => rfl, Nat.zero_le _⟩⟩ (by show k + 1 < 29; omega), by rw [List.length_append, List.length_singleton]; show 3 * (c.length + 1) + 3 + 6 * p + f ≤ 3 * c.length + 6 * (p + 1) + nxT t f; omega⟩
          · have hno : ∀ k, k < (partsL false).length → ¬ isW t f (gA2 (partsL false) k) := by
              rcases hx with ⟨k, a1, a2, a3⟩ | z
              · rw [a3] at e90
                exact absurd e90 (nI_m1 (by have := partsL_le false; omega))
              · exact z.2
            refine g_aload0 hX d_Re_readPart_111 ?_
            refine g_callV (As := []) hX hF.1 d_Re_readPart_112 ml_Re_64 cf_Re_fail cv_Re_fail rfl rfl (c_Re_fail h1.1) (rcv_obj hX (lv_25 _) rfl rfl) (by first | (unfold dP dT; omega) | (unfold dSb dP; omega) | (unfold dSb dS; omega) | (unfold dT dS; omega)  | (unfold dL dB; omega) | (unfold dB dE; omega) | (unfold dI dE; omega) | (unfold dI dL; omega) | (unfold dS dL; omega) | (unfold dP; omega) | (unfold dT; omega) | (unfold dS; omega) | (unfold dI; omega) | (unfold dL; omega) | (unfold dB; omega) | (unfold dE; omega) | (unfold dSb; omega) | omega) (by omega) (by omega) (Nat.le_of_ble_eq_true rfl) ?_
            refine ret_k ?_
            refine g_zret hX hF d_Re_readPart_115 (Or.inl rfl) (by omega) (by omega) ?_
            refine ⟨((FrRd.rf w).pt (by decide)).pt (by decide), ?_⟩
            rw [leaf_none (by omega) e35 hno]
            exact ⟨rfl, by rw [rI_sI, upd_eq, if_pos rfl]⟩
        · subst e67
          refine g_aload0 hX d_Re_readPart_88 ?_
          refine g_getF hX d_Re_readPart_89 fl_Re_12 (lv_25 _) ?_
          refine g_callS (As := [_]) hX hF.1 d_Re_readPart_92 ml_Re_170 cf_Ru_wordHere cs_Ru_wordHere rfl (c_Ru_wordHere h1.1) (by first | (unfold dP dT; omega) | (unfold dSb dP; omega) | (unfold dSb dS; omega) | (unfold dT dS; omega)  | (unfold dL dB; omega) | (unfold dB dE; omega) | (unfold dI dE; omega) | (unfold dI dL; omega) | (unfold dS dL; omega) | (unfold dP; omega) | (unfold dT; omega) | (unfold dS; omega) | (unfold dI; omega) | (unfold dL; omega) | (unfold dB; omega) | (unfold dE; omega) | (unfold dSb; omega) | omega) (by omega) (by omega) (Nat.le_of_ble_eq_true rfl) ?_
          rintro r5 w5 ⟨hword, hw5⟩
          have hw6 := hw5.symm
          subst hw6
          obtain ⟨x, rfl, hx⟩ : ∃ x : Int32, r5 = some (.int x) ∧ ((∃ k, k < (partsL true).length ∧ isW t f (gA2 (partsL true) k) ∧ x = nI k) ∨ (x = -1 ∧ ∀ k, k < (partsL true).length → ¬ isW t f (gA2 (partsL true) k))) := by
            rcases hword with ⟨k, a1, a2, a3⟩ | ⟨a1, a2⟩
            · exact ⟨nI k, a3, Or.inl ⟨k, a1, a2, rfl⟩⟩
            · exact ⟨-1, a1, Or.inr ⟨rfl, a2⟩⟩
          show G0 _ _ _ _ _ _ _ _
          refine g_goto hX d_Re_readPart_95 ?_
          refine g_istore2 hX d_Re_readPart_105 rfl (by decide) ?_
          refine g_iload2 hX d_Re_readPart_106 ?_
          refine g_iconst (v := -1) hX d_Re_readPart_107 rfl ?_
          refine g_icmp_ne hX d_Re_readPart_108 (fun e90 => ?_) (fun e90 => ?_)
          · obtain ⟨k, hk, hwk, rfl⟩ : ∃ k, k < (partsL true).length ∧ isW t f (gA2 (partsL true) k) ∧ x = nI k := hx.resolve_right (fun z => e90 z.1)
            have hk7 : k < 7 := Nat.lt_of_lt_of_le hk (partsL_le _)
            refine g_aload0 hX d_Re_readPart_116 ?_
            refine g_getF hX d_Re_readPart_117 fl_Re_12 (lv_25 _) ?_
            refine g_callV (As := []) hX hF.1 d_Re_readPart_120 ml_Re_67 cf_Ta_step cv_Ta_step rfl rfl (c_Ta_step h1.1.1 h1.1.2.2.1 (enT_le h1.fl.1)) (rcv_obj hX (lv_26 _) rfl rfl) (by first | (unfold dP dT; omega) | (unfold dSb dP; omega) | (unfold dSb dS; omega) | (unfold dT dS; omega)  | (unfold dL dB; omega) | (unfold dB dE; omega) | (unfold dI dE; omega) | (unfold dI dL; omega) | (unfold dS dL; omega) | (unfold dP; omega) | (unfold dT; omega) | (unfold dS; omega) | (unfold dI; omega) | (unfold dL; omega) | (unfold dB; omega) | (unfold dE; omega) | (unfold dSb; omega) | omega) (by omega) (by omega) (Nat.le_of_ble_eq_true rfl) ?_
            rintro _ w3 ⟨rfl, ft_w3, tk_w3⟩
            have h3 := h1.step ft_w3 tk_w3
            show G0 _ _ _ _ _ _ _ _
            refine g_aload0 hX d_Re_readPart_123 ?_
            refine g_getZ hX d_Re_readPart_124 fl_Re_34 (lv_25 _) ?_
            refine g_topi h3.2.1 ?_
            refine g_ifB_eq hX d_Re_readPart_127 (fun h => absurd (rfl) h) (fun c7 => ?_)
            refine g_iload2 hX d_Re_readPart_130 ?_
            refine g_iconst (v := nI 5) hX d_Re_readPart_131 rfl ?_
            refine g_icmpN_ne hX d_Re_readPart_132 (by omega) (by omega) (fun e114 => ?_) (fun e114 => ?_)
            · 
              refine g_aload0 hX d_Re_readPart_170 ?_
              refine g_getF hX d_Re_readPart_171 fl_Re_23 (lv_25 _) ?_
              refine g_iconst (v := nI 1) hX d_Re_readPart_174 rfl ?_
              refine g_iload2 hX d_Re_readPart_175 ?_
              refine g_callV (As := [_, _]) hX hF.1 d_Re_readPart_176 ml_Re_135 cf_Pr_emit cv_Pr_emit rfl rfl (c_Pr_emit (o := 1) (a := k) (len := c.length) h3.2.2.2.1.1 h3.2.2.2.1.2.1 (by omega) (by decide) (by omega)) (rcv_obj hX (lv_28 _) rfl rfl) (by first | (unfold dP dT; omega) | (unfold dSb dP; omega) | (unfold dSb dS; omega) | (unfold dT dS; omega)  | (unfold dL dB; omega) | (unfold dB dE; omega) | (unfold dI dE; omega) | (unfold dI dL; omega) | (unfold dS dL; omega) | (unfold dP; omega) | (unfold dT; omega) | (unfold dS; omega) | (unfold dI; omega) | (unfold dL; omega) | (unfold dB; omega) | (unfold dE; omega) | (unfold dSb; omega) | omega) (by omega) (by omega) (Nat.le_of_ble_eq_true rfl) ?_
              refine ret_k ?_
              refine g_pop hX d_Re_readPart_179 rfl ?_
              refine g_iconst (v := nI 1) hX d_Re_readPart_180 rfl ?_
              refine g_zret hX hF d_Re_readPart_181 (Or.inr rfl) (by omega) (by omega) ?_
              have hfr3 := (((FrRd.rf w).pt (k := 3) (x := nI (p + 1)) (by decide)).tr ft_w3.R).em (m := c.length) (x := nI (1 * 4096 + k)) (k := 1) (y := nI (c.length + 1)) (by decide)
              have hge := nxT_ge t f h.fl.1
              refine ⟨hfr3, ?_⟩
              rw [leaf_word (by omega) e35 hk hwk (fun z => e114 z.2)]
              exact ⟨rfl, (by rw [rI_sI_ne _ _ _ (by decide), rI_sI_ne _ _ _ (by decide), ft_w3.1 25 (by decide), rI_sI, upd_eq, if_neg (by decide)]), [(k + 1, 0)], h3.emit (q := (k + 1, 0)) (cwd_w hk7).symm (by omega) (by show psh (cO c) c.length + (if k + 1 < 20 then 1 else 0) ≤ p + 1; rw [if_pos (by omega)]; omega), leafW0 c k hk7, OkX.one ⟨⟨(show 0 < 1001 by decide), Or.inl (show k + 1 ≤ (partsL true).length by omega)⟩, fun _ => ⟨fun _ => rfl, Nat.zero_le _⟩⟩ (by show k + 1 < 29; omega), by rw [List.length_append, List.length_singleton]; show 3 * (c.length + 1) + 3 + 6 * p + f ≤ 3 * c.length + 6 * (p + 1) + nxT t f; omega⟩
            · have hnn := numC_le t (nxT t f)
              refine g_aload0 hX d_Re_readPart_135 ?_
              refine g_getF hX d_Re_readPart_136 fl_Re_12 (lv_25 _) ?_
              refine g_iconst (v := nI 0) hX d_Re_readPart_139 rfl ?_
              refine g_bipush (v := nI 11) hX d_Re_readPart_140 rfl ?_
              refine g_callV (As := [_, _]) hX hF.1 d_Re_readPart_142 ml_Re_109 cf_Ta_isNumber cv_Ta_isNumber rfl rfl (c_Ta_isNumber (by decide) (by decide) h3.1) (rcv_obj hX (lv_26 _) rfl rfl) (by first | (unfold dP dT; omega) | (unfold dSb dP; omega) | (unfold dSb dS; omega) | (unfold dT dS; omega)  | (unfold dL dB; omega) | (unfold dB dE; omega) | (unfold dI dE; omega) | (unfold dI dL; omega) | (unfold dS dL; omega) | (unfold dP; omega) | (unfold dT; omega) | (unfold dS; omega) | (unfold dI; omega) | (unfold dL; omega) | (unfold dB; omega) | (unfold dE; omega) | (unfold dSb; omega) | omega) (by omega) (by omega) (Nat.le_of_ble_eq_true rfl) ?_
              refine ret_k ?_
              refine g_ifB_ne hX d_Re_readPart_145 (fun e127 => ?_) (fun e127 => ?_)
              · refine g_iload2 hX d_Re_readPart_153 ?_
                refine g_aload0 hX d_Re_readPart_154 ?_
                refine g_getF hX d_Re_readPart_155 fl_Re_12 (lv_25 _) ?_
                refine g_getI hX d_Re_readPart_158 fl_Re_113 (lv_26 _) ?_
                refine g_topi (h3.1.2.2.2.2.1 (by rw [e127.1]; decide)) ?_
                refine g_iaddN hX d_Re_readPart_161 ?_
                refine g_istore2 hX d_Re_readPart_162 rfl (by decide) ?_
                refine g_aload0 hX d_Re_readPart_163 ?_
                refine g_getF hX d_Re_readPart_164 fl_Re_12 (lv_25 _) ?_
                refine g_callV (As := []) hX hF.1 d_Re_readPart_167 ml_Re_67 cf_Ta_step cv_Ta_step rfl rfl (c_Ta_step h3.1.1 h3.1.2.2.1 (enT_le h3.fl.1)) (rcv_obj hX (lv_26 _) rfl rfl) (by first | (unfold dP dT; omega) | (unfold dSb dP; omega) | (unfold dSb dS; omega) | (unfold dT dS; omega)  | (unfold dL dB; omega) | (unfold dB dE; omega) | (unfold dI dE; omega) | (unfold dI dL; omega) | (unfold dS dL; omega) | (unfold dP; omega) | (unfold dT; omega) | (unfold dS; omega) | (unfold dI; omega) | (unfold dL; omega) | (unfold dB; omega) | (unfold dE; omega) | (unfold dSb; omega) | omega) (by omega) (by omega) (Nat.le_of_ble_eq_true rfl) ?_
                rintro _ w4 ⟨rfl, ft_w4, tk_w4⟩
                have h4 := h3.step ft_w4 tk_w4
                show G0 _ _ _ _ _ _ _ _
                refine g_aload0 hX d_Re_readPart_170 ?_
                refine g_getF hX d_Re_readPart_171 fl_Re_23 (lv_25 _) ?_
                refine g_iconst (v := nI 1) hX d_Re_readPart_174 rfl ?_
                refine g_iload2 hX d_Re_readPart_175 ?_
                refine g_callV (As := [_, _]) hX hF.1 d_Re_readPart_176 ml_Re_135 cf_Pr_emit cv_Pr_emit rfl rfl (c_Pr_emit (o := 1) (a := (k + numC t (nxT t f))) (len := c.length) h4.2.2.2.1.1 h4.2.2.2.1.2.1 (by omega) (by decide) (by omega)) (rcv_obj hX (lv_28 _) rfl rfl) (by first | (unfold dP dT; omega) | (unfold dSb dP; omega) | (unfold dSb dS; omega) | (unfold dT dS; omega)  | (unfold dL dB; omega) | (unfold dB dE; omega) | (unfold dI dE; omega) | (unfold dI dL; omega) | (unfold dS dL; omega) | (unfold dP; omega) | (unfold dT; omega) | (unfold dS; omega) | (unfold dI; omega) | (unfold dL; omega) | (unfold dB; omega) | (unfold dE; omega) | (unfold dSb; omega) | omega) (by omega) (by omega) (Nat.le_of_ble_eq_true rfl) ?_
                refine ret_k ?_
                refine g_pop hX d_Re_readPart_179 rfl ?_
                refine g_iconst (v := nI 1) hX d_Re_readPart_180 rfl ?_
                refine g_zret hX hF d_Re_readPart_181 (Or.inr rfl) (by omega) (by omega) ?_
                have hfr3 := ((((FrRd.rf w).pt (k := 3) (x := nI (p + 1)) (by decide)).tr ft_w3.R).tr ft_w4.R).em (m := c.length) (x := nI (1 * 4096 + (k + numC t (nxT t f)))) (k := 1) (y := nI (c.length + 1)) (by decide)
                have hge := nxT_ge t f h.fl.1
                have hge2 := nxT_ge t (nxT t f) h3.fl.1
                subst e114
                refine ⟨hfr3, ?_⟩
                rw [leaf_deg (by omega) e35 hk hwk ⟨rfl, rfl⟩, if_pos e127]
                exact ⟨rfl, (by rw [rI_sI_ne _ _ _ (by decide), rI_sI_ne _ _ _ (by decide), ft_w4.1 25 (by decide), ft_w3.1 25 (by decide), rI_sI, upd_eq, if_neg (by decide)]), [(6, numC t (nxT t f))], h4.emit (q := (6, numC t (nxT t f))) (cwd_d _).symm (by omega) (by show psh (cO c) c.length + (if 6 < 20 then 1 else 0) ≤ p + 1; rw [if_pos (by decide)]; omega), (leafW c 5 (numC t (nxT t f)) (by decide)), OkX.one ⟨⟨(show numC t (nxT t f) < 1001 by omega), Or.inl (show 6 ≤ (partsL true).length by decide)⟩, fun _ => ⟨(fun z => by cases z), e127.2.2⟩⟩ (by show 6 < 29; omega), by rw [List.length_append, List.length_singleton]; show 3 * (c.length + 1) + 3 + 6 * p + f ≤ 3 * c.length + 6 * (p + 1) + nxT t (nxT t f); omega⟩
              · refine g_aload0 hX d_Re_readPart_148 ?_
                refine g_callV (As := []) hX hF.1 d_Re_readPart_149 ml_Re_64 cf_Re_fail cv_Re_fail rfl rfl (c_Re_fail h3.1) (rcv_obj hX (lv_25 _) rfl rfl) (by first | (unfold dP dT; omega) | (unfold dSb dP; omega) | (unfold dSb dS; omega) | (unfold dT dS; omega)  | (unfold dL dB; omega) | (unfold dB dE; omega) | (unfold dI dE; omega) | (unfold dI dL; omega) | (unfold dS dL; omega) | (unfold dP; omega) | (unfold dT; omega) | (unfold dS; omega) | (unfold dI; omega) | (unfold dL; omega) | (unfold dB; omega) | (unfold dE; omega) | (unfold dSb; omega) | omega) (by omega) (by omega) (Nat.le_of_ble_eq_true rfl) ?_
                refine ret_k ?_
                refine g_zret hX hF d_Re_readPart_152 (Or.inl rfl) (by omega) (by omega) ?_
                refine ⟨(((FrRd.rf w).pt (k := 3) (x := nI (p + 1)) (by decide)).tr ft_w3.R).pt (by decide), ?_⟩
                rw [leaf_deg (by omega) e35 hk hwk ⟨rfl, e114⟩, if_neg e127]
                exact ⟨rfl, by rw [rI_sI, upd_eq, if_pos rfl]⟩
          · have hno : ∀ k, k < (partsL true).length → ¬ isW t f (gA2 (partsL true) k) := by
              rcases hx with ⟨k, a1, a2, a3⟩ | z
              · rw [a3] at e90
                exact absurd e90 (nI_m1 (by have := partsL_le true; omega))
              · exact z.2
            refine g_aload0 hX d_Re_readPart_111 ?_
            refine g_callV (As := []) hX hF.1 d_Re_readPart_112 ml_Re_64 cf_Re_fail cv_Re_fail rfl rfl (c_Re_fail h1.1) (rcv_obj hX (lv_25 _) rfl rfl) (by first | (unfold dP dT; omega) | (unfold dSb dP; omega) | (unfold dSb dS; omega) | (unfold dT dS; omega)  | (unfold dL dB; omega) | (unfold dB dE; omega) | (unfold dI dE; omega) | (unfold dI dL; omega) | (unfold dS dL; omega) | (unfold dP; omega) | (unfold dT; omega) | (unfold dS; omega) | (unfold dI; omega) | (unfold dL; omega) | (unfold dB; omega) | (unfold dE; omega) | (unfold dSb; omega) | omega) (by omega) (by omega) (Nat.le_of_ble_eq_true rfl) ?_
            refine ret_k ?_
            refine g_zret hX hF d_Re_readPart_115 (Or.inl rfl) (by omega) (by omega) ?_
            refine ⟨((FrRd.rf w).pt (by decide)).pt (by decide), ?_⟩
            rw [leaf_none (by omega) e35 hno]
            exact ⟨rfl, by rw [rI_sI, upd_eq, if_pos rfl]⟩
      · have hnn := numC_le t f
        refine g_aload0 hX d_Re_readPart_56 ?_
        refine g_getF hX d_Re_readPart_57 fl_Re_23 (lv_25 _) ?_
        refine g_iconst (v := nI 0) hX d_Re_readPart_60 rfl ?_
        refine g_aload0 hX d_Re_readPart_61 ?_
        refine g_getF hX d_Re_readPart_62 fl_Re_12 (lv_25 _) ?_
        refine g_getI hX d_Re_readPart_65 fl_Re_113 (lv_26 _) ?_
        refine g_topi (h1.1.2.2.2.2.1 (by rw [e35.1]; decide)) ?_
        refine g_callV (As := [_, _]) hX hF.1 d_Re_readPart_68 ml_Re_135 cf_Pr_emit cv_Pr_emit rfl rfl (c_Pr_emit (o := 0) (a := (numC t f)) (len := c.length) h1.2.2.2.1.1 h1.2.2.2.1.2.1 (by omega) (by decide) (by omega)) (rcv_obj hX (lv_28 _) rfl rfl) (by first | (unfold dP dT; omega) | (unfold dSb dP; omega) | (unfold dSb dS; omega) | (unfold dT dS; omega)  | (unfold dL dB; omega) | (unfold dB dE; omega) | (unfold dI dE; omega) | (unfold dI dL; omega) | (unfold dS dL; omega) | (unfold dP; omega) | (unfold dT; omega) | (unfold dS; omega) | (unfold dI; omega) | (unfold dL; omega) | (unfold dB; omega) | (unfold dE; omega) | (unfold dSb; omega) | omega) (by omega) (by omega) (Nat.le_of_ble_eq_true rfl) ?_
        refine ret_k ?_
        refine g_pop hX d_Re_readPart_71 rfl ?_
        have h2 := h1.emit (q := (0, numC t f)) (cwd_n _).symm (by omega) (by show psh (cO c) c.length + (if 0 < 20 then 1 else 0) ≤ p + 1; rw [if_pos (by decide)]; omega)
        refine g_aload0 hX d_Re_readPart_72 ?_
        refine g_getF hX d_Re_readPart_73 fl_Re_12 (lv_25 _) ?_
        refine g_callV (As := []) hX hF.1 d_Re_readPart_76 ml_Re_67 cf_Ta_step cv_Ta_step rfl rfl (c_Ta_step h2.1.1 h2.1.2.2.1 (enT_le h2.fl.1)) (rcv_obj hX (lv_26 _) rfl rfl) (by first | (unfold dP dT; omega) | (unfold dSb dP; omega) | (unfold dSb dS; omega) | (unfold dT dS; omega)  | (unfold dL dB; omega) | (unfold dB dE; omega) | (unfold dI dE; omega) | (unfold dI dL; omega) | (unfold dS dL; omega) | (unfold dP; omega) | (unfold dT; omega) | (unfold dS; omega) | (unfold dI; omega) | (unfold dL; omega) | (unfold dB; omega) | (unfold dE; omega) | (unfold dSb; omega) | omega) (by omega) (by omega) (Nat.le_of_ble_eq_true rfl) ?_
        rintro _ w3 ⟨rfl, ft_w3, tk_w3⟩
        have h3 := h2.step ft_w3 tk_w3
        show G0 _ _ _ _ _ _ _ _
        refine g_iconst (v := nI 1) hX d_Re_readPart_79 rfl ?_
        refine g_zret hX hF d_Re_readPart_80 (Or.inr rfl) (by omega) (by omega) ?_
        have hge := nxT_ge t f h.fl.1
        refine ⟨(((FrRd.rf w).pt (by decide)).em (by decide)).tr ft_w3.R, ?_⟩
        rw [leaf_num (by omega) e35]
        exact ⟨rfl, (by rw [ft_w3.1 25 (by decide), rI_sI_ne _ _ _ (by decide), rI_sI_ne _ _ _ (by decide), rI_sI, upd_eq, if_neg (by decide)]), [(0, numC t f)], h3, leafN c _, OkX.one ⟨⟨(show numC t f < 1001 by omega), Or.inl (Nat.zero_le _)⟩, fun z => by cases z⟩ (by show 0 < 29; omega), by rw [List.length_append, List.length_singleton]; show 3 * (c.length + 1) + 3 + 6 * p + f ≤ 3 * c.length + 6 * (p + 1) + nxT t f; omega⟩
    · refine g_aload0 hX d_Re_readPart_27 ?_
      refine g_callV (As := []) hX hF.1 d_Re_readPart_28 ml_Re_64 cf_Re_fail cv_Re_fail rfl rfl (c_Re_fail h.1) (rcv_obj hX (lv_25 _) rfl rfl) (by first | (unfold dP dT; omega) | (unfold dSb dP; omega) | (unfold dSb dS; omega) | (unfold dT dS; omega)  | (unfold dL dB; omega) | (unfold dB dE; omega) | (unfold dI dE; omega) | (unfold dI dL; omega) | (unfold dS dL; omega) | (unfold dP; omega) | (unfold dT; omega) | (unfold dS; omega) | (unfold dI; omega) | (unfold dL; omega) | (unfold dB; omega) | (unfold dE; omega) | (unfold dSb; omega) | omega) (by omega) (by omega) (Nat.le_of_ble_eq_true rfl) ?_
      refine ret_k ?_
      refine g_zret hX hF d_Re_readPart_31 (Or.inl rfl) (by omega) (by omega) ?_
      refine ⟨(FrRd.rf w).pt (by decide), ?_⟩
      rw [leaf_full (by omega)]
      exact ⟨rfl, by rw [rI_sI, upd_eq, if_pos rfl]⟩
  · refine g_aload0 hX d_Re_readPart_12 ?_
    refine g_iload1 hX d_Re_readPart_13 ?_
    refine g_callV (As := [_]) hX hF.1 d_Re_readPart_14 ml_Re_167 cf_Re_readSumInBrackets cv_Re_readSumInBrackets rfl rfl (c_Re_readSumInBrackets (HS n (by omega)) hdp (x := x) (by
      by_cases z : 8 ≤ dp
      · rw [rd_0a e9 z] at hrd
        rw [if_pos z]
        exact (Option.some.inj hrd).symm
      · rw [rd_0b e9 (by omega)] at hrd
        rw [if_neg z]
        exact hrd) h) (rcv_obj hX (lv_25 _) rfl rfl) (by first | (unfold dP dT; omega) | (unfold dSb dP; omega) | (unfold dSb dS; omega) | (unfold dT dS; omega)  | (unfold dL dB; omega) | (unfold dB dE; omega) | (unfold dI dE; omega) | (unfold dI dL; omega) | (unfold dS dL; omega) | (unfold dP; omega) | (unfold dT; omega) | (unfold dS; omega) | (unfold dI; omega) | (unfold dL; omega) | (unfold dB; omega) | (unfold dE; omega) | (unfold dSb; omega) | omega) (by omega) (by omega) (Nat.le_of_ble_eq_true rfl) ?_
    rintro r5 w5 hQ
    obtain rfl := hQ.rv
    show G0 _ _ _ _ _ _ _ _
    refine g_zret hX hF d_Re_readPart_17 (b2i_01 _) (by omega) (by omega) ?_
    exact hQ
theorem c_Re_readInBrackets {E : EV} {w : Mem} {t : List Nat} {o : Bool} {n dp f p : Nat} {a : Den} {c : List (Nat × Nat)} {x : ResT} (HE : CT E t o n 8 m_Re_readTest dE) (hdp : dp ≤ 8) (hx : if 8 ≤ dp then x = .inl f else bindR (rd t o n 8 (dp + 1) (nxT t f) p a) (closeR t 41) = some x) (h : RdI w t o f p c) : T E m_Re_readInBrackets (dI dp) 0 0 [.ref 25, .int (nI dp)] w (fun r w2 => ExQ w w2 t o c f p x r) := by
  refine T_of (L := [.ref 25, .int (nI dp)]) cf_Re_readInBrackets rfl (Nat.le_of_ble_eq_true rfl) (fun X hX hF => ?_)
  refine g_iload1 hX d_Re_readInBrackets_0 ?_
  refine g_bipush (v := nI 8) hX d_Re_readInBrackets_1 rfl ?_
  refine g_icmpN_lt hX d_Re_readInBrackets_3 (by omega) (by omega) (fun e3 => ?_) (fun e3 => ?_)
  · refine g_aload0 hX d_Re_readInBrackets_11 ?_
    refine g_getF hX d_Re_readInBrackets_12 fl_Re_12 (lv_25 _) ?_
    refine g_callV (As := []) hX hF.1 d_Re_readInBrackets_15 ml_Re_67 cf_Ta_step cv_Ta_step rfl rfl (c_Ta_step h.1.1 h.1.2.2.1 (enT_le h.fl.1)) (rcv_obj hX (lv_26 _) rfl rfl) (by first | (unfold dP dT; omega) | (unfold dSb dP; omega) | (unfold dSb dS; omega) | (unfold dT dS; omega)  | (unfold dL dB; omega) | (unfold dB dE; omega) | (unfold dI dE; omega) | (unfold dI dL; omega) | (unfold dS dL; omega) | (unfold dP; omega) | (unfold dT; omega) | (unfold dS; omega) | (unfold dI; omega) | (unfold dL; omega) | (unfold dB; omega) | (unfold dE; omega) | (unfold dSb; omega) | omega) (by omega) (by omega) (Nat.le_of_ble_eq_true rfl) ?_
    rintro _ w3 ⟨rfl, ft_w3, tk_w3⟩
    have h3 := h.step ft_w3 tk_w3
    show G0 _ _ _ _ _ _ _ _
    refine g_aload0 hX d_Re_readInBrackets_18 ?_
    refine g_iload1 hX d_Re_readInBrackets_19 ?_
    refine g_iconst (v := nI 1) hX d_Re_readInBrackets_20 rfl ?_
    refine g_iaddN hX d_Re_readInBrackets_21 ?_
    rw [if_neg (by omega)] at hx
    obtain ⟨x0, hx0, hk0⟩ := bind_2 hx
    refine g_callV (As := [_]) hX hF.1 d_Re_readInBrackets_22 ml_Re_127 cf_Re_readTest cv_Re_readTest rfl rfl (HE _ _ _ _ _ _ _ (show dp + 1 ≤ 8 by omega) hx0 h3) (rcv_obj hX (lv_25 _) rfl rfl) (by first | (unfold dP dT; omega) | (unfold dSb dP; omega) | (unfold dSb dS; omega) | (unfold dT dS; omega)  | (unfold dL dB; omega) | (unfold dB dE; omega) | (unfold dI dE; omega) | (unfold dI dL; omega) | (unfold dS dL; omega) | (unfold dP; omega) | (unfold dT; omega) | (unfold dS; omega) | (unfold dI; omega) | (unfold dL; omega) | (unfold dB; omega) | (unfold dE; omega) | (unfold dSb; omega) | omega) (by omega) (by omega) (Nat.le_of_ble_eq_true rfl) ?_
    rintro r5 w5 hQ
    obtain rfl := hQ.rv
    show G0 _ _ _ _ _ _ _ _
    refine g_ifB_ne hX d_Re_readInBrackets_25 (fun e42 => ?_) (fun e42 => ?_)
    · obtain ⟨y, rfl⟩ := okR_t e42
      obtain ⟨c1, hA⟩ := hQ.acc
      replace hk0 : closeR t 41 y.1 y.2.1 y.2.2 = some x := hk0
      have hAt := hA.tk ft_w3 (nxT_ge t f h.fl.1)
      have hR5 := hA.2.2.2.1
      refine g_aload0 hX d_Re_readInBrackets_30 ?_
      refine g_getF hX d_Re_readInBrackets_31 fl_Re_12 (lv_25 _) ?_
      refine g_bipush (v := nI 41) hX d_Re_readInBrackets_34 rfl ?_
      refine g_callV (As := [_]) hX hF.1 d_Re_readInBrackets_36 ml_Re_60 cf_Ta_isSign cv_Ta_isSign rfl rfl (c_Ta_isSign (by decide) hR5.1) (rcv_obj hX (lv_26 _) rfl rfl) (by first | (unfold dP dT; omega) | (unfold dSb dP; omega) | (unfold dSb dS; omega) | (unfold dT dS; omega)  | (unfold dL dB; omega) | (unfold dB dE; omega) | (unfold dI dE; omega) | (unfold dI dL; omega) | (unfold dS dL; omega) | (unfold dP; omega) | (unfold dT; omega) | (unfold dS; omega) | (unfold dI; omega) | (unfold dL; omega) | (unfold dB; omega) | (unfold dE; omega) | (unfold dSb; omega) | omega) (by omega) (by omega) (Nat.le_of_ble_eq_true rfl) ?_
      refine ret_k ?_
      refine g_ifB_ne hX d_Re_readInBrackets_39 (fun e56 => ?_) (fun e56 => ?_)
      · refine g_aload0 hX d_Re_readInBrackets_47 ?_
        refine g_getF hX d_Re_readInBrackets_48 fl_Re_12 (lv_25 _) ?_
        refine g_callV (As := []) hX hF.1 d_Re_readInBrackets_51 ml_Re_67 cf_Ta_step cv_Ta_step rfl rfl (c_Ta_step hR5.1.1 hR5.1.2.2.1 (enT_le hR5.fl.1)) (rcv_obj hX (lv_26 _) rfl rfl) (by first | (unfold dP dT; omega) | (unfold dSb dP; omega) | (unfold dSb dS; omega) | (unfold dT dS; omega)  | (unfold dL dB; omega) | (unfold dB dE; omega) | (unfold dI dE; omega) | (unfold dI dL; omega) | (unfold dS dL; omega) | (unfold dP; omega) | (unfold dT; omega) | (unfold dS; omega) | (unfold dI; omega) | (unfold dL; omega) | (unfold dB; omega) | (unfold dE; omega) | (unfold dSb; omega) | omega) (by omega) (by omega) (Nat.le_of_ble_eq_true rfl) ?_
        rintro _ w6 ⟨rfl, ft_w6, tk_w6⟩
        have h6 := hR5.step ft_w6 tk_w6
        show G0 _ _ _ _ _ _ _ _
        refine g_iconst (v := nI 1) hX d_Re_readInBrackets_54 rfl ?_
        refine g_zret hX hF d_Re_readInBrackets_55 (Or.inr rfl) (by omega) (by omega) ?_
        rcases close_inv hk0 with ⟨-, rfl⟩ | ⟨z, -⟩
        · exact (hAt.tk2 ft_w6 tk_w6).ex
        · exact absurd e56 z
      · refine g_aload0 hX d_Re_readInBrackets_42 ?_
        refine g_callV (As := []) hX hF.1 d_Re_readInBrackets_43 ml_Re_64 cf_Re_fail cv_Re_fail rfl rfl (c_Re_fail hR5.1) (rcv_obj hX (lv_25 _) rfl rfl) (by first | (unfold dP dT; omega) | (unfold dSb dP; omega) | (unfold dSb dS; omega) | (unfold dT dS; omega)  | (unfold dL dB; omega) | (unfold dB dE; omega) | (unfold dI dE; omega) | (unfold dI dL; omega) | (unfold dS dL; omega) | (unfold dP; omega) | (unfold dT; omega) | (unfold dS; omega) | (unfold dI; omega) | (unfold dL; omega) | (unfold dB; omega) | (unfold dE; omega) | (unfold dSb; omega) | omega) (by omega) (by omega) (Nat.le_of_ble_eq_true rfl) ?_
        refine ret_k ?_
        refine g_zret hX hF d_Re_readInBrackets_46 (Or.inl rfl) (by omega) (by omega) ?_
        rcases close_inv hk0 with ⟨z, -⟩ | ⟨-, rfl⟩
        · exact absurd z e56
        · exact ExQ.fail (ft_w3.R.tr hA.1)
    · obtain ⟨e, rfl⟩ := okR_f e42
      obtain rfl : x = .inl e := hk0
      refine g_iconst (v := nI 0) hX d_Re_readInBrackets_28 rfl ?_
      refine g_zret hX hF d_Re_readInBrackets_29 (Or.inl rfl) (by omega) (by omega) ?_
      exact ExQ.bad ft_w3.R hQ
  · refine g_aload0 hX d_Re_readInBrackets_6 ?_
    refine g_callV (As := []) hX hF.1 d_Re_readInBrackets_7 ml_Re_64 cf_Re_fail cv_Re_fail rfl rfl (c_Re_fail h.1) (rcv_obj hX (lv_25 _) rfl rfl) (by first | (unfold dP dT; omega) | (unfold dSb dP; omega) | (unfold dSb dS; omega) | (unfold dT dS; omega)  | (unfold dL dB; omega) | (unfold dB dE; omega) | (unfold dI dE; omega) | (unfold dI dL; omega) | (unfold dS dL; omega) | (unfold dP; omega) | (unfold dT; omega) | (unfold dS; omega) | (unfold dI; omega) | (unfold dL; omega) | (unfold dB; omega) | (unfold dE; omega) | (unfold dSb; omega) | omega) (by omega) (by omega) (Nat.le_of_ble_eq_true rfl) ?_
    refine ret_k ?_
    refine g_zret hX hF d_Re_readInBrackets_10 (Or.inl rfl) (by omega) (by omega) ?_
    rw [if_pos (by omega)] at hx
    subst hx
    exact ExQ.fail (FrRd.rf w)
def mapN (tn : Bool) (x : ResT) : ResT := match x with
  | .inl e => .inl e
  | .inr y => .inr (y.1, y.2.1, if tn = true then dNot y.2.2 else y.2.2)
theorem mapN_f (x : ResT) : mapN false x = x := by cases x <;> rfl
theorem mapN_s (tn : Bool) (x : ResT) : mapN tn (mapN true x) = mapN (!tn) x := by
  cases x with
  | inl e => rfl
  | inr y =>
    cases tn with
    | false => rfl
    | true =>
      show (Sum.inr (y.1, y.2.1, dNot (dNot y.2.2)) : ResT) = .inr (y.1, y.2.1, y.2.2)
      rw [dNot2]
theorem bind_not {r : Option ResT} {x : ResT} (h : bindR r (fun f p d => some (.inr (f, p, dNot d))) = some x) : ∃ x2, r = some x2 ∧ x = mapN true x2 := by
  obtain ⟨x0, h1, h2⟩ := bind_2 h
  refine ⟨x0, h1, ?_⟩
  cases x0 with
  | inl e => exact h2
  | inr y => exact (Option.some.inj h2).symm
theorem nxT_not {t : List Nat} {f : Nat} (h : isW t f wNot) : f + 3 ≤ nxT t f := by
  have h1 : enT t f - f = 3 := h.2.1
  have h2 : enT t f ≤ nxT t f := runE_ge _ _ _
  omega
theorem okR_i (y : Nat × Nat × Den) : b2i (okR (.inr y) = true) = nI 1 := by rw [b2i_t (show okR (.inr y) = true from rfl)]; rfl
theorem okR_e (e : Nat) : b2i (okR (.inl e) = true) = nI 0 := by rw [b2i_f (show ¬ okR (.inl e) = true from fun z => by cases z)]; rfl
theorem c_Re_readNots {E : EV} {w : Mem} {t : List Nat} {o : Bool} {n dp f p : Nat} {a : Den} {c : List (Nat × Nat)} {x : ResT} (hrd : rd t o n 5 dp f p a = some x) (h : RdI w t o f p c) : T E m_Re_readNots 6 0 0 [.ref 25] w (fun r w2 => ∃ (k f1 : Nat) (tn : Bool) (x1 : ResT), r = some (.int (b2i (tn = true))) ∧ k ≤ n ∧ rd t o k 5 dp f1 p a = some x1 ∧ ¬ isW t f1 wNot ∧ x = mapN tn x1 ∧ FrTk w w2 ∧ RdI w2 t o f1 p c ∧ f ≤ f1 ∧ (tn = true → f + 3 ≤ f1)) := by
  refine T_of (L := [.ref 25, un, un]) cf_Re_readNots rfl (Nat.le_of_ble_eq_true rfl) (fun X hX hF => ?_)
  have lp : ∀ (fuel : Nat) (k i f1 : Nat) (tn : Bool) (x1 : ResT) (wk : Mem), k < fuel → (rd t o k 5 dp f1 p a = some x1) → (k ≤ n) → (x = mapN tn x1) → (FrTk w wk) → (RdI wk t o f1 p c) → (f ≤ f1 ∧ (tn = true → f + 3 ≤ f1)) → (i ≤ f1) → G0 E X 0 0 4 [.ref 25, .int (b2i (tn = true)), .int (nI i)] [] wk := by
    intro fuel
    induction fuel with
    | zero => intro k i f1 tn x1 wk q0; exact absurd q0 (Nat.not_lt_zero _)
    | succ fuel ih =>
      intro k i f1 tn x1 wk q0 q1 q2 q3 q4 q5 q6 q7
      obtain ⟨k, rfl⟩ := rd_pos q1
      have hfl := q5.fl
      refine g_iload2 hX d_Re_readNots_4 ?_
      refine g_sipush (v := nI 400) hX d_Re_readNots_5 rfl ?_
      refine g_icmpN_ge hX d_Re_readNots_8 (by omega) (by omega) (fun e8 => ?_) (fun e8 => ?_)
      · have hs : ¬ isW t f1 wNot := fun z => isW_0 z (srt_400 (t := t) (f := f1) (by omega))
        refine g_iload1 hX d_Re_readNots_46 ?_
        refine g_zret hX hF d_Re_readNots_47 (b2i_01 _) (by omega) (by omega) ?_
        exact ⟨k + 1, f1, tn, x1, rfl, q2, q1, hs, q3, q4, q5, q6.1, q6.2⟩
      · refine g_aload0 hX d_Re_readNots_11 ?_
        refine g_getF hX d_Re_readNots_12 fl_Re_12 (lv_25 _) ?_
        refine g_ldcS (i := 21) (tx := "not") hX d_Re_readNots_15 (by decide) ?_
        refine g_callV (As := [_]) hX hF.1 d_Re_readNots_17 ml_Re_72 cf_Ta_isWord cv_Ta_isWord rfl rfl (c_Ta_isWord (i := 21) (wd := wNot) (by decide) (strW_all.2.2.2.2.2.2.2.2.2.2.2.2.2.2.2.2.2.2.2.2.2.1) q5.1) (rcv_obj hX (lv_26 _) rfl rfl) (by omega) (by omega) (by omega) (Nat.le_of_ble_eq_true rfl) ?_
        refine ret_k ?_
        refine g_ifB_eq hX d_Re_readNots_20 (fun e20 => ?_) (fun e20 => ?_)
        · have hs := e20
          refine g_iload1 hX d_Re_readNots_46 ?_
          refine g_zret hX hF d_Re_readNots_47 (b2i_01 _) (by omega) (by omega) ?_
          exact ⟨k + 1, f1, tn, x1, rfl, q2, q1, hs, q3, q4, q5, q6.1, q6.2⟩
        · refine g_aload0 hX d_Re_readNots_23 ?_
          refine g_getF hX d_Re_readNots_24 fl_Re_12 (lv_25 _) ?_
          refine g_callV (As := []) hX hF.1 d_Re_readNots_27 ml_Re_67 cf_Ta_step cv_Ta_step rfl rfl (c_Ta_step q5.1.1 q5.1.2.2.1 (enT_le q5.fl.1)) (rcv_obj hX (lv_26 _) rfl rfl) (by omega) (by omega) (by omega) (Nat.le_of_ble_eq_true rfl) ?_
          rintro _ w3 ⟨rfl, ft_w3, tk_w3⟩
          have h3 := q5.step ft_w3 tk_w3
          show G0 _ _ _ _ _ _ _ _
          refine g_iload1 hX d_Re_readNots_30 ?_
          refine g_ifB_ne hX d_Re_readNots_31 (fun e31 => ?_) (fun e31 => ?_)
          · subst e31
            refine g_iconst (v := nI 0) hX d_Re_readNots_38 rfl ?_
            refine g_istore1 hX d_Re_readNots_39 rfl (by decide) ?_
            refine g_iincN2 hX d_Re_readNots_40 rfl (by decide) ?_
            refine g_goto hX d_Re_readNots_43 ?_
            have hnn := nxT_not e20
            rw [rd_5a e20] at q1
            obtain ⟨x2, hx2, hx3⟩ := bind_not q1
            refine g_loc (show [Value.ref 25, Value.int (nI 0), Value.int (nI (i + 1))] = [Value.ref 25, Value.int (b2i ((!true) = true)), Value.int (nI (i + 1))] by rw [b2i_f (by decide)]; rfl) ?_
            exact ih k (i + 1) (nxT t f1) (!true) x2 w3 (by omega) hx2 (by omega) (by rw [q3, hx3, mapN_s]) (q4.tr ft_w3) h3 ⟨by omega, fun _ => by omega⟩ (by omega)
          · obtain rfl : tn = false := by
              cases tn with
              | false => rfl
              | true => exact absurd rfl e31
            refine g_iconst (v := nI 1) hX d_Re_readNots_34 rfl ?_
            refine g_goto hX d_Re_readNots_35 ?_
            refine g_istore1 hX d_Re_readNots_39 rfl (by decide) ?_
            refine g_iincN2 hX d_Re_readNots_40 rfl (by decide) ?_
            refine g_goto hX d_Re_readNots_43 ?_
            have hnn := nxT_not e20
            rw [rd_5a e20] at q1
            obtain ⟨x2, hx2, hx3⟩ := bind_not q1
            refine g_loc (show [Value.ref 25, Value.int (nI 1), Value.int (nI (i + 1))] = [Value.ref 25, Value.int (b2i ((!false) = true)), Value.int (nI (i + 1))] by rw [b2i_t (by decide)]; rfl) ?_
            exact ih k (i + 1) (nxT t f1) (!false) x2 w3 (by omega) hx2 (by omega) (by rw [q3, hx3, mapN_s]) (q4.tr ft_w3) h3 ⟨by omega, fun _ => by omega⟩ (by omega)
  refine g_iconst (v := nI 0) hX d_Re_readNots_0 rfl ?_
  refine g_istore1 hX d_Re_readNots_1 rfl (by decide) ?_
  refine g_iconst (v := nI 0) hX d_Re_readNots_2 rfl ?_
  refine g_istore2 hX d_Re_readNots_3 rfl (by decide) ?_
  refine g_loc (show [Value.ref 25, Value.int (nI 0), Value.int (nI 0)] = [Value.ref 25, Value.int (b2i (false = true)), Value.int (nI 0)] by rw [b2i_f (by decide)]; rfl) ?_
  exact lp (n + 1) n 0 f false x w (by omega) hrd (Nat.le_refl _) (mapN_f x).symm (FrTk.rf w) h ⟨Nat.le_refl _, fun z => by cases z⟩ (Nat.zero_le _)
theorem c_Re_readPlain {E : EV} {w : Mem} {t : List Nat} {o : Bool} {n dp f p : Nat} {a : Den} {c : List (Nat × Nat)} {x : ResT} (HS : ∀ k, k < n → CT E t o k 3 m_Re_readSum dS) (HE : ∀ k, k < n → CT E t o k 8 m_Re_readTest dE) (hdp : dp ≤ 8) (hrd : rd t o n 5 dp f p a = some x) (h : RdI w t o f p c) : T E m_Re_readPlain (dL dp) 0 0 [.ref 25, .int (nI dp)] w (fun r w2 => ExQ w w2 t o c f p x r) := by
  refine T_of (L := [.ref 25, .int (nI dp), un, un]) cf_Re_readPlain rfl (Nat.le_of_ble_eq_true rfl) (fun X hX hF => ?_)
  refine g_aload0 hX d_Re_readPlain_0 ?_
  refine g_callV (As := []) hX hF.1 d_Re_readPlain_1 ml_Re_147 cf_Re_readNots cv_Re_readNots rfl rfl (c_Re_readNots hrd h) (rcv_obj hX (lv_25 _) rfl rfl) (by first | (unfold dP dT; omega) | (unfold dSb dP; omega) | (unfold dSb dS; omega) | (unfold dT dS; omega)  | (unfold dL dB; omega) | (unfold dB dE; omega) | (unfold dI dE; omega) | (unfold dI dL; omega) | (unfold dS dL; omega) | (unfold dP; omega) | (unfold dT; omega) | (unfold dS; omega) | (unfold dI; omega) | (unfold dL; omega) | (unfold dB; omega) | (unfold dE; omega) | (unfold dSb; omega) | omega) (by omega) (by omega) (Nat.le_of_ble_eq_true rfl) ?_
  rintro _ wk ⟨k, f1, tn, x1, rfl, q2, q1, hs, q3, q4, q5, q6⟩
  obtain ⟨k, rfl⟩ := rd_pos q1
  have hfl := q5.fl
  show G0 _ _ _ _ _ _ _ _
  refine g_istore2 hX d_Re_readPlain_4 rfl (by decide) ?_
  refine g_aload0 hX d_Re_readPlain_5 ?_
  refine g_getF hX d_Re_readPlain_6 fl_Re_12 (lv_25 _) ?_
  refine g_bipush (v := nI 40) hX d_Re_readPlain_9 rfl ?_
  refine g_callV (As := [_]) hX hF.1 d_Re_readPlain_11 ml_Re_60 cf_Ta_isSign cv_Ta_isSign rfl rfl (c_Ta_isSign (by decide) q5.1) (rcv_obj hX (lv_26 _) rfl rfl) (by first | (unfold dP dT; omega) | (unfold dSb dP; omega) | (unfold dSb dS; omega) | (unfold dT dS; omega)  | (unfold dL dB; omega) | (unfold dB dE; omega) | (unfold dI dE; omega) | (unfold dI dL; omega) | (unfold dS dL; omega) | (unfold dP; omega) | (unfold dT; omega) | (unfold dS; omega) | (unfold dI; omega) | (unfold dL; omega) | (unfold dB; omega) | (unfold dE; omega) | (unfold dSb; omega) | omega) (by omega) (by omega) (Nat.le_of_ble_eq_true rfl) ?_
  refine ret_k ?_
  refine g_ifB_eq hX d_Re_readPlain_14 (fun e14 => ?_) (fun e14 => ?_)
  · refine g_aload0 hX d_Re_readPlain_27 ?_
    refine g_iload1 hX d_Re_readPlain_28 ?_
    rw [rd_5d hs e14] at q1
    obtain ⟨x0, hx0, hk0⟩ := bind_2 q1
    refine g_callV (As := [_]) hX hF.1 d_Re_readPlain_29 ml_Re_122 cf_Re_readSum cv_Re_readSum rfl rfl (HS k (by omega) _ _ _ _ _ _ _ hdp hx0 q5) (rcv_obj hX (lv_25 _) rfl rfl) (by first | (unfold dP dT; omega) | (unfold dSb dP; omega) | (unfold dSb dS; omega) | (unfold dT dS; omega)  | (unfold dL dB; omega) | (unfold dB dE; omega) | (unfold dI dE; omega) | (unfold dI dL; omega) | (unfold dS dL; omega) | (unfold dP; omega) | (unfold dT; omega) | (unfold dS; omega) | (unfold dI; omega) | (unfold dL; omega) | (unfold dB; omega) | (unfold dE; omega) | (unfold dSb; omega) | omega) (by omega) (by omega) (Nat.le_of_ble_eq_true rfl) ?_
    rintro r5 w5 hQ
    obtain rfl := hQ.rv
    show G0 _ _ _ _ _ _ _ _
    refine g_ifB_ne hX d_Re_readPlain_32 (fun e32 => ?_) (fun e32 => ?_)
    · obtain ⟨⟨f3, p1, d1⟩, rfl⟩ := okR_t e32
      obtain ⟨c1, hA⟩ := hQ.acc
      replace hA : AcQ wk w5 t o c f1 p f3 p1 d1 c1 := hA
      have hR1 := hA.2.2.2.1
      replace hk0 : cmpR t o k dp a f3 p1 d1 = some x1 := hk0
      refine g_aload0 hX d_Re_readPlain_37 ?_
      refine g_callV (As := []) hX hF.1 d_Re_readPlain_38 ml_Re_153 cf_Re_comparisonHere cv_Re_comparisonHere rfl rfl (c_Re_comparisonHere hR1.1) (rcv_obj hX (lv_25 _) rfl rfl) (by first | (unfold dP dT; omega) | (unfold dSb dP; omega) | (unfold dSb dS; omega) | (unfold dT dS; omega)  | (unfold dL dB; omega) | (unfold dB dE; omega) | (unfold dI dE; omega) | (unfold dI dL; omega) | (unfold dS dL; omega) | (unfold dP; omega) | (unfold dT; omega) | (unfold dS; omega) | (unfold dI; omega) | (unfold dL; omega) | (unfold dB; omega) | (unfold dE; omega) | (unfold dSb; omega) | omega) (by omega) (by omega) (Nat.le_of_ble_eq_true rfl) ?_
      rintro r6 w6 ⟨hs0, hw6⟩
      have hw7 := hw6.symm
      subst hw7
      obtain ⟨v, rfl, hv⟩ : ∃ v : Int32, r6 = some (.int v) ∧ ((∃ q u : Nat, sgn t f3 sgC = some q ∧ u + 18 = q ∧ v = nI u) ∨ (sgn t f3 sgC = none ∧ v = -1)) := by
        rcases hs0 with ⟨q, u, z1, z2, z3⟩ | ⟨z1, z2⟩
        · exact ⟨nI u, z3, Or.inl ⟨q, u, z1, z2, rfl⟩⟩
        · exact ⟨-1, z2, Or.inr ⟨z1, rfl⟩⟩
      show G0 _ _ _ _ _ _ _ _
      refine g_istore3 hX d_Re_readPlain_41 rfl (by decide) ?_
      refine g_iload3 hX d_Re_readPlain_42 ?_
      refine g_iconst (v := -1) hX d_Re_readPlain_43 rfl ?_
      refine g_icmp_ne hX d_Re_readPlain_44 (fun e44 => ?_) (fun e44 => ?_)
      · obtain ⟨q, u, hs3, hu, rfl⟩ := hv.resolve_right (fun z => e44 z.2)
        obtain ⟨hq1, hq2⟩ := sgC_rg hs3
        obtain rfl : u = q - 18 := by omega
        replace hk0 : bindR (rd t o k 3 dp (nxT t f3) p1 a) (fun f2 p2 d2 => some (.inr (f2, p2, dBin q d1 d2))) = some x1 := by
          unfold cmpR at hk0
          rw [hs3] at hk0
          exact hk0
        obtain ⟨x2, hx2, hk2⟩ := bind_2 hk0
        refine g_aload0 hX d_Re_readPlain_52 ?_
        refine g_getF hX d_Re_readPlain_53 fl_Re_12 (lv_25 _) ?_
        refine g_callV (As := []) hX hF.1 d_Re_readPlain_56 ml_Re_67 cf_Ta_step cv_Ta_step rfl rfl (c_Ta_step hR1.1.1 hR1.1.2.2.1 (enT_le hR1.fl.1)) (rcv_obj hX (lv_26 _) rfl rfl) (by first | (unfold dP dT; omega) | (unfold dSb dP; omega) | (unfold dSb dS; omega) | (unfold dT dS; omega)  | (unfold dL dB; omega) | (unfold dB dE; omega) | (unfold dI dE; omega) | (unfold dI dL; omega) | (unfold dS dL; omega) | (unfold dP; omega) | (unfold dT; omega) | (unfold dS; omega) | (unfold dI; omega) | (unfold dL; omega) | (unfold dB; omega) | (unfold dE; omega) | (unfold dSb; omega) | omega) (by omega) (by omega) (Nat.le_of_ble_eq_true rfl) ?_
        rintro _ w3 ⟨rfl, ft_w3, tk_w3⟩
        have h3 := hR1.step ft_w3 tk_w3
        show G0 _ _ _ _ _ _ _ _
        refine g_aload0 hX d_Re_readPlain_59 ?_
        refine g_iload1 hX d_Re_readPlain_60 ?_
        refine g_callV (As := [_]) hX hF.1 d_Re_readPlain_61 ml_Re_122 cf_Re_readSum cv_Re_readSum rfl rfl (HS k (by omega) _ _ _ _ _ _ _ hdp hx2 h3) (rcv_obj hX (lv_25 _) rfl rfl) (by first | (unfold dP dT; omega) | (unfold dSb dP; omega) | (unfold dSb dS; omega) | (unfold dT dS; omega)  | (unfold dL dB; omega) | (unfold dB dE; omega) | (unfold dI dE; omega) | (unfold dI dL; omega) | (unfold dS dL; omega) | (unfold dP; omega) | (unfold dT; omega) | (unfold dS; omega) | (unfold dI; omega) | (unfold dL; omega) | (unfold dB; omega) | (unfold dE; omega) | (unfold dSb; omega) | omega) (by omega) (by omega) (Nat.le_of_ble_eq_true rfl) ?_
        rintro r7 w7 hQ2
        obtain rfl := hQ2.rv
        show G0 _ _ _ _ _ _ _ _
        refine g_ifB_ne hX d_Re_readPlain_64 (fun e64 => ?_) (fun e64 => ?_)
        · obtain ⟨y, rfl⟩ := okR_t e64
          obtain ⟨c2, hA2⟩ := hQ2.acc
          replace hk2 : some (.inr (y.1, y.2.1, dBin q d1 y.2.2)) = some x1 := hk2
          obtain rfl := Option.some.inj hk2
          have hlen2 := hA2.2.2.2.1.len
          refine g_aload0 hX d_Re_readPlain_69 ?_
          refine g_getF hX d_Re_readPlain_70 fl_Re_23 (lv_25 _) ?_
          refine g_iload3 hX d_Re_readPlain_73 ?_
          refine g_iconst (v := nI 0) hX d_Re_readPlain_74 rfl ?_
          refine g_callV (As := [_, _]) hX hF.1 d_Re_readPlain_75 ml_Re_135 cf_Pr_emit cv_Pr_emit rfl rfl (c_Pr_emit (o := q - 18) (a := 0) (len := c2.length) hA2.2.2.2.1.2.2.2.1.1 hA2.2.2.2.1.2.2.2.1.2.1 (by omega) (by omega) (by decide)) (rcv_obj hX (lv_28 _) rfl rfl) (by first | (unfold dP dT; omega) | (unfold dSb dP; omega) | (unfold dSb dS; omega) | (unfold dT dS; omega)  | (unfold dL dB; omega) | (unfold dB dE; omega) | (unfold dI dE; omega) | (unfold dI dL; omega) | (unfold dS dL; omega) | (unfold dP; omega) | (unfold dT; omega) | (unfold dS; omega) | (unfold dI; omega) | (unfold dL; omega) | (unfold dB; omega) | (unfold dE; omega) | (unfold dSb; omega) | omega) (by omega) (by omega) (Nat.le_of_ble_eq_true rfl) ?_
          refine ret_k ?_
          refine g_pop hX d_Re_readPlain_78 rfl ?_
          have hA9 := AcQ.bin hA ft_w3 hA2 hq1 hq2
          obtain ⟨c9, hc9⟩ : ∃ c9, c2 ++ [(q, 0)] = c9 := ⟨_, rfl⟩
          rw [hc9] at hA9
          refine g_iload2 hX d_Re_readPlain_79 ?_
          refine g_ifB_eq hX d_Re_readPlain_80 (fun e80 => ?_) (fun e80 => ?_)
          · obtain rfl : tn = false := by
              cases tn with
              | false => rfl
              | true => exact absurd rfl e80
            refine g_iconst (v := nI 1) hX d_Re_readPlain_94 rfl ?_
            refine g_zret hX hF d_Re_readPlain_95 (Or.inr rfl) (by omega) (by omega) ?_
            subst q3
            exact (hA9.tk q4 q6.1).ex
          · subst e80
            have hlen9 := hA9.2.2.2.1.len
            refine g_aload0 hX d_Re_readPlain_83 ?_
            refine g_getF hX d_Re_readPlain_84 fl_Re_23 (lv_25 _) ?_
            refine g_bipush (v := nI 10) hX d_Re_readPlain_87 rfl ?_
            refine g_iconst (v := nI 0) hX d_Re_readPlain_89 rfl ?_
            refine g_callV (As := [_, _]) hX hF.1 d_Re_readPlain_90 ml_Re_135 cf_Pr_emit cv_Pr_emit rfl rfl (c_Pr_emit (o := 10) (a := 0) (len := c9.length) hA9.2.2.2.1.2.2.2.1.1 hA9.2.2.2.1.2.2.2.1.2.1 (by omega) (by decide) (by decide)) (rcv_obj hX (lv_28 _) rfl rfl) (by first | (unfold dP dT; omega) | (unfold dSb dP; omega) | (unfold dSb dS; omega) | (unfold dT dS; omega)  | (unfold dL dB; omega) | (unfold dB dE; omega) | (unfold dI dE; omega) | (unfold dI dL; omega) | (unfold dS dL; omega) | (unfold dP; omega) | (unfold dT; omega) | (unfold dS; omega) | (unfold dI; omega) | (unfold dL; omega) | (unfold dB; omega) | (unfold dE; omega) | (unfold dSb; omega) | omega) (by omega) (by omega) (Nat.le_of_ble_eq_true rfl) ?_
            refine ret_k ?_
            refine g_pop hX d_Re_readPlain_93 rfl ?_
            refine g_iconst (v := nI 1) hX d_Re_readPlain_94 rfl ?_
            refine g_zret hX hF d_Re_readPlain_95 (Or.inr rfl) (by omega) (by omega) ?_
            subst q3
            exact ((hA9.tk q4 (Nat.le_refl _)).not (q6.2 rfl) h.2.2.2.2.2.1).ex
        · refine g_iconst (v := nI 0) hX d_Re_readPlain_67 rfl ?_
          refine g_zret hX hF d_Re_readPlain_68 (Or.inl rfl) (by omega) (by omega) ?_
          obtain ⟨e, rfl⟩ := okR_f e64
          obtain rfl : x1 = .inl e := hk2
          subst q3
          exact ExQ.bad ((q4.R.tr hA.1).tr ft_w3.R) hQ2
      · have hs3 : sgn t f3 sgC = none := by
          rcases hv with ⟨q, u, z1, z2, z3⟩ | z
          · rw [z3] at e44
            exact absurd e44 (nI_m1 (by have := sgC_rg z1; omega))
          · exact z.1
        refine g_aload0 hX d_Re_readPlain_47 ?_
        refine g_callV (As := []) hX hF.1 d_Re_readPlain_48 ml_Re_64 cf_Re_fail cv_Re_fail rfl rfl (c_Re_fail hR1.1) (rcv_obj hX (lv_25 _) rfl rfl) (by first | (unfold dP dT; omega) | (unfold dSb dP; omega) | (unfold dSb dS; omega) | (unfold dT dS; omega)  | (unfold dL dB; omega) | (unfold dB dE; omega) | (unfold dI dE; omega) | (unfold dI dL; omega) | (unfold dS dL; omega) | (unfold dP; omega) | (unfold dT; omega) | (unfold dS; omega) | (unfold dI; omega) | (unfold dL; omega) | (unfold dB; omega) | (unfold dE; omega) | (unfold dSb; omega) | omega) (by omega) (by omega) (Nat.le_of_ble_eq_true rfl) ?_
        refine ret_k ?_
        refine g_zret hX hF d_Re_readPlain_51 (Or.inl rfl) (by omega) (by omega) ?_
        unfold cmpR at hk0
        rw [hs3] at hk0
        obtain rfl := Option.some.inj hk0
        subst q3
        exact ExQ.fail (q4.R.tr hA.1)
    · refine g_iconst (v := nI 0) hX d_Re_readPlain_35 rfl ?_
      refine g_zret hX hF d_Re_readPlain_36 (Or.inl rfl) (by omega) (by omega) ?_
      obtain ⟨e, rfl⟩ := okR_f e32
      obtain rfl : x1 = .inl e := hk0
      subst q3
      exact ExQ.bad q4.R hQ
  · refine g_aload0 hX d_Re_readPlain_17 ?_
    refine g_iload1 hX d_Re_readPlain_18 ?_
    refine g_callV (As := [_]) hX hF.1 d_Re_readPlain_19 ml_Re_150 cf_Re_readInBrackets cv_Re_readInBrackets rfl rfl (c_Re_readInBrackets (HE k (by omega)) hdp (x := x1) (by
      by_cases z : 8 ≤ dp
      · rw [rd_5b hs e14 z] at q1
        rw [if_pos z]
        exact (Option.some.inj q1).symm
      · rw [rd_5c hs e14 z] at q1
        rw [if_neg z]
        exact q1) q5) (rcv_obj hX (lv_25 _) rfl rfl) (by first | (unfold dP dT; omega) | (unfold dSb dP; omega) | (unfold dSb dS; omega) | (unfold dT dS; omega)  | (unfold dL dB; omega) | (unfold dB dE; omega) | (unfold dI dE; omega) | (unfold dI dL; omega) | (unfold dS dL; omega) | (unfold dP; omega) | (unfold dT; omega) | (unfold dS; omega) | (unfold dI; omega) | (unfold dL; omega) | (unfold dB; omega) | (unfold dE; omega) | (unfold dSb; omega) | omega) (by omega) (by omega) (Nat.le_of_ble_eq_true rfl) ?_
    rintro r5 w5 hQ
    obtain rfl := hQ.rv
    show G0 _ _ _ _ _ _ _ _
    refine g_ifB_ne hX d_Re_readPlain_22 (fun e22 => ?_) (fun e22 => ?_)
    · obtain ⟨y, rfl⟩ := okR_t e22
      obtain ⟨c9, hA9⟩ := hQ.acc
      refine g_iload2 hX d_Re_readPlain_79 ?_
      refine g_ifB_eq hX d_Re_readPlain_80 (fun e80 => ?_) (fun e80 => ?_)
      · obtain rfl : tn = false := by
          cases tn with
          | false => rfl
          | true => exact absurd rfl e80
        refine g_iconst (v := nI 1) hX d_Re_readPlain_94 rfl ?_
        refine g_zret hX hF d_Re_readPlain_95 (Or.inr rfl) (by omega) (by omega) ?_
        subst q3
        exact (hA9.tk q4 q6.1).ex
      · subst e80
        have hlen9 := hA9.2.2.2.1.len
        refine g_aload0 hX d_Re_readPlain_83 ?_
        refine g_getF hX d_Re_readPlain_84 fl_Re_23 (lv_25 _) ?_
        refine g_bipush (v := nI 10) hX d_Re_readPlain_87 rfl ?_
        refine g_iconst (v := nI 0) hX d_Re_readPlain_89 rfl ?_
        refine g_callV (As := [_, _]) hX hF.1 d_Re_readPlain_90 ml_Re_135 cf_Pr_emit cv_Pr_emit rfl rfl (c_Pr_emit (o := 10) (a := 0) (len := c9.length) hA9.2.2.2.1.2.2.2.1.1 hA9.2.2.2.1.2.2.2.1.2.1 (by omega) (by decide) (by decide)) (rcv_obj hX (lv_28 _) rfl rfl) (by first | (unfold dP dT; omega) | (unfold dSb dP; omega) | (unfold dSb dS; omega) | (unfold dT dS; omega)  | (unfold dL dB; omega) | (unfold dB dE; omega) | (unfold dI dE; omega) | (unfold dI dL; omega) | (unfold dS dL; omega) | (unfold dP; omega) | (unfold dT; omega) | (unfold dS; omega) | (unfold dI; omega) | (unfold dL; omega) | (unfold dB; omega) | (unfold dE; omega) | (unfold dSb; omega) | omega) (by omega) (by omega) (Nat.le_of_ble_eq_true rfl) ?_
        refine ret_k ?_
        refine g_pop hX d_Re_readPlain_93 rfl ?_
        refine g_iconst (v := nI 1) hX d_Re_readPlain_94 rfl ?_
        refine g_zret hX hF d_Re_readPlain_95 (Or.inr rfl) (by omega) (by omega) ?_
        subst q3
        exact ((hA9.tk q4 (Nat.le_refl _)).not (q6.2 rfl) h.2.2.2.2.2.1).ex
    · refine g_iconst (v := nI 0) hX d_Re_readPlain_25 rfl ?_
      refine g_zret hX hF d_Re_readPlain_26 (Or.inl rfl) (by omega) (by omega) ?_
      obtain ⟨e, rfl⟩ := okR_f e22
      subst q3
      exact ExQ.bad q4.R hQ
/-- the reader reads what the text means -/
theorem c_reader {E : EV} {t : List Nat} {o : Bool} : ∀ n, CT E t o n 0 m_Re_readPart dP ∧ CT E t o n 1 m_Re_readTerm dT ∧ CT E t o n 3 m_Re_readSum dS ∧ CT E t o n 5 m_Re_readPlain dL ∧ CT E t o n 6 m_Re_readBoth dB ∧ CT E t o n 8 m_Re_readTest dE := by
  intro n
  induction n using Nat.strongRecOn with
  | ind n ih =>
    exact ⟨fun dp f p a c w x h1 h2 h3 => c_Re_readPart (fun k hk => (ih k hk).2.2.1) h1 h2 h3, fun dp f p a c w x h1 h2 h3 => c_Re_readTerm (fun k hk => (ih k hk).1) h1 h2 h3, fun dp f p a c w x h1 h2 h3 => c_Re_readSum (fun k hk => (ih k hk).2.1) h1 h2 h3, fun dp f p a c w x h1 h2 h3 => c_Re_readPlain (fun k hk => (ih k hk).2.2.1) (fun k hk => (ih k hk).2.2.2.2.2) h1 h2 h3, fun dp f p a c w x h1 h2 h3 => c_Re_readBoth (fun k hk => (ih k hk).2.2.2.1) h1 h2 h3, fun dp f p a c w x h1 h2 h3 => c_Re_readTest (fun k hk => (ih k hk).2.2.2.2.1) h1 h2 h3⟩
