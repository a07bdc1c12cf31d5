def m_M_bitsOf : MR := (⟨"SubgraphDeskModel", "bitsOf", "(I)I"⟩, prog_14_method_20_code, 6, (some .int))
theorem cf_M_bitsOf : CF m_M_bitsOf 1 := ⟨gd 1733 (by decide +kernel) rfl, gd 151 (by decide +kernel) rfl, by decide +kernel, by decide, by decide +kernel⟩
theorem cv_M_bitsOf : CV m_M_bitsOf := ⟨gd 1732 (by decide +kernel) rfl, gd 62 (by decide +kernel) rfl⟩
def m_M_codeOf : MR := (⟨"SubgraphDeskModel", "codeOf", "(II)I"⟩, prog_14_method_18_code, 2, (some .int))
theorem cf_M_codeOf : CF m_M_codeOf 2 := ⟨gd 1808 (by decide +kernel) rfl, gd 151 (by decide +kernel) rfl, by decide +kernel, by decide, by decide +kernel⟩
theorem cs_M_codeOf : CS m_M_codeOf := gd 1807 (by decide +kernel) rfl
def m_M_degreeOf : MR := (⟨"SubgraphDeskModel", "degreeOf", "(I)I"⟩, prog_14_method_21_code, 2, (some .int))
theorem cf_M_degreeOf : CF m_M_degreeOf 1 := ⟨gd 1729 (by decide +kernel) rfl, gd 151 (by decide +kernel) rfl, by decide +kernel, by decide, by decide +kernel⟩
theorem cv_M_degreeOf : CV m_M_degreeOf := ⟨gd 1728 (by decide +kernel) rfl, gd 61 (by decide +kernel) rfl⟩
def m_M_edgeAt : MR := (⟨"SubgraphDeskModel", "edgeAt", "(II)I"⟩, prog_14_method_19_code, 5, (some .int))
theorem cf_M_edgeAt : CF m_M_edgeAt 2 := ⟨gd 1805 (by decide +kernel) rfl, gd 151 (by decide +kernel) rfl, by decide +kernel, by decide, by decide +kernel⟩
theorem cv_M_edgeAt : CV m_M_edgeAt := ⟨gd 1804 (by decide +kernel) rfl, gd 72 (by decide +kernel) rfl⟩
def m_M_in : MR := (⟨"SubgraphDeskModel", "in", "(JJJ)Z"⟩, prog_14_method_3_code, 6, (some .boolean))
theorem cf_M_in : CF m_M_in 3 := ⟨gd 1699 (by decide +kernel) rfl, gd 151 (by decide +kernel) rfl, by decide +kernel, by decide, by decide +kernel⟩
theorem cs_M_in : CS m_M_in := gd 1698 (by decide +kernel) rfl
def m_M_is : MR := (⟨"SubgraphDeskModel", "is", "(II)Z"⟩, prog_14_method_4_code, 2, (some .boolean))
theorem cf_M_is : CF m_M_is 2 := ⟨gd 2026 (by decide +kernel) rfl, gd 151 (by decide +kernel) rfl, by decide +kernel, by decide, by decide +kernel⟩
theorem cs_M_is : CS m_M_is := gd 2025 (by decide +kernel) rfl
def m_M_isNode : MR := (⟨"SubgraphDeskModel", "isNode", "(I)Z"⟩, prog_14_method_16_code, 2, (some .boolean))
theorem cf_M_isNode : CF m_M_isNode 1 := ⟨gd 1725 (by decide +kernel) rfl, gd 151 (by decide +kernel) rfl, by decide +kernel, by decide, by decide +kernel⟩
theorem cv_M_isNode : CV m_M_isNode := ⟨gd 1724 (by decide +kernel) rfl, gd 60 (by decide +kernel) rfl⟩
def m_M_isVertex : MR := (⟨"SubgraphDeskModel", "isVertex", "(I)Z"⟩, prog_14_method_17_code, 2, (some .boolean))
theorem cf_M_isVertex : CF m_M_isVertex 1 := ⟨gd 1744 (by decide +kernel) rfl, gd 151 (by decide +kernel) rfl, by decide +kernel, by decide, by decide +kernel⟩
theorem cv_M_isVertex : CV m_M_isVertex := ⟨gd 1743 (by decide +kernel) rfl, gd 63 (by decide +kernel) rfl⟩
def m_M_many : MR := (⟨"SubgraphDeskModel", "many", "(I)I"⟩, prog_14_method_6_code, 3, (some .int))
theorem cf_M_many : CF m_M_many 1 := ⟨gd 1736 (by decide +kernel) rfl, gd 151 (by decide +kernel) rfl, by decide +kernel, by decide, by decide +kernel⟩
theorem cs_M_many : CS m_M_many := gd 1735 (by decide +kernel) rfl
def m_M_toggleEdge : MR := (⟨"SubgraphDeskModel", "toggleEdge", "(II)I"⟩, prog_14_method_22_code, 5, (some .int))
theorem cf_M_toggleEdge : CF m_M_toggleEdge 2 := ⟨gd 1812 (by decide +kernel) rfl, gd 151 (by decide +kernel) rfl, by decide +kernel, by decide, by decide +kernel⟩
theorem cv_M_toggleEdge : CV m_M_toggleEdge := ⟨gd 1811 (by decide +kernel) rfl, gd 73 (by decide +kernel) rfl⟩
theorem d_M_bitsOf_0 : Dc prog_14_method_20_code 0 (.iconst 0) 1 1 := ⟨by decide +kernel, rfl⟩
theorem d_M_bitsOf_1 : Dc prog_14_method_20_code 1 (.istore_n 2) 1 2 := ⟨by decide +kernel, rfl⟩
theorem d_M_bitsOf_2 : Dc prog_14_method_20_code 2 (.iconst 0) 1 3 := ⟨by decide +kernel, rfl⟩
theorem d_M_bitsOf_3 : Dc prog_14_method_20_code 3 (.istore_n 3) 1 4 := ⟨by decide +kernel, rfl⟩
theorem d_M_bitsOf_4 : Dc prog_14_method_20_code 4 (.iload_n 3) 1 5 := ⟨by decide +kernel, rfl⟩
theorem d_M_bitsOf_5 : Dc prog_14_method_20_code 5 (.aload_n 0) 1 6 := ⟨by decide +kernel, rfl⟩
theorem d_M_bitsOf_6 : Dc prog_14_method_20_code 6 (.getfield 13) 3 9 := ⟨by decide +kernel, rfl⟩
theorem d_M_bitsOf_9 : Dc prog_14_method_20_code 9 (.bipush 31) 2 11 := ⟨by decide +kernel, rfl⟩
theorem d_M_bitsOf_11 : Dc prog_14_method_20_code 11 (.iaload) 1 12 := ⟨by decide +kernel, rfl⟩
theorem d_M_bitsOf_12 : Dj prog_14_method_20_code 12 (.if_icmp .ge 67) 15 67 79 := ⟨by decide +kernel, rfl, rfl⟩
theorem d_M_bitsOf_15 : Dc prog_14_method_20_code 15 (.aload_n 0) 1 16 := ⟨by decide +kernel, rfl⟩
theorem d_M_bitsOf_16 : Dc prog_14_method_20_code 16 (.getfield 13) 3 19 := ⟨by decide +kernel, rfl⟩
theorem d_M_bitsOf_19 : Dc prog_14_method_20_code 19 (.bipush 32) 2 21 := ⟨by decide +kernel, rfl⟩
theorem d_M_bitsOf_21 : Dc prog_14_method_20_code 21 (.iload_n 3) 1 22 := ⟨by decide +kernel, rfl⟩
theorem d_M_bitsOf_22 : Dc prog_14_method_20_code 22 (.iadd) 1 23 := ⟨by decide +kernel, rfl⟩
theorem d_M_bitsOf_23 : Dc prog_14_method_20_code 23 (.iaload) 1 24 := ⟨by decide +kernel, rfl⟩
theorem d_M_bitsOf_24 : Dc prog_14_method_20_code 24 (.bipush 12) 2 26 := ⟨by decide +kernel, rfl⟩
theorem d_M_bitsOf_26 : Dc prog_14_method_20_code 26 (.idiv) 1 27 := ⟨by decide +kernel, rfl⟩
theorem d_M_bitsOf_27 : Dc prog_14_method_20_code 27 (.istore 4) 2 29 := ⟨by decide +kernel, rfl⟩
theorem d_M_bitsOf_29 : Dc prog_14_method_20_code 29 (.aload_n 0) 1 30 := ⟨by decide +kernel, rfl⟩
theorem d_M_bitsOf_30 : Dc prog_14_method_20_code 30 (.getfield 13) 3 33 := ⟨by decide +kernel, rfl⟩
theorem d_M_bitsOf_33 : Dc prog_14_method_20_code 33 (.bipush 32) 2 35 := ⟨by decide +kernel, rfl⟩
theorem d_M_bitsOf_35 : Dc prog_14_method_20_code 35 (.iload_n 3) 1 36 := ⟨by decide +kernel, rfl⟩
theorem d_M_bitsOf_36 : Dc prog_14_method_20_code 36 (.iadd) 1 37 := ⟨by decide +kernel, rfl⟩
theorem d_M_bitsOf_37 : Dc prog_14_method_20_code 37 (.iaload) 1 38 := ⟨by decide +kernel, rfl⟩
theorem d_M_bitsOf_38 : Dc prog_14_method_20_code 38 (.bipush 12) 2 40 := ⟨by decide +kernel, rfl⟩
theorem d_M_bitsOf_40 : Dc prog_14_method_20_code 40 (.irem) 1 41 := ⟨by decide +kernel, rfl⟩
theorem d_M_bitsOf_41 : Dc prog_14_method_20_code 41 (.istore 5) 2 43 := ⟨by decide +kernel, rfl⟩
theorem d_M_bitsOf_43 : Dc prog_14_method_20_code 43 (.iload_n 2) 1 44 := ⟨by decide +kernel, rfl⟩
theorem d_M_bitsOf_44 : Dc prog_14_method_20_code 44 (.iload 4) 2 46 := ⟨by decide +kernel, rfl⟩
theorem d_M_bitsOf_46 : Dc prog_14_method_20_code 46 (.iload_n 1) 1 47 := ⟨by decide +kernel, rfl⟩
theorem d_M_bitsOf_47 : Dj prog_14_method_20_code 47 (.if_icmp .ne 10) 50 10 57 := ⟨by decide +kernel, rfl, rfl⟩
theorem d_M_bitsOf_50 : Dc prog_14_method_20_code 50 (.iconst 1) 1 51 := ⟨by decide +kernel, rfl⟩
theorem d_M_bitsOf_51 : Dc prog_14_method_20_code 51 (.iload 5) 2 53 := ⟨by decide +kernel, rfl⟩
theorem d_M_bitsOf_53 : Dc prog_14_method_20_code 53 (.ishl) 1 54 := ⟨by decide +kernel, rfl⟩
theorem d_M_bitsOf_54 : Dj prog_14_method_20_code 54 (.goto 17) 57 17 71 := ⟨by decide +kernel, rfl, rfl⟩
theorem d_M_bitsOf_57 : Dc prog_14_method_20_code 57 (.iload 5) 2 59 := ⟨by decide +kernel, rfl⟩
theorem d_M_bitsOf_59 : Dc prog_14_method_20_code 59 (.iload_n 1) 1 60 := ⟨by decide +kernel, rfl⟩
theorem d_M_bitsOf_60 : Dj prog_14_method_20_code 60 (.if_icmp .ne 10) 63 10 70 := ⟨by decide +kernel, rfl, rfl⟩
theorem d_M_bitsOf_63 : Dc prog_14_method_20_code 63 (.iconst 1) 1 64 := ⟨by decide +kernel, rfl⟩
theorem d_M_bitsOf_64 : Dc prog_14_method_20_code 64 (.iload 4) 2 66 := ⟨by decide +kernel, rfl⟩
theorem d_M_bitsOf_66 : Dc prog_14_method_20_code 66 (.ishl) 1 67 := ⟨by decide +kernel, rfl⟩
theorem d_M_bitsOf_67 : Dj prog_14_method_20_code 67 (.goto 4) 70 4 71 := ⟨by decide +kernel, rfl, rfl⟩
theorem d_M_bitsOf_70 : Dc prog_14_method_20_code 70 (.iconst 0) 1 71 := ⟨by decide +kernel, rfl⟩
theorem d_M_bitsOf_71 : Dc prog_14_method_20_code 71 (.ior) 1 72 := ⟨by decide +kernel, rfl⟩
theorem d_M_bitsOf_72 : Dc prog_14_method_20_code 72 (.istore_n 2) 1 73 := ⟨by decide +kernel, rfl⟩
theorem d_M_bitsOf_73 : Dc prog_14_method_20_code 73 (.iinc 3 1) 3 76 := ⟨by decide +kernel, rfl⟩
theorem d_M_bitsOf_76 : Dj prog_14_method_20_code 76 (.goto (-72)) 79 (-72) 4 := ⟨by decide +kernel, rfl, rfl⟩
theorem d_M_bitsOf_79 : Dc prog_14_method_20_code 79 (.iload_n 2) 1 80 := ⟨by decide +kernel, rfl⟩
theorem d_M_bitsOf_80 : Dc prog_14_method_20_code 80 (.ireturn) 1 81 := ⟨by decide +kernel, rfl⟩
theorem d_M_codeOf_0 : Dc prog_14_method_18_code 0 (.iload_n 0) 1 1 := ⟨by decide +kernel, rfl⟩
theorem d_M_codeOf_1 : Dc prog_14_method_18_code 1 (.iload_n 1) 1 2 := ⟨by decide +kernel, rfl⟩
theorem d_M_codeOf_2 : Dj prog_14_method_18_code 2 (.if_icmp .ge 12) 5 12 14 := ⟨by decide +kernel, rfl, rfl⟩
theorem d_M_codeOf_5 : Dc prog_14_method_18_code 5 (.bipush 12) 2 7 := ⟨by decide +kernel, rfl⟩
theorem d_M_codeOf_7 : Dc prog_14_method_18_code 7 (.iload_n 0) 1 8 := ⟨by decide +kernel, rfl⟩
theorem d_M_codeOf_8 : Dc prog_14_method_18_code 8 (.imul) 1 9 := ⟨by decide +kernel, rfl⟩
theorem d_M_codeOf_9 : Dc prog_14_method_18_code 9 (.iload_n 1) 1 10 := ⟨by decide +kernel, rfl⟩
theorem d_M_codeOf_10 : Dc prog_14_method_18_code 10 (.iadd) 1 11 := ⟨by decide +kernel, rfl⟩
theorem d_M_codeOf_11 : Dj prog_14_method_18_code 11 (.goto 9) 14 9 20 := ⟨by decide +kernel, rfl, rfl⟩
theorem d_M_codeOf_14 : Dc prog_14_method_18_code 14 (.bipush 12) 2 16 := ⟨by decide +kernel, rfl⟩
theorem d_M_codeOf_16 : Dc prog_14_method_18_code 16 (.iload_n 1) 1 17 := ⟨by decide +kernel, rfl⟩
theorem d_M_codeOf_17 : Dc prog_14_method_18_code 17 (.imul) 1 18 := ⟨by decide +kernel, rfl⟩
theorem d_M_codeOf_18 : Dc prog_14_method_18_code 18 (.iload_n 0) 1 19 := ⟨by decide +kernel, rfl⟩
theorem d_M_codeOf_19 : Dc prog_14_method_18_code 19 (.iadd) 1 20 := ⟨by decide +kernel, rfl⟩
theorem d_M_codeOf_20 : Dc prog_14_method_18_code 20 (.ireturn) 1 21 := ⟨by decide +kernel, rfl⟩
theorem d_M_degreeOf_0 : Dc prog_14_method_21_code 0 (.aload_n 0) 1 1 := ⟨by decide +kernel, rfl⟩
theorem d_M_degreeOf_1 : Dc prog_14_method_21_code 1 (.iload_n 1) 1 2 := ⟨by decide +kernel, rfl⟩
theorem d_M_degreeOf_2 : Dc prog_14_method_21_code 2 (.invokevirtual 201) 3 5 := ⟨by decide +kernel, rfl⟩
theorem d_M_degreeOf_5 : Dc prog_14_method_21_code 5 (.invokestatic 204) 3 8 := ⟨by decide +kernel, rfl⟩
theorem d_M_degreeOf_8 : Dc prog_14_method_21_code 8 (.ireturn) 1 9 := ⟨by decide +kernel, rfl⟩
theorem d_M_edgeAt_0 : Dc prog_14_method_19_code 0 (.iconst (-1)) 1 1 := ⟨by decide +kernel, rfl⟩
theorem d_M_edgeAt_1 : Dc prog_14_method_19_code 1 (.istore_n 3) 1 2 := ⟨by decide +kernel, rfl⟩
theorem d_M_edgeAt_2 : Dc prog_14_method_19_code 2 (.iconst 0) 1 3 := ⟨by decide +kernel, rfl⟩
theorem d_M_edgeAt_3 : Dc prog_14_method_19_code 3 (.istore 4) 2 5 := ⟨by decide +kernel, rfl⟩
theorem d_M_edgeAt_5 : Dc prog_14_method_19_code 5 (.iload 4) 2 7 := ⟨by decide +kernel, rfl⟩
theorem d_M_edgeAt_7 : Dc prog_14_method_19_code 7 (.aload_n 0) 1 8 := ⟨by decide +kernel, rfl⟩
theorem d_M_edgeAt_8 : Dc prog_14_method_19_code 8 (.getfield 13) 3 11 := ⟨by decide +kernel, rfl⟩
theorem d_M_edgeAt_11 : Dc prog_14_method_19_code 11 (.bipush 31) 2 13 := ⟨by decide +kernel, rfl⟩
theorem d_M_edgeAt_13 : Dc prog_14_method_19_code 13 (.iaload) 1 14 := ⟨by decide +kernel, rfl⟩
theorem d_M_edgeAt_14 : Dj prog_14_method_19_code 14 (.if_icmp .ge 34) 17 34 48 := ⟨by decide +kernel, rfl, rfl⟩
theorem d_M_edgeAt_17 : Dc prog_14_method_19_code 17 (.aload_n 0) 1 18 := ⟨by decide +kernel, rfl⟩
theorem d_M_edgeAt_18 : Dc prog_14_method_19_code 18 (.getfield 13) 3 21 := ⟨by decide +kernel, rfl⟩
theorem d_M_edgeAt_21 : Dc prog_14_method_19_code 21 (.bipush 32) 2 23 := ⟨by decide +kernel, rfl⟩
theorem d_M_edgeAt_23 : Dc prog_14_method_19_code 23 (.iload 4) 2 25 := ⟨by decide +kernel, rfl⟩
theorem d_M_edgeAt_25 : Dc prog_14_method_19_code 25 (.iadd) 1 26 := ⟨by decide +kernel, rfl⟩
theorem d_M_edgeAt_26 : Dc prog_14_method_19_code 26 (.iaload) 1 27 := ⟨by decide +kernel, rfl⟩
theorem d_M_edgeAt_27 : Dc prog_14_method_19_code 27 (.iload_n 1) 1 28 := ⟨by decide +kernel, rfl⟩
theorem d_M_edgeAt_28 : Dc prog_14_method_19_code 28 (.iload_n 2) 1 29 := ⟨by decide +kernel, rfl⟩
theorem d_M_edgeAt_29 : Dc prog_14_method_19_code 29 (.invokestatic 197) 3 32 := ⟨by decide +kernel, rfl⟩
theorem d_M_edgeAt_32 : Dj prog_14_method_19_code 32 (.if_icmp .ne 8) 35 8 40 := ⟨by decide +kernel, rfl, rfl⟩
theorem d_M_edgeAt_35 : Dc prog_14_method_19_code 35 (.iload 4) 2 37 := ⟨by decide +kernel, rfl⟩
theorem d_M_edgeAt_37 : Dj prog_14_method_19_code 37 (.goto 4) 40 4 41 := ⟨by decide +kernel, rfl, rfl⟩
theorem d_M_edgeAt_40 : Dc prog_14_method_19_code 40 (.iload_n 3) 1 41 := ⟨by decide +kernel, rfl⟩
theorem d_M_edgeAt_41 : Dc prog_14_method_19_code 41 (.istore_n 3) 1 42 := ⟨by decide +kernel, rfl⟩
theorem d_M_edgeAt_42 : Dc prog_14_method_19_code 42 (.iinc 4 1) 3 45 := ⟨by decide +kernel, rfl⟩
theorem d_M_edgeAt_45 : Dj prog_14_method_19_code 45 (.goto (-40)) 48 (-40) 5 := ⟨by decide +kernel, rfl, rfl⟩
theorem d_M_edgeAt_48 : Dc prog_14_method_19_code 48 (.iload_n 3) 1 49 := ⟨by decide +kernel, rfl⟩
theorem d_M_edgeAt_49 : Dc prog_14_method_19_code 49 (.ireturn) 1 50 := ⟨by decide +kernel, rfl⟩
theorem d_M_in_0 : Dc prog_14_method_3_code 0 (.lload_n 0) 1 1 := ⟨by decide +kernel, rfl⟩
theorem d_M_in_1 : Dc prog_14_method_3_code 1 (.lload_n 2) 1 2 := ⟨by decide +kernel, rfl⟩
theorem d_M_in_2 : Dc prog_14_method_3_code 2 (.lcmp) 1 3 := ⟨by decide +kernel, rfl⟩
theorem d_M_in_3 : Dj prog_14_method_3_code 3 (.ifCond .lt 14) 6 14 17 := ⟨by decide +kernel, rfl, rfl⟩
theorem d_M_in_6 : Dc prog_14_method_3_code 6 (.lload_n 0) 1 7 := ⟨by decide +kernel, rfl⟩
theorem d_M_in_7 : Dc prog_14_method_3_code 7 (.lload 4) 2 9 := ⟨by decide +kernel, rfl⟩
theorem d_M_in_9 : Dc prog_14_method_3_code 9 (.lcmp) 1 10 := ⟨by decide +kernel, rfl⟩
theorem d_M_in_10 : Dj prog_14_method_3_code 10 (.ifCond .gt 7) 13 7 17 := ⟨by decide +kernel, rfl, rfl⟩
theorem d_M_in_13 : Dc prog_14_method_3_code 13 (.iconst 1) 1 14 := ⟨by decide +kernel, rfl⟩
theorem d_M_in_14 : Dj prog_14_method_3_code 14 (.goto 4) 17 4 18 := ⟨by decide +kernel, rfl, rfl⟩
theorem d_M_in_17 : Dc prog_14_method_3_code 17 (.iconst 0) 1 18 := ⟨by decide +kernel, rfl⟩
theorem d_M_in_18 : Dc prog_14_method_3_code 18 (.ireturn) 1 19 := ⟨by decide +kernel, rfl⟩
theorem d_M_is_0 : Dc prog_14_method_4_code 0 (.iload_n 0) 1 1 := ⟨by decide +kernel, rfl⟩
theorem d_M_is_1 : Dc prog_14_method_4_code 1 (.iload_n 1) 1 2 := ⟨by decide +kernel, rfl⟩
theorem d_M_is_2 : Dc prog_14_method_4_code 2 (.ishr) 1 3 := ⟨by decide +kernel, rfl⟩
theorem d_M_is_3 : Dc prog_14_method_4_code 3 (.iconst 1) 1 4 := ⟨by decide +kernel, rfl⟩
theorem d_M_is_4 : Dc prog_14_method_4_code 4 (.iand) 1 5 := ⟨by decide +kernel, rfl⟩
theorem d_M_is_5 : Dc prog_14_method_4_code 5 (.iconst 1) 1 6 := ⟨by decide +kernel, rfl⟩
theorem d_M_is_6 : Dj prog_14_method_4_code 6 (.if_icmp .ne 7) 9 7 13 := ⟨by decide +kernel, rfl, rfl⟩
theorem d_M_is_9 : Dc prog_14_method_4_code 9 (.iconst 1) 1 10 := ⟨by decide +kernel, rfl⟩
theorem d_M_is_10 : Dj prog_14_method_4_code 10 (.goto 4) 13 4 14 := ⟨by decide +kernel, rfl, rfl⟩
theorem d_M_is_13 : Dc prog_14_method_4_code 13 (.iconst 0) 1 14 := ⟨by decide +kernel, rfl⟩
theorem d_M_is_14 : Dc prog_14_method_4_code 14 (.ireturn) 1 15 := ⟨by decide +kernel, rfl⟩
theorem d_M_isNode_0 : Dc prog_14_method_16_code 0 (.iload_n 1) 1 1 := ⟨by decide +kernel, rfl⟩
theorem d_M_isNode_1 : Dc prog_14_method_16_code 1 (.i2l) 1 2 := ⟨by decide +kernel, rfl⟩
theorem d_M_isNode_2 : Dc prog_14_method_16_code 2 (.lconst 0) 1 3 := ⟨by decide +kernel, rfl⟩
theorem d_M_isNode_3 : Dc prog_14_method_16_code 3 (.aload_n 0) 1 4 := ⟨by decide +kernel, rfl⟩
theorem d_M_isNode_4 : Dc prog_14_method_16_code 4 (.getfield 13) 3 7 := ⟨by decide +kernel, rfl⟩
theorem d_M_isNode_7 : Dc prog_14_method_16_code 7 (.iconst 0) 1 8 := ⟨by decide +kernel, rfl⟩
theorem d_M_isNode_8 : Dc prog_14_method_16_code 8 (.iaload) 1 9 := ⟨by decide +kernel, rfl⟩
theorem d_M_isNode_9 : Dc prog_14_method_16_code 9 (.i2l) 1 10 := ⟨by decide +kernel, rfl⟩
theorem d_M_isNode_10 : Dc prog_14_method_16_code 10 (.lconst 1) 1 11 := ⟨by decide +kernel, rfl⟩
theorem d_M_isNode_11 : Dc prog_14_method_16_code 11 (.lsub) 1 12 := ⟨by decide +kernel, rfl⟩
theorem d_M_isNode_12 : Dc prog_14_method_16_code 12 (.invokestatic 190) 3 15 := ⟨by decide +kernel, rfl⟩
theorem d_M_isNode_15 : Dc prog_14_method_16_code 15 (.ireturn) 1 16 := ⟨by decide +kernel, rfl⟩
theorem d_M_isVertex_0 : Dc prog_14_method_17_code 0 (.iload_n 1) 1 1 := ⟨by decide +kernel, rfl⟩
theorem d_M_isVertex_1 : Dc prog_14_method_17_code 1 (.i2l) 1 2 := ⟨by decide +kernel, rfl⟩
theorem d_M_isVertex_2 : Dc prog_14_method_17_code 2 (.lconst 0) 1 3 := ⟨by decide +kernel, rfl⟩
theorem d_M_isVertex_3 : Dc prog_14_method_17_code 3 (.aload_n 0) 1 4 := ⟨by decide +kernel, rfl⟩
theorem d_M_isVertex_4 : Dc prog_14_method_17_code 4 (.getfield 13) 3 7 := ⟨by decide +kernel, rfl⟩
theorem d_M_isVertex_7 : Dc prog_14_method_17_code 7 (.iconst 1) 1 8 := ⟨by decide +kernel, rfl⟩
theorem d_M_isVertex_8 : Dc prog_14_method_17_code 8 (.iaload) 1 9 := ⟨by decide +kernel, rfl⟩
theorem d_M_isVertex_9 : Dc prog_14_method_17_code 9 (.i2l) 1 10 := ⟨by decide +kernel, rfl⟩
theorem d_M_isVertex_10 : Dc prog_14_method_17_code 10 (.lconst 1) 1 11 := ⟨by decide +kernel, rfl⟩
theorem d_M_isVertex_11 : Dc prog_14_method_17_code 11 (.lsub) 1 12 := ⟨by decide +kernel, rfl⟩
theorem d_M_isVertex_12 : Dc prog_14_method_17_code 12 (.invokestatic 190) 3 15 := ⟨by decide +kernel, rfl⟩
theorem d_M_isVertex_15 : Dc prog_14_method_17_code 15 (.ireturn) 1 16 := ⟨by decide +kernel, rfl⟩
theorem d_M_many_0 : Dc prog_14_method_6_code 0 (.iconst 0) 1 1 := ⟨by decide +kernel, rfl⟩
theorem d_M_many_1 : Dc prog_14_method_6_code 1 (.istore_n 1) 1 2 := ⟨by decide +kernel, rfl⟩
theorem d_M_many_2 : Dc prog_14_method_6_code 2 (.iconst 0) 1 3 := ⟨by decide +kernel, rfl⟩
theorem d_M_many_3 : Dc prog_14_method_6_code 3 (.istore_n 2) 1 4 := ⟨by decide +kernel, rfl⟩
theorem d_M_many_4 : Dc prog_14_method_6_code 4 (.iload_n 2) 1 5 := ⟨by decide +kernel, rfl⟩
theorem d_M_many_5 : Dc prog_14_method_6_code 5 (.bipush 12) 2 7 := ⟨by decide +kernel, rfl⟩
theorem d_M_many_7 : Dj prog_14_method_6_code 7 (.if_icmp .ge 17) 10 17 24 := ⟨by decide +kernel, rfl, rfl⟩
theorem d_M_many_10 : Dc prog_14_method_6_code 10 (.iload_n 1) 1 11 := ⟨by decide +kernel, rfl⟩
theorem d_M_many_11 : Dc prog_14_method_6_code 11 (.iload_n 0) 1 12 := ⟨by decide +kernel, rfl⟩
theorem d_M_many_12 : Dc prog_14_method_6_code 12 (.iload_n 2) 1 13 := ⟨by decide +kernel, rfl⟩
theorem d_M_many_13 : Dc prog_14_method_6_code 13 (.ishr) 1 14 := ⟨by decide +kernel, rfl⟩
theorem d_M_many_14 : Dc prog_14_method_6_code 14 (.iconst 1) 1 15 := ⟨by decide +kernel, rfl⟩
theorem d_M_many_15 : Dc prog_14_method_6_code 15 (.iand) 1 16 := ⟨by decide +kernel, rfl⟩
theorem d_M_many_16 : Dc prog_14_method_6_code 16 (.iadd) 1 17 := ⟨by decide +kernel, rfl⟩
theorem d_M_many_17 : Dc prog_14_method_6_code 17 (.istore_n 1) 1 18 := ⟨by decide +kernel, rfl⟩
theorem d_M_many_18 : Dc prog_14_method_6_code 18 (.iinc 2 1) 3 21 := ⟨by decide +kernel, rfl⟩
theorem d_M_many_21 : Dj prog_14_method_6_code 21 (.goto (-17)) 24 (-17) 4 := ⟨by decide +kernel, rfl, rfl⟩
theorem d_M_many_24 : Dc prog_14_method_6_code 24 (.iload_n 1) 1 25 := ⟨by decide +kernel, rfl⟩
theorem d_M_many_25 : Dc prog_14_method_6_code 25 (.ireturn) 1 26 := ⟨by decide +kernel, rfl⟩
theorem d_M_toggleEdge_0 : Dc prog_14_method_22_code 0 (.aload_n 0) 1 1 := ⟨by decide +kernel, rfl⟩
theorem d_M_toggleEdge_1 : Dc prog_14_method_22_code 1 (.iload_n 1) 1 2 := ⟨by decide +kernel, rfl⟩
theorem d_M_toggleEdge_2 : Dc prog_14_method_22_code 2 (.iload_n 2) 1 3 := ⟨by decide +kernel, rfl⟩
theorem d_M_toggleEdge_3 : Dc prog_14_method_22_code 3 (.invokevirtual 207) 3 6 := ⟨by decide +kernel, rfl⟩
theorem d_M_toggleEdge_6 : Dc prog_14_method_22_code 6 (.istore_n 3) 1 7 := ⟨by decide +kernel, rfl⟩
theorem d_M_toggleEdge_7 : Dc prog_14_method_22_code 7 (.iload_n 3) 1 8 := ⟨by decide +kernel, rfl⟩
theorem d_M_toggleEdge_8 : Dc prog_14_method_22_code 8 (.iconst (-1)) 1 9 := ⟨by decide +kernel, rfl⟩
theorem d_M_toggleEdge_9 : Dj prog_14_method_22_code 9 (.if_icmp .ne 36) 12 36 45 := ⟨by decide +kernel, rfl, rfl⟩
theorem d_M_toggleEdge_12 : Dc prog_14_method_22_code 12 (.aload_n 0) 1 13 := ⟨by decide +kernel, rfl⟩
theorem d_M_toggleEdge_13 : Dc prog_14_method_22_code 13 (.getfield 13) 3 16 := ⟨by decide +kernel, rfl⟩
theorem d_M_toggleEdge_16 : Dc prog_14_method_22_code 16 (.bipush 32) 2 18 := ⟨by decide +kernel, rfl⟩
theorem d_M_toggleEdge_18 : Dc prog_14_method_22_code 18 (.aload_n 0) 1 19 := ⟨by decide +kernel, rfl⟩
theorem d_M_toggleEdge_19 : Dc prog_14_method_22_code 19 (.getfield 13) 3 22 := ⟨by decide +kernel, rfl⟩
theorem d_M_toggleEdge_22 : Dc prog_14_method_22_code 22 (.bipush 31) 2 24 := ⟨by decide +kernel, rfl⟩
theorem d_M_toggleEdge_24 : Dc prog_14_method_22_code 24 (.iaload) 1 25 := ⟨by decide +kernel, rfl⟩
theorem d_M_toggleEdge_25 : Dc prog_14_method_22_code 25 (.iadd) 1 26 := ⟨by decide +kernel, rfl⟩
theorem d_M_toggleEdge_26 : Dc prog_14_method_22_code 26 (.iload_n 1) 1 27 := ⟨by decide +kernel, rfl⟩
theorem d_M_toggleEdge_27 : Dc prog_14_method_22_code 27 (.iload_n 2) 1 28 := ⟨by decide +kernel, rfl⟩
theorem d_M_toggleEdge_28 : Dc prog_14_method_22_code 28 (.invokestatic 197) 3 31 := ⟨by decide +kernel, rfl⟩
theorem d_M_toggleEdge_31 : Dc prog_14_method_22_code 31 (.iastore) 1 32 := ⟨by decide +kernel, rfl⟩
theorem d_M_toggleEdge_32 : Dc prog_14_method_22_code 32 (.aload_n 0) 1 33 := ⟨by decide +kernel, rfl⟩
theorem d_M_toggleEdge_33 : Dc prog_14_method_22_code 33 (.getfield 13) 3 36 := ⟨by decide +kernel, rfl⟩
theorem d_M_toggleEdge_36 : Dc prog_14_method_22_code 36 (.bipush 31) 2 38 := ⟨by decide +kernel, rfl⟩
theorem d_M_toggleEdge_38 : Dc prog_14_method_22_code 38 (.dup2) 1 39 := ⟨by decide +kernel, rfl⟩
theorem d_M_toggleEdge_39 : Dc prog_14_method_22_code 39 (.iaload) 1 40 := ⟨by decide +kernel, rfl⟩
theorem d_M_toggleEdge_40 : Dc prog_14_method_22_code 40 (.iconst 1) 1 41 := ⟨by decide +kernel, rfl⟩
theorem d_M_toggleEdge_41 : Dc prog_14_method_22_code 41 (.iadd) 1 42 := ⟨by decide +kernel, rfl⟩
theorem d_M_toggleEdge_42 : Dc prog_14_method_22_code 42 (.iastore) 1 43 := ⟨by decide +kernel, rfl⟩
theorem d_M_toggleEdge_43 : Dc prog_14_method_22_code 43 (.iconst 1) 1 44 := ⟨by decide +kernel, rfl⟩
theorem d_M_toggleEdge_44 : Dc prog_14_method_22_code 44 (.ireturn) 1 45 := ⟨by decide +kernel, rfl⟩
theorem d_M_toggleEdge_45 : Dc prog_14_method_22_code 45 (.aload_n 0) 1 46 := ⟨by decide +kernel, rfl⟩
theorem d_M_toggleEdge_46 : Dc prog_14_method_22_code 46 (.getfield 13) 3 49 := ⟨by decide +kernel, rfl⟩
theorem d_M_toggleEdge_49 : Dc prog_14_method_22_code 49 (.bipush 31) 2 51 := ⟨by decide +kernel, rfl⟩
theorem d_M_toggleEdge_51 : Dc prog_14_method_22_code 51 (.dup2) 1 52 := ⟨by decide +kernel, rfl⟩
theorem d_M_toggleEdge_52 : Dc prog_14_method_22_code 52 (.iaload) 1 53 := ⟨by decide +kernel, rfl⟩
theorem d_M_toggleEdge_53 : Dc prog_14_method_22_code 53 (.iconst 1) 1 54 := ⟨by decide +kernel, rfl⟩
theorem d_M_toggleEdge_54 : Dc prog_14_method_22_code 54 (.isub) 1 55 := ⟨by decide +kernel, rfl⟩
theorem d_M_toggleEdge_55 : Dc prog_14_method_22_code 55 (.iastore) 1 56 := ⟨by decide +kernel, rfl⟩
theorem d_M_toggleEdge_56 : Dc prog_14_method_22_code 56 (.iload_n 3) 1 57 := ⟨by decide +kernel, rfl⟩
theorem d_M_toggleEdge_57 : Dc prog_14_method_22_code 57 (.istore 4) 2 59 := ⟨by decide +kernel, rfl⟩
theorem d_M_toggleEdge_59 : Dc prog_14_method_22_code 59 (.iload 4) 2 61 := ⟨by decide +kernel, rfl⟩
theorem d_M_toggleEdge_61 : Dc prog_14_method_22_code 61 (.aload_n 0) 1 62 := ⟨by decide +kernel, rfl⟩
theorem d_M_toggleEdge_62 : Dc prog_14_method_22_code 62 (.getfield 13) 3 65 := ⟨by decide +kernel, rfl⟩
theorem d_M_toggleEdge_65 : Dc prog_14_method_22_code 65 (.bipush 31) 2 67 := ⟨by decide +kernel, rfl⟩
theorem d_M_toggleEdge_67 : Dc prog_14_method_22_code 67 (.iaload) 1 68 := ⟨by decide +kernel, rfl⟩
theorem d_M_toggleEdge_68 : Dj prog_14_method_22_code 68 (.if_icmp .ge 31) 71 31 99 := ⟨by decide +kernel, rfl, rfl⟩
theorem d_M_toggleEdge_71 : Dc prog_14_method_22_code 71 (.aload_n 0) 1 72 := ⟨by decide +kernel, rfl⟩
theorem d_M_toggleEdge_72 : Dc prog_14_method_22_code 72 (.getfield 13) 3 75 := ⟨by decide +kernel, rfl⟩
theorem d_M_toggleEdge_75 : Dc prog_14_method_22_code 75 (.bipush 32) 2 77 := ⟨by decide +kernel, rfl⟩
theorem d_M_toggleEdge_77 : Dc prog_14_method_22_code 77 (.iload 4) 2 79 := ⟨by decide +kernel, rfl⟩
theorem d_M_toggleEdge_79 : Dc prog_14_method_22_code 79 (.iadd) 1 80 := ⟨by decide +kernel, rfl⟩
theorem d_M_toggleEdge_80 : Dc prog_14_method_22_code 80 (.aload_n 0) 1 81 := ⟨by decide +kernel, rfl⟩
theorem d_M_toggleEdge_81 : Dc prog_14_method_22_code 81 (.getfield 13) 3 84 := ⟨by decide +kernel, rfl⟩
theorem d_M_toggleEdge_84 : Dc prog_14_method_22_code 84 (.bipush 32) 2 86 := ⟨by decide +kernel, rfl⟩
theorem d_M_toggleEdge_86 : Dc prog_14_method_22_code 86 (.iload 4) 2 88 := ⟨by decide +kernel, rfl⟩
theorem d_M_toggleEdge_88 : Dc prog_14_method_22_code 88 (.iadd) 1 89 := ⟨by decide +kernel, rfl⟩
theorem d_M_toggleEdge_89 : Dc prog_14_method_22_code 89 (.iconst 1) 1 90 := ⟨by decide +kernel, rfl⟩
theorem d_M_toggleEdge_90 : Dc prog_14_method_22_code 90 (.iadd) 1 91 := ⟨by decide +kernel, rfl⟩
theorem d_M_toggleEdge_91 : Dc prog_14_method_22_code 91 (.iaload) 1 92 := ⟨by decide +kernel, rfl⟩
theorem d_M_toggleEdge_92 : Dc prog_14_method_22_code 92 (.iastore) 1 93 := ⟨by decide +kernel, rfl⟩
theorem d_M_toggleEdge_93 : Dc prog_14_method_22_code 93 (.iinc 4 1) 3 96 := ⟨by decide +kernel, rfl⟩
theorem d_M_toggleEdge_96 : Dj prog_14_method_22_code 96 (.goto (-37)) 99 (-37) 59 := ⟨by decide +kernel, rfl, rfl⟩
theorem d_M_toggleEdge_99 : Dc prog_14_method_22_code 99 (.iconst 0) 1 100 := ⟨by decide +kernel, rfl⟩
theorem d_M_toggleEdge_100 : Dc prog_14_method_22_code 100 (.ireturn) 1 101 := ⟨by decide +kernel, rfl⟩
theorem fl_M_13 : FL "SubgraphDeskModel" 13 12 3 true (.array .int) (3, 2) := ⟨R_M, F_M, 69, ty_M, rfl, rfl, in_M, tyok_M, nm_M, by decide, gd 1475 (by decide +kernel) rfl, rfl, rfl, rfl⟩
theorem ml_M_190 : Cond.methodLink "SubgraphDeskModel" 190 m_M_in.1 ∈ lw_gd := gd 1697 (by decide +kernel) rfl
theorem ml_M_197 : Cond.methodLink "SubgraphDeskModel" 197 m_M_codeOf.1 ∈ lw_gd := gd 1806 (by decide +kernel) rfl
theorem ml_M_201 : Cond.methodLink "SubgraphDeskModel" 201 m_M_bitsOf.1 ∈ lw_gd := gd 1730 (by decide +kernel) rfl
theorem ml_M_204 : Cond.methodLink "SubgraphDeskModel" 204 m_M_many.1 ∈ lw_gd := gd 1734 (by decide +kernel) rfl
theorem ml_M_207 : Cond.methodLink "SubgraphDeskModel" 207 m_M_edgeAt.1 ∈ lw_gd := gd 1802 (by decide +kernel) rfl
theorem in_isN {n : Int32} {N : Nat} (hN : N < 2 ^ 31) : (lN 0 ≤ n.toInt64 ∧ n.toInt64 ≤ (nI N).toInt64 - lN 1) ↔ (0 ≤ n ∧ n < nI N) := by
  have e1 : (lN 0).toInt = 0 := rfl
  have hn1 := Int32.minValue_le_toInt n
  have hn2 := Int32.toInt_le n
  have e3 : ((nI N).toInt64 - lN 1).toInt = (N : Int) - 1 := by
    rw [nI_l hN, Int64.toInt_sub, lN_toInt hN, show (lN 1).toInt = 1 from rfl, Int.bmod_eq_of_le] <;> omega
  rw [Int64.le_iff_toInt_le, Int64.le_iff_toInt_le, e1, e3, Int32.toInt_toInt64, Int32.le_iff_toInt_le, Int32.lt_iff_toInt_lt, nI_toInt hN]
  show _ ↔ (0 : Int) ≤ _ ∧ _
  omega
theorem in_isC {n : Int32} {a b : Nat} (ha : a < 2 ^ 31) (hb : b < 2 ^ 31) : (lN a ≤ n.toInt64 ∧ n.toInt64 ≤ lN b) ↔ (nI a ≤ n ∧ n ≤ nI b) := by
  rw [Int64.le_iff_toInt_le, Int64.le_iff_toInt_le, lN_toInt ha, lN_toInt hb, Int32.toInt_toInt64, Int32.le_iff_toInt_le, Int32.le_iff_toInt_le, nI_toInt ha, nI_toInt hb]
theorem c_M_in {E : EV} {w : Mem} {a b c : Int64} : T E m_M_in 0 0 0 [.long a, .long b, .long c] w (Ret (some (.int (b2i (b ≤ a ∧ a ≤ c)))) w) := by
  refine T_of (L := [.long a, un, .long b, un, .long c, un]) cf_M_in rfl (Nat.le_of_ble_eq_true rfl) (fun X hX hF => ?_)
  refine g_lload0 hX d_M_in_0 ?_
  refine g_lload2 hX d_M_in_1 ?_
  refine g_lcmp_lt hX d_M_in_2 d_M_in_3 (fun c0 => ?_) (fun c0 => ?_)
  · refine g_iconst (v := nI 0) hX d_M_in_17 rfl ?_
    refine g_zret hX hF d_M_in_18 (Or.inl rfl) (by omega) (by omega) ?_
    first | exact ret_f (fun h => absurd c0 (Int64.not_lt.mpr h.1)) | exact ret_f (fun h => absurd c1 (Int64.not_lt.mpr h.2)) | exact ret_t ⟨Int64.not_lt.mp c0, Int64.not_lt.mp c1⟩
  · refine g_lload0 hX d_M_in_6 ?_
    refine g_lload4 hX d_M_in_7 ?_
    refine g_lcmp_gt hX d_M_in_9 d_M_in_10 (fun c1 => ?_) (fun c1 => ?_)
    · refine g_iconst (v := nI 0) hX d_M_in_17 rfl ?_
      refine g_zret hX hF d_M_in_18 (Or.inl rfl) (by omega) (by omega) ?_
      first | exact ret_f (fun h => absurd c0 (Int64.not_lt.mpr h.1)) | exact ret_f (fun h => absurd c1 (Int64.not_lt.mpr h.2)) | exact ret_t ⟨Int64.not_lt.mp c0, Int64.not_lt.mp c1⟩
    · refine g_iconst (v := nI 1) hX d_M_in_13 rfl ?_
      refine g_goto hX d_M_in_14 ?_
      refine g_zret hX hF d_M_in_18 (Or.inr rfl) (by omega) (by omega) ?_
      first | exact ret_f (fun h => absurd c0 (Int64.not_lt.mpr h.1)) | exact ret_f (fun h => absurd c1 (Int64.not_lt.mpr h.2)) | exact ret_t ⟨Int64.not_lt.mp c0, Int64.not_lt.mp c1⟩
theorem c_M_is {E : EV} {w : Mem} {x k : Nat} (hx : x < 2 ^ 31) (hk : k < 32) : T E m_M_is 0 0 0 [.int (nI x), .int (nI k)] w (Ret (some (.int (b2i (x.testBit k = true)))) w) := by
  refine T_of (L := [.int (nI x), .int (nI k)]) cf_M_is rfl (Nat.le_of_ble_eq_true rfl) (fun X hX hF => ?_)
  refine g_iload0 hX d_M_is_0 ?_
  refine g_iload1 hX d_M_is_1 ?_
  refine g_ishrN hX d_M_is_2 (by omega) (by omega) ?_
  refine g_iconst (v := nI 1) hX d_M_is_3 rfl ?_
  refine g_iandC hX d_M_is_4 (fun hm0 => ?_)
  refine g_iconst (v := nI 1) hX d_M_is_5 rfl ?_
  refine g_icmpN_ne hX d_M_is_6 (by omega) (by omega) (fun c1 => ?_) (fun c1 => ?_)
  · refine g_iconst (v := nI 0) hX d_M_is_13 rfl ?_
    refine g_zret hX hF d_M_is_14 (Or.inl rfl) (by omega) (by omega) ?_
    first | exact ret_f (by rw [← tb1]; omega) | exact ret_t (by rw [← tb1]; omega)
  · refine g_iconst (v := nI 1) hX d_M_is_9 rfl ?_
    refine g_goto hX d_M_is_10 ?_
    refine g_zret hX hF d_M_is_14 (Or.inr rfl) (by omega) (by omega) ?_
    first | exact ret_f (by rw [← tb1]; omega) | exact ret_t (by rw [← tb1]; omega)
theorem c_M_many {E : EV} {w : Mem} {x : Nat} (hx : x < 2 ^ 31) : T E m_M_many 0 0 0 [.int (nI x)] w (Ret (some (.int (nI (pop x)))) w) := by
  refine T_of (L := [.int (nI x), un, un]) cf_M_many rfl (Nat.le_of_ble_eq_true rfl) (fun X hX hF => ?_)
  have lp : ∀ (fuel : Nat) (k : Nat), 12 - k < fuel → (k ≤ 12) → G0 E X 0 0 4 [.int (nI x), .int (nI (popk x k)), .int (nI k)] [] w := by
    intro fuel
    induction fuel with
    | zero => intro k q0; exact absurd q0 (Nat.not_lt_zero _)
    | succ fuel ih =>
      intro k q0 q1
      refine g_iload2 hX d_M_many_4 ?_
      refine g_bipush (v := nI 12) hX d_M_many_5 rfl ?_
      refine g_icmpN_ge hX d_M_many_7 (by omega) (by omega) (fun c0 => ?_) (fun c0 => ?_)
      · refine g_iload1 hX d_M_many_24 ?_
        refine g_iret hX hF d_M_many_25 (by omega) (by omega) ?_
        exact ⟨by rw [show k = 12 by omega]; rfl, rfl⟩
      · refine g_iload1 hX d_M_many_10 ?_
        refine g_iload0 hX d_M_many_11 ?_
        refine g_iload2 hX d_M_many_12 ?_
        refine g_ishrN hX d_M_many_13 (by omega) (by omega) ?_
        refine g_iconst (v := nI 1) hX d_M_many_14 rfl ?_
        refine g_iandC hX d_M_many_15 (fun hm1 => ?_)
        refine g_iaddN hX d_M_many_16 ?_
        refine g_istore1 hX d_M_many_17 rfl (by decide) ?_
        refine g_iincN2 hX d_M_many_18 rfl (by decide) ?_
        refine g_goto hX d_M_many_21 ?_
        exact ih (k + 1) (by omega) (by omega)
  refine g_iconst (v := nI 0) hX d_M_many_0 rfl ?_
  refine g_istore1 hX d_M_many_1 rfl (by decide) ?_
  refine g_iconst (v := nI 0) hX d_M_many_2 rfl ?_
  refine g_istore2 hX d_M_many_3 rfl (by decide) ?_
  exact lp 13 0 (by omega) (by omega)
theorem c_M_isNode {E : EV} {w : Mem} {n : Int32} {g : GC} (hR : MRow (rI w 91) g) (hW : WG g) : T E m_M_isNode 1 0 0 [.ref 89, .int n] w (Ret (some (.int (b2i (0 ≤ n ∧ n < nI (gN g))))) w) := by
  refine T_of (L := [.ref 89, .int n]) cf_M_isNode rfl (Nat.le_of_ble_eq_true rfl) (fun X hX hF => ?_)
  have hn := hW.n
  have hv := hW.v
  have he := hW.el
  refine g_iload1 hX d_M_isNode_0 ?_
  refine g_i2l hX d_M_isNode_1 ?_
  refine g_lconst (v := lN 0) hX d_M_isNode_2 rfl ?_
  refine g_aload0 hX d_M_isNode_3 ?_
  refine g_getF hX d_M_isNode_4 fl_M_13 (lv_89 _) ?_
  refine g_iconst (v := nI 0) hX d_M_isNode_7 rfl ?_
  refine g_iald hX d_M_isNode_8 (lv_91 _) rfl (by decide) ?_
  refine g_topi hR.n ?_
  refine g_i2l hX d_M_isNode_9 ?_
  refine g_lconst (v := lN 1) hX d_M_isNode_10 rfl ?_
  refine g_lsub hX d_M_isNode_11 ?_
  refine g_callS (As := [_, _, _]) hX hF.1 d_M_isNode_12 ml_M_190 cf_M_in cs_M_in rfl (c_M_in) (by omega) (by omega) (by omega) (Nat.le_of_ble_eq_true rfl) ?_
  refine ret_k ?_
  refine g_zret hX hF d_M_isNode_15 (b2i_01 _) (by omega) (by omega) ?_
  exact ⟨by rw [b2i_c (in_isN (by omega))], rfl⟩
theorem c_M_isVertex {E : EV} {w : Mem} {n : Int32} {g : GC} (hR : MRow (rI w 91) g) (hW : WG g) : T E m_M_isVertex 1 0 0 [.ref 89, .int n] w (Ret (some (.int (b2i (0 ≤ n ∧ n < nI (gV g))))) w) := by
  refine T_of (L := [.ref 89, .int n]) cf_M_isVertex rfl (Nat.le_of_ble_eq_true rfl) (fun X hX hF => ?_)
  have hn := hW.n
  have hv := hW.v
  have he := hW.el
  refine g_iload1 hX d_M_isVertex_0 ?_
  refine g_i2l hX d_M_isVertex_1 ?_
  refine g_lconst (v := lN 0) hX d_M_isVertex_2 rfl ?_
  refine g_aload0 hX d_M_isVertex_3 ?_
  refine g_getF hX d_M_isVertex_4 fl_M_13 (lv_89 _) ?_
  refine g_iconst (v := nI 1) hX d_M_isVertex_7 rfl ?_
  refine g_iald hX d_M_isVertex_8 (lv_91 _) rfl (by decide) ?_
  refine g_topi hR.v ?_
  refine g_i2l hX d_M_isVertex_9 ?_
  refine g_lconst (v := lN 1) hX d_M_isVertex_10 rfl ?_
  refine g_lsub hX d_M_isVertex_11 ?_
  refine g_callS (As := [_, _, _]) hX hF.1 d_M_isVertex_12 ml_M_190 cf_M_in cs_M_in rfl (c_M_in) (by omega) (by omega) (by omega) (Nat.le_of_ble_eq_true rfl) ?_
  refine ret_k ?_
  refine g_zret hX hF d_M_isVertex_15 (b2i_01 _) (by omega) (by omega) ?_
  exact ⟨by rw [b2i_c (in_isN (by omega))], rfl⟩
theorem c_M_codeOf {E : EV} {w : Mem} {a b : Nat} (ha : a < 12) (hb : b < 12) : T E m_M_codeOf 0 0 0 [.int (nI a), .int (nI b)] w (Ret (some (.int (nI (codeOf a b)))) w) := by
  refine T_of (L := [.int (nI a), .int (nI b)]) cf_M_codeOf rfl (Nat.le_of_ble_eq_true rfl) (fun X hX hF => ?_)
  refine g_iload0 hX d_M_codeOf_0 ?_
  refine g_iload1 hX d_M_codeOf_1 ?_
  refine g_icmpN_ge hX d_M_codeOf_2 (by omega) (by omega) (fun c0 => ?_) (fun c0 => ?_)
  · refine g_bipush (v := nI 12) hX d_M_codeOf_14 rfl ?_
    refine g_iload1 hX d_M_codeOf_16 ?_
    refine g_imulN hX d_M_codeOf_17 ?_
    refine g_iload0 hX d_M_codeOf_18 ?_
    refine g_iaddN hX d_M_codeOf_19 ?_
    refine g_iret hX hF d_M_codeOf_20 (by omega) (by omega) ?_
    first | exact ⟨by unfold codeOf; rw [if_pos c0], rfl⟩ | exact ⟨by unfold codeOf; rw [if_neg (by omega)], rfl⟩
  · refine g_bipush (v := nI 12) hX d_M_codeOf_5 rfl ?_
    refine g_iload0 hX d_M_codeOf_7 ?_
    refine g_imulN hX d_M_codeOf_8 ?_
    refine g_iload1 hX d_M_codeOf_9 ?_
    refine g_iaddN hX d_M_codeOf_10 ?_
    refine g_goto hX d_M_codeOf_11 ?_
    refine g_iret hX hF d_M_codeOf_20 (by omega) (by omega) ?_
    first | exact ⟨by unfold codeOf; rw [if_pos c0], rfl⟩ | exact ⟨by unfold codeOf; rw [if_neg (by omega)], rfl⟩
theorem codeOf_lt {a b : Nat} (ha : a < 12) (hb : b < 12) : codeOf a b < 144 := by
  unfold codeOf
  split <;> omega
theorem c_M_edgeAt {E : EV} {w : Mem} {a b : Nat} {g : GC} (hR : MRow (rI w 91) g) (hW : WG g) (ha : a < 12) (hb : b < 12) : T E m_M_edgeAt 1 0 0 [.ref 89, .int (nI a), .int (nI b)] w (Ret (some (.int (eAt (gE g) (codeOf a b) (gE g).length))) w) := by
  refine T_of (L := [.ref 89, .int (nI a), .int (nI b), un, un]) cf_M_edgeAt rfl (Nat.le_of_ble_eq_true rfl) (fun X hX hF => ?_)
  have hn := hW.n
  have hv := hW.v
  have he := hW.el
  have hcl := codeOf_lt ha hb
  have lp : ∀ (fuel : Nat) (k : Nat), (gE g).length - k < fuel → (k ≤ (gE g).length) → G0 E X 0 0 5 [.ref 89, .int (nI a), .int (nI b), .int (eAt (gE g) (codeOf a b) k), .int (nI k)] [] w := by
    intro fuel
    induction fuel with
    | zero => intro k q0; exact absurd q0 (Nat.not_lt_zero _)
    | succ fuel ih =>
      intro k q0 q1
      refine g_iload4 hX d_M_edgeAt_5 ?_
      refine g_aload0 hX d_M_edgeAt_7 ?_
      refine g_getF hX d_M_edgeAt_8 fl_M_13 (lv_89 _) ?_
      refine g_bipush (v := nI 31) hX d_M_edgeAt_11 rfl ?_
      refine g_iald hX d_M_edgeAt_13 (lv_91 _) rfl (by decide) ?_
      refine g_topi hR.e.1 ?_
      refine g_icmpN_ge hX d_M_edgeAt_14 (by omega) (by omega) (fun c0 => ?_) (fun c0 => ?_)
      · refine g_iload3 hX d_M_edgeAt_48 ?_
        refine g_iret hX hF d_M_edgeAt_49 (by omega) (by omega) ?_
        exact ⟨by rw [show k = (gE g).length by omega], rfl⟩
      · refine g_aload0 hX d_M_edgeAt_17 ?_
        refine g_getF hX d_M_edgeAt_18 fl_M_13 (lv_89 _) ?_
        refine g_bipush (v := nI 32) hX d_M_edgeAt_21 rfl ?_
        refine g_iload4 hX d_M_edgeAt_23 ?_
        refine g_iaddN hX d_M_edgeAt_25 ?_
        have hA := hW.e144 (gA_mem c0)
        refine g_iald hX d_M_edgeAt_26 (lv_91 _) rfl (by omega) ?_
        refine g_topi (hR.e.2 k c0) ?_
        refine g_iload1 hX d_M_edgeAt_27 ?_
        refine g_iload2 hX d_M_edgeAt_28 ?_
        refine g_callS (As := [_, _]) hX hF.1 d_M_edgeAt_29 ml_M_197 cf_M_codeOf cs_M_codeOf rfl (c_M_codeOf (by omega) (by omega)) (by omega) (by omega) (by omega) (Nat.le_of_ble_eq_true rfl) ?_
        refine ret_k ?_
        refine g_icmpN_ne hX d_M_edgeAt_32 (by omega) (by omega) (fun c1 => ?_) (fun c1 => ?_)
        · refine g_iload3 hX d_M_edgeAt_40 ?_
          refine g_istore3 hX d_M_edgeAt_41 rfl (by decide) ?_
          refine g_iincN4 hX d_M_edgeAt_42 rfl (by decide) ?_
          refine g_goto hX d_M_edgeAt_45 ?_
          refine g_eq rfl (by simp [eAt, c1]) rfl rfl (ih (k + 1) (by omega) (by omega))
        · refine g_iload4 hX d_M_edgeAt_35 ?_
          refine g_goto hX d_M_edgeAt_37 ?_
          refine g_istore3 hX d_M_edgeAt_41 rfl (by decide) ?_
          refine g_iincN4 hX d_M_edgeAt_42 rfl (by decide) ?_
          refine g_goto hX d_M_edgeAt_45 ?_
          refine g_eq rfl (by simp [eAt, c1]) rfl rfl (ih (k + 1) (by omega) (by omega))
  refine g_iconst (v := -1) hX d_M_edgeAt_0 rfl ?_
  refine g_istore3 hX d_M_edgeAt_1 rfl (by decide) ?_
  refine g_iconst (v := nI 0) hX d_M_edgeAt_2 rfl ?_
  refine g_istore4 hX d_M_edgeAt_3 rfl (by decide) ?_
  exact lp ((gE g).length + 1) 0 (by omega) (by omega)
theorem c_M_bitsOf {E : EV} {w : Mem} {n : Nat} {g : GC} (hR : MRow (rI w 91) g) (hW : WG g) (hn2 : n < 2 ^ 31) : T E m_M_bitsOf 0 0 0 [.ref 89, .int (nI n)] w (Ret (some (.int (nI (nearB (gE g) n)))) w) := by
  refine T_of (L := [.ref 89, .int (nI n), un, un, un, un]) cf_M_bitsOf rfl (Nat.le_of_ble_eq_true rfl) (fun X hX hF => ?_)
  have hn := hW.n
  have hv := hW.v
  have he := hW.el
  have lp : ∀ (fuel : Nat) (k : Nat), (gE g).length - k < fuel → (k ≤ (gE g).length) → G0 E X 0 0 4 [.ref 89, .int (nI n), .int (nI (((gE g).take k).foldl (nearS n) 0)), .int (nI k), un, un] [] w := by
    intro fuel
    induction fuel with
    | zero => intro k q0; exact absurd q0 (Nat.not_lt_zero _)
    | succ fuel ih =>
      intro k q0 q1
      refine g_iload3 hX d_M_bitsOf_4 ?_
      refine g_aload0 hX d_M_bitsOf_5 ?_
      refine g_getF hX d_M_bitsOf_6 fl_M_13 (lv_89 _) ?_
      refine g_bipush (v := nI 31) hX d_M_bitsOf_9 rfl ?_
      refine g_iald hX d_M_bitsOf_11 (lv_91 _) rfl (by decide) ?_
      refine g_topi hR.e.1 ?_
      refine g_icmpN_ge hX d_M_bitsOf_12 (by omega) (by omega) (fun c0 => ?_) (fun c0 => ?_)
      · refine g_iload2 hX d_M_bitsOf_79 ?_
        refine g_iret hX hF d_M_bitsOf_80 (by omega) (by omega) ?_
        exact ⟨by rw [show k = (gE g).length by omega, List.take_length]; rfl, rfl⟩
      · refine g_aload0 hX d_M_bitsOf_15 ?_
        refine g_getF hX d_M_bitsOf_16 fl_M_13 (lv_89 _) ?_
        refine g_bipush (v := nI 32) hX d_M_bitsOf_19 rfl ?_
        refine g_iload3 hX d_M_bitsOf_21 ?_
        refine g_iaddN hX d_M_bitsOf_22 ?_
        have hA := hW.e144 (gA_mem c0)
        refine g_iald hX d_M_bitsOf_23 (lv_91 _) rfl (by omega) ?_
        refine g_topi (hR.e.2 k c0) ?_
        refine g_bipush (v := nI 12) hX d_M_bitsOf_24 rfl ?_
        refine g_idivN hX d_M_bitsOf_26 (by omega) (by decide) (by decide) ?_
        refine g_istore4 hX d_M_bitsOf_27 rfl (by decide) ?_
        refine g_aload0 hX d_M_bitsOf_29 ?_
        refine g_getF hX d_M_bitsOf_30 fl_M_13 (lv_89 _) ?_
        refine g_bipush (v := nI 32) hX d_M_bitsOf_33 rfl ?_
        refine g_iload3 hX d_M_bitsOf_35 ?_
        refine g_iaddN hX d_M_bitsOf_36 ?_
        refine g_iald hX d_M_bitsOf_37 (lv_91 _) rfl (by omega) ?_
        refine g_topi (hR.e.2 k c0) ?_
        refine g_bipush (v := nI 12) hX d_M_bitsOf_38 rfl ?_
        refine g_iremN hX d_M_bitsOf_40 (by omega) (by decide) (by decide) ?_
        refine g_istore5 hX d_M_bitsOf_41 rfl (by decide) ?_
        refine g_iload2 hX d_M_bitsOf_43 ?_
        refine g_iload4 hX d_M_bitsOf_44 ?_
        refine g_iload1 hX d_M_bitsOf_46 ?_
        refine g_icmpN_ne hX d_M_bitsOf_47 (by omega) (by omega) (fun c1 => ?_) (fun c1 => ?_)
        · refine g_iload5 hX d_M_bitsOf_57 ?_
          refine g_iload1 hX d_M_bitsOf_59 ?_
          refine g_icmpN_ne hX d_M_bitsOf_60 (by omega) (by omega) (fun c2 => ?_) (fun c2 => ?_)
          · refine g_iconst (v := nI 0) hX d_M_bitsOf_70 rfl ?_
            refine g_iorN hX d_M_bitsOf_71 ?_
            refine g_istore2 hX d_M_bitsOf_72 rfl (by decide) ?_
            refine g_iincN3 hX d_M_bitsOf_73 rfl (by decide) ?_
            refine g_goto hX d_M_bitsOf_76 ?_
            refine g_fget 4 (g_fget 5 ?_)
            refine g_eq rfl (by rw [take_succ_foldl _ _ _ _ c0]; simp [nearS, *]) rfl rfl (ih (k + 1) (by omega) (by omega))
          · refine g_iconst (v := nI 1) hX d_M_bitsOf_63 rfl ?_
            refine g_iload4 hX d_M_bitsOf_64 ?_
            refine g_ishlN hX d_M_bitsOf_66 (by omega) ?_
            refine g_goto hX d_M_bitsOf_67 ?_
            refine g_iorN hX d_M_bitsOf_71 ?_
            refine g_istore2 hX d_M_bitsOf_72 rfl (by decide) ?_
            refine g_iincN3 hX d_M_bitsOf_73 rfl (by decide) ?_
            refine g_goto hX d_M_bitsOf_76 ?_
            refine g_fget 4 (g_fget 5 ?_)
            refine g_eq rfl (by rw [take_succ_foldl _ _ _ _ c0]; simp [nearS, *]) rfl rfl (ih (k + 1) (by omega) (by omega))
        · refine g_iconst (v := nI 1) hX d_M_bitsOf_50 rfl ?_
          refine g_iload5 hX d_M_bitsOf_51 ?_
          refine g_ishlN hX d_M_bitsOf_53 (by omega) ?_
          refine g_goto hX d_M_bitsOf_54 ?_
          refine g_iorN hX d_M_bitsOf_71 ?_
          refine g_istore2 hX d_M_bitsOf_72 rfl (by decide) ?_
          refine g_iincN3 hX d_M_bitsOf_73 rfl (by decide) ?_
          refine g_goto hX d_M_bitsOf_76 ?_
          refine g_fget 4 (g_fget 5 ?_)
          refine g_eq rfl (by rw [take_succ_foldl _ _ _ _ c0]; simp [nearS, *]) rfl rfl (ih (k + 1) (by omega) (by omega))
  refine g_iconst (v := nI 0) hX d_M_bitsOf_0 rfl ?_
  refine g_istore2 hX d_M_bitsOf_1 rfl (by decide) ?_
  refine g_iconst (v := nI 0) hX d_M_bitsOf_2 rfl ?_
  refine g_istore3 hX d_M_bitsOf_3 rfl (by decide) ?_
  exact lp ((gE g).length + 1) 0 (by omega) (by omega)
theorem near_w {g : GC} (hW : WG g) (n : Nat) : nearB (gE g) n < 2 ^ 12 := near_lt (fun c h => hW.e144 h)
theorem c_M_degreeOf {E : EV} {w : Mem} {n : Nat} {g : GC} (hR : MRow (rI w 91) g) (hW : WG g) (hn2 : n < 2 ^ 31) : T E m_M_degreeOf 1 0 0 [.ref 89, .int (nI n)] w (Ret (some (.int (nI (pop (nearB (gE g) n))))) w) := by
  refine T_of (L := [.ref 89, .int (nI n)]) cf_M_degreeOf rfl (Nat.le_of_ble_eq_true rfl) (fun X hX hF => ?_)
  have hnr := near_w hW n
  refine g_aload0 hX d_M_degreeOf_0 ?_
  refine g_iload1 hX d_M_degreeOf_1 ?_
  refine g_callV (As := [_]) hX hF.1 d_M_degreeOf_2 ml_M_201 cf_M_bitsOf cv_M_bitsOf rfl rfl (c_M_bitsOf hR hW (by omega)) (rcv_obj hX (lv_89 _) rfl rfl) (by omega) (by omega) (by omega) (Nat.le_of_ble_eq_true rfl) ?_
  refine ret_k ?_
  refine g_callS (As := [_]) hX hF.1 d_M_degreeOf_5 ml_M_204 cf_M_many cs_M_many rfl (c_M_many (by omega)) (by omega) (by omega) (by omega) (Nat.le_of_ble_eq_true rfl) ?_
  refine ret_k ?_
  refine g_iret hX hF d_M_degreeOf_8 (by omega) (by omega) ?_
  exact ⟨rfl, rfl⟩
theorem c_M_toggleEdge {E : EV} {w : Mem} {a b : Nat} {g : GC} (hR : MRow (rI w 91) g) (hW : WG g) (ha : a < gN g) (hb : b < gN g) (hab : a ≠ b) : T E m_M_toggleEdge 2 0 0 [.ref 89, .int (nI a), .int (nI b)] w (fun r w2 => ∃ f, w2 = sA w 91 f ∧ (∀ i, i < 31 ∨ 98 ≤ i → f i = rI w 91 i) ∧ MEs f (tog (gE g) (codeOf a b)) ∧ r = some (.int (b2i (codeOf a b ∉ gE g)))) := by
  refine T_of (L := [.ref 89, .int (nI a), .int (nI b), un, un]) cf_M_toggleEdge rfl (Nat.le_of_ble_eq_true rfl) (fun X hX hF => ?_)
  have hn := hW.n
  have he := hW.el
  have hcl := codeOf_lt (show a < 12 by omega) (show b < 12 by omega)
  by_cases hc : codeOf a b ∈ gE g
  · obtain ⟨i, hi, hci⟩ := mem_gA hc
    have lp : ∀ (fuel : Nat) (k : Nat) (f : Nat → Int32), (gE g).length - k < fuel → (i ≤ k) → (k < (gE g).length) → ((∀ j, j < 31 ∨ 98 ≤ j → f j = rI w 91 j)) → (f 31 = nI ((gE g).length - 1)) → ((∀ j, j < k → f (32 + j) = nI (if j < i then gA (gE g) j else gA (gE g) (j + 1)))) → ((∀ j, k ≤ j → j < (gE g).length → f (32 + j) = nI (gA (gE g) j))) → G0 E X 0 0 59 [.ref 89, .int (nI a), .int (nI b), .int (nI i), .int (nI k)] [] (sA w 91 f) := by
      intro fuel
      induction fuel with
      | zero => intro k f q0; exact absurd q0 (Nat.not_lt_zero _)
      | succ fuel ih =>
        intro k f q0 q1 q2 q3 q4 q5 q6
        refine g_iload4 hX d_M_toggleEdge_59 ?_
        refine g_aload0 hX d_M_toggleEdge_61 ?_
        refine g_getF hX d_M_toggleEdge_62 fl_M_13 (lv_89 _) ?_
        refine g_bipush (v := nI 31) hX d_M_toggleEdge_65 rfl ?_
        refine g_iald hX d_M_toggleEdge_67 (lv_91 _) rfl (by decide) ?_
        refine g_topi (show rI (sA w 91 f) 91 31 = nI ((gE g).length - 1) by rw [rI_sA]; exact q4) ?_
        refine g_icmpN_ge hX d_M_toggleEdge_68 (by omega) (by omega) (fun c0 => ?_) (fun c0 => ?_)
        · refine g_iconst (v := nI 0) hX d_M_toggleEdge_99 rfl ?_
          refine g_iret hX hF d_M_toggleEdge_100 (by omega) (by omega) ?_
          refine ⟨f, rfl, q3, ?_, by rw [b2i_f (fun h => h hc)]; rfl⟩
          have hk : k = (gE g).length - 1 := by omega
          unfold tog
          rw [if_pos hc, erase_eq _ i hW.ed hi hci]
          refine ⟨by rw [List.length_eraseIdx, if_pos hi]; exact q4, fun j hj => ?_⟩
          rw [List.length_eraseIdx, if_pos hi] at hj
          rw [gA_erase]
          exact q5 j (by omega)
        · refine g_aload0 hX d_M_toggleEdge_71 ?_
          refine g_getF hX d_M_toggleEdge_72 fl_M_13 (lv_89 _) ?_
          refine g_bipush (v := nI 32) hX d_M_toggleEdge_75 rfl ?_
          refine g_iload4 hX d_M_toggleEdge_77 ?_
          refine g_iaddN hX d_M_toggleEdge_79 ?_
          refine g_aload0 hX d_M_toggleEdge_80 ?_
          refine g_getF hX d_M_toggleEdge_81 fl_M_13 (lv_89 _) ?_
          refine g_bipush (v := nI 32) hX d_M_toggleEdge_84 rfl ?_
          refine g_iload4 hX d_M_toggleEdge_86 ?_
          refine g_iaddN hX d_M_toggleEdge_88 ?_
          refine g_iconst (v := nI 1) hX d_M_toggleEdge_89 rfl ?_
          refine g_iaddN hX d_M_toggleEdge_90 ?_
          refine g_iald hX d_M_toggleEdge_91 (lv_91 _) (show nI (32 + k + 1) = nI (32 + (k + 1)) from rfl) (by omega) ?_
          refine g_topi (show rI (sA w 91 f) 91 (32 + (k + 1)) = nI (gA (gE g) (k + 1)) by rw [rI_sA]; exact q6 (k + 1) (by omega) (by omega)) ?_
          refine g_iast hX d_M_toggleEdge_92 (lv_91 _) rfl (by omega) ?_
          refine g_iincN4 hX d_M_toggleEdge_93 rfl (by decide) ?_
          refine g_goto hX d_M_toggleEdge_96 ?_
          refine g_mem (sI_sA _ _ _ _ _) ?_
          refine ih (k + 1) (upd f (32 + k) (nI (gA (gE g) (k + 1)))) (by omega) (by omega) (by omega) ?_ ?_ ?_ ?_
          · intro j hj; rw [upd_eq, if_neg (by omega)]; exact q3 j hj
          · rw [upd_eq, if_neg (by omega)]; exact q4
          · intro j hj
            rw [upd_eq]
            by_cases hjk : j = k
            · rw [if_pos (by omega), if_neg (by omega), hjk]
            · rw [if_neg (by omega)]; exact q5 j (by omega)
          · intro j h1 h2
            rw [upd_eq, if_neg (by omega)]; exact q6 j (by omega) h2
    refine g_aload0 hX d_M_toggleEdge_0 ?_
    refine g_iload1 hX d_M_toggleEdge_1 ?_
    refine g_iload2 hX d_M_toggleEdge_2 ?_
    refine g_callV (As := [_, _]) hX hF.1 d_M_toggleEdge_3 ml_M_207 cf_M_edgeAt cv_M_edgeAt rfl rfl (c_M_edgeAt hR hW (by omega) (by omega)) (rcv_obj hX (lv_89 _) rfl rfl) (by omega) (by omega) (by omega) (Nat.le_of_ble_eq_true rfl) ?_
    refine ret_k ?_
    refine g_topi (eAt_at hW.ed hi hci _ (Nat.le_refl _) hi) ?_
    refine g_istore3 hX d_M_toggleEdge_6 rfl (by decide) ?_
    refine g_iload3 hX d_M_toggleEdge_7 ?_
    refine g_iconst (v := -1) hX d_M_toggleEdge_8 rfl ?_
    refine g_icmp_ne hX d_M_toggleEdge_9 (fun c0 => ?_) (fun h => absurd h (nI_m1 (by omega)))
    refine g_aload0 hX d_M_toggleEdge_45 ?_
    refine g_getF hX d_M_toggleEdge_46 fl_M_13 (lv_89 _) ?_
    refine g_bipush (v := nI 31) hX d_M_toggleEdge_49 rfl ?_
    refine g_dup2 hX d_M_toggleEdge_51 rfl rfl ?_
    refine g_iald hX d_M_toggleEdge_52 (lv_91 _) rfl (by decide) ?_
    refine g_topi hR.e.1 ?_
    refine g_iconst (v := nI 1) hX d_M_toggleEdge_53 rfl ?_
    refine g_isubN hX d_M_toggleEdge_54 (by omega) ?_
    refine g_iast hX d_M_toggleEdge_55 (lv_91 _) rfl (by decide) ?_
    refine g_iload3 hX d_M_toggleEdge_56 ?_
    refine g_istore4 hX d_M_toggleEdge_57 rfl (by decide) ?_
    refine lp ((gE g).length + 1) i (upd (rI w 91) 31 (nI ((gE g).length - 1))) (by omega) (Nat.le_refl _) hi ?_ ?_ ?_ ?_
    · intro j hj; rw [upd_eq, if_neg (by omega)]
    · rw [upd_eq, if_pos rfl]
    · intro j hj
      rw [upd_eq, if_neg (by omega), if_pos hj]; exact hR.e.2 j (by omega)
    · intro j h1 h2
      rw [upd_eq, if_neg (by omega)]; exact hR.e.2 j h2
  · have hlt := edges_lt hn hW.ed hW.eo (code_ok hn ha hb hab) hc
    refine g_aload0 hX d_M_toggleEdge_0 ?_
    refine g_iload1 hX d_M_toggleEdge_1 ?_
    refine g_iload2 hX d_M_toggleEdge_2 ?_
    refine g_callV (As := [_, _]) hX hF.1 d_M_toggleEdge_3 ml_M_207 cf_M_edgeAt cv_M_edgeAt rfl rfl (c_M_edgeAt hR hW (by omega) (by omega)) (rcv_obj hX (lv_89 _) rfl rfl) (by omega) (by omega) (by omega) (Nat.le_of_ble_eq_true rfl) ?_
    refine ret_k ?_
    refine g_topi (eAt_none _ (Nat.le_refl _) hc) ?_
    refine g_istore3 hX d_M_toggleEdge_6 rfl (by decide) ?_
    refine g_iload3 hX d_M_toggleEdge_7 ?_
    refine g_iconst (v := -1) hX d_M_toggleEdge_8 rfl ?_
    refine g_icmp_ne hX d_M_toggleEdge_9 (fun h => absurd rfl h) (fun c0 => ?_)
    refine g_aload0 hX d_M_toggleEdge_12 ?_
    refine g_getF hX d_M_toggleEdge_13 fl_M_13 (lv_89 _) ?_
    refine g_bipush (v := nI 32) hX d_M_toggleEdge_16 rfl ?_
    refine g_aload0 hX d_M_toggleEdge_18 ?_
    refine g_getF hX d_M_toggleEdge_19 fl_M_13 (lv_89 _) ?_
    refine g_bipush (v := nI 31) hX d_M_toggleEdge_22 rfl ?_
    refine g_iald hX d_M_toggleEdge_24 (lv_91 _) rfl (by decide) ?_
    refine g_topi hR.e.1 ?_
    refine g_iaddN hX d_M_toggleEdge_25 ?_
    refine g_iload1 hX d_M_toggleEdge_26 ?_
    refine g_iload2 hX d_M_toggleEdge_27 ?_
    refine g_callS (As := [_, _]) hX hF.1 d_M_toggleEdge_28 ml_M_197 cf_M_codeOf cs_M_codeOf rfl (c_M_codeOf (by omega) (by omega)) (by omega) (by omega) (by omega) (Nat.le_of_ble_eq_true rfl) ?_
    refine ret_k ?_
    refine g_iast hX d_M_toggleEdge_31 (lv_91 _) rfl (by omega) ?_
    refine g_aload0 hX d_M_toggleEdge_32 ?_
    refine g_getF hX d_M_toggleEdge_33 fl_M_13 (lv_89 _) ?_
    refine g_bipush (v := nI 31) hX d_M_toggleEdge_36 rfl ?_
    refine g_dup2 hX d_M_toggleEdge_38 rfl rfl ?_
    refine g_iald hX d_M_toggleEdge_39 (lv_91 _) rfl (by decide) ?_
    refine g_topi (show upd (rI w 91) (32 + (gE g).length) (nI (codeOf a b)) 31 = nI (gE g).length by rw [upd_eq, if_neg (by omega)]; exact hR.e.1) ?_
    refine g_iconst (v := nI 1) hX d_M_toggleEdge_40 rfl ?_
    refine g_iaddN hX d_M_toggleEdge_41 ?_
    refine g_iast hX d_M_toggleEdge_42 (lv_91 _) rfl (by decide) ?_
    refine g_iconst (v := nI 1) hX d_M_toggleEdge_43 rfl ?_
    refine g_iret hX hF d_M_toggleEdge_44 (by omega) (by omega) ?_
    refine ⟨upd (upd (rI w 91) (32 + (gE g).length) (nI (codeOf a b))) 31 (nI ((gE g).length + 1)), ?_, ?_, ?_, ?_⟩
    · rw [sI_eq w, sI_sA]
    · intro i hi
      rw [upd_eq, upd_eq, if_neg (by omega), if_neg (by omega)]
    · unfold tog
      rw [if_neg hc]
      refine ⟨by rw [upd_eq, if_pos rfl, List.length_append]; rfl, fun k hk => ?_⟩
      rw [List.length_append, List.length_singleton] at hk
      rw [upd_eq, upd_eq, if_neg (by omega), gA_app]
      by_cases hkl : k = (gE g).length
      · rw [if_pos (by omega), if_pos hkl]
      · rw [if_neg (by omega), if_neg hkl]
        exact hR.e.2 k (by omega)
    · rw [b2i_t hc]; rfl
