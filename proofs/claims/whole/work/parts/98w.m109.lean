def m_Le_wordHere : MR := (⟨"SubgraphDesk$Ledger", "wordHere", "(LSubgraphDesk$Tape;)I"⟩, prog_5_method_2_code, 1, (some .int))
theorem cf_Le_wordHere : CF m_Le_wordHere 1 := ⟨gd 919 (by decide +kernel) rfl, gd 145 (by decide +kernel) rfl, by decide +kernel, by decide, by decide +kernel⟩
theorem cs_Le_wordHere : CS m_Le_wordHere := gd 918 (by decide +kernel) rfl
def m_Re_comparisonHere : MR := (⟨"SubgraphDesk$Reader", "comparisonHere", "()I"⟩, prog_8_method_15_code, 1, (some .int))
theorem cf_Re_comparisonHere : CF m_Re_comparisonHere 0 := ⟨gd 974 (by decide +kernel) rfl, gd 142 (by decide +kernel) rfl, by decide +kernel, by decide, by decide +kernel⟩
theorem cv_Re_comparisonHere : CV m_Re_comparisonHere := ⟨gd 973 (by decide +kernel) rfl, gd 21 (by decide +kernel) rfl⟩
def m_Re_fail : MR := (⟨"SubgraphDesk$Reader", "fail", "()Z"⟩, prog_8_method_2_code, 1, (some .boolean))
theorem cf_Re_fail : CF m_Re_fail 0 := ⟨gd 859 (by decide +kernel) rfl, gd 142 (by decide +kernel) rfl, by decide +kernel, by decide, by decide +kernel⟩
theorem cv_Re_fail : CV m_Re_fail := ⟨gd 858 (by decide +kernel) rfl, gd 6 (by decide +kernel) rfl⟩
def m_Re_termSign : MR := (⟨"SubgraphDesk$Reader", "termSign", "()I"⟩, prog_8_method_18_code, 1, (some .int))
theorem cf_Re_termSign : CF m_Re_termSign 0 := ⟨gd 931 (by decide +kernel) rfl, gd 142 (by decide +kernel) rfl, by decide +kernel, by decide, by decide +kernel⟩
theorem cv_Re_termSign : CV m_Re_termSign := ⟨gd 930 (by decide +kernel) rfl, gd 12 (by decide +kernel) rfl⟩
def m_Ru_wordHere : MR := (⟨"SubgraphDesk$Runner", "wordHere", "(LSubgraphDesk$Tape;)I"⟩, prog_9_method_3_code, 1, (some .int))
theorem cf_Ru_wordHere : CF m_Ru_wordHere 1 := ⟨gd 909 (by decide +kernel) rfl, gd 150 (by decide +kernel) rfl, by decide +kernel, by decide, by decide +kernel⟩
theorem cs_Ru_wordHere : CS m_Ru_wordHere := gd 908 (by decide +kernel) rfl
theorem d_Le_wordHere_0 : Dc prog_5_method_2_code 0 (.aload_n 0) 1 1 := ⟨by decide +kernel, rfl⟩
theorem d_Le_wordHere_1 : Dc prog_5_method_2_code 1 (.ldc 25) 2 3 := ⟨by decide +kernel, rfl⟩
theorem d_Le_wordHere_3 : Dc prog_5_method_2_code 3 (.invokevirtual 27) 3 6 := ⟨by decide +kernel, rfl⟩
theorem d_Le_wordHere_6 : Dj prog_5_method_2_code 6 (.ifCond .eq 5) 9 5 11 := ⟨by decide +kernel, rfl, rfl⟩
theorem d_Le_wordHere_9 : Dc prog_5_method_2_code 9 (.iconst 0) 1 10 := ⟨by decide +kernel, rfl⟩
theorem d_Le_wordHere_10 : Dc prog_5_method_2_code 10 (.ireturn) 1 11 := ⟨by decide +kernel, rfl⟩
theorem d_Le_wordHere_11 : Dc prog_5_method_2_code 11 (.aload_n 0) 1 12 := ⟨by decide +kernel, rfl⟩
theorem d_Le_wordHere_12 : Dc prog_5_method_2_code 12 (.ldc 33) 2 14 := ⟨by decide +kernel, rfl⟩
theorem d_Le_wordHere_14 : Dc prog_5_method_2_code 14 (.invokevirtual 27) 3 17 := ⟨by decide +kernel, rfl⟩
theorem d_Le_wordHere_17 : Dj prog_5_method_2_code 17 (.ifCond .eq 5) 20 5 22 := ⟨by decide +kernel, rfl, rfl⟩
theorem d_Le_wordHere_20 : Dc prog_5_method_2_code 20 (.iconst 1) 1 21 := ⟨by decide +kernel, rfl⟩
theorem d_Le_wordHere_21 : Dc prog_5_method_2_code 21 (.ireturn) 1 22 := ⟨by decide +kernel, rfl⟩
theorem d_Le_wordHere_22 : Dc prog_5_method_2_code 22 (.aload_n 0) 1 23 := ⟨by decide +kernel, rfl⟩
theorem d_Le_wordHere_23 : Dc prog_5_method_2_code 23 (.ldc 35) 2 25 := ⟨by decide +kernel, rfl⟩
theorem d_Le_wordHere_25 : Dc prog_5_method_2_code 25 (.invokevirtual 27) 3 28 := ⟨by decide +kernel, rfl⟩
theorem d_Le_wordHere_28 : Dj prog_5_method_2_code 28 (.ifCond .eq 5) 31 5 33 := ⟨by decide +kernel, rfl, rfl⟩
theorem d_Le_wordHere_31 : Dc prog_5_method_2_code 31 (.iconst 2) 1 32 := ⟨by decide +kernel, rfl⟩
theorem d_Le_wordHere_32 : Dc prog_5_method_2_code 32 (.ireturn) 1 33 := ⟨by decide +kernel, rfl⟩
theorem d_Le_wordHere_33 : Dc prog_5_method_2_code 33 (.aload_n 0) 1 34 := ⟨by decide +kernel, rfl⟩
theorem d_Le_wordHere_34 : Dc prog_5_method_2_code 34 (.ldc 37) 2 36 := ⟨by decide +kernel, rfl⟩
theorem d_Le_wordHere_36 : Dc prog_5_method_2_code 36 (.invokevirtual 27) 3 39 := ⟨by decide +kernel, rfl⟩
theorem d_Le_wordHere_39 : Dj prog_5_method_2_code 39 (.ifCond .eq 5) 42 5 44 := ⟨by decide +kernel, rfl, rfl⟩
theorem d_Le_wordHere_42 : Dc prog_5_method_2_code 42 (.iconst 3) 1 43 := ⟨by decide +kernel, rfl⟩
theorem d_Le_wordHere_43 : Dc prog_5_method_2_code 43 (.ireturn) 1 44 := ⟨by decide +kernel, rfl⟩
theorem d_Le_wordHere_44 : Dc prog_5_method_2_code 44 (.aload_n 0) 1 45 := ⟨by decide +kernel, rfl⟩
theorem d_Le_wordHere_45 : Dc prog_5_method_2_code 45 (.ldc 39) 2 47 := ⟨by decide +kernel, rfl⟩
theorem d_Le_wordHere_47 : Dc prog_5_method_2_code 47 (.invokevirtual 27) 3 50 := ⟨by decide +kernel, rfl⟩
theorem d_Le_wordHere_50 : Dj prog_5_method_2_code 50 (.ifCond .eq 5) 53 5 55 := ⟨by decide +kernel, rfl, rfl⟩
theorem d_Le_wordHere_53 : Dc prog_5_method_2_code 53 (.iconst 4) 1 54 := ⟨by decide +kernel, rfl⟩
theorem d_Le_wordHere_54 : Dc prog_5_method_2_code 54 (.ireturn) 1 55 := ⟨by decide +kernel, rfl⟩
theorem d_Le_wordHere_55 : Dc prog_5_method_2_code 55 (.aload_n 0) 1 56 := ⟨by decide +kernel, rfl⟩
theorem d_Le_wordHere_56 : Dc prog_5_method_2_code 56 (.ldc 41) 2 58 := ⟨by decide +kernel, rfl⟩
theorem d_Le_wordHere_58 : Dc prog_5_method_2_code 58 (.invokevirtual 27) 3 61 := ⟨by decide +kernel, rfl⟩
theorem d_Le_wordHere_61 : Dj prog_5_method_2_code 61 (.ifCond .eq 5) 64 5 66 := ⟨by decide +kernel, rfl, rfl⟩
theorem d_Le_wordHere_64 : Dc prog_5_method_2_code 64 (.iconst 5) 1 65 := ⟨by decide +kernel, rfl⟩
theorem d_Le_wordHere_65 : Dc prog_5_method_2_code 65 (.ireturn) 1 66 := ⟨by decide +kernel, rfl⟩
theorem d_Le_wordHere_66 : Dc prog_5_method_2_code 66 (.aload_n 0) 1 67 := ⟨by decide +kernel, rfl⟩
theorem d_Le_wordHere_67 : Dc prog_5_method_2_code 67 (.ldc 43) 2 69 := ⟨by decide +kernel, rfl⟩
theorem d_Le_wordHere_69 : Dc prog_5_method_2_code 69 (.invokevirtual 27) 3 72 := ⟨by decide +kernel, rfl⟩
theorem d_Le_wordHere_72 : Dj prog_5_method_2_code 72 (.ifCond .eq 8) 75 8 80 := ⟨by decide +kernel, rfl, rfl⟩
theorem d_Le_wordHere_75 : Dc prog_5_method_2_code 75 (.bipush 6) 2 77 := ⟨by decide +kernel, rfl⟩
theorem d_Le_wordHere_77 : Dj prog_5_method_2_code 77 (.goto 4) 80 4 81 := ⟨by decide +kernel, rfl, rfl⟩
theorem d_Le_wordHere_80 : Dc prog_5_method_2_code 80 (.iconst (-1)) 1 81 := ⟨by decide +kernel, rfl⟩
theorem d_Le_wordHere_81 : Dc prog_5_method_2_code 81 (.ireturn) 1 82 := ⟨by decide +kernel, rfl⟩
theorem d_Re_comparisonHere_0 : Dc prog_8_method_15_code 0 (.aload_n 0) 1 1 := ⟨by decide +kernel, rfl⟩
theorem d_Re_comparisonHere_1 : Dc prog_8_method_15_code 1 (.getfield 12) 3 4 := ⟨by decide +kernel, rfl⟩
theorem d_Re_comparisonHere_4 : Dc prog_8_method_15_code 4 (.bipush 60) 2 6 := ⟨by decide +kernel, rfl⟩
theorem d_Re_comparisonHere_6 : Dc prog_8_method_15_code 6 (.invokevirtual 60) 3 9 := ⟨by decide +kernel, rfl⟩
theorem d_Re_comparisonHere_9 : Dj prog_8_method_15_code 9 (.ifCond .eq 6) 12 6 15 := ⟨by decide +kernel, rfl, rfl⟩
theorem d_Re_comparisonHere_12 : Dc prog_8_method_15_code 12 (.bipush 7) 2 14 := ⟨by decide +kernel, rfl⟩
theorem d_Re_comparisonHere_14 : Dc prog_8_method_15_code 14 (.ireturn) 1 15 := ⟨by decide +kernel, rfl⟩
theorem d_Re_comparisonHere_15 : Dc prog_8_method_15_code 15 (.aload_n 0) 1 16 := ⟨by decide +kernel, rfl⟩
theorem d_Re_comparisonHere_16 : Dc prog_8_method_15_code 16 (.getfield 12) 3 19 := ⟨by decide +kernel, rfl⟩
theorem d_Re_comparisonHere_19 : Dc prog_8_method_15_code 19 (.bipush 62) 2 21 := ⟨by decide +kernel, rfl⟩
theorem d_Re_comparisonHere_21 : Dc prog_8_method_15_code 21 (.invokevirtual 60) 3 24 := ⟨by decide +kernel, rfl⟩
theorem d_Re_comparisonHere_24 : Dj prog_8_method_15_code 24 (.ifCond .eq 6) 27 6 30 := ⟨by decide +kernel, rfl, rfl⟩
theorem d_Re_comparisonHere_27 : Dc prog_8_method_15_code 27 (.bipush 8) 2 29 := ⟨by decide +kernel, rfl⟩
theorem d_Re_comparisonHere_29 : Dc prog_8_method_15_code 29 (.ireturn) 1 30 := ⟨by decide +kernel, rfl⟩
theorem d_Re_comparisonHere_30 : Dc prog_8_method_15_code 30 (.aload_n 0) 1 31 := ⟨by decide +kernel, rfl⟩
theorem d_Re_comparisonHere_31 : Dc prog_8_method_15_code 31 (.getfield 12) 3 34 := ⟨by decide +kernel, rfl⟩
theorem d_Re_comparisonHere_34 : Dc prog_8_method_15_code 34 (.bipush 61) 2 36 := ⟨by decide +kernel, rfl⟩
theorem d_Re_comparisonHere_36 : Dc prog_8_method_15_code 36 (.invokevirtual 60) 3 39 := ⟨by decide +kernel, rfl⟩
theorem d_Re_comparisonHere_39 : Dj prog_8_method_15_code 39 (.ifCond .eq 8) 42 8 47 := ⟨by decide +kernel, rfl, rfl⟩
theorem d_Re_comparisonHere_42 : Dc prog_8_method_15_code 42 (.bipush 9) 2 44 := ⟨by decide +kernel, rfl⟩
theorem d_Re_comparisonHere_44 : Dj prog_8_method_15_code 44 (.goto 4) 47 4 48 := ⟨by decide +kernel, rfl, rfl⟩
theorem d_Re_comparisonHere_47 : Dc prog_8_method_15_code 47 (.iconst (-1)) 1 48 := ⟨by decide +kernel, rfl⟩
theorem d_Re_comparisonHere_48 : Dc prog_8_method_15_code 48 (.ireturn) 1 49 := ⟨by decide +kernel, rfl⟩
theorem d_Re_fail_0 : Dc prog_8_method_2_code 0 (.aload_n 0) 1 1 := ⟨by decide +kernel, rfl⟩
theorem d_Re_fail_1 : Dc prog_8_method_2_code 1 (.aload_n 0) 1 2 := ⟨by decide +kernel, rfl⟩
theorem d_Re_fail_2 : Dc prog_8_method_2_code 2 (.getfield 12) 3 5 := ⟨by decide +kernel, rfl⟩
theorem d_Re_fail_5 : Dc prog_8_method_2_code 5 (.getfield 31) 3 8 := ⟨by decide +kernel, rfl⟩
theorem d_Re_fail_8 : Dc prog_8_method_2_code 8 (.putfield 27) 3 11 := ⟨by decide +kernel, rfl⟩
theorem d_Re_fail_11 : Dc prog_8_method_2_code 11 (.iconst 0) 1 12 := ⟨by decide +kernel, rfl⟩
theorem d_Re_fail_12 : Dc prog_8_method_2_code 12 (.ireturn) 1 13 := ⟨by decide +kernel, rfl⟩
theorem d_Re_termSign_0 : Dc prog_8_method_18_code 0 (.aload_n 0) 1 1 := ⟨by decide +kernel, rfl⟩
theorem d_Re_termSign_1 : Dc prog_8_method_18_code 1 (.getfield 12) 3 4 := ⟨by decide +kernel, rfl⟩
theorem d_Re_termSign_4 : Dc prog_8_method_18_code 4 (.bipush 42) 2 6 := ⟨by decide +kernel, rfl⟩
theorem d_Re_termSign_6 : Dc prog_8_method_18_code 6 (.invokevirtual 60) 3 9 := ⟨by decide +kernel, rfl⟩
theorem d_Re_termSign_9 : Dj prog_8_method_18_code 9 (.ifCond .eq 5) 12 5 14 := ⟨by decide +kernel, rfl, rfl⟩
theorem d_Re_termSign_12 : Dc prog_8_method_18_code 12 (.iconst 4) 1 13 := ⟨by decide +kernel, rfl⟩
theorem d_Re_termSign_13 : Dc prog_8_method_18_code 13 (.ireturn) 1 14 := ⟨by decide +kernel, rfl⟩
theorem d_Re_termSign_14 : Dc prog_8_method_18_code 14 (.aload_n 0) 1 15 := ⟨by decide +kernel, rfl⟩
theorem d_Re_termSign_15 : Dc prog_8_method_18_code 15 (.getfield 12) 3 18 := ⟨by decide +kernel, rfl⟩
theorem d_Re_termSign_18 : Dc prog_8_method_18_code 18 (.bipush 47) 2 20 := ⟨by decide +kernel, rfl⟩
theorem d_Re_termSign_20 : Dc prog_8_method_18_code 20 (.invokevirtual 60) 3 23 := ⟨by decide +kernel, rfl⟩
theorem d_Re_termSign_23 : Dj prog_8_method_18_code 23 (.ifCond .eq 5) 26 5 28 := ⟨by decide +kernel, rfl, rfl⟩
theorem d_Re_termSign_26 : Dc prog_8_method_18_code 26 (.iconst 5) 1 27 := ⟨by decide +kernel, rfl⟩
theorem d_Re_termSign_27 : Dc prog_8_method_18_code 27 (.ireturn) 1 28 := ⟨by decide +kernel, rfl⟩
theorem d_Re_termSign_28 : Dc prog_8_method_18_code 28 (.aload_n 0) 1 29 := ⟨by decide +kernel, rfl⟩
theorem d_Re_termSign_29 : Dc prog_8_method_18_code 29 (.getfield 12) 3 32 := ⟨by decide +kernel, rfl⟩
theorem d_Re_termSign_32 : Dc prog_8_method_18_code 32 (.bipush 37) 2 34 := ⟨by decide +kernel, rfl⟩
theorem d_Re_termSign_34 : Dc prog_8_method_18_code 34 (.invokevirtual 60) 3 37 := ⟨by decide +kernel, rfl⟩
theorem d_Re_termSign_37 : Dj prog_8_method_18_code 37 (.ifCond .eq 8) 40 8 45 := ⟨by decide +kernel, rfl, rfl⟩
theorem d_Re_termSign_40 : Dc prog_8_method_18_code 40 (.bipush 6) 2 42 := ⟨by decide +kernel, rfl⟩
theorem d_Re_termSign_42 : Dj prog_8_method_18_code 42 (.goto 4) 45 4 46 := ⟨by decide +kernel, rfl, rfl⟩
theorem d_Re_termSign_45 : Dc prog_8_method_18_code 45 (.iconst (-1)) 1 46 := ⟨by decide +kernel, rfl⟩
theorem d_Re_termSign_46 : Dc prog_8_method_18_code 46 (.ireturn) 1 47 := ⟨by decide +kernel, rfl⟩
theorem d_Ru_wordHere_0 : Dc prog_9_method_3_code 0 (.aload_n 0) 1 1 := ⟨by decide +kernel, rfl⟩
theorem d_Ru_wordHere_1 : Dc prog_9_method_3_code 1 (.ldc 53) 2 3 := ⟨by decide +kernel, rfl⟩
theorem d_Ru_wordHere_3 : Dc prog_9_method_3_code 3 (.invokevirtual 55) 3 6 := ⟨by decide +kernel, rfl⟩
theorem d_Ru_wordHere_6 : Dj prog_9_method_3_code 6 (.ifCond .eq 5) 9 5 11 := ⟨by decide +kernel, rfl, rfl⟩
theorem d_Ru_wordHere_9 : Dc prog_9_method_3_code 9 (.iconst 0) 1 10 := ⟨by decide +kernel, rfl⟩
theorem d_Ru_wordHere_10 : Dc prog_9_method_3_code 10 (.ireturn) 1 11 := ⟨by decide +kernel, rfl⟩
theorem d_Ru_wordHere_11 : Dc prog_9_method_3_code 11 (.aload_n 0) 1 12 := ⟨by decide +kernel, rfl⟩
theorem d_Ru_wordHere_12 : Dc prog_9_method_3_code 12 (.ldc 61) 2 14 := ⟨by decide +kernel, rfl⟩
theorem d_Ru_wordHere_14 : Dc prog_9_method_3_code 14 (.invokevirtual 55) 3 17 := ⟨by decide +kernel, rfl⟩
theorem d_Ru_wordHere_17 : Dj prog_9_method_3_code 17 (.ifCond .eq 5) 20 5 22 := ⟨by decide +kernel, rfl, rfl⟩
theorem d_Ru_wordHere_20 : Dc prog_9_method_3_code 20 (.iconst 1) 1 21 := ⟨by decide +kernel, rfl⟩
theorem d_Ru_wordHere_21 : Dc prog_9_method_3_code 21 (.ireturn) 1 22 := ⟨by decide +kernel, rfl⟩
theorem d_Ru_wordHere_22 : Dc prog_9_method_3_code 22 (.aload_n 0) 1 23 := ⟨by decide +kernel, rfl⟩
theorem d_Ru_wordHere_23 : Dc prog_9_method_3_code 23 (.ldc 62) 2 25 := ⟨by decide +kernel, rfl⟩
theorem d_Ru_wordHere_25 : Dc prog_9_method_3_code 25 (.invokevirtual 55) 3 28 := ⟨by decide +kernel, rfl⟩
theorem d_Ru_wordHere_28 : Dj prog_9_method_3_code 28 (.ifCond .eq 5) 31 5 33 := ⟨by decide +kernel, rfl, rfl⟩
theorem d_Ru_wordHere_31 : Dc prog_9_method_3_code 31 (.iconst 2) 1 32 := ⟨by decide +kernel, rfl⟩
theorem d_Ru_wordHere_32 : Dc prog_9_method_3_code 32 (.ireturn) 1 33 := ⟨by decide +kernel, rfl⟩
theorem d_Ru_wordHere_33 : Dc prog_9_method_3_code 33 (.aload_n 0) 1 34 := ⟨by decide +kernel, rfl⟩
theorem d_Ru_wordHere_34 : Dc prog_9_method_3_code 34 (.ldc 63) 2 36 := ⟨by decide +kernel, rfl⟩
theorem d_Ru_wordHere_36 : Dc prog_9_method_3_code 36 (.invokevirtual 55) 3 39 := ⟨by decide +kernel, rfl⟩
theorem d_Ru_wordHere_39 : Dj prog_9_method_3_code 39 (.ifCond .eq 5) 42 5 44 := ⟨by decide +kernel, rfl, rfl⟩
theorem d_Ru_wordHere_42 : Dc prog_9_method_3_code 42 (.iconst 3) 1 43 := ⟨by decide +kernel, rfl⟩
theorem d_Ru_wordHere_43 : Dc prog_9_method_3_code 43 (.ireturn) 1 44 := ⟨by decide +kernel, rfl⟩
theorem d_Ru_wordHere_44 : Dc prog_9_method_3_code 44 (.aload_n 0) 1 45 := ⟨by decide +kernel, rfl⟩
theorem d_Ru_wordHere_45 : Dc prog_9_method_3_code 45 (.ldc 65) 2 47 := ⟨by decide +kernel, rfl⟩
theorem d_Ru_wordHere_47 : Dc prog_9_method_3_code 47 (.invokevirtual 55) 3 50 := ⟨by decide +kernel, rfl⟩
theorem d_Ru_wordHere_50 : Dj prog_9_method_3_code 50 (.ifCond .eq 5) 53 5 55 := ⟨by decide +kernel, rfl, rfl⟩
theorem d_Ru_wordHere_53 : Dc prog_9_method_3_code 53 (.iconst 4) 1 54 := ⟨by decide +kernel, rfl⟩
theorem d_Ru_wordHere_54 : Dc prog_9_method_3_code 54 (.ireturn) 1 55 := ⟨by decide +kernel, rfl⟩
theorem d_Ru_wordHere_55 : Dc prog_9_method_3_code 55 (.aload_n 0) 1 56 := ⟨by decide +kernel, rfl⟩
theorem d_Ru_wordHere_56 : Dc prog_9_method_3_code 56 (.ldc 67) 2 58 := ⟨by decide +kernel, rfl⟩
theorem d_Ru_wordHere_58 : Dc prog_9_method_3_code 58 (.invokevirtual 55) 3 61 := ⟨by decide +kernel, rfl⟩
theorem d_Ru_wordHere_61 : Dj prog_9_method_3_code 61 (.ifCond .eq 7) 64 7 68 := ⟨by decide +kernel, rfl, rfl⟩
theorem d_Ru_wordHere_64 : Dc prog_9_method_3_code 64 (.iconst 5) 1 65 := ⟨by decide +kernel, rfl⟩
theorem d_Ru_wordHere_65 : Dj prog_9_method_3_code 65 (.goto 4) 68 4 69 := ⟨by decide +kernel, rfl, rfl⟩
theorem d_Ru_wordHere_68 : Dc prog_9_method_3_code 68 (.iconst (-1)) 1 69 := ⟨by decide +kernel, rfl⟩
theorem d_Ru_wordHere_69 : Dc prog_9_method_3_code 69 (.ireturn) 1 70 := ⟨by decide +kernel, rfl⟩
theorem fl_Re_12 : FL "SubgraphDesk$Reader" 12 7 0 true (.object "SubgraphDesk$Tape") (3, 1) := ⟨R_Re, F_Re, 5, ty_Re, rfl, rfl, in_Re, tyok_Re, nm_Re, by decide, gd 349 (by decide +kernel) rfl, rfl, rfl, rfl⟩
theorem fl_Re_27 : FL "SubgraphDesk$Reader" 27 7 4 false .int (0, 0) := ⟨R_Re, F_Re, 5, ty_Re, rfl, rfl, in_Re, tyok_Re, nm_Re, by decide, gd 355 (by decide +kernel) rfl, rfl, rfl, rfl⟩
theorem fl_Re_31 : FL "SubgraphDesk$Reader" 31 10 3 false .int (0, 0) := ⟨R_Ta, F_Ta, 7, ty_Ta, rfl, rfl, in_Ta, tyok_Ta, nm_Ta, by decide, gd 305 (by decide +kernel) rfl, rfl, rfl, rfl⟩
theorem ml_Le_27 : Cond.methodLink "SubgraphDesk$Ledger" 27 m_Ta_isWord.1 ∈ lw_gd := gd 921 (by decide +kernel) rfl
theorem ml_Re_60 : Cond.methodLink "SubgraphDesk$Reader" 60 m_Ta_isSign.1 ∈ lw_gd := gd 891 (by decide +kernel) rfl
theorem ml_Ru_55 : Cond.methodLink "SubgraphDesk$Runner" 55 m_Ta_isWord.1 ∈ lw_gd := gd 911 (by decide +kernel) rfl
/-! ===== the reader ===== -/
theorem psh_cong {op op2 : Nat → Nat} : ∀ k, (∀ j, j < k → op j = op2 j) → psh op k = psh op2 k
  | 0, _ => rfl
  | k + 1, h => by
    show psh op k + _ = psh op2 k + _
    rw [psh_cong k (fun j hj => h j (by omega)), h k (Nat.lt_succ_self k)]
theorem psh_app {c s : List (Nat × Nat)} : psh (cO (c ++ s)) c.length = psh (cO c) c.length := psh_cong _ (fun j hj => (cO_app hj).1)
theorem psh_snoc {c : List (Nat × Nat)} {q : Nat × Nat} : psh (cO (c ++ [q])) (c ++ [q]).length = psh (cO c) c.length + (if q.1 < 20 then 1 else 0) := by
  rw [List.length_append, List.length_singleton]
  show psh (cO (c ++ [q])) c.length + (if cO (c ++ [q]) c.length < 20 then 1 else 0) = _
  rw [psh_app, cO_last.1]
theorem SegL.app {c s : List (Nat × Nat)} {a b : Nat} {d : Den} (h : SegL c a b d) (hb : b ≤ c.length) : SegL (c ++ s) a b d := h.cong (fun j _ h2 => cO_app (by omega))
/-- the draft's code -/
def DrK (w : Mem) (c : List (Nat × Nat)) : Prop := Dra w ∧ rI w 28 1 = nI c.length ∧ ∀ j, j < c.length → rI w 30 j = nI (cwd (cO c j) (cA c j))
theorem DrK.fr {w w2 : Mem} {c : List (Nat × Nat)} (h : DrK w c) (e : w2.2.2 = w.2.2) (e1 : rI w2 28 1 = rI w 28 1) (e2 : rI w2 30 = rI w 30) : DrK w2 c := ⟨h.1.fr e, by rw [e1]; exact h.2.1, by rw [e2]; exact h.2.2⟩
theorem DrK.snoc {w : Mem} {c : List (Nat × Nat)} {q : Nat × Nat} {x : Nat} (h : DrK w c) (hx : x = cwd q.1 q.2) : DrK (sI (sI w 30 c.length (nI x)) 28 1 (nI (c.length + 1))) (c ++ [q]) := by
  refine ⟨h.1.fr rfl, by rw [rI_sI, upd_eq, if_pos rfl, List.length_append, List.length_singleton], fun j hj => ?_⟩
  rw [List.length_append, List.length_singleton] at hj
  rw [rI_sI_ne _ _ _ (by decide), rI_sI, upd_eq]
  by_cases e : j = c.length
  · rw [if_pos e, e, cO_last.1, cO_last.2, hx]
  · rw [if_neg e, (cO_app (by omega)).1, (cO_app (by omega)).2]
    exact h.2.2 j (by omega)
def OkD (o : Bool) (q : Nat × Nat) : Prop := OkE o q ∧ (q.1 = 6 → (o = false → q.2 = 0) ∧ q.2 ≤ 11)
/-- the code from a on keeps the rules -/
def OkX (o : Bool) (c : List (Nat × Nat)) (a : Nat) : Prop := ∀ j, a ≤ j → j < c.length → OkD o (cO c j, cA c j) ∧ (29 ≤ cO c j → j < cA c j ∧ cA c j ≤ c.length)
theorem OkX.app {o : Bool} {c s : List (Nat × Nat)} {a : Nat} (h : OkX o c a) (h2 : OkX o (c ++ s) c.length) : OkX o (c ++ s) a := fun j h3 h4 => by
  by_cases e : j < c.length
  · obtain ⟨g1, g2⟩ := h j h3 e
    rw [(cO_app e).1, (cO_app e).2]
    exact ⟨g1, fun z => by have := g2 z; rw [List.length_append]; omega⟩
  · exact h2 j (by omega) h4
theorem OkX.one {o : Bool} {c : List (Nat × Nat)} {q : Nat × Nat} (h : OkD o q) (h2 : q.1 < 29) : OkX o (c ++ [q]) c.length := fun j h3 h4 => by
  rw [List.length_append, List.length_singleton] at h4
  obtain rfl : j = c.length := by omega
  rw [cO_last.1, cO_last.2]
  exact ⟨h, fun z => by omega⟩
/-- the reader stands at f, p parts read, the code so far -/
def RdI (w : Mem) (t : List Nat) (o : Bool) (f p : Nat) (c : List (Nat × Nat)) : Prop := TkD w t f ∧ rI w 25 2 = b2i (o = true) ∧ rI w 25 3 = nI p ∧ DrK w c ∧ p ≤ 50 ∧ 3 * c.length ≤ 6 * p + f ∧ psh (cO c) c.length ≤ p
def FrRd (w w2 : Mem) : Prop := (∀ a, a ≠ 25 → a ≠ 26 → a ≠ 28 → a ≠ 30 → rI w2 a = rI w a) ∧ rI w2 25 2 = rI w 25 2 ∧ rI w2 28 0 = rI w 28 0 ∧ (∀ k, k < 3 → rI w2 26 k = rI w 26 k) ∧ w2.2 = w.2
theorem FrRd.rf (w : Mem) : FrRd w w := ⟨fun _ _ _ _ _ => rfl, rfl, rfl, fun _ _ => rfl, rfl⟩
theorem FrRd.tr {a b c : Mem} (h : FrRd a b) (h2 : FrRd b c) : FrRd a c := ⟨fun x h3 h4 h5 h6 => (h2.1 x h3 h4 h5 h6).trans (h.1 x h3 h4 h5 h6), h2.2.1.trans h.2.1, h2.2.2.1.trans h.2.2.1, fun k hk => (h2.2.2.2.1 k hk).trans (h.2.2.2.1 k hk), h2.2.2.2.2.trans h.2.2.2.2⟩
theorem FrTk.R {w w2 : Mem} (h : FrTk w w2) : FrRd w w2 := ⟨fun a _ h2 _ _ => h.1 a h2, by rw [h.1 25 (by decide)], by rw [h.1 28 (by decide)], h.2.1, h.2.2⟩
theorem FrRd.pt {w w2 : Mem} {k : Nat} {x : Int32} (hk : k ≠ 2) (h : FrRd w w2) : FrRd w (sI w2 25 k x) := ⟨fun a h1 h2 h3 h4 => by rw [rI_sI_ne _ _ _ h1]; exact h.1 a h1 h2 h3 h4, by rw [rI_sI, upd_eq, if_neg (by omega)]; exact h.2.1, by rw [rI_sI_ne _ _ _ (by decide)]; exact h.2.2.1, fun q hq => by rw [rI_sI_ne _ _ _ (by decide)]; exact h.2.2.2.1 q hq, h.2.2.2.2⟩
theorem FrRd.em {w w2 : Mem} {m k : Nat} {x y : Int32} (hk : k ≠ 0) (h : FrRd w w2) : FrRd w (sI (sI w2 30 m x) 28 k y) := ⟨fun a h1 h2 h3 h4 => by rw [rI_sI_ne _ _ _ h3, rI_sI_ne _ _ _ h4]; exact h.1 a h1 h2 h3 h4, by rw [rI_sI_ne _ _ _ (by decide), rI_sI_ne _ _ _ (by decide)]; exact h.2.1, by rw [rI_sI, upd_eq, if_neg (by omega), rI_sI_ne _ _ _ (by decide)]; exact h.2.2.1, fun q hq => by rw [rI_sI_ne _ _ _ (by decide), rI_sI_ne _ _ _ (by decide)]; exact h.2.2.2.1 q hq, h.2.2.2.2⟩
theorem FrRd.at {w w2 : Mem} {m : Nat} {x : Int32} (h : FrRd w w2) : FrRd w (sI w2 30 m x) := ⟨fun a h1 h2 h3 h4 => by rw [rI_sI_ne _ _ _ h4]; exact h.1 a h1 h2 h3 h4, by rw [rI_sI_ne _ _ _ (by decide)]; exact h.2.1, by rw [rI_sI_ne _ _ _ (by decide)]; exact h.2.2.1, fun q hq => by rw [rI_sI_ne _ _ _ (by decide)]; exact h.2.2.2.1 q hq, h.2.2.2.2⟩
theorem TkD.o {w w2 : Mem} {t : List Nat} {f : Nat} (h : TkD w t f) (e1 : rI w2 26 = rI w 26) (e2 : rI w2 27 = rI w 27) : TkD w2 t f := by
  unfold TkD TbP
  rw [e1, e2]
  exact h
section
variable {w w2 : Mem} {t : List Nat} {o : Bool} {f p : Nat} {c : List (Nat × Nat)}
theorem RdI.tk (h : RdI w t o f p c) : TkD w t f := h.1
theorem RdI.fl (h : RdI w t o f p c) : f ≤ t.length ∧ t.length ≤ 400 := ⟨h.1.2.2.2.2.2.1, h.1.1.1⟩
theorem RdI.len (h : RdI w t o f p c) : c.length ≤ 233 := by
  have h1 := h.fl
  obtain ⟨-, -, -, -, h2, h3, -⟩ := h
  omega
theorem RdI.step (h : RdI w t o f p c) (hf : FrTk w w2) (hT : TkD w2 t (nxT t f)) : RdI w2 t o (nxT t f) p c := by
  have h1 := nxT_ge t f h.fl.1
  obtain ⟨-, h2, h3, h4, h5, h6, h7⟩ := h
  exact ⟨hT, by rw [hf.1 25 (by decide)]; exact h2, by rw [hf.1 25 (by decide)]; exact h3, h4.fr (by rw [hf.2.2]) (by rw [hf.1 28 (by decide)]) (hf.1 30 (by decide)), h5, by omega, h7⟩
theorem RdI.emit {q : Nat × Nat} {x : Nat} (h : RdI w t o f p c) (hx : x = cwd q.1 q.2) (hl : 3 * (c.length + 1) ≤ 6 * p + f) (hp : psh (cO c) c.length + (if q.1 < 20 then 1 else 0) ≤ p) : RdI (sI (sI w 30 c.length (nI x)) 28 1 (nI (c.length + 1))) t o f p (c ++ [q]) := by
  obtain ⟨h1, h2, h3, h4, h5, h6, h7⟩ := h
  refine ⟨h1.o ?_ ?_, ?_, ?_, h4.snoc hx, h5, by rw [List.length_append, List.length_singleton]; omega, by rw [psh_snoc]; exact hp⟩
  · rw [rI_sI_ne _ _ _ (by decide), rI_sI_ne _ _ _ (by decide)]
  · rw [rI_sI_ne _ _ _ (by decide), rI_sI_ne _ _ _ (by decide)]
  · rw [rI_sI_ne _ _ _ (by decide), rI_sI_ne _ _ _ (by decide)]; exact h2
  · rw [rI_sI_ne _ _ _ (by decide), rI_sI_ne _ _ _ (by decide)]; exact h3
theorem RdI.part (h : RdI w t o f p c) (hp : p < 50) : RdI (sI w 25 3 (nI (p + 1))) t o f (p + 1) c := by
  obtain ⟨h1, h2, h3, h4, h5, h6, h7⟩ := h
  exact ⟨h1.o (rI_sI_ne _ _ _ (by decide)) (rI_sI_ne _ _ _ (by decide)), by rw [rI_sI, upd_eq, if_neg (by decide)]; exact h2, by rw [rI_sI, upd_eq, if_pos rfl], h4.fr rfl (by rw [rI_sI_ne _ _ _ (by decide)]) (rI_sI_ne _ _ _ (by decide)), by omega, by omega, by omega⟩
end
/-- what reading comes to -/
def ExQ (w w2 : Mem) (t : List Nat) (o : Bool) (c : List (Nat × Nat)) (f p : Nat) (x : ResT) (r : Option Value) : Prop := FrRd w w2 ∧ match x with
  | .inl e => r = some (.int (nI 0)) ∧ rI w2 25 4 = nI e
  | .inr y => r = some (.int (nI 1)) ∧ rI w2 25 4 = rI w 25 4 ∧ ∃ s, RdI w2 t o y.1 y.2.1 (c ++ s) ∧ SegL (c ++ s) c.length (c ++ s).length y.2.2 ∧ OkX o (c ++ s) c.length ∧ 3 * (c ++ s).length + 3 + 6 * p + f ≤ 3 * c.length + 6 * y.2.1 + y.1
theorem c_Le_wordHere {E : EV} {w : Mem} {t : List Nat} {f : Nat} (hT : TkD w t f) : T E m_Le_wordHere 5 0 0 [.ref 26] w (fun r w2 => ((∃ k, k < (partsL false).length ∧ isW t f (gA2 (partsL false) k) ∧ r = some (.int (nI k))) ∨ (r = some (.int (-1)) ∧ ∀ k, k < (partsL false).length → ¬ isW t f (gA2 (partsL false) k))) ∧ w2 = w) := by
  refine T_of (L := [.ref 26]) cf_Le_wordHere rfl (Nat.le_of_ble_eq_true rfl) (fun X hX hF => ?_)
  refine g_aload0 hX d_Le_wordHere_0 ?_
  refine g_ldcS (i := 10) (tx := "vertex") hX d_Le_wordHere_1 (by decide) ?_
  refine g_callV (As := [_]) hX hF.1 d_Le_wordHere_3 ml_Le_27 cf_Ta_isWord cv_Ta_isWord rfl rfl (c_Ta_isWord (i := 10) (wd := wVertex) (by decide) (strW_all.2.2.2.2.2.2.2.2.2.2.1) hT) (rcv_obj hX (lv_26 _) rfl rfl) (by omega) (by omega) (by omega) (Nat.le_of_ble_eq_true rfl) ?_
  refine ret_k ?_
  refine g_ifB_eq hX d_Le_wordHere_6 (fun e0 => ?_) (fun e0 => ?_)
  · refine g_aload0 hX d_Le_wordHere_11 ?_
    refine g_ldcS (i := 11) (tx := "node") hX d_Le_wordHere_12 (by decide) ?_
    refine g_callV (As := [_]) hX hF.1 d_Le_wordHere_14 ml_Le_27 cf_Ta_isWord cv_Ta_isWord rfl rfl (c_Ta_isWord (i := 11) (wd := wNode) (by decide) (strW_all.2.2.2.2.2.2.2.2.2.2.2.1) hT) (rcv_obj hX (lv_26 _) rfl rfl) (by omega) (by omega) (by omega) (Nat.le_of_ble_eq_true rfl) ?_
    refine ret_k ?_
    refine g_ifB_eq hX d_Le_wordHere_17 (fun e1 => ?_) (fun e1 => ?_)
    · refine g_aload0 hX d_Le_wordHere_22 ?_
      refine g_ldcS (i := 12) (tx := "colour") hX d_Le_wordHere_23 (by decide) ?_
      refine g_callV (As := [_]) hX hF.1 d_Le_wordHere_25 ml_Le_27 cf_Ta_isWord cv_Ta_isWord rfl rfl (c_Ta_isWord (i := 12) (wd := wColour) (by decide) (strW_all.2.2.2.2.2.2.2.2.2.2.2.2.1) hT) (rcv_obj hX (lv_26 _) rfl rfl) (by omega) (by omega) (by omega) (Nat.le_of_ble_eq_true rfl) ?_
      refine ret_k ?_
      refine g_ifB_eq hX d_Le_wordHere_28 (fun e2 => ?_) (fun e2 => ?_)
      · refine g_aload0 hX d_Le_wordHere_33 ?_
        refine g_ldcS (i := 9) (tx := "degree") hX d_Le_wordHere_34 (by decide) ?_
        refine g_callV (As := [_]) hX hF.1 d_Le_wordHere_36 ml_Le_27 cf_Ta_isWord cv_Ta_isWord rfl rfl (c_Ta_isWord (i := 9) (wd := wDegree) (by decide) (strW_all.2.2.2.2.2.2.2.2.2.1) hT) (rcv_obj hX (lv_26 _) rfl rfl) (by omega) (by omega) (by omega) (Nat.le_of_ble_eq_true rfl) ?_
        refine ret_k ?_
        refine g_ifB_eq hX d_Le_wordHere_39 (fun e3 => ?_) (fun e3 => ?_)
        · refine g_aload0 hX d_Le_wordHere_44 ?_
          refine g_ldcS (i := 13) (tx := "links") hX d_Le_wordHere_45 (by decide) ?_
          refine g_callV (As := [_]) hX hF.1 d_Le_wordHere_47 ml_Le_27 cf_Ta_isWord cv_Ta_isWord rfl rfl (c_Ta_isWord (i := 13) (wd := wLinks) (by decide) (strW_all.2.2.2.2.2.2.2.2.2.2.2.2.2.1) hT) (rcv_obj hX (lv_26 _) rfl rfl) (by omega) (by omega) (by omega) (Nat.le_of_ble_eq_true rfl) ?_
          refine ret_k ?_
          refine g_ifB_eq hX d_Le_wordHere_50 (fun e4 => ?_) (fun e4 => ?_)
          · refine g_aload0 hX d_Le_wordHere_55 ?_
            refine g_ldcS (i := 4) (tx := "time") hX d_Le_wordHere_56 (by decide) ?_
            refine g_callV (As := [_]) hX hF.1 d_Le_wordHere_58 ml_Le_27 cf_Ta_isWord cv_Ta_isWord rfl rfl (c_Ta_isWord (i := 4) (wd := wTime) (by decide) (strW_all.2.2.2.2.1) hT) (rcv_obj hX (lv_26 _) rfl rfl) (by omega) (by omega) (by omega) (Nat.le_of_ble_eq_true rfl) ?_
            refine ret_k ?_
            refine g_ifB_eq hX d_Le_wordHere_61 (fun e5 => ?_) (fun e5 => ?_)
            · refine g_aload0 hX d_Le_wordHere_66 ?_
              refine g_ldcS (i := 14) (tx := "mood") hX d_Le_wordHere_67 (by decide) ?_
              refine g_callV (As := [_]) hX hF.1 d_Le_wordHere_69 ml_Le_27 cf_Ta_isWord cv_Ta_isWord rfl rfl (c_Ta_isWord (i := 14) (wd := wMood) (by decide) (strW_all.2.2.2.2.2.2.2.2.2.2.2.2.2.2.1) hT) (rcv_obj hX (lv_26 _) rfl rfl) (by omega) (by omega) (by omega) (Nat.le_of_ble_eq_true rfl) ?_
              refine ret_k ?_
              refine g_ifB_eq hX d_Le_wordHere_72 (fun e6 => ?_) (fun e6 => ?_)
              · refine g_iconst (v := -1) hX d_Le_wordHere_80 rfl ?_
                refine g_iret hX hF d_Le_wordHere_81 (by omega) (by omega) ?_
                first
                | exact ⟨Or.inl ⟨6, by decide, e6, rfl⟩, rfl⟩
                | (refine ⟨Or.inr ⟨rfl, fun k hk => ?_⟩, rfl⟩
                   have hk : k < 7 := hk
                   have : k = 0 ∨ k = 1 ∨ k = 2 ∨ k = 3 ∨ k = 4 ∨ k = 5 ∨ k = 6 := by omega
                   rcases this with rfl | rfl | rfl | rfl | rfl | rfl | rfl
                   · exact e0
                   · exact e1
                   · exact e2
                   · exact e3
                   · exact e4
                   · exact e5
                   · exact e6)
              · refine g_bipush (v := nI 6) hX d_Le_wordHere_75 rfl ?_
                refine g_goto hX d_Le_wordHere_77 ?_
                refine g_iret hX hF d_Le_wordHere_81 (by omega) (by omega) ?_
                first
                | exact ⟨Or.inl ⟨6, by decide, e6, rfl⟩, rfl⟩
                | (refine ⟨Or.inr ⟨rfl, fun k hk => ?_⟩, rfl⟩
                   have hk : k < 7 := hk
                   have : k = 0 ∨ k = 1 ∨ k = 2 ∨ k = 3 ∨ k = 4 ∨ k = 5 ∨ k = 6 := by omega
                   rcases this with rfl | rfl | rfl | rfl | rfl | rfl | rfl
                   · exact e0
                   · exact e1
                   · exact e2
                   · exact e3
                   · exact e4
                   · exact e5
                   · exact e6)
            · refine g_iconst (v := nI 5) hX d_Le_wordHere_64 rfl ?_
              refine g_iret hX hF d_Le_wordHere_65 (by omega) (by omega) ?_
              exact ⟨Or.inl ⟨5, by decide, e5, rfl⟩, rfl⟩
          · refine g_iconst (v := nI 4) hX d_Le_wordHere_53 rfl ?_
            refine g_iret hX hF d_Le_wordHere_54 (by omega) (by omega) ?_
            exact ⟨Or.inl ⟨4, by decide, e4, rfl⟩, rfl⟩
        · refine g_iconst (v := nI 3) hX d_Le_wordHere_42 rfl ?_
          refine g_iret hX hF d_Le_wordHere_43 (by omega) (by omega) ?_
          exact ⟨Or.inl ⟨3, by decide, e3, rfl⟩, rfl⟩
      · refine g_iconst (v := nI 2) hX d_Le_wordHere_31 rfl ?_
        refine g_iret hX hF d_Le_wordHere_32 (by omega) (by omega) ?_
        exact ⟨Or.inl ⟨2, by decide, e2, rfl⟩, rfl⟩
    · refine g_iconst (v := nI 1) hX d_Le_wordHere_20 rfl ?_
      refine g_iret hX hF d_Le_wordHere_21 (by omega) (by omega) ?_
      exact ⟨Or.inl ⟨1, by decide, e1, rfl⟩, rfl⟩
  · refine g_iconst (v := nI 0) hX d_Le_wordHere_9 rfl ?_
    refine g_iret hX hF d_Le_wordHere_10 (by omega) (by omega) ?_
    exact ⟨Or.inl ⟨0, by decide, e0, rfl⟩, rfl⟩
theorem c_Ru_wordHere {E : EV} {w : Mem} {t : List Nat} {f : Nat} (hT : TkD w t f) : T E m_Ru_wordHere 5 0 0 [.ref 26] w (fun r w2 => ((∃ k, k < (partsL true).length ∧ isW t f (gA2 (partsL true) k) ∧ r = some (.int (nI k))) ∨ (r = some (.int (-1)) ∧ ∀ k, k < (partsL true).length → ¬ isW t f (gA2 (partsL true) k))) ∧ w2 = w) := by
  refine T_of (L := [.ref 26]) cf_Ru_wordHere rfl (Nat.le_of_ble_eq_true rfl) (fun X hX hF => ?_)
  refine g_aload0 hX d_Ru_wordHere_0 ?_
  refine g_ldcS (i := 4) (tx := "time") hX d_Ru_wordHere_1 (by decide) ?_
  refine g_callV (As := [_]) hX hF.1 d_Ru_wordHere_3 ml_Ru_55 cf_Ta_isWord cv_Ta_isWord rfl rfl (c_Ta_isWord (i := 4) (wd := wTime) (by decide) (strW_all.2.2.2.2.1) hT) (rcv_obj hX (lv_26 _) rfl rfl) (by omega) (by omega) (by omega) (Nat.le_of_ble_eq_true rfl) ?_
  refine ret_k ?_
  refine g_ifB_eq hX d_Ru_wordHere_6 (fun e0 => ?_) (fun e0 => ?_)
  · refine g_aload0 hX d_Ru_wordHere_11 ?_
    refine g_ldcS (i := 5) (tx := "done") hX d_Ru_wordHere_12 (by decide) ?_
    refine g_callV (As := [_]) hX hF.1 d_Ru_wordHere_14 ml_Ru_55 cf_Ta_isWord cv_Ta_isWord rfl rfl (c_Ta_isWord (i := 5) (wd := wDone) (by decide) (strW_all.2.2.2.2.2.1) hT) (rcv_obj hX (lv_26 _) rfl rfl) (by omega) (by omega) (by omega) (Nat.le_of_ble_eq_true rfl) ?_
    refine ret_k ?_
    refine g_ifB_eq hX d_Ru_wordHere_17 (fun e1 => ?_) (fun e1 => ?_)
    · refine g_aload0 hX d_Ru_wordHere_22 ?_
      refine g_ldcS (i := 6) (tx := "latest") hX d_Ru_wordHere_23 (by decide) ?_
      refine g_callV (As := [_]) hX hF.1 d_Ru_wordHere_25 ml_Ru_55 cf_Ta_isWord cv_Ta_isWord rfl rfl (c_Ta_isWord (i := 6) (wd := wLatest) (by decide) (strW_all.2.2.2.2.2.2.1) hT) (rcv_obj hX (lv_26 _) rfl rfl) (by omega) (by omega) (by omega) (Nat.le_of_ble_eq_true rfl) ?_
      refine ret_k ?_
      refine g_ifB_eq hX d_Ru_wordHere_28 (fun e2 => ?_) (fun e2 => ?_)
      · refine g_aload0 hX d_Ru_wordHere_33 ?_
        refine g_ldcS (i := 7) (tx := "edges") hX d_Ru_wordHere_34 (by decide) ?_
        refine g_callV (As := [_]) hX hF.1 d_Ru_wordHere_36 ml_Ru_55 cf_Ta_isWord cv_Ta_isWord rfl rfl (c_Ta_isWord (i := 7) (wd := wEdges) (by decide) (strW_all.2.2.2.2.2.2.2.1) hT) (rcv_obj hX (lv_26 _) rfl rfl) (by omega) (by omega) (by omega) (Nat.le_of_ble_eq_true rfl) ?_
        refine ret_k ?_
        refine g_ifB_eq hX d_Ru_wordHere_39 (fun e3 => ?_) (fun e3 => ?_)
        · refine g_aload0 hX d_Ru_wordHere_44 ?_
          refine g_ldcS (i := 8) (tx := "ways") hX d_Ru_wordHere_45 (by decide) ?_
          refine g_callV (As := [_]) hX hF.1 d_Ru_wordHere_47 ml_Ru_55 cf_Ta_isWord cv_Ta_isWord rfl rfl (c_Ta_isWord (i := 8) (wd := wWays) (by decide) (strW_all.2.2.2.2.2.2.2.2.1) hT) (rcv_obj hX (lv_26 _) rfl rfl) (by omega) (by omega) (by omega) (Nat.le_of_ble_eq_true rfl) ?_
          refine ret_k ?_
          refine g_ifB_eq hX d_Ru_wordHere_50 (fun e4 => ?_) (fun e4 => ?_)
          · refine g_aload0 hX d_Ru_wordHere_55 ?_
            refine g_ldcS (i := 9) (tx := "degree") hX d_Ru_wordHere_56 (by decide) ?_
            refine g_callV (As := [_]) hX hF.1 d_Ru_wordHere_58 ml_Ru_55 cf_Ta_isWord cv_Ta_isWord rfl rfl (c_Ta_isWord (i := 9) (wd := wDegree) (by decide) (strW_all.2.2.2.2.2.2.2.2.2.1) hT) (rcv_obj hX (lv_26 _) rfl rfl) (by omega) (by omega) (by omega) (Nat.le_of_ble_eq_true rfl) ?_
            refine ret_k ?_
            refine g_ifB_eq hX d_Ru_wordHere_61 (fun e5 => ?_) (fun e5 => ?_)
            · refine g_iconst (v := -1) hX d_Ru_wordHere_68 rfl ?_
              refine g_iret hX hF d_Ru_wordHere_69 (by omega) (by omega) ?_
              first
              | exact ⟨Or.inl ⟨5, by decide, e5, rfl⟩, rfl⟩
              | (refine ⟨Or.inr ⟨rfl, fun k hk => ?_⟩, rfl⟩
                 have hk : k < 6 := hk
                 have : k = 0 ∨ k = 1 ∨ k = 2 ∨ k = 3 ∨ k = 4 ∨ k = 5 := by omega
                 rcases this with rfl | rfl | rfl | rfl | rfl | rfl
                 · exact e0
                 · exact e1
                 · exact e2
                 · exact e3
                 · exact e4
                 · exact e5)
            · refine g_iconst (v := nI 5) hX d_Ru_wordHere_64 rfl ?_
              refine g_goto hX d_Ru_wordHere_65 ?_
              refine g_iret hX hF d_Ru_wordHere_69 (by omega) (by omega) ?_
              first
              | exact ⟨Or.inl ⟨5, by decide, e5, rfl⟩, rfl⟩
              | (refine ⟨Or.inr ⟨rfl, fun k hk => ?_⟩, rfl⟩
                 have hk : k < 6 := hk
                 have : k = 0 ∨ k = 1 ∨ k = 2 ∨ k = 3 ∨ k = 4 ∨ k = 5 := by omega
                 rcases this with rfl | rfl | rfl | rfl | rfl | rfl
                 · exact e0
                 · exact e1
                 · exact e2
                 · exact e3
                 · exact e4
                 · exact e5)
          · refine g_iconst (v := nI 4) hX d_Ru_wordHere_53 rfl ?_
            refine g_iret hX hF d_Ru_wordHere_54 (by omega) (by omega) ?_
            exact ⟨Or.inl ⟨4, by decide, e4, rfl⟩, rfl⟩
        · refine g_iconst (v := nI 3) hX d_Ru_wordHere_42 rfl ?_
          refine g_iret hX hF d_Ru_wordHere_43 (by omega) (by omega) ?_
          exact ⟨Or.inl ⟨3, by decide, e3, rfl⟩, rfl⟩
      · refine g_iconst (v := nI 2) hX d_Ru_wordHere_31 rfl ?_
        refine g_iret hX hF d_Ru_wordHere_32 (by omega) (by omega) ?_
        exact ⟨Or.inl ⟨2, by decide, e2, rfl⟩, rfl⟩
    · refine g_iconst (v := nI 1) hX d_Ru_wordHere_20 rfl ?_
      refine g_iret hX hF d_Ru_wordHere_21 (by omega) (by omega) ?_
      exact ⟨Or.inl ⟨1, by decide, e1, rfl⟩, rfl⟩
  · refine g_iconst (v := nI 0) hX d_Ru_wordHere_9 rfl ?_
    refine g_iret hX hF d_Ru_wordHere_10 (by omega) (by omega) ?_
    exact ⟨Or.inl ⟨0, by decide, e0, rfl⟩, rfl⟩
theorem c_Re_fail {E : EV} {w : Mem} {t : List Nat} {f : Nat} (hT : TkD w t f) : T E m_Re_fail 0 0 0 [.ref 25] w (Ret (some (.int (nI 0))) (sI w 25 4 (nI f))) := by
  refine T_of (L := [.ref 25]) cf_Re_fail rfl (Nat.le_of_ble_eq_true rfl) (fun X hX hF => ?_)
  refine g_aload0 hX d_Re_fail_0 ?_
  refine g_aload0 hX d_Re_fail_1 ?_
  refine g_getF hX d_Re_fail_2 fl_Re_12 (lv_25 _) ?_
  refine g_getI hX d_Re_fail_5 fl_Re_31 (lv_26 _) ?_
  refine g_topi hT.2.1 ?_
  refine g_putI hX d_Re_fail_8 fl_Re_27 (lv_25 _) ?_
  refine g_iconst (v := nI 0) hX d_Re_fail_11 rfl ?_
  refine g_zret hX hF d_Re_fail_12 (Or.inl rfl) (by omega) (by omega) ?_
  exact ⟨rfl, rfl⟩
theorem sgn_sgT0 {t : List Nat} {f : Nat} (e0 : isS t f 42) : sgn t f sgT = some 22 := by
  unfold sgn sgT
  rw [List.find?_cons_of_pos (by exact decide_eq_true e0)]
  rfl
theorem sgn_sgT1 {t : List Nat} {f : Nat} (e0 : ¬ isS t f 42) (e1 : isS t f 47) : sgn t f sgT = some 23 := by
  unfold sgn sgT
  rw [List.find?_cons_of_neg (by rw [decide_eq_true_iff]; exact e0), List.find?_cons_of_pos (by exact decide_eq_true e1)]
  rfl
theorem sgn_sgT2 {t : List Nat} {f : Nat} (e0 : ¬ isS t f 42) (e1 : ¬ isS t f 47) (e2 : isS t f 37) : sgn t f sgT = some 24 := by
  unfold sgn sgT
  rw [List.find?_cons_of_neg (by rw [decide_eq_true_iff]; exact e0), List.find?_cons_of_neg (by rw [decide_eq_true_iff]; exact e1), List.find?_cons_of_pos (by exact decide_eq_true e2)]
  rfl
theorem sgn_sgTn {t : List Nat} {f : Nat} (e0 : ¬ isS t f 42) (e1 : ¬ isS t f 47) (e2 : ¬ isS t f 37) : sgn t f sgT = none := by
  unfold sgn sgT
  rw [List.find?_cons_of_neg (by rw [decide_eq_true_iff]; exact e0), List.find?_cons_of_neg (by rw [decide_eq_true_iff]; exact e1), List.find?_cons_of_neg (by rw [decide_eq_true_iff]; exact e2), List.find?_nil]
  rfl
theorem sgn_sgC0 {t : List Nat} {f : Nat} (e0 : isS t f 60) : sgn t f sgC = some 25 := by
  unfold sgn sgC
  rw [List.find?_cons_of_pos (by exact decide_eq_true e0)]
  rfl
theorem sgn_sgC1 {t : List Nat} {f : Nat} (e0 : ¬ isS t f 60) (e1 : isS t f 62) : sgn t f sgC = some 26 := by
  unfold sgn sgC
  rw [List.find?_cons_of_neg (by rw [decide_eq_true_iff]; exact e0), List.find?_cons_of_pos (by exact decide_eq_true e1)]
  rfl
theorem sgn_sgC2 {t : List Nat} {f : Nat} (e0 : ¬ isS t f 60) (e1 : ¬ isS t f 62) (e2 : isS t f 61) : sgn t f sgC = some 27 := by
  unfold sgn sgC
  rw [List.find?_cons_of_neg (by rw [decide_eq_true_iff]; exact e0), List.find?_cons_of_neg (by rw [decide_eq_true_iff]; exact e1), List.find?_cons_of_pos (by exact decide_eq_true e2)]
  rfl
theorem sgn_sgCn {t : List Nat} {f : Nat} (e0 : ¬ isS t f 60) (e1 : ¬ isS t f 62) (e2 : ¬ isS t f 61) : sgn t f sgC = none := by
  unfold sgn sgC
  rw [List.find?_cons_of_neg (by rw [decide_eq_true_iff]; exact e0), List.find?_cons_of_neg (by rw [decide_eq_true_iff]; exact e1), List.find?_cons_of_neg (by rw [decide_eq_true_iff]; exact e2), List.find?_nil]
  rfl
theorem sgn_sgA0 {t : List Nat} {f : Nat} (e0 : isS t f 43) : sgn t f sgA = some 20 := by
  unfold sgn sgA
  rw [List.find?_cons_of_pos (by exact decide_eq_true e0)]
  rfl
theorem sgn_sgA1 {t : List Nat} {f : Nat} (e0 : ¬ isS t f 43) (e1 : isS t f 45) : sgn t f sgA = some 21 := by
  unfold sgn sgA
  rw [List.find?_cons_of_neg (by rw [decide_eq_true_iff]; exact e0), List.find?_cons_of_pos (by exact decide_eq_true e1)]
  rfl
theorem sgn_sgAn {t : List Nat} {f : Nat} (e0 : ¬ isS t f 43) (e1 : ¬ isS t f 45) : sgn t f sgA = none := by
  unfold sgn sgA
  rw [List.find?_cons_of_neg (by rw [decide_eq_true_iff]; exact e0), List.find?_cons_of_neg (by rw [decide_eq_true_iff]; exact e1), List.find?_nil]
  rfl
theorem c_Re_termSign {E : EV} {w : Mem} {t : List Nat} {f : Nat} (hT : TkD w t f) : T E m_Re_termSign 1 0 0 [.ref 25] w (fun r w2 => ((∃ q v : Nat, sgn t f sgT = some q ∧ v + 18 = q ∧ r = some (.int (nI v))) ∨ (sgn t f sgT = none ∧ r = some (.int (-1)))) ∧ w2 = w) := by
  refine T_of (L := [.ref 25]) cf_Re_termSign rfl (Nat.le_of_ble_eq_true rfl) (fun X hX hF => ?_)
  refine g_aload0 hX d_Re_termSign_0 ?_
  refine g_getF hX d_Re_termSign_1 fl_Re_12 (lv_25 _) ?_
  refine g_bipush (v := nI 42) hX d_Re_termSign_4 rfl ?_
  refine g_callV (As := [_]) hX hF.1 d_Re_termSign_6 ml_Re_60 cf_Ta_isSign cv_Ta_isSign rfl rfl (c_Ta_isSign (by decide) hT) (rcv_obj hX (lv_26 _) rfl rfl) (by omega) (by omega) (by omega) (Nat.le_of_ble_eq_true rfl) ?_
  refine ret_k ?_
  refine g_ifB_eq hX d_Re_termSign_9 (fun e0 => ?_) (fun e0 => ?_)
  · refine g_aload0 hX d_Re_termSign_14 ?_
    refine g_getF hX d_Re_termSign_15 fl_Re_12 (lv_25 _) ?_
    refine g_bipush (v := nI 47) hX d_Re_termSign_18 rfl ?_
    refine g_callV (As := [_]) hX hF.1 d_Re_termSign_20 ml_Re_60 cf_Ta_isSign cv_Ta_isSign rfl rfl (c_Ta_isSign (by decide) hT) (rcv_obj hX (lv_26 _) rfl rfl) (by omega) (by omega) (by omega) (Nat.le_of_ble_eq_true rfl) ?_
    refine ret_k ?_
    refine g_ifB_eq hX d_Re_termSign_23 (fun e1 => ?_) (fun e1 => ?_)
    · refine g_aload0 hX d_Re_termSign_28 ?_
      refine g_getF hX d_Re_termSign_29 fl_Re_12 (lv_25 _) ?_
      refine g_bipush (v := nI 37) hX d_Re_termSign_32 rfl ?_
      refine g_callV (As := [_]) hX hF.1 d_Re_termSign_34 ml_Re_60 cf_Ta_isSign cv_Ta_isSign rfl rfl (c_Ta_isSign (by decide) hT) (rcv_obj hX (lv_26 _) rfl rfl) (by omega) (by omega) (by omega) (Nat.le_of_ble_eq_true rfl) ?_
      refine ret_k ?_
      refine g_ifB_eq hX d_Re_termSign_37 (fun e2 => ?_) (fun e2 => ?_)
      · refine g_iconst (v := -1) hX d_Re_termSign_45 rfl ?_
        refine g_iret hX hF d_Re_termSign_46 (by omega) (by omega) ?_
        first
        | exact ⟨Or.inl ⟨24, 6, sgn_sgT2 e0 e1 e2, by decide, rfl⟩, rfl⟩
        | exact ⟨Or.inr ⟨sgn_sgTn e0 e1 e2, rfl⟩, rfl⟩
      · refine g_bipush (v := nI 6) hX d_Re_termSign_40 rfl ?_
        refine g_goto hX d_Re_termSign_42 ?_
        refine g_iret hX hF d_Re_termSign_46 (by omega) (by omega) ?_
        first
        | exact ⟨Or.inl ⟨24, 6, sgn_sgT2 e0 e1 e2, by decide, rfl⟩, rfl⟩
        | exact ⟨Or.inr ⟨sgn_sgTn e0 e1 e2, rfl⟩, rfl⟩
    · refine g_iconst (v := nI 5) hX d_Re_termSign_26 rfl ?_
      refine g_iret hX hF d_Re_termSign_27 (by omega) (by omega) ?_
      exact ⟨Or.inl ⟨23, 5, sgn_sgT1 e0 e1, by decide, rfl⟩, rfl⟩
  · refine g_iconst (v := nI 4) hX d_Re_termSign_12 rfl ?_
    refine g_iret hX hF d_Re_termSign_13 (by omega) (by omega) ?_
    exact ⟨Or.inl ⟨22, 4, sgn_sgT0 e0, by decide, rfl⟩, rfl⟩
theorem c_Re_comparisonHere {E : EV} {w : Mem} {t : List Nat} {f : Nat} (hT : TkD w t f) : T E m_Re_comparisonHere 1 0 0 [.ref 25] w (fun r w2 => ((∃ q v : Nat, sgn t f sgC = some q ∧ v + 18 = q ∧ r = some (.int (nI v))) ∨ (sgn t f sgC = none ∧ r = some (.int (-1)))) ∧ w2 = w) := by
  refine T_of (L := [.ref 25]) cf_Re_comparisonHere rfl (Nat.le_of_ble_eq_true rfl) (fun X hX hF => ?_)
  refine g_aload0 hX d_Re_comparisonHere_0 ?_
  refine g_getF hX d_Re_comparisonHere_1 fl_Re_12 (lv_25 _) ?_
  refine g_bipush (v := nI 60) hX d_Re_comparisonHere_4 rfl ?_
  refine g_callV (As := [_]) hX hF.1 d_Re_comparisonHere_6 ml_Re_60 cf_Ta_isSign cv_Ta_isSign rfl rfl (c_Ta_isSign (by decide) hT) (rcv_obj hX (lv_26 _) rfl rfl) (by omega) (by omega) (by omega) (Nat.le_of_ble_eq_true rfl) ?_
  refine ret_k ?_
  refine g_ifB_eq hX d_Re_comparisonHere_9 (fun e0 => ?_) (fun e0 => ?_)
  · refine g_aload0 hX d_Re_comparisonHere_15 ?_
    refine g_getF hX d_Re_comparisonHere_16 fl_Re_12 (lv_25 _) ?_
    refine g_bipush (v := nI 62) hX d_Re_comparisonHere_19 rfl ?_
    refine g_callV (As := [_]) hX hF.1 d_Re_comparisonHere_21 ml_Re_60 cf_Ta_isSign cv_Ta_isSign rfl rfl (c_Ta_isSign (by decide) hT) (rcv_obj hX (lv_26 _) rfl rfl) (by omega) (by omega) (by omega) (Nat.le_of_ble_eq_true rfl) ?_
    refine ret_k ?_
    refine g_ifB_eq hX d_Re_comparisonHere_24 (fun e1 => ?_) (fun e1 => ?_)
    · refine g_aload0 hX d_Re_comparisonHere_30 ?_
      refine g_getF hX d_Re_comparisonHere_31 fl_Re_12 (lv_25 _) ?_
      refine g_bipush (v := nI 61) hX d_Re_comparisonHere_34 rfl ?_
      refine g_callV (As := [_]) hX hF.1 d_Re_comparisonHere_36 ml_Re_60 cf_Ta_isSign cv_Ta_isSign rfl rfl (c_Ta_isSign (by decide) hT) (rcv_obj hX (lv_26 _) rfl rfl) (by omega) (by omega) (by omega) (Nat.le_of_ble_eq_true rfl) ?_
      refine ret_k ?_
      refine g_ifB_eq hX d_Re_comparisonHere_39 (fun e2 => ?_) (fun e2 => ?_)
      · refine g_iconst (v := -1) hX d_Re_comparisonHere_47 rfl ?_
        refine g_iret hX hF d_Re_comparisonHere_48 (by omega) (by omega) ?_
        first
        | exact ⟨Or.inl ⟨27, 9, sgn_sgC2 e0 e1 e2, by decide, rfl⟩, rfl⟩
        | exact ⟨Or.inr ⟨sgn_sgCn e0 e1 e2, rfl⟩, rfl⟩
      · refine g_bipush (v := nI 9) hX d_Re_comparisonHere_42 rfl ?_
        refine g_goto hX d_Re_comparisonHere_44 ?_
        refine g_iret hX hF d_Re_comparisonHere_48 (by omega) (by omega) ?_
        first
        | exact ⟨Or.inl ⟨27, 9, sgn_sgC2 e0 e1 e2, by decide, rfl⟩, rfl⟩
        | exact ⟨Or.inr ⟨sgn_sgCn e0 e1 e2, rfl⟩, rfl⟩
    · refine g_bipush (v := nI 8) hX d_Re_comparisonHere_27 rfl ?_
      refine g_iret hX hF d_Re_comparisonHere_29 (by omega) (by omega) ?_
      exact ⟨Or.inl ⟨26, 8, sgn_sgC1 e0 e1, by decide, rfl⟩, rfl⟩
  · refine g_bipush (v := nI 7) hX d_Re_comparisonHere_12 rfl ?_
    refine g_iret hX hF d_Re_comparisonHere_14 (by omega) (by omega) ?_
    exact ⟨Or.inl ⟨25, 7, sgn_sgC0 e0, by decide, rfl⟩, rfl⟩
