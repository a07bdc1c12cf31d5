def m_Re_readBoth : MR := (⟨"SubgraphDesk$Reader", "readBoth", "(I)Z"⟩, prog_8_method_11_code, 4, (some .boolean))
theorem cf_Re_readBoth : CF m_Re_readBoth 1 := ⟨gd 957 (by decide +kernel) rfl, gd 142 (by decide +kernel) rfl, by decide +kernel, by decide, by decide +kernel⟩
theorem cv_Re_readBoth : CV m_Re_readBoth := ⟨gd 956 (by decide +kernel) rfl, gd 17 (by decide +kernel) rfl⟩
def m_Re_readPart : MR := (⟨"SubgraphDesk$Reader", "readPart", "(I)Z"⟩, prog_8_method_20_code, 3, (some .boolean))
theorem cf_Re_readPart : CF m_Re_readPart 1 := ⟨gd 890 (by decide +kernel) rfl, gd 142 (by decide +kernel) rfl, by decide +kernel, by decide, by decide +kernel⟩
theorem cv_Re_readPart : CV m_Re_readPart := ⟨gd 889 (by decide +kernel) rfl, gd 10 (by decide +kernel) rfl⟩
def m_Re_readPlain : MR := (⟨"SubgraphDesk$Reader", "readPlain", "(I)Z"⟩, prog_8_method_12_code, 4, (some .boolean))
theorem cf_Re_readPlain : CF m_Re_readPlain 1 := ⟨gd 961 (by decide +kernel) rfl, gd 142 (by decide +kernel) rfl, by decide +kernel, by decide, by decide +kernel⟩
theorem cv_Re_readPlain : CV m_Re_readPlain := ⟨gd 960 (by decide +kernel) rfl, gd 18 (by decide +kernel) rfl⟩
def m_Re_readSum : MR := (⟨"SubgraphDesk$Reader", "readSum", "(I)Z"⟩, prog_8_method_16_code, 4, (some .boolean))
theorem cf_Re_readSum : CF m_Re_readSum 1 := ⟨gd 882 (by decide +kernel) rfl, gd 142 (by decide +kernel) rfl, by decide +kernel, by decide, by decide +kernel⟩
theorem cv_Re_readSum : CV m_Re_readSum := ⟨gd 881 (by decide +kernel) rfl, gd 8 (by decide +kernel) rfl⟩
def m_Re_readTerm : MR := (⟨"SubgraphDesk$Reader", "readTerm", "(I)Z"⟩, prog_8_method_17_code, 4, (some .boolean))
theorem cf_Re_readTerm : CF m_Re_readTerm 1 := ⟨gd 886 (by decide +kernel) rfl, gd 142 (by decide +kernel) rfl, by decide +kernel, by decide, by decide +kernel⟩
theorem cv_Re_readTerm : CV m_Re_readTerm := ⟨gd 885 (by decide +kernel) rfl, gd 9 (by decide +kernel) rfl⟩
def m_Re_readTest : MR := (⟨"SubgraphDesk$Reader", "readTest", "(I)Z"⟩, prog_8_method_10_code, 4, (some .boolean))
theorem cf_Re_readTest : CF m_Re_readTest 1 := ⟨gd 953 (by decide +kernel) rfl, gd 142 (by decide +kernel) rfl, by decide +kernel, by decide, by decide +kernel⟩
theorem cv_Re_readTest : CV m_Re_readTest := ⟨gd 952 (by decide +kernel) rfl, gd 16 (by decide +kernel) rfl⟩
theorem d_Re_readBoth_0 : Dc prog_8_method_11_code 0 (.aload_n 0) 1 1 := ⟨by decide +kernel, rfl⟩
theorem d_Re_readBoth_1 : Dc prog_8_method_11_code 1 (.iload_n 1) 1 2 := ⟨by decide +kernel, rfl⟩
theorem d_Re_readBoth_2 : Dc prog_8_method_11_code 2 (.invokevirtual 142) 3 5 := ⟨by decide +kernel, rfl⟩
theorem d_Re_readBoth_5 : Dj prog_8_method_11_code 5 (.ifCond .ne 5) 8 5 10 := ⟨by decide +kernel, rfl, rfl⟩
theorem d_Re_readBoth_8 : Dc prog_8_method_11_code 8 (.iconst 0) 1 9 := ⟨by decide +kernel, rfl⟩
theorem d_Re_readBoth_9 : Dc prog_8_method_11_code 9 (.ireturn) 1 10 := ⟨by decide +kernel, rfl⟩
theorem d_Re_readBoth_10 : Dc prog_8_method_11_code 10 (.iconst 0) 1 11 := ⟨by decide +kernel, rfl⟩
theorem d_Re_readBoth_11 : Dc prog_8_method_11_code 11 (.istore_n 2) 1 12 := ⟨by decide +kernel, rfl⟩
theorem d_Re_readBoth_12 : Dc prog_8_method_11_code 12 (.iload_n 2) 1 13 := ⟨by decide +kernel, rfl⟩
theorem d_Re_readBoth_13 : Dc prog_8_method_11_code 13 (.sipush 400) 3 16 := ⟨by decide +kernel, rfl⟩
theorem d_Re_readBoth_16 : Dj prog_8_method_11_code 16 (.if_icmp .ge 57) 19 57 73 := ⟨by decide +kernel, rfl, rfl⟩
theorem d_Re_readBoth_19 : Dc prog_8_method_11_code 19 (.aload_n 0) 1 20 := ⟨by decide +kernel, rfl⟩
theorem d_Re_readBoth_20 : Dc prog_8_method_11_code 20 (.getfield 12) 3 23 := ⟨by decide +kernel, rfl⟩
theorem d_Re_readBoth_23 : Dc prog_8_method_11_code 23 (.ldc 145) 2 25 := ⟨by decide +kernel, rfl⟩
theorem d_Re_readBoth_25 : Dc prog_8_method_11_code 25 (.invokevirtual 72) 3 28 := ⟨by decide +kernel, rfl⟩
theorem d_Re_readBoth_28 : Dj prog_8_method_11_code 28 (.ifCond .eq 45) 31 45 73 := ⟨by decide +kernel, rfl, rfl⟩
theorem d_Re_readBoth_31 : Dc prog_8_method_11_code 31 (.aload_n 0) 1 32 := ⟨by decide +kernel, rfl⟩
theorem d_Re_readBoth_32 : Dc prog_8_method_11_code 32 (.getfield 12) 3 35 := ⟨by decide +kernel, rfl⟩
theorem d_Re_readBoth_35 : Dc prog_8_method_11_code 35 (.invokevirtual 67) 3 38 := ⟨by decide +kernel, rfl⟩
theorem d_Re_readBoth_38 : Dc prog_8_method_11_code 38 (.aload_n 0) 1 39 := ⟨by decide +kernel, rfl⟩
theorem d_Re_readBoth_39 : Dc prog_8_method_11_code 39 (.getfield 23) 3 42 := ⟨by decide +kernel, rfl⟩
theorem d_Re_readBoth_42 : Dc prog_8_method_11_code 42 (.bipush 11) 2 44 := ⟨by decide +kernel, rfl⟩
theorem d_Re_readBoth_44 : Dc prog_8_method_11_code 44 (.iconst 0) 1 45 := ⟨by decide +kernel, rfl⟩
theorem d_Re_readBoth_45 : Dc prog_8_method_11_code 45 (.invokevirtual 135) 3 48 := ⟨by decide +kernel, rfl⟩
theorem d_Re_readBoth_48 : Dc prog_8_method_11_code 48 (.istore_n 3) 1 49 := ⟨by decide +kernel, rfl⟩
theorem d_Re_readBoth_49 : Dc prog_8_method_11_code 49 (.aload_n 0) 1 50 := ⟨by decide +kernel, rfl⟩
theorem d_Re_readBoth_50 : Dc prog_8_method_11_code 50 (.iload_n 1) 1 51 := ⟨by decide +kernel, rfl⟩
theorem d_Re_readBoth_51 : Dc prog_8_method_11_code 51 (.invokevirtual 142) 3 54 := ⟨by decide +kernel, rfl⟩
theorem d_Re_readBoth_54 : Dj prog_8_method_11_code 54 (.ifCond .ne 5) 57 5 59 := ⟨by decide +kernel, rfl, rfl⟩
theorem d_Re_readBoth_57 : Dc prog_8_method_11_code 57 (.iconst 0) 1 58 := ⟨by decide +kernel, rfl⟩
theorem d_Re_readBoth_58 : Dc prog_8_method_11_code 58 (.ireturn) 1 59 := ⟨by decide +kernel, rfl⟩
theorem d_Re_readBoth_59 : Dc prog_8_method_11_code 59 (.aload_n 0) 1 60 := ⟨by decide +kernel, rfl⟩
theorem d_Re_readBoth_60 : Dc prog_8_method_11_code 60 (.getfield 23) 3 63 := ⟨by decide +kernel, rfl⟩
theorem d_Re_readBoth_63 : Dc prog_8_method_11_code 63 (.iload_n 3) 1 64 := ⟨by decide +kernel, rfl⟩
theorem d_Re_readBoth_64 : Dc prog_8_method_11_code 64 (.invokevirtual 139) 3 67 := ⟨by decide +kernel, rfl⟩
theorem d_Re_readBoth_67 : Dc prog_8_method_11_code 67 (.iinc 2 1) 3 70 := ⟨by decide +kernel, rfl⟩
theorem d_Re_readBoth_70 : Dj prog_8_method_11_code 70 (.goto (-58)) 73 (-58) 12 := ⟨by decide +kernel, rfl, rfl⟩
theorem d_Re_readBoth_73 : Dc prog_8_method_11_code 73 (.iconst 1) 1 74 := ⟨by decide +kernel, rfl⟩
theorem d_Re_readBoth_74 : Dc prog_8_method_11_code 74 (.ireturn) 1 75 := ⟨by decide +kernel, rfl⟩
theorem d_Re_readSum_0 : Dc prog_8_method_16_code 0 (.aload_n 0) 1 1 := ⟨by decide +kernel, rfl⟩
theorem d_Re_readSum_1 : Dc prog_8_method_16_code 1 (.iload_n 1) 1 2 := ⟨by decide +kernel, rfl⟩
theorem d_Re_readSum_2 : Dc prog_8_method_16_code 2 (.invokevirtual 158) 3 5 := ⟨by decide +kernel, rfl⟩
theorem d_Re_readSum_5 : Dj prog_8_method_16_code 5 (.ifCond .ne 5) 8 5 10 := ⟨by decide +kernel, rfl, rfl⟩
theorem d_Re_readSum_8 : Dc prog_8_method_16_code 8 (.iconst 0) 1 9 := ⟨by decide +kernel, rfl⟩
theorem d_Re_readSum_9 : Dc prog_8_method_16_code 9 (.ireturn) 1 10 := ⟨by decide +kernel, rfl⟩
theorem d_Re_readSum_10 : Dc prog_8_method_16_code 10 (.iconst 0) 1 11 := ⟨by decide +kernel, rfl⟩
theorem d_Re_readSum_11 : Dc prog_8_method_16_code 11 (.istore_n 2) 1 12 := ⟨by decide +kernel, rfl⟩
theorem d_Re_readSum_12 : Dc prog_8_method_16_code 12 (.iload_n 2) 1 13 := ⟨by decide +kernel, rfl⟩
theorem d_Re_readSum_13 : Dc prog_8_method_16_code 13 (.sipush 400) 3 16 := ⟨by decide +kernel, rfl⟩
theorem d_Re_readSum_16 : Dj prog_8_method_16_code 16 (.if_icmp .ge 78) 19 78 94 := ⟨by decide +kernel, rfl, rfl⟩
theorem d_Re_readSum_19 : Dc prog_8_method_16_code 19 (.aload_n 0) 1 20 := ⟨by decide +kernel, rfl⟩
theorem d_Re_readSum_20 : Dc prog_8_method_16_code 20 (.getfield 12) 3 23 := ⟨by decide +kernel, rfl⟩
theorem d_Re_readSum_23 : Dc prog_8_method_16_code 23 (.bipush 43) 2 25 := ⟨by decide +kernel, rfl⟩
theorem d_Re_readSum_25 : Dc prog_8_method_16_code 25 (.invokevirtual 60) 3 28 := ⟨by decide +kernel, rfl⟩
theorem d_Re_readSum_28 : Dj prog_8_method_16_code 28 (.ifCond .ne 15) 31 15 43 := ⟨by decide +kernel, rfl, rfl⟩
theorem d_Re_readSum_31 : Dc prog_8_method_16_code 31 (.aload_n 0) 1 32 := ⟨by decide +kernel, rfl⟩
theorem d_Re_readSum_32 : Dc prog_8_method_16_code 32 (.getfield 12) 3 35 := ⟨by decide +kernel, rfl⟩
theorem d_Re_readSum_35 : Dc prog_8_method_16_code 35 (.bipush 45) 2 37 := ⟨by decide +kernel, rfl⟩
theorem d_Re_readSum_37 : Dc prog_8_method_16_code 37 (.invokevirtual 60) 3 40 := ⟨by decide +kernel, rfl⟩
theorem d_Re_readSum_40 : Dj prog_8_method_16_code 40 (.ifCond .eq 54) 43 54 94 := ⟨by decide +kernel, rfl, rfl⟩
theorem d_Re_readSum_43 : Dc prog_8_method_16_code 43 (.aload_n 0) 1 44 := ⟨by decide +kernel, rfl⟩
theorem d_Re_readSum_44 : Dc prog_8_method_16_code 44 (.getfield 12) 3 47 := ⟨by decide +kernel, rfl⟩
theorem d_Re_readSum_47 : Dc prog_8_method_16_code 47 (.bipush 43) 2 49 := ⟨by decide +kernel, rfl⟩
theorem d_Re_readSum_49 : Dc prog_8_method_16_code 49 (.invokevirtual 60) 3 52 := ⟨by decide +kernel, rfl⟩
theorem d_Re_readSum_52 : Dj prog_8_method_16_code 52 (.ifCond .eq 7) 55 7 59 := ⟨by decide +kernel, rfl, rfl⟩
theorem d_Re_readSum_55 : Dc prog_8_method_16_code 55 (.iconst 2) 1 56 := ⟨by decide +kernel, rfl⟩
theorem d_Re_readSum_56 : Dj prog_8_method_16_code 56 (.goto 4) 59 4 60 := ⟨by decide +kernel, rfl, rfl⟩
theorem d_Re_readSum_59 : Dc prog_8_method_16_code 59 (.iconst 3) 1 60 := ⟨by decide +kernel, rfl⟩
theorem d_Re_readSum_60 : Dc prog_8_method_16_code 60 (.istore_n 3) 1 61 := ⟨by decide +kernel, rfl⟩
theorem d_Re_readSum_61 : Dc prog_8_method_16_code 61 (.aload_n 0) 1 62 := ⟨by decide +kernel, rfl⟩
theorem d_Re_readSum_62 : Dc prog_8_method_16_code 62 (.getfield 12) 3 65 := ⟨by decide +kernel, rfl⟩
theorem d_Re_readSum_65 : Dc prog_8_method_16_code 65 (.invokevirtual 67) 3 68 := ⟨by decide +kernel, rfl⟩
theorem d_Re_readSum_68 : Dc prog_8_method_16_code 68 (.aload_n 0) 1 69 := ⟨by decide +kernel, rfl⟩
theorem d_Re_readSum_69 : Dc prog_8_method_16_code 69 (.iload_n 1) 1 70 := ⟨by decide +kernel, rfl⟩
theorem d_Re_readSum_70 : Dc prog_8_method_16_code 70 (.invokevirtual 158) 3 73 := ⟨by decide +kernel, rfl⟩
theorem d_Re_readSum_73 : Dj prog_8_method_16_code 73 (.ifCond .ne 5) 76 5 78 := ⟨by decide +kernel, rfl, rfl⟩
theorem d_Re_readSum_76 : Dc prog_8_method_16_code 76 (.iconst 0) 1 77 := ⟨by decide +kernel, rfl⟩
theorem d_Re_readSum_77 : Dc prog_8_method_16_code 77 (.ireturn) 1 78 := ⟨by decide +kernel, rfl⟩
theorem d_Re_readSum_78 : Dc prog_8_method_16_code 78 (.aload_n 0) 1 79 := ⟨by decide +kernel, rfl⟩
theorem d_Re_readSum_79 : Dc prog_8_method_16_code 79 (.getfield 23) 3 82 := ⟨by decide +kernel, rfl⟩
theorem d_Re_readSum_82 : Dc prog_8_method_16_code 82 (.iload_n 3) 1 83 := ⟨by decide +kernel, rfl⟩
theorem d_Re_readSum_83 : Dc prog_8_method_16_code 83 (.iconst 0) 1 84 := ⟨by decide +kernel, rfl⟩
theorem d_Re_readSum_84 : Dc prog_8_method_16_code 84 (.invokevirtual 135) 3 87 := ⟨by decide +kernel, rfl⟩
theorem d_Re_readSum_87 : Dc prog_8_method_16_code 87 (.pop) 1 88 := ⟨by decide +kernel, rfl⟩
theorem d_Re_readSum_88 : Dc prog_8_method_16_code 88 (.iinc 2 1) 3 91 := ⟨by decide +kernel, rfl⟩
theorem d_Re_readSum_91 : Dj prog_8_method_16_code 91 (.goto (-79)) 94 (-79) 12 := ⟨by decide +kernel, rfl, rfl⟩
theorem d_Re_readSum_94 : Dc prog_8_method_16_code 94 (.iconst 1) 1 95 := ⟨by decide +kernel, rfl⟩
theorem d_Re_readSum_95 : Dc prog_8_method_16_code 95 (.ireturn) 1 96 := ⟨by decide +kernel, rfl⟩
theorem d_Re_readTerm_0 : Dc prog_8_method_17_code 0 (.aload_n 0) 1 1 := ⟨by decide +kernel, rfl⟩
theorem d_Re_readTerm_1 : Dc prog_8_method_17_code 1 (.iload_n 1) 1 2 := ⟨by decide +kernel, rfl⟩
theorem d_Re_readTerm_2 : Dc prog_8_method_17_code 2 (.invokevirtual 161) 3 5 := ⟨by decide +kernel, rfl⟩
theorem d_Re_readTerm_5 : Dj prog_8_method_17_code 5 (.ifCond .ne 5) 8 5 10 := ⟨by decide +kernel, rfl, rfl⟩
theorem d_Re_readTerm_8 : Dc prog_8_method_17_code 8 (.iconst 0) 1 9 := ⟨by decide +kernel, rfl⟩
theorem d_Re_readTerm_9 : Dc prog_8_method_17_code 9 (.ireturn) 1 10 := ⟨by decide +kernel, rfl⟩
theorem d_Re_readTerm_10 : Dc prog_8_method_17_code 10 (.iconst 0) 1 11 := ⟨by decide +kernel, rfl⟩
theorem d_Re_readTerm_11 : Dc prog_8_method_17_code 11 (.istore_n 2) 1 12 := ⟨by decide +kernel, rfl⟩
theorem d_Re_readTerm_12 : Dc prog_8_method_17_code 12 (.iload_n 2) 1 13 := ⟨by decide +kernel, rfl⟩
theorem d_Re_readTerm_13 : Dc prog_8_method_17_code 13 (.sipush 400) 3 16 := ⟨by decide +kernel, rfl⟩
theorem d_Re_readTerm_16 : Dj prog_8_method_17_code 16 (.if_icmp .ge 48) 19 48 64 := ⟨by decide +kernel, rfl, rfl⟩
theorem d_Re_readTerm_19 : Dc prog_8_method_17_code 19 (.aload_n 0) 1 20 := ⟨by decide +kernel, rfl⟩
theorem d_Re_readTerm_20 : Dc prog_8_method_17_code 20 (.invokevirtual 164) 3 23 := ⟨by decide +kernel, rfl⟩
theorem d_Re_readTerm_23 : Dc prog_8_method_17_code 23 (.istore_n 3) 1 24 := ⟨by decide +kernel, rfl⟩
theorem d_Re_readTerm_24 : Dc prog_8_method_17_code 24 (.iload_n 3) 1 25 := ⟨by decide +kernel, rfl⟩
theorem d_Re_readTerm_25 : Dc prog_8_method_17_code 25 (.iconst (-1)) 1 26 := ⟨by decide +kernel, rfl⟩
theorem d_Re_readTerm_26 : Dj prog_8_method_17_code 26 (.if_icmp .ne 5) 29 5 31 := ⟨by decide +kernel, rfl, rfl⟩
theorem d_Re_readTerm_29 : Dc prog_8_method_17_code 29 (.iconst 1) 1 30 := ⟨by decide +kernel, rfl⟩
theorem d_Re_readTerm_30 : Dc prog_8_method_17_code 30 (.ireturn) 1 31 := ⟨by decide +kernel, rfl⟩
theorem d_Re_readTerm_31 : Dc prog_8_method_17_code 31 (.aload_n 0) 1 32 := ⟨by decide +kernel, rfl⟩
theorem d_Re_readTerm_32 : Dc prog_8_method_17_code 32 (.getfield 12) 3 35 := ⟨by decide +kernel, rfl⟩
theorem d_Re_readTerm_35 : Dc prog_8_method_17_code 35 (.invokevirtual 67) 3 38 := ⟨by decide +kernel, rfl⟩
theorem d_Re_readTerm_38 : Dc prog_8_method_17_code 38 (.aload_n 0) 1 39 := ⟨by decide +kernel, rfl⟩
theorem d_Re_readTerm_39 : Dc prog_8_method_17_code 39 (.iload_n 1) 1 40 := ⟨by decide +kernel, rfl⟩
theorem d_Re_readTerm_40 : Dc prog_8_method_17_code 40 (.invokevirtual 161) 3 43 := ⟨by decide +kernel, rfl⟩
theorem d_Re_readTerm_43 : Dj prog_8_method_17_code 43 (.ifCond .ne 5) 46 5 48 := ⟨by decide +kernel, rfl, rfl⟩
theorem d_Re_readTerm_46 : Dc prog_8_method_17_code 46 (.iconst 0) 1 47 := ⟨by decide +kernel, rfl⟩
theorem d_Re_readTerm_47 : Dc prog_8_method_17_code 47 (.ireturn) 1 48 := ⟨by decide +kernel, rfl⟩
theorem d_Re_readTerm_48 : Dc prog_8_method_17_code 48 (.aload_n 0) 1 49 := ⟨by decide +kernel, rfl⟩
theorem d_Re_readTerm_49 : Dc prog_8_method_17_code 49 (.getfield 23) 3 52 := ⟨by decide +kernel, rfl⟩
theorem d_Re_readTerm_52 : Dc prog_8_method_17_code 52 (.iload_n 3) 1 53 := ⟨by decide +kernel, rfl⟩
theorem d_Re_readTerm_53 : Dc prog_8_method_17_code 53 (.iconst 0) 1 54 := ⟨by decide +kernel, rfl⟩
theorem d_Re_readTerm_54 : Dc prog_8_method_17_code 54 (.invokevirtual 135) 3 57 := ⟨by decide +kernel, rfl⟩
theorem d_Re_readTerm_57 : Dc prog_8_method_17_code 57 (.pop) 1 58 := ⟨by decide +kernel, rfl⟩
theorem d_Re_readTerm_58 : Dc prog_8_method_17_code 58 (.iinc 2 1) 3 61 := ⟨by decide +kernel, rfl⟩
theorem d_Re_readTerm_61 : Dj prog_8_method_17_code 61 (.goto (-49)) 64 (-49) 12 := ⟨by decide +kernel, rfl, rfl⟩
theorem d_Re_readTerm_64 : Dc prog_8_method_17_code 64 (.iconst 1) 1 65 := ⟨by decide +kernel, rfl⟩
theorem d_Re_readTerm_65 : Dc prog_8_method_17_code 65 (.ireturn) 1 66 := ⟨by decide +kernel, rfl⟩
theorem d_Re_readTest_0 : Dc prog_8_method_10_code 0 (.aload_n 0) 1 1 := ⟨by decide +kernel, rfl⟩
theorem d_Re_readTest_1 : Dc prog_8_method_10_code 1 (.iload_n 1) 1 2 := ⟨by decide +kernel, rfl⟩
theorem d_Re_readTest_2 : Dc prog_8_method_10_code 2 (.invokevirtual 130) 3 5 := ⟨by decide +kernel, rfl⟩
theorem d_Re_readTest_5 : Dj prog_8_method_10_code 5 (.ifCond .ne 5) 8 5 10 := ⟨by decide +kernel, rfl, rfl⟩
theorem d_Re_readTest_8 : Dc prog_8_method_10_code 8 (.iconst 0) 1 9 := ⟨by decide +kernel, rfl⟩
theorem d_Re_readTest_9 : Dc prog_8_method_10_code 9 (.ireturn) 1 10 := ⟨by decide +kernel, rfl⟩
theorem d_Re_readTest_10 : Dc prog_8_method_10_code 10 (.iconst 0) 1 11 := ⟨by decide +kernel, rfl⟩
theorem d_Re_readTest_11 : Dc prog_8_method_10_code 11 (.istore_n 2) 1 12 := ⟨by decide +kernel, rfl⟩
theorem d_Re_readTest_12 : Dc prog_8_method_10_code 12 (.iload_n 2) 1 13 := ⟨by decide +kernel, rfl⟩
theorem d_Re_readTest_13 : Dc prog_8_method_10_code 13 (.sipush 400) 3 16 := ⟨by decide +kernel, rfl⟩
theorem d_Re_readTest_16 : Dj prog_8_method_10_code 16 (.if_icmp .ge 57) 19 57 73 := ⟨by decide +kernel, rfl, rfl⟩
theorem d_Re_readTest_19 : Dc prog_8_method_10_code 19 (.aload_n 0) 1 20 := ⟨by decide +kernel, rfl⟩
theorem d_Re_readTest_20 : Dc prog_8_method_10_code 20 (.getfield 12) 3 23 := ⟨by decide +kernel, rfl⟩
theorem d_Re_readTest_23 : Dc prog_8_method_10_code 23 (.ldc 133) 2 25 := ⟨by decide +kernel, rfl⟩
theorem d_Re_readTest_25 : Dc prog_8_method_10_code 25 (.invokevirtual 72) 3 28 := ⟨by decide +kernel, rfl⟩
theorem d_Re_readTest_28 : Dj prog_8_method_10_code 28 (.ifCond .eq 45) 31 45 73 := ⟨by decide +kernel, rfl, rfl⟩
theorem d_Re_readTest_31 : Dc prog_8_method_10_code 31 (.aload_n 0) 1 32 := ⟨by decide +kernel, rfl⟩
theorem d_Re_readTest_32 : Dc prog_8_method_10_code 32 (.getfield 12) 3 35 := ⟨by decide +kernel, rfl⟩
theorem d_Re_readTest_35 : Dc prog_8_method_10_code 35 (.invokevirtual 67) 3 38 := ⟨by decide +kernel, rfl⟩
theorem d_Re_readTest_38 : Dc prog_8_method_10_code 38 (.aload_n 0) 1 39 := ⟨by decide +kernel, rfl⟩
theorem d_Re_readTest_39 : Dc prog_8_method_10_code 39 (.getfield 23) 3 42 := ⟨by decide +kernel, rfl⟩
theorem d_Re_readTest_42 : Dc prog_8_method_10_code 42 (.bipush 12) 2 44 := ⟨by decide +kernel, rfl⟩
theorem d_Re_readTest_44 : Dc prog_8_method_10_code 44 (.iconst 0) 1 45 := ⟨by decide +kernel, rfl⟩
theorem d_Re_readTest_45 : Dc prog_8_method_10_code 45 (.invokevirtual 135) 3 48 := ⟨by decide +kernel, rfl⟩
theorem d_Re_readTest_48 : Dc prog_8_method_10_code 48 (.istore_n 3) 1 49 := ⟨by decide +kernel, rfl⟩
theorem d_Re_readTest_49 : Dc prog_8_method_10_code 49 (.aload_n 0) 1 50 := ⟨by decide +kernel, rfl⟩
theorem d_Re_readTest_50 : Dc prog_8_method_10_code 50 (.iload_n 1) 1 51 := ⟨by decide +kernel, rfl⟩
theorem d_Re_readTest_51 : Dc prog_8_method_10_code 51 (.invokevirtual 130) 3 54 := ⟨by decide +kernel, rfl⟩
theorem d_Re_readTest_54 : Dj prog_8_method_10_code 54 (.ifCond .ne 5) 57 5 59 := ⟨by decide +kernel, rfl, rfl⟩
theorem d_Re_readTest_57 : Dc prog_8_method_10_code 57 (.iconst 0) 1 58 := ⟨by decide +kernel, rfl⟩
theorem d_Re_readTest_58 : Dc prog_8_method_10_code 58 (.ireturn) 1 59 := ⟨by decide +kernel, rfl⟩
theorem d_Re_readTest_59 : Dc prog_8_method_10_code 59 (.aload_n 0) 1 60 := ⟨by decide +kernel, rfl⟩
theorem d_Re_readTest_60 : Dc prog_8_method_10_code 60 (.getfield 23) 3 63 := ⟨by decide +kernel, rfl⟩
theorem d_Re_readTest_63 : Dc prog_8_method_10_code 63 (.iload_n 3) 1 64 := ⟨by decide +kernel, rfl⟩
theorem d_Re_readTest_64 : Dc prog_8_method_10_code 64 (.invokevirtual 139) 3 67 := ⟨by decide +kernel, rfl⟩
theorem d_Re_readTest_67 : Dc prog_8_method_10_code 67 (.iinc 2 1) 3 70 := ⟨by decide +kernel, rfl⟩
theorem d_Re_readTest_70 : Dj prog_8_method_10_code 70 (.goto (-58)) 73 (-58) 12 := ⟨by decide +kernel, rfl, rfl⟩
theorem d_Re_readTest_73 : Dc prog_8_method_10_code 73 (.iconst 1) 1 74 := ⟨by decide +kernel, rfl⟩
theorem d_Re_readTest_74 : Dc prog_8_method_10_code 74 (.ireturn) 1 75 := ⟨by decide +kernel, rfl⟩
theorem fl_Re_23 : FL "SubgraphDesk$Reader" 23 7 1 true (.object "SubgraphDesk$Program") (3, 3) := ⟨R_Re, F_Re, 5, ty_Re, rfl, rfl, in_Re, tyok_Re, nm_Re, by decide, gd 351 (by decide +kernel) rfl, rfl, rfl, rfl⟩
theorem ml_Re_67 : Cond.methodLink "SubgraphDesk$Reader" 67 m_Ta_step.1 ∈ lw_gd := gd 870 (by decide +kernel) rfl
theorem ml_Re_72 : Cond.methodLink "SubgraphDesk$Reader" 72 m_Ta_isWord.1 ∈ lw_gd := gd 801 (by decide +kernel) rfl
theorem ml_Re_130 : Cond.methodLink "SubgraphDesk$Reader" 130 m_Re_readBoth.1 ∈ lw_gd := gd 954 (by decide +kernel) rfl
theorem ml_Re_135 : Cond.methodLink "SubgraphDesk$Reader" 135 m_Pr_emit.1 ∈ lw_gd := gd 903 (by decide +kernel) rfl
theorem ml_Re_139 : Cond.methodLink "SubgraphDesk$Reader" 139 m_Pr_aim.1 ∈ lw_gd := gd 976 (by decide +kernel) rfl
theorem ml_Re_142 : Cond.methodLink "SubgraphDesk$Reader" 142 m_Re_readPlain.1 ∈ lw_gd := gd 958 (by decide +kernel) rfl
theorem ml_Re_158 : Cond.methodLink "SubgraphDesk$Reader" 158 m_Re_readTerm.1 ∈ lw_gd := gd 883 (by decide +kernel) rfl
theorem ml_Re_161 : Cond.methodLink "SubgraphDesk$Reader" 161 m_Re_readPart.1 ∈ lw_gd := gd 887 (by decide +kernel) rfl
theorem ml_Re_164 : Cond.methodLink "SubgraphDesk$Reader" 164 m_Re_termSign.1 ∈ lw_gd := gd 928 (by decide +kernel) rfl
def dSb (dp : Nat) : Nat := 7 + 4 * (8 - dp)
def dP (dp : Nat) : Nat := 8 + 4 * (8 - dp)
def dT (dp : Nat) : Nat := 9 + 4 * (8 - dp)
def dS (dp : Nat) : Nat := 10 + 4 * (8 - dp)
def dI (dp : Nat) : Nat := 37 + 4 * (8 - dp)
def dL (dp : Nat) : Nat := 38 + 4 * (8 - dp)
def dB (dp : Nat) : Nat := 39 + 4 * (8 - dp)
def dE (dp : Nat) : Nat := 40 + 4 * (8 - dp)
theorem c_Re_readTerm {E : EV} {w : Mem} {t : List Nat} {o : Bool} {n dp f p : Nat} {a : Den} {c : List (Nat × Nat)} {x : ResT} (HP : ∀ k, k < n → CT E t o k 0 m_Re_readPart dP) (hdp : dp ≤ 8) (hrd : rd t o n 1 dp f p a = some x) (h : RdI w t o f p c) : T E m_Re_readTerm (dT dp) 0 0 [.ref 25, .int (nI dp)] w (fun r w2 => ExQ w w2 t o c f p x r) := by
  refine T_of (L := [.ref 25, .int (nI dp), un, un]) cf_Re_readTerm rfl (Nat.le_of_ble_eq_true rfl) (fun X hX hF => ?_)
  obtain ⟨n, rfl⟩ := rd_pos hrd
  rw [rd_1] at hrd
  obtain ⟨x0, hx0, hk0⟩ := bind_2 hrd
  have lp : ∀ (fuel : Nat) (k i f1 p1 : Nat) (a1 : Den) (c1 : List (Nat × Nat)) (wk : Mem), k < fuel → (rd t o k 2 dp f1 p1 a1 = some x) → (k ≤ n) → (AcQ w wk t o c f p f1 p1 a1 c1) → (i ≤ f1) → G0 E X 0 0 12 [.ref 25, .int (nI dp), .int (nI i), un] [] wk := by
    intro fuel
    induction fuel with
    | zero => intro k i f1 p1 a1 c1 wk q0; exact absurd q0 (Nat.not_lt_zero _)
    | succ fuel ih =>
      intro k i f1 p1 a1 c1 wk q0 q1 q2 q3 q4
      obtain ⟨k, rfl⟩ := rd_pos q1
      have hR1 := q3.2.2.2.1
      have hfl := hR1.fl
      have hp1 := hR1.2.2.2.2.1
      refine g_iload2 hX d_Re_readTerm_12 ?_
      refine g_sipush (v := nI 400) hX d_Re_readTerm_13 rfl ?_
      refine g_icmpN_ge hX d_Re_readTerm_16 (by omega) (by omega) (fun e16 => ?_) (fun e16 => ?_)
      · have hs := sgn_end (l := sgT) (srt_400 (t := t) (f := f1) (by omega))
        refine g_iconst (v := nI 1) hX d_Re_readTerm_64 rfl ?_
        refine g_zret hX hF d_Re_readTerm_65 (Or.inr rfl) (by omega) (by omega) ?_
        rw [rd_2n hs] at q1
        obtain rfl := Option.some.inj q1
        exact q3.ex
      · refine g_aload0 hX d_Re_readTerm_19 ?_
        refine g_callV (As := []) hX hF.1 d_Re_readTerm_20 ml_Re_164 cf_Re_termSign cv_Re_termSign rfl rfl (c_Re_termSign hR1.1) (rcv_obj hX (lv_25 _) rfl rfl) (by first | (unfold dP dT; omega) | (unfold dSb dP; omega) | (unfold dSb dS; omega) | (unfold dT dS; omega)  | (unfold dL dB; omega) | (unfold dB dE; omega) | (unfold dI dE; omega) | (unfold dI dL; omega) | (unfold dS dL; omega) | (unfold dP; omega) | (unfold dT; omega) | (unfold dS; omega) | (unfold dI; omega) | (unfold dL; omega) | (unfold dB; omega) | (unfold dE; omega) | (unfold dSb; omega) | omega) (by omega) (by omega) (Nat.le_of_ble_eq_true rfl) ?_
        rintro r5 w5 ⟨hs0, hw5⟩
        have hw6 := hw5.symm
        subst hw6
        obtain ⟨v, rfl, hv⟩ : ∃ v : Int32, r5 = some (.int v) ∧ ((∃ q u : Nat, sgn t f1 sgT = some q ∧ u + 18 = q ∧ v = nI u) ∨ (sgn t f1 sgT = none ∧ v = -1)) := by
          rcases hs0 with ⟨q, u, z1, z2, z3⟩ | ⟨z1, z2⟩
          · exact ⟨nI u, z3, Or.inl ⟨q, u, z1, z2, rfl⟩⟩
          · exact ⟨-1, z2, Or.inr ⟨z1, rfl⟩⟩
        show G0 _ _ _ _ _ _ _ _
        refine g_istore3 hX d_Re_readTerm_23 rfl (by decide) ?_
        refine g_iload3 hX d_Re_readTerm_24 ?_
        refine g_iconst (v := -1) hX d_Re_readTerm_25 rfl ?_
        refine g_icmp_ne hX d_Re_readTerm_26 (fun e26 => ?_) (fun e26 => ?_)
        · obtain ⟨q, u, hs, hu, rfl⟩ := hv.resolve_right (fun z => e26 z.2)
          obtain ⟨hq1, hq2⟩ := sgT_rg hs
          obtain rfl : u = q - 18 := by omega
          refine g_aload0 hX d_Re_readTerm_31 ?_
          refine g_getF hX d_Re_readTerm_32 fl_Re_12 (lv_25 _) ?_
          refine g_callV (As := []) hX hF.1 d_Re_readTerm_35 ml_Re_67 cf_Ta_step cv_Ta_step rfl rfl (c_Ta_step hR1.1.1 hR1.1.2.2.1 (enT_le hR1.fl.1)) (rcv_obj hX (lv_26 _) rfl rfl) (by first | (unfold dP dT; omega) | (unfold dSb dP; omega) | (unfold dSb dS; omega) | (unfold dT dS; omega)  | (unfold dL dB; omega) | (unfold dB dE; omega) | (unfold dI dE; omega) | (unfold dI dL; omega) | (unfold dS dL; omega) | (unfold dP; omega) | (unfold dT; omega) | (unfold dS; omega) | (unfold dI; omega) | (unfold dL; omega) | (unfold dB; omega) | (unfold dE; omega) | (unfold dSb; omega) | omega) (by omega) (by omega) (Nat.le_of_ble_eq_true rfl) ?_
          rintro _ w3 ⟨rfl, ft_w3, tk_w3⟩
          have h3 := hR1.step ft_w3 tk_w3
          show G0 _ _ _ _ _ _ _ _
          refine g_aload0 hX d_Re_readTerm_38 ?_
          refine g_iload1 hX d_Re_readTerm_39 ?_
          rw [rd_2s hs] at q1
          obtain ⟨x1, hx1, hk1⟩ := bind_2 q1
          refine g_callV (As := [_]) hX hF.1 d_Re_readTerm_40 ml_Re_161 cf_Re_readPart cv_Re_readPart rfl rfl (HP k (by omega) _ _ _ _ _ _ _ hdp hx1 h3) (rcv_obj hX (lv_25 _) rfl rfl) (by first | (unfold dP dT; omega) | (unfold dSb dP; omega) | (unfold dSb dS; omega) | (unfold dT dS; omega)  | (unfold dL dB; omega) | (unfold dB dE; omega) | (unfold dI dE; omega) | (unfold dI dL; omega) | (unfold dS dL; omega) | (unfold dP; omega) | (unfold dT; omega) | (unfold dS; omega) | (unfold dI; omega) | (unfold dL; omega) | (unfold dB; omega) | (unfold dE; omega) | (unfold dSb; omega) | omega) (by omega) (by omega) (Nat.le_of_ble_eq_true rfl) ?_
          rintro r5 w5 hQ
          obtain rfl := hQ.rv
          show G0 _ _ _ _ _ _ _ _
          refine g_ifB_ne hX d_Re_readTerm_43 (fun e43 => ?_) (fun e43 => ?_)
          · obtain ⟨y, rfl⟩ := okR_t e43
            obtain ⟨c2, hA2⟩ := hQ.acc
            replace hk1 : rd t o k 2 dp y.1 y.2.1 (dBin q a1 y.2.2) = some x := hk1
            have hlen2 := hA2.2.2.2.1.len
            have hge := nxT_ge t f1 hfl.1
            obtain ⟨hy1, -, -⟩ := rd_adv _ _ _ _ _ _ _ _ _ h3.1.2.2.2.2.2 h3.2.2.2.2.1 hx1
            have hy2 : nxT t f1 + 1 ≤ y.1 := hy1
            refine g_aload0 hX d_Re_readTerm_48 ?_
            refine g_getF hX d_Re_readTerm_49 fl_Re_23 (lv_25 _) ?_
            refine g_iload3 hX d_Re_readTerm_52 ?_
            refine g_iconst (v := nI 0) hX d_Re_readTerm_53 rfl ?_
            refine g_callV (As := [_, _]) hX hF.1 d_Re_readTerm_54 ml_Re_135 cf_Pr_emit cv_Pr_emit rfl rfl (c_Pr_emit (o := q - 18) (a := 0) (len := c2.length) hA2.2.2.2.1.2.2.2.1.1 hA2.2.2.2.1.2.2.2.1.2.1 (by omega) (by omega) (by decide)) (rcv_obj hX (lv_28 _) rfl rfl) (by first | (unfold dP dT; omega) | (unfold dSb dP; omega) | (unfold dSb dS; omega) | (unfold dT dS; omega)  | (unfold dL dB; omega) | (unfold dB dE; omega) | (unfold dI dE; omega) | (unfold dI dL; omega) | (unfold dS dL; omega) | (unfold dP; omega) | (unfold dT; omega) | (unfold dS; omega) | (unfold dI; omega) | (unfold dL; omega) | (unfold dB; omega) | (unfold dE; omega) | (unfold dSb; omega) | omega) (by omega) (by omega) (Nat.le_of_ble_eq_true rfl) ?_
            refine ret_k ?_
            refine g_pop hX d_Re_readTerm_57 rfl ?_
            refine g_iincN2 hX d_Re_readTerm_58 rfl (by decide) ?_
            refine g_goto hX d_Re_readTerm_61 ?_
            refine g_fget 3 ?_
            exact ih k (i + 1) y.1 y.2.1 _ _ _ (by omega) hk1 (by omega) (AcQ.bin q3 ft_w3 hA2 hq1 hq2) (by omega)
          · obtain ⟨e, rfl⟩ := okR_f e43
            obtain rfl : x = .inl e := hk1
            refine g_iconst (v := nI 0) hX d_Re_readTerm_46 rfl ?_
            refine g_zret hX hF d_Re_readTerm_47 (Or.inl rfl) (by omega) (by omega) ?_
            exact ExQ.bad (q3.1.tr ft_w3.R) hQ
        · have hs : sgn t f1 sgT = none := by
            rcases hv with ⟨q, u, z1, z2, z3⟩ | z
            · rw [z3] at e26
              exact absurd e26 (nI_m1 (by have := sgT_rg z1; omega))
            · exact z.1
          refine g_iconst (v := nI 1) hX d_Re_readTerm_29 rfl ?_
          refine g_zret hX hF d_Re_readTerm_30 (Or.inr rfl) (by omega) (by omega) ?_
          rw [rd_2n hs] at q1
          obtain rfl := Option.some.inj q1
          exact q3.ex
  refine g_aload0 hX d_Re_readTerm_0 ?_
  refine g_iload1 hX d_Re_readTerm_1 ?_
  refine g_callV (As := [_]) hX hF.1 d_Re_readTerm_2 ml_Re_161 cf_Re_readPart cv_Re_readPart rfl rfl (HP n (by omega) _ _ _ _ _ _ _ hdp hx0 h) (rcv_obj hX (lv_25 _) rfl rfl) (by first | (unfold dP dT; omega) | (unfold dSb dP; omega) | (unfold dSb dS; omega) | (unfold dT dS; omega)  | (unfold dL dB; omega) | (unfold dB dE; omega) | (unfold dI dE; omega) | (unfold dI dL; omega) | (unfold dS dL; omega) | (unfold dP; omega) | (unfold dT; omega) | (unfold dS; omega) | (unfold dI; omega) | (unfold dL; omega) | (unfold dB; omega) | (unfold dE; omega) | (unfold dSb; omega) | omega) (by omega) (by omega) (Nat.le_of_ble_eq_true rfl) ?_
  rintro r5 w5 hQ
  obtain rfl := hQ.rv
  show G0 _ _ _ _ _ _ _ _
  refine g_ifB_ne hX d_Re_readTerm_5 (fun e5 => ?_) (fun e5 => ?_)
  · obtain ⟨y, rfl⟩ := okR_t e5
    obtain ⟨c1, hA⟩ := hQ.acc
    replace hk0 : rd t o n 2 dp y.1 y.2.1 y.2.2 = some x := hk0
    obtain ⟨hy1, -, -⟩ := rd_adv _ _ _ _ _ _ _ _ _ h.1.2.2.2.2.2 h.2.2.2.2.1 hx0
    refine g_iconst (v := nI 0) hX d_Re_readTerm_10 rfl ?_
    refine g_istore2 hX d_Re_readTerm_11 rfl (by decide) ?_
    exact lp (n + 1) n 0 y.1 y.2.1 y.2.2 c1 w5 (by omega) hk0 (Nat.le_refl _) hA (Nat.zero_le _)
  · obtain ⟨e, rfl⟩ := okR_f e5
    obtain rfl : x = .inl e := hk0
    refine g_iconst (v := nI 0) hX d_Re_readTerm_8 rfl ?_
    refine g_zret hX hF d_Re_readTerm_9 (Or.inl rfl) (by omega) (by omega) ?_
    exact ExQ.bad (FrRd.rf w) hQ
theorem c_Re_readSum {E : EV} {w : Mem} {t : List Nat} {o : Bool} {n dp f p : Nat} {a : Den} {c : List (Nat × Nat)} {x : ResT} (HT : ∀ k, k < n → CT E t o k 1 m_Re_readTerm dT) (hdp : dp ≤ 8) (hrd : rd t o n 3 dp f p a = some x) (h : RdI w t o f p c) : T E m_Re_readSum (dS dp) 0 0 [.ref 25, .int (nI dp)] w (fun r w2 => ExQ w w2 t o c f p x r) := by
  refine T_of (L := [.ref 25, .int (nI dp), un, un]) cf_Re_readSum rfl (Nat.le_of_ble_eq_true rfl) (fun X hX hF => ?_)
  obtain ⟨n, rfl⟩ := rd_pos hrd
  rw [rd_3] at hrd
  obtain ⟨x0, hx0, hk0⟩ := bind_2 hrd
  have lp : ∀ (fuel : Nat) (k i f1 p1 : Nat) (a1 : Den) (c1 : List (Nat × Nat)) (wk : Mem), k < fuel → (rd t o k 4 dp f1 p1 a1 = some x) → (k ≤ n) → (AcQ w wk t o c f p f1 p1 a1 c1) → (i ≤ f1) → G0 E X 0 0 12 [.ref 25, .int (nI dp), .int (nI i), un] [] wk := by
    intro fuel
    induction fuel with
    | zero => intro k i f1 p1 a1 c1 wk q0; exact absurd q0 (Nat.not_lt_zero _)
    | succ fuel ih =>
      intro k i f1 p1 a1 c1 wk q0 q1 q2 q3 q4
      obtain ⟨k, rfl⟩ := rd_pos q1
      have hR1 := q3.2.2.2.1
      have hfl := hR1.fl
      have hp1 := hR1.2.2.2.2.1
      refine g_iload2 hX d_Re_readSum_12 ?_
      refine g_sipush (v := nI 400) hX d_Re_readSum_13 rfl ?_
      refine g_icmpN_ge hX d_Re_readSum_16 (by omega) (by omega) (fun e16 => ?_) (fun e16 => ?_)
      · have hs := sgn_end (l := sgA) (srt_400 (t := t) (f := f1) (by omega))
        refine g_iconst (v := nI 1) hX d_Re_readSum_94 rfl ?_
        refine g_zret hX hF d_Re_readSum_95 (Or.inr rfl) (by omega) (by omega) ?_
        rw [rd_4n hs] at q1
        obtain rfl := Option.some.inj q1
        exact q3.ex
      · refine g_aload0 hX d_Re_readSum_19 ?_
        refine g_getF hX d_Re_readSum_20 fl_Re_12 (lv_25 _) ?_
        refine g_bipush (v := nI 43) hX d_Re_readSum_23 rfl ?_
        refine g_callV (As := [_]) hX hF.1 d_Re_readSum_25 ml_Re_60 cf_Ta_isSign cv_Ta_isSign rfl rfl (c_Ta_isSign (by decide) hR1.1) (rcv_obj hX (lv_26 _) rfl rfl) (by first | (unfold dP dT; omega) | (unfold dSb dP; omega) | (unfold dSb dS; omega) | (unfold dT dS; omega)  | (unfold dL dB; omega) | (unfold dB dE; omega) | (unfold dI dE; omega) | (unfold dI dL; omega) | (unfold dS dL; omega) | (unfold dP; omega) | (unfold dT; omega) | (unfold dS; omega) | (unfold dI; omega) | (unfold dL; omega) | (unfold dB; omega) | (unfold dE; omega) | (unfold dSb; omega) | omega) (by omega) (by omega) (Nat.le_of_ble_eq_true rfl) ?_
        refine ret_k ?_
        refine g_ifB_ne hX d_Re_readSum_28 (fun e28 => ?_) (fun e28 => ?_)
        · refine g_aload0 hX d_Re_readSum_43 ?_
          refine g_getF hX d_Re_readSum_44 fl_Re_12 (lv_25 _) ?_
          refine g_bipush (v := nI 43) hX d_Re_readSum_47 rfl ?_
          refine g_callV (As := [_]) hX hF.1 d_Re_readSum_49 ml_Re_60 cf_Ta_isSign cv_Ta_isSign rfl rfl (c_Ta_isSign (by decide) hR1.1) (rcv_obj hX (lv_26 _) rfl rfl) (by first | (unfold dP dT; omega) | (unfold dSb dP; omega) | (unfold dSb dS; omega) | (unfold dT dS; omega)  | (unfold dL dB; omega) | (unfold dB dE; omega) | (unfold dI dE; omega) | (unfold dI dL; omega) | (unfold dS dL; omega) | (unfold dP; omega) | (unfold dT; omega) | (unfold dS; omega) | (unfold dI; omega) | (unfold dL; omega) | (unfold dB; omega) | (unfold dE; omega) | (unfold dSb; omega) | omega) (by omega) (by omega) (Nat.le_of_ble_eq_true rfl) ?_
          refine ret_k ?_
          refine g_ifB_eq hX d_Re_readSum_52 (fun h => absurd e28 h) (fun c2 => ?_)
          refine g_iconst (v := nI 2) hX d_Re_readSum_55 rfl ?_
          refine g_goto hX d_Re_readSum_56 ?_
          refine g_istore3 hX d_Re_readSum_60 rfl (by decide) ?_
          refine g_aload0 hX d_Re_readSum_61 ?_
          refine g_getF hX d_Re_readSum_62 fl_Re_12 (lv_25 _) ?_
          refine g_callV (As := []) hX hF.1 d_Re_readSum_65 ml_Re_67 cf_Ta_step cv_Ta_step rfl rfl (c_Ta_step hR1.1.1 hR1.1.2.2.1 (enT_le hR1.fl.1)) (rcv_obj hX (lv_26 _) rfl rfl) (by first | (unfold dP dT; omega) | (unfold dSb dP; omega) | (unfold dSb dS; omega) | (unfold dT dS; omega)  | (unfold dL dB; omega) | (unfold dB dE; omega) | (unfold dI dE; omega) | (unfold dI dL; omega) | (unfold dS dL; omega) | (unfold dP; omega) | (unfold dT; omega) | (unfold dS; omega) | (unfold dI; omega) | (unfold dL; omega) | (unfold dB; omega) | (unfold dE; omega) | (unfold dSb; omega) | omega) (by omega) (by omega) (Nat.le_of_ble_eq_true rfl) ?_
          rintro _ w3 ⟨rfl, ft_w3, tk_w3⟩
          have h3 := hR1.step ft_w3 tk_w3
          show G0 _ _ _ _ _ _ _ _
          have hs : sgn t f1 sgA = some 20 := sgn_sgA0 e28
          refine g_aload0 hX d_Re_readSum_68 ?_
          refine g_iload1 hX d_Re_readSum_69 ?_
          rw [rd_4s hs] at q1
          obtain ⟨x1, hx1, hk1⟩ := bind_2 q1
          refine g_callV (As := [_]) hX hF.1 d_Re_readSum_70 ml_Re_158 cf_Re_readTerm cv_Re_readTerm rfl rfl (HT k (by omega) _ _ _ _ _ _ _ hdp hx1 h3) (rcv_obj hX (lv_25 _) rfl rfl) (by first | (unfold dP dT; omega) | (unfold dSb dP; omega) | (unfold dSb dS; omega) | (unfold dT dS; omega)  | (unfold dL dB; omega) | (unfold dB dE; omega) | (unfold dI dE; omega) | (unfold dI dL; omega) | (unfold dS dL; omega) | (unfold dP; omega) | (unfold dT; omega) | (unfold dS; omega) | (unfold dI; omega) | (unfold dL; omega) | (unfold dB; omega) | (unfold dE; omega) | (unfold dSb; omega) | omega) (by omega) (by omega) (Nat.le_of_ble_eq_true rfl) ?_
          rintro r5 w5 hQ
          obtain rfl := hQ.rv
          show G0 _ _ _ _ _ _ _ _
          refine g_ifB_ne hX d_Re_readSum_73 (fun e43 => ?_) (fun e43 => ?_)
          · obtain ⟨y, rfl⟩ := okR_t e43
            obtain ⟨c2, hA2⟩ := hQ.acc
            replace hk1 : rd t o k 4 dp y.1 y.2.1 (dBin 20 a1 y.2.2) = some x := hk1
            have hlen2 := hA2.2.2.2.1.len
            have hge := nxT_ge t f1 hfl.1
            obtain ⟨hy1, -, -⟩ := rd_adv _ _ _ _ _ _ _ _ _ h3.1.2.2.2.2.2 h3.2.2.2.2.1 hx1
            have hy2 : nxT t f1 + 1 ≤ y.1 := hy1
            refine g_aload0 hX d_Re_readSum_78 ?_
            refine g_getF hX d_Re_readSum_79 fl_Re_23 (lv_25 _) ?_
            refine g_iload3 hX d_Re_readSum_82 ?_
            refine g_iconst (v := nI 0) hX d_Re_readSum_83 rfl ?_
            refine g_callV (As := [_, _]) hX hF.1 d_Re_readSum_84 ml_Re_135 cf_Pr_emit cv_Pr_emit rfl rfl (c_Pr_emit (o := 2) (a := 0) (len := c2.length) hA2.2.2.2.1.2.2.2.1.1 hA2.2.2.2.1.2.2.2.1.2.1 (by omega) (by omega) (by decide)) (rcv_obj hX (lv_28 _) rfl rfl) (by first | (unfold dP dT; omega) | (unfold dSb dP; omega) | (unfold dSb dS; omega) | (unfold dT dS; omega)  | (unfold dL dB; omega) | (unfold dB dE; omega) | (unfold dI dE; omega) | (unfold dI dL; omega) | (unfold dS dL; omega) | (unfold dP; omega) | (unfold dT; omega) | (unfold dS; omega) | (unfold dI; omega) | (unfold dL; omega) | (unfold dB; omega) | (unfold dE; omega) | (unfold dSb; omega) | omega) (by omega) (by omega) (Nat.le_of_ble_eq_true rfl) ?_
            refine ret_k ?_
            refine g_pop hX d_Re_readSum_87 rfl ?_
            refine g_iincN2 hX d_Re_readSum_88 rfl (by decide) ?_
            refine g_goto hX d_Re_readSum_91 ?_
            refine g_fget 3 ?_
            exact ih k (i + 1) y.1 y.2.1 _ _ _ (by omega) hk1 (by omega) (AcQ.bin (q := 20) q3 ft_w3 hA2 (by decide) (by decide)) (by omega)
          · obtain ⟨e, rfl⟩ := okR_f e43
            obtain rfl : x = .inl e := hk1
            refine g_iconst (v := nI 0) hX d_Re_readSum_76 rfl ?_
            refine g_zret hX hF d_Re_readSum_77 (Or.inl rfl) (by omega) (by omega) ?_
            exact ExQ.bad (q3.1.tr ft_w3.R) hQ
        · refine g_aload0 hX d_Re_readSum_31 ?_
          refine g_getF hX d_Re_readSum_32 fl_Re_12 (lv_25 _) ?_
          refine g_bipush (v := nI 45) hX d_Re_readSum_35 rfl ?_
          refine g_callV (As := [_]) hX hF.1 d_Re_readSum_37 ml_Re_60 cf_Ta_isSign cv_Ta_isSign rfl rfl (c_Ta_isSign (by decide) hR1.1) (rcv_obj hX (lv_26 _) rfl rfl) (by first | (unfold dP dT; omega) | (unfold dSb dP; omega) | (unfold dSb dS; omega) | (unfold dT dS; omega)  | (unfold dL dB; omega) | (unfold dB dE; omega) | (unfold dI dE; omega) | (unfold dI dL; omega) | (unfold dS dL; omega) | (unfold dP; omega) | (unfold dT; omega) | (unfold dS; omega) | (unfold dI; omega) | (unfold dL; omega) | (unfold dB; omega) | (unfold dE; omega) | (unfold dSb; omega) | omega) (by omega) (by omega) (Nat.le_of_ble_eq_true rfl) ?_
          refine ret_k ?_
          refine g_ifB_eq hX d_Re_readSum_40 (fun e40 => ?_) (fun e40 => ?_)
          · have hs := sgn_sgAn e28 e40
            refine g_iconst (v := nI 1) hX d_Re_readSum_94 rfl ?_
            refine g_zret hX hF d_Re_readSum_95 (Or.inr rfl) (by omega) (by omega) ?_
            rw [rd_4n hs] at q1
            obtain rfl := Option.some.inj q1
            exact q3.ex
          · refine g_aload0 hX d_Re_readSum_43 ?_
            refine g_getF hX d_Re_readSum_44 fl_Re_12 (lv_25 _) ?_
            refine g_bipush (v := nI 43) hX d_Re_readSum_47 rfl ?_
            refine g_callV (As := [_]) hX hF.1 d_Re_readSum_49 ml_Re_60 cf_Ta_isSign cv_Ta_isSign rfl rfl (c_Ta_isSign (by decide) hR1.1) (rcv_obj hX (lv_26 _) rfl rfl) (by first | (unfold dP dT; omega) | (unfold dSb dP; omega) | (unfold dSb dS; omega) | (unfold dT dS; omega)  | (unfold dL dB; omega) | (unfold dB dE; omega) | (unfold dI dE; omega) | (unfold dI dL; omega) | (unfold dS dL; omega) | (unfold dP; omega) | (unfold dT; omega) | (unfold dS; omega) | (unfold dI; omega) | (unfold dL; omega) | (unfold dB; omega) | (unfold dE; omega) | (unfold dSb; omega) | omega) (by omega) (by omega) (Nat.le_of_ble_eq_true rfl) ?_
            refine ret_k ?_
            refine g_ifB_eq hX d_Re_readSum_52 (fun c5 => ?_) (fun h => absurd h e28)
            refine g_iconst (v := nI 3) hX d_Re_readSum_59 rfl ?_
            refine g_istore3 hX d_Re_readSum_60 rfl (by decide) ?_
            refine g_aload0 hX d_Re_readSum_61 ?_
            refine g_getF hX d_Re_readSum_62 fl_Re_12 (lv_25 _) ?_
            refine g_callV (As := []) hX hF.1 d_Re_readSum_65 ml_Re_67 cf_Ta_step cv_Ta_step rfl rfl (c_Ta_step hR1.1.1 hR1.1.2.2.1 (enT_le hR1.fl.1)) (rcv_obj hX (lv_26 _) rfl rfl) (by first | (unfold dP dT; omega) | (unfold dSb dP; omega) | (unfold dSb dS; omega) | (unfold dT dS; omega)  | (unfold dL dB; omega) | (unfold dB dE; omega) | (unfold dI dE; omega) | (unfold dI dL; omega) | (unfold dS dL; omega) | (unfold dP; omega) | (unfold dT; omega) | (unfold dS; omega) | (unfold dI; omega) | (unfold dL; omega) | (unfold dB; omega) | (unfold dE; omega) | (unfold dSb; omega) | omega) (by omega) (by omega) (Nat.le_of_ble_eq_true rfl) ?_
            rintro _ w3 ⟨rfl, ft_w3, tk_w3⟩
            have h3 := hR1.step ft_w3 tk_w3
            show G0 _ _ _ _ _ _ _ _
            have hs : sgn t f1 sgA = some 21 := sgn_sgA1 e28 e40
            refine g_aload0 hX d_Re_readSum_68 ?_
            refine g_iload1 hX d_Re_readSum_69 ?_
            rw [rd_4s hs] at q1
            obtain ⟨x1, hx1, hk1⟩ := bind_2 q1
            refine g_callV (As := [_]) hX hF.1 d_Re_readSum_70 ml_Re_158 cf_Re_readTerm cv_Re_readTerm rfl rfl (HT k (by omega) _ _ _ _ _ _ _ hdp hx1 h3) (rcv_obj hX (lv_25 _) rfl rfl) (by first | (unfold dP dT; omega) | (unfold dSb dP; omega) | (unfold dSb dS; omega) | (unfold dT dS; omega)  | (unfold dL dB; omega) | (unfold dB dE; omega) | (unfold dI dE; omega) | (unfold dI dL; omega) | (unfold dS dL; omega) | (unfold dP; omega) | (unfold dT; omega) | (unfold dS; omega) | (unfold dI; omega) | (unfold dL; omega) | (unfold dB; omega) | (unfold dE; omega) | (unfold dSb; omega) | omega) (by omega) (by omega) (Nat.le_of_ble_eq_true rfl) ?_
            rintro r5 w5 hQ
            obtain rfl := hQ.rv
            show G0 _ _ _ _ _ _ _ _
            refine g_ifB_ne hX d_Re_readSum_73 (fun e43 => ?_) (fun e43 => ?_)
            · obtain ⟨y, rfl⟩ := okR_t e43
              obtain ⟨c2, hA2⟩ := hQ.acc
              replace hk1 : rd t o k 4 dp y.1 y.2.1 (dBin 21 a1 y.2.2) = some x := hk1
              have hlen2 := hA2.2.2.2.1.len
              have hge := nxT_ge t f1 hfl.1
              obtain ⟨hy1, -, -⟩ := rd_adv _ _ _ _ _ _ _ _ _ h3.1.2.2.2.2.2 h3.2.2.2.2.1 hx1
              have hy2 : nxT t f1 + 1 ≤ y.1 := hy1
              refine g_aload0 hX d_Re_readSum_78 ?_
              refine g_getF hX d_Re_readSum_79 fl_Re_23 (lv_25 _) ?_
              refine g_iload3 hX d_Re_readSum_82 ?_
              refine g_iconst (v := nI 0) hX d_Re_readSum_83 rfl ?_
              refine g_callV (As := [_, _]) hX hF.1 d_Re_readSum_84 ml_Re_135 cf_Pr_emit cv_Pr_emit rfl rfl (c_Pr_emit (o := 3) (a := 0) (len := c2.length) hA2.2.2.2.1.2.2.2.1.1 hA2.2.2.2.1.2.2.2.1.2.1 (by omega) (by omega) (by decide)) (rcv_obj hX (lv_28 _) rfl rfl) (by first | (unfold dP dT; omega) | (unfold dSb dP; omega) | (unfold dSb dS; omega) | (unfold dT dS; omega)  | (unfold dL dB; omega) | (unfold dB dE; omega) | (unfold dI dE; omega) | (unfold dI dL; omega) | (unfold dS dL; omega) | (unfold dP; omega) | (unfold dT; omega) | (unfold dS; omega) | (unfold dI; omega) | (unfold dL; omega) | (unfold dB; omega) | (unfold dE; omega) | (unfold dSb; omega) | omega) (by omega) (by omega) (Nat.le_of_ble_eq_true rfl) ?_
              refine ret_k ?_
              refine g_pop hX d_Re_readSum_87 rfl ?_
              refine g_iincN2 hX d_Re_readSum_88 rfl (by decide) ?_
              refine g_goto hX d_Re_readSum_91 ?_
              refine g_fget 3 ?_
              exact ih k (i + 1) y.1 y.2.1 _ _ _ (by omega) hk1 (by omega) (AcQ.bin (q := 21) q3 ft_w3 hA2 (by decide) (by decide)) (by omega)
            · obtain ⟨e, rfl⟩ := okR_f e43
              obtain rfl : x = .inl e := hk1
              refine g_iconst (v := nI 0) hX d_Re_readSum_76 rfl ?_
              refine g_zret hX hF d_Re_readSum_77 (Or.inl rfl) (by omega) (by omega) ?_
              exact ExQ.bad (q3.1.tr ft_w3.R) hQ
  refine g_aload0 hX d_Re_readSum_0 ?_
  refine g_iload1 hX d_Re_readSum_1 ?_
  refine g_callV (As := [_]) hX hF.1 d_Re_readSum_2 ml_Re_158 cf_Re_readTerm cv_Re_readTerm rfl rfl (HT n (by omega) _ _ _ _ _ _ _ hdp hx0 h) (rcv_obj hX (lv_25 _) rfl rfl) (by first | (unfold dP dT; omega) | (unfold dSb dP; omega) | (unfold dSb dS; omega) | (unfold dT dS; omega)  | (unfold dL dB; omega) | (unfold dB dE; omega) | (unfold dI dE; omega) | (unfold dI dL; omega) | (unfold dS dL; omega) | (unfold dP; omega) | (unfold dT; omega) | (unfold dS; omega) | (unfold dI; omega) | (unfold dL; omega) | (unfold dB; omega) | (unfold dE; omega) | (unfold dSb; omega) | omega) (by omega) (by omega) (Nat.le_of_ble_eq_true rfl) ?_
  rintro r5 w5 hQ
  obtain rfl := hQ.rv
  show G0 _ _ _ _ _ _ _ _
  refine g_ifB_ne hX d_Re_readSum_5 (fun e5 => ?_) (fun e5 => ?_)
  · obtain ⟨y, rfl⟩ := okR_t e5
    obtain ⟨c1, hA⟩ := hQ.acc
    replace hk0 : rd t o n 4 dp y.1 y.2.1 y.2.2 = some x := hk0
    obtain ⟨hy1, -, -⟩ := rd_adv _ _ _ _ _ _ _ _ _ h.1.2.2.2.2.2 h.2.2.2.2.1 hx0
    refine g_iconst (v := nI 0) hX d_Re_readSum_10 rfl ?_
    refine g_istore2 hX d_Re_readSum_11 rfl (by decide) ?_
    exact lp (n + 1) n 0 y.1 y.2.1 y.2.2 c1 w5 (by omega) hk0 (Nat.le_refl _) hA (Nat.zero_le _)
  · obtain ⟨e, rfl⟩ := okR_f e5
    obtain rfl : x = .inl e := hk0
    refine g_iconst (v := nI 0) hX d_Re_readSum_8 rfl ?_
    refine g_zret hX hF d_Re_readSum_9 (Or.inl rfl) (by omega) (by omega) ?_
    exact ExQ.bad (FrRd.rf w) hQ
theorem c_Re_readBoth {E : EV} {w : Mem} {t : List Nat} {o : Bool} {n dp f p : Nat} {a : Den} {c : List (Nat × Nat)} {x : ResT} (HL : ∀ k, k < n → CT E t o k 5 m_Re_readPlain dL) (hdp : dp ≤ 8) (hrd : rd t o n 6 dp f p a = some x) (h : RdI w t o f p c) : T E m_Re_readBoth (dB dp) 0 0 [.ref 25, .int (nI dp)] w (fun r w2 => ExQ w w2 t o c f p x r) := by
  refine T_of (L := [.ref 25, .int (nI dp), un, un]) cf_Re_readBoth rfl (Nat.le_of_ble_eq_true rfl) (fun X hX hF => ?_)
  obtain ⟨n, rfl⟩ := rd_pos hrd
  rw [rd_6] at hrd
  obtain ⟨x0, hx0, hk0⟩ := bind_2 hrd
  have lp : ∀ (fuel : Nat) (k i f1 p1 : Nat) (a1 : Den) (c1 : List (Nat × Nat)) (wk : Mem), k < fuel → (rd t o k 7 dp f1 p1 a1 = some x) → (k ≤ n) → (AcQ w wk t o c f p f1 p1 a1 c1) → (i ≤ f1) → G0 E X 0 0 12 [.ref 25, .int (nI dp), .int (nI i), un] [] wk := by
    intro fuel
    induction fuel with
    | zero => intro k i f1 p1 a1 c1 wk q0; exact absurd q0 (Nat.not_lt_zero _)
    | succ fuel ih =>
      intro k i f1 p1 a1 c1 wk q0 q1 q2 q3 q4
      obtain ⟨k, rfl⟩ := rd_pos q1
      have hR1 := q3.2.2.2.1
      have hfl := hR1.fl
      have hp1 := hR1.2.2.2.2.1
      refine g_iload2 hX d_Re_readBoth_12 ?_
      refine g_sipush (v := nI 400) hX d_Re_readBoth_13 rfl ?_
      refine g_icmpN_ge hX d_Re_readBoth_16 (by omega) (by omega) (fun e16 => ?_) (fun e16 => ?_)
      · have hs : ¬ isW t f1 wAnd := fun z => isW_0 z (srt_400 (t := t) (f := f1) (by omega))
        refine g_iconst (v := nI 1) hX d_Re_readBoth_73 rfl ?_
        refine g_zret hX hF d_Re_readBoth_74 (Or.inr rfl) (by omega) (by omega) ?_
        rw [rd_7n hs] at q1
        obtain rfl := Option.some.inj q1
        exact q3.ex
      · refine g_aload0 hX d_Re_readBoth_19 ?_
        refine g_getF hX d_Re_readBoth_20 fl_Re_12 (lv_25 _) ?_
        refine g_ldcS (i := 22) (tx := "and") hX d_Re_readBoth_23 (by decide) ?_
        refine g_callV (As := [_]) hX hF.1 d_Re_readBoth_25 ml_Re_72 cf_Ta_isWord cv_Ta_isWord rfl rfl (c_Ta_isWord (i := 22) (wd := wAnd) (by decide) (strW_all.2.2.2.2.2.2.2.2.2.2.2.2.2.2.2.2.2.2.2.2.2.2.1) hR1.1) (rcv_obj hX (lv_26 _) rfl rfl) (by first | (unfold dP dT; omega) | (unfold dSb dP; omega) | (unfold dSb dS; omega) | (unfold dT dS; omega)  | (unfold dL dB; omega) | (unfold dB dE; omega) | (unfold dI dE; omega) | (unfold dI dL; omega) | (unfold dS dL; omega) | (unfold dP; omega) | (unfold dT; omega) | (unfold dS; omega) | (unfold dI; omega) | (unfold dL; omega) | (unfold dB; omega) | (unfold dE; omega) | (unfold dSb; omega) | omega) (by omega) (by omega) (Nat.le_of_ble_eq_true rfl) ?_
        refine ret_k ?_
        refine g_ifB_eq hX d_Re_readBoth_28 (fun e28 => ?_) (fun e28 => ?_)
        · have hs := e28
          refine g_iconst (v := nI 1) hX d_Re_readBoth_73 rfl ?_
          refine g_zret hX hF d_Re_readBoth_74 (Or.inr rfl) (by omega) (by omega) ?_
          rw [rd_7n hs] at q1
          obtain rfl := Option.some.inj q1
          exact q3.ex
        · have h36 := q3.2.2.2.2.2.2
          have h37 := h.2.2.2.2.2.1
          have hlen1 := hR1.len
          refine g_aload0 hX d_Re_readBoth_31 ?_
          refine g_getF hX d_Re_readBoth_32 fl_Re_12 (lv_25 _) ?_
          refine g_callV (As := []) hX hF.1 d_Re_readBoth_35 ml_Re_67 cf_Ta_step cv_Ta_step rfl rfl (c_Ta_step hR1.1.1 hR1.1.2.2.1 (enT_le hR1.fl.1)) (rcv_obj hX (lv_26 _) rfl rfl) (by first | (unfold dP dT; omega) | (unfold dSb dP; omega) | (unfold dSb dS; omega) | (unfold dT dS; omega)  | (unfold dL dB; omega) | (unfold dB dE; omega) | (unfold dI dE; omega) | (unfold dI dL; omega) | (unfold dS dL; omega) | (unfold dP; omega) | (unfold dT; omega) | (unfold dS; omega) | (unfold dI; omega) | (unfold dL; omega) | (unfold dB; omega) | (unfold dE; omega) | (unfold dSb; omega) | omega) (by omega) (by omega) (Nat.le_of_ble_eq_true rfl) ?_
          rintro _ w3 ⟨rfl, ft_w3, tk_w3⟩
          have h3 := hR1.step ft_w3 tk_w3
          show G0 _ _ _ _ _ _ _ _
          refine g_aload0 hX d_Re_readBoth_38 ?_
          refine g_getF hX d_Re_readBoth_39 fl_Re_23 (lv_25 _) ?_
          refine g_bipush (v := nI 11) hX d_Re_readBoth_42 rfl ?_
          refine g_iconst (v := nI 0) hX d_Re_readBoth_44 rfl ?_
          refine g_callV (As := [_, _]) hX hF.1 d_Re_readBoth_45 ml_Re_135 cf_Pr_emit cv_Pr_emit rfl rfl (c_Pr_emit (o := 11) (a := 0) (len := c1.length) h3.2.2.2.1.1 h3.2.2.2.1.2.1 (by omega) (by decide) (by decide)) (rcv_obj hX (lv_28 _) rfl rfl) (by first | (unfold dP dT; omega) | (unfold dSb dP; omega) | (unfold dSb dS; omega) | (unfold dT dS; omega)  | (unfold dL dB; omega) | (unfold dB dE; omega) | (unfold dI dE; omega) | (unfold dI dL; omega) | (unfold dS dL; omega) | (unfold dP; omega) | (unfold dT; omega) | (unfold dS; omega) | (unfold dI; omega) | (unfold dL; omega) | (unfold dB; omega) | (unfold dE; omega) | (unfold dSb; omega) | omega) (by omega) (by omega) (Nat.le_of_ble_eq_true rfl) ?_
          refine ret_k ?_
          refine g_istore3 hX d_Re_readBoth_48 rfl (by decide) ?_
          refine g_aload0 hX d_Re_readBoth_49 ?_
          refine g_iload1 hX d_Re_readBoth_50 ?_
          have hge := nxT_ge t f1 hfl.1
          have h4 := h3.jmp (q := 29) (Or.inl rfl) (by omega)
          rw [rd_7y e28] at q1
          obtain ⟨x1, hx1, hk1⟩ := bind_2 q1
          refine g_callV (As := [_]) hX hF.1 d_Re_readBoth_51 ml_Re_142 cf_Re_readPlain cv_Re_readPlain rfl rfl (HL k (by omega) _ _ _ _ _ _ _ hdp hx1 h4) (rcv_obj hX (lv_25 _) rfl rfl) (by first | (unfold dP dT; omega) | (unfold dSb dP; omega) | (unfold dSb dS; omega) | (unfold dT dS; omega)  | (unfold dL dB; omega) | (unfold dB dE; omega) | (unfold dI dE; omega) | (unfold dI dL; omega) | (unfold dS dL; omega) | (unfold dP; omega) | (unfold dT; omega) | (unfold dS; omega) | (unfold dI; omega) | (unfold dL; omega) | (unfold dB; omega) | (unfold dE; omega) | (unfold dSb; omega) | omega) (by omega) (by omega) (Nat.le_of_ble_eq_true rfl) ?_
          rintro r5 w5 hQ
          obtain rfl := hQ.rv
          show G0 _ _ _ _ _ _ _ _
          refine g_ifB_ne hX d_Re_readBoth_54 (fun e43 => ?_) (fun e43 => ?_)
          · obtain ⟨y, rfl⟩ := okR_t e43
            obtain ⟨c2, hA2⟩ := hQ.acc
            replace hk1 : rd t o k 7 dp y.1 y.2.1 (dAnd 29 a1 y.2.2) = some x := hk1
            have hlen2 := hA2.2.2.2.1.len
            obtain ⟨hy1, -, -⟩ := rd_adv _ _ _ _ _ _ _ _ _ h3.1.2.2.2.2.2 h3.2.2.2.2.1 hx1
            have hy2 : nxT t f1 + 1 ≤ y.1 := hy1
            obtain ⟨hce, hcl⟩ := hA2.cell (Or.inl rfl)
            refine g_aload0 hX d_Re_readBoth_59 ?_
            refine g_getF hX d_Re_readBoth_60 fl_Re_23 (lv_25 _) ?_
            refine g_iload3 hX d_Re_readBoth_63 ?_
            refine g_callV (As := [_]) hX hF.1 d_Re_readBoth_64 ml_Re_139 cf_Pr_aim cv_Pr_aim rfl rfl (c_Pr_aim (k := c1.length) (o := 11) (len := c2.length) hA2.2.2.2.1.2.2.2.1.1 hA2.2.2.2.1.2.2.2.1.2.1 hcl (by omega) (by decide) hce) (rcv_obj hX (lv_28 _) rfl rfl) (by first | (unfold dP dT; omega) | (unfold dSb dP; omega) | (unfold dSb dS; omega) | (unfold dT dS; omega)  | (unfold dL dB; omega) | (unfold dB dE; omega) | (unfold dI dE; omega) | (unfold dI dL; omega) | (unfold dS dL; omega) | (unfold dP; omega) | (unfold dT; omega) | (unfold dS; omega) | (unfold dI; omega) | (unfold dL; omega) | (unfold dB; omega) | (unfold dE; omega) | (unfold dSb; omega) | omega) (by omega) (by omega) (Nat.le_of_ble_eq_true rfl) ?_
            refine ret_k ?_
            refine g_iincN2 hX d_Re_readBoth_67 rfl (by decide) ?_
            refine g_goto hX d_Re_readBoth_70 ?_
            refine g_fget 3 ?_
            exact ih k (i + 1) y.1 y.2.1 _ _ _ (by omega) hk1 (by omega) (AcQ.jump (q := 29) q3 ft_w3 (Or.inl rfl) hA2) (by omega)
          · obtain ⟨e, rfl⟩ := okR_f e43
            obtain rfl : x = .inl e := hk1
            refine g_iconst (v := nI 0) hX d_Re_readBoth_57 rfl ?_
            refine g_zret hX hF d_Re_readBoth_58 (Or.inl rfl) (by omega) (by omega) ?_
            exact ExQ.bad ((q3.1.tr ft_w3.R).em (by decide)) hQ
  refine g_aload0 hX d_Re_readBoth_0 ?_
  refine g_iload1 hX d_Re_readBoth_1 ?_
  refine g_callV (As := [_]) hX hF.1 d_Re_readBoth_2 ml_Re_142 cf_Re_readPlain cv_Re_readPlain rfl rfl (HL n (by omega) _ _ _ _ _ _ _ hdp hx0 h) (rcv_obj hX (lv_25 _) rfl rfl) (by first | (unfold dP dT; omega) | (unfold dSb dP; omega) | (unfold dSb dS; omega) | (unfold dT dS; omega)  | (unfold dL dB; omega) | (unfold dB dE; omega) | (unfold dI dE; omega) | (unfold dI dL; omega) | (unfold dS dL; omega) | (unfold dP; omega) | (unfold dT; omega) | (unfold dS; omega) | (unfold dI; omega) | (unfold dL; omega) | (unfold dB; omega) | (unfold dE; omega) | (unfold dSb; omega) | omega) (by omega) (by omega) (Nat.le_of_ble_eq_true rfl) ?_
  rintro r5 w5 hQ
  obtain rfl := hQ.rv
  show G0 _ _ _ _ _ _ _ _
  refine g_ifB_ne hX d_Re_readBoth_5 (fun e5 => ?_) (fun e5 => ?_)
  · obtain ⟨y, rfl⟩ := okR_t e5
    obtain ⟨c1, hA⟩ := hQ.acc
    replace hk0 : rd t o n 7 dp y.1 y.2.1 y.2.2 = some x := hk0
    obtain ⟨hy1, -, -⟩ := rd_adv _ _ _ _ _ _ _ _ _ h.1.2.2.2.2.2 h.2.2.2.2.1 hx0
    refine g_iconst (v := nI 0) hX d_Re_readBoth_10 rfl ?_
    refine g_istore2 hX d_Re_readBoth_11 rfl (by decide) ?_
    exact lp (n + 1) n 0 y.1 y.2.1 y.2.2 c1 w5 (by omega) hk0 (Nat.le_refl _) hA (Nat.zero_le _)
  · obtain ⟨e, rfl⟩ := okR_f e5
    obtain rfl : x = .inl e := hk0
    refine g_iconst (v := nI 0) hX d_Re_readBoth_8 rfl ?_
    refine g_zret hX hF d_Re_readBoth_9 (Or.inl rfl) (by omega) (by omega) ?_
    exact ExQ.bad (FrRd.rf w) hQ
theorem c_Re_readTest {E : EV} {w : Mem} {t : List Nat} {o : Bool} {n dp f p : Nat} {a : Den} {c : List (Nat × Nat)} {x : ResT} (HB : ∀ k, k < n → CT E t o k 6 m_Re_readBoth dB) (hdp : dp ≤ 8) (hrd : rd t o n 8 dp f p a = some x) (h : RdI w t o f p c) : T E m_Re_readTest (dE dp) 0 0 [.ref 25, .int (nI dp)] w (fun r w2 => ExQ w w2 t o c f p x r) := by
  refine T_of (L := [.ref 25, .int (nI dp), un, un]) cf_Re_readTest rfl (Nat.le_of_ble_eq_true rfl) (fun X hX hF => ?_)
  obtain ⟨n, rfl⟩ := rd_pos hrd
  rw [rd_8] at hrd
  obtain ⟨x0, hx0, hk0⟩ := bind_2 hrd
  have lp : ∀ (fuel : Nat) (k i f1 p1 : Nat) (a1 : Den) (c1 : List (Nat × Nat)) (wk : Mem), k < fuel → (rd t o k 9 dp f1 p1 a1 = some x) → (k ≤ n) → (AcQ w wk t o c f p f1 p1 a1 c1) → (i ≤ f1) → G0 E X 0 0 12 [.ref 25, .int (nI dp), .int (nI i), un] [] wk := by
    intro fuel
    induction fuel with
    | zero => intro k i f1 p1 a1 c1 wk q0; exact absurd q0 (Nat.not_lt_zero _)
    | succ fuel ih =>
      intro k i f1 p1 a1 c1 wk q0 q1 q2 q3 q4
      obtain ⟨k, rfl⟩ := rd_pos q1
      have hR1 := q3.2.2.2.1
      have hfl := hR1.fl
      have hp1 := hR1.2.2.2.2.1
      refine g_iload2 hX d_Re_readTest_12 ?_
      refine g_sipush (v := nI 400) hX d_Re_readTest_13 rfl ?_
      refine g_icmpN_ge hX d_Re_readTest_16 (by omega) (by omega) (fun e16 => ?_) (fun e16 => ?_)
      · have hs : ¬ isW t f1 wOr := fun z => isW_0 z (srt_400 (t := t) (f := f1) (by omega))
        refine g_iconst (v := nI 1) hX d_Re_readTest_73 rfl ?_
        refine g_zret hX hF d_Re_readTest_74 (Or.inr rfl) (by omega) (by omega) ?_
        rw [rd_9n hs] at q1
        obtain rfl := Option.some.inj q1
        exact q3.ex
      · refine g_aload0 hX d_Re_readTest_19 ?_
        refine g_getF hX d_Re_readTest_20 fl_Re_12 (lv_25 _) ?_
        refine g_ldcS (i := 23) (tx := "or") hX d_Re_readTest_23 (by decide) ?_
        refine g_callV (As := [_]) hX hF.1 d_Re_readTest_25 ml_Re_72 cf_Ta_isWord cv_Ta_isWord rfl rfl (c_Ta_isWord (i := 23) (wd := wOr) (by decide) (strW_all.2.2.2.2.2.2.2.2.2.2.2.2.2.2.2.2.2.2.2.2.2.2.2) hR1.1) (rcv_obj hX (lv_26 _) rfl rfl) (by first | (unfold dP dT; omega) | (unfold dSb dP; omega) | (unfold dSb dS; omega) | (unfold dT dS; omega)  | (unfold dL dB; omega) | (unfold dB dE; omega) | (unfold dI dE; omega) | (unfold dI dL; omega) | (unfold dS dL; omega) | (unfold dP; omega) | (unfold dT; omega) | (unfold dS; omega) | (unfold dI; omega) | (unfold dL; omega) | (unfold dB; omega) | (unfold dE; omega) | (unfold dSb; omega) | omega) (by omega) (by omega) (Nat.le_of_ble_eq_true rfl) ?_
        refine ret_k ?_
        refine g_ifB_eq hX d_Re_readTest_28 (fun e28 => ?_) (fun e28 => ?_)
        · have hs := e28
          refine g_iconst (v := nI 1) hX d_Re_readTest_73 rfl ?_
          refine g_zret hX hF d_Re_readTest_74 (Or.inr rfl) (by omega) (by omega) ?_
          rw [rd_9n hs] at q1
          obtain rfl := Option.some.inj q1
          exact q3.ex
        · have h36 := q3.2.2.2.2.2.2
          have h37 := h.2.2.2.2.2.1
          have hlen1 := hR1.len
          refine g_aload0 hX d_Re_readTest_31 ?_
          refine g_getF hX d_Re_readTest_32 fl_Re_12 (lv_25 _) ?_
          refine g_callV (As := []) hX hF.1 d_Re_readTest_35 ml_Re_67 cf_Ta_step cv_Ta_step rfl rfl (c_Ta_step hR1.1.1 hR1.1.2.2.1 (enT_le hR1.fl.1)) (rcv_obj hX (lv_26 _) rfl rfl) (by first | (unfold dP dT; omega) | (unfold dSb dP; omega) | (unfold dSb dS; omega) | (unfold dT dS; omega)  | (unfold dL dB; omega) | (unfold dB dE; omega) | (unfold dI dE; omega) | (unfold dI dL; omega) | (unfold dS dL; omega) | (unfold dP; omega) | (unfold dT; omega) | (unfold dS; omega) | (unfold dI; omega) | (unfold dL; omega) | (unfold dB; omega) | (unfold dE; omega) | (unfold dSb; omega) | omega) (by omega) (by omega) (Nat.le_of_ble_eq_true rfl) ?_
          rintro _ w3 ⟨rfl, ft_w3, tk_w3⟩
          have h3 := hR1.step ft_w3 tk_w3
          show G0 _ _ _ _ _ _ _ _
          refine g_aload0 hX d_Re_readTest_38 ?_
          refine g_getF hX d_Re_readTest_39 fl_Re_23 (lv_25 _) ?_
          refine g_bipush (v := nI 12) hX d_Re_readTest_42 rfl ?_
          refine g_iconst (v := nI 0) hX d_Re_readTest_44 rfl ?_
          refine g_callV (As := [_, _]) hX hF.1 d_Re_readTest_45 ml_Re_135 cf_Pr_emit cv_Pr_emit rfl rfl (c_Pr_emit (o := 12) (a := 0) (len := c1.length) h3.2.2.2.1.1 h3.2.2.2.1.2.1 (by omega) (by decide) (by decide)) (rcv_obj hX (lv_28 _) rfl rfl) (by first | (unfold dP dT; omega) | (unfold dSb dP; omega) | (unfold dSb dS; omega) | (unfold dT dS; omega)  | (unfold dL dB; omega) | (unfold dB dE; omega) | (unfold dI dE; omega) | (unfold dI dL; omega) | (unfold dS dL; omega) | (unfold dP; omega) | (unfold dT; omega) | (unfold dS; omega) | (unfold dI; omega) | (unfold dL; omega) | (unfold dB; omega) | (unfold dE; omega) | (unfold dSb; omega) | omega) (by omega) (by omega) (Nat.le_of_ble_eq_true rfl) ?_
          refine ret_k ?_
          refine g_istore3 hX d_Re_readTest_48 rfl (by decide) ?_
          refine g_aload0 hX d_Re_readTest_49 ?_
          refine g_iload1 hX d_Re_readTest_50 ?_
          have hge := nxT_ge t f1 hfl.1
          have h4 := h3.jmp (q := 30) (Or.inr rfl) (by omega)
          rw [rd_9y e28] at q1
          obtain ⟨x1, hx1, hk1⟩ := bind_2 q1
          refine g_callV (As := [_]) hX hF.1 d_Re_readTest_51 ml_Re_130 cf_Re_readBoth cv_Re_readBoth rfl rfl (HB k (by omega) _ _ _ _ _ _ _ hdp hx1 h4) (rcv_obj hX (lv_25 _) rfl rfl) (by first | (unfold dP dT; omega) | (unfold dSb dP; omega) | (unfold dSb dS; omega) | (unfold dT dS; omega)  | (unfold dL dB; omega) | (unfold dB dE; omega) | (unfold dI dE; omega) | (unfold dI dL; omega) | (unfold dS dL; omega) | (unfold dP; omega) | (unfold dT; omega) | (unfold dS; omega) | (unfold dI; omega) | (unfold dL; omega) | (unfold dB; omega) | (unfold dE; omega) | (unfold dSb; omega) | omega) (by omega) (by omega) (Nat.le_of_ble_eq_true rfl) ?_
          rintro r5 w5 hQ
          obtain rfl := hQ.rv
          show G0 _ _ _ _ _ _ _ _
          refine g_ifB_ne hX d_Re_readTest_54 (fun e43 => ?_) (fun e43 => ?_)
          · obtain ⟨y, rfl⟩ := okR_t e43
            obtain ⟨c2, hA2⟩ := hQ.acc
            replace hk1 : rd t o k 9 dp y.1 y.2.1 (dAnd 30 a1 y.2.2) = some x := hk1
            have hlen2 := hA2.2.2.2.1.len
            obtain ⟨hy1, -, -⟩ := rd_adv _ _ _ _ _ _ _ _ _ h3.1.2.2.2.2.2 h3.2.2.2.2.1 hx1
            have hy2 : nxT t f1 + 1 ≤ y.1 := hy1
            obtain ⟨hce, hcl⟩ := hA2.cell (Or.inr rfl)
            refine g_aload0 hX d_Re_readTest_59 ?_
            refine g_getF hX d_Re_readTest_60 fl_Re_23 (lv_25 _) ?_
            refine g_iload3 hX d_Re_readTest_63 ?_
            refine g_callV (As := [_]) hX hF.1 d_Re_readTest_64 ml_Re_139 cf_Pr_aim cv_Pr_aim rfl rfl (c_Pr_aim (k := c1.length) (o := 12) (len := c2.length) hA2.2.2.2.1.2.2.2.1.1 hA2.2.2.2.1.2.2.2.1.2.1 hcl (by omega) (by decide) hce) (rcv_obj hX (lv_28 _) rfl rfl) (by first | (unfold dP dT; omega) | (unfold dSb dP; omega) | (unfold dSb dS; omega) | (unfold dT dS; omega)  | (unfold dL dB; omega) | (unfold dB dE; omega) | (unfold dI dE; omega) | (unfold dI dL; omega) | (unfold dS dL; omega) | (unfold dP; omega) | (unfold dT; omega) | (unfold dS; omega) | (unfold dI; omega) | (unfold dL; omega) | (unfold dB; omega) | (unfold dE; omega) | (unfold dSb; omega) | omega) (by omega) (by omega) (Nat.le_of_ble_eq_true rfl) ?_
            refine ret_k ?_
            refine g_iincN2 hX d_Re_readTest_67 rfl (by decide) ?_
            refine g_goto hX d_Re_readTest_70 ?_
            refine g_fget 3 ?_
            exact ih k (i + 1) y.1 y.2.1 _ _ _ (by omega) hk1 (by omega) (AcQ.jump (q := 30) q3 ft_w3 (Or.inr rfl) hA2) (by omega)
          · obtain ⟨e, rfl⟩ := okR_f e43
            obtain rfl : x = .inl e := hk1
            refine g_iconst (v := nI 0) hX d_Re_readTest_57 rfl ?_
            refine g_zret hX hF d_Re_readTest_58 (Or.inl rfl) (by omega) (by omega) ?_
            exact ExQ.bad ((q3.1.tr ft_w3.R).em (by decide)) hQ
  refine g_aload0 hX d_Re_readTest_0 ?_
  refine g_iload1 hX d_Re_readTest_1 ?_
  refine g_callV (As := [_]) hX hF.1 d_Re_readTest_2 ml_Re_130 cf_Re_readBoth cv_Re_readBoth rfl rfl (HB n (by omega) _ _ _ _ _ _ _ hdp hx0 h) (rcv_obj hX (lv_25 _) rfl rfl) (by first | (unfold dP dT; omega) | (unfold dSb dP; omega) | (unfold dSb dS; omega) | (unfold dT dS; omega)  | (unfold dL dB; omega) | (unfold dB dE; omega) | (unfold dI dE; omega) | (unfold dI dL; omega) | (unfold dS dL; omega) | (unfold dP; omega) | (unfold dT; omega) | (unfold dS; omega) | (unfold dI; omega) | (unfold dL; omega) | (unfold dB; omega) | (unfold dE; omega) | (unfold dSb; omega) | omega) (by omega) (by omega) (Nat.le_of_ble_eq_true rfl) ?_
  rintro r5 w5 hQ
  obtain rfl := hQ.rv
  show G0 _ _ _ _ _ _ _ _
  refine g_ifB_ne hX d_Re_readTest_5 (fun e5 => ?_) (fun e5 => ?_)
  · obtain ⟨y, rfl⟩ := okR_t e5
    obtain ⟨c1, hA⟩ := hQ.acc
    replace hk0 : rd t o n 9 dp y.1 y.2.1 y.2.2 = some x := hk0
    obtain ⟨hy1, -, -⟩ := rd_adv _ _ _ _ _ _ _ _ _ h.1.2.2.2.2.2 h.2.2.2.2.1 hx0
    refine g_iconst (v := nI 0) hX d_Re_readTest_10 rfl ?_
    refine g_istore2 hX d_Re_readTest_11 rfl (by decide) ?_
    exact lp (n + 1) n 0 y.1 y.2.1 y.2.2 c1 w5 (by omega) hk0 (Nat.le_refl _) hA (Nat.zero_le _)
  · obtain ⟨e, rfl⟩ := okR_f e5
    obtain rfl : x = .inl e := hk0
    refine g_iconst (v := nI 0) hX d_Re_readTest_8 rfl ?_
    refine g_zret hX hF d_Re_readTest_9 (Or.inl rfl) (by omega) (by omega) ?_
    exact ExQ.bad (FrRd.rf w) hQ
