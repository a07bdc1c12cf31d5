def m_Re_readInBrackets : MR := (⟨"SubgraphDesk$Reader", "readInBrackets", "(I)Z"⟩, prog_8_method_13_code, 2, (some .boolean))
theorem cf_Re_readInBrackets : CF m_Re_readInBrackets 1 := ⟨gd 966 (by decide +kernel) rfl, gd 142 (by decide +kernel) rfl, by decide +kernel, by decide, by decide +kernel⟩
theorem cv_Re_readInBrackets : CV m_Re_readInBrackets := ⟨gd 965 (by decide +kernel) rfl, gd 19 (by decide +kernel) rfl⟩
def m_Re_readOtherSum : MR := (⟨"SubgraphDesk$Reader", "readOtherSum", "(I)Z"⟩, prog_8_method_14_code, 3, (some .boolean))
theorem cf_Re_readOtherSum : CF m_Re_readOtherSum 1 := ⟨gd 970 (by decide +kernel) rfl, gd 142 (by decide +kernel) rfl, by decide +kernel, by decide, by decide +kernel⟩
theorem cv_Re_readOtherSum : CV m_Re_readOtherSum := ⟨gd 969 (by decide +kernel) rfl, gd 20 (by decide +kernel) rfl⟩
theorem d_Re_readInBrackets_0 : Dc prog_8_method_13_code 0 (.iload_n 1) 1 1 := ⟨by decide +kernel, rfl⟩
theorem d_Re_readInBrackets_1 : Dc prog_8_method_13_code 1 (.bipush 8) 2 3 := ⟨by decide +kernel, rfl⟩
theorem d_Re_readInBrackets_3 : Dj prog_8_method_13_code 3 (.if_icmp .lt 8) 6 8 11 := ⟨by decide +kernel, rfl, rfl⟩
theorem d_Re_readInBrackets_6 : Dc prog_8_method_13_code 6 (.aload_n 0) 1 7 := ⟨by decide +kernel, rfl⟩
theorem d_Re_readInBrackets_7 : Dc prog_8_method_13_code 7 (.invokevirtual 64) 3 10 := ⟨by decide +kernel, rfl⟩
theorem d_Re_readInBrackets_10 : Dc prog_8_method_13_code 10 (.ireturn) 1 11 := ⟨by decide +kernel, rfl⟩
theorem d_Re_readInBrackets_11 : Dc prog_8_method_13_code 11 (.aload_n 0) 1 12 := ⟨by decide +kernel, rfl⟩
theorem d_Re_readInBrackets_12 : Dc prog_8_method_13_code 12 (.getfield 12) 3 15 := ⟨by decide +kernel, rfl⟩
theorem d_Re_readInBrackets_15 : Dc prog_8_method_13_code 15 (.invokevirtual 67) 3 18 := ⟨by decide +kernel, rfl⟩
theorem d_Re_readInBrackets_18 : Dc prog_8_method_13_code 18 (.aload_n 0) 1 19 := ⟨by decide +kernel, rfl⟩
theorem d_Re_readInBrackets_19 : Dc prog_8_method_13_code 19 (.iload_n 1) 1 20 := ⟨by decide +kernel, rfl⟩
theorem d_Re_readInBrackets_20 : Dc prog_8_method_13_code 20 (.iconst 1) 1 21 := ⟨by decide +kernel, rfl⟩
theorem d_Re_readInBrackets_21 : Dc prog_8_method_13_code 21 (.iadd) 1 22 := ⟨by decide +kernel, rfl⟩
theorem d_Re_readInBrackets_22 : Dc prog_8_method_13_code 22 (.invokevirtual 127) 3 25 := ⟨by decide +kernel, rfl⟩
theorem d_Re_readInBrackets_25 : Dj prog_8_method_13_code 25 (.ifCond .ne 5) 28 5 30 := ⟨by decide +kernel, rfl, rfl⟩
theorem d_Re_readInBrackets_28 : Dc prog_8_method_13_code 28 (.iconst 0) 1 29 := ⟨by decide +kernel, rfl⟩
theorem d_Re_readInBrackets_29 : Dc prog_8_method_13_code 29 (.ireturn) 1 30 := ⟨by decide +kernel, rfl⟩
theorem d_Re_readInBrackets_30 : Dc prog_8_method_13_code 30 (.aload_n 0) 1 31 := ⟨by decide +kernel, rfl⟩
theorem d_Re_readInBrackets_31 : Dc prog_8_method_13_code 31 (.getfield 12) 3 34 := ⟨by decide +kernel, rfl⟩
theorem d_Re_readInBrackets_34 : Dc prog_8_method_13_code 34 (.bipush 41) 2 36 := ⟨by decide +kernel, rfl⟩
theorem d_Re_readInBrackets_36 : Dc prog_8_method_13_code 36 (.invokevirtual 60) 3 39 := ⟨by decide +kernel, rfl⟩
theorem d_Re_readInBrackets_39 : Dj prog_8_method_13_code 39 (.ifCond .ne 8) 42 8 47 := ⟨by decide +kernel, rfl, rfl⟩
theorem d_Re_readInBrackets_42 : Dc prog_8_method_13_code 42 (.aload_n 0) 1 43 := ⟨by decide +kernel, rfl⟩
theorem d_Re_readInBrackets_43 : Dc prog_8_method_13_code 43 (.invokevirtual 64) 3 46 := ⟨by decide +kernel, rfl⟩
theorem d_Re_readInBrackets_46 : Dc prog_8_method_13_code 46 (.ireturn) 1 47 := ⟨by decide +kernel, rfl⟩
theorem d_Re_readInBrackets_47 : Dc prog_8_method_13_code 47 (.aload_n 0) 1 48 := ⟨by decide +kernel, rfl⟩
theorem d_Re_readInBrackets_48 : Dc prog_8_method_13_code 48 (.getfield 12) 3 51 := ⟨by decide +kernel, rfl⟩
theorem d_Re_readInBrackets_51 : Dc prog_8_method_13_code 51 (.invokevirtual 67) 3 54 := ⟨by decide +kernel, rfl⟩
theorem d_Re_readInBrackets_54 : Dc prog_8_method_13_code 54 (.iconst 1) 1 55 := ⟨by decide +kernel, rfl⟩
theorem d_Re_readInBrackets_55 : Dc prog_8_method_13_code 55 (.ireturn) 1 56 := ⟨by decide +kernel, rfl⟩
theorem d_Re_readOtherSum_0 : Dc prog_8_method_14_code 0 (.aload_n 0) 1 1 := ⟨by decide +kernel, rfl⟩
theorem d_Re_readOtherSum_1 : Dc prog_8_method_14_code 1 (.invokevirtual 155) 3 4 := ⟨by decide +kernel, rfl⟩
theorem d_Re_readOtherSum_4 : Dc prog_8_method_14_code 4 (.istore_n 2) 1 5 := ⟨by decide +kernel, rfl⟩
theorem d_Re_readOtherSum_5 : Dc prog_8_method_14_code 5 (.iload_n 2) 1 6 := ⟨by decide +kernel, rfl⟩
theorem d_Re_readOtherSum_6 : Dc prog_8_method_14_code 6 (.iconst (-1)) 1 7 := ⟨by decide +kernel, rfl⟩
theorem d_Re_readOtherSum_7 : Dj prog_8_method_14_code 7 (.if_icmp .ne 8) 10 8 15 := ⟨by decide +kernel, rfl, rfl⟩
theorem d_Re_readOtherSum_10 : Dc prog_8_method_14_code 10 (.aload_n 0) 1 11 := ⟨by decide +kernel, rfl⟩
theorem d_Re_readOtherSum_11 : Dc prog_8_method_14_code 11 (.invokevirtual 64) 3 14 := ⟨by decide +kernel, rfl⟩
theorem d_Re_readOtherSum_14 : Dc prog_8_method_14_code 14 (.ireturn) 1 15 := ⟨by decide +kernel, rfl⟩
theorem d_Re_readOtherSum_15 : Dc prog_8_method_14_code 15 (.aload_n 0) 1 16 := ⟨by decide +kernel, rfl⟩
theorem d_Re_readOtherSum_16 : Dc prog_8_method_14_code 16 (.getfield 12) 3 19 := ⟨by decide +kernel, rfl⟩
theorem d_Re_readOtherSum_19 : Dc prog_8_method_14_code 19 (.invokevirtual 67) 3 22 := ⟨by decide +kernel, rfl⟩
theorem d_Re_readOtherSum_22 : Dc prog_8_method_14_code 22 (.aload_n 0) 1 23 := ⟨by decide +kernel, rfl⟩
theorem d_Re_readOtherSum_23 : Dc prog_8_method_14_code 23 (.iload_n 1) 1 24 := ⟨by decide +kernel, rfl⟩
theorem d_Re_readOtherSum_24 : Dc prog_8_method_14_code 24 (.invokevirtual 122) 3 27 := ⟨by decide +kernel, rfl⟩
theorem d_Re_readOtherSum_27 : Dj prog_8_method_14_code 27 (.ifCond .ne 5) 30 5 32 := ⟨by decide +kernel, rfl, rfl⟩
theorem d_Re_readOtherSum_30 : Dc prog_8_method_14_code 30 (.iconst 0) 1 31 := ⟨by decide +kernel, rfl⟩
theorem d_Re_readOtherSum_31 : Dc prog_8_method_14_code 31 (.ireturn) 1 32 := ⟨by decide +kernel, rfl⟩
theorem d_Re_readOtherSum_32 : Dc prog_8_method_14_code 32 (.aload_n 0) 1 33 := ⟨by decide +kernel, rfl⟩
theorem d_Re_readOtherSum_33 : Dc prog_8_method_14_code 33 (.getfield 23) 3 36 := ⟨by decide +kernel, rfl⟩
theorem d_Re_readOtherSum_36 : Dc prog_8_method_14_code 36 (.iload_n 2) 1 37 := ⟨by decide +kernel, rfl⟩
theorem d_Re_readOtherSum_37 : Dc prog_8_method_14_code 37 (.iconst 0) 1 38 := ⟨by decide +kernel, rfl⟩
theorem d_Re_readOtherSum_38 : Dc prog_8_method_14_code 38 (.invokevirtual 135) 3 41 := ⟨by decide +kernel, rfl⟩
theorem d_Re_readOtherSum_41 : Dc prog_8_method_14_code 41 (.pop) 1 42 := ⟨by decide +kernel, rfl⟩
theorem d_Re_readOtherSum_42 : Dc prog_8_method_14_code 42 (.iconst 1) 1 43 := ⟨by decide +kernel, rfl⟩
theorem d_Re_readOtherSum_43 : Dc prog_8_method_14_code 43 (.ireturn) 1 44 := ⟨by decide +kernel, rfl⟩
theorem d_Re_readPart_0 : Dc prog_8_method_19_code 0 (.aload_n 0) 1 1 := ⟨by decide +kernel, rfl⟩
theorem d_Re_readPart_1 : Dc prog_8_method_19_code 1 (.getfield 12) 3 4 := ⟨by decide +kernel, rfl⟩
theorem d_Re_readPart_4 : Dc prog_8_method_19_code 4 (.bipush 91) 2 6 := ⟨by decide +kernel, rfl⟩
theorem d_Re_readPart_6 : Dc prog_8_method_19_code 6 (.invokevirtual 60) 3 9 := ⟨by decide +kernel, rfl⟩
theorem d_Re_readPart_9 : Dj prog_8_method_19_code 9 (.ifCond .ne 8) 12 8 17 := ⟨by decide +kernel, rfl, rfl⟩
theorem d_Re_readPart_12 : Dc prog_8_method_19_code 12 (.aload_n 0) 1 13 := ⟨by decide +kernel, rfl⟩
theorem d_Re_readPart_13 : Dc prog_8_method_19_code 13 (.invokevirtual 167) 3 16 := ⟨by decide +kernel, rfl⟩
theorem d_Re_readPart_16 : Dc prog_8_method_19_code 16 (.ireturn) 1 17 := ⟨by decide +kernel, rfl⟩
theorem d_Re_readPart_17 : Dc prog_8_method_19_code 17 (.iload_n 1) 1 18 := ⟨by decide +kernel, rfl⟩
theorem d_Re_readPart_18 : Dc prog_8_method_19_code 18 (.bipush 8) 2 20 := ⟨by decide +kernel, rfl⟩
theorem d_Re_readPart_20 : Dj prog_8_method_19_code 20 (.if_icmp .lt 8) 23 8 28 := ⟨by decide +kernel, rfl, rfl⟩
theorem d_Re_readPart_23 : Dc prog_8_method_19_code 23 (.aload_n 0) 1 24 := ⟨by decide +kernel, rfl⟩
theorem d_Re_readPart_24 : Dc prog_8_method_19_code 24 (.invokevirtual 64) 3 27 := ⟨by decide +kernel, rfl⟩
theorem d_Re_readPart_27 : Dc prog_8_method_19_code 27 (.ireturn) 1 28 := ⟨by decide +kernel, rfl⟩
theorem d_Re_readPart_28 : Dc prog_8_method_19_code 28 (.aload_n 0) 1 29 := ⟨by decide +kernel, rfl⟩
theorem d_Re_readPart_29 : Dc prog_8_method_19_code 29 (.getfield 12) 3 32 := ⟨by decide +kernel, rfl⟩
theorem d_Re_readPart_32 : Dc prog_8_method_19_code 32 (.invokevirtual 67) 3 35 := ⟨by decide +kernel, rfl⟩
theorem d_Re_readPart_35 : Dc prog_8_method_19_code 35 (.aload_n 0) 1 36 := ⟨by decide +kernel, rfl⟩
theorem d_Re_readPart_36 : Dc prog_8_method_19_code 36 (.iload_n 1) 1 37 := ⟨by decide +kernel, rfl⟩
theorem d_Re_readPart_37 : Dc prog_8_method_19_code 37 (.iconst 1) 1 38 := ⟨by decide +kernel, rfl⟩
theorem d_Re_readPart_38 : Dc prog_8_method_19_code 38 (.iadd) 1 39 := ⟨by decide +kernel, rfl⟩
theorem d_Re_readPart_39 : Dc prog_8_method_19_code 39 (.invokevirtual 122) 3 42 := ⟨by decide +kernel, rfl⟩
theorem d_Re_readPart_42 : Dj prog_8_method_19_code 42 (.ifCond .ne 5) 45 5 47 := ⟨by decide +kernel, rfl, rfl⟩
theorem d_Re_readPart_45 : Dc prog_8_method_19_code 45 (.iconst 0) 1 46 := ⟨by decide +kernel, rfl⟩
theorem d_Re_readPart_46 : Dc prog_8_method_19_code 46 (.ireturn) 1 47 := ⟨by decide +kernel, rfl⟩
theorem d_Re_readPart_47 : Dc prog_8_method_19_code 47 (.aload_n 0) 1 48 := ⟨by decide +kernel, rfl⟩
theorem d_Re_readPart_48 : Dc prog_8_method_19_code 48 (.getfield 12) 3 51 := ⟨by decide +kernel, rfl⟩
theorem d_Re_readPart_51 : Dc prog_8_method_19_code 51 (.bipush 93) 2 53 := ⟨by decide +kernel, rfl⟩
theorem d_Re_readPart_53 : Dc prog_8_method_19_code 53 (.invokevirtual 60) 3 56 := ⟨by decide +kernel, rfl⟩
theorem d_Re_readPart_56 : Dj prog_8_method_19_code 56 (.ifCond .ne 8) 59 8 64 := ⟨by decide +kernel, rfl, rfl⟩
theorem d_Re_readPart_59 : Dc prog_8_method_19_code 59 (.aload_n 0) 1 60 := ⟨by decide +kernel, rfl⟩
theorem d_Re_readPart_60 : Dc prog_8_method_19_code 60 (.invokevirtual 64) 3 63 := ⟨by decide +kernel, rfl⟩
theorem d_Re_readPart_63 : Dc prog_8_method_19_code 63 (.ireturn) 1 64 := ⟨by decide +kernel, rfl⟩
theorem d_Re_readPart_64 : Dc prog_8_method_19_code 64 (.aload_n 0) 1 65 := ⟨by decide +kernel, rfl⟩
theorem d_Re_readPart_65 : Dc prog_8_method_19_code 65 (.getfield 12) 3 68 := ⟨by decide +kernel, rfl⟩
theorem d_Re_readPart_68 : Dc prog_8_method_19_code 68 (.invokevirtual 67) 3 71 := ⟨by decide +kernel, rfl⟩
theorem d_Re_readPart_71 : Dc prog_8_method_19_code 71 (.iconst 1) 1 72 := ⟨by decide +kernel, rfl⟩
theorem d_Re_readPart_72 : Dc prog_8_method_19_code 72 (.ireturn) 1 73 := ⟨by decide +kernel, rfl⟩
theorem d_Re_readPlain_0 : Dc prog_8_method_12_code 0 (.iconst 0) 1 1 := ⟨by decide +kernel, rfl⟩
theorem d_Re_readPlain_1 : Dc prog_8_method_12_code 1 (.istore_n 2) 1 2 := ⟨by decide +kernel, rfl⟩
theorem d_Re_readPlain_2 : Dc prog_8_method_12_code 2 (.iconst 0) 1 3 := ⟨by decide +kernel, rfl⟩
theorem d_Re_readPlain_3 : Dc prog_8_method_12_code 3 (.istore_n 3) 1 4 := ⟨by decide +kernel, rfl⟩
theorem d_Re_readPlain_4 : Dc prog_8_method_12_code 4 (.iload_n 3) 1 5 := ⟨by decide +kernel, rfl⟩
theorem d_Re_readPlain_5 : Dc prog_8_method_12_code 5 (.sipush 400) 3 8 := ⟨by decide +kernel, rfl⟩
theorem d_Re_readPlain_8 : Dj prog_8_method_12_code 8 (.if_icmp .ge 38) 11 38 46 := ⟨by decide +kernel, rfl, rfl⟩
theorem d_Re_readPlain_11 : Dc prog_8_method_12_code 11 (.aload_n 0) 1 12 := ⟨by decide +kernel, rfl⟩
theorem d_Re_readPlain_12 : Dc prog_8_method_12_code 12 (.getfield 12) 3 15 := ⟨by decide +kernel, rfl⟩
theorem d_Re_readPlain_15 : Dc prog_8_method_12_code 15 (.ldc 147) 2 17 := ⟨by decide +kernel, rfl⟩
theorem d_Re_readPlain_17 : Dc prog_8_method_12_code 17 (.invokevirtual 72) 3 20 := ⟨by decide +kernel, rfl⟩
theorem d_Re_readPlain_20 : Dj prog_8_method_12_code 20 (.ifCond .eq 26) 23 26 46 := ⟨by decide +kernel, rfl, rfl⟩
theorem d_Re_readPlain_23 : Dc prog_8_method_12_code 23 (.aload_n 0) 1 24 := ⟨by decide +kernel, rfl⟩
theorem d_Re_readPlain_24 : Dc prog_8_method_12_code 24 (.getfield 12) 3 27 := ⟨by decide +kernel, rfl⟩
theorem d_Re_readPlain_27 : Dc prog_8_method_12_code 27 (.invokevirtual 67) 3 30 := ⟨by decide +kernel, rfl⟩
theorem d_Re_readPlain_30 : Dc prog_8_method_12_code 30 (.iload_n 2) 1 31 := ⟨by decide +kernel, rfl⟩
theorem d_Re_readPlain_31 : Dj prog_8_method_12_code 31 (.ifCond .ne 7) 34 7 38 := ⟨by decide +kernel, rfl, rfl⟩
theorem d_Re_readPlain_34 : Dc prog_8_method_12_code 34 (.iconst 1) 1 35 := ⟨by decide +kernel, rfl⟩
theorem d_Re_readPlain_35 : Dj prog_8_method_12_code 35 (.goto 4) 38 4 39 := ⟨by decide +kernel, rfl, rfl⟩
theorem d_Re_readPlain_38 : Dc prog_8_method_12_code 38 (.iconst 0) 1 39 := ⟨by decide +kernel, rfl⟩
theorem d_Re_readPlain_39 : Dc prog_8_method_12_code 39 (.istore_n 2) 1 40 := ⟨by decide +kernel, rfl⟩
theorem d_Re_readPlain_40 : Dc prog_8_method_12_code 40 (.iinc 3 1) 3 43 := ⟨by decide +kernel, rfl⟩
theorem d_Re_readPlain_43 : Dj prog_8_method_12_code 43 (.goto (-39)) 46 (-39) 4 := ⟨by decide +kernel, rfl, rfl⟩
theorem d_Re_readPlain_46 : Dc prog_8_method_12_code 46 (.aload_n 0) 1 47 := ⟨by decide +kernel, rfl⟩
theorem d_Re_readPlain_47 : Dc prog_8_method_12_code 47 (.getfield 12) 3 50 := ⟨by decide +kernel, rfl⟩
theorem d_Re_readPlain_50 : Dc prog_8_method_12_code 50 (.bipush 40) 2 52 := ⟨by decide +kernel, rfl⟩
theorem d_Re_readPlain_52 : Dc prog_8_method_12_code 52 (.invokevirtual 60) 3 55 := ⟨by decide +kernel, rfl⟩
theorem d_Re_readPlain_55 : Dj prog_8_method_12_code 55 (.ifCond .eq 11) 58 11 66 := ⟨by decide +kernel, rfl, rfl⟩
theorem d_Re_readPlain_58 : Dc prog_8_method_12_code 58 (.aload_n 0) 1 59 := ⟨by decide +kernel, rfl⟩
theorem d_Re_readPlain_59 : Dc prog_8_method_12_code 59 (.iload_n 1) 1 60 := ⟨by decide +kernel, rfl⟩
theorem d_Re_readPlain_60 : Dc prog_8_method_12_code 60 (.invokevirtual 149) 3 63 := ⟨by decide +kernel, rfl⟩
theorem d_Re_readPlain_63 : Dj prog_8_method_12_code 63 (.goto 24) 66 24 87 := ⟨by decide +kernel, rfl, rfl⟩
theorem d_Re_readPlain_66 : Dc prog_8_method_12_code 66 (.aload_n 0) 1 67 := ⟨by decide +kernel, rfl⟩
theorem d_Re_readPlain_67 : Dc prog_8_method_12_code 67 (.iload_n 1) 1 68 := ⟨by decide +kernel, rfl⟩
theorem d_Re_readPlain_68 : Dc prog_8_method_12_code 68 (.invokevirtual 122) 3 71 := ⟨by decide +kernel, rfl⟩
theorem d_Re_readPlain_71 : Dj prog_8_method_12_code 71 (.ifCond .eq 15) 74 15 86 := ⟨by decide +kernel, rfl, rfl⟩
theorem d_Re_readPlain_74 : Dc prog_8_method_12_code 74 (.aload_n 0) 1 75 := ⟨by decide +kernel, rfl⟩
theorem d_Re_readPlain_75 : Dc prog_8_method_12_code 75 (.iload_n 1) 1 76 := ⟨by decide +kernel, rfl⟩
theorem d_Re_readPlain_76 : Dc prog_8_method_12_code 76 (.invokevirtual 152) 3 79 := ⟨by decide +kernel, rfl⟩
theorem d_Re_readPlain_79 : Dj prog_8_method_12_code 79 (.ifCond .eq 7) 82 7 86 := ⟨by decide +kernel, rfl, rfl⟩
theorem d_Re_readPlain_82 : Dc prog_8_method_12_code 82 (.iconst 1) 1 83 := ⟨by decide +kernel, rfl⟩
theorem d_Re_readPlain_83 : Dj prog_8_method_12_code 83 (.goto 4) 86 4 87 := ⟨by decide +kernel, rfl, rfl⟩
theorem d_Re_readPlain_86 : Dc prog_8_method_12_code 86 (.iconst 0) 1 87 := ⟨by decide +kernel, rfl⟩
theorem d_Re_readPlain_87 : Dc prog_8_method_12_code 87 (.istore_n 3) 1 88 := ⟨by decide +kernel, rfl⟩
theorem d_Re_readPlain_88 : Dc prog_8_method_12_code 88 (.iload_n 3) 1 89 := ⟨by decide +kernel, rfl⟩
theorem d_Re_readPlain_89 : Dj prog_8_method_12_code 89 (.ifCond .eq 18) 92 18 107 := ⟨by decide +kernel, rfl, rfl⟩
theorem d_Re_readPlain_92 : Dc prog_8_method_12_code 92 (.iload_n 2) 1 93 := ⟨by decide +kernel, rfl⟩
theorem d_Re_readPlain_93 : Dj prog_8_method_12_code 93 (.ifCond .eq 14) 96 14 107 := ⟨by decide +kernel, rfl, rfl⟩
theorem d_Re_readPlain_96 : Dc prog_8_method_12_code 96 (.aload_n 0) 1 97 := ⟨by decide +kernel, rfl⟩
theorem d_Re_readPlain_97 : Dc prog_8_method_12_code 97 (.getfield 23) 3 100 := ⟨by decide +kernel, rfl⟩
theorem d_Re_readPlain_100 : Dc prog_8_method_12_code 100 (.bipush 10) 2 102 := ⟨by decide +kernel, rfl⟩
theorem d_Re_readPlain_102 : Dc prog_8_method_12_code 102 (.iconst 0) 1 103 := ⟨by decide +kernel, rfl⟩
theorem d_Re_readPlain_103 : Dc prog_8_method_12_code 103 (.invokevirtual 135) 3 106 := ⟨by decide +kernel, rfl⟩
theorem d_Re_readPlain_106 : Dc prog_8_method_12_code 106 (.pop) 1 107 := ⟨by decide +kernel, rfl⟩
theorem d_Re_readPlain_107 : Dc prog_8_method_12_code 107 (.iload_n 3) 1 108 := ⟨by decide +kernel, rfl⟩
theorem d_Re_readPlain_108 : Dc prog_8_method_12_code 108 (.ireturn) 1 109 := ⟨by decide +kernel, rfl⟩
theorem ml_Re_122 : Cond.methodLink "SubgraphDesk$Reader" 122 m_Re_readSum.1 ∈ lw_gd := gd 879 (by decide +kernel) rfl
theorem ml_Re_127 : Cond.methodLink "SubgraphDesk$Reader" 127 m_Re_readTest.1 ∈ lw_gd := gd 950 (by decide +kernel) rfl
theorem ml_Re_149 : Cond.methodLink "SubgraphDesk$Reader" 149 m_Re_readInBrackets.1 ∈ lw_gd := gd 963 (by decide +kernel) rfl
theorem ml_Re_152 : Cond.methodLink "SubgraphDesk$Reader" 152 m_Re_readOtherSum.1 ∈ lw_gd := gd 967 (by decide +kernel) rfl
theorem ml_Re_155 : Cond.methodLink "SubgraphDesk$Reader" 155 m_Re_comparisonHere.1 ∈ lw_gd := gd 971 (by decide +kernel) rfl
theorem ml_Re_167 : Cond.methodLink "SubgraphDesk$Reader" 167 m_Re_readSingle.1 ∈ lw_gd := gd 895 (by decide +kernel) rfl
theorem c_Re_readPart {E : EV} {w : Mem} {t : List Nat} {o : Bool} {n dp f p : Nat} {a : Den} {c : List (Nat × Nat)} {x : ResT} (HS : ∀ k, k < n → CT E t o k 3 m_Re_readSum dS) (hdp : dp ≤ 8) (hrd : rd t o n 0 dp f p a = some x) (h : RdI w t o f p c) : T E m_Re_readPart (dP dp) 0 0 [.ref 25, .int (nI dp)] w (fun r w2 => ExQ w w2 t o c f p x r) := by
  refine T_of (L := [.ref 25, .int (nI dp)]) cf_Re_readPart rfl (Nat.le_of_ble_eq_true rfl) (fun X hX hF => ?_)
  obtain ⟨n, rfl⟩ := rd_pos hrd
  refine g_aload0 hX d_Re_readPart_0 ?_
  refine g_getF hX d_Re_readPart_1 fl_Re_12 (lv_25 _) ?_
  refine g_bipush (v := nI 91) hX d_Re_readPart_4 rfl ?_
  refine g_callV (As := [_]) hX hF.1 d_Re_readPart_6 ml_Re_60 cf_Ta_isSign cv_Ta_isSign rfl rfl (c_Ta_isSign (by decide) h.1) (rcv_obj hX (lv_26 _) rfl rfl) (by first | (unfold dP dT; omega) | (unfold dT dS; omega) | (unfold dP dS; omega) | (unfold dL dB; omega) | (unfold dB dE; omega) | (unfold dI dE; omega) | (unfold dI dL; omega) | (unfold dS dL; omega) | (unfold dP; omega) | (unfold dT; omega) | (unfold dS; omega) | (unfold dI; omega) | (unfold dL; omega) | (unfold dB; omega) | (unfold dE; omega) | omega) (by omega) (by omega) (Nat.le_of_ble_eq_true rfl) ?_
  refine ret_k ?_
  refine g_ifB_ne hX d_Re_readPart_9 (fun e9 => ?_) (fun e9 => ?_)
  · refine g_iload1 hX d_Re_readPart_17 ?_
    refine g_bipush (v := nI 8) hX d_Re_readPart_18 rfl ?_
    refine g_icmpN_lt hX d_Re_readPart_20 (by omega) (by omega) (fun e20 => ?_) (fun e20 => ?_)
    · refine g_aload0 hX d_Re_readPart_28 ?_
      refine g_getF hX d_Re_readPart_29 fl_Re_12 (lv_25 _) ?_
      refine g_callV (As := []) hX hF.1 d_Re_readPart_32 ml_Re_67 cf_Ta_step cv_Ta_step rfl rfl (c_Ta_step h.1.1 h.1.2.2.1 (enT_le h.fl.1)) (rcv_obj hX (lv_26 _) rfl rfl) (by first | (unfold dP dT; omega) | (unfold dT dS; omega) | (unfold dP dS; omega) | (unfold dL dB; omega) | (unfold dB dE; omega) | (unfold dI dE; omega) | (unfold dI dL; omega) | (unfold dS dL; omega) | (unfold dP; omega) | (unfold dT; omega) | (unfold dS; omega) | (unfold dI; omega) | (unfold dL; omega) | (unfold dB; omega) | (unfold dE; omega) | omega) (by omega) (by omega) (Nat.le_of_ble_eq_true rfl) ?_
      rintro _ w3 ⟨rfl, ft_w3, tk_w3⟩
      have h3 := h.step ft_w3 tk_w3
      show G0 _ _ _ _ _ _ _ _
      refine g_aload0 hX d_Re_readPart_35 ?_
      refine g_iload1 hX d_Re_readPart_36 ?_
      refine g_iconst (v := nI 1) hX d_Re_readPart_37 rfl ?_
      refine g_iaddN hX d_Re_readPart_38 ?_
      rw [rd_0b e9 (by omega)] at hrd
      obtain ⟨x0, hx0, hk0⟩ := bind_2 hrd
      refine g_callV (As := [_]) hX hF.1 d_Re_readPart_39 ml_Re_122 cf_Re_readSum cv_Re_readSum rfl rfl (HS n (by omega) _ _ _ _ _ _ _ (show dp + 1 ≤ 8 by omega) hx0 h3) (rcv_obj hX (lv_25 _) rfl rfl) (by first | (unfold dP dT; omega) | (unfold dT dS; omega) | (unfold dP dS; omega) | (unfold dL dB; omega) | (unfold dB dE; omega) | (unfold dI dE; omega) | (unfold dI dL; omega) | (unfold dS dL; omega) | (unfold dP; omega) | (unfold dT; omega) | (unfold dS; omega) | (unfold dI; omega) | (unfold dL; omega) | (unfold dB; omega) | (unfold dE; omega) | omega) (by omega) (by omega) (Nat.le_of_ble_eq_true rfl) ?_
      rintro r5 w5 hQ
      obtain rfl := hQ.rv
      show G0 _ _ _ _ _ _ _ _
      refine g_ifB_ne hX d_Re_readPart_42 (fun e42 => ?_) (fun e42 => ?_)
      · obtain ⟨y, rfl⟩ := okR_t e42
        obtain ⟨c1, hA⟩ := hQ.acc
        replace hk0 : closeR t 93 y.1 y.2.1 y.2.2 = some x := hk0
        have hAt := hA.tk ft_w3 (nxT_ge t f h.fl.1)
        have hR5 := hA.2.2.2.1
        refine g_aload0 hX d_Re_readPart_47 ?_
        refine g_getF hX d_Re_readPart_48 fl_Re_12 (lv_25 _) ?_
        refine g_bipush (v := nI 93) hX d_Re_readPart_51 rfl ?_
        refine g_callV (As := [_]) hX hF.1 d_Re_readPart_53 ml_Re_60 cf_Ta_isSign cv_Ta_isSign rfl rfl (c_Ta_isSign (by decide) hR5.1) (rcv_obj hX (lv_26 _) rfl rfl) (by first | (unfold dP dT; omega) | (unfold dT dS; omega) | (unfold dP dS; omega) | (unfold dL dB; omega) | (unfold dB dE; omega) | (unfold dI dE; omega) | (unfold dI dL; omega) | (unfold dS dL; omega) | (unfold dP; omega) | (unfold dT; omega) | (unfold dS; omega) | (unfold dI; omega) | (unfold dL; omega) | (unfold dB; omega) | (unfold dE; omega) | omega) (by omega) (by omega) (Nat.le_of_ble_eq_true rfl) ?_
        refine ret_k ?_
        refine g_ifB_ne hX d_Re_readPart_56 (fun e56 => ?_) (fun e56 => ?_)
        · refine g_aload0 hX d_Re_readPart_64 ?_
          refine g_getF hX d_Re_readPart_65 fl_Re_12 (lv_25 _) ?_
          refine g_callV (As := []) hX hF.1 d_Re_readPart_68 ml_Re_67 cf_Ta_step cv_Ta_step rfl rfl (c_Ta_step hR5.1.1 hR5.1.2.2.1 (enT_le hR5.fl.1)) (rcv_obj hX (lv_26 _) rfl rfl) (by first | (unfold dP dT; omega) | (unfold dT dS; omega) | (unfold dP dS; omega) | (unfold dL dB; omega) | (unfold dB dE; omega) | (unfold dI dE; omega) | (unfold dI dL; omega) | (unfold dS dL; omega) | (unfold dP; omega) | (unfold dT; omega) | (unfold dS; omega) | (unfold dI; omega) | (unfold dL; omega) | (unfold dB; omega) | (unfold dE; omega) | omega) (by omega) (by omega) (Nat.le_of_ble_eq_true rfl) ?_
          rintro _ w6 ⟨rfl, ft_w6, tk_w6⟩
          have h6 := hR5.step ft_w6 tk_w6
          show G0 _ _ _ _ _ _ _ _
          refine g_iconst (v := nI 1) hX d_Re_readPart_71 rfl ?_
          refine g_zret hX hF d_Re_readPart_72 (Or.inr rfl) (by omega) (by omega) ?_
          rcases close_inv hk0 with ⟨-, rfl⟩ | ⟨z, -⟩
          · exact (hAt.tk2 ft_w6 tk_w6).ex
          · exact absurd e56 z
        · refine g_aload0 hX d_Re_readPart_59 ?_
          refine g_callV (As := []) hX hF.1 d_Re_readPart_60 ml_Re_64 cf_Re_fail cv_Re_fail rfl rfl (c_Re_fail hR5.1) (rcv_obj hX (lv_25 _) rfl rfl) (by first | (unfold dP dT; omega) | (unfold dT dS; omega) | (unfold dP dS; omega) | (unfold dL dB; omega) | (unfold dB dE; omega) | (unfold dI dE; omega) | (unfold dI dL; omega) | (unfold dS dL; omega) | (unfold dP; omega) | (unfold dT; omega) | (unfold dS; omega) | (unfold dI; omega) | (unfold dL; omega) | (unfold dB; omega) | (unfold dE; omega) | omega) (by omega) (by omega) (Nat.le_of_ble_eq_true rfl) ?_
          refine ret_k ?_
          refine g_zret hX hF d_Re_readPart_63 (Or.inl rfl) (by omega) (by omega) ?_
          rcases close_inv hk0 with ⟨z, -⟩ | ⟨-, rfl⟩
          · exact absurd z e56
          · exact ExQ.fail (ft_w3.R.tr hA.1)
      · obtain ⟨e, rfl⟩ := okR_f e42
        obtain rfl : x = .inl e := hk0
        refine g_iconst (v := nI 0) hX d_Re_readPart_45 rfl ?_
        refine g_zret hX hF d_Re_readPart_46 (Or.inl rfl) (by omega) (by omega) ?_
        exact ExQ.bad ft_w3.R hQ
    · refine g_aload0 hX d_Re_readPart_23 ?_
      refine g_callV (As := []) hX hF.1 d_Re_readPart_24 ml_Re_64 cf_Re_fail cv_Re_fail rfl rfl (c_Re_fail h.1) (rcv_obj hX (lv_25 _) rfl rfl) (by first | (unfold dP dT; omega) | (unfold dT dS; omega) | (unfold dP dS; omega) | (unfold dL dB; omega) | (unfold dB dE; omega) | (unfold dI dE; omega) | (unfold dI dL; omega) | (unfold dS dL; omega) | (unfold dP; omega) | (unfold dT; omega) | (unfold dS; omega) | (unfold dI; omega) | (unfold dL; omega) | (unfold dB; omega) | (unfold dE; omega) | omega) (by omega) (by omega) (Nat.le_of_ble_eq_true rfl) ?_
      refine ret_k ?_
      refine g_zret hX hF d_Re_readPart_27 (Or.inl rfl) (by omega) (by omega) ?_
      rw [rd_0a e9 (by omega)] at hrd
      obtain rfl := Option.some.inj hrd
      exact ExQ.fail (FrRd.rf w)
  · refine g_aload0 hX d_Re_readPart_12 ?_
    refine g_callV (As := []) hX hF.1 d_Re_readPart_13 ml_Re_167 cf_Re_readSingle cv_Re_readSingle rfl rfl (c_Re_readSingle h) (rcv_obj hX (lv_25 _) rfl rfl) (by first | (unfold dP dT; omega) | (unfold dT dS; omega) | (unfold dP dS; omega) | (unfold dL dB; omega) | (unfold dB dE; omega) | (unfold dI dE; omega) | (unfold dI dL; omega) | (unfold dS dL; omega) | (unfold dP; omega) | (unfold dT; omega) | (unfold dS; omega) | (unfold dI; omega) | (unfold dL; omega) | (unfold dB; omega) | (unfold dE; omega) | omega) (by omega) (by omega) (Nat.le_of_ble_eq_true rfl) ?_
    rintro r5 w5 hQ
    obtain rfl := hQ.rv
    show G0 _ _ _ _ _ _ _ _
    refine g_zret hX hF d_Re_readPart_16 (b2i_01 _) (by omega) (by omega) ?_
    rw [rd_0c e9] at hrd
    obtain rfl := Option.some.inj hrd
    exact hQ
theorem c_Re_readInBrackets {E : EV} {w : Mem} {t : List Nat} {o : Bool} {n dp f p : Nat} {a : Den} {c : List (Nat × Nat)} {x : ResT} (HE : CT E t o n 8 m_Re_readTest dE) (hdp : dp ≤ 8) (hx : if 8 ≤ dp then x = .inl f else bindR (rd t o n 8 (dp + 1) (nxT t f) p a) (closeR t 41) = some x) (h : RdI w t o f p c) : T E m_Re_readInBrackets (dI dp) 0 0 [.ref 25, .int (nI dp)] w (fun r w2 => ExQ w w2 t o c f p x r) := by
  refine T_of (L := [.ref 25, .int (nI dp)]) cf_Re_readInBrackets rfl (Nat.le_of_ble_eq_true rfl) (fun X hX hF => ?_)
  refine g_iload1 hX d_Re_readInBrackets_0 ?_
  refine g_bipush (v := nI 8) hX d_Re_readInBrackets_1 rfl ?_
  refine g_icmpN_lt hX d_Re_readInBrackets_3 (by omega) (by omega) (fun e3 => ?_) (fun e3 => ?_)
  · refine g_aload0 hX d_Re_readInBrackets_11 ?_
    refine g_getF hX d_Re_readInBrackets_12 fl_Re_12 (lv_25 _) ?_
    refine g_callV (As := []) hX hF.1 d_Re_readInBrackets_15 ml_Re_67 cf_Ta_step cv_Ta_step rfl rfl (c_Ta_step h.1.1 h.1.2.2.1 (enT_le h.fl.1)) (rcv_obj hX (lv_26 _) rfl rfl) (by first | (unfold dP dT; omega) | (unfold dT dS; omega) | (unfold dP dS; omega) | (unfold dL dB; omega) | (unfold dB dE; omega) | (unfold dI dE; omega) | (unfold dI dL; omega) | (unfold dS dL; omega) | (unfold dP; omega) | (unfold dT; omega) | (unfold dS; omega) | (unfold dI; omega) | (unfold dL; omega) | (unfold dB; omega) | (unfold dE; omega) | omega) (by omega) (by omega) (Nat.le_of_ble_eq_true rfl) ?_
    rintro _ w3 ⟨rfl, ft_w3, tk_w3⟩
    have h3 := h.step ft_w3 tk_w3
    show G0 _ _ _ _ _ _ _ _
    refine g_aload0 hX d_Re_readInBrackets_18 ?_
    refine g_iload1 hX d_Re_readInBrackets_19 ?_
    refine g_iconst (v := nI 1) hX d_Re_readInBrackets_20 rfl ?_
    refine g_iaddN hX d_Re_readInBrackets_21 ?_
    rw [if_neg (by omega)] at hx
    obtain ⟨x0, hx0, hk0⟩ := bind_2 hx
    refine g_callV (As := [_]) hX hF.1 d_Re_readInBrackets_22 ml_Re_127 cf_Re_readTest cv_Re_readTest rfl rfl (HE _ _ _ _ _ _ _ (show dp + 1 ≤ 8 by omega) hx0 h3) (rcv_obj hX (lv_25 _) rfl rfl) (by first | (unfold dP dT; omega) | (unfold dT dS; omega) | (unfold dP dS; omega) | (unfold dL dB; omega) | (unfold dB dE; omega) | (unfold dI dE; omega) | (unfold dI dL; omega) | (unfold dS dL; omega) | (unfold dP; omega) | (unfold dT; omega) | (unfold dS; omega) | (unfold dI; omega) | (unfold dL; omega) | (unfold dB; omega) | (unfold dE; omega) | omega) (by omega) (by omega) (Nat.le_of_ble_eq_true rfl) ?_
    rintro r5 w5 hQ
    obtain rfl := hQ.rv
    show G0 _ _ _ _ _ _ _ _
    refine g_ifB_ne hX d_Re_readInBrackets_25 (fun e42 => ?_) (fun e42 => ?_)
    · obtain ⟨y, rfl⟩ := okR_t e42
      obtain ⟨c1, hA⟩ := hQ.acc
      replace hk0 : closeR t 41 y.1 y.2.1 y.2.2 = some x := hk0
      have hAt := hA.tk ft_w3 (nxT_ge t f h.fl.1)
      have hR5 := hA.2.2.2.1
      refine g_aload0 hX d_Re_readInBrackets_30 ?_
      refine g_getF hX d_Re_readInBrackets_31 fl_Re_12 (lv_25 _) ?_
      refine g_bipush (v := nI 41) hX d_Re_readInBrackets_34 rfl ?_
      refine g_callV (As := [_]) hX hF.1 d_Re_readInBrackets_36 ml_Re_60 cf_Ta_isSign cv_Ta_isSign rfl rfl (c_Ta_isSign (by decide) hR5.1) (rcv_obj hX (lv_26 _) rfl rfl) (by first | (unfold dP dT; omega) | (unfold dT dS; omega) | (unfold dP dS; omega) | (unfold dL dB; omega) | (unfold dB dE; omega) | (unfold dI dE; omega) | (unfold dI dL; omega) | (unfold dS dL; omega) | (unfold dP; omega) | (unfold dT; omega) | (unfold dS; omega) | (unfold dI; omega) | (unfold dL; omega) | (unfold dB; omega) | (unfold dE; omega) | omega) (by omega) (by omega) (Nat.le_of_ble_eq_true rfl) ?_
      refine ret_k ?_
      refine g_ifB_ne hX d_Re_readInBrackets_39 (fun e56 => ?_) (fun e56 => ?_)
      · refine g_aload0 hX d_Re_readInBrackets_47 ?_
        refine g_getF hX d_Re_readInBrackets_48 fl_Re_12 (lv_25 _) ?_
        refine g_callV (As := []) hX hF.1 d_Re_readInBrackets_51 ml_Re_67 cf_Ta_step cv_Ta_step rfl rfl (c_Ta_step hR5.1.1 hR5.1.2.2.1 (enT_le hR5.fl.1)) (rcv_obj hX (lv_26 _) rfl rfl) (by first | (unfold dP dT; omega) | (unfold dT dS; omega) | (unfold dP dS; omega) | (unfold dL dB; omega) | (unfold dB dE; omega) | (unfold dI dE; omega) | (unfold dI dL; omega) | (unfold dS dL; omega) | (unfold dP; omega) | (unfold dT; omega) | (unfold dS; omega) | (unfold dI; omega) | (unfold dL; omega) | (unfold dB; omega) | (unfold dE; omega) | omega) (by omega) (by omega) (Nat.le_of_ble_eq_true rfl) ?_
        rintro _ w6 ⟨rfl, ft_w6, tk_w6⟩
        have h6 := hR5.step ft_w6 tk_w6
        show G0 _ _ _ _ _ _ _ _
        refine g_iconst (v := nI 1) hX d_Re_readInBrackets_54 rfl ?_
        refine g_zret hX hF d_Re_readInBrackets_55 (Or.inr rfl) (by omega) (by omega) ?_
        rcases close_inv hk0 with ⟨-, rfl⟩ | ⟨z, -⟩
        · exact (hAt.tk2 ft_w6 tk_w6).ex
        · exact absurd e56 z
      · refine g_aload0 hX d_Re_readInBrackets_42 ?_
        refine g_callV (As := []) hX hF.1 d_Re_readInBrackets_43 ml_Re_64 cf_Re_fail cv_Re_fail rfl rfl (c_Re_fail hR5.1) (rcv_obj hX (lv_25 _) rfl rfl) (by first | (unfold dP dT; omega) | (unfold dT dS; omega) | (unfold dP dS; omega) | (unfold dL dB; omega) | (unfold dB dE; omega) | (unfold dI dE; omega) | (unfold dI dL; omega) | (unfold dS dL; omega) | (unfold dP; omega) | (unfold dT; omega) | (unfold dS; omega) | (unfold dI; omega) | (unfold dL; omega) | (unfold dB; omega) | (unfold dE; omega) | omega) (by omega) (by omega) (Nat.le_of_ble_eq_true rfl) ?_
        refine ret_k ?_
        refine g_zret hX hF d_Re_readInBrackets_46 (Or.inl rfl) (by omega) (by omega) ?_
        rcases close_inv hk0 with ⟨z, -⟩ | ⟨-, rfl⟩
        · exact absurd z e56
        · exact ExQ.fail (ft_w3.R.tr hA.1)
    · obtain ⟨e, rfl⟩ := okR_f e42
      obtain rfl : x = .inl e := hk0
      refine g_iconst (v := nI 0) hX d_Re_readInBrackets_28 rfl ?_
      refine g_zret hX hF d_Re_readInBrackets_29 (Or.inl rfl) (by omega) (by omega) ?_
      exact ExQ.bad ft_w3.R hQ
  · refine g_aload0 hX d_Re_readInBrackets_6 ?_
    refine g_callV (As := []) hX hF.1 d_Re_readInBrackets_7 ml_Re_64 cf_Re_fail cv_Re_fail rfl rfl (c_Re_fail h.1) (rcv_obj hX (lv_25 _) rfl rfl) (by first | (unfold dP dT; omega) | (unfold dT dS; omega) | (unfold dP dS; omega) | (unfold dL dB; omega) | (unfold dB dE; omega) | (unfold dI dE; omega) | (unfold dI dL; omega) | (unfold dS dL; omega) | (unfold dP; omega) | (unfold dT; omega) | (unfold dS; omega) | (unfold dI; omega) | (unfold dL; omega) | (unfold dB; omega) | (unfold dE; omega) | omega) (by omega) (by omega) (Nat.le_of_ble_eq_true rfl) ?_
    refine ret_k ?_
    refine g_zret hX hF d_Re_readInBrackets_10 (Or.inl rfl) (by omega) (by omega) ?_
    rw [if_pos (by omega)] at hx
    subst hx
    exact ExQ.fail (FrRd.rf w)
theorem c_Re_readOtherSum {E : EV} {w : Mem} {w1 : Mem} {t : List Nat} {o : Bool} {n dp f p : Nat} {a : Den} {c : List (Nat × Nat)} {x : ResT} {f1 p1 : Nat} {d1 : Den} {c1 : List (Nat × Nat)} (HS : CT E t o n 3 m_Re_readSum dS) (hdp : dp ≤ 8) (hx : cmpR t o n dp a f1 p1 d1 = some x) (hA : AcQ w w1 t o c f p f1 p1 d1 c1) : T E m_Re_readOtherSum (dS dp + 1) 0 0 [.ref 25, .int (nI dp)] w1 (fun r w2 => ExQ w w2 t o c f p x r) := by
  refine T_of (L := [.ref 25, .int (nI dp), un]) cf_Re_readOtherSum rfl (Nat.le_of_ble_eq_true rfl) (fun X hX hF => ?_)
  have hR1 := hA.2.2.2.1
  refine g_aload0 hX d_Re_readOtherSum_0 ?_
  refine g_callV (As := []) hX hF.1 d_Re_readOtherSum_1 ml_Re_155 cf_Re_comparisonHere cv_Re_comparisonHere rfl rfl (c_Re_comparisonHere hR1.1) (rcv_obj hX (lv_25 _) rfl rfl) (by first | (unfold dP dT; omega) | (unfold dT dS; omega) | (unfold dP dS; omega) | (unfold dL dB; omega) | (unfold dB dE; omega) | (unfold dI dE; omega) | (unfold dI dL; omega) | (unfold dS dL; omega) | (unfold dP; omega) | (unfold dT; omega) | (unfold dS; omega) | (unfold dI; omega) | (unfold dL; omega) | (unfold dB; omega) | (unfold dE; omega) | omega) (by omega) (by omega) (Nat.le_of_ble_eq_true rfl) ?_
  rintro r5 w5 ⟨hs0, hw5⟩
  have hw6 := hw5.symm
  subst hw6
  obtain ⟨v, rfl, hv⟩ : ∃ v : Int32, r5 = some (.int v) ∧ ((∃ q u : Nat, sgn t f1 sgC = some q ∧ u + 18 = q ∧ v = nI u) ∨ (sgn t f1 sgC = none ∧ v = -1)) := by
    rcases hs0 with ⟨q, u, z1, z2, z3⟩ | ⟨z1, z2⟩
    · exact ⟨nI u, z3, Or.inl ⟨q, u, z1, z2, rfl⟩⟩
    · exact ⟨-1, z2, Or.inr ⟨z1, rfl⟩⟩
  show G0 _ _ _ _ _ _ _ _
  refine g_istore2 hX d_Re_readOtherSum_4 rfl (by decide) ?_
  refine g_iload2 hX d_Re_readOtherSum_5 ?_
  refine g_iconst (v := -1) hX d_Re_readOtherSum_6 rfl ?_
  refine g_icmp_ne hX d_Re_readOtherSum_7 (fun e26 => ?_) (fun e26 => ?_)
  · obtain ⟨q, u, hs, hu, rfl⟩ := hv.resolve_right (fun z => e26 z.2)
    obtain ⟨hq1, hq2⟩ := sgC_rg hs
    obtain rfl : u = q - 18 := by omega
    replace hx : bindR (rd t o n 3 dp (nxT t f1) p1 a) (fun f2 p2 d2 => some (.inr (f2, p2, dBin q d1 d2))) = some x := by
      unfold cmpR at hx
      rw [hs] at hx
      exact hx
    obtain ⟨x1, hx1, hk1⟩ := bind_2 hx
    refine g_aload0 hX d_Re_readOtherSum_15 ?_
    refine g_getF hX d_Re_readOtherSum_16 fl_Re_12 (lv_25 _) ?_
    refine g_callV (As := []) hX hF.1 d_Re_readOtherSum_19 ml_Re_67 cf_Ta_step cv_Ta_step rfl rfl (c_Ta_step hR1.1.1 hR1.1.2.2.1 (enT_le hR1.fl.1)) (rcv_obj hX (lv_26 _) rfl rfl) (by first | (unfold dP dT; omega) | (unfold dT dS; omega) | (unfold dP dS; omega) | (unfold dL dB; omega) | (unfold dB dE; omega) | (unfold dI dE; omega) | (unfold dI dL; omega) | (unfold dS dL; omega) | (unfold dP; omega) | (unfold dT; omega) | (unfold dS; omega) | (unfold dI; omega) | (unfold dL; omega) | (unfold dB; omega) | (unfold dE; omega) | omega) (by omega) (by omega) (Nat.le_of_ble_eq_true rfl) ?_
    rintro _ w3 ⟨rfl, ft_w3, tk_w3⟩
    have h3 := hR1.step ft_w3 tk_w3
    show G0 _ _ _ _ _ _ _ _
    refine g_aload0 hX d_Re_readOtherSum_22 ?_
    refine g_iload1 hX d_Re_readOtherSum_23 ?_
    refine g_callV (As := [_]) hX hF.1 d_Re_readOtherSum_24 ml_Re_122 cf_Re_readSum cv_Re_readSum rfl rfl (HS _ _ _ _ _ _ _ hdp hx1 h3) (rcv_obj hX (lv_25 _) rfl rfl) (by first | (unfold dP dT; omega) | (unfold dT dS; omega) | (unfold dP dS; omega) | (unfold dL dB; omega) | (unfold dB dE; omega) | (unfold dI dE; omega) | (unfold dI dL; omega) | (unfold dS dL; omega) | (unfold dP; omega) | (unfold dT; omega) | (unfold dS; omega) | (unfold dI; omega) | (unfold dL; omega) | (unfold dB; omega) | (unfold dE; omega) | omega) (by omega) (by omega) (Nat.le_of_ble_eq_true rfl) ?_
    rintro r5 w5 hQ
    obtain rfl := hQ.rv
    show G0 _ _ _ _ _ _ _ _
    refine g_ifB_ne hX d_Re_readOtherSum_27 (fun e43 => ?_) (fun e43 => ?_)
    · obtain ⟨y, rfl⟩ := okR_t e43
      obtain ⟨c2, hA2⟩ := hQ.acc
      replace hk1 : some (.inr (y.1, y.2.1, dBin q d1 y.2.2)) = some x := hk1
      obtain rfl := Option.some.inj hk1
      have hlen2 := hA2.2.2.2.1.len
      refine g_aload0 hX d_Re_readOtherSum_32 ?_
      refine g_getF hX d_Re_readOtherSum_33 fl_Re_23 (lv_25 _) ?_
      refine g_iload2 hX d_Re_readOtherSum_36 ?_
      refine g_iconst (v := nI 0) hX d_Re_readOtherSum_37 rfl ?_
      refine g_callV (As := [_, _]) hX hF.1 d_Re_readOtherSum_38 ml_Re_135 cf_Pr_emit cv_Pr_emit rfl rfl (c_Pr_emit (o := q - 18) (a := 0) (len := c2.length) hA2.2.2.2.1.2.2.2.1.1 hA2.2.2.2.1.2.2.2.1.2.1 (by omega) (by omega) (by decide)) (rcv_obj hX (lv_28 _) rfl rfl) (by first | (unfold dP dT; omega) | (unfold dT dS; omega) | (unfold dP dS; omega) | (unfold dL dB; omega) | (unfold dB dE; omega) | (unfold dI dE; omega) | (unfold dI dL; omega) | (unfold dS dL; omega) | (unfold dP; omega) | (unfold dT; omega) | (unfold dS; omega) | (unfold dI; omega) | (unfold dL; omega) | (unfold dB; omega) | (unfold dE; omega) | omega) (by omega) (by omega) (Nat.le_of_ble_eq_true rfl) ?_
      refine ret_k ?_
      refine g_pop hX d_Re_readOtherSum_41 rfl ?_
      refine g_iconst (v := nI 1) hX d_Re_readOtherSum_42 rfl ?_
      refine g_zret hX hF d_Re_readOtherSum_43 (Or.inr rfl) (by omega) (by omega) ?_
      exact (AcQ.bin hA ft_w3 hA2 hq1 hq2).ex
    · obtain ⟨e, rfl⟩ := okR_f e43
      obtain rfl : x = .inl e := hk1
      refine g_iconst (v := nI 0) hX d_Re_readOtherSum_30 rfl ?_
      refine g_zret hX hF d_Re_readOtherSum_31 (Or.inl rfl) (by omega) (by omega) ?_
      exact ExQ.bad (hA.1.tr ft_w3.R) hQ
  · have hs : sgn t f1 sgC = none := by
      rcases hv with ⟨q, u, z1, z2, z3⟩ | z
      · rw [z3] at e26
        exact absurd e26 (nI_m1 (by have := sgC_rg z1; omega))
      · exact z.1
    refine g_aload0 hX d_Re_readOtherSum_10 ?_
    refine g_callV (As := []) hX hF.1 d_Re_readOtherSum_11 ml_Re_64 cf_Re_fail cv_Re_fail rfl rfl (c_Re_fail hR1.1) (rcv_obj hX (lv_25 _) rfl rfl) (by first | (unfold dP dT; omega) | (unfold dT dS; omega) | (unfold dP dS; omega) | (unfold dL dB; omega) | (unfold dB dE; omega) | (unfold dI dE; omega) | (unfold dI dL; omega) | (unfold dS dL; omega) | (unfold dP; omega) | (unfold dT; omega) | (unfold dS; omega) | (unfold dI; omega) | (unfold dL; omega) | (unfold dB; omega) | (unfold dE; omega) | omega) (by omega) (by omega) (Nat.le_of_ble_eq_true rfl) ?_
    refine ret_k ?_
    refine g_zret hX hF d_Re_readOtherSum_14 (Or.inl rfl) (by omega) (by omega) ?_
    unfold cmpR at hx
    rw [hs] at hx
    obtain rfl := Option.some.inj hx
    exact ExQ.fail hA.1
def mapN (tn : Bool) (x : ResT) : ResT := match x with
  | .inl e => .inl e
  | .inr y => .inr (y.1, y.2.1, if tn = true then dNot y.2.2 else y.2.2)
theorem mapN_f (x : ResT) : mapN false x = x := by cases x <;> rfl
theorem mapN_s (tn : Bool) (x : ResT) : mapN tn (mapN true x) = mapN (!tn) x := by
  cases x with
  | inl e => rfl
  | inr y =>
    cases tn with
    | false => rfl
    | true =>
      show (Sum.inr (y.1, y.2.1, dNot (dNot y.2.2)) : ResT) = .inr (y.1, y.2.1, y.2.2)
      rw [dNot2]
theorem bind_not {r : Option ResT} {x : ResT} (h : bindR r (fun f p d => some (.inr (f, p, dNot d))) = some x) : ∃ x2, r = some x2 ∧ x = mapN true x2 := by
  obtain ⟨x0, h1, h2⟩ := bind_2 h
  refine ⟨x0, h1, ?_⟩
  cases x0 with
  | inl e => exact h2
  | inr y => exact (Option.some.inj h2).symm
theorem nxT_not {t : List Nat} {f : Nat} (h : isW t f wNot) : f + 3 ≤ nxT t f := by
  have h1 : enT t f - f = 3 := h.2.1
  have h2 : enT t f ≤ nxT t f := runE_ge _ _ _
  omega
theorem okR_i (y : Nat × Nat × Den) : b2i (okR (.inr y) = true) = nI 1 := by rw [b2i_t (show okR (.inr y) = true from rfl)]; rfl
theorem okR_e (e : Nat) : b2i (okR (.inl e) = true) = nI 0 := by rw [b2i_f (show ¬ okR (.inl e) = true from fun z => by cases z)]; rfl
theorem c_Re_readPlain {E : EV} {w : Mem} {t : List Nat} {o : Bool} {n dp f p : Nat} {a : Den} {c : List (Nat × Nat)} {x : ResT} (HS : ∀ k, k < n → CT E t o k 3 m_Re_readSum dS) (HE : ∀ k, k < n → CT E t o k 8 m_Re_readTest dE) (hdp : dp ≤ 8) (hrd : rd t o n 5 dp f p a = some x) (h : RdI w t o f p c) : T E m_Re_readPlain (dL dp) 0 0 [.ref 25, .int (nI dp)] w (fun r w2 => ExQ w w2 t o c f p x r) := by
  refine T_of (L := [.ref 25, .int (nI dp), un, un]) cf_Re_readPlain rfl (Nat.le_of_ble_eq_true rfl) (fun X hX hF => ?_)
  have lp : ∀ (fuel : Nat) (k i f1 : Nat) (tn : Bool) (x1 : ResT) (wk : Mem), k < fuel → (rd t o k 5 dp f1 p a = some x1) → (k ≤ n) → (x = mapN tn x1) → (FrTk w wk) → (RdI wk t o f1 p c) → (f ≤ f1 ∧ (tn = true → f + 3 ≤ f1)) → (i ≤ f1) → G0 E X 0 0 4 [.ref 25, .int (nI dp), .int (b2i (tn = true)), .int (nI i)] [] wk := by
    intro fuel
    induction fuel with
    | zero => intro k i f1 tn x1 wk q0; exact absurd q0 (Nat.not_lt_zero _)
    | succ fuel ih =>
      intro k i f1 tn x1 wk q0 q1 q2 q3 q4 q5 q6 q7
      obtain ⟨k, rfl⟩ := rd_pos q1
      have hfl := q5.fl
      refine g_iload3 hX d_Re_readPlain_4 ?_
      refine g_sipush (v := nI 400) hX d_Re_readPlain_5 rfl ?_
      refine g_icmpN_ge hX d_Re_readPlain_8 (by omega) (by omega) (fun e8 => ?_) (fun e8 => ?_)
      · have hs : ¬ isW t f1 wNot := fun z => isW_0 z (srt_400 (t := t) (f := f1) (by omega))
        refine g_aload0 hX d_Re_readPlain_46 ?_
        refine g_getF hX d_Re_readPlain_47 fl_Re_12 (lv_25 _) ?_
        refine g_bipush (v := nI 40) hX d_Re_readPlain_50 rfl ?_
        refine g_callV (As := [_]) hX hF.1 d_Re_readPlain_52 ml_Re_60 cf_Ta_isSign cv_Ta_isSign rfl rfl (c_Ta_isSign (by decide) q5.1) (rcv_obj hX (lv_26 _) rfl rfl) (by first | (unfold dP dT; omega) | (unfold dT dS; omega) | (unfold dP dS; omega) | (unfold dL dB; omega) | (unfold dB dE; omega) | (unfold dI dE; omega) | (unfold dI dL; omega) | (unfold dS dL; omega) | (unfold dP; omega) | (unfold dT; omega) | (unfold dS; omega) | (unfold dI; omega) | (unfold dL; omega) | (unfold dB; omega) | (unfold dE; omega) | omega) (by omega) (by omega) (Nat.le_of_ble_eq_true rfl) ?_
        refine ret_k ?_
        refine g_ifB_eq hX d_Re_readPlain_55 (fun e55 => ?_) (fun e55 => ?_)
        · refine g_aload0 hX d_Re_readPlain_66 ?_
          refine g_iload1 hX d_Re_readPlain_67 ?_
          rw [rd_5d hs e55] at q1
          obtain ⟨x0, hx0, hk0⟩ := bind_2 q1
          refine g_callV (As := [_]) hX hF.1 d_Re_readPlain_68 ml_Re_122 cf_Re_readSum cv_Re_readSum rfl rfl (HS k (by omega) _ _ _ _ _ _ _ hdp hx0 q5) (rcv_obj hX (lv_25 _) rfl rfl) (by first | (unfold dP dT; omega) | (unfold dT dS; omega) | (unfold dP dS; omega) | (unfold dL dB; omega) | (unfold dB dE; omega) | (unfold dI dE; omega) | (unfold dI dL; omega) | (unfold dS dL; omega) | (unfold dP; omega) | (unfold dT; omega) | (unfold dS; omega) | (unfold dI; omega) | (unfold dL; omega) | (unfold dB; omega) | (unfold dE; omega) | omega) (by omega) (by omega) (Nat.le_of_ble_eq_true rfl) ?_
          rintro r5 w5 hQ
          obtain rfl := hQ.rv
          show G0 _ _ _ _ _ _ _ _
          refine g_ifB_eq hX d_Re_readPlain_71 (fun e71 => ?_) (fun e71 => ?_)
          · refine g_iconst (v := nI 0) hX d_Re_readPlain_86 rfl ?_
            refine g_istore3 hX d_Re_readPlain_87 rfl (by decide) ?_
            refine g_iload3 hX d_Re_readPlain_88 ?_
            refine g_if_eq hX d_Re_readPlain_89 (fun c3 => ?_) (fun h => absurd (by decide) h)
            refine g_iload3 hX d_Re_readPlain_107 ?_
            refine g_zret hX hF d_Re_readPlain_108 (Or.inl rfl) (by omega) (by omega) ?_
            obtain ⟨e, rfl⟩ := okR_f e71
            obtain rfl : x1 = .inl e := hk0
            subst q3
            exact ExQ.bad q4.R hQ
          · obtain ⟨y0, rfl⟩ := okR_t e71
            obtain ⟨c1, hA⟩ := hQ.acc
            replace hk0 : cmpR t o k dp a y0.1 y0.2.1 y0.2.2 = some x1 := hk0
            refine g_aload0 hX d_Re_readPlain_74 ?_
            refine g_iload1 hX d_Re_readPlain_75 ?_
            refine g_callV (As := [_]) hX hF.1 d_Re_readPlain_76 ml_Re_152 cf_Re_readOtherSum cv_Re_readOtherSum rfl rfl (c_Re_readOtherSum (HS k (by omega)) hdp hk0 hA) (rcv_obj hX (lv_25 _) rfl rfl) (by first | (unfold dP dT; omega) | (unfold dT dS; omega) | (unfold dP dS; omega) | (unfold dL dB; omega) | (unfold dB dE; omega) | (unfold dI dE; omega) | (unfold dI dL; omega) | (unfold dS dL; omega) | (unfold dP; omega) | (unfold dT; omega) | (unfold dS; omega) | (unfold dI; omega) | (unfold dL; omega) | (unfold dB; omega) | (unfold dE; omega) | omega) (by omega) (by omega) (Nat.le_of_ble_eq_true rfl) ?_
            rintro r6 w6 hQ2
            obtain rfl := hQ2.rv
            show G0 _ _ _ _ _ _ _ _
            refine g_ifB_eq hX d_Re_readPlain_79 (fun e79 => ?_) (fun e79 => ?_)
            · refine g_iconst (v := nI 0) hX d_Re_readPlain_86 rfl ?_
              refine g_istore3 hX d_Re_readPlain_87 rfl (by decide) ?_
              refine g_iload3 hX d_Re_readPlain_88 ?_
              refine g_if_eq hX d_Re_readPlain_89 (fun c5 => ?_) (fun h => absurd (by decide) h)
              refine g_iload3 hX d_Re_readPlain_107 ?_
              refine g_zret hX hF d_Re_readPlain_108 (Or.inl rfl) (by omega) (by omega) ?_
              obtain ⟨e, rfl⟩ := okR_f e79
              subst q3
              exact ExQ.bad q4.R hQ2
            · obtain ⟨y, rfl⟩ := okR_t e79
              obtain ⟨c2, hA9⟩ := hQ2.acc
              refine g_iconst (v := nI 1) hX d_Re_readPlain_82 rfl ?_
              refine g_goto hX d_Re_readPlain_83 ?_
              refine g_istore3 hX d_Re_readPlain_87 rfl (by decide) ?_
              refine g_iload3 hX d_Re_readPlain_88 ?_
              refine g_if_eq hX d_Re_readPlain_89 (fun h => absurd h (by decide)) (fun c6 => ?_)
              refine g_iload2 hX d_Re_readPlain_92 ?_
              refine g_ifB_eq hX d_Re_readPlain_93 (fun e93 => ?_) (fun e93 => ?_)
              · obtain rfl : tn = false := by
                  cases tn with
                  | false => rfl
                  | true => exact absurd rfl e93
                refine g_iload3 hX d_Re_readPlain_107 ?_
                refine g_zret hX hF d_Re_readPlain_108 (Or.inr rfl) (by omega) (by omega) ?_
                subst q3
                first
                | exact (hA9.tk q4 q6.1).ex
                | (rw [okR_i]
                   exact (hA9.tk q4 q6.1).ex)
              · subst e93
                have hlen2 := hA9.2.2.2.1.len
                refine g_aload0 hX d_Re_readPlain_96 ?_
                refine g_getF hX d_Re_readPlain_97 fl_Re_23 (lv_25 _) ?_
                refine g_bipush (v := nI 10) hX d_Re_readPlain_100 rfl ?_
                refine g_iconst (v := nI 0) hX d_Re_readPlain_102 rfl ?_
                refine g_callV (As := [_, _]) hX hF.1 d_Re_readPlain_103 ml_Re_135 cf_Pr_emit cv_Pr_emit rfl rfl (c_Pr_emit (o := 10) (a := 0) (len := c2.length) hA9.2.2.2.1.2.2.2.1.1 hA9.2.2.2.1.2.2.2.1.2.1 (by omega) (by decide) (by decide)) (rcv_obj hX (lv_28 _) rfl rfl) (by first | (unfold dP dT; omega) | (unfold dT dS; omega) | (unfold dP dS; omega) | (unfold dL dB; omega) | (unfold dB dE; omega) | (unfold dI dE; omega) | (unfold dI dL; omega) | (unfold dS dL; omega) | (unfold dP; omega) | (unfold dT; omega) | (unfold dS; omega) | (unfold dI; omega) | (unfold dL; omega) | (unfold dB; omega) | (unfold dE; omega) | omega) (by omega) (by omega) (Nat.le_of_ble_eq_true rfl) ?_
                refine ret_k ?_
                refine g_pop hX d_Re_readPlain_106 rfl ?_
                refine g_iload3 hX d_Re_readPlain_107 ?_
                refine g_zret hX hF d_Re_readPlain_108 (Or.inr rfl) (by omega) (by omega) ?_
                subst q3
                first
                | exact ((hA9.tk q4 (Nat.le_refl _)).not (q6.2 rfl) h.2.2.2.2.2.1).ex
                | (rw [okR_i]
                   exact ((hA9.tk q4 (Nat.le_refl _)).not (q6.2 rfl) h.2.2.2.2.2.1).ex)
        · refine g_aload0 hX d_Re_readPlain_58 ?_
          refine g_iload1 hX d_Re_readPlain_59 ?_
          refine g_callV (As := [_]) hX hF.1 d_Re_readPlain_60 ml_Re_149 cf_Re_readInBrackets cv_Re_readInBrackets rfl rfl (c_Re_readInBrackets (HE k (by omega)) hdp (x := x1) (by
            by_cases z : 8 ≤ dp
            · rw [rd_5b hs e55 z] at q1
              rw [if_pos z]
              exact (Option.some.inj q1).symm
            · rw [rd_5c hs e55 z] at q1
              rw [if_neg z]
              exact q1) q5) (rcv_obj hX (lv_25 _) rfl rfl) (by first | (unfold dP dT; omega) | (unfold dT dS; omega) | (unfold dP dS; omega) | (unfold dL dB; omega) | (unfold dB dE; omega) | (unfold dI dE; omega) | (unfold dI dL; omega) | (unfold dS dL; omega) | (unfold dP; omega) | (unfold dT; omega) | (unfold dS; omega) | (unfold dI; omega) | (unfold dL; omega) | (unfold dB; omega) | (unfold dE; omega) | omega) (by omega) (by omega) (Nat.le_of_ble_eq_true rfl) ?_
          rintro r5 w5 hQ
          obtain rfl := hQ.rv
          show G0 _ _ _ _ _ _ _ _
          refine g_goto hX d_Re_readPlain_63 ?_
          refine g_istore3 hX d_Re_readPlain_87 rfl (by decide) ?_
          refine g_iload3 hX d_Re_readPlain_88 ?_
          refine g_ifB_eq hX d_Re_readPlain_89 (fun e89 => ?_) (fun e89 => ?_)
          · 
            refine g_iload3 hX d_Re_readPlain_107 ?_
            refine g_zret hX hF d_Re_readPlain_108 (b2i_01 _) (by omega) (by omega) ?_
            obtain ⟨e, rfl⟩ := okR_f e89
            subst q3
            rw [okR_e]
            exact ExQ.bad q4.R hQ
          · obtain ⟨y, rfl⟩ := okR_t e89
            obtain ⟨c2, hA9⟩ := hQ.acc
            refine g_iload2 hX d_Re_readPlain_92 ?_
            refine g_ifB_eq hX d_Re_readPlain_93 (fun e93 => ?_) (fun e93 => ?_)
            · obtain rfl : tn = false := by
                cases tn with
                | false => rfl
                | true => exact absurd rfl e93
              refine g_iload3 hX d_Re_readPlain_107 ?_
              refine g_zret hX hF d_Re_readPlain_108 (b2i_01 _) (by omega) (by omega) ?_
              subst q3
              first
              | exact (hA9.tk q4 q6.1).ex
              | (rw [okR_i]
                 exact (hA9.tk q4 q6.1).ex)
            · subst e93
              have hlen2 := hA9.2.2.2.1.len
              refine g_aload0 hX d_Re_readPlain_96 ?_
              refine g_getF hX d_Re_readPlain_97 fl_Re_23 (lv_25 _) ?_
              refine g_bipush (v := nI 10) hX d_Re_readPlain_100 rfl ?_
              refine g_iconst (v := nI 0) hX d_Re_readPlain_102 rfl ?_
              refine g_callV (As := [_, _]) hX hF.1 d_Re_readPlain_103 ml_Re_135 cf_Pr_emit cv_Pr_emit rfl rfl (c_Pr_emit (o := 10) (a := 0) (len := c2.length) hA9.2.2.2.1.2.2.2.1.1 hA9.2.2.2.1.2.2.2.1.2.1 (by omega) (by decide) (by decide)) (rcv_obj hX (lv_28 _) rfl rfl) (by first | (unfold dP dT; omega) | (unfold dT dS; omega) | (unfold dP dS; omega) | (unfold dL dB; omega) | (unfold dB dE; omega) | (unfold dI dE; omega) | (unfold dI dL; omega) | (unfold dS dL; omega) | (unfold dP; omega) | (unfold dT; omega) | (unfold dS; omega) | (unfold dI; omega) | (unfold dL; omega) | (unfold dB; omega) | (unfold dE; omega) | omega) (by omega) (by omega) (Nat.le_of_ble_eq_true rfl) ?_
              refine ret_k ?_
              refine g_pop hX d_Re_readPlain_106 rfl ?_
              refine g_iload3 hX d_Re_readPlain_107 ?_
              refine g_zret hX hF d_Re_readPlain_108 (b2i_01 _) (by omega) (by omega) ?_
              subst q3
              first
              | exact ((hA9.tk q4 (Nat.le_refl _)).not (q6.2 rfl) h.2.2.2.2.2.1).ex
              | (rw [okR_i]
                 exact ((hA9.tk q4 (Nat.le_refl _)).not (q6.2 rfl) h.2.2.2.2.2.1).ex)
      · refine g_aload0 hX d_Re_readPlain_11 ?_
        refine g_getF hX d_Re_readPlain_12 fl_Re_12 (lv_25 _) ?_
        refine g_ldcS (i := 21) (tx := "not") hX d_Re_readPlain_15 (by decide) ?_
        refine g_callV (As := [_]) hX hF.1 d_Re_readPlain_17 ml_Re_72 cf_Ta_isWord cv_Ta_isWord rfl rfl (c_Ta_isWord (i := 21) (wd := wNot) (by decide) (strW_all.2.2.2.2.2.2.2.2.2.2.2.2.2.2.2.2.2.2.2.2.2.1) q5.1) (rcv_obj hX (lv_26 _) rfl rfl) (by first | (unfold dP dT; omega) | (unfold dT dS; omega) | (unfold dP dS; omega) | (unfold dL dB; omega) | (unfold dB dE; omega) | (unfold dI dE; omega) | (unfold dI dL; omega) | (unfold dS dL; omega) | (unfold dP; omega) | (unfold dT; omega) | (unfold dS; omega) | (unfold dI; omega) | (unfold dL; omega) | (unfold dB; omega) | (unfold dE; omega) | omega) (by omega) (by omega) (Nat.le_of_ble_eq_true rfl) ?_
        refine ret_k ?_
        refine g_ifB_eq hX d_Re_readPlain_20 (fun e20 => ?_) (fun e20 => ?_)
        · have hs := e20
          refine g_aload0 hX d_Re_readPlain_46 ?_
          refine g_getF hX d_Re_readPlain_47 fl_Re_12 (lv_25 _) ?_
          refine g_bipush (v := nI 40) hX d_Re_readPlain_50 rfl ?_
          refine g_callV (As := [_]) hX hF.1 d_Re_readPlain_52 ml_Re_60 cf_Ta_isSign cv_Ta_isSign rfl rfl (c_Ta_isSign (by decide) q5.1) (rcv_obj hX (lv_26 _) rfl rfl) (by first | (unfold dP dT; omega) | (unfold dT dS; omega) | (unfold dP dS; omega) | (unfold dL dB; omega) | (unfold dB dE; omega) | (unfold dI dE; omega) | (unfold dI dL; omega) | (unfold dS dL; omega) | (unfold dP; omega) | (unfold dT; omega) | (unfold dS; omega) | (unfold dI; omega) | (unfold dL; omega) | (unfold dB; omega) | (unfold dE; omega) | omega) (by omega) (by omega) (Nat.le_of_ble_eq_true rfl) ?_
          refine ret_k ?_
          refine g_ifB_eq hX d_Re_readPlain_55 (fun e55 => ?_) (fun e55 => ?_)
          · refine g_aload0 hX d_Re_readPlain_66 ?_
            refine g_iload1 hX d_Re_readPlain_67 ?_
            rw [rd_5d hs e55] at q1
            obtain ⟨x0, hx0, hk0⟩ := bind_2 q1
            refine g_callV (As := [_]) hX hF.1 d_Re_readPlain_68 ml_Re_122 cf_Re_readSum cv_Re_readSum rfl rfl (HS k (by omega) _ _ _ _ _ _ _ hdp hx0 q5) (rcv_obj hX (lv_25 _) rfl rfl) (by first | (unfold dP dT; omega) | (unfold dT dS; omega) | (unfold dP dS; omega) | (unfold dL dB; omega) | (unfold dB dE; omega) | (unfold dI dE; omega) | (unfold dI dL; omega) | (unfold dS dL; omega) | (unfold dP; omega) | (unfold dT; omega) | (unfold dS; omega) | (unfold dI; omega) | (unfold dL; omega) | (unfold dB; omega) | (unfold dE; omega) | omega) (by omega) (by omega) (Nat.le_of_ble_eq_true rfl) ?_
            rintro r5 w5 hQ
            obtain rfl := hQ.rv
            show G0 _ _ _ _ _ _ _ _
            refine g_ifB_eq hX d_Re_readPlain_71 (fun e71 => ?_) (fun e71 => ?_)
            · refine g_iconst (v := nI 0) hX d_Re_readPlain_86 rfl ?_
              refine g_istore3 hX d_Re_readPlain_87 rfl (by decide) ?_
              refine g_iload3 hX d_Re_readPlain_88 ?_
              refine g_if_eq hX d_Re_readPlain_89 (fun c13 => ?_) (fun h => absurd (by decide) h)
              refine g_iload3 hX d_Re_readPlain_107 ?_
              refine g_zret hX hF d_Re_readPlain_108 (Or.inl rfl) (by omega) (by omega) ?_
              obtain ⟨e, rfl⟩ := okR_f e71
              obtain rfl : x1 = .inl e := hk0
              subst q3
              exact ExQ.bad q4.R hQ
            · obtain ⟨y0, rfl⟩ := okR_t e71
              obtain ⟨c1, hA⟩ := hQ.acc
              replace hk0 : cmpR t o k dp a y0.1 y0.2.1 y0.2.2 = some x1 := hk0
              refine g_aload0 hX d_Re_readPlain_74 ?_
              refine g_iload1 hX d_Re_readPlain_75 ?_
              refine g_callV (As := [_]) hX hF.1 d_Re_readPlain_76 ml_Re_152 cf_Re_readOtherSum cv_Re_readOtherSum rfl rfl (c_Re_readOtherSum (HS k (by omega)) hdp hk0 hA) (rcv_obj hX (lv_25 _) rfl rfl) (by first | (unfold dP dT; omega) | (unfold dT dS; omega) | (unfold dP dS; omega) | (unfold dL dB; omega) | (unfold dB dE; omega) | (unfold dI dE; omega) | (unfold dI dL; omega) | (unfold dS dL; omega) | (unfold dP; omega) | (unfold dT; omega) | (unfold dS; omega) | (unfold dI; omega) | (unfold dL; omega) | (unfold dB; omega) | (unfold dE; omega) | omega) (by omega) (by omega) (Nat.le_of_ble_eq_true rfl) ?_
              rintro r6 w6 hQ2
              obtain rfl := hQ2.rv
              show G0 _ _ _ _ _ _ _ _
              refine g_ifB_eq hX d_Re_readPlain_79 (fun e79 => ?_) (fun e79 => ?_)
              · refine g_iconst (v := nI 0) hX d_Re_readPlain_86 rfl ?_
                refine g_istore3 hX d_Re_readPlain_87 rfl (by decide) ?_
                refine g_iload3 hX d_Re_readPlain_88 ?_
                refine g_if_eq hX d_Re_readPlain_89 (fun c15 => ?_) (fun h => absurd (by decide) h)
                refine g_iload3 hX d_Re_readPlain_107 ?_
                refine g_zret hX hF d_Re_readPlain_108 (Or.inl rfl) (by omega) (by omega) ?_
                obtain ⟨e, rfl⟩ := okR_f e79
                subst q3
                exact ExQ.bad q4.R hQ2
              · obtain ⟨y, rfl⟩ := okR_t e79
                obtain ⟨c2, hA9⟩ := hQ2.acc
                refine g_iconst (v := nI 1) hX d_Re_readPlain_82 rfl ?_
                refine g_goto hX d_Re_readPlain_83 ?_
                refine g_istore3 hX d_Re_readPlain_87 rfl (by decide) ?_
                refine g_iload3 hX d_Re_readPlain_88 ?_
                refine g_if_eq hX d_Re_readPlain_89 (fun h => absurd h (by decide)) (fun c16 => ?_)
                refine g_iload2 hX d_Re_readPlain_92 ?_
                refine g_ifB_eq hX d_Re_readPlain_93 (fun e93 => ?_) (fun e93 => ?_)
                · obtain rfl : tn = false := by
                    cases tn with
                    | false => rfl
                    | true => exact absurd rfl e93
                  refine g_iload3 hX d_Re_readPlain_107 ?_
                  refine g_zret hX hF d_Re_readPlain_108 (Or.inr rfl) (by omega) (by omega) ?_
                  subst q3
                  first
                  | exact (hA9.tk q4 q6.1).ex
                  | (rw [okR_i]
                     exact (hA9.tk q4 q6.1).ex)
                · subst e93
                  have hlen2 := hA9.2.2.2.1.len
                  refine g_aload0 hX d_Re_readPlain_96 ?_
                  refine g_getF hX d_Re_readPlain_97 fl_Re_23 (lv_25 _) ?_
                  refine g_bipush (v := nI 10) hX d_Re_readPlain_100 rfl ?_
                  refine g_iconst (v := nI 0) hX d_Re_readPlain_102 rfl ?_
                  refine g_callV (As := [_, _]) hX hF.1 d_Re_readPlain_103 ml_Re_135 cf_Pr_emit cv_Pr_emit rfl rfl (c_Pr_emit (o := 10) (a := 0) (len := c2.length) hA9.2.2.2.1.2.2.2.1.1 hA9.2.2.2.1.2.2.2.1.2.1 (by omega) (by decide) (by decide)) (rcv_obj hX (lv_28 _) rfl rfl) (by first | (unfold dP dT; omega) | (unfold dT dS; omega) | (unfold dP dS; omega) | (unfold dL dB; omega) | (unfold dB dE; omega) | (unfold dI dE; omega) | (unfold dI dL; omega) | (unfold dS dL; omega) | (unfold dP; omega) | (unfold dT; omega) | (unfold dS; omega) | (unfold dI; omega) | (unfold dL; omega) | (unfold dB; omega) | (unfold dE; omega) | omega) (by omega) (by omega) (Nat.le_of_ble_eq_true rfl) ?_
                  refine ret_k ?_
                  refine g_pop hX d_Re_readPlain_106 rfl ?_
                  refine g_iload3 hX d_Re_readPlain_107 ?_
                  refine g_zret hX hF d_Re_readPlain_108 (Or.inr rfl) (by omega) (by omega) ?_
                  subst q3
                  first
                  | exact ((hA9.tk q4 (Nat.le_refl _)).not (q6.2 rfl) h.2.2.2.2.2.1).ex
                  | (rw [okR_i]
                     exact ((hA9.tk q4 (Nat.le_refl _)).not (q6.2 rfl) h.2.2.2.2.2.1).ex)
          · refine g_aload0 hX d_Re_readPlain_58 ?_
            refine g_iload1 hX d_Re_readPlain_59 ?_
            refine g_callV (As := [_]) hX hF.1 d_Re_readPlain_60 ml_Re_149 cf_Re_readInBrackets cv_Re_readInBrackets rfl rfl (c_Re_readInBrackets (HE k (by omega)) hdp (x := x1) (by
              by_cases z : 8 ≤ dp
              · rw [rd_5b hs e55 z] at q1
                rw [if_pos z]
                exact (Option.some.inj q1).symm
              · rw [rd_5c hs e55 z] at q1
                rw [if_neg z]
                exact q1) q5) (rcv_obj hX (lv_25 _) rfl rfl) (by first | (unfold dP dT; omega) | (unfold dT dS; omega) | (unfold dP dS; omega) | (unfold dL dB; omega) | (unfold dB dE; omega) | (unfold dI dE; omega) | (unfold dI dL; omega) | (unfold dS dL; omega) | (unfold dP; omega) | (unfold dT; omega) | (unfold dS; omega) | (unfold dI; omega) | (unfold dL; omega) | (unfold dB; omega) | (unfold dE; omega) | omega) (by omega) (by omega) (Nat.le_of_ble_eq_true rfl) ?_
            rintro r5 w5 hQ
            obtain rfl := hQ.rv
            show G0 _ _ _ _ _ _ _ _
            refine g_goto hX d_Re_readPlain_63 ?_
            refine g_istore3 hX d_Re_readPlain_87 rfl (by decide) ?_
            refine g_iload3 hX d_Re_readPlain_88 ?_
            refine g_ifB_eq hX d_Re_readPlain_89 (fun e89 => ?_) (fun e89 => ?_)
            · 
              refine g_iload3 hX d_Re_readPlain_107 ?_
              refine g_zret hX hF d_Re_readPlain_108 (b2i_01 _) (by omega) (by omega) ?_
              obtain ⟨e, rfl⟩ := okR_f e89
              subst q3
              rw [okR_e]
              exact ExQ.bad q4.R hQ
            · obtain ⟨y, rfl⟩ := okR_t e89
              obtain ⟨c2, hA9⟩ := hQ.acc
              refine g_iload2 hX d_Re_readPlain_92 ?_
              refine g_ifB_eq hX d_Re_readPlain_93 (fun e93 => ?_) (fun e93 => ?_)
              · obtain rfl : tn = false := by
                  cases tn with
                  | false => rfl
                  | true => exact absurd rfl e93
                refine g_iload3 hX d_Re_readPlain_107 ?_
                refine g_zret hX hF d_Re_readPlain_108 (b2i_01 _) (by omega) (by omega) ?_
                subst q3
                first
                | exact (hA9.tk q4 q6.1).ex
                | (rw [okR_i]
                   exact (hA9.tk q4 q6.1).ex)
              · subst e93
                have hlen2 := hA9.2.2.2.1.len
                refine g_aload0 hX d_Re_readPlain_96 ?_
                refine g_getF hX d_Re_readPlain_97 fl_Re_23 (lv_25 _) ?_
                refine g_bipush (v := nI 10) hX d_Re_readPlain_100 rfl ?_
                refine g_iconst (v := nI 0) hX d_Re_readPlain_102 rfl ?_
                refine g_callV (As := [_, _]) hX hF.1 d_Re_readPlain_103 ml_Re_135 cf_Pr_emit cv_Pr_emit rfl rfl (c_Pr_emit (o := 10) (a := 0) (len := c2.length) hA9.2.2.2.1.2.2.2.1.1 hA9.2.2.2.1.2.2.2.1.2.1 (by omega) (by decide) (by decide)) (rcv_obj hX (lv_28 _) rfl rfl) (by first | (unfold dP dT; omega) | (unfold dT dS; omega) | (unfold dP dS; omega) | (unfold dL dB; omega) | (unfold dB dE; omega) | (unfold dI dE; omega) | (unfold dI dL; omega) | (unfold dS dL; omega) | (unfold dP; omega) | (unfold dT; omega) | (unfold dS; omega) | (unfold dI; omega) | (unfold dL; omega) | (unfold dB; omega) | (unfold dE; omega) | omega) (by omega) (by omega) (Nat.le_of_ble_eq_true rfl) ?_
                refine ret_k ?_
                refine g_pop hX d_Re_readPlain_106 rfl ?_
                refine g_iload3 hX d_Re_readPlain_107 ?_
                refine g_zret hX hF d_Re_readPlain_108 (b2i_01 _) (by omega) (by omega) ?_
                subst q3
                first
                | exact ((hA9.tk q4 (Nat.le_refl _)).not (q6.2 rfl) h.2.2.2.2.2.1).ex
                | (rw [okR_i]
                   exact ((hA9.tk q4 (Nat.le_refl _)).not (q6.2 rfl) h.2.2.2.2.2.1).ex)
        · refine g_aload0 hX d_Re_readPlain_23 ?_
          refine g_getF hX d_Re_readPlain_24 fl_Re_12 (lv_25 _) ?_
          refine g_callV (As := []) hX hF.1 d_Re_readPlain_27 ml_Re_67 cf_Ta_step cv_Ta_step rfl rfl (c_Ta_step q5.1.1 q5.1.2.2.1 (enT_le q5.fl.1)) (rcv_obj hX (lv_26 _) rfl rfl) (by first | (unfold dP dT; omega) | (unfold dT dS; omega) | (unfold dP dS; omega) | (unfold dL dB; omega) | (unfold dB dE; omega) | (unfold dI dE; omega) | (unfold dI dL; omega) | (unfold dS dL; omega) | (unfold dP; omega) | (unfold dT; omega) | (unfold dS; omega) | (unfold dI; omega) | (unfold dL; omega) | (unfold dB; omega) | (unfold dE; omega) | omega) (by omega) (by omega) (Nat.le_of_ble_eq_true rfl) ?_
          rintro _ w3 ⟨rfl, ft_w3, tk_w3⟩
          have h3 := q5.step ft_w3 tk_w3
          show G0 _ _ _ _ _ _ _ _
          refine g_iload2 hX d_Re_readPlain_30 ?_
          refine g_ifB_ne hX d_Re_readPlain_31 (fun e31 => ?_) (fun e31 => ?_)
          · subst e31
            refine g_iconst (v := nI 0) hX d_Re_readPlain_38 rfl ?_
            refine g_istore2 hX d_Re_readPlain_39 rfl (by decide) ?_
            refine g_iincN3 hX d_Re_readPlain_40 rfl (by decide) ?_
            refine g_goto hX d_Re_readPlain_43 ?_
            have hnn := nxT_not e20
            rw [rd_5a e20] at q1
            obtain ⟨x2, hx2, hx3⟩ := bind_not q1
            refine g_loc (show [Value.ref 25, Value.int (nI dp), Value.int (nI 0), Value.int (nI (i + 1))] = [Value.ref 25, Value.int (nI dp), Value.int (b2i ((!true) = true)), Value.int (nI (i + 1))] by rw [b2i_f (by decide)]; rfl) ?_
            exact ih k (i + 1) (nxT t f1) (!true) x2 w3 (by omega) hx2 (by omega) (by rw [q3, hx3, mapN_s]) (q4.tr ft_w3) h3 ⟨by omega, fun _ => by omega⟩ (by omega)
          · obtain rfl : tn = false := by
              cases tn with
              | false => rfl
              | true => exact absurd rfl e31
            refine g_iconst (v := nI 1) hX d_Re_readPlain_34 rfl ?_
            refine g_goto hX d_Re_readPlain_35 ?_
            refine g_istore2 hX d_Re_readPlain_39 rfl (by decide) ?_
            refine g_iincN3 hX d_Re_readPlain_40 rfl (by decide) ?_
            refine g_goto hX d_Re_readPlain_43 ?_
            have hnn := nxT_not e20
            rw [rd_5a e20] at q1
            obtain ⟨x2, hx2, hx3⟩ := bind_not q1
            refine g_loc (show [Value.ref 25, Value.int (nI dp), Value.int (nI 1), Value.int (nI (i + 1))] = [Value.ref 25, Value.int (nI dp), Value.int (b2i ((!false) = true)), Value.int (nI (i + 1))] by rw [b2i_t (by decide)]; rfl) ?_
            exact ih k (i + 1) (nxT t f1) (!false) x2 w3 (by omega) hx2 (by omega) (by rw [q3, hx3, mapN_s]) (q4.tr ft_w3) h3 ⟨by omega, fun _ => by omega⟩ (by omega)
  refine g_iconst (v := nI 0) hX d_Re_readPlain_0 rfl ?_
  refine g_istore2 hX d_Re_readPlain_1 rfl (by decide) ?_
  refine g_iconst (v := nI 0) hX d_Re_readPlain_2 rfl ?_
  refine g_istore3 hX d_Re_readPlain_3 rfl (by decide) ?_
  refine g_loc (show [Value.ref 25, Value.int (nI dp), Value.int (nI 0), Value.int (nI 0)] = [Value.ref 25, Value.int (nI dp), Value.int (b2i (false = true)), Value.int (nI 0)] by rw [b2i_f (by decide)]; rfl) ?_
  exact lp (n + 1) n 0 f false x w (by omega) hrd (Nat.le_refl _) (mapN_f x).symm (FrTk.rf w) h ⟨Nat.le_refl _, fun z => by cases z⟩ (Nat.zero_le _)
/-- the reader reads what the text means -/
theorem c_reader {E : EV} {t : List Nat} {o : Bool} : ∀ n, CT E t o n 0 m_Re_readPart dP ∧ CT E t o n 1 m_Re_readTerm dT ∧ CT E t o n 3 m_Re_readSum dS ∧ CT E t o n 5 m_Re_readPlain dL ∧ CT E t o n 6 m_Re_readBoth dB ∧ CT E t o n 8 m_Re_readTest dE := by
  intro n
  induction n using Nat.strongRecOn with
  | ind n ih =>
    exact ⟨fun dp f p a c w x h1 h2 h3 => c_Re_readPart (fun k hk => (ih k hk).2.2.1) h1 h2 h3, fun dp f p a c w x h1 h2 h3 => c_Re_readTerm (fun k hk => (ih k hk).1) h1 h2 h3, fun dp f p a c w x h1 h2 h3 => c_Re_readSum (fun k hk => (ih k hk).2.1) h1 h2 h3, fun dp f p a c w x h1 h2 h3 => c_Re_readPlain (fun k hk => (ih k hk).2.2.1) (fun k hk => (ih k hk).2.2.2.2.2) h1 h2 h3, fun dp f p a c w x h1 h2 h3 => c_Re_readBoth (fun k hk => (ih k hk).2.2.2.1) h1 h2 h3, fun dp f p a c w x h1 h2 h3 => c_Re_readTest (fun k hk => (ih k hk).2.2.2.2.1) h1 h2 h3⟩
