def m_M_dyeAt : MR := (⟨"SubgraphDeskModel", "dyeAt", "(III)I"⟩, prog_14_method_76_code, 5, (some .int))
theorem cf_M_dyeAt : CF m_M_dyeAt 3 := ⟨gd 1995 (by decide +kernel) rfl, gd 151 (by decide +kernel) rfl, by decide +kernel, by decide, by decide +kernel⟩
theorem cv_M_dyeAt : CV m_M_dyeAt := ⟨gd 1994 (by decide +kernel) rfl, gd 104 (by decide +kernel) rfl⟩
def m_M_dyeNow : MR := (⟨"SubgraphDeskModel", "dyeNow", "(II)I"⟩, prog_14_method_79_code, 3, (some .int))
theorem cf_M_dyeNow : CF m_M_dyeNow 2 := ⟨gd 2003 (by decide +kernel) rfl, gd 151 (by decide +kernel) rfl, by decide +kernel, by decide, by decide +kernel⟩
theorem cv_M_dyeNow : CV m_M_dyeNow := ⟨gd 2002 (by decide +kernel) rfl, gd 105 (by decide +kernel) rfl⟩
def m_M_edgeNow : MR := (⟨"SubgraphDeskModel", "edgeNow", "(II)I"⟩, prog_14_method_72_code, 3, (some .int))
theorem cf_M_edgeNow : CF m_M_edgeNow 2 := ⟨gd 1967 (by decide +kernel) rfl, gd 151 (by decide +kernel) rfl, by decide +kernel, by decide, by decide +kernel⟩
theorem cv_M_edgeNow : CV m_M_edgeNow := ⟨gd 1966 (by decide +kernel) rfl, gd 99 (by decide +kernel) rfl⟩
def m_M_linkNow : MR := (⟨"SubgraphDeskModel", "linkNow", "(II)I"⟩, prog_14_method_74_code, 3, (some .int))
theorem cf_M_linkNow : CF m_M_linkNow 2 := ⟨gd 1983 (by decide +kernel) rfl, gd 151 (by decide +kernel) rfl, by decide +kernel, by decide, by decide +kernel⟩
theorem cv_M_linkNow : CV m_M_linkNow := ⟨gd 1982 (by decide +kernel) rfl, gd 102 (by decide +kernel) rfl⟩
def m_M_paintNow : MR := (⟨"SubgraphDeskModel", "paintNow", "(II)I"⟩, prog_14_method_77_code, 3, (some .int))
theorem cf_M_paintNow : CF m_M_paintNow 2 := ⟨gd 1991 (by decide +kernel) rfl, gd 151 (by decide +kernel) rfl, by decide +kernel, by decide, by decide +kernel⟩
theorem cv_M_paintNow : CV m_M_paintNow := ⟨gd 1990 (by decide +kernel) rfl, gd 103 (by decide +kernel) rfl⟩
theorem d_M_dyeAt_0 : Dc prog_14_method_76_code 0 (.aload_n 0) 1 1 := ⟨by decide +kernel, rfl⟩
theorem d_M_dyeAt_1 : Dc prog_14_method_76_code 1 (.getfield 13) 3 4 := ⟨by decide +kernel, rfl⟩
theorem d_M_dyeAt_4 : Dc prog_14_method_76_code 4 (.iload_n 2) 1 5 := ⟨by decide +kernel, rfl⟩
theorem d_M_dyeAt_5 : Dc prog_14_method_76_code 5 (.iaload) 1 6 := ⟨by decide +kernel, rfl⟩
theorem d_M_dyeAt_6 : Dc prog_14_method_76_code 6 (.iload_n 3) 1 7 := ⟨by decide +kernel, rfl⟩
theorem d_M_dyeAt_7 : Dj prog_14_method_76_code 7 (.if_icmp .ne 6) 10 6 13 := ⟨by decide +kernel, rfl, rfl⟩
theorem d_M_dyeAt_10 : Dc prog_14_method_76_code 10 (.bipush (-3)) 2 12 := ⟨by decide +kernel, rfl⟩
theorem d_M_dyeAt_12 : Dc prog_14_method_76_code 12 (.ireturn) 1 13 := ⟨by decide +kernel, rfl⟩
theorem d_M_dyeAt_13 : Dc prog_14_method_76_code 13 (.aload_n 0) 1 14 := ⟨by decide +kernel, rfl⟩
theorem d_M_dyeAt_14 : Dc prog_14_method_76_code 14 (.iload_n 1) 1 15 := ⟨by decide +kernel, rfl⟩
theorem d_M_dyeAt_15 : Dc prog_14_method_76_code 15 (.invokevirtual 443) 3 18 := ⟨by decide +kernel, rfl⟩
theorem d_M_dyeAt_18 : Dc prog_14_method_76_code 18 (.aload_n 0) 1 19 := ⟨by decide +kernel, rfl⟩
theorem d_M_dyeAt_19 : Dc prog_14_method_76_code 19 (.getfield 13) 3 22 := ⟨by decide +kernel, rfl⟩
theorem d_M_dyeAt_22 : Dc prog_14_method_76_code 22 (.iload_n 2) 1 23 := ⟨by decide +kernel, rfl⟩
theorem d_M_dyeAt_23 : Dc prog_14_method_76_code 23 (.iaload) 1 24 := ⟨by decide +kernel, rfl⟩
theorem d_M_dyeAt_24 : Dc prog_14_method_76_code 24 (.istore 4) 2 26 := ⟨by decide +kernel, rfl⟩
theorem d_M_dyeAt_26 : Dc prog_14_method_76_code 26 (.aload_n 0) 1 27 := ⟨by decide +kernel, rfl⟩
theorem d_M_dyeAt_27 : Dc prog_14_method_76_code 27 (.getfield 13) 3 30 := ⟨by decide +kernel, rfl⟩
theorem d_M_dyeAt_30 : Dc prog_14_method_76_code 30 (.iload_n 2) 1 31 := ⟨by decide +kernel, rfl⟩
theorem d_M_dyeAt_31 : Dc prog_14_method_76_code 31 (.iload_n 3) 1 32 := ⟨by decide +kernel, rfl⟩
theorem d_M_dyeAt_32 : Dc prog_14_method_76_code 32 (.iastore) 1 33 := ⟨by decide +kernel, rfl⟩
theorem d_M_dyeAt_33 : Dc prog_14_method_76_code 33 (.iload 4) 2 35 := ⟨by decide +kernel, rfl⟩
theorem d_M_dyeAt_35 : Dc prog_14_method_76_code 35 (.ireturn) 1 36 := ⟨by decide +kernel, rfl⟩
theorem d_M_dyeNow_0 : Dc prog_14_method_79_code 0 (.iload_n 2) 1 1 := ⟨by decide +kernel, rfl⟩
theorem d_M_dyeNow_1 : Dc prog_14_method_79_code 1 (.i2l) 1 2 := ⟨by decide +kernel, rfl⟩
theorem d_M_dyeNow_2 : Dc prog_14_method_79_code 2 (.lconst 0) 1 3 := ⟨by decide +kernel, rfl⟩
theorem d_M_dyeNow_3 : Dc prog_14_method_79_code 3 (.ldc2_w 212) 3 6 := ⟨by decide +kernel, rfl⟩
theorem d_M_dyeNow_6 : Dc prog_14_method_79_code 6 (.invokestatic 190) 3 9 := ⟨by decide +kernel, rfl⟩
theorem d_M_dyeNow_9 : Dj prog_14_method_79_code 9 (.ifCond .ne 7) 12 7 16 := ⟨by decide +kernel, rfl, rfl⟩
theorem d_M_dyeNow_12 : Dc prog_14_method_79_code 12 (.iconst (-1)) 1 13 := ⟨by decide +kernel, rfl⟩
theorem d_M_dyeNow_13 : Dj prog_14_method_79_code 13 (.goto 26) 16 26 39 := ⟨by decide +kernel, rfl, rfl⟩
theorem d_M_dyeNow_16 : Dc prog_14_method_79_code 16 (.aload_n 0) 1 17 := ⟨by decide +kernel, rfl⟩
theorem d_M_dyeNow_17 : Dc prog_14_method_79_code 17 (.iload_n 1) 1 18 := ⟨by decide +kernel, rfl⟩
theorem d_M_dyeNow_18 : Dc prog_14_method_79_code 18 (.invokevirtual 221) 3 21 := ⟨by decide +kernel, rfl⟩
theorem d_M_dyeNow_21 : Dj prog_14_method_79_code 21 (.ifCond .ne 8) 24 8 29 := ⟨by decide +kernel, rfl, rfl⟩
theorem d_M_dyeNow_24 : Dc prog_14_method_79_code 24 (.bipush (-2)) 2 26 := ⟨by decide +kernel, rfl⟩
theorem d_M_dyeNow_26 : Dj prog_14_method_79_code 26 (.goto 13) 29 13 39 := ⟨by decide +kernel, rfl, rfl⟩
theorem d_M_dyeNow_29 : Dc prog_14_method_79_code 29 (.aload_n 0) 1 30 := ⟨by decide +kernel, rfl⟩
theorem d_M_dyeNow_30 : Dc prog_14_method_79_code 30 (.iconst 3) 1 31 := ⟨by decide +kernel, rfl⟩
theorem d_M_dyeNow_31 : Dc prog_14_method_79_code 31 (.bipush 21) 2 33 := ⟨by decide +kernel, rfl⟩
theorem d_M_dyeNow_33 : Dc prog_14_method_79_code 33 (.iload_n 1) 1 34 := ⟨by decide +kernel, rfl⟩
theorem d_M_dyeNow_34 : Dc prog_14_method_79_code 34 (.iadd) 1 35 := ⟨by decide +kernel, rfl⟩
theorem d_M_dyeNow_35 : Dc prog_14_method_79_code 35 (.iload_n 2) 1 36 := ⟨by decide +kernel, rfl⟩
theorem d_M_dyeNow_36 : Dc prog_14_method_79_code 36 (.invokevirtual 452) 3 39 := ⟨by decide +kernel, rfl⟩
theorem d_M_dyeNow_39 : Dc prog_14_method_79_code 39 (.ireturn) 1 40 := ⟨by decide +kernel, rfl⟩
theorem d_M_edgeNow_0 : Dc prog_14_method_72_code 0 (.iload_n 1) 1 1 := ⟨by decide +kernel, rfl⟩
theorem d_M_edgeNow_1 : Dc prog_14_method_72_code 1 (.iload_n 2) 1 2 := ⟨by decide +kernel, rfl⟩
theorem d_M_edgeNow_2 : Dj prog_14_method_72_code 2 (.if_icmp .ne 5) 5 5 7 := ⟨by decide +kernel, rfl, rfl⟩
theorem d_M_edgeNow_5 : Dc prog_14_method_72_code 5 (.iconst (-1)) 1 6 := ⟨by decide +kernel, rfl⟩
theorem d_M_edgeNow_6 : Dc prog_14_method_72_code 6 (.ireturn) 1 7 := ⟨by decide +kernel, rfl⟩
theorem d_M_edgeNow_7 : Dc prog_14_method_72_code 7 (.aload_n 0) 1 8 := ⟨by decide +kernel, rfl⟩
theorem d_M_edgeNow_8 : Dc prog_14_method_72_code 8 (.iload_n 1) 1 9 := ⟨by decide +kernel, rfl⟩
theorem d_M_edgeNow_9 : Dc prog_14_method_72_code 9 (.invokevirtual 214) 3 12 := ⟨by decide +kernel, rfl⟩
theorem d_M_edgeNow_12 : Dj prog_14_method_72_code 12 (.ifCond .eq 11) 15 11 23 := ⟨by decide +kernel, rfl, rfl⟩
theorem d_M_edgeNow_15 : Dc prog_14_method_72_code 15 (.aload_n 0) 1 16 := ⟨by decide +kernel, rfl⟩
theorem d_M_edgeNow_16 : Dc prog_14_method_72_code 16 (.iload_n 2) 1 17 := ⟨by decide +kernel, rfl⟩
theorem d_M_edgeNow_17 : Dc prog_14_method_72_code 17 (.invokevirtual 214) 3 20 := ⟨by decide +kernel, rfl⟩
theorem d_M_edgeNow_20 : Dj prog_14_method_72_code 20 (.ifCond .ne 6) 23 6 26 := ⟨by decide +kernel, rfl, rfl⟩
theorem d_M_edgeNow_23 : Dc prog_14_method_72_code 23 (.bipush (-2)) 2 25 := ⟨by decide +kernel, rfl⟩
theorem d_M_edgeNow_25 : Dc prog_14_method_72_code 25 (.ireturn) 1 26 := ⟨by decide +kernel, rfl⟩
theorem d_M_edgeNow_26 : Dc prog_14_method_72_code 26 (.aload_n 0) 1 27 := ⟨by decide +kernel, rfl⟩
theorem d_M_edgeNow_27 : Dc prog_14_method_72_code 27 (.iconst 0) 1 28 := ⟨by decide +kernel, rfl⟩
theorem d_M_edgeNow_28 : Dc prog_14_method_72_code 28 (.invokevirtual 443) 3 31 := ⟨by decide +kernel, rfl⟩
theorem d_M_edgeNow_31 : Dc prog_14_method_72_code 31 (.aload_n 0) 1 32 := ⟨by decide +kernel, rfl⟩
theorem d_M_edgeNow_32 : Dc prog_14_method_72_code 32 (.iload_n 1) 1 33 := ⟨by decide +kernel, rfl⟩
theorem d_M_edgeNow_33 : Dc prog_14_method_72_code 33 (.iload_n 2) 1 34 := ⟨by decide +kernel, rfl⟩
theorem d_M_edgeNow_34 : Dc prog_14_method_72_code 34 (.invokevirtual 249) 3 37 := ⟨by decide +kernel, rfl⟩
theorem d_M_edgeNow_37 : Dc prog_14_method_72_code 37 (.ireturn) 1 38 := ⟨by decide +kernel, rfl⟩
theorem d_M_linkNow_0 : Dc prog_14_method_74_code 0 (.iload_n 1) 1 1 := ⟨by decide +kernel, rfl⟩
theorem d_M_linkNow_1 : Dc prog_14_method_74_code 1 (.iload_n 2) 1 2 := ⟨by decide +kernel, rfl⟩
theorem d_M_linkNow_2 : Dj prog_14_method_74_code 2 (.if_icmp .ne 5) 5 5 7 := ⟨by decide +kernel, rfl, rfl⟩
theorem d_M_linkNow_5 : Dc prog_14_method_74_code 5 (.iconst (-1)) 1 6 := ⟨by decide +kernel, rfl⟩
theorem d_M_linkNow_6 : Dc prog_14_method_74_code 6 (.ireturn) 1 7 := ⟨by decide +kernel, rfl⟩
theorem d_M_linkNow_7 : Dc prog_14_method_74_code 7 (.aload_n 0) 1 8 := ⟨by decide +kernel, rfl⟩
theorem d_M_linkNow_8 : Dc prog_14_method_74_code 8 (.iload_n 1) 1 9 := ⟨by decide +kernel, rfl⟩
theorem d_M_linkNow_9 : Dc prog_14_method_74_code 9 (.invokevirtual 221) 3 12 := ⟨by decide +kernel, rfl⟩
theorem d_M_linkNow_12 : Dj prog_14_method_74_code 12 (.ifCond .eq 11) 15 11 23 := ⟨by decide +kernel, rfl, rfl⟩
theorem d_M_linkNow_15 : Dc prog_14_method_74_code 15 (.aload_n 0) 1 16 := ⟨by decide +kernel, rfl⟩
theorem d_M_linkNow_16 : Dc prog_14_method_74_code 16 (.iload_n 2) 1 17 := ⟨by decide +kernel, rfl⟩
theorem d_M_linkNow_17 : Dc prog_14_method_74_code 17 (.invokevirtual 221) 3 20 := ⟨by decide +kernel, rfl⟩
theorem d_M_linkNow_20 : Dj prog_14_method_74_code 20 (.ifCond .ne 6) 23 6 26 := ⟨by decide +kernel, rfl, rfl⟩
theorem d_M_linkNow_23 : Dc prog_14_method_74_code 23 (.bipush (-2)) 2 25 := ⟨by decide +kernel, rfl⟩
theorem d_M_linkNow_25 : Dc prog_14_method_74_code 25 (.ireturn) 1 26 := ⟨by decide +kernel, rfl⟩
theorem d_M_linkNow_26 : Dc prog_14_method_74_code 26 (.aload_n 0) 1 27 := ⟨by decide +kernel, rfl⟩
theorem d_M_linkNow_27 : Dc prog_14_method_74_code 27 (.iconst 1) 1 28 := ⟨by decide +kernel, rfl⟩
theorem d_M_linkNow_28 : Dc prog_14_method_74_code 28 (.invokevirtual 443) 3 31 := ⟨by decide +kernel, rfl⟩
theorem d_M_linkNow_31 : Dc prog_14_method_74_code 31 (.aload_n 0) 1 32 := ⟨by decide +kernel, rfl⟩
theorem d_M_linkNow_32 : Dc prog_14_method_74_code 32 (.getfield 13) 3 35 := ⟨by decide +kernel, rfl⟩
theorem d_M_linkNow_35 : Dc prog_14_method_74_code 35 (.bipush 26) 2 37 := ⟨by decide +kernel, rfl⟩
theorem d_M_linkNow_37 : Dc prog_14_method_74_code 37 (.iload_n 1) 1 38 := ⟨by decide +kernel, rfl⟩
theorem d_M_linkNow_38 : Dc prog_14_method_74_code 38 (.iadd) 1 39 := ⟨by decide +kernel, rfl⟩
theorem d_M_linkNow_39 : Dc prog_14_method_74_code 39 (.dup2) 1 40 := ⟨by decide +kernel, rfl⟩
theorem d_M_linkNow_40 : Dc prog_14_method_74_code 40 (.iaload) 1 41 := ⟨by decide +kernel, rfl⟩
theorem d_M_linkNow_41 : Dc prog_14_method_74_code 41 (.iconst 1) 1 42 := ⟨by decide +kernel, rfl⟩
theorem d_M_linkNow_42 : Dc prog_14_method_74_code 42 (.iload_n 2) 1 43 := ⟨by decide +kernel, rfl⟩
theorem d_M_linkNow_43 : Dc prog_14_method_74_code 43 (.ishl) 1 44 := ⟨by decide +kernel, rfl⟩
theorem d_M_linkNow_44 : Dc prog_14_method_74_code 44 (.ixor) 1 45 := ⟨by decide +kernel, rfl⟩
theorem d_M_linkNow_45 : Dc prog_14_method_74_code 45 (.iastore) 1 46 := ⟨by decide +kernel, rfl⟩
theorem d_M_linkNow_46 : Dc prog_14_method_74_code 46 (.aload_n 0) 1 47 := ⟨by decide +kernel, rfl⟩
theorem d_M_linkNow_47 : Dc prog_14_method_74_code 47 (.getfield 13) 3 50 := ⟨by decide +kernel, rfl⟩
theorem d_M_linkNow_50 : Dc prog_14_method_74_code 50 (.bipush 26) 2 52 := ⟨by decide +kernel, rfl⟩
theorem d_M_linkNow_52 : Dc prog_14_method_74_code 52 (.iload_n 2) 1 53 := ⟨by decide +kernel, rfl⟩
theorem d_M_linkNow_53 : Dc prog_14_method_74_code 53 (.iadd) 1 54 := ⟨by decide +kernel, rfl⟩
theorem d_M_linkNow_54 : Dc prog_14_method_74_code 54 (.dup2) 1 55 := ⟨by decide +kernel, rfl⟩
theorem d_M_linkNow_55 : Dc prog_14_method_74_code 55 (.iaload) 1 56 := ⟨by decide +kernel, rfl⟩
theorem d_M_linkNow_56 : Dc prog_14_method_74_code 56 (.iconst 1) 1 57 := ⟨by decide +kernel, rfl⟩
theorem d_M_linkNow_57 : Dc prog_14_method_74_code 57 (.iload_n 1) 1 58 := ⟨by decide +kernel, rfl⟩
theorem d_M_linkNow_58 : Dc prog_14_method_74_code 58 (.ishl) 1 59 := ⟨by decide +kernel, rfl⟩
theorem d_M_linkNow_59 : Dc prog_14_method_74_code 59 (.ixor) 1 60 := ⟨by decide +kernel, rfl⟩
theorem d_M_linkNow_60 : Dc prog_14_method_74_code 60 (.iastore) 1 61 := ⟨by decide +kernel, rfl⟩
theorem d_M_linkNow_61 : Dc prog_14_method_74_code 61 (.aload_n 0) 1 62 := ⟨by decide +kernel, rfl⟩
theorem d_M_linkNow_62 : Dc prog_14_method_74_code 62 (.getfield 13) 3 65 := ⟨by decide +kernel, rfl⟩
theorem d_M_linkNow_65 : Dc prog_14_method_74_code 65 (.bipush 26) 2 67 := ⟨by decide +kernel, rfl⟩
theorem d_M_linkNow_67 : Dc prog_14_method_74_code 67 (.iload_n 1) 1 68 := ⟨by decide +kernel, rfl⟩
theorem d_M_linkNow_68 : Dc prog_14_method_74_code 68 (.iadd) 1 69 := ⟨by decide +kernel, rfl⟩
theorem d_M_linkNow_69 : Dc prog_14_method_74_code 69 (.iaload) 1 70 := ⟨by decide +kernel, rfl⟩
theorem d_M_linkNow_70 : Dc prog_14_method_74_code 70 (.iload_n 2) 1 71 := ⟨by decide +kernel, rfl⟩
theorem d_M_linkNow_71 : Dc prog_14_method_74_code 71 (.ishr) 1 72 := ⟨by decide +kernel, rfl⟩
theorem d_M_linkNow_72 : Dc prog_14_method_74_code 72 (.iconst 1) 1 73 := ⟨by decide +kernel, rfl⟩
theorem d_M_linkNow_73 : Dc prog_14_method_74_code 73 (.iand) 1 74 := ⟨by decide +kernel, rfl⟩
theorem d_M_linkNow_74 : Dc prog_14_method_74_code 74 (.ireturn) 1 75 := ⟨by decide +kernel, rfl⟩
theorem d_M_paintNow_0 : Dc prog_14_method_77_code 0 (.iload_n 2) 1 1 := ⟨by decide +kernel, rfl⟩
theorem d_M_paintNow_1 : Dc prog_14_method_77_code 1 (.i2l) 1 2 := ⟨by decide +kernel, rfl⟩
theorem d_M_paintNow_2 : Dc prog_14_method_77_code 2 (.lconst 0) 1 3 := ⟨by decide +kernel, rfl⟩
theorem d_M_paintNow_3 : Dc prog_14_method_77_code 3 (.ldc2_w 210) 3 6 := ⟨by decide +kernel, rfl⟩
theorem d_M_paintNow_6 : Dc prog_14_method_77_code 6 (.invokestatic 190) 3 9 := ⟨by decide +kernel, rfl⟩
theorem d_M_paintNow_9 : Dj prog_14_method_77_code 9 (.ifCond .ne 7) 12 7 16 := ⟨by decide +kernel, rfl, rfl⟩
theorem d_M_paintNow_12 : Dc prog_14_method_77_code 12 (.iconst (-1)) 1 13 := ⟨by decide +kernel, rfl⟩
theorem d_M_paintNow_13 : Dj prog_14_method_77_code 13 (.goto 26) 16 26 39 := ⟨by decide +kernel, rfl, rfl⟩
theorem d_M_paintNow_16 : Dc prog_14_method_77_code 16 (.aload_n 0) 1 17 := ⟨by decide +kernel, rfl⟩
theorem d_M_paintNow_17 : Dc prog_14_method_77_code 17 (.iload_n 1) 1 18 := ⟨by decide +kernel, rfl⟩
theorem d_M_paintNow_18 : Dc prog_14_method_77_code 18 (.invokevirtual 214) 3 21 := ⟨by decide +kernel, rfl⟩
theorem d_M_paintNow_21 : Dj prog_14_method_77_code 21 (.ifCond .ne 8) 24 8 29 := ⟨by decide +kernel, rfl, rfl⟩
theorem d_M_paintNow_24 : Dc prog_14_method_77_code 24 (.bipush (-2)) 2 26 := ⟨by decide +kernel, rfl⟩
theorem d_M_paintNow_26 : Dj prog_14_method_77_code 26 (.goto 13) 29 13 39 := ⟨by decide +kernel, rfl, rfl⟩
theorem d_M_paintNow_29 : Dc prog_14_method_77_code 29 (.aload_n 0) 1 30 := ⟨by decide +kernel, rfl⟩
theorem d_M_paintNow_30 : Dc prog_14_method_77_code 30 (.iconst 2) 1 31 := ⟨by decide +kernel, rfl⟩
theorem d_M_paintNow_31 : Dc prog_14_method_77_code 31 (.bipush 9) 2 33 := ⟨by decide +kernel, rfl⟩
theorem d_M_paintNow_33 : Dc prog_14_method_77_code 33 (.iload_n 1) 1 34 := ⟨by decide +kernel, rfl⟩
theorem d_M_paintNow_34 : Dc prog_14_method_77_code 34 (.iadd) 1 35 := ⟨by decide +kernel, rfl⟩
theorem d_M_paintNow_35 : Dc prog_14_method_77_code 35 (.iload_n 2) 1 36 := ⟨by decide +kernel, rfl⟩
theorem d_M_paintNow_36 : Dc prog_14_method_77_code 36 (.invokevirtual 452) 3 39 := ⟨by decide +kernel, rfl⟩
theorem d_M_paintNow_39 : Dc prog_14_method_77_code 39 (.ireturn) 1 40 := ⟨by decide +kernel, rfl⟩
theorem ml_M_249 : Cond.methodLink "SubgraphDeskModel" 249 m_M_toggleEdge.1 ∈ lw_gd := gd 1809 (by decide +kernel) rfl
theorem ml_M_443 : Cond.methodLink "SubgraphDeskModel" 443 m_M_remember.1 ∈ lw_gd := gd 1968 (by decide +kernel) rfl
theorem ml_M_452 : Cond.methodLink "SubgraphDeskModel" 452 m_M_dyeAt.1 ∈ lw_gd := gd 1992 (by decide +kernel) rfl
theorem aEdge_1 {x y : Int32} {g : GC} {u : List (Nat × Snap)} (h : x = y) : aEdge x y g u = (-(nI 1), g, u) := by unfold aEdge; exact if_pos h
theorem aEdge_2 {x y : Int32} {g : GC} {u : List (Nat × Snap)} (h : ¬ x = y) (h2 : ¬ (inN x (gN g) ∧ inN y (gN g))) : aEdge x y g u = (-(nI 2), g, u) := by unfold aEdge; exact (if_neg h).trans (if_pos h2)
theorem aEdge_ok {x y : Int32} {g : GC} {u : List (Nat × Snap)} (h : ¬ x = y) (h2 : inN x (gN g) ∧ inN y (gN g)) : aEdge x y g u = (b2i (codeOf (tn x) (tn y) ∉ gE g), gJoin g (tn x) (tn y), pushU u (0, snapOf g)) := by unfold aEdge; exact (if_neg h).trans (if_neg (not_not_intro h2))
theorem aLink_1 {x y : Int32} {g : GC} {u : List (Nat × Snap)} (h : x = y) : aLink x y g u = (-(nI 1), g, u) := by unfold aLink; exact if_pos h
theorem aLink_2 {x y : Int32} {g : GC} {u : List (Nat × Snap)} (h : ¬ x = y) (h2 : ¬ (inN x (gV g) ∧ inN y (gV g))) : aLink x y g u = (-(nI 2), g, u) := by unfold aLink; exact (if_neg h).trans (if_pos h2)
theorem aLink_ok {x y : Int32} {g : GC} {u : List (Nat × Snap)} (h : ¬ x = y) (h2 : inN x (gV g) ∧ inN y (gV g)) : aLink x y g u = (b2i ((gK (gLink g (tn x) (tn y)) (tn x)).testBit (tn y) = true), gLink g (tn x) (tn y), pushU u (1, snapOf g)) := by unfold aLink; exact (if_neg h).trans (if_neg (not_not_intro h2))
theorem aPaint_1 {x y : Int32} {g : GC} {u : List (Nat × Snap)} (h : ¬ inN y 6) : aPaint x y g u = (-(nI 1), g, u) := by unfold aPaint; exact if_pos h
theorem aPaint_2 {x y : Int32} {g : GC} {u : List (Nat × Snap)} (h : inN y 6) (h2 : ¬ inN x (gN g)) : aPaint x y g u = (-(nI 2), g, u) := by unfold aPaint; exact (if_neg (not_not_intro h)).trans (if_pos h2)
theorem aPaint_3 {x y : Int32} {g : GC} {u : List (Nat × Snap)} (h : inN y 6) (h2 : inN x (gN g)) (h3 : gC g (tn x) = tn y) : aPaint x y g u = (-(nI 3), g, u) := by unfold aPaint; exact (if_neg (not_not_intro h)).trans ((if_neg (not_not_intro h2)).trans (if_pos h3))
theorem aPaint_ok {x y : Int32} {g : GC} {u : List (Nat × Snap)} (h : inN y 6) (h2 : inN x (gN g)) (h3 : ¬ gC g (tn x) = tn y) : aPaint x y g u = (nI (gC g (tn x)), gPaint g (tn x) (tn y), pushU u (2, snapOf g)) := by unfold aPaint; exact (if_neg (not_not_intro h)).trans ((if_neg (not_not_intro h2)).trans (if_neg h3))
theorem aDye_1 {x y : Int32} {g : GC} {u : List (Nat × Snap)} (h : ¬ inN y 7) : aDye x y g u = (-(nI 1), g, u) := by unfold aDye; exact if_pos h
theorem aDye_2 {x y : Int32} {g : GC} {u : List (Nat × Snap)} (h : inN y 7) (h2 : ¬ inN x (gV g)) : aDye x y g u = (-(nI 2), g, u) := by unfold aDye; exact (if_neg (not_not_intro h)).trans (if_pos h2)
theorem aDye_3 {x y : Int32} {g : GC} {u : List (Nat × Snap)} (h : inN y 7) (h2 : inN x (gV g)) (h3 : gY g (tn x) = tn y) : aDye x y g u = (-(nI 3), g, u) := by unfold aDye; exact (if_neg (not_not_intro h)).trans ((if_neg (not_not_intro h2)).trans (if_pos h3))
theorem aDye_ok {x y : Int32} {g : GC} {u : List (Nat × Snap)} (h : inN y 7) (h2 : inN x (gV g)) (h3 : ¬ gY g (tn x) = tn y) : aDye x y g u = (nI (gY g (tn x)), gDye g (tn x) (tn y), pushU u (3, snapOf g)) := by unfold aDye; exact (if_neg (not_not_intro h)).trans ((if_neg (not_not_intro h2)).trans (if_neg h3))
section
variable {f f2 : Nat → Int32} {g : GC}
theorem MRow.join {a b : Nat} (h : MRow f g) (hW : WG g) (e : ∀ i, i < 31 ∨ 98 ≤ i → f2 i = f i) (he : MEs f2 (tog (gE g) (codeOf a b))) : MRow f2 (gJoin g a b) := by
  have hn := hW.n
  have hv := hW.v
  refine ⟨by rw [e _ (by omega)]; exact h.n, by rw [e _ (by omega)]; exact h.v, by rw [e _ (by omega)]; exact h.s, by rw [e _ (by omega)]; exact h.l, by rw [e _ (by omega)]; exact h.fo, fun i hi => ?_, fun i hi => ?_, fun v hv2 => ?_, fun v hv2 => ?_, he, fun k q hq => ?_⟩
  · rw [e _ (by omega)]; exact h.t i hi
  · have hi2 : i < gN g := hi
    rw [e _ (by omega)]; exact h.c i hi2
  · have hv3 : v < gV g := hv2
    rw [e _ (by omega)]; exact h.y v hv3
  · have hv3 : v < gV g := hv2
    rw [e _ (by omega)]; exact h.k v hv3
  · rw [e _ (by omega), e _ (by omega)]; exact h.sn k q hq
theorem WG.join {a b : Nat} (h : WG g) (ha : a < gN g) (hb : b < gN g) (hab : a ≠ b) : WG (gJoin g a b) :=
  ⟨h.n, h.c, tog_nodup h.ed, tog_ok h.eo (code_ok h.n ha hb hab), h.v, h.y, h.k, h.ks, h.ki, h.sl, h.so, h.t, h.ll, h.fo⟩
theorem tb_x (x k m : Nat) : (x ^^^ 1 <<< k).testBit m = (x.testBit m ^^ decide (k = m)) := by rw [Nat.testBit_xor, tb_one]
theorem MRow.link {a b : Nat} (h : MRow f g) (hW : WG g) (ha : a < gV g) (hb : b < gV g) (hab : a ≠ b) : MRow (upd (upd f (26 + a) (nI (gK g a ^^^ 1 <<< b))) (26 + b) (nI (gK g b ^^^ 1 <<< a))) (gLink g a b) := by
  have hn := hW.n
  have hv := hW.v
  have hne : ∀ i, i ≠ 26 + a → i ≠ 26 + b → upd (upd f (26 + a) (nI (gK g a ^^^ 1 <<< b))) (26 + b) (nI (gK g b ^^^ 1 <<< a)) i = f i := fun i h1 h2 => by
    rw [upd_eq, upd_eq, if_neg h2, if_neg h1]
  refine ⟨by rw [hne _ (by omega) (by omega)]; exact h.n, by rw [hne _ (by omega) (by omega)]; exact h.v, by rw [hne _ (by omega) (by omega)]; exact h.s, by rw [hne _ (by omega) (by omega)]; exact h.l, by rw [hne _ (by omega) (by omega)]; exact h.fo, fun i hi => ?_, fun i hi => ?_, fun v hv2 => ?_, fun v hv2 => ?_, h.e.congr hW.el (fun i h1 h2 => hne i (by omega) (by omega)), fun k q hq => ?_⟩
  · rw [hne _ (by omega) (by omega)]; exact h.t i hi
  · have hi2 : i < gN g := hi
    rw [hne _ (by omega) (by omega)]; exact h.c i hi2
  · have hv3 : v < gV g := hv2
    rw [hne _ (by omega) (by omega)]; exact h.y v hv3
  · show _ = nI (if v = a then gK g a ^^^ 1 <<< b else if v = b then gK g b ^^^ 1 <<< a else gK g v)
    have hv3 : v < gV g := hv2
    by_cases h1 : v = a
    · rw [if_pos h1, h1, upd_eq, upd_eq, if_neg (by omega), if_pos rfl]
    · by_cases h2 : v = b
      · rw [if_neg h1, if_pos h2, h2, upd_eq, if_pos rfl]
      · rw [if_neg h1, if_neg h2, hne _ (by omega) (by omega)]; exact h.k v hv3
  · rw [hne _ (by omega) (by omega), hne _ (by omega) (by omega)]; exact h.sn k q hq
theorem WG.link {a b : Nat} (h : WG g) (ha : a < gV g) (hb : b < gV g) (hab : a ≠ b) : WG (gLink g a b) := by
  have hv := h.v
  have key : ∀ v u, v < gV g → u < gV g → (gK (gLink g a b) v).testBit u = ((gK g v).testBit u ^^ decide ((v = a ∧ u = b) ∨ (v = b ∧ u = a))) := by
    intro v u hv2 hu
    show (if v = a then gK g a ^^^ 1 <<< b else if v = b then gK g b ^^^ 1 <<< a else gK g v).testBit u = _
    by_cases h1 : v = a
    · subst h1
      rw [if_pos rfl, tb_x]
      congr 1
      apply decide_eq_decide.mpr
      constructor
      · intro q; exact Or.inl ⟨rfl, q.symm⟩
      · rintro (q | q)
        · exact q.2.symm
        · exact absurd q.1 hab
    · by_cases h2 : v = b
      · subst h2
        rw [if_neg h1, if_pos rfl, tb_x]
        congr 1
        apply decide_eq_decide.mpr
        constructor
        · intro q; exact Or.inr ⟨rfl, q.symm⟩
        · rintro (q | q)
          · exact absurd q.1 h1
          · exact q.2.symm
      · rw [if_neg h1, if_neg h2]
        have : decide ((v = a ∧ u = b) ∨ (v = b ∧ u = a)) = false := by simp [h1, h2]
        rw [this, Bool.xor_false]
  refine ⟨h.n, h.c, h.ed, h.eo, h.v, h.y, fun v hv2 => ?_, fun v u hv2 hu => ?_, fun v hv2 => ?_, h.sl, h.so, h.t, h.ll, h.fo⟩
  · show (if v = a then gK g a ^^^ 1 <<< b else if v = b then gK g b ^^^ 1 <<< a else gK g v) < 2 ^ gV g
    have hv3 : v < gV g := hv2
    split
    · exact Nat.xor_lt_two_pow (h.k a ha) (shl_lt hb)
    · split
      · exact Nat.xor_lt_two_pow (h.k b hb) (shl_lt ha)
      · exact h.k v hv3
  · rw [key v u hv2 hu, key u v hu hv2, h.ks v u hv2 hu]
    congr 1
    apply decide_eq_decide.mpr
    constructor <;> rintro (q | q) <;> first | exact Or.inr ⟨q.2, q.1⟩ | exact Or.inl ⟨q.2, q.1⟩
  · rw [key v v hv2 hv2, h.ki v hv2]
    have : decide ((v = a ∧ v = b) ∨ (v = b ∧ v = a)) = false := by
      apply decide_eq_false
      rintro (q | q)
      · exact hab (q.1.symm.trans q.2)
      · exact hab (q.2.symm.trans q.1)
    rw [this]; rfl
theorem MRow.paint {n c : Nat} (h : MRow f g) (hW : WG g) (hn2 : n < gN g) : MRow (upd f (9 + n) (nI c)) (gPaint g n c) := by
  have hn := hW.n
  have hv := hW.v
  have hne : ∀ i, i ≠ 9 + n → upd f (9 + n) (nI c) i = f i := fun i h1 => by rw [upd_eq, if_neg h1]
  refine ⟨by rw [hne _ (by omega)]; exact h.n, by rw [hne _ (by omega)]; exact h.v, by rw [hne _ (by omega)]; exact h.s, by rw [hne _ (by omega)]; exact h.l, by rw [hne _ (by omega)]; exact h.fo, fun i hi => ?_, fun i hi => ?_, fun v hv2 => ?_, fun v hv2 => ?_, h.e.congr hW.el (fun i h1 h2 => hne i (by omega)), fun k q hq => ?_⟩
  · rw [hne _ (by omega)]; exact h.t i hi
  · show _ = nI (if i = n then c else gC g i)
    have hi2 : i < gN g := hi
    by_cases h1 : i = n
    · rw [if_pos h1, h1, upd_eq, if_pos rfl]
    · rw [if_neg h1, hne _ (by omega)]; exact h.c i hi2
  · rw [hne _ (by omega)]; exact h.y v hv2
  · rw [hne _ (by omega)]; exact h.k v hv2
  · rw [hne _ (by omega), hne _ (by omega)]; exact h.sn k q hq
theorem WG.paint {n c : Nat} (h : WG g) (hc : c < 6) : WG (gPaint g n c) := ⟨h.n, fun i hi => by show (if i = n then c else gC g i) < 6; split; exact hc; exact h.c i hi, h.ed, h.eo, h.v, h.y, h.k, h.ks, h.ki, h.sl, h.so, h.t, h.ll, h.fo⟩
theorem MRow.dye {n c : Nat} (h : MRow f g) (hW : WG g) (hn2 : n < gV g) : MRow (upd f (21 + n) (nI c)) (gDye g n c) := by
  have hn := hW.n
  have hv := hW.v
  have hne : ∀ i, i ≠ 21 + n → upd f (21 + n) (nI c) i = f i := fun i h1 => by rw [upd_eq, if_neg h1]
  refine ⟨by rw [hne _ (by omega)]; exact h.n, by rw [hne _ (by omega)]; exact h.v, by rw [hne _ (by omega)]; exact h.s, by rw [hne _ (by omega)]; exact h.l, by rw [hne _ (by omega)]; exact h.fo, fun i hi => ?_, fun i hi => ?_, fun v hv2 => ?_, fun v hv2 => ?_, h.e.congr hW.el (fun i h1 h2 => hne i (by omega)), fun k q hq => ?_⟩
  · rw [hne _ (by omega)]; exact h.t i hi
  · have hi2 : i < gN g := hi
    rw [hne _ (by omega)]; exact h.c i hi2
  · show _ = nI (if v = n then c else gY g v)
    have hv3 : v < gV g := hv2
    by_cases h1 : v = n
    · rw [if_pos h1, h1, upd_eq, if_pos rfl]
    · rw [if_neg h1, hne _ (by omega)]; exact h.y v hv3
  · rw [hne _ (by omega)]; exact h.k v hv2
  · rw [hne _ (by omega), hne _ (by omega)]; exact h.sn k q hq
theorem WG.dye {n c : Nat} (h : WG g) (hc : c ≤ 6) : WG (gDye g n c) := ⟨h.n, h.c, h.ed, h.eo, h.v, fun i hi => by show (if i = n then c else gY g i) ≤ 6; split; exact hc; exact h.y i hi, h.k, h.ks, h.ki, h.sl, h.so, h.t, h.ll, h.fo⟩
end
theorem bit_b2i (x k : Nat) : nI (x >>> k &&& 1) = b2i (x.testBit k = true) := by
  by_cases h : x.testBit k = true
  · rw [b2i_t h, (tb1 x k).mpr h]; rfl
  · rw [b2i_f h, (tb0 x k).mpr (by simpa using h)]; rfl
theorem c_M_edgeNow {E : EV} {w : Mem} {x y : Int32} {g : GC} {u : List (Nat × Snap)} (hG : MGU w g u) : T E m_M_edgeNow 3 0 0 [.ref 89, .int x, .int y] w (fun r w2 => r = some (.int (aEdge x y g u).1) ∧ MGU w2 (aEdge x y g u).2.1 (aEdge x y g u).2.2 ∧ FrA w w2) := by
  refine T_of (L := [.ref 89, .int x, .int y]) cf_M_edgeNow rfl (Nat.le_of_ble_eq_true rfl) (fun X hX hF => ?_)
  obtain ⟨hR, hL, hW, hU⟩ := id hG
  have hn := hW.n
  have hv := hW.v
  have he := hW.el
  refine g_iload1 hX d_M_edgeNow_0 ?_
  refine g_iload2 hX d_M_edgeNow_1 ?_
  refine g_icmp_ne hX d_M_edgeNow_2 (fun e2 => ?_) (fun e2 => ?_)
  · refine g_aload0 hX d_M_edgeNow_7 ?_
    refine g_iload1 hX d_M_edgeNow_8 ?_
    refine g_callV (As := [_]) hX hF.1 d_M_edgeNow_9 ml_M_214 cf_M_isNode cv_M_isNode rfl rfl (c_M_isNode hR hW) (rcv_obj hX (lv_89 _) rfl rfl) (by omega) (by omega) (by omega) (Nat.le_of_ble_eq_true rfl) ?_
    refine ret_k ?_
    refine g_ifB_eq hX d_M_edgeNow_12 (fun e12 => ?_) (fun e12 => ?_)
    · refine g_bipush (v := -2) hX d_M_edgeNow_23 rfl ?_
      refine g_iret hX hF d_M_edgeNow_25 (by omega) (by omega) ?_
      rw [aEdge_2 e2 (fun q => by first | exact e12 q.1 | exact e20 q.2)]
      exact ⟨rfl, hG, FrA.rf w⟩
    · refine g_aload0 hX d_M_edgeNow_15 ?_
      refine g_iload2 hX d_M_edgeNow_16 ?_
      refine g_callV (As := [_]) hX hF.1 d_M_edgeNow_17 ml_M_214 cf_M_isNode cv_M_isNode rfl rfl (c_M_isNode hR hW) (rcv_obj hX (lv_89 _) rfl rfl) (by omega) (by omega) (by omega) (Nat.le_of_ble_eq_true rfl) ?_
      refine ret_k ?_
      refine g_ifB_ne hX d_M_edgeNow_20 (fun e20 => ?_) (fun e20 => ?_)
      · obtain ⟨a, ha, rfl, hta⟩ := inN_of e12 (by omega)
        obtain ⟨b, hb, rfl, htb⟩ := inN_of e20 (by omega)
        have hab : a ≠ b := fun q => e2 (by rw [q])
        refine g_aload0 hX d_M_edgeNow_26 ?_
        refine g_iconst (v := nI 0) hX d_M_edgeNow_27 rfl ?_
        refine g_callV (As := [_]) hX hF.1 d_M_edgeNow_28 ml_M_443 cf_M_remember cv_M_remember rfl rfl (c_M_remember hR hW hU (j := 0) (by decide)) (rcv_obj hX (lv_89 _) rfl rfl) (by omega) (by omega) (by omega) (Nat.le_of_ble_eq_true rfl) ?_
        rintro _ w1 ⟨rfl, hU1, h91, hf1⟩
        have hR1 : MRow (rI w1 91) g := by rw [h91]; exact hR
        show G0 _ _ _ _ _ _ _ _
        refine g_aload0 hX d_M_edgeNow_31 ?_
        refine g_iload1 hX d_M_edgeNow_32 ?_
        refine g_iload2 hX d_M_edgeNow_33 ?_
        refine g_callV (As := [_, _]) hX hF.1 d_M_edgeNow_34 ml_M_249 cf_M_toggleEdge cv_M_toggleEdge rfl rfl (c_M_toggleEdge hR1 hW ha hb hab) (rcv_obj hX (lv_89 _) rfl rfl) (by omega) (by omega) (by omega) (Nat.le_of_ble_eq_true rfl) ?_
        rintro _ w2 ⟨f, rfl, hf2, hf3, rfl⟩
        show G0 _ _ _ _ _ _ _ _
        refine g_iret hX hF d_M_edgeNow_37 (by omega) (by omega) ?_
        rw [aEdge_ok e2 ⟨e12, e20⟩, hta, htb]
        exact ⟨rfl, ⟨hR1.join hW hf2 hf3, (show MLaws (rI w1 91) _ by rw [h91]; exact hL).congr (fun i hi => hf2 i (by omega)), hW.join ha hb hab, hU1⟩, hf1.A (by decide)⟩
      · refine g_bipush (v := -2) hX d_M_edgeNow_23 rfl ?_
        refine g_iret hX hF d_M_edgeNow_25 (by omega) (by omega) ?_
        rw [aEdge_2 e2 (fun q => by first | exact e12 q.1 | exact e20 q.2)]
        exact ⟨rfl, hG, FrA.rf w⟩
  · refine g_iconst (v := -1) hX d_M_edgeNow_5 rfl ?_
    refine g_iret hX hF d_M_edgeNow_6 (by omega) (by omega) ?_
    rw [aEdge_1 e2]
    exact ⟨rfl, hG, FrA.rf w⟩
theorem c_M_linkNow {E : EV} {w : Mem} {x y : Int32} {g : GC} {u : List (Nat × Snap)} (hG : MGU w g u) : T E m_M_linkNow 3 0 0 [.ref 89, .int x, .int y] w (fun r w2 => r = some (.int (aLink x y g u).1) ∧ MGU w2 (aLink x y g u).2.1 (aLink x y g u).2.2 ∧ FrA w w2) := by
  refine T_of (L := [.ref 89, .int x, .int y]) cf_M_linkNow rfl (Nat.le_of_ble_eq_true rfl) (fun X hX hF => ?_)
  obtain ⟨hR, hL, hW, hU⟩ := id hG
  have hn := hW.n
  have hv := hW.v
  have he := hW.el
  refine g_iload1 hX d_M_linkNow_0 ?_
  refine g_iload2 hX d_M_linkNow_1 ?_
  refine g_icmp_ne hX d_M_linkNow_2 (fun e2 => ?_) (fun e2 => ?_)
  · refine g_aload0 hX d_M_linkNow_7 ?_
    refine g_iload1 hX d_M_linkNow_8 ?_
    refine g_callV (As := [_]) hX hF.1 d_M_linkNow_9 ml_M_221 cf_M_isVertex cv_M_isVertex rfl rfl (c_M_isVertex hR hW) (rcv_obj hX (lv_89 _) rfl rfl) (by omega) (by omega) (by omega) (Nat.le_of_ble_eq_true rfl) ?_
    refine ret_k ?_
    refine g_ifB_eq hX d_M_linkNow_12 (fun e12 => ?_) (fun e12 => ?_)
    · refine g_bipush (v := -2) hX d_M_linkNow_23 rfl ?_
      refine g_iret hX hF d_M_linkNow_25 (by omega) (by omega) ?_
      rw [aLink_2 e2 (fun q => by first | exact e12 q.1 | exact e20 q.2)]
      exact ⟨rfl, hG, FrA.rf w⟩
    · refine g_aload0 hX d_M_linkNow_15 ?_
      refine g_iload2 hX d_M_linkNow_16 ?_
      refine g_callV (As := [_]) hX hF.1 d_M_linkNow_17 ml_M_221 cf_M_isVertex cv_M_isVertex rfl rfl (c_M_isVertex hR hW) (rcv_obj hX (lv_89 _) rfl rfl) (by omega) (by omega) (by omega) (Nat.le_of_ble_eq_true rfl) ?_
      refine ret_k ?_
      refine g_ifB_ne hX d_M_linkNow_20 (fun e20 => ?_) (fun e20 => ?_)
      · obtain ⟨a, ha, rfl, hta⟩ := inN_of e12 (by omega)
        obtain ⟨b, hb, rfl, htb⟩ := inN_of e20 (by omega)
        have hab : a ≠ b := fun q => e2 (by rw [q])
        refine g_aload0 hX d_M_linkNow_26 ?_
        refine g_iconst (v := nI 1) hX d_M_linkNow_27 rfl ?_
        refine g_callV (As := [_]) hX hF.1 d_M_linkNow_28 ml_M_443 cf_M_remember cv_M_remember rfl rfl (c_M_remember hR hW hU (j := 1) (by decide)) (rcv_obj hX (lv_89 _) rfl rfl) (by omega) (by omega) (by omega) (Nat.le_of_ble_eq_true rfl) ?_
        rintro _ w1 ⟨rfl, hU1, h91, hf1⟩
        have hR1 : MRow (rI w1 91) g := by rw [h91]; exact hR
        show G0 _ _ _ _ _ _ _ _
        refine g_aload0 hX d_M_linkNow_31 ?_
        refine g_getF hX d_M_linkNow_32 fl_M_13 (lv_89 _) ?_
        refine g_bipush (v := nI 26) hX d_M_linkNow_35 rfl ?_
        refine g_iload1 hX d_M_linkNow_37 ?_
        refine g_iaddN hX d_M_linkNow_38 ?_
        refine g_dup2 hX d_M_linkNow_39 rfl rfl ?_
        refine g_iald hX d_M_linkNow_40 (lv_91 _) rfl (by omega) ?_
        refine g_topi (hR1.k a ha) ?_
        refine g_iconst (v := nI 1) hX d_M_linkNow_41 rfl ?_
        refine g_iload2 hX d_M_linkNow_42 ?_
        refine g_ishlN hX d_M_linkNow_43 (by omega) ?_
        refine g_ixorN hX d_M_linkNow_44 ?_
        refine g_iast hX d_M_linkNow_45 (lv_91 _) rfl (by omega) ?_
        refine g_aload0 hX d_M_linkNow_46 ?_
        refine g_getF hX d_M_linkNow_47 fl_M_13 (lv_89 _) ?_
        refine g_bipush (v := nI 26) hX d_M_linkNow_50 rfl ?_
        refine g_iload2 hX d_M_linkNow_52 ?_
        refine g_iaddN hX d_M_linkNow_53 ?_
        refine g_dup2 hX d_M_linkNow_54 rfl rfl ?_
        refine g_iald hX d_M_linkNow_55 (lv_91 _) rfl (by omega) ?_
        refine g_topi (show upd (rI w1 91) _ _ (26 + b) = nI (gK g b) by rw [upd_eq, if_neg (by omega)]; exact hR1.k b hb) ?_
        refine g_iconst (v := nI 1) hX d_M_linkNow_56 rfl ?_
        refine g_iload1 hX d_M_linkNow_57 ?_
        refine g_ishlN hX d_M_linkNow_58 (by omega) ?_
        refine g_ixorN hX d_M_linkNow_59 ?_
        refine g_iast hX d_M_linkNow_60 (lv_91 _) rfl (by omega) ?_
        refine g_aload0 hX d_M_linkNow_61 ?_
        refine g_getF hX d_M_linkNow_62 fl_M_13 (lv_89 _) ?_
        refine g_bipush (v := nI 26) hX d_M_linkNow_65 rfl ?_
        refine g_iload1 hX d_M_linkNow_67 ?_
        refine g_iaddN hX d_M_linkNow_68 ?_
        refine g_iald hX d_M_linkNow_69 (lv_91 _) rfl (by omega) ?_
        refine g_topi (show upd (upd (rI w1 91) _ _) _ _ (26 + a) = nI (gK g a ^^^ 1 <<< b) by rw [upd_eq, upd_eq, if_neg (by omega), if_pos rfl]) ?_
        refine g_iload2 hX d_M_linkNow_70 ?_
        refine g_ishrN hX d_M_linkNow_71 (Nat.lt_of_lt_of_le (Nat.xor_lt_two_pow (Nat.lt_of_lt_of_le (hW.k32 ha) (by decide : 32 ≤ 2 ^ 5)) (shl_lt (show b < 5 by omega))) (by decide)) (by omega) ?_
        refine g_iconst (v := nI 1) hX d_M_linkNow_72 rfl ?_
        refine g_iandC hX d_M_linkNow_73 (fun hm3 => ?_)
        refine g_iret hX hF d_M_linkNow_74 (by omega) (by omega) ?_
        rw [aLink_ok e2 ⟨e12, e20⟩, hta, htb]
        refine ⟨?_, ⟨hR1.link hW ha hb hab, (show MLaws (rI w1 91) _ by rw [h91]; exact hL).congr (fun i hi => by show upd (upd (rI w1 91) _ _) _ _ i = _; rw [upd_eq, upd_eq, if_neg (by omega), if_neg (by omega)]), hW.link ha hb hab, hU1⟩, (hf1.I (by decide)).I (by decide)⟩
        rw [bit_b2i]
        refine congrArg (fun z => some (Value.int z)) (b2i_c ?_)
        show _ ↔ (if a = a then gK g a ^^^ 1 <<< b else if a = b then gK g b ^^^ 1 <<< a else gK g a).testBit b = true
        rw [if_pos rfl]
      · refine g_bipush (v := -2) hX d_M_linkNow_23 rfl ?_
        refine g_iret hX hF d_M_linkNow_25 (by omega) (by omega) ?_
        rw [aLink_2 e2 (fun q => by first | exact e12 q.1 | exact e20 q.2)]
        exact ⟨rfl, hG, FrA.rf w⟩
  · refine g_iconst (v := -1) hX d_M_linkNow_5 rfl ?_
    refine g_iret hX hF d_M_linkNow_6 (by omega) (by omega) ?_
    rw [aLink_1 e2]
    exact ⟨rfl, hG, FrA.rf w⟩
theorem c_M_dyeAt {E : EV} {w : Mem} {a c c0 j : Nat} {g : GC} {u : List (Nat × Snap)} (hG : MGU w g u) (ha : a < 5510) (ha0 : rI w 91 a = nI c0) (hc0 : c0 < 10) (hc : c < 10) (hj : j < 4) : T E m_M_dyeAt 2 0 0 [.ref 89, .int (nI j), .int (nI a), .int (nI c)] w (fun r w2 => (c0 = c → r = some (.int (-(nI 3))) ∧ w2 = w) ∧ (¬ c0 = c → r = some (.int (nI c0)) ∧ ∃ w1, MUndo (rI w1 94) (rI w1 95) (rI w1 89 8) g (pushU u (j, snapOf g)) ∧ rI w1 91 = rI w 91 ∧ FrA w w1 ∧ w2 = sI w1 91 a (nI c))) := by
  refine T_of (L := [.ref 89, .int (nI j), .int (nI a), .int (nI c), un]) cf_M_dyeAt rfl (Nat.le_of_ble_eq_true rfl) (fun X hX hF => ?_)
  obtain ⟨hR, hL, hW, hU⟩ := id hG
  have hn := hW.n
  have hv := hW.v
  have he := hW.el
  refine g_aload0 hX d_M_dyeAt_0 ?_
  refine g_getF hX d_M_dyeAt_1 fl_M_13 (lv_89 _) ?_
  refine g_iload2 hX d_M_dyeAt_4 ?_
  refine g_iald hX d_M_dyeAt_5 (lv_91 _) rfl ha ?_
  refine g_topi ha0 ?_
  refine g_iload3 hX d_M_dyeAt_6 ?_
  refine g_icmpN_ne hX d_M_dyeAt_7 (by omega) (by omega) (fun e7 => ?_) (fun e7 => ?_)
  · refine g_aload0 hX d_M_dyeAt_13 ?_
    refine g_iload1 hX d_M_dyeAt_14 ?_
    refine g_callV (As := [_]) hX hF.1 d_M_dyeAt_15 ml_M_443 cf_M_remember cv_M_remember rfl rfl (c_M_remember hR hW hU hj) (rcv_obj hX (lv_89 _) rfl rfl) (by omega) (by omega) (by omega) (Nat.le_of_ble_eq_true rfl) ?_
    rintro _ w1 ⟨rfl, hU1, h91, hf1⟩
    have hR1 : MRow (rI w1 91) g := by rw [h91]; exact hR
    show G0 _ _ _ _ _ _ _ _
    refine g_aload0 hX d_M_dyeAt_18 ?_
    refine g_getF hX d_M_dyeAt_19 fl_M_13 (lv_89 _) ?_
    refine g_iload2 hX d_M_dyeAt_22 ?_
    refine g_iald hX d_M_dyeAt_23 (lv_91 _) rfl ha ?_
    refine g_topi (show rI w1 91 a = nI c0 by rw [h91]; exact ha0) ?_
    refine g_istore4 hX d_M_dyeAt_24 rfl (by decide) ?_
    refine g_aload0 hX d_M_dyeAt_26 ?_
    refine g_getF hX d_M_dyeAt_27 fl_M_13 (lv_89 _) ?_
    refine g_iload2 hX d_M_dyeAt_30 ?_
    refine g_iload3 hX d_M_dyeAt_31 ?_
    refine g_iast hX d_M_dyeAt_32 (lv_91 _) rfl ha ?_
    refine g_iload4 hX d_M_dyeAt_33 ?_
    refine g_iret hX hF d_M_dyeAt_35 (by omega) (by omega) ?_
    exact ⟨fun q => absurd q e7, fun _ => ⟨rfl, w1, hU1, h91, hf1, rfl⟩⟩
  · refine g_bipush (v := -3) hX d_M_dyeAt_10 rfl ?_
    refine g_iret hX hF d_M_dyeAt_12 (by omega) (by omega) ?_
    exact ⟨fun _ => ⟨rfl, rfl⟩, fun q => absurd e7 q⟩
theorem c_M_paintNow {E : EV} {w : Mem} {x y : Int32} {g : GC} {u : List (Nat × Snap)} (hG : MGU w g u) : T E m_M_paintNow 3 0 0 [.ref 89, .int x, .int y] w (fun r w2 => r = some (.int (aPaint x y g u).1) ∧ MGU w2 (aPaint x y g u).2.1 (aPaint x y g u).2.2 ∧ FrA w w2) := by
  refine T_of (L := [.ref 89, .int x, .int y]) cf_M_paintNow rfl (Nat.le_of_ble_eq_true rfl) (fun X hX hF => ?_)
  obtain ⟨hR, hL, hW, hU⟩ := id hG
  have hn := hW.n
  have hv := hW.v
  have he := hW.el
  refine g_iload2 hX d_M_paintNow_0 ?_
  refine g_i2l hX d_M_paintNow_1 ?_
  refine g_lconst (v := lN 0) hX d_M_paintNow_2 rfl ?_
  refine g_ldc2 (v := lN 5) hX d_M_paintNow_3 k_M_210 rfl ?_
  refine g_callS (As := [_, _, _]) hX hF.1 d_M_paintNow_6 ml_M_190 cf_M_in cs_M_in rfl (c_M_in) (by omega) (by omega) (by omega) (Nat.le_of_ble_eq_true rfl) ?_
  refine ret_k ?_
  refine g_ifB_ne hX d_M_paintNow_9 (fun e9 => ?_) (fun e9 => ?_)
  · have d9 : inN y 6 := (in_le (by decide)).mp e9
    refine g_aload0 hX d_M_paintNow_16 ?_
    refine g_iload1 hX d_M_paintNow_17 ?_
    refine g_callV (As := [_]) hX hF.1 d_M_paintNow_18 ml_M_214 cf_M_isNode cv_M_isNode rfl rfl (c_M_isNode hR hW) (rcv_obj hX (lv_89 _) rfl rfl) (by omega) (by omega) (by omega) (Nat.le_of_ble_eq_true rfl) ?_
    refine ret_k ?_
    refine g_ifB_ne hX d_M_paintNow_21 (fun e21 => ?_) (fun e21 => ?_)
    · obtain ⟨a, ha, rfl, hta⟩ := inN_of e21 (by omega)
      obtain ⟨c, hc, rfl, htc⟩ := inN_of d9 (by decide)
      have hc0 := hW.c a ha
      refine g_aload0 hX d_M_paintNow_29 ?_
      refine g_iconst (v := nI 2) hX d_M_paintNow_30 rfl ?_
      refine g_bipush (v := nI 9) hX d_M_paintNow_31 rfl ?_
      refine g_iload1 hX d_M_paintNow_33 ?_
      refine g_iaddN hX d_M_paintNow_34 ?_
      refine g_iload2 hX d_M_paintNow_35 ?_
      refine g_callV (As := [_, _, _]) hX hF.1 d_M_paintNow_36 ml_M_452 cf_M_dyeAt cv_M_dyeAt rfl rfl (c_M_dyeAt hG (by omega) (hR.c a ha) (by omega) (by omega) (j := 2) (by decide)) (rcv_obj hX (lv_89 _) rfl rfl) (by omega) (by omega) (by omega) (Nat.le_of_ble_eq_true rfl) ?_
      intro r w2 hp
      by_cases hcc : gC g a = c
      · obtain ⟨rfl, rfl⟩ := hp.1 hcc
        show G0 _ _ _ _ _ _ [Value.int (-(nI 3))] _
        refine g_iret hX hF d_M_paintNow_39 (by omega) (by omega) ?_
        rw [aPaint_3 d9 e21 (by rw [hta, htc]; exact hcc)]
        exact ⟨rfl, hG, FrA.rf _⟩
      obtain ⟨rfl, w1, hU1, h91, hf1, rfl⟩ := hp.2 hcc
      have hR1 : MRow (rI w1 91) g := by rw [h91]; exact hR
      show G0 _ _ _ _ _ _ [Value.int (nI (gC g a))] _
      refine g_iret hX hF d_M_paintNow_39 (by omega) (by omega) ?_
      first
        | (rw [aPaint_1 d9]; exact ⟨rfl, hG, FrA.rf w⟩)
        | (rw [aPaint_2 d9 e21]; exact ⟨rfl, hG, FrA.rf w⟩)
        | (rw [aPaint_ok d9 e21 (by rw [hta, htc]; exact hcc), hta, htc]
           exact ⟨rfl, ⟨hR1.paint hW ha, (show MLaws (rI w1 91) _ by rw [h91]; exact hL).congr (fun i hi => by show upd (rI w1 91) _ _ i = _; rw [upd_eq, if_neg (by omega)]), hW.paint (by omega), hU1⟩, hf1.I (by decide)⟩)
    · refine g_bipush (v := -2) hX d_M_paintNow_24 rfl ?_
      refine g_goto hX d_M_paintNow_26 ?_
      refine g_iret hX hF d_M_paintNow_39 (by omega) (by omega) ?_
      first
        | (rw [aPaint_1 d9]; exact ⟨rfl, hG, FrA.rf w⟩)
        | (rw [aPaint_2 d9 e21]; exact ⟨rfl, hG, FrA.rf w⟩)
        | (rw [aPaint_ok d9 e21 (by rw [hta, htc]; exact hcc), hta, htc]
           exact ⟨rfl, ⟨hR1.paint hW ha, (show MLaws (rI w1 91) _ by rw [h91]; exact hL).congr (fun i hi => by show upd (rI w1 91) _ _ i = _; rw [upd_eq, if_neg (by omega)]), hW.paint (by omega), hU1⟩, hf1.I (by decide)⟩)
  · have d9 : ¬ inN y 6 := mt (in_le (by decide)).mpr e9
    refine g_iconst (v := -1) hX d_M_paintNow_12 rfl ?_
    refine g_goto hX d_M_paintNow_13 ?_
    refine g_iret hX hF d_M_paintNow_39 (by omega) (by omega) ?_
    first
      | (rw [aPaint_1 d9]; exact ⟨rfl, hG, FrA.rf w⟩)
      | (rw [aPaint_2 d9 e21]; exact ⟨rfl, hG, FrA.rf w⟩)
      | (rw [aPaint_ok d9 e21 (by rw [hta, htc]; exact hcc), hta, htc]
         exact ⟨rfl, ⟨hR1.paint hW ha, (show MLaws (rI w1 91) _ by rw [h91]; exact hL).congr (fun i hi => by show upd (rI w1 91) _ _ i = _; rw [upd_eq, if_neg (by omega)]), hW.paint (by omega), hU1⟩, hf1.I (by decide)⟩)
theorem c_M_dyeNow {E : EV} {w : Mem} {x y : Int32} {g : GC} {u : List (Nat × Snap)} (hG : MGU w g u) : T E m_M_dyeNow 3 0 0 [.ref 89, .int x, .int y] w (fun r w2 => r = some (.int (aDye x y g u).1) ∧ MGU w2 (aDye x y g u).2.1 (aDye x y g u).2.2 ∧ FrA w w2) := by
  refine T_of (L := [.ref 89, .int x, .int y]) cf_M_dyeNow rfl (Nat.le_of_ble_eq_true rfl) (fun X hX hF => ?_)
  obtain ⟨hR, hL, hW, hU⟩ := id hG
  have hn := hW.n
  have hv := hW.v
  have he := hW.el
  refine g_iload2 hX d_M_dyeNow_0 ?_
  refine g_i2l hX d_M_dyeNow_1 ?_
  refine g_lconst (v := lN 0) hX d_M_dyeNow_2 rfl ?_
  refine g_ldc2 (v := lN 6) hX d_M_dyeNow_3 k_M_212 rfl ?_
  refine g_callS (As := [_, _, _]) hX hF.1 d_M_dyeNow_6 ml_M_190 cf_M_in cs_M_in rfl (c_M_in) (by omega) (by omega) (by omega) (Nat.le_of_ble_eq_true rfl) ?_
  refine ret_k ?_
  refine g_ifB_ne hX d_M_dyeNow_9 (fun e9 => ?_) (fun e9 => ?_)
  · have d9 : inN y 7 := (in_le (by decide)).mp e9
    refine g_aload0 hX d_M_dyeNow_16 ?_
    refine g_iload1 hX d_M_dyeNow_17 ?_
    refine g_callV (As := [_]) hX hF.1 d_M_dyeNow_18 ml_M_221 cf_M_isVertex cv_M_isVertex rfl rfl (c_M_isVertex hR hW) (rcv_obj hX (lv_89 _) rfl rfl) (by omega) (by omega) (by omega) (Nat.le_of_ble_eq_true rfl) ?_
    refine ret_k ?_
    refine g_ifB_ne hX d_M_dyeNow_21 (fun e21 => ?_) (fun e21 => ?_)
    · obtain ⟨a, ha, rfl, hta⟩ := inN_of e21 (by omega)
      obtain ⟨c, hc, rfl, htc⟩ := inN_of d9 (by decide)
      have hc0 := hW.y a ha
      refine g_aload0 hX d_M_dyeNow_29 ?_
      refine g_iconst (v := nI 3) hX d_M_dyeNow_30 rfl ?_
      refine g_bipush (v := nI 21) hX d_M_dyeNow_31 rfl ?_
      refine g_iload1 hX d_M_dyeNow_33 ?_
      refine g_iaddN hX d_M_dyeNow_34 ?_
      refine g_iload2 hX d_M_dyeNow_35 ?_
      refine g_callV (As := [_, _, _]) hX hF.1 d_M_dyeNow_36 ml_M_452 cf_M_dyeAt cv_M_dyeAt rfl rfl (c_M_dyeAt hG (by omega) (hR.y a ha) (by omega) (by omega) (j := 3) (by decide)) (rcv_obj hX (lv_89 _) rfl rfl) (by omega) (by omega) (by omega) (Nat.le_of_ble_eq_true rfl) ?_
      intro r w2 hp
      by_cases hcc : gY g a = c
      · obtain ⟨rfl, rfl⟩ := hp.1 hcc
        show G0 _ _ _ _ _ _ [Value.int (-(nI 3))] _
        refine g_iret hX hF d_M_dyeNow_39 (by omega) (by omega) ?_
        rw [aDye_3 d9 e21 (by rw [hta, htc]; exact hcc)]
        exact ⟨rfl, hG, FrA.rf _⟩
      obtain ⟨rfl, w1, hU1, h91, hf1, rfl⟩ := hp.2 hcc
      have hR1 : MRow (rI w1 91) g := by rw [h91]; exact hR
      show G0 _ _ _ _ _ _ [Value.int (nI (gY g a))] _
      refine g_iret hX hF d_M_dyeNow_39 (by omega) (by omega) ?_
      first
        | (rw [aDye_1 d9]; exact ⟨rfl, hG, FrA.rf w⟩)
        | (rw [aDye_2 d9 e21]; exact ⟨rfl, hG, FrA.rf w⟩)
        | (rw [aDye_ok d9 e21 (by rw [hta, htc]; exact hcc), hta, htc]
           exact ⟨rfl, ⟨hR1.dye hW ha, (show MLaws (rI w1 91) _ by rw [h91]; exact hL).congr (fun i hi => by show upd (rI w1 91) _ _ i = _; rw [upd_eq, if_neg (by omega)]), hW.dye (by omega), hU1⟩, hf1.I (by decide)⟩)
    · refine g_bipush (v := -2) hX d_M_dyeNow_24 rfl ?_
      refine g_goto hX d_M_dyeNow_26 ?_
      refine g_iret hX hF d_M_dyeNow_39 (by omega) (by omega) ?_
      first
        | (rw [aDye_1 d9]; exact ⟨rfl, hG, FrA.rf w⟩)
        | (rw [aDye_2 d9 e21]; exact ⟨rfl, hG, FrA.rf w⟩)
        | (rw [aDye_ok d9 e21 (by rw [hta, htc]; exact hcc), hta, htc]
           exact ⟨rfl, ⟨hR1.dye hW ha, (show MLaws (rI w1 91) _ by rw [h91]; exact hL).congr (fun i hi => by show upd (rI w1 91) _ _ i = _; rw [upd_eq, if_neg (by omega)]), hW.dye (by omega), hU1⟩, hf1.I (by decide)⟩)
  · have d9 : ¬ inN y 7 := mt (in_le (by decide)).mpr e9
    refine g_iconst (v := -1) hX d_M_dyeNow_12 rfl ?_
    refine g_goto hX d_M_dyeNow_13 ?_
    refine g_iret hX hF d_M_dyeNow_39 (by omega) (by omega) ?_
    first
      | (rw [aDye_1 d9]; exact ⟨rfl, hG, FrA.rf w⟩)
      | (rw [aDye_2 d9 e21]; exact ⟨rfl, hG, FrA.rf w⟩)
      | (rw [aDye_ok d9 e21 (by rw [hta, htc]; exact hcc), hta, htc]
         exact ⟨rfl, ⟨hR1.dye hW ha, (show MLaws (rI w1 91) _ by rw [h91]; exact hL).congr (fun i hi => by show upd (rI w1 91) _ _ i = _; rw [upd_eq, if_neg (by omega)]), hW.dye (by omega), hU1⟩, hf1.I (by decide)⟩)
