def m_M_fitting : MR := (⟨"SubgraphDeskModel", "fitting", "()I"⟩, prog_14_method_120_code, 1, (some .int))
theorem cf_M_fitting : CF m_M_fitting 0 := ⟨gd 2163 (by decide +kernel) rfl, gd 151 (by decide +kernel) rfl, by decide +kernel, by decide, by decide +kernel⟩
theorem cv_M_fitting : CV m_M_fitting := ⟨gd 2161 (by decide +kernel) rfl, gd 2162 (by decide +kernel) rfl⟩
def m_M_isFitting : MR := (⟨"SubgraphDeskModel", "isFitting", "()Z"⟩, prog_14_method_118_code, 3, (some .boolean))
theorem cf_M_isFitting : CF m_M_isFitting 0 := ⟨gd 2171 (by decide +kernel) rfl, gd 151 (by decide +kernel) rfl, by decide +kernel, by decide, by decide +kernel⟩
theorem cv_M_isFitting : CV m_M_isFitting := ⟨gd 2170 (by decide +kernel) rfl, gd 129 (by decide +kernel) rfl⟩
def m_M_layFitting : MR := (⟨"SubgraphDeskModel", "layFitting", "()I"⟩, prog_14_method_119_code, 3, (some .int))
theorem cf_M_layFitting : CF m_M_layFitting 0 := ⟨gd 2167 (by decide +kernel) rfl, gd 151 (by decide +kernel) rfl, by decide +kernel, by decide, by decide +kernel⟩
theorem cv_M_layFitting : CV m_M_layFitting := ⟨gd 2166 (by decide +kernel) rfl, gd 128 (by decide +kernel) rfl⟩
def m_M_look : MR := (⟨"SubgraphDeskModel", "look", "(I)I"⟩, prog_14_method_121_code, 7, (some .int))
theorem cf_M_look : CF m_M_look 1 := ⟨gd 2175 (by decide +kernel) rfl, gd 151 (by decide +kernel) rfl, by decide +kernel, by decide, by decide +kernel⟩
theorem cv_M_look : CV m_M_look := ⟨gd 2173 (by decide +kernel) rfl, gd 2174 (by decide +kernel) rfl⟩
theorem d_M_fitting_0 : Dc prog_14_method_120_code 0 (.aload_n 0) 1 1 := ⟨by decide +kernel, rfl⟩
theorem d_M_fitting_1 : Dc prog_14_method_120_code 1 (.iconst 0) 1 2 := ⟨by decide +kernel, rfl⟩
theorem d_M_fitting_2 : Dc prog_14_method_120_code 2 (.putfield 170) 3 5 := ⟨by decide +kernel, rfl⟩
theorem d_M_fitting_5 : Dc prog_14_method_120_code 5 (.aload_n 0) 1 6 := ⟨by decide +kernel, rfl⟩
theorem d_M_fitting_6 : Dc prog_14_method_120_code 6 (.invokevirtual 555) 3 9 := ⟨by decide +kernel, rfl⟩
theorem d_M_fitting_9 : Dc prog_14_method_120_code 9 (.ireturn) 1 10 := ⟨by decide +kernel, rfl⟩
theorem d_M_isFitting_0 : Dc prog_14_method_118_code 0 (.iconst 1) 1 1 := ⟨by decide +kernel, rfl⟩
theorem d_M_isFitting_1 : Dc prog_14_method_118_code 1 (.istore_n 1) 1 2 := ⟨by decide +kernel, rfl⟩
theorem d_M_isFitting_2 : Dc prog_14_method_118_code 2 (.iconst 0) 1 3 := ⟨by decide +kernel, rfl⟩
theorem d_M_isFitting_3 : Dc prog_14_method_118_code 3 (.istore_n 2) 1 4 := ⟨by decide +kernel, rfl⟩
theorem d_M_isFitting_4 : Dc prog_14_method_118_code 4 (.iload_n 2) 1 5 := ⟨by decide +kernel, rfl⟩
theorem d_M_isFitting_5 : Dc prog_14_method_118_code 5 (.aload_n 0) 1 6 := ⟨by decide +kernel, rfl⟩
theorem d_M_isFitting_6 : Dc prog_14_method_118_code 6 (.getfield 13) 3 9 := ⟨by decide +kernel, rfl⟩
theorem d_M_isFitting_9 : Dc prog_14_method_118_code 9 (.iconst 2) 1 10 := ⟨by decide +kernel, rfl⟩
theorem d_M_isFitting_10 : Dc prog_14_method_118_code 10 (.iaload) 1 11 := ⟨by decide +kernel, rfl⟩
theorem d_M_isFitting_11 : Dj prog_14_method_118_code 11 (.if_icmp .ge 51) 14 51 62 := ⟨by decide +kernel, rfl, rfl⟩
theorem d_M_isFitting_14 : Dc prog_14_method_118_code 14 (.iload_n 1) 1 15 := ⟨by decide +kernel, rfl⟩
theorem d_M_isFitting_15 : Dj prog_14_method_118_code 15 (.ifCond .eq 39) 18 39 54 := ⟨by decide +kernel, rfl, rfl⟩
theorem d_M_isFitting_18 : Dc prog_14_method_118_code 18 (.aload_n 0) 1 19 := ⟨by decide +kernel, rfl⟩
theorem d_M_isFitting_19 : Dc prog_14_method_118_code 19 (.getfield 111) 3 22 := ⟨by decide +kernel, rfl⟩
theorem d_M_isFitting_22 : Dc prog_14_method_118_code 22 (.aload_n 0) 1 23 := ⟨by decide +kernel, rfl⟩
theorem d_M_isFitting_23 : Dc prog_14_method_118_code 23 (.getfield 13) 3 26 := ⟨by decide +kernel, rfl⟩
theorem d_M_isFitting_26 : Dc prog_14_method_118_code 26 (.bipush 98) 2 28 := ⟨by decide +kernel, rfl⟩
theorem d_M_isFitting_28 : Dc prog_14_method_118_code 28 (.iconst 2) 1 29 := ⟨by decide +kernel, rfl⟩
theorem d_M_isFitting_29 : Dc prog_14_method_118_code 29 (.iload_n 2) 1 30 := ⟨by decide +kernel, rfl⟩
theorem d_M_isFitting_30 : Dc prog_14_method_118_code 30 (.imul) 1 31 := ⟨by decide +kernel, rfl⟩
theorem d_M_isFitting_31 : Dc prog_14_method_118_code 31 (.iadd) 1 32 := ⟨by decide +kernel, rfl⟩
theorem d_M_isFitting_32 : Dc prog_14_method_118_code 32 (.iaload) 1 33 := ⟨by decide +kernel, rfl⟩
theorem d_M_isFitting_33 : Dc prog_14_method_118_code 33 (.iaload) 1 34 := ⟨by decide +kernel, rfl⟩
theorem d_M_isFitting_34 : Dc prog_14_method_118_code 34 (.aload_n 0) 1 35 := ⟨by decide +kernel, rfl⟩
theorem d_M_isFitting_35 : Dc prog_14_method_118_code 35 (.getfield 13) 3 38 := ⟨by decide +kernel, rfl⟩
theorem d_M_isFitting_38 : Dc prog_14_method_118_code 38 (.bipush 98) 2 40 := ⟨by decide +kernel, rfl⟩
theorem d_M_isFitting_40 : Dc prog_14_method_118_code 40 (.iconst 2) 1 41 := ⟨by decide +kernel, rfl⟩
theorem d_M_isFitting_41 : Dc prog_14_method_118_code 41 (.iload_n 2) 1 42 := ⟨by decide +kernel, rfl⟩
theorem d_M_isFitting_42 : Dc prog_14_method_118_code 42 (.imul) 1 43 := ⟨by decide +kernel, rfl⟩
theorem d_M_isFitting_43 : Dc prog_14_method_118_code 43 (.iadd) 1 44 := ⟨by decide +kernel, rfl⟩
theorem d_M_isFitting_44 : Dc prog_14_method_118_code 44 (.iconst 1) 1 45 := ⟨by decide +kernel, rfl⟩
theorem d_M_isFitting_45 : Dc prog_14_method_118_code 45 (.iadd) 1 46 := ⟨by decide +kernel, rfl⟩
theorem d_M_isFitting_46 : Dc prog_14_method_118_code 46 (.iaload) 1 47 := ⟨by decide +kernel, rfl⟩
theorem d_M_isFitting_47 : Dj prog_14_method_118_code 47 (.if_icmp .ne 7) 50 7 54 := ⟨by decide +kernel, rfl, rfl⟩
theorem d_M_isFitting_50 : Dc prog_14_method_118_code 50 (.iconst 1) 1 51 := ⟨by decide +kernel, rfl⟩
theorem d_M_isFitting_51 : Dj prog_14_method_118_code 51 (.goto 4) 54 4 55 := ⟨by decide +kernel, rfl, rfl⟩
theorem d_M_isFitting_54 : Dc prog_14_method_118_code 54 (.iconst 0) 1 55 := ⟨by decide +kernel, rfl⟩
theorem d_M_isFitting_55 : Dc prog_14_method_118_code 55 (.istore_n 1) 1 56 := ⟨by decide +kernel, rfl⟩
theorem d_M_isFitting_56 : Dc prog_14_method_118_code 56 (.iinc 2 1) 3 59 := ⟨by decide +kernel, rfl⟩
theorem d_M_isFitting_59 : Dj prog_14_method_118_code 59 (.goto (-55)) 62 (-55) 4 := ⟨by decide +kernel, rfl, rfl⟩
theorem d_M_isFitting_62 : Dc prog_14_method_118_code 62 (.iload_n 1) 1 63 := ⟨by decide +kernel, rfl⟩
theorem d_M_isFitting_63 : Dc prog_14_method_118_code 63 (.ireturn) 1 64 := ⟨by decide +kernel, rfl⟩
theorem d_M_layFitting_0 : Dc prog_14_method_119_code 0 (.iconst 0) 1 1 := ⟨by decide +kernel, rfl⟩
theorem d_M_layFitting_1 : Dc prog_14_method_119_code 1 (.istore_n 1) 1 2 := ⟨by decide +kernel, rfl⟩
theorem d_M_layFitting_2 : Dc prog_14_method_119_code 2 (.iload_n 1) 1 3 := ⟨by decide +kernel, rfl⟩
theorem d_M_layFitting_3 : Dc prog_14_method_119_code 3 (.bipush 60) 2 5 := ⟨by decide +kernel, rfl⟩
theorem d_M_layFitting_5 : Dj prog_14_method_119_code 5 (.if_icmp .ge 16) 8 16 21 := ⟨by decide +kernel, rfl, rfl⟩
theorem d_M_layFitting_8 : Dc prog_14_method_119_code 8 (.aload_n 0) 1 9 := ⟨by decide +kernel, rfl⟩
theorem d_M_layFitting_9 : Dc prog_14_method_119_code 9 (.getfield 141) 3 12 := ⟨by decide +kernel, rfl⟩
theorem d_M_layFitting_12 : Dc prog_14_method_119_code 12 (.iload_n 1) 1 13 := ⟨by decide +kernel, rfl⟩
theorem d_M_layFitting_13 : Dc prog_14_method_119_code 13 (.iconst 0) 1 14 := ⟨by decide +kernel, rfl⟩
theorem d_M_layFitting_14 : Dc prog_14_method_119_code 14 (.iastore) 1 15 := ⟨by decide +kernel, rfl⟩
theorem d_M_layFitting_15 : Dc prog_14_method_119_code 15 (.iinc 1 1) 3 18 := ⟨by decide +kernel, rfl⟩
theorem d_M_layFitting_18 : Dj prog_14_method_119_code 18 (.goto (-16)) 21 (-16) 2 := ⟨by decide +kernel, rfl, rfl⟩
theorem d_M_layFitting_21 : Dc prog_14_method_119_code 21 (.iconst 0) 1 22 := ⟨by decide +kernel, rfl⟩
theorem d_M_layFitting_22 : Dc prog_14_method_119_code 22 (.istore_n 1) 1 23 := ⟨by decide +kernel, rfl⟩
theorem d_M_layFitting_23 : Dc prog_14_method_119_code 23 (.aload_n 0) 1 24 := ⟨by decide +kernel, rfl⟩
theorem d_M_layFitting_24 : Dc prog_14_method_119_code 24 (.invokevirtual 474) 3 27 := ⟨by decide +kernel, rfl⟩
theorem d_M_layFitting_27 : Dc prog_14_method_119_code 27 (.aload_n 0) 1 28 := ⟨by decide +kernel, rfl⟩
theorem d_M_layFitting_28 : Dc prog_14_method_119_code 28 (.invokevirtual 477) 3 31 := ⟨by decide +kernel, rfl⟩
theorem d_M_layFitting_31 : Dj prog_14_method_119_code 31 (.ifCond .eq 54) 34 54 85 := ⟨by decide +kernel, rfl, rfl⟩
theorem d_M_layFitting_34 : Dc prog_14_method_119_code 34 (.aload_n 0) 1 35 := ⟨by decide +kernel, rfl⟩
theorem d_M_layFitting_35 : Dc prog_14_method_119_code 35 (.invokevirtual 552) 3 38 := ⟨by decide +kernel, rfl⟩
theorem d_M_layFitting_38 : Dj prog_14_method_119_code 38 (.ifCond .eq (-11)) 41 (-11) 27 := ⟨by decide +kernel, rfl, rfl⟩
theorem d_M_layFitting_41 : Dc prog_14_method_119_code 41 (.iinc 1 1) 3 44 := ⟨by decide +kernel, rfl⟩
theorem d_M_layFitting_44 : Dc prog_14_method_119_code 44 (.iconst 0) 1 45 := ⟨by decide +kernel, rfl⟩
theorem d_M_layFitting_45 : Dc prog_14_method_119_code 45 (.istore_n 2) 1 46 := ⟨by decide +kernel, rfl⟩
theorem d_M_layFitting_46 : Dc prog_14_method_119_code 46 (.iload_n 2) 1 47 := ⟨by decide +kernel, rfl⟩
theorem d_M_layFitting_47 : Dc prog_14_method_119_code 47 (.aload_n 0) 1 48 := ⟨by decide +kernel, rfl⟩
theorem d_M_layFitting_48 : Dc prog_14_method_119_code 48 (.getfield 13) 3 51 := ⟨by decide +kernel, rfl⟩
theorem d_M_layFitting_51 : Dc prog_14_method_119_code 51 (.iconst 1) 1 52 := ⟨by decide +kernel, rfl⟩
theorem d_M_layFitting_52 : Dc prog_14_method_119_code 52 (.iaload) 1 53 := ⟨by decide +kernel, rfl⟩
theorem d_M_layFitting_53 : Dj prog_14_method_119_code 53 (.if_icmp .ge 29) 56 29 82 := ⟨by decide +kernel, rfl, rfl⟩
theorem d_M_layFitting_56 : Dc prog_14_method_119_code 56 (.aload_n 0) 1 57 := ⟨by decide +kernel, rfl⟩
theorem d_M_layFitting_57 : Dc prog_14_method_119_code 57 (.getfield 141) 3 60 := ⟨by decide +kernel, rfl⟩
theorem d_M_layFitting_60 : Dc prog_14_method_119_code 60 (.bipush 12) 2 62 := ⟨by decide +kernel, rfl⟩
theorem d_M_layFitting_62 : Dc prog_14_method_119_code 62 (.iload_n 2) 1 63 := ⟨by decide +kernel, rfl⟩
theorem d_M_layFitting_63 : Dc prog_14_method_119_code 63 (.imul) 1 64 := ⟨by decide +kernel, rfl⟩
theorem d_M_layFitting_64 : Dc prog_14_method_119_code 64 (.aload_n 0) 1 65 := ⟨by decide +kernel, rfl⟩
theorem d_M_layFitting_65 : Dc prog_14_method_119_code 65 (.getfield 111) 3 68 := ⟨by decide +kernel, rfl⟩
theorem d_M_layFitting_68 : Dc prog_14_method_119_code 68 (.iload_n 2) 1 69 := ⟨by decide +kernel, rfl⟩
theorem d_M_layFitting_69 : Dc prog_14_method_119_code 69 (.iaload) 1 70 := ⟨by decide +kernel, rfl⟩
theorem d_M_layFitting_70 : Dc prog_14_method_119_code 70 (.iadd) 1 71 := ⟨by decide +kernel, rfl⟩
theorem d_M_layFitting_71 : Dc prog_14_method_119_code 71 (.dup2) 1 72 := ⟨by decide +kernel, rfl⟩
theorem d_M_layFitting_72 : Dc prog_14_method_119_code 72 (.iaload) 1 73 := ⟨by decide +kernel, rfl⟩
theorem d_M_layFitting_73 : Dc prog_14_method_119_code 73 (.iconst 1) 1 74 := ⟨by decide +kernel, rfl⟩
theorem d_M_layFitting_74 : Dc prog_14_method_119_code 74 (.iadd) 1 75 := ⟨by decide +kernel, rfl⟩
theorem d_M_layFitting_75 : Dc prog_14_method_119_code 75 (.iastore) 1 76 := ⟨by decide +kernel, rfl⟩
theorem d_M_layFitting_76 : Dc prog_14_method_119_code 76 (.iinc 2 1) 3 79 := ⟨by decide +kernel, rfl⟩
theorem d_M_layFitting_79 : Dj prog_14_method_119_code 79 (.goto (-33)) 82 (-33) 46 := ⟨by decide +kernel, rfl, rfl⟩
theorem d_M_layFitting_82 : Dj prog_14_method_119_code 82 (.goto (-55)) 85 (-55) 27 := ⟨by decide +kernel, rfl, rfl⟩
theorem d_M_layFitting_85 : Dc prog_14_method_119_code 85 (.iload_n 1) 1 86 := ⟨by decide +kernel, rfl⟩
theorem d_M_layFitting_86 : Dc prog_14_method_119_code 86 (.ireturn) 1 87 := ⟨by decide +kernel, rfl⟩
theorem d_M_look_0 : Dc prog_14_method_121_code 0 (.aload_n 0) 1 1 := ⟨by decide +kernel, rfl⟩
theorem d_M_look_1 : Dc prog_14_method_121_code 1 (.iconst 0) 1 2 := ⟨by decide +kernel, rfl⟩
theorem d_M_look_2 : Dc prog_14_method_121_code 2 (.putfield 170) 3 5 := ⟨by decide +kernel, rfl⟩
theorem d_M_look_5 : Dc prog_14_method_121_code 5 (.iload_n 1) 1 6 := ⟨by decide +kernel, rfl⟩
theorem d_M_look_6 : Dc prog_14_method_121_code 6 (.i2l) 1 7 := ⟨by decide +kernel, rfl⟩
theorem d_M_look_7 : Dc prog_14_method_121_code 7 (.lconst 0) 1 8 := ⟨by decide +kernel, rfl⟩
theorem d_M_look_8 : Dc prog_14_method_121_code 8 (.lconst 1) 1 9 := ⟨by decide +kernel, rfl⟩
theorem d_M_look_9 : Dc prog_14_method_121_code 9 (.invokestatic 190) 3 12 := ⟨by decide +kernel, rfl⟩
theorem d_M_look_12 : Dj prog_14_method_121_code 12 (.ifCond .eq 10) 15 10 22 := ⟨by decide +kernel, rfl, rfl⟩
theorem d_M_look_15 : Dc prog_14_method_121_code 15 (.aload_n 0) 1 16 := ⟨by decide +kernel, rfl⟩
theorem d_M_look_16 : Dc prog_14_method_121_code 16 (.invokevirtual 555) 3 19 := ⟨by decide +kernel, rfl⟩
theorem d_M_look_19 : Dj prog_14_method_121_code 19 (.ifCond .ne 5) 22 5 24 := ⟨by decide +kernel, rfl, rfl⟩
theorem d_M_look_22 : Dc prog_14_method_121_code 22 (.iconst (-1)) 1 23 := ⟨by decide +kernel, rfl⟩
theorem d_M_look_23 : Dc prog_14_method_121_code 23 (.ireturn) 1 24 := ⟨by decide +kernel, rfl⟩
theorem d_M_look_24 : Dc prog_14_method_121_code 24 (.ldc_w 498) 3 27 := ⟨by decide +kernel, rfl⟩
theorem d_M_look_27 : Dc prog_14_method_121_code 27 (.istore_n 2) 1 28 := ⟨by decide +kernel, rfl⟩
theorem d_M_look_28 : Dc prog_14_method_121_code 28 (.iconst (-1)) 1 29 := ⟨by decide +kernel, rfl⟩
theorem d_M_look_29 : Dc prog_14_method_121_code 29 (.istore_n 3) 1 30 := ⟨by decide +kernel, rfl⟩
theorem d_M_look_30 : Dc prog_14_method_121_code 30 (.iconst 0) 1 31 := ⟨by decide +kernel, rfl⟩
theorem d_M_look_31 : Dc prog_14_method_121_code 31 (.istore 4) 2 33 := ⟨by decide +kernel, rfl⟩
theorem d_M_look_33 : Dc prog_14_method_121_code 33 (.iload 4) 2 35 := ⟨by decide +kernel, rfl⟩
theorem d_M_look_35 : Dc prog_14_method_121_code 35 (.aload_n 0) 1 36 := ⟨by decide +kernel, rfl⟩
theorem d_M_look_36 : Dc prog_14_method_121_code 36 (.getfield 13) 3 39 := ⟨by decide +kernel, rfl⟩
theorem d_M_look_39 : Dc prog_14_method_121_code 39 (.iconst 1) 1 40 := ⟨by decide +kernel, rfl⟩
theorem d_M_look_40 : Dc prog_14_method_121_code 40 (.iaload) 1 41 := ⟨by decide +kernel, rfl⟩
theorem d_M_look_41 : Dj prog_14_method_121_code 41 (.if_icmp .ge 92) 44 92 133 := ⟨by decide +kernel, rfl, rfl⟩
theorem d_M_look_44 : Dc prog_14_method_121_code 44 (.iconst 0) 1 45 := ⟨by decide +kernel, rfl⟩
theorem d_M_look_45 : Dc prog_14_method_121_code 45 (.istore 5) 2 47 := ⟨by decide +kernel, rfl⟩
theorem d_M_look_47 : Dc prog_14_method_121_code 47 (.iconst 0) 1 48 := ⟨by decide +kernel, rfl⟩
theorem d_M_look_48 : Dc prog_14_method_121_code 48 (.istore 6) 2 50 := ⟨by decide +kernel, rfl⟩
theorem d_M_look_50 : Dc prog_14_method_121_code 50 (.iload 6) 2 52 := ⟨by decide +kernel, rfl⟩
theorem d_M_look_52 : Dc prog_14_method_121_code 52 (.bipush 12) 2 54 := ⟨by decide +kernel, rfl⟩
theorem d_M_look_54 : Dj prog_14_method_121_code 54 (.if_icmp .ge 47) 57 47 101 := ⟨by decide +kernel, rfl, rfl⟩
theorem d_M_look_57 : Dc prog_14_method_121_code 57 (.aload_n 0) 1 58 := ⟨by decide +kernel, rfl⟩
theorem d_M_look_58 : Dc prog_14_method_121_code 58 (.getfield 141) 3 61 := ⟨by decide +kernel, rfl⟩
theorem d_M_look_61 : Dc prog_14_method_121_code 61 (.bipush 12) 2 63 := ⟨by decide +kernel, rfl⟩
theorem d_M_look_63 : Dc prog_14_method_121_code 63 (.iload 4) 2 65 := ⟨by decide +kernel, rfl⟩
theorem d_M_look_65 : Dc prog_14_method_121_code 65 (.imul) 1 66 := ⟨by decide +kernel, rfl⟩
theorem d_M_look_66 : Dc prog_14_method_121_code 66 (.iload 6) 2 68 := ⟨by decide +kernel, rfl⟩
theorem d_M_look_68 : Dc prog_14_method_121_code 68 (.iadd) 1 69 := ⟨by decide +kernel, rfl⟩
theorem d_M_look_69 : Dc prog_14_method_121_code 69 (.iaload) 1 70 := ⟨by decide +kernel, rfl⟩
theorem d_M_look_70 : Dc prog_14_method_121_code 70 (.iload 5) 2 72 := ⟨by decide +kernel, rfl⟩
theorem d_M_look_72 : Dj prog_14_method_121_code 72 (.if_icmp .le 19) 75 19 91 := ⟨by decide +kernel, rfl, rfl⟩
theorem d_M_look_75 : Dc prog_14_method_121_code 75 (.aload_n 0) 1 76 := ⟨by decide +kernel, rfl⟩
theorem d_M_look_76 : Dc prog_14_method_121_code 76 (.getfield 141) 3 79 := ⟨by decide +kernel, rfl⟩
theorem d_M_look_79 : Dc prog_14_method_121_code 79 (.bipush 12) 2 81 := ⟨by decide +kernel, rfl⟩
theorem d_M_look_81 : Dc prog_14_method_121_code 81 (.iload 4) 2 83 := ⟨by decide +kernel, rfl⟩
theorem d_M_look_83 : Dc prog_14_method_121_code 83 (.imul) 1 84 := ⟨by decide +kernel, rfl⟩
theorem d_M_look_84 : Dc prog_14_method_121_code 84 (.iload 6) 2 86 := ⟨by decide +kernel, rfl⟩
theorem d_M_look_86 : Dc prog_14_method_121_code 86 (.iadd) 1 87 := ⟨by decide +kernel, rfl⟩
theorem d_M_look_87 : Dc prog_14_method_121_code 87 (.iaload) 1 88 := ⟨by decide +kernel, rfl⟩
theorem d_M_look_88 : Dj prog_14_method_121_code 88 (.goto 5) 91 5 93 := ⟨by decide +kernel, rfl, rfl⟩
theorem d_M_look_91 : Dc prog_14_method_121_code 91 (.iload 5) 2 93 := ⟨by decide +kernel, rfl⟩
theorem d_M_look_93 : Dc prog_14_method_121_code 93 (.istore 5) 2 95 := ⟨by decide +kernel, rfl⟩
theorem d_M_look_95 : Dc prog_14_method_121_code 95 (.iinc 6 1) 3 98 := ⟨by decide +kernel, rfl⟩
theorem d_M_look_98 : Dj prog_14_method_121_code 98 (.goto (-48)) 101 (-48) 50 := ⟨by decide +kernel, rfl, rfl⟩
theorem d_M_look_101 : Dc prog_14_method_121_code 101 (.iload 5) 2 103 := ⟨by decide +kernel, rfl⟩
theorem d_M_look_103 : Dc prog_14_method_121_code 103 (.iload_n 2) 1 104 := ⟨by decide +kernel, rfl⟩
theorem d_M_look_104 : Dj prog_14_method_121_code 104 (.if_icmp .ge 8) 107 8 112 := ⟨by decide +kernel, rfl, rfl⟩
theorem d_M_look_107 : Dc prog_14_method_121_code 107 (.iload 4) 2 109 := ⟨by decide +kernel, rfl⟩
theorem d_M_look_109 : Dj prog_14_method_121_code 109 (.goto 4) 112 4 113 := ⟨by decide +kernel, rfl, rfl⟩
theorem d_M_look_112 : Dc prog_14_method_121_code 112 (.iload_n 3) 1 113 := ⟨by decide +kernel, rfl⟩
theorem d_M_look_113 : Dc prog_14_method_121_code 113 (.istore_n 3) 1 114 := ⟨by decide +kernel, rfl⟩
theorem d_M_look_114 : Dc prog_14_method_121_code 114 (.iload 5) 2 116 := ⟨by decide +kernel, rfl⟩
theorem d_M_look_116 : Dc prog_14_method_121_code 116 (.iload_n 2) 1 117 := ⟨by decide +kernel, rfl⟩
theorem d_M_look_117 : Dj prog_14_method_121_code 117 (.if_icmp .ge 8) 120 8 125 := ⟨by decide +kernel, rfl, rfl⟩
theorem d_M_look_120 : Dc prog_14_method_121_code 120 (.iload 5) 2 122 := ⟨by decide +kernel, rfl⟩
theorem d_M_look_122 : Dj prog_14_method_121_code 122 (.goto 4) 125 4 126 := ⟨by decide +kernel, rfl, rfl⟩
theorem d_M_look_125 : Dc prog_14_method_121_code 125 (.iload_n 2) 1 126 := ⟨by decide +kernel, rfl⟩
theorem d_M_look_126 : Dc prog_14_method_121_code 126 (.istore_n 2) 1 127 := ⟨by decide +kernel, rfl⟩
theorem d_M_look_127 : Dc prog_14_method_121_code 127 (.iinc 4 1) 3 130 := ⟨by decide +kernel, rfl⟩
theorem d_M_look_130 : Dj prog_14_method_121_code 130 (.goto (-97)) 133 (-97) 33 := ⟨by decide +kernel, rfl, rfl⟩
theorem d_M_look_133 : Dc prog_14_method_121_code 133 (.iload_n 3) 1 134 := ⟨by decide +kernel, rfl⟩
theorem d_M_look_134 : Dc prog_14_method_121_code 134 (.iconst (-1)) 1 135 := ⟨by decide +kernel, rfl⟩
theorem d_M_look_135 : Dj prog_14_method_121_code 135 (.if_icmp .eq 7) 138 7 142 := ⟨by decide +kernel, rfl, rfl⟩
theorem d_M_look_138 : Dc prog_14_method_121_code 138 (.iload_n 1) 1 139 := ⟨by decide +kernel, rfl⟩
theorem d_M_look_139 : Dj prog_14_method_121_code 139 (.ifCond .ne 7) 142 7 146 := ⟨by decide +kernel, rfl, rfl⟩
theorem d_M_look_142 : Dc prog_14_method_121_code 142 (.iload_n 3) 1 143 := ⟨by decide +kernel, rfl⟩
theorem d_M_look_143 : Dj prog_14_method_121_code 143 (.goto 4) 146 4 147 := ⟨by decide +kernel, rfl, rfl⟩
theorem d_M_look_146 : Dc prog_14_method_121_code 146 (.iload_n 2) 1 147 := ⟨by decide +kernel, rfl⟩
theorem d_M_look_147 : Dc prog_14_method_121_code 147 (.ireturn) 1 148 := ⟨by decide +kernel, rfl⟩
theorem fl_M_141 : FL "SubgraphDeskModel" 141 12 58 true (.array .int) (3, 34) := ⟨R_M, F_M, 69, ty_M, rfl, rfl, in_M, tyok_M, nm_M, by decide, gd 1530 (by decide +kernel) rfl, rfl, rfl, rfl⟩
theorem ml_M_552 : Cond.methodLink "SubgraphDeskModel" 552 m_M_isFitting.1 ∈ lw_gd := gd 2168 (by decide +kernel) rfl
theorem ml_M_555 : Cond.methodLink "SubgraphDeskModel" 555 m_M_layFitting.1 ∈ lw_gd := gd 2164 (by decide +kernel) rfl
/-- the way fits what was seen -/
def fitsG (g : GC) (q : List Nat) : Bool := (gS g).all (fun s => decide (gA q s.1 = s.2))
def fitsK (g : GC) (q : List Nat) (k : Nat) : Bool := ((gS g).take k).all (fun s => decide (gA q s.1 = s.2))
def fittingL (g : GC) : List (List Nat) := (waysL g).filter (fitsG g)
def tallyN (A : List (List Nat)) (v n : Nat) : Nat := (A.filter (fun q => decide (gA q v = n))).length
def mostN (A : List (List Nat)) (v : Nat) : Nat → Nat
  | 0 => 0
  | n + 1 => if mostN A v n < tallyN A v n then tallyN A v n else mostN A v n
def lookN (A : List (List Nat)) : Nat → Int32 × Nat
  | 0 => (-1, 100000000)
  | v + 1 => if mostN A v 12 < (lookN A v).2 then (nI v, mostN A v 12) else lookN A v
def opFitting (g : GC) : Int32 := nI (fittingL g).length
noncomputable def opLook (what : Int32) (g : GC) : Int32 := by
  classical
  exact if ¬ inN what 2 ∨ (fittingL g).length = 0 then -1 else if (lookN (fittingL g) (gV g)).1 = -1 ∨ what = 0 then (lookN (fittingL g) (gV g)).1 else nI (lookN (fittingL g) (gV g)).2
theorem look_no {x : Int32} {g : GC} (h : ¬ inN x 2 ∨ (fittingL g).length = 0) : opLook x g = -1 := by unfold opLook; exact if_pos h
theorem look_a {x : Int32} {g : GC} (h : inN x 2) (h0 : ¬ (fittingL g).length = 0) (h2 : (lookN (fittingL g) (gV g)).1 = -1 ∨ x = 0) : opLook x g = (lookN (fittingL g) (gV g)).1 := by
  unfold opLook
  exact (if_neg (fun z => z.elim (fun y => y h) h0)).trans (if_pos h2)
theorem look_b {x : Int32} {g : GC} (h : inN x 2) (h0 : ¬ (fittingL g).length = 0) (h2 : ¬ ((lookN (fittingL g) (gV g)).1 = -1 ∨ x = 0)) : opLook x g = nI (lookN (fittingL g) (gV g)).2 := by
  unfold opLook
  exact (if_neg (fun z => z.elim (fun y => y h) h0)).trans (if_neg h2)
theorem exts_num {g : GC} (hN : gN g ≤ 12) : ∀ (r : Nat) (q : List Nat), (exts g r q).length ≤ 12 ^ r
  | 0, q => Nat.le_refl _
  | r + 1, q => by
    unfold exts
    refine Nat.le_trans (flat_len _ (fun n => okN g q n) (12 ^ r) _ (fun n hn e => ?_) (fun n hn e => ?_)) ?_
    · show (if okN g q n = true then _ else _) = _
      rw [show okN g q n = false from e]; rfl
    · show (if okN g q n = true then exts g r (q ++ [n]) else []).length ≤ _
      rw [show okN g q n = true from e]
      exact exts_num hN r _
    · rw [Nat.pow_succ, Nat.mul_comm]
      refine Nat.mul_le_mul_left _ (Nat.le_trans (List.length_filter_le _ _) ?_)
      rw [List.length_range]; exact hN
theorem ways_num {g : GC} (hW : WG g) : (waysL g).length ≤ 248832 := Nat.le_trans (exts_num hW.n _ _) (Nat.le_trans (Nat.pow_le_pow_right (by decide) hW.v) (by decide))
theorem fitting_num {g : GC} (hW : WG g) : (fittingL g).length ≤ 248832 := Nat.le_trans (List.length_filter_le _ _) (ways_num hW)
theorem tally_le (A : List (List Nat)) (v n : Nat) : tallyN A v n ≤ A.length := List.length_filter_le _ _
theorem most_le (A : List (List Nat)) (v : Nat) : ∀ n, mostN A v n ≤ A.length
  | 0 => Nat.zero_le _
  | n + 1 => by
    unfold mostN
    split
    · exact tally_le A v n
    · exact most_le A v n
theorem look_le (A : List (List Nat)) : ∀ v, (lookN A v).2 ≤ 100000000
  | 0 => Nat.le_refl _
  | v + 1 => by
    unfold lookN
    split
    · rename_i h
      have := look_le A v
      show mostN A v 12 ≤ _
      omega
    · exact look_le A v
theorem tally_snoc (A : List (List Nat)) (q : List Nat) (v n : Nat) : tallyN (A ++ [q]) v n = tallyN A v n + (if gA q v = n then 1 else 0) := by
  unfold tallyN
  rw [List.filter_append, List.length_append]
  congr 1
  by_cases h : gA q v = n
  · rw [if_pos h, List.filter_cons_of_pos (by simpa using h)]; rfl
  · rw [if_neg h, List.filter_cons_of_neg (by simpa using h)]; rfl
theorem fitsK_s {g : GC} {q : List Nat} {k : Nat} {s : Nat × Nat} (hk : (gS g)[k]? = some s) : fitsK g q (k + 1) = (fitsK g q k && decide (gA q s.1 = s.2)) := by
  unfold fitsK
  rw [List.take_add_one, hk, List.all_append]
  simp
theorem fitsK_a {g : GC} {q : List Nat} {k : Nat} {s : Nat × Nat} (hk : (gS g)[k]? = some s) (h : ¬ fitsK g q k = true) : nI 0 = b2i (fitsK g q (k + 1) = true) := by
  rw [b2i_f (by rw [fitsK_s hk]; simp [h])]; rfl
theorem fitsK_b {g : GC} {q : List Nat} {k : Nat} {s : Nat × Nat} (hk : (gS g)[k]? = some s) (h : ¬ gA q s.1 = s.2) : nI 0 = b2i (fitsK g q (k + 1) = true) := by
  rw [b2i_f (by rw [fitsK_s hk]; simp [h])]; rfl
theorem fitsK_c {g : GC} {q : List Nat} {k : Nat} {s : Nat × Nat} (hk : (gS g)[k]? = some s) (h0 : fitsK g q k = true) (h : gA q s.1 = s.2) : nI 1 = b2i (fitsK g q (k + 1) = true) := by
  rw [b2i_t (by rw [fitsK_s hk]; simp [h, h0])]; rfl
theorem fitsK_l {k : Nat} {a b : Int32} (h : a = b) : ([.ref 89, .int a, .int (nI (k + 1))] : List Value) = [.ref 89, .int b, .int (nI (k + 1))] := by rw [h]
/-- on which nodes vertices lie in how many of the ways A -/
def TalP (w : Mem) (g : GC) (A : List (List Nat)) : Prop := ∀ v, v < gV g → ∀ n, n < 12 → rI w 123 (12 * v + n) = nI (tallyN A v n)
theorem c_M_isFitting {E : EV} {w : Mem} {g : GC} {q : List Nat} (hR : MRow (rI w 91) g) (hW : WG g) (hLie : LieP w q) (hql : q.length = gV g) (hqn : ∀ n ∈ q, n < gN g) : T E m_M_isFitting 0 0 0 [.ref 89] w (Ret (some (.int (b2i (fitsG g q = true)))) w) := by
  refine T_of (L := [.ref 89, un, un]) cf_M_isFitting rfl (Nat.le_of_ble_eq_true rfl) (fun X hX hF => ?_)
  have hgn := hW.n
  have hgv := hW.v
  have hgs := hW.sl
  have lp : ∀ (fuel : Nat) (k : Nat), (gS g).length - k < fuel → (k ≤ (gS g).length) → G0 E X 0 0 4 [.ref 89, .int (b2i (fitsK g q k = true)), .int (nI k)] [] w := by
    intro fuel
    induction fuel with
    | zero => intro k q0; exact absurd q0 (Nat.not_lt_zero _)
    | succ fuel ih =>
      intro k q0 q1
      refine g_iload2 hX d_M_isFitting_4 ?_
      refine g_aload0 hX d_M_isFitting_5 ?_
      refine g_getF hX d_M_isFitting_6 fl_M_13 (lv_89 _) ?_
      refine g_iconst (v := nI 2) hX d_M_isFitting_9 rfl ?_
      refine g_iald hX d_M_isFitting_10 (lv_91 _) rfl (by decide) ?_
      refine g_topi hR.s ?_
      refine g_icmpN_ge hX d_M_isFitting_11 (by omega) (by omega) (fun c0 => ?_) (fun c0 => ?_)
      · refine g_iload1 hX d_M_isFitting_62 ?_
        refine g_zret hX hF d_M_isFitting_63 (b2i_01 _) (by omega) (by omega) ?_
        exact ⟨by rw [show k = (gS g).length by omega]; unfold fitsK fitsG; rw [List.take_length], rfl⟩
      · obtain ⟨s, hks⟩ : ∃ s, (gS g)[k]? = some s := ⟨_, List.getElem?_eq_getElem (by omega)⟩
        obtain ⟨hs1, hs2⟩ := hR.sn k s hks
        obtain ⟨ho1, ho2⟩ := hW.so s (List.mem_of_getElem? hks)
        have hqs : gA q s.1 < gN g := hqn _ (gA_mem (by omega))
        refine g_iload1 hX d_M_isFitting_14 ?_
        refine g_ifB_eq hX d_M_isFitting_15 (fun e15 => ?_) (fun e15 => ?_)
        · refine g_iconst (v := nI 0) hX d_M_isFitting_54 rfl ?_
          refine g_istore1 hX d_M_isFitting_55 rfl (by decide) ?_
          refine g_iincN2 hX d_M_isFitting_56 rfl (by decide) ?_
          refine g_goto hX d_M_isFitting_59 ?_
          refine g_loc (fitsK_l (fitsK_a hks e15)) ?_
          exact ih (k + 1) (by omega) (by omega)
        · refine g_aload0 hX d_M_isFitting_18 ?_
          refine g_getF hX d_M_isFitting_19 fl_M_111 (lv_89 _) ?_
          refine g_aload0 hX d_M_isFitting_22 ?_
          refine g_getF hX d_M_isFitting_23 fl_M_13 (lv_89 _) ?_
          refine g_bipush (v := nI 98) hX d_M_isFitting_26 rfl ?_
          refine g_iconst (v := nI 2) hX d_M_isFitting_28 rfl ?_
          refine g_iload2 hX d_M_isFitting_29 ?_
          refine g_imulN hX d_M_isFitting_30 ?_
          refine g_iaddN hX d_M_isFitting_31 ?_
          refine g_iald hX d_M_isFitting_32 (lv_91 _) rfl (by omega) ?_
          refine g_topi hs1 ?_
          refine g_iald hX d_M_isFitting_33 (lv_113 _) rfl (by omega) ?_
          refine g_topi (hLie s.1 (by omega)) ?_
          refine g_aload0 hX d_M_isFitting_34 ?_
          refine g_getF hX d_M_isFitting_35 fl_M_13 (lv_89 _) ?_
          refine g_bipush (v := nI 98) hX d_M_isFitting_38 rfl ?_
          refine g_iconst (v := nI 2) hX d_M_isFitting_40 rfl ?_
          refine g_iload2 hX d_M_isFitting_41 ?_
          refine g_imulN hX d_M_isFitting_42 ?_
          refine g_iaddN hX d_M_isFitting_43 ?_
          refine g_iconst (v := nI 1) hX d_M_isFitting_44 rfl ?_
          refine g_iaddN hX d_M_isFitting_45 ?_
          refine g_iald hX d_M_isFitting_46 (lv_91 _) rfl (by omega) ?_
          refine g_topi hs2 ?_
          refine g_icmpN_ne hX d_M_isFitting_47 (by omega) (by omega) (fun e47 => ?_) (fun e47 => ?_)
          · refine g_iconst (v := nI 0) hX d_M_isFitting_54 rfl ?_
            refine g_istore1 hX d_M_isFitting_55 rfl (by decide) ?_
            refine g_iincN2 hX d_M_isFitting_56 rfl (by decide) ?_
            refine g_goto hX d_M_isFitting_59 ?_
            refine g_loc (fitsK_l (fitsK_b hks e47)) ?_
            exact ih (k + 1) (by omega) (by omega)
          · refine g_iconst (v := nI 1) hX d_M_isFitting_50 rfl ?_
            refine g_goto hX d_M_isFitting_51 ?_
            refine g_istore1 hX d_M_isFitting_55 rfl (by decide) ?_
            refine g_iincN2 hX d_M_isFitting_56 rfl (by decide) ?_
            refine g_goto hX d_M_isFitting_59 ?_
            refine g_loc (fitsK_l (fitsK_c hks e15 e47)) ?_
            exact ih (k + 1) (by omega) (by omega)
  refine g_iconst (v := nI 1) hX d_M_isFitting_0 rfl ?_
  refine g_istore1 hX d_M_isFitting_1 rfl (by decide) ?_
  refine g_iconst (v := nI 0) hX d_M_isFitting_2 rfl ?_
  refine g_istore2 hX d_M_isFitting_3 rfl (by decide) ?_
  refine g_loc (show _ = [.ref 89, .int (b2i (fitsK g q 0 = true)), .int (nI 0)] by rw [b2i_t (show fitsK g q 0 = true from rfl)]; rfl) ?_
  exact lp ((gS g).length + 1) 0 (by omega) (Nat.zero_le _)
theorem Laid.oA {w : Mem} {g : GC} {o : Nat} {f : Nat → Int32} (h1 : o ≠ 110) (h2 : o ≠ 111) (h3 : o ≠ 112) (h : Laid w g) : Laid (sA w o f) g := by
  unfold Laid NearP MayP CostP
  rw [rI_sA_ne _ _ (Ne.symm h1), rI_sA_ne _ _ (Ne.symm h2), rI_sA_ne _ _ (Ne.symm h3)]
  exact h
theorem ItW.oA {w : Mem} {g : GC} {ws : List (List Nat)} {o : Nat} {f : Nat → Int32} (h1 : o ≠ 89) (h2 : o ≠ 113) (h : ItW w g ws) : ItW (sA w o f) g ws := by
  unfold ItW LieP
  rw [rI_sA_ne _ _ (Ne.symm h1), rI_sA_ne _ _ (Ne.symm h2)]
  exact h
theorem c_M_layFitting {E : EV} {w : Mem} {g : GC} (hG : MG w g) (hW : WG g) : T E m_M_layFitting 7 0 0 [.ref 89] w (fun r w2 => r = some (.int (nI (fittingL g).length)) ∧ Scr w w2 ∧ TalP w2 g (fittingL g)) := by
  refine T_of (L := [.ref 89, un, un]) cf_M_layFitting rfl (Nat.le_of_ble_eq_true rfl) (fun X hX hF => ?_)
  have hgn := hW.n
  have hgv := hW.v
  have lpW : ∀ (fuel : Nat) (ws : List (List Nat)) (A : List (List Nat)) (wk : Mem), ws.length < fuel → (Scr w wk) → (Laid wk g) → (ItW wk g ws) → (TalP wk g A) → (A ++ ws.filter (fitsG g) = fittingL g) → G0 E X 0 0 27 [.ref 89, .int (nI A.length), un] [] wk := by
    intro fuel
    induction fuel with
    | zero => intro ws A wk q0; exact absurd q0 (Nat.not_lt_zero _)
    | succ fuel ih =>
      intro ws A wk q0 q1 q2 q3 q4 q5
      refine g_aload0 hX d_M_layFitting_27 ?_
      refine g_callV (As := []) hX hF.1 d_M_layFitting_28 ml_M_477 cf_M_isWay cv_M_isWay rfl rfl (c_M_isWay (hG.scr q1) hW q2 q3) (rcv_obj hX (lv_89 _) rfl rfl) (by omega) (by omega) (by omega) (Nat.le_of_ble_eq_true rfl) ?_
      rintro _ w2 ⟨hf, hp⟩
      obtain ⟨x, rfl, hx⟩ := hp.c
      show G0 _ _ _ _ _ _ _ _
      refine g_if_eq hX d_M_layFitting_31 (fun e31 => ?_) (fun e31 => ?_)
      · have e_ : ws = [] := by
          rcases hx with hx | hx
          · exact hx.2
          · exact absurd (hx.1.symm.trans e31) (by decide)
        refine g_iload1 hX d_M_layFitting_85 ?_
        refine g_iret hX hF d_M_layFitting_86 (by omega) (by omega) ?_
        have hA : A = fittingL g := by rw [← q5, e_]; exact (List.append_nil A).symm
        rw [hA] at q4 ⊢
        exact ⟨rfl, q1.tr hf.S, fun v hv n hn => by rw [hf.1 123 (by decide) (by decide)]; exact q4 v hv n hn⟩
      · obtain ⟨q, t, hqt, ql, qn, qL, qI⟩ : ∃ q t, ws = q :: t ∧ q.length = gV g ∧ (∀ n ∈ q, n < gN g) ∧ LieP w2 q ∧ ItW w2 g t := by
          rcases hx with hx | hx
          · exact absurd hx.1 e31
          · exact hx.2
        have hl : ws.length = t.length + 1 := by rw [hqt]; rfl
        have hS2 := q1.tr hf.S
        have q2' := q2
        have q5' := q5
        have ihW := ih
        have hTa : TalP w2 g A := fun v hv n hn => by rw [hf.1 123 (by decide) (by decide)]; exact q4 v hv n hn
        refine g_aload0 hX d_M_layFitting_34 ?_
        refine g_callV (As := []) hX hF.1 d_M_layFitting_35 ml_M_552 cf_M_isFitting cv_M_isFitting rfl rfl (c_M_isFitting (hG.scr hS2).1 hW qL ql qn) (rcv_obj hX (lv_89 _) rfl rfl) (by omega) (by omega) (by omega) (Nat.le_of_ble_eq_true rfl) ?_
        refine ret_k ?_
        refine g_ifB_eq hX d_M_layFitting_38 (fun e38 => ?_) (fun e38 => ?_)
        · exact ih t A w2 (by omega) hS2 (q2.I hf) qI hTa (by rw [← q5, hqt, List.filter_cons_of_neg e38])
        · skip
          have lpV : ∀ (fuel : Nat) (v : Nat) (f : Nat → Int32), gV g - v < fuel → (v ≤ gV g) → (∀ u, u < v → ∀ n, n < 12 → f (12 * u + n) = nI (tallyN (A ++ [q]) u n)) → (∀ u, v ≤ u → u < gV g → ∀ n, n < 12 → f (12 * u + n) = nI (tallyN A u n)) → G0 E X 0 0 46 [.ref 89, .int (nI (A.length + 1)), .int (nI v)] [] (sA w2 123 f) := by
            intro fuel
            induction fuel with
            | zero => intro v f q0; exact absurd q0 (Nat.not_lt_zero _)
            | succ fuel ih =>
              intro v f q0 q1 q2 q3
              refine g_iload2 hX d_M_layFitting_46 ?_
              refine g_aload0 hX d_M_layFitting_47 ?_
              refine g_getF hX d_M_layFitting_48 fl_M_13 (lv_89 _) ?_
              refine g_iconst (v := nI 1) hX d_M_layFitting_51 rfl ?_
              refine g_iald hX d_M_layFitting_52 (lv_91 _) rfl (by decide) ?_
              refine g_topi (show rI (sA w2 123 f) 91 1 = nI (gV g) from (hG.scr hS2).1.v) ?_
              refine g_icmpN_ge hX d_M_layFitting_53 (by omega) (by omega) (fun c0 => ?_) (fun c0 => ?_)
              · refine g_goto hX d_M_layFitting_82 ?_
                refine g_fget 2 ?_
                refine g_loc (show _ = [.ref 89, .int (nI (A ++ [q]).length), un] by rw [List.length_append]; rfl) ?_
                refine ihW t (A ++ [q]) (sA w2 123 f) (by omega) (hS2.A (by decide)) ((q2'.I hf).oA (by decide) (by decide) (by decide)) (qI.oA (by decide) (by decide)) ?_ (by rw [List.append_assoc, ← q5', hqt, List.filter_cons_of_pos e38]; rfl)
                intro u hu n hn
                rw [rI_sA]
                exact q2 u (by omega) n hn
              · have hqv : gA q v < gN g := qn _ (gA_mem (by omega))
                have hts := tally_snoc A q
                refine g_aload0 hX d_M_layFitting_56 ?_
                refine g_getF hX d_M_layFitting_57 fl_M_141 (lv_89 _) ?_
                refine g_bipush (v := nI 12) hX d_M_layFitting_60 rfl ?_
                refine g_iload2 hX d_M_layFitting_62 ?_
                refine g_imulN hX d_M_layFitting_63 ?_
                refine g_aload0 hX d_M_layFitting_64 ?_
                refine g_getF hX d_M_layFitting_65 fl_M_111 (lv_89 _) ?_
                refine g_iload2 hX d_M_layFitting_68 ?_
                refine g_iald hX d_M_layFitting_69 (lv_113 _) rfl (by omega) ?_
                refine g_topi (show rI (sA w2 123 f) 113 v = nI (gA q v) from qL v (by omega)) ?_
                refine g_iaddN hX d_M_layFitting_70 ?_
                refine g_dup2 hX d_M_layFitting_71 rfl rfl ?_
                refine g_iald hX d_M_layFitting_72 (lv_123 _) rfl (by omega) ?_
                refine g_topi (show rI (sA w2 123 f) 123 (12 * v + gA q v) = nI (tallyN A v (gA q v)) by rw [rI_sA]; exact q3 v (Nat.le_refl _) (by omega) _ (by omega)) ?_
                refine g_iconst (v := nI 1) hX d_M_layFitting_73 rfl ?_
                refine g_iaddN hX d_M_layFitting_74 ?_
                refine g_iast hX d_M_layFitting_75 (lv_123 _) rfl (by omega) ?_
                refine g_iincN2 hX d_M_layFitting_76 rfl (by decide) ?_
                refine g_goto hX d_M_layFitting_79 ?_
                rw [sI_sA]
                refine ih (v + 1) _ (by omega) (by omega) (fun u hu n hn => ?_) (fun u h1 h2 n hn => ?_)
                · rw [upd_eq]
                  by_cases e : u = v
                  · subst e
                    by_cases e2 : gA q u = n
                    · rw [if_pos (by omega), hts, if_pos e2, e2]
                    · rw [if_neg (by omega), hts, if_neg e2, q3 u (Nat.le_refl _) (by omega) n hn]; rfl
                  · rw [if_neg (by omega)]; exact q2 u (by omega) n hn
                · rw [upd_eq, if_neg (by omega)]; exact q3 u (by omega) h2 n hn
          refine g_iincN1 hX d_M_layFitting_41 rfl (by decide) ?_
          refine g_iconst (v := nI 0) hX d_M_layFitting_44 rfl ?_
          refine g_istore2 hX d_M_layFitting_45 rfl (by decide) ?_
          refine g_mem (show w2 = sA w2 123 (rI w2 123) from (sA_self _ _).symm) ?_
          exact lpV (gV g + 1) 0 _ (by omega) (Nat.zero_le _) (fun u hu => absurd hu (Nat.not_lt_zero _)) (fun u _ h2 n hn => hTa u h2 n hn)
  have lpI : ∀ (fuel : Nat) (i : Nat) (f : Nat → Int32), 60 - i < fuel → (i ≤ 60) → (∀ j, j < i → f j = nI 0) → G0 E X 0 0 2 [.ref 89, .int (nI i), un] [] (sA w 123 f) := by
    intro fuel
    induction fuel with
    | zero => intro i f q0; exact absurd q0 (Nat.not_lt_zero _)
    | succ fuel ih =>
      intro i f q0 q1 q2
      refine g_iload1 hX d_M_layFitting_2 ?_
      refine g_bipush (v := nI 60) hX d_M_layFitting_3 rfl ?_
      refine g_icmpN_ge hX d_M_layFitting_5 (by omega) (by omega) (fun c0 => ?_) (fun c0 => ?_)
      · have hG2 : MG (sA w 123 f) g := hG.scr ((Scr.rf w).A (by decide))
        refine g_iconst (v := nI 0) hX d_M_layFitting_21 rfl ?_
        refine g_istore1 hX d_M_layFitting_22 rfl (by decide) ?_
        refine g_aload0 hX d_M_layFitting_23 ?_
        refine g_callV (As := []) hX hF.1 d_M_layFitting_24 ml_M_474 cf_M_beginWays cv_M_beginWays rfl rfl (c_M_beginWaysA hG2 hW) (rcv_obj hX (lv_89 _) rfl rfl) (by omega) (by omega) (by omega) (Nat.le_of_ble_eq_true rfl) ?_
        rintro _ w1 ⟨rfl, hfA, hLd, hIt⟩
        show G0 _ _ _ _ _ _ _ _
        refine lpW _ (waysL g) [] w1 (Nat.lt_succ_self _) (((Scr.rf w).A (by decide)).tr hfA.S) hLd hIt (fun v hv n hn => ?_) rfl
        rw [hfA.1 123 (by decide) (by decide) (by decide) (by decide), rI_sA]
        exact q2 _ (by omega)
      · refine g_aload0 hX d_M_layFitting_8 ?_
        refine g_getF hX d_M_layFitting_9 fl_M_141 (lv_89 _) ?_
        refine g_iload1 hX d_M_layFitting_12 ?_
        refine g_iconst (v := nI 0) hX d_M_layFitting_13 rfl ?_
        refine g_iast hX d_M_layFitting_14 (lv_123 _) rfl (by omega) ?_
        refine g_iincN1 hX d_M_layFitting_15 rfl (by decide) ?_
        refine g_goto hX d_M_layFitting_18 ?_
        rw [sI_sA]
        refine ih (i + 1) _ (by omega) (by omega) (fun j hj => ?_)
        rw [upd_eq]
        by_cases e : j = i
        · rw [if_pos e]
        · rw [if_neg e]; exact q2 j (by omega)
  refine g_iconst (v := nI 0) hX d_M_layFitting_0 rfl ?_
  refine g_istore1 hX d_M_layFitting_1 rfl (by decide) ?_
  refine g_mem (show w = sA w 123 (rI w 123) from (sA_self _ _).symm) ?_
  exact lpI 61 0 _ (by omega) (Nat.zero_le _) (fun j hj => absurd hj (Nat.not_lt_zero _))
theorem c_M_fitting {E : EV} {w : Mem} {s : SG} (h : MInv w s) : T E m_M_fitting 8 0 0 [.ref 89] w (fun r w2 => r = some (.int (opFitting (sG s))) ∧ MInv w2 s ∧ FrM w w2) := by
  refine T_of (L := [.ref 89]) cf_M_fitting rfl (Nat.le_of_ble_eq_true rfl) (fun X hX hF => ?_)
  obtain ⟨⟨hR, hL, hW⟩, hU, hT, hI, hRf, hSt, hFa, hSm, hSp, hDr, hOr⟩ := id h
  have hn := hW.n
  have hv := hW.v
  have he := hW.el
  refine g_aload0 hX d_M_fitting_0 ?_
  refine g_iconst (v := nI 0) hX d_M_fitting_1 rfl ?_
  refine g_putI hX d_M_fitting_2 fl_M_170 (lv_89 _) ?_
  have hMG : MG (sI w 89 0 (nI 0)) (sG s) := ⟨hR, hL, hOr⟩
  have hS0 : Scr w (sI w 89 0 (nI 0)) := (by repeat (first | exact Scr.rf _ | refine Scr.I9 (by decide) ?_ | refine Scr.I (by decide) ?_ | refine Scr.A (by decide) ?_ | refine Scr.J9 ?_ | refine Scr.J (by decide) ?_ | refine Scr.B (by decide) ?_))
  refine g_aload0 hX d_M_fitting_5 ?_
  refine g_callV (As := []) hX hF.1 d_M_fitting_6 ml_M_555 cf_M_layFitting cv_M_layFitting rfl rfl (c_M_layFitting (w := sI w 89 0 (nI 0)) hMG hW) (rcv_obj hX (lv_89 _) rfl rfl) (by omega) (by omega) (by omega) (Nat.le_of_ble_eq_true rfl) ?_
  rintro _ w1 ⟨rfl, hS, hTa⟩
  show G0 _ _ _ _ _ _ _ _
  refine g_iret hX hF d_M_fitting_9 (by omega) (by omega) ?_
  exact ⟨rfl, h.keep (hS0.tr hS), (hS0.tr hS).1⟩
theorem look_m {a b c d e : Value} {x y n : Nat} (h : x = y) : ([a, b, c, d, e, .int (nI y), .int (nI n)] : List Value) = [a, b, c, d, e, .int (nI x), .int (nI n)] := by rw [h]
theorem look_v {a b : Value} {x y : Int32 × Nat} {v : Nat} (h : x = y) : ([a, b, .int (nI y.2), .int y.1, .int (nI v), un, un] : List Value) = [a, b, .int (nI x.2), .int x.1, .int (nI v), un, un] := by rw [h]
theorem c_M_look {E : EV} {w : Mem} {x : Int32} {s : SG} (h : MInv w s) : T E m_M_look 8 0 0 [.ref 89, .int x] w (fun r w2 => r = some (.int (opLook x (sG s))) ∧ MInv w2 s ∧ FrM w w2) := by
  refine T_of (L := [.ref 89, .int x, un, un, un, un, un]) cf_M_look rfl (Nat.le_of_ble_eq_true rfl) (fun X hX hF => ?_)
  obtain ⟨⟨hR, hL, hW⟩, hU, hT, hI, hRf, hSt, hFa, hSm, hSp, hDr, hOr⟩ := id h
  have hn := hW.n
  have hv := hW.v
  have he := hW.el
  have hMG0 : MG w (sG s) := ⟨hR, hL, hOr⟩
  have hfn := fitting_num hW
  refine g_aload0 hX d_M_look_0 ?_
  refine g_iconst (v := nI 0) hX d_M_look_1 rfl ?_
  refine g_putI hX d_M_look_2 fl_M_170 (lv_89 _) ?_
  refine g_iload1 hX d_M_look_5 ?_
  refine g_i2l hX d_M_look_6 ?_
  refine g_lconst (v := lN 0) hX d_M_look_7 rfl ?_
  refine g_lconst (v := lN 1) hX d_M_look_8 rfl ?_
  refine g_callS (As := [_, _, _]) hX hF.1 d_M_look_9 ml_M_190 cf_M_in cs_M_in rfl (c_M_in) (by omega) (by omega) (by omega) (Nat.le_of_ble_eq_true rfl) ?_
  refine ret_k ?_
  refine g_ifB_eq hX d_M_look_12 (fun e12 => ?_) (fun e12 => ?_)
  · have hx2 := mt (in_le (by decide)).mpr e12
    refine g_iconst (v := -1) hX d_M_look_22 rfl ?_
    refine g_iret hX hF d_M_look_23 (by omega) (by omega) ?_
    first
      | exact ⟨by rw [look_no (Or.inl hx2)], h.keep (by repeat (first | exact Scr.rf _ | refine Scr.I9 (by decide) ?_ | refine Scr.I (by decide) ?_ | refine Scr.A (by decide) ?_ | refine Scr.J9 ?_ | refine Scr.J (by decide) ?_ | refine Scr.B (by decide) ?_)), (by repeat (first | exact FrM.rf _ | refine FrM.I (by decide) ?_ | refine FrM.A (by decide) ?_ | refine FrM.B (by decide) ?_ | refine FrM.J9 ?_ | refine FrM.J (by decide) ?_))⟩
      | exact ⟨by rw [look_no (Or.inr hfl)], h.keep (hS0.tr hS), (hS0.tr hS).1⟩
  · have hx2 := (in_le (by decide)).mp e12
    have hMG : MG (sI w 89 0 (nI 0)) (sG s) := ⟨hR, hL, hOr⟩
    have hS0 : Scr w (sI w 89 0 (nI 0)) := (by repeat (first | exact Scr.rf _ | refine Scr.I9 (by decide) ?_ | refine Scr.I (by decide) ?_ | refine Scr.A (by decide) ?_ | refine Scr.J9 ?_ | refine Scr.J (by decide) ?_ | refine Scr.B (by decide) ?_))
    refine g_aload0 hX d_M_look_15 ?_
    refine g_callV (As := []) hX hF.1 d_M_look_16 ml_M_555 cf_M_layFitting cv_M_layFitting rfl rfl (c_M_layFitting (w := sI w 89 0 (nI 0)) hMG hW) (rcv_obj hX (lv_89 _) rfl rfl) (by omega) (by omega) (by omega) (Nat.le_of_ble_eq_true rfl) ?_
    rintro _ w1 ⟨rfl, hS, hTa⟩
    show G0 _ _ _ _ _ _ _ _
    refine g_if_ne hX d_M_look_19 (fun e19 => ?_) (fun e19 => ?_)
    · have hfl : ¬ (fittingL (sG s)).length = 0 := fun z => e19 (by rw [z]; rfl)
      have hMG1 := hMG.scr hS
      have lpV : ∀ (fuel : Nat) (v : Nat), gV (sG s) - v < fuel → (v ≤ gV (sG s)) → G0 E X 0 0 33 [.ref 89, .int x, .int (nI (lookN (fittingL (sG s)) v).2), .int (lookN (fittingL (sG s)) v).1, .int (nI v), un, un] [] w1 := by
        intro fuel
        induction fuel with
        | zero => intro v q0; exact absurd q0 (Nat.not_lt_zero _)
        | succ fuel ih =>
          intro v q0 q1
          refine g_iload4 hX d_M_look_33 ?_
          refine g_aload0 hX d_M_look_35 ?_
          refine g_getF hX d_M_look_36 fl_M_13 (lv_89 _) ?_
          refine g_iconst (v := nI 1) hX d_M_look_39 rfl ?_
          refine g_iald hX d_M_look_40 (lv_91 _) rfl (by decide) ?_
          refine g_topi hMG1.1.v ?_
          refine g_icmpN_ge hX d_M_look_41 (by omega) (by omega) (fun c0 => ?_) (fun c0 => ?_)
          · have hvv : v = gV (sG s) := by omega
            subst hvv
            refine g_iload3 hX d_M_look_133 ?_
            refine g_iconst (v := -1) hX d_M_look_134 rfl ?_
            refine g_icmp_eq hX d_M_look_135 (fun e135 => ?_) (fun e135 => ?_)
            · refine g_iload3 hX d_M_look_142 ?_
              refine g_goto hX d_M_look_143 ?_
              refine g_iret hX hF d_M_look_147 (by omega) (by omega) ?_
              refine ⟨?_, h.keep (hS0.tr hS), (hS0.tr hS).1⟩
              first
                | rw [look_a hx2 hfl (Or.inl e135)]
                | rw [look_a hx2 hfl (Or.inr e139)]
                | rw [look_b hx2 hfl (fun z => z.elim e135 e139)]
            · refine g_iload1 hX d_M_look_138 ?_
              refine g_if_ne hX d_M_look_139 (fun e139 => ?_) (fun e139 => ?_)
              · refine g_iload2 hX d_M_look_146 ?_
                refine g_iret hX hF d_M_look_147 (by omega) (by omega) ?_
                refine ⟨?_, h.keep (hS0.tr hS), (hS0.tr hS).1⟩
                first
                  | rw [look_a hx2 hfl (Or.inl e135)]
                  | rw [look_a hx2 hfl (Or.inr e139)]
                  | rw [look_b hx2 hfl (fun z => z.elim e135 e139)]
              · refine g_iload3 hX d_M_look_142 ?_
                refine g_goto hX d_M_look_143 ?_
                refine g_iret hX hF d_M_look_147 (by omega) (by omega) ?_
                refine ⟨?_, h.keep (hS0.tr hS), (hS0.tr hS).1⟩
                first
                  | rw [look_a hx2 hfl (Or.inl e135)]
                  | rw [look_a hx2 hfl (Or.inr e139)]
                  | rw [look_b hx2 hfl (fun z => z.elim e135 e139)]
          · have ihV := ih
            have lpN : ∀ (fuel : Nat) (n : Nat), 12 - n < fuel → (n ≤ 12) → G0 E X 0 0 50 [.ref 89, .int x, .int (nI (lookN (fittingL (sG s)) v).2), .int (lookN (fittingL (sG s)) v).1, .int (nI v), .int (nI (mostN (fittingL (sG s)) v n)), .int (nI n)] [] w1 := by
              intro fuel
              induction fuel with
              | zero => intro n q0; exact absurd q0 (Nat.not_lt_zero _)
              | succ fuel ih =>
                intro n q0 q1
                refine g_iload6 hX d_M_look_50 ?_
                refine g_bipush (v := nI 12) hX d_M_look_52 rfl ?_
                refine g_icmpN_ge hX d_M_look_54 (by omega) (by omega) (fun c0 => ?_) (fun c0 => ?_)
                · have hn12 : n = 12 := by omega
                  subst hn12
                  have hmo := most_le (fittingL (sG s)) v 12
                  have hlo := look_le (fittingL (sG s)) v
                  refine g_iload5 hX d_M_look_101 ?_
                  refine g_iload2 hX d_M_look_103 ?_
                  refine g_icmpN_ge hX d_M_look_104 (by omega) (by omega) (fun e104 => ?_) (fun e104 => ?_)
                  · refine g_iload3 hX d_M_look_112 ?_
                    refine g_istore3 hX d_M_look_113 rfl (by decide) ?_
                    refine g_iload5 hX d_M_look_114 ?_
                    refine g_iload2 hX d_M_look_116 ?_
                    refine g_icmpN_ge hX d_M_look_117 (by omega) (by omega) (fun c2 => ?_) (fun h => absurd h (by omega))
                    refine g_iload2 hX d_M_look_125 ?_
                    refine g_istore2 hX d_M_look_126 rfl (by decide) ?_
                    refine g_iincN4 hX d_M_look_127 rfl (by decide) ?_
                    refine g_goto hX d_M_look_130 ?_
                    refine g_fget 5 ?_
                    refine g_fget 6 ?_
                    refine g_loc (look_v (show lookN (fittingL (sG s)) (v + 1) = lookN (fittingL (sG s)) v by rw [lookN, if_neg (by omega)])) ?_
                    exact ihV (v + 1) (by omega) (by omega)
                  · refine g_iload4 hX d_M_look_107 ?_
                    refine g_goto hX d_M_look_109 ?_
                    refine g_istore3 hX d_M_look_113 rfl (by decide) ?_
                    refine g_iload5 hX d_M_look_114 ?_
                    refine g_iload2 hX d_M_look_116 ?_
                    refine g_icmpN_ge hX d_M_look_117 (by omega) (by omega) (fun h => absurd h (by omega)) (fun c3 => ?_)
                    refine g_iload5 hX d_M_look_120 ?_
                    refine g_goto hX d_M_look_122 ?_
                    refine g_istore2 hX d_M_look_126 rfl (by decide) ?_
                    refine g_iincN4 hX d_M_look_127 rfl (by decide) ?_
                    refine g_goto hX d_M_look_130 ?_
                    refine g_fget 5 ?_
                    refine g_fget 6 ?_
                    refine g_loc (look_v (show lookN (fittingL (sG s)) (v + 1) = (nI v, mostN (fittingL (sG s)) v 12) by rw [lookN, if_pos e104])) ?_
                    exact ihV (v + 1) (by omega) (by omega)
                · have htl := tally_le (fittingL (sG s)) v n
                  have hmo := most_le (fittingL (sG s)) v n
                  refine g_aload0 hX d_M_look_57 ?_
                  refine g_getF hX d_M_look_58 fl_M_141 (lv_89 _) ?_
                  refine g_bipush (v := nI 12) hX d_M_look_61 rfl ?_
                  refine g_iload4 hX d_M_look_63 ?_
                  refine g_imulN hX d_M_look_65 ?_
                  refine g_iload6 hX d_M_look_66 ?_
                  refine g_iaddN hX d_M_look_68 ?_
                  refine g_iald hX d_M_look_69 (lv_123 _) rfl (by omega) ?_
                  refine g_topi (hTa v (by omega) n (by omega)) ?_
                  refine g_iload5 hX d_M_look_70 ?_
                  refine g_icmpN_le hX d_M_look_72 (by omega) (by omega) (fun e72 => ?_) (fun e72 => ?_)
                  · refine g_iload5 hX d_M_look_91 ?_
                    refine g_istore5 hX d_M_look_93 rfl (by decide) ?_
                    refine g_iincN6 hX d_M_look_95 rfl (by decide) ?_
                    refine g_goto hX d_M_look_98 ?_
                    refine g_loc (look_m (show mostN (fittingL (sG s)) v (n + 1) = mostN (fittingL (sG s)) v n by rw [mostN, if_neg (by omega)])) ?_
                    exact ih (n + 1) (by omega) (by omega)
                  · refine g_aload0 hX d_M_look_75 ?_
                    refine g_getF hX d_M_look_76 fl_M_141 (lv_89 _) ?_
                    refine g_bipush (v := nI 12) hX d_M_look_79 rfl ?_
                    refine g_iload4 hX d_M_look_81 ?_
                    refine g_imulN hX d_M_look_83 ?_
                    refine g_iload6 hX d_M_look_84 ?_
                    refine g_iaddN hX d_M_look_86 ?_
                    refine g_iald hX d_M_look_87 (lv_123 _) rfl (by omega) ?_
                    refine g_topi (hTa v (by omega) n (by omega)) ?_
                    refine g_goto hX d_M_look_88 ?_
                    refine g_istore5 hX d_M_look_93 rfl (by decide) ?_
                    refine g_iincN6 hX d_M_look_95 rfl (by decide) ?_
                    refine g_goto hX d_M_look_98 ?_
                    refine g_loc (look_m (show mostN (fittingL (sG s)) v (n + 1) = tallyN (fittingL (sG s)) v n by rw [mostN, if_pos e72])) ?_
                    exact ih (n + 1) (by omega) (by omega)
            refine g_iconst (v := nI 0) hX d_M_look_44 rfl ?_
            refine g_istore5 hX d_M_look_45 rfl (by decide) ?_
            refine g_iconst (v := nI 0) hX d_M_look_47 rfl ?_
            refine g_istore6 hX d_M_look_48 rfl (by decide) ?_
            exact lpN 13 0 (by omega) (Nat.zero_le _)
      refine g_ldc_w (v := nI 100000000) hX d_M_look_24 k_M_498 rfl ?_
      refine g_istore2 hX d_M_look_27 rfl (by decide) ?_
      refine g_iconst (v := -1) hX d_M_look_28 rfl ?_
      refine g_istore3 hX d_M_look_29 rfl (by decide) ?_
      refine g_iconst (v := nI 0) hX d_M_look_30 rfl ?_
      refine g_istore4 hX d_M_look_31 rfl (by decide) ?_
      exact lpV (gV (sG s) + 1) 0 (by omega) (Nat.zero_le _)
    · have hfl : (fittingL (sG s)).length = 0 := nI_inj (by omega) (by decide) e19
      refine g_iconst (v := -1) hX d_M_look_22 rfl ?_
      refine g_iret hX hF d_M_look_23 (by omega) (by omega) ?_
      first
        | exact ⟨by rw [look_no (Or.inl hx2)], h.keep (by repeat (first | exact Scr.rf _ | refine Scr.I9 (by decide) ?_ | refine Scr.I (by decide) ?_ | refine Scr.A (by decide) ?_ | refine Scr.J9 ?_ | refine Scr.J (by decide) ?_ | refine Scr.B (by decide) ?_)), (by repeat (first | exact FrM.rf _ | refine FrM.I (by decide) ?_ | refine FrM.A (by decide) ?_ | refine FrM.B (by decide) ?_ | refine FrM.J9 ?_ | refine FrM.J (by decide) ?_))⟩
        | exact ⟨by rw [look_no (Or.inr hfl)], h.keep (hS0.tr hS), (hS0.tr hS).1⟩
