def m_Wa_alikeBehind : MR := (⟨"SubgraphDesk$Walker", "alikeBehind", "()I"⟩, prog_12_method_6_code, 1, (some .int))
theorem cf_Wa_alikeBehind : CF m_Wa_alikeBehind 0 := ⟨gd 1057 (by decide +kernel) rfl, gd 146 (by decide +kernel) rfl, by decide +kernel, by decide, by decide +kernel⟩
theorem cv_Wa_alikeBehind : CV m_Wa_alikeBehind := ⟨gd 1056 (by decide +kernel) rfl, gd 25 (by decide +kernel) rfl⟩
def m_Wa_countAll : MR := (⟨"SubgraphDesk$Walker", "countAll", "()I"⟩, prog_12_method_8_code, 3, (some .int))
theorem cf_Wa_countAll : CF m_Wa_countAll 0 := ⟨gd 1040 (by decide +kernel) rfl, gd 146 (by decide +kernel) rfl, by decide +kernel, by decide, by decide +kernel⟩
theorem cv_Wa_countAll : CV m_Wa_countAll := ⟨gd 1038 (by decide +kernel) rfl, gd 1039 (by decide +kernel) rfl⟩
def m_Wa_countSteps : MR := (⟨"SubgraphDesk$Walker", "countSteps", "()I"⟩, prog_12_method_9_code, 1, (some .int))
theorem cf_Wa_countSteps : CF m_Wa_countSteps 0 := ⟨gd 1307 (by decide +kernel) rfl, gd 146 (by decide +kernel) rfl, by decide +kernel, by decide, by decide +kernel⟩
theorem cv_Wa_countSteps : CV m_Wa_countSteps := ⟨gd 1305 (by decide +kernel) rfl, gd 1306 (by decide +kernel) rfl⟩
def m_Wa_goTo : MR := (⟨"SubgraphDesk$Walker", "goTo", "(I)Z"⟩, prog_12_method_10_code, 6, (some .boolean))
theorem cf_Wa_goTo : CF m_Wa_goTo 1 := ⟨gd 1179 (by decide +kernel) rfl, gd 146 (by decide +kernel) rfl, by decide +kernel, by decide, by decide +kernel⟩
theorem cv_Wa_goTo : CV m_Wa_goTo := ⟨gd 1177 (by decide +kernel) rfl, gd 1178 (by decide +kernel) rfl⟩
def m_Wa_skipAlike : MR := (⟨"SubgraphDesk$Walker", "skipAlike", "()V"⟩, prog_12_method_7_code, 1, none)
theorem cf_Wa_skipAlike : CF m_Wa_skipAlike 0 := ⟨gd 1061 (by decide +kernel) rfl, gd 146 (by decide +kernel) rfl, by decide +kernel, by decide, by decide +kernel⟩
theorem cv_Wa_skipAlike : CV m_Wa_skipAlike := ⟨gd 1060 (by decide +kernel) rfl, gd 26 (by decide +kernel) rfl⟩
def m_Wa_start : MR := (⟨"SubgraphDesk$Walker", "start", "(LSubgraphDesk$Board;[I)V"⟩, prog_12_method_2_code, 3, none)
theorem cf_Wa_start : CF m_Wa_start 2 := ⟨gd 1031 (by decide +kernel) rfl, gd 146 (by decide +kernel) rfl, by decide +kernel, by decide, by decide +kernel⟩
theorem cv_Wa_start : CV m_Wa_start := ⟨gd 1029 (by decide +kernel) rfl, gd 1030 (by decide +kernel) rfl⟩
theorem d_Wa_alikeBehind_0 : Dc prog_12_method_6_code 0 (.aload_n 0) 1 1 := ⟨by decide +kernel, rfl⟩
theorem d_Wa_alikeBehind_1 : Dc prog_12_method_6_code 1 (.getfield 41) 3 4 := ⟨by decide +kernel, rfl⟩
theorem d_Wa_alikeBehind_4 : Dj prog_12_method_6_code 4 (.ifCond .lt 18) 7 18 22 := ⟨by decide +kernel, rfl, rfl⟩
theorem d_Wa_alikeBehind_7 : Dc prog_12_method_6_code 7 (.aload_n 0) 1 8 := ⟨by decide +kernel, rfl⟩
theorem d_Wa_alikeBehind_8 : Dc prog_12_method_6_code 8 (.getfield 15) 3 11 := ⟨by decide +kernel, rfl⟩
theorem d_Wa_alikeBehind_11 : Dc prog_12_method_6_code 11 (.aload_n 0) 1 12 := ⟨by decide +kernel, rfl⟩
theorem d_Wa_alikeBehind_12 : Dc prog_12_method_6_code 12 (.getfield 41) 3 15 := ⟨by decide +kernel, rfl⟩
theorem d_Wa_alikeBehind_15 : Dc prog_12_method_6_code 15 (.iaload) 1 16 := ⟨by decide +kernel, rfl⟩
theorem d_Wa_alikeBehind_16 : Dc prog_12_method_6_code 16 (.invokestatic 63) 3 19 := ⟨by decide +kernel, rfl⟩
theorem d_Wa_alikeBehind_19 : Dj prog_12_method_6_code 19 (.goto 4) 22 4 23 := ⟨by decide +kernel, rfl, rfl⟩
theorem d_Wa_alikeBehind_22 : Dc prog_12_method_6_code 22 (.iconst 0) 1 23 := ⟨by decide +kernel, rfl⟩
theorem d_Wa_alikeBehind_23 : Dc prog_12_method_6_code 23 (.ireturn) 1 24 := ⟨by decide +kernel, rfl⟩
theorem d_Wa_countAll_0 : Dc prog_12_method_8_code 0 (.iconst 0) 1 1 := ⟨by decide +kernel, rfl⟩
theorem d_Wa_countAll_1 : Dc prog_12_method_8_code 1 (.istore_n 1) 1 2 := ⟨by decide +kernel, rfl⟩
theorem d_Wa_countAll_2 : Dc prog_12_method_8_code 2 (.iconst 0) 1 3 := ⟨by decide +kernel, rfl⟩
theorem d_Wa_countAll_3 : Dc prog_12_method_8_code 3 (.istore_n 2) 1 4 := ⟨by decide +kernel, rfl⟩
theorem d_Wa_countAll_4 : Dc prog_12_method_8_code 4 (.iload_n 2) 1 5 := ⟨by decide +kernel, rfl⟩
theorem d_Wa_countAll_5 : Dc prog_12_method_8_code 5 (.ldc 69) 2 7 := ⟨by decide +kernel, rfl⟩
theorem d_Wa_countAll_7 : Dj prog_12_method_8_code 7 (.if_icmp .ge 29) 10 29 36 := ⟨by decide +kernel, rfl, rfl⟩
theorem d_Wa_countAll_10 : Dc prog_12_method_8_code 10 (.aload_n 0) 1 11 := ⟨by decide +kernel, rfl⟩
theorem d_Wa_countAll_11 : Dc prog_12_method_8_code 11 (.invokevirtual 76) 3 14 := ⟨by decide +kernel, rfl⟩
theorem d_Wa_countAll_14 : Dj prog_12_method_8_code 14 (.ifCond .eq 22) 17 22 36 := ⟨by decide +kernel, rfl, rfl⟩
theorem d_Wa_countAll_17 : Dc prog_12_method_8_code 17 (.iload_n 1) 1 18 := ⟨by decide +kernel, rfl⟩
theorem d_Wa_countAll_18 : Dc prog_12_method_8_code 18 (.iconst 1) 1 19 := ⟨by decide +kernel, rfl⟩
theorem d_Wa_countAll_19 : Dc prog_12_method_8_code 19 (.aload_n 0) 1 20 := ⟨by decide +kernel, rfl⟩
theorem d_Wa_countAll_20 : Dc prog_12_method_8_code 20 (.invokevirtual 80) 3 23 := ⟨by decide +kernel, rfl⟩
theorem d_Wa_countAll_23 : Dc prog_12_method_8_code 23 (.iadd) 1 24 := ⟨by decide +kernel, rfl⟩
theorem d_Wa_countAll_24 : Dc prog_12_method_8_code 24 (.iadd) 1 25 := ⟨by decide +kernel, rfl⟩
theorem d_Wa_countAll_25 : Dc prog_12_method_8_code 25 (.istore_n 1) 1 26 := ⟨by decide +kernel, rfl⟩
theorem d_Wa_countAll_26 : Dc prog_12_method_8_code 26 (.aload_n 0) 1 27 := ⟨by decide +kernel, rfl⟩
theorem d_Wa_countAll_27 : Dc prog_12_method_8_code 27 (.invokevirtual 84) 3 30 := ⟨by decide +kernel, rfl⟩
theorem d_Wa_countAll_30 : Dc prog_12_method_8_code 30 (.iinc 2 1) 3 33 := ⟨by decide +kernel, rfl⟩
theorem d_Wa_countAll_33 : Dj prog_12_method_8_code 33 (.goto (-29)) 36 (-29) 4 := ⟨by decide +kernel, rfl, rfl⟩
theorem d_Wa_countAll_36 : Dc prog_12_method_8_code 36 (.iload_n 1) 1 37 := ⟨by decide +kernel, rfl⟩
theorem d_Wa_countAll_37 : Dc prog_12_method_8_code 37 (.ireturn) 1 38 := ⟨by decide +kernel, rfl⟩
theorem d_Wa_countSteps_0 : Dc prog_12_method_9_code 0 (.aload_n 0) 1 1 := ⟨by decide +kernel, rfl⟩
theorem d_Wa_countSteps_1 : Dc prog_12_method_9_code 1 (.invokevirtual 87) 3 4 := ⟨by decide +kernel, rfl⟩
theorem d_Wa_countSteps_4 : Dc prog_12_method_9_code 4 (.pop) 1 5 := ⟨by decide +kernel, rfl⟩
theorem d_Wa_countSteps_5 : Dc prog_12_method_9_code 5 (.aload_n 0) 1 6 := ⟨by decide +kernel, rfl⟩
theorem d_Wa_countSteps_6 : Dc prog_12_method_9_code 6 (.getfield 38) 3 9 := ⟨by decide +kernel, rfl⟩
theorem d_Wa_countSteps_9 : Dc prog_12_method_9_code 9 (.ireturn) 1 10 := ⟨by decide +kernel, rfl⟩
theorem d_Wa_goTo_0 : Dc prog_12_method_10_code 0 (.iload_n 1) 1 1 := ⟨by decide +kernel, rfl⟩
theorem d_Wa_goTo_1 : Dj prog_12_method_10_code 1 (.ifCond .ge 5) 4 5 6 := ⟨by decide +kernel, rfl, rfl⟩
theorem d_Wa_goTo_4 : Dc prog_12_method_10_code 4 (.iconst 0) 1 5 := ⟨by decide +kernel, rfl⟩
theorem d_Wa_goTo_5 : Dc prog_12_method_10_code 5 (.ireturn) 1 6 := ⟨by decide +kernel, rfl⟩
theorem d_Wa_goTo_6 : Dc prog_12_method_10_code 6 (.iconst 0) 1 7 := ⟨by decide +kernel, rfl⟩
theorem d_Wa_goTo_7 : Dc prog_12_method_10_code 7 (.istore_n 2) 1 8 := ⟨by decide +kernel, rfl⟩
theorem d_Wa_goTo_8 : Dc prog_12_method_10_code 8 (.iconst 0) 1 9 := ⟨by decide +kernel, rfl⟩
theorem d_Wa_goTo_9 : Dc prog_12_method_10_code 9 (.istore_n 3) 1 10 := ⟨by decide +kernel, rfl⟩
theorem d_Wa_goTo_10 : Dc prog_12_method_10_code 10 (.iload_n 3) 1 11 := ⟨by decide +kernel, rfl⟩
theorem d_Wa_goTo_11 : Dc prog_12_method_10_code 11 (.ldc 69) 2 13 := ⟨by decide +kernel, rfl⟩
theorem d_Wa_goTo_13 : Dj prog_12_method_10_code 13 (.if_icmp .ge 63) 16 63 76 := ⟨by decide +kernel, rfl, rfl⟩
theorem d_Wa_goTo_16 : Dc prog_12_method_10_code 16 (.aload_n 0) 1 17 := ⟨by decide +kernel, rfl⟩
theorem d_Wa_goTo_17 : Dc prog_12_method_10_code 17 (.invokevirtual 76) 3 20 := ⟨by decide +kernel, rfl⟩
theorem d_Wa_goTo_20 : Dj prog_12_method_10_code 20 (.ifCond .eq 56) 23 56 76 := ⟨by decide +kernel, rfl, rfl⟩
theorem d_Wa_goTo_23 : Dc prog_12_method_10_code 23 (.aload_n 0) 1 24 := ⟨by decide +kernel, rfl⟩
theorem d_Wa_goTo_24 : Dc prog_12_method_10_code 24 (.invokevirtual 80) 3 27 := ⟨by decide +kernel, rfl⟩
theorem d_Wa_goTo_27 : Dc prog_12_method_10_code 27 (.istore 4) 2 29 := ⟨by decide +kernel, rfl⟩
theorem d_Wa_goTo_29 : Dc prog_12_method_10_code 29 (.iload_n 1) 1 30 := ⟨by decide +kernel, rfl⟩
theorem d_Wa_goTo_30 : Dc prog_12_method_10_code 30 (.iload_n 2) 1 31 := ⟨by decide +kernel, rfl⟩
theorem d_Wa_goTo_31 : Dc prog_12_method_10_code 31 (.iload 4) 2 33 := ⟨by decide +kernel, rfl⟩
theorem d_Wa_goTo_33 : Dc prog_12_method_10_code 33 (.iadd) 1 34 := ⟨by decide +kernel, rfl⟩
theorem d_Wa_goTo_34 : Dj prog_12_method_10_code 34 (.if_icmp .gt 25) 37 25 59 := ⟨by decide +kernel, rfl, rfl⟩
theorem d_Wa_goTo_37 : Dc prog_12_method_10_code 37 (.iload_n 2) 1 38 := ⟨by decide +kernel, rfl⟩
theorem d_Wa_goTo_38 : Dc prog_12_method_10_code 38 (.istore 5) 2 40 := ⟨by decide +kernel, rfl⟩
theorem d_Wa_goTo_40 : Dc prog_12_method_10_code 40 (.iload 5) 2 42 := ⟨by decide +kernel, rfl⟩
theorem d_Wa_goTo_42 : Dc prog_12_method_10_code 42 (.iload_n 1) 1 43 := ⟨by decide +kernel, rfl⟩
theorem d_Wa_goTo_43 : Dj prog_12_method_10_code 43 (.if_icmp .ge 14) 46 14 57 := ⟨by decide +kernel, rfl, rfl⟩
theorem d_Wa_goTo_46 : Dc prog_12_method_10_code 46 (.aload_n 0) 1 47 := ⟨by decide +kernel, rfl⟩
theorem d_Wa_goTo_47 : Dc prog_12_method_10_code 47 (.invokevirtual 76) 3 50 := ⟨by decide +kernel, rfl⟩
theorem d_Wa_goTo_50 : Dc prog_12_method_10_code 50 (.pop) 1 51 := ⟨by decide +kernel, rfl⟩
theorem d_Wa_goTo_51 : Dc prog_12_method_10_code 51 (.iinc 5 1) 3 54 := ⟨by decide +kernel, rfl⟩
theorem d_Wa_goTo_54 : Dj prog_12_method_10_code 54 (.goto (-14)) 57 (-14) 40 := ⟨by decide +kernel, rfl, rfl⟩
theorem d_Wa_goTo_57 : Dc prog_12_method_10_code 57 (.iconst 1) 1 58 := ⟨by decide +kernel, rfl⟩
theorem d_Wa_goTo_58 : Dc prog_12_method_10_code 58 (.ireturn) 1 59 := ⟨by decide +kernel, rfl⟩
theorem d_Wa_goTo_59 : Dc prog_12_method_10_code 59 (.iload_n 2) 1 60 := ⟨by decide +kernel, rfl⟩
theorem d_Wa_goTo_60 : Dc prog_12_method_10_code 60 (.iconst 1) 1 61 := ⟨by decide +kernel, rfl⟩
theorem d_Wa_goTo_61 : Dc prog_12_method_10_code 61 (.iload 4) 2 63 := ⟨by decide +kernel, rfl⟩
theorem d_Wa_goTo_63 : Dc prog_12_method_10_code 63 (.iadd) 1 64 := ⟨by decide +kernel, rfl⟩
theorem d_Wa_goTo_64 : Dc prog_12_method_10_code 64 (.iadd) 1 65 := ⟨by decide +kernel, rfl⟩
theorem d_Wa_goTo_65 : Dc prog_12_method_10_code 65 (.istore_n 2) 1 66 := ⟨by decide +kernel, rfl⟩
theorem d_Wa_goTo_66 : Dc prog_12_method_10_code 66 (.aload_n 0) 1 67 := ⟨by decide +kernel, rfl⟩
theorem d_Wa_goTo_67 : Dc prog_12_method_10_code 67 (.invokevirtual 84) 3 70 := ⟨by decide +kernel, rfl⟩
theorem d_Wa_goTo_70 : Dc prog_12_method_10_code 70 (.iinc 3 1) 3 73 := ⟨by decide +kernel, rfl⟩
theorem d_Wa_goTo_73 : Dj prog_12_method_10_code 73 (.goto (-63)) 76 (-63) 10 := ⟨by decide +kernel, rfl, rfl⟩
theorem d_Wa_goTo_76 : Dc prog_12_method_10_code 76 (.iconst 0) 1 77 := ⟨by decide +kernel, rfl⟩
theorem d_Wa_goTo_77 : Dc prog_12_method_10_code 77 (.ireturn) 1 78 := ⟨by decide +kernel, rfl⟩
theorem d_Wa_skipAlike_0 : Dc prog_12_method_7_code 0 (.aload_n 0) 1 1 := ⟨by decide +kernel, rfl⟩
theorem d_Wa_skipAlike_1 : Dc prog_12_method_7_code 1 (.getfield 41) 3 4 := ⟨by decide +kernel, rfl⟩
theorem d_Wa_skipAlike_4 : Dj prog_12_method_7_code 4 (.ifCond .lt 13) 7 13 17 := ⟨by decide +kernel, rfl, rfl⟩
theorem d_Wa_skipAlike_7 : Dc prog_12_method_7_code 7 (.aload_n 0) 1 8 := ⟨by decide +kernel, rfl⟩
theorem d_Wa_skipAlike_8 : Dc prog_12_method_7_code 8 (.getfield 15) 3 11 := ⟨by decide +kernel, rfl⟩
theorem d_Wa_skipAlike_11 : Dc prog_12_method_7_code 11 (.aload_n 0) 1 12 := ⟨by decide +kernel, rfl⟩
theorem d_Wa_skipAlike_12 : Dc prog_12_method_7_code 12 (.getfield 41) 3 15 := ⟨by decide +kernel, rfl⟩
theorem d_Wa_skipAlike_15 : Dc prog_12_method_7_code 15 (.iconst 0) 1 16 := ⟨by decide +kernel, rfl⟩
theorem d_Wa_skipAlike_16 : Dc prog_12_method_7_code 16 (.iastore) 1 17 := ⟨by decide +kernel, rfl⟩
theorem d_Wa_skipAlike_17 : Dc prog_12_method_7_code 17 (.return_) 1 18 := ⟨by decide +kernel, rfl⟩
theorem d_Wa_start_0 : Dc prog_12_method_2_code 0 (.aload_n 0) 1 1 := ⟨by decide +kernel, rfl⟩
theorem d_Wa_start_1 : Dc prog_12_method_2_code 1 (.aload_n 1) 1 2 := ⟨by decide +kernel, rfl⟩
theorem d_Wa_start_2 : Dc prog_12_method_2_code 2 (.putfield 27) 3 5 := ⟨by decide +kernel, rfl⟩
theorem d_Wa_start_5 : Dc prog_12_method_2_code 5 (.aload_n 0) 1 6 := ⟨by decide +kernel, rfl⟩
theorem d_Wa_start_6 : Dc prog_12_method_2_code 6 (.aload_n 2) 1 7 := ⟨by decide +kernel, rfl⟩
theorem d_Wa_start_7 : Dc prog_12_method_2_code 7 (.putfield 31) 3 10 := ⟨by decide +kernel, rfl⟩
theorem d_Wa_start_10 : Dc prog_12_method_2_code 10 (.aload_n 0) 1 11 := ⟨by decide +kernel, rfl⟩
theorem d_Wa_start_11 : Dc prog_12_method_2_code 11 (.iconst 0) 1 12 := ⟨by decide +kernel, rfl⟩
theorem d_Wa_start_12 : Dc prog_12_method_2_code 12 (.putfield 34) 3 15 := ⟨by decide +kernel, rfl⟩
theorem d_Wa_start_15 : Dc prog_12_method_2_code 15 (.aload_n 0) 1 16 := ⟨by decide +kernel, rfl⟩
theorem d_Wa_start_16 : Dc prog_12_method_2_code 16 (.iconst 0) 1 17 := ⟨by decide +kernel, rfl⟩
theorem d_Wa_start_17 : Dc prog_12_method_2_code 17 (.putfield 38) 3 20 := ⟨by decide +kernel, rfl⟩
theorem d_Wa_start_20 : Dc prog_12_method_2_code 20 (.aload_n 0) 1 21 := ⟨by decide +kernel, rfl⟩
theorem d_Wa_start_21 : Dc prog_12_method_2_code 21 (.iconst (-1)) 1 22 := ⟨by decide +kernel, rfl⟩
theorem d_Wa_start_22 : Dc prog_12_method_2_code 22 (.putfield 41) 3 25 := ⟨by decide +kernel, rfl⟩
theorem d_Wa_start_25 : Dc prog_12_method_2_code 25 (.aload_n 0) 1 26 := ⟨by decide +kernel, rfl⟩
theorem d_Wa_start_26 : Dc prog_12_method_2_code 26 (.aload_n 0) 1 27 := ⟨by decide +kernel, rfl⟩
theorem d_Wa_start_27 : Dc prog_12_method_2_code 27 (.getfield 27) 3 30 := ⟨by decide +kernel, rfl⟩
theorem d_Wa_start_30 : Dc prog_12_method_2_code 30 (.getfield 44) 3 33 := ⟨by decide +kernel, rfl⟩
theorem d_Wa_start_33 : Dj prog_12_method_2_code 33 (.ifCond .ne 7) 36 7 40 := ⟨by decide +kernel, rfl, rfl⟩
theorem d_Wa_start_36 : Dc prog_12_method_2_code 36 (.iconst 1) 1 37 := ⟨by decide +kernel, rfl⟩
theorem d_Wa_start_37 : Dj prog_12_method_2_code 37 (.goto 4) 40 4 41 := ⟨by decide +kernel, rfl, rfl⟩
theorem d_Wa_start_40 : Dc prog_12_method_2_code 40 (.iconst 0) 1 41 := ⟨by decide +kernel, rfl⟩
theorem d_Wa_start_41 : Dc prog_12_method_2_code 41 (.putfield 49) 3 44 := ⟨by decide +kernel, rfl⟩
theorem d_Wa_start_44 : Dc prog_12_method_2_code 44 (.aload_n 0) 1 45 := ⟨by decide +kernel, rfl⟩
theorem d_Wa_start_45 : Dc prog_12_method_2_code 45 (.getfield 27) 3 48 := ⟨by decide +kernel, rfl⟩
theorem d_Wa_start_48 : Dc prog_12_method_2_code 48 (.getfield 44) 3 51 := ⟨by decide +kernel, rfl⟩
theorem d_Wa_start_51 : Dj prog_12_method_2_code 51 (.ifCond .le 8) 54 8 59 := ⟨by decide +kernel, rfl, rfl⟩
theorem d_Wa_start_54 : Dc prog_12_method_2_code 54 (.aload_n 0) 1 55 := ⟨by decide +kernel, rfl⟩
theorem d_Wa_start_55 : Dc prog_12_method_2_code 55 (.iconst 0) 1 56 := ⟨by decide +kernel, rfl⟩
theorem d_Wa_start_56 : Dc prog_12_method_2_code 56 (.invokevirtual 53) 3 59 := ⟨by decide +kernel, rfl⟩
theorem d_Wa_start_59 : Dc prog_12_method_2_code 59 (.return_) 1 60 := ⟨by decide +kernel, rfl⟩
theorem ml_Wa_76 : Cond.methodLink "SubgraphDesk$Walker" 76 m_Wa_advance.1 ∈ lw_gd := gd 1042 (by decide +kernel) rfl
theorem ml_Wa_80 : Cond.methodLink "SubgraphDesk$Walker" 80 m_Wa_alikeBehind.1 ∈ lw_gd := gd 1054 (by decide +kernel) rfl
theorem ml_Wa_84 : Cond.methodLink "SubgraphDesk$Walker" 84 m_Wa_skipAlike.1 ∈ lw_gd := gd 1058 (by decide +kernel) rfl
theorem ml_Wa_87 : Cond.methodLink "SubgraphDesk$Walker" 87 m_Wa_countAll.1 ∈ lw_gd := gd 1308 (by decide +kernel) rfl
def KpS (w w2 : Mem) : Prop := (∀ a, a ≠ 36 → rR w2 a = rR w a) ∧ w2.2.2.2 = w.2.2.2
/-- the walker begins: what it goes over is noted -/
def FrSt (w w2 : Mem) : Prop := (∀ a, a < 36 ∨ 38 < a → rI w2 a = rI w a) ∧ w2.2.1 = w.2.1 ∧ KpS w w2
theorem FrSt.Q {w w2 : Mem} (h : FrSt w w2) : DkQ w w2 := ⟨fun a ha => h.1 a (by omega), fun a _ => by unfold rJ; rw [h.2.1], ⟨fun a h1 _ _ => h.2.2.1 a h1, h.2.2.2⟩⟩
theorem FrAd.Q {w w2 : Mem} (h : FrAd w w2) : DkQ w w2 := h.W.Q
theorem KpR.sR {w w2 : Mem} {o k : Nat} {x : Option Nat} (ho : o = 36 ∨ o = 45 ∨ o = 53) (h : KpR w w2) : KpR w (sR w2 o k x) := ⟨fun a h1 h2 h3 => by rw [rR_sR_ne _ _ _ (by omega)]; exact h.1 a h1 h2 h3, h.2⟩
theorem wk_start {w : Mem} {g : GC} {c : Nat → Nat} {ab : Nat} (hE : WkE w g c ab) (h0 : 0 < gV g) (h8 : rI w 36 10 = nI 0) (ht : rI w 36 8 = nI 0) : WkS (enW w 0 (opnN g c [] 0) 0) g c (waysC g c) (stepsC g c (gV g) []) := by
  have hW := hE.2.1
  have hc := (hE.2.2.2.2.2 0 h0).2
  have hop : MaskP g c [] (opnN g c [] 0) := opn_mask (c := c) (q := []) hW (fun x hx => absurd hx (List.not_mem_nil))
  have hom := opnN_lt (g := g) (c := c) (q := []) (N := gN g) hc 0
  have e1 : remM g c (opnN g c [] 0) (gV g - 1) [] = waysC g c := by
    rw [remM_ok hop, show gV g - 1 + 1 = gV g by omega]
    rfl
  have e2 : (bitsL (gN g) (opnN g c [] 0)).length + stpM g c (opnN g c [] 0) (gV g - 1) [] = stepsC g c (gV g) [] := by
    rw [stpM_ok (q := []) hop, show gV g - 1 + 1 = gV g by omega]
  rw [bits_pl hW.n hom] at e2
  refine Or.inr (Or.inr ⟨fun _ => opnN g c [] 0, [], ⟨h0, List.nodup_nil, fun x hx => absurd hx (List.not_mem_nil), fun u hu => absurd hu (Nat.not_lt_zero _), fun u hu => ?_, ?_, ?_, ?_⟩, ?_, pop (opnN g c [] 0), ?_, ?_⟩)
  · obtain rfl : u = 0 := Nat.le_zero.mp hu
    unfold enW
    rw [rI_sI_ne _ _ _ (by decide), rI_sI_ne _ _ _ (by decide), rI_sI, upd_eq, if_pos rfl]
    exact ⟨rfl, hom, fun x _ => List.not_mem_nil⟩
  · unfold enW; rw [rI_sI, upd_eq, if_neg (by decide), rI_sI, upd_eq, if_pos rfl]; rfl
  · unfold enW; rw [rI_sI, upd_eq, if_neg (by decide), rI_sI, upd_eq, if_neg (by decide), rI_sI_ne _ _ _ (by decide)]; exact ht
  · unfold enW; rw [rI_sI, upd_eq, if_neg (by decide), rI_sI, upd_eq, if_neg (by decide), rI_sI_ne _ _ _ (by decide)]; exact h8
  · show _ = remM g c (opnN g c [] 0) (gV g - 1) [] ++ []
    rw [e1, List.append_nil]
  · unfold enW; rw [rI_sI, upd_eq, if_pos rfl, Nat.zero_add]
  · show _ + (stpM g c (opnN g c [] 0) (gV g - 1) [] + 0) = _
    omega
theorem c_Wa_start {E : EV} {w : Mem} {g : GC} {c : Nat → Nat} {ab : Nat} (hR : BRow w 1 g) (hW : WG g) (hab : ab = 32 ∨ ab = 43) (hc : ∀ v, v < gV g → rI w ab v = nI (c v) ∧ c v < 2 ^ gN g) : T E m_Wa_start 2 0 0 [.ref 36, .ref 1, .ref ab] w (fun r w2 => r = none ∧ WkE w2 g c ab ∧ WkS w2 g c (waysC g c) (stepsC g c (gV g) []) ∧ FrSt w w2) := by
  refine T_of (L := [.ref 36, .ref 1, .ref ab]) cf_Wa_start rfl (Nat.le_of_ble_eq_true rfl) (fun X hX hF => ?_)
  have hv := hW.v
  refine g_aload0 hX d_Wa_start_0 ?_
  refine g_aload1 hX d_Wa_start_1 ?_
  refine g_putR (by first | exact Or.inl ⟨_, rfl⟩ | exact Or.inr ⟨_, rfl⟩) hX d_Wa_start_2 fl_Wa_27 (lv_36 _) ?_
  refine g_aload0 hX d_Wa_start_5 ?_
  refine g_aload2 hX d_Wa_start_6 ?_
  refine g_putR (by first | exact Or.inl ⟨_, rfl⟩ | exact Or.inr ⟨_, rfl⟩) hX d_Wa_start_7 fl_Wa_31 (lv_36 _) ?_
  refine g_aload0 hX d_Wa_start_10 ?_
  refine g_iconst (v := nI 0) hX d_Wa_start_11 rfl ?_
  refine g_putI hX d_Wa_start_12 fl_Wa_34 (lv_36 _) ?_
  refine g_aload0 hX d_Wa_start_15 ?_
  refine g_iconst (v := nI 0) hX d_Wa_start_16 rfl ?_
  refine g_putI hX d_Wa_start_17 fl_Wa_38 (lv_36 _) ?_
  refine g_aload0 hX d_Wa_start_20 ?_
  refine g_iconst (v := -1) hX d_Wa_start_21 rfl ?_
  refine g_putI hX d_Wa_start_22 fl_Wa_41 (lv_36 _) ?_
  obtain ⟨w1, hw1⟩ : ∃ z, (sI (sI (sI (sR (sR w 36 5 (some 1)) 36 6 (some ab)) 36 8 (nI 0)) 36 9 (nI 0)) 36 7 (-1)) = z := ⟨_, rfl⟩
  have hf1 : FrSt w w1 := by
    rw [← hw1]
    exact ⟨fun a ha => by rw [rI_sI_ne _ _ _ (by omega), rI_sI_ne _ _ _ (by omega), rI_sI_ne _ _ _ (by omega)]; rfl, rfl, ⟨fun a ha => by show rR (sR (sR w 36 5 (some 1)) 36 6 (some ab)) a = _; rw [rR_sR_ne _ _ _ ha, rR_sR_ne _ _ _ ha], rfl⟩⟩
  have hE1 : WkE w1 g c ab := ⟨hR.fr (fun a h1 h2 => hf1.1 a (by omega)), hW, by rw [← hw1]; show rR (sR (sR w 36 5 (some 1)) 36 6 (some ab)) 36 5 = some 1; rw [rR_sR, rR_sR]; rfl, by rw [← hw1]; show rR (sR (sR w 36 5 (some 1)) 36 6 (some ab)) 36 6 = some ab; rw [rR_sR]; rfl, hab, fun v hv => by rw [hf1.1 ab (by omega)]; exact hc v hv⟩
  refine g_mem hw1 ?_
  refine g_aload0 hX d_Wa_start_25 ?_
  refine g_aload0 hX d_Wa_start_26 ?_
  refine g_getR hX d_Wa_start_27 fl_Wa_27 (lv_36 _) hE1.2.2.1 ?_
  refine g_getI hX d_Wa_start_30 fl_Wa_44 (lv_1 _) ?_
  refine g_topi hE1.1.v ?_
  refine g_if_ne hX d_Wa_start_33 (fun e33 => ?_) (fun e33 => ?_)
  · have e33 : gV g ≠ 0 := fun z => e33 (by rw [z]; rfl)
    refine g_iconst (v := nI 0) hX d_Wa_start_40 rfl ?_
    refine g_putZ hX d_Wa_start_41 fl_Wa_49 (lv_36 _) (by first | exact Or.inl rfl | exact Or.inr rfl) ?_
    refine g_aload0 hX d_Wa_start_44 ?_
    refine g_getR hX d_Wa_start_45 fl_Wa_27 (lv_36 _) hE1.2.2.1 ?_
    refine g_getI hX d_Wa_start_48 fl_Wa_44 (lv_1 _) ?_
    refine g_topi (show rI (sI w1 36 10 _) 1 5 = nI (gV g) by rw [rI_sI_ne _ _ _ (by decide)]; exact hE1.1.v) ?_
    refine g_if_le hX d_Wa_start_51 (fun h => absurd h (nI_nle0 (by omega) (by omega))) (fun c1 => ?_)
    refine g_aload0 hX d_Wa_start_54 ?_
    refine g_iconst (v := nI 0) hX d_Wa_start_55 rfl ?_
    refine g_callV (As := [_]) hX hF.1 d_Wa_start_56 ml_Wa_53 cf_Wa_enter cv_Wa_enter rfl rfl (c_Wa_enter (c := c) (s := 0) (q := []) (hE1.fr ((FrWk.rf w1).I (by decide))) (show ([] : List Nat).length < gV g from Nat.pos_of_ne_zero e33) (fun x hx => absurd hx (List.not_mem_nil)) (fun u hu => absurd hu (Nat.not_lt_zero _)) (by rw [rI_sI, upd_eq, if_neg (by decide), ← hw1, rI_sI, upd_eq, if_neg (by decide), rI_sI, upd_eq, if_neg (by decide), rI_sI, upd_eq, if_pos rfl]; rfl) (by rw [rI_sI, upd_eq, if_neg (by decide), ← hw1, rI_sI, upd_eq, if_neg (by decide), rI_sI, upd_eq, if_pos rfl])) (rcv_obj hX (lv_36 _) rfl rfl) (by omega) (by omega) (by omega) (Nat.le_of_ble_eq_true rfl) ?_
    refine ret_k ?_
    refine g_vret hX hF d_Wa_start_59 (by omega) (by omega) ?_
    have hf2 : ∀ x, FrAd w1 (sI w1 36 10 x) := fun x => (FrAd.rf w1).I (by decide)
    have hE2 := fun x => hE1.fr (hf2 x).W
    first
    | (refine ⟨rfl, (hE2 _).fr ((((FrWk.rf _).I (by decide)).I (by decide)).I (by decide)), wk_start (hE2 (nI 0)) (Nat.pos_of_ne_zero e33) (by rw [rI_sI, upd_eq, if_pos rfl]) (by rw [rI_sI, upd_eq, if_neg (by decide), ← hw1, rI_sI, upd_eq, if_neg (by decide), rI_sI, upd_eq, if_neg (by decide), rI_sI, upd_eq, if_pos rfl]), ⟨fun a ha => ?_, by rw [← hf1.2.1]; rfl, hf1.2.2⟩⟩
       rw [← hf1.1 a ha]
       show rI (enW (sI w1 36 10 (nI 0)) 0 _ 0) a = _
       unfold enW
       rw [rI_sI_ne _ _ _ (by omega), rI_sI_ne _ _ _ (by omega), rI_sI_ne _ _ _ (by omega), rI_sI_ne _ _ _ (by omega)])
    | (refine ⟨rfl, hE2 _, Or.inr (Or.inl ⟨e33, ?_, ?_, ?_, ?_⟩), ⟨fun a ha => ?_, by rw [← hf1.2.1]; rfl, hf1.2.2⟩⟩
       · rw [rI_sI, upd_eq, if_neg (by decide), ← hw1, rI_sI, upd_eq, if_pos rfl]
       · rw [rI_sI, upd_eq, if_pos rfl]
       · unfold waysC; rw [e33]; rfl
       · rw [rI_sI, upd_eq, if_neg (by decide), ← hw1, rI_sI, upd_eq, if_neg (by decide), rI_sI, upd_eq, if_pos rfl, e33]; rfl
       · rw [rI_sI_ne _ _ _ (by omega)]; exact hf1.1 a ha)
  · have e33 : gV g = 0 := nI_inj (by omega) (by decide) e33
    refine g_iconst (v := nI 1) hX d_Wa_start_36 rfl ?_
    refine g_goto hX d_Wa_start_37 ?_
    refine g_putZ hX d_Wa_start_41 fl_Wa_49 (lv_36 _) (by first | exact Or.inl rfl | exact Or.inr rfl) ?_
    refine g_aload0 hX d_Wa_start_44 ?_
    refine g_getR hX d_Wa_start_45 fl_Wa_27 (lv_36 _) hE1.2.2.1 ?_
    refine g_getI hX d_Wa_start_48 fl_Wa_44 (lv_1 _) ?_
    refine g_topi (show rI (sI w1 36 10 _) 1 5 = nI (gV g) by rw [rI_sI_ne _ _ _ (by decide)]; exact hE1.1.v) ?_
    refine g_if_le hX d_Wa_start_51 (fun c2 => ?_) (fun h => absurd (by rw [e33]; exact Int32.le_refl _) h)
    refine g_vret hX hF d_Wa_start_59 (by omega) (by omega) ?_
    have hf2 : ∀ x, FrAd w1 (sI w1 36 10 x) := fun x => (FrAd.rf w1).I (by decide)
    have hE2 := fun x => hE1.fr (hf2 x).W
    first
    | (refine ⟨rfl, (hE2 _).fr ((((FrWk.rf _).I (by decide)).I (by decide)).I (by decide)), wk_start (hE2 (nI 0)) (Nat.pos_of_ne_zero e33) (by rw [rI_sI, upd_eq, if_pos rfl]) (by rw [rI_sI, upd_eq, if_neg (by decide), ← hw1, rI_sI, upd_eq, if_neg (by decide), rI_sI, upd_eq, if_neg (by decide), rI_sI, upd_eq, if_pos rfl]), ⟨fun a ha => ?_, by rw [← hf1.2.1]; rfl, hf1.2.2⟩⟩
       rw [← hf1.1 a ha]
       show rI (enW (sI w1 36 10 (nI 0)) 0 _ 0) a = _
       unfold enW
       rw [rI_sI_ne _ _ _ (by omega), rI_sI_ne _ _ _ (by omega), rI_sI_ne _ _ _ (by omega), rI_sI_ne _ _ _ (by omega)])
    | (refine ⟨rfl, hE2 _, Or.inr (Or.inl ⟨e33, ?_, ?_, ?_, ?_⟩), ⟨fun a ha => ?_, by rw [← hf1.2.1]; rfl, hf1.2.2⟩⟩
       · rw [rI_sI, upd_eq, if_neg (by decide), ← hw1, rI_sI, upd_eq, if_pos rfl]
       · rw [rI_sI, upd_eq, if_pos rfl]
       · unfold waysC; rw [e33]; rfl
       · rw [rI_sI, upd_eq, if_neg (by decide), ← hw1, rI_sI, upd_eq, if_neg (by decide), rI_sI, upd_eq, if_pos rfl, e33]; rfl
       · rw [rI_sI_ne _ _ _ (by omega)]; exact hf1.1 a ha)
/-- k ways behind the one that lies differ in the last vertex alone -/
def Alk (w : Mem) (g : GC) (c : Nat → Nat) (x : List Nat) (t : List (List Nat)) (tot k : Nat) : Prop := WkT w g c x t tot ∧ ((gV g = 0 ∧ WkZ w ∧ t = [] ∧ k = 0 ∧ rI w 36 9 = nI tot) ∨ ∃ lf q n, q.length + 1 = gV g ∧ x = q ++ [n] ∧ WkM w g c t tot lf q ∧ k = pop (lf q.length))
theorem remM_last (g : GC) (c : Nat → Nat) (m : Nat) (q : List Nat) : remM g c m 0 q = (bitsL (gN g) m).map (fun y => q ++ [y]) := by
  unfold remM
  induction bitsL (gN g) m with
  | nil => rfl
  | cons a t ih => rw [List.flatMap_cons, List.map_cons, ih]; rfl
theorem stpM_last (g : GC) (c : Nat → Nat) (m : Nat) (q : List Nat) : stpM g c m 0 q = 0 := by
  unfold stpM
  induction bitsL (gN g) m with
  | nil => rfl
  | cons a t ih => rw [List.map_cons, List.sum_cons, ih]; rfl
theorem WkM.al {w : Mem} {g : GC} {c lf : Nat → Nat} {q : List Nat} {t : List (List Nat)} {tot : Nat} (h : WkM w g c t tot lf q) (hW : WG g) (hl : q.length + 1 = gV g) : t = (bitsL (gN g) (lf q.length)).map (fun y => q ++ [y]) ++ remW g c lf q q.length ∧ ((bitsL (gN g) (lf q.length)).map (fun y => q ++ [y])).length = pop (lf q.length) := by
  obtain ⟨hb, hw, -⟩ := h
  have hm := (hb.2.2.2.2.1 q.length (Nat.le_refl _)).2.1
  refine ⟨by rw [hw, remW, show gV g - 1 - q.length = 0 by omega, List.take_length, remM_last], ?_⟩
  rw [List.length_map, bits_pl hW.n hm]
theorem Alk.le {w : Mem} {g : GC} {c : Nat → Nat} {x : List Nat} {t : List (List Nat)} {tot k : Nat} (h : Alk w g c x t tot k) (hW : WG g) : k ≤ t.length ∧ k ≤ 12 := by
  obtain ⟨h1, h2⟩ := h
  rcases h2 with ⟨h2, h3, h4, h5, -⟩ | ⟨lf, q, n, h2, h3, h4, h5⟩
  · omega
  · obtain ⟨e1, e2⟩ := h4.al hW h2
    have := pop_le (lf q.length)
    rw [e1, List.length_append, e2]
    omega
theorem c_Wa_alikeBehind {E : EV} {w : Mem} {g : GC} {c : Nat → Nat} {x : List Nat} {t : List (List Nat)} {tot : Nat} (hW : WG g) (hT : WkT w g c x t tot) : T E m_Wa_alikeBehind 1 0 0 [.ref 36] w (fun r w2 => ∃ k : Nat, r = some (.int (nI k)) ∧ Alk w g c x t tot k ∧ w2 = w) := by
  refine T_of (L := [.ref 36]) cf_Wa_alikeBehind rfl (Nat.le_of_ble_eq_true rfl) (fun X hX hF => ?_)
  have hn := hW.n
  have hv := hW.v
  rcases hT.2.2.2 with ⟨h1, h2, h3, h4⟩ | ⟨lf, q, n, h1, h2, hM⟩
  · refine g_aload0 hX d_Wa_alikeBehind_0 ?_
    refine g_getI hX d_Wa_alikeBehind_1 fl_Wa_41 (lv_36 _) ?_
    refine g_topi h3.1 ?_
    refine g_if_lt hX d_Wa_alikeBehind_4 (fun c0 => ?_) (fun h => absurd (by decide) h)
    refine g_iconst (v := nI 0) hX d_Wa_alikeBehind_22 rfl ?_
    refine g_iret hX hF d_Wa_alikeBehind_23 (by omega) (by omega) ?_
    exact ⟨0, rfl, ⟨hT, Or.inl ⟨h1, h3, h2, rfl, h4⟩⟩, rfl⟩
  · obtain ⟨hm1, hm2⟩ := hM.1.2.2.2.2.1 q.length (Nat.le_refl _)
    have hm12 : lf q.length < 4096 := Nat.lt_of_lt_of_le hm2.1 (Nat.pow_le_pow_right (by decide) hn)
    refine g_aload0 hX d_Wa_alikeBehind_0 ?_
    refine g_getI hX d_Wa_alikeBehind_1 fl_Wa_41 (lv_36 _) ?_
    refine g_topi hM.1.2.2.2.2.2.1 ?_
    refine g_if_lt hX d_Wa_alikeBehind_4 (fun h => absurd h (nI_pos (by omega))) (fun c0 => ?_)
    refine g_aload0 hX d_Wa_alikeBehind_7 ?_
    refine g_getF hX d_Wa_alikeBehind_8 fl_Wa_15 (lv_36 _) ?_
    refine g_aload0 hX d_Wa_alikeBehind_11 ?_
    refine g_getI hX d_Wa_alikeBehind_12 fl_Wa_41 (lv_36 _) ?_
    refine g_topi hM.1.2.2.2.2.2.1 ?_
    refine g_iald hX d_Wa_alikeBehind_15 (lv_38 _) rfl (by omega) ?_
    refine g_topi hm1 ?_
    refine g_callS (As := [_]) hX hF.1 d_Wa_alikeBehind_16 ml_Wa_63 cf_JInteger_bitCount cs_JInteger_bitCount rfl (c_JInteger_bitCount hm12) (by omega) (by omega) (by omega) (Nat.le_of_ble_eq_true rfl) ?_
    refine ret_k ?_
    refine g_goto hX d_Wa_alikeBehind_19 ?_
    refine g_iret hX hF d_Wa_alikeBehind_23 (by omega) (by omega) ?_
    exact ⟨_, rfl, ⟨hT, Or.inr ⟨lf, q, n, h1, h2, hM, rfl⟩⟩, rfl⟩
theorem c_Wa_skipAlike {E : EV} {w : Mem} {g : GC} {c : Nat → Nat} {x : List Nat} {t : List (List Nat)} {tot k : Nat} (hW : WG g) (hA : Alk w g c x t tot k) : T E m_Wa_skipAlike 0 0 0 [.ref 36] w (fun r w2 => r = none ∧ WkS w2 g c (t.drop k) tot ∧ FrAd w w2) := by
  refine T_of (L := [.ref 36]) cf_Wa_skipAlike rfl (Nat.le_of_ble_eq_true rfl) (fun X hX hF => ?_)
  have hn := hW.n
  have hv := hW.v
  rcases hA.2 with ⟨h1, h3, h2, h4, h5⟩ | ⟨lf, q, n, h1, h2, hM, h5⟩
  · refine g_aload0 hX d_Wa_skipAlike_0 ?_
    refine g_getI hX d_Wa_skipAlike_1 fl_Wa_41 (lv_36 _) ?_
    refine g_topi h3.1 ?_
    refine g_if_lt hX d_Wa_skipAlike_4 (fun c0 => ?_) (fun h => absurd (by decide) h)
    refine g_vret hX hF d_Wa_skipAlike_17 (by omega) (by omega) ?_
    exact ⟨rfl, Or.inl ⟨h3, by rw [h2]; exact List.drop_nil, h5⟩, FrAd.rf w⟩
  · refine g_aload0 hX d_Wa_skipAlike_0 ?_
    refine g_getI hX d_Wa_skipAlike_1 fl_Wa_41 (lv_36 _) ?_
    refine g_topi hM.1.2.2.2.2.2.1 ?_
    refine g_if_lt hX d_Wa_skipAlike_4 (fun h => absurd h (nI_pos (by omega))) (fun c0 => ?_)
    refine g_aload0 hX d_Wa_skipAlike_7 ?_
    refine g_getF hX d_Wa_skipAlike_8 fl_Wa_15 (lv_36 _) ?_
    refine g_aload0 hX d_Wa_skipAlike_11 ?_
    refine g_getI hX d_Wa_skipAlike_12 fl_Wa_41 (lv_36 _) ?_
    refine g_topi hM.1.2.2.2.2.2.1 ?_
    refine g_iconst (v := nI 0) hX d_Wa_skipAlike_15 rfl ?_
    refine g_iast hX d_Wa_skipAlike_16 (lv_38 _) rfl (by omega) ?_
    refine g_vret hX hF d_Wa_skipAlike_17 (by omega) (by omega) ?_
    obtain ⟨e1, e2⟩ := hM.al hW h1
    obtain ⟨⟨b1, b2, b3, b4, b5, b6, b7, b8⟩, hw, sN, hs1, hs2⟩ := hM
    have hlf : ∀ u, u < q.length → lfU lf q.length 0 u = lf u ∧ q.take u = q.take u := fun u hu => ⟨if_neg (by omega), rfl⟩
    have hl0 : lfU lf q.length 0 q.length = 0 := if_pos rfl
    obtain ⟨r1, r2⟩ := remW_c (g := g) (c := c) (lf := lf) (lf2 := lfU lf q.length 0) (q := q) (q2 := q) q.length hlf
    refine ⟨rfl, Or.inr (Or.inr ⟨lfU lf q.length 0, q, ⟨b1, b2, b3, fun u hu => ?_, fun u hu => ?_, ?_, ?_, ?_⟩, ?_, sN, ?_, ?_⟩), (FrAd.rf w).I (by decide)⟩
    · rw [rI_sI_ne _ _ _ (by decide)]; exact b4 u hu
    · rw [rI_sI, upd_eq]
      by_cases e : u = q.length
      · rw [if_pos e, e, hl0]
        exact ⟨rfl, Nat.two_pow_pos _, fun y hy => by rw [Nat.zero_testBit] at hy; cases hy⟩
      · rw [if_neg e, (hlf u (by omega)).1]; exact b5 u hu
    · rw [rI_sI_ne _ _ _ (by decide)]; exact b6
    · rw [rI_sI_ne _ _ _ (by decide)]; exact b7
    · rw [rI_sI_ne _ _ _ (by decide)]; exact b8
    · rw [remW, hl0, (remM_0 g c _ _).1, List.nil_append, r1]
      rw [h5, e1, ← e2, List.drop_left]
    · rw [rI_sI_ne _ _ _ (by decide)]; exact hs1
    · rw [stpW, hl0, (remM_0 g c _ _).2, Nat.zero_add, r2]
      rw [stpW, show gV g - 1 - q.length = 0 by omega, List.take_length, stpM_last, Nat.zero_add] at hs2
      exact hs2
theorem c_Wa_countAll {E : EV} {w : Mem} {g : GC} {c : Nat → Nat} {ab tot tl : Nat} {ws : List (List Nat)} (hE : WkE w g c ab) (hS : WkS w g c ws tot) (hl : ws.length = tl) (hl2 : tl ≤ 300000) : T E m_Wa_countAll 4 0 0 [.ref 36] w (fun r w2 => r = some (.int (nI tl)) ∧ FrAd w w2 ∧ rI w2 36 9 = nI tot) := by
  refine T_of (L := [.ref 36, un, un]) cf_Wa_countAll rfl (Nat.le_of_ble_eq_true rfl) (fun X hX hF => ?_)
  have hW := hE.2.1
  have lp : ∀ (fuel : Nat) (k a : Nat) (ws : List (List Nat)) (wk : Mem), ws.length < fuel → (FrAd w wk) → (WkS wk g c ws tot) → (a + ws.length = tl) → (k + ws.length ≤ 400000) → G0 E X 0 0 4 [.ref 36, .int (nI a), .int (nI k)] [] wk := by
    intro fuel
    induction fuel with
    | zero => intro k a ws wk q0; exact absurd q0 (Nat.not_lt_zero _)
    | succ fuel ih =>
      intro k a ws wk q0 q1 q2 q3 q4
      refine g_iload2 hX d_Wa_countAll_4 ?_
      refine g_ldc (v := nI 1000000) hX d_Wa_countAll_5 k_Wa_69 rfl ?_
      refine g_icmpN_ge hX d_Wa_countAll_7 (by omega) (by omega) (fun h => absurd h (by omega)) (fun c0 => ?_)
      refine g_aload0 hX d_Wa_countAll_10 ?_
      refine g_callV (As := []) hX hF.1 d_Wa_countAll_11 ml_Wa_76 cf_Wa_advance cv_Wa_advance rfl rfl (c_Wa_adv (hE.fr q1.W) q2) (rcv_obj hX (lv_36 _) rfl rfl) (by omega) (by omega) (by omega) (Nat.le_of_ble_eq_true rfl) ?_
      rintro _ w2 ⟨hp, hfa⟩
      obtain ⟨z, rfl, hz2, hz⟩ := hp.c
      have hf2 := q1.tr hfa
      show G0 _ _ _ _ _ _ _ _
      refine g_if_eq hX d_Wa_countAll_14 (fun e14 => ?_) (fun e14 => ?_)
      · have hz0 : z = 0 := nI_inj (by omega) (by decide) e14
        obtain ⟨-, rfl, hZ, hst⟩ := hz.resolve_right (fun y => by omega)
        refine g_iload1 hX d_Wa_countAll_36 ?_
        refine g_iret hX hF d_Wa_countAll_37 (by omega) (by omega) ?_
        exact ⟨by rw [← q3]; rfl, hf2, hst⟩
      · have hz1 : z = 1 := by
          have : z ≠ 0 := fun y => e14 (by rw [y]; rfl)
          omega
        obtain ⟨-, x, t, rfl, hT⟩ := hz.resolve_left (fun y => by omega)
        refine g_iload1 hX d_Wa_countAll_17 ?_
        refine g_iconst (v := nI 1) hX d_Wa_countAll_18 rfl ?_
        refine g_aload0 hX d_Wa_countAll_19 ?_
        refine g_callV (As := []) hX hF.1 d_Wa_countAll_20 ml_Wa_80 cf_Wa_alikeBehind cv_Wa_alikeBehind rfl rfl (c_Wa_alikeBehind hW hT) (rcv_obj hX (lv_36 _) rfl rfl) (by omega) (by omega) (by omega) (Nat.le_of_ble_eq_true rfl) ?_
        rintro _ wx ⟨ka, rfl, hA, hwx⟩
        have hwx2 := hwx.symm
        subst hwx2
        obtain ⟨hka, hka2⟩ := hA.le hW
        show G0 _ _ _ _ _ _ _ _
        refine g_iaddN hX d_Wa_countAll_23 ?_
        refine g_iaddN hX d_Wa_countAll_24 ?_
        refine g_istore1 hX d_Wa_countAll_25 rfl (by decide) ?_
        refine g_aload0 hX d_Wa_countAll_26 ?_
        refine g_callV (As := []) hX hF.1 d_Wa_countAll_27 ml_Wa_84 cf_Wa_skipAlike cv_Wa_skipAlike rfl rfl (c_Wa_skipAlike hW hA) (rcv_obj hX (lv_36 _) rfl rfl) (by omega) (by omega) (by omega) (Nat.le_of_ble_eq_true rfl) ?_
        rintro _ w3 ⟨rfl, hS3, hf3⟩
        show G0 _ _ _ _ _ _ _ _
        refine g_iincN2 hX d_Wa_countAll_30 rfl (by decide) ?_
        refine g_goto hX d_Wa_countAll_33 ?_
        rw [show a + (1 + ka) = a + 1 + ka by omega]
        exact ih (k + 1) (a + 1 + ka) (t.drop ka) w3 (by rw [List.length_drop]; simp only [List.length_cons] at q0; omega) (hf2.tr hf3) hS3 (by rw [List.length_drop]; simp only [List.length_cons] at q3; omega) (by rw [List.length_drop]; simp only [List.length_cons] at q4; omega)
  refine g_iconst (v := nI 0) hX d_Wa_countAll_0 rfl ?_
  refine g_istore1 hX d_Wa_countAll_1 rfl (by decide) ?_
  refine g_iconst (v := nI 0) hX d_Wa_countAll_2 rfl ?_
  refine g_istore2 hX d_Wa_countAll_3 rfl (by decide) ?_
  exact lp (ws.length + 1) 0 0 ws w (by omega) (FrAd.rf w) hS (by omega) (by omega)
theorem c_Wa_countSteps {E : EV} {w : Mem} {g : GC} {c : Nat → Nat} {ab tot tl : Nat} {ws : List (List Nat)} (hE : WkE w g c ab) (hS : WkS w g c ws tot) (hl : ws.length = tl) (hl2 : tl ≤ 300000) : T E m_Wa_countSteps 5 0 0 [.ref 36] w (fun r w2 => r = some (.int (nI tot)) ∧ FrAd w w2) := by
  refine T_of (L := [.ref 36]) cf_Wa_countSteps rfl (Nat.le_of_ble_eq_true rfl) (fun X hX hF => ?_)
  refine g_aload0 hX d_Wa_countSteps_0 ?_
  refine g_callV (As := []) hX hF.1 d_Wa_countSteps_1 ml_Wa_87 cf_Wa_countAll cv_Wa_countAll rfl rfl (c_Wa_countAll hE hS hl hl2) (rcv_obj hX (lv_36 _) rfl rfl) (by omega) (by omega) (by omega) (Nat.le_of_ble_eq_true rfl) ?_
  rintro _ w2 ⟨rfl, hf2, hst⟩
  show G0 _ _ _ _ _ _ _ _
  refine g_pop hX d_Wa_countSteps_4 rfl ?_
  refine g_aload0 hX d_Wa_countSteps_5 ?_
  refine g_getI hX d_Wa_countSteps_6 fl_Wa_38 (lv_36 _) ?_
  refine g_topi hst ?_
  refine g_iret hX hF d_Wa_countSteps_9 (by omega) (by omega) ?_
  exact ⟨rfl, hf2⟩
/-- the way with a number lies, if there is one -/
def GoP (w : Mem) (g : GC) (ws : List (List Nat)) (j : Nat) (r : Option Value) : Prop := match ws[j]? with
  | none => r = some (.int (nI 0))
  | some y => r = some (.int (nI 1)) ∧ ∀ u, u < gV g → rI w 37 u = nI (gA y u)
theorem GoP.e {w : Mem} {g : GC} {ws ws2 : List (List Nat)} {j j2 : Nat} {r : Option Value} (h : GoP w g ws2 j2 r) (e : ws[j]? = ws2[j2]?) : GoP w g ws j r := by
  unfold GoP at h ⊢
  rw [e]
  exact h
theorem c_Wa_goTo0 {E : EV} {w : Mem} {x : Int32} (hx : x < 0) : T E m_Wa_goTo 4 0 0 [.ref 36, .int x] w (Ret (some (.int (nI 0))) w) := by
  refine T_of (L := [.ref 36, .int x, un, un, un, un]) cf_Wa_goTo rfl (Nat.le_of_ble_eq_true rfl) (fun X hX hF => ?_)
  refine g_iload1 hX d_Wa_goTo_0 ?_
  refine g_if_ge hX d_Wa_goTo_1 (fun h => absurd h (Int32.not_le.mpr hx)) (fun c0 => ?_)
  refine g_iconst (v := nI 0) hX d_Wa_goTo_4 rfl ?_
  refine g_zret hX hF d_Wa_goTo_5 (Or.inl rfl) (by omega) (by omega) ?_
  exact ⟨rfl, rfl⟩
theorem c_Wa_goTo {E : EV} {w : Mem} {g : GC} {c : Nat → Nat} {ab tot m : Nat} {ws0 : List (List Nat)} (hE : WkE w g c ab) (hS : WkS w g c ws0 tot) (hl2 : ws0.length ≤ 300000) (hm : m < 2 ^ 31) : T E m_Wa_goTo 4 0 0 [.ref 36, .int (nI m)] w (fun r w2 => GoP w2 g ws0 m r ∧ FrAd w w2) := by
  refine T_of (L := [.ref 36, .int (nI m), un, un, un, un]) cf_Wa_goTo rfl (Nat.le_of_ble_eq_true rfl) (fun X hX hF => ?_)
  have hW := hE.2.1
  have lp : ∀ (fuel : Nat) (k a : Nat) (ws : List (List Nat)) (wk : Mem), ws.length < fuel → (FrAd w wk) → (WkS wk g c ws tot) → (a ≤ m) → (ws0[m]? = ws[m - a]?) → (k + ws.length ≤ 400000) → (a + ws.length = ws0.length) → G0 E X 0 0 10 [.ref 36, .int (nI m), .int (nI a), .int (nI k), un, un] [] wk := by
    intro fuel
    induction fuel with
    | zero => intro k a ws wk q0; exact absurd q0 (Nat.not_lt_zero _)
    | succ fuel ih =>
      intro k a ws wk q0 q1 q2 q3 q4 q5 q6
      refine g_iload3 hX d_Wa_goTo_10 ?_
      refine g_ldc (v := nI 1000000) hX d_Wa_goTo_11 k_Wa_69 rfl ?_
      refine g_icmpN_ge hX d_Wa_goTo_13 (by omega) (by omega) (fun h => absurd h (by omega)) (fun c0 => ?_)
      refine g_aload0 hX d_Wa_goTo_16 ?_
      refine g_callV (As := []) hX hF.1 d_Wa_goTo_17 ml_Wa_76 cf_Wa_advance cv_Wa_advance rfl rfl (c_Wa_adv (hE.fr q1.W) q2) (rcv_obj hX (lv_36 _) rfl rfl) (by omega) (by omega) (by omega) (Nat.le_of_ble_eq_true rfl) ?_
      rintro _ w2 ⟨hp, hfa⟩
      obtain ⟨z, rfl, hz2, hz⟩ := hp.c
      have hf2 := q1.tr hfa
      show G0 _ _ _ _ _ _ _ _
      refine g_if_eq hX d_Wa_goTo_20 (fun e14 => ?_) (fun e14 => ?_)
      · have hz0 : z = 0 := nI_inj (by omega) (by decide) e14
        obtain ⟨-, rfl, hZ, hst⟩ := hz.resolve_right (fun y => by omega)
        refine g_iconst (v := nI 0) hX d_Wa_goTo_76 rfl ?_
        refine g_zret hX hF d_Wa_goTo_77 (Or.inl rfl) (by omega) (by omega) ?_
        exact ⟨by unfold GoP; rw [q4]; rfl, hf2⟩
      · have hz1 : z = 1 := by
          have : z ≠ 0 := fun y => e14 (by rw [y]; rfl)
          omega
        obtain ⟨-, x, t, rfl, hT⟩ := hz.resolve_left (fun y => by omega)
        refine g_aload0 hX d_Wa_goTo_23 ?_
        refine g_callV (As := []) hX hF.1 d_Wa_goTo_24 ml_Wa_80 cf_Wa_alikeBehind cv_Wa_alikeBehind rfl rfl (c_Wa_alikeBehind hW hT) (rcv_obj hX (lv_36 _) rfl rfl) (by omega) (by omega) (by omega) (Nat.le_of_ble_eq_true rfl) ?_
        rintro _ wx ⟨ka, rfl, hA, hwx⟩
        have hwx2 := hwx.symm
        subst hwx2
        obtain ⟨hka, hka2⟩ := hA.le hW
        show G0 _ _ _ _ _ _ _ _
        refine g_istore4 hX d_Wa_goTo_27 rfl (by decide) ?_
        have hq6 := q6
        simp only [List.length_cons] at hq6
        refine g_iload1 hX d_Wa_goTo_29 ?_
        refine g_iload2 hX d_Wa_goTo_30 ?_
        refine g_iload4 hX d_Wa_goTo_31 ?_
        refine g_iaddN hX d_Wa_goTo_33 ?_
        refine g_icmpN_gt hX d_Wa_goTo_34 (by omega) (by omega) (fun e34 => ?_) (fun e34 => ?_)
        · refine g_iload2 hX d_Wa_goTo_59 ?_
          refine g_iconst (v := nI 1) hX d_Wa_goTo_60 rfl ?_
          refine g_iload4 hX d_Wa_goTo_61 ?_
          refine g_iaddN hX d_Wa_goTo_63 ?_
          refine g_iaddN hX d_Wa_goTo_64 ?_
          refine g_istore2 hX d_Wa_goTo_65 rfl (by decide) ?_
          refine g_aload0 hX d_Wa_goTo_66 ?_
          refine g_callV (As := []) hX hF.1 d_Wa_goTo_67 ml_Wa_84 cf_Wa_skipAlike cv_Wa_skipAlike rfl rfl (c_Wa_skipAlike hW hA) (rcv_obj hX (lv_36 _) rfl rfl) (by omega) (by omega) (by omega) (Nat.le_of_ble_eq_true rfl) ?_
          rintro _ w3 ⟨rfl, hS3, hf3⟩
          show G0 _ _ _ _ _ _ _ _
          refine g_iincN3 hX d_Wa_goTo_70 rfl (by decide) ?_
          refine g_goto hX d_Wa_goTo_73 ?_
          refine g_fget 4 ?_
          rw [show a + (1 + ka) = a + 1 + ka by omega]
          exact ih (k + 1) (a + 1 + ka) (t.drop ka) w3 (by rw [List.length_drop]; simp only [List.length_cons] at q0; omega) (hf2.tr hf3) hS3 (by omega) (by rw [q4, List.getElem?_drop, show m - a = (m - a - 1) + 1 by omega, List.getElem?_cons_succ]; congr 1; omega) (by rw [List.length_drop]; simp only [List.length_cons] at q5; omega) (by rw [List.length_drop]; simp only [List.length_cons] at q6; omega)
        · have lpI : ∀ (fuel : Nat) (b : Nat) (y : List Nat) (ty : List (List Nat)) (wi : Mem), m - b < fuel → (FrAd w wi) → (WkT wi g c y ty tot) → (b ≤ m) → (m - b ≤ ty.length) → (ws0[m]? = (y :: ty)[m - b]?) → G0 E X 0 0 40 [.ref 36, .int (nI m), .int (nI a), .int (nI k), .int (nI ka), .int (nI b)] [] wi := by
            intro fuel
            induction fuel with
            | zero => intro b y ty wi q0; exact absurd q0 (Nat.not_lt_zero _)
            | succ fuel ih =>
              intro b y ty wi q0 q1 q2 q3 q4 q5
              refine g_iload5 hX d_Wa_goTo_40 ?_
              refine g_iload1 hX d_Wa_goTo_42 ?_
              refine g_icmpN_ge hX d_Wa_goTo_43 (by omega) (by omega) (fun e43 => ?_) (fun e43 => ?_)
              · refine g_iconst (v := nI 1) hX d_Wa_goTo_57 rfl ?_
                refine g_zret hX hF d_Wa_goTo_58 (Or.inr rfl) (by omega) (by omega) ?_
                obtain rfl : b = m := by omega
                rw [Nat.sub_self] at q5
                exact ⟨by unfold GoP; rw [q5]; exact ⟨rfl, q2.2.2.1⟩, q1⟩
              · refine g_aload0 hX d_Wa_goTo_46 ?_
                refine g_callV (As := []) hX hF.1 d_Wa_goTo_47 ml_Wa_76 cf_Wa_advance cv_Wa_advance rfl rfl (c_Wa_adv (hE.fr q1.W) q2.S) (rcv_obj hX (lv_36 _) rfl rfl) (by omega) (by omega) (by omega) (Nat.le_of_ble_eq_true rfl) ?_
                rintro _ w5 ⟨hp5, hfa5⟩
                obtain ⟨z5, rfl, hz5, hzz⟩ := hp5.c
                have hf5 := q1.tr hfa5
                obtain ⟨y2, ty2, hty⟩ : ∃ y2 ty2, ty = y2 :: ty2 := by
                  cases ty with
                  | nil => simp only [List.length_nil] at q4; omega
                  | cons y2 ty2 => exact ⟨y2, ty2, rfl⟩
                subst hty
                obtain ⟨-, y3, ty3, he3, hT5⟩ := hzz.resolve_left (fun v => by cases v.2.1)
                injection he3 with he4 he5
                subst he4
                subst he5
                show G0 _ _ _ _ _ _ _ _
                refine g_pop hX d_Wa_goTo_50 rfl ?_
                refine g_iincN5 hX d_Wa_goTo_51 rfl (by decide) ?_
                refine g_goto hX d_Wa_goTo_54 ?_
                exact ih (b + 1) y2 ty2 w5 (by omega) hf5 hT5 (by omega) (by simp only [List.length_cons] at q4; omega) (by rw [q5, show m - b = (m - (b + 1)) + 1 by omega]; rfl)
          refine g_iload2 hX d_Wa_goTo_37 ?_
          refine g_istore5 hX d_Wa_goTo_38 rfl (by decide) ?_
          exact lpI (m - a + 1) a x t w2 (by omega) hf2 hT q3 (by omega) (by rw [q4])
  refine g_iload1 hX d_Wa_goTo_0 ?_
  refine g_if_ge hX d_Wa_goTo_1 (fun c0 => ?_) (fun h => absurd (nI_pos' (by omega)) h)
  refine g_iconst (v := nI 0) hX d_Wa_goTo_6 rfl ?_
  refine g_istore2 hX d_Wa_goTo_7 rfl (by decide) ?_
  refine g_iconst (v := nI 0) hX d_Wa_goTo_8 rfl ?_
  refine g_istore3 hX d_Wa_goTo_9 rfl (by decide) ?_
  exact lp (ws0.length + 1) 0 0 ws0 w (by omega) (FrAd.rf w) hS (Nat.zero_le _) (by rw [Nat.sub_zero]) (by omega) (by omega)
