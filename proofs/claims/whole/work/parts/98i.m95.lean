def m_D_best : MR := (⟨"SubgraphDesk", "best", "(I)I"⟩, prog_1_method_35_code, 3, (some .int))
theorem cf_D_best : CF m_D_best 1 := ⟨gd 1238 (by decide +kernel) rfl, gd 139 (by decide +kernel) rfl, by decide +kernel, by decide, by decide +kernel⟩
theorem cv_D_best : CV m_D_best := ⟨gd 1236 (by decide +kernel) rfl, gd 1237 (by decide +kernel) rfl⟩
def m_D_compare : MR := (⟨"SubgraphDesk", "compare", "(I)I"⟩, prog_1_method_36_code, 2, (some .int))
theorem cf_D_compare : CF m_D_compare 1 := ⟨gd 1247 (by decide +kernel) rfl, gd 139 (by decide +kernel) rfl, by decide +kernel, by decide, by decide +kernel⟩
theorem cv_D_compare : CV m_D_compare := ⟨gd 1245 (by decide +kernel) rfl, gd 1246 (by decide +kernel) rfl⟩
def m_Wa_findCheapest : MR := (⟨"SubgraphDesk$Walker", "findCheapest", "([I)I"⟩, prog_12_method_11_code, 6, (some .int))
theorem cf_Wa_findCheapest : CF m_Wa_findCheapest 1 := ⟨gd 1242 (by decide +kernel) rfl, gd 146 (by decide +kernel) rfl, by decide +kernel, by decide, by decide +kernel⟩
theorem cv_Wa_findCheapest : CV m_Wa_findCheapest := ⟨gd 1240 (by decide +kernel) rfl, gd 1241 (by decide +kernel) rfl⟩
def m_Wa_nodesOfWay : MR := (⟨"SubgraphDesk$Walker", "nodesOfWay", "()I"⟩, prog_12_method_12_code, 3, (some .int))
theorem cf_Wa_nodesOfWay : CF m_Wa_nodesOfWay 0 := ⟨gd 1260 (by decide +kernel) rfl, gd 146 (by decide +kernel) rfl, by decide +kernel, by decide, by decide +kernel⟩
theorem cv_Wa_nodesOfWay : CV m_Wa_nodesOfWay := ⟨gd 1259 (by decide +kernel) rfl, gd 43 (by decide +kernel) rfl⟩
theorem d_D_best_0 : Dc prog_1_method_35_code 0 (.iload_n 1) 1 1 := ⟨by decide +kernel, rfl⟩
theorem d_D_best_1 : Dc prog_1_method_35_code 1 (.iconst (-1)) 1 2 := ⟨by decide +kernel, rfl⟩
theorem d_D_best_2 : Dj prog_1_method_35_code 2 (.if_icmp .eq 16) 5 16 18 := ⟨by decide +kernel, rfl, rfl⟩
theorem d_D_best_5 : Dc prog_1_method_35_code 5 (.aload_n 0) 1 6 := ⟨by decide +kernel, rfl⟩
theorem d_D_best_6 : Dc prog_1_method_35_code 6 (.getfield 10) 3 9 := ⟨by decide +kernel, rfl⟩
theorem d_D_best_9 : Dc prog_1_method_35_code 9 (.iload_n 1) 1 10 := ⟨by decide +kernel, rfl⟩
theorem d_D_best_10 : Dc prog_1_method_35_code 10 (.invokevirtual 126) 3 13 := ⟨by decide +kernel, rfl⟩
theorem d_D_best_13 : Dj prog_1_method_35_code 13 (.ifCond .ne 5) 16 5 18 := ⟨by decide +kernel, rfl, rfl⟩
theorem d_D_best_16 : Dc prog_1_method_35_code 16 (.iconst (-1)) 1 17 := ⟨by decide +kernel, rfl⟩
theorem d_D_best_17 : Dc prog_1_method_35_code 17 (.ireturn) 1 18 := ⟨by decide +kernel, rfl⟩
theorem d_D_best_18 : Dc prog_1_method_35_code 18 (.aload_n 0) 1 19 := ⟨by decide +kernel, rfl⟩
theorem d_D_best_19 : Dc prog_1_method_35_code 19 (.invokevirtual 264) 3 22 := ⟨by decide +kernel, rfl⟩
theorem d_D_best_22 : Dc prog_1_method_35_code 22 (.aload_n 0) 1 23 := ⟨by decide +kernel, rfl⟩
theorem d_D_best_23 : Dc prog_1_method_35_code 23 (.getfield 47) 3 26 := ⟨by decide +kernel, rfl⟩
theorem d_D_best_26 : Dc prog_1_method_35_code 26 (.aload_n 0) 1 27 := ⟨by decide +kernel, rfl⟩
theorem d_D_best_27 : Dc prog_1_method_35_code 27 (.getfield 40) 3 30 := ⟨by decide +kernel, rfl⟩
theorem d_D_best_30 : Dc prog_1_method_35_code 30 (.getfield 150) 3 33 := ⟨by decide +kernel, rfl⟩
theorem d_D_best_33 : Dc prog_1_method_35_code 33 (.invokevirtual 297) 3 36 := ⟨by decide +kernel, rfl⟩
theorem d_D_best_36 : Dc prog_1_method_35_code 36 (.istore_n 2) 1 37 := ⟨by decide +kernel, rfl⟩
theorem d_D_best_37 : Dc prog_1_method_35_code 37 (.iload_n 2) 1 38 := ⟨by decide +kernel, rfl⟩
theorem d_D_best_38 : Dc prog_1_method_35_code 38 (.iconst (-1)) 1 39 := ⟨by decide +kernel, rfl⟩
theorem d_D_best_39 : Dj prog_1_method_35_code 39 (.if_icmp .eq 8) 42 8 47 := ⟨by decide +kernel, rfl, rfl⟩
theorem d_D_best_42 : Dc prog_1_method_35_code 42 (.iload_n 1) 1 43 := ⟨by decide +kernel, rfl⟩
theorem d_D_best_43 : Dc prog_1_method_35_code 43 (.iconst (-1)) 1 44 := ⟨by decide +kernel, rfl⟩
theorem d_D_best_44 : Dj prog_1_method_35_code 44 (.if_icmp .ne 5) 47 5 49 := ⟨by decide +kernel, rfl, rfl⟩
theorem d_D_best_47 : Dc prog_1_method_35_code 47 (.iload_n 2) 1 48 := ⟨by decide +kernel, rfl⟩
theorem d_D_best_48 : Dc prog_1_method_35_code 48 (.ireturn) 1 49 := ⟨by decide +kernel, rfl⟩
theorem d_D_best_49 : Dc prog_1_method_35_code 49 (.aload_n 0) 1 50 := ⟨by decide +kernel, rfl⟩
theorem d_D_best_50 : Dc prog_1_method_35_code 50 (.getfield 47) 3 53 := ⟨by decide +kernel, rfl⟩
theorem d_D_best_53 : Dc prog_1_method_35_code 53 (.getfield 301) 3 56 := ⟨by decide +kernel, rfl⟩
theorem d_D_best_56 : Dc prog_1_method_35_code 56 (.iload_n 1) 1 57 := ⟨by decide +kernel, rfl⟩
theorem d_D_best_57 : Dc prog_1_method_35_code 57 (.iaload) 1 58 := ⟨by decide +kernel, rfl⟩
theorem d_D_best_58 : Dc prog_1_method_35_code 58 (.ireturn) 1 59 := ⟨by decide +kernel, rfl⟩
theorem d_D_compare_0 : Dc prog_1_method_36_code 0 (.iload_n 1) 1 1 := ⟨by decide +kernel, rfl⟩
theorem d_D_compare_1 : Dc prog_1_method_36_code 1 (.iconst (-1)) 1 2 := ⟨by decide +kernel, rfl⟩
theorem d_D_compare_2 : Dj prog_1_method_36_code 2 (.if_icmp .eq 16) 5 16 18 := ⟨by decide +kernel, rfl, rfl⟩
theorem d_D_compare_5 : Dc prog_1_method_36_code 5 (.aload_n 0) 1 6 := ⟨by decide +kernel, rfl⟩
theorem d_D_compare_6 : Dc prog_1_method_36_code 6 (.getfield 10) 3 9 := ⟨by decide +kernel, rfl⟩
theorem d_D_compare_9 : Dc prog_1_method_36_code 9 (.iload_n 1) 1 10 := ⟨by decide +kernel, rfl⟩
theorem d_D_compare_10 : Dc prog_1_method_36_code 10 (.invokevirtual 232) 3 13 := ⟨by decide +kernel, rfl⟩
theorem d_D_compare_13 : Dj prog_1_method_36_code 13 (.ifCond .ne 5) 16 5 18 := ⟨by decide +kernel, rfl, rfl⟩
theorem d_D_compare_16 : Dc prog_1_method_36_code 16 (.iconst (-1)) 1 17 := ⟨by decide +kernel, rfl⟩
theorem d_D_compare_17 : Dc prog_1_method_36_code 17 (.ireturn) 1 18 := ⟨by decide +kernel, rfl⟩
theorem d_D_compare_18 : Dc prog_1_method_36_code 18 (.aload_n 0) 1 19 := ⟨by decide +kernel, rfl⟩
theorem d_D_compare_19 : Dc prog_1_method_36_code 19 (.getfield 40) 3 22 := ⟨by decide +kernel, rfl⟩
theorem d_D_compare_22 : Dc prog_1_method_36_code 22 (.aload_n 0) 1 23 := ⟨by decide +kernel, rfl⟩
theorem d_D_compare_23 : Dc prog_1_method_36_code 23 (.getfield 10) 3 26 := ⟨by decide +kernel, rfl⟩
theorem d_D_compare_26 : Dc prog_1_method_36_code 26 (.aload_n 0) 1 27 := ⟨by decide +kernel, rfl⟩
theorem d_D_compare_27 : Dc prog_1_method_36_code 27 (.getfield 10) 3 30 := ⟨by decide +kernel, rfl⟩
theorem d_D_compare_30 : Dc prog_1_method_36_code 30 (.iload_n 1) 1 31 := ⟨by decide +kernel, rfl⟩
theorem d_D_compare_31 : Dc prog_1_method_36_code 31 (.invokevirtual 304) 3 34 := ⟨by decide +kernel, rfl⟩
theorem d_D_compare_34 : Dc prog_1_method_36_code 34 (.invokevirtual 146) 3 37 := ⟨by decide +kernel, rfl⟩
theorem d_D_compare_37 : Dc prog_1_method_36_code 37 (.aload_n 0) 1 38 := ⟨by decide +kernel, rfl⟩
theorem d_D_compare_38 : Dc prog_1_method_36_code 38 (.getfield 47) 3 41 := ⟨by decide +kernel, rfl⟩
theorem d_D_compare_41 : Dc prog_1_method_36_code 41 (.aload_n 0) 1 42 := ⟨by decide +kernel, rfl⟩
theorem d_D_compare_42 : Dc prog_1_method_36_code 42 (.getfield 10) 3 45 := ⟨by decide +kernel, rfl⟩
theorem d_D_compare_45 : Dc prog_1_method_36_code 45 (.aload_n 0) 1 46 := ⟨by decide +kernel, rfl⟩
theorem d_D_compare_46 : Dc prog_1_method_36_code 46 (.getfield 40) 3 49 := ⟨by decide +kernel, rfl⟩
theorem d_D_compare_49 : Dc prog_1_method_36_code 49 (.getfield 153) 3 52 := ⟨by decide +kernel, rfl⟩
theorem d_D_compare_52 : Dc prog_1_method_36_code 52 (.invokevirtual 258) 3 55 := ⟨by decide +kernel, rfl⟩
theorem d_D_compare_55 : Dc prog_1_method_36_code 55 (.aload_n 0) 1 56 := ⟨by decide +kernel, rfl⟩
theorem d_D_compare_56 : Dc prog_1_method_36_code 56 (.getfield 47) 3 59 := ⟨by decide +kernel, rfl⟩
theorem d_D_compare_59 : Dc prog_1_method_36_code 59 (.aload_n 0) 1 60 := ⟨by decide +kernel, rfl⟩
theorem d_D_compare_60 : Dc prog_1_method_36_code 60 (.getfield 40) 3 63 := ⟨by decide +kernel, rfl⟩
theorem d_D_compare_63 : Dc prog_1_method_36_code 63 (.getfield 150) 3 66 := ⟨by decide +kernel, rfl⟩
theorem d_D_compare_66 : Dc prog_1_method_36_code 66 (.invokevirtual 297) 3 69 := ⟨by decide +kernel, rfl⟩
theorem d_D_compare_69 : Dc prog_1_method_36_code 69 (.ireturn) 1 70 := ⟨by decide +kernel, rfl⟩
theorem d_Wa_findCheapest_0 : Dc prog_12_method_11_code 0 (.iconst (-1)) 1 1 := ⟨by decide +kernel, rfl⟩
theorem d_Wa_findCheapest_1 : Dc prog_12_method_11_code 1 (.istore_n 2) 1 2 := ⟨by decide +kernel, rfl⟩
theorem d_Wa_findCheapest_2 : Dc prog_12_method_11_code 2 (.iconst 0) 1 3 := ⟨by decide +kernel, rfl⟩
theorem d_Wa_findCheapest_3 : Dc prog_12_method_11_code 3 (.istore_n 3) 1 4 := ⟨by decide +kernel, rfl⟩
theorem d_Wa_findCheapest_4 : Dc prog_12_method_11_code 4 (.iload_n 3) 1 5 := ⟨by decide +kernel, rfl⟩
theorem d_Wa_findCheapest_5 : Dc prog_12_method_11_code 5 (.ldc 69) 2 7 := ⟨by decide +kernel, rfl⟩
theorem d_Wa_findCheapest_7 : Dj prog_12_method_11_code 7 (.if_icmp .ge 88) 10 88 95 := ⟨by decide +kernel, rfl, rfl⟩
theorem d_Wa_findCheapest_10 : Dc prog_12_method_11_code 10 (.aload_n 0) 1 11 := ⟨by decide +kernel, rfl⟩
theorem d_Wa_findCheapest_11 : Dc prog_12_method_11_code 11 (.invokevirtual 76) 3 14 := ⟨by decide +kernel, rfl⟩
theorem d_Wa_findCheapest_14 : Dj prog_12_method_11_code 14 (.ifCond .eq 81) 17 81 95 := ⟨by decide +kernel, rfl, rfl⟩
theorem d_Wa_findCheapest_17 : Dc prog_12_method_11_code 17 (.iconst 0) 1 18 := ⟨by decide +kernel, rfl⟩
theorem d_Wa_findCheapest_18 : Dc prog_12_method_11_code 18 (.istore 4) 2 20 := ⟨by decide +kernel, rfl⟩
theorem d_Wa_findCheapest_20 : Dc prog_12_method_11_code 20 (.iconst 0) 1 21 := ⟨by decide +kernel, rfl⟩
theorem d_Wa_findCheapest_21 : Dc prog_12_method_11_code 21 (.istore 5) 2 23 := ⟨by decide +kernel, rfl⟩
theorem d_Wa_findCheapest_23 : Dc prog_12_method_11_code 23 (.iload 5) 2 25 := ⟨by decide +kernel, rfl⟩
theorem d_Wa_findCheapest_25 : Dc prog_12_method_11_code 25 (.aload_n 0) 1 26 := ⟨by decide +kernel, rfl⟩
theorem d_Wa_findCheapest_26 : Dc prog_12_method_11_code 26 (.getfield 27) 3 29 := ⟨by decide +kernel, rfl⟩
theorem d_Wa_findCheapest_29 : Dc prog_12_method_11_code 29 (.getfield 44) 3 32 := ⟨by decide +kernel, rfl⟩
theorem d_Wa_findCheapest_32 : Dj prog_12_method_11_code 32 (.if_icmp .ge 29) 35 29 61 := ⟨by decide +kernel, rfl, rfl⟩
theorem d_Wa_findCheapest_35 : Dc prog_12_method_11_code 35 (.iload 4) 2 37 := ⟨by decide +kernel, rfl⟩
theorem d_Wa_findCheapest_37 : Dc prog_12_method_11_code 37 (.aload_n 1) 1 38 := ⟨by decide +kernel, rfl⟩
theorem d_Wa_findCheapest_38 : Dc prog_12_method_11_code 38 (.iload 5) 2 40 := ⟨by decide +kernel, rfl⟩
theorem d_Wa_findCheapest_40 : Dc prog_12_method_11_code 40 (.bipush 12) 2 42 := ⟨by decide +kernel, rfl⟩
theorem d_Wa_findCheapest_42 : Dc prog_12_method_11_code 42 (.imul) 1 43 := ⟨by decide +kernel, rfl⟩
theorem d_Wa_findCheapest_43 : Dc prog_12_method_11_code 43 (.aload_n 0) 1 44 := ⟨by decide +kernel, rfl⟩
theorem d_Wa_findCheapest_44 : Dc prog_12_method_11_code 44 (.getfield 9) 3 47 := ⟨by decide +kernel, rfl⟩
theorem d_Wa_findCheapest_47 : Dc prog_12_method_11_code 47 (.iload 5) 2 49 := ⟨by decide +kernel, rfl⟩
theorem d_Wa_findCheapest_49 : Dc prog_12_method_11_code 49 (.iaload) 1 50 := ⟨by decide +kernel, rfl⟩
theorem d_Wa_findCheapest_50 : Dc prog_12_method_11_code 50 (.iadd) 1 51 := ⟨by decide +kernel, rfl⟩
theorem d_Wa_findCheapest_51 : Dc prog_12_method_11_code 51 (.iaload) 1 52 := ⟨by decide +kernel, rfl⟩
theorem d_Wa_findCheapest_52 : Dc prog_12_method_11_code 52 (.iadd) 1 53 := ⟨by decide +kernel, rfl⟩
theorem d_Wa_findCheapest_53 : Dc prog_12_method_11_code 53 (.istore 4) 2 55 := ⟨by decide +kernel, rfl⟩
theorem d_Wa_findCheapest_55 : Dc prog_12_method_11_code 55 (.iinc 5 1) 3 58 := ⟨by decide +kernel, rfl⟩
theorem d_Wa_findCheapest_58 : Dj prog_12_method_11_code 58 (.goto (-35)) 61 (-35) 23 := ⟨by decide +kernel, rfl, rfl⟩
theorem d_Wa_findCheapest_61 : Dc prog_12_method_11_code 61 (.iload_n 2) 1 62 := ⟨by decide +kernel, rfl⟩
theorem d_Wa_findCheapest_62 : Dc prog_12_method_11_code 62 (.iconst (-1)) 1 63 := ⟨by decide +kernel, rfl⟩
theorem d_Wa_findCheapest_63 : Dj prog_12_method_11_code 63 (.if_icmp .eq 9) 66 9 72 := ⟨by decide +kernel, rfl, rfl⟩
theorem d_Wa_findCheapest_66 : Dc prog_12_method_11_code 66 (.iload 4) 2 68 := ⟨by decide +kernel, rfl⟩
theorem d_Wa_findCheapest_68 : Dc prog_12_method_11_code 68 (.iload_n 2) 1 69 := ⟨by decide +kernel, rfl⟩
theorem d_Wa_findCheapest_69 : Dj prog_12_method_11_code 69 (.if_icmp .ge 20) 72 20 89 := ⟨by decide +kernel, rfl, rfl⟩
theorem d_Wa_findCheapest_72 : Dc prog_12_method_11_code 72 (.iload 4) 2 74 := ⟨by decide +kernel, rfl⟩
theorem d_Wa_findCheapest_74 : Dc prog_12_method_11_code 74 (.istore_n 2) 1 75 := ⟨by decide +kernel, rfl⟩
theorem d_Wa_findCheapest_75 : Dc prog_12_method_11_code 75 (.aload_n 0) 1 76 := ⟨by decide +kernel, rfl⟩
theorem d_Wa_findCheapest_76 : Dc prog_12_method_11_code 76 (.getfield 9) 3 79 := ⟨by decide +kernel, rfl⟩
theorem d_Wa_findCheapest_79 : Dc prog_12_method_11_code 79 (.iconst 0) 1 80 := ⟨by decide +kernel, rfl⟩
theorem d_Wa_findCheapest_80 : Dc prog_12_method_11_code 80 (.aload_n 0) 1 81 := ⟨by decide +kernel, rfl⟩
theorem d_Wa_findCheapest_81 : Dc prog_12_method_11_code 81 (.getfield 18) 3 84 := ⟨by decide +kernel, rfl⟩
theorem d_Wa_findCheapest_84 : Dc prog_12_method_11_code 84 (.iconst 0) 1 85 := ⟨by decide +kernel, rfl⟩
theorem d_Wa_findCheapest_85 : Dc prog_12_method_11_code 85 (.iconst 5) 1 86 := ⟨by decide +kernel, rfl⟩
theorem d_Wa_findCheapest_86 : Dc prog_12_method_11_code 86 (.invokestatic 90) 3 89 := ⟨by decide +kernel, rfl⟩
theorem d_Wa_findCheapest_89 : Dc prog_12_method_11_code 89 (.iinc 3 1) 3 92 := ⟨by decide +kernel, rfl⟩
theorem d_Wa_findCheapest_92 : Dj prog_12_method_11_code 92 (.goto (-88)) 95 (-88) 4 := ⟨by decide +kernel, rfl, rfl⟩
theorem d_Wa_findCheapest_95 : Dc prog_12_method_11_code 95 (.iload_n 2) 1 96 := ⟨by decide +kernel, rfl⟩
theorem d_Wa_findCheapest_96 : Dc prog_12_method_11_code 96 (.ireturn) 1 97 := ⟨by decide +kernel, rfl⟩
theorem d_Wa_nodesOfWay_0 : Dc prog_12_method_12_code 0 (.iconst 0) 1 1 := ⟨by decide +kernel, rfl⟩
theorem d_Wa_nodesOfWay_1 : Dc prog_12_method_12_code 1 (.istore_n 1) 1 2 := ⟨by decide +kernel, rfl⟩
theorem d_Wa_nodesOfWay_2 : Dc prog_12_method_12_code 2 (.iconst 0) 1 3 := ⟨by decide +kernel, rfl⟩
theorem d_Wa_nodesOfWay_3 : Dc prog_12_method_12_code 3 (.istore_n 2) 1 4 := ⟨by decide +kernel, rfl⟩
theorem d_Wa_nodesOfWay_4 : Dc prog_12_method_12_code 4 (.iload_n 2) 1 5 := ⟨by decide +kernel, rfl⟩
theorem d_Wa_nodesOfWay_5 : Dc prog_12_method_12_code 5 (.aload_n 0) 1 6 := ⟨by decide +kernel, rfl⟩
theorem d_Wa_nodesOfWay_6 : Dc prog_12_method_12_code 6 (.getfield 27) 3 9 := ⟨by decide +kernel, rfl⟩
theorem d_Wa_nodesOfWay_9 : Dc prog_12_method_12_code 9 (.getfield 44) 3 12 := ⟨by decide +kernel, rfl⟩
theorem d_Wa_nodesOfWay_12 : Dj prog_12_method_12_code 12 (.if_icmp .ge 20) 15 20 32 := ⟨by decide +kernel, rfl, rfl⟩
theorem d_Wa_nodesOfWay_15 : Dc prog_12_method_12_code 15 (.iload_n 1) 1 16 := ⟨by decide +kernel, rfl⟩
theorem d_Wa_nodesOfWay_16 : Dc prog_12_method_12_code 16 (.iconst 1) 1 17 := ⟨by decide +kernel, rfl⟩
theorem d_Wa_nodesOfWay_17 : Dc prog_12_method_12_code 17 (.aload_n 0) 1 18 := ⟨by decide +kernel, rfl⟩
theorem d_Wa_nodesOfWay_18 : Dc prog_12_method_12_code 18 (.getfield 9) 3 21 := ⟨by decide +kernel, rfl⟩
theorem d_Wa_nodesOfWay_21 : Dc prog_12_method_12_code 21 (.iload_n 2) 1 22 := ⟨by decide +kernel, rfl⟩
theorem d_Wa_nodesOfWay_22 : Dc prog_12_method_12_code 22 (.iaload) 1 23 := ⟨by decide +kernel, rfl⟩
theorem d_Wa_nodesOfWay_23 : Dc prog_12_method_12_code 23 (.ishl) 1 24 := ⟨by decide +kernel, rfl⟩
theorem d_Wa_nodesOfWay_24 : Dc prog_12_method_12_code 24 (.ior) 1 25 := ⟨by decide +kernel, rfl⟩
theorem d_Wa_nodesOfWay_25 : Dc prog_12_method_12_code 25 (.istore_n 1) 1 26 := ⟨by decide +kernel, rfl⟩
theorem d_Wa_nodesOfWay_26 : Dc prog_12_method_12_code 26 (.iinc 2 1) 3 29 := ⟨by decide +kernel, rfl⟩
theorem d_Wa_nodesOfWay_29 : Dj prog_12_method_12_code 29 (.goto (-25)) 32 (-25) 4 := ⟨by decide +kernel, rfl, rfl⟩
theorem d_Wa_nodesOfWay_32 : Dc prog_12_method_12_code 32 (.iload_n 1) 1 33 := ⟨by decide +kernel, rfl⟩
theorem d_Wa_nodesOfWay_33 : Dc prog_12_method_12_code 33 (.ireturn) 1 34 := ⟨by decide +kernel, rfl⟩
theorem fl_D_301 : FL "SubgraphDesk" 301 11 2 true (.array .int) (3, 3) := ⟨R_Wa, F_Wa, 11, ty_Wa, rfl, rfl, in_Wa, tyok_Wa, nm_Wa, by decide, gd 402 (by decide +kernel) rfl, rfl, rfl, rfl⟩
theorem fl_Wa_18 : FL "SubgraphDesk$Walker" 18 11 2 true (.array .int) (3, 3) := ⟨R_Wa, F_Wa, 11, ty_Wa, rfl, rfl, in_Wa, tyok_Wa, nm_Wa, by decide, gd 401 (by decide +kernel) rfl, rfl, rfl, rfl⟩
theorem ml_D_297 : Cond.methodLink "SubgraphDesk" 297 m_Wa_findCheapest.1 ∈ lw_gd := gd 1239 (by decide +kernel) rfl
theorem ml_D_304 : Cond.methodLink "SubgraphDesk" 304 m_Bo_lawOrNull.1 ∈ lw_gd := gd 1248 (by decide +kernel) rfl
theorem ml_Wa_90 : Cond.methodLink "SubgraphDesk$Walker" 90 m_JSystem_arraycopy.1 ∈ lw_gd := gd 1243 (by decide +kernel) rfl
theorem extsC_f {g : GC} {o : Option Nat} {c : Nat → Nat} : ∀ (r : Nat) (q : List Nat), extsC (gForce g o) c r q = extsC g c r q
  | 0, q => rfl
  | r + 1, q => by
    rw [extsC, extsC]
    show (List.range (gN g)).flatMap _ = (List.range (gN g)).flatMap _
    unfold List.flatMap
    congr 1
    apply List.map_congr_left
    intro n _
    have e : okC (gForce g o) c q n = okC g c q n := by
      unfold okC
      congr 1
      exact Bool.eq_iff_iff.mpr ((fitN_iff (g := gForce g o) q.length).trans (fitN_iff (g := g) q.length).symm)
    rw [e, extsC_f r]
theorem waysC_f (g : GC) (o : Option Nat) (c : Nat → Nat) : waysC (gForce g o) c = waysC g c := extsC_f _ _
/-- the least so far -/
def lstI (b : Nat × List Nat) : Int32 := if b.1 = 100000000 then -1 else nI b.1
theorem WkT.lt {w : Mem} {g : GC} {c : Nat → Nat} {x : List Nat} {t : List (List Nat)} {tot : Nat} (h : WkT w g c x t tot) {u : Nat} (hu : u < gV g) : gA x u < gN g := h.2.1 _ (gA_mem (by rw [h.1]; exact hu))
theorem c_Wa_nodesOfWay {E : EV} {w : Mem} {g : GC} {c : Nat → Nat} {ab tot : Nat} {x : List Nat} {t : List (List Nat)} (hE2 : WkE w g c ab) (hT : WkT w g c x t tot) : T E m_Wa_nodesOfWay 0 0 0 [.ref 36] w (Ret (some (.int (nI (setN x (gV g))))) w) := by
  refine T_of (L := [.ref 36, un, un]) cf_Wa_nodesOfWay rfl (Nat.le_of_ble_eq_true rfl) (fun X hX hF => ?_)
  have hn := hE2.2.1.n
  have hv := hE2.2.1.v
  have lp : ∀ (fuel : Nat) (v : Nat), gV g - v < fuel → (v ≤ gV g) → G0 E X 0 0 4 [.ref 36, .int (nI (setN x v)), .int (nI v)] [] w := by
    intro fuel
    induction fuel with
    | zero => intro v q0; exact absurd q0 (Nat.not_lt_zero _)
    | succ fuel ih =>
      intro v q0 q1
      refine g_iload2 hX d_Wa_nodesOfWay_4 ?_
      refine g_aload0 hX d_Wa_nodesOfWay_5 ?_
      refine g_getR hX d_Wa_nodesOfWay_6 fl_Wa_27 (lv_36 _) hE2.2.2.1 ?_
      refine g_getI hX d_Wa_nodesOfWay_9 fl_Wa_44 (lv_1 _) ?_
      refine g_topi hE2.1.v ?_
      refine g_icmpN_ge hX d_Wa_nodesOfWay_12 (by omega) (by omega) (fun e12 => ?_) (fun e12 => ?_)
      · refine g_iload1 hX d_Wa_nodesOfWay_32 ?_
        refine g_iret hX hF d_Wa_nodesOfWay_33 (by omega) (by omega) ?_
        obtain rfl : v = gV g := by omega
        exact ⟨rfl, rfl⟩
      · have hx := hT.lt e12
        refine g_iload1 hX d_Wa_nodesOfWay_15 ?_
        refine g_iconst (v := nI 1) hX d_Wa_nodesOfWay_16 rfl ?_
        refine g_aload0 hX d_Wa_nodesOfWay_17 ?_
        refine g_getF hX d_Wa_nodesOfWay_18 fl_Wa_9 (lv_36 _) ?_
        refine g_iload2 hX d_Wa_nodesOfWay_21 ?_
        refine g_iald hX d_Wa_nodesOfWay_22 (lv_37 _) rfl (by omega) ?_
        refine g_topi (hT.2.2.1 v e12) ?_
        refine g_ishlN hX d_Wa_nodesOfWay_23 (by omega) ?_
        refine g_iorN hX d_Wa_nodesOfWay_24 ?_
        refine g_istore1 hX d_Wa_nodesOfWay_25 rfl (by decide) ?_
        refine g_iincN2 hX d_Wa_nodesOfWay_26 rfl (by decide) ?_
        refine g_goto hX d_Wa_nodesOfWay_29 ?_
        exact ih (v + 1) (by omega) (by omega)
  refine g_iconst (v := nI 0) hX d_Wa_nodesOfWay_0 rfl ?_
  refine g_istore1 hX d_Wa_nodesOfWay_1 rfl (by decide) ?_
  refine g_iconst (v := nI 0) hX d_Wa_nodesOfWay_2 rfl ?_
  refine g_istore2 hX d_Wa_nodesOfWay_3 rfl (by decide) ?_
  exact lp (gV g + 1) 0 (by omega) (Nat.zero_le _)
theorem WkB.ch {w w2 : Mem} {g : GC} {lf : Nat → Nat} {q : List Nat} (h : WkB w g lf q) (e : ∀ a, a = 36 ∨ a = 37 ∨ a = 38 → rI w2 a = rI w a) : WkB w2 g lf q := by
  unfold WkB
  rw [e 36 (by decide), e 37 (by decide), e 38 (by decide)]
  exact h
theorem WkS.ch0 {w w2 : Mem} {g : GC} {c : Nat → Nat} {ws : List (List Nat)} {tot : Nat} (h : WkS w g c ws tot) (e : ∀ a, a = 36 ∨ a = 37 ∨ a = 38 → rI w2 a = rI w a) : WkS w2 g c ws tot := by
  unfold WkS WkM WkZ at *
  rw [e 36 (by decide)]
  rcases h with h | h | ⟨lf, q, h1, h2⟩
  · exact Or.inl h
  · exact Or.inr (Or.inl h)
  · exact Or.inr (Or.inr ⟨lf, q, h1.ch e, h2⟩)
theorem WkS.ch {w : Mem} {g : GC} {c : Nat → Nat} {ws : List (List Nat)} {tot : Nat} {f : Nat → Int32} (h : WkS w g c ws tot) : WkS (sA w 39 f) g c ws tot := h.ch0 (fun a ha => rI_sA_ne _ _ (by omega))
theorem c_Wa_findCheapest {E : EV} {w : Mem} {g : GC} {o : Option Nat} {c : Nat → Nat} {ab tot : Nat} {wl : List (List Nat)} (hE : WkE w g c ab) (hS : WkS w g c wl tot) (hC : LeC w (gForce g o) (gV g) 0) (hl2 : wl.length ≤ 300000) : T E m_Wa_findCheapest 4 0 0 [.ref 36, .ref 33] w (fun r w2 => r = some (.int (lstI (wl.foldl (bestF (gForce g o)) (100000000, [])))) ∧ FrWk w w2 ∧ ((wl.foldl (bestF (gForce g o)) (100000000, [])).1 ≠ 100000000 → ∀ u, u < gV g → rI w2 39 u = nI (gA (wl.foldl (bestF (gForce g o)) (100000000, [])).2 u))) := by
  refine T_of (L := [.ref 36, .ref 33, un, un, un, un]) cf_Wa_findCheapest rfl (Nat.le_of_ble_eq_true rfl) (fun X hX hF => ?_)
  have hW := hE.2.1
  have hn := hW.n
  have hv := hW.v
  have lp : ∀ (fuel : Nat) (k : Nat) (ws : List (List Nat)) (b : Nat × List Nat) (wk : Mem), ws.length < fuel → (FrWk w wk) → (WkS wk g c ws tot) → (k + ws.length ≤ 400000) → (ws.foldl (bestF (gForce g o)) b = wl.foldl (bestF (gForce g o)) (100000000, [])) → (b.1 ≤ 100000000) → (b.1 ≠ 100000000 → ∀ u, u < gV g → rI wk 39 u = nI (gA b.2 u)) → G0 E X 0 0 4 [.ref 36, .ref 33, .int (lstI b), .int (nI k), un, un] [] wk := by
    intro fuel
    induction fuel with
    | zero => intro k ws b wk q0; exact absurd q0 (Nat.not_lt_zero _)
    | succ fuel ih =>
      intro k ws b wk q0 q1 q2 q3 q4 q5 q6
      refine g_iload3 hX d_Wa_findCheapest_4 ?_
      refine g_ldc (v := nI 1000000) hX d_Wa_findCheapest_5 k_Wa_69 rfl ?_
      refine g_icmpN_ge hX d_Wa_findCheapest_7 (by omega) (by omega) (fun h => absurd h (by omega)) (fun c0 => ?_)
      refine g_aload0 hX d_Wa_findCheapest_10 ?_
      refine g_callV (As := []) hX hF.1 d_Wa_findCheapest_11 ml_Wa_76 cf_Wa_advance cv_Wa_advance rfl rfl (c_Wa_adv (hE.fr q1) q2) (rcv_obj hX (lv_36 _) rfl rfl) (by omega) (by omega) (by omega) (Nat.le_of_ble_eq_true rfl) ?_
      rintro _ w2 ⟨hp, hfa⟩
      obtain ⟨z, rfl, hz2, hz⟩ := hp.c
      have hf2 := q1.tr hfa.W
      show G0 _ _ _ _ _ _ _ _
      refine g_if_eq hX d_Wa_findCheapest_14 (fun e14 => ?_) (fun e14 => ?_)
      · have hz0 : z = 0 := nI_inj (by omega) (by decide) e14
        obtain ⟨-, rfl, hZ, hst⟩ := hz.resolve_right (fun y => by omega)
        refine g_iload2 hX d_Wa_findCheapest_95 ?_
        refine g_iret hX hF d_Wa_findCheapest_96 (by omega) (by omega) ?_
        have hq4 : b = (wl.foldl (bestF (gForce g o)) (100000000, [])) := q4
        rw [← hq4]
        exact ⟨rfl, hf2, fun hb u hu => by rw [hfa.1 39 (by decide)]; exact q6 hb u hu⟩
      · have hz1 : z = 1 := by
          have : z ≠ 0 := fun y => e14 (by rw [y]; rfl)
          omega
        obtain ⟨-, x, t, rfl, hT⟩ := hz.resolve_left (fun y => by omega)
        have hE2 := hE.fr hf2
        refine g_iconst (v := nI 0) hX d_Wa_findCheapest_17 rfl ?_
        refine g_istore4 hX d_Wa_findCheapest_18 rfl (by decide) ?_
        refine g_iconst (v := nI 0) hX d_Wa_findCheapest_20 rfl ?_
        refine g_istore5 hX d_Wa_findCheapest_21 rfl (by decide) ?_
        have hq0 := q0
        have lpS : ∀ (fuel : Nat) (v : Nat), gV g - v < fuel → (v ≤ gV g) → G0 E X 0 0 23 [.ref 36, .ref 33, .int (lstI b), .int (nI k), .int (nI (costN (gForce g o) x v)), .int (nI v)] [] w2 := by
          intro fuel
          induction fuel with
          | zero => intro v q0; exact absurd q0 (Nat.not_lt_zero _)
          | succ fuel ihS =>
            intro v q0 q1
            refine g_iload5 hX d_Wa_findCheapest_23 ?_
            refine g_aload0 hX d_Wa_findCheapest_25 ?_
            refine g_getR hX d_Wa_findCheapest_26 fl_Wa_27 (lv_36 _) hE2.2.2.1 ?_
            refine g_getI hX d_Wa_findCheapest_29 fl_Wa_44 (lv_1 _) ?_
            refine g_topi hE2.1.v ?_
            refine g_icmpN_ge hX d_Wa_findCheapest_32 (by omega) (by omega) (fun e32 => ?_) (fun e32 => ?_)
            · obtain rfl : v = gV g := by omega
              have hcl := costN_le (gForce g o) x (gV g)
              refine g_iload2 hX d_Wa_findCheapest_61 ?_
              refine g_iconst (v := -1) hX d_Wa_findCheapest_62 rfl ?_
              refine g_icmp_eq hX d_Wa_findCheapest_63 (fun e63 => ?_) (fun e63 => ?_)
              · have hlt : costN (gForce g o) x (gV g) < b.1 := by
                  unfold lstI at e63
                  by_cases hb : b.1 = 100000000
                  · omega
                  · rw [if_neg hb] at e63; exact absurd e63 (nI_m1 (by omega))
                refine g_iload4 hX d_Wa_findCheapest_72 ?_
                refine g_istore2 hX d_Wa_findCheapest_74 rfl (by decide) ?_
                refine g_aload0 hX d_Wa_findCheapest_75 ?_
                refine g_getF hX d_Wa_findCheapest_76 fl_Wa_9 (lv_36 _) ?_
                refine g_iconst (v := nI 0) hX d_Wa_findCheapest_79 rfl ?_
                refine g_aload0 hX d_Wa_findCheapest_80 ?_
                refine g_getF hX d_Wa_findCheapest_81 fl_Wa_18 (lv_36 _) ?_
                refine g_iconst (v := nI 0) hX d_Wa_findCheapest_84 rfl ?_
                refine g_iconst (v := nI 5) hX d_Wa_findCheapest_85 rfl ?_
                refine g_acpI hX hF.1 d_Wa_findCheapest_86 ml_Wa_90 lk_acst lk_acna lk_acin (lv_37 _) (lv_39 _) (by omega) (by omega) (by decide) (by omega) (Nat.le_of_ble_eq_true rfl) ?_
                refine g_iincN3 hX d_Wa_findCheapest_89 rfl (by decide) ?_
                refine g_goto hX d_Wa_findCheapest_92 ?_
                have hbF : bestF (gForce g o) b x = (costN (gForce g o) x (gV g), x) := if_pos hlt
                have hls : lstI (bestF (gForce g o) b x) = nI (costN (gForce g o) x (gV g)) := by
                  rw [hbF]
                  exact if_neg (by show ¬ costN _ _ _ = 100000000; omega)
                rw [← hls]
                refine g_fget 4 ?_
                refine g_fget 5 ?_
                exact ih (k + 1) t (bestF (gForce g o) b x) (sA w2 39 (va_cpy (rI w2 37) (rI w2 39) 0 0 5)) (by simp only [List.length_cons] at hq0; omega) (hf2.tr ⟨fun a ha => by rw [rI_sA_ne _ _ (by omega)], rfl⟩) (hT.S.ch) (by simp only [List.length_cons] at q3; omega) (by rw [← q4]; rfl) (by rw [hbF]; show costN _ _ _ ≤ 100000000; omega) (fun _ u hu => by rw [rI_sA, hbF, cpy_n (by omega)]; exact hT.2.2.1 u hu)
              · have hb : ¬ b.1 = 100000000 := fun z => e63 (by unfold lstI; rw [if_pos z])
                have hlb : lstI b = nI b.1 := if_neg hb
                refine g_iload4 hX d_Wa_findCheapest_66 ?_
                refine g_iload2 hX d_Wa_findCheapest_68 ?_
                refine g_icmp_ge hX d_Wa_findCheapest_69 (fun e69 => ?_) (fun e69 => ?_)
                · have hlt : ¬ costN (gForce g o) x (gV g) < b.1 := fun z => by
                    rw [hlb] at e69
                    exact absurd (nI_lt z (by omega)) (Int32.not_lt.mpr e69)
                  refine g_iincN3 hX d_Wa_findCheapest_89 rfl (by decide) ?_
                  refine g_goto hX d_Wa_findCheapest_92 ?_
                  have hbF : bestF (gForce g o) b x = b := if_neg hlt
                  refine g_fget 4 ?_
                  refine g_fget 5 ?_
                  rw [show lstI b = lstI (bestF (gForce g o) b x) by rw [hbF]]
                  exact ih (k + 1) t (bestF (gForce g o) b x) w2 (by simp only [List.length_cons] at hq0; omega) hf2 hT.S (by simp only [List.length_cons] at q3; omega) (by rw [← q4]; rfl) (by rw [hbF]; exact q5) (fun hb u hu => by rw [hbF] at hb ⊢; rw [hfa.1 39 (by decide)]; exact q6 hb u hu)
                · have hlt : costN (gForce g o) x (gV g) < b.1 := by
                    rw [hlb] at e69
                    exact (nI_ltI (by omega) (by omega)).mp (Int32.not_le.mp e69)
                  refine g_iload4 hX d_Wa_findCheapest_72 ?_
                  refine g_istore2 hX d_Wa_findCheapest_74 rfl (by decide) ?_
                  refine g_aload0 hX d_Wa_findCheapest_75 ?_
                  refine g_getF hX d_Wa_findCheapest_76 fl_Wa_9 (lv_36 _) ?_
                  refine g_iconst (v := nI 0) hX d_Wa_findCheapest_79 rfl ?_
                  refine g_aload0 hX d_Wa_findCheapest_80 ?_
                  refine g_getF hX d_Wa_findCheapest_81 fl_Wa_18 (lv_36 _) ?_
                  refine g_iconst (v := nI 0) hX d_Wa_findCheapest_84 rfl ?_
                  refine g_iconst (v := nI 5) hX d_Wa_findCheapest_85 rfl ?_
                  refine g_acpI hX hF.1 d_Wa_findCheapest_86 ml_Wa_90 lk_acst lk_acna lk_acin (lv_37 _) (lv_39 _) (by omega) (by omega) (by decide) (by omega) (Nat.le_of_ble_eq_true rfl) ?_
                  refine g_iincN3 hX d_Wa_findCheapest_89 rfl (by decide) ?_
                  refine g_goto hX d_Wa_findCheapest_92 ?_
                  have hbF : bestF (gForce g o) b x = (costN (gForce g o) x (gV g), x) := if_pos hlt
                  have hls : lstI (bestF (gForce g o) b x) = nI (costN (gForce g o) x (gV g)) := by
                    rw [hbF]
                    exact if_neg (by show ¬ costN _ _ _ = 100000000; omega)
                  rw [← hls]
                  refine g_fget 4 ?_
                  refine g_fget 5 ?_
                  exact ih (k + 1) t (bestF (gForce g o) b x) (sA w2 39 (va_cpy (rI w2 37) (rI w2 39) 0 0 5)) (by simp only [List.length_cons] at hq0; omega) (hf2.tr ⟨fun a ha => by rw [rI_sA_ne _ _ (by omega)], rfl⟩) (hT.S.ch) (by simp only [List.length_cons] at q3; omega) (by rw [← q4]; rfl) (by rw [hbF]; show costN _ _ _ ≤ 100000000; omega) (fun _ u hu => by rw [rI_sA, hbF, cpy_n (by omega)]; exact hT.2.2.1 u hu)
            · have hx := hT.lt e32
              refine g_iload4 hX d_Wa_findCheapest_35 ?_
              refine g_aload1 hX d_Wa_findCheapest_37 ?_
              refine g_iload5 hX d_Wa_findCheapest_38 ?_
              refine g_bipush (v := nI 12) hX d_Wa_findCheapest_40 rfl ?_
              refine g_imulN hX d_Wa_findCheapest_42 ?_
              refine g_aload0 hX d_Wa_findCheapest_43 ?_
              refine g_getF hX d_Wa_findCheapest_44 fl_Wa_9 (lv_36 _) ?_
              refine g_iload5 hX d_Wa_findCheapest_47 ?_
              refine g_iald hX d_Wa_findCheapest_49 (lv_37 _) rfl (by omega) ?_
              refine g_topi (hT.2.2.1 v e32) ?_
              refine g_iaddN hX d_Wa_findCheapest_50 ?_
              refine g_iald hX d_Wa_findCheapest_51 (lv_33 _) rfl (by omega) ?_
              refine g_topi (show rI w2 33 (v * 12 + gA x v) = nI (gCost (gForce g o) v (gA x v)) by rw [hf2.1 33 (by decide)]; exact hC v _ (Or.inl ⟨e32, hx⟩)) ?_
              refine g_iaddN hX d_Wa_findCheapest_52 ?_
              refine g_istore4 hX d_Wa_findCheapest_53 rfl (by decide) ?_
              refine g_iincN5 hX d_Wa_findCheapest_55 rfl (by decide) ?_
              refine g_goto hX d_Wa_findCheapest_58 ?_
              exact ihS (v + 1) (by omega) (by omega)
        exact lpS (gV g + 1) 0 (by omega) (Nat.zero_le _)
  refine g_iconst (v := -1) hX d_Wa_findCheapest_0 rfl ?_
  refine g_istore2 hX d_Wa_findCheapest_1 rfl (by decide) ?_
  refine g_iconst (v := nI 0) hX d_Wa_findCheapest_2 rfl ?_
  refine g_istore3 hX d_Wa_findCheapest_3 rfl (by decide) ?_
  refine g_loc (show [Value.ref 36, Value.ref 33, Value.int (-1), Value.int (nI 0), un, un] = [Value.ref 36, Value.ref 33, Value.int (lstI (100000000, [])), Value.int (nI 0), un, un] from rfl) ?_
  exact lp (wl.length + 1) 0 wl (100000000, []) w (by omega) (FrWk.rf w) hS (by omega) rfl (Nat.le_refl _) (fun z => absurd rfl z)
theorem lst_G (g : GC) : lstI (bestG g) = leastI g := rfl
theorem c_D_best {E : EV} {w : Mem} {v : Int32} {s : SG} (h : DInv w s) : T E m_D_best 6 0 0 [.ref 0, .int v] w (fun r w2 => r = some (.int (opBest v (sG s))) ∧ DInv w2 s ∧ DkD w w2) := by
  refine T_of (L := [.ref 0, .int v, un]) cf_D_best rfl (Nat.le_of_ble_eq_true rfl) (fun X hX hF => ?_)
  obtain ⟨⟨hR, hW, hA⟩, hL, hT, hI, hRF, ⟨hsm, hfa, hsp⟩, hdr, hfx⟩ := id h
  have hn := hW.n
  have hv := hW.v
  have he := hW.el
  have hll := hW.ll
  have hsl := hW.sl
  refine g_iload1 hX d_D_best_0 ?_
  refine g_iconst (v := -1) hX d_D_best_1 rfl ?_
  refine g_icmp_eq hX d_D_best_2 (fun e2 => ?_) (fun e2 => ?_)
  · refine g_aload0 hX d_D_best_18 ?_
    refine g_callV (As := []) hX hF.1 d_D_best_19 ml_D_264 cf_D_startWays cv_D_startWays rfl rfl (c_D_startWays h) (rcv_obj hX (lv_0 _) rfl rfl) (by omega) (by omega) (by omega) (Nat.le_of_ble_eq_true rfl) ?_
    rintro _ w1 ⟨rfl, hE1, hS1, hLe1, h1, hQ1⟩
    have hwl : (waysL (sG s)).length ≤ 248832 := by rw [← ways_C]; exact waysC_len hW
    show G0 _ _ _ _ _ _ _ _
    refine g_aload0 hX d_D_best_22 ?_
    refine g_getF hX d_D_best_23 fl_D_47 (lv_0 _) ?_
    refine g_aload0 hX d_D_best_26 ?_
    refine g_getF hX d_D_best_27 fl_D_40 (lv_0 _) ?_
    refine g_getF hX d_D_best_30 fl_D_150 (lv_31 _) ?_
    refine g_callV (As := [_]) hX hF.1 d_D_best_33 ml_D_297 cf_Wa_findCheapest cv_Wa_findCheapest rfl rfl (c_Wa_findCheapest (o := gF (sG s)) hE1 hS1 hLe1.2 (by omega)) (rcv_obj hX (lv_36 _) rfl rfl) (by omega) (by omega) (by omega) (Nat.le_of_ble_eq_true rfl) ?_
    rintro _ w2 ⟨rfl, hf2, hch⟩
    replace hch : (bestG (sG s)).1 ≠ 100000000 → ∀ u, u < gV (sG s) → rI w2 39 u = nI (gA (bestG (sG s)).2 u) := hch
    show G0 _ _ _ _ _ _ _ _
    refine g_topi (show _ = leastI (sG s) from rfl) ?_
    refine g_istore2 hX d_D_best_36 rfl (by decide) ?_
    refine g_iload2 hX d_D_best_37 ?_
    refine g_iconst (v := -1) hX d_D_best_38 rfl ?_
    refine g_icmp_eq hX d_D_best_39 (fun e39 => ?_) (fun e39 => ?_)
    · refine g_iload2 hX d_D_best_47 ?_
      refine g_iret hX hF d_D_best_48 (by omega) (by omega) ?_
      rw [best_a (by first | exact Or.inl e2 | exact Or.inr hin) (by first | exact Or.inl e39 | exact Or.inr e2)]
      exact ⟨rfl, h1.q hf2.Q, (hQ1.tr hf2.Q).D⟩
    · refine g_iload1 hX d_D_best_42 ?_
      refine g_iconst (v := -1) hX d_D_best_43 rfl ?_
      refine g_icmp_ne hX d_D_best_44 (fun h => absurd e2 h) (fun e44 => ?_)
      refine g_iload2 hX d_D_best_47 ?_
      refine g_iret hX hF d_D_best_48 (by omega) (by omega) ?_
      rw [best_a (by first | exact Or.inl e2 | exact Or.inr hin) (by first | exact Or.inl e39 | exact Or.inr e2)]
      exact ⟨rfl, h1.q hf2.Q, (hQ1.tr hf2.Q).D⟩
  · refine g_aload0 hX d_D_best_5 ?_
    refine g_getF hX d_D_best_6 fl_D_10 (lv_0 _) ?_
    refine g_iload1 hX d_D_best_9 ?_
    refine g_callV (As := [_]) hX hF.1 d_D_best_10 ml_D_126 cf_Bo_hasVertex cv_Bo_hasVertex rfl rfl (c_Bo_hasVertex isBo1 hR hW) (rcv_obj hX (lv_1 _) rfl rfl) (by omega) (by omega) (by omega) (Nat.le_of_ble_eq_true rfl) ?_
    refine ret_k ?_
    refine g_ifB_ne hX d_D_best_13 (fun e13 => ?_) (fun e13 => ?_)
    · have hin := e13
      obtain ⟨x, hx, rfl, htx⟩ := inN_of e13 (by omega)
      refine g_aload0 hX d_D_best_18 ?_
      refine g_callV (As := []) hX hF.1 d_D_best_19 ml_D_264 cf_D_startWays cv_D_startWays rfl rfl (c_D_startWays h) (rcv_obj hX (lv_0 _) rfl rfl) (by omega) (by omega) (by omega) (Nat.le_of_ble_eq_true rfl) ?_
      rintro _ w1 ⟨rfl, hE1, hS1, hLe1, h1, hQ1⟩
      have hwl : (waysL (sG s)).length ≤ 248832 := by rw [← ways_C]; exact waysC_len hW
      show G0 _ _ _ _ _ _ _ _
      refine g_aload0 hX d_D_best_22 ?_
      refine g_getF hX d_D_best_23 fl_D_47 (lv_0 _) ?_
      refine g_aload0 hX d_D_best_26 ?_
      refine g_getF hX d_D_best_27 fl_D_40 (lv_0 _) ?_
      refine g_getF hX d_D_best_30 fl_D_150 (lv_31 _) ?_
      refine g_callV (As := [_]) hX hF.1 d_D_best_33 ml_D_297 cf_Wa_findCheapest cv_Wa_findCheapest rfl rfl (c_Wa_findCheapest (o := gF (sG s)) hE1 hS1 hLe1.2 (by omega)) (rcv_obj hX (lv_36 _) rfl rfl) (by omega) (by omega) (by omega) (Nat.le_of_ble_eq_true rfl) ?_
      rintro _ w2 ⟨rfl, hf2, hch⟩
      replace hch : (bestG (sG s)).1 ≠ 100000000 → ∀ u, u < gV (sG s) → rI w2 39 u = nI (gA (bestG (sG s)).2 u) := hch
      show G0 _ _ _ _ _ _ _ _
      refine g_topi (show _ = leastI (sG s) from rfl) ?_
      refine g_istore2 hX d_D_best_36 rfl (by decide) ?_
      refine g_iload2 hX d_D_best_37 ?_
      refine g_iconst (v := -1) hX d_D_best_38 rfl ?_
      refine g_icmp_eq hX d_D_best_39 (fun e39 => ?_) (fun e39 => ?_)
      · refine g_iload2 hX d_D_best_47 ?_
        refine g_iret hX hF d_D_best_48 (by omega) (by omega) ?_
        rw [best_a (by first | exact Or.inl e2 | exact Or.inr hin) (by first | exact Or.inl e39 | exact Or.inr e2)]
        exact ⟨rfl, h1.q hf2.Q, (hQ1.tr hf2.Q).D⟩
      · refine g_iload1 hX d_D_best_42 ?_
        refine g_iconst (v := -1) hX d_D_best_43 rfl ?_
        refine g_icmp_ne hX d_D_best_44 (fun e44 => ?_) (fun h => absurd h e2)
        refine g_aload0 hX d_D_best_49 ?_
        refine g_getF hX d_D_best_50 fl_D_47 (lv_0 _) ?_
        refine g_getF hX d_D_best_53 fl_D_301 (lv_36 _) ?_
        refine g_iload1 hX d_D_best_56 ?_
        refine g_iald hX d_D_best_57 (lv_39 _) rfl (by omega) ?_
        refine g_topi (hch (fun z => e39 (by unfold leastI; rw [if_pos z])) x hx) ?_
        refine g_iret hX hF d_D_best_58 (by omega) (by omega) ?_
        rw [best_b hx hv e39]
        exact ⟨rfl, h1.q hf2.Q, (hQ1.tr hf2.Q).D⟩
    · refine g_iconst (v := -1) hX d_D_best_16 rfl ?_
      refine g_iret hX hF d_D_best_17 (by omega) (by omega) ?_
      rw [best_no ⟨e2, e13⟩]
      exact ⟨rfl, h, DkD.rf w⟩
theorem c_D_compare {E : EV} {w : Mem} {v : Int32} {s : SG} (h : DInv w s) : T E m_D_compare 6 0 0 [.ref 0, .int v] w (fun r w2 => r = some (.int (opCompare v (sG s))) ∧ DInv w2 s ∧ DkD w w2) := by
  refine T_of (L := [.ref 0, .int v]) cf_D_compare rfl (Nat.le_of_ble_eq_true rfl) (fun X hX hF => ?_)
  obtain ⟨⟨hR, hW, hA⟩, hL, hT, hI, hRF, ⟨hsm, hfa, hsp⟩, hdr, hfx⟩ := id h
  have hn := hW.n
  have hv := hW.v
  have he := hW.el
  have hll := hW.ll
  have hsl := hW.sl
  refine g_iload1 hX d_D_compare_0 ?_
  refine g_iconst (v := -1) hX d_D_compare_1 rfl ?_
  refine g_icmp_eq hX d_D_compare_2 (fun e2 => ?_) (fun e2 => ?_)
  · refine g_aload0 hX d_D_compare_18 ?_
    refine g_getF hX d_D_compare_19 fl_D_40 (lv_0 _) ?_
    refine g_aload0 hX d_D_compare_22 ?_
    refine g_getF hX d_D_compare_23 fl_D_10 (lv_0 _) ?_
    refine g_aload0 hX d_D_compare_26 ?_
    refine g_getF hX d_D_compare_27 fl_D_10 (lv_0 _) ?_
    refine g_iload1 hX d_D_compare_30 ?_
    refine g_callV (As := [_]) hX hF.1 d_D_compare_31 ml_D_304 cf_Bo_lawOrNull cv_Bo_lawOrNull rfl rfl (c_Bo_lawN hR hW (by rw [e2]; exact fun z => absurd z.1 (by decide))) (rcv_obj hX (lv_1 _) rfl rfl) (by omega) (by omega) (by omega) (Nat.le_of_ble_eq_true rfl) ?_
    refine ret_k ?_
    refine g_callV (As := [_, _]) hX hF.1 d_D_compare_34 ml_D_146 cf_Le_fill cv_Le_fill rfl rfl (c_Le_fillN (o := none) hR hW rfl) (rcv_obj hX (lv_31 _) rfl rfl) (by omega) (by omega) (by omega) (Nat.le_of_ble_eq_true rfl) ?_
    rintro _ w2 ⟨rfl, hfl, hLe⟩
    show G0 _ _ _ _ _ _ _ _
    refine g_aload0 hX d_D_compare_37 ?_
    refine g_getF hX d_D_compare_38 fl_D_47 (lv_0 _) ?_
    refine g_aload0 hX d_D_compare_41 ?_
    refine g_getF hX d_D_compare_42 fl_D_10 (lv_0 _) ?_
    refine g_aload0 hX d_D_compare_45 ?_
    refine g_getF hX d_D_compare_46 fl_D_40 (lv_0 _) ?_
    refine g_getF hX d_D_compare_49 fl_D_153 (lv_31 _) ?_
    refine g_callV (As := [_, _]) hX hF.1 d_D_compare_52 ml_D_258 cf_Wa_start cv_Wa_start rfl rfl (c_Wa_start (c := mayG (gForce (sG s) none)) (hR.l hfl) hW (Or.inl rfl) (fun v hv => ⟨hLe.1 v hv, mayN_ltN _ _ _⟩)) (rcv_obj hX (lv_36 _) rfl rfl) (by omega) (by omega) (by omega) (Nat.le_of_ble_eq_true rfl) ?_
    rintro _ w3 ⟨rfl, hE3, hS3, hf3⟩
    rw [← waysC_f (sG s) none] at hS3
    replace hS3 : WkS w3 (sG s) (mayG (gForce (sG s) none)) (waysC (gForce (sG s) none) (fun v => mayN (gForce (sG s) none) v (gN (gForce (sG s) none)))) _ := hS3
    rw [ways_C] at hS3
    have hwl : (waysL (gForce (sG s) none)).length ≤ 248832 := by rw [← ways_C, waysC_f]; exact waysC_len hW
    show G0 _ _ _ _ _ _ _ _
    refine g_aload0 hX d_D_compare_55 ?_
    refine g_getF hX d_D_compare_56 fl_D_47 (lv_0 _) ?_
    refine g_aload0 hX d_D_compare_59 ?_
    refine g_getF hX d_D_compare_60 fl_D_40 (lv_0 _) ?_
    refine g_getF hX d_D_compare_63 fl_D_150 (lv_31 _) ?_
    refine g_callV (As := [_]) hX hF.1 d_D_compare_66 ml_D_297 cf_Wa_findCheapest cv_Wa_findCheapest rfl rfl (c_Wa_findCheapest (o := none) hE3 hS3 (fun u z hz => by rw [hf3.1 33 (by decide)]; exact hLe.2 u z hz) (by omega)) (rcv_obj hX (lv_36 _) rfl rfl) (by omega) (by omega) (by omega) (Nat.le_of_ble_eq_true rfl) ?_
    rintro _ w4 ⟨rfl, hf4, -⟩
    show G0 _ _ _ _ _ _ _ _
    refine g_iret hX hF d_D_compare_69 (by omega) (by omega) ?_
    rw [e2, cmp_none]
    exact ⟨rfl, h.q ((hfl.Q.tr hf3.Q).tr hf4.Q), ((hfl.Q.tr hf3.Q).tr hf4.Q).D⟩
  · refine g_aload0 hX d_D_compare_5 ?_
    refine g_getF hX d_D_compare_6 fl_D_10 (lv_0 _) ?_
    refine g_iload1 hX d_D_compare_9 ?_
    refine g_callV (As := [_]) hX hF.1 d_D_compare_10 ml_D_232 cf_Bo_hasLaw cv_Bo_hasLaw rfl rfl (c_Bo_hasLaw isBo1 hR hW) (rcv_obj hX (lv_1 _) rfl rfl) (by omega) (by omega) (by omega) (Nat.le_of_ble_eq_true rfl) ?_
    refine ret_k ?_
    refine g_ifB_ne hX d_D_compare_13 (fun e13 => ?_) (fun e13 => ?_)
    · obtain ⟨m, hm, rfl, htm⟩ := inN_of e13 (by omega)
      obtain ⟨pl, hpl, hPL⟩ := hL m _ (List.getElem?_eq_getElem hm)
      rw [show (gL (sG s))[m] = (gL (sG s)).getD m [] by rw [List.getD_eq_getElem?_getD, List.getElem?_eq_getElem hm]; rfl] at hPL
      refine g_aload0 hX d_D_compare_18 ?_
      refine g_getF hX d_D_compare_19 fl_D_40 (lv_0 _) ?_
      refine g_aload0 hX d_D_compare_22 ?_
      refine g_getF hX d_D_compare_23 fl_D_10 (lv_0 _) ?_
      refine g_aload0 hX d_D_compare_26 ?_
      refine g_getF hX d_D_compare_27 fl_D_10 (lv_0 _) ?_
      refine g_iload1 hX d_D_compare_30 ?_
      refine g_callV (As := [_]) hX hF.1 d_D_compare_31 ml_D_304 cf_Bo_lawOrNull cv_Bo_lawOrNull rfl rfl (c_Bo_lawR hR hW e13 (by rw [htm]; exact hpl)) (rcv_obj hX (lv_1 _) rfl rfl) (by omega) (by omega) (by omega) (Nat.le_of_ble_eq_true rfl) ?_
      refine ret_k ?_
      refine g_callV (As := [_, _]) hX hF.1 d_D_compare_34 ml_D_146 cf_Le_fill cv_Le_fill rfl rfl (c_Le_fillP (o := some m) hR hW hPL rfl) (rcv_obj hX (lv_31 _) rfl rfl) (by omega) (by omega) (by omega) (Nat.le_of_ble_eq_true rfl) ?_
      rintro _ w2 ⟨rfl, hfl, hLe⟩
      show G0 _ _ _ _ _ _ _ _
      refine g_aload0 hX d_D_compare_37 ?_
      refine g_getF hX d_D_compare_38 fl_D_47 (lv_0 _) ?_
      refine g_aload0 hX d_D_compare_41 ?_
      refine g_getF hX d_D_compare_42 fl_D_10 (lv_0 _) ?_
      refine g_aload0 hX d_D_compare_45 ?_
      refine g_getF hX d_D_compare_46 fl_D_40 (lv_0 _) ?_
      refine g_getF hX d_D_compare_49 fl_D_153 (lv_31 _) ?_
      refine g_callV (As := [_, _]) hX hF.1 d_D_compare_52 ml_D_258 cf_Wa_start cv_Wa_start rfl rfl (c_Wa_start (c := mayG (gForce (sG s) (some m))) (hR.l hfl) hW (Or.inl rfl) (fun v hv => ⟨hLe.1 v hv, mayN_ltN _ _ _⟩)) (rcv_obj hX (lv_36 _) rfl rfl) (by omega) (by omega) (by omega) (Nat.le_of_ble_eq_true rfl) ?_
      rintro _ w3 ⟨rfl, hE3, hS3, hf3⟩
      rw [← waysC_f (sG s) (some m)] at hS3
      replace hS3 : WkS w3 (sG s) (mayG (gForce (sG s) (some m))) (waysC (gForce (sG s) (some m)) (fun v => mayN (gForce (sG s) (some m)) v (gN (gForce (sG s) (some m))))) _ := hS3
      rw [ways_C] at hS3
      have hwl : (waysL (gForce (sG s) (some m))).length ≤ 248832 := by rw [← ways_C, waysC_f]; exact waysC_len hW
      show G0 _ _ _ _ _ _ _ _
      refine g_aload0 hX d_D_compare_55 ?_
      refine g_getF hX d_D_compare_56 fl_D_47 (lv_0 _) ?_
      refine g_aload0 hX d_D_compare_59 ?_
      refine g_getF hX d_D_compare_60 fl_D_40 (lv_0 _) ?_
      refine g_getF hX d_D_compare_63 fl_D_150 (lv_31 _) ?_
      refine g_callV (As := [_]) hX hF.1 d_D_compare_66 ml_D_297 cf_Wa_findCheapest cv_Wa_findCheapest rfl rfl (c_Wa_findCheapest (o := (some m)) hE3 hS3 (fun u z hz => by rw [hf3.1 33 (by decide)]; exact hLe.2 u z hz) (by omega)) (rcv_obj hX (lv_36 _) rfl rfl) (by omega) (by omega) (by omega) (Nat.le_of_ble_eq_true rfl) ?_
      rintro _ w4 ⟨rfl, hf4, -⟩
      show G0 _ _ _ _ _ _ _ _
      refine g_iret hX hF d_D_compare_69 (by omega) (by omega) ?_
      rw [cmp_some hm hll]
      exact ⟨rfl, h.q ((hfl.Q.tr hf3.Q).tr hf4.Q), ((hfl.Q.tr hf3.Q).tr hf4.Q).D⟩
    · refine g_iconst (v := -1) hX d_D_compare_16 rfl ?_
      refine g_iret hX hF d_D_compare_17 (by omega) (by omega) ?_
      rw [cmp_no e2 e13]
      exact ⟨rfl, h, DkD.rf w⟩
