def m_D_findOnce : MR := (⟨"SubgraphDesk", "findOnce", "(I)I"⟩, prog_1_method_33_code, 4, (some .int))
theorem cf_D_findOnce : CF m_D_findOnce 1 := ⟨gd 1192 (by decide +kernel) rfl, gd 139 (by decide +kernel) rfl, by decide +kernel, by decide, by decide +kernel⟩
theorem cv_D_findOnce : CV m_D_findOnce := ⟨gd 1191 (by decide +kernel) rfl, gd 36 (by decide +kernel) rfl⟩
def m_D_once : MR := (⟨"SubgraphDesk", "once", "()I"⟩, prog_1_method_31_code, 1, (some .int))
theorem cf_D_once : CF m_D_once 0 := ⟨gd 1187 (by decide +kernel) rfl, gd 139 (by decide +kernel) rfl, by decide +kernel, by decide, by decide +kernel⟩
theorem cv_D_once : CV m_D_once := ⟨gd 1185 (by decide +kernel) rfl, gd 1186 (by decide +kernel) rfl⟩
def m_D_onceWay : MR := (⟨"SubgraphDesk", "onceWay", "(II)I"⟩, prog_1_method_32_code, 4, (some .int))
theorem cf_D_onceWay : CF m_D_onceWay 2 := ⟨gd 1230 (by decide +kernel) rfl, gd 139 (by decide +kernel) rfl, by decide +kernel, by decide, by decide +kernel⟩
theorem cv_D_onceWay : CV m_D_onceWay := ⟨gd 1228 (by decide +kernel) rfl, gd 1229 (by decide +kernel) rfl⟩
def m_Li_comesEarlier : MR := (⟨"SubgraphDesk$Likeness", "comesEarlier", "(I[I)Z"⟩, prog_6_method_9_code, 5, (some .boolean))
theorem cf_Li_comesEarlier : CF m_Li_comesEarlier 2 := ⟨gd 1222 (by decide +kernel) rfl, gd 149 (by decide +kernel) rfl, by decide +kernel, by decide, by decide +kernel⟩
theorem cv_Li_comesEarlier : CV m_Li_comesEarlier := ⟨gd 1221 (by decide +kernel) rfl, gd 41 (by decide +kernel) rfl⟩
def m_Li_isFirst : MR := (⟨"SubgraphDesk$Likeness", "isFirst", "([I[I)Z"⟩, prog_6_method_8_code, 4, (some .boolean))
theorem cf_Li_isFirst : CF m_Li_isFirst 2 := ⟨gd 1218 (by decide +kernel) rfl, gd 149 (by decide +kernel) rfl, by decide +kernel, by decide, by decide +kernel⟩
theorem cv_Li_isFirst : CV m_Li_isFirst := ⟨gd 1216 (by decide +kernel) rfl, gd 1217 (by decide +kernel) rfl⟩
def m_Li_isWay : MR := (⟨"SubgraphDesk$Likeness", "isWay", "(I[I[I)Z"⟩, prog_6_method_10_code, 5, (some .boolean))
theorem cf_Li_isWay : CF m_Li_isWay 3 := ⟨gd 1226 (by decide +kernel) rfl, gd 149 (by decide +kernel) rfl, by decide +kernel, by decide, by decide +kernel⟩
theorem cv_Li_isWay : CV m_Li_isWay := ⟨gd 1225 (by decide +kernel) rfl, gd 42 (by decide +kernel) rfl⟩
theorem d_D_findOnce_0 : Dc prog_1_method_33_code 0 (.aload_n 0) 1 1 := ⟨by decide +kernel, rfl⟩
theorem d_D_findOnce_1 : Dc prog_1_method_33_code 1 (.invokevirtual 264) 3 4 := ⟨by decide +kernel, rfl⟩
theorem d_D_findOnce_4 : Dc prog_1_method_33_code 4 (.aload_n 0) 1 5 := ⟨by decide +kernel, rfl⟩
theorem d_D_findOnce_5 : Dc prog_1_method_33_code 5 (.getfield 68) 3 8 := ⟨by decide +kernel, rfl⟩
theorem d_D_findOnce_8 : Dc prog_1_method_33_code 8 (.aload_n 0) 1 9 := ⟨by decide +kernel, rfl⟩
theorem d_D_findOnce_9 : Dc prog_1_method_33_code 9 (.getfield 10) 3 12 := ⟨by decide +kernel, rfl⟩
theorem d_D_findOnce_12 : Dc prog_1_method_33_code 12 (.invokevirtual 282) 3 15 := ⟨by decide +kernel, rfl⟩
theorem d_D_findOnce_15 : Dc prog_1_method_33_code 15 (.iconst 0) 1 16 := ⟨by decide +kernel, rfl⟩
theorem d_D_findOnce_16 : Dc prog_1_method_33_code 16 (.istore_n 2) 1 17 := ⟨by decide +kernel, rfl⟩
theorem d_D_findOnce_17 : Dc prog_1_method_33_code 17 (.iconst 0) 1 18 := ⟨by decide +kernel, rfl⟩
theorem d_D_findOnce_18 : Dc prog_1_method_33_code 18 (.istore_n 3) 1 19 := ⟨by decide +kernel, rfl⟩
theorem d_D_findOnce_19 : Dc prog_1_method_33_code 19 (.iload_n 3) 1 20 := ⟨by decide +kernel, rfl⟩
theorem d_D_findOnce_20 : Dc prog_1_method_33_code 20 (.ldc_w 278) 3 23 := ⟨by decide +kernel, rfl⟩
theorem d_D_findOnce_23 : Dj prog_1_method_33_code 23 (.if_icmp .ge 53) 26 53 76 := ⟨by decide +kernel, rfl, rfl⟩
theorem d_D_findOnce_26 : Dc prog_1_method_33_code 26 (.aload_n 0) 1 27 := ⟨by decide +kernel, rfl⟩
theorem d_D_findOnce_27 : Dc prog_1_method_33_code 27 (.getfield 47) 3 30 := ⟨by decide +kernel, rfl⟩
theorem d_D_findOnce_30 : Dc prog_1_method_33_code 30 (.invokevirtual 286) 3 33 := ⟨by decide +kernel, rfl⟩
theorem d_D_findOnce_33 : Dj prog_1_method_33_code 33 (.ifCond .eq 43) 36 43 76 := ⟨by decide +kernel, rfl, rfl⟩
theorem d_D_findOnce_36 : Dc prog_1_method_33_code 36 (.aload_n 0) 1 37 := ⟨by decide +kernel, rfl⟩
theorem d_D_findOnce_37 : Dc prog_1_method_33_code 37 (.getfield 68) 3 40 := ⟨by decide +kernel, rfl⟩
theorem d_D_findOnce_40 : Dc prog_1_method_33_code 40 (.aload_n 0) 1 41 := ⟨by decide +kernel, rfl⟩
theorem d_D_findOnce_41 : Dc prog_1_method_33_code 41 (.getfield 47) 3 44 := ⟨by decide +kernel, rfl⟩
theorem d_D_findOnce_44 : Dc prog_1_method_33_code 44 (.getfield 261) 3 47 := ⟨by decide +kernel, rfl⟩
theorem d_D_findOnce_47 : Dc prog_1_method_33_code 47 (.aload_n 0) 1 48 := ⟨by decide +kernel, rfl⟩
theorem d_D_findOnce_48 : Dc prog_1_method_33_code 48 (.getfield 40) 3 51 := ⟨by decide +kernel, rfl⟩
theorem d_D_findOnce_51 : Dc prog_1_method_33_code 51 (.getfield 153) 3 54 := ⟨by decide +kernel, rfl⟩
theorem d_D_findOnce_54 : Dc prog_1_method_33_code 54 (.invokevirtual 290) 3 57 := ⟨by decide +kernel, rfl⟩
theorem d_D_findOnce_57 : Dj prog_1_method_33_code 57 (.ifCond .eq 13) 60 13 70 := ⟨by decide +kernel, rfl, rfl⟩
theorem d_D_findOnce_60 : Dc prog_1_method_33_code 60 (.iinc 2 1) 3 63 := ⟨by decide +kernel, rfl⟩
theorem d_D_findOnce_63 : Dc prog_1_method_33_code 63 (.iload_n 2) 1 64 := ⟨by decide +kernel, rfl⟩
theorem d_D_findOnce_64 : Dc prog_1_method_33_code 64 (.iload_n 1) 1 65 := ⟨by decide +kernel, rfl⟩
theorem d_D_findOnce_65 : Dj prog_1_method_33_code 65 (.if_icmp .le 5) 68 5 70 := ⟨by decide +kernel, rfl, rfl⟩
theorem d_D_findOnce_68 : Dc prog_1_method_33_code 68 (.iload_n 2) 1 69 := ⟨by decide +kernel, rfl⟩
theorem d_D_findOnce_69 : Dc prog_1_method_33_code 69 (.ireturn) 1 70 := ⟨by decide +kernel, rfl⟩
theorem d_D_findOnce_70 : Dc prog_1_method_33_code 70 (.iinc 3 1) 3 73 := ⟨by decide +kernel, rfl⟩
theorem d_D_findOnce_73 : Dj prog_1_method_33_code 73 (.goto (-54)) 76 (-54) 19 := ⟨by decide +kernel, rfl, rfl⟩
theorem d_D_findOnce_76 : Dc prog_1_method_33_code 76 (.iload_n 2) 1 77 := ⟨by decide +kernel, rfl⟩
theorem d_D_findOnce_77 : Dc prog_1_method_33_code 77 (.ireturn) 1 78 := ⟨by decide +kernel, rfl⟩
theorem d_D_once_0 : Dc prog_1_method_31_code 0 (.aload_n 0) 1 1 := ⟨by decide +kernel, rfl⟩
theorem d_D_once_1 : Dc prog_1_method_31_code 1 (.ldc_w 278) 3 4 := ⟨by decide +kernel, rfl⟩
theorem d_D_once_4 : Dc prog_1_method_31_code 4 (.invokevirtual 279) 3 7 := ⟨by decide +kernel, rfl⟩
theorem d_D_once_7 : Dc prog_1_method_31_code 7 (.ireturn) 1 8 := ⟨by decide +kernel, rfl⟩
theorem d_D_onceWay_0 : Dc prog_1_method_32_code 0 (.iload_n 1) 1 1 := ⟨by decide +kernel, rfl⟩
theorem d_D_onceWay_1 : Dj prog_1_method_32_code 1 (.ifCond .lt 23) 4 23 24 := ⟨by decide +kernel, rfl, rfl⟩
theorem d_D_onceWay_4 : Dc prog_1_method_32_code 4 (.iload_n 1) 1 5 := ⟨by decide +kernel, rfl⟩
theorem d_D_onceWay_5 : Dc prog_1_method_32_code 5 (.ldc_w 278) 3 8 := ⟨by decide +kernel, rfl⟩
theorem d_D_onceWay_8 : Dj prog_1_method_32_code 8 (.if_icmp .ge 16) 11 16 24 := ⟨by decide +kernel, rfl, rfl⟩
theorem d_D_onceWay_11 : Dc prog_1_method_32_code 11 (.aload_n 0) 1 12 := ⟨by decide +kernel, rfl⟩
theorem d_D_onceWay_12 : Dc prog_1_method_32_code 12 (.iload_n 1) 1 13 := ⟨by decide +kernel, rfl⟩
theorem d_D_onceWay_13 : Dc prog_1_method_32_code 13 (.invokevirtual 279) 3 16 := ⟨by decide +kernel, rfl⟩
theorem d_D_onceWay_16 : Dc prog_1_method_32_code 16 (.iload_n 1) 1 17 := ⟨by decide +kernel, rfl⟩
theorem d_D_onceWay_17 : Dj prog_1_method_32_code 17 (.if_icmp .le 7) 20 7 24 := ⟨by decide +kernel, rfl, rfl⟩
theorem d_D_onceWay_20 : Dc prog_1_method_32_code 20 (.iconst 1) 1 21 := ⟨by decide +kernel, rfl⟩
theorem d_D_onceWay_21 : Dj prog_1_method_32_code 21 (.goto 4) 24 4 25 := ⟨by decide +kernel, rfl, rfl⟩
theorem d_D_onceWay_24 : Dc prog_1_method_32_code 24 (.iconst 0) 1 25 := ⟨by decide +kernel, rfl⟩
theorem d_D_onceWay_25 : Dc prog_1_method_32_code 25 (.istore_n 3) 1 26 := ⟨by decide +kernel, rfl⟩
theorem d_D_onceWay_26 : Dc prog_1_method_32_code 26 (.aload_n 0) 1 27 := ⟨by decide +kernel, rfl⟩
theorem d_D_onceWay_27 : Dc prog_1_method_32_code 27 (.iload_n 3) 1 28 := ⟨by decide +kernel, rfl⟩
theorem d_D_onceWay_28 : Dc prog_1_method_32_code 28 (.iload_n 2) 1 29 := ⟨by decide +kernel, rfl⟩
theorem d_D_onceWay_29 : Dc prog_1_method_32_code 29 (.invokevirtual 274) 3 32 := ⟨by decide +kernel, rfl⟩
theorem d_D_onceWay_32 : Dc prog_1_method_32_code 32 (.ireturn) 1 33 := ⟨by decide +kernel, rfl⟩
theorem d_Li_comesEarlier_0 : Dc prog_6_method_9_code 0 (.iconst 0) 1 1 := ⟨by decide +kernel, rfl⟩
theorem d_Li_comesEarlier_1 : Dc prog_6_method_9_code 1 (.istore_n 3) 1 2 := ⟨by decide +kernel, rfl⟩
theorem d_Li_comesEarlier_2 : Dc prog_6_method_9_code 2 (.iload_n 3) 1 3 := ⟨by decide +kernel, rfl⟩
theorem d_Li_comesEarlier_3 : Dc prog_6_method_9_code 3 (.aload_n 0) 1 4 := ⟨by decide +kernel, rfl⟩
theorem d_Li_comesEarlier_4 : Dc prog_6_method_9_code 4 (.getfield 42) 3 7 := ⟨by decide +kernel, rfl⟩
theorem d_Li_comesEarlier_7 : Dj prog_6_method_9_code 7 (.if_icmp .ge 43) 10 43 50 := ⟨by decide +kernel, rfl, rfl⟩
theorem d_Li_comesEarlier_10 : Dc prog_6_method_9_code 10 (.aload_n 2) 1 11 := ⟨by decide +kernel, rfl⟩
theorem d_Li_comesEarlier_11 : Dc prog_6_method_9_code 11 (.aload_n 0) 1 12 := ⟨by decide +kernel, rfl⟩
theorem d_Li_comesEarlier_12 : Dc prog_6_method_9_code 12 (.getfield 11) 3 15 := ⟨by decide +kernel, rfl⟩
theorem d_Li_comesEarlier_15 : Dc prog_6_method_9_code 15 (.iload_n 1) 1 16 := ⟨by decide +kernel, rfl⟩
theorem d_Li_comesEarlier_16 : Dc prog_6_method_9_code 16 (.iload_n 3) 1 17 := ⟨by decide +kernel, rfl⟩
theorem d_Li_comesEarlier_17 : Dc prog_6_method_9_code 17 (.iadd) 1 18 := ⟨by decide +kernel, rfl⟩
theorem d_Li_comesEarlier_18 : Dc prog_6_method_9_code 18 (.iaload) 1 19 := ⟨by decide +kernel, rfl⟩
theorem d_Li_comesEarlier_19 : Dc prog_6_method_9_code 19 (.iaload) 1 20 := ⟨by decide +kernel, rfl⟩
theorem d_Li_comesEarlier_20 : Dc prog_6_method_9_code 20 (.istore 4) 2 22 := ⟨by decide +kernel, rfl⟩
theorem d_Li_comesEarlier_22 : Dc prog_6_method_9_code 22 (.iload 4) 2 24 := ⟨by decide +kernel, rfl⟩
theorem d_Li_comesEarlier_24 : Dc prog_6_method_9_code 24 (.aload_n 2) 1 25 := ⟨by decide +kernel, rfl⟩
theorem d_Li_comesEarlier_25 : Dc prog_6_method_9_code 25 (.iload_n 3) 1 26 := ⟨by decide +kernel, rfl⟩
theorem d_Li_comesEarlier_26 : Dc prog_6_method_9_code 26 (.iaload) 1 27 := ⟨by decide +kernel, rfl⟩
theorem d_Li_comesEarlier_27 : Dj prog_6_method_9_code 27 (.if_icmp .eq 17) 30 17 44 := ⟨by decide +kernel, rfl, rfl⟩
theorem d_Li_comesEarlier_30 : Dc prog_6_method_9_code 30 (.iload 4) 2 32 := ⟨by decide +kernel, rfl⟩
theorem d_Li_comesEarlier_32 : Dc prog_6_method_9_code 32 (.aload_n 2) 1 33 := ⟨by decide +kernel, rfl⟩
theorem d_Li_comesEarlier_33 : Dc prog_6_method_9_code 33 (.iload_n 3) 1 34 := ⟨by decide +kernel, rfl⟩
theorem d_Li_comesEarlier_34 : Dc prog_6_method_9_code 34 (.iaload) 1 35 := ⟨by decide +kernel, rfl⟩
theorem d_Li_comesEarlier_35 : Dj prog_6_method_9_code 35 (.if_icmp .ge 7) 38 7 42 := ⟨by decide +kernel, rfl, rfl⟩
theorem d_Li_comesEarlier_38 : Dc prog_6_method_9_code 38 (.iconst 1) 1 39 := ⟨by decide +kernel, rfl⟩
theorem d_Li_comesEarlier_39 : Dj prog_6_method_9_code 39 (.goto 4) 42 4 43 := ⟨by decide +kernel, rfl, rfl⟩
theorem d_Li_comesEarlier_42 : Dc prog_6_method_9_code 42 (.iconst 0) 1 43 := ⟨by decide +kernel, rfl⟩
theorem d_Li_comesEarlier_43 : Dc prog_6_method_9_code 43 (.ireturn) 1 44 := ⟨by decide +kernel, rfl⟩
theorem d_Li_comesEarlier_44 : Dc prog_6_method_9_code 44 (.iinc 3 1) 3 47 := ⟨by decide +kernel, rfl⟩
theorem d_Li_comesEarlier_47 : Dj prog_6_method_9_code 47 (.goto (-45)) 50 (-45) 2 := ⟨by decide +kernel, rfl, rfl⟩
theorem d_Li_comesEarlier_50 : Dc prog_6_method_9_code 50 (.iconst 0) 1 51 := ⟨by decide +kernel, rfl⟩
theorem d_Li_comesEarlier_51 : Dc prog_6_method_9_code 51 (.ireturn) 1 52 := ⟨by decide +kernel, rfl⟩
theorem d_Li_isFirst_0 : Dc prog_6_method_8_code 0 (.iconst 0) 1 1 := ⟨by decide +kernel, rfl⟩
theorem d_Li_isFirst_1 : Dc prog_6_method_8_code 1 (.istore_n 3) 1 2 := ⟨by decide +kernel, rfl⟩
theorem d_Li_isFirst_2 : Dc prog_6_method_8_code 2 (.iload_n 3) 1 3 := ⟨by decide +kernel, rfl⟩
theorem d_Li_isFirst_3 : Dc prog_6_method_8_code 3 (.aload_n 0) 1 4 := ⟨by decide +kernel, rfl⟩
theorem d_Li_isFirst_4 : Dc prog_6_method_8_code 4 (.getfield 39) 3 7 := ⟨by decide +kernel, rfl⟩
theorem d_Li_isFirst_7 : Dj prog_6_method_8_code 7 (.if_icmp .ge 34) 10 34 41 := ⟨by decide +kernel, rfl, rfl⟩
theorem d_Li_isFirst_10 : Dc prog_6_method_8_code 10 (.aload_n 0) 1 11 := ⟨by decide +kernel, rfl⟩
theorem d_Li_isFirst_11 : Dc prog_6_method_8_code 11 (.iload_n 3) 1 12 := ⟨by decide +kernel, rfl⟩
theorem d_Li_isFirst_12 : Dc prog_6_method_8_code 12 (.iconst 5) 1 13 := ⟨by decide +kernel, rfl⟩
theorem d_Li_isFirst_13 : Dc prog_6_method_8_code 13 (.imul) 1 14 := ⟨by decide +kernel, rfl⟩
theorem d_Li_isFirst_14 : Dc prog_6_method_8_code 14 (.aload_n 1) 1 15 := ⟨by decide +kernel, rfl⟩
theorem d_Li_isFirst_15 : Dc prog_6_method_8_code 15 (.invokevirtual 63) 3 18 := ⟨by decide +kernel, rfl⟩
theorem d_Li_isFirst_18 : Dj prog_6_method_8_code 18 (.ifCond .eq 17) 21 17 35 := ⟨by decide +kernel, rfl, rfl⟩
theorem d_Li_isFirst_21 : Dc prog_6_method_8_code 21 (.aload_n 0) 1 22 := ⟨by decide +kernel, rfl⟩
theorem d_Li_isFirst_22 : Dc prog_6_method_8_code 22 (.iload_n 3) 1 23 := ⟨by decide +kernel, rfl⟩
theorem d_Li_isFirst_23 : Dc prog_6_method_8_code 23 (.iconst 5) 1 24 := ⟨by decide +kernel, rfl⟩
theorem d_Li_isFirst_24 : Dc prog_6_method_8_code 24 (.imul) 1 25 := ⟨by decide +kernel, rfl⟩
theorem d_Li_isFirst_25 : Dc prog_6_method_8_code 25 (.aload_n 1) 1 26 := ⟨by decide +kernel, rfl⟩
theorem d_Li_isFirst_26 : Dc prog_6_method_8_code 26 (.aload_n 2) 1 27 := ⟨by decide +kernel, rfl⟩
theorem d_Li_isFirst_27 : Dc prog_6_method_8_code 27 (.invokevirtual 67) 3 30 := ⟨by decide +kernel, rfl⟩
theorem d_Li_isFirst_30 : Dj prog_6_method_8_code 30 (.ifCond .eq 5) 33 5 35 := ⟨by decide +kernel, rfl, rfl⟩
theorem d_Li_isFirst_33 : Dc prog_6_method_8_code 33 (.iconst 0) 1 34 := ⟨by decide +kernel, rfl⟩
theorem d_Li_isFirst_34 : Dc prog_6_method_8_code 34 (.ireturn) 1 35 := ⟨by decide +kernel, rfl⟩
theorem d_Li_isFirst_35 : Dc prog_6_method_8_code 35 (.iinc 3 1) 3 38 := ⟨by decide +kernel, rfl⟩
theorem d_Li_isFirst_38 : Dj prog_6_method_8_code 38 (.goto (-36)) 41 (-36) 2 := ⟨by decide +kernel, rfl, rfl⟩
theorem d_Li_isFirst_41 : Dc prog_6_method_8_code 41 (.iconst 1) 1 42 := ⟨by decide +kernel, rfl⟩
theorem d_Li_isFirst_42 : Dc prog_6_method_8_code 42 (.ireturn) 1 43 := ⟨by decide +kernel, rfl⟩
theorem d_Li_isWay_0 : Dc prog_6_method_10_code 0 (.iconst 0) 1 1 := ⟨by decide +kernel, rfl⟩
theorem d_Li_isWay_1 : Dc prog_6_method_10_code 1 (.istore 4) 2 3 := ⟨by decide +kernel, rfl⟩
theorem d_Li_isWay_3 : Dc prog_6_method_10_code 3 (.iload 4) 2 5 := ⟨by decide +kernel, rfl⟩
theorem d_Li_isWay_5 : Dc prog_6_method_10_code 5 (.aload_n 0) 1 6 := ⟨by decide +kernel, rfl⟩
theorem d_Li_isWay_6 : Dc prog_6_method_10_code 6 (.getfield 42) 3 9 := ⟨by decide +kernel, rfl⟩
theorem d_Li_isWay_9 : Dj prog_6_method_10_code 9 (.if_icmp .ge 32) 12 32 41 := ⟨by decide +kernel, rfl, rfl⟩
theorem d_Li_isWay_12 : Dc prog_6_method_10_code 12 (.aload_n 3) 1 13 := ⟨by decide +kernel, rfl⟩
theorem d_Li_isWay_13 : Dc prog_6_method_10_code 13 (.iload 4) 2 15 := ⟨by decide +kernel, rfl⟩
theorem d_Li_isWay_15 : Dc prog_6_method_10_code 15 (.iaload) 1 16 := ⟨by decide +kernel, rfl⟩
theorem d_Li_isWay_16 : Dc prog_6_method_10_code 16 (.aload_n 2) 1 17 := ⟨by decide +kernel, rfl⟩
theorem d_Li_isWay_17 : Dc prog_6_method_10_code 17 (.aload_n 0) 1 18 := ⟨by decide +kernel, rfl⟩
theorem d_Li_isWay_18 : Dc prog_6_method_10_code 18 (.getfield 11) 3 21 := ⟨by decide +kernel, rfl⟩
theorem d_Li_isWay_21 : Dc prog_6_method_10_code 21 (.iload_n 1) 1 22 := ⟨by decide +kernel, rfl⟩
theorem d_Li_isWay_22 : Dc prog_6_method_10_code 22 (.iload 4) 2 24 := ⟨by decide +kernel, rfl⟩
theorem d_Li_isWay_24 : Dc prog_6_method_10_code 24 (.iadd) 1 25 := ⟨by decide +kernel, rfl⟩
theorem d_Li_isWay_25 : Dc prog_6_method_10_code 25 (.iaload) 1 26 := ⟨by decide +kernel, rfl⟩
theorem d_Li_isWay_26 : Dc prog_6_method_10_code 26 (.iaload) 1 27 := ⟨by decide +kernel, rfl⟩
theorem d_Li_isWay_27 : Dc prog_6_method_10_code 27 (.ishr) 1 28 := ⟨by decide +kernel, rfl⟩
theorem d_Li_isWay_28 : Dc prog_6_method_10_code 28 (.iconst 1) 1 29 := ⟨by decide +kernel, rfl⟩
theorem d_Li_isWay_29 : Dc prog_6_method_10_code 29 (.iand) 1 30 := ⟨by decide +kernel, rfl⟩
theorem d_Li_isWay_30 : Dj prog_6_method_10_code 30 (.ifCond .ne 5) 33 5 35 := ⟨by decide +kernel, rfl, rfl⟩
theorem d_Li_isWay_33 : Dc prog_6_method_10_code 33 (.iconst 0) 1 34 := ⟨by decide +kernel, rfl⟩
theorem d_Li_isWay_34 : Dc prog_6_method_10_code 34 (.ireturn) 1 35 := ⟨by decide +kernel, rfl⟩
theorem d_Li_isWay_35 : Dc prog_6_method_10_code 35 (.iinc 4 1) 3 38 := ⟨by decide +kernel, rfl⟩
theorem d_Li_isWay_38 : Dj prog_6_method_10_code 38 (.goto (-35)) 41 (-35) 3 := ⟨by decide +kernel, rfl, rfl⟩
theorem d_Li_isWay_41 : Dc prog_6_method_10_code 41 (.iconst 1) 1 42 := ⟨by decide +kernel, rfl⟩
theorem d_Li_isWay_42 : Dc prog_6_method_10_code 42 (.ireturn) 1 43 := ⟨by decide +kernel, rfl⟩
theorem ml_D_279 : Cond.methodLink "SubgraphDesk" 279 m_D_findOnce.1 ∈ lw_gd := gd 1189 (by decide +kernel) rfl
theorem ml_D_286 : Cond.methodLink "SubgraphDesk" 286 m_Wa_advance.1 ∈ lw_gd := gd 1214 (by decide +kernel) rfl
theorem ml_D_290 : Cond.methodLink "SubgraphDesk" 290 m_Li_isFirst.1 ∈ lw_gd := gd 1215 (by decide +kernel) rfl
theorem ml_Li_63 : Cond.methodLink "SubgraphDesk$Likeness" 63 m_Li_comesEarlier.1 ∈ lw_gd := gd 1219 (by decide +kernel) rfl
theorem ml_Li_67 : Cond.methodLink "SubgraphDesk$Likeness" 67 m_Li_isWay.1 ∈ lw_gd := gd 1223 (by decide +kernel) rfl
theorem less_ne {q x : List Nat} {v : Nat} (h : lessN q x v ≠ 0) : ∀ m, v ≤ m → lessN q x m = lessN q x v
  | 0, hm => by
    obtain rfl : v = 0 := by omega
    rfl
  | m + 1, hm => by
    by_cases e : v = m + 1
    · rw [← e]
    · have ih := less_ne h m (by omega)
      show (if lessN q x m = 0 then _ else lessN q x m) = _
      rw [ih, if_neg h]
theorem less_s {q x : List Nat} {v : Nat} (h : lessN q x v = 0) : lessN q x (v + 1) = (if gA q (gA x v) < gA q v then -1 else if gA q v < gA q (gA x v) then nI 1 else nI 0) := if_pos h
theorem mays_no {g : GC} {q x : List Nat} {v : Nat} (h : ¬ maysN g q x v = true) : ∀ m, v ≤ m → ¬ maysN g q x m = true
  | 0, hm => by
    obtain rfl : v = 0 := by omega
    exact h
  | m + 1, hm => by
    by_cases e : v = m + 1
    · rw [← e]; exact h
    · unfold maysN
      rw [Bool.eq_false_iff.mpr (mays_no h m (by omega)), Bool.false_and]
      decide
theorem once_L (g : GC) (q : List Nat) : onceG g q = (turnsL g).all (fun x => !aheadG g q x) := by
  unfold onceG turnsM
  by_cases h : gV g = 0
  · rw [if_pos h]
    unfold turnsL
    rw [h]
    have : aheadG g q [] = false := by
      unfold aheadG
      rw [h]
      rfl
    show true = (([[]] : List (List Nat)).all _)
    simp [this]
  · rw [if_neg h]
/-- the way that lies, for the likeness -/
def PlcP (w : Mem) (g : GC) (q : List Nat) : Prop := ∀ u, u < gV g → rI w 37 u = nI (gA q u) ∧ gA q u < gN g
/-- the mirror's row k holds x -/
def MirP (w : Mem) (g : GC) (k : Nat) (x : List Nat) : Prop := ∀ u, u < gV g → rI w 48 (k * 5 + u) = nI (gA x u) ∧ gA x u < gV g
theorem c_Li_comesEarlier {E : EV} {w : Mem} {g : GC} {q x : List Nat} {k : Nat} (hW : WG g) (hk : k < 120) (h3 : rI w 47 3 = nI (gV g)) (hM : MirP w g k x) (hP : PlcP w g q) : T E m_Li_comesEarlier 0 0 0 [.ref 47, .int (nI (k * 5)), .ref 37] w (Ret (some (.int (b2i (lessN q x (gV g) < 0)))) w) := by
  refine T_of (L := [.ref 47, .int (nI (k * 5)), .ref 37, un, un]) cf_Li_comesEarlier rfl (Nat.le_of_ble_eq_true rfl) (fun X hX hF => ?_)
  have hv := hW.v
  have hn := hW.n
  have lp : ∀ (fuel : Nat) (v : Nat), gV g - v < fuel → (v ≤ gV g) → (lessN q x v = 0) → G0 E X 0 0 2 [.ref 47, .int (nI (k * 5)), .ref 37, .int (nI v), un] [] w := by
    intro fuel
    induction fuel with
    | zero => intro v q0; exact absurd q0 (Nat.not_lt_zero _)
    | succ fuel ih =>
      intro v q0 q1 q2
      refine g_iload3 hX d_Li_comesEarlier_2 ?_
      refine g_aload0 hX d_Li_comesEarlier_3 ?_
      refine g_getI hX d_Li_comesEarlier_4 fl_Li_42 (lv_47 _) ?_
      refine g_topi h3 ?_
      refine g_icmpN_ge hX d_Li_comesEarlier_7 (by omega) (by omega) (fun e7 => ?_) (fun e7 => ?_)
      · refine g_iconst (v := nI 0) hX d_Li_comesEarlier_50 rfl ?_
        refine g_zret hX hF d_Li_comesEarlier_51 (Or.inl rfl) (by omega) (by omega) ?_
        obtain rfl : v = gV g := by omega
        exact ret_f (by rw [q2]; decide)
      · obtain ⟨m1, m2⟩ := hM v e7
        obtain ⟨p1, p2⟩ := hP v e7
        obtain ⟨p3, p4⟩ := hP (gA x v) m2
        have hls := less_s q2
        refine g_aload2 hX d_Li_comesEarlier_10 ?_
        refine g_aload0 hX d_Li_comesEarlier_11 ?_
        refine g_getF hX d_Li_comesEarlier_12 fl_Li_11 (lv_47 _) ?_
        refine g_iload1 hX d_Li_comesEarlier_15 ?_
        refine g_iload3 hX d_Li_comesEarlier_16 ?_
        refine g_iaddN hX d_Li_comesEarlier_17 ?_
        refine g_iald hX d_Li_comesEarlier_18 (lv_48 _) rfl (by omega) ?_
        refine g_topi m1 ?_
        refine g_iald hX d_Li_comesEarlier_19 (lv_37 _) rfl (by omega) ?_
        refine g_topi p3 ?_
        refine g_istore4 hX d_Li_comesEarlier_20 rfl (by decide) ?_
        refine g_iload4 hX d_Li_comesEarlier_22 ?_
        refine g_aload2 hX d_Li_comesEarlier_24 ?_
        refine g_iload3 hX d_Li_comesEarlier_25 ?_
        refine g_iald hX d_Li_comesEarlier_26 (lv_37 _) rfl (by omega) ?_
        refine g_topi p1 ?_
        refine g_icmpN_eq hX d_Li_comesEarlier_27 (by omega) (by omega) (fun e27 => ?_) (fun e27 => ?_)
        · refine g_iincN3 hX d_Li_comesEarlier_44 rfl (by decide) ?_
          refine g_goto hX d_Li_comesEarlier_47 ?_
          refine g_fget 4 ?_
          exact ih (v + 1) (by omega) (by omega) (by rw [hls, if_neg (by omega), if_neg (by omega)]; rfl)
        · refine g_iload4 hX d_Li_comesEarlier_30 ?_
          refine g_aload2 hX d_Li_comesEarlier_32 ?_
          refine g_iload3 hX d_Li_comesEarlier_33 ?_
          refine g_iald hX d_Li_comesEarlier_34 (lv_37 _) rfl (by omega) ?_
          refine g_topi p1 ?_
          refine g_icmpN_ge hX d_Li_comesEarlier_35 (by omega) (by omega) (fun e35 => ?_) (fun e35 => ?_)
          · refine g_iconst (v := nI 0) hX d_Li_comesEarlier_42 rfl ?_
            refine g_zret hX hF d_Li_comesEarlier_43 (Or.inl rfl) (by omega) (by omega) ?_
            have hl1 : lessN q x (v + 1) = nI 1 := by rw [hls, if_neg (by omega), if_pos (by omega)]
            exact ret_f (by rw [less_ne (v := v + 1) (by rw [hl1]; decide) _ (by omega), hl1]; decide)
          · refine g_iconst (v := nI 1) hX d_Li_comesEarlier_38 rfl ?_
            refine g_goto hX d_Li_comesEarlier_39 ?_
            refine g_zret hX hF d_Li_comesEarlier_43 (Or.inr rfl) (by omega) (by omega) ?_
            have hl1 : lessN q x (v + 1) = -1 := by rw [hls, if_pos (by omega)]
            exact ret_t (by rw [less_ne (v := v + 1) (by rw [hl1]; decide) _ (by omega), hl1]; decide)
  refine g_iconst (v := nI 0) hX d_Li_comesEarlier_0 rfl ?_
  refine g_istore3 hX d_Li_comesEarlier_1 rfl (by decide) ?_
  exact lp (gV g + 1) 0 (by omega) (Nat.zero_le _) rfl
theorem c_Li_isWay {E : EV} {w : Mem} {g : GC} {q x : List Nat} {k : Nat} (hW : WG g) (hk : k < 120) (h3 : rI w 47 3 = nI (gV g)) (hM : MirP w g k x) (hP : PlcP w g q) (hL : LeM w g (gV g)) : T E m_Li_isWay 0 0 0 [.ref 47, .int (nI (k * 5)), .ref 37, .ref 32] w (Ret (some (.int (b2i (maysN g q x (gV g) = true)))) w) := by
  refine T_of (L := [.ref 47, .int (nI (k * 5)), .ref 37, .ref 32, un]) cf_Li_isWay rfl (Nat.le_of_ble_eq_true rfl) (fun X hX hF => ?_)
  have hv := hW.v
  have hn := hW.n
  have lp : ∀ (fuel : Nat) (v : Nat), gV g - v < fuel → (v ≤ gV g) → (maysN g q x v = true) → G0 E X 0 0 3 [.ref 47, .int (nI (k * 5)), .ref 37, .ref 32, .int (nI v)] [] w := by
    intro fuel
    induction fuel with
    | zero => intro v q0; exact absurd q0 (Nat.not_lt_zero _)
    | succ fuel ih =>
      intro v q0 q1 q2
      refine g_iload4 hX d_Li_isWay_3 ?_
      refine g_aload0 hX d_Li_isWay_5 ?_
      refine g_getI hX d_Li_isWay_6 fl_Li_42 (lv_47 _) ?_
      refine g_topi h3 ?_
      refine g_icmpN_ge hX d_Li_isWay_9 (by omega) (by omega) (fun e9 => ?_) (fun e9 => ?_)
      · refine g_iconst (v := nI 1) hX d_Li_isWay_41 rfl ?_
        refine g_zret hX hF d_Li_isWay_42 (Or.inr rfl) (by omega) (by omega) ?_
        obtain rfl : v = gV g := by omega
        exact ret_t q2
      · obtain ⟨m1, m2⟩ := hM v e9
        obtain ⟨p3, p4⟩ := hP (gA x v) m2
        have hml := mayN_lt g v (gN g) hn
        have htb := mayN_tb g v (gA q (gA x v)) (gN g)
        refine g_aload3 hX d_Li_isWay_12 ?_
        refine g_iload4 hX d_Li_isWay_13 ?_
        refine g_iald hX d_Li_isWay_15 (lv_32 _) rfl (by omega) ?_
        refine g_topi (hL v e9) ?_
        refine g_aload2 hX d_Li_isWay_16 ?_
        refine g_aload0 hX d_Li_isWay_17 ?_
        refine g_getF hX d_Li_isWay_18 fl_Li_11 (lv_47 _) ?_
        refine g_iload1 hX d_Li_isWay_21 ?_
        refine g_iload4 hX d_Li_isWay_22 ?_
        refine g_iaddN hX d_Li_isWay_24 ?_
        refine g_iald hX d_Li_isWay_25 (lv_48 _) rfl (by omega) ?_
        refine g_topi m1 ?_
        refine g_iald hX d_Li_isWay_26 (lv_37 _) rfl (by omega) ?_
        refine g_topi p3 ?_
        refine g_ishrN hX d_Li_isWay_27 (by omega) (by omega) ?_
        refine g_iconst (v := nI 1) hX d_Li_isWay_28 rfl ?_
        refine g_iandC hX d_Li_isWay_29 (fun hm1 => ?_)
        refine g_if_ne hX d_Li_isWay_30 (fun e30 => ?_) (fun e30 => ?_)
        · have e30 : gMay g v (gA q (gA x v)) = true := by
            have hb : (mayN g v (gN g)).testBit (gA q (gA x v)) = true := by
              cases hb : (mayN g v (gN g)).testBit (gA q (gA x v)) with
              | true => rfl
              | false => exact absurd (by rw [(tb0 _ _).mpr hb]; rfl) e30
            rw [htb, Bool.and_eq_true] at hb
            exact hb.2
          refine g_iincN4 hX d_Li_isWay_35 rfl (by decide) ?_
          refine g_goto hX d_Li_isWay_38 ?_
          exact ih (v + 1) (by omega) (by omega) (by unfold maysN; rw [q2, e30]; rfl)
        · have e30 : ¬ gMay g v (gA q (gA x v)) = true := fun z => by
            have hb : (mayN g v (gN g)).testBit (gA q (gA x v)) = true := by rw [htb, z]; simp [p4]
            rw [(tb1 _ _).mpr hb] at e30
            exact absurd e30 (by decide)
          refine g_iconst (v := nI 0) hX d_Li_isWay_33 rfl ?_
          refine g_zret hX hF d_Li_isWay_34 (Or.inl rfl) (by omega) (by omega) ?_
          exact ret_f (mays_no (v := v + 1) (fun z => by unfold maysN at z; rw [Bool.and_eq_true] at z; exact e30 z.2) _ (by omega))
  refine g_iconst (v := nI 0) hX d_Li_isWay_0 rfl ?_
  refine g_istore4 hX d_Li_isWay_1 rfl (by decide) ?_
  exact lp (gV g + 1) 0 (by omega) (Nat.zero_le _) rfl
theorem c_Li_isFirst {E : EV} {w : Mem} {g : GC} {q : List Nat} (hW : WG g) (h3 : rI w 47 3 = nI (gV g)) (hS : SymP w (turnsL g)) (hP : PlcP w g q) (hL : LeM w g (gV g)) : T E m_Li_isFirst 1 0 0 [.ref 47, .ref 37, .ref 32] w (Ret (some (.int (b2i (onceG g q = true)))) w) := by
  refine T_of (L := [.ref 47, .ref 37, .ref 32, un]) cf_Li_isFirst rfl (Nat.le_of_ble_eq_true rfl) (fun X hX hF => ?_)
  have hv := hW.v
  have htl := turns_le hv
  have lp : ∀ (fuel : Nat) (k : Nat), (turnsL g).length - k < fuel → (k ≤ (turnsL g).length) → (((turnsL g).take k).all (fun x => !aheadG g q x) = true) → G0 E X 0 0 2 [.ref 47, .ref 37, .ref 32, .int (nI k)] [] w := by
    intro fuel
    induction fuel with
    | zero => intro k q0; exact absurd q0 (Nat.not_lt_zero _)
    | succ fuel ih =>
      intro k q0 q1 q2
      refine g_iload3 hX d_Li_isFirst_2 ?_
      refine g_aload0 hX d_Li_isFirst_3 ?_
      refine g_getI hX d_Li_isFirst_4 fl_Li_39 (lv_47 _) ?_
      refine g_topi hS.1 ?_
      refine g_icmpN_ge hX d_Li_isFirst_7 (by omega) (by omega) (fun e7 => ?_) (fun e7 => ?_)
      · refine g_iconst (v := nI 1) hX d_Li_isFirst_41 rfl ?_
        refine g_zret hX hF d_Li_isFirst_42 (Or.inr rfl) (by omega) (by omega) ?_
        obtain rfl : k = (turnsL g).length := by omega
        rw [List.take_length] at q2
        exact ret_t (by rw [once_L]; exact q2)
      · obtain ⟨x, hx⟩ : ∃ x, (turnsL g)[k]? = some x := ⟨_, List.getElem?_eq_getElem e7⟩
        obtain ⟨hxl, hxv⟩ := turns_mem (List.mem_of_getElem? hx)
        have hMr : MirP w g k x := fun u hu => ⟨hS.2 k x hx u (by omega), hxv _ (gA_mem (by omega))⟩
        have hts : (turnsL g).take (k + 1) = (turnsL g).take k ++ [x] := by rw [List.take_add_one, hx]; rfl
        refine g_aload0 hX d_Li_isFirst_10 ?_
        refine g_iload3 hX d_Li_isFirst_11 ?_
        refine g_iconst (v := nI 5) hX d_Li_isFirst_12 rfl ?_
        refine g_imulN hX d_Li_isFirst_13 ?_
        refine g_aload1 hX d_Li_isFirst_14 ?_
        refine g_callV (As := [_, _]) hX hF.1 d_Li_isFirst_15 ml_Li_63 cf_Li_comesEarlier cv_Li_comesEarlier rfl rfl (c_Li_comesEarlier hW (by omega) h3 hMr hP) (rcv_obj hX (lv_47 _) rfl rfl) (by omega) (by omega) (by omega) (Nat.le_of_ble_eq_true rfl) ?_
        refine ret_k ?_
        refine g_ifB_eq hX d_Li_isFirst_18 (fun e18 => ?_) (fun e18 => ?_)
        · refine g_iincN3 hX d_Li_isFirst_35 rfl (by decide) ?_
          refine g_goto hX d_Li_isFirst_38 ?_
          exact ih (k + 1) (by omega) (by omega) (by rw [hts, List.all_append, q2]; unfold aheadG; simp [e18])
        · refine g_aload0 hX d_Li_isFirst_21 ?_
          refine g_iload3 hX d_Li_isFirst_22 ?_
          refine g_iconst (v := nI 5) hX d_Li_isFirst_23 rfl ?_
          refine g_imulN hX d_Li_isFirst_24 ?_
          refine g_aload1 hX d_Li_isFirst_25 ?_
          refine g_aload2 hX d_Li_isFirst_26 ?_
          refine g_callV (As := [_, _, _]) hX hF.1 d_Li_isFirst_27 ml_Li_67 cf_Li_isWay cv_Li_isWay rfl rfl (c_Li_isWay hW (by omega) h3 hMr hP hL) (rcv_obj hX (lv_47 _) rfl rfl) (by omega) (by omega) (by omega) (Nat.le_of_ble_eq_true rfl) ?_
          refine ret_k ?_
          refine g_ifB_eq hX d_Li_isFirst_30 (fun e30 => ?_) (fun e30 => ?_)
          · refine g_iincN3 hX d_Li_isFirst_35 rfl (by decide) ?_
            refine g_goto hX d_Li_isFirst_38 ?_
            exact ih (k + 1) (by omega) (by omega) (by rw [hts, List.all_append, q2]; unfold aheadG; simp [e30])
          · refine g_iconst (v := nI 0) hX d_Li_isFirst_33 rfl ?_
            refine g_zret hX hF d_Li_isFirst_34 (Or.inl rfl) (by omega) (by omega) ?_
            refine ret_f (fun z => ?_)
            rw [once_L, List.all_eq_true] at z
            have := z x (List.mem_of_getElem? hx)
            unfold aheadG at this
            simp [e18, e30] at this
  refine g_iconst (v := nI 0) hX d_Li_isFirst_0 rfl ?_
  refine g_istore3 hX d_Li_isFirst_1 rfl (by decide) ?_
  exact lp ((turnsL g).length + 1) 0 (by omega) (Nat.zero_le _) rfl
/-- the last of those that are met, or how many there are -/
def FonP (w : Mem) (g : GC) (last : Nat) (r : Option Value) : Prop := ∃ c : Nat, r = some (.int (nI c)) ∧ ((c = (onceL g).length ∧ c ≤ last) ∨ (c = last + 1 ∧ ∃ q, (onceL g)[last]? = some q ∧ ∀ u, u < gV g → rI w 37 u = nI (gA q u)))
theorem c_D_findOnce {E : EV} {w : Mem} {last : Nat} {s : SG} (h : DInv w s) (hla : last < 2 ^ 30) : T E m_D_findOnce 15 0 0 [.ref 0, .int (nI last)] w (fun r w2 => FonP w2 (sG s) last r ∧ DInv w2 s ∧ DkQ w w2 ∧ BRow w2 1 (sG s)) := by
  refine T_of (L := [.ref 0, .int (nI last), un, un]) cf_D_findOnce rfl (Nat.le_of_ble_eq_true rfl) (fun X hX hF => ?_)
  obtain ⟨⟨hR, hW, hA⟩, hL, hT, hI, hRF, ⟨hsm, hfa, hsp⟩, hdr, hfx⟩ := id h
  have hn := hW.n
  have hv := hW.v
  have he := hW.el
  have hll := hW.ll
  have hsl := hW.sl
  refine g_aload0 hX d_D_findOnce_0 ?_
  refine g_callV (As := []) hX hF.1 d_D_findOnce_1 ml_D_264 cf_D_startWays cv_D_startWays rfl rfl (c_D_startWays h) (rcv_obj hX (lv_0 _) rfl rfl) (by omega) (by omega) (by omega) (Nat.le_of_ble_eq_true rfl) ?_
  rintro _ w1 ⟨rfl, hE1, hS1, hLe1, h1, hQ1⟩
  have hwl : (waysL (sG s)).length ≤ 248832 := by rw [← ways_C]; exact waysC_len hW
  show G0 _ _ _ _ _ _ _ _
  refine g_aload0 hX d_D_findOnce_4 ?_
  refine g_getF hX d_D_findOnce_5 fl_D_68 (lv_0 _) ?_
  refine g_aload0 hX d_D_findOnce_8 ?_
  refine g_getF hX d_D_findOnce_9 fl_D_10 (lv_0 _) ?_
  refine g_callV (As := [_]) hX hF.1 d_D_findOnce_12 ml_D_282 cf_Li_findSymmetries cv_Li_findSymmetries rfl rfl (c_Li_findSymmetries hW hE1.1) (rcv_obj hX (lv_47 _) rfl rfl) (by omega) (by omega) (by omega) (Nat.le_of_ble_eq_true rfl) ?_
  rintro _ w2 ⟨rfl, hS2, h3, hQs, hos, hss⟩
  have h2 := h1.q hQs
  have hQ2 := hQ1.tr hQs
  have hE2 : WkE w2 (sG s) (mayG (sG s)) 32 := ⟨hE1.1.fr (fun a h1 h2 => hos a (by omega)), hW, by unfold rR; rw [hss]; exact hE1.2.2.1, by unfold rR; rw [hss]; exact hE1.2.2.2.1, Or.inl rfl, fun v hv => by rw [hos 32 (by decide)]; exact hE1.2.2.2.2.2 v hv⟩
  have hSw : WkS w2 (sG s) (mayG (sG s)) (waysL (sG s)) (stepsC (sG s) (mayG (sG s)) (gV (sG s)) []) := hS1.ch0 (fun a ha => hos a (by omega))
  have hLm : LeM w2 (sG s) (gV (sG s)) := fun u hu => by rw [hos 32 (by decide)]; exact hLe1.1 u hu
  obtain ⟨tot, htot⟩ : ∃ tot, stepsC (sG s) (mayG (sG s)) (gV (sG s)) [] = tot := ⟨_, rfl⟩
  rw [htot] at hSw
  show G0 _ _ _ _ _ _ _ _
  refine g_iconst (v := nI 0) hX d_D_findOnce_15 rfl ?_
  refine g_istore2 hX d_D_findOnce_16 rfl (by decide) ?_
  refine g_iconst (v := nI 0) hX d_D_findOnce_17 rfl ?_
  refine g_istore3 hX d_D_findOnce_18 rfl (by decide) ?_
  have lp : ∀ (fuel : Nat) (k : Nat) (ws A : List (List Nat)) (wk : Mem), ws.length < fuel → (FrAd w2 wk) → (WkS wk (sG s) (mayG (sG s)) ws tot) → (k + ws.length ≤ 400000) → (A ++ ws.filter (onceG (sG s)) = onceL (sG s)) → (A.length ≤ last) → G0 E X 0 0 19 [.ref 0, .int (nI last), .int (nI A.length), .int (nI k)] [] wk := by
    intro fuel
    induction fuel with
    | zero => intro k ws A wk q0; exact absurd q0 (Nat.not_lt_zero _)
    | succ fuel ih =>
      intro k ws A wk q0 q1 q2 q3 q4 q5
      refine g_iload3 hX d_D_findOnce_19 ?_
      refine g_ldc_w (v := nI 1000000) hX d_D_findOnce_20 k_D_278 rfl ?_
      refine g_icmpN_ge hX d_D_findOnce_23 (by omega) (by omega) (fun h => absurd h (by omega)) (fun c0 => ?_)
      refine g_aload0 hX d_D_findOnce_26 ?_
      refine g_getF hX d_D_findOnce_27 fl_D_47 (lv_0 _) ?_
      refine g_callV (As := []) hX hF.1 d_D_findOnce_30 ml_D_286 cf_Wa_advance cv_Wa_advance rfl rfl (c_Wa_adv (hE2.fr q1.W) q2) (rcv_obj hX (lv_36 _) rfl rfl) (by omega) (by omega) (by omega) (Nat.le_of_ble_eq_true rfl) ?_
      rintro _ w5 ⟨hp, hfa⟩
      obtain ⟨z, rfl, hz2, hz⟩ := hp.c
      have hf2 := q1.tr hfa
      show G0 _ _ _ _ _ _ _ _
      refine g_if_eq hX d_D_findOnce_33 (fun e14 => ?_) (fun e14 => ?_)
      · have hz0 : z = 0 := nI_inj (by omega) (by decide) e14
        obtain ⟨-, rfl, hZ, hst⟩ := hz.resolve_right (fun y => by omega)
        refine g_iload2 hX d_D_findOnce_76 ?_
        refine g_iret hX hF d_D_findOnce_77 (by omega) (by omega) ?_
        rw [List.filter_nil, List.append_nil] at q4
        exact ⟨⟨_, rfl, Or.inl ⟨by rw [q4], q5⟩⟩, h2.q hf2.Q, hQ2.tr hf2.Q, (hE2.fr hf2.W).1⟩
      · have hz1 : z = 1 := by
          have : z ≠ 0 := fun y => e14 (by rw [y]; rfl)
          omega
        obtain ⟨-, x, t, rfl, hT⟩ := hz.resolve_left (fun y => by omega)
        have hPl : PlcP w5 (sG s) x := fun u hu => ⟨hT.2.2.1 u hu, hT.lt hu⟩
        refine g_aload0 hX d_D_findOnce_36 ?_
        refine g_getF hX d_D_findOnce_37 fl_D_68 (lv_0 _) ?_
        refine g_aload0 hX d_D_findOnce_40 ?_
        refine g_getF hX d_D_findOnce_41 fl_D_47 (lv_0 _) ?_
        refine g_getF hX d_D_findOnce_44 fl_D_261 (lv_36 _) ?_
        refine g_aload0 hX d_D_findOnce_47 ?_
        refine g_getF hX d_D_findOnce_48 fl_D_40 (lv_0 _) ?_
        refine g_getF hX d_D_findOnce_51 fl_D_153 (lv_31 _) ?_
        refine g_callV (As := [_, _]) hX hF.1 d_D_findOnce_54 ml_D_290 cf_Li_isFirst cv_Li_isFirst rfl rfl (c_Li_isFirst hW (by rw [hf2.1 47 (by decide)]; exact h3) ⟨by rw [hf2.1 47 (by decide)]; exact hS2.1, by rw [hf2.1 48 (by decide)]; exact hS2.2⟩ hPl (fun u hu => by rw [hf2.1 32 (by decide)]; exact hLm u hu)) (rcv_obj hX (lv_47 _) rfl rfl) (by omega) (by omega) (by omega) (Nat.le_of_ble_eq_true rfl) ?_
        refine ret_k ?_
        refine g_ifB_eq hX d_D_findOnce_57 (fun e57 => ?_) (fun e57 => ?_)
        · refine g_iincN3 hX d_D_findOnce_70 rfl (by decide) ?_
          refine g_goto hX d_D_findOnce_73 ?_
          exact ih (k + 1) t A w5 (by simp only [List.length_cons] at q0; omega) hf2 hT.S (by simp only [List.length_cons] at q3; omega) (by rw [List.filter_cons_of_neg e57] at q4; exact q4) q5
        · rw [List.filter_cons_of_pos e57] at q4
          refine g_iincN2 hX d_D_findOnce_60 rfl (by decide) ?_
          refine g_iload2 hX d_D_findOnce_63 ?_
          refine g_iload1 hX d_D_findOnce_64 ?_
          refine g_icmpN_le hX d_D_findOnce_65 (by omega) (by omega) (fun e65 => ?_) (fun e65 => ?_)
          · refine g_iincN3 hX d_D_findOnce_70 rfl (by decide) ?_
            refine g_goto hX d_D_findOnce_73 ?_
            rw [show A.length + 1 = (A ++ [x]).length by rw [List.length_append, List.length_singleton]]
            exact ih (k + 1) t (A ++ [x]) w5 (by simp only [List.length_cons] at q0; omega) hf2 hT.S (by simp only [List.length_cons] at q3; omega) (by rw [List.append_assoc]; exact q4) (by rw [List.length_append, List.length_singleton]; omega)
          · refine g_iload2 hX d_D_findOnce_68 ?_
            refine g_iret hX hF d_D_findOnce_69 (by omega) (by omega) ?_
            obtain rfl : last = A.length := by omega
            exact ⟨⟨_, rfl, Or.inr ⟨rfl, x, by rw [← q4, List.getElem?_append_right (Nat.le_refl _), Nat.sub_self]; rfl, hT.2.2.1⟩⟩, h2.q hf2.Q, hQ2.tr hf2.Q, (hE2.fr hf2.W).1⟩
  exact lp ((waysL (sG s)).length + 1) 0 (waysL (sG s)) [] w2 (by omega) (FrAd.rf w2) hSw (by omega) rfl (Nat.zero_le _)
theorem c_D_once {E : EV} {w : Mem} {s : SG} (h : DInv w s) : T E m_D_once 16 0 0 [.ref 0] w (fun r w2 => r = some (.int (opOnce (sG s))) ∧ DInv w2 s ∧ DkD w w2) := by
  refine T_of (L := [.ref 0]) cf_D_once rfl (Nat.le_of_ble_eq_true rfl) (fun X hX hF => ?_)
  obtain ⟨⟨hR, hW, hA⟩, hL, hT, hI, hRF, ⟨hsm, hfa, hsp⟩, hdr, hfx⟩ := id h
  have hn := hW.n
  have hv := hW.v
  have he := hW.el
  have hll := hW.ll
  have hsl := hW.sl
  refine g_aload0 hX d_D_once_0 ?_
  refine g_ldc_w (v := nI 1000000) hX d_D_once_1 k_D_278 rfl ?_
  refine g_callV (As := [_]) hX hF.1 d_D_once_4 ml_D_279 cf_D_findOnce cv_D_findOnce rfl rfl (c_D_findOnce (last := 1000000) h (by decide)) (rcv_obj hX (lv_0 _) rfl rfl) (by omega) (by omega) (by omega) (Nat.le_of_ble_eq_true rfl) ?_
  rintro _ w2 ⟨⟨c, rfl, hc⟩, h2, hQ2, -⟩
  have hwl : (onceL (sG s)).length ≤ 248832 := Nat.le_trans (List.length_filter_le _ _) (ways_num hW)
  obtain ⟨rfl, -⟩ := hc.resolve_right (fun ⟨z1, q, z2, z3⟩ => by have := (List.getElem?_eq_some_iff.mp z2).1; omega)
  show G0 _ _ _ _ _ _ _ _
  refine g_iret hX hF d_D_once_7 (by omega) (by omega) ?_
  exact ⟨rfl, h2, hQ2.D⟩
theorem c_D_onceWay {E : EV} {w : Mem} {k v : Int32} {s : SG} (h : DInv w s) : T E m_D_onceWay 16 0 0 [.ref 0, .int k, .int v] w (fun r w2 => r = some (.int (opOnceWay k v (sG s))) ∧ DInv w2 s ∧ DkD w w2) := by
  refine T_of (L := [.ref 0, .int k, .int v, un]) cf_D_onceWay rfl (Nat.le_of_ble_eq_true rfl) (fun X hX hF => ?_)
  obtain ⟨⟨hR, hW, hA⟩, hL, hT, hI, hRF, ⟨hsm, hfa, hsp⟩, hdr, hfx⟩ := id h
  have hn := hW.n
  have hv := hW.v
  have he := hW.el
  have hll := hW.ll
  have hsl := hW.sl
  have hwl : (onceL (sG s)).length ≤ 248832 := Nat.le_trans (List.length_filter_le _ _) (ways_num hW)
  by_cases hk0 : k < 0
  · refine g_iload1 hX d_D_onceWay_0 ?_
    refine g_if_lt hX d_D_onceWay_1 (fun c0 => ?_) (fun h => absurd hk0 h)
    refine g_iconst (v := nI 0) hX d_D_onceWay_24 rfl ?_
    refine g_istore3 hX d_D_onceWay_25 rfl (by decide) ?_
    refine g_aload0 hX d_D_onceWay_26 ?_
    refine g_iload3 hX d_D_onceWay_27 ?_
    refine g_iload2 hX d_D_onceWay_28 ?_
    refine g_callV (As := [_, _]) hX hF.1 d_D_onceWay_29 ml_D_274 cf_D_nodeInWay cv_D_nodeInWay rfl rfl (c_D_niw0) (rcv_obj hX (lv_0 _) rfl rfl) (by omega) (by omega) (by omega) (Nat.le_of_ble_eq_true rfl) ?_
    refine ret_k ?_
    refine g_iret hX hF d_D_onceWay_32 (by omega) (by omega) ?_
    rw [oway_no (Or.inr hk0)]
    exact ⟨rfl, h, DkD.rf w⟩
  · obtain ⟨m, hm31, rfl⟩ : ∃ m : Nat, m < 2 ^ 31 ∧ k = nI m := ⟨tn k, tn_lt k, (tn_k hk0).symm⟩
    by_cases hbig : 1000000 ≤ m
    · refine g_iload1 hX d_D_onceWay_0 ?_
      refine g_if_lt hX d_D_onceWay_1 (fun h => absurd h (nI_pos hm31)) (fun c0 => ?_)
      refine g_iload1 hX d_D_onceWay_4 ?_
      refine g_ldc_w (v := nI 1000000) hX d_D_onceWay_5 k_D_278 rfl ?_
      refine g_icmpN_ge hX d_D_onceWay_8 (by omega) (by omega) (fun c1 => ?_) (fun h => absurd h (by omega))
      refine g_iconst (v := nI 0) hX d_D_onceWay_24 rfl ?_
      refine g_istore3 hX d_D_onceWay_25 rfl (by decide) ?_
      refine g_aload0 hX d_D_onceWay_26 ?_
      refine g_iload3 hX d_D_onceWay_27 ?_
      refine g_iload2 hX d_D_onceWay_28 ?_
      refine g_callV (As := [_, _]) hX hF.1 d_D_onceWay_29 ml_D_274 cf_D_nodeInWay cv_D_nodeInWay rfl rfl (c_D_niw0) (rcv_obj hX (lv_0 _) rfl rfl) (by omega) (by omega) (by omega) (Nat.le_of_ble_eq_true rfl) ?_
      refine ret_k ?_
      refine g_iret hX hF d_D_onceWay_32 (by omega) (by omega) ?_
      have hno : (onceL (sG s))[m]? = none := List.getElem?_eq_none (by omega)
      by_cases hv0 : inN v (gV (sG s))
      · obtain ⟨x, hx, rfl, -⟩ := inN_of hv0 (by omega)
        rw [oway_ok hm31 hx hv, hno]
        exact ⟨rfl, h, DkD.rf w⟩
      · rw [oway_no (Or.inl hv0)]
        exact ⟨rfl, h, DkD.rf w⟩
    · refine g_iload1 hX d_D_onceWay_0 ?_
      refine g_if_lt hX d_D_onceWay_1 (fun h => absurd h (nI_pos hm31)) (fun c0 => ?_)
      refine g_iload1 hX d_D_onceWay_4 ?_
      refine g_ldc_w (v := nI 1000000) hX d_D_onceWay_5 k_D_278 rfl ?_
      refine g_icmpN_ge hX d_D_onceWay_8 (by omega) (by omega) (fun h => absurd h (by omega)) (fun c1 => ?_)
      refine g_aload0 hX d_D_onceWay_11 ?_
      refine g_iload1 hX d_D_onceWay_12 ?_
      refine g_callV (As := [_]) hX hF.1 d_D_onceWay_13 ml_D_279 cf_D_findOnce cv_D_findOnce rfl rfl (c_D_findOnce h (by omega)) (rcv_obj hX (lv_0 _) rfl rfl) (by omega) (by omega) (by omega) (Nat.le_of_ble_eq_true rfl) ?_
      rintro _ w2 ⟨⟨c, rfl, hc⟩, h2, hQ2, hR2⟩
      have hcb : c ≤ 1000000 := by
        rcases hc with z | z
        · omega
        · omega
      show G0 _ _ _ _ _ _ _ _
      refine g_iload1 hX d_D_onceWay_16 ?_
      refine g_icmpN_le hX d_D_onceWay_17 (by omega) (by omega) (fun e17 => ?_) (fun e17 => ?_)
      · refine g_iconst (v := nI 0) hX d_D_onceWay_24 rfl ?_
        refine g_istore3 hX d_D_onceWay_25 rfl (by decide) ?_
        refine g_aload0 hX d_D_onceWay_26 ?_
        refine g_iload3 hX d_D_onceWay_27 ?_
        refine g_iload2 hX d_D_onceWay_28 ?_
        refine g_callV (As := [_, _]) hX hF.1 d_D_onceWay_29 ml_D_274 cf_D_nodeInWay cv_D_nodeInWay rfl rfl (c_D_niw0) (rcv_obj hX (lv_0 _) rfl rfl) (by omega) (by omega) (by omega) (Nat.le_of_ble_eq_true rfl) ?_
        refine ret_k ?_
        refine g_iret hX hF d_D_onceWay_32 (by omega) (by omega) ?_
        have hno : (onceL (sG s))[m]? = none := by
          rcases hc with z | ⟨z, -⟩
          · exact List.getElem?_eq_none (by omega)
          · omega
        by_cases hv0 : inN v (gV (sG s))
        · obtain ⟨x, hx, rfl, -⟩ := inN_of hv0 (by omega)
          rw [oway_ok hm31 hx hv, hno]
          exact ⟨rfl, h2, hQ2.D⟩
        · rw [oway_no (Or.inl hv0)]
          exact ⟨rfl, h2, hQ2.D⟩
      · refine g_iconst (v := nI 1) hX d_D_onceWay_20 rfl ?_
        refine g_goto hX d_D_onceWay_21 ?_
        refine g_istore3 hX d_D_onceWay_25 rfl (by decide) ?_
        obtain ⟨-, y, hy, hpl⟩ := hc.resolve_left (fun z => by omega)
        by_cases hv0 : inN v (gV (sG s))
        · obtain ⟨x, hx, rfl, -⟩ := inN_of hv0 (by omega)
          refine g_aload0 hX d_D_onceWay_26 ?_
          refine g_iload3 hX d_D_onceWay_27 ?_
          refine g_iload2 hX d_D_onceWay_28 ?_
          refine g_callV (As := [_, _]) hX hF.1 d_D_onceWay_29 ml_D_274 cf_D_nodeInWay cv_D_nodeInWay rfl rfl (c_D_niw1 hR2 hW hx (hpl x hx)) (rcv_obj hX (lv_0 _) rfl rfl) (by omega) (by omega) (by omega) (Nat.le_of_ble_eq_true rfl) ?_
          refine ret_k ?_
          refine g_iret hX hF d_D_onceWay_32 (by omega) (by omega) ?_
          rw [oway_ok hm31 hx hv, hy]
          exact ⟨rfl, h2, hQ2.D⟩
        · refine g_aload0 hX d_D_onceWay_26 ?_
          refine g_iload3 hX d_D_onceWay_27 ?_
          refine g_iload2 hX d_D_onceWay_28 ?_
          refine g_callV (As := [_, _]) hX hF.1 d_D_onceWay_29 ml_D_274 cf_D_nodeInWay cv_D_nodeInWay rfl rfl (c_D_niwN hR2 hW hv0) (rcv_obj hX (lv_0 _) rfl rfl) (by omega) (by omega) (by omega) (Nat.le_of_ble_eq_true rfl) ?_
          refine ret_k ?_
          refine g_iret hX hF d_D_onceWay_32 (by omega) (by omega) ?_
          rw [oway_no (Or.inl hv0)]
          exact ⟨rfl, h2, hQ2.D⟩
