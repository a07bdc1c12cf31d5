def m_D_kind : MR := (⟨"SubgraphDesk", "kind", "(II)I"⟩, prog_1_method_43_code, 4, (some .int))
theorem cf_D_kind : CF m_D_kind 2 := ⟨gd 1338 (by decide +kernel) rfl, gd 139 (by decide +kernel) rfl, by decide +kernel, by decide, by decide +kernel⟩
theorem cv_D_kind : CV m_D_kind := ⟨gd 1336 (by decide +kernel) rfl, gd 1337 (by decide +kernel) rfl⟩
def m_Li_countEdges : MR := (⟨"SubgraphDesk$Likeness", "countEdges", "(LSubgraphDesk$Board;)V"⟩, prog_6_method_12_code, 4, none)
theorem cf_Li_countEdges : CF m_Li_countEdges 1 := ⟨gd 1357 (by decide +kernel) rfl, gd 149 (by decide +kernel) rfl, by decide +kernel, by decide, by decide +kernel⟩
theorem cv_Li_countEdges : CV m_Li_countEdges := ⟨gd 1356 (by decide +kernel) rfl, gd 54 (by decide +kernel) rfl⟩
def m_Li_firstLike : MR := (⟨"SubgraphDesk$Likeness", "firstLike", "(I)I"⟩, prog_6_method_14_code, 5, (some .int))
theorem cf_Li_firstLike : CF m_Li_firstLike 1 := ⟨gd 1353 (by decide +kernel) rfl, gd 149 (by decide +kernel) rfl, by decide +kernel, by decide, by decide +kernel⟩
theorem cv_Li_firstLike : CV m_Li_firstLike := ⟨gd 1352 (by decide +kernel) rfl, gd 53 (by decide +kernel) rfl⟩
def m_Li_numberKinds : MR := (⟨"SubgraphDesk$Likeness", "numberKinds", "(I)I"⟩, prog_6_method_13_code, 5, (some .int))
theorem cf_Li_numberKinds : CF m_Li_numberKinds 1 := ⟨gd 1349 (by decide +kernel) rfl, gd 149 (by decide +kernel) rfl, by decide +kernel, by decide, by decide +kernel⟩
theorem cv_Li_numberKinds : CV m_Li_numberKinds := ⟨gd 1348 (by decide +kernel) rfl, gd 52 (by decide +kernel) rfl⟩
def m_Li_tellKinds : MR := (⟨"SubgraphDesk$Likeness", "tellKinds", "(LSubgraphDesk$Board;I)I"⟩, prog_6_method_11_code, 5, (some .int))
theorem cf_Li_tellKinds : CF m_Li_tellKinds 2 := ⟨gd 1342 (by decide +kernel) rfl, gd 149 (by decide +kernel) rfl, by decide +kernel, by decide, by decide +kernel⟩
theorem cv_Li_tellKinds : CV m_Li_tellKinds := ⟨gd 1340 (by decide +kernel) rfl, gd 1341 (by decide +kernel) rfl⟩
theorem d_D_kind_0 : Dc prog_1_method_43_code 0 (.iload_n 2) 1 1 := ⟨by decide +kernel, rfl⟩
theorem d_D_kind_1 : Dj prog_1_method_43_code 1 (.ifCond .lt 25) 4 25 26 := ⟨by decide +kernel, rfl, rfl⟩
theorem d_D_kind_4 : Dc prog_1_method_43_code 4 (.iload_n 2) 1 5 := ⟨by decide +kernel, rfl⟩
theorem d_D_kind_5 : Dc prog_1_method_43_code 5 (.bipush 12) 2 7 := ⟨by decide +kernel, rfl⟩
theorem d_D_kind_7 : Dj prog_1_method_43_code 7 (.if_icmp .gt 19) 10 19 26 := ⟨by decide +kernel, rfl, rfl⟩
theorem d_D_kind_10 : Dc prog_1_method_43_code 10 (.iload_n 1) 1 11 := ⟨by decide +kernel, rfl⟩
theorem d_D_kind_11 : Dc prog_1_method_43_code 11 (.iconst (-1)) 1 12 := ⟨by decide +kernel, rfl⟩
theorem d_D_kind_12 : Dj prog_1_method_43_code 12 (.if_icmp .eq 16) 15 16 28 := ⟨by decide +kernel, rfl, rfl⟩
theorem d_D_kind_15 : Dc prog_1_method_43_code 15 (.aload_n 0) 1 16 := ⟨by decide +kernel, rfl⟩
theorem d_D_kind_16 : Dc prog_1_method_43_code 16 (.getfield 10) 3 19 := ⟨by decide +kernel, rfl⟩
theorem d_D_kind_19 : Dc prog_1_method_43_code 19 (.iload_n 1) 1 20 := ⟨by decide +kernel, rfl⟩
theorem d_D_kind_20 : Dc prog_1_method_43_code 20 (.invokevirtual 113) 3 23 := ⟨by decide +kernel, rfl⟩
theorem d_D_kind_23 : Dj prog_1_method_43_code 23 (.ifCond .ne 5) 26 5 28 := ⟨by decide +kernel, rfl, rfl⟩
theorem d_D_kind_26 : Dc prog_1_method_43_code 26 (.iconst (-1)) 1 27 := ⟨by decide +kernel, rfl⟩
theorem d_D_kind_27 : Dc prog_1_method_43_code 27 (.ireturn) 1 28 := ⟨by decide +kernel, rfl⟩
theorem d_D_kind_28 : Dc prog_1_method_43_code 28 (.aload_n 0) 1 29 := ⟨by decide +kernel, rfl⟩
theorem d_D_kind_29 : Dc prog_1_method_43_code 29 (.getfield 68) 3 32 := ⟨by decide +kernel, rfl⟩
theorem d_D_kind_32 : Dc prog_1_method_43_code 32 (.aload_n 0) 1 33 := ⟨by decide +kernel, rfl⟩
theorem d_D_kind_33 : Dc prog_1_method_43_code 33 (.getfield 10) 3 36 := ⟨by decide +kernel, rfl⟩
theorem d_D_kind_36 : Dc prog_1_method_43_code 36 (.iload_n 2) 1 37 := ⟨by decide +kernel, rfl⟩
theorem d_D_kind_37 : Dc prog_1_method_43_code 37 (.invokevirtual 335) 3 40 := ⟨by decide +kernel, rfl⟩
theorem d_D_kind_40 : Dc prog_1_method_43_code 40 (.istore_n 3) 1 41 := ⟨by decide +kernel, rfl⟩
theorem d_D_kind_41 : Dc prog_1_method_43_code 41 (.iload_n 1) 1 42 := ⟨by decide +kernel, rfl⟩
theorem d_D_kind_42 : Dc prog_1_method_43_code 42 (.iconst (-1)) 1 43 := ⟨by decide +kernel, rfl⟩
theorem d_D_kind_43 : Dj prog_1_method_43_code 43 (.if_icmp .ne 7) 46 7 50 := ⟨by decide +kernel, rfl, rfl⟩
theorem d_D_kind_46 : Dc prog_1_method_43_code 46 (.iload_n 3) 1 47 := ⟨by decide +kernel, rfl⟩
theorem d_D_kind_47 : Dj prog_1_method_43_code 47 (.goto 12) 50 12 59 := ⟨by decide +kernel, rfl, rfl⟩
theorem d_D_kind_50 : Dc prog_1_method_43_code 50 (.aload_n 0) 1 51 := ⟨by decide +kernel, rfl⟩
theorem d_D_kind_51 : Dc prog_1_method_43_code 51 (.getfield 68) 3 54 := ⟨by decide +kernel, rfl⟩
theorem d_D_kind_54 : Dc prog_1_method_43_code 54 (.getfield 338) 3 57 := ⟨by decide +kernel, rfl⟩
theorem d_D_kind_57 : Dc prog_1_method_43_code 57 (.iload_n 1) 1 58 := ⟨by decide +kernel, rfl⟩
theorem d_D_kind_58 : Dc prog_1_method_43_code 58 (.iaload) 1 59 := ⟨by decide +kernel, rfl⟩
theorem d_D_kind_59 : Dc prog_1_method_43_code 59 (.ireturn) 1 60 := ⟨by decide +kernel, rfl⟩
theorem d_Li_countEdges_0 : Dc prog_6_method_12_code 0 (.aload_n 0) 1 1 := ⟨by decide +kernel, rfl⟩
theorem d_Li_countEdges_1 : Dc prog_6_method_12_code 1 (.getfield 24) 3 4 := ⟨by decide +kernel, rfl⟩
theorem d_Li_countEdges_4 : Dc prog_6_method_12_code 4 (.iconst 0) 1 5 := ⟨by decide +kernel, rfl⟩
theorem d_Li_countEdges_5 : Dc prog_6_method_12_code 5 (.invokestatic 71) 3 8 := ⟨by decide +kernel, rfl⟩
theorem d_Li_countEdges_8 : Dc prog_6_method_12_code 8 (.iconst 0) 1 9 := ⟨by decide +kernel, rfl⟩
theorem d_Li_countEdges_9 : Dc prog_6_method_12_code 9 (.istore_n 2) 1 10 := ⟨by decide +kernel, rfl⟩
theorem d_Li_countEdges_10 : Dc prog_6_method_12_code 10 (.iload_n 2) 1 11 := ⟨by decide +kernel, rfl⟩
theorem d_Li_countEdges_11 : Dc prog_6_method_12_code 11 (.aload_n 1) 1 12 := ⟨by decide +kernel, rfl⟩
theorem d_Li_countEdges_12 : Dc prog_6_method_12_code 12 (.getfield 80) 3 15 := ⟨by decide +kernel, rfl⟩
theorem d_Li_countEdges_15 : Dj prog_6_method_12_code 15 (.if_icmp .ge 54) 18 54 69 := ⟨by decide +kernel, rfl, rfl⟩
theorem d_Li_countEdges_18 : Dc prog_6_method_12_code 18 (.iconst 0) 1 19 := ⟨by decide +kernel, rfl⟩
theorem d_Li_countEdges_19 : Dc prog_6_method_12_code 19 (.istore_n 3) 1 20 := ⟨by decide +kernel, rfl⟩
theorem d_Li_countEdges_20 : Dc prog_6_method_12_code 20 (.iload_n 3) 1 21 := ⟨by decide +kernel, rfl⟩
theorem d_Li_countEdges_21 : Dc prog_6_method_12_code 21 (.aload_n 1) 1 22 := ⟨by decide +kernel, rfl⟩
theorem d_Li_countEdges_22 : Dc prog_6_method_12_code 22 (.getfield 80) 3 25 := ⟨by decide +kernel, rfl⟩
theorem d_Li_countEdges_25 : Dj prog_6_method_12_code 25 (.if_icmp .ge 38) 28 38 63 := ⟨by decide +kernel, rfl, rfl⟩
theorem d_Li_countEdges_28 : Dc prog_6_method_12_code 28 (.aload_n 0) 1 29 := ⟨by decide +kernel, rfl⟩
theorem d_Li_countEdges_29 : Dc prog_6_method_12_code 29 (.getfield 24) 3 32 := ⟨by decide +kernel, rfl⟩
theorem d_Li_countEdges_32 : Dc prog_6_method_12_code 32 (.iload_n 2) 1 33 := ⟨by decide +kernel, rfl⟩
theorem d_Li_countEdges_33 : Dc prog_6_method_12_code 33 (.bipush 12) 2 35 := ⟨by decide +kernel, rfl⟩
theorem d_Li_countEdges_35 : Dc prog_6_method_12_code 35 (.imul) 1 36 := ⟨by decide +kernel, rfl⟩
theorem d_Li_countEdges_36 : Dc prog_6_method_12_code 36 (.aload_n 0) 1 37 := ⟨by decide +kernel, rfl⟩
theorem d_Li_countEdges_37 : Dc prog_6_method_12_code 37 (.getfield 18) 3 40 := ⟨by decide +kernel, rfl⟩
theorem d_Li_countEdges_40 : Dc prog_6_method_12_code 40 (.iload_n 3) 1 41 := ⟨by decide +kernel, rfl⟩
theorem d_Li_countEdges_41 : Dc prog_6_method_12_code 41 (.iaload) 1 42 := ⟨by decide +kernel, rfl⟩
theorem d_Li_countEdges_42 : Dc prog_6_method_12_code 42 (.iadd) 1 43 := ⟨by decide +kernel, rfl⟩
theorem d_Li_countEdges_43 : Dc prog_6_method_12_code 43 (.dup2) 1 44 := ⟨by decide +kernel, rfl⟩
theorem d_Li_countEdges_44 : Dc prog_6_method_12_code 44 (.iaload) 1 45 := ⟨by decide +kernel, rfl⟩
theorem d_Li_countEdges_45 : Dc prog_6_method_12_code 45 (.aload_n 1) 1 46 := ⟨by decide +kernel, rfl⟩
theorem d_Li_countEdges_46 : Dc prog_6_method_12_code 46 (.getfield 91) 3 49 := ⟨by decide +kernel, rfl⟩
theorem d_Li_countEdges_49 : Dc prog_6_method_12_code 49 (.iload_n 2) 1 50 := ⟨by decide +kernel, rfl⟩
theorem d_Li_countEdges_50 : Dc prog_6_method_12_code 50 (.iaload) 1 51 := ⟨by decide +kernel, rfl⟩
theorem d_Li_countEdges_51 : Dc prog_6_method_12_code 51 (.iload_n 3) 1 52 := ⟨by decide +kernel, rfl⟩
theorem d_Li_countEdges_52 : Dc prog_6_method_12_code 52 (.ishr) 1 53 := ⟨by decide +kernel, rfl⟩
theorem d_Li_countEdges_53 : Dc prog_6_method_12_code 53 (.iconst 1) 1 54 := ⟨by decide +kernel, rfl⟩
theorem d_Li_countEdges_54 : Dc prog_6_method_12_code 54 (.iand) 1 55 := ⟨by decide +kernel, rfl⟩
theorem d_Li_countEdges_55 : Dc prog_6_method_12_code 55 (.iadd) 1 56 := ⟨by decide +kernel, rfl⟩
theorem d_Li_countEdges_56 : Dc prog_6_method_12_code 56 (.iastore) 1 57 := ⟨by decide +kernel, rfl⟩
theorem d_Li_countEdges_57 : Dc prog_6_method_12_code 57 (.iinc 3 1) 3 60 := ⟨by decide +kernel, rfl⟩
theorem d_Li_countEdges_60 : Dj prog_6_method_12_code 60 (.goto (-40)) 63 (-40) 20 := ⟨by decide +kernel, rfl, rfl⟩
theorem d_Li_countEdges_63 : Dc prog_6_method_12_code 63 (.iinc 2 1) 3 66 := ⟨by decide +kernel, rfl⟩
theorem d_Li_countEdges_66 : Dj prog_6_method_12_code 66 (.goto (-56)) 69 (-56) 10 := ⟨by decide +kernel, rfl, rfl⟩
theorem d_Li_countEdges_69 : Dc prog_6_method_12_code 69 (.return_) 1 70 := ⟨by decide +kernel, rfl⟩
theorem d_Li_firstLike_0 : Dc prog_6_method_14_code 0 (.iconst 0) 1 1 := ⟨by decide +kernel, rfl⟩
theorem d_Li_firstLike_1 : Dc prog_6_method_14_code 1 (.istore_n 2) 1 2 := ⟨by decide +kernel, rfl⟩
theorem d_Li_firstLike_2 : Dc prog_6_method_14_code 2 (.iload_n 2) 1 3 := ⟨by decide +kernel, rfl⟩
theorem d_Li_firstLike_3 : Dc prog_6_method_14_code 3 (.iload_n 1) 1 4 := ⟨by decide +kernel, rfl⟩
theorem d_Li_firstLike_4 : Dj prog_6_method_14_code 4 (.if_icmp .ge 89) 7 89 93 := ⟨by decide +kernel, rfl, rfl⟩
theorem d_Li_firstLike_7 : Dc prog_6_method_14_code 7 (.aload_n 0) 1 8 := ⟨by decide +kernel, rfl⟩
theorem d_Li_firstLike_8 : Dc prog_6_method_14_code 8 (.getfield 18) 3 11 := ⟨by decide +kernel, rfl⟩
theorem d_Li_firstLike_11 : Dc prog_6_method_14_code 11 (.iload_n 2) 1 12 := ⟨by decide +kernel, rfl⟩
theorem d_Li_firstLike_12 : Dc prog_6_method_14_code 12 (.iaload) 1 13 := ⟨by decide +kernel, rfl⟩
theorem d_Li_firstLike_13 : Dc prog_6_method_14_code 13 (.aload_n 0) 1 14 := ⟨by decide +kernel, rfl⟩
theorem d_Li_firstLike_14 : Dc prog_6_method_14_code 14 (.getfield 18) 3 17 := ⟨by decide +kernel, rfl⟩
theorem d_Li_firstLike_17 : Dc prog_6_method_14_code 17 (.iload_n 1) 1 18 := ⟨by decide +kernel, rfl⟩
theorem d_Li_firstLike_18 : Dc prog_6_method_14_code 18 (.iaload) 1 19 := ⟨by decide +kernel, rfl⟩
theorem d_Li_firstLike_19 : Dj prog_6_method_14_code 19 (.if_icmp .ne 7) 22 7 26 := ⟨by decide +kernel, rfl, rfl⟩
theorem d_Li_firstLike_22 : Dc prog_6_method_14_code 22 (.iconst 1) 1 23 := ⟨by decide +kernel, rfl⟩
theorem d_Li_firstLike_23 : Dj prog_6_method_14_code 23 (.goto 4) 26 4 27 := ⟨by decide +kernel, rfl, rfl⟩
theorem d_Li_firstLike_26 : Dc prog_6_method_14_code 26 (.iconst 0) 1 27 := ⟨by decide +kernel, rfl⟩
theorem d_Li_firstLike_27 : Dc prog_6_method_14_code 27 (.istore_n 3) 1 28 := ⟨by decide +kernel, rfl⟩
theorem d_Li_firstLike_28 : Dc prog_6_method_14_code 28 (.iconst 0) 1 29 := ⟨by decide +kernel, rfl⟩
theorem d_Li_firstLike_29 : Dc prog_6_method_14_code 29 (.istore 4) 2 31 := ⟨by decide +kernel, rfl⟩
theorem d_Li_firstLike_31 : Dc prog_6_method_14_code 31 (.iload 4) 2 33 := ⟨by decide +kernel, rfl⟩
theorem d_Li_firstLike_33 : Dc prog_6_method_14_code 33 (.bipush 12) 2 35 := ⟨by decide +kernel, rfl⟩
theorem d_Li_firstLike_35 : Dj prog_6_method_14_code 35 (.if_icmp .ge 46) 38 46 81 := ⟨by decide +kernel, rfl, rfl⟩
theorem d_Li_firstLike_38 : Dc prog_6_method_14_code 38 (.iload_n 3) 1 39 := ⟨by decide +kernel, rfl⟩
theorem d_Li_firstLike_39 : Dj prog_6_method_14_code 39 (.ifCond .eq 42) 42 42 81 := ⟨by decide +kernel, rfl, rfl⟩
theorem d_Li_firstLike_42 : Dc prog_6_method_14_code 42 (.aload_n 0) 1 43 := ⟨by decide +kernel, rfl⟩
theorem d_Li_firstLike_43 : Dc prog_6_method_14_code 43 (.getfield 24) 3 46 := ⟨by decide +kernel, rfl⟩
theorem d_Li_firstLike_46 : Dc prog_6_method_14_code 46 (.iload_n 2) 1 47 := ⟨by decide +kernel, rfl⟩
theorem d_Li_firstLike_47 : Dc prog_6_method_14_code 47 (.bipush 12) 2 49 := ⟨by decide +kernel, rfl⟩
theorem d_Li_firstLike_49 : Dc prog_6_method_14_code 49 (.imul) 1 50 := ⟨by decide +kernel, rfl⟩
theorem d_Li_firstLike_50 : Dc prog_6_method_14_code 50 (.iload 4) 2 52 := ⟨by decide +kernel, rfl⟩
theorem d_Li_firstLike_52 : Dc prog_6_method_14_code 52 (.iadd) 1 53 := ⟨by decide +kernel, rfl⟩
theorem d_Li_firstLike_53 : Dc prog_6_method_14_code 53 (.iaload) 1 54 := ⟨by decide +kernel, rfl⟩
theorem d_Li_firstLike_54 : Dc prog_6_method_14_code 54 (.aload_n 0) 1 55 := ⟨by decide +kernel, rfl⟩
theorem d_Li_firstLike_55 : Dc prog_6_method_14_code 55 (.getfield 24) 3 58 := ⟨by decide +kernel, rfl⟩
theorem d_Li_firstLike_58 : Dc prog_6_method_14_code 58 (.iload_n 1) 1 59 := ⟨by decide +kernel, rfl⟩
theorem d_Li_firstLike_59 : Dc prog_6_method_14_code 59 (.bipush 12) 2 61 := ⟨by decide +kernel, rfl⟩
theorem d_Li_firstLike_61 : Dc prog_6_method_14_code 61 (.imul) 1 62 := ⟨by decide +kernel, rfl⟩
theorem d_Li_firstLike_62 : Dc prog_6_method_14_code 62 (.iload 4) 2 64 := ⟨by decide +kernel, rfl⟩
theorem d_Li_firstLike_64 : Dc prog_6_method_14_code 64 (.iadd) 1 65 := ⟨by decide +kernel, rfl⟩
theorem d_Li_firstLike_65 : Dc prog_6_method_14_code 65 (.iaload) 1 66 := ⟨by decide +kernel, rfl⟩
theorem d_Li_firstLike_66 : Dj prog_6_method_14_code 66 (.if_icmp .ne 7) 69 7 73 := ⟨by decide +kernel, rfl, rfl⟩
theorem d_Li_firstLike_69 : Dc prog_6_method_14_code 69 (.iconst 1) 1 70 := ⟨by decide +kernel, rfl⟩
theorem d_Li_firstLike_70 : Dj prog_6_method_14_code 70 (.goto 4) 73 4 74 := ⟨by decide +kernel, rfl, rfl⟩
theorem d_Li_firstLike_73 : Dc prog_6_method_14_code 73 (.iconst 0) 1 74 := ⟨by decide +kernel, rfl⟩
theorem d_Li_firstLike_74 : Dc prog_6_method_14_code 74 (.istore_n 3) 1 75 := ⟨by decide +kernel, rfl⟩
theorem d_Li_firstLike_75 : Dc prog_6_method_14_code 75 (.iinc 4 1) 3 78 := ⟨by decide +kernel, rfl⟩
theorem d_Li_firstLike_78 : Dj prog_6_method_14_code 78 (.goto (-47)) 81 (-47) 31 := ⟨by decide +kernel, rfl, rfl⟩
theorem d_Li_firstLike_81 : Dc prog_6_method_14_code 81 (.iload_n 3) 1 82 := ⟨by decide +kernel, rfl⟩
theorem d_Li_firstLike_82 : Dj prog_6_method_14_code 82 (.ifCond .eq 5) 85 5 87 := ⟨by decide +kernel, rfl, rfl⟩
theorem d_Li_firstLike_85 : Dc prog_6_method_14_code 85 (.iload_n 2) 1 86 := ⟨by decide +kernel, rfl⟩
theorem d_Li_firstLike_86 : Dc prog_6_method_14_code 86 (.ireturn) 1 87 := ⟨by decide +kernel, rfl⟩
theorem d_Li_firstLike_87 : Dc prog_6_method_14_code 87 (.iinc 2 1) 3 90 := ⟨by decide +kernel, rfl⟩
theorem d_Li_firstLike_90 : Dj prog_6_method_14_code 90 (.goto (-88)) 93 (-88) 2 := ⟨by decide +kernel, rfl, rfl⟩
theorem d_Li_firstLike_93 : Dc prog_6_method_14_code 93 (.iload_n 1) 1 94 := ⟨by decide +kernel, rfl⟩
theorem d_Li_firstLike_94 : Dc prog_6_method_14_code 94 (.ireturn) 1 95 := ⟨by decide +kernel, rfl⟩
theorem d_Li_numberKinds_0 : Dc prog_6_method_13_code 0 (.iconst 0) 1 1 := ⟨by decide +kernel, rfl⟩
theorem d_Li_numberKinds_1 : Dc prog_6_method_13_code 1 (.istore_n 2) 1 2 := ⟨by decide +kernel, rfl⟩
theorem d_Li_numberKinds_2 : Dc prog_6_method_13_code 2 (.iconst 0) 1 3 := ⟨by decide +kernel, rfl⟩
theorem d_Li_numberKinds_3 : Dc prog_6_method_13_code 3 (.istore_n 3) 1 4 := ⟨by decide +kernel, rfl⟩
theorem d_Li_numberKinds_4 : Dc prog_6_method_13_code 4 (.iload_n 3) 1 5 := ⟨by decide +kernel, rfl⟩
theorem d_Li_numberKinds_5 : Dc prog_6_method_13_code 5 (.iload_n 1) 1 6 := ⟨by decide +kernel, rfl⟩
theorem d_Li_numberKinds_6 : Dj prog_6_method_13_code 6 (.if_icmp .ge 48) 9 48 54 := ⟨by decide +kernel, rfl, rfl⟩
theorem d_Li_numberKinds_9 : Dc prog_6_method_13_code 9 (.aload_n 0) 1 10 := ⟨by decide +kernel, rfl⟩
theorem d_Li_numberKinds_10 : Dc prog_6_method_13_code 10 (.iload_n 3) 1 11 := ⟨by decide +kernel, rfl⟩
theorem d_Li_numberKinds_11 : Dc prog_6_method_13_code 11 (.invokevirtual 94) 3 14 := ⟨by decide +kernel, rfl⟩
theorem d_Li_numberKinds_14 : Dc prog_6_method_13_code 14 (.istore 4) 2 16 := ⟨by decide +kernel, rfl⟩
theorem d_Li_numberKinds_16 : Dc prog_6_method_13_code 16 (.iload 4) 2 18 := ⟨by decide +kernel, rfl⟩
theorem d_Li_numberKinds_18 : Dc prog_6_method_13_code 18 (.iload_n 3) 1 19 := ⟨by decide +kernel, rfl⟩
theorem d_Li_numberKinds_19 : Dj prog_6_method_13_code 19 (.if_icmp .ne 16) 22 16 35 := ⟨by decide +kernel, rfl, rfl⟩
theorem d_Li_numberKinds_22 : Dc prog_6_method_13_code 22 (.aload_n 0) 1 23 := ⟨by decide +kernel, rfl⟩
theorem d_Li_numberKinds_23 : Dc prog_6_method_13_code 23 (.getfield 21) 3 26 := ⟨by decide +kernel, rfl⟩
theorem d_Li_numberKinds_26 : Dc prog_6_method_13_code 26 (.iload_n 3) 1 27 := ⟨by decide +kernel, rfl⟩
theorem d_Li_numberKinds_27 : Dc prog_6_method_13_code 27 (.iload_n 2) 1 28 := ⟨by decide +kernel, rfl⟩
theorem d_Li_numberKinds_28 : Dc prog_6_method_13_code 28 (.iastore) 1 29 := ⟨by decide +kernel, rfl⟩
theorem d_Li_numberKinds_29 : Dc prog_6_method_13_code 29 (.iinc 2 1) 3 32 := ⟨by decide +kernel, rfl⟩
theorem d_Li_numberKinds_32 : Dj prog_6_method_13_code 32 (.goto 16) 35 16 48 := ⟨by decide +kernel, rfl, rfl⟩
theorem d_Li_numberKinds_35 : Dc prog_6_method_13_code 35 (.aload_n 0) 1 36 := ⟨by decide +kernel, rfl⟩
theorem d_Li_numberKinds_36 : Dc prog_6_method_13_code 36 (.getfield 21) 3 39 := ⟨by decide +kernel, rfl⟩
theorem d_Li_numberKinds_39 : Dc prog_6_method_13_code 39 (.iload_n 3) 1 40 := ⟨by decide +kernel, rfl⟩
theorem d_Li_numberKinds_40 : Dc prog_6_method_13_code 40 (.aload_n 0) 1 41 := ⟨by decide +kernel, rfl⟩
theorem d_Li_numberKinds_41 : Dc prog_6_method_13_code 41 (.getfield 21) 3 44 := ⟨by decide +kernel, rfl⟩
theorem d_Li_numberKinds_44 : Dc prog_6_method_13_code 44 (.iload 4) 2 46 := ⟨by decide +kernel, rfl⟩
theorem d_Li_numberKinds_46 : Dc prog_6_method_13_code 46 (.iaload) 1 47 := ⟨by decide +kernel, rfl⟩
theorem d_Li_numberKinds_47 : Dc prog_6_method_13_code 47 (.iastore) 1 48 := ⟨by decide +kernel, rfl⟩
theorem d_Li_numberKinds_48 : Dc prog_6_method_13_code 48 (.iinc 3 1) 3 51 := ⟨by decide +kernel, rfl⟩
theorem d_Li_numberKinds_51 : Dj prog_6_method_13_code 51 (.goto (-47)) 54 (-47) 4 := ⟨by decide +kernel, rfl, rfl⟩
theorem d_Li_numberKinds_54 : Dc prog_6_method_13_code 54 (.aload_n 0) 1 55 := ⟨by decide +kernel, rfl⟩
theorem d_Li_numberKinds_55 : Dc prog_6_method_13_code 55 (.getfield 21) 3 58 := ⟨by decide +kernel, rfl⟩
theorem d_Li_numberKinds_58 : Dc prog_6_method_13_code 58 (.iconst 0) 1 59 := ⟨by decide +kernel, rfl⟩
theorem d_Li_numberKinds_59 : Dc prog_6_method_13_code 59 (.aload_n 0) 1 60 := ⟨by decide +kernel, rfl⟩
theorem d_Li_numberKinds_60 : Dc prog_6_method_13_code 60 (.getfield 18) 3 63 := ⟨by decide +kernel, rfl⟩
theorem d_Li_numberKinds_63 : Dc prog_6_method_13_code 63 (.iconst 0) 1 64 := ⟨by decide +kernel, rfl⟩
theorem d_Li_numberKinds_64 : Dc prog_6_method_13_code 64 (.iload_n 1) 1 65 := ⟨by decide +kernel, rfl⟩
theorem d_Li_numberKinds_65 : Dc prog_6_method_13_code 65 (.invokestatic 57) 3 68 := ⟨by decide +kernel, rfl⟩
theorem d_Li_numberKinds_68 : Dc prog_6_method_13_code 68 (.iload_n 2) 1 69 := ⟨by decide +kernel, rfl⟩
theorem d_Li_numberKinds_69 : Dc prog_6_method_13_code 69 (.ireturn) 1 70 := ⟨by decide +kernel, rfl⟩
theorem d_Li_tellKinds_0 : Dc prog_6_method_11_code 0 (.aload_n 0) 1 1 := ⟨by decide +kernel, rfl⟩
theorem d_Li_tellKinds_1 : Dc prog_6_method_11_code 1 (.getfield 18) 3 4 := ⟨by decide +kernel, rfl⟩
theorem d_Li_tellKinds_4 : Dc prog_6_method_11_code 4 (.iconst 0) 1 5 := ⟨by decide +kernel, rfl⟩
theorem d_Li_tellKinds_5 : Dc prog_6_method_11_code 5 (.invokestatic 71) 3 8 := ⟨by decide +kernel, rfl⟩
theorem d_Li_tellKinds_8 : Dc prog_6_method_11_code 8 (.aload_n 1) 1 9 := ⟨by decide +kernel, rfl⟩
theorem d_Li_tellKinds_9 : Dc prog_6_method_11_code 9 (.getfield 77) 3 12 := ⟨by decide +kernel, rfl⟩
theorem d_Li_tellKinds_12 : Dc prog_6_method_11_code 12 (.iconst 0) 1 13 := ⟨by decide +kernel, rfl⟩
theorem d_Li_tellKinds_13 : Dc prog_6_method_11_code 13 (.aload_n 0) 1 14 := ⟨by decide +kernel, rfl⟩
theorem d_Li_tellKinds_14 : Dc prog_6_method_11_code 14 (.getfield 18) 3 17 := ⟨by decide +kernel, rfl⟩
theorem d_Li_tellKinds_17 : Dc prog_6_method_11_code 17 (.iconst 0) 1 18 := ⟨by decide +kernel, rfl⟩
theorem d_Li_tellKinds_18 : Dc prog_6_method_11_code 18 (.aload_n 1) 1 19 := ⟨by decide +kernel, rfl⟩
theorem d_Li_tellKinds_19 : Dc prog_6_method_11_code 19 (.getfield 80) 3 22 := ⟨by decide +kernel, rfl⟩
theorem d_Li_tellKinds_22 : Dc prog_6_method_11_code 22 (.invokestatic 57) 3 25 := ⟨by decide +kernel, rfl⟩
theorem d_Li_tellKinds_25 : Dc prog_6_method_11_code 25 (.aload_n 0) 1 26 := ⟨by decide +kernel, rfl⟩
theorem d_Li_tellKinds_26 : Dc prog_6_method_11_code 26 (.getfield 24) 3 29 := ⟨by decide +kernel, rfl⟩
theorem d_Li_tellKinds_29 : Dc prog_6_method_11_code 29 (.iconst 0) 1 30 := ⟨by decide +kernel, rfl⟩
theorem d_Li_tellKinds_30 : Dc prog_6_method_11_code 30 (.invokestatic 71) 3 33 := ⟨by decide +kernel, rfl⟩
theorem d_Li_tellKinds_33 : Dc prog_6_method_11_code 33 (.aload_n 0) 1 34 := ⟨by decide +kernel, rfl⟩
theorem d_Li_tellKinds_34 : Dc prog_6_method_11_code 34 (.aload_n 1) 1 35 := ⟨by decide +kernel, rfl⟩
theorem d_Li_tellKinds_35 : Dc prog_6_method_11_code 35 (.getfield 80) 3 38 := ⟨by decide +kernel, rfl⟩
theorem d_Li_tellKinds_38 : Dc prog_6_method_11_code 38 (.invokevirtual 83) 3 41 := ⟨by decide +kernel, rfl⟩
theorem d_Li_tellKinds_41 : Dc prog_6_method_11_code 41 (.istore_n 3) 1 42 := ⟨by decide +kernel, rfl⟩
theorem d_Li_tellKinds_42 : Dc prog_6_method_11_code 42 (.iconst 0) 1 43 := ⟨by decide +kernel, rfl⟩
theorem d_Li_tellKinds_43 : Dc prog_6_method_11_code 43 (.istore 4) 2 45 := ⟨by decide +kernel, rfl⟩
theorem d_Li_tellKinds_45 : Dc prog_6_method_11_code 45 (.iload 4) 2 47 := ⟨by decide +kernel, rfl⟩
theorem d_Li_tellKinds_47 : Dc prog_6_method_11_code 47 (.iload_n 2) 1 48 := ⟨by decide +kernel, rfl⟩
theorem d_Li_tellKinds_48 : Dj prog_6_method_11_code 48 (.if_icmp .ge 23) 51 23 71 := ⟨by decide +kernel, rfl, rfl⟩
theorem d_Li_tellKinds_51 : Dc prog_6_method_11_code 51 (.aload_n 0) 1 52 := ⟨by decide +kernel, rfl⟩
theorem d_Li_tellKinds_52 : Dc prog_6_method_11_code 52 (.aload_n 1) 1 53 := ⟨by decide +kernel, rfl⟩
theorem d_Li_tellKinds_53 : Dc prog_6_method_11_code 53 (.invokevirtual 87) 3 56 := ⟨by decide +kernel, rfl⟩
theorem d_Li_tellKinds_56 : Dc prog_6_method_11_code 56 (.aload_n 0) 1 57 := ⟨by decide +kernel, rfl⟩
theorem d_Li_tellKinds_57 : Dc prog_6_method_11_code 57 (.aload_n 1) 1 58 := ⟨by decide +kernel, rfl⟩
theorem d_Li_tellKinds_58 : Dc prog_6_method_11_code 58 (.getfield 80) 3 61 := ⟨by decide +kernel, rfl⟩
theorem d_Li_tellKinds_61 : Dc prog_6_method_11_code 61 (.invokevirtual 83) 3 64 := ⟨by decide +kernel, rfl⟩
theorem d_Li_tellKinds_64 : Dc prog_6_method_11_code 64 (.istore_n 3) 1 65 := ⟨by decide +kernel, rfl⟩
theorem d_Li_tellKinds_65 : Dc prog_6_method_11_code 65 (.iinc 4 1) 3 68 := ⟨by decide +kernel, rfl⟩
theorem d_Li_tellKinds_68 : Dj prog_6_method_11_code 68 (.goto (-23)) 71 (-23) 45 := ⟨by decide +kernel, rfl, rfl⟩
theorem d_Li_tellKinds_71 : Dc prog_6_method_11_code 71 (.iload_n 3) 1 72 := ⟨by decide +kernel, rfl⟩
theorem d_Li_tellKinds_72 : Dc prog_6_method_11_code 72 (.ireturn) 1 73 := ⟨by decide +kernel, rfl⟩
theorem fl_D_338 : FL "SubgraphDesk" 338 5 4 true (.array .int) (3, 3) := ⟨R_Li, F_Li, 7, ty_Li, rfl, rfl, in_Li, tyok_Li, nm_Li, by decide, gd 493 (by decide +kernel) rfl, rfl, rfl, rfl⟩
theorem fl_Li_18 : FL "SubgraphDesk$Likeness" 18 5 4 true (.array .int) (3, 3) := ⟨R_Li, F_Li, 7, ty_Li, rfl, rfl, in_Li, tyok_Li, nm_Li, by decide, gd 492 (by decide +kernel) rfl, rfl, rfl, rfl⟩
theorem fl_Li_21 : FL "SubgraphDesk$Likeness" 21 5 5 true (.array .int) (3, 4) := ⟨R_Li, F_Li, 7, ty_Li, rfl, rfl, in_Li, tyok_Li, nm_Li, by decide, gd 494 (by decide +kernel) rfl, rfl, rfl, rfl⟩
theorem fl_Li_24 : FL "SubgraphDesk$Likeness" 24 5 6 true (.array .int) (3, 5) := ⟨R_Li, F_Li, 7, ty_Li, rfl, rfl, in_Li, tyok_Li, nm_Li, by decide, gd 495 (by decide +kernel) rfl, rfl, rfl, rfl⟩
theorem fl_Li_77 : FL "SubgraphDesk$Likeness" 77 2 1 true (.array .int) (3, 1) := ⟨R_Bo, F_Bo, 15, ty_Bo, rfl, rfl, in_Bo, tyok_Bo, nm_Bo, by decide, gd 186 (by decide +kernel) rfl, rfl, rfl, rfl⟩
theorem fl_Li_80 : FL "SubgraphDesk$Likeness" 80 2 0 false .int (0, 0) := ⟨R_Bo, F_Bo, 15, ty_Bo, rfl, rfl, in_Bo, tyok_Bo, nm_Bo, by decide, gd 181 (by decide +kernel) rfl, rfl, rfl, rfl⟩
theorem fl_Li_91 : FL "SubgraphDesk$Likeness" 91 2 2 true (.array .int) (3, 2) := ⟨R_Bo, F_Bo, 15, ty_Bo, rfl, rfl, in_Bo, tyok_Bo, nm_Bo, by decide, gd 192 (by decide +kernel) rfl, rfl, rfl, rfl⟩
theorem ml_D_335 : Cond.methodLink "SubgraphDesk" 335 m_Li_tellKinds.1 ∈ lw_gd := gd 1339 (by decide +kernel) rfl
theorem ml_Li_71 : Cond.methodLink "SubgraphDesk$Likeness" 71 m_JArrays_fill_IIV.1 ∈ lw_gd := gd 1343 (by decide +kernel) rfl
theorem ml_Li_83 : Cond.methodLink "SubgraphDesk$Likeness" 83 m_Li_numberKinds.1 ∈ lw_gd := gd 1346 (by decide +kernel) rfl
theorem ml_Li_87 : Cond.methodLink "SubgraphDesk$Likeness" 87 m_Li_countEdges.1 ∈ lw_gd := gd 1354 (by decide +kernel) rfl
theorem ml_Li_94 : Cond.methodLink "SubgraphDesk$Likeness" 94 m_Li_firstLike.1 ∈ lw_gd := gd 1350 (by decide +kernel) rfl
/-! ===== kinds ===== -/
/-- the first ahead of n that is like it -/
def firN (rel : Nat → Nat → Bool) (n : Nat) : Nat → Nat → Option Nat
  | 0, _ => none
  | f + 1, m => if n ≤ m then none else if rel n m = true then some m else firN rel n f (m + 1)
abbrev RelE (rel : Nat → Nat → Bool) : Prop := (∀ a b, rel a b = rel b a) ∧ ∀ a b c, rel a b = true → rel b c = true → rel a c = true
theorem num_like {rel : Nat → Nat → Bool} (hr : RelE rel) : ∀ a, ∀ i j, i < a → j < a → rel i j = true → gA (numL rel a).1 i = gA (numL rel a).1 j := by
  have hlast : ∀ (l : List Nat) (a b : Nat), (∀ i j, i < b → j < b → rel i j = true → gA l i = gA l j) → ∀ m, m < b → rel a m = true → lastR rel l a b = some (gA l m) := by
    intro l a b
    induction b with
    | zero => intro _ m hm; exact absurd hm (Nat.not_lt_zero _)
    | succ b ih =>
      intro hl m hm hrm
      unfold lastR
      by_cases hb : rel a b = true
      · rw [if_pos hb]
        congr 1
        exact hl b m (Nat.lt_succ_self b) hm (hr.2 b a m (by rw [hr.1]; exact hb) hrm)
      · rw [if_neg hb]
        have hmb : m ≠ b := fun e => hb (e ▸ hrm)
        exact ih (fun i j hi hj => hl i j (by omega) (by omega)) m (by omega) hrm
  intro a
  induction a with
  | zero => intro i j hi; exact absurd hi (Nat.not_lt_zero _)
  | succ a ih =>
    have hlen := (numL_ok rel a).1
    have key : ∀ i, i < a → rel i a = true → gA (numL rel (a + 1)).1 a = gA (numL rel (a + 1)).1 i := fun i hi hra => by
      have h1 := hlast (numL rel a).1 a a ih i hi (by rw [hr.1]; exact hra)
      rw [num_some h1]
      show gA ((numL rel a).1 ++ [_]) a = gA ((numL rel a).1 ++ [_]) i
      rw [gA_app, if_pos hlen.symm, gA_app, if_neg (by omega)]
    have old : ∀ i, i < a → gA (numL rel (a + 1)).1 i = gA (numL rel a).1 i := fun i hi => by
      cases hl : lastR rel (numL rel a).1 a a with
      | some x => rw [num_some hl]; show gA ((numL rel a).1 ++ [_]) i = _; rw [gA_app, if_neg (by omega)]
      | none => rw [num_none hl]; show gA ((numL rel a).1 ++ [_]) i = _; rw [gA_app, if_neg (by omega)]
    intro i j hi hj hij
    by_cases ei : i = a
    · by_cases ej : j = a
      · rw [ei, ej]
      · rw [ei]; exact key j (by omega) (by rw [hr.1, ← ei]; exact hij)
    · by_cases ej : j = a
      · rw [ej]; exact (key i (by omega) (ej ▸ hij)).symm
      · rw [old i (by omega), old j (by omega)]; exact ih i j (by omega) (by omega) hij
theorem last_none {rel : Nat → Nat → Bool} {l : List Nat} {a : Nat} : ∀ b, (∀ m, m < b → ¬ rel a m = true) → lastR rel l a b = none
  | 0, _ => rfl
  | b + 1, h => by
    unfold lastR
    rw [if_neg (h b (Nat.lt_succ_self b))]
    exact last_none b (fun m hm => h m (by omega))
theorem last_some {rel : Nat → Nat → Bool} {l : List Nat} {a : Nat} : ∀ b, (∀ i j, i < b → j < b → rel i j = true → gA l i = gA l j) → (∀ x y z, rel x y = true → rel y z = true → rel x z = true) → (∀ x y, rel x y = rel y x) → ∀ m, m < b → rel a m = true → lastR rel l a b = some (gA l m)
  | 0, _, _, _, m, hm, _ => absurd hm (Nat.not_lt_zero _)
  | b + 1, hl, ht, hs, m, hm, hrm => by
    unfold lastR
    by_cases hb : rel a b = true
    · rw [if_pos hb]
      congr 1
      exact hl b m (Nat.lt_succ_self b) hm (ht b a m (by rw [hs]; exact hb) hrm)
    · rw [if_neg hb]
      have hmb : m ≠ b := fun e => hb (e ▸ hrm)
      exact last_some b (fun i j hi hj => hl i j (by omega) (by omega)) ht hs m (by omega) hrm
/-- how the desk tells nodes apart: by what they were and what was counted -/
def ed12 (ed : Nat → Nat → Nat) (a b : Nat) : Nat → Bool
  | 0 => true
  | c + 1 => ed12 ed a b c && decide (ed a c = ed b c)
def relD (kd : Nat → Nat) (ed : Nat → Nat → Nat) (a b : Nat) : Bool := decide (kd a = kd b) && ed12 ed a b 12
theorem ed12_iff {ed : Nat → Nat → Nat} {a b : Nat} : ∀ c, ed12 ed a b c = true ↔ ∀ k, k < c → ed a k = ed b k
  | 0 => ⟨fun _ k hk => absurd hk (Nat.not_lt_zero _), fun _ => rfl⟩
  | c + 1 => by
    unfold ed12
    rw [Bool.and_eq_true, ed12_iff c, decide_eq_true_iff]
    constructor
    · rintro ⟨h1, h2⟩ k hk
      by_cases e : k = c
      · rw [e]; exact h2
      · exact h1 k (by omega)
    · intro h
      exact ⟨fun k hk => h k (by omega), h c (Nat.lt_succ_self c)⟩
theorem relD_iff {kd : Nat → Nat} {ed : Nat → Nat → Nat} {a b : Nat} : relD kd ed a b = true ↔ kd a = kd b ∧ ∀ k, k < 12 → ed a k = ed b k := by
  unfold relD
  rw [Bool.and_eq_true, decide_eq_true_iff, ed12_iff]
theorem relD_E (kd : Nat → Nat) (ed : Nat → Nat → Nat) : RelE (relD kd ed) := by
  refine ⟨fun a b => ?_, fun a b c h1 h2 => ?_⟩
  · rw [Bool.eq_iff_iff, relD_iff, relD_iff]
    exact ⟨fun h => ⟨h.1.symm, fun k hk => (h.2 k hk).symm⟩, fun h => ⟨h.1.symm, fun k hk => (h.2 k hk).symm⟩⟩
  · rw [relD_iff] at h1 h2 ⊢
    exact ⟨h1.1.trans h2.1, fun k hk => (h1.2 k hk).trans (h2.2 k hk)⟩
theorem alikeK_iff {g : GC} {kd : Nat → Nat} {a b : Nat} : ∀ c, alikeK g kd a b c = true ↔ kd a = kd b ∧ ∀ k, k < c → edgN g kd a k (gN g) = edgN g kd b k (gN g)
  | 0 => by
    unfold alikeK
    rw [decide_eq_true_iff]
    exact ⟨fun h => ⟨h, fun k hk => absurd hk (Nat.not_lt_zero _)⟩, fun h => h.1⟩
  | c + 1 => by
    unfold alikeK
    rw [Bool.and_eq_true, alikeK_iff c, decide_eq_true_iff]
    constructor
    · rintro ⟨⟨h0, h1⟩, h2⟩
      refine ⟨h0, fun k hk => ?_⟩
      by_cases e : k = c
      · rw [e]; exact h2
      · exact h1 k (by omega)
    · intro h
      exact ⟨⟨h.1, fun k hk => h.2 k (by omega)⟩, h.2 c (Nat.lt_succ_self c)⟩
theorem numL_c {rel rel2 : Nat → Nat → Bool} (h : ∀ a b, rel a b = rel2 a b) : ∀ a, numL rel a = numL rel2 a
  | 0 => rfl
  | a + 1 => by
    have e : rel = rel2 := by funext a b; exact h a b
    rw [e]
/-- what the likeness notes -/
def KdP (w : Mem) (g : GC) (kd : Nat → Nat) : Prop := ∀ m, m < gN g → rI w 50 m = nI (kd m) ∧ kd m < 12
def EdP (w : Mem) (g : GC) (ed : Nat → Nat → Nat) : Prop := ∀ m k, m < gN g → k < 12 → rI w 52 (m * 12 + k) = nI (ed m k) ∧ ed m k ≤ 12
def FrLk (w w2 : Mem) : Prop := (∀ a, a < 50 ∨ 52 < a → rI w2 a = rI w a) ∧ w2.2 = w.2
theorem FrLk.rf (w : Mem) : FrLk w w := ⟨fun _ _ => rfl, rfl⟩
theorem FrLk.tr {a b c : Mem} (h : FrLk a b) (h2 : FrLk b c) : FrLk a c := ⟨fun x hx => (h2.1 x hx).trans (h.1 x hx), h2.2.trans h.2⟩
theorem FrLk.I {w w2 : Mem} {o k : Nat} {x : Int32} (ho : 50 ≤ o ∧ o ≤ 52) (h : FrLk w w2) : FrLk w (sI w2 o k x) := ⟨fun a ha => by rw [rI_sI_ne _ _ _ (by omega)]; exact h.1 a ha, h.2⟩
theorem FrLk.A {w w2 : Mem} {o : Nat} {f : Nat → Int32} (ho : 50 ≤ o ∧ o ≤ 52) (h : FrLk w w2) : FrLk w (sA w2 o f) := ⟨fun a ha => by rw [rI_sA_ne _ _ (by omega)]; exact h.1 a ha, h.2⟩
theorem FrLk.Q {w w2 : Mem} (h : FrLk w w2) : DkQ w w2 := ⟨fun a ha => h.1 a (by omega), fun a _ => by unfold rJ; rw [h.2], KpR.of2 h.2⟩
theorem BRow.lk {w w2 : Mem} {g : GC} (h : BRow w 1 g) (f : FrLk w w2) : BRow w2 1 g := h.fr (fun a h1 h2 => f.1 a (by omega))
theorem c_Li_firstLike {E : EV} {w : Mem} {g : GC} {kd : Nat → Nat} {ed : Nat → Nat → Nat} {x : Nat} (hN : gN g ≤ 12) (hx : x < gN g) (hK : KdP w g kd) (hE : EdP w g ed) : T E m_Li_firstLike 0 0 0 [.ref 47, .int (nI x)] w (fun r w2 => ∃ m : Nat, r = some (.int (nI m)) ∧ w2 = w ∧ ((m < x ∧ relD kd ed x m = true ∧ ∀ j, j < m → ¬ relD kd ed x j = true) ∨ (m = x ∧ ∀ j, j < x → ¬ relD kd ed x j = true))) := by
  refine T_of (L := [.ref 47, .int (nI x), un, un, un]) cf_Li_firstLike rfl (Nat.le_of_ble_eq_true rfl) (fun X hX hF => ?_)
  have lp : ∀ (fuel : Nat) (m : Nat), x - m < fuel → (m ≤ x) → (∀ j, j < m → ¬ relD kd ed x j = true) → G0 E X 0 0 2 [.ref 47, .int (nI x), .int (nI m), un, un] [] w := by
    intro fuel
    induction fuel with
    | zero => intro m q0; exact absurd q0 (Nat.not_lt_zero _)
    | succ fuel ih =>
      intro m q0 q1 q2
      refine g_iload2 hX d_Li_firstLike_2 ?_
      refine g_iload1 hX d_Li_firstLike_3 ?_
      refine g_icmpN_ge hX d_Li_firstLike_4 (by omega) (by omega) (fun e4 => ?_) (fun e4 => ?_)
      · refine g_iload1 hX d_Li_firstLike_93 ?_
        refine g_iret hX hF d_Li_firstLike_94 (by omega) (by omega) ?_
        obtain rfl : m = x := by omega
        exact ⟨m, rfl, rfl, Or.inr ⟨rfl, q2⟩⟩
      · obtain ⟨k1, k2⟩ := hK m (by omega)
        obtain ⟨k3, k4⟩ := hK x hx
        refine g_aload0 hX d_Li_firstLike_7 ?_
        refine g_getF hX d_Li_firstLike_8 fl_Li_18 (lv_47 _) ?_
        refine g_iload2 hX d_Li_firstLike_11 ?_
        refine g_iald hX d_Li_firstLike_12 (lv_50 _) rfl (by omega) ?_
        refine g_topi k1 ?_
        refine g_aload0 hX d_Li_firstLike_13 ?_
        refine g_getF hX d_Li_firstLike_14 fl_Li_18 (lv_47 _) ?_
        refine g_iload1 hX d_Li_firstLike_17 ?_
        refine g_iald hX d_Li_firstLike_18 (lv_50 _) rfl (by omega) ?_
        refine g_topi k3 ?_
        refine g_icmpN_ne hX d_Li_firstLike_19 (by omega) (by omega) (fun e19 => ?_) (fun e19 => ?_)
        · refine g_iconst (v := nI 0) hX d_Li_firstLike_26 rfl ?_
          refine g_istore3 hX d_Li_firstLike_27 rfl (by decide) ?_
          refine g_iconst (v := nI 0) hX d_Li_firstLike_28 rfl ?_
          refine g_istore4 hX d_Li_firstLike_29 rfl (by decide) ?_
          have lpI : ∀ (fuel : Nat) (c : Nat), 12 - c < fuel → (c ≤ 12) → G0 E X 0 0 31 [.ref 47, .int (nI x), .int (nI m), .int (b2i (kd m = kd x ∧ ed12 ed m x c = true)), .int (nI c)] [] w := by
            intro fuel
            induction fuel with
            | zero => intro c q0; exact absurd q0 (Nat.not_lt_zero _)
            | succ fuel ihI =>
              intro c qi0 qi1
              refine g_iload4 hX d_Li_firstLike_31 ?_
              refine g_bipush (v := nI 12) hX d_Li_firstLike_33 rfl ?_
              refine g_icmpN_ge hX d_Li_firstLike_35 (by omega) (by omega) (fun e35 => ?_) (fun e35 => ?_)
              · have hrl : (kd m = kd x ∧ ed12 ed m x c = true) ↔ relD kd ed x m = true := by
                  rw [(relD_E kd ed).1 x m, relD_iff, ed12_iff]
                  rw [show c = 12 by omega]
                refine g_iload3 hX d_Li_firstLike_81 ?_
                refine g_ifB_eq hX d_Li_firstLike_82 (fun e82 => ?_) (fun e82 => ?_)
                · refine g_iincN2 hX d_Li_firstLike_87 rfl (by decide) ?_
                  refine g_goto hX d_Li_firstLike_90 ?_
                  refine g_fget 3 ?_
                  refine g_fget 4 ?_
                  exact ih (m + 1) (by omega) (by omega) (fun j hj => by
                    by_cases e : j = m
                    · rw [e]; exact mt hrl.mpr e82
                    · exact q2 j (by omega))
                · refine g_iload2 hX d_Li_firstLike_85 ?_
                  refine g_iret hX hF d_Li_firstLike_86 (by omega) (by omega) ?_
                  exact ⟨m, rfl, rfl, Or.inl ⟨by omega, hrl.mp e82, q2⟩⟩
              · refine g_iload3 hX d_Li_firstLike_38 ?_
                refine g_ifB_eq hX d_Li_firstLike_39 (fun e39 => ?_) (fun e39 => ?_)
                · have hrl : (kd m = kd x ∧ ed12 ed m x c = true) ↔ relD kd ed x m = true := by
                    rw [(relD_E kd ed).1 x m, relD_iff, ed12_iff]
                    exact ⟨fun z => absurd ⟨z.1, (ed12_iff c).mpr z.2⟩ e39, fun z => absurd ⟨z.1, (ed12_iff c).mpr (fun k hk => z.2 k (by omega))⟩ e39⟩
                  refine g_iload3 hX d_Li_firstLike_81 ?_
                  refine g_ifB_eq hX d_Li_firstLike_82 (fun e82 => ?_) (fun e82 => ?_)
                  · refine g_iincN2 hX d_Li_firstLike_87 rfl (by decide) ?_
                    refine g_goto hX d_Li_firstLike_90 ?_
                    refine g_fget 3 ?_
                    refine g_fget 4 ?_
                    exact ih (m + 1) (by omega) (by omega) (fun j hj => by
                      by_cases e : j = m
                      · rw [e]; exact mt hrl.mpr e82
                      · exact q2 j (by omega))
                  · refine g_iload2 hX d_Li_firstLike_85 ?_
                    refine g_iret hX hF d_Li_firstLike_86 (by omega) (by omega) ?_
                    exact ⟨m, rfl, rfl, Or.inl ⟨by omega, hrl.mp e82, q2⟩⟩
                · obtain ⟨d1, d2⟩ := hE m c (by omega) e35
                  obtain ⟨d3, d4⟩ := hE x c hx e35
                  refine g_aload0 hX d_Li_firstLike_42 ?_
                  refine g_getF hX d_Li_firstLike_43 fl_Li_24 (lv_47 _) ?_
                  refine g_iload2 hX d_Li_firstLike_46 ?_
                  refine g_bipush (v := nI 12) hX d_Li_firstLike_47 rfl ?_
                  refine g_imulN hX d_Li_firstLike_49 ?_
                  refine g_iload4 hX d_Li_firstLike_50 ?_
                  refine g_iaddN hX d_Li_firstLike_52 ?_
                  refine g_iald hX d_Li_firstLike_53 (lv_52 _) rfl (by omega) ?_
                  refine g_topi d1 ?_
                  refine g_aload0 hX d_Li_firstLike_54 ?_
                  refine g_getF hX d_Li_firstLike_55 fl_Li_24 (lv_47 _) ?_
                  refine g_iload1 hX d_Li_firstLike_58 ?_
                  refine g_bipush (v := nI 12) hX d_Li_firstLike_59 rfl ?_
                  refine g_imulN hX d_Li_firstLike_61 ?_
                  refine g_iload4 hX d_Li_firstLike_62 ?_
                  refine g_iaddN hX d_Li_firstLike_64 ?_
                  refine g_iald hX d_Li_firstLike_65 (lv_52 _) rfl (by omega) ?_
                  refine g_topi d3 ?_
                  refine g_icmpN_ne hX d_Li_firstLike_66 (by omega) (by omega) (fun e66 => ?_) (fun e66 => ?_)
                  · refine g_iconst (v := nI 0) hX d_Li_firstLike_73 rfl ?_
                    refine g_istore3 hX d_Li_firstLike_74 rfl (by decide) ?_
                    refine g_iincN4 hX d_Li_firstLike_75 rfl (by decide) ?_
                    refine g_goto hX d_Li_firstLike_78 ?_
                    rw [show nI 0 = b2i (kd m = kd x ∧ ed12 ed m x (c + 1) = true) by rw [b2i_f (fun z => by unfold ed12 at z; rw [Bool.and_eq_true, decide_eq_true_iff] at z; exact e66 z.2.2)]; rfl]
                    exact ihI (c + 1) (by omega) (by omega)
                  · refine g_iconst (v := nI 1) hX d_Li_firstLike_69 rfl ?_
                    refine g_goto hX d_Li_firstLike_70 ?_
                    refine g_istore3 hX d_Li_firstLike_74 rfl (by decide) ?_
                    refine g_iincN4 hX d_Li_firstLike_75 rfl (by decide) ?_
                    refine g_goto hX d_Li_firstLike_78 ?_
                    rw [show nI 1 = b2i (kd m = kd x ∧ ed12 ed m x (c + 1) = true) by rw [b2i_t ⟨e39.1, by unfold ed12; rw [e39.2, Bool.true_and]; exact decide_eq_true e66⟩]; rfl]
                    exact ihI (c + 1) (by omega) (by omega)
          first
          | (refine g_loc (show [Value.ref 47, Value.int (nI x), Value.int (nI m), Value.int (nI 1), Value.int (nI 0)] = [Value.ref 47, Value.int (nI x), Value.int (nI m), Value.int (b2i (kd m = kd x ∧ ed12 ed m x 0 = true)), Value.int (nI 0)] by rw [b2i_t ⟨e19, rfl⟩]; rfl) ?_
             exact lpI 13 0 (by omega) (Nat.zero_le _))
          | (refine g_loc (show [Value.ref 47, Value.int (nI x), Value.int (nI m), Value.int (nI 0), Value.int (nI 0)] = [Value.ref 47, Value.int (nI x), Value.int (nI m), Value.int (b2i (kd m = kd x ∧ ed12 ed m x 0 = true)), Value.int (nI 0)] by rw [b2i_f (fun z => e19 z.1)]; rfl) ?_
             exact lpI 13 0 (by omega) (Nat.zero_le _))
        · refine g_iconst (v := nI 1) hX d_Li_firstLike_22 rfl ?_
          refine g_goto hX d_Li_firstLike_23 ?_
          refine g_istore3 hX d_Li_firstLike_27 rfl (by decide) ?_
          refine g_iconst (v := nI 0) hX d_Li_firstLike_28 rfl ?_
          refine g_istore4 hX d_Li_firstLike_29 rfl (by decide) ?_
          have lpI : ∀ (fuel : Nat) (c : Nat), 12 - c < fuel → (c ≤ 12) → G0 E X 0 0 31 [.ref 47, .int (nI x), .int (nI m), .int (b2i (kd m = kd x ∧ ed12 ed m x c = true)), .int (nI c)] [] w := by
            intro fuel
            induction fuel with
            | zero => intro c q0; exact absurd q0 (Nat.not_lt_zero _)
            | succ fuel ihI =>
              intro c qi0 qi1
              refine g_iload4 hX d_Li_firstLike_31 ?_
              refine g_bipush (v := nI 12) hX d_Li_firstLike_33 rfl ?_
              refine g_icmpN_ge hX d_Li_firstLike_35 (by omega) (by omega) (fun e35 => ?_) (fun e35 => ?_)
              · have hrl : (kd m = kd x ∧ ed12 ed m x c = true) ↔ relD kd ed x m = true := by
                  rw [(relD_E kd ed).1 x m, relD_iff, ed12_iff]
                  rw [show c = 12 by omega]
                refine g_iload3 hX d_Li_firstLike_81 ?_
                refine g_ifB_eq hX d_Li_firstLike_82 (fun e82 => ?_) (fun e82 => ?_)
                · refine g_iincN2 hX d_Li_firstLike_87 rfl (by decide) ?_
                  refine g_goto hX d_Li_firstLike_90 ?_
                  refine g_fget 3 ?_
                  refine g_fget 4 ?_
                  exact ih (m + 1) (by omega) (by omega) (fun j hj => by
                    by_cases e : j = m
                    · rw [e]; exact mt hrl.mpr e82
                    · exact q2 j (by omega))
                · refine g_iload2 hX d_Li_firstLike_85 ?_
                  refine g_iret hX hF d_Li_firstLike_86 (by omega) (by omega) ?_
                  exact ⟨m, rfl, rfl, Or.inl ⟨by omega, hrl.mp e82, q2⟩⟩
              · refine g_iload3 hX d_Li_firstLike_38 ?_
                refine g_ifB_eq hX d_Li_firstLike_39 (fun e39 => ?_) (fun e39 => ?_)
                · have hrl : (kd m = kd x ∧ ed12 ed m x c = true) ↔ relD kd ed x m = true := by
                    rw [(relD_E kd ed).1 x m, relD_iff, ed12_iff]
                    exact ⟨fun z => absurd ⟨z.1, (ed12_iff c).mpr z.2⟩ e39, fun z => absurd ⟨z.1, (ed12_iff c).mpr (fun k hk => z.2 k (by omega))⟩ e39⟩
                  refine g_iload3 hX d_Li_firstLike_81 ?_
                  refine g_ifB_eq hX d_Li_firstLike_82 (fun e82 => ?_) (fun e82 => ?_)
                  · refine g_iincN2 hX d_Li_firstLike_87 rfl (by decide) ?_
                    refine g_goto hX d_Li_firstLike_90 ?_
                    refine g_fget 3 ?_
                    refine g_fget 4 ?_
                    exact ih (m + 1) (by omega) (by omega) (fun j hj => by
                      by_cases e : j = m
                      · rw [e]; exact mt hrl.mpr e82
                      · exact q2 j (by omega))
                  · refine g_iload2 hX d_Li_firstLike_85 ?_
                    refine g_iret hX hF d_Li_firstLike_86 (by omega) (by omega) ?_
                    exact ⟨m, rfl, rfl, Or.inl ⟨by omega, hrl.mp e82, q2⟩⟩
                · obtain ⟨d1, d2⟩ := hE m c (by omega) e35
                  obtain ⟨d3, d4⟩ := hE x c hx e35
                  refine g_aload0 hX d_Li_firstLike_42 ?_
                  refine g_getF hX d_Li_firstLike_43 fl_Li_24 (lv_47 _) ?_
                  refine g_iload2 hX d_Li_firstLike_46 ?_
                  refine g_bipush (v := nI 12) hX d_Li_firstLike_47 rfl ?_
                  refine g_imulN hX d_Li_firstLike_49 ?_
                  refine g_iload4 hX d_Li_firstLike_50 ?_
                  refine g_iaddN hX d_Li_firstLike_52 ?_
                  refine g_iald hX d_Li_firstLike_53 (lv_52 _) rfl (by omega) ?_
                  refine g_topi d1 ?_
                  refine g_aload0 hX d_Li_firstLike_54 ?_
                  refine g_getF hX d_Li_firstLike_55 fl_Li_24 (lv_47 _) ?_
                  refine g_iload1 hX d_Li_firstLike_58 ?_
                  refine g_bipush (v := nI 12) hX d_Li_firstLike_59 rfl ?_
                  refine g_imulN hX d_Li_firstLike_61 ?_
                  refine g_iload4 hX d_Li_firstLike_62 ?_
                  refine g_iaddN hX d_Li_firstLike_64 ?_
                  refine g_iald hX d_Li_firstLike_65 (lv_52 _) rfl (by omega) ?_
                  refine g_topi d3 ?_
                  refine g_icmpN_ne hX d_Li_firstLike_66 (by omega) (by omega) (fun e66 => ?_) (fun e66 => ?_)
                  · refine g_iconst (v := nI 0) hX d_Li_firstLike_73 rfl ?_
                    refine g_istore3 hX d_Li_firstLike_74 rfl (by decide) ?_
                    refine g_iincN4 hX d_Li_firstLike_75 rfl (by decide) ?_
                    refine g_goto hX d_Li_firstLike_78 ?_
                    rw [show nI 0 = b2i (kd m = kd x ∧ ed12 ed m x (c + 1) = true) by rw [b2i_f (fun z => by unfold ed12 at z; rw [Bool.and_eq_true, decide_eq_true_iff] at z; exact e66 z.2.2)]; rfl]
                    exact ihI (c + 1) (by omega) (by omega)
                  · refine g_iconst (v := nI 1) hX d_Li_firstLike_69 rfl ?_
                    refine g_goto hX d_Li_firstLike_70 ?_
                    refine g_istore3 hX d_Li_firstLike_74 rfl (by decide) ?_
                    refine g_iincN4 hX d_Li_firstLike_75 rfl (by decide) ?_
                    refine g_goto hX d_Li_firstLike_78 ?_
                    rw [show nI 1 = b2i (kd m = kd x ∧ ed12 ed m x (c + 1) = true) by rw [b2i_t ⟨e39.1, by unfold ed12; rw [e39.2, Bool.true_and]; exact decide_eq_true e66⟩]; rfl]
                    exact ihI (c + 1) (by omega) (by omega)
          first
          | (refine g_loc (show [Value.ref 47, Value.int (nI x), Value.int (nI m), Value.int (nI 1), Value.int (nI 0)] = [Value.ref 47, Value.int (nI x), Value.int (nI m), Value.int (b2i (kd m = kd x ∧ ed12 ed m x 0 = true)), Value.int (nI 0)] by rw [b2i_t ⟨e19, rfl⟩]; rfl) ?_
             exact lpI 13 0 (by omega) (Nat.zero_le _))
          | (refine g_loc (show [Value.ref 47, Value.int (nI x), Value.int (nI m), Value.int (nI 0), Value.int (nI 0)] = [Value.ref 47, Value.int (nI x), Value.int (nI m), Value.int (b2i (kd m = kd x ∧ ed12 ed m x 0 = true)), Value.int (nI 0)] by rw [b2i_f (fun z => e19 z.1)]; rfl) ?_
             exact lpI 13 0 (by omega) (Nat.zero_le _))
  refine g_iconst (v := nI 0) hX d_Li_firstLike_0 rfl ?_
  refine g_istore2 hX d_Li_firstLike_1 rfl (by decide) ?_
  exact lp (x + 1) 0 (by omega) (Nat.zero_le _) (fun j hj => absurd hj (Nat.not_lt_zero _))
def FrL5 (w w2 : Mem) : Prop := (∀ a, a ≠ 51 → rI w2 a = rI w a) ∧ w2.2 = w.2
theorem FrL5.I2 {w w2 : Mem} {k : Nat} {x : Int32} (h : FrL5 w w2) : FrL5 w (sI w2 51 k x) := ⟨fun a ha => by rw [rI_sI_ne _ _ _ ha]; exact h.1 a ha, h.2⟩
theorem c_Li_numberKinds {E : EV} {w : Mem} {g : GC} {kd : Nat → Nat} {ed : Nat → Nat → Nat} (hN : gN g ≤ 12) (hK : KdP w g kd) (hE : EdP w g ed) : T E m_Li_numberKinds 1 0 0 [.ref 47, .int (nI (gN g))] w (fun r w2 => r = some (.int (nI (numL (relD kd ed) (gN g)).2)) ∧ FrLk w w2 ∧ KdP w2 g (gA (numL (relD kd ed) (gN g)).1) ∧ EdP w2 g ed) := by
  refine T_of (L := [.ref 47, .int (nI (gN g)), un, un, un]) cf_Li_numberKinds rfl (Nat.le_of_ble_eq_true rfl) (fun X hX hF => ?_)
  have lp : ∀ (fuel : Nat) (x : Nat) (wk : Mem), gN g - x < fuel → (FrL5 w wk) → (x ≤ gN g) → (∀ j, j < x → rI wk 51 j = nI (gA (numL (relD kd ed) x).1 j)) → G0 E X 0 0 4 [.ref 47, .int (nI (gN g)), .int (nI (numL (relD kd ed) x).2), .int (nI x), un] [] wk := by
    intro fuel
    induction fuel with
    | zero => intro x wk q0; exact absurd q0 (Nat.not_lt_zero _)
    | succ fuel ih =>
      intro x wk q0 q1 q2 q3
      refine g_iload3 hX d_Li_numberKinds_4 ?_
      refine g_iload1 hX d_Li_numberKinds_5 ?_
      refine g_icmpN_ge hX d_Li_numberKinds_6 (by omega) (by omega) (fun e6 => ?_) (fun e6 => ?_)
      · refine g_aload0 hX d_Li_numberKinds_54 ?_
        refine g_getF hX d_Li_numberKinds_55 fl_Li_21 (lv_47 _) ?_
        refine g_iconst (v := nI 0) hX d_Li_numberKinds_58 rfl ?_
        refine g_aload0 hX d_Li_numberKinds_59 ?_
        refine g_getF hX d_Li_numberKinds_60 fl_Li_18 (lv_47 _) ?_
        refine g_iconst (v := nI 0) hX d_Li_numberKinds_63 rfl ?_
        refine g_iload1 hX d_Li_numberKinds_64 ?_
        refine g_acpI hX hF.1 d_Li_numberKinds_65 ml_Li_57 lk_acst lk_acna lk_acin (lv_51 _) (lv_50 _) (by omega) (by omega) (by decide) (by omega) (Nat.le_of_ble_eq_true rfl) ?_
        refine g_iload2 hX d_Li_numberKinds_68 ?_
        refine g_iret hX hF d_Li_numberKinds_69 (by omega) (by omega) ?_
        obtain rfl : x = gN g := by omega
        obtain ⟨l1, l2, l3⟩ := numL_ok (relD kd ed) (gN g)
        refine ⟨rfl, ⟨fun a ha => by rw [rI_sA_ne _ _ (by omega)]; exact q1.1 a (by omega), q1.2⟩, fun m hm => ?_, fun m k hm hk => by rw [rI_sA_ne _ _ (by decide), q1.1 52 (by decide)]; exact hE m k hm hk⟩
        rw [rI_sA, cpy_n hm]
        have := l3 _ (gA_mem (show m < (numL (relD kd ed) (gN g)).1.length by omega))
        exact ⟨q3 m hm, by omega⟩
      · obtain ⟨l1, l2, l3⟩ := numL_ok (relD kd ed) x
        refine g_aload0 hX d_Li_numberKinds_9 ?_
        refine g_iload3 hX d_Li_numberKinds_10 ?_
        refine g_callV (As := [_]) hX hF.1 d_Li_numberKinds_11 ml_Li_94 cf_Li_firstLike cv_Li_firstLike rfl rfl (c_Li_firstLike hN e6 (fun m hm => by rw [q1.1 50 (by decide)]; exact hK m hm) (fun m k hm hk => by rw [q1.1 52 (by decide)]; exact hE m k hm hk)) (rcv_obj hX (lv_47 _) rfl rfl) (by omega) (by omega) (by omega) (Nat.le_of_ble_eq_true rfl) ?_
        rintro _ wx ⟨m, rfl, hwx, hm⟩
        have hwx2 := hwx.symm
        subst hwx2
        have hmx : m ≤ x := by omega
        show G0 _ _ _ _ _ _ _ _
        refine g_istore4 hX d_Li_numberKinds_14 rfl (by decide) ?_
        refine g_iload4 hX d_Li_numberKinds_16 ?_
        refine g_iload3 hX d_Li_numberKinds_18 ?_
        refine g_icmpN_ne hX d_Li_numberKinds_19 (by omega) (by omega) (fun e19 => ?_) (fun e19 => ?_)
        · obtain ⟨hm1, hm2, -⟩ := hm.resolve_right (fun z => e19 z.1)
          have hls := last_some (l := (numL (relD kd ed) x).1) (a := x) x (num_like (relD_E kd ed) x) (relD_E kd ed).2 (relD_E kd ed).1 m hm1 hm2
          have hnx := num_some hls
          have hgm := l3 _ (gA_mem (show m < (numL (relD kd ed) x).1.length by omega))
          refine g_aload0 hX d_Li_numberKinds_35 ?_
          refine g_getF hX d_Li_numberKinds_36 fl_Li_21 (lv_47 _) ?_
          refine g_iload3 hX d_Li_numberKinds_39 ?_
          refine g_aload0 hX d_Li_numberKinds_40 ?_
          refine g_getF hX d_Li_numberKinds_41 fl_Li_21 (lv_47 _) ?_
          refine g_iload4 hX d_Li_numberKinds_44 ?_
          refine g_iald hX d_Li_numberKinds_46 (lv_51 _) rfl (by omega) ?_
          refine g_topi (q3 m hm1) ?_
          refine g_iast hX d_Li_numberKinds_47 (lv_51 _) rfl (by omega) ?_
          refine g_iincN3 hX d_Li_numberKinds_48 rfl (by decide) ?_
          refine g_goto hX d_Li_numberKinds_51 ?_
          refine g_fget 4 ?_
          rw [show (numL (relD kd ed) x).2 = (numL (relD kd ed) (x + 1)).2 by rw [hnx]]
          exact ih (x + 1) _ (by omega) (q1.I2) (by omega) (fun j hj => by
            rw [hnx]
            show _ = nI (gA ((numL (relD kd ed) x).1 ++ [_]) j)
            rw [rI_sI, upd_eq, gA_app, l1]
            by_cases e : j = x
            · rw [if_pos e, if_pos e]
            · rw [if_neg e, if_neg e]; exact q3 j (by omega))
        · have hm3 : ∀ j, j < x → ¬ relD kd ed x j = true := by
            rcases hm with z | z
            · omega
            · exact z.2
          have hnx := num_none (last_none (l := (numL (relD kd ed) x).1) x hm3)
          refine g_aload0 hX d_Li_numberKinds_22 ?_
          refine g_getF hX d_Li_numberKinds_23 fl_Li_21 (lv_47 _) ?_
          refine g_iload3 hX d_Li_numberKinds_26 ?_
          refine g_iload2 hX d_Li_numberKinds_27 ?_
          refine g_iast hX d_Li_numberKinds_28 (lv_51 _) rfl (by omega) ?_
          refine g_iincN2 hX d_Li_numberKinds_29 rfl (by decide) ?_
          refine g_goto hX d_Li_numberKinds_32 ?_
          refine g_iincN3 hX d_Li_numberKinds_48 rfl (by decide) ?_
          refine g_goto hX d_Li_numberKinds_51 ?_
          refine g_fget 4 ?_
          rw [show (numL (relD kd ed) x).2 + 1 = (numL (relD kd ed) (x + 1)).2 by rw [hnx]]
          exact ih (x + 1) _ (by omega) (q1.I2) (by omega) (fun j hj => by
            rw [hnx]
            show _ = nI (gA ((numL (relD kd ed) x).1 ++ [_]) j)
            rw [rI_sI, upd_eq, gA_app, l1]
            by_cases e : j = x
            · rw [if_pos e, if_pos e]
            · rw [if_neg e, if_neg e]; exact q3 j (by omega))
  refine g_iconst (v := nI 0) hX d_Li_numberKinds_0 rfl ?_
  refine g_istore2 hX d_Li_numberKinds_1 rfl (by decide) ?_
  refine g_iconst (v := nI 0) hX d_Li_numberKinds_2 rfl ?_
  refine g_istore3 hX d_Li_numberKinds_3 rfl (by decide) ?_
  exact lp (gN g + 1) 0 w (by omega) ⟨fun _ _ => rfl, rfl⟩ (Nat.zero_le _) (fun j hj => absurd hj (Nat.not_lt_zero _))
/-- what is counted of node a, as far as the first o -/
theorem edg_s {g : GC} {kd : Nat → Nat} {a c o : Nat} : edgN g kd a c (o + 1) = edgN g kd a c o + (if kd o = c then nearB (gE g) a >>> o &&& 1 else 0) := by
  show edgN g kd a c o + (if (nearB (gE g) a).testBit o = true ∧ kd o = c then 1 else 0) = _
  congr 1
  by_cases h1 : kd o = c
  · rw [if_pos h1]
    cases h2 : (nearB (gE g) a).testBit o with
    | true => rw [if_pos ⟨rfl, h1⟩]; exact ((tb1 _ _).mpr h2).symm
    | false => rw [if_neg (fun z => by cases z.1)]; exact ((tb0 _ _).mpr h2).symm
  · rw [if_neg h1, if_neg (fun z => h1 z.2)]
theorem c_Li_countEdges {E : EV} {w : Mem} {g : GC} {kd : Nat → Nat} (hR : BRow w 1 g) (hW : WG g) (hK : KdP w g kd) : T E m_Li_countEdges 1 0 0 [.ref 47, .ref 1] w (fun r w2 => r = none ∧ FrLk w w2 ∧ KdP w2 g kd ∧ EdP w2 g (fun a c => edgN g kd a c (gN g))) := by
  refine T_of (L := [.ref 47, .ref 1, un, un]) cf_Li_countEdges rfl (Nat.le_of_ble_eq_true rfl) (fun X hX hF => ?_)
  have hn := hW.n
  have lp : ∀ (fuel : Nat) (x : Nat) (wk : Mem), gN g - x < fuel → (FrLk w wk ∧ (∀ a, a ≠ 52 → rI wk a = rI w a)) → (x ≤ gN g) → (∀ z c, z < gN g → c < 12 → rI wk 52 (z * 12 + c) = nI (if z < x then edgN g kd z c (gN g) else 0)) → G0 E X 0 0 10 [.ref 47, .ref 1, .int (nI x), un] [] wk := by
    intro fuel
    induction fuel with
    | zero => intro x wk q0; exact absurd q0 (Nat.not_lt_zero _)
    | succ fuel ih =>
      intro x wk q0 q1 q2 q3
      refine g_iload2 hX d_Li_countEdges_10 ?_
      refine g_aload1 hX d_Li_countEdges_11 ?_
      refine g_getI hX d_Li_countEdges_12 fl_Li_80 (lv_1 _) ?_
      refine g_topi (hR.lk q1.1).n ?_
      refine g_icmpN_ge hX d_Li_countEdges_15 (by omega) (by omega) (fun e15 => ?_) (fun e15 => ?_)
      · refine g_vret hX hF d_Li_countEdges_69 (by omega) (by omega) ?_
        obtain rfl : x = gN g := by omega
        exact ⟨rfl, q1.1, fun m hm => by rw [q1.2 50 (by decide)]; exact hK m hm, fun m k hm hk => ⟨by rw [q3 m k hm hk, if_pos hm], Nat.le_trans (edgN_le _ _ _ _ _) hn⟩⟩
      · refine g_iconst (v := nI 0) hX d_Li_countEdges_18 rfl ?_
        refine g_istore3 hX d_Li_countEdges_19 rfl (by decide) ?_
        have lpI : ∀ (fuel : Nat) (y : Nat) (w3 : Mem), gN g - y < fuel → (FrLk w w3 ∧ (∀ a, a ≠ 52 → rI w3 a = rI w a)) → (y ≤ gN g) → (∀ c, c < 12 → rI w3 52 (x * 12 + c) = nI (edgN g kd x c y)) → (∀ z c, z < gN g → z ≠ x → c < 12 → rI w3 52 (z * 12 + c) = rI wk 52 (z * 12 + c)) → G0 E X 0 0 20 [.ref 47, .ref 1, .int (nI x), .int (nI y)] [] w3 := by
          intro fuel
          induction fuel with
          | zero => intro y w3 q0; exact absurd q0 (Nat.not_lt_zero _)
          | succ fuel ihI =>
            intro y w3 r0 r1 r2 r3 r4
            refine g_iload3 hX d_Li_countEdges_20 ?_
            refine g_aload1 hX d_Li_countEdges_21 ?_
            refine g_getI hX d_Li_countEdges_22 fl_Li_80 (lv_1 _) ?_
            refine g_topi (hR.lk r1.1).n ?_
            refine g_icmpN_ge hX d_Li_countEdges_25 (by omega) (by omega) (fun e25 => ?_) (fun e25 => ?_)
            · obtain rfl : y = gN g := by omega
              refine g_fget 3 ?_
              refine g_iincN2 hX d_Li_countEdges_63 rfl (by decide) ?_
              refine g_goto hX d_Li_countEdges_66 ?_
              exact ih (x + 1) w3 (by omega) r1 (by omega) (fun z c hz hc => by
                by_cases e : z = x
                · rw [e, if_pos (by omega)]; exact r3 c hc
                · rw [r4 z c hz e hc, q3 z c hz hc]
                  by_cases e2 : z < x
                  · rw [if_pos e2, if_pos (by omega)]
                  · rw [if_neg e2, if_neg (by omega)])
            · obtain ⟨k1, k2⟩ := hK y e25
              have hnb := near12 hW x
              have hel := edgN_le g kd x (kd y) y
              refine g_aload0 hX d_Li_countEdges_28 ?_
              refine g_getF hX d_Li_countEdges_29 fl_Li_24 (lv_47 _) ?_
              refine g_iload2 hX d_Li_countEdges_32 ?_
              refine g_bipush (v := nI 12) hX d_Li_countEdges_33 rfl ?_
              refine g_imulN hX d_Li_countEdges_35 ?_
              refine g_aload0 hX d_Li_countEdges_36 ?_
              refine g_getF hX d_Li_countEdges_37 fl_Li_18 (lv_47 _) ?_
              refine g_iload3 hX d_Li_countEdges_40 ?_
              refine g_iald hX d_Li_countEdges_41 (lv_50 _) rfl (by omega) ?_
              refine g_topi (show rI w3 50 y = nI (kd y) by rw [r1.2 50 (by decide)]; exact k1) ?_
              refine g_iaddN hX d_Li_countEdges_42 ?_
              refine g_dup2 hX d_Li_countEdges_43 rfl rfl ?_
              refine g_iald hX d_Li_countEdges_44 (lv_52 _) rfl (by omega) ?_
              refine g_topi (show rI w3 52 (x * 12 + kd y) = nI (edgN g kd x (kd y) y) from r3 (kd y) k2) ?_
              refine g_aload1 hX d_Li_countEdges_45 ?_
              refine g_getF hX d_Li_countEdges_46 fl_Li_91 (lv_1 _) ?_
              refine g_iload2 hX d_Li_countEdges_49 ?_
              refine g_iald hX d_Li_countEdges_50 (lv_3 _) rfl (by omega) ?_
              refine g_topi ((hR.lk r1.1).nr x e15) ?_
              refine g_iload3 hX d_Li_countEdges_51 ?_
              refine g_ishrN hX d_Li_countEdges_52 (by omega) (by omega) ?_
              refine g_iconst (v := nI 1) hX d_Li_countEdges_53 rfl ?_
              refine g_iandC hX d_Li_countEdges_54 (fun hm1 => ?_)
              refine g_iaddN hX d_Li_countEdges_55 ?_
              refine g_iast hX d_Li_countEdges_56 (lv_52 _) rfl (by omega) ?_
              refine g_iincN3 hX d_Li_countEdges_57 rfl (by decide) ?_
              refine g_goto hX d_Li_countEdges_60 ?_
              refine ihI (y + 1) _ (by omega) ⟨r1.1.I (by decide), fun a ha => by rw [rI_sI_ne _ _ _ ha]; exact r1.2 a ha⟩ (by omega) (fun c hc => ?_) (fun z c hz hzx hc => ?_)
              · rw [rI_sI, upd_eq, edg_s]
                by_cases e : kd y = c
                · subst e
                  rw [if_pos rfl, if_pos rfl]
                · rw [if_neg (by omega), if_neg e]; exact r3 c hc
              · rw [rI_sI, upd_eq, if_neg (by omega)]; exact r4 z c hz hzx hc
        exact lpI (gN g + 1) 0 wk (by omega) q1 (Nat.zero_le _) (fun c hc => by rw [q3 x c e15 hc, if_neg (by omega)]; rfl) (fun _ _ _ _ _ => rfl)
  refine g_aload0 hX d_Li_countEdges_0 ?_
  refine g_getF hX d_Li_countEdges_1 fl_Li_24 (lv_47 _) ?_
  refine g_iconst (v := nI 0) hX d_Li_countEdges_4 rfl ?_
  refine g_callS (As := [_, _]) hX hF.1 d_Li_countEdges_5 ml_Li_71 cf_JArrays_fill_IIV cs_JArrays_fill_IIV rfl (c_JArrays_fillI (m := 144) (x := nI 0) (lv_52 _)) (by omega) (by omega) (by omega) (Nat.le_of_ble_eq_true rfl) ?_
  refine ret_k ?_
  refine g_iconst (v := nI 0) hX d_Li_countEdges_8 rfl ?_
  refine g_istore2 hX d_Li_countEdges_9 rfl (by decide) ?_
  exact lp (gN g + 1) 0 _ (by omega) ⟨(FrLk.rf w).A (by decide), fun a ha => rI_sA_ne _ _ ha⟩ (Nat.zero_le _) (fun z c hz hc => by rw [rI_sA, if_neg (by omega)]; unfold fil; rw [if_pos (by omega)])
theorem kind_0 (g : GC) {N : Nat} : numL (relD (gC g) (fun _ _ => 0)) N = numL (relK g 0) N := numL_c (fun a b => by
  rw [Bool.eq_iff_iff, relD_iff]
  show _ ↔ decide (gC g a = gC g b) = true
  rw [decide_eq_true_iff]
  exact ⟨fun h => h.1, fun h => ⟨h, fun _ _ => rfl⟩⟩) N
theorem kind_s (g : GC) (kd : Nat → Nat) {N : Nat} : numL (relD kd (fun a c => edgN g kd a c (gN g))) N = numL (fun a b => alikeK g kd a b 12) N := numL_c (fun a b => by rw [Bool.eq_iff_iff, relD_iff, alikeK_iff]) N
theorem c_Li_tellKinds {E : EV} {w : Mem} {g : GC} {y : Nat} (hR : BRow w 1 g) (hW : WG g) (hy : y < 13) : T E m_Li_tellKinds 2 0 0 [.ref 47, .ref 1, .int (nI y)] w (fun r w2 => r = some (.int (nI (kindG g y).2)) ∧ FrLk w w2 ∧ KdP w2 g (gA (kindG g y).1)) := by
  refine T_of (L := [.ref 47, .ref 1, .int (nI y), un, un]) cf_Li_tellKinds rfl (Nat.le_of_ble_eq_true rfl) (fun X hX hF => ?_)
  have hn := hW.n
  have lp : ∀ (fuel : Nat) (k : Nat) (wk : Mem), y - k < fuel → (FrLk w wk) → (k ≤ y) → (KdP wk g (gA (kindG g k).1)) → G0 E X 0 0 45 [.ref 47, .ref 1, .int (nI y), .int (nI (kindG g k).2), .int (nI k)] [] wk := by
    intro fuel
    induction fuel with
    | zero => intro k wk q0; exact absurd q0 (Nat.not_lt_zero _)
    | succ fuel ih =>
      intro k wk q0 q1 q2 q3
      refine g_iload4 hX d_Li_tellKinds_45 ?_
      refine g_iload2 hX d_Li_tellKinds_47 ?_
      refine g_icmpN_ge hX d_Li_tellKinds_48 (by omega) (by omega) (fun e48 => ?_) (fun e48 => ?_)
      · refine g_iload3 hX d_Li_tellKinds_71 ?_
        refine g_iret hX hF d_Li_tellKinds_72 (by omega) (by omega) ?_
        obtain rfl : k = y := by omega
        exact ⟨rfl, q1, q3⟩
      · refine g_aload0 hX d_Li_tellKinds_51 ?_
        refine g_aload1 hX d_Li_tellKinds_52 ?_
        refine g_callV (As := [_]) hX hF.1 d_Li_tellKinds_53 ml_Li_87 cf_Li_countEdges cv_Li_countEdges rfl rfl (c_Li_countEdges (hR.lk q1) hW q3) (rcv_obj hX (lv_47 _) rfl rfl) (by omega) (by omega) (by omega) (Nat.le_of_ble_eq_true rfl) ?_
        rintro _ w3 ⟨rfl, hf3, hK3, hE3⟩
        show G0 _ _ _ _ _ _ _ _
        refine g_aload0 hX d_Li_tellKinds_56 ?_
        refine g_aload1 hX d_Li_tellKinds_57 ?_
        refine g_getI hX d_Li_tellKinds_58 fl_Li_80 (lv_1 _) ?_
        refine g_topi (hR.lk (q1.tr hf3)).n ?_
        refine g_callV (As := [_]) hX hF.1 d_Li_tellKinds_61 ml_Li_83 cf_Li_numberKinds cv_Li_numberKinds rfl rfl (c_Li_numberKinds hn hK3 hE3) (rcv_obj hX (lv_47 _) rfl rfl) (by omega) (by omega) (by omega) (Nat.le_of_ble_eq_true rfl) ?_
        rintro _ w4 ⟨rfl, hf4, hK4, -⟩
        rw [kind_s] at hK4 ⊢
        replace hK4 : KdP w4 g (gA (kindG g (k + 1)).1) := hK4
        show G0 _ _ _ _ _ _ _ _
        refine g_istore3 hX d_Li_tellKinds_64 rfl (by decide) ?_
        refine g_iincN4 hX d_Li_tellKinds_65 rfl (by decide) ?_
        refine g_goto hX d_Li_tellKinds_68 ?_
        exact ih (k + 1) w4 (by omega) ((q1.tr hf3).tr hf4) (by omega) hK4
  refine g_aload0 hX d_Li_tellKinds_0 ?_
  refine g_getF hX d_Li_tellKinds_1 fl_Li_18 (lv_47 _) ?_
  refine g_iconst (v := nI 0) hX d_Li_tellKinds_4 rfl ?_
  refine g_callS (As := [_, _]) hX hF.1 d_Li_tellKinds_5 ml_Li_71 cf_JArrays_fill_IIV cs_JArrays_fill_IIV rfl (c_JArrays_fillI (m := 12) (x := nI 0) (lv_50 _)) (by omega) (by omega) (by omega) (Nat.le_of_ble_eq_true rfl) ?_
  refine ret_k ?_
  refine g_aload1 hX d_Li_tellKinds_8 ?_
  refine g_getF hX d_Li_tellKinds_9 fl_Li_77 (lv_1 _) ?_
  refine g_iconst (v := nI 0) hX d_Li_tellKinds_12 rfl ?_
  refine g_aload0 hX d_Li_tellKinds_13 ?_
  refine g_getF hX d_Li_tellKinds_14 fl_Li_18 (lv_47 _) ?_
  refine g_iconst (v := nI 0) hX d_Li_tellKinds_17 rfl ?_
  refine g_aload1 hX d_Li_tellKinds_18 ?_
  refine g_getI hX d_Li_tellKinds_19 fl_Li_80 (lv_1 _) ?_
  refine g_topi (show rI (sA w 50 (fil (rI w 50) 0 (nI 0) 12)) 1 0 = nI (gN g) by rw [rI_sA_ne _ _ (by decide)]; exact hR.n) ?_
  refine g_acpI hX hF.1 d_Li_tellKinds_22 ml_Li_57 lk_acst lk_acna lk_acin (lv_2 _) (lv_50 _) (by omega) (by omega) (by decide) (by omega) (Nat.le_of_ble_eq_true rfl) ?_
  refine g_aload0 hX d_Li_tellKinds_25 ?_
  refine g_getF hX d_Li_tellKinds_26 fl_Li_24 (lv_47 _) ?_
  refine g_iconst (v := nI 0) hX d_Li_tellKinds_29 rfl ?_
  refine g_callS (As := [_, _]) hX hF.1 d_Li_tellKinds_30 ml_Li_71 cf_JArrays_fill_IIV cs_JArrays_fill_IIV rfl (c_JArrays_fillI (m := 144) (x := nI 0) (lv_52 _)) (by omega) (by omega) (by omega) (Nat.le_of_ble_eq_true rfl) ?_
  refine ret_k ?_
  obtain ⟨w1, hw1⟩ : ∃ z, sA (sA (sA w 50 (fil (rI w 50) 0 (nI 0) 12)) 50 (va_cpy (rI (sA w 50 (fil (rI w 50) 0 (nI 0) 12)) 2) (rI (sA w 50 (fil (rI w 50) 0 (nI 0) 12)) 50) 0 0 (gN g))) 52 (fil (rI (sA (sA w 50 (fil (rI w 50) 0 (nI 0) 12)) 50 (va_cpy (rI (sA w 50 (fil (rI w 50) 0 (nI 0) 12)) 2) (rI (sA w 50 (fil (rI w 50) 0 (nI 0) 12)) 50) 0 0 (gN g))) 52) 0 (nI 0) 144) = z := ⟨_, rfl⟩
  have hf1 : FrLk w w1 := by rw [← hw1]; exact (((FrLk.rf w).A (by decide)).A (by decide)).A (by decide)
  have hK1 : KdP w1 g (gC g) := fun m hm => by
    have := hW.c m hm
    rw [← hw1, rI_sA_ne _ _ (by decide), rI_sA, cpy_n hm, rI_sA_ne _ _ (by decide)]
    exact ⟨hR.c m hm, by omega⟩
  have hE1 : EdP w1 g (fun _ _ => 0) := fun m k hm hk => by
    rw [← hw1, rI_sA]
    unfold fil
    rw [if_pos (by omega)]
    exact ⟨rfl, Nat.zero_le _⟩
  refine g_mem hw1 ?_
  refine g_aload0 hX d_Li_tellKinds_33 ?_
  refine g_aload1 hX d_Li_tellKinds_34 ?_
  refine g_getI hX d_Li_tellKinds_35 fl_Li_80 (lv_1 _) ?_
  refine g_topi (hR.lk hf1).n ?_
  refine g_callV (As := [_]) hX hF.1 d_Li_tellKinds_38 ml_Li_83 cf_Li_numberKinds cv_Li_numberKinds rfl rfl (c_Li_numberKinds hn hK1 hE1) (rcv_obj hX (lv_47 _) rfl rfl) (by omega) (by omega) (by omega) (Nat.le_of_ble_eq_true rfl) ?_
  rintro _ w2 ⟨rfl, hf2, hK2, -⟩
  rw [kind_0] at hK2 ⊢
  replace hK2 : KdP w2 g (gA (kindG g 0).1) := by rw [kindG_r]; exact hK2
  show G0 _ _ _ _ _ _ _ _
  refine g_istore3 hX d_Li_tellKinds_41 rfl (by decide) ?_
  refine g_iconst (v := nI 0) hX d_Li_tellKinds_42 rfl ?_
  refine g_istore4 hX d_Li_tellKinds_43 rfl (by decide) ?_
  refine g_loc (show [Value.ref 47, Value.ref 1, Value.int (nI y), Value.int (nI (numL (relK g 0) (gN g)).2), Value.int (nI 0)] = [Value.ref 47, Value.ref 1, Value.int (nI y), Value.int (nI (kindG g 0).2), Value.int (nI 0)] by rw [kindG_r]) ?_
  exact lp (y + 1) 0 w2 (by omega) (hf1.tr hf2) (Nat.zero_le _) hK2
theorem c_D_kind {E : EV} {w : Mem} {x y : Int32} {s : SG} (h : DInv w s) : T E m_D_kind 3 0 0 [.ref 0, .int x, .int y] w (fun r w2 => r = some (.int (opKind x y (sG s))) ∧ DInv w2 s ∧ DkD w w2) := by
  refine T_of (L := [.ref 0, .int x, .int y, un]) cf_D_kind rfl (Nat.le_of_ble_eq_true rfl) (fun X hX hF => ?_)
  obtain ⟨⟨hR, hW, hA⟩, hL, hT, hI, hRF, ⟨hsm, hfa, hsp⟩, hdr, hfx⟩ := id h
  have hn := hW.n
  have hv := hW.v
  have he := hW.el
  have hll := hW.ll
  have hsl := hW.sl
  refine g_iload2 hX d_D_kind_0 ?_
  refine g_if_lt hX d_D_kind_1 (fun e1 => ?_) (fun e1 => ?_)
  · refine g_iconst (v := -1) hX d_D_kind_26 rfl ?_
    refine g_iret hX hF d_D_kind_27 (by omega) (by omega) ?_
    rw [kind_no (by
      first
      | exact Or.inr (fun z => absurd e1 ((in6 (by decide)).mp z).1)
      | exact Or.inr (fun z => absurd (le_61 (m := 12) z.2 (by decide)) (Int32.not_le.mpr e7))
      | exact Or.inl ⟨e12, e23⟩)]
    exact ⟨rfl, h, DkD.rf w⟩
  · refine g_iload2 hX d_D_kind_4 ?_
    refine g_bipush (v := nI 12) hX d_D_kind_5 rfl ?_
    refine g_icmp_gt hX d_D_kind_7 (fun e7 => ?_) (fun e7 => ?_)
    · refine g_iconst (v := -1) hX d_D_kind_26 rfl ?_
      refine g_iret hX hF d_D_kind_27 (by omega) (by omega) ?_
      rw [kind_no (by
        first
        | exact Or.inr (fun z => absurd e1 ((in6 (by decide)).mp z).1)
        | exact Or.inr (fun z => absurd (le_61 (m := 12) z.2 (by decide)) (Int32.not_le.mpr e7))
        | exact Or.inl ⟨e12, e23⟩)]
      exact ⟨rfl, h, DkD.rf w⟩
    · obtain ⟨y, hy, rfl, -⟩ := inN_of ((in6 (by decide)).mpr ⟨e1, lt_of1 (by decide) (Int32.not_lt.mp e7) (Nat.le_refl _)⟩ : inN y 13) (by decide)
      refine g_iload1 hX d_D_kind_10 ?_
      refine g_iconst (v := -1) hX d_D_kind_11 rfl ?_
      refine g_icmp_eq hX d_D_kind_12 (fun e12 => ?_) (fun e12 => ?_)
      · have e11 := e12
        refine g_aload0 hX d_D_kind_28 ?_
        refine g_getF hX d_D_kind_29 fl_D_68 (lv_0 _) ?_
        refine g_aload0 hX d_D_kind_32 ?_
        refine g_getF hX d_D_kind_33 fl_D_10 (lv_0 _) ?_
        refine g_iload2 hX d_D_kind_36 ?_
        refine g_callV (As := [_, _]) hX hF.1 d_D_kind_37 ml_D_335 cf_Li_tellKinds cv_Li_tellKinds rfl rfl (c_Li_tellKinds hR hW hy) (rcv_obj hX (lv_47 _) rfl rfl) (by omega) (by omega) (by omega) (Nat.le_of_ble_eq_true rfl) ?_
        rintro _ w2 ⟨rfl, hf2, hK2⟩
        show G0 _ _ _ _ _ _ _ _
        refine g_istore3 hX d_D_kind_40 rfl (by decide) ?_
        refine g_iload1 hX d_D_kind_41 ?_
        refine g_iconst (v := -1) hX d_D_kind_42 rfl ?_
        refine g_icmp_ne hX d_D_kind_43 (fun h => absurd e11 h) (fun c0 => ?_)
        refine g_iload3 hX d_D_kind_46 ?_
        refine g_goto hX d_D_kind_47 ?_
        refine g_iret hX hF d_D_kind_59 (by omega) (by omega) ?_
        rw [e11, kind_a hy]
        exact ⟨rfl, h.q hf2.Q, hf2.Q.D⟩
      · refine g_aload0 hX d_D_kind_15 ?_
        refine g_getF hX d_D_kind_16 fl_D_10 (lv_0 _) ?_
        refine g_iload1 hX d_D_kind_19 ?_
        refine g_callV (As := [_]) hX hF.1 d_D_kind_20 ml_D_113 cf_Bo_hasNode cv_Bo_hasNode rfl rfl (c_Bo_hasNode isBo1 hR hW) (rcv_obj hX (lv_1 _) rfl rfl) (by omega) (by omega) (by omega) (Nat.le_of_ble_eq_true rfl) ?_
        refine ret_k ?_
        refine g_ifB_ne hX d_D_kind_23 (fun e23 => ?_) (fun e23 => ?_)
        · have e11 := e12
          obtain ⟨x, hx, rfl, -⟩ := inN_of e23 (by omega)
          refine g_aload0 hX d_D_kind_28 ?_
          refine g_getF hX d_D_kind_29 fl_D_68 (lv_0 _) ?_
          refine g_aload0 hX d_D_kind_32 ?_
          refine g_getF hX d_D_kind_33 fl_D_10 (lv_0 _) ?_
          refine g_iload2 hX d_D_kind_36 ?_
          refine g_callV (As := [_, _]) hX hF.1 d_D_kind_37 ml_D_335 cf_Li_tellKinds cv_Li_tellKinds rfl rfl (c_Li_tellKinds hR hW hy) (rcv_obj hX (lv_47 _) rfl rfl) (by omega) (by omega) (by omega) (Nat.le_of_ble_eq_true rfl) ?_
          rintro _ w2 ⟨rfl, hf2, hK2⟩
          show G0 _ _ _ _ _ _ _ _
          refine g_istore3 hX d_D_kind_40 rfl (by decide) ?_
          refine g_iload1 hX d_D_kind_41 ?_
          refine g_iconst (v := -1) hX d_D_kind_42 rfl ?_
          refine g_icmp_ne hX d_D_kind_43 (fun c0 => ?_) (fun h => absurd h e11)
          refine g_aload0 hX d_D_kind_50 ?_
          refine g_getF hX d_D_kind_51 fl_D_68 (lv_0 _) ?_
          refine g_getF hX d_D_kind_54 fl_D_338 (lv_47 _) ?_
          refine g_iload1 hX d_D_kind_57 ?_
          refine g_iald hX d_D_kind_58 (lv_50 _) rfl (by omega) ?_
          refine g_topi (hK2 x hx).1 ?_
          refine g_iret hX hF d_D_kind_59 (by omega) (by omega) ?_
          rw [kind_b hy hx hn]
          exact ⟨rfl, h.q hf2.Q, hf2.Q.D⟩
        · refine g_iconst (v := -1) hX d_D_kind_26 rfl ?_
          refine g_iret hX hF d_D_kind_27 (by omega) (by omega) ?_
          rw [kind_no (by
            first
            | exact Or.inr (fun z => absurd e1 ((in6 (by decide)).mp z).1)
            | exact Or.inr (fun z => absurd (le_61 (m := 12) z.2 (by decide)) (Int32.not_le.mpr e7))
            | exact Or.inl ⟨e12, e23⟩)]
          exact ⟨rfl, h, DkD.rf w⟩
