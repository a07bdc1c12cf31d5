def m_Ac_dyeVertex : MR := (⟨"SubgraphDesk$Acts", "dyeVertex", "(LSubgraphDesk$Board;II)I"⟩, prog_2_method_9_code, 5, (some .int))
theorem cf_Ac_dyeVertex : CF m_Ac_dyeVertex 3 := ⟨gd 1108 (by decide +kernel) rfl, gd 141 (by decide +kernel) rfl, by decide +kernel, by decide, by decide +kernel⟩
theorem cv_Ac_dyeVertex : CV m_Ac_dyeVertex := ⟨gd 1106 (by decide +kernel) rfl, gd 1107 (by decide +kernel) rfl⟩
def m_Ac_joinNodes : MR := (⟨"SubgraphDesk$Acts", "joinNodes", "(LSubgraphDesk$Board;II)I"⟩, prog_2_method_6_code, 5, (some .int))
theorem cf_Ac_joinNodes : CF m_Ac_joinNodes 3 := ⟨gd 1081 (by decide +kernel) rfl, gd 141 (by decide +kernel) rfl, by decide +kernel, by decide, by decide +kernel⟩
theorem cv_Ac_joinNodes : CV m_Ac_joinNodes := ⟨gd 1079 (by decide +kernel) rfl, gd 1080 (by decide +kernel) rfl⟩
def m_Ac_paintNode : MR := (⟨"SubgraphDesk$Acts", "paintNode", "(LSubgraphDesk$Board;II)I"⟩, prog_2_method_8_code, 5, (some .int))
theorem cf_Ac_paintNode : CF m_Ac_paintNode 3 := ⟨gd 1104 (by decide +kernel) rfl, gd 141 (by decide +kernel) rfl, by decide +kernel, by decide, by decide +kernel⟩
theorem cv_Ac_paintNode : CV m_Ac_paintNode := ⟨gd 1102 (by decide +kernel) rfl, gd 1103 (by decide +kernel) rfl⟩
def m_Ac_tieVertices : MR := (⟨"SubgraphDesk$Acts", "tieVertices", "(LSubgraphDesk$Board;II)I"⟩, prog_2_method_7_code, 4, (some .int))
theorem cf_Ac_tieVertices : CF m_Ac_tieVertices 3 := ⟨gd 1095 (by decide +kernel) rfl, gd 141 (by decide +kernel) rfl, by decide +kernel, by decide, by decide +kernel⟩
theorem cv_Ac_tieVertices : CV m_Ac_tieVertices := ⟨gd 1093 (by decide +kernel) rfl, gd 1094 (by decide +kernel) rfl⟩
theorem d_Ac_dyeVertex_0 : Dc prog_2_method_9_code 0 (.iload_n 3) 1 1 := ⟨by decide +kernel, rfl⟩
theorem d_Ac_dyeVertex_1 : Dj prog_2_method_9_code 1 (.ifCond .lt 9) 4 9 10 := ⟨by decide +kernel, rfl, rfl⟩
theorem d_Ac_dyeVertex_4 : Dc prog_2_method_9_code 4 (.iload_n 3) 1 5 := ⟨by decide +kernel, rfl⟩
theorem d_Ac_dyeVertex_5 : Dc prog_2_method_9_code 5 (.bipush 6) 2 7 := ⟨by decide +kernel, rfl⟩
theorem d_Ac_dyeVertex_7 : Dj prog_2_method_9_code 7 (.if_icmp .le 5) 10 5 12 := ⟨by decide +kernel, rfl, rfl⟩
theorem d_Ac_dyeVertex_10 : Dc prog_2_method_9_code 10 (.iconst (-1)) 1 11 := ⟨by decide +kernel, rfl⟩
theorem d_Ac_dyeVertex_11 : Dc prog_2_method_9_code 11 (.ireturn) 1 12 := ⟨by decide +kernel, rfl⟩
theorem d_Ac_dyeVertex_12 : Dc prog_2_method_9_code 12 (.aload_n 1) 1 13 := ⟨by decide +kernel, rfl⟩
theorem d_Ac_dyeVertex_13 : Dc prog_2_method_9_code 13 (.iload_n 2) 1 14 := ⟨by decide +kernel, rfl⟩
theorem d_Ac_dyeVertex_14 : Dc prog_2_method_9_code 14 (.invokevirtual 51) 3 17 := ⟨by decide +kernel, rfl⟩
theorem d_Ac_dyeVertex_17 : Dj prog_2_method_9_code 17 (.ifCond .ne 6) 20 6 23 := ⟨by decide +kernel, rfl, rfl⟩
theorem d_Ac_dyeVertex_20 : Dc prog_2_method_9_code 20 (.bipush (-2)) 2 22 := ⟨by decide +kernel, rfl⟩
theorem d_Ac_dyeVertex_22 : Dc prog_2_method_9_code 22 (.ireturn) 1 23 := ⟨by decide +kernel, rfl⟩
theorem d_Ac_dyeVertex_23 : Dc prog_2_method_9_code 23 (.aload_n 1) 1 24 := ⟨by decide +kernel, rfl⟩
theorem d_Ac_dyeVertex_24 : Dc prog_2_method_9_code 24 (.getfield 64) 3 27 := ⟨by decide +kernel, rfl⟩
theorem d_Ac_dyeVertex_27 : Dc prog_2_method_9_code 27 (.iload_n 2) 1 28 := ⟨by decide +kernel, rfl⟩
theorem d_Ac_dyeVertex_28 : Dc prog_2_method_9_code 28 (.iaload) 1 29 := ⟨by decide +kernel, rfl⟩
theorem d_Ac_dyeVertex_29 : Dc prog_2_method_9_code 29 (.istore 4) 2 31 := ⟨by decide +kernel, rfl⟩
theorem d_Ac_dyeVertex_31 : Dc prog_2_method_9_code 31 (.iload 4) 2 33 := ⟨by decide +kernel, rfl⟩
theorem d_Ac_dyeVertex_33 : Dc prog_2_method_9_code 33 (.iload_n 3) 1 34 := ⟨by decide +kernel, rfl⟩
theorem d_Ac_dyeVertex_34 : Dj prog_2_method_9_code 34 (.if_icmp .ne 6) 37 6 40 := ⟨by decide +kernel, rfl, rfl⟩
theorem d_Ac_dyeVertex_37 : Dc prog_2_method_9_code 37 (.bipush (-3)) 2 39 := ⟨by decide +kernel, rfl⟩
theorem d_Ac_dyeVertex_39 : Dc prog_2_method_9_code 39 (.ireturn) 1 40 := ⟨by decide +kernel, rfl⟩
theorem d_Ac_dyeVertex_40 : Dc prog_2_method_9_code 40 (.aload_n 1) 1 41 := ⟨by decide +kernel, rfl⟩
theorem d_Ac_dyeVertex_41 : Dc prog_2_method_9_code 41 (.getfield 64) 3 44 := ⟨by decide +kernel, rfl⟩
theorem d_Ac_dyeVertex_44 : Dc prog_2_method_9_code 44 (.iload_n 2) 1 45 := ⟨by decide +kernel, rfl⟩
theorem d_Ac_dyeVertex_45 : Dc prog_2_method_9_code 45 (.iload_n 3) 1 46 := ⟨by decide +kernel, rfl⟩
theorem d_Ac_dyeVertex_46 : Dc prog_2_method_9_code 46 (.iastore) 1 47 := ⟨by decide +kernel, rfl⟩
theorem d_Ac_dyeVertex_47 : Dc prog_2_method_9_code 47 (.aload_n 0) 1 48 := ⟨by decide +kernel, rfl⟩
theorem d_Ac_dyeVertex_48 : Dc prog_2_method_9_code 48 (.iconst 3) 1 49 := ⟨by decide +kernel, rfl⟩
theorem d_Ac_dyeVertex_49 : Dc prog_2_method_9_code 49 (.iload_n 2) 1 50 := ⟨by decide +kernel, rfl⟩
theorem d_Ac_dyeVertex_50 : Dc prog_2_method_9_code 50 (.iconst (-1)) 1 51 := ⟨by decide +kernel, rfl⟩
theorem d_Ac_dyeVertex_51 : Dc prog_2_method_9_code 51 (.iload 4) 2 53 := ⟨by decide +kernel, rfl⟩
theorem d_Ac_dyeVertex_53 : Dc prog_2_method_9_code 53 (.invokevirtual 47) 3 56 := ⟨by decide +kernel, rfl⟩
theorem d_Ac_dyeVertex_56 : Dc prog_2_method_9_code 56 (.iload 4) 2 58 := ⟨by decide +kernel, rfl⟩
theorem d_Ac_dyeVertex_58 : Dc prog_2_method_9_code 58 (.ireturn) 1 59 := ⟨by decide +kernel, rfl⟩
theorem d_Ac_joinNodes_0 : Dc prog_2_method_6_code 0 (.iload_n 2) 1 1 := ⟨by decide +kernel, rfl⟩
theorem d_Ac_joinNodes_1 : Dc prog_2_method_6_code 1 (.iload_n 3) 1 2 := ⟨by decide +kernel, rfl⟩
theorem d_Ac_joinNodes_2 : Dj prog_2_method_6_code 2 (.if_icmp .ne 5) 5 5 7 := ⟨by decide +kernel, rfl, rfl⟩
theorem d_Ac_joinNodes_5 : Dc prog_2_method_6_code 5 (.iconst (-1)) 1 6 := ⟨by decide +kernel, rfl⟩
theorem d_Ac_joinNodes_6 : Dc prog_2_method_6_code 6 (.ireturn) 1 7 := ⟨by decide +kernel, rfl⟩
theorem d_Ac_joinNodes_7 : Dc prog_2_method_6_code 7 (.aload_n 1) 1 8 := ⟨by decide +kernel, rfl⟩
theorem d_Ac_joinNodes_8 : Dc prog_2_method_6_code 8 (.iload_n 2) 1 9 := ⟨by decide +kernel, rfl⟩
theorem d_Ac_joinNodes_9 : Dc prog_2_method_6_code 9 (.invokevirtual 37) 3 12 := ⟨by decide +kernel, rfl⟩
theorem d_Ac_joinNodes_12 : Dj prog_2_method_6_code 12 (.ifCond .eq 11) 15 11 23 := ⟨by decide +kernel, rfl, rfl⟩
theorem d_Ac_joinNodes_15 : Dc prog_2_method_6_code 15 (.aload_n 1) 1 16 := ⟨by decide +kernel, rfl⟩
theorem d_Ac_joinNodes_16 : Dc prog_2_method_6_code 16 (.iload_n 3) 1 17 := ⟨by decide +kernel, rfl⟩
theorem d_Ac_joinNodes_17 : Dc prog_2_method_6_code 17 (.invokevirtual 37) 3 20 := ⟨by decide +kernel, rfl⟩
theorem d_Ac_joinNodes_20 : Dj prog_2_method_6_code 20 (.ifCond .ne 6) 23 6 26 := ⟨by decide +kernel, rfl, rfl⟩
theorem d_Ac_joinNodes_23 : Dc prog_2_method_6_code 23 (.bipush (-2)) 2 25 := ⟨by decide +kernel, rfl⟩
theorem d_Ac_joinNodes_25 : Dc prog_2_method_6_code 25 (.ireturn) 1 26 := ⟨by decide +kernel, rfl⟩
theorem d_Ac_joinNodes_26 : Dc prog_2_method_6_code 26 (.aload_n 1) 1 27 := ⟨by decide +kernel, rfl⟩
theorem d_Ac_joinNodes_27 : Dc prog_2_method_6_code 27 (.iload_n 2) 1 28 := ⟨by decide +kernel, rfl⟩
theorem d_Ac_joinNodes_28 : Dc prog_2_method_6_code 28 (.iload_n 3) 1 29 := ⟨by decide +kernel, rfl⟩
theorem d_Ac_joinNodes_29 : Dc prog_2_method_6_code 29 (.invokevirtual 43) 3 32 := ⟨by decide +kernel, rfl⟩
theorem d_Ac_joinNodes_32 : Dc prog_2_method_6_code 32 (.istore 4) 2 34 := ⟨by decide +kernel, rfl⟩
theorem d_Ac_joinNodes_34 : Dc prog_2_method_6_code 34 (.aload_n 0) 1 35 := ⟨by decide +kernel, rfl⟩
theorem d_Ac_joinNodes_35 : Dc prog_2_method_6_code 35 (.iconst 0) 1 36 := ⟨by decide +kernel, rfl⟩
theorem d_Ac_joinNodes_36 : Dc prog_2_method_6_code 36 (.iload_n 2) 1 37 := ⟨by decide +kernel, rfl⟩
theorem d_Ac_joinNodes_37 : Dc prog_2_method_6_code 37 (.iload_n 3) 1 38 := ⟨by decide +kernel, rfl⟩
theorem d_Ac_joinNodes_38 : Dc prog_2_method_6_code 38 (.iload 4) 2 40 := ⟨by decide +kernel, rfl⟩
theorem d_Ac_joinNodes_40 : Dc prog_2_method_6_code 40 (.invokevirtual 47) 3 43 := ⟨by decide +kernel, rfl⟩
theorem d_Ac_joinNodes_43 : Dc prog_2_method_6_code 43 (.iload 4) 2 45 := ⟨by decide +kernel, rfl⟩
theorem d_Ac_joinNodes_45 : Dc prog_2_method_6_code 45 (.iconst (-1)) 1 46 := ⟨by decide +kernel, rfl⟩
theorem d_Ac_joinNodes_46 : Dj prog_2_method_6_code 46 (.if_icmp .ne 7) 49 7 53 := ⟨by decide +kernel, rfl, rfl⟩
theorem d_Ac_joinNodes_49 : Dc prog_2_method_6_code 49 (.iconst 1) 1 50 := ⟨by decide +kernel, rfl⟩
theorem d_Ac_joinNodes_50 : Dj prog_2_method_6_code 50 (.goto 4) 53 4 54 := ⟨by decide +kernel, rfl, rfl⟩
theorem d_Ac_joinNodes_53 : Dc prog_2_method_6_code 53 (.iconst 0) 1 54 := ⟨by decide +kernel, rfl⟩
theorem d_Ac_joinNodes_54 : Dc prog_2_method_6_code 54 (.ireturn) 1 55 := ⟨by decide +kernel, rfl⟩
theorem d_Ac_paintNode_0 : Dc prog_2_method_8_code 0 (.iload_n 3) 1 1 := ⟨by decide +kernel, rfl⟩
theorem d_Ac_paintNode_1 : Dj prog_2_method_8_code 1 (.ifCond .lt 9) 4 9 10 := ⟨by decide +kernel, rfl, rfl⟩
theorem d_Ac_paintNode_4 : Dc prog_2_method_8_code 4 (.iload_n 3) 1 5 := ⟨by decide +kernel, rfl⟩
theorem d_Ac_paintNode_5 : Dc prog_2_method_8_code 5 (.bipush 6) 2 7 := ⟨by decide +kernel, rfl⟩
theorem d_Ac_paintNode_7 : Dj prog_2_method_8_code 7 (.if_icmp .lt 5) 10 5 12 := ⟨by decide +kernel, rfl, rfl⟩
theorem d_Ac_paintNode_10 : Dc prog_2_method_8_code 10 (.iconst (-1)) 1 11 := ⟨by decide +kernel, rfl⟩
theorem d_Ac_paintNode_11 : Dc prog_2_method_8_code 11 (.ireturn) 1 12 := ⟨by decide +kernel, rfl⟩
theorem d_Ac_paintNode_12 : Dc prog_2_method_8_code 12 (.aload_n 1) 1 13 := ⟨by decide +kernel, rfl⟩
theorem d_Ac_paintNode_13 : Dc prog_2_method_8_code 13 (.iload_n 2) 1 14 := ⟨by decide +kernel, rfl⟩
theorem d_Ac_paintNode_14 : Dc prog_2_method_8_code 14 (.invokevirtual 37) 3 17 := ⟨by decide +kernel, rfl⟩
theorem d_Ac_paintNode_17 : Dj prog_2_method_8_code 17 (.ifCond .ne 6) 20 6 23 := ⟨by decide +kernel, rfl, rfl⟩
theorem d_Ac_paintNode_20 : Dc prog_2_method_8_code 20 (.bipush (-2)) 2 22 := ⟨by decide +kernel, rfl⟩
theorem d_Ac_paintNode_22 : Dc prog_2_method_8_code 22 (.ireturn) 1 23 := ⟨by decide +kernel, rfl⟩
theorem d_Ac_paintNode_23 : Dc prog_2_method_8_code 23 (.aload_n 1) 1 24 := ⟨by decide +kernel, rfl⟩
theorem d_Ac_paintNode_24 : Dc prog_2_method_8_code 24 (.getfield 61) 3 27 := ⟨by decide +kernel, rfl⟩
theorem d_Ac_paintNode_27 : Dc prog_2_method_8_code 27 (.iload_n 2) 1 28 := ⟨by decide +kernel, rfl⟩
theorem d_Ac_paintNode_28 : Dc prog_2_method_8_code 28 (.iaload) 1 29 := ⟨by decide +kernel, rfl⟩
theorem d_Ac_paintNode_29 : Dc prog_2_method_8_code 29 (.istore 4) 2 31 := ⟨by decide +kernel, rfl⟩
theorem d_Ac_paintNode_31 : Dc prog_2_method_8_code 31 (.iload 4) 2 33 := ⟨by decide +kernel, rfl⟩
theorem d_Ac_paintNode_33 : Dc prog_2_method_8_code 33 (.iload_n 3) 1 34 := ⟨by decide +kernel, rfl⟩
theorem d_Ac_paintNode_34 : Dj prog_2_method_8_code 34 (.if_icmp .ne 6) 37 6 40 := ⟨by decide +kernel, rfl, rfl⟩
theorem d_Ac_paintNode_37 : Dc prog_2_method_8_code 37 (.bipush (-3)) 2 39 := ⟨by decide +kernel, rfl⟩
theorem d_Ac_paintNode_39 : Dc prog_2_method_8_code 39 (.ireturn) 1 40 := ⟨by decide +kernel, rfl⟩
theorem d_Ac_paintNode_40 : Dc prog_2_method_8_code 40 (.aload_n 1) 1 41 := ⟨by decide +kernel, rfl⟩
theorem d_Ac_paintNode_41 : Dc prog_2_method_8_code 41 (.getfield 61) 3 44 := ⟨by decide +kernel, rfl⟩
theorem d_Ac_paintNode_44 : Dc prog_2_method_8_code 44 (.iload_n 2) 1 45 := ⟨by decide +kernel, rfl⟩
theorem d_Ac_paintNode_45 : Dc prog_2_method_8_code 45 (.iload_n 3) 1 46 := ⟨by decide +kernel, rfl⟩
theorem d_Ac_paintNode_46 : Dc prog_2_method_8_code 46 (.iastore) 1 47 := ⟨by decide +kernel, rfl⟩
theorem d_Ac_paintNode_47 : Dc prog_2_method_8_code 47 (.aload_n 0) 1 48 := ⟨by decide +kernel, rfl⟩
theorem d_Ac_paintNode_48 : Dc prog_2_method_8_code 48 (.iconst 2) 1 49 := ⟨by decide +kernel, rfl⟩
theorem d_Ac_paintNode_49 : Dc prog_2_method_8_code 49 (.iload_n 2) 1 50 := ⟨by decide +kernel, rfl⟩
theorem d_Ac_paintNode_50 : Dc prog_2_method_8_code 50 (.iconst (-1)) 1 51 := ⟨by decide +kernel, rfl⟩
theorem d_Ac_paintNode_51 : Dc prog_2_method_8_code 51 (.iload 4) 2 53 := ⟨by decide +kernel, rfl⟩
theorem d_Ac_paintNode_53 : Dc prog_2_method_8_code 53 (.invokevirtual 47) 3 56 := ⟨by decide +kernel, rfl⟩
theorem d_Ac_paintNode_56 : Dc prog_2_method_8_code 56 (.iload 4) 2 58 := ⟨by decide +kernel, rfl⟩
theorem d_Ac_paintNode_58 : Dc prog_2_method_8_code 58 (.ireturn) 1 59 := ⟨by decide +kernel, rfl⟩
theorem d_Ac_tieVertices_0 : Dc prog_2_method_7_code 0 (.iload_n 2) 1 1 := ⟨by decide +kernel, rfl⟩
theorem d_Ac_tieVertices_1 : Dc prog_2_method_7_code 1 (.iload_n 3) 1 2 := ⟨by decide +kernel, rfl⟩
theorem d_Ac_tieVertices_2 : Dj prog_2_method_7_code 2 (.if_icmp .ne 5) 5 5 7 := ⟨by decide +kernel, rfl, rfl⟩
theorem d_Ac_tieVertices_5 : Dc prog_2_method_7_code 5 (.iconst (-1)) 1 6 := ⟨by decide +kernel, rfl⟩
theorem d_Ac_tieVertices_6 : Dc prog_2_method_7_code 6 (.ireturn) 1 7 := ⟨by decide +kernel, rfl⟩
theorem d_Ac_tieVertices_7 : Dc prog_2_method_7_code 7 (.aload_n 1) 1 8 := ⟨by decide +kernel, rfl⟩
theorem d_Ac_tieVertices_8 : Dc prog_2_method_7_code 8 (.iload_n 2) 1 9 := ⟨by decide +kernel, rfl⟩
theorem d_Ac_tieVertices_9 : Dc prog_2_method_7_code 9 (.invokevirtual 51) 3 12 := ⟨by decide +kernel, rfl⟩
theorem d_Ac_tieVertices_12 : Dj prog_2_method_7_code 12 (.ifCond .eq 11) 15 11 23 := ⟨by decide +kernel, rfl, rfl⟩
theorem d_Ac_tieVertices_15 : Dc prog_2_method_7_code 15 (.aload_n 1) 1 16 := ⟨by decide +kernel, rfl⟩
theorem d_Ac_tieVertices_16 : Dc prog_2_method_7_code 16 (.iload_n 3) 1 17 := ⟨by decide +kernel, rfl⟩
theorem d_Ac_tieVertices_17 : Dc prog_2_method_7_code 17 (.invokevirtual 51) 3 20 := ⟨by decide +kernel, rfl⟩
theorem d_Ac_tieVertices_20 : Dj prog_2_method_7_code 20 (.ifCond .ne 6) 23 6 26 := ⟨by decide +kernel, rfl, rfl⟩
theorem d_Ac_tieVertices_23 : Dc prog_2_method_7_code 23 (.bipush (-2)) 2 25 := ⟨by decide +kernel, rfl⟩
theorem d_Ac_tieVertices_25 : Dc prog_2_method_7_code 25 (.ireturn) 1 26 := ⟨by decide +kernel, rfl⟩
theorem d_Ac_tieVertices_26 : Dc prog_2_method_7_code 26 (.aload_n 1) 1 27 := ⟨by decide +kernel, rfl⟩
theorem d_Ac_tieVertices_27 : Dc prog_2_method_7_code 27 (.iload_n 2) 1 28 := ⟨by decide +kernel, rfl⟩
theorem d_Ac_tieVertices_28 : Dc prog_2_method_7_code 28 (.iload_n 3) 1 29 := ⟨by decide +kernel, rfl⟩
theorem d_Ac_tieVertices_29 : Dc prog_2_method_7_code 29 (.invokevirtual 54) 3 32 := ⟨by decide +kernel, rfl⟩
theorem d_Ac_tieVertices_32 : Dc prog_2_method_7_code 32 (.aload_n 0) 1 33 := ⟨by decide +kernel, rfl⟩
theorem d_Ac_tieVertices_33 : Dc prog_2_method_7_code 33 (.iconst 1) 1 34 := ⟨by decide +kernel, rfl⟩
theorem d_Ac_tieVertices_34 : Dc prog_2_method_7_code 34 (.iload_n 2) 1 35 := ⟨by decide +kernel, rfl⟩
theorem d_Ac_tieVertices_35 : Dc prog_2_method_7_code 35 (.iload_n 3) 1 36 := ⟨by decide +kernel, rfl⟩
theorem d_Ac_tieVertices_36 : Dc prog_2_method_7_code 36 (.iconst (-1)) 1 37 := ⟨by decide +kernel, rfl⟩
theorem d_Ac_tieVertices_37 : Dc prog_2_method_7_code 37 (.invokevirtual 47) 3 40 := ⟨by decide +kernel, rfl⟩
theorem d_Ac_tieVertices_40 : Dc prog_2_method_7_code 40 (.aload_n 1) 1 41 := ⟨by decide +kernel, rfl⟩
theorem d_Ac_tieVertices_41 : Dc prog_2_method_7_code 41 (.getfield 58) 3 44 := ⟨by decide +kernel, rfl⟩
theorem d_Ac_tieVertices_44 : Dc prog_2_method_7_code 44 (.iload_n 2) 1 45 := ⟨by decide +kernel, rfl⟩
theorem d_Ac_tieVertices_45 : Dc prog_2_method_7_code 45 (.iaload) 1 46 := ⟨by decide +kernel, rfl⟩
theorem d_Ac_tieVertices_46 : Dc prog_2_method_7_code 46 (.iload_n 3) 1 47 := ⟨by decide +kernel, rfl⟩
theorem d_Ac_tieVertices_47 : Dc prog_2_method_7_code 47 (.ishr) 1 48 := ⟨by decide +kernel, rfl⟩
theorem d_Ac_tieVertices_48 : Dc prog_2_method_7_code 48 (.iconst 1) 1 49 := ⟨by decide +kernel, rfl⟩
theorem d_Ac_tieVertices_49 : Dc prog_2_method_7_code 49 (.iand) 1 50 := ⟨by decide +kernel, rfl⟩
theorem d_Ac_tieVertices_50 : Dc prog_2_method_7_code 50 (.ireturn) 1 51 := ⟨by decide +kernel, rfl⟩
theorem fl_Ac_58 : FL "SubgraphDesk$Acts" 58 2 7 true (.array .int) (3, 5) := ⟨R_Bo, F_Bo, 15, ty_Bo, rfl, rfl, in_Bo, tyok_Bo, nm_Bo, by decide, gd 215 (by decide +kernel) rfl, rfl, rfl, rfl⟩
theorem fl_Ac_61 : FL "SubgraphDesk$Acts" 61 2 1 true (.array .int) (3, 1) := ⟨R_Bo, F_Bo, 15, ty_Bo, rfl, rfl, in_Bo, tyok_Bo, nm_Bo, by decide, gd 185 (by decide +kernel) rfl, rfl, rfl, rfl⟩
theorem fl_Ac_64 : FL "SubgraphDesk$Acts" 64 2 6 true (.array .int) (3, 4) := ⟨R_Bo, F_Bo, 15, ty_Bo, rfl, rfl, in_Bo, tyok_Bo, nm_Bo, by decide, gd 209 (by decide +kernel) rfl, rfl, rfl, rfl⟩
theorem ml_Ac_37 : Cond.methodLink "SubgraphDesk$Acts" 37 m_Bo_hasNode.1 ∈ lw_gd := gd 1082 (by decide +kernel) rfl
theorem ml_Ac_43 : Cond.methodLink "SubgraphDesk$Acts" 43 m_Bo_toggleEdge.1 ∈ lw_gd := gd 1083 (by decide +kernel) rfl
theorem ml_Ac_47 : Cond.methodLink "SubgraphDesk$Acts" 47 m_Ac_note.1 ∈ lw_gd := gd 1084 (by decide +kernel) rfl
theorem ml_Ac_51 : Cond.methodLink "SubgraphDesk$Acts" 51 m_Bo_hasVertex.1 ∈ lw_gd := gd 1096 (by decide +kernel) rfl
theorem ml_Ac_54 : Cond.methodLink "SubgraphDesk$Acts" 54 m_Bo_toggleLink.1 ∈ lw_gd := gd 1097 (by decide +kernel) rfl
/-- the desk's graph and what can be undone lie so -/
def DG (w : Mem) (g : GC) (u : List (Nat × Snap)) : Prop := BRow w 1 g ∧ WG g ∧ ActP w 20 g u
/-- only the board's ints and the acts changed -/
def FrAb (w w2 : Mem) : Prop := (∀ o, (o = 0 ∨ 8 < o) → (o < 20 ∨ 24 < o) → rI w2 o = rI w o) ∧ w2.2 = w.2
theorem FrAb.rf (w : Mem) : FrAb w w := ⟨fun _ _ _ => rfl, rfl⟩
theorem FrAb.tr {a b c : Mem} (h : FrAb a b) (h2 : FrAb b c) : FrAb a c := ⟨fun o h1 h3 => (h2.1 o h1 h3).trans (h.1 o h1 h3), h2.2.trans h.2⟩
theorem FrBo.Ab {w w2 : Mem} (h : FrBo 1 w w2) : FrAb w w2 := ⟨fun o h1 _ => h.1 o (by omega), h.2⟩
theorem FrAc.Ab {w w2 : Mem} (h : FrAc 20 w w2) : FrAb w w2 := ⟨fun o _ h2 => h.1 o (by omega), h.2⟩
theorem FrAb.I {w w2 : Mem} {o k : Nat} {x : Int32} (ho : (1 ≤ o ∧ o ≤ 8) ∨ (20 ≤ o ∧ o ≤ 24)) (h : FrAb w w2) : FrAb w (sI w2 o k x) := ⟨fun q h1 h2 => by rw [rI_sI_ne _ _ _ (by omega)]; exact h.1 q h1 h2, h.2⟩
theorem TgR.ex {g : GC} {a c : Nat} {r : Option Value} (h : TgR g a c r) : ∃ z, r = some (.int z) ∧ ((codeOf a c ∉ gE g ∧ z = -1) ∨ ∃ ix : Nat, ix < (gE g).length ∧ gA (gE g) ix = codeOf a c ∧ z = nI ix) := by
  by_cases hc : codeOf a c ∈ gE g
  · obtain ⟨ix, h1, h2⟩ := mem_gA hc
    exact ⟨nI ix, h.2 ix h1 h2, Or.inr ⟨ix, h1, h2, rfl⟩⟩
  · exact ⟨-1, h.1 hc, Or.inl ⟨hc, rfl⟩⟩
theorem ActP.Bo {w w2 : Mem} {g : GC} {u : List (Nat × Snap)} (h : ActP w 20 g u) (f : FrBo 1 w w2) : ActP w2 20 g u := h.fr (fun o h1 h2 => f.1 o (by omega))
theorem BRow.Ac {w w2 : Mem} {g : GC} (h : BRow w 1 g) (f : FrAc 20 w w2) : BRow w2 1 g := h.fr (fun o h1 h2 => f.1 o (by omega))
theorem BRow.paint {w : Mem} {b k c : Nat} {g : GC} (h : BRow w b g) : BRow (sI w (b + 1) k (nI c)) b (gPaint g k c) := by
  unfold BRow
  rw [rI_sI_ne _ _ _ (show b ≠ b + 1 by omega), rI_sI, rI_sI_ne _ _ _ (show b + 2 ≠ b + 1 by omega), rI_sI_ne _ _ _ (show b + 3 ≠ b + 1 by omega), rI_sI_ne _ _ _ (show b + 4 ≠ b + 1 by omega), rI_sI_ne _ _ _ (show b + 5 ≠ b + 1 by omega), rI_sI_ne _ _ _ (show b + 6 ≠ b + 1 by omega), rI_sI_ne _ _ _ (show b + 7 ≠ b + 1 by omega)]
  refine ⟨h.n, h.el, h.v, h.sl, h.ll, h.fo, fun i hi => ?_, h.nr, h.e, h.y, h.k, h.sn, h.t⟩
  show _ = nI (if i = k then c else gC g i)
  rw [upd_eq]
  have hi2 : i < gN g := hi
  by_cases e : i = k
  · rw [if_pos e, if_pos e]
  · rw [if_neg e, if_neg e]; exact h.c i hi2
theorem BRow.dye {w : Mem} {b k c : Nat} {g : GC} (h : BRow w b g) : BRow (sI w (b + 4) k (nI c)) b (gDye g k c) := by
  unfold BRow
  rw [rI_sI_ne _ _ _ (show b ≠ b + 4 by omega), rI_sI, rI_sI_ne _ _ _ (show b + 1 ≠ b + 4 by omega), rI_sI_ne _ _ _ (show b + 2 ≠ b + 4 by omega), rI_sI_ne _ _ _ (show b + 3 ≠ b + 4 by omega), rI_sI_ne _ _ _ (show b + 5 ≠ b + 4 by omega), rI_sI_ne _ _ _ (show b + 6 ≠ b + 4 by omega), rI_sI_ne _ _ _ (show b + 7 ≠ b + 4 by omega)]
  refine ⟨h.n, h.el, h.v, h.sl, h.ll, h.fo, h.c, h.nr, h.e, fun i hi => ?_, h.k, h.sn, h.t⟩
  show _ = nI (if i = k then c else gY g i)
  rw [upd_eq]
  have hi2 : i < gV g := hi
  by_cases e : i = k
  · rw [if_pos e, if_pos e]
  · rw [if_neg e, if_neg e]; exact h.y i hi2
theorem in6 {y : Int32} {k : Nat} (hk : k < 2 ^ 31) : inN y k ↔ ¬ y < 0 ∧ y < nI k := ⟨fun h => ⟨Int32.not_lt.mpr h.1, h.2⟩, fun h => ⟨Int32.not_lt.mp h.1, h.2⟩⟩
theorem lt7 {y : Int32} (h : y ≤ nI 6) : y < nI 7 := by
  rw [Int32.lt_iff_toInt_lt]
  rw [Int32.le_iff_toInt_le] at h
  have h1 : (nI 6).toInt = 6 := rfl
  have h2 : (nI 7).toInt = 7 := rfl
  omega
theorem le6 {y : Int32} (h : y < nI 7) : y ≤ nI 6 := by
  rw [Int32.le_iff_toInt_le]
  rw [Int32.lt_iff_toInt_lt] at h
  have h1 : (nI 6).toInt = 6 := rfl
  have h2 : (nI 7).toInt = 7 := rfl
  omega
theorem c_Ac_joinNodes {E : EV} {w : Mem} {x y : Int32} {g : GC} {u : List (Nat × Snap)} (hG : DG w g u) : T E m_Ac_joinNodes 3 0 0 [.ref 20, .ref 1, .int x, .int y] w (fun r w2 => r = some (.int (aEdge x y g u).1) ∧ DG w2 (aEdge x y g u).2.1 (aEdge x y g u).2.2 ∧ FrAb w w2) := by
  refine T_of (L := [.ref 20, .ref 1, .int x, .int y, un]) cf_Ac_joinNodes rfl (Nat.le_of_ble_eq_true rfl) (fun X hX hF => ?_)
  obtain ⟨hR, hW, hA⟩ := id hG
  have hn := hW.n
  have hv := hW.v
  have he := hW.el
  refine g_iload2 hX d_Ac_joinNodes_0 ?_
  refine g_iload3 hX d_Ac_joinNodes_1 ?_
  refine g_icmp_ne hX d_Ac_joinNodes_2 (fun e2 => ?_) (fun e2 => ?_)
  · refine g_aload1 hX d_Ac_joinNodes_7 ?_
    refine g_iload2 hX d_Ac_joinNodes_8 ?_
    refine g_callV (As := [_]) hX hF.1 d_Ac_joinNodes_9 ml_Ac_37 cf_Bo_hasNode cv_Bo_hasNode rfl rfl (c_Bo_hasNode (show IsBo 1 from Or.inl rfl) hR hW) (rcv_obj hX (lv_1 _) rfl rfl) (by omega) (by omega) (by omega) (Nat.le_of_ble_eq_true rfl) ?_
    refine ret_k ?_
    refine g_ifB_eq hX d_Ac_joinNodes_12 (fun e12 => ?_) (fun e12 => ?_)
    · refine g_bipush (v := -2) hX d_Ac_joinNodes_23 rfl ?_
      refine g_iret hX hF d_Ac_joinNodes_25 (by omega) (by omega) ?_
      first
        | (rw [aEdge_2 e2 (fun q => by first | exact e12 q.1 | exact e20 q.2)]; exact ⟨rfl, hG, FrAb.rf w⟩)
    · refine g_aload1 hX d_Ac_joinNodes_15 ?_
      refine g_iload3 hX d_Ac_joinNodes_16 ?_
      refine g_callV (As := [_]) hX hF.1 d_Ac_joinNodes_17 ml_Ac_37 cf_Bo_hasNode cv_Bo_hasNode rfl rfl (c_Bo_hasNode (show IsBo 1 from Or.inl rfl) hR hW) (rcv_obj hX (lv_1 _) rfl rfl) (by omega) (by omega) (by omega) (Nat.le_of_ble_eq_true rfl) ?_
      refine ret_k ?_
      refine g_ifB_ne hX d_Ac_joinNodes_20 (fun e20 => ?_) (fun e20 => ?_)
      · obtain ⟨a, ha, rfl, hta⟩ := inN_of e12 (by omega)
        obtain ⟨c, hc, rfl, htc⟩ := inN_of e20 (by omega)
        have hac : a ≠ c := fun q => e2 (by rw [q])
        refine g_aload1 hX d_Ac_joinNodes_26 ?_
        refine g_iload2 hX d_Ac_joinNodes_27 ?_
        refine g_iload3 hX d_Ac_joinNodes_28 ?_
        refine g_callV (As := [_, _]) hX hF.1 d_Ac_joinNodes_29 ml_Ac_43 cf_Bo_toggleEdge cv_Bo_toggleEdge rfl rfl (c_Bo_toggleEdge (show IsBo 1 from Or.inl rfl) hR hW ha hc hac) (rcv_obj hX (lv_1 _) rfl rfl) (by omega) (by omega) (by omega) (Nat.le_of_ble_eq_true rfl) ?_
        rintro r w1 ⟨hB1, hf1, hr⟩
        obtain ⟨z, rfl, hz⟩ := hr.ex
        have hA1 := hA.Bo hf1
        show G0 _ _ _ _ _ _ _ _
        refine g_istore4 hX d_Ac_joinNodes_32 rfl (by decide) ?_
        refine g_aload0 hX d_Ac_joinNodes_34 ?_
        refine g_iconst (v := nI 0) hX d_Ac_joinNodes_35 rfl ?_
        refine g_iload2 hX d_Ac_joinNodes_36 ?_
        refine g_iload3 hX d_Ac_joinNodes_37 ?_
        refine g_iload4 hX d_Ac_joinNodes_38 ?_
        refine g_callV (As := [_, _, _, _]) hX hF.1 d_Ac_joinNodes_40 ml_Ac_47 cf_Ac_note cv_Ac_note rfl rfl (c_Ac_note (g := g) (u := u) (m := 0) (x := nI a) (y := nI c) (z := z) (show IsAc 20 from Or.inl rfl) hA1 hW (show SameK g (gJoin g a c) from ⟨rfl, rfl, rfl, rfl, rfl⟩) (by decide) (⟨a, c, rfl, rfl, ha, hc, hac, rfl, hz⟩)) (rcv_obj hX (lv_20 _) rfl rfl) (by omega) (by omega) (by omega) (Nat.le_of_ble_eq_true rfl) ?_
        rintro _ w2 ⟨rfl, hA2, hf2⟩
        have hB2 := hB1.Ac hf2
        have hfr : FrAb w w2 := hf1.Ab.tr hf2.Ab
        show G0 _ _ _ _ _ _ _ _
        refine g_iload4 hX d_Ac_joinNodes_43 ?_
        refine g_iconst (v := -1) hX d_Ac_joinNodes_45 rfl ?_
        refine g_icmp_ne hX d_Ac_joinNodes_46 (fun e46 => ?_) (fun e46 => ?_)
        · refine g_iconst (v := nI 0) hX d_Ac_joinNodes_53 rfl ?_
          refine g_iret hX hF d_Ac_joinNodes_54 (by omega) (by omega) ?_
          rw [aEdge_ok e2 ⟨e12, e20⟩, hta, htc]
          refine ⟨?_, ⟨hB2, hW.join ha hc hac, hA2⟩, hfr⟩
          rcases hz with ⟨y1, y2⟩ | ⟨ix, y1, y2, y3⟩
          · first
            | exact absurd y2 e46
            | (rw [b2i_t y1]; rfl)
          · have hin : codeOf a c ∈ gE g := by rw [← y2]; exact gA_mem y1
            first
            | (rw [b2i_f (not_not_intro hin)]; rfl)
            | (rw [y3] at e46; exact absurd e46 (nI_m1 (by omega)))
        · refine g_iconst (v := nI 1) hX d_Ac_joinNodes_49 rfl ?_
          refine g_goto hX d_Ac_joinNodes_50 ?_
          refine g_iret hX hF d_Ac_joinNodes_54 (by omega) (by omega) ?_
          rw [aEdge_ok e2 ⟨e12, e20⟩, hta, htc]
          refine ⟨?_, ⟨hB2, hW.join ha hc hac, hA2⟩, hfr⟩
          rcases hz with ⟨y1, y2⟩ | ⟨ix, y1, y2, y3⟩
          · first
            | exact absurd y2 e46
            | (rw [b2i_t y1]; rfl)
          · have hin : codeOf a c ∈ gE g := by rw [← y2]; exact gA_mem y1
            first
            | (rw [b2i_f (not_not_intro hin)]; rfl)
            | (rw [y3] at e46; exact absurd e46 (nI_m1 (by omega)))
      · refine g_bipush (v := -2) hX d_Ac_joinNodes_23 rfl ?_
        refine g_iret hX hF d_Ac_joinNodes_25 (by omega) (by omega) ?_
        first
          | (rw [aEdge_2 e2 (fun q => by first | exact e12 q.1 | exact e20 q.2)]; exact ⟨rfl, hG, FrAb.rf w⟩)
  · refine g_iconst (v := -1) hX d_Ac_joinNodes_5 rfl ?_
    refine g_iret hX hF d_Ac_joinNodes_6 (by omega) (by omega) ?_
    first
      | (rw [aEdge_1 e2]; exact ⟨rfl, hG, FrAb.rf w⟩)
theorem c_Ac_tieVertices {E : EV} {w : Mem} {x y : Int32} {g : GC} {u : List (Nat × Snap)} (hG : DG w g u) : T E m_Ac_tieVertices 3 0 0 [.ref 20, .ref 1, .int x, .int y] w (fun r w2 => r = some (.int (aLink x y g u).1) ∧ DG w2 (aLink x y g u).2.1 (aLink x y g u).2.2 ∧ FrAb w w2) := by
  refine T_of (L := [.ref 20, .ref 1, .int x, .int y]) cf_Ac_tieVertices rfl (Nat.le_of_ble_eq_true rfl) (fun X hX hF => ?_)
  obtain ⟨hR, hW, hA⟩ := id hG
  have hn := hW.n
  have hv := hW.v
  have he := hW.el
  refine g_iload2 hX d_Ac_tieVertices_0 ?_
  refine g_iload3 hX d_Ac_tieVertices_1 ?_
  refine g_icmp_ne hX d_Ac_tieVertices_2 (fun e2 => ?_) (fun e2 => ?_)
  · refine g_aload1 hX d_Ac_tieVertices_7 ?_
    refine g_iload2 hX d_Ac_tieVertices_8 ?_
    refine g_callV (As := [_]) hX hF.1 d_Ac_tieVertices_9 ml_Ac_51 cf_Bo_hasVertex cv_Bo_hasVertex rfl rfl (c_Bo_hasVertex (show IsBo 1 from Or.inl rfl) hR hW) (rcv_obj hX (lv_1 _) rfl rfl) (by omega) (by omega) (by omega) (Nat.le_of_ble_eq_true rfl) ?_
    refine ret_k ?_
    refine g_ifB_eq hX d_Ac_tieVertices_12 (fun e12 => ?_) (fun e12 => ?_)
    · refine g_bipush (v := -2) hX d_Ac_tieVertices_23 rfl ?_
      refine g_iret hX hF d_Ac_tieVertices_25 (by omega) (by omega) ?_
      first
        | (rw [aLink_2 e2 (fun q => by first | exact e12 q.1 | exact e20 q.2)]; exact ⟨rfl, hG, FrAb.rf w⟩)
    · refine g_aload1 hX d_Ac_tieVertices_15 ?_
      refine g_iload3 hX d_Ac_tieVertices_16 ?_
      refine g_callV (As := [_]) hX hF.1 d_Ac_tieVertices_17 ml_Ac_51 cf_Bo_hasVertex cv_Bo_hasVertex rfl rfl (c_Bo_hasVertex (show IsBo 1 from Or.inl rfl) hR hW) (rcv_obj hX (lv_1 _) rfl rfl) (by omega) (by omega) (by omega) (Nat.le_of_ble_eq_true rfl) ?_
      refine ret_k ?_
      refine g_ifB_ne hX d_Ac_tieVertices_20 (fun e20 => ?_) (fun e20 => ?_)
      · obtain ⟨a, ha, rfl, hta⟩ := inN_of e12 (by omega)
        obtain ⟨c, hc, rfl, htc⟩ := inN_of e20 (by omega)
        have hac : a ≠ c := fun q => e2 (by rw [q])
        refine g_aload1 hX d_Ac_tieVertices_26 ?_
        refine g_iload2 hX d_Ac_tieVertices_27 ?_
        refine g_iload3 hX d_Ac_tieVertices_28 ?_
        refine g_callV (As := [_, _]) hX hF.1 d_Ac_tieVertices_29 ml_Ac_54 cf_Bo_toggleLink cv_Bo_toggleLink rfl rfl (c_Bo_toggleLink (show IsBo 1 from Or.inl rfl) hR hW ha hc hac) (rcv_obj hX (lv_1 _) rfl rfl) (by omega) (by omega) (by omega) (Nat.le_of_ble_eq_true rfl) ?_
        rintro _ w1 ⟨rfl, hB1, hf1⟩
        have hA1 := hA.Bo hf1
        show G0 _ _ _ _ _ _ _ _
        refine g_aload0 hX d_Ac_tieVertices_32 ?_
        refine g_iconst (v := nI 1) hX d_Ac_tieVertices_33 rfl ?_
        refine g_iload2 hX d_Ac_tieVertices_34 ?_
        refine g_iload3 hX d_Ac_tieVertices_35 ?_
        refine g_iconst (v := -1) hX d_Ac_tieVertices_36 rfl ?_
        refine g_callV (As := [_, _, _, _]) hX hF.1 d_Ac_tieVertices_37 ml_Ac_47 cf_Ac_note cv_Ac_note rfl rfl (c_Ac_note (g := g) (u := u) (m := 1) (x := nI a) (y := nI c) (z := -1) (show IsAc 20 from Or.inl rfl) hA1 hW (show SameK g (gLink g a c) from ⟨rfl, rfl, rfl, rfl, rfl⟩) (by decide) (⟨a, c, rfl, rfl, ha, hc, hac, rfl⟩)) (rcv_obj hX (lv_20 _) rfl rfl) (by omega) (by omega) (by omega) (Nat.le_of_ble_eq_true rfl) ?_
        rintro _ w2 ⟨rfl, hA2, hf2⟩
        have hB2 := hB1.Ac hf2
        have hfr : FrAb w w2 := hf1.Ab.tr hf2.Ab
        show G0 _ _ _ _ _ _ _ _
        refine g_aload1 hX d_Ac_tieVertices_40 ?_
        refine g_getF hX d_Ac_tieVertices_41 fl_Ac_58 (lv_1 _) ?_
        refine g_iload2 hX d_Ac_tieVertices_44 ?_
        refine g_iald hX d_Ac_tieVertices_45 (lv_6 _) rfl (by omega) ?_
        refine g_topi (hB2.k a ha) ?_
        refine g_iload3 hX d_Ac_tieVertices_46 ?_
        refine g_ishrN hX d_Ac_tieVertices_47 (by have := (hW.link ha hc hac).k32 (v := a) ha; omega) (by omega) ?_
        refine g_iconst (v := nI 1) hX d_Ac_tieVertices_48 rfl ?_
        refine g_iandC hX d_Ac_tieVertices_49 (fun hm3 => ?_)
        refine g_iret hX hF d_Ac_tieVertices_50 (by omega) (by omega) ?_
        rw [aLink_ok e2 ⟨e12, e20⟩, hta, htc]
        exact ⟨by rw [← bit_b2i], ⟨hB2, hW.link ha hc hac, hA2⟩, hfr⟩
      · refine g_bipush (v := -2) hX d_Ac_tieVertices_23 rfl ?_
        refine g_iret hX hF d_Ac_tieVertices_25 (by omega) (by omega) ?_
        first
          | (rw [aLink_2 e2 (fun q => by first | exact e12 q.1 | exact e20 q.2)]; exact ⟨rfl, hG, FrAb.rf w⟩)
  · refine g_iconst (v := -1) hX d_Ac_tieVertices_5 rfl ?_
    refine g_iret hX hF d_Ac_tieVertices_6 (by omega) (by omega) ?_
    first
      | (rw [aLink_1 e2]; exact ⟨rfl, hG, FrAb.rf w⟩)
theorem c_Ac_paintNode {E : EV} {w : Mem} {x y : Int32} {g : GC} {u : List (Nat × Snap)} (hG : DG w g u) : T E m_Ac_paintNode 3 0 0 [.ref 20, .ref 1, .int x, .int y] w (fun r w2 => r = some (.int (aPaint x y g u).1) ∧ DG w2 (aPaint x y g u).2.1 (aPaint x y g u).2.2 ∧ FrAb w w2) := by
  refine T_of (L := [.ref 20, .ref 1, .int x, .int y, un]) cf_Ac_paintNode rfl (Nat.le_of_ble_eq_true rfl) (fun X hX hF => ?_)
  obtain ⟨hR, hW, hA⟩ := id hG
  have hn := hW.n
  have hv := hW.v
  have he := hW.el
  refine g_iload3 hX d_Ac_paintNode_0 ?_
  refine g_if_lt hX d_Ac_paintNode_1 (fun e1 => ?_) (fun e1 => ?_)
  · refine g_iconst (v := -1) hX d_Ac_paintNode_10 rfl ?_
    refine g_iret hX hF d_Ac_paintNode_11 (by omega) (by omega) ?_
    first
      | (rw [aPaint_1 (fun q => absurd q.1 (Int32.not_le.mpr e1))]; exact ⟨rfl, hG, FrAb.rf w⟩)
      | (rw [aPaint_1 (fun q => e7 q.2)]; exact ⟨rfl, hG, FrAb.rf w⟩)
  · refine g_iload3 hX d_Ac_paintNode_4 ?_
    refine g_bipush (v := nI 6) hX d_Ac_paintNode_5 rfl ?_
    refine g_icmp_lt hX d_Ac_paintNode_7 (fun e7 => ?_) (fun e7 => ?_)
    · refine g_aload1 hX d_Ac_paintNode_12 ?_
      refine g_iload2 hX d_Ac_paintNode_13 ?_
      have d9 : inN y 6 := (in6 (by decide)).mpr ⟨e1, e7⟩
      refine g_callV (As := [_]) hX hF.1 d_Ac_paintNode_14 ml_Ac_37 cf_Bo_hasNode cv_Bo_hasNode rfl rfl (c_Bo_hasNode (show IsBo 1 from Or.inl rfl) hR hW) (rcv_obj hX (lv_1 _) rfl rfl) (by omega) (by omega) (by omega) (Nat.le_of_ble_eq_true rfl) ?_
      refine ret_k ?_
      refine g_ifB_ne hX d_Ac_paintNode_17 (fun e17 => ?_) (fun e17 => ?_)
      · obtain ⟨a, ha, rfl, hta⟩ := inN_of e17 (by omega)
        obtain ⟨c, hc, rfl, htc⟩ := inN_of d9 (by decide)
        have hc0 := hW.c a ha
        refine g_aload1 hX d_Ac_paintNode_23 ?_
        refine g_getF hX d_Ac_paintNode_24 fl_Ac_61 (lv_1 _) ?_
        refine g_iload2 hX d_Ac_paintNode_27 ?_
        refine g_iald hX d_Ac_paintNode_28 (lv_2 _) rfl (by omega) ?_
        refine g_topi (hR.c a ha) ?_
        refine g_istore4 hX d_Ac_paintNode_29 rfl (by decide) ?_
        refine g_iload4 hX d_Ac_paintNode_31 ?_
        refine g_iload3 hX d_Ac_paintNode_33 ?_
        refine g_icmpN_ne hX d_Ac_paintNode_34 (by omega) (by omega) (fun e34 => ?_) (fun e34 => ?_)
        · refine g_aload1 hX d_Ac_paintNode_40 ?_
          refine g_getF hX d_Ac_paintNode_41 fl_Ac_61 (lv_1 _) ?_
          refine g_iload2 hX d_Ac_paintNode_44 ?_
          refine g_iload3 hX d_Ac_paintNode_45 ?_
          refine g_iast hX d_Ac_paintNode_46 (lv_2 _) rfl (by omega) ?_
          refine g_aload0 hX d_Ac_paintNode_47 ?_
          refine g_iconst (v := nI 2) hX d_Ac_paintNode_48 rfl ?_
          refine g_iload2 hX d_Ac_paintNode_49 ?_
          refine g_iconst (v := -1) hX d_Ac_paintNode_50 rfl ?_
          refine g_iload4 hX d_Ac_paintNode_51 ?_
          have hB1 := hR.paint (k := a) (c := c)
          have hf1 : FrBo 1 w (sI w (1 + 1) a (nI c)) := (FrBo.rf 1 w).I (by omega)
          have hA1 := hA.Bo hf1
          refine g_callV (As := [_, _, _, _]) hX hF.1 d_Ac_paintNode_53 ml_Ac_47 cf_Ac_note cv_Ac_note rfl rfl (c_Ac_note (g := g) (u := u) (m := 2) (x := nI a) (y := -1) (z := nI (gC g a)) (show IsAc 20 from Or.inl rfl) hA1 hW (show SameK g (gPaint g a c) from ⟨rfl, rfl, rfl, rfl, rfl⟩) (by decide) (⟨a, c, rfl, ha, rfl, rfl⟩)) (rcv_obj hX (lv_20 _) rfl rfl) (by omega) (by omega) (by omega) (Nat.le_of_ble_eq_true rfl) ?_
          rintro _ w2 ⟨rfl, hA2, hf2⟩
          have hB2 := hB1.Ac hf2
          have hfr : FrAb w w2 := hf1.Ab.tr hf2.Ab
          show G0 _ _ _ _ _ _ _ _
          refine g_iload4 hX d_Ac_paintNode_56 ?_
          refine g_iret hX hF d_Ac_paintNode_58 (by omega) (by omega) ?_
          rw [aPaint_ok d9 e17 (by rw [hta, htc]; exact e34), hta, htc]
          exact ⟨rfl, ⟨hB2, hW.paint (by omega), hA2⟩, hfr⟩
        · refine g_bipush (v := -3) hX d_Ac_paintNode_37 rfl ?_
          refine g_iret hX hF d_Ac_paintNode_39 (by omega) (by omega) ?_
          rw [aPaint_3 d9 e17 (by rw [hta, htc]; exact e34)]
          exact ⟨rfl, hG, FrAb.rf w⟩
      · refine g_bipush (v := -2) hX d_Ac_paintNode_20 rfl ?_
        refine g_iret hX hF d_Ac_paintNode_22 (by omega) (by omega) ?_
        first
          | (rw [aPaint_2 d9 e17]; exact ⟨rfl, hG, FrAb.rf w⟩)
    · refine g_iconst (v := -1) hX d_Ac_paintNode_10 rfl ?_
      refine g_iret hX hF d_Ac_paintNode_11 (by omega) (by omega) ?_
      first
        | (rw [aPaint_1 (fun q => absurd q.1 (Int32.not_le.mpr e1))]; exact ⟨rfl, hG, FrAb.rf w⟩)
        | (rw [aPaint_1 (fun q => e7 q.2)]; exact ⟨rfl, hG, FrAb.rf w⟩)
theorem c_Ac_dyeVertex {E : EV} {w : Mem} {x y : Int32} {g : GC} {u : List (Nat × Snap)} (hG : DG w g u) : T E m_Ac_dyeVertex 3 0 0 [.ref 20, .ref 1, .int x, .int y] w (fun r w2 => r = some (.int (aDye x y g u).1) ∧ DG w2 (aDye x y g u).2.1 (aDye x y g u).2.2 ∧ FrAb w w2) := by
  refine T_of (L := [.ref 20, .ref 1, .int x, .int y, un]) cf_Ac_dyeVertex rfl (Nat.le_of_ble_eq_true rfl) (fun X hX hF => ?_)
  obtain ⟨hR, hW, hA⟩ := id hG
  have hn := hW.n
  have hv := hW.v
  have he := hW.el
  refine g_iload3 hX d_Ac_dyeVertex_0 ?_
  refine g_if_lt hX d_Ac_dyeVertex_1 (fun e1 => ?_) (fun e1 => ?_)
  · refine g_iconst (v := -1) hX d_Ac_dyeVertex_10 rfl ?_
    refine g_iret hX hF d_Ac_dyeVertex_11 (by omega) (by omega) ?_
    first
      | (rw [aDye_1 (fun q => absurd q.1 (Int32.not_le.mpr e1))]; exact ⟨rfl, hG, FrAb.rf w⟩)
      | (rw [aDye_1 (fun q => e7 (le6 q.2))]; exact ⟨rfl, hG, FrAb.rf w⟩)
  · refine g_iload3 hX d_Ac_dyeVertex_4 ?_
    refine g_bipush (v := nI 6) hX d_Ac_dyeVertex_5 rfl ?_
    refine g_icmp_le hX d_Ac_dyeVertex_7 (fun e7 => ?_) (fun e7 => ?_)
    · refine g_aload1 hX d_Ac_dyeVertex_12 ?_
      refine g_iload2 hX d_Ac_dyeVertex_13 ?_
      have d9 : inN y 7 := (in6 (by decide)).mpr ⟨e1, lt7 e7⟩
      refine g_callV (As := [_]) hX hF.1 d_Ac_dyeVertex_14 ml_Ac_51 cf_Bo_hasVertex cv_Bo_hasVertex rfl rfl (c_Bo_hasVertex (show IsBo 1 from Or.inl rfl) hR hW) (rcv_obj hX (lv_1 _) rfl rfl) (by omega) (by omega) (by omega) (Nat.le_of_ble_eq_true rfl) ?_
      refine ret_k ?_
      refine g_ifB_ne hX d_Ac_dyeVertex_17 (fun e17 => ?_) (fun e17 => ?_)
      · obtain ⟨a, ha, rfl, hta⟩ := inN_of e17 (by omega)
        obtain ⟨c, hc, rfl, htc⟩ := inN_of d9 (by decide)
        have hc0 := hW.y a ha
        refine g_aload1 hX d_Ac_dyeVertex_23 ?_
        refine g_getF hX d_Ac_dyeVertex_24 fl_Ac_64 (lv_1 _) ?_
        refine g_iload2 hX d_Ac_dyeVertex_27 ?_
        refine g_iald hX d_Ac_dyeVertex_28 (lv_5 _) rfl (by omega) ?_
        refine g_topi (hR.y a ha) ?_
        refine g_istore4 hX d_Ac_dyeVertex_29 rfl (by decide) ?_
        refine g_iload4 hX d_Ac_dyeVertex_31 ?_
        refine g_iload3 hX d_Ac_dyeVertex_33 ?_
        refine g_icmpN_ne hX d_Ac_dyeVertex_34 (by omega) (by omega) (fun e34 => ?_) (fun e34 => ?_)
        · refine g_aload1 hX d_Ac_dyeVertex_40 ?_
          refine g_getF hX d_Ac_dyeVertex_41 fl_Ac_64 (lv_1 _) ?_
          refine g_iload2 hX d_Ac_dyeVertex_44 ?_
          refine g_iload3 hX d_Ac_dyeVertex_45 ?_
          refine g_iast hX d_Ac_dyeVertex_46 (lv_5 _) rfl (by omega) ?_
          refine g_aload0 hX d_Ac_dyeVertex_47 ?_
          refine g_iconst (v := nI 3) hX d_Ac_dyeVertex_48 rfl ?_
          refine g_iload2 hX d_Ac_dyeVertex_49 ?_
          refine g_iconst (v := -1) hX d_Ac_dyeVertex_50 rfl ?_
          refine g_iload4 hX d_Ac_dyeVertex_51 ?_
          have hB1 := hR.dye (k := a) (c := c)
          have hf1 : FrBo 1 w (sI w (1 + 4) a (nI c)) := (FrBo.rf 1 w).I (by omega)
          have hA1 := hA.Bo hf1
          refine g_callV (As := [_, _, _, _]) hX hF.1 d_Ac_dyeVertex_53 ml_Ac_47 cf_Ac_note cv_Ac_note rfl rfl (c_Ac_note (g := g) (u := u) (m := 3) (x := nI a) (y := -1) (z := nI (gY g a)) (show IsAc 20 from Or.inl rfl) hA1 hW (show SameK g (gDye g a c) from ⟨rfl, rfl, rfl, rfl, rfl⟩) (by decide) (⟨a, c, rfl, ha, rfl, rfl⟩)) (rcv_obj hX (lv_20 _) rfl rfl) (by omega) (by omega) (by omega) (Nat.le_of_ble_eq_true rfl) ?_
          rintro _ w2 ⟨rfl, hA2, hf2⟩
          have hB2 := hB1.Ac hf2
          have hfr : FrAb w w2 := hf1.Ab.tr hf2.Ab
          show G0 _ _ _ _ _ _ _ _
          refine g_iload4 hX d_Ac_dyeVertex_56 ?_
          refine g_iret hX hF d_Ac_dyeVertex_58 (by omega) (by omega) ?_
          rw [aDye_ok d9 e17 (by rw [hta, htc]; exact e34), hta, htc]
          exact ⟨rfl, ⟨hB2, hW.dye (by omega), hA2⟩, hfr⟩
        · refine g_bipush (v := -3) hX d_Ac_dyeVertex_37 rfl ?_
          refine g_iret hX hF d_Ac_dyeVertex_39 (by omega) (by omega) ?_
          rw [aDye_3 d9 e17 (by rw [hta, htc]; exact e34)]
          exact ⟨rfl, hG, FrAb.rf w⟩
      · refine g_bipush (v := -2) hX d_Ac_dyeVertex_20 rfl ?_
        refine g_iret hX hF d_Ac_dyeVertex_22 (by omega) (by omega) ?_
        first
          | (rw [aDye_2 d9 e17]; exact ⟨rfl, hG, FrAb.rf w⟩)
    · refine g_iconst (v := -1) hX d_Ac_dyeVertex_10 rfl ?_
      refine g_iret hX hF d_Ac_dyeVertex_11 (by omega) (by omega) ?_
      first
        | (rw [aDye_1 (fun q => absurd q.1 (Int32.not_le.mpr e1))]; exact ⟨rfl, hG, FrAb.rf w⟩)
        | (rw [aDye_1 (fun q => e7 (le6 q.2))]; exact ⟨rfl, hG, FrAb.rf w⟩)
