def m_D_came : MR := (⟨"SubgraphDesk", "came", "(I)I"⟩, prog_1_method_10_code, 2, (some .int))
theorem cf_D_came : CF m_D_came 1 := ⟨gd 726 (by decide +kernel) rfl, gd 139 (by decide +kernel) rfl, by decide +kernel, by decide, by decide +kernel⟩
theorem cv_D_came : CV m_D_came := ⟨gd 724 (by decide +kernel) rfl, gd 725 (by decide +kernel) rfl⟩
def m_D_dye : MR := (⟨"SubgraphDesk", "dye", "(II)I"⟩, prog_1_method_25_code, 3, (some .int))
theorem cf_D_dye : CF m_D_dye 2 := ⟨gd 1144 (by decide +kernel) rfl, gd 139 (by decide +kernel) rfl, by decide +kernel, by decide, by decide +kernel⟩
theorem cv_D_dye : CV m_D_dye := ⟨gd 1142 (by decide +kernel) rfl, gd 1143 (by decide +kernel) rfl⟩
def m_D_edge : MR := (⟨"SubgraphDesk", "edge", "(II)I"⟩, prog_1_method_22_code, 3, (some .int))
theorem cf_D_edge : CF m_D_edge 2 := ⟨gd 1125 (by decide +kernel) rfl, gd 139 (by decide +kernel) rfl, by decide +kernel, by decide, by decide +kernel⟩
theorem cv_D_edge : CV m_D_edge := ⟨gd 1123 (by decide +kernel) rfl, gd 1124 (by decide +kernel) rfl⟩
def m_D_fault : MR := (⟨"SubgraphDesk", "fault", "()I"⟩, prog_1_method_19_code, 1, (some .int))
theorem cf_D_fault : CF m_D_fault 0 := ⟨gd 1112 (by decide +kernel) rfl, gd 139 (by decide +kernel) rfl, by decide +kernel, by decide, by decide +kernel⟩
theorem cv_D_fault : CV m_D_fault := ⟨gd 1110 (by decide +kernel) rfl, gd 1111 (by decide +kernel) rfl⟩
def m_D_force : MR := (⟨"SubgraphDesk", "force", "(I)I"⟩, prog_1_method_21_code, 3, (some .int))
theorem cf_D_force : CF m_D_force 1 := ⟨gd 1120 (by decide +kernel) rfl, gd 139 (by decide +kernel) rfl, by decide +kernel, by decide, by decide +kernel⟩
theorem cv_D_force : CV m_D_force := ⟨gd 1118 (by decide +kernel) rfl, gd 1119 (by decide +kernel) rfl⟩
def m_D_link : MR := (⟨"SubgraphDesk", "link", "(II)I"⟩, prog_1_method_23_code, 3, (some .int))
theorem cf_D_link : CF m_D_link 2 := ⟨gd 1134 (by decide +kernel) rfl, gd 139 (by decide +kernel) rfl, by decide +kernel, by decide, by decide +kernel⟩
theorem cv_D_link : CV m_D_link := ⟨gd 1132 (by decide +kernel) rfl, gd 1133 (by decide +kernel) rfl⟩
def m_D_mostOfTerm : MR := (⟨"SubgraphDesk", "mostOfTerm", "(I)I"⟩, prog_1_method_12_code, 1, (some .int))
theorem cf_D_mostOfTerm : CF m_D_mostOfTerm 1 := ⟨gd 733 (by decide +kernel) rfl, gd 139 (by decide +kernel) rfl, by decide +kernel, by decide, by decide +kernel⟩
theorem cs_D_mostOfTerm : CS m_D_mostOfTerm := gd 732 (by decide +kernel) rfl
def m_D_node : MR := (⟨"SubgraphDesk", "node", "(I)I"⟩, prog_1_method_5_code, 2, (some .int))
theorem cf_D_node : CF m_D_node 1 := ⟨gd 603 (by decide +kernel) rfl, gd 139 (by decide +kernel) rfl, by decide +kernel, by decide, by decide +kernel⟩
theorem cv_D_node : CV m_D_node := ⟨gd 601 (by decide +kernel) rfl, gd 602 (by decide +kernel) rfl⟩
def m_D_of : MR := (⟨"SubgraphDesk", "of", "(II)I"⟩, prog_1_method_7_code, 3, (some .int))
theorem cf_D_of : CF m_D_of 2 := ⟨gd 631 (by decide +kernel) rfl, gd 139 (by decide +kernel) rfl, by decide +kernel, by decide, by decide +kernel⟩
theorem cv_D_of : CV m_D_of := ⟨gd 629 (by decide +kernel) rfl, gd 630 (by decide +kernel) rfl⟩
def m_D_paint : MR := (⟨"SubgraphDesk", "paint", "(II)I"⟩, prog_1_method_24_code, 3, (some .int))
theorem cf_D_paint : CF m_D_paint 2 := ⟨gd 1139 (by decide +kernel) rfl, gd 139 (by decide +kernel) rfl, by decide +kernel, by decide, by decide +kernel⟩
theorem cv_D_paint : CV m_D_paint := ⟨gd 1137 (by decide +kernel) rfl, gd 1138 (by decide +kernel) rfl⟩
def m_D_refuseOrGrant : MR := (⟨"SubgraphDesk", "refuseOrGrant", "(I)I"⟩, prog_1_method_4_code, 2, (some .int))
theorem cf_D_refuseOrGrant : CF m_D_refuseOrGrant 1 := ⟨gd 1130 (by decide +kernel) rfl, gd 139 (by decide +kernel) rfl, by decide +kernel, by decide, by decide +kernel⟩
theorem cv_D_refuseOrGrant : CV m_D_refuseOrGrant := ⟨gd 1129 (by decide +kernel) rfl, gd 32 (by decide +kernel) rfl⟩
def m_D_smudges : MR := (⟨"SubgraphDesk", "smudges", "()I"⟩, prog_1_method_16_code, 1, (some .int))
theorem cf_D_smudges : CF m_D_smudges 0 := ⟨gd 767 (by decide +kernel) rfl, gd 139 (by decide +kernel) rfl, by decide +kernel, by decide, by decide +kernel⟩
theorem cv_D_smudges : CV m_D_smudges := ⟨gd 765 (by decide +kernel) rfl, gd 766 (by decide +kernel) rfl⟩
def m_D_status : MR := (⟨"SubgraphDesk", "status", "()I"⟩, prog_1_method_57_code, 1, (some .int))
theorem cf_D_status : CF m_D_status 0 := ⟨gd 1448 (by decide +kernel) rfl, gd 139 (by decide +kernel) rfl, by decide +kernel, by decide, by decide +kernel⟩
theorem cv_D_status : CV m_D_status := ⟨gd 1446 (by decide +kernel) rfl, gd 1447 (by decide +kernel) rfl⟩
def m_D_stopped : MR := (⟨"SubgraphDesk", "stopped", "()I"⟩, prog_1_method_20_code, 1, (some .int))
theorem cf_D_stopped : CF m_D_stopped 0 := ⟨gd 1116 (by decide +kernel) rfl, gd 139 (by decide +kernel) rfl, by decide +kernel, by decide, by decide +kernel⟩
theorem cv_D_stopped : CV m_D_stopped := ⟨gd 1114 (by decide +kernel) rfl, gd 1115 (by decide +kernel) rfl⟩
def m_D_terms : MR := (⟨"SubgraphDesk", "terms", "(II)I"⟩, prog_1_method_11_code, 4, (some .int))
theorem cf_D_terms : CF m_D_terms 2 := ⟨gd 730 (by decide +kernel) rfl, gd 139 (by decide +kernel) rfl, by decide +kernel, by decide, by decide +kernel⟩
theorem cv_D_terms : CV m_D_terms := ⟨gd 728 (by decide +kernel) rfl, gd 729 (by decide +kernel) rfl⟩
def m_D_vertex : MR := (⟨"SubgraphDesk", "vertex", "(I)I"⟩, prog_1_method_6_code, 2, (some .int))
theorem cf_D_vertex : CF m_D_vertex 1 := ⟨gd 623 (by decide +kernel) rfl, gd 139 (by decide +kernel) rfl, by decide +kernel, by decide, by decide +kernel⟩
theorem cv_D_vertex : CV m_D_vertex := ⟨gd 621 (by decide +kernel) rfl, gd 622 (by decide +kernel) rfl⟩
theorem d_D_came_0 : Dc prog_1_method_10_code 0 (.iload_n 1) 1 1 := ⟨by decide +kernel, rfl⟩
theorem d_D_came_1 : Dj prog_1_method_10_code 1 (.ifCond .lt 26) 4 26 27 := ⟨by decide +kernel, rfl, rfl⟩
theorem d_D_came_4 : Dc prog_1_method_10_code 4 (.iload_n 1) 1 5 := ⟨by decide +kernel, rfl⟩
theorem d_D_came_5 : Dc prog_1_method_10_code 5 (.aload_n 0) 1 6 := ⟨by decide +kernel, rfl⟩
theorem d_D_came_6 : Dc prog_1_method_10_code 6 (.getfield 10) 3 9 := ⟨by decide +kernel, rfl⟩
theorem d_D_came_9 : Dc prog_1_method_10_code 9 (.getfield 156) 3 12 := ⟨by decide +kernel, rfl⟩
theorem d_D_came_12 : Dj prog_1_method_10_code 12 (.if_icmp .ge 15) 15 15 27 := ⟨by decide +kernel, rfl, rfl⟩
theorem d_D_came_15 : Dc prog_1_method_10_code 15 (.aload_n 0) 1 16 := ⟨by decide +kernel, rfl⟩
theorem d_D_came_16 : Dc prog_1_method_10_code 16 (.getfield 10) 3 19 := ⟨by decide +kernel, rfl⟩
theorem d_D_came_19 : Dc prog_1_method_10_code 19 (.getfield 159) 3 22 := ⟨by decide +kernel, rfl⟩
theorem d_D_came_22 : Dc prog_1_method_10_code 22 (.iload_n 1) 1 23 := ⟨by decide +kernel, rfl⟩
theorem d_D_came_23 : Dc prog_1_method_10_code 23 (.iaload) 1 24 := ⟨by decide +kernel, rfl⟩
theorem d_D_came_24 : Dj prog_1_method_10_code 24 (.goto 4) 27 4 28 := ⟨by decide +kernel, rfl, rfl⟩
theorem d_D_came_27 : Dc prog_1_method_10_code 27 (.iconst (-1)) 1 28 := ⟨by decide +kernel, rfl⟩
theorem d_D_came_28 : Dc prog_1_method_10_code 28 (.ireturn) 1 29 := ⟨by decide +kernel, rfl⟩
theorem d_D_dye_0 : Dc prog_1_method_25_code 0 (.aload_n 0) 1 1 := ⟨by decide +kernel, rfl⟩
theorem d_D_dye_1 : Dc prog_1_method_25_code 1 (.aload_n 0) 1 2 := ⟨by decide +kernel, rfl⟩
theorem d_D_dye_2 : Dc prog_1_method_25_code 2 (.getfield 26) 3 5 := ⟨by decide +kernel, rfl⟩
theorem d_D_dye_5 : Dc prog_1_method_25_code 5 (.aload_n 0) 1 6 := ⟨by decide +kernel, rfl⟩
theorem d_D_dye_6 : Dc prog_1_method_25_code 6 (.getfield 10) 3 9 := ⟨by decide +kernel, rfl⟩
theorem d_D_dye_9 : Dc prog_1_method_25_code 9 (.iload_n 1) 1 10 := ⟨by decide +kernel, rfl⟩
theorem d_D_dye_10 : Dc prog_1_method_25_code 10 (.iload_n 2) 1 11 := ⟨by decide +kernel, rfl⟩
theorem d_D_dye_11 : Dc prog_1_method_25_code 11 (.invokevirtual 251) 3 14 := ⟨by decide +kernel, rfl⟩
theorem d_D_dye_14 : Dc prog_1_method_25_code 14 (.invokevirtual 242) 3 17 := ⟨by decide +kernel, rfl⟩
theorem d_D_dye_17 : Dc prog_1_method_25_code 17 (.ireturn) 1 18 := ⟨by decide +kernel, rfl⟩
theorem d_D_edge_0 : Dc prog_1_method_22_code 0 (.aload_n 0) 1 1 := ⟨by decide +kernel, rfl⟩
theorem d_D_edge_1 : Dc prog_1_method_22_code 1 (.aload_n 0) 1 2 := ⟨by decide +kernel, rfl⟩
theorem d_D_edge_2 : Dc prog_1_method_22_code 2 (.getfield 26) 3 5 := ⟨by decide +kernel, rfl⟩
theorem d_D_edge_5 : Dc prog_1_method_22_code 5 (.aload_n 0) 1 6 := ⟨by decide +kernel, rfl⟩
theorem d_D_edge_6 : Dc prog_1_method_22_code 6 (.getfield 10) 3 9 := ⟨by decide +kernel, rfl⟩
theorem d_D_edge_9 : Dc prog_1_method_22_code 9 (.iload_n 1) 1 10 := ⟨by decide +kernel, rfl⟩
theorem d_D_edge_10 : Dc prog_1_method_22_code 10 (.iload_n 2) 1 11 := ⟨by decide +kernel, rfl⟩
theorem d_D_edge_11 : Dc prog_1_method_22_code 11 (.invokevirtual 238) 3 14 := ⟨by decide +kernel, rfl⟩
theorem d_D_edge_14 : Dc prog_1_method_22_code 14 (.invokevirtual 242) 3 17 := ⟨by decide +kernel, rfl⟩
theorem d_D_edge_17 : Dc prog_1_method_22_code 17 (.ireturn) 1 18 := ⟨by decide +kernel, rfl⟩
theorem d_D_fault_0 : Dc prog_1_method_19_code 0 (.aload_n 0) 1 1 := ⟨by decide +kernel, rfl⟩
theorem d_D_fault_1 : Dc prog_1_method_19_code 1 (.getfield 33) 3 4 := ⟨by decide +kernel, rfl⟩
theorem d_D_fault_4 : Dc prog_1_method_19_code 4 (.getfield 229) 3 7 := ⟨by decide +kernel, rfl⟩
theorem d_D_fault_7 : Dc prog_1_method_19_code 7 (.ireturn) 1 8 := ⟨by decide +kernel, rfl⟩
theorem d_D_force_0 : Dc prog_1_method_21_code 0 (.iload_n 1) 1 1 := ⟨by decide +kernel, rfl⟩
theorem d_D_force_1 : Dc prog_1_method_21_code 1 (.iconst (-1)) 1 2 := ⟨by decide +kernel, rfl⟩
theorem d_D_force_2 : Dj prog_1_method_21_code 2 (.if_icmp .eq 21) 5 21 23 := ⟨by decide +kernel, rfl, rfl⟩
theorem d_D_force_5 : Dc prog_1_method_21_code 5 (.aload_n 0) 1 6 := ⟨by decide +kernel, rfl⟩
theorem d_D_force_6 : Dc prog_1_method_21_code 6 (.getfield 10) 3 9 := ⟨by decide +kernel, rfl⟩
theorem d_D_force_9 : Dc prog_1_method_21_code 9 (.iload_n 1) 1 10 := ⟨by decide +kernel, rfl⟩
theorem d_D_force_10 : Dc prog_1_method_21_code 10 (.invokevirtual 232) 3 13 := ⟨by decide +kernel, rfl⟩
theorem d_D_force_13 : Dj prog_1_method_21_code 13 (.ifCond .ne 10) 16 10 23 := ⟨by decide +kernel, rfl, rfl⟩
theorem d_D_force_16 : Dc prog_1_method_21_code 16 (.aload_n 0) 1 17 := ⟨by decide +kernel, rfl⟩
theorem d_D_force_17 : Dc prog_1_method_21_code 17 (.bipush (-2)) 2 19 := ⟨by decide +kernel, rfl⟩
theorem d_D_force_19 : Dc prog_1_method_21_code 19 (.invokevirtual 91) 3 22 := ⟨by decide +kernel, rfl⟩
theorem d_D_force_22 : Dc prog_1_method_21_code 22 (.ireturn) 1 23 := ⟨by decide +kernel, rfl⟩
theorem d_D_force_23 : Dc prog_1_method_21_code 23 (.aload_n 0) 1 24 := ⟨by decide +kernel, rfl⟩
theorem d_D_force_24 : Dc prog_1_method_21_code 24 (.getfield 10) 3 27 := ⟨by decide +kernel, rfl⟩
theorem d_D_force_27 : Dc prog_1_method_21_code 27 (.getfield 235) 3 30 := ⟨by decide +kernel, rfl⟩
theorem d_D_force_30 : Dc prog_1_method_21_code 30 (.istore_n 2) 1 31 := ⟨by decide +kernel, rfl⟩
theorem d_D_force_31 : Dc prog_1_method_21_code 31 (.aload_n 0) 1 32 := ⟨by decide +kernel, rfl⟩
theorem d_D_force_32 : Dc prog_1_method_21_code 32 (.getfield 10) 3 35 := ⟨by decide +kernel, rfl⟩
theorem d_D_force_35 : Dc prog_1_method_21_code 35 (.iload_n 1) 1 36 := ⟨by decide +kernel, rfl⟩
theorem d_D_force_36 : Dc prog_1_method_21_code 36 (.putfield 235) 3 39 := ⟨by decide +kernel, rfl⟩
theorem d_D_force_39 : Dc prog_1_method_21_code 39 (.aload_n 0) 1 40 := ⟨by decide +kernel, rfl⟩
theorem d_D_force_40 : Dc prog_1_method_21_code 40 (.iload_n 2) 1 41 := ⟨by decide +kernel, rfl⟩
theorem d_D_force_41 : Dc prog_1_method_21_code 41 (.invokevirtual 95) 3 44 := ⟨by decide +kernel, rfl⟩
theorem d_D_force_44 : Dc prog_1_method_21_code 44 (.ireturn) 1 45 := ⟨by decide +kernel, rfl⟩
theorem d_D_link_0 : Dc prog_1_method_23_code 0 (.aload_n 0) 1 1 := ⟨by decide +kernel, rfl⟩
theorem d_D_link_1 : Dc prog_1_method_23_code 1 (.aload_n 0) 1 2 := ⟨by decide +kernel, rfl⟩
theorem d_D_link_2 : Dc prog_1_method_23_code 2 (.getfield 26) 3 5 := ⟨by decide +kernel, rfl⟩
theorem d_D_link_5 : Dc prog_1_method_23_code 5 (.aload_n 0) 1 6 := ⟨by decide +kernel, rfl⟩
theorem d_D_link_6 : Dc prog_1_method_23_code 6 (.getfield 10) 3 9 := ⟨by decide +kernel, rfl⟩
theorem d_D_link_9 : Dc prog_1_method_23_code 9 (.iload_n 1) 1 10 := ⟨by decide +kernel, rfl⟩
theorem d_D_link_10 : Dc prog_1_method_23_code 10 (.iload_n 2) 1 11 := ⟨by decide +kernel, rfl⟩
theorem d_D_link_11 : Dc prog_1_method_23_code 11 (.invokevirtual 245) 3 14 := ⟨by decide +kernel, rfl⟩
theorem d_D_link_14 : Dc prog_1_method_23_code 14 (.invokevirtual 242) 3 17 := ⟨by decide +kernel, rfl⟩
theorem d_D_link_17 : Dc prog_1_method_23_code 17 (.ireturn) 1 18 := ⟨by decide +kernel, rfl⟩
theorem d_D_mostOfTerm_0 : Dc prog_1_method_12_code 0 (.iload_n 0) 1 1 := ⟨by decide +kernel, rfl⟩
theorem d_D_mostOfTerm_1 : Dj prog_1_method_12_code 1 (.ifCond .ne 7) 4 7 8 := ⟨by decide +kernel, rfl, rfl⟩
theorem d_D_mostOfTerm_4 : Dc prog_1_method_12_code 4 (.sipush 999) 3 7 := ⟨by decide +kernel, rfl⟩
theorem d_D_mostOfTerm_7 : Dc prog_1_method_12_code 7 (.ireturn) 1 8 := ⟨by decide +kernel, rfl⟩
theorem d_D_mostOfTerm_8 : Dc prog_1_method_12_code 8 (.iload_n 0) 1 9 := ⟨by decide +kernel, rfl⟩
theorem d_D_mostOfTerm_9 : Dc prog_1_method_12_code 9 (.iconst 1) 1 10 := ⟨by decide +kernel, rfl⟩
theorem d_D_mostOfTerm_10 : Dj prog_1_method_12_code 10 (.if_icmp .ne 8) 13 8 18 := ⟨by decide +kernel, rfl, rfl⟩
theorem d_D_mostOfTerm_13 : Dc prog_1_method_12_code 13 (.bipush 10) 2 15 := ⟨by decide +kernel, rfl⟩
theorem d_D_mostOfTerm_15 : Dj prog_1_method_12_code 15 (.goto 5) 18 5 20 := ⟨by decide +kernel, rfl, rfl⟩
theorem d_D_mostOfTerm_18 : Dc prog_1_method_12_code 18 (.bipush 9) 2 20 := ⟨by decide +kernel, rfl⟩
theorem d_D_mostOfTerm_20 : Dc prog_1_method_12_code 20 (.ireturn) 1 21 := ⟨by decide +kernel, rfl⟩
theorem d_D_node_0 : Dc prog_1_method_5_code 0 (.iload_n 1) 1 1 := ⟨by decide +kernel, rfl⟩
theorem d_D_node_1 : Dj prog_1_method_5_code 1 (.ifCond .lt 9) 4 9 10 := ⟨by decide +kernel, rfl, rfl⟩
theorem d_D_node_4 : Dc prog_1_method_5_code 4 (.iload_n 1) 1 5 := ⟨by decide +kernel, rfl⟩
theorem d_D_node_5 : Dc prog_1_method_5_code 5 (.bipush 6) 2 7 := ⟨by decide +kernel, rfl⟩
theorem d_D_node_7 : Dj prog_1_method_5_code 7 (.if_icmp .lt 9) 10 9 16 := ⟨by decide +kernel, rfl, rfl⟩
theorem d_D_node_10 : Dc prog_1_method_5_code 10 (.aload_n 0) 1 11 := ⟨by decide +kernel, rfl⟩
theorem d_D_node_11 : Dc prog_1_method_5_code 11 (.iconst (-1)) 1 12 := ⟨by decide +kernel, rfl⟩
theorem d_D_node_12 : Dc prog_1_method_5_code 12 (.invokevirtual 91) 3 15 := ⟨by decide +kernel, rfl⟩
theorem d_D_node_15 : Dc prog_1_method_5_code 15 (.ireturn) 1 16 := ⟨by decide +kernel, rfl⟩
theorem d_D_node_16 : Dc prog_1_method_5_code 16 (.aload_n 0) 1 17 := ⟨by decide +kernel, rfl⟩
theorem d_D_node_17 : Dc prog_1_method_5_code 17 (.getfield 10) 3 20 := ⟨by decide +kernel, rfl⟩
theorem d_D_node_20 : Dc prog_1_method_5_code 20 (.getfield 98) 3 23 := ⟨by decide +kernel, rfl⟩
theorem d_D_node_23 : Dc prog_1_method_5_code 23 (.bipush 12) 2 25 := ⟨by decide +kernel, rfl⟩
theorem d_D_node_25 : Dj prog_1_method_5_code 25 (.if_icmp .lt 10) 28 10 35 := ⟨by decide +kernel, rfl, rfl⟩
theorem d_D_node_28 : Dc prog_1_method_5_code 28 (.aload_n 0) 1 29 := ⟨by decide +kernel, rfl⟩
theorem d_D_node_29 : Dc prog_1_method_5_code 29 (.bipush (-5)) 2 31 := ⟨by decide +kernel, rfl⟩
theorem d_D_node_31 : Dc prog_1_method_5_code 31 (.invokevirtual 91) 3 34 := ⟨by decide +kernel, rfl⟩
theorem d_D_node_34 : Dc prog_1_method_5_code 34 (.ireturn) 1 35 := ⟨by decide +kernel, rfl⟩
theorem d_D_node_35 : Dc prog_1_method_5_code 35 (.aload_n 0) 1 36 := ⟨by decide +kernel, rfl⟩
theorem d_D_node_36 : Dc prog_1_method_5_code 36 (.getfield 26) 3 39 := ⟨by decide +kernel, rfl⟩
theorem d_D_node_39 : Dc prog_1_method_5_code 39 (.invokevirtual 101) 3 42 := ⟨by decide +kernel, rfl⟩
theorem d_D_node_42 : Dc prog_1_method_5_code 42 (.aload_n 0) 1 43 := ⟨by decide +kernel, rfl⟩
theorem d_D_node_43 : Dc prog_1_method_5_code 43 (.aload_n 0) 1 44 := ⟨by decide +kernel, rfl⟩
theorem d_D_node_44 : Dc prog_1_method_5_code 44 (.getfield 10) 3 47 := ⟨by decide +kernel, rfl⟩
theorem d_D_node_47 : Dc prog_1_method_5_code 47 (.iload_n 1) 1 48 := ⟨by decide +kernel, rfl⟩
theorem d_D_node_48 : Dc prog_1_method_5_code 48 (.invokevirtual 104) 3 51 := ⟨by decide +kernel, rfl⟩
theorem d_D_node_51 : Dc prog_1_method_5_code 51 (.invokevirtual 95) 3 54 := ⟨by decide +kernel, rfl⟩
theorem d_D_node_54 : Dc prog_1_method_5_code 54 (.ireturn) 1 55 := ⟨by decide +kernel, rfl⟩
theorem d_D_of_0 : Dc prog_1_method_7_code 0 (.aload_n 0) 1 1 := ⟨by decide +kernel, rfl⟩
theorem d_D_of_1 : Dc prog_1_method_7_code 1 (.getfield 10) 3 4 := ⟨by decide +kernel, rfl⟩
theorem d_D_of_4 : Dc prog_1_method_7_code 4 (.iload_n 1) 1 5 := ⟨by decide +kernel, rfl⟩
theorem d_D_of_5 : Dc prog_1_method_7_code 5 (.invokevirtual 113) 3 8 := ⟨by decide +kernel, rfl⟩
theorem d_D_of_8 : Dj prog_1_method_7_code 8 (.ifCond .ne 5) 11 5 13 := ⟨by decide +kernel, rfl, rfl⟩
theorem d_D_of_11 : Dc prog_1_method_7_code 11 (.iconst (-1)) 1 12 := ⟨by decide +kernel, rfl⟩
theorem d_D_of_12 : Dc prog_1_method_7_code 12 (.ireturn) 1 13 := ⟨by decide +kernel, rfl⟩
theorem d_D_of_13 : Dc prog_1_method_7_code 13 (.iload_n 2) 1 14 := ⟨by decide +kernel, rfl⟩
theorem d_D_of_14 : Dc prog_1_method_7_code 14 (.tableswitch 55 0 2 #[26, 36, 45]) 26 40 := ⟨by decide +kernel, rfl⟩
theorem d_D_of_40 : Dc prog_1_method_7_code 40 (.aload_n 0) 1 41 := ⟨by decide +kernel, rfl⟩
theorem d_D_of_41 : Dc prog_1_method_7_code 41 (.getfield 10) 3 44 := ⟨by decide +kernel, rfl⟩
theorem d_D_of_44 : Dc prog_1_method_7_code 44 (.getfield 117) 3 47 := ⟨by decide +kernel, rfl⟩
theorem d_D_of_47 : Dc prog_1_method_7_code 47 (.iload_n 1) 1 48 := ⟨by decide +kernel, rfl⟩
theorem d_D_of_48 : Dc prog_1_method_7_code 48 (.iaload) 1 49 := ⟨by decide +kernel, rfl⟩
theorem d_D_of_49 : Dc prog_1_method_7_code 49 (.ireturn) 1 50 := ⟨by decide +kernel, rfl⟩
theorem d_D_of_50 : Dc prog_1_method_7_code 50 (.aload_n 0) 1 51 := ⟨by decide +kernel, rfl⟩
theorem d_D_of_51 : Dc prog_1_method_7_code 51 (.getfield 10) 3 54 := ⟨by decide +kernel, rfl⟩
theorem d_D_of_54 : Dc prog_1_method_7_code 54 (.iload_n 1) 1 55 := ⟨by decide +kernel, rfl⟩
theorem d_D_of_55 : Dc prog_1_method_7_code 55 (.invokevirtual 120) 3 58 := ⟨by decide +kernel, rfl⟩
theorem d_D_of_58 : Dc prog_1_method_7_code 58 (.ireturn) 1 59 := ⟨by decide +kernel, rfl⟩
theorem d_D_of_59 : Dc prog_1_method_7_code 59 (.aload_n 0) 1 60 := ⟨by decide +kernel, rfl⟩
theorem d_D_of_60 : Dc prog_1_method_7_code 60 (.getfield 10) 3 63 := ⟨by decide +kernel, rfl⟩
theorem d_D_of_63 : Dc prog_1_method_7_code 63 (.getfield 123) 3 66 := ⟨by decide +kernel, rfl⟩
theorem d_D_of_66 : Dc prog_1_method_7_code 66 (.iload_n 1) 1 67 := ⟨by decide +kernel, rfl⟩
theorem d_D_of_67 : Dc prog_1_method_7_code 67 (.iaload) 1 68 := ⟨by decide +kernel, rfl⟩
theorem d_D_of_68 : Dc prog_1_method_7_code 68 (.ireturn) 1 69 := ⟨by decide +kernel, rfl⟩
theorem d_D_of_69 : Dc prog_1_method_7_code 69 (.iconst (-1)) 1 70 := ⟨by decide +kernel, rfl⟩
theorem d_D_of_70 : Dc prog_1_method_7_code 70 (.ireturn) 1 71 := ⟨by decide +kernel, rfl⟩
theorem d_D_paint_0 : Dc prog_1_method_24_code 0 (.aload_n 0) 1 1 := ⟨by decide +kernel, rfl⟩
theorem d_D_paint_1 : Dc prog_1_method_24_code 1 (.aload_n 0) 1 2 := ⟨by decide +kernel, rfl⟩
theorem d_D_paint_2 : Dc prog_1_method_24_code 2 (.getfield 26) 3 5 := ⟨by decide +kernel, rfl⟩
theorem d_D_paint_5 : Dc prog_1_method_24_code 5 (.aload_n 0) 1 6 := ⟨by decide +kernel, rfl⟩
theorem d_D_paint_6 : Dc prog_1_method_24_code 6 (.getfield 10) 3 9 := ⟨by decide +kernel, rfl⟩
theorem d_D_paint_9 : Dc prog_1_method_24_code 9 (.iload_n 1) 1 10 := ⟨by decide +kernel, rfl⟩
theorem d_D_paint_10 : Dc prog_1_method_24_code 10 (.iload_n 2) 1 11 := ⟨by decide +kernel, rfl⟩
theorem d_D_paint_11 : Dc prog_1_method_24_code 11 (.invokevirtual 248) 3 14 := ⟨by decide +kernel, rfl⟩
theorem d_D_paint_14 : Dc prog_1_method_24_code 14 (.invokevirtual 242) 3 17 := ⟨by decide +kernel, rfl⟩
theorem d_D_paint_17 : Dc prog_1_method_24_code 17 (.ireturn) 1 18 := ⟨by decide +kernel, rfl⟩
theorem d_D_refuseOrGrant_0 : Dc prog_1_method_4_code 0 (.iload_n 1) 1 1 := ⟨by decide +kernel, rfl⟩
theorem d_D_refuseOrGrant_1 : Dj prog_1_method_4_code 1 (.ifCond .ge 11) 4 11 12 := ⟨by decide +kernel, rfl, rfl⟩
theorem d_D_refuseOrGrant_4 : Dc prog_1_method_4_code 4 (.aload_n 0) 1 5 := ⟨by decide +kernel, rfl⟩
theorem d_D_refuseOrGrant_5 : Dc prog_1_method_4_code 5 (.iload_n 1) 1 6 := ⟨by decide +kernel, rfl⟩
theorem d_D_refuseOrGrant_6 : Dc prog_1_method_4_code 6 (.invokevirtual 91) 3 9 := ⟨by decide +kernel, rfl⟩
theorem d_D_refuseOrGrant_9 : Dj prog_1_method_4_code 9 (.goto 8) 12 8 17 := ⟨by decide +kernel, rfl, rfl⟩
theorem d_D_refuseOrGrant_12 : Dc prog_1_method_4_code 12 (.aload_n 0) 1 13 := ⟨by decide +kernel, rfl⟩
theorem d_D_refuseOrGrant_13 : Dc prog_1_method_4_code 13 (.iload_n 1) 1 14 := ⟨by decide +kernel, rfl⟩
theorem d_D_refuseOrGrant_14 : Dc prog_1_method_4_code 14 (.invokevirtual 95) 3 17 := ⟨by decide +kernel, rfl⟩
theorem d_D_refuseOrGrant_17 : Dc prog_1_method_4_code 17 (.ireturn) 1 18 := ⟨by decide +kernel, rfl⟩
theorem d_D_smudges_0 : Dc prog_1_method_16_code 0 (.aload_n 0) 1 1 := ⟨by decide +kernel, rfl⟩
theorem d_D_smudges_1 : Dc prog_1_method_16_code 1 (.getfield 192) 3 4 := ⟨by decide +kernel, rfl⟩
theorem d_D_smudges_4 : Dc prog_1_method_16_code 4 (.ireturn) 1 5 := ⟨by decide +kernel, rfl⟩
theorem d_D_status_0 : Dc prog_1_method_57_code 0 (.aload_n 0) 1 1 := ⟨by decide +kernel, rfl⟩
theorem d_D_status_1 : Dc prog_1_method_57_code 1 (.getfield 87) 3 4 := ⟨by decide +kernel, rfl⟩
theorem d_D_status_4 : Dc prog_1_method_57_code 4 (.ireturn) 1 5 := ⟨by decide +kernel, rfl⟩
theorem d_D_stopped_0 : Dc prog_1_method_20_code 0 (.aload_n 0) 1 1 := ⟨by decide +kernel, rfl⟩
theorem d_D_stopped_1 : Dc prog_1_method_20_code 1 (.getfield 75) 3 4 := ⟨by decide +kernel, rfl⟩
theorem d_D_stopped_4 : Dc prog_1_method_20_code 4 (.getfield 215) 3 7 := ⟨by decide +kernel, rfl⟩
theorem d_D_stopped_7 : Dc prog_1_method_20_code 7 (.ireturn) 1 8 := ⟨by decide +kernel, rfl⟩
theorem d_D_terms_0 : Dc prog_1_method_11_code 0 (.iload_n 1) 1 1 := ⟨by decide +kernel, rfl⟩
theorem d_D_terms_1 : Dj prog_1_method_11_code 1 (.ifCond .lt 20) 4 20 21 := ⟨by decide +kernel, rfl, rfl⟩
theorem d_D_terms_4 : Dc prog_1_method_11_code 4 (.iload_n 1) 1 5 := ⟨by decide +kernel, rfl⟩
theorem d_D_terms_5 : Dc prog_1_method_11_code 5 (.iconst 3) 1 6 := ⟨by decide +kernel, rfl⟩
theorem d_D_terms_6 : Dj prog_1_method_11_code 6 (.if_icmp .ge 15) 9 15 21 := ⟨by decide +kernel, rfl, rfl⟩
theorem d_D_terms_9 : Dc prog_1_method_11_code 9 (.iload_n 2) 1 10 := ⟨by decide +kernel, rfl⟩
theorem d_D_terms_10 : Dj prog_1_method_11_code 10 (.ifCond .lt 11) 13 11 21 := ⟨by decide +kernel, rfl, rfl⟩
theorem d_D_terms_13 : Dc prog_1_method_11_code 13 (.iload_n 2) 1 14 := ⟨by decide +kernel, rfl⟩
theorem d_D_terms_14 : Dc prog_1_method_11_code 14 (.iload_n 1) 1 15 := ⟨by decide +kernel, rfl⟩
theorem d_D_terms_15 : Dc prog_1_method_11_code 15 (.invokestatic 162) 3 18 := ⟨by decide +kernel, rfl⟩
theorem d_D_terms_18 : Dj prog_1_method_11_code 18 (.if_icmp .le 9) 21 9 27 := ⟨by decide +kernel, rfl, rfl⟩
theorem d_D_terms_21 : Dc prog_1_method_11_code 21 (.aload_n 0) 1 22 := ⟨by decide +kernel, rfl⟩
theorem d_D_terms_22 : Dc prog_1_method_11_code 22 (.iconst (-1)) 1 23 := ⟨by decide +kernel, rfl⟩
theorem d_D_terms_23 : Dc prog_1_method_11_code 23 (.invokevirtual 91) 3 26 := ⟨by decide +kernel, rfl⟩
theorem d_D_terms_26 : Dc prog_1_method_11_code 26 (.ireturn) 1 27 := ⟨by decide +kernel, rfl⟩
theorem d_D_terms_27 : Dc prog_1_method_11_code 27 (.aload_n 0) 1 28 := ⟨by decide +kernel, rfl⟩
theorem d_D_terms_28 : Dc prog_1_method_11_code 28 (.getfield 10) 3 31 := ⟨by decide +kernel, rfl⟩
theorem d_D_terms_31 : Dc prog_1_method_11_code 31 (.getfield 165) 3 34 := ⟨by decide +kernel, rfl⟩
theorem d_D_terms_34 : Dc prog_1_method_11_code 34 (.iload_n 1) 1 35 := ⟨by decide +kernel, rfl⟩
theorem d_D_terms_35 : Dc prog_1_method_11_code 35 (.iaload) 1 36 := ⟨by decide +kernel, rfl⟩
theorem d_D_terms_36 : Dc prog_1_method_11_code 36 (.istore_n 3) 1 37 := ⟨by decide +kernel, rfl⟩
theorem d_D_terms_37 : Dc prog_1_method_11_code 37 (.aload_n 0) 1 38 := ⟨by decide +kernel, rfl⟩
theorem d_D_terms_38 : Dc prog_1_method_11_code 38 (.getfield 10) 3 41 := ⟨by decide +kernel, rfl⟩
theorem d_D_terms_41 : Dc prog_1_method_11_code 41 (.getfield 165) 3 44 := ⟨by decide +kernel, rfl⟩
theorem d_D_terms_44 : Dc prog_1_method_11_code 44 (.iload_n 1) 1 45 := ⟨by decide +kernel, rfl⟩
theorem d_D_terms_45 : Dc prog_1_method_11_code 45 (.iload_n 2) 1 46 := ⟨by decide +kernel, rfl⟩
theorem d_D_terms_46 : Dc prog_1_method_11_code 46 (.iastore) 1 47 := ⟨by decide +kernel, rfl⟩
theorem d_D_terms_47 : Dc prog_1_method_11_code 47 (.aload_n 0) 1 48 := ⟨by decide +kernel, rfl⟩
theorem d_D_terms_48 : Dc prog_1_method_11_code 48 (.getfield 26) 3 51 := ⟨by decide +kernel, rfl⟩
theorem d_D_terms_51 : Dc prog_1_method_11_code 51 (.invokevirtual 101) 3 54 := ⟨by decide +kernel, rfl⟩
theorem d_D_terms_54 : Dc prog_1_method_11_code 54 (.aload_n 0) 1 55 := ⟨by decide +kernel, rfl⟩
theorem d_D_terms_55 : Dc prog_1_method_11_code 55 (.iload_n 3) 1 56 := ⟨by decide +kernel, rfl⟩
theorem d_D_terms_56 : Dc prog_1_method_11_code 56 (.invokevirtual 95) 3 59 := ⟨by decide +kernel, rfl⟩
theorem d_D_terms_59 : Dc prog_1_method_11_code 59 (.ireturn) 1 60 := ⟨by decide +kernel, rfl⟩
theorem d_D_vertex_0 : Dc prog_1_method_6_code 0 (.iload_n 1) 1 1 := ⟨by decide +kernel, rfl⟩
theorem d_D_vertex_1 : Dj prog_1_method_6_code 1 (.ifCond .lt 9) 4 9 10 := ⟨by decide +kernel, rfl, rfl⟩
theorem d_D_vertex_4 : Dc prog_1_method_6_code 4 (.iload_n 1) 1 5 := ⟨by decide +kernel, rfl⟩
theorem d_D_vertex_5 : Dc prog_1_method_6_code 5 (.bipush 6) 2 7 := ⟨by decide +kernel, rfl⟩
theorem d_D_vertex_7 : Dj prog_1_method_6_code 7 (.if_icmp .le 9) 10 9 16 := ⟨by decide +kernel, rfl, rfl⟩
theorem d_D_vertex_10 : Dc prog_1_method_6_code 10 (.aload_n 0) 1 11 := ⟨by decide +kernel, rfl⟩
theorem d_D_vertex_11 : Dc prog_1_method_6_code 11 (.iconst (-1)) 1 12 := ⟨by decide +kernel, rfl⟩
theorem d_D_vertex_12 : Dc prog_1_method_6_code 12 (.invokevirtual 91) 3 15 := ⟨by decide +kernel, rfl⟩
theorem d_D_vertex_15 : Dc prog_1_method_6_code 15 (.ireturn) 1 16 := ⟨by decide +kernel, rfl⟩
theorem d_D_vertex_16 : Dc prog_1_method_6_code 16 (.aload_n 0) 1 17 := ⟨by decide +kernel, rfl⟩
theorem d_D_vertex_17 : Dc prog_1_method_6_code 17 (.getfield 10) 3 20 := ⟨by decide +kernel, rfl⟩
theorem d_D_vertex_20 : Dc prog_1_method_6_code 20 (.getfield 107) 3 23 := ⟨by decide +kernel, rfl⟩
theorem d_D_vertex_23 : Dc prog_1_method_6_code 23 (.iconst 5) 1 24 := ⟨by decide +kernel, rfl⟩
theorem d_D_vertex_24 : Dj prog_1_method_6_code 24 (.if_icmp .lt 10) 27 10 34 := ⟨by decide +kernel, rfl, rfl⟩
theorem d_D_vertex_27 : Dc prog_1_method_6_code 27 (.aload_n 0) 1 28 := ⟨by decide +kernel, rfl⟩
theorem d_D_vertex_28 : Dc prog_1_method_6_code 28 (.bipush (-5)) 2 30 := ⟨by decide +kernel, rfl⟩
theorem d_D_vertex_30 : Dc prog_1_method_6_code 30 (.invokevirtual 91) 3 33 := ⟨by decide +kernel, rfl⟩
theorem d_D_vertex_33 : Dc prog_1_method_6_code 33 (.ireturn) 1 34 := ⟨by decide +kernel, rfl⟩
theorem d_D_vertex_34 : Dc prog_1_method_6_code 34 (.aload_n 0) 1 35 := ⟨by decide +kernel, rfl⟩
theorem d_D_vertex_35 : Dc prog_1_method_6_code 35 (.getfield 26) 3 38 := ⟨by decide +kernel, rfl⟩
theorem d_D_vertex_38 : Dc prog_1_method_6_code 38 (.invokevirtual 101) 3 41 := ⟨by decide +kernel, rfl⟩
theorem d_D_vertex_41 : Dc prog_1_method_6_code 41 (.aload_n 0) 1 42 := ⟨by decide +kernel, rfl⟩
theorem d_D_vertex_42 : Dc prog_1_method_6_code 42 (.aload_n 0) 1 43 := ⟨by decide +kernel, rfl⟩
theorem d_D_vertex_43 : Dc prog_1_method_6_code 43 (.getfield 10) 3 46 := ⟨by decide +kernel, rfl⟩
theorem d_D_vertex_46 : Dc prog_1_method_6_code 46 (.iload_n 1) 1 47 := ⟨by decide +kernel, rfl⟩
theorem d_D_vertex_47 : Dc prog_1_method_6_code 47 (.invokevirtual 110) 3 50 := ⟨by decide +kernel, rfl⟩
theorem d_D_vertex_50 : Dc prog_1_method_6_code 50 (.invokevirtual 95) 3 53 := ⟨by decide +kernel, rfl⟩
theorem d_D_vertex_53 : Dc prog_1_method_6_code 53 (.ireturn) 1 54 := ⟨by decide +kernel, rfl⟩
theorem fl_D_10 : FL "SubgraphDesk" 10 0 0 true (.object "SubgraphDesk$Board") (3, 1) := ⟨R_D, F_D, 15, ty_D, rfl, rfl, in_D, tyok_D, nm_D, by decide, gd 554 (by decide +kernel) rfl, rfl, rfl, rfl⟩
theorem fl_D_26 : FL "SubgraphDesk" 26 0 3 true (.object "SubgraphDesk$Acts") (3, 20) := ⟨R_D, F_D, 15, ty_D, rfl, rfl, in_D, tyok_D, nm_D, by decide, gd 557 (by decide +kernel) rfl, rfl, rfl, rfl⟩
theorem fl_D_33 : FL "SubgraphDesk" 33 0 4 true (.object "SubgraphDesk$Reader") (3, 25) := ⟨R_D, F_D, 15, ty_D, rfl, rfl, in_D, tyok_D, nm_D, by decide, gd 558 (by decide +kernel) rfl, rfl, rfl, rfl⟩
theorem fl_D_75 : FL "SubgraphDesk" 75 0 10 true (.object "SubgraphDesk$Runner") (3, 53) := ⟨R_D, F_D, 15, ty_D, rfl, rfl, in_D, tyok_D, nm_D, by decide, gd 564 (by decide +kernel) rfl, rfl, rfl, rfl⟩
theorem fl_D_98 : FL "SubgraphDesk" 98 2 0 false .int (0, 0) := ⟨R_Bo, F_Bo, 15, ty_Bo, rfl, rfl, in_Bo, tyok_Bo, nm_Bo, by decide, gd 180 (by decide +kernel) rfl, rfl, rfl, rfl⟩
theorem fl_D_107 : FL "SubgraphDesk" 107 2 5 false .int (0, 0) := ⟨R_Bo, F_Bo, 15, ty_Bo, rfl, rfl, in_Bo, tyok_Bo, nm_Bo, by decide, gd 204 (by decide +kernel) rfl, rfl, rfl, rfl⟩
theorem fl_D_117 : FL "SubgraphDesk" 117 2 1 true (.array .int) (3, 1) := ⟨R_Bo, F_Bo, 15, ty_Bo, rfl, rfl, in_Bo, tyok_Bo, nm_Bo, by decide, gd 184 (by decide +kernel) rfl, rfl, rfl, rfl⟩
theorem fl_D_123 : FL "SubgraphDesk" 123 2 2 true (.array .int) (3, 2) := ⟨R_Bo, F_Bo, 15, ty_Bo, rfl, rfl, in_Bo, tyok_Bo, nm_Bo, by decide, gd 191 (by decide +kernel) rfl, rfl, rfl, rfl⟩
theorem fl_D_156 : FL "SubgraphDesk" 156 2 3 false .int (0, 0) := ⟨R_Bo, F_Bo, 15, ty_Bo, rfl, rfl, in_Bo, tyok_Bo, nm_Bo, by decide, gd 195 (by decide +kernel) rfl, rfl, rfl, rfl⟩
theorem fl_D_159 : FL "SubgraphDesk" 159 2 4 true (.array .int) (3, 3) := ⟨R_Bo, F_Bo, 15, ty_Bo, rfl, rfl, in_Bo, tyok_Bo, nm_Bo, by decide, gd 197 (by decide +kernel) rfl, rfl, rfl, rfl⟩
theorem fl_D_165 : FL "SubgraphDesk" 165 2 10 true (.array .int) (3, 7) := ⟨R_Bo, F_Bo, 15, ty_Bo, rfl, rfl, in_Bo, tyok_Bo, nm_Bo, by decide, gd 225 (by decide +kernel) rfl, rfl, rfl, rfl⟩
theorem fl_D_192 : FL "SubgraphDesk" 192 0 14 false .int (0, 0) := ⟨R_D, F_D, 15, ty_D, rfl, rfl, in_D, tyok_D, nm_D, by decide, gd 568 (by decide +kernel) rfl, rfl, rfl, rfl⟩
theorem fl_D_215 : FL "SubgraphDesk" 215 8 9 false .int (0, 0) := ⟨R_Ru, F_Ru, 10, ty_Ru, rfl, rfl, in_Ru, tyok_Ru, nm_Ru, by decide, gd 532 (by decide +kernel) rfl, rfl, rfl, rfl⟩
theorem fl_D_229 : FL "SubgraphDesk" 229 7 4 false .int (0, 0) := ⟨R_Re, F_Re, 5, ty_Re, rfl, rfl, in_Re, tyok_Re, nm_Re, by decide, gd 356 (by decide +kernel) rfl, rfl, rfl, rfl⟩
theorem fl_D_235 : FL "SubgraphDesk" 235 2 12 false .int (0, 0) := ⟨R_Bo, F_Bo, 15, ty_Bo, rfl, rfl, in_Bo, tyok_Bo, nm_Bo, by decide, gd 229 (by decide +kernel) rfl, rfl, rfl, rfl⟩
theorem ml_D_91 : Cond.methodLink "SubgraphDesk" 91 m_D_refuse.1 ∈ lw_gd := gd 604 (by decide +kernel) rfl
theorem ml_D_95 : Cond.methodLink "SubgraphDesk" 95 m_D_grant.1 ∈ lw_gd := gd 616 (by decide +kernel) rfl
theorem ml_D_101 : Cond.methodLink "SubgraphDesk" 101 m_Ac_clearAll.1 ∈ lw_gd := gd 608 (by decide +kernel) rfl
theorem ml_D_104 : Cond.methodLink "SubgraphDesk" 104 m_Bo_addNode.1 ∈ lw_gd := gd 612 (by decide +kernel) rfl
theorem ml_D_110 : Cond.methodLink "SubgraphDesk" 110 m_Bo_addVertex.1 ∈ lw_gd := gd 624 (by decide +kernel) rfl
theorem ml_D_113 : Cond.methodLink "SubgraphDesk" 113 m_Bo_hasNode.1 ∈ lw_gd := gd 632 (by decide +kernel) rfl
theorem ml_D_120 : Cond.methodLink "SubgraphDesk" 120 m_Bo_degreeOf.1 ∈ lw_gd := gd 636 (by decide +kernel) rfl
theorem ml_D_162 : Cond.methodLink "SubgraphDesk" 162 m_D_mostOfTerm.1 ∈ lw_gd := gd 731 (by decide +kernel) rfl
theorem ml_D_232 : Cond.methodLink "SubgraphDesk" 232 m_Bo_hasLaw.1 ∈ lw_gd := gd 1121 (by decide +kernel) rfl
theorem ml_D_238 : Cond.methodLink "SubgraphDesk" 238 m_Ac_joinNodes.1 ∈ lw_gd := gd 1126 (by decide +kernel) rfl
theorem ml_D_242 : Cond.methodLink "SubgraphDesk" 242 m_D_refuseOrGrant.1 ∈ lw_gd := gd 1127 (by decide +kernel) rfl
theorem ml_D_245 : Cond.methodLink "SubgraphDesk" 245 m_Ac_tieVertices.1 ∈ lw_gd := gd 1135 (by decide +kernel) rfl
theorem ml_D_248 : Cond.methodLink "SubgraphDesk" 248 m_Ac_paintNode.1 ∈ lw_gd := gd 1140 (by decide +kernel) rfl
theorem ml_D_251 : Cond.methodLink "SubgraphDesk" 251 m_Ac_dyeVertex.1 ∈ lw_gd := gd 1145 (by decide +kernel) rfl
/-! ===== the desk's methods ===== -/
theorem DRf.ab {w w2 : Mem} {rf : Nat → Int32} {st : Int32} (h : DRf w rf st) (f : FrAb w w2) : DRf w2 rf st := h.fr (f.1 70 (by decide) (by decide)) (by rw [f.1 0 (Or.inl rfl) (by decide)])
theorem DG.r {w w2 : Mem} {g : GC} {u : List (Nat × Snap)} (h : DG w g u) (f : DkR w w2) : DG w2 g u := h.fr (fun a ha => f.1 a (by omega) (by omega))
theorem ActP.nil {w : Mem} {a : Nat} {g : GC} (h : rI w a 0 = nI 0) : ActP w a g [] := ⟨Nat.zero_le _, h, fun k q hq => by simp at hq⟩
theorem DInv.ok {w w1 w2 : Mem} {s : SG} {g : GC} {u : List (Nat × Snap)} (h : DInv w s) (hG1 : DG w1 g u) (hl : gL g = gL (sG s)) (f1 : FrAb w w1) (hF2 : DRf w2 (sRf s) (nI 0)) (f2 : DkR w1 w2) : DInv w2 (g, sTp s, u, sIm s, sRf s, nI 0, sFa s, sSm s, sSp s, sDr s) := h.n (hG1.r f2) hl (f1.N.tr f2.N) hF2
theorem FrAb.clr (w : Mem) : FrAb w (sI w 20 0 (nI 0)) := (FrAb.rf w).I (by omega)
theorem BRow.clr {w : Mem} {g : GC} (h : BRow w 1 g) : BRow (sI w 20 0 (nI 0)) 1 g := h.fr (fun o h1 h2 => rI_sI_ne _ _ _ (by omega))
theorem c_D_node {E : EV} {w : Mem} {c : Int32} {s : SG} (h : DInv w s) : T E m_D_node 2 0 0 [.ref 0, .int c] w (fun r w2 => r = some (.int (opNode c s).1) ∧ DInv w2 (opNode c s).2 ∧ DkD w w2) := by
  refine T_of (L := [.ref 0, .int c]) cf_D_node rfl (Nat.le_of_ble_eq_true rfl) (fun X hX hF => ?_)
  obtain ⟨⟨hR, hW, hA⟩, hL, hT, hI, hRF, ⟨hsm, hfa, hsp⟩, hdr, hfx⟩ := id h
  have hn := hW.n
  have hv := hW.v
  have he := hW.el
  have hll := hW.ll
  have hsl := hW.sl
  refine g_iload1 hX d_D_node_0 ?_
  refine g_if_lt hX d_D_node_1 (fun e1 => ?_) (fun e1 => ?_)
  · refine g_aload0 hX d_D_node_10 ?_
    refine g_iconst (v := -1) hX d_D_node_11 rfl ?_
    refine g_callV (As := [_]) hX hF.1 d_D_node_12 ml_D_91 cf_D_refuse cv_D_refuse rfl rfl (c_D_refuse1 hRF) (rcv_obj hX (lv_0 _) rfl rfl) (by omega) (by omega) (by omega) (Nat.le_of_ble_eq_true rfl) ?_
    rintro _ w2 ⟨rfl, hF2, hf2⟩
    show G0 _ _ _ _ _ _ _ _
    refine g_iret hX hF d_D_node_15 (by omega) (by omega) ?_
    have d0 : ¬ inN c 6 := fun q => by first | exact absurd e1 ((in6 (by decide)).mp q).1 | exact absurd ((in6 (by decide)).mp q).2 e7 | exact absurd (le6 ((in6 (by decide)).mp q).2) e7
    unfold opNode
    rw [if_pos d0]
    exact ⟨rfl, h.no hf2 hF2, hf2.N.D⟩
  · refine g_iload1 hX d_D_node_4 ?_
    refine g_bipush (v := nI 6) hX d_D_node_5 rfl ?_
    refine g_icmp_lt hX d_D_node_7 (fun e7 => ?_) (fun e7 => ?_)
    · have d0 : inN c 6 := (in6 (by decide)).mpr ⟨e1, e7⟩
      obtain ⟨j, hj, rfl, htn⟩ := inN_of d0 (by decide)
      refine g_aload0 hX d_D_node_16 ?_
      refine g_getF hX d_D_node_17 fl_D_10 (lv_0 _) ?_
      refine g_getI hX d_D_node_20 fl_D_98 (lv_1 _) ?_
      refine g_topi hR.n ?_
      refine g_bipush (v := nI 12) hX d_D_node_23 rfl ?_
      refine g_icmpN_lt hX d_D_node_25 (by omega) (by omega) (fun e25 => ?_) (fun e25 => ?_)
      · refine g_aload0 hX d_D_node_35 ?_
        refine g_getF hX d_D_node_36 fl_D_26 (lv_0 _) ?_
        refine g_callV (As := []) hX hF.1 d_D_node_39 ml_D_101 cf_Ac_clearAll cv_Ac_clearAll rfl rfl (c_Ac_clearAll (Or.inl rfl)) (rcv_obj hX (lv_20 _) rfl rfl) (by omega) (by omega) (by omega) (Nat.le_of_ble_eq_true rfl) ?_
        refine ret_k ?_
        refine g_aload0 hX d_D_node_42 ?_
        refine g_aload0 hX d_D_node_43 ?_
        refine g_getF hX d_D_node_44 fl_D_10 (lv_0 _) ?_
        refine g_iload1 hX d_D_node_47 ?_
        refine g_callV (As := [_]) hX hF.1 d_D_node_48 ml_D_104 cf_Bo_addNode cv_Bo_addNode rfl rfl (c_Bo_addNode isBo1 hR.clr hW (by omega)) (rcv_obj hX (lv_1 _) rfl rfl) (by omega) (by omega) (by omega) (Nat.le_of_ble_eq_true rfl) ?_
        rintro _ w1 ⟨rfl, hB1, hf1⟩
        have hab : FrAb w w1 := (FrAb.clr w).tr hf1.Ab
        have hF1 := hRF.ab hab
        show G0 _ _ _ _ _ _ _ _
        refine g_callV (As := [_]) hX hF.1 d_D_node_51 ml_D_95 cf_D_grant cv_D_grant rfl rfl (c_D_grant (y := nI (gN (sG s))) hF1) (rcv_obj hX (lv_0 _) rfl rfl) (by omega) (by omega) (by omega) (Nat.le_of_ble_eq_true rfl) ?_
        rintro _ w2 ⟨rfl, hF2, hf2⟩
        show G0 _ _ _ _ _ _ _ _
        refine g_iret hX hF d_D_node_54 (by omega) (by omega) ?_
        unfold opNode
        rw [if_neg (not_not_intro d0), if_neg (by omega), htn]
        refine ⟨rfl, h.ok ⟨hB1, hW.addN (by omega) (by omega), ActP.nil ?_⟩ rfl hab hF2 hf2, (hab.N.tr hf2.N).D⟩
        rw [hf1.1 20 (by omega), rI_sI, upd_eq, if_pos rfl]
      · refine g_aload0 hX d_D_node_28 ?_
        refine g_bipush (v := -5) hX d_D_node_29 rfl ?_
        refine g_callV (As := [_]) hX hF.1 d_D_node_31 ml_D_91 cf_D_refuse cv_D_refuse rfl rfl (c_D_refuse5 hRF) (rcv_obj hX (lv_0 _) rfl rfl) (by omega) (by omega) (by omega) (Nat.le_of_ble_eq_true rfl) ?_
        rintro _ w2 ⟨rfl, hF2, hf2⟩
        show G0 _ _ _ _ _ _ _ _
        refine g_iret hX hF d_D_node_34 (by omega) (by omega) ?_
        unfold opNode
        rw [if_neg (not_not_intro d0), if_pos (by omega)]
        exact ⟨rfl, h.no hf2 hF2, hf2.N.D⟩
    · refine g_aload0 hX d_D_node_10 ?_
      refine g_iconst (v := -1) hX d_D_node_11 rfl ?_
      refine g_callV (As := [_]) hX hF.1 d_D_node_12 ml_D_91 cf_D_refuse cv_D_refuse rfl rfl (c_D_refuse1 hRF) (rcv_obj hX (lv_0 _) rfl rfl) (by omega) (by omega) (by omega) (Nat.le_of_ble_eq_true rfl) ?_
      rintro _ w2 ⟨rfl, hF2, hf2⟩
      show G0 _ _ _ _ _ _ _ _
      refine g_iret hX hF d_D_node_15 (by omega) (by omega) ?_
      have d0 : ¬ inN c 6 := fun q => by first | exact absurd e1 ((in6 (by decide)).mp q).1 | exact absurd ((in6 (by decide)).mp q).2 e7 | exact absurd (le6 ((in6 (by decide)).mp q).2) e7
      unfold opNode
      rw [if_pos d0]
      exact ⟨rfl, h.no hf2 hF2, hf2.N.D⟩
theorem c_D_vertex {E : EV} {w : Mem} {c : Int32} {s : SG} (h : DInv w s) : T E m_D_vertex 2 0 0 [.ref 0, .int c] w (fun r w2 => r = some (.int (opVertex c s).1) ∧ DInv w2 (opVertex c s).2 ∧ DkD w w2) := by
  refine T_of (L := [.ref 0, .int c]) cf_D_vertex rfl (Nat.le_of_ble_eq_true rfl) (fun X hX hF => ?_)
  obtain ⟨⟨hR, hW, hA⟩, hL, hT, hI, hRF, ⟨hsm, hfa, hsp⟩, hdr, hfx⟩ := id h
  have hn := hW.n
  have hv := hW.v
  have he := hW.el
  have hll := hW.ll
  have hsl := hW.sl
  refine g_iload1 hX d_D_vertex_0 ?_
  refine g_if_lt hX d_D_vertex_1 (fun e1 => ?_) (fun e1 => ?_)
  · refine g_aload0 hX d_D_vertex_10 ?_
    refine g_iconst (v := -1) hX d_D_vertex_11 rfl ?_
    refine g_callV (As := [_]) hX hF.1 d_D_vertex_12 ml_D_91 cf_D_refuse cv_D_refuse rfl rfl (c_D_refuse1 hRF) (rcv_obj hX (lv_0 _) rfl rfl) (by omega) (by omega) (by omega) (Nat.le_of_ble_eq_true rfl) ?_
    rintro _ w2 ⟨rfl, hF2, hf2⟩
    show G0 _ _ _ _ _ _ _ _
    refine g_iret hX hF d_D_vertex_15 (by omega) (by omega) ?_
    have d0 : ¬ inN c 7 := fun q => by first | exact absurd e1 ((in6 (by decide)).mp q).1 | exact absurd ((in6 (by decide)).mp q).2 e7 | exact absurd (le6 ((in6 (by decide)).mp q).2) e7
    unfold opVertex
    rw [if_pos d0]
    exact ⟨rfl, h.no hf2 hF2, hf2.N.D⟩
  · refine g_iload1 hX d_D_vertex_4 ?_
    refine g_bipush (v := nI 6) hX d_D_vertex_5 rfl ?_
    refine g_icmp_le hX d_D_vertex_7 (fun e7 => ?_) (fun e7 => ?_)
    · have d0 : inN c 7 := (in6 (by decide)).mpr ⟨e1, lt7 e7⟩
      obtain ⟨j, hj, rfl, htn⟩ := inN_of d0 (by decide)
      refine g_aload0 hX d_D_vertex_16 ?_
      refine g_getF hX d_D_vertex_17 fl_D_10 (lv_0 _) ?_
      refine g_getI hX d_D_vertex_20 fl_D_107 (lv_1 _) ?_
      refine g_topi hR.v ?_
      refine g_iconst (v := nI 5) hX d_D_vertex_23 rfl ?_
      refine g_icmpN_lt hX d_D_vertex_24 (by omega) (by omega) (fun e25 => ?_) (fun e25 => ?_)
      · refine g_aload0 hX d_D_vertex_34 ?_
        refine g_getF hX d_D_vertex_35 fl_D_26 (lv_0 _) ?_
        refine g_callV (As := []) hX hF.1 d_D_vertex_38 ml_D_101 cf_Ac_clearAll cv_Ac_clearAll rfl rfl (c_Ac_clearAll (Or.inl rfl)) (rcv_obj hX (lv_20 _) rfl rfl) (by omega) (by omega) (by omega) (Nat.le_of_ble_eq_true rfl) ?_
        refine ret_k ?_
        refine g_aload0 hX d_D_vertex_41 ?_
        refine g_aload0 hX d_D_vertex_42 ?_
        refine g_getF hX d_D_vertex_43 fl_D_10 (lv_0 _) ?_
        refine g_iload1 hX d_D_vertex_46 ?_
        refine g_callV (As := [_]) hX hF.1 d_D_vertex_47 ml_D_110 cf_Bo_addVertex cv_Bo_addVertex rfl rfl (c_Bo_addVertex isBo1 hR.clr hW (by omega)) (rcv_obj hX (lv_1 _) rfl rfl) (by omega) (by omega) (by omega) (Nat.le_of_ble_eq_true rfl) ?_
        rintro _ w1 ⟨rfl, hB1, hf1⟩
        have hab : FrAb w w1 := (FrAb.clr w).tr hf1.Ab
        have hF1 := hRF.ab hab
        show G0 _ _ _ _ _ _ _ _
        refine g_callV (As := [_]) hX hF.1 d_D_vertex_50 ml_D_95 cf_D_grant cv_D_grant rfl rfl (c_D_grant (y := nI (gV (sG s))) hF1) (rcv_obj hX (lv_0 _) rfl rfl) (by omega) (by omega) (by omega) (Nat.le_of_ble_eq_true rfl) ?_
        rintro _ w2 ⟨rfl, hF2, hf2⟩
        show G0 _ _ _ _ _ _ _ _
        refine g_iret hX hF d_D_vertex_53 (by omega) (by omega) ?_
        unfold opVertex
        rw [if_neg (not_not_intro d0), if_neg (by omega), htn]
        refine ⟨rfl, h.ok ⟨hB1, hW.addV (by omega) (by omega), ActP.nil ?_⟩ rfl hab hF2 hf2, (hab.N.tr hf2.N).D⟩
        rw [hf1.1 20 (by omega), rI_sI, upd_eq, if_pos rfl]
      · refine g_aload0 hX d_D_vertex_27 ?_
        refine g_bipush (v := -5) hX d_D_vertex_28 rfl ?_
        refine g_callV (As := [_]) hX hF.1 d_D_vertex_30 ml_D_91 cf_D_refuse cv_D_refuse rfl rfl (c_D_refuse5 hRF) (rcv_obj hX (lv_0 _) rfl rfl) (by omega) (by omega) (by omega) (Nat.le_of_ble_eq_true rfl) ?_
        rintro _ w2 ⟨rfl, hF2, hf2⟩
        show G0 _ _ _ _ _ _ _ _
        refine g_iret hX hF d_D_vertex_33 (by omega) (by omega) ?_
        unfold opVertex
        rw [if_neg (not_not_intro d0), if_pos (by omega)]
        exact ⟨rfl, h.no hf2 hF2, hf2.N.D⟩
    · refine g_aload0 hX d_D_vertex_10 ?_
      refine g_iconst (v := -1) hX d_D_vertex_11 rfl ?_
      refine g_callV (As := [_]) hX hF.1 d_D_vertex_12 ml_D_91 cf_D_refuse cv_D_refuse rfl rfl (c_D_refuse1 hRF) (rcv_obj hX (lv_0 _) rfl rfl) (by omega) (by omega) (by omega) (Nat.le_of_ble_eq_true rfl) ?_
      rintro _ w2 ⟨rfl, hF2, hf2⟩
      show G0 _ _ _ _ _ _ _ _
      refine g_iret hX hF d_D_vertex_15 (by omega) (by omega) ?_
      have d0 : ¬ inN c 7 := fun q => by first | exact absurd e1 ((in6 (by decide)).mp q).1 | exact absurd ((in6 (by decide)).mp q).2 e7 | exact absurd (le6 ((in6 (by decide)).mp q).2) e7
      unfold opVertex
      rw [if_pos d0]
      exact ⟨rfl, h.no hf2 hF2, hf2.N.D⟩
theorem c_D_of {E : EV} {w : Mem} {x what : Int32} {s : SG} (h : DInv w s) : T E m_D_of 2 0 0 [.ref 0, .int x, .int what] w (fun r w2 => r = some (.int (opOf x what (sG s))) ∧ DInv w2 s ∧ DkD w w2) := by
  refine T_of (L := [.ref 0, .int x, .int what]) cf_D_of rfl (Nat.le_of_ble_eq_true rfl) (fun X hX hF => ?_)
  obtain ⟨⟨hR, hW, hA⟩, hL, hT, hI, hRF, ⟨hsm, hfa, hsp⟩, hdr, hfx⟩ := id h
  have hn := hW.n
  have hv := hW.v
  have he := hW.el
  have hll := hW.ll
  have hsl := hW.sl
  refine g_aload0 hX d_D_of_0 ?_
  refine g_getF hX d_D_of_1 fl_D_10 (lv_0 _) ?_
  refine g_iload1 hX d_D_of_4 ?_
  refine g_callV (As := [_]) hX hF.1 d_D_of_5 ml_D_113 cf_Bo_hasNode cv_Bo_hasNode rfl rfl (c_Bo_hasNode isBo1 hR hW) (rcv_obj hX (lv_1 _) rfl rfl) (by omega) (by omega) (by omega) (Nat.le_of_ble_eq_true rfl) ?_
  refine ret_k ?_
  refine g_ifB_ne hX d_D_of_8 (fun e8 => ?_) (fun e8 => ?_)
  · obtain ⟨j, hj, rfl, htn⟩ := inN_of e8 (by omega)
    have h12 := near12 hW j
    refine g_iload2 hX d_D_of_13 ?_
    by_cases c1_0 : what = 0
    · refine g_tableIn (off := 26) (tgt := 40) hX d_D_of_14 (by rw [c1_0]; decide) (by rw [c1_0]; decide) (by rw [c1_0]; rfl) rfl ?_
      refine g_aload0 hX d_D_of_40 ?_
      refine g_getF hX d_D_of_41 fl_D_10 (lv_0 _) ?_
      refine g_getF hX d_D_of_44 fl_D_117 (lv_1 _) ?_
      refine g_iload1 hX d_D_of_47 ?_
      refine g_iald hX d_D_of_48 (lv_2 _) rfl (by omega) ?_
      refine g_topi (hR.c j hj) ?_
      refine g_iret hX hF d_D_of_49 (by omega) (by omega) ?_
      unfold opOf
      rw [if_neg (not_not_intro e8), if_pos c1_0, htn]
      exact ⟨rfl, h, DkD.rf w⟩
    by_cases c1_1 : what = 1
    · refine g_tableIn (off := 36) (tgt := 50) hX d_D_of_14 (by rw [c1_1]; decide) (by rw [c1_1]; decide) (by rw [c1_1]; rfl) rfl ?_
      refine g_aload0 hX d_D_of_50 ?_
      refine g_getF hX d_D_of_51 fl_D_10 (lv_0 _) ?_
      refine g_iload1 hX d_D_of_54 ?_
      refine g_callV (As := [_]) hX hF.1 d_D_of_55 ml_D_120 cf_Bo_degreeOf cv_Bo_degreeOf rfl rfl (c_Bo_degreeOf isBo1 hR hW) (rcv_obj hX (lv_1 _) rfl rfl) (by omega) (by omega) (by omega) (Nat.le_of_ble_eq_true rfl) ?_
      refine ret_k ?_
      refine g_iret hX hF d_D_of_58 (by omega) (by omega) ?_
      unfold opOf
      rw [if_neg (not_not_intro e8), if_neg (fun z => absurd (c1_1.symm.trans z) (by decide)), if_pos c1_1, htn]
      rw [degI_n hj (by omega)]
      exact ⟨rfl, h, DkD.rf w⟩
    by_cases c1_2 : what = 2
    · refine g_tableIn (off := 45) (tgt := 59) hX d_D_of_14 (by rw [c1_2]; decide) (by rw [c1_2]; decide) (by rw [c1_2]; rfl) rfl ?_
      refine g_aload0 hX d_D_of_59 ?_
      refine g_getF hX d_D_of_60 fl_D_10 (lv_0 _) ?_
      refine g_getF hX d_D_of_63 fl_D_123 (lv_1 _) ?_
      refine g_iload1 hX d_D_of_66 ?_
      refine g_iald hX d_D_of_67 (lv_3 _) rfl (by omega) ?_
      refine g_topi (hR.nr j hj) ?_
      refine g_iret hX hF d_D_of_68 (by omega) (by omega) ?_
      unfold opOf
      rw [if_neg (not_not_intro e8), if_neg (fun z => absurd (c1_2.symm.trans z) (by decide)), if_neg (fun z => absurd (c1_2.symm.trans z) (by decide)), if_pos c1_2, htn]
      exact ⟨rfl, h, DkD.rf w⟩
    refine g_tableOut (tgt := 69) hX d_D_of_14 (sw_outR (lo := 0) (hi := 2) (by decide) (by intro k hk1 hk2; rcases (show k = 0 ∨ k = 1 ∨ k = 2 by omega) with rfl | rfl | rfl <;> first | exact c1_0 | exact c1_1 | exact c1_2)) rfl ?_
    refine g_iconst (v := -1) hX d_D_of_69 rfl ?_
    refine g_iret hX hF d_D_of_70 (by omega) (by omega) ?_
    unfold opOf
    rw [if_neg (not_not_intro e8), if_neg c1_0, if_neg c1_1, if_neg c1_2]
    exact ⟨rfl, h, DkD.rf w⟩
  · refine g_iconst (v := -1) hX d_D_of_11 rfl ?_
    refine g_iret hX hF d_D_of_12 (by omega) (by omega) ?_
    unfold opOf
    rw [if_pos e8]
    exact ⟨rfl, h, DkD.rf w⟩
theorem c_D_came {E : EV} {w : Mem} {x : Int32} {s : SG} (h : DInv w s) : T E m_D_came 0 0 0 [.ref 0, .int x] w (fun r w2 => r = some (.int (opCame x (sG s))) ∧ DInv w2 s ∧ DkD w w2) := by
  refine T_of (L := [.ref 0, .int x]) cf_D_came rfl (Nat.le_of_ble_eq_true rfl) (fun X hX hF => ?_)
  obtain ⟨⟨hR, hW, hA⟩, hL, hT, hI, hRF, ⟨hsm, hfa, hsp⟩, hdr, hfx⟩ := id h
  have hn := hW.n
  have hv := hW.v
  have he := hW.el
  have hll := hW.ll
  have hsl := hW.sl
  refine g_iload1 hX d_D_came_0 ?_
  refine g_if_lt hX d_D_came_1 (fun e1 => ?_) (fun e1 => ?_)
  · refine g_iconst (v := -1) hX d_D_came_27 rfl ?_
    refine g_iret hX hF d_D_came_28 (by omega) (by omega) ?_
    unfold opCame
    first
      | (rw [if_pos d0, htn]; exact ⟨rfl, h, DkD.rf w⟩)
      | (rw [if_neg (fun q => absurd e1 (Int32.not_lt.mpr q.1))]; exact ⟨rfl, h, DkD.rf w⟩)
      | (rw [if_neg (fun q => absurd q.2 (Int32.not_lt.mpr e12))]; exact ⟨rfl, h, DkD.rf w⟩)
  · refine g_iload1 hX d_D_came_4 ?_
    refine g_aload0 hX d_D_came_5 ?_
    refine g_getF hX d_D_came_6 fl_D_10 (lv_0 _) ?_
    refine g_getI hX d_D_came_9 fl_D_156 (lv_1 _) ?_
    refine g_topi hR.el ?_
    refine g_icmp_ge hX d_D_came_12 (fun e12 => ?_) (fun e12 => ?_)
    · refine g_iconst (v := -1) hX d_D_came_27 rfl ?_
      refine g_iret hX hF d_D_came_28 (by omega) (by omega) ?_
      unfold opCame
      first
        | (rw [if_pos d0, htn]; exact ⟨rfl, h, DkD.rf w⟩)
        | (rw [if_neg (fun q => absurd e1 (Int32.not_lt.mpr q.1))]; exact ⟨rfl, h, DkD.rf w⟩)
        | (rw [if_neg (fun q => absurd q.2 (Int32.not_lt.mpr e12))]; exact ⟨rfl, h, DkD.rf w⟩)
    · have d0 : inN x (gE (sG s)).length := ⟨Int32.not_lt.mp e1, Int32.not_le.mp e12⟩
      obtain ⟨j, hj, rfl, htn⟩ := inN_of d0 (by omega)
      refine g_aload0 hX d_D_came_15 ?_
      refine g_getF hX d_D_came_16 fl_D_10 (lv_0 _) ?_
      refine g_getF hX d_D_came_19 fl_D_159 (lv_1 _) ?_
      refine g_iload1 hX d_D_came_22 ?_
      refine g_iald hX d_D_came_23 (lv_4 _) rfl (by omega) ?_
      refine g_topi (hR.e j hj) ?_
      refine g_goto hX d_D_came_24 ?_
      refine g_iret hX hF d_D_came_28 (by omega) (by omega) ?_
      unfold opCame
      first
        | (rw [if_pos d0, htn]; exact ⟨rfl, h, DkD.rf w⟩)
        | (rw [if_neg (fun q => absurd e1 (Int32.not_lt.mpr q.1))]; exact ⟨rfl, h, DkD.rf w⟩)
        | (rw [if_neg (fun q => absurd q.2 (Int32.not_lt.mpr e12))]; exact ⟨rfl, h, DkD.rf w⟩)
theorem c_D_smudges {E : EV} {w : Mem} {s : SG} (h : DInv w s) : T E m_D_smudges 0 0 0 [.ref 0] w (fun r w2 => r = some (.int (sSm s)) ∧ DInv w2 s ∧ DkD w w2) := by
  refine T_of (L := [.ref 0]) cf_D_smudges rfl (Nat.le_of_ble_eq_true rfl) (fun X hX hF => ?_)
  obtain ⟨⟨hR, hW, hA⟩, hL, hT, hI, hRF, ⟨hsm, hfa, hsp⟩, hdr, hfx⟩ := id h
  have hn := hW.n
  have hv := hW.v
  have he := hW.el
  have hll := hW.ll
  have hsl := hW.sl
  refine g_aload0 hX d_D_smudges_0 ?_
  refine g_getI hX d_D_smudges_1 fl_D_192 (lv_0 _) ?_
  refine g_topi hsm ?_
  refine g_iret hX hF d_D_smudges_4 (by omega) (by omega) ?_
  exact ⟨rfl, h, DkD.rf w⟩
theorem c_D_status {E : EV} {w : Mem} {s : SG} (h : DInv w s) : T E m_D_status 0 0 0 [.ref 0] w (fun r w2 => r = some (.int (sSt s)) ∧ DInv w2 s ∧ DkD w w2) := by
  refine T_of (L := [.ref 0]) cf_D_status rfl (Nat.le_of_ble_eq_true rfl) (fun X hX hF => ?_)
  obtain ⟨⟨hR, hW, hA⟩, hL, hT, hI, hRF, ⟨hsm, hfa, hsp⟩, hdr, hfx⟩ := id h
  have hn := hW.n
  have hv := hW.v
  have he := hW.el
  have hll := hW.ll
  have hsl := hW.sl
  refine g_aload0 hX d_D_status_0 ?_
  refine g_getI hX d_D_status_1 fl_D_87 (lv_0 _) ?_
  refine g_topi hRF.1 ?_
  refine g_iret hX hF d_D_status_4 (by omega) (by omega) ?_
  exact ⟨rfl, h, DkD.rf w⟩
theorem c_D_fault {E : EV} {w : Mem} {s : SG} (h : DInv w s) : T E m_D_fault 0 0 0 [.ref 0] w (fun r w2 => r = some (.int (sFa s)) ∧ DInv w2 s ∧ DkD w w2) := by
  refine T_of (L := [.ref 0]) cf_D_fault rfl (Nat.le_of_ble_eq_true rfl) (fun X hX hF => ?_)
  obtain ⟨⟨hR, hW, hA⟩, hL, hT, hI, hRF, ⟨hsm, hfa, hsp⟩, hdr, hfx⟩ := id h
  have hn := hW.n
  have hv := hW.v
  have he := hW.el
  have hll := hW.ll
  have hsl := hW.sl
  refine g_aload0 hX d_D_fault_0 ?_
  refine g_getF hX d_D_fault_1 fl_D_33 (lv_0 _) ?_
  refine g_getI hX d_D_fault_4 fl_D_229 (lv_25 _) ?_
  refine g_topi hfa ?_
  refine g_iret hX hF d_D_fault_7 (by omega) (by omega) ?_
  exact ⟨rfl, h, DkD.rf w⟩
theorem c_D_stopped {E : EV} {w : Mem} {s : SG} (h : DInv w s) : T E m_D_stopped 0 0 0 [.ref 0] w (fun r w2 => r = some (.int (sSp s)) ∧ DInv w2 s ∧ DkD w w2) := by
  refine T_of (L := [.ref 0]) cf_D_stopped rfl (Nat.le_of_ble_eq_true rfl) (fun X hX hF => ?_)
  obtain ⟨⟨hR, hW, hA⟩, hL, hT, hI, hRF, ⟨hsm, hfa, hsp⟩, hdr, hfx⟩ := id h
  have hn := hW.n
  have hv := hW.v
  have he := hW.el
  have hll := hW.ll
  have hsl := hW.sl
  refine g_aload0 hX d_D_stopped_0 ?_
  refine g_getF hX d_D_stopped_1 fl_D_75 (lv_0 _) ?_
  refine g_getI hX d_D_stopped_4 fl_D_215 (lv_53 _) ?_
  refine g_topi hsp ?_
  refine g_iret hX hF d_D_stopped_7 (by omega) (by omega) ?_
  exact ⟨rfl, h, DkD.rf w⟩
def mxT (k : Nat) : Nat := if k = 0 then 999 else if k = 1 then 10 else 9
theorem BRow.term {w : Mem} {b k x : Nat} {g : GC} (h : BRow w b g) (hk : k < 3) : BRow (sI w (b + 7) k (nI x)) b (gTerm g k x) := by
  unfold BRow
  rw [rI_sI_ne _ _ _ (show b ≠ b + 7 by omega), rI_sI, rI_sI_ne _ _ _ (show b + 1 ≠ b + 7 by omega), rI_sI_ne _ _ _ (show b + 2 ≠ b + 7 by omega), rI_sI_ne _ _ _ (show b + 3 ≠ b + 7 by omega), rI_sI_ne _ _ _ (show b + 4 ≠ b + 7 by omega), rI_sI_ne _ _ _ (show b + 5 ≠ b + 7 by omega), rI_sI_ne _ _ _ (show b + 6 ≠ b + 7 by omega)]
  refine ⟨h.n, h.el, h.v, h.sl, h.ll, h.fo, h.c, h.nr, h.e, h.y, h.k, h.sn, fun i hi => ?_⟩
  show _ = nI (if i = k then x else gT g i)
  rw [upd_eq]
  by_cases e : i = k
  · rw [if_pos e, if_pos e]
  · rw [if_neg e, if_neg e]; exact h.t i hi
theorem c_D_mostOfTerm {E : EV} {w : Mem} {k : Nat} (hk : k < 3) : T E m_D_mostOfTerm 0 0 0 [.int (nI k)] w (Ret (some (.int (nI (mxT k)))) w) := by
  refine T_of (L := [.int (nI k)]) cf_D_mostOfTerm rfl (Nat.le_of_ble_eq_true rfl) (fun X hX hF => ?_)
  refine g_iload0 hX d_D_mostOfTerm_0 ?_
  refine g_if_ne hX d_D_mostOfTerm_1 (fun e1 => ?_) (fun e1 => ?_)
  · have e1 : ¬ k = 0 := fun z => e1 (by rw [z]; rfl)
    refine g_iload0 hX d_D_mostOfTerm_8 ?_
    refine g_iconst (v := nI 1) hX d_D_mostOfTerm_9 rfl ?_
    refine g_icmpN_ne hX d_D_mostOfTerm_10 (by omega) (by omega) (fun e10 => ?_) (fun e10 => ?_)
    · refine g_bipush (v := nI 9) hX d_D_mostOfTerm_18 rfl ?_
      refine g_iret hX hF d_D_mostOfTerm_20 (by omega) (by omega) ?_
      first | exact ⟨by unfold mxT; rw [if_neg e1, if_pos (by omega)], rfl⟩ | exact ⟨by unfold mxT; rw [if_neg e1, if_neg (by omega)], rfl⟩
    · refine g_bipush (v := nI 10) hX d_D_mostOfTerm_13 rfl ?_
      refine g_goto hX d_D_mostOfTerm_15 ?_
      refine g_iret hX hF d_D_mostOfTerm_20 (by omega) (by omega) ?_
      first | exact ⟨by unfold mxT; rw [if_neg e1, if_pos (by omega)], rfl⟩ | exact ⟨by unfold mxT; rw [if_neg e1, if_neg (by omega)], rfl⟩
  · have e1 : k = 0 := nI_inj (by omega) (by decide) e1
    refine g_sipush (v := nI 999) hX d_D_mostOfTerm_4 rfl ?_
    refine g_iret hX hF d_D_mostOfTerm_7 (by omega) (by omega) ?_
    exact ⟨by unfold mxT; rw [if_pos e1], rfl⟩
theorem terms_iff {x y : Int32} : ((x = 0 ∧ inN y 1000) ∨ (x = 1 ∧ inN y 11) ∨ (x = 2 ∧ inN y 10)) ↔ ∃ k, k < 3 ∧ x = nI k ∧ ¬ y < 0 ∧ y ≤ nI (mxT k) := by
  have le : ∀ m, m < 2 ^ 30 → (y < nI (m + 1) ↔ y ≤ nI m) := fun m hm => by
    rw [Int32.lt_iff_toInt_lt, Int32.le_iff_toInt_le, nI_toInt (by omega), nI_toInt (by omega)]
    omega
  constructor
  · rintro (⟨rfl, h⟩ | ⟨rfl, h⟩ | ⟨rfl, h⟩)
    · exact ⟨0, by decide, rfl, ((in6 (by decide)).mp h).1, (le 999 (by decide)).mp h.2⟩
    · exact ⟨1, by decide, rfl, ((in6 (by decide)).mp h).1, (le 10 (by decide)).mp h.2⟩
    · exact ⟨2, by decide, rfl, ((in6 (by decide)).mp h).1, (le 9 (by decide)).mp h.2⟩
  · rintro ⟨k, hk, rfl, h1, h2⟩
    rcases (show k = 0 ∨ k = 1 ∨ k = 2 by omega) with rfl | rfl | rfl
    · exact Or.inl ⟨rfl, (in6 (by decide)).mpr ⟨h1, (le 999 (by decide)).mpr h2⟩⟩
    · exact Or.inr (Or.inl ⟨rfl, (in6 (by decide)).mpr ⟨h1, (le 10 (by decide)).mpr h2⟩⟩)
    · exact Or.inr (Or.inr ⟨rfl, (in6 (by decide)).mpr ⟨h1, (le 9 (by decide)).mpr h2⟩⟩)
theorem opTerms_n {x y : Int32} {s : SG} (h : ¬ ∃ k, k < 3 ∧ x = nI k ∧ ¬ y < 0 ∧ y ≤ nI (mxT k)) : opTerms x y s = sNo 1 s := by
  unfold opTerms
  exact if_neg (mt terms_iff.mp h)
theorem opTerms_y {x y : Int32} {s : SG} (h : ∃ k, k < 3 ∧ x = nI k ∧ ¬ y < 0 ∧ y ≤ nI (mxT k)) : opTerms x y s = sOk (nI (gT (sG s) (tn x))) (wU (wG s (gTerm (sG s) (tn x) (tn y))) []) := by
  unfold opTerms
  exact if_pos (terms_iff.mpr h)
theorem mxT_lt (k : Nat) : mxT k ≤ 999 := by unfold mxT; split <;> (try split) <;> omega
theorem lt_of1 {y : Int32} {m q : Nat} (hm : m < 2 ^ 30) (h : y ≤ nI q) (hq : q ≤ m) : y < nI (m + 1) := by
  rw [Int32.le_iff_toInt_le, nI_toInt (by omega)] at h
  rw [Int32.lt_iff_toInt_lt, nI_toInt (by omega)]
  omega
theorem nI_leM {a b : Nat} (ha : a < 2 ^ 31) (hb : b < 2 ^ 31) (h : nI a ≤ nI b) : a ≤ b := by
  rw [Int32.le_iff_toInt_le, nI_toInt ha, nI_toInt hb] at h
  omega
theorem c_D_terms {E : EV} {w : Mem} {x y : Int32} {s : SG} (h : DInv w s) : T E m_D_terms 2 0 0 [.ref 0, .int x, .int y] w (fun r w2 => r = some (.int (opTerms x y s).1) ∧ DInv w2 (opTerms x y s).2 ∧ DkD w w2) := by
  refine T_of (L := [.ref 0, .int x, .int y, un]) cf_D_terms rfl (Nat.le_of_ble_eq_true rfl) (fun X hX hF => ?_)
  obtain ⟨⟨hR, hW, hA⟩, hL, hT, hI, hRF, ⟨hsm, hfa, hsp⟩, hdr, hfx⟩ := id h
  have hn := hW.n
  have hv := hW.v
  have he := hW.el
  have hll := hW.ll
  have hsl := hW.sl
  refine g_iload1 hX d_D_terms_0 ?_
  refine g_if_lt hX d_D_terms_1 (fun e1 => ?_) (fun e1 => ?_)
  · refine g_aload0 hX d_D_terms_21 ?_
    refine g_iconst (v := -1) hX d_D_terms_22 rfl ?_
    refine g_callV (As := [_]) hX hF.1 d_D_terms_23 ml_D_91 cf_D_refuse cv_D_refuse rfl rfl (c_D_refuse1 hRF) (rcv_obj hX (lv_0 _) rfl rfl) (by omega) (by omega) (by omega) (Nat.le_of_ble_eq_true rfl) ?_
    rintro _ w2 ⟨rfl, hF2, hf2⟩
    show G0 _ _ _ _ _ _ _ _
    refine g_iret hX hF d_D_terms_26 (by omega) (by omega) ?_
    rw [opTerms_n (by
      rintro ⟨k, h1, h2, h3, h4⟩
      first
      | exact nI_pos (show k < 2 ^ 31 by omega) (h2 ▸ e1)
      | exact absurd e6 (Int32.not_le.mpr (h2 ▸ nI_lt h1 (by decide)))
      | exact h3 e10
      | (rw [nI_inj (show j < 2 ^ 31 by omega) (show k < 2 ^ 31 by omega) h2] at e18; exact e18 h4))]
    exact ⟨rfl, h.no hf2 hF2, hf2.N.D⟩
  · refine g_iload1 hX d_D_terms_4 ?_
    refine g_iconst (v := nI 3) hX d_D_terms_5 rfl ?_
    refine g_icmp_ge hX d_D_terms_6 (fun e6 => ?_) (fun e6 => ?_)
    · refine g_aload0 hX d_D_terms_21 ?_
      refine g_iconst (v := -1) hX d_D_terms_22 rfl ?_
      refine g_callV (As := [_]) hX hF.1 d_D_terms_23 ml_D_91 cf_D_refuse cv_D_refuse rfl rfl (c_D_refuse1 hRF) (rcv_obj hX (lv_0 _) rfl rfl) (by omega) (by omega) (by omega) (Nat.le_of_ble_eq_true rfl) ?_
      rintro _ w2 ⟨rfl, hF2, hf2⟩
      show G0 _ _ _ _ _ _ _ _
      refine g_iret hX hF d_D_terms_26 (by omega) (by omega) ?_
      rw [opTerms_n (by
        rintro ⟨k, h1, h2, h3, h4⟩
        first
        | exact nI_pos (show k < 2 ^ 31 by omega) (h2 ▸ e1)
        | exact absurd e6 (Int32.not_le.mpr (h2 ▸ nI_lt h1 (by decide)))
        | exact h3 e10
        | (rw [nI_inj (show j < 2 ^ 31 by omega) (show k < 2 ^ 31 by omega) h2] at e18; exact e18 h4))]
      exact ⟨rfl, h.no hf2 hF2, hf2.N.D⟩
    · obtain ⟨j, hj, rfl, htn⟩ := inN_of ((in6 (by decide)).mpr ⟨e1, Int32.not_le.mp e6⟩ : inN x 3) (by decide)
      have hmx := mxT_lt j
      refine g_iload2 hX d_D_terms_9 ?_
      refine g_if_lt hX d_D_terms_10 (fun e10 => ?_) (fun e10 => ?_)
      · refine g_aload0 hX d_D_terms_21 ?_
        refine g_iconst (v := -1) hX d_D_terms_22 rfl ?_
        refine g_callV (As := [_]) hX hF.1 d_D_terms_23 ml_D_91 cf_D_refuse cv_D_refuse rfl rfl (c_D_refuse1 hRF) (rcv_obj hX (lv_0 _) rfl rfl) (by omega) (by omega) (by omega) (Nat.le_of_ble_eq_true rfl) ?_
        rintro _ w2 ⟨rfl, hF2, hf2⟩
        show G0 _ _ _ _ _ _ _ _
        refine g_iret hX hF d_D_terms_26 (by omega) (by omega) ?_
        rw [opTerms_n (by
          rintro ⟨k, h1, h2, h3, h4⟩
          first
          | exact nI_pos (show k < 2 ^ 31 by omega) (h2 ▸ e1)
          | exact absurd e6 (Int32.not_le.mpr (h2 ▸ nI_lt h1 (by decide)))
          | exact h3 e10
          | (rw [nI_inj (show j < 2 ^ 31 by omega) (show k < 2 ^ 31 by omega) h2] at e18; exact e18 h4))]
        exact ⟨rfl, h.no hf2 hF2, hf2.N.D⟩
      · refine g_iload2 hX d_D_terms_13 ?_
        refine g_iload1 hX d_D_terms_14 ?_
        refine g_callS (As := [_]) hX hF.1 d_D_terms_15 ml_D_162 cf_D_mostOfTerm cs_D_mostOfTerm rfl (c_D_mostOfTerm hj) (by omega) (by omega) (by omega) (Nat.le_of_ble_eq_true rfl) ?_
        refine ret_k ?_
        refine g_icmp_le hX d_D_terms_18 (fun e18 => ?_) (fun e18 => ?_)
        · obtain ⟨z, hz, rfl, htz⟩ := inN_of ((in6 (by decide)).mpr ⟨e10, lt_of1 (by decide) e18 hmx⟩ : inN y 1000) (by decide)
          have hzm : z ≤ mxT j := nI_leM (by omega) (by omega) e18
          refine g_aload0 hX d_D_terms_27 ?_
          refine g_getF hX d_D_terms_28 fl_D_10 (lv_0 _) ?_
          refine g_getF hX d_D_terms_31 fl_D_165 (lv_1 _) ?_
          refine g_iload1 hX d_D_terms_34 ?_
          refine g_iald hX d_D_terms_35 (lv_8 _) rfl (by omega) ?_
          refine g_topi (hR.t j hj) ?_
          refine g_istore3 hX d_D_terms_36 rfl (by decide) ?_
          refine g_aload0 hX d_D_terms_37 ?_
          refine g_getF hX d_D_terms_38 fl_D_10 (lv_0 _) ?_
          refine g_getF hX d_D_terms_41 fl_D_165 (lv_1 _) ?_
          refine g_iload1 hX d_D_terms_44 ?_
          refine g_iload2 hX d_D_terms_45 ?_
          refine g_iast hX d_D_terms_46 (lv_8 _) rfl (by omega) ?_
          refine g_aload0 hX d_D_terms_47 ?_
          refine g_getF hX d_D_terms_48 fl_D_26 (lv_0 _) ?_
          have hB1 := hR.term (x := z) hj
          have hf1 : FrBo 1 w (sI w (1 + 7) j (nI z)) := (FrBo.rf 1 w).I (by omega)
          refine g_callV (As := []) hX hF.1 d_D_terms_51 ml_D_101 cf_Ac_clearAll cv_Ac_clearAll rfl rfl (c_Ac_clearAll (Or.inl rfl)) (rcv_obj hX (lv_20 _) rfl rfl) (by omega) (by omega) (by omega) (Nat.le_of_ble_eq_true rfl) ?_
          refine ret_k ?_
          refine g_aload0 hX d_D_terms_54 ?_
          refine g_iload3 hX d_D_terms_55 ?_
          obtain ⟨w1, hw1⟩ : ∃ w1, sI (sI w (1 + 7) j (nI z)) 20 0 (nI 0) = w1 := ⟨_, rfl⟩
          have hab : FrAb w w1 := by rw [← hw1]; exact hf1.Ab.tr (FrAb.clr _)
          have hF1 := hRF.ab hab
          refine g_mem hw1 ?_
          refine g_callV (As := [_]) hX hF.1 d_D_terms_56 ml_D_95 cf_D_grant cv_D_grant rfl rfl (c_D_grant (y := nI (gT (sG s) j)) hF1) (rcv_obj hX (lv_0 _) rfl rfl) (by omega) (by omega) (by omega) (Nat.le_of_ble_eq_true rfl) ?_
          rintro _ w2 ⟨rfl, hF2, hf2⟩
          show G0 _ _ _ _ _ _ _ _
          refine g_iret hX hF d_D_terms_59 (by omega) (by omega) ?_
          rw [opTerms_y ⟨j, hj, rfl, e10, e18⟩, htn, htz]
          refine ⟨rfl, h.ok ⟨by rw [← hw1]; exact hB1.clr, hW.term ?_, ActP.nil (by rw [← hw1, rI_sI, upd_eq, if_pos rfl])⟩ rfl hab hF2 hf2, (hab.N.tr hf2.N).D⟩
          rcases (show j = 0 ∨ j = 1 ∨ j = 2 by omega) with rfl | rfl | rfl
          · exact Or.inl ⟨rfl, hzm⟩
          · exact Or.inr (Or.inl ⟨rfl, hzm⟩)
          · exact Or.inr (Or.inr ⟨rfl, hzm⟩)
        · refine g_aload0 hX d_D_terms_21 ?_
          refine g_iconst (v := -1) hX d_D_terms_22 rfl ?_
          refine g_callV (As := [_]) hX hF.1 d_D_terms_23 ml_D_91 cf_D_refuse cv_D_refuse rfl rfl (c_D_refuse1 hRF) (rcv_obj hX (lv_0 _) rfl rfl) (by omega) (by omega) (by omega) (Nat.le_of_ble_eq_true rfl) ?_
          rintro _ w2 ⟨rfl, hF2, hf2⟩
          show G0 _ _ _ _ _ _ _ _
          refine g_iret hX hF d_D_terms_26 (by omega) (by omega) ?_
          rw [opTerms_n (by
            rintro ⟨k, h1, h2, h3, h4⟩
            first
            | exact nI_pos (show k < 2 ^ 31 by omega) (h2 ▸ e1)
            | exact absurd e6 (Int32.not_le.mpr (h2 ▸ nI_lt h1 (by decide)))
            | exact h3 e10
            | (rw [nI_inj (show j < 2 ^ 31 by omega) (show k < 2 ^ 31 by omega) h2] at e18; exact e18 h4))]
          exact ⟨rfl, h.no hf2 hF2, hf2.N.D⟩
theorem BRow.force {w : Mem} {b : Nat} {g : GC} {o : Option Nat} (h : BRow w b g) : BRow (sI w b 12 (fInt o)) b (gForce g o) := by
  unfold BRow
  rw [rI_sI, rI_sI_ne _ _ _ (show b + 1 ≠ b by omega), rI_sI_ne _ _ _ (show b + 2 ≠ b by omega), rI_sI_ne _ _ _ (show b + 3 ≠ b by omega), rI_sI_ne _ _ _ (show b + 4 ≠ b by omega), rI_sI_ne _ _ _ (show b + 5 ≠ b by omega), rI_sI_ne _ _ _ (show b + 6 ≠ b by omega), rI_sI_ne _ _ _ (show b + 7 ≠ b by omega)]
  exact ⟨h.n, h.el, h.v, h.sl, h.ll, by rw [upd_eq, if_pos rfl]; rfl, h.c, h.nr, h.e, h.y, h.k, h.sn, h.t⟩
theorem ActP.sg {w : Mem} {a : Nat} {g g2 : GC} {u : List (Nat × Snap)} (h : ActP w a g u) (e1 : gN g2 = gN g) (e2 : gV g2 = gV g) (e3 : snapOf g2 = snapOf g) (e4 : ∀ q ∈ u, WG (unsnap g q.2) → WG (unsnap g2 q.2)) : ActP w a g2 u := by
  obtain ⟨h1, h2, h3⟩ := h
  refine ⟨h1, h2, fun k q hq => ?_⟩
  obtain ⟨g1, g2', g3, g4⟩ := h3 k q hq
  have en : nxS g2 u k = nxS g u k := by
    unfold nxS
    rw [e3]
  rw [e1, e2, en]
  exact ⟨g1, g2', g3, e4 q (List.mem_of_getElem? hq) g4⟩
theorem c_D_force {E : EV} {w : Mem} {x : Int32} {s : SG} (h : DInv w s) : T E m_D_force 1 0 0 [.ref 0, .int x] w (fun r w2 => r = some (.int (opForce x s).1) ∧ DInv w2 (opForce x s).2 ∧ DkD w w2) := by
  refine T_of (L := [.ref 0, .int x, un]) cf_D_force rfl (Nat.le_of_ble_eq_true rfl) (fun X hX hF => ?_)
  obtain ⟨⟨hR, hW, hA⟩, hL, hT, hI, hRF, ⟨hsm, hfa, hsp⟩, hdr, hfx⟩ := id h
  have hn := hW.n
  have hv := hW.v
  have he := hW.el
  have hll := hW.ll
  have hsl := hW.sl
  refine g_iload1 hX d_D_force_0 ?_
  refine g_iconst (v := -1) hX d_D_force_1 rfl ?_
  refine g_icmp_eq hX d_D_force_2 (fun e2 => ?_) (fun e2 => ?_)
  · refine g_aload0 hX d_D_force_23 ?_
    refine g_getF hX d_D_force_24 fl_D_10 (lv_0 _) ?_
    refine g_getI hX d_D_force_27 fl_D_235 (lv_1 _) ?_
    refine g_topi hR.fo ?_
    refine g_istore2 hX d_D_force_30 rfl (by decide) ?_
    refine g_aload0 hX d_D_force_31 ?_
    refine g_getF hX d_D_force_32 fl_D_10 (lv_0 _) ?_
    refine g_iload1 hX d_D_force_35 ?_
    refine g_putI hX d_D_force_36 fl_D_235 (lv_1 _) ?_
    refine g_aload0 hX d_D_force_39 ?_
    refine g_iload2 hX d_D_force_40 ?_
    have hB1 : BRow (sI w 1 12 (fInt none)) 1 (gForce (sG s) none) := hR.force
    have hab : FrAb w (sI w 1 12 (fInt none)) := (FrAb.rf w).I (by omega)
    have hF1 := hRF.ab hab
    refine g_mem (show sI w 1 12 x = sI w 1 12 (fInt none) by rw [e2]; rfl) ?_
    refine g_callV (As := [_]) hX hF.1 d_D_force_41 ml_D_95 cf_D_grant cv_D_grant rfl rfl (c_D_grant (y := fInt (gF (sG s))) hF1) (rcv_obj hX (lv_0 _) rfl rfl) (by omega) (by omega) (by omega) (Nat.le_of_ble_eq_true rfl) ?_
    rintro _ w2 ⟨rfl, hF2, hf2⟩
    show G0 _ _ _ _ _ _ _ _
    refine g_iret hX hF d_D_force_44 (by omega) (by omega) ?_
    rw [opForce_n e2]
    refine ⟨rfl, h.ok (g := gForce (sG s) none) (u := sU s) ⟨hB1, hW.force (fun i hi => by cases hi), (hA.fr (fun o h1 h2 => rI_sI_ne _ _ _ (by omega))).sg rfl rfl rfl (fun q _ hq => hq.force (fun i hi => by cases hi))⟩ rfl hab hF2 hf2, (hab.N.tr hf2.N).D⟩
  · refine g_aload0 hX d_D_force_5 ?_
    refine g_getF hX d_D_force_6 fl_D_10 (lv_0 _) ?_
    refine g_iload1 hX d_D_force_9 ?_
    refine g_callV (As := [_]) hX hF.1 d_D_force_10 ml_D_232 cf_Bo_hasLaw cv_Bo_hasLaw rfl rfl (c_Bo_hasLaw isBo1 hR hW) (rcv_obj hX (lv_1 _) rfl rfl) (by omega) (by omega) (by omega) (Nat.le_of_ble_eq_true rfl) ?_
    refine ret_k ?_
    refine g_ifB_ne hX d_D_force_13 (fun e13 => ?_) (fun e13 => ?_)
    · obtain ⟨j, hj, hxj, htn⟩ := inN_of e13 (by omega)
      refine g_aload0 hX d_D_force_23 ?_
      refine g_getF hX d_D_force_24 fl_D_10 (lv_0 _) ?_
      refine g_getI hX d_D_force_27 fl_D_235 (lv_1 _) ?_
      refine g_topi hR.fo ?_
      refine g_istore2 hX d_D_force_30 rfl (by decide) ?_
      refine g_aload0 hX d_D_force_31 ?_
      refine g_getF hX d_D_force_32 fl_D_10 (lv_0 _) ?_
      refine g_iload1 hX d_D_force_35 ?_
      refine g_putI hX d_D_force_36 fl_D_235 (lv_1 _) ?_
      refine g_aload0 hX d_D_force_39 ?_
      refine g_iload2 hX d_D_force_40 ?_
      have hB1 : BRow (sI w 1 12 (fInt (some j))) 1 (gForce (sG s) (some j)) := hR.force
      have hab : FrAb w (sI w 1 12 (fInt (some j))) := (FrAb.rf w).I (by omega)
      have hF1 := hRF.ab hab
      refine g_mem (show sI w 1 12 x = sI w 1 12 (fInt (some j)) by rw [hxj]; rfl) ?_
      refine g_callV (As := [_]) hX hF.1 d_D_force_41 ml_D_95 cf_D_grant cv_D_grant rfl rfl (c_D_grant (y := fInt (gF (sG s))) hF1) (rcv_obj hX (lv_0 _) rfl rfl) (by omega) (by omega) (by omega) (Nat.le_of_ble_eq_true rfl) ?_
      rintro _ w2 ⟨rfl, hF2, hf2⟩
      show G0 _ _ _ _ _ _ _ _
      refine g_iret hX hF d_D_force_44 (by omega) (by omega) ?_
      rw [opForce_s e2 e13, htn]
      refine ⟨rfl, h.ok (g := gForce (sG s) (some j)) (u := sU s) ⟨hB1, hW.force (fun i hi => by cases hi; exact hj), (hA.fr (fun o h1 h2 => rI_sI_ne _ _ _ (by omega))).sg rfl rfl rfl (fun q _ hq => hq.force (fun i hi => by cases hi; exact hj))⟩ rfl hab hF2 hf2, (hab.N.tr hf2.N).D⟩
    · refine g_aload0 hX d_D_force_16 ?_
      refine g_bipush (v := -2) hX d_D_force_17 rfl ?_
      refine g_callV (As := [_]) hX hF.1 d_D_force_19 ml_D_91 cf_D_refuse cv_D_refuse rfl rfl (c_D_refuse2 hRF) (rcv_obj hX (lv_0 _) rfl rfl) (by omega) (by omega) (by omega) (Nat.le_of_ble_eq_true rfl) ?_
      rintro _ w2 ⟨rfl, hF2, hf2⟩
      show G0 _ _ _ _ _ _ _ _
      refine g_iret hX hF d_D_force_22 (by omega) (by omega) ?_
      rw [opForce_no e2 e13]
      exact ⟨rfl, h.no hf2 hF2, hf2.N.D⟩
theorem byAct_n {r : Act} {s : SG} {k : Nat} (hk : k < 2 ^ 31) (hk0 : 0 < k) (h : r.1 = -(nI k)) : byAct r s = sNo k s := by
  have h1 : r.1 < 0 := by
    rw [h, Int32.lt_iff_toInt_lt, Int32.toInt_neg, nI_toInt hk]
    show Int.bmod _ 4294967296 < 0
    rw [Int.bmod_eq_of_le (by omega) (by omega)]
    omega
  have h2 : tn (-r.1) = k := by rw [h, Int32.neg_neg]; exact tn_nI hk
  unfold byAct
  rw [if_pos h1, h2]
theorem byAct_y {r : Act} {s : SG} {k : Nat} (hk : k < 2 ^ 31) (h : r.1 = nI k) : byAct r s = sOk r.1 (wU (wG s r.2.1) r.2.2) := by
  unfold byAct
  rw [if_neg (by rw [h]; exact nI_pos hk)]
/-- what an act may tell -/
def ActA (x : Int32) : Prop := x = -(nI 1) ∨ x = -(nI 2) ∨ x = -(nI 3) ∨ ∃ k, k < 16 ∧ x = nI k
theorem b2i_n16 (q : Prop) [Decidable q] : ∃ k, k < 16 ∧ b2i q = nI k := by
  by_cases h : q
  · exact ⟨1, by decide, b2i_t h⟩
  · exact ⟨0, by decide, b2i_f h⟩
theorem actA_e (x y : Int32) (g : GC) (u : List (Nat × Snap)) : ActA (aEdge x y g u).1 := by
  unfold aEdge
  split
  · exact Or.inl rfl
  · split
    · exact Or.inr (Or.inl rfl)
    · exact Or.inr (Or.inr (Or.inr (b2i_n16 _)))
theorem actA_l (x y : Int32) (g : GC) (u : List (Nat × Snap)) : ActA (aLink x y g u).1 := by
  unfold aLink
  split
  · exact Or.inl rfl
  · split
    · exact Or.inr (Or.inl rfl)
    · exact Or.inr (Or.inr (Or.inr (b2i_n16 _)))
theorem actA_p {x y : Int32} {g : GC} {u : List (Nat × Snap)} (hW : WG g) : ActA (aPaint x y g u).1 := by
  have hn := hW.n
  unfold aPaint
  split
  · exact Or.inl rfl
  · split
    · exact Or.inr (Or.inl rfl)
    · rename_i h1 h2
      split
      · exact Or.inr (Or.inr (Or.inl rfl))
      · obtain ⟨j, hj, -, ht⟩ := inN_of (Decidable.of_not_not h2) (by omega)
        have := hW.c j hj
        exact Or.inr (Or.inr (Or.inr ⟨gC g (tn x), by rw [ht]; omega, rfl⟩))
theorem actA_d {x y : Int32} {g : GC} {u : List (Nat × Snap)} (hW : WG g) : ActA (aDye x y g u).1 := by
  have hn := hW.v
  unfold aDye
  split
  · exact Or.inl rfl
  · split
    · exact Or.inr (Or.inl rfl)
    · rename_i h1 h2
      split
      · exact Or.inr (Or.inr (Or.inl rfl))
      · obtain ⟨j, hj, -, ht⟩ := inN_of (Decidable.of_not_not h2) (by omega)
        have := hW.y j hj
        exact Or.inr (Or.inr (Or.inr ⟨gY g (tn x), by rw [ht]; omega, rfl⟩))
/-- refused or granted -/
def RoG (rf : Nat → Int32) (x : Int32) (w w2 : Mem) (r : Option Value) : Prop := r = some (.int x) ∧ DkR w w2 ∧ ((∃ k, 0 < k ∧ k < 4 ∧ x = -(nI k) ∧ DRf w2 (upd rf k (rf k + 1)) (-(nI k))) ∨ ∃ k, k < 16 ∧ x = nI k ∧ DRf w2 rf (nI 0))
theorem c_D_rog1 {E : EV} {w : Mem} {rf : Nat → Int32} {st : Int32} (hRF : DRf w rf st) : T E m_D_refuseOrGrant 1 0 0 [.ref 0, .int (-1)] w (fun r w2 => RoG rf (-(nI 1)) w w2 r) := by
  refine T_of (L := [.ref 0, .int (-1)]) cf_D_refuseOrGrant rfl (Nat.le_of_ble_eq_true rfl) (fun X hX hF => ?_)
  refine g_iload1 hX d_D_refuseOrGrant_0 ?_
  refine g_if_ge hX d_D_refuseOrGrant_1 (fun h => absurd h (by decide)) (fun c0 => ?_)
  refine g_aload0 hX d_D_refuseOrGrant_4 ?_
  refine g_iload1 hX d_D_refuseOrGrant_5 ?_
  refine g_callV (As := [_]) hX hF.1 d_D_refuseOrGrant_6 ml_D_91 cf_D_refuse cv_D_refuse rfl rfl (c_D_refuse1 hRF) (rcv_obj hX (lv_0 _) rfl rfl) (by omega) (by omega) (by omega) (Nat.le_of_ble_eq_true rfl) ?_
  rintro _ w2 ⟨rfl, hF2, hf2⟩
  show G0 _ _ _ _ _ _ _ _
  refine g_goto hX d_D_refuseOrGrant_9 ?_
  refine g_iret hX hF d_D_refuseOrGrant_17 (by omega) (by omega) ?_
  exact ⟨rfl, hf2, Or.inl ⟨1, by decide, by decide, rfl, hF2⟩⟩
theorem c_D_rog2 {E : EV} {w : Mem} {rf : Nat → Int32} {st : Int32} (hRF : DRf w rf st) : T E m_D_refuseOrGrant 1 0 0 [.ref 0, .int (-2)] w (fun r w2 => RoG rf (-(nI 2)) w w2 r) := by
  refine T_of (L := [.ref 0, .int (-2)]) cf_D_refuseOrGrant rfl (Nat.le_of_ble_eq_true rfl) (fun X hX hF => ?_)
  refine g_iload1 hX d_D_refuseOrGrant_0 ?_
  refine g_if_ge hX d_D_refuseOrGrant_1 (fun h => absurd h (by decide)) (fun c0 => ?_)
  refine g_aload0 hX d_D_refuseOrGrant_4 ?_
  refine g_iload1 hX d_D_refuseOrGrant_5 ?_
  refine g_callV (As := [_]) hX hF.1 d_D_refuseOrGrant_6 ml_D_91 cf_D_refuse cv_D_refuse rfl rfl (c_D_refuse2 hRF) (rcv_obj hX (lv_0 _) rfl rfl) (by omega) (by omega) (by omega) (Nat.le_of_ble_eq_true rfl) ?_
  rintro _ w2 ⟨rfl, hF2, hf2⟩
  show G0 _ _ _ _ _ _ _ _
  refine g_goto hX d_D_refuseOrGrant_9 ?_
  refine g_iret hX hF d_D_refuseOrGrant_17 (by omega) (by omega) ?_
  exact ⟨rfl, hf2, Or.inl ⟨2, by decide, by decide, rfl, hF2⟩⟩
theorem c_D_rog3 {E : EV} {w : Mem} {rf : Nat → Int32} {st : Int32} (hRF : DRf w rf st) : T E m_D_refuseOrGrant 1 0 0 [.ref 0, .int (-3)] w (fun r w2 => RoG rf (-(nI 3)) w w2 r) := by
  refine T_of (L := [.ref 0, .int (-3)]) cf_D_refuseOrGrant rfl (Nat.le_of_ble_eq_true rfl) (fun X hX hF => ?_)
  refine g_iload1 hX d_D_refuseOrGrant_0 ?_
  refine g_if_ge hX d_D_refuseOrGrant_1 (fun h => absurd h (by decide)) (fun c0 => ?_)
  refine g_aload0 hX d_D_refuseOrGrant_4 ?_
  refine g_iload1 hX d_D_refuseOrGrant_5 ?_
  refine g_callV (As := [_]) hX hF.1 d_D_refuseOrGrant_6 ml_D_91 cf_D_refuse cv_D_refuse rfl rfl (c_D_refuse3 hRF) (rcv_obj hX (lv_0 _) rfl rfl) (by omega) (by omega) (by omega) (Nat.le_of_ble_eq_true rfl) ?_
  rintro _ w2 ⟨rfl, hF2, hf2⟩
  show G0 _ _ _ _ _ _ _ _
  refine g_goto hX d_D_refuseOrGrant_9 ?_
  refine g_iret hX hF d_D_refuseOrGrant_17 (by omega) (by omega) ?_
  exact ⟨rfl, hf2, Or.inl ⟨3, by decide, by decide, rfl, hF2⟩⟩
theorem c_D_rogN {E : EV} {w : Mem} {k : Nat} {rf : Nat → Int32} {st : Int32} (hRF : DRf w rf st) (hk : k < 16) : T E m_D_refuseOrGrant 1 0 0 [.ref 0, .int (nI k)] w (fun r w2 => RoG rf (nI k) w w2 r) := by
  refine T_of (L := [.ref 0, .int (nI k)]) cf_D_refuseOrGrant rfl (Nat.le_of_ble_eq_true rfl) (fun X hX hF => ?_)
  refine g_iload1 hX d_D_refuseOrGrant_0 ?_
  refine g_if_ge hX d_D_refuseOrGrant_1 (fun c0 => ?_) (fun h => absurd (nI_pos' (by omega)) h)
  refine g_aload0 hX d_D_refuseOrGrant_12 ?_
  refine g_iload1 hX d_D_refuseOrGrant_13 ?_
  refine g_callV (As := [_]) hX hF.1 d_D_refuseOrGrant_14 ml_D_95 cf_D_grant cv_D_grant rfl rfl (c_D_grant (y := nI k) hRF) (rcv_obj hX (lv_0 _) rfl rfl) (by omega) (by omega) (by omega) (Nat.le_of_ble_eq_true rfl) ?_
  rintro _ w2 ⟨rfl, hF2, hf2⟩
  show G0 _ _ _ _ _ _ _ _
  refine g_iret hX hF d_D_refuseOrGrant_17 (by omega) (by omega) ?_
  exact ⟨rfl, hf2, Or.inr ⟨k, hk, rfl, hF2⟩⟩
theorem c_D_rog {E : EV} {w : Mem} {x : Int32} {rf : Nat → Int32} {st : Int32} (hx : ActA x) (hRF : DRf w rf st) : T E m_D_refuseOrGrant 1 0 0 [.ref 0, .int x] w (fun r w2 => RoG rf x w w2 r) := by
  rcases hx with rfl | rfl | rfl | ⟨k, hk, rfl⟩
  · exact c_D_rog1 hRF
  · exact c_D_rog2 hRF
  · exact c_D_rog3 hRF
  · exact c_D_rogN hRF hk
theorem act_fin {w w1 w2 : Mem} {s : SG} {a : Act} {r : Option Value} (h : DInv w s) (hG : DG w1 a.2.1 a.2.2) (f1 : FrAb w w1) (hn : (∃ k, 0 < k ∧ k < 4 ∧ a.1 = -(nI k)) → DG w1 (sG s) (sU s)) (hl : gL a.2.1 = gL (sG s)) (hr : RoG (sRf s) a.1 w1 w2 r) : r = some (.int (byAct a s).1) ∧ DInv w2 (byAct a s).2 ∧ DkD w w2 := by
  obtain ⟨rfl, f2, hc⟩ := hr
  rcases hc with ⟨k, k0, k4, e, hRF⟩ | ⟨k, k16, e, hRF⟩
  · rw [byAct_n (by omega) k0 e, e]
    exact ⟨rfl, h.n ((hn ⟨k, k0, k4, e⟩).r f2) rfl (f1.N.tr f2.N) hRF, (f1.N.tr f2.N).D⟩
  · rw [byAct_y (by omega) e]
    exact ⟨rfl, h.ok hG hl f1 hRF f2, (f1.N.tr f2.N).D⟩
theorem nI_nn {k m : Nat} (hk : 0 < k) (hk2 : k < 2 ^ 31) (hm : m < 2 ^ 31) : ¬ nI m = -(nI k) := fun e => by
  have h1 := nI_pos hm
  rw [e, Int32.lt_iff_toInt_lt, Int32.toInt_neg, nI_toInt hk2] at h1
  have h2 : Int.bmod (-(k : Int)) 4294967296 = -(k : Int) := Int.bmod_eq_of_le (by omega) (by omega)
  exact h1 (by show Int.bmod _ 4294967296 < 0; rw [h2]; omega)
theorem act_nn {k : Nat} (k0 : 0 < k) (k4 : k < 4) {q : Prop} [Decidable q] : ¬ b2i q = -(nI k) := fun e => by
  obtain ⟨m, hm, h⟩ := b2i_n16 q
  rw [h] at e
  exact nI_nn k0 (by omega) (by omega) e
theorem aEdge_sn (x y : Int32) (g : GC) (u : List (Nat × Snap)) : ((∃ k, 0 < k ∧ k < 4 ∧ (aEdge x y g u).1 = -(nI k)) → (aEdge x y g u).2 = (g, u)) ∧ gL (aEdge x y g u).2.1 = gL g := by
  unfold aEdge
  split
  · exact ⟨fun _ => rfl, rfl⟩
  · split
    · exact ⟨fun _ => rfl, rfl⟩
    · exact ⟨fun ⟨k, k0, k4, e⟩ => absurd e (act_nn k0 k4), rfl⟩
theorem aLink_sn (x y : Int32) (g : GC) (u : List (Nat × Snap)) : ((∃ k, 0 < k ∧ k < 4 ∧ (aLink x y g u).1 = -(nI k)) → (aLink x y g u).2 = (g, u)) ∧ gL (aLink x y g u).2.1 = gL g := by
  unfold aLink
  split
  · exact ⟨fun _ => rfl, rfl⟩
  · split
    · exact ⟨fun _ => rfl, rfl⟩
    · exact ⟨fun ⟨k, k0, k4, e⟩ => absurd e (act_nn k0 k4), rfl⟩
theorem aPaint_sn {x y : Int32} {g : GC} {u : List (Nat × Snap)} (hW : WG g) : ((∃ k, 0 < k ∧ k < 4 ∧ (aPaint x y g u).1 = -(nI k)) → (aPaint x y g u).2 = (g, u)) ∧ gL (aPaint x y g u).2.1 = gL g := by
  have hn := hW.n
  unfold aPaint
  split
  · exact ⟨fun _ => rfl, rfl⟩
  · split
    · exact ⟨fun _ => rfl, rfl⟩
    · rename_i h1 h2
      split
      · exact ⟨fun _ => rfl, rfl⟩
      · obtain ⟨j, hj, -, ht⟩ := inN_of (Decidable.of_not_not h2) (by omega)
        have := hW.c j hj
        exact ⟨fun ⟨k, k0, k4, e⟩ => absurd e (nI_nn k0 (by omega) (by rw [ht]; omega)), rfl⟩
theorem aDye_sn {x y : Int32} {g : GC} {u : List (Nat × Snap)} (hW : WG g) : ((∃ k, 0 < k ∧ k < 4 ∧ (aDye x y g u).1 = -(nI k)) → (aDye x y g u).2 = (g, u)) ∧ gL (aDye x y g u).2.1 = gL g := by
  have hn := hW.v
  unfold aDye
  split
  · exact ⟨fun _ => rfl, rfl⟩
  · split
    · exact ⟨fun _ => rfl, rfl⟩
    · rename_i h1 h2
      split
      · exact ⟨fun _ => rfl, rfl⟩
      · obtain ⟨j, hj, -, ht⟩ := inN_of (Decidable.of_not_not h2) (by omega)
        have := hW.y j hj
        exact ⟨fun ⟨k, k0, k4, e⟩ => absurd e (nI_nn k0 (by omega) (by rw [ht]; omega)), rfl⟩
theorem c_D_edge {E : EV} {w : Mem} {x y : Int32} {s : SG} (h : DInv w s) : T E m_D_edge 4 0 0 [.ref 0, .int x, .int y] w (fun r w2 => r = some (.int (byAct (aEdge x y (sG s) (sU s)) s).1) ∧ DInv w2 (byAct (aEdge x y (sG s) (sU s)) s).2 ∧ DkD w w2) := by
  refine T_of (L := [.ref 0, .int x, .int y]) cf_D_edge rfl (Nat.le_of_ble_eq_true rfl) (fun X hX hF => ?_)
  obtain ⟨⟨hR, hW, hA⟩, hL, hT, hI, hRF, ⟨hsm, hfa, hsp⟩, hdr, hfx⟩ := id h
  have hn := hW.n
  have hv := hW.v
  have he := hW.el
  have hll := hW.ll
  have hsl := hW.sl
  refine g_aload0 hX d_D_edge_0 ?_
  refine g_aload0 hX d_D_edge_1 ?_
  refine g_getF hX d_D_edge_2 fl_D_26 (lv_0 _) ?_
  refine g_aload0 hX d_D_edge_5 ?_
  refine g_getF hX d_D_edge_6 fl_D_10 (lv_0 _) ?_
  refine g_iload1 hX d_D_edge_9 ?_
  refine g_iload2 hX d_D_edge_10 ?_
  refine g_callV (As := [_, _, _]) hX hF.1 d_D_edge_11 ml_D_238 cf_Ac_joinNodes cv_Ac_joinNodes rfl rfl (c_Ac_joinNodes (x := x) (y := y) h.g) (rcv_obj hX (lv_20 _) rfl rfl) (by omega) (by omega) (by omega) (Nat.le_of_ble_eq_true rfl) ?_
  rintro _ w1 ⟨rfl, hG1, hab⟩
  have hF1 := hRF.ab hab
  show G0 _ _ _ _ _ _ _ _
  refine g_callV (As := [_]) hX hF.1 d_D_edge_14 ml_D_242 cf_D_refuseOrGrant cv_D_refuseOrGrant rfl rfl (c_D_rog (actA_e _ _ _ _) hF1) (rcv_obj hX (lv_0 _) rfl rfl) (by omega) (by omega) (by omega) (Nat.le_of_ble_eq_true rfl) ?_
  rintro r2 w2 hr
  obtain ⟨hr1, hr2⟩ := id hr
  subst hr1
  show G0 _ _ _ _ _ _ _ _
  refine g_iret hX hF d_D_edge_17 (by omega) (by omega) ?_
  exact act_fin h hG1 hab (fun hk => by rw [(aEdge_sn x y (sG s) (sU s)).1 hk] at hG1; exact hG1) (aEdge_sn x y (sG s) (sU s)).2 ⟨rfl, hr2⟩
theorem c_D_link {E : EV} {w : Mem} {x y : Int32} {s : SG} (h : DInv w s) : T E m_D_link 4 0 0 [.ref 0, .int x, .int y] w (fun r w2 => r = some (.int (byAct (aLink x y (sG s) (sU s)) s).1) ∧ DInv w2 (byAct (aLink x y (sG s) (sU s)) s).2 ∧ DkD w w2) := by
  refine T_of (L := [.ref 0, .int x, .int y]) cf_D_link rfl (Nat.le_of_ble_eq_true rfl) (fun X hX hF => ?_)
  obtain ⟨⟨hR, hW, hA⟩, hL, hT, hI, hRF, ⟨hsm, hfa, hsp⟩, hdr, hfx⟩ := id h
  have hn := hW.n
  have hv := hW.v
  have he := hW.el
  have hll := hW.ll
  have hsl := hW.sl
  refine g_aload0 hX d_D_link_0 ?_
  refine g_aload0 hX d_D_link_1 ?_
  refine g_getF hX d_D_link_2 fl_D_26 (lv_0 _) ?_
  refine g_aload0 hX d_D_link_5 ?_
  refine g_getF hX d_D_link_6 fl_D_10 (lv_0 _) ?_
  refine g_iload1 hX d_D_link_9 ?_
  refine g_iload2 hX d_D_link_10 ?_
  refine g_callV (As := [_, _, _]) hX hF.1 d_D_link_11 ml_D_245 cf_Ac_tieVertices cv_Ac_tieVertices rfl rfl (c_Ac_tieVertices (x := x) (y := y) h.g) (rcv_obj hX (lv_20 _) rfl rfl) (by omega) (by omega) (by omega) (Nat.le_of_ble_eq_true rfl) ?_
  rintro _ w1 ⟨rfl, hG1, hab⟩
  have hF1 := hRF.ab hab
  show G0 _ _ _ _ _ _ _ _
  refine g_callV (As := [_]) hX hF.1 d_D_link_14 ml_D_242 cf_D_refuseOrGrant cv_D_refuseOrGrant rfl rfl (c_D_rog (actA_l _ _ _ _) hF1) (rcv_obj hX (lv_0 _) rfl rfl) (by omega) (by omega) (by omega) (Nat.le_of_ble_eq_true rfl) ?_
  rintro r2 w2 hr
  obtain ⟨hr1, hr2⟩ := id hr
  subst hr1
  show G0 _ _ _ _ _ _ _ _
  refine g_iret hX hF d_D_link_17 (by omega) (by omega) ?_
  exact act_fin h hG1 hab (fun hk => by rw [(aLink_sn x y (sG s) (sU s)).1 hk] at hG1; exact hG1) (aLink_sn x y (sG s) (sU s)).2 ⟨rfl, hr2⟩
theorem c_D_paint {E : EV} {w : Mem} {x y : Int32} {s : SG} (h : DInv w s) : T E m_D_paint 4 0 0 [.ref 0, .int x, .int y] w (fun r w2 => r = some (.int (byAct (aPaint x y (sG s) (sU s)) s).1) ∧ DInv w2 (byAct (aPaint x y (sG s) (sU s)) s).2 ∧ DkD w w2) := by
  refine T_of (L := [.ref 0, .int x, .int y]) cf_D_paint rfl (Nat.le_of_ble_eq_true rfl) (fun X hX hF => ?_)
  obtain ⟨⟨hR, hW, hA⟩, hL, hT, hI, hRF, ⟨hsm, hfa, hsp⟩, hdr, hfx⟩ := id h
  have hn := hW.n
  have hv := hW.v
  have he := hW.el
  have hll := hW.ll
  have hsl := hW.sl
  refine g_aload0 hX d_D_paint_0 ?_
  refine g_aload0 hX d_D_paint_1 ?_
  refine g_getF hX d_D_paint_2 fl_D_26 (lv_0 _) ?_
  refine g_aload0 hX d_D_paint_5 ?_
  refine g_getF hX d_D_paint_6 fl_D_10 (lv_0 _) ?_
  refine g_iload1 hX d_D_paint_9 ?_
  refine g_iload2 hX d_D_paint_10 ?_
  refine g_callV (As := [_, _, _]) hX hF.1 d_D_paint_11 ml_D_248 cf_Ac_paintNode cv_Ac_paintNode rfl rfl (c_Ac_paintNode (x := x) (y := y) h.g) (rcv_obj hX (lv_20 _) rfl rfl) (by omega) (by omega) (by omega) (Nat.le_of_ble_eq_true rfl) ?_
  rintro _ w1 ⟨rfl, hG1, hab⟩
  have hF1 := hRF.ab hab
  show G0 _ _ _ _ _ _ _ _
  refine g_callV (As := [_]) hX hF.1 d_D_paint_14 ml_D_242 cf_D_refuseOrGrant cv_D_refuseOrGrant rfl rfl (c_D_rog (actA_p hW) hF1) (rcv_obj hX (lv_0 _) rfl rfl) (by omega) (by omega) (by omega) (Nat.le_of_ble_eq_true rfl) ?_
  rintro r2 w2 hr
  obtain ⟨hr1, hr2⟩ := id hr
  subst hr1
  show G0 _ _ _ _ _ _ _ _
  refine g_iret hX hF d_D_paint_17 (by omega) (by omega) ?_
  exact act_fin h hG1 hab (fun hk => by rw [(aPaint_sn (x := x) (y := y) (u := sU s) hW).1 hk] at hG1; exact hG1) (aPaint_sn (x := x) (y := y) (u := sU s) hW).2 ⟨rfl, hr2⟩
theorem c_D_dye {E : EV} {w : Mem} {x y : Int32} {s : SG} (h : DInv w s) : T E m_D_dye 4 0 0 [.ref 0, .int x, .int y] w (fun r w2 => r = some (.int (byAct (aDye x y (sG s) (sU s)) s).1) ∧ DInv w2 (byAct (aDye x y (sG s) (sU s)) s).2 ∧ DkD w w2) := by
  refine T_of (L := [.ref 0, .int x, .int y]) cf_D_dye rfl (Nat.le_of_ble_eq_true rfl) (fun X hX hF => ?_)
  obtain ⟨⟨hR, hW, hA⟩, hL, hT, hI, hRF, ⟨hsm, hfa, hsp⟩, hdr, hfx⟩ := id h
  have hn := hW.n
  have hv := hW.v
  have he := hW.el
  have hll := hW.ll
  have hsl := hW.sl
  refine g_aload0 hX d_D_dye_0 ?_
  refine g_aload0 hX d_D_dye_1 ?_
  refine g_getF hX d_D_dye_2 fl_D_26 (lv_0 _) ?_
  refine g_aload0 hX d_D_dye_5 ?_
  refine g_getF hX d_D_dye_6 fl_D_10 (lv_0 _) ?_
  refine g_iload1 hX d_D_dye_9 ?_
  refine g_iload2 hX d_D_dye_10 ?_
  refine g_callV (As := [_, _, _]) hX hF.1 d_D_dye_11 ml_D_251 cf_Ac_dyeVertex cv_Ac_dyeVertex rfl rfl (c_Ac_dyeVertex (x := x) (y := y) h.g) (rcv_obj hX (lv_20 _) rfl rfl) (by omega) (by omega) (by omega) (Nat.le_of_ble_eq_true rfl) ?_
  rintro _ w1 ⟨rfl, hG1, hab⟩
  have hF1 := hRF.ab hab
  show G0 _ _ _ _ _ _ _ _
  refine g_callV (As := [_]) hX hF.1 d_D_dye_14 ml_D_242 cf_D_refuseOrGrant cv_D_refuseOrGrant rfl rfl (c_D_rog (actA_d hW) hF1) (rcv_obj hX (lv_0 _) rfl rfl) (by omega) (by omega) (by omega) (Nat.le_of_ble_eq_true rfl) ?_
  rintro r2 w2 hr
  obtain ⟨hr1, hr2⟩ := id hr
  subst hr1
  show G0 _ _ _ _ _ _ _ _
  refine g_iret hX hF d_D_dye_17 (by omega) (by omega) ?_
  exact act_fin h hG1 hab (fun hk => by rw [(aDye_sn (x := x) (y := y) (u := sU s) hW).1 hk] at hG1; exact hG1) (aDye_sn (x := x) (y := y) (u := sU s) hW).2 ⟨rfl, hr2⟩
