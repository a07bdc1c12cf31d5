def m_Bo_addNode : MR := (⟨"SubgraphDesk$Board", "addNode", "(I)I"⟩, prog_3_method_6_code, 2, (some .int))
theorem cf_Bo_addNode : CF m_Bo_addNode 1 := ⟨gd 615 (by decide +kernel) rfl, gd 140 (by decide +kernel) rfl, by decide +kernel, by decide, by decide +kernel⟩
theorem cv_Bo_addNode : CV m_Bo_addNode := ⟨gd 613 (by decide +kernel) rfl, gd 614 (by decide +kernel) rfl⟩
def m_Bo_addSight : MR := (⟨"SubgraphDesk$Board", "addSight", "(II)I"⟩, prog_3_method_9_code, 3, (some .int))
theorem cf_Bo_addSight : CF m_Bo_addSight 2 := ⟨gd 1365 (by decide +kernel) rfl, gd 140 (by decide +kernel) rfl, by decide +kernel, by decide, by decide +kernel⟩
theorem cv_Bo_addSight : CV m_Bo_addSight := ⟨gd 1363 (by decide +kernel) rfl, gd 1364 (by decide +kernel) rfl⟩
def m_Bo_addVertex : MR := (⟨"SubgraphDesk$Board", "addVertex", "(I)I"⟩, prog_3_method_7_code, 2, (some .int))
theorem cf_Bo_addVertex : CF m_Bo_addVertex 1 := ⟨gd 627 (by decide +kernel) rfl, gd 140 (by decide +kernel) rfl, by decide +kernel, by decide, by decide +kernel⟩
theorem cv_Bo_addVertex : CV m_Bo_addVertex := ⟨gd 625 (by decide +kernel) rfl, gd 626 (by decide +kernel) rfl⟩
def m_Bo_canJoin : MR := (⟨"SubgraphDesk$Board", "canJoin", "(II)Z"⟩, prog_3_method_15_code, 3, (some .boolean))
theorem cf_Bo_canJoin : CF m_Bo_canJoin 2 := ⟨gd 753 (by decide +kernel) rfl, gd 140 (by decide +kernel) rfl, by decide +kernel, by decide, by decide +kernel⟩
theorem cv_Bo_canJoin : CV m_Bo_canJoin := ⟨gd 751 (by decide +kernel) rfl, gd 752 (by decide +kernel) rfl⟩
def m_Bo_countLinks : MR := (⟨"SubgraphDesk$Board", "countLinks", "()I"⟩, prog_3_method_14_code, 3, (some .int))
theorem cf_Bo_countLinks : CF m_Bo_countLinks 0 := ⟨gd 1443 (by decide +kernel) rfl, gd 140 (by decide +kernel) rfl, by decide +kernel, by decide, by decide +kernel⟩
theorem cv_Bo_countLinks : CV m_Bo_countLinks := ⟨gd 1441 (by decide +kernel) rfl, gd 1442 (by decide +kernel) rfl⟩
def m_Bo_toggleLink : MR := (⟨"SubgraphDesk$Board", "toggleLink", "(II)V"⟩, prog_3_method_19_code, 3, none)
theorem cf_Bo_toggleLink : CF m_Bo_toggleLink 2 := ⟨gd 1100 (by decide +kernel) rfl, gd 140 (by decide +kernel) rfl, by decide +kernel, by decide, by decide +kernel⟩
theorem cv_Bo_toggleLink : CV m_Bo_toggleLink := ⟨gd 1098 (by decide +kernel) rfl, gd 1099 (by decide +kernel) rfl⟩
theorem d_Bo_addNode_0 : Dc prog_3_method_6_code 0 (.aload_n 0) 1 1 := ⟨by decide +kernel, rfl⟩
theorem d_Bo_addNode_1 : Dc prog_3_method_6_code 1 (.getfield 43) 3 4 := ⟨by decide +kernel, rfl⟩
theorem d_Bo_addNode_4 : Dc prog_3_method_6_code 4 (.bipush 12) 2 6 := ⟨by decide +kernel, rfl⟩
theorem d_Bo_addNode_6 : Dj prog_3_method_6_code 6 (.if_icmp .lt 5) 9 5 11 := ⟨by decide +kernel, rfl, rfl⟩
theorem d_Bo_addNode_11 : Dc prog_3_method_6_code 11 (.aload_n 0) 1 12 := ⟨by decide +kernel, rfl⟩
theorem d_Bo_addNode_12 : Dc prog_3_method_6_code 12 (.getfield 9) 3 15 := ⟨by decide +kernel, rfl⟩
theorem d_Bo_addNode_15 : Dc prog_3_method_6_code 15 (.aload_n 0) 1 16 := ⟨by decide +kernel, rfl⟩
theorem d_Bo_addNode_16 : Dc prog_3_method_6_code 16 (.getfield 43) 3 19 := ⟨by decide +kernel, rfl⟩
theorem d_Bo_addNode_19 : Dc prog_3_method_6_code 19 (.iload_n 1) 1 20 := ⟨by decide +kernel, rfl⟩
theorem d_Bo_addNode_20 : Dc prog_3_method_6_code 20 (.iastore) 1 21 := ⟨by decide +kernel, rfl⟩
theorem d_Bo_addNode_21 : Dc prog_3_method_6_code 21 (.aload_n 0) 1 22 := ⟨by decide +kernel, rfl⟩
theorem d_Bo_addNode_22 : Dc prog_3_method_6_code 22 (.getfield 15) 3 25 := ⟨by decide +kernel, rfl⟩
theorem d_Bo_addNode_25 : Dc prog_3_method_6_code 25 (.aload_n 0) 1 26 := ⟨by decide +kernel, rfl⟩
theorem d_Bo_addNode_26 : Dc prog_3_method_6_code 26 (.getfield 43) 3 29 := ⟨by decide +kernel, rfl⟩
theorem d_Bo_addNode_29 : Dc prog_3_method_6_code 29 (.iconst 0) 1 30 := ⟨by decide +kernel, rfl⟩
theorem d_Bo_addNode_30 : Dc prog_3_method_6_code 30 (.iastore) 1 31 := ⟨by decide +kernel, rfl⟩
theorem d_Bo_addNode_31 : Dc prog_3_method_6_code 31 (.aload_n 0) 1 32 := ⟨by decide +kernel, rfl⟩
theorem d_Bo_addNode_32 : Dc prog_3_method_6_code 32 (.dup) 1 33 := ⟨by decide +kernel, rfl⟩
theorem d_Bo_addNode_33 : Dc prog_3_method_6_code 33 (.getfield 43) 3 36 := ⟨by decide +kernel, rfl⟩
theorem d_Bo_addNode_36 : Dc prog_3_method_6_code 36 (.dup_x1) 1 37 := ⟨by decide +kernel, rfl⟩
theorem d_Bo_addNode_37 : Dc prog_3_method_6_code 37 (.iconst 1) 1 38 := ⟨by decide +kernel, rfl⟩
theorem d_Bo_addNode_38 : Dc prog_3_method_6_code 38 (.iadd) 1 39 := ⟨by decide +kernel, rfl⟩
theorem d_Bo_addNode_39 : Dc prog_3_method_6_code 39 (.putfield 43) 3 42 := ⟨by decide +kernel, rfl⟩
theorem d_Bo_addNode_42 : Dc prog_3_method_6_code 42 (.ireturn) 1 43 := ⟨by decide +kernel, rfl⟩
theorem d_Bo_addSight_0 : Dc prog_3_method_9_code 0 (.aload_n 0) 1 1 := ⟨by decide +kernel, rfl⟩
theorem d_Bo_addSight_1 : Dc prog_3_method_9_code 1 (.getfield 52) 3 4 := ⟨by decide +kernel, rfl⟩
theorem d_Bo_addSight_4 : Dc prog_3_method_9_code 4 (.bipush 6) 2 6 := ⟨by decide +kernel, rfl⟩
theorem d_Bo_addSight_6 : Dj prog_3_method_9_code 6 (.if_icmp .ge 28) 9 28 34 := ⟨by decide +kernel, rfl, rfl⟩
theorem d_Bo_addSight_9 : Dc prog_3_method_9_code 9 (.aload_n 0) 1 10 := ⟨by decide +kernel, rfl⟩
theorem d_Bo_addSight_10 : Dc prog_3_method_9_code 10 (.getfield 27) 3 13 := ⟨by decide +kernel, rfl⟩
theorem d_Bo_addSight_13 : Dc prog_3_method_9_code 13 (.aload_n 0) 1 14 := ⟨by decide +kernel, rfl⟩
theorem d_Bo_addSight_14 : Dc prog_3_method_9_code 14 (.getfield 52) 3 17 := ⟨by decide +kernel, rfl⟩
theorem d_Bo_addSight_17 : Dc prog_3_method_9_code 17 (.iload_n 1) 1 18 := ⟨by decide +kernel, rfl⟩
theorem d_Bo_addSight_18 : Dc prog_3_method_9_code 18 (.bipush 12) 2 20 := ⟨by decide +kernel, rfl⟩
theorem d_Bo_addSight_20 : Dc prog_3_method_9_code 20 (.imul) 1 21 := ⟨by decide +kernel, rfl⟩
theorem d_Bo_addSight_21 : Dc prog_3_method_9_code 21 (.iload_n 2) 1 22 := ⟨by decide +kernel, rfl⟩
theorem d_Bo_addSight_22 : Dc prog_3_method_9_code 22 (.iadd) 1 23 := ⟨by decide +kernel, rfl⟩
theorem d_Bo_addSight_23 : Dc prog_3_method_9_code 23 (.iastore) 1 24 := ⟨by decide +kernel, rfl⟩
theorem d_Bo_addSight_24 : Dc prog_3_method_9_code 24 (.aload_n 0) 1 25 := ⟨by decide +kernel, rfl⟩
theorem d_Bo_addSight_25 : Dc prog_3_method_9_code 25 (.dup) 1 26 := ⟨by decide +kernel, rfl⟩
theorem d_Bo_addSight_26 : Dc prog_3_method_9_code 26 (.getfield 52) 3 29 := ⟨by decide +kernel, rfl⟩
theorem d_Bo_addSight_29 : Dc prog_3_method_9_code 29 (.iconst 1) 1 30 := ⟨by decide +kernel, rfl⟩
theorem d_Bo_addSight_30 : Dc prog_3_method_9_code 30 (.iadd) 1 31 := ⟨by decide +kernel, rfl⟩
theorem d_Bo_addSight_31 : Dc prog_3_method_9_code 31 (.putfield 52) 3 34 := ⟨by decide +kernel, rfl⟩
theorem d_Bo_addSight_34 : Dc prog_3_method_9_code 34 (.aload_n 0) 1 35 := ⟨by decide +kernel, rfl⟩
theorem d_Bo_addSight_35 : Dc prog_3_method_9_code 35 (.getfield 52) 3 38 := ⟨by decide +kernel, rfl⟩
theorem d_Bo_addSight_38 : Dc prog_3_method_9_code 38 (.ireturn) 1 39 := ⟨by decide +kernel, rfl⟩
theorem d_Bo_addVertex_0 : Dc prog_3_method_7_code 0 (.aload_n 0) 1 1 := ⟨by decide +kernel, rfl⟩
theorem d_Bo_addVertex_1 : Dc prog_3_method_7_code 1 (.getfield 49) 3 4 := ⟨by decide +kernel, rfl⟩
theorem d_Bo_addVertex_4 : Dc prog_3_method_7_code 4 (.iconst 5) 1 5 := ⟨by decide +kernel, rfl⟩
theorem d_Bo_addVertex_5 : Dj prog_3_method_7_code 5 (.if_icmp .lt 5) 8 5 10 := ⟨by decide +kernel, rfl, rfl⟩
theorem d_Bo_addVertex_10 : Dc prog_3_method_7_code 10 (.aload_n 0) 1 11 := ⟨by decide +kernel, rfl⟩
theorem d_Bo_addVertex_11 : Dc prog_3_method_7_code 11 (.getfield 21) 3 14 := ⟨by decide +kernel, rfl⟩
theorem d_Bo_addVertex_14 : Dc prog_3_method_7_code 14 (.aload_n 0) 1 15 := ⟨by decide +kernel, rfl⟩
theorem d_Bo_addVertex_15 : Dc prog_3_method_7_code 15 (.getfield 49) 3 18 := ⟨by decide +kernel, rfl⟩
theorem d_Bo_addVertex_18 : Dc prog_3_method_7_code 18 (.iload_n 1) 1 19 := ⟨by decide +kernel, rfl⟩
theorem d_Bo_addVertex_19 : Dc prog_3_method_7_code 19 (.iastore) 1 20 := ⟨by decide +kernel, rfl⟩
theorem d_Bo_addVertex_20 : Dc prog_3_method_7_code 20 (.aload_n 0) 1 21 := ⟨by decide +kernel, rfl⟩
theorem d_Bo_addVertex_21 : Dc prog_3_method_7_code 21 (.getfield 24) 3 24 := ⟨by decide +kernel, rfl⟩
theorem d_Bo_addVertex_24 : Dc prog_3_method_7_code 24 (.aload_n 0) 1 25 := ⟨by decide +kernel, rfl⟩
theorem d_Bo_addVertex_25 : Dc prog_3_method_7_code 25 (.getfield 49) 3 28 := ⟨by decide +kernel, rfl⟩
theorem d_Bo_addVertex_28 : Dc prog_3_method_7_code 28 (.iconst 0) 1 29 := ⟨by decide +kernel, rfl⟩
theorem d_Bo_addVertex_29 : Dc prog_3_method_7_code 29 (.iastore) 1 30 := ⟨by decide +kernel, rfl⟩
theorem d_Bo_addVertex_30 : Dc prog_3_method_7_code 30 (.aload_n 0) 1 31 := ⟨by decide +kernel, rfl⟩
theorem d_Bo_addVertex_31 : Dc prog_3_method_7_code 31 (.dup) 1 32 := ⟨by decide +kernel, rfl⟩
theorem d_Bo_addVertex_32 : Dc prog_3_method_7_code 32 (.getfield 49) 3 35 := ⟨by decide +kernel, rfl⟩
theorem d_Bo_addVertex_35 : Dc prog_3_method_7_code 35 (.dup_x1) 1 36 := ⟨by decide +kernel, rfl⟩
theorem d_Bo_addVertex_36 : Dc prog_3_method_7_code 36 (.iconst 1) 1 37 := ⟨by decide +kernel, rfl⟩
theorem d_Bo_addVertex_37 : Dc prog_3_method_7_code 37 (.iadd) 1 38 := ⟨by decide +kernel, rfl⟩
theorem d_Bo_addVertex_38 : Dc prog_3_method_7_code 38 (.putfield 49) 3 41 := ⟨by decide +kernel, rfl⟩
theorem d_Bo_addVertex_41 : Dc prog_3_method_7_code 41 (.ireturn) 1 42 := ⟨by decide +kernel, rfl⟩
theorem d_Bo_canJoin_0 : Dc prog_3_method_15_code 0 (.aload_n 0) 1 1 := ⟨by decide +kernel, rfl⟩
theorem d_Bo_canJoin_1 : Dc prog_3_method_15_code 1 (.iload_n 1) 1 2 := ⟨by decide +kernel, rfl⟩
theorem d_Bo_canJoin_2 : Dc prog_3_method_15_code 2 (.invokevirtual 72) 3 5 := ⟨by decide +kernel, rfl⟩
theorem d_Bo_canJoin_5 : Dj prog_3_method_15_code 5 (.ifCond .eq 33) 8 33 38 := ⟨by decide +kernel, rfl, rfl⟩
theorem d_Bo_canJoin_8 : Dc prog_3_method_15_code 8 (.aload_n 0) 1 9 := ⟨by decide +kernel, rfl⟩
theorem d_Bo_canJoin_9 : Dc prog_3_method_15_code 9 (.iload_n 2) 1 10 := ⟨by decide +kernel, rfl⟩
theorem d_Bo_canJoin_10 : Dc prog_3_method_15_code 10 (.invokevirtual 72) 3 13 := ⟨by decide +kernel, rfl⟩
theorem d_Bo_canJoin_13 : Dj prog_3_method_15_code 13 (.ifCond .eq 25) 16 25 38 := ⟨by decide +kernel, rfl, rfl⟩
theorem d_Bo_canJoin_16 : Dc prog_3_method_15_code 16 (.iload_n 1) 1 17 := ⟨by decide +kernel, rfl⟩
theorem d_Bo_canJoin_17 : Dc prog_3_method_15_code 17 (.iload_n 2) 1 18 := ⟨by decide +kernel, rfl⟩
theorem d_Bo_canJoin_18 : Dj prog_3_method_15_code 18 (.if_icmp .eq 20) 21 20 38 := ⟨by decide +kernel, rfl, rfl⟩
theorem d_Bo_canJoin_21 : Dc prog_3_method_15_code 21 (.aload_n 0) 1 22 := ⟨by decide +kernel, rfl⟩
theorem d_Bo_canJoin_22 : Dc prog_3_method_15_code 22 (.getfield 15) 3 25 := ⟨by decide +kernel, rfl⟩
theorem d_Bo_canJoin_25 : Dc prog_3_method_15_code 25 (.iload_n 1) 1 26 := ⟨by decide +kernel, rfl⟩
theorem d_Bo_canJoin_26 : Dc prog_3_method_15_code 26 (.iaload) 1 27 := ⟨by decide +kernel, rfl⟩
theorem d_Bo_canJoin_27 : Dc prog_3_method_15_code 27 (.iload_n 2) 1 28 := ⟨by decide +kernel, rfl⟩
theorem d_Bo_canJoin_28 : Dc prog_3_method_15_code 28 (.ishr) 1 29 := ⟨by decide +kernel, rfl⟩
theorem d_Bo_canJoin_29 : Dc prog_3_method_15_code 29 (.iconst 1) 1 30 := ⟨by decide +kernel, rfl⟩
theorem d_Bo_canJoin_30 : Dc prog_3_method_15_code 30 (.iand) 1 31 := ⟨by decide +kernel, rfl⟩
theorem d_Bo_canJoin_31 : Dj prog_3_method_15_code 31 (.ifCond .ne 7) 34 7 38 := ⟨by decide +kernel, rfl, rfl⟩
theorem d_Bo_canJoin_34 : Dc prog_3_method_15_code 34 (.iconst 1) 1 35 := ⟨by decide +kernel, rfl⟩
theorem d_Bo_canJoin_35 : Dj prog_3_method_15_code 35 (.goto 4) 38 4 39 := ⟨by decide +kernel, rfl, rfl⟩
theorem d_Bo_canJoin_38 : Dc prog_3_method_15_code 38 (.iconst 0) 1 39 := ⟨by decide +kernel, rfl⟩
theorem d_Bo_canJoin_39 : Dc prog_3_method_15_code 39 (.ireturn) 1 40 := ⟨by decide +kernel, rfl⟩
theorem d_Bo_countLinks_0 : Dc prog_3_method_14_code 0 (.iconst 0) 1 1 := ⟨by decide +kernel, rfl⟩
theorem d_Bo_countLinks_1 : Dc prog_3_method_14_code 1 (.istore_n 1) 1 2 := ⟨by decide +kernel, rfl⟩
theorem d_Bo_countLinks_2 : Dc prog_3_method_14_code 2 (.iconst 0) 1 3 := ⟨by decide +kernel, rfl⟩
theorem d_Bo_countLinks_3 : Dc prog_3_method_14_code 3 (.istore_n 2) 1 4 := ⟨by decide +kernel, rfl⟩
theorem d_Bo_countLinks_4 : Dc prog_3_method_14_code 4 (.iload_n 2) 1 5 := ⟨by decide +kernel, rfl⟩
theorem d_Bo_countLinks_5 : Dc prog_3_method_14_code 5 (.aload_n 0) 1 6 := ⟨by decide +kernel, rfl⟩
theorem d_Bo_countLinks_6 : Dc prog_3_method_14_code 6 (.getfield 49) 3 9 := ⟨by decide +kernel, rfl⟩
theorem d_Bo_countLinks_9 : Dj prog_3_method_14_code 9 (.if_icmp .ge 17) 12 17 26 := ⟨by decide +kernel, rfl, rfl⟩
theorem d_Bo_countLinks_12 : Dc prog_3_method_14_code 12 (.iload_n 1) 1 13 := ⟨by decide +kernel, rfl⟩
theorem d_Bo_countLinks_13 : Dc prog_3_method_14_code 13 (.aload_n 0) 1 14 := ⟨by decide +kernel, rfl⟩
theorem d_Bo_countLinks_14 : Dc prog_3_method_14_code 14 (.iload_n 2) 1 15 := ⟨by decide +kernel, rfl⟩
theorem d_Bo_countLinks_15 : Dc prog_3_method_14_code 15 (.invokevirtual 84) 3 18 := ⟨by decide +kernel, rfl⟩
theorem d_Bo_countLinks_18 : Dc prog_3_method_14_code 18 (.iadd) 1 19 := ⟨by decide +kernel, rfl⟩
theorem d_Bo_countLinks_19 : Dc prog_3_method_14_code 19 (.istore_n 1) 1 20 := ⟨by decide +kernel, rfl⟩
theorem d_Bo_countLinks_20 : Dc prog_3_method_14_code 20 (.iinc 2 1) 3 23 := ⟨by decide +kernel, rfl⟩
theorem d_Bo_countLinks_23 : Dj prog_3_method_14_code 23 (.goto (-19)) 26 (-19) 4 := ⟨by decide +kernel, rfl, rfl⟩
theorem d_Bo_countLinks_26 : Dc prog_3_method_14_code 26 (.iload_n 1) 1 27 := ⟨by decide +kernel, rfl⟩
theorem d_Bo_countLinks_27 : Dc prog_3_method_14_code 27 (.iconst 2) 1 28 := ⟨by decide +kernel, rfl⟩
theorem d_Bo_countLinks_28 : Dc prog_3_method_14_code 28 (.idiv) 1 29 := ⟨by decide +kernel, rfl⟩
theorem d_Bo_countLinks_29 : Dc prog_3_method_14_code 29 (.ireturn) 1 30 := ⟨by decide +kernel, rfl⟩
theorem d_Bo_toggleLink_0 : Dc prog_3_method_19_code 0 (.aload_n 0) 1 1 := ⟨by decide +kernel, rfl⟩
theorem d_Bo_toggleLink_1 : Dc prog_3_method_19_code 1 (.getfield 24) 3 4 := ⟨by decide +kernel, rfl⟩
theorem d_Bo_toggleLink_4 : Dc prog_3_method_19_code 4 (.iload_n 1) 1 5 := ⟨by decide +kernel, rfl⟩
theorem d_Bo_toggleLink_5 : Dc prog_3_method_19_code 5 (.dup2) 1 6 := ⟨by decide +kernel, rfl⟩
theorem d_Bo_toggleLink_6 : Dc prog_3_method_19_code 6 (.iaload) 1 7 := ⟨by decide +kernel, rfl⟩
theorem d_Bo_toggleLink_7 : Dc prog_3_method_19_code 7 (.iconst 1) 1 8 := ⟨by decide +kernel, rfl⟩
theorem d_Bo_toggleLink_8 : Dc prog_3_method_19_code 8 (.iload_n 2) 1 9 := ⟨by decide +kernel, rfl⟩
theorem d_Bo_toggleLink_9 : Dc prog_3_method_19_code 9 (.ishl) 1 10 := ⟨by decide +kernel, rfl⟩
theorem d_Bo_toggleLink_10 : Dc prog_3_method_19_code 10 (.ixor) 1 11 := ⟨by decide +kernel, rfl⟩
theorem d_Bo_toggleLink_11 : Dc prog_3_method_19_code 11 (.iastore) 1 12 := ⟨by decide +kernel, rfl⟩
theorem d_Bo_toggleLink_12 : Dc prog_3_method_19_code 12 (.aload_n 0) 1 13 := ⟨by decide +kernel, rfl⟩
theorem d_Bo_toggleLink_13 : Dc prog_3_method_19_code 13 (.getfield 24) 3 16 := ⟨by decide +kernel, rfl⟩
theorem d_Bo_toggleLink_16 : Dc prog_3_method_19_code 16 (.iload_n 2) 1 17 := ⟨by decide +kernel, rfl⟩
theorem d_Bo_toggleLink_17 : Dc prog_3_method_19_code 17 (.dup2) 1 18 := ⟨by decide +kernel, rfl⟩
theorem d_Bo_toggleLink_18 : Dc prog_3_method_19_code 18 (.iaload) 1 19 := ⟨by decide +kernel, rfl⟩
theorem d_Bo_toggleLink_19 : Dc prog_3_method_19_code 19 (.iconst 1) 1 20 := ⟨by decide +kernel, rfl⟩
theorem d_Bo_toggleLink_20 : Dc prog_3_method_19_code 20 (.iload_n 1) 1 21 := ⟨by decide +kernel, rfl⟩
theorem d_Bo_toggleLink_21 : Dc prog_3_method_19_code 21 (.ishl) 1 22 := ⟨by decide +kernel, rfl⟩
theorem d_Bo_toggleLink_22 : Dc prog_3_method_19_code 22 (.ixor) 1 23 := ⟨by decide +kernel, rfl⟩
theorem d_Bo_toggleLink_23 : Dc prog_3_method_19_code 23 (.iastore) 1 24 := ⟨by decide +kernel, rfl⟩
theorem d_Bo_toggleLink_24 : Dc prog_3_method_19_code 24 (.return_) 1 25 := ⟨by decide +kernel, rfl⟩
theorem fl_Bo_9 : FL "SubgraphDesk$Board" 9 2 1 true (.array .int) (3, 1) := ⟨R_Bo, F_Bo, 15, ty_Bo, rfl, rfl, in_Bo, tyok_Bo, nm_Bo, by decide, gd 182 (by decide +kernel) rfl, rfl, rfl, rfl⟩
theorem fl_Bo_21 : FL "SubgraphDesk$Board" 21 2 6 true (.array .int) (3, 4) := ⟨R_Bo, F_Bo, 15, ty_Bo, rfl, rfl, in_Bo, tyok_Bo, nm_Bo, by decide, gd 205 (by decide +kernel) rfl, rfl, rfl, rfl⟩
theorem fl_Bo_27 : FL "SubgraphDesk$Board" 27 2 9 true (.array .int) (3, 6) := ⟨R_Bo, F_Bo, 15, ty_Bo, rfl, rfl, in_Bo, tyok_Bo, nm_Bo, by decide, gd 220 (by decide +kernel) rfl, rfl, rfl, rfl⟩
theorem fl_Bo_52 : FL "SubgraphDesk$Board" 52 2 8 false .int (0, 0) := ⟨R_Bo, F_Bo, 15, ty_Bo, rfl, rfl, in_Bo, tyok_Bo, nm_Bo, by decide, gd 217 (by decide +kernel) rfl, rfl, rfl, rfl⟩
theorem ml_Bo_84 : Cond.methodLink "SubgraphDesk$Board" 84 m_Bo_linksOf.1 ∈ lw_gd := gd 1444 (by decide +kernel) rfl
theorem tbI0 (x k : Nat) : nI (x >>> k &&& 1) = 0 ↔ ¬ x.testBit k = true := by
  constructor
  · intro h h2
    rw [(tb1 x k).mpr h2] at h
    exact absurd h (by decide)
  · intro h
    rw [(tb0 x k).mpr (by simpa using h)]
    rfl
theorem near_new {g : GC} (hW : WG g) (hN : gN g < 12) : nearB (gE g) (gN g) = 0 := by
  apply Nat.eq_of_testBit_eq
  intro m
  rw [Nat.zero_testBit]
  by_cases hm : m < 12
  · cases h : (nearB (gE g) (gN g)).testBit m with
    | false => rfl
    | true =>
      obtain ⟨h1, h2⟩ := (near_tb hN hm hW.n hW.eo).mp h
      have h3 := hW.eo _ h2
      unfold codeOf at h3
      obtain ⟨h4, h5⟩ := h3
      split at h4 <;> rename_i hlt <;> simp only [hlt, if_true, if_false] at h5 <;> omega
  · exact Nat.testBit_lt_two_pow (Nat.lt_of_lt_of_le (near12 hW _) (Nat.pow_le_pow_right (show 0 < 2 by decide) (show 12 ≤ m by omega)))
section
variable {w : Mem} {b : Nat} {g : GC}
theorem BRow.addN {c : Nat} (h : BRow w b g) (hW : WG g) (hN : gN g < 12) : BRow (sI (sI (sI w (b + 1) (gN g) (nI c)) (b + 2) (gN g) (nI 0)) b 0 (nI (gN g + 1))) b (gAddN g c) := by
  have e0 : rI (sI (sI (sI w (b + 1) (gN g) (nI c)) (b + 2) (gN g) (nI 0)) b 0 (nI (gN g + 1))) b = upd (rI w b) 0 (nI (gN g + 1)) := by rw [rI_sI, rI_sI_ne _ _ _ (by omega), rI_sI_ne _ _ _ (by omega)]
  have e1 : rI (sI (sI (sI w (b + 1) (gN g) (nI c)) (b + 2) (gN g) (nI 0)) b 0 (nI (gN g + 1))) (b + 1) = upd (rI w (b + 1)) (gN g) (nI c) := by rw [rI_sI_ne _ _ _ (by omega), rI_sI_ne _ _ _ (by omega), rI_sI]
  have e2 : rI (sI (sI (sI w (b + 1) (gN g) (nI c)) (b + 2) (gN g) (nI 0)) b 0 (nI (gN g + 1))) (b + 2) = upd (rI w (b + 2)) (gN g) (nI 0) := by rw [rI_sI_ne _ _ _ (by omega), rI_sI, rI_sI_ne _ _ _ (by omega)]
  have e : ∀ a, b + 2 < a → rI (sI (sI (sI w (b + 1) (gN g) (nI c)) (b + 2) (gN g) (nI 0)) b 0 (nI (gN g + 1))) a = rI w a := fun a ha => by rw [rI_sI_ne _ _ _ (by omega), rI_sI_ne _ _ _ (by omega), rI_sI_ne _ _ _ (by omega)]
  unfold BRow
  rw [e0, e1, e2, e (b + 3) (by omega), e (b + 4) (by omega), e (b + 5) (by omega), e (b + 6) (by omega), e (b + 7) (by omega)]
  refine ⟨by rw [upd_eq, if_pos rfl]; rfl, by rw [upd_eq, if_neg (by decide)]; exact h.el, by rw [upd_eq, if_neg (by decide)]; exact h.v, by rw [upd_eq, if_neg (by decide)]; exact h.sl, by rw [upd_eq, if_neg (by decide)]; exact h.ll, by rw [upd_eq, if_neg (by decide)]; exact h.fo, fun i hi => ?_, fun i hi => ?_, h.e, h.y, h.k, h.sn, h.t⟩
  · have hi2 : i < gN g + 1 := hi
    show _ = nI (if i = gN g then c else gC g i)
    rw [upd_eq]
    by_cases he : i = gN g
    · rw [if_pos he, if_pos he]
    · rw [if_neg he, if_neg he]; exact h.c i (by omega)
  · have hi2 : i < gN g + 1 := hi
    show _ = nI (nearB (gE g) i)
    rw [upd_eq]
    by_cases he : i = gN g
    · rw [if_pos he, he, near_new hW hN]
    · rw [if_neg he]; exact h.nr i (by omega)
theorem BRow.addV {c : Nat} (h : BRow w b g) : BRow (sI (sI (sI w (b + 4) (gV g) (nI c)) (b + 5) (gV g) (nI 0)) b 5 (nI (gV g + 1))) b (gAddV g c) := by
  have e0 : rI (sI (sI (sI w (b + 4) (gV g) (nI c)) (b + 5) (gV g) (nI 0)) b 5 (nI (gV g + 1))) b = upd (rI w b) 5 (nI (gV g + 1)) := by rw [rI_sI, rI_sI_ne _ _ _ (by omega), rI_sI_ne _ _ _ (by omega)]
  have e1 : rI (sI (sI (sI w (b + 4) (gV g) (nI c)) (b + 5) (gV g) (nI 0)) b 5 (nI (gV g + 1))) (b + 4) = upd (rI w (b + 4)) (gV g) (nI c) := by rw [rI_sI_ne _ _ _ (by omega), rI_sI_ne _ _ _ (by omega), rI_sI]
  have e2 : rI (sI (sI (sI w (b + 4) (gV g) (nI c)) (b + 5) (gV g) (nI 0)) b 5 (nI (gV g + 1))) (b + 5) = upd (rI w (b + 5)) (gV g) (nI 0) := by rw [rI_sI_ne _ _ _ (by omega), rI_sI, rI_sI_ne _ _ _ (by omega)]
  have e : ∀ a, b < a → a ≠ b + 4 → a ≠ b + 5 → rI (sI (sI (sI w (b + 4) (gV g) (nI c)) (b + 5) (gV g) (nI 0)) b 5 (nI (gV g + 1))) a = rI w a := fun a ha h1 h2 => by rw [rI_sI_ne _ _ _ (by omega), rI_sI_ne _ _ _ h2, rI_sI_ne _ _ _ h1]
  unfold BRow
  rw [e0, e1, e2, e (b + 1) (by omega) (by omega) (by omega), e (b + 2) (by omega) (by omega) (by omega), e (b + 3) (by omega) (by omega) (by omega), e (b + 6) (by omega) (by omega) (by omega), e (b + 7) (by omega) (by omega) (by omega)]
  refine ⟨by rw [upd_eq, if_neg (by decide)]; exact h.n, by rw [upd_eq, if_neg (by decide)]; exact h.el, by rw [upd_eq, if_pos rfl]; rfl, by rw [upd_eq, if_neg (by decide)]; exact h.sl, by rw [upd_eq, if_neg (by decide)]; exact h.ll, by rw [upd_eq, if_neg (by decide)]; exact h.fo, h.c, h.nr, h.e, fun v hv => ?_, fun v hv => ?_, h.sn, h.t⟩
  · have hv2 : v < gV g + 1 := hv
    show _ = nI (if v = gV g then c else gY g v)
    rw [upd_eq]
    by_cases he : v = gV g
    · rw [if_pos he, if_pos he]
    · rw [if_neg he, if_neg he]; exact h.y v (by omega)
  · have hv2 : v < gV g + 1 := hv
    show _ = nI (if v = gV g then 0 else gK g v)
    rw [upd_eq]
    by_cases he : v = gV g
    · rw [if_pos he, if_pos he]
    · rw [if_neg he, if_neg he]; exact h.k v (by omega)
theorem BRow.see {q : Nat × Nat} (h : BRow w b g) : BRow (sI (sI w (b + 6) (gS g).length (nI (q.1 * 12 + q.2))) b 8 (nI ((gS g).length + 1))) b (gSee g (gS g ++ [q])) := by
  have e0 : rI (sI (sI w (b + 6) (gS g).length (nI (q.1 * 12 + q.2))) b 8 (nI ((gS g).length + 1))) b = upd (rI w b) 8 (nI ((gS g).length + 1)) := by rw [rI_sI, rI_sI_ne _ _ _ (by omega)]
  have e1 : rI (sI (sI w (b + 6) (gS g).length (nI (q.1 * 12 + q.2))) b 8 (nI ((gS g).length + 1))) (b + 6) = upd (rI w (b + 6)) (gS g).length (nI (q.1 * 12 + q.2)) := by rw [rI_sI_ne _ _ _ (by omega), rI_sI]
  have e : ∀ a, b < a → a ≠ b + 6 → rI (sI (sI w (b + 6) (gS g).length (nI (q.1 * 12 + q.2))) b 8 (nI ((gS g).length + 1))) a = rI w a := fun a ha h1 => by rw [rI_sI_ne _ _ _ (by omega), rI_sI_ne _ _ _ h1]
  unfold BRow
  rw [e0, e1, e (b + 1) (by omega) (by omega), e (b + 2) (by omega) (by omega), e (b + 3) (by omega) (by omega), e (b + 4) (by omega) (by omega), e (b + 5) (by omega) (by omega), e (b + 7) (by omega) (by omega)]
  refine ⟨by rw [upd_eq, if_neg (by decide)]; exact h.n, by rw [upd_eq, if_neg (by decide)]; exact h.el, by rw [upd_eq, if_neg (by decide)]; exact h.v, ?_, by rw [upd_eq, if_neg (by decide)]; exact h.ll, by rw [upd_eq, if_neg (by decide)]; exact h.fo, h.c, h.nr, h.e, h.y, h.k, fun k z hz => ?_, h.t⟩
  · rw [upd_eq, if_pos rfl]
    show _ = nI (gS g ++ [q]).length
    rw [List.length_append]; rfl
  · have hz2 : (gS g ++ [q])[k]? = some z := hz
    rw [upd_eq]
    by_cases hk : k < (gS g).length
    · rw [List.getElem?_append_left hk] at hz2
      rw [if_neg (by omega)]
      exact h.sn k z hz2
    · have hk2 := (List.getElem?_eq_some_iff.mp hz2).1
      rw [List.length_append, List.length_singleton] at hk2
      have hk3 : k = (gS g).length := by omega
      rw [List.getElem?_append_right (by omega), hk3, Nat.sub_self] at hz2
      obtain rfl := Option.some.inj hz2
      rw [if_pos hk3]
theorem BRow.link {x y : Nat} (h : BRow w b g) (hxy : x ≠ y) : BRow (sI (sI w (b + 5) x (nI (gK g x ^^^ 1 <<< y))) (b + 5) y (nI (gK g y ^^^ 1 <<< x))) b (gLink g x y) := by
  have e1 : rI (sI (sI w (b + 5) x (nI (gK g x ^^^ 1 <<< y))) (b + 5) y (nI (gK g y ^^^ 1 <<< x))) (b + 5) = upd (upd (rI w (b + 5)) x (nI (gK g x ^^^ 1 <<< y))) y (nI (gK g y ^^^ 1 <<< x)) := by rw [rI_sI, rI_sI]
  have e : ∀ a, a ≠ b + 5 → rI (sI (sI w (b + 5) x (nI (gK g x ^^^ 1 <<< y))) (b + 5) y (nI (gK g y ^^^ 1 <<< x))) a = rI w a := fun a ha => by rw [rI_sI_ne _ _ _ ha, rI_sI_ne _ _ _ ha]
  unfold BRow
  rw [e1, e b (by omega), e (b + 1) (by omega), e (b + 2) (by omega), e (b + 3) (by omega), e (b + 4) (by omega), e (b + 6) (by omega), e (b + 7) (by omega)]
  refine ⟨h.n, h.el, h.v, h.sl, h.ll, h.fo, h.c, h.nr, h.e, h.y, fun v hv => ?_, h.sn, h.t⟩
  have hv2 : v < gV g := hv
  show _ = nI (if v = x then gK g x ^^^ 1 <<< y else if v = y then gK g y ^^^ 1 <<< x else gK g v)
  rw [upd_eq, upd_eq]
  by_cases h1 : v = x
  · rw [if_neg (by omega), if_pos h1, if_pos h1]
  · rw [if_neg h1, if_neg h1]
    by_cases h2 : v = y
    · rw [if_pos h2, if_pos h2]
    · rw [if_neg h2, if_neg h2]; exact h.k v hv2
end
theorem c_Bo_countLinks {E : EV} {w : Mem} {b : Nat} {g : GC} (hb : IsBo b) (hR : BRow w b g) (hW : WG g) : T E m_Bo_countLinks 2 0 0 [.ref b] w (Ret (some (.int (nI (linkN g)))) w) := by
  refine T_of (L := [.ref b, un, un]) cf_Bo_countLinks rfl (Nat.le_of_ble_eq_true rfl) (fun X hX hF => ?_)
  have hn := hW.n
  have hv := hW.v
  have he := hW.el
  have hll := hW.ll
  have hsl := hW.sl
  have lp : ∀ (fuel : Nat) (v : Nat), gV g - v < fuel → (v ≤ gV g) → G0 E X 0 0 4 [.ref b, .int (nI (linkF g v)), .int (nI v)] [] w := by
    intro fuel
    induction fuel with
    | zero => intro v q0; exact absurd q0 (Nat.not_lt_zero _)
    | succ fuel ih =>
      intro v q0 q1
      refine g_iload2 hX d_Bo_countLinks_4 ?_
      refine g_aload0 hX d_Bo_countLinks_5 ?_
      refine g_getI hX d_Bo_countLinks_6 fl_Bo_49 (lvBo_0 hb _) ?_
      refine g_topi hR.v ?_
      refine g_icmpN_ge hX d_Bo_countLinks_9 (by omega) (by omega) (fun c0 => ?_) (fun c0 => ?_)
      · have hlf := linkF_le g v
        refine g_iload1 hX d_Bo_countLinks_26 ?_
        refine g_iconst (v := nI 2) hX d_Bo_countLinks_27 rfl ?_
        refine g_idivN hX d_Bo_countLinks_28 (by omega) (by decide) (by decide) ?_
        refine g_iret hX hF d_Bo_countLinks_29 (by omega) (by omega) ?_
        exact ⟨by rw [show v = gV g by omega]; rfl, rfl⟩
      · have hlf := linkF_le g v
        refine g_iload1 hX d_Bo_countLinks_12 ?_
        refine g_aload0 hX d_Bo_countLinks_13 ?_
        refine g_iload2 hX d_Bo_countLinks_14 ?_
        refine g_callV (As := [_]) hX hF.1 d_Bo_countLinks_15 ml_Bo_84 cf_Bo_linksOf cv_Bo_linksOf rfl rfl (c_Bo_linksOf (x := nI v) hb hR hW) (rcv_obj hX (lvBo_0 hb _) rfl rfl) (by omega) (by omega) (by omega) (Nat.le_of_ble_eq_true rfl) ?_
        refine ret_k ?_
        refine g_topi (lnkI_n (g := g) (x := v) (by omega) (by omega)) ?_
        refine g_iaddN hX d_Bo_countLinks_18 ?_
        refine g_istore1 hX d_Bo_countLinks_19 rfl (by decide) ?_
        refine g_iincN2 hX d_Bo_countLinks_20 rfl (by decide) ?_
        refine g_goto hX d_Bo_countLinks_23 ?_
        refine g_eq rfl (by rw [linkF_s]) rfl rfl (ih (v + 1) (by omega) (by omega))
  refine g_iconst (v := nI 0) hX d_Bo_countLinks_0 rfl ?_
  refine g_istore1 hX d_Bo_countLinks_1 rfl (by decide) ?_
  refine g_iconst (v := nI 0) hX d_Bo_countLinks_2 rfl ?_
  refine g_istore2 hX d_Bo_countLinks_3 rfl (by decide) ?_
  exact lp (gV g + 1) 0 (by omega) (by omega)
theorem c_Bo_addNode {E : EV} {w : Mem} {c : Nat} {b : Nat} {g : GC} (hb : IsBo b) (hR : BRow w b g) (hW : WG g) (hN : gN g < 12) : T E m_Bo_addNode 0 0 0 [.ref b, .int (nI c)] w (fun r w2 => r = some (.int (nI (gN g))) ∧ BRow w2 b (gAddN g c) ∧ FrBo b w w2) := by
  refine T_of (L := [.ref b, .int (nI c)]) cf_Bo_addNode rfl (Nat.le_of_ble_eq_true rfl) (fun X hX hF => ?_)
  have hn := hW.n
  have hv := hW.v
  have he := hW.el
  have hll := hW.ll
  have hsl := hW.sl
  refine g_aload0 hX d_Bo_addNode_0 ?_
  refine g_getI hX d_Bo_addNode_1 fl_Bo_43 (lvBo_0 hb _) ?_
  refine g_topi hR.n ?_
  refine g_bipush (v := nI 12) hX d_Bo_addNode_4 rfl ?_
  refine g_icmpN_lt hX d_Bo_addNode_6 (by omega) (by omega) (fun c0 => ?_) (fun h => absurd h (by omega))
  refine g_aload0 hX d_Bo_addNode_11 ?_
  refine g_getF hX d_Bo_addNode_12 fl_Bo_9 (lvBo_0 hb _) ?_
  refine g_aload0 hX d_Bo_addNode_15 ?_
  refine g_getI hX d_Bo_addNode_16 fl_Bo_43 (lvBo_0 hb _) ?_
  refine g_topi hR.n ?_
  refine g_iload1 hX d_Bo_addNode_19 ?_
  refine g_iast hX d_Bo_addNode_20 (lvBo_1 hb _) rfl (by omega) ?_
  refine g_aload0 hX d_Bo_addNode_21 ?_
  refine g_getF hX d_Bo_addNode_22 fl_Bo_15 (lvBo_0 hb _) ?_
  refine g_aload0 hX d_Bo_addNode_25 ?_
  refine g_getI hX d_Bo_addNode_26 fl_Bo_43 (lvBo_0 hb _) ?_
  refine g_topi (show rI (sI w (b + 1) (gN g) (nI c)) b 0 = nI (gN g) by rw [rI_sI_ne _ _ _ (by omega)]; exact hR.n) ?_
  refine g_iconst (v := nI 0) hX d_Bo_addNode_29 rfl ?_
  refine g_iast hX d_Bo_addNode_30 (lvBo_2 hb _) rfl (by omega) ?_
  refine g_aload0 hX d_Bo_addNode_31 ?_
  refine g_dup hX d_Bo_addNode_32 rfl ?_
  refine g_getI hX d_Bo_addNode_33 fl_Bo_43 (lvBo_0 hb _) ?_
  refine g_topi (show rI (sI (sI w (b + 1) (gN g) (nI c)) (b + 2) (gN g) (nI 0)) b 0 = nI (gN g) by rw [rI_sI_ne _ _ _ (by omega), rI_sI_ne _ _ _ (by omega)]; exact hR.n) ?_
  refine g_dup_x1 hX d_Bo_addNode_36 rfl rfl ?_
  refine g_iconst (v := nI 1) hX d_Bo_addNode_37 rfl ?_
  refine g_iaddN hX d_Bo_addNode_38 ?_
  refine g_putI hX d_Bo_addNode_39 fl_Bo_43 (lvBo_0 hb _) ?_
  refine g_iret hX hF d_Bo_addNode_42 (by omega) (by omega) ?_
  exact ⟨rfl, hR.addN hW hN, (((FrBo.rf b w).I (by omega)).I (by omega)).I (by omega)⟩
theorem c_Bo_addVertex {E : EV} {w : Mem} {c : Nat} {b : Nat} {g : GC} (hb : IsBo b) (hR : BRow w b g) (hW : WG g) (hV : gV g < 5) : T E m_Bo_addVertex 0 0 0 [.ref b, .int (nI c)] w (fun r w2 => r = some (.int (nI (gV g))) ∧ BRow w2 b (gAddV g c) ∧ FrBo b w w2) := by
  refine T_of (L := [.ref b, .int (nI c)]) cf_Bo_addVertex rfl (Nat.le_of_ble_eq_true rfl) (fun X hX hF => ?_)
  have hn := hW.n
  have hv := hW.v
  have he := hW.el
  have hll := hW.ll
  have hsl := hW.sl
  refine g_aload0 hX d_Bo_addVertex_0 ?_
  refine g_getI hX d_Bo_addVertex_1 fl_Bo_49 (lvBo_0 hb _) ?_
  refine g_topi hR.v ?_
  refine g_iconst (v := nI 5) hX d_Bo_addVertex_4 rfl ?_
  refine g_icmpN_lt hX d_Bo_addVertex_5 (by omega) (by omega) (fun c0 => ?_) (fun h => absurd h (by omega))
  refine g_aload0 hX d_Bo_addVertex_10 ?_
  refine g_getF hX d_Bo_addVertex_11 fl_Bo_21 (lvBo_0 hb _) ?_
  refine g_aload0 hX d_Bo_addVertex_14 ?_
  refine g_getI hX d_Bo_addVertex_15 fl_Bo_49 (lvBo_0 hb _) ?_
  refine g_topi hR.v ?_
  refine g_iload1 hX d_Bo_addVertex_18 ?_
  refine g_iast hX d_Bo_addVertex_19 (lvBo_4 hb _) rfl (by omega) ?_
  refine g_aload0 hX d_Bo_addVertex_20 ?_
  refine g_getF hX d_Bo_addVertex_21 fl_Bo_24 (lvBo_0 hb _) ?_
  refine g_aload0 hX d_Bo_addVertex_24 ?_
  refine g_getI hX d_Bo_addVertex_25 fl_Bo_49 (lvBo_0 hb _) ?_
  refine g_topi (show rI (sI w (b + 4) (gV g) (nI c)) b 5 = nI (gV g) by rw [rI_sI_ne _ _ _ (by omega)]; exact hR.v) ?_
  refine g_iconst (v := nI 0) hX d_Bo_addVertex_28 rfl ?_
  refine g_iast hX d_Bo_addVertex_29 (lvBo_5 hb _) rfl (by omega) ?_
  refine g_aload0 hX d_Bo_addVertex_30 ?_
  refine g_dup hX d_Bo_addVertex_31 rfl ?_
  refine g_getI hX d_Bo_addVertex_32 fl_Bo_49 (lvBo_0 hb _) ?_
  refine g_topi (show rI (sI (sI w (b + 4) (gV g) (nI c)) (b + 5) (gV g) (nI 0)) b 5 = nI (gV g) by rw [rI_sI_ne _ _ _ (by omega), rI_sI_ne _ _ _ (by omega)]; exact hR.v) ?_
  refine g_dup_x1 hX d_Bo_addVertex_35 rfl rfl ?_
  refine g_iconst (v := nI 1) hX d_Bo_addVertex_36 rfl ?_
  refine g_iaddN hX d_Bo_addVertex_37 ?_
  refine g_putI hX d_Bo_addVertex_38 fl_Bo_49 (lvBo_0 hb _) ?_
  refine g_iret hX hF d_Bo_addVertex_41 (by omega) (by omega) ?_
  exact ⟨rfl, hR.addV, (((FrBo.rf b w).I (by omega)).I (by omega)).I (by omega)⟩
theorem c_Bo_addSight {E : EV} {w : Mem} {v x : Nat} {b : Nat} {g : GC} (hb : IsBo b) (hR : BRow w b g) (hW : WG g) (hS : (gS g).length < 6) (hv : v < 5) (hx : x < 12) : T E m_Bo_addSight 0 0 0 [.ref b, .int (nI v), .int (nI x)] w (fun r w2 => r = some (.int (nI ((gS g).length + 1))) ∧ BRow w2 b (gSee g (gS g ++ [(v, x)])) ∧ FrBo b w w2) := by
  refine T_of (L := [.ref b, .int (nI v), .int (nI x)]) cf_Bo_addSight rfl (Nat.le_of_ble_eq_true rfl) (fun X hX hF => ?_)
  have hn := hW.n
  have hv5 := hW.v
  have he := hW.el
  have hll := hW.ll
  have hsl := hW.sl
  refine g_aload0 hX d_Bo_addSight_0 ?_
  refine g_getI hX d_Bo_addSight_1 fl_Bo_52 (lvBo_0 hb _) ?_
  refine g_topi hR.sl ?_
  refine g_bipush (v := nI 6) hX d_Bo_addSight_4 rfl ?_
  refine g_icmpN_ge hX d_Bo_addSight_6 (by omega) (by omega) (fun h => absurd h (by omega)) (fun c0 => ?_)
  refine g_aload0 hX d_Bo_addSight_9 ?_
  refine g_getF hX d_Bo_addSight_10 fl_Bo_27 (lvBo_0 hb _) ?_
  refine g_aload0 hX d_Bo_addSight_13 ?_
  refine g_getI hX d_Bo_addSight_14 fl_Bo_52 (lvBo_0 hb _) ?_
  refine g_topi hR.sl ?_
  refine g_iload1 hX d_Bo_addSight_17 ?_
  refine g_bipush (v := nI 12) hX d_Bo_addSight_18 rfl ?_
  refine g_imulN hX d_Bo_addSight_20 ?_
  refine g_iload2 hX d_Bo_addSight_21 ?_
  refine g_iaddN hX d_Bo_addSight_22 ?_
  refine g_iast hX d_Bo_addSight_23 (lvBo_6 hb _) rfl (by omega) ?_
  refine g_aload0 hX d_Bo_addSight_24 ?_
  refine g_dup hX d_Bo_addSight_25 rfl ?_
  refine g_getI hX d_Bo_addSight_26 fl_Bo_52 (lvBo_0 hb _) ?_
  refine g_topi (show rI (sI w (b + 6) (gS g).length (nI (v * 12 + x))) b 8 = nI (gS g).length by rw [rI_sI_ne _ _ _ (by omega)]; exact hR.sl) ?_
  refine g_iconst (v := nI 1) hX d_Bo_addSight_29 rfl ?_
  refine g_iaddN hX d_Bo_addSight_30 ?_
  refine g_putI hX d_Bo_addSight_31 fl_Bo_52 (lvBo_0 hb _) ?_
  refine g_aload0 hX d_Bo_addSight_34 ?_
  refine g_getI hX d_Bo_addSight_35 fl_Bo_52 (lvBo_0 hb _) ?_
  refine g_topi (show rI (sI (sI w (b + 6) (gS g).length (nI (v * 12 + x))) b 8 (nI ((gS g).length + 1))) b 8 = nI ((gS g).length + 1) by rw [rI_sI, upd_eq, if_pos rfl]) ?_
  refine g_iret hX hF d_Bo_addSight_38 (by omega) (by omega) ?_
  exact ⟨rfl, hR.see (q := (v, x)), ((FrBo.rf b w).I (by omega)).I (by omega)⟩
theorem c_Bo_toggleLink {E : EV} {w : Mem} {x y : Nat} {b : Nat} {g : GC} (hb : IsBo b) (hR : BRow w b g) (hW : WG g) (hx : x < gV g) (hy : y < gV g) (hxy : x ≠ y) : T E m_Bo_toggleLink 0 0 0 [.ref b, .int (nI x), .int (nI y)] w (fun r w2 => r = none ∧ BRow w2 b (gLink g x y) ∧ FrBo b w w2) := by
  refine T_of (L := [.ref b, .int (nI x), .int (nI y)]) cf_Bo_toggleLink rfl (Nat.le_of_ble_eq_true rfl) (fun X hX hF => ?_)
  have hn := hW.n
  have hv := hW.v
  have he := hW.el
  have hll := hW.ll
  have hsl := hW.sl
  refine g_aload0 hX d_Bo_toggleLink_0 ?_
  refine g_getF hX d_Bo_toggleLink_1 fl_Bo_24 (lvBo_0 hb _) ?_
  refine g_iload1 hX d_Bo_toggleLink_4 ?_
  refine g_dup2 hX d_Bo_toggleLink_5 rfl rfl ?_
  refine g_iald hX d_Bo_toggleLink_6 (lvBo_5 hb _) rfl (by omega) ?_
  refine g_topi (hR.k x hx) ?_
  refine g_iconst (v := nI 1) hX d_Bo_toggleLink_7 rfl ?_
  refine g_iload2 hX d_Bo_toggleLink_8 ?_
  refine g_ishlN hX d_Bo_toggleLink_9 (by omega) ?_
  refine g_ixorN hX d_Bo_toggleLink_10 ?_
  refine g_iast hX d_Bo_toggleLink_11 (lvBo_5 hb _) rfl (by omega) ?_
  refine g_aload0 hX d_Bo_toggleLink_12 ?_
  refine g_getF hX d_Bo_toggleLink_13 fl_Bo_24 (lvBo_0 hb _) ?_
  refine g_iload2 hX d_Bo_toggleLink_16 ?_
  refine g_dup2 hX d_Bo_toggleLink_17 rfl rfl ?_
  refine g_iald hX d_Bo_toggleLink_18 (lvBo_5 hb _) rfl (by omega) ?_
  refine g_topi (show rI (sI w (b + 5) x (nI (gK g x ^^^ 1 <<< y))) (b + 5) y = nI (gK g y) by rw [rI_sI, upd_eq, if_neg (by omega)]; exact hR.k y hy) ?_
  refine g_iconst (v := nI 1) hX d_Bo_toggleLink_19 rfl ?_
  refine g_iload1 hX d_Bo_toggleLink_20 ?_
  refine g_ishlN hX d_Bo_toggleLink_21 (by omega) ?_
  refine g_ixorN hX d_Bo_toggleLink_22 ?_
  refine g_iast hX d_Bo_toggleLink_23 (lvBo_5 hb _) rfl (by omega) ?_
  refine g_vret hX hF d_Bo_toggleLink_24 (by omega) (by omega) ?_
  exact ⟨rfl, hR.link hxy, ((FrBo.rf b w).I (by omega)).I (by omega)⟩
theorem c_Bo_canJoin {E : EV} {w : Mem} {x y : Nat} {b : Nat} {g : GC} (hb : IsBo b) (hR : BRow w b g) (hW : WG g) (hx : x < 256) (hy : y < 256) : T E m_Bo_canJoin 1 0 0 [.ref b, .int (nI x), .int (nI y)] w (Ret (some (.int (b2i (x < gN g ∧ y < gN g ∧ x ≠ y ∧ codeOf x y ∉ gE g)))) w) := by
  refine T_of (L := [.ref b, .int (nI x), .int (nI y)]) cf_Bo_canJoin rfl (Nat.le_of_ble_eq_true rfl) (fun X hX hF => ?_)
  have hn := hW.n
  have hv := hW.v
  have he := hW.el
  have hll := hW.ll
  have hsl := hW.sl
  have hx2 : ∀ z, z < 256 → (inN (nI z) (gN g) ↔ z < gN g) := fun z hz => ⟨fun h => by
    obtain ⟨q, h1, h2, h3⟩ := inN_of h (by omega)
    have := nI_inj (by omega) (by omega) h2
    omega, fun h => inN_nI h (by omega)⟩
  refine g_aload0 hX d_Bo_canJoin_0 ?_
  refine g_iload1 hX d_Bo_canJoin_1 ?_
  refine g_callV (As := [_]) hX hF.1 d_Bo_canJoin_2 ml_Bo_72 cf_Bo_hasNode cv_Bo_hasNode rfl rfl (c_Bo_hasNode hb hR hW) (rcv_obj hX (lvBo_0 hb _) rfl rfl) (by omega) (by omega) (by omega) (Nat.le_of_ble_eq_true rfl) ?_
  refine ret_k ?_
  refine g_ifB_eq hX d_Bo_canJoin_5 (fun e5 => ?_) (fun e5 => ?_)
  · refine g_iconst (v := nI 0) hX d_Bo_canJoin_38 rfl ?_
    refine g_zret hX hF d_Bo_canJoin_39 (Or.inl rfl) (by omega) (by omega) ?_
    first | exact ret_f (fun h => e5 (inN_nI h.1 (by omega))) | exact ret_f (fun h => e13 (inN_nI h.2.1 (by omega))) | exact ret_f (fun h => h.2.2.1 e18) | exact ret_f (fun h => h.2.2.2 ((near_tb (by omega) (by omega) hW.n hW.eo).mp (Decidable.byContradiction (fun z => e31 ((tbI0 _ _).mpr z)))).2) | exact ret_t ⟨hxN, hyN, e18, fun h => ((tbI0 _ _).mp e31) ((near_tb (by omega) (by omega) hW.n hW.eo).mpr ⟨e18, h⟩)⟩
  · have hxN := (hx2 x hx).mp e5
    refine g_aload0 hX d_Bo_canJoin_8 ?_
    refine g_iload2 hX d_Bo_canJoin_9 ?_
    refine g_callV (As := [_]) hX hF.1 d_Bo_canJoin_10 ml_Bo_72 cf_Bo_hasNode cv_Bo_hasNode rfl rfl (c_Bo_hasNode hb hR hW) (rcv_obj hX (lvBo_0 hb _) rfl rfl) (by omega) (by omega) (by omega) (Nat.le_of_ble_eq_true rfl) ?_
    refine ret_k ?_
    refine g_ifB_eq hX d_Bo_canJoin_13 (fun e13 => ?_) (fun e13 => ?_)
    · refine g_iconst (v := nI 0) hX d_Bo_canJoin_38 rfl ?_
      refine g_zret hX hF d_Bo_canJoin_39 (Or.inl rfl) (by omega) (by omega) ?_
      first | exact ret_f (fun h => e5 (inN_nI h.1 (by omega))) | exact ret_f (fun h => e13 (inN_nI h.2.1 (by omega))) | exact ret_f (fun h => h.2.2.1 e18) | exact ret_f (fun h => h.2.2.2 ((near_tb (by omega) (by omega) hW.n hW.eo).mp (Decidable.byContradiction (fun z => e31 ((tbI0 _ _).mpr z)))).2) | exact ret_t ⟨hxN, hyN, e18, fun h => ((tbI0 _ _).mp e31) ((near_tb (by omega) (by omega) hW.n hW.eo).mpr ⟨e18, h⟩)⟩
    · have hyN := (hx2 y hy).mp e13
      refine g_iload1 hX d_Bo_canJoin_16 ?_
      refine g_iload2 hX d_Bo_canJoin_17 ?_
      refine g_icmpN_eq hX d_Bo_canJoin_18 (by omega) (by omega) (fun e18 => ?_) (fun e18 => ?_)
      · refine g_iconst (v := nI 0) hX d_Bo_canJoin_38 rfl ?_
        refine g_zret hX hF d_Bo_canJoin_39 (Or.inl rfl) (by omega) (by omega) ?_
        first | exact ret_f (fun h => e5 (inN_nI h.1 (by omega))) | exact ret_f (fun h => e13 (inN_nI h.2.1 (by omega))) | exact ret_f (fun h => h.2.2.1 e18) | exact ret_f (fun h => h.2.2.2 ((near_tb (by omega) (by omega) hW.n hW.eo).mp (Decidable.byContradiction (fun z => e31 ((tbI0 _ _).mpr z)))).2) | exact ret_t ⟨hxN, hyN, e18, fun h => ((tbI0 _ _).mp e31) ((near_tb (by omega) (by omega) hW.n hW.eo).mpr ⟨e18, h⟩)⟩
      · refine g_aload0 hX d_Bo_canJoin_21 ?_
        refine g_getF hX d_Bo_canJoin_22 fl_Bo_15 (lvBo_0 hb _) ?_
        refine g_iload1 hX d_Bo_canJoin_25 ?_
        refine g_iald hX d_Bo_canJoin_26 (lvBo_2 hb _) rfl (by omega) ?_
        refine g_topi (hR.nr x hxN) ?_
        refine g_iload2 hX d_Bo_canJoin_27 ?_
        refine g_ishrN hX d_Bo_canJoin_28 (by have := near12 hW x; omega) (by omega) ?_
        refine g_iconst (v := nI 1) hX d_Bo_canJoin_29 rfl ?_
        refine g_iandC hX d_Bo_canJoin_30 (fun hm3 => ?_)
        refine g_if_ne hX d_Bo_canJoin_31 (fun e31 => ?_) (fun e31 => ?_)
        · refine g_iconst (v := nI 0) hX d_Bo_canJoin_38 rfl ?_
          refine g_zret hX hF d_Bo_canJoin_39 (Or.inl rfl) (by omega) (by omega) ?_
          first | exact ret_f (fun h => e5 (inN_nI h.1 (by omega))) | exact ret_f (fun h => e13 (inN_nI h.2.1 (by omega))) | exact ret_f (fun h => h.2.2.1 e18) | exact ret_f (fun h => h.2.2.2 ((near_tb (by omega) (by omega) hW.n hW.eo).mp (Decidable.byContradiction (fun z => e31 ((tbI0 _ _).mpr z)))).2) | exact ret_t ⟨hxN, hyN, e18, fun h => ((tbI0 _ _).mp e31) ((near_tb (by omega) (by omega) hW.n hW.eo).mpr ⟨e18, h⟩)⟩
        · refine g_iconst (v := nI 1) hX d_Bo_canJoin_34 rfl ?_
          refine g_goto hX d_Bo_canJoin_35 ?_
          refine g_zret hX hF d_Bo_canJoin_39 (Or.inr rfl) (by omega) (by omega) ?_
          first | exact ret_f (fun h => e5 (inN_nI h.1 (by omega))) | exact ret_f (fun h => e13 (inN_nI h.2.1 (by omega))) | exact ret_f (fun h => h.2.2.1 e18) | exact ret_f (fun h => h.2.2.2 ((near_tb (by omega) (by omega) hW.n hW.eo).mp (Decidable.byContradiction (fun z => e31 ((tbI0 _ _).mpr z)))).2) | exact ret_t ⟨hxN, hyN, e18, fun h => ((tbI0 _ _).mp e31) ((near_tb (by omega) (by omega) hW.n hW.eo).mpr ⟨e18, h⟩)⟩
