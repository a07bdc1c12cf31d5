def m_D_end : MR := (⟨"SubgraphDesk", "end", "(I)I"⟩, prog_1_method_14_code, 2, (some .int))
theorem cf_D_end : CF m_D_end 1 := ⟨gd 745 (by decide +kernel) rfl, gd 139 (by decide +kernel) rfl, by decide +kernel, by decide, by decide +kernel⟩
theorem cv_D_end : CV m_D_end := ⟨gd 743 (by decide +kernel) rfl, gd 744 (by decide +kernel) rfl⟩
def m_D_feed : MR := (⟨"SubgraphDesk", "feed", "(IIIII)I"⟩, prog_1_method_13_code, 7, (some .int))
theorem cf_D_feed : CF m_D_feed 5 := ⟨gd 737 (by decide +kernel) rfl, gd 139 (by decide +kernel) rfl, by decide +kernel, by decide, by decide +kernel⟩
theorem cv_D_feed : CV m_D_feed := ⟨gd 735 (by decide +kernel) rfl, gd 736 (by decide +kernel) rfl⟩
def m_D_forget : MR := (⟨"SubgraphDesk", "forget", "()I"⟩, prog_1_method_45_code, 2, (some .int))
theorem cf_D_forget : CF m_D_forget 0 := ⟨gd 1369 (by decide +kernel) rfl, gd 139 (by decide +kernel) rfl, by decide +kernel, by decide, by decide +kernel⟩
theorem cv_D_forget : CV m_D_forget := ⟨gd 1367 (by decide +kernel) rfl, gd 1368 (by decide +kernel) rfl⟩
def m_D_row : MR := (⟨"SubgraphDesk", "row", "()I"⟩, prog_1_method_15_code, 5, (some .int))
theorem cf_D_row : CF m_D_row 0 := ⟨gd 749 (by decide +kernel) rfl, gd 139 (by decide +kernel) rfl, by decide +kernel, by decide, by decide +kernel⟩
theorem cv_D_row : CV m_D_row := ⟨gd 747 (by decide +kernel) rfl, gd 748 (by decide +kernel) rfl⟩
def m_D_seen : MR := (⟨"SubgraphDesk", "seen", "(II)I"⟩, prog_1_method_44_code, 3, (some .int))
theorem cf_D_seen : CF m_D_seen 2 := ⟨gd 1361 (by decide +kernel) rfl, gd 139 (by decide +kernel) rfl, by decide +kernel, by decide, by decide +kernel⟩
theorem cv_D_seen : CV m_D_seen := ⟨gd 1359 (by decide +kernel) rfl, gd 1360 (by decide +kernel) rfl⟩
def m_D_undo : MR := (⟨"SubgraphDesk", "undo", "()I"⟩, prog_1_method_26_code, 1, (some .int))
theorem cf_D_undo : CF m_D_undo 0 := ⟨gd 1149 (by decide +kernel) rfl, gd 139 (by decide +kernel) rfl, by decide +kernel, by decide, by decide +kernel⟩
theorem cv_D_undo : CV m_D_undo := ⟨gd 1147 (by decide +kernel) rfl, gd 1148 (by decide +kernel) rfl⟩
theorem d_D_end_0 : Dc prog_1_method_14_code 0 (.iload_n 1) 1 1 := ⟨by decide +kernel, rfl⟩
theorem d_D_end_1 : Dj prog_1_method_14_code 1 (.ifCond .lt 17) 4 17 18 := ⟨by decide +kernel, rfl, rfl⟩
theorem d_D_end_4 : Dc prog_1_method_14_code 4 (.iload_n 1) 1 5 := ⟨by decide +kernel, rfl⟩
theorem d_D_end_5 : Dc prog_1_method_14_code 5 (.aload_n 0) 1 6 := ⟨by decide +kernel, rfl⟩
theorem d_D_end_6 : Dc prog_1_method_14_code 6 (.getfield 33) 3 9 := ⟨by decide +kernel, rfl⟩
theorem d_D_end_9 : Dc prog_1_method_14_code 9 (.getfield 168) 3 12 := ⟨by decide +kernel, rfl⟩
theorem d_D_end_12 : Dc prog_1_method_14_code 12 (.getfield 172) 3 15 := ⟨by decide +kernel, rfl⟩
theorem d_D_end_15 : Dj prog_1_method_14_code 15 (.if_icmp .le 5) 18 5 20 := ⟨by decide +kernel, rfl, rfl⟩
theorem d_D_end_18 : Dc prog_1_method_14_code 18 (.iconst (-1)) 1 19 := ⟨by decide +kernel, rfl⟩
theorem d_D_end_19 : Dc prog_1_method_14_code 19 (.ireturn) 1 20 := ⟨by decide +kernel, rfl⟩
theorem d_D_end_20 : Dc prog_1_method_14_code 20 (.aload_n 0) 1 21 := ⟨by decide +kernel, rfl⟩
theorem d_D_end_21 : Dc prog_1_method_14_code 21 (.getfield 33) 3 24 := ⟨by decide +kernel, rfl⟩
theorem d_D_end_24 : Dc prog_1_method_14_code 24 (.getfield 168) 3 27 := ⟨by decide +kernel, rfl⟩
theorem d_D_end_27 : Dc prog_1_method_14_code 27 (.iload_n 1) 1 28 := ⟨by decide +kernel, rfl⟩
theorem d_D_end_28 : Dc prog_1_method_14_code 28 (.putfield 172) 3 31 := ⟨by decide +kernel, rfl⟩
theorem d_D_end_31 : Dc prog_1_method_14_code 31 (.iload_n 1) 1 32 := ⟨by decide +kernel, rfl⟩
theorem d_D_end_32 : Dc prog_1_method_14_code 32 (.ireturn) 1 33 := ⟨by decide +kernel, rfl⟩
theorem d_D_feed_0 : Dc prog_1_method_13_code 0 (.aload_n 0) 1 1 := ⟨by decide +kernel, rfl⟩
theorem d_D_feed_1 : Dc prog_1_method_13_code 1 (.getfield 33) 3 4 := ⟨by decide +kernel, rfl⟩
theorem d_D_feed_4 : Dc prog_1_method_13_code 4 (.getfield 168) 3 7 := ⟨by decide +kernel, rfl⟩
theorem d_D_feed_7 : Dc prog_1_method_13_code 7 (.astore 6) 2 9 := ⟨by decide +kernel, rfl⟩
theorem d_D_feed_9 : Dc prog_1_method_13_code 9 (.aload 6) 2 11 := ⟨by decide +kernel, rfl⟩
theorem d_D_feed_11 : Dc prog_1_method_13_code 11 (.getfield 172) 3 14 := ⟨by decide +kernel, rfl⟩
theorem d_D_feed_14 : Dc prog_1_method_13_code 14 (.sipush 380) 3 17 := ⟨by decide +kernel, rfl⟩
theorem d_D_feed_17 : Dj prog_1_method_13_code 17 (.if_icmp .le 5) 20 5 22 := ⟨by decide +kernel, rfl, rfl⟩
theorem d_D_feed_20 : Dc prog_1_method_13_code 20 (.iconst (-1)) 1 21 := ⟨by decide +kernel, rfl⟩
theorem d_D_feed_21 : Dc prog_1_method_13_code 21 (.ireturn) 1 22 := ⟨by decide +kernel, rfl⟩
theorem d_D_feed_22 : Dc prog_1_method_13_code 22 (.aload 6) 2 24 := ⟨by decide +kernel, rfl⟩
theorem d_D_feed_24 : Dc prog_1_method_13_code 24 (.iload_n 1) 1 25 := ⟨by decide +kernel, rfl⟩
theorem d_D_feed_25 : Dc prog_1_method_13_code 25 (.invokevirtual 177) 3 28 := ⟨by decide +kernel, rfl⟩
theorem d_D_feed_28 : Dc prog_1_method_13_code 28 (.aload 6) 2 30 := ⟨by decide +kernel, rfl⟩
theorem d_D_feed_30 : Dc prog_1_method_13_code 30 (.iload_n 2) 1 31 := ⟨by decide +kernel, rfl⟩
theorem d_D_feed_31 : Dc prog_1_method_13_code 31 (.invokevirtual 177) 3 34 := ⟨by decide +kernel, rfl⟩
theorem d_D_feed_34 : Dc prog_1_method_13_code 34 (.aload 6) 2 36 := ⟨by decide +kernel, rfl⟩
theorem d_D_feed_36 : Dc prog_1_method_13_code 36 (.iload_n 3) 1 37 := ⟨by decide +kernel, rfl⟩
theorem d_D_feed_37 : Dc prog_1_method_13_code 37 (.invokevirtual 177) 3 40 := ⟨by decide +kernel, rfl⟩
theorem d_D_feed_40 : Dc prog_1_method_13_code 40 (.aload 6) 2 42 := ⟨by decide +kernel, rfl⟩
theorem d_D_feed_42 : Dc prog_1_method_13_code 42 (.iload 4) 2 44 := ⟨by decide +kernel, rfl⟩
theorem d_D_feed_44 : Dc prog_1_method_13_code 44 (.invokevirtual 177) 3 47 := ⟨by decide +kernel, rfl⟩
theorem d_D_feed_47 : Dc prog_1_method_13_code 47 (.aload 6) 2 49 := ⟨by decide +kernel, rfl⟩
theorem d_D_feed_49 : Dc prog_1_method_13_code 49 (.iload 5) 2 51 := ⟨by decide +kernel, rfl⟩
theorem d_D_feed_51 : Dc prog_1_method_13_code 51 (.invokevirtual 177) 3 54 := ⟨by decide +kernel, rfl⟩
theorem d_D_feed_54 : Dc prog_1_method_13_code 54 (.aload 6) 2 56 := ⟨by decide +kernel, rfl⟩
theorem d_D_feed_56 : Dc prog_1_method_13_code 56 (.getfield 172) 3 59 := ⟨by decide +kernel, rfl⟩
theorem d_D_feed_59 : Dc prog_1_method_13_code 59 (.ireturn) 1 60 := ⟨by decide +kernel, rfl⟩
theorem d_D_forget_0 : Dc prog_1_method_45_code 0 (.aload_n 0) 1 1 := ⟨by decide +kernel, rfl⟩
theorem d_D_forget_1 : Dc prog_1_method_45_code 1 (.getfield 10) 3 4 := ⟨by decide +kernel, rfl⟩
theorem d_D_forget_4 : Dc prog_1_method_45_code 4 (.getfield 341) 3 7 := ⟨by decide +kernel, rfl⟩
theorem d_D_forget_7 : Dc prog_1_method_45_code 7 (.istore_n 1) 1 8 := ⟨by decide +kernel, rfl⟩
theorem d_D_forget_8 : Dc prog_1_method_45_code 8 (.aload_n 0) 1 9 := ⟨by decide +kernel, rfl⟩
theorem d_D_forget_9 : Dc prog_1_method_45_code 9 (.getfield 10) 3 12 := ⟨by decide +kernel, rfl⟩
theorem d_D_forget_12 : Dc prog_1_method_45_code 12 (.iconst 0) 1 13 := ⟨by decide +kernel, rfl⟩
theorem d_D_forget_13 : Dc prog_1_method_45_code 13 (.putfield 341) 3 16 := ⟨by decide +kernel, rfl⟩
theorem d_D_forget_16 : Dc prog_1_method_45_code 16 (.iload_n 1) 1 17 := ⟨by decide +kernel, rfl⟩
theorem d_D_forget_17 : Dc prog_1_method_45_code 17 (.ireturn) 1 18 := ⟨by decide +kernel, rfl⟩
theorem d_D_row_0 : Dc prog_1_method_15_code 0 (.aload_n 0) 1 1 := ⟨by decide +kernel, rfl⟩
theorem d_D_row_1 : Dc prog_1_method_15_code 1 (.getfield 33) 3 4 := ⟨by decide +kernel, rfl⟩
theorem d_D_row_4 : Dc prog_1_method_15_code 4 (.getfield 168) 3 7 := ⟨by decide +kernel, rfl⟩
theorem d_D_row_7 : Dc prog_1_method_15_code 7 (.astore_n 1) 1 8 := ⟨by decide +kernel, rfl⟩
theorem d_D_row_8 : Dc prog_1_method_15_code 8 (.aload_n 1) 1 9 := ⟨by decide +kernel, rfl⟩
theorem d_D_row_9 : Dc prog_1_method_15_code 9 (.getfield 172) 3 12 := ⟨by decide +kernel, rfl⟩
theorem d_D_row_12 : Dj prog_1_method_15_code 12 (.ifCond .ne 10) 15 10 22 := ⟨by decide +kernel, rfl, rfl⟩
theorem d_D_row_15 : Dc prog_1_method_15_code 15 (.aload_n 0) 1 16 := ⟨by decide +kernel, rfl⟩
theorem d_D_row_16 : Dc prog_1_method_15_code 16 (.bipush (-6)) 2 18 := ⟨by decide +kernel, rfl⟩
theorem d_D_row_18 : Dc prog_1_method_15_code 18 (.invokevirtual 91) 3 21 := ⟨by decide +kernel, rfl⟩
theorem d_D_row_21 : Dc prog_1_method_15_code 21 (.ireturn) 1 22 := ⟨by decide +kernel, rfl⟩
theorem d_D_row_22 : Dc prog_1_method_15_code 22 (.iconst 0) 1 23 := ⟨by decide +kernel, rfl⟩
theorem d_D_row_23 : Dc prog_1_method_15_code 23 (.istore_n 2) 1 24 := ⟨by decide +kernel, rfl⟩
theorem d_D_row_24 : Dc prog_1_method_15_code 24 (.aload_n 1) 1 25 := ⟨by decide +kernel, rfl⟩
theorem d_D_row_25 : Dc prog_1_method_15_code 25 (.getfield 172) 3 28 := ⟨by decide +kernel, rfl⟩
theorem d_D_row_28 : Dc prog_1_method_15_code 28 (.iconst 2) 1 29 := ⟨by decide +kernel, rfl⟩
theorem d_D_row_29 : Dc prog_1_method_15_code 29 (.irem) 1 30 := ⟨by decide +kernel, rfl⟩
theorem d_D_row_30 : Dc prog_1_method_15_code 30 (.istore_n 3) 1 31 := ⟨by decide +kernel, rfl⟩
theorem d_D_row_31 : Dc prog_1_method_15_code 31 (.iconst 0) 1 32 := ⟨by decide +kernel, rfl⟩
theorem d_D_row_32 : Dc prog_1_method_15_code 32 (.istore 4) 2 34 := ⟨by decide +kernel, rfl⟩
theorem d_D_row_34 : Dc prog_1_method_15_code 34 (.iload 4) 2 36 := ⟨by decide +kernel, rfl⟩
theorem d_D_row_36 : Dc prog_1_method_15_code 36 (.iconst 1) 1 37 := ⟨by decide +kernel, rfl⟩
theorem d_D_row_37 : Dc prog_1_method_15_code 37 (.iadd) 1 38 := ⟨by decide +kernel, rfl⟩
theorem d_D_row_38 : Dc prog_1_method_15_code 38 (.aload_n 1) 1 39 := ⟨by decide +kernel, rfl⟩
theorem d_D_row_39 : Dc prog_1_method_15_code 39 (.getfield 172) 3 42 := ⟨by decide +kernel, rfl⟩
theorem d_D_row_42 : Dj prog_1_method_15_code 42 (.if_icmp .ge 68) 45 68 110 := ⟨by decide +kernel, rfl, rfl⟩
theorem d_D_row_45 : Dc prog_1_method_15_code 45 (.aload_n 0) 1 46 := ⟨by decide +kernel, rfl⟩
theorem d_D_row_46 : Dc prog_1_method_15_code 46 (.getfield 10) 3 49 := ⟨by decide +kernel, rfl⟩
theorem d_D_row_49 : Dc prog_1_method_15_code 49 (.aload_n 1) 1 50 := ⟨by decide +kernel, rfl⟩
theorem d_D_row_50 : Dc prog_1_method_15_code 50 (.getfield 181) 3 53 := ⟨by decide +kernel, rfl⟩
theorem d_D_row_53 : Dc prog_1_method_15_code 53 (.iload 4) 2 55 := ⟨by decide +kernel, rfl⟩
theorem d_D_row_55 : Dc prog_1_method_15_code 55 (.iaload) 1 56 := ⟨by decide +kernel, rfl⟩
theorem d_D_row_56 : Dc prog_1_method_15_code 56 (.aload_n 1) 1 57 := ⟨by decide +kernel, rfl⟩
theorem d_D_row_57 : Dc prog_1_method_15_code 57 (.getfield 181) 3 60 := ⟨by decide +kernel, rfl⟩
theorem d_D_row_60 : Dc prog_1_method_15_code 60 (.iload 4) 2 62 := ⟨by decide +kernel, rfl⟩
theorem d_D_row_62 : Dc prog_1_method_15_code 62 (.iconst 1) 1 63 := ⟨by decide +kernel, rfl⟩
theorem d_D_row_63 : Dc prog_1_method_15_code 63 (.iadd) 1 64 := ⟨by decide +kernel, rfl⟩
theorem d_D_row_64 : Dc prog_1_method_15_code 64 (.iaload) 1 65 := ⟨by decide +kernel, rfl⟩
theorem d_D_row_65 : Dc prog_1_method_15_code 65 (.invokevirtual 184) 3 68 := ⟨by decide +kernel, rfl⟩
theorem d_D_row_68 : Dj prog_1_method_15_code 68 (.ifCond .eq 33) 71 33 101 := ⟨by decide +kernel, rfl, rfl⟩
theorem d_D_row_71 : Dc prog_1_method_15_code 71 (.aload_n 0) 1 72 := ⟨by decide +kernel, rfl⟩
theorem d_D_row_72 : Dc prog_1_method_15_code 72 (.getfield 10) 3 75 := ⟨by decide +kernel, rfl⟩
theorem d_D_row_75 : Dc prog_1_method_15_code 75 (.aload_n 1) 1 76 := ⟨by decide +kernel, rfl⟩
theorem d_D_row_76 : Dc prog_1_method_15_code 76 (.getfield 181) 3 79 := ⟨by decide +kernel, rfl⟩
theorem d_D_row_79 : Dc prog_1_method_15_code 79 (.iload 4) 2 81 := ⟨by decide +kernel, rfl⟩
theorem d_D_row_81 : Dc prog_1_method_15_code 81 (.iaload) 1 82 := ⟨by decide +kernel, rfl⟩
theorem d_D_row_82 : Dc prog_1_method_15_code 82 (.aload_n 1) 1 83 := ⟨by decide +kernel, rfl⟩
theorem d_D_row_83 : Dc prog_1_method_15_code 83 (.getfield 181) 3 86 := ⟨by decide +kernel, rfl⟩
theorem d_D_row_86 : Dc prog_1_method_15_code 86 (.iload 4) 2 88 := ⟨by decide +kernel, rfl⟩
theorem d_D_row_88 : Dc prog_1_method_15_code 88 (.iconst 1) 1 89 := ⟨by decide +kernel, rfl⟩
theorem d_D_row_89 : Dc prog_1_method_15_code 89 (.iadd) 1 90 := ⟨by decide +kernel, rfl⟩
theorem d_D_row_90 : Dc prog_1_method_15_code 90 (.iaload) 1 91 := ⟨by decide +kernel, rfl⟩
theorem d_D_row_91 : Dc prog_1_method_15_code 91 (.invokevirtual 188) 3 94 := ⟨by decide +kernel, rfl⟩
theorem d_D_row_94 : Dc prog_1_method_15_code 94 (.pop) 1 95 := ⟨by decide +kernel, rfl⟩
theorem d_D_row_95 : Dc prog_1_method_15_code 95 (.iinc 2 1) 3 98 := ⟨by decide +kernel, rfl⟩
theorem d_D_row_98 : Dj prog_1_method_15_code 98 (.goto 6) 101 6 104 := ⟨by decide +kernel, rfl, rfl⟩
theorem d_D_row_101 : Dc prog_1_method_15_code 101 (.iinc 3 1) 3 104 := ⟨by decide +kernel, rfl⟩
theorem d_D_row_104 : Dc prog_1_method_15_code 104 (.iinc 4 2) 3 107 := ⟨by decide +kernel, rfl⟩
theorem d_D_row_107 : Dj prog_1_method_15_code 107 (.goto (-73)) 110 (-73) 34 := ⟨by decide +kernel, rfl, rfl⟩
theorem d_D_row_110 : Dc prog_1_method_15_code 110 (.aload_n 1) 1 111 := ⟨by decide +kernel, rfl⟩
theorem d_D_row_111 : Dc prog_1_method_15_code 111 (.iconst 0) 1 112 := ⟨by decide +kernel, rfl⟩
theorem d_D_row_112 : Dc prog_1_method_15_code 112 (.putfield 172) 3 115 := ⟨by decide +kernel, rfl⟩
theorem d_D_row_115 : Dc prog_1_method_15_code 115 (.aload_n 0) 1 116 := ⟨by decide +kernel, rfl⟩
theorem d_D_row_116 : Dc prog_1_method_15_code 116 (.iload_n 3) 1 117 := ⟨by decide +kernel, rfl⟩
theorem d_D_row_117 : Dc prog_1_method_15_code 117 (.putfield 192) 3 120 := ⟨by decide +kernel, rfl⟩
theorem d_D_row_120 : Dc prog_1_method_15_code 120 (.aload_n 0) 1 121 := ⟨by decide +kernel, rfl⟩
theorem d_D_row_121 : Dc prog_1_method_15_code 121 (.getfield 26) 3 124 := ⟨by decide +kernel, rfl⟩
theorem d_D_row_124 : Dc prog_1_method_15_code 124 (.invokevirtual 101) 3 127 := ⟨by decide +kernel, rfl⟩
theorem d_D_row_127 : Dc prog_1_method_15_code 127 (.aload_n 0) 1 128 := ⟨by decide +kernel, rfl⟩
theorem d_D_row_128 : Dc prog_1_method_15_code 128 (.iload_n 2) 1 129 := ⟨by decide +kernel, rfl⟩
theorem d_D_row_129 : Dc prog_1_method_15_code 129 (.invokevirtual 95) 3 132 := ⟨by decide +kernel, rfl⟩
theorem d_D_row_132 : Dc prog_1_method_15_code 132 (.ireturn) 1 133 := ⟨by decide +kernel, rfl⟩
theorem d_D_seen_0 : Dc prog_1_method_44_code 0 (.aload_n 0) 1 1 := ⟨by decide +kernel, rfl⟩
theorem d_D_seen_1 : Dc prog_1_method_44_code 1 (.getfield 10) 3 4 := ⟨by decide +kernel, rfl⟩
theorem d_D_seen_4 : Dc prog_1_method_44_code 4 (.iload_n 1) 1 5 := ⟨by decide +kernel, rfl⟩
theorem d_D_seen_5 : Dc prog_1_method_44_code 5 (.invokevirtual 126) 3 8 := ⟨by decide +kernel, rfl⟩
theorem d_D_seen_8 : Dj prog_1_method_44_code 8 (.ifCond .eq 14) 11 14 22 := ⟨by decide +kernel, rfl, rfl⟩
theorem d_D_seen_11 : Dc prog_1_method_44_code 11 (.aload_n 0) 1 12 := ⟨by decide +kernel, rfl⟩
theorem d_D_seen_12 : Dc prog_1_method_44_code 12 (.getfield 10) 3 15 := ⟨by decide +kernel, rfl⟩
theorem d_D_seen_15 : Dc prog_1_method_44_code 15 (.iload_n 2) 1 16 := ⟨by decide +kernel, rfl⟩
theorem d_D_seen_16 : Dc prog_1_method_44_code 16 (.invokevirtual 113) 3 19 := ⟨by decide +kernel, rfl⟩
theorem d_D_seen_19 : Dj prog_1_method_44_code 19 (.ifCond .ne 10) 22 10 29 := ⟨by decide +kernel, rfl, rfl⟩
theorem d_D_seen_22 : Dc prog_1_method_44_code 22 (.aload_n 0) 1 23 := ⟨by decide +kernel, rfl⟩
theorem d_D_seen_23 : Dc prog_1_method_44_code 23 (.bipush (-2)) 2 25 := ⟨by decide +kernel, rfl⟩
theorem d_D_seen_25 : Dc prog_1_method_44_code 25 (.invokevirtual 91) 3 28 := ⟨by decide +kernel, rfl⟩
theorem d_D_seen_28 : Dc prog_1_method_44_code 28 (.ireturn) 1 29 := ⟨by decide +kernel, rfl⟩
theorem d_D_seen_29 : Dc prog_1_method_44_code 29 (.aload_n 0) 1 30 := ⟨by decide +kernel, rfl⟩
theorem d_D_seen_30 : Dc prog_1_method_44_code 30 (.getfield 10) 3 33 := ⟨by decide +kernel, rfl⟩
theorem d_D_seen_33 : Dc prog_1_method_44_code 33 (.getfield 341) 3 36 := ⟨by decide +kernel, rfl⟩
theorem d_D_seen_36 : Dc prog_1_method_44_code 36 (.bipush 6) 2 38 := ⟨by decide +kernel, rfl⟩
theorem d_D_seen_38 : Dj prog_1_method_44_code 38 (.if_icmp .lt 10) 41 10 48 := ⟨by decide +kernel, rfl, rfl⟩
theorem d_D_seen_41 : Dc prog_1_method_44_code 41 (.aload_n 0) 1 42 := ⟨by decide +kernel, rfl⟩
theorem d_D_seen_42 : Dc prog_1_method_44_code 42 (.bipush (-5)) 2 44 := ⟨by decide +kernel, rfl⟩
theorem d_D_seen_44 : Dc prog_1_method_44_code 44 (.invokevirtual 91) 3 47 := ⟨by decide +kernel, rfl⟩
theorem d_D_seen_47 : Dc prog_1_method_44_code 47 (.ireturn) 1 48 := ⟨by decide +kernel, rfl⟩
theorem d_D_seen_48 : Dc prog_1_method_44_code 48 (.aload_n 0) 1 49 := ⟨by decide +kernel, rfl⟩
theorem d_D_seen_49 : Dc prog_1_method_44_code 49 (.aload_n 0) 1 50 := ⟨by decide +kernel, rfl⟩
theorem d_D_seen_50 : Dc prog_1_method_44_code 50 (.getfield 10) 3 53 := ⟨by decide +kernel, rfl⟩
theorem d_D_seen_53 : Dc prog_1_method_44_code 53 (.iload_n 1) 1 54 := ⟨by decide +kernel, rfl⟩
theorem d_D_seen_54 : Dc prog_1_method_44_code 54 (.iload_n 2) 1 55 := ⟨by decide +kernel, rfl⟩
theorem d_D_seen_55 : Dc prog_1_method_44_code 55 (.invokevirtual 344) 3 58 := ⟨by decide +kernel, rfl⟩
theorem d_D_seen_58 : Dc prog_1_method_44_code 58 (.invokevirtual 95) 3 61 := ⟨by decide +kernel, rfl⟩
theorem d_D_seen_61 : Dc prog_1_method_44_code 61 (.ireturn) 1 62 := ⟨by decide +kernel, rfl⟩
theorem d_D_undo_0 : Dc prog_1_method_26_code 0 (.aload_n 0) 1 1 := ⟨by decide +kernel, rfl⟩
theorem d_D_undo_1 : Dc prog_1_method_26_code 1 (.aload_n 0) 1 2 := ⟨by decide +kernel, rfl⟩
theorem d_D_undo_2 : Dc prog_1_method_26_code 2 (.getfield 26) 3 5 := ⟨by decide +kernel, rfl⟩
theorem d_D_undo_5 : Dc prog_1_method_26_code 5 (.aload_n 0) 1 6 := ⟨by decide +kernel, rfl⟩
theorem d_D_undo_6 : Dc prog_1_method_26_code 6 (.getfield 10) 3 9 := ⟨by decide +kernel, rfl⟩
theorem d_D_undo_9 : Dc prog_1_method_26_code 9 (.invokevirtual 254) 3 12 := ⟨by decide +kernel, rfl⟩
theorem d_D_undo_12 : Dc prog_1_method_26_code 12 (.invokevirtual 242) 3 15 := ⟨by decide +kernel, rfl⟩
theorem d_D_undo_15 : Dc prog_1_method_26_code 15 (.ireturn) 1 16 := ⟨by decide +kernel, rfl⟩
theorem fl_D_168 : FL "SubgraphDesk" 168 7 0 true (.object "SubgraphDesk$Tape") (3, 1) := ⟨R_Re, F_Re, 5, ty_Re, rfl, rfl, in_Re, tyok_Re, nm_Re, by decide, gd 350 (by decide +kernel) rfl, rfl, rfl, rfl⟩
theorem fl_D_172 : FL "SubgraphDesk" 172 10 1 false .int (0, 0) := ⟨R_Ta, F_Ta, 7, ty_Ta, rfl, rfl, in_Ta, tyok_Ta, nm_Ta, by decide, gd 303 (by decide +kernel) rfl, rfl, rfl, rfl⟩
theorem fl_D_181 : FL "SubgraphDesk" 181 10 0 true (.array .int) (3, 1) := ⟨R_Ta, F_Ta, 7, ty_Ta, rfl, rfl, in_Ta, tyok_Ta, nm_Ta, by decide, gd 301 (by decide +kernel) rfl, rfl, rfl, rfl⟩
theorem fl_D_341 : FL "SubgraphDesk" 341 2 8 false .int (0, 0) := ⟨R_Bo, F_Bo, 15, ty_Bo, rfl, rfl, in_Bo, tyok_Bo, nm_Bo, by decide, gd 219 (by decide +kernel) rfl, rfl, rfl, rfl⟩
theorem ml_D_126 : Cond.methodLink "SubgraphDesk" 126 m_Bo_hasVertex.1 ∈ lw_gd := gd 651 (by decide +kernel) rfl
theorem ml_D_177 : Cond.methodLink "SubgraphDesk" 177 m_Ta_addFour.1 ∈ lw_gd := gd 738 (by decide +kernel) rfl
theorem ml_D_184 : Cond.methodLink "SubgraphDesk" 184 m_Bo_canJoin.1 ∈ lw_gd := gd 750 (by decide +kernel) rfl
theorem ml_D_188 : Cond.methodLink "SubgraphDesk" 188 m_Bo_toggleEdge.1 ∈ lw_gd := gd 754 (by decide +kernel) rfl
theorem ml_D_254 : Cond.methodLink "SubgraphDesk" 254 m_Ac_takeBack.1 ∈ lw_gd := gd 1150 (by decide +kernel) rfl
theorem ml_D_344 : Cond.methodLink "SubgraphDesk" 344 m_Bo_addSight.1 ∈ lw_gd := gd 1362 (by decide +kernel) rfl
/-- the tape's, too -/
def DkNT (w w2 : Mem) : Prop := (∀ a, a ≠ 0 → 8 < a → (a < 20 ∨ 24 < a) → a ≠ 70 → a ≠ 26 → a ≠ 27 → rI w2 a = rI w a) ∧ (∀ k, k ≠ 13 → k ≠ 14 → rI w2 0 k = rI w 0 k) ∧ w2.2 = w.2
theorem DkN.NT {w w2 : Mem} (h : DkN w w2) : DkNT w w2 := ⟨fun a h1 h2 h3 h4 _ _ => h.1 a h1 h2 h3 h4, fun k h1 _ => h.2.1 k h1, h.2.2⟩
theorem DkNT.tr {a b c : Mem} (h : DkNT a b) (h2 : DkNT b c) : DkNT a c := ⟨fun x h3 h4 h5 h6 h7 h8 => (h2.1 x h3 h4 h5 h6 h7 h8).trans (h.1 x h3 h4 h5 h6 h7 h8), fun k hk hk2 => (h2.2.1 k hk hk2).trans (h.2.1 k hk hk2), h2.2.2.trans h.2.2⟩
theorem DkNT.D {w w2 : Mem} (h : DkNT w w2) : DkD w w2 := ⟨fun a h1 _ => h.1 a (by omega) (by omega) (by omega) (by omega) (by omega) (by omega), fun a _ _ => by unfold rJ; rw [h.2.2]⟩
theorem DInv.nt {w w2 : Mem} {s : SG} {g : GC} {t : List Nat} {u : List (Nat × Snap)} {rf : Nat → Int32} {st sm : Int32} (h : DInv w s) (hG : DG w2 g u) (hl : gL g = gL (sG s)) (hT : TpP w2 t) (f : DkNT w w2) (hR : DRf w2 rf st) (hsm : rI w2 0 14 = sm) : DInv w2 (g, t, u, sIm s, rf, st, sFa s, sm, sSp s, sDr s) := by
  obtain ⟨h1, h2, h3, h4, h5, h6, h7, h8⟩ := h
  have kk := KpR.of2 f.2.2
  refine ⟨hG, by show BLaws w2 1 (gL g); rw [hl]; exact h2.fr isBo1 (fun a ha => f.1 a (by omega) (by omega) (by omega) (by omega) (by omega) (by omega)) kk, hT, h4.fr (fun a h1 h2 => f.1 a (by omega) (by omega) (by omega) (by omega) (by omega) (by omega)) kk, hR, ?_, h7.fr (fun a h1 h2 => f.1 a (by omega) (by omega) (by omega) (by omega) (by omega) (by omega)), h8.fr kk⟩
  refine ⟨hsm, ?_, ?_⟩
  · rw [f.1 25 (by decide) (by decide) (by decide) (by decide) (by decide) (by decide)]; exact h6.2.1
  · rw [f.1 53 (by decide) (by decide) (by decide) (by decide) (by decide) (by decide)]; exact h6.2.2
theorem DInv.tp {w w2 : Mem} {s : SG} {t : List Nat} (h : DInv w s) (hT : TpP w2 t) (f : FrTp w w2) : DInv w2 (wTp s t) := by
  have f0 := f.1 0 (by decide) (by decide)
  exact h.nt (h.g.fr (fun a ha => f.1 a (by omega) (by omega))) rfl hT ⟨fun a h1 h2 h3 h4 h5 h6 => f.1 a h5 h6, fun k _ _ => by rw [f0], f.2.2⟩ (h.rf.fr (f.1 70 (by decide) (by decide)) (by rw [f0])) (by rw [f0]; exact h.sm)
theorem FrTp.Dk {w w2 : Mem} (f : FrTp w w2) : DkD w w2 := ⟨fun a h1 _ => f.1 a (by omega) (by omega), fun a _ _ => by unfold rJ; rw [f.2.2]⟩
theorem gA_take {t : List Nat} {j k : Nat} (h : k < j) : gA (t.take j) k = gA t k := by
  unfold gA
  rw [List.getD_eq_getElem?_getD, List.getD_eq_getElem?_getD, List.getElem?_take, if_pos h]
theorem TpP.take {w : Mem} {t : List Nat} {j : Nat} (h : TpP w t) (hj : j ≤ t.length) : TpP (sI w 26 1 (nI j)) (t.take j) := by
  have hl : (t.take j).length = j := by rw [List.length_take]; omega
  have h0 := h.1
  refine ⟨by rw [hl]; omega, by rw [rI_sI, upd_eq, if_pos rfl, hl], fun k hk => ?_⟩
  rw [hl] at hk
  rw [rI_sI_ne _ _ _ (by decide), gA_take hk]
  exact h.2.2 k (by omega)
theorem FrTp.len (w : Mem) (x : Int32) : FrTp w (sI w 26 1 x) := ⟨fun a h1 h2 => by rw [rI_sI_ne _ _ _ h1], fun k hk => by rw [rI_sI, upd_eq, if_neg hk], rfl⟩
theorem opFeed_no {a b c d e : Int32} {s : SG} (h : 380 < (sTp s).length) : opFeed a b c d e s = (-1, s) := by unfold opFeed; rw [if_pos h]
theorem opFeed_ok {a b c d e : Int32} {s : SG} (h : ¬ 380 < (sTp s).length) : opFeed a b c d e s = (nI ((sTp s).length + 20), wTp s (sTp s ++ (bytes4 a ++ bytes4 b ++ bytes4 c ++ bytes4 d ++ bytes4 e))) := by unfold opFeed; rw [if_neg h]
theorem opEndD_no {x : Int32} {s : SG} (h : x < 0 ∨ nI (sTp s).length < x) : opEnd x s = (-1, s) := by unfold opEnd; exact if_pos h
theorem opEndD_ok {x : Int32} {s : SG} (h : ¬ (x < 0 ∨ nI (sTp s).length < x)) : opEnd x s = (x, wTp s ((sTp s).take (tn x))) := by unfold opEnd; exact if_neg h
theorem c_D_feed {E : EV} {w : Mem} {a b c d e : Int32} {s : SG} (h : DInv w s) : T E m_D_feed 1 0 0 [.ref 0, .int a, .int b, .int c, .int d, .int e] w (fun r w2 => r = some (.int (opFeed a b c d e s).1) ∧ DInv w2 (opFeed a b c d e s).2 ∧ DkD w w2) := by
  refine T_of (L := [.ref 0, .int a, .int b, .int c, .int d, .int e, un]) cf_D_feed rfl (Nat.le_of_ble_eq_true rfl) (fun X hX hF => ?_)
  obtain ⟨⟨hR, hW, hA⟩, hL, hT, hI, hRF, ⟨hsm, hfa, hsp⟩, hdr, hfx⟩ := id h
  have hn := hW.n
  have hv := hW.v
  have he := hW.el
  have hll := hW.ll
  have hsl := hW.sl
  have htl := hT.1
  refine g_aload0 hX d_D_feed_0 ?_
  refine g_getF hX d_D_feed_1 fl_D_33 (lv_0 _) ?_
  refine g_getF hX d_D_feed_4 fl_D_168 (lv_25 _) ?_
  refine g_astore6 hX d_D_feed_7 rfl (by decide) ?_
  refine g_aload6 hX d_D_feed_9 ?_
  refine g_getI hX d_D_feed_11 fl_D_172 (lv_26 _) ?_
  refine g_topi hT.2.1 ?_
  refine g_sipush (v := nI 380) hX d_D_feed_14 rfl ?_
  refine g_icmpN_le hX d_D_feed_17 (by omega) (by omega) (fun e17 => ?_) (fun e17 => ?_)
  · refine g_aload6 hX d_D_feed_22 ?_
    refine g_iload1 hX d_D_feed_24 ?_
    refine g_callV (As := [_]) hX hF.1 d_D_feed_25 ml_D_177 cf_Ta_addFour cv_Ta_addFour rfl rfl (c_Ta_addFour (t := sTp s) hT (by omega)) (rcv_obj hX (lv_26 _) rfl rfl) (by omega) (by omega) (by omega) (Nat.le_of_ble_eq_true rfl) ?_
    rintro _ w1 ⟨rfl, hT1, hf1⟩
    have hl1 : (sTp s ++ bytes4 a).length = (sTp s).length + 4 := by rw [List.length_append]; rfl
    show G0 _ _ _ _ _ _ _ _
    refine g_aload6 hX d_D_feed_28 ?_
    refine g_iload2 hX d_D_feed_30 ?_
    refine g_callV (As := [_]) hX hF.1 d_D_feed_31 ml_D_177 cf_Ta_addFour cv_Ta_addFour rfl rfl (c_Ta_addFour (t := sTp s ++ bytes4 a) hT1 (by omega)) (rcv_obj hX (lv_26 _) rfl rfl) (by omega) (by omega) (by omega) (Nat.le_of_ble_eq_true rfl) ?_
    rintro _ w2 ⟨rfl, hT2, hf2⟩
    have hl2 : (sTp s ++ bytes4 a ++ bytes4 b).length = (sTp s).length + 8 := by rw [List.length_append, hl1]; rfl
    show G0 _ _ _ _ _ _ _ _
    refine g_aload6 hX d_D_feed_34 ?_
    refine g_iload3 hX d_D_feed_36 ?_
    refine g_callV (As := [_]) hX hF.1 d_D_feed_37 ml_D_177 cf_Ta_addFour cv_Ta_addFour rfl rfl (c_Ta_addFour (t := sTp s ++ bytes4 a ++ bytes4 b) hT2 (by omega)) (rcv_obj hX (lv_26 _) rfl rfl) (by omega) (by omega) (by omega) (Nat.le_of_ble_eq_true rfl) ?_
    rintro _ w3 ⟨rfl, hT3, hf3⟩
    have hl3 : (sTp s ++ bytes4 a ++ bytes4 b ++ bytes4 c).length = (sTp s).length + 12 := by rw [List.length_append, hl2]; rfl
    show G0 _ _ _ _ _ _ _ _
    refine g_aload6 hX d_D_feed_40 ?_
    refine g_iload4 hX d_D_feed_42 ?_
    refine g_callV (As := [_]) hX hF.1 d_D_feed_44 ml_D_177 cf_Ta_addFour cv_Ta_addFour rfl rfl (c_Ta_addFour (t := sTp s ++ bytes4 a ++ bytes4 b ++ bytes4 c) hT3 (by omega)) (rcv_obj hX (lv_26 _) rfl rfl) (by omega) (by omega) (by omega) (Nat.le_of_ble_eq_true rfl) ?_
    rintro _ w4 ⟨rfl, hT4, hf4⟩
    have hl4 : (sTp s ++ bytes4 a ++ bytes4 b ++ bytes4 c ++ bytes4 d).length = (sTp s).length + 16 := by rw [List.length_append, hl3]; rfl
    show G0 _ _ _ _ _ _ _ _
    refine g_aload6 hX d_D_feed_47 ?_
    refine g_iload5 hX d_D_feed_49 ?_
    refine g_callV (As := [_]) hX hF.1 d_D_feed_51 ml_D_177 cf_Ta_addFour cv_Ta_addFour rfl rfl (c_Ta_addFour (t := sTp s ++ bytes4 a ++ bytes4 b ++ bytes4 c ++ bytes4 d) hT4 (by omega)) (rcv_obj hX (lv_26 _) rfl rfl) (by omega) (by omega) (by omega) (Nat.le_of_ble_eq_true rfl) ?_
    rintro _ w5 ⟨rfl, hT5, hf5⟩
    have hl5 : (sTp s ++ bytes4 a ++ bytes4 b ++ bytes4 c ++ bytes4 d ++ bytes4 e).length = (sTp s).length + 20 := by rw [List.length_append, hl4]; rfl
    show G0 _ _ _ _ _ _ _ _
    refine g_aload6 hX d_D_feed_54 ?_
    refine g_getI hX d_D_feed_56 fl_D_172 (lv_26 _) ?_
    refine g_iret hX hF d_D_feed_59 (by omega) (by omega) ?_
    rw [opFeed_ok (by omega)]
    have hF5 := (((hf1.tr hf2).tr hf3).tr hf4).tr hf5
    refine ⟨?_, h.tp ?_ hF5, hF5.Dk⟩
    · rw [hT5.2.1, hl5]
    · rw [show sTp s ++ (bytes4 a ++ bytes4 b ++ bytes4 c ++ bytes4 d ++ bytes4 e) = sTp s ++ bytes4 a ++ bytes4 b ++ bytes4 c ++ bytes4 d ++ bytes4 e by simp only [List.append_assoc]]; exact hT5
  · refine g_iconst (v := -1) hX d_D_feed_20 rfl ?_
    refine g_iret hX hF d_D_feed_21 (by omega) (by omega) ?_
    rw [opFeed_no (by omega)]
    exact ⟨rfl, h, DkD.rf w⟩
theorem c_D_end {E : EV} {w : Mem} {x : Int32} {s : SG} (h : DInv w s) : T E m_D_end 0 0 0 [.ref 0, .int x] w (fun r w2 => r = some (.int (opEnd x s).1) ∧ DInv w2 (opEnd x s).2 ∧ DkD w w2) := by
  refine T_of (L := [.ref 0, .int x]) cf_D_end rfl (Nat.le_of_ble_eq_true rfl) (fun X hX hF => ?_)
  obtain ⟨⟨hR, hW, hA⟩, hL, hT, hI, hRF, ⟨hsm, hfa, hsp⟩, hdr, hfx⟩ := id h
  have hn := hW.n
  have hv := hW.v
  have he := hW.el
  have hll := hW.ll
  have hsl := hW.sl
  have htl := hT.1
  refine g_iload1 hX d_D_end_0 ?_
  refine g_if_lt hX d_D_end_1 (fun e1 => ?_) (fun e1 => ?_)
  · refine g_iconst (v := -1) hX d_D_end_18 rfl ?_
    refine g_iret hX hF d_D_end_19 (by omega) (by omega) ?_
    rw [opEndD_no (by first | exact Or.inl e1 | exact Or.inr (Int32.not_le.mp e15))]
    exact ⟨rfl, h, DkD.rf w⟩
  · refine g_iload1 hX d_D_end_4 ?_
    refine g_aload0 hX d_D_end_5 ?_
    refine g_getF hX d_D_end_6 fl_D_33 (lv_0 _) ?_
    refine g_getF hX d_D_end_9 fl_D_168 (lv_25 _) ?_
    refine g_getI hX d_D_end_12 fl_D_172 (lv_26 _) ?_
    refine g_topi hT.2.1 ?_
    refine g_icmp_le hX d_D_end_15 (fun e15 => ?_) (fun e15 => ?_)
    · obtain ⟨j, hj, rfl, htn⟩ := inN_of ((in6 (by omega)).mpr ⟨e1, lt_of1 (by omega) e15 (Nat.le_refl _)⟩ : inN x ((sTp s).length + 1)) (by omega)
      refine g_aload0 hX d_D_end_20 ?_
      refine g_getF hX d_D_end_21 fl_D_33 (lv_0 _) ?_
      refine g_getF hX d_D_end_24 fl_D_168 (lv_25 _) ?_
      refine g_iload1 hX d_D_end_27 ?_
      refine g_putI hX d_D_end_28 fl_D_172 (lv_26 _) ?_
      refine g_iload1 hX d_D_end_31 ?_
      refine g_iret hX hF d_D_end_32 (by omega) (by omega) ?_
      rw [opEndD_ok (fun q => q.elim e1 (fun z => Int32.not_lt.mpr e15 z)), htn]
      exact ⟨rfl, h.tp (hT.take (by omega)) (FrTp.len _ _), (FrTp.len _ _).Dk⟩
    · refine g_iconst (v := -1) hX d_D_end_18 rfl ?_
      refine g_iret hX hF d_D_end_19 (by omega) (by omega) ?_
      rw [opEndD_no (by first | exact Or.inl e1 | exact Or.inr (Int32.not_le.mp e15))]
      exact ⟨rfl, h, DkD.rf w⟩
theorem c_D_undo {E : EV} {w : Mem} {s : SG} (h : DInv w s) : T E m_D_undo 4 0 0 [.ref 0] w (fun r w2 => r = some (.int (opUndo s).1) ∧ DInv w2 (opUndo s).2 ∧ DkD w w2) := by
  refine T_of (L := [.ref 0]) cf_D_undo rfl (Nat.le_of_ble_eq_true rfl) (fun X hX hF => ?_)
  obtain ⟨⟨hR, hW, hA⟩, hL, hT, hI, hRF, ⟨hsm, hfa, hsp⟩, hdr, hfx⟩ := id h
  have hn := hW.n
  have hv := hW.v
  have he := hW.el
  have hll := hW.ll
  have hsl := hW.sl
  by_cases hu : sU s = []
  · refine g_aload0 hX d_D_undo_0 ?_
    refine g_aload0 hX d_D_undo_1 ?_
    refine g_getF hX d_D_undo_2 fl_D_26 (lv_0 _) ?_
    refine g_aload0 hX d_D_undo_5 ?_
    refine g_getF hX d_D_undo_6 fl_D_10 (lv_0 _) ?_
    refine g_callV (As := [_]) hX hF.1 d_D_undo_9 ml_D_254 cf_Ac_takeBack cv_Ac_takeBack rfl rfl (c_Ac_takeBack0 (hu ▸ h.g)) (rcv_obj hX (lv_20 _) rfl rfl) (by omega) (by omega) (by omega) (Nat.le_of_ble_eq_true rfl) ?_
    refine ret_k ?_
    refine g_callV (As := [_]) hX hF.1 d_D_undo_12 ml_D_242 cf_D_refuseOrGrant cv_D_refuseOrGrant rfl rfl (c_D_rog (Or.inr (Or.inr (Or.inl rfl))) hRF) (rcv_obj hX (lv_0 _) rfl rfl) (by omega) (by omega) (by omega) (Nat.le_of_ble_eq_true rfl) ?_
    rintro r2 w2 hr
    obtain ⟨hr1, hr2⟩ := id hr
    subst hr1
    show G0 _ _ _ _ _ _ _ _
    refine g_iret hX hF d_D_undo_15 (by omega) (by omega) ?_
    have hfin := act_fin (a := (-(nI 3), sG s, sU s)) h h.g (FrAb.rf w) (fun _ => h.g) rfl ⟨rfl, hr2⟩
    rw [(opUndo_no hu).trans (byAct_n (r := (-(nI 3), sG s, sU s)) (by decide) (by decide) rfl).symm]
    exact hfin
  · obtain ⟨l, hl2⟩ : ∃ l, (sU s).length = l + 1 := ⟨(sU s).length - 1, by have := List.length_pos_iff.mpr hu; omega⟩
    obtain ⟨q, hq⟩ : ∃ q, (sU s)[l]? = some q := ⟨_, List.getElem?_eq_getElem (show l < (sU s).length by omega)⟩
    have hq3 : (sU s).getLast? = some q := by rw [List.getLast?_eq_getElem?, hl2]; exact hq
    have hq4 := (hA.2.2 l q hq).1
    refine g_aload0 hX d_D_undo_0 ?_
    refine g_aload0 hX d_D_undo_1 ?_
    refine g_getF hX d_D_undo_2 fl_D_26 (lv_0 _) ?_
    refine g_aload0 hX d_D_undo_5 ?_
    refine g_getF hX d_D_undo_6 fl_D_10 (lv_0 _) ?_
    refine g_callV (As := [_]) hX hF.1 d_D_undo_9 ml_D_254 cf_Ac_takeBack cv_Ac_takeBack rfl rfl (c_Ac_takeBack h.g hl2 hq) (rcv_obj hX (lv_20 _) rfl rfl) (by omega) (by omega) (by omega) (Nat.le_of_ble_eq_true rfl) ?_
    rintro _ w1 ⟨rfl, hG1, hab⟩
    have hF1 := hRF.ab hab
    show G0 _ _ _ _ _ _ _ _
    refine g_callV (As := [_]) hX hF.1 d_D_undo_12 ml_D_242 cf_D_refuseOrGrant cv_D_refuseOrGrant rfl rfl (c_D_rog (Or.inr (Or.inr (Or.inr ⟨q.1, by omega, rfl⟩))) hF1) (rcv_obj hX (lv_0 _) rfl rfl) (by omega) (by omega) (by omega) (Nat.le_of_ble_eq_true rfl) ?_
    rintro r2 w2 hr
    obtain ⟨hr1, hr2⟩ := id hr
    subst hr1
    show G0 _ _ _ _ _ _ _ _
    refine g_iret hX hF d_D_undo_15 (by omega) (by omega) ?_
    have hfin := act_fin (a := (nI q.1, unsnap (sG s) q.2, (sU s).dropLast)) h hG1 hab (fun ⟨k, k0, k4, e⟩ => absurd e (nI_nn k0 (by omega) (by show q.1 < 2 ^ 31; omega))) rfl ⟨rfl, hr2⟩
    rw [(opUndo_ok hq3).trans (byAct_y (r := (nI q.1, unsnap (sG s) q.2, (sU s).dropLast)) (k := q.1) (by omega) rfl).symm]
    exact hfin
theorem c_D_seen {E : EV} {w : Mem} {x y : Int32} {s : SG} (h : DInv w s) : T E m_D_seen 2 0 0 [.ref 0, .int x, .int y] w (fun r w2 => r = some (.int (opSeen x y s).1) ∧ DInv w2 (opSeen x y s).2 ∧ DkD w w2) := by
  refine T_of (L := [.ref 0, .int x, .int y]) cf_D_seen rfl (Nat.le_of_ble_eq_true rfl) (fun X hX hF => ?_)
  obtain ⟨⟨hR, hW, hA⟩, hL, hT, hI, hRF, ⟨hsm, hfa, hsp⟩, hdr, hfx⟩ := id h
  have hn := hW.n
  have hv := hW.v
  have he := hW.el
  have hll := hW.ll
  have hsl := hW.sl
  refine g_aload0 hX d_D_seen_0 ?_
  refine g_getF hX d_D_seen_1 fl_D_10 (lv_0 _) ?_
  refine g_iload1 hX d_D_seen_4 ?_
  refine g_callV (As := [_]) hX hF.1 d_D_seen_5 ml_D_126 cf_Bo_hasVertex cv_Bo_hasVertex rfl rfl (c_Bo_hasVertex isBo1 hR hW) (rcv_obj hX (lv_1 _) rfl rfl) (by omega) (by omega) (by omega) (Nat.le_of_ble_eq_true rfl) ?_
  refine ret_k ?_
  refine g_ifB_eq hX d_D_seen_8 (fun e8 => ?_) (fun e8 => ?_)
  · refine g_aload0 hX d_D_seen_22 ?_
    refine g_bipush (v := -2) hX d_D_seen_23 rfl ?_
    refine g_callV (As := [_]) hX hF.1 d_D_seen_25 ml_D_91 cf_D_refuse cv_D_refuse rfl rfl (c_D_refuse2 hRF) (rcv_obj hX (lv_0 _) rfl rfl) (by omega) (by omega) (by omega) (Nat.le_of_ble_eq_true rfl) ?_
    rintro _ w2 ⟨rfl, hF2, hf2⟩
    show G0 _ _ _ _ _ _ _ _
    refine g_iret hX hF d_D_seen_28 (by omega) (by omega) ?_
    rw [opSeen_2 (fun q => by first | exact e8 q.1 | exact e19 q.2)]
    exact ⟨rfl, h.no hf2 hF2, hf2.N.D⟩
  · refine g_aload0 hX d_D_seen_11 ?_
    refine g_getF hX d_D_seen_12 fl_D_10 (lv_0 _) ?_
    refine g_iload2 hX d_D_seen_15 ?_
    refine g_callV (As := [_]) hX hF.1 d_D_seen_16 ml_D_113 cf_Bo_hasNode cv_Bo_hasNode rfl rfl (c_Bo_hasNode isBo1 hR hW) (rcv_obj hX (lv_1 _) rfl rfl) (by omega) (by omega) (by omega) (Nat.le_of_ble_eq_true rfl) ?_
    refine ret_k ?_
    refine g_ifB_ne hX d_D_seen_19 (fun e19 => ?_) (fun e19 => ?_)
    · obtain ⟨a, ha, rfl, hta⟩ := inN_of e8 (by omega)
      obtain ⟨b, hb, rfl, htb⟩ := inN_of e19 (by omega)
      refine g_aload0 hX d_D_seen_29 ?_
      refine g_getF hX d_D_seen_30 fl_D_10 (lv_0 _) ?_
      refine g_getI hX d_D_seen_33 fl_D_341 (lv_1 _) ?_
      refine g_topi hR.sl ?_
      refine g_bipush (v := nI 6) hX d_D_seen_36 rfl ?_
      refine g_icmpN_lt hX d_D_seen_38 (by omega) (by omega) (fun e38 => ?_) (fun e38 => ?_)
      · refine g_aload0 hX d_D_seen_48 ?_
        refine g_aload0 hX d_D_seen_49 ?_
        refine g_getF hX d_D_seen_50 fl_D_10 (lv_0 _) ?_
        refine g_iload1 hX d_D_seen_53 ?_
        refine g_iload2 hX d_D_seen_54 ?_
        refine g_callV (As := [_, _]) hX hF.1 d_D_seen_55 ml_D_344 cf_Bo_addSight cv_Bo_addSight rfl rfl (c_Bo_addSight isBo1 hR hW (by omega) (by omega) (by omega)) (rcv_obj hX (lv_1 _) rfl rfl) (by omega) (by omega) (by omega) (Nat.le_of_ble_eq_true rfl) ?_
        rintro _ w1 ⟨rfl, hB1, hf1⟩
        have hab := hf1.Ab
        have hF1 := hRF.ab hab
        show G0 _ _ _ _ _ _ _ _
        refine g_callV (As := [_]) hX hF.1 d_D_seen_58 ml_D_95 cf_D_grant cv_D_grant rfl rfl (c_D_grant (y := nI ((gS (sG s)).length + 1)) hF1) (rcv_obj hX (lv_0 _) rfl rfl) (by omega) (by omega) (by omega) (Nat.le_of_ble_eq_true rfl) ?_
        rintro _ w2 ⟨rfl, hF2, hf2⟩
        show G0 _ _ _ _ _ _ _ _
        refine g_iret hX hF d_D_seen_61 (by omega) (by omega) ?_
        rw [opSeen_ok ⟨e8, e19⟩ (by omega), hta, htb]
        exact ⟨rfl, h.ok (g := gSee (sG s) (gS (sG s) ++ [(a, b)])) (u := sU s) ⟨hB1, hW.see (by rw [List.length_append, List.length_singleton]; omega) (seen_in hW ha hb), (hA.Bo hf1).sg rfl rfl rfl (fun q hq2 hq => WG.see (g := unsnap (sG s) q.2) (q := gS (sG s) ++ [(a, b)]) hq (by rw [List.length_append, List.length_singleton]; omega) (seen_in hW ha hb))⟩ rfl hab hF2 hf2, (hab.N.tr hf2.N).D⟩
      · refine g_aload0 hX d_D_seen_41 ?_
        refine g_bipush (v := -5) hX d_D_seen_42 rfl ?_
        refine g_callV (As := [_]) hX hF.1 d_D_seen_44 ml_D_91 cf_D_refuse cv_D_refuse rfl rfl (c_D_refuse5 hRF) (rcv_obj hX (lv_0 _) rfl rfl) (by omega) (by omega) (by omega) (Nat.le_of_ble_eq_true rfl) ?_
        rintro _ w2 ⟨rfl, hF2, hf2⟩
        show G0 _ _ _ _ _ _ _ _
        refine g_iret hX hF d_D_seen_47 (by omega) (by omega) ?_
        rw [opSeen_5 ⟨e8, e19⟩ (by omega)]
        exact ⟨rfl, h.no hf2 hF2, hf2.N.D⟩
    · refine g_aload0 hX d_D_seen_22 ?_
      refine g_bipush (v := -2) hX d_D_seen_23 rfl ?_
      refine g_callV (As := [_]) hX hF.1 d_D_seen_25 ml_D_91 cf_D_refuse cv_D_refuse rfl rfl (c_D_refuse2 hRF) (rcv_obj hX (lv_0 _) rfl rfl) (by omega) (by omega) (by omega) (Nat.le_of_ble_eq_true rfl) ?_
      rintro _ w2 ⟨rfl, hF2, hf2⟩
      show G0 _ _ _ _ _ _ _ _
      refine g_iret hX hF d_D_seen_28 (by omega) (by omega) ?_
      rw [opSeen_2 (fun q => by first | exact e8 q.1 | exact e19 q.2)]
      exact ⟨rfl, h.no hf2 hF2, hf2.N.D⟩
theorem BRow.forget {w : Mem} {b : Nat} {g : GC} (h : BRow w b g) : BRow (sI w b 8 (nI 0)) b (gSee g []) := by
  unfold BRow
  rw [rI_sI, rI_sI_ne _ _ _ (show b + 1 ≠ b by omega), rI_sI_ne _ _ _ (show b + 2 ≠ b by omega), rI_sI_ne _ _ _ (show b + 3 ≠ b by omega), rI_sI_ne _ _ _ (show b + 4 ≠ b by omega), rI_sI_ne _ _ _ (show b + 5 ≠ b by omega), rI_sI_ne _ _ _ (show b + 6 ≠ b by omega), rI_sI_ne _ _ _ (show b + 7 ≠ b by omega)]
  exact ⟨h.n, h.el, h.v, by rw [upd_eq, if_pos rfl]; rfl, h.ll, h.fo, h.c, h.nr, h.e, h.y, h.k, (fun k q hq => absurd (show (([] : List (Nat × Nat))[k]? = some q) from hq) (by simp)), h.t⟩
theorem c_D_forget {E : EV} {w : Mem} {s : SG} (h : DInv w s) : T E m_D_forget 0 0 0 [.ref 0] w (fun r w2 => r = some (.int (opForget s).1) ∧ DInv w2 (opForget s).2 ∧ DkD w w2) := by
  refine T_of (L := [.ref 0, un]) cf_D_forget rfl (Nat.le_of_ble_eq_true rfl) (fun X hX hF => ?_)
  obtain ⟨⟨hR, hW, hA⟩, hL, hT, hI, hRF, ⟨hsm, hfa, hsp⟩, hdr, hfx⟩ := id h
  have hn := hW.n
  have hv := hW.v
  have he := hW.el
  have hll := hW.ll
  have hsl := hW.sl
  refine g_aload0 hX d_D_forget_0 ?_
  refine g_getF hX d_D_forget_1 fl_D_10 (lv_0 _) ?_
  refine g_getI hX d_D_forget_4 fl_D_341 (lv_1 _) ?_
  refine g_topi hR.sl ?_
  refine g_istore1 hX d_D_forget_7 rfl (by decide) ?_
  refine g_aload0 hX d_D_forget_8 ?_
  refine g_getF hX d_D_forget_9 fl_D_10 (lv_0 _) ?_
  refine g_iconst (v := nI 0) hX d_D_forget_12 rfl ?_
  refine g_putI hX d_D_forget_13 fl_D_341 (lv_1 _) ?_
  refine g_iload1 hX d_D_forget_16 ?_
  refine g_iret hX hF d_D_forget_17 (by omega) (by omega) ?_
  have hab : FrAb w (sI w 1 8 (nI 0)) := (FrAb.rf w).I (by omega)
  refine ⟨rfl, h.n (g := gSee (sG s) []) (u := sU s) ⟨hR.forget, hW.see (q := []) (Nat.zero_le _) (fun x hx => by cases hx), (hA.fr (fun o h1 h2 => rI_sI_ne _ _ _ (by omega))).sg rfl rfl rfl (fun q hq2 hq => WG.see (g := unsnap (sG s) q.2) (q := []) hq (Nat.zero_le _) (fun x hx => by cases hx))⟩ rfl hab.N (hRF.ab hab), hab.N.D⟩
theorem c_D_row {E : EV} {w : Mem} {s : SG} (h : DInv w s) : T E m_D_row 3 0 0 [.ref 0] w (fun r w2 => r = some (.int (opRow s).1) ∧ DInv w2 (opRow s).2 ∧ DkD w w2) := by
  refine T_of (L := [.ref 0, un, un, un, un]) cf_D_row rfl (Nat.le_of_ble_eq_true rfl) (fun X hX hF => ?_)
  obtain ⟨⟨hR, hW, hA⟩, hL, hT, hI, hRF, ⟨hsm, hfa, hsp⟩, hdr, hfx⟩ := id h
  have hn := hW.n
  have hv := hW.v
  have he := hW.el
  have hll := hW.ll
  have hsl := hW.sl
  have htl := hT.1
  obtain ⟨r, hr0⟩ : ∃ r, rowGo (gN (sG s)) (sTp s) (gE (sG s), 0, 0) = r := ⟨_, rfl⟩
  have hlp : ¬ sTp s = [] → ∀ (fuel k c m : Nat) (es : List Nat) (wk : Mem), (sTp s).length + 2 - k < fuel → BRow wk 1 (gEs (sG s) es) → WG (gEs (sG s) es) → FrBo 1 w wk → c + m ≤ k → k ≤ (sTp s).length → k % 2 = 0 → rowGo (gN (sG s)) ((sTp s).drop k) (es, c, m) = r → G0 E X 0 0 34 [.ref 0, .ref 26, .int (nI c), .int (nI (m + (sTp s).length % 2)), .int (nI k)] [] wk := by
    intro hne
    have lp : ∀ (fuel : Nat) (k c m : Nat) (es : List Nat) (wk : Mem), (sTp s).length + 2 - k < fuel → (BRow wk 1 (gEs (sG s) es)) → (WG (gEs (sG s) es)) → (FrBo 1 w wk) → (c + m ≤ k) → (k ≤ (sTp s).length) → (k % 2 = 0) → (rowGo (gN (sG s)) ((sTp s).drop k) (es, c, m) = r) → G0 E X 0 0 34 [.ref 0, .ref 26, .int (nI c), .int (nI (m + (sTp s).length % 2)), .int (nI k)] [] wk := by
      intro fuel
      induction fuel with
      | zero => intro k c m es wk q0; exact absurd q0 (Nat.not_lt_zero _)
      | succ fuel ih =>
        intro k c m es wk q0 q1 q2 q3 q4 q5 q6 q7
        refine g_iload4 hX d_D_row_34 ?_
        refine g_iconst (v := nI 1) hX d_D_row_36 rfl ?_
        refine g_iaddN hX d_D_row_37 ?_
        refine g_aload1 hX d_D_row_38 ?_
        refine g_getI hX d_D_row_39 fl_D_172 (lv_26 _) ?_
        refine g_topi (show rI wk 26 1 = nI (sTp s).length by rw [q3.1 26 (by omega)]; exact hT.2.1) ?_
        refine g_icmpN_ge hX d_D_row_42 (by omega) (by omega) (fun e42 => ?_) (fun e42 => ?_)
        · refine g_aload1 hX d_D_row_110 ?_
          refine g_iconst (v := nI 0) hX d_D_row_111 rfl ?_
          refine g_putI hX d_D_row_112 fl_D_172 (lv_26 _) ?_
          refine g_aload0 hX d_D_row_115 ?_
          refine g_iload3 hX d_D_row_116 ?_
          refine g_putI hX d_D_row_117 fl_D_192 (lv_0 _) ?_
          refine g_aload0 hX d_D_row_120 ?_
          refine g_getF hX d_D_row_121 fl_D_26 (lv_0 _) ?_
          refine g_callV (As := []) hX hF.1 d_D_row_124 ml_D_101 cf_Ac_clearAll cv_Ac_clearAll rfl rfl (c_Ac_clearAll (Or.inl rfl)) (rcv_obj hX (lv_20 _) rfl rfl) (by omega) (by omega) (by omega) (Nat.le_of_ble_eq_true rfl) ?_
          refine ret_k ?_
          refine g_aload0 hX d_D_row_127 ?_
          refine g_iload2 hX d_D_row_128 ?_
          obtain ⟨w1, hw1⟩ : ∃ w1, sI (sI (sI wk 26 1 (nI 0)) 0 14 (nI (m + (sTp s).length % 2))) 20 0 (nI 0) = w1 := ⟨_, rfl⟩
          have hnt : DkNT w w1 := by
            refine (DkN.NT q3.Ab.N).tr ?_
            rw [← hw1]
            exact ⟨fun a h1 h2 h3 h4 h5 h6 => by rw [rI_sI_ne _ _ _ (by omega), rI_sI_ne _ _ _ h1, rI_sI_ne _ _ _ h5], fun q hq hq2 => by rw [rI_sI_ne _ _ _ (by decide), rI_sI, upd_eq, if_neg hq2, rI_sI_ne _ _ _ (by decide)], rfl⟩
          have hF1 : DRf w1 (sRf s) (sSt s) := (hRF.ab q3.Ab).fr (by rw [← hw1, rI_sI_ne _ _ _ (by decide), rI_sI_ne _ _ _ (by decide), rI_sI_ne _ _ _ (by decide)]) (by rw [← hw1, rI_sI_ne _ _ _ (by decide), rI_sI, upd_eq, if_neg (by decide), rI_sI_ne _ _ _ (by decide)])
          refine g_mem hw1 ?_
          refine g_callV (As := [_]) hX hF.1 d_D_row_129 ml_D_95 cf_D_grant cv_D_grant rfl rfl (c_D_grant (y := nI c) hF1) (rcv_obj hX (lv_0 _) rfl rfl) (by omega) (by omega) (by omega) (Nat.le_of_ble_eq_true rfl) ?_
          rintro _ w2 ⟨rfl, hF2, hf2⟩
          show G0 _ _ _ _ _ _ _ _
          refine g_iret hX hF d_D_row_132 (by omega) (by omega) ?_
          have hr3 : r = (es, c, m + (sTp s).length % 2) := by
            rw [← q7]
            by_cases e : k = (sTp s).length
            · rw [e, List.drop_length, show (sTp s).length % 2 = 0 by omega]
              rfl
            · rw [drop_1 (k := k) (by omega), rowGo_1, show (sTp s).length % 2 = 1 by omega]
              rfl
          rw [opRow_ok hne (hr0.trans hr3)]
          refine ⟨rfl, h.nt (g := gEs (sG s) es) (u := []) (t := []) ⟨q1.fr ?_, q2, ActP.nil ?_⟩ rfl ⟨Nat.zero_le _, ?_, fun k hk => absurd hk (Nat.not_lt_zero _)⟩ (hnt.tr hf2.N.NT) hF2 ?_, (hnt.tr hf2.N.NT).D⟩
          · intro a h1 h2
            rw [hf2.1 a (by omega) (by omega), ← hw1, rI_sI_ne _ _ _ (by omega), rI_sI_ne _ _ _ (by omega), rI_sI_ne _ _ _ (by omega)]
          · rw [hf2.1 20 (by decide) (by decide), ← hw1, rI_sI, upd_eq, if_pos rfl]
          · rw [hf2.1 26 (by decide) (by decide), ← hw1, rI_sI_ne _ _ _ (by decide), rI_sI_ne _ _ _ (by decide), rI_sI, upd_eq, if_pos rfl]
            rfl
          · rw [hf2.2.1 14 (by decide), ← hw1, rI_sI_ne _ _ _ (by decide), rI_sI, upd_eq, if_pos rfl]
        · have hb1 := (hT.2.2 k (by omega)).2
          have hb2 := (hT.2.2 (k + 1) (by omega)).2
          refine g_aload0 hX d_D_row_45 ?_
          refine g_getF hX d_D_row_46 fl_D_10 (lv_0 _) ?_
          refine g_aload1 hX d_D_row_49 ?_
          refine g_getF hX d_D_row_50 fl_D_181 (lv_26 _) ?_
          refine g_iload4 hX d_D_row_53 ?_
          refine g_iald hX d_D_row_55 (lv_27 _) rfl (by omega) ?_
          refine g_topi (show rI wk 27 k = nI (gA (sTp s) k) by rw [q3.1 27 (by omega)]; exact (hT.2.2 _ (by omega)).1) ?_
          refine g_aload1 hX d_D_row_56 ?_
          refine g_getF hX d_D_row_57 fl_D_181 (lv_26 _) ?_
          refine g_iload4 hX d_D_row_60 ?_
          refine g_iconst (v := nI 1) hX d_D_row_62 rfl ?_
          refine g_iaddN hX d_D_row_63 ?_
          refine g_iald hX d_D_row_64 (lv_27 _) rfl (by omega) ?_
          refine g_topi (show rI wk 27 (k + 1) = nI (gA (sTp s) (k + 1)) by rw [q3.1 27 (by omega)]; exact (hT.2.2 _ (by omega)).1) ?_
          refine g_callV (As := [_, _]) hX hF.1 d_D_row_65 ml_D_184 cf_Bo_canJoin cv_Bo_canJoin rfl rfl (c_Bo_canJoin isBo1 q1 q2 hb1 hb2) (rcv_obj hX (lv_1 _) rfl rfl) (by omega) (by omega) (by omega) (Nat.le_of_ble_eq_true rfl) ?_
          refine ret_k ?_
          refine g_ifB_eq hX d_D_row_68 (fun e68 => ?_) (fun e68 => ?_)
          · refine g_iincN3 hX d_D_row_101 rfl (by decide) ?_
            refine g_iincM4 (m := 2) hX d_D_row_104 rfl rfl (by decide) ?_
            refine g_goto hX d_D_row_107 ?_
            have hr : rowGo (gN (sG s)) ((sTp s).drop (k + 2)) (es, c, m + 1) = r := by
              rw [← q7, drop_2 (k := k) (by omega), rowGo_n (N := gN (sG s)) (es := es) e68]
            rw [show m + (sTp s).length % 2 + 1 = m + 1 + (sTp s).length % 2 by omega]
            exact ih (k + 2) c (m + 1) es _ (by omega) q1 q2 q3 (by omega) (by omega) (by omega) hr
          · refine g_aload0 hX d_D_row_71 ?_
            refine g_getF hX d_D_row_72 fl_D_10 (lv_0 _) ?_
            refine g_aload1 hX d_D_row_75 ?_
            refine g_getF hX d_D_row_76 fl_D_181 (lv_26 _) ?_
            refine g_iload4 hX d_D_row_79 ?_
            refine g_iald hX d_D_row_81 (lv_27 _) rfl (by omega) ?_
            refine g_topi (show rI wk 27 k = nI (gA (sTp s) k) by rw [q3.1 27 (by omega)]; exact (hT.2.2 _ (by omega)).1) ?_
            refine g_aload1 hX d_D_row_82 ?_
            refine g_getF hX d_D_row_83 fl_D_181 (lv_26 _) ?_
            refine g_iload4 hX d_D_row_86 ?_
            refine g_iconst (v := nI 1) hX d_D_row_88 rfl ?_
            refine g_iaddN hX d_D_row_89 ?_
            refine g_iald hX d_D_row_90 (lv_27 _) rfl (by omega) ?_
            refine g_topi (show rI wk 27 (k + 1) = nI (gA (sTp s) (k + 1)) by rw [q3.1 27 (by omega)]; exact (hT.2.2 _ (by omega)).1) ?_
            refine g_callV (As := [_, _]) hX hF.1 d_D_row_91 ml_D_188 cf_Bo_toggleEdge cv_Bo_toggleEdge rfl rfl (c_Bo_toggleEdge isBo1 q1 q2 e68.1 e68.2.1 e68.2.2.1) (rcv_obj hX (lv_1 _) rfl rfl) (by omega) (by omega) (by omega) (Nat.le_of_ble_eq_true rfl) ?_
            rintro rr w1 ⟨hB1, hf1, hrr⟩
            obtain ⟨z, rfl, -⟩ := hrr.ex
            show G0 _ _ _ _ _ _ _ _
            refine g_pop hX d_D_row_94 rfl ?_
            refine g_iincN2 hX d_D_row_95 rfl (by decide) ?_
            refine g_goto hX d_D_row_98 ?_
            refine g_iincM4 (m := 2) hX d_D_row_104 rfl rfl (by decide) ?_
            refine g_goto hX d_D_row_107 ?_
            have hr : rowGo (gN (sG s)) ((sTp s).drop (k + 2)) (es ++ [codeOf (gA (sTp s) k) (gA (sTp s) (k + 1))], c + 1, m) = r := by
              rw [← q7, drop_2 (k := k) (by omega), rowGo_y (N := gN (sG s)) (es := es) e68]
            have hwj := q2.join e68.1 e68.2.1 e68.2.2.1
            rw [gEs_tog, tog_new (es := es) e68.2.2.2] at hB1 hwj
            exact ih (k + 2) (c + 1) m _ _ (by omega) hB1 hwj (q3.tr hf1) (by omega) (by omega) (by omega) hr
    exact lp
  refine g_aload0 hX d_D_row_0 ?_
  refine g_getF hX d_D_row_1 fl_D_33 (lv_0 _) ?_
  refine g_getF hX d_D_row_4 fl_D_168 (lv_25 _) ?_
  refine g_astore1 hX d_D_row_7 rfl (by decide) ?_
  refine g_aload1 hX d_D_row_8 ?_
  refine g_getI hX d_D_row_9 fl_D_172 (lv_26 _) ?_
  refine g_topi hT.2.1 ?_
  refine g_if_ne hX d_D_row_12 (fun e12 => ?_) (fun e12 => ?_)
  · have hne : ¬ sTp s = [] := fun z => e12 (by rw [z]; rfl)
    refine g_iconst (v := nI 0) hX d_D_row_22 rfl ?_
    refine g_istore2 hX d_D_row_23 rfl (by decide) ?_
    refine g_aload1 hX d_D_row_24 ?_
    refine g_getI hX d_D_row_25 fl_D_172 (lv_26 _) ?_
    refine g_topi hT.2.1 ?_
    refine g_iconst (v := nI 2) hX d_D_row_28 rfl ?_
    refine g_iremN hX d_D_row_29 (by omega) (by decide) (by decide) ?_
    refine g_istore3 hX d_D_row_30 rfl (by decide) ?_
    refine g_iconst (v := nI 0) hX d_D_row_31 rfl ?_
    refine g_istore4 hX d_D_row_32 rfl (by decide) ?_
    rw [← Nat.zero_add ((sTp s).length % 2)]
    exact hlp hne ((sTp s).length + 3) 0 0 0 (gE (sG s)) w (by omega) hR hW (FrBo.rf 1 w) (Nat.le_refl _) (Nat.zero_le _) rfl hr0
  · have hne : sTp s = [] := List.length_eq_zero_iff.mp (nI_inj (by omega) (by decide) e12)
    refine g_aload0 hX d_D_row_15 ?_
    refine g_bipush (v := -6) hX d_D_row_16 rfl ?_
    refine g_callV (As := [_]) hX hF.1 d_D_row_18 ml_D_91 cf_D_refuse cv_D_refuse rfl rfl (c_D_refuse6 hRF) (rcv_obj hX (lv_0 _) rfl rfl) (by omega) (by omega) (by omega) (Nat.le_of_ble_eq_true rfl) ?_
    rintro _ w2 ⟨rfl, hF2, hf2⟩
    show G0 _ _ _ _ _ _ _ _
    refine g_iret hX hF d_D_row_21 (by omega) (by omega) ?_
    rw [opRow_no hne]
    exact ⟨rfl, h.no hf2 hF2, hf2.N.D⟩
