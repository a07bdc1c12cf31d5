def m_M_areAlike : MR := (⟨"SubgraphDeskModel", "areAlike", "(II)Z"⟩, prog_14_method_110_code, 5, (some .boolean))
theorem cf_M_areAlike : CF m_M_areAlike 2 := ⟨gd 2134 (by decide +kernel) rfl, gd 151 (by decide +kernel) rfl, by decide +kernel, by decide, by decide +kernel⟩
theorem cv_M_areAlike : CV m_M_areAlike := ⟨gd 2133 (by decide +kernel) rfl, gd 125 (by decide +kernel) rfl⟩
def m_M_edgesTo : MR := (⟨"SubgraphDeskModel", "edgesTo", "(II)I"⟩, prog_14_method_109_code, 5, (some .int))
theorem cf_M_edgesTo : CF m_M_edgesTo 2 := ⟨gd 2138 (by decide +kernel) rfl, gd 151 (by decide +kernel) rfl, by decide +kernel, by decide, by decide +kernel⟩
theorem cv_M_edgesTo : CV m_M_edgesTo := ⟨gd 2137 (by decide +kernel) rfl, gd 126 (by decide +kernel) rfl⟩
def m_M_kind : MR := (⟨"SubgraphDeskModel", "kind", "(II)I"⟩, prog_14_method_112_code, 4, (some .int))
theorem cf_M_kind : CF m_M_kind 2 := ⟨gd 2125 (by decide +kernel) rfl, gd 151 (by decide +kernel) rfl, by decide +kernel, by decide, by decide +kernel⟩
theorem cv_M_kind : CV m_M_kind := ⟨gd 2123 (by decide +kernel) rfl, gd 2124 (by decide +kernel) rfl⟩
def m_M_layKinds : MR := (⟨"SubgraphDeskModel", "layKinds", "(I)I"⟩, prog_14_method_111_code, 6, (some .int))
theorem cf_M_layKinds : CF m_M_layKinds 1 := ⟨gd 2130 (by decide +kernel) rfl, gd 151 (by decide +kernel) rfl, by decide +kernel, by decide, by decide +kernel⟩
theorem cv_M_layKinds : CV m_M_layKinds := ⟨gd 2129 (by decide +kernel) rfl, gd 124 (by decide +kernel) rfl⟩
theorem d_M_areAlike_0 : Dc prog_14_method_110_code 0 (.aload_n 0) 1 1 := ⟨by decide +kernel, rfl⟩
theorem d_M_areAlike_1 : Dc prog_14_method_110_code 1 (.getfield 132) 3 4 := ⟨by decide +kernel, rfl⟩
theorem d_M_areAlike_4 : Dc prog_14_method_110_code 4 (.iload_n 1) 1 5 := ⟨by decide +kernel, rfl⟩
theorem d_M_areAlike_5 : Dc prog_14_method_110_code 5 (.iaload) 1 6 := ⟨by decide +kernel, rfl⟩
theorem d_M_areAlike_6 : Dc prog_14_method_110_code 6 (.aload_n 0) 1 7 := ⟨by decide +kernel, rfl⟩
theorem d_M_areAlike_7 : Dc prog_14_method_110_code 7 (.getfield 132) 3 10 := ⟨by decide +kernel, rfl⟩
theorem d_M_areAlike_10 : Dc prog_14_method_110_code 10 (.iload_n 2) 1 11 := ⟨by decide +kernel, rfl⟩
theorem d_M_areAlike_11 : Dc prog_14_method_110_code 11 (.iaload) 1 12 := ⟨by decide +kernel, rfl⟩
theorem d_M_areAlike_12 : Dj prog_14_method_110_code 12 (.if_icmp .ne 7) 15 7 19 := ⟨by decide +kernel, rfl, rfl⟩
theorem d_M_areAlike_15 : Dc prog_14_method_110_code 15 (.iconst 1) 1 16 := ⟨by decide +kernel, rfl⟩
theorem d_M_areAlike_16 : Dj prog_14_method_110_code 16 (.goto 4) 19 4 20 := ⟨by decide +kernel, rfl, rfl⟩
theorem d_M_areAlike_19 : Dc prog_14_method_110_code 19 (.iconst 0) 1 20 := ⟨by decide +kernel, rfl⟩
theorem d_M_areAlike_20 : Dc prog_14_method_110_code 20 (.istore_n 3) 1 21 := ⟨by decide +kernel, rfl⟩
theorem d_M_areAlike_21 : Dc prog_14_method_110_code 21 (.iconst 0) 1 22 := ⟨by decide +kernel, rfl⟩
theorem d_M_areAlike_22 : Dc prog_14_method_110_code 22 (.istore 4) 2 24 := ⟨by decide +kernel, rfl⟩
theorem d_M_areAlike_24 : Dc prog_14_method_110_code 24 (.iload 4) 2 26 := ⟨by decide +kernel, rfl⟩
theorem d_M_areAlike_26 : Dc prog_14_method_110_code 26 (.bipush 12) 2 28 := ⟨by decide +kernel, rfl⟩
theorem d_M_areAlike_28 : Dj prog_14_method_110_code 28 (.if_icmp .ge 36) 31 36 64 := ⟨by decide +kernel, rfl, rfl⟩
theorem d_M_areAlike_31 : Dc prog_14_method_110_code 31 (.iload_n 3) 1 32 := ⟨by decide +kernel, rfl⟩
theorem d_M_areAlike_32 : Dj prog_14_method_110_code 32 (.ifCond .eq 32) 35 32 64 := ⟨by decide +kernel, rfl, rfl⟩
theorem d_M_areAlike_35 : Dc prog_14_method_110_code 35 (.aload_n 0) 1 36 := ⟨by decide +kernel, rfl⟩
theorem d_M_areAlike_36 : Dc prog_14_method_110_code 36 (.iload_n 1) 1 37 := ⟨by decide +kernel, rfl⟩
theorem d_M_areAlike_37 : Dc prog_14_method_110_code 37 (.iload 4) 2 39 := ⟨by decide +kernel, rfl⟩
theorem d_M_areAlike_39 : Dc prog_14_method_110_code 39 (.invokevirtual 536) 3 42 := ⟨by decide +kernel, rfl⟩
theorem d_M_areAlike_42 : Dc prog_14_method_110_code 42 (.aload_n 0) 1 43 := ⟨by decide +kernel, rfl⟩
theorem d_M_areAlike_43 : Dc prog_14_method_110_code 43 (.iload_n 2) 1 44 := ⟨by decide +kernel, rfl⟩
theorem d_M_areAlike_44 : Dc prog_14_method_110_code 44 (.iload 4) 2 46 := ⟨by decide +kernel, rfl⟩
theorem d_M_areAlike_46 : Dc prog_14_method_110_code 46 (.invokevirtual 536) 3 49 := ⟨by decide +kernel, rfl⟩
theorem d_M_areAlike_49 : Dj prog_14_method_110_code 49 (.if_icmp .ne 7) 52 7 56 := ⟨by decide +kernel, rfl, rfl⟩
theorem d_M_areAlike_52 : Dc prog_14_method_110_code 52 (.iconst 1) 1 53 := ⟨by decide +kernel, rfl⟩
theorem d_M_areAlike_53 : Dj prog_14_method_110_code 53 (.goto 4) 56 4 57 := ⟨by decide +kernel, rfl, rfl⟩
theorem d_M_areAlike_56 : Dc prog_14_method_110_code 56 (.iconst 0) 1 57 := ⟨by decide +kernel, rfl⟩
theorem d_M_areAlike_57 : Dc prog_14_method_110_code 57 (.istore_n 3) 1 58 := ⟨by decide +kernel, rfl⟩
theorem d_M_areAlike_58 : Dc prog_14_method_110_code 58 (.iinc 4 1) 3 61 := ⟨by decide +kernel, rfl⟩
theorem d_M_areAlike_61 : Dj prog_14_method_110_code 61 (.goto (-37)) 64 (-37) 24 := ⟨by decide +kernel, rfl, rfl⟩
theorem d_M_areAlike_64 : Dc prog_14_method_110_code 64 (.iload_n 3) 1 65 := ⟨by decide +kernel, rfl⟩
theorem d_M_areAlike_65 : Dc prog_14_method_110_code 65 (.ireturn) 1 66 := ⟨by decide +kernel, rfl⟩
theorem d_M_edgesTo_0 : Dc prog_14_method_109_code 0 (.iconst 0) 1 1 := ⟨by decide +kernel, rfl⟩
theorem d_M_edgesTo_1 : Dc prog_14_method_109_code 1 (.istore_n 3) 1 2 := ⟨by decide +kernel, rfl⟩
theorem d_M_edgesTo_2 : Dc prog_14_method_109_code 2 (.iconst 0) 1 3 := ⟨by decide +kernel, rfl⟩
theorem d_M_edgesTo_3 : Dc prog_14_method_109_code 3 (.istore 4) 2 5 := ⟨by decide +kernel, rfl⟩
theorem d_M_edgesTo_5 : Dc prog_14_method_109_code 5 (.iload 4) 2 7 := ⟨by decide +kernel, rfl⟩
theorem d_M_edgesTo_7 : Dc prog_14_method_109_code 7 (.aload_n 0) 1 8 := ⟨by decide +kernel, rfl⟩
theorem d_M_edgesTo_8 : Dc prog_14_method_109_code 8 (.getfield 13) 3 11 := ⟨by decide +kernel, rfl⟩
theorem d_M_edgesTo_11 : Dc prog_14_method_109_code 11 (.iconst 0) 1 12 := ⟨by decide +kernel, rfl⟩
theorem d_M_edgesTo_12 : Dc prog_14_method_109_code 12 (.iaload) 1 13 := ⟨by decide +kernel, rfl⟩
theorem d_M_edgesTo_13 : Dj prog_14_method_109_code 13 (.if_icmp .ge 42) 16 42 55 := ⟨by decide +kernel, rfl, rfl⟩
theorem d_M_edgesTo_16 : Dc prog_14_method_109_code 16 (.iload_n 3) 1 17 := ⟨by decide +kernel, rfl⟩
theorem d_M_edgesTo_17 : Dc prog_14_method_109_code 17 (.aload_n 0) 1 18 := ⟨by decide +kernel, rfl⟩
theorem d_M_edgesTo_18 : Dc prog_14_method_109_code 18 (.getfield 102) 3 21 := ⟨by decide +kernel, rfl⟩
theorem d_M_edgesTo_21 : Dc prog_14_method_109_code 21 (.iload_n 1) 1 22 := ⟨by decide +kernel, rfl⟩
theorem d_M_edgesTo_22 : Dc prog_14_method_109_code 22 (.iaload) 1 23 := ⟨by decide +kernel, rfl⟩
theorem d_M_edgesTo_23 : Dc prog_14_method_109_code 23 (.iload 4) 2 25 := ⟨by decide +kernel, rfl⟩
theorem d_M_edgesTo_25 : Dc prog_14_method_109_code 25 (.invokestatic 468) 3 28 := ⟨by decide +kernel, rfl⟩
theorem d_M_edgesTo_28 : Dj prog_14_method_109_code 28 (.ifCond .eq 18) 31 18 46 := ⟨by decide +kernel, rfl, rfl⟩
theorem d_M_edgesTo_31 : Dc prog_14_method_109_code 31 (.aload_n 0) 1 32 := ⟨by decide +kernel, rfl⟩
theorem d_M_edgesTo_32 : Dc prog_14_method_109_code 32 (.getfield 132) 3 35 := ⟨by decide +kernel, rfl⟩
theorem d_M_edgesTo_35 : Dc prog_14_method_109_code 35 (.iload 4) 2 37 := ⟨by decide +kernel, rfl⟩
theorem d_M_edgesTo_37 : Dc prog_14_method_109_code 37 (.iaload) 1 38 := ⟨by decide +kernel, rfl⟩
theorem d_M_edgesTo_38 : Dc prog_14_method_109_code 38 (.iload_n 2) 1 39 := ⟨by decide +kernel, rfl⟩
theorem d_M_edgesTo_39 : Dj prog_14_method_109_code 39 (.if_icmp .ne 7) 42 7 46 := ⟨by decide +kernel, rfl, rfl⟩
theorem d_M_edgesTo_42 : Dc prog_14_method_109_code 42 (.iconst 1) 1 43 := ⟨by decide +kernel, rfl⟩
theorem d_M_edgesTo_43 : Dj prog_14_method_109_code 43 (.goto 4) 46 4 47 := ⟨by decide +kernel, rfl, rfl⟩
theorem d_M_edgesTo_46 : Dc prog_14_method_109_code 46 (.iconst 0) 1 47 := ⟨by decide +kernel, rfl⟩
theorem d_M_edgesTo_47 : Dc prog_14_method_109_code 47 (.iadd) 1 48 := ⟨by decide +kernel, rfl⟩
theorem d_M_edgesTo_48 : Dc prog_14_method_109_code 48 (.istore_n 3) 1 49 := ⟨by decide +kernel, rfl⟩
theorem d_M_edgesTo_49 : Dc prog_14_method_109_code 49 (.iinc 4 1) 3 52 := ⟨by decide +kernel, rfl⟩
theorem d_M_edgesTo_52 : Dj prog_14_method_109_code 52 (.goto (-47)) 55 (-47) 5 := ⟨by decide +kernel, rfl, rfl⟩
theorem d_M_edgesTo_55 : Dc prog_14_method_109_code 55 (.iload_n 3) 1 56 := ⟨by decide +kernel, rfl⟩
theorem d_M_edgesTo_56 : Dc prog_14_method_109_code 56 (.ireturn) 1 57 := ⟨by decide +kernel, rfl⟩
theorem d_M_kind_0 : Dc prog_14_method_112_code 0 (.aload_n 0) 1 1 := ⟨by decide +kernel, rfl⟩
theorem d_M_kind_1 : Dc prog_14_method_112_code 1 (.iconst 0) 1 2 := ⟨by decide +kernel, rfl⟩
theorem d_M_kind_2 : Dc prog_14_method_112_code 2 (.putfield 170) 3 5 := ⟨by decide +kernel, rfl⟩
theorem d_M_kind_5 : Dc prog_14_method_112_code 5 (.iload_n 1) 1 6 := ⟨by decide +kernel, rfl⟩
theorem d_M_kind_6 : Dc prog_14_method_112_code 6 (.iconst (-1)) 1 7 := ⟨by decide +kernel, rfl⟩
theorem d_M_kind_7 : Dj prog_14_method_112_code 7 (.if_icmp .eq 11) 10 11 18 := ⟨by decide +kernel, rfl, rfl⟩
theorem d_M_kind_10 : Dc prog_14_method_112_code 10 (.aload_n 0) 1 11 := ⟨by decide +kernel, rfl⟩
theorem d_M_kind_11 : Dc prog_14_method_112_code 11 (.iload_n 1) 1 12 := ⟨by decide +kernel, rfl⟩
theorem d_M_kind_12 : Dc prog_14_method_112_code 12 (.invokevirtual 214) 3 15 := ⟨by decide +kernel, rfl⟩
theorem d_M_kind_15 : Dj prog_14_method_112_code 15 (.ifCond .eq 15) 18 15 30 := ⟨by decide +kernel, rfl, rfl⟩
theorem d_M_kind_18 : Dc prog_14_method_112_code 18 (.iload_n 2) 1 19 := ⟨by decide +kernel, rfl⟩
theorem d_M_kind_19 : Dc prog_14_method_112_code 19 (.i2l) 1 20 := ⟨by decide +kernel, rfl⟩
theorem d_M_kind_20 : Dc prog_14_method_112_code 20 (.lconst 0) 1 21 := ⟨by decide +kernel, rfl⟩
theorem d_M_kind_21 : Dc prog_14_method_112_code 21 (.ldc2_w 542) 3 24 := ⟨by decide +kernel, rfl⟩
theorem d_M_kind_24 : Dc prog_14_method_112_code 24 (.invokestatic 190) 3 27 := ⟨by decide +kernel, rfl⟩
theorem d_M_kind_27 : Dj prog_14_method_112_code 27 (.ifCond .ne 5) 30 5 32 := ⟨by decide +kernel, rfl, rfl⟩
theorem d_M_kind_30 : Dc prog_14_method_112_code 30 (.iconst (-1)) 1 31 := ⟨by decide +kernel, rfl⟩
theorem d_M_kind_31 : Dc prog_14_method_112_code 31 (.ireturn) 1 32 := ⟨by decide +kernel, rfl⟩
theorem d_M_kind_32 : Dc prog_14_method_112_code 32 (.aload_n 0) 1 33 := ⟨by decide +kernel, rfl⟩
theorem d_M_kind_33 : Dc prog_14_method_112_code 33 (.iload_n 2) 1 34 := ⟨by decide +kernel, rfl⟩
theorem d_M_kind_34 : Dc prog_14_method_112_code 34 (.invokevirtual 544) 3 37 := ⟨by decide +kernel, rfl⟩
theorem d_M_kind_37 : Dc prog_14_method_112_code 37 (.istore_n 3) 1 38 := ⟨by decide +kernel, rfl⟩
theorem d_M_kind_38 : Dc prog_14_method_112_code 38 (.iload_n 1) 1 39 := ⟨by decide +kernel, rfl⟩
theorem d_M_kind_39 : Dc prog_14_method_112_code 39 (.iconst (-1)) 1 40 := ⟨by decide +kernel, rfl⟩
theorem d_M_kind_40 : Dj prog_14_method_112_code 40 (.if_icmp .ne 7) 43 7 47 := ⟨by decide +kernel, rfl, rfl⟩
theorem d_M_kind_43 : Dc prog_14_method_112_code 43 (.iload_n 3) 1 44 := ⟨by decide +kernel, rfl⟩
theorem d_M_kind_44 : Dj prog_14_method_112_code 44 (.goto 9) 47 9 53 := ⟨by decide +kernel, rfl, rfl⟩
theorem d_M_kind_47 : Dc prog_14_method_112_code 47 (.aload_n 0) 1 48 := ⟨by decide +kernel, rfl⟩
theorem d_M_kind_48 : Dc prog_14_method_112_code 48 (.getfield 132) 3 51 := ⟨by decide +kernel, rfl⟩
theorem d_M_kind_51 : Dc prog_14_method_112_code 51 (.iload_n 1) 1 52 := ⟨by decide +kernel, rfl⟩
theorem d_M_kind_52 : Dc prog_14_method_112_code 52 (.iaload) 1 53 := ⟨by decide +kernel, rfl⟩
theorem d_M_kind_53 : Dc prog_14_method_112_code 53 (.ireturn) 1 54 := ⟨by decide +kernel, rfl⟩
theorem d_M_layKinds_0 : Dc prog_14_method_111_code 0 (.aload_n 0) 1 1 := ⟨by decide +kernel, rfl⟩
theorem d_M_layKinds_1 : Dc prog_14_method_111_code 1 (.invokevirtual 462) 3 4 := ⟨by decide +kernel, rfl⟩
theorem d_M_layKinds_4 : Dc prog_14_method_111_code 4 (.iconst 0) 1 5 := ⟨by decide +kernel, rfl⟩
theorem d_M_layKinds_5 : Dc prog_14_method_111_code 5 (.istore_n 2) 1 6 := ⟨by decide +kernel, rfl⟩
theorem d_M_layKinds_6 : Dc prog_14_method_111_code 6 (.iconst 0) 1 7 := ⟨by decide +kernel, rfl⟩
theorem d_M_layKinds_7 : Dc prog_14_method_111_code 7 (.istore_n 3) 1 8 := ⟨by decide +kernel, rfl⟩
theorem d_M_layKinds_8 : Dc prog_14_method_111_code 8 (.iload_n 3) 1 9 := ⟨by decide +kernel, rfl⟩
theorem d_M_layKinds_9 : Dc prog_14_method_111_code 9 (.aload_n 0) 1 10 := ⟨by decide +kernel, rfl⟩
theorem d_M_layKinds_10 : Dc prog_14_method_111_code 10 (.getfield 13) 3 13 := ⟨by decide +kernel, rfl⟩
theorem d_M_layKinds_13 : Dc prog_14_method_111_code 13 (.iconst 0) 1 14 := ⟨by decide +kernel, rfl⟩
theorem d_M_layKinds_14 : Dc prog_14_method_111_code 14 (.iaload) 1 15 := ⟨by decide +kernel, rfl⟩
theorem d_M_layKinds_15 : Dj prog_14_method_111_code 15 (.if_icmp .ge 24) 18 24 39 := ⟨by decide +kernel, rfl, rfl⟩
theorem d_M_layKinds_18 : Dc prog_14_method_111_code 18 (.aload_n 0) 1 19 := ⟨by decide +kernel, rfl⟩
theorem d_M_layKinds_19 : Dc prog_14_method_111_code 19 (.getfield 132) 3 22 := ⟨by decide +kernel, rfl⟩
theorem d_M_layKinds_22 : Dc prog_14_method_111_code 22 (.iload_n 3) 1 23 := ⟨by decide +kernel, rfl⟩
theorem d_M_layKinds_23 : Dc prog_14_method_111_code 23 (.aload_n 0) 1 24 := ⟨by decide +kernel, rfl⟩
theorem d_M_layKinds_24 : Dc prog_14_method_111_code 24 (.getfield 13) 3 27 := ⟨by decide +kernel, rfl⟩
theorem d_M_layKinds_27 : Dc prog_14_method_111_code 27 (.bipush 9) 2 29 := ⟨by decide +kernel, rfl⟩
theorem d_M_layKinds_29 : Dc prog_14_method_111_code 29 (.iload_n 3) 1 30 := ⟨by decide +kernel, rfl⟩
theorem d_M_layKinds_30 : Dc prog_14_method_111_code 30 (.iadd) 1 31 := ⟨by decide +kernel, rfl⟩
theorem d_M_layKinds_31 : Dc prog_14_method_111_code 31 (.iaload) 1 32 := ⟨by decide +kernel, rfl⟩
theorem d_M_layKinds_32 : Dc prog_14_method_111_code 32 (.iastore) 1 33 := ⟨by decide +kernel, rfl⟩
theorem d_M_layKinds_33 : Dc prog_14_method_111_code 33 (.iinc 3 1) 3 36 := ⟨by decide +kernel, rfl⟩
theorem d_M_layKinds_36 : Dj prog_14_method_111_code 36 (.goto (-28)) 39 (-28) 8 := ⟨by decide +kernel, rfl, rfl⟩
theorem d_M_layKinds_39 : Dc prog_14_method_111_code 39 (.iconst 0) 1 40 := ⟨by decide +kernel, rfl⟩
theorem d_M_layKinds_40 : Dc prog_14_method_111_code 40 (.istore_n 3) 1 41 := ⟨by decide +kernel, rfl⟩
theorem d_M_layKinds_41 : Dc prog_14_method_111_code 41 (.iload_n 3) 1 42 := ⟨by decide +kernel, rfl⟩
theorem d_M_layKinds_42 : Dc prog_14_method_111_code 42 (.iload_n 1) 1 43 := ⟨by decide +kernel, rfl⟩
theorem d_M_layKinds_43 : Dj prog_14_method_111_code 43 (.if_icmp .gt 170) 46 170 213 := ⟨by decide +kernel, rfl, rfl⟩
theorem d_M_layKinds_46 : Dc prog_14_method_111_code 46 (.iconst 0) 1 47 := ⟨by decide +kernel, rfl⟩
theorem d_M_layKinds_47 : Dc prog_14_method_111_code 47 (.istore_n 2) 1 48 := ⟨by decide +kernel, rfl⟩
theorem d_M_layKinds_48 : Dc prog_14_method_111_code 48 (.iconst 0) 1 49 := ⟨by decide +kernel, rfl⟩
theorem d_M_layKinds_49 : Dc prog_14_method_111_code 49 (.istore 4) 2 51 := ⟨by decide +kernel, rfl⟩
theorem d_M_layKinds_51 : Dc prog_14_method_111_code 51 (.iload 4) 2 53 := ⟨by decide +kernel, rfl⟩
theorem d_M_layKinds_53 : Dc prog_14_method_111_code 53 (.aload_n 0) 1 54 := ⟨by decide +kernel, rfl⟩
theorem d_M_layKinds_54 : Dc prog_14_method_111_code 54 (.getfield 13) 3 57 := ⟨by decide +kernel, rfl⟩
theorem d_M_layKinds_57 : Dc prog_14_method_111_code 57 (.iconst 0) 1 58 := ⟨by decide +kernel, rfl⟩
theorem d_M_layKinds_58 : Dc prog_14_method_111_code 58 (.iaload) 1 59 := ⟨by decide +kernel, rfl⟩
theorem d_M_layKinds_59 : Dj prog_14_method_111_code 59 (.if_icmp .ge 114) 62 114 173 := ⟨by decide +kernel, rfl, rfl⟩
theorem d_M_layKinds_62 : Dc prog_14_method_111_code 62 (.aload_n 0) 1 63 := ⟨by decide +kernel, rfl⟩
theorem d_M_layKinds_63 : Dc prog_14_method_111_code 63 (.getfield 135) 3 66 := ⟨by decide +kernel, rfl⟩
theorem d_M_layKinds_66 : Dc prog_14_method_111_code 66 (.iload 4) 2 68 := ⟨by decide +kernel, rfl⟩
theorem d_M_layKinds_68 : Dc prog_14_method_111_code 68 (.iconst (-1)) 1 69 := ⟨by decide +kernel, rfl⟩
theorem d_M_layKinds_69 : Dc prog_14_method_111_code 69 (.iastore) 1 70 := ⟨by decide +kernel, rfl⟩
theorem d_M_layKinds_70 : Dc prog_14_method_111_code 70 (.iconst 0) 1 71 := ⟨by decide +kernel, rfl⟩
theorem d_M_layKinds_71 : Dc prog_14_method_111_code 71 (.istore 5) 2 73 := ⟨by decide +kernel, rfl⟩
theorem d_M_layKinds_73 : Dc prog_14_method_111_code 73 (.iload 5) 2 75 := ⟨by decide +kernel, rfl⟩
theorem d_M_layKinds_75 : Dc prog_14_method_111_code 75 (.iload 4) 2 77 := ⟨by decide +kernel, rfl⟩
theorem d_M_layKinds_77 : Dj prog_14_method_111_code 77 (.if_icmp .ge 68) 80 68 145 := ⟨by decide +kernel, rfl, rfl⟩
theorem d_M_layKinds_80 : Dc prog_14_method_111_code 80 (.aload_n 0) 1 81 := ⟨by decide +kernel, rfl⟩
theorem d_M_layKinds_81 : Dc prog_14_method_111_code 81 (.getfield 135) 3 84 := ⟨by decide +kernel, rfl⟩
theorem d_M_layKinds_84 : Dc prog_14_method_111_code 84 (.iload 4) 2 86 := ⟨by decide +kernel, rfl⟩
theorem d_M_layKinds_86 : Dc prog_14_method_111_code 86 (.iload_n 3) 1 87 := ⟨by decide +kernel, rfl⟩
theorem d_M_layKinds_87 : Dj prog_14_method_111_code 87 (.ifCond .ne 23) 90 23 110 := ⟨by decide +kernel, rfl, rfl⟩
theorem d_M_layKinds_90 : Dc prog_14_method_111_code 90 (.aload_n 0) 1 91 := ⟨by decide +kernel, rfl⟩
theorem d_M_layKinds_91 : Dc prog_14_method_111_code 91 (.getfield 132) 3 94 := ⟨by decide +kernel, rfl⟩
theorem d_M_layKinds_94 : Dc prog_14_method_111_code 94 (.iload 4) 2 96 := ⟨by decide +kernel, rfl⟩
theorem d_M_layKinds_96 : Dc prog_14_method_111_code 96 (.iaload) 1 97 := ⟨by decide +kernel, rfl⟩
theorem d_M_layKinds_97 : Dc prog_14_method_111_code 97 (.aload_n 0) 1 98 := ⟨by decide +kernel, rfl⟩
theorem d_M_layKinds_98 : Dc prog_14_method_111_code 98 (.getfield 132) 3 101 := ⟨by decide +kernel, rfl⟩
theorem d_M_layKinds_101 : Dc prog_14_method_111_code 101 (.iload 5) 2 103 := ⟨by decide +kernel, rfl⟩
theorem d_M_layKinds_103 : Dc prog_14_method_111_code 103 (.iaload) 1 104 := ⟨by decide +kernel, rfl⟩
theorem d_M_layKinds_104 : Dj prog_14_method_111_code 104 (.if_icmp .ne 27) 107 27 131 := ⟨by decide +kernel, rfl, rfl⟩
theorem d_M_layKinds_107 : Dj prog_14_method_111_code 107 (.goto 14) 110 14 121 := ⟨by decide +kernel, rfl, rfl⟩
theorem d_M_layKinds_110 : Dc prog_14_method_111_code 110 (.aload_n 0) 1 111 := ⟨by decide +kernel, rfl⟩
theorem d_M_layKinds_111 : Dc prog_14_method_111_code 111 (.iload 4) 2 113 := ⟨by decide +kernel, rfl⟩
theorem d_M_layKinds_113 : Dc prog_14_method_111_code 113 (.iload 5) 2 115 := ⟨by decide +kernel, rfl⟩
theorem d_M_layKinds_115 : Dc prog_14_method_111_code 115 (.invokevirtual 539) 3 118 := ⟨by decide +kernel, rfl⟩
theorem d_M_layKinds_118 : Dj prog_14_method_111_code 118 (.ifCond .eq 13) 121 13 131 := ⟨by decide +kernel, rfl, rfl⟩
theorem d_M_layKinds_121 : Dc prog_14_method_111_code 121 (.aload_n 0) 1 122 := ⟨by decide +kernel, rfl⟩
theorem d_M_layKinds_122 : Dc prog_14_method_111_code 122 (.getfield 135) 3 125 := ⟨by decide +kernel, rfl⟩
theorem d_M_layKinds_125 : Dc prog_14_method_111_code 125 (.iload 5) 2 127 := ⟨by decide +kernel, rfl⟩
theorem d_M_layKinds_127 : Dc prog_14_method_111_code 127 (.iaload) 1 128 := ⟨by decide +kernel, rfl⟩
theorem d_M_layKinds_128 : Dj prog_14_method_111_code 128 (.goto 10) 131 10 138 := ⟨by decide +kernel, rfl, rfl⟩
theorem d_M_layKinds_131 : Dc prog_14_method_111_code 131 (.aload_n 0) 1 132 := ⟨by decide +kernel, rfl⟩
theorem d_M_layKinds_132 : Dc prog_14_method_111_code 132 (.getfield 135) 3 135 := ⟨by decide +kernel, rfl⟩
theorem d_M_layKinds_135 : Dc prog_14_method_111_code 135 (.iload 4) 2 137 := ⟨by decide +kernel, rfl⟩
theorem d_M_layKinds_137 : Dc prog_14_method_111_code 137 (.iaload) 1 138 := ⟨by decide +kernel, rfl⟩
theorem d_M_layKinds_138 : Dc prog_14_method_111_code 138 (.iastore) 1 139 := ⟨by decide +kernel, rfl⟩
theorem d_M_layKinds_139 : Dc prog_14_method_111_code 139 (.iinc 5 1) 3 142 := ⟨by decide +kernel, rfl⟩
theorem d_M_layKinds_142 : Dj prog_14_method_111_code 142 (.goto (-69)) 145 (-69) 73 := ⟨by decide +kernel, rfl, rfl⟩
theorem d_M_layKinds_145 : Dc prog_14_method_111_code 145 (.aload_n 0) 1 146 := ⟨by decide +kernel, rfl⟩
theorem d_M_layKinds_146 : Dc prog_14_method_111_code 146 (.getfield 135) 3 149 := ⟨by decide +kernel, rfl⟩
theorem d_M_layKinds_149 : Dc prog_14_method_111_code 149 (.iload 4) 2 151 := ⟨by decide +kernel, rfl⟩
theorem d_M_layKinds_151 : Dc prog_14_method_111_code 151 (.iaload) 1 152 := ⟨by decide +kernel, rfl⟩
theorem d_M_layKinds_152 : Dc prog_14_method_111_code 152 (.iconst (-1)) 1 153 := ⟨by decide +kernel, rfl⟩
theorem d_M_layKinds_153 : Dj prog_14_method_111_code 153 (.if_icmp .ne 14) 156 14 167 := ⟨by decide +kernel, rfl, rfl⟩
theorem d_M_layKinds_156 : Dc prog_14_method_111_code 156 (.aload_n 0) 1 157 := ⟨by decide +kernel, rfl⟩
theorem d_M_layKinds_157 : Dc prog_14_method_111_code 157 (.getfield 135) 3 160 := ⟨by decide +kernel, rfl⟩
theorem d_M_layKinds_160 : Dc prog_14_method_111_code 160 (.iload 4) 2 162 := ⟨by decide +kernel, rfl⟩
theorem d_M_layKinds_162 : Dc prog_14_method_111_code 162 (.iload_n 2) 1 163 := ⟨by decide +kernel, rfl⟩
theorem d_M_layKinds_163 : Dc prog_14_method_111_code 163 (.iastore) 1 164 := ⟨by decide +kernel, rfl⟩
theorem d_M_layKinds_164 : Dc prog_14_method_111_code 164 (.iinc 2 1) 3 167 := ⟨by decide +kernel, rfl⟩
theorem d_M_layKinds_167 : Dc prog_14_method_111_code 167 (.iinc 4 1) 3 170 := ⟨by decide +kernel, rfl⟩
theorem d_M_layKinds_170 : Dj prog_14_method_111_code 170 (.goto (-119)) 173 (-119) 51 := ⟨by decide +kernel, rfl, rfl⟩
theorem d_M_layKinds_173 : Dc prog_14_method_111_code 173 (.iconst 0) 1 174 := ⟨by decide +kernel, rfl⟩
theorem d_M_layKinds_174 : Dc prog_14_method_111_code 174 (.istore 4) 2 176 := ⟨by decide +kernel, rfl⟩
theorem d_M_layKinds_176 : Dc prog_14_method_111_code 176 (.iload 4) 2 178 := ⟨by decide +kernel, rfl⟩
theorem d_M_layKinds_178 : Dc prog_14_method_111_code 178 (.aload_n 0) 1 179 := ⟨by decide +kernel, rfl⟩
theorem d_M_layKinds_179 : Dc prog_14_method_111_code 179 (.getfield 13) 3 182 := ⟨by decide +kernel, rfl⟩
theorem d_M_layKinds_182 : Dc prog_14_method_111_code 182 (.iconst 0) 1 183 := ⟨by decide +kernel, rfl⟩
theorem d_M_layKinds_183 : Dc prog_14_method_111_code 183 (.iaload) 1 184 := ⟨by decide +kernel, rfl⟩
theorem d_M_layKinds_184 : Dj prog_14_method_111_code 184 (.if_icmp .ge 23) 187 23 207 := ⟨by decide +kernel, rfl, rfl⟩
theorem d_M_layKinds_187 : Dc prog_14_method_111_code 187 (.aload_n 0) 1 188 := ⟨by decide +kernel, rfl⟩
theorem d_M_layKinds_188 : Dc prog_14_method_111_code 188 (.getfield 132) 3 191 := ⟨by decide +kernel, rfl⟩
theorem d_M_layKinds_191 : Dc prog_14_method_111_code 191 (.iload 4) 2 193 := ⟨by decide +kernel, rfl⟩
theorem d_M_layKinds_193 : Dc prog_14_method_111_code 193 (.aload_n 0) 1 194 := ⟨by decide +kernel, rfl⟩
theorem d_M_layKinds_194 : Dc prog_14_method_111_code 194 (.getfield 135) 3 197 := ⟨by decide +kernel, rfl⟩
theorem d_M_layKinds_197 : Dc prog_14_method_111_code 197 (.iload 4) 2 199 := ⟨by decide +kernel, rfl⟩
theorem d_M_layKinds_199 : Dc prog_14_method_111_code 199 (.iaload) 1 200 := ⟨by decide +kernel, rfl⟩
theorem d_M_layKinds_200 : Dc prog_14_method_111_code 200 (.iastore) 1 201 := ⟨by decide +kernel, rfl⟩
theorem d_M_layKinds_201 : Dc prog_14_method_111_code 201 (.iinc 4 1) 3 204 := ⟨by decide +kernel, rfl⟩
theorem d_M_layKinds_204 : Dj prog_14_method_111_code 204 (.goto (-28)) 207 (-28) 176 := ⟨by decide +kernel, rfl, rfl⟩
theorem d_M_layKinds_207 : Dc prog_14_method_111_code 207 (.iinc 3 1) 3 210 := ⟨by decide +kernel, rfl⟩
theorem d_M_layKinds_210 : Dj prog_14_method_111_code 210 (.goto (-169)) 213 (-169) 41 := ⟨by decide +kernel, rfl, rfl⟩
theorem d_M_layKinds_213 : Dc prog_14_method_111_code 213 (.iload_n 2) 1 214 := ⟨by decide +kernel, rfl⟩
theorem d_M_layKinds_214 : Dc prog_14_method_111_code 214 (.ireturn) 1 215 := ⟨by decide +kernel, rfl⟩
theorem fl_M_132 : FL "SubgraphDeskModel" 132 12 55 true (.array .int) (3, 31) := ⟨R_M, F_M, 69, ty_M, rfl, rfl, in_M, tyok_M, nm_M, by decide, gd 1527 (by decide +kernel) rfl, rfl, rfl, rfl⟩
theorem fl_M_135 : FL "SubgraphDeskModel" 135 12 56 true (.array .int) (3, 32) := ⟨R_M, F_M, 69, ty_M, rfl, rfl, in_M, tyok_M, nm_M, by decide, gd 1528 (by decide +kernel) rfl, rfl, rfl, rfl⟩
theorem ml_M_536 : Cond.methodLink "SubgraphDeskModel" 536 m_M_edgesTo.1 ∈ lw_gd := gd 2135 (by decide +kernel) rfl
theorem ml_M_539 : Cond.methodLink "SubgraphDeskModel" 539 m_M_areAlike.1 ∈ lw_gd := gd 2131 (by decide +kernel) rfl
theorem ml_M_544 : Cond.methodLink "SubgraphDeskModel" 544 m_M_layKinds.1 ∈ lw_gd := gd 2127 (by decide +kernel) rfl
theorem k_M_542 : Cond.constantLong "SubgraphDeskModel" 542 (12) ∈ lw_gd := gd 2126 (by decide +kernel) rfl
/-! ===== kinds of nodes ===== -/
def edgN (g : GC) (kd : Nat → Nat) (a c : Nat) : Nat → Nat
  | 0 => 0
  | o + 1 => edgN g kd a c o + (if (nearB (gE g) a).testBit o = true ∧ kd o = c then 1 else 0)
def alikeK (g : GC) (kd : Nat → Nat) (a b : Nat) : Nat → Bool
  | 0 => decide (kd a = kd b)
  | c + 1 => alikeK g kd a b c && decide (edgN g kd a c (gN g) = edgN g kd b c (gN g))
def lastR (rel : Nat → Nat → Bool) (l : List Nat) (a : Nat) : Nat → Option Nat
  | 0 => none
  | b + 1 => if rel a b = true then some (gA l b) else lastR rel l a b
/-- numbers as they first come: of the first nodes, how many there are -/
def numL (rel : Nat → Nat → Bool) : Nat → List Nat × Nat
  | 0 => ([], 0)
  | a + 1 => match lastR rel (numL rel a).1 a a with
    | some x => ((numL rel a).1 ++ [x], (numL rel a).2)
    | none => ((numL rel a).1 ++ [(numL rel a).2], (numL rel a).2 + 1)
def kindG (g : GC) : Nat → List Nat × Nat
  | 0 => numL (fun a b => decide (gC g a = gC g b)) (gN g)
  | r + 1 => numL (fun a b => alikeK g (gA (kindG g r).1) a b 12) (gN g)
def ksrc (g : GC) : Nat → Nat → Nat
  | 0 => gC g
  | r + 1 => gA (kindG g r).1
def relK (g : GC) (r : Nat) (a b : Nat) : Bool := if r = 0 then decide (gC g a = gC g b) else alikeK g (ksrc g r) a b 12
theorem kindG_r (g : GC) : ∀ r, kindG g r = numL (relK g r) (gN g)
  | 0 => rfl
  | r + 1 => rfl
theorem num_some {rel : Nat → Nat → Bool} {a x : Nat} (h : lastR rel (numL rel a).1 a a = some x) : numL rel (a + 1) = ((numL rel a).1 ++ [x], (numL rel a).2) := by
  rw [numL, h]
theorem num_none {rel : Nat → Nat → Bool} {a : Nat} (h : lastR rel (numL rel a).1 a a = none) : numL rel (a + 1) = ((numL rel a).1 ++ [(numL rel a).2], (numL rel a).2 + 1) := by
  rw [numL, h]
theorem lastR_mem {rel : Nat → Nat → Bool} {l : List Nat} {a x : Nat} : ∀ b, b ≤ l.length → lastR rel l a b = some x → x ∈ l
  | 0, _, h => by cases h
  | b + 1, hb, h => by
    unfold lastR at h
    split at h
    · injection h with h
      rw [← h]; exact gA_mem (by omega)
    · exact lastR_mem b (by omega) h
theorem numL_ok (rel : Nat → Nat → Bool) : ∀ a, (numL rel a).1.length = a ∧ (numL rel a).2 ≤ a ∧ ∀ x ∈ (numL rel a).1, x < (numL rel a).2
  | 0 => ⟨rfl, Nat.le_refl _, fun x hx => by cases hx⟩
  | a + 1 => by
    obtain ⟨h1, h2, h3⟩ := numL_ok rel a
    cases hl : lastR rel (numL rel a).1 a a with
    | some x =>
      rw [num_some hl]
      refine ⟨by rw [List.length_append, h1]; rfl, by show (numL rel a).2 ≤ a + 1; omega, fun y hy => ?_⟩
      rw [List.mem_append, List.mem_singleton] at hy
      rcases hy with hy | hy
      · exact h3 y hy
      · rw [hy]; exact h3 x (lastR_mem a (by omega) hl)
    | none =>
      rw [num_none hl]
      refine ⟨by rw [List.length_append, h1]; rfl, by show (numL rel a).2 + 1 ≤ a + 1; omega, fun y hy => ?_⟩
      rw [List.mem_append, List.mem_singleton] at hy
      show y < (numL rel a).2 + 1
      rcases hy with hy | hy
      · have := h3 y hy; omega
      · omega
theorem ksrc_lt {g : GC} (hW : WG g) (r : Nat) {a : Nat} (ha : a < gN g) : ksrc g r a < 13 := by
  have hn := hW.n
  cases r with
  | zero => have := hW.c a ha; show gC g a < 13; omega
  | succ r =>
    show gA (kindG g r).1 a < 13
    rw [kindG_r]
    obtain ⟨h1, h2, h3⟩ := numL_ok (relK g r) (gN g)
    have := h3 _ (gA_mem (show a < (numL (relK g r) (gN g)).1.length by omega))
    omega
theorem edgN_le (g : GC) (kd : Nat → Nat) (a c : Nat) : ∀ o, edgN g kd a c o ≤ o
  | 0 => Nat.le_refl _
  | o + 1 => by
    have := edgN_le g kd a c o
    unfold edgN
    split <;> omega
theorem alikeK_no {g : GC} {kd : Nat → Nat} {a b c : Nat} (h : ¬ alikeK g kd a b c = true) : ∀ m, c ≤ m → ¬ alikeK g kd a b m = true
  | 0, hm => by
    have e : c = 0 := by omega
    rw [← e]; exact h
  | m + 1, hm => by
    by_cases e : c = m + 1
    · rw [← e]; exact h
    · unfold alikeK
      rw [Bool.eq_false_iff.mpr (alikeK_no h m (by omega)), Bool.false_and]
      decide
theorem alike_l {a b c : Nat} {x y : Int32} (h : x = y) : ([.ref 89, .int (nI a), .int (nI b), .int x, .int (nI c)] : List Value) = [.ref 89, .int (nI a), .int (nI b), .int y, .int (nI c)] := by rw [h]
theorem alike_t {g : GC} {kd : Nat → Nat} {a b c : Nat} (h : alikeK g kd a b c = true) (h2 : edgN g kd a c (gN g) = edgN g kd b c (gN g)) : nI 1 = b2i (alikeK g kd a b (c + 1) = true) := by
  rw [b2i_t (by unfold alikeK; simp [h, h2])]; rfl
theorem alike_f {g : GC} {kd : Nat → Nat} {a b c : Nat} (h2 : ¬ edgN g kd a c (gN g) = edgN g kd b c (gN g)) : nI 0 = b2i (alikeK g kd a b (c + 1) = true) := by
  rw [b2i_f (by unfold alikeK; simp [h2])]; rfl
theorem edg_l {a c o : Nat} {x y : Nat} (h : x = y) : ([.ref 89, .int (nI a), .int (nI c), .int (nI y), .int (nI o)] : List Value) = [.ref 89, .int (nI a), .int (nI c), .int (nI x), .int (nI o)] := by rw [h]
def KinP (w : Mem) (g : GC) (kd : Nat → Nat) : Prop := ∀ a, a < gN g → rI w 120 a = nI (kd a) ∧ kd a < 13
def FrK (w w2 : Mem) : Prop := (∀ a, a ≠ 120 → a ≠ 121 → rI w2 a = rI w a) ∧ w2.2 = w.2
theorem FrK.rf (w : Mem) : FrK w w := ⟨fun _ _ _ => rfl, rfl⟩
theorem FrK.I {w w2 : Mem} {o k : Nat} {x : Int32} (ho : o = 120 ∨ o = 121) (h : FrK w w2) : FrK w (sI w2 o k x) := ⟨fun a h1 h2 => by rw [rI_sI_ne _ _ _ (by omega)]; exact h.1 a h1 h2, h.2⟩
theorem FrK.A {w w2 : Mem} {o : Nat} {f : Nat → Int32} (ho : o = 120 ∨ o = 121) (h : FrK w w2) : FrK w (sA w2 o f) := ⟨fun a h1 h2 => by rw [rI_sA_ne _ _ (by omega)]; exact h.1 a h1 h2, h.2⟩
theorem FrK.S {w w2 : Mem} (h : FrK w w2) : Scr w w2 := ⟨⟨fun a ha => h.1 a (by omega) (by omega), fun a ha => by unfold rJ; rw [h.2], by rw [h.2]⟩, fun a ha => h.1 a (by rintro rfl; exact absurd ha (by decide)) (by rintro rfl; exact absurd ha (by decide)), fun k hk => by rw [h.1 89 (by decide) (by decide)]⟩
noncomputable def opKind (x y : Int32) (g : GC) : Int32 := by
  classical
  exact if (¬ x = -1 ∧ ¬ inN x (gN g)) ∨ ¬ inN y 13 then -1 else if x = -1 then nI (kindG g (tn y)).2 else nI (gA (kindG g (tn y)).1 (tn x))
theorem kind_no {x y : Int32} {g : GC} (h : (¬ x = -1 ∧ ¬ inN x (gN g)) ∨ ¬ inN y 13) : opKind x y g = -1 := by unfold opKind; exact if_pos h
theorem kind_a {y : Nat} {g : GC} (h : y < 13) : opKind (-1) (nI y) g = nI (kindG g y).2 := by
  unfold opKind
  refine (if_neg ?_).trans ((if_pos rfl).trans ?_)
  · rintro (z | z)
    · exact z.1 rfl
    · exact z (inN_nI h (by decide))
  · rw [tn_nI (by omega)]
theorem kind_b {x y : Nat} {g : GC} (h : y < 13) (hx : x < gN g) (hN : gN g ≤ 12) : opKind (nI x) (nI y) g = nI (gA (kindG g y).1 x) := by
  unfold opKind
  refine (if_neg ?_).trans ((if_neg (nI_m1 (by omega))).trans ?_)
  · rintro (z | z)
    · exact z.2 (inN_nI hx (by omega))
    · exact z (inN_nI h (by decide))
  · rw [tn_nI (by omega), tn_nI (by omega)]
theorem c_M_edgesTo {E : EV} {w : Mem} {g : GC} {kd : Nat → Nat} (hR : MRow (rI w 91) g) (hW : WG g) (hNr : NearP w g) (hK : KinP w g kd) {a c : Nat} (ha : a < gN g) (hc : c < 12) : T E m_M_edgesTo 1 0 0 [.ref 89, .int (nI a), .int (nI c)] w (Ret (some (.int (nI (edgN g kd a c (gN g))))) w) := by
  refine T_of (L := [.ref 89, .int (nI a), .int (nI c), un, un]) cf_M_edgesTo rfl (Nat.le_of_ble_eq_true rfl) (fun X hX hF => ?_)
  have hgn := hW.n
  have hnb := near_w hW a
  have lp : ∀ (fuel : Nat) (o : Nat), gN g - o < fuel → (o ≤ gN g) → G0 E X 0 0 5 [.ref 89, .int (nI a), .int (nI c), .int (nI (edgN g kd a c o)), .int (nI o)] [] w := by
    intro fuel
    induction fuel with
    | zero => intro o q0; exact absurd q0 (Nat.not_lt_zero _)
    | succ fuel ih =>
      intro o q0 q1
      refine g_iload4 hX d_M_edgesTo_5 ?_
      refine g_aload0 hX d_M_edgesTo_7 ?_
      refine g_getF hX d_M_edgesTo_8 fl_M_13 (lv_89 _) ?_
      refine g_iconst (v := nI 0) hX d_M_edgesTo_11 rfl ?_
      refine g_iald hX d_M_edgesTo_12 (lv_91 _) rfl (by decide) ?_
      refine g_topi hR.n ?_
      refine g_icmpN_ge hX d_M_edgesTo_13 (by omega) (by omega) (fun c0 => ?_) (fun c0 => ?_)
      · refine g_iload3 hX d_M_edgesTo_55 ?_
        refine g_iret hX hF d_M_edgesTo_56 (by omega) (by omega) ?_
        exact ⟨by rw [show o = gN g by omega], rfl⟩
      · obtain ⟨hko, hkl⟩ := hK o (by omega)
        refine g_iload3 hX d_M_edgesTo_16 ?_
        refine g_aload0 hX d_M_edgesTo_17 ?_
        refine g_getF hX d_M_edgesTo_18 fl_M_102 (lv_89 _) ?_
        refine g_iload1 hX d_M_edgesTo_21 ?_
        refine g_iald hX d_M_edgesTo_22 (lv_110 _) rfl (by omega) ?_
        refine g_topi (hNr a ha) ?_
        refine g_iload4 hX d_M_edgesTo_23 ?_
        refine g_callS (As := [_, _]) hX hF.1 d_M_edgesTo_25 ml_M_468 cf_M_is cs_M_is rfl (c_M_is (by omega) (by omega)) (by omega) (by omega) (by omega) (Nat.le_of_ble_eq_true rfl) ?_
        refine ret_k ?_
        refine g_ifB_eq hX d_M_edgesTo_28 (fun e28 => ?_) (fun e28 => ?_)
        · refine g_iconst (v := nI 0) hX d_M_edgesTo_46 rfl ?_
          refine g_iaddN hX d_M_edgesTo_47 ?_
          refine g_istore3 hX d_M_edgesTo_48 rfl (by decide) ?_
          refine g_iincN4 hX d_M_edgesTo_49 rfl (by decide) ?_
          refine g_goto hX d_M_edgesTo_52 ?_
          refine g_loc (edg_l (show edgN g kd a c (o + 1) = _ by rw [edgN, if_neg (fun z => e28 z.1)])) ?_
          exact ih (o + 1) (by omega) (by omega)
        · refine g_aload0 hX d_M_edgesTo_31 ?_
          refine g_getF hX d_M_edgesTo_32 fl_M_132 (lv_89 _) ?_
          refine g_iload4 hX d_M_edgesTo_35 ?_
          refine g_iald hX d_M_edgesTo_37 (lv_120 _) rfl (by omega) ?_
          refine g_topi hko ?_
          refine g_iload2 hX d_M_edgesTo_38 ?_
          refine g_icmpN_ne hX d_M_edgesTo_39 (by omega) (by omega) (fun e39 => ?_) (fun e39 => ?_)
          · refine g_iconst (v := nI 0) hX d_M_edgesTo_46 rfl ?_
            refine g_iaddN hX d_M_edgesTo_47 ?_
            refine g_istore3 hX d_M_edgesTo_48 rfl (by decide) ?_
            refine g_iincN4 hX d_M_edgesTo_49 rfl (by decide) ?_
            refine g_goto hX d_M_edgesTo_52 ?_
            refine g_loc (edg_l (show edgN g kd a c (o + 1) = _ by rw [edgN, if_neg (fun z => e39 z.2)])) ?_
            exact ih (o + 1) (by omega) (by omega)
          · refine g_iconst (v := nI 1) hX d_M_edgesTo_42 rfl ?_
            refine g_goto hX d_M_edgesTo_43 ?_
            refine g_iaddN hX d_M_edgesTo_47 ?_
            refine g_istore3 hX d_M_edgesTo_48 rfl (by decide) ?_
            refine g_iincN4 hX d_M_edgesTo_49 rfl (by decide) ?_
            refine g_goto hX d_M_edgesTo_52 ?_
            refine g_loc (edg_l (show edgN g kd a c (o + 1) = _ by rw [edgN, if_pos ⟨e28, e39⟩])) ?_
            exact ih (o + 1) (by omega) (by omega)
  refine g_iconst (v := nI 0) hX d_M_edgesTo_0 rfl ?_
  refine g_istore3 hX d_M_edgesTo_1 rfl (by decide) ?_
  refine g_iconst (v := nI 0) hX d_M_edgesTo_2 rfl ?_
  refine g_istore4 hX d_M_edgesTo_3 rfl (by decide) ?_
  exact lp (gN g + 1) 0 (by omega) (Nat.zero_le _)
theorem c_M_areAlike {E : EV} {w : Mem} {g : GC} {kd : Nat → Nat} (hR : MRow (rI w 91) g) (hW : WG g) (hNr : NearP w g) (hK : KinP w g kd) {a b : Nat} (ha : a < gN g) (hb : b < gN g) : T E m_M_areAlike 2 0 0 [.ref 89, .int (nI a), .int (nI b)] w (Ret (some (.int (b2i (alikeK g kd a b 12 = true)))) w) := by
  refine T_of (L := [.ref 89, .int (nI a), .int (nI b), un, un]) cf_M_areAlike rfl (Nat.le_of_ble_eq_true rfl) (fun X hX hF => ?_)
  have hgn := hW.n
  obtain ⟨hka, hkal⟩ := hK a ha
  obtain ⟨hkb, hkbl⟩ := hK b hb
  have lp : ∀ (fuel : Nat) (c : Nat), 12 - c < fuel → (c ≤ 12) → G0 E X 0 0 24 [.ref 89, .int (nI a), .int (nI b), .int (b2i (alikeK g kd a b c = true)), .int (nI c)] [] w := by
    intro fuel
    induction fuel with
    | zero => intro c q0; exact absurd q0 (Nat.not_lt_zero _)
    | succ fuel ih =>
      intro c q0 q1
      refine g_iload4 hX d_M_areAlike_24 ?_
      refine g_bipush (v := nI 12) hX d_M_areAlike_26 rfl ?_
      refine g_icmpN_ge hX d_M_areAlike_28 (by omega) (by omega) (fun c0 => ?_) (fun c0 => ?_)
      · refine g_iload3 hX d_M_areAlike_64 ?_
        refine g_zret hX hF d_M_areAlike_65 (b2i_01 _) (by omega) (by omega) ?_
        exact ⟨by rw [show c = 12 by omega], rfl⟩
      · refine g_iload3 hX d_M_areAlike_31 ?_
        refine g_ifB_eq hX d_M_areAlike_32 (fun e32 => ?_) (fun e32 => ?_)
        · refine g_iload3 hX d_M_areAlike_64 ?_
          refine g_zret hX hF d_M_areAlike_65 (b2i_01 _) (by omega) (by omega) ?_
          exact ⟨by rw [b2i_f e32, b2i_f (alikeK_no e32 12 (by omega))], rfl⟩
        · refine g_aload0 hX d_M_areAlike_35 ?_
          refine g_iload1 hX d_M_areAlike_36 ?_
          refine g_iload4 hX d_M_areAlike_37 ?_
          refine g_callV (As := [_, _]) hX hF.1 d_M_areAlike_39 ml_M_536 cf_M_edgesTo cv_M_edgesTo rfl rfl (c_M_edgesTo hR hW hNr hK (by omega) (by omega)) (rcv_obj hX (lv_89 _) rfl rfl) (by omega) (by omega) (by omega) (Nat.le_of_ble_eq_true rfl) ?_
          refine ret_k ?_
          refine g_aload0 hX d_M_areAlike_42 ?_
          refine g_iload2 hX d_M_areAlike_43 ?_
          refine g_iload4 hX d_M_areAlike_44 ?_
          refine g_callV (As := [_, _]) hX hF.1 d_M_areAlike_46 ml_M_536 cf_M_edgesTo cv_M_edgesTo rfl rfl (c_M_edgesTo hR hW hNr hK (by omega) (by omega)) (rcv_obj hX (lv_89 _) rfl rfl) (by omega) (by omega) (by omega) (Nat.le_of_ble_eq_true rfl) ?_
          refine ret_k ?_
          have he1 := edgN_le g kd a c (gN g)
          have he2 := edgN_le g kd b c (gN g)
          refine g_icmpN_ne hX d_M_areAlike_49 (by omega) (by omega) (fun e49 => ?_) (fun e49 => ?_)
          · refine g_iconst (v := nI 0) hX d_M_areAlike_56 rfl ?_
            refine g_istore3 hX d_M_areAlike_57 rfl (by decide) ?_
            refine g_iincN4 hX d_M_areAlike_58 rfl (by decide) ?_
            refine g_goto hX d_M_areAlike_61 ?_
            refine g_loc (alike_l (alike_f e49)) ?_
            exact ih (c + 1) (by omega) (by omega)
          · refine g_iconst (v := nI 1) hX d_M_areAlike_52 rfl ?_
            refine g_goto hX d_M_areAlike_53 ?_
            refine g_istore3 hX d_M_areAlike_57 rfl (by decide) ?_
            refine g_iincN4 hX d_M_areAlike_58 rfl (by decide) ?_
            refine g_goto hX d_M_areAlike_61 ?_
            refine g_loc (alike_l (alike_t e32 e49)) ?_
            exact ih (c + 1) (by omega) (by omega)
  refine g_aload0 hX d_M_areAlike_0 ?_
  refine g_getF hX d_M_areAlike_1 fl_M_132 (lv_89 _) ?_
  refine g_iload1 hX d_M_areAlike_4 ?_
  refine g_iald hX d_M_areAlike_5 (lv_120 _) rfl (by omega) ?_
  refine g_topi hka ?_
  refine g_aload0 hX d_M_areAlike_6 ?_
  refine g_getF hX d_M_areAlike_7 fl_M_132 (lv_89 _) ?_
  refine g_iload2 hX d_M_areAlike_10 ?_
  refine g_iald hX d_M_areAlike_11 (lv_120 _) rfl (by omega) ?_
  refine g_topi hkb ?_
  refine g_icmpN_ne hX d_M_areAlike_12 (by omega) (by omega) (fun e12 => ?_) (fun e12 => ?_)
  · refine g_iconst (v := nI 0) hX d_M_areAlike_19 rfl ?_
    refine g_istore3 hX d_M_areAlike_20 rfl (by decide) ?_
    refine g_iconst (v := nI 0) hX d_M_areAlike_21 rfl ?_
    refine g_istore4 hX d_M_areAlike_22 rfl (by decide) ?_
    refine g_loc (show _ = [.ref 89, .int (nI a), .int (nI b), .int (b2i (alikeK g kd a b 0 = true)), .int (nI 0)] by rw [b2i_f (show ¬ alikeK g kd a b 0 = true from fun z => e12 (of_decide_eq_true z))]; rfl) ?_
    exact lp 13 0 (by omega) (by omega)
  · refine g_iconst (v := nI 1) hX d_M_areAlike_15 rfl ?_
    refine g_goto hX d_M_areAlike_16 ?_
    refine g_istore3 hX d_M_areAlike_20 rfl (by decide) ?_
    refine g_iconst (v := nI 0) hX d_M_areAlike_21 rfl ?_
    refine g_istore4 hX d_M_areAlike_22 rfl (by decide) ?_
    refine g_loc (show _ = [.ref 89, .int (nI a), .int (nI b), .int (b2i (alikeK g kd a b 0 = true)), .int (nI 0)] by rw [b2i_t (show alikeK g kd a b 0 = true from decide_eq_true e12)]; rfl) ?_
    exact lp 13 0 (by omega) (by omega)
theorem KinP.o {w w2 : Mem} {g : GC} {kd : Nat → Nat} (h : KinP w g kd) (e : rI w2 120 = rI w 120) : KinP w2 g kd := fun a ha => by rw [e]; exact h a ha
theorem c_M_layKinds {E : EV} {w : Mem} {g : GC} {rs : Nat} (hG : MG w g) (hW : WG g) (hrs : rs < 13) : T E m_M_layKinds 6 0 0 [.ref 89, .int (nI rs)] w (fun r w2 => r = some (.int (nI (kindG g rs).2)) ∧ Scr w w2 ∧ ∀ a, a < gN g → rI w2 120 a = nI (gA (kindG g rs).1 a)) := by
  refine T_of (L := [.ref 89, .int (nI rs), un, un, un, un]) cf_M_layKinds rfl (Nat.le_of_ble_eq_true rfl) (fun X hX hF => ?_)
  have hgn := hW.n
  refine g_aload0 hX d_M_layKinds_0 ?_
  refine g_callV (As := []) hX hF.1 d_M_layKinds_1 ml_M_462 cf_M_layAll cv_M_layAll rfl rfl (c_M_layAll hG hW) (rcv_obj hX (lv_89 _) rfl rfl) (by omega) (by omega) (by omega) (Nat.le_of_ble_eq_true rfl) ?_
  rintro _ w1 ⟨rfl, hfA, hLd⟩
  have hR1 : MRow (rI w1 91) g := (hG.scr hfA.S).1
  show G0 _ _ _ _ _ _ _ _
  refine g_iconst (v := nI 0) hX d_M_layKinds_4 rfl ?_
  refine g_istore2 hX d_M_layKinds_5 rfl (by decide) ?_
  refine g_iconst (v := nI 0) hX d_M_layKinds_6 rfl ?_
  refine g_istore3 hX d_M_layKinds_7 rfl (by decide) ?_
  have lpR : ∀ (fuel : Nat) (r : Nat) (wk : Mem), rs + 1 - r < fuel → (r ≤ rs + 1) → (FrK w1 wk) → (KinP wk g (ksrc g r)) → G0 E X 0 0 41 [.ref 89, .int (nI rs), .int (nI (if r = 0 then 0 else (kindG g (r - 1)).2)), .int (nI r), un, un] [] wk := by
    intro fuel
    induction fuel with
    | zero => intro r wk q0; exact absurd q0 (Nat.not_lt_zero _)
    | succ fuel ih =>
      intro r wk q0 q1 q2 q3
      refine g_iload3 hX d_M_layKinds_41 ?_
      refine g_iload1 hX d_M_layKinds_42 ?_
      refine g_icmpN_gt hX d_M_layKinds_43 (by omega) (by omega) (fun c0 => ?_) (fun c0 => ?_)
      · refine g_iload2 hX d_M_layKinds_213 ?_
        refine g_iret hX hF d_M_layKinds_214 (by omega) (by omega) ?_
        have hr : r = rs + 1 := by omega
        rw [hr] at q3
        refine ⟨?_, hfA.S.tr q2.S, fun a ha => (q3 a ha).1⟩
        rw [hr, if_neg (by omega)]
        rfl
      · have ihR : ∀ (r2 : Nat) (wk : Mem), rs + 1 - r2 < fuel → r2 ≤ rs + 1 → FrK w1 wk → KinP wk g (ksrc g r2) → G0 E X 0 0 41 [.ref 89, .int (nI rs), .int (nI (if r2 = 0 then 0 else (kindG g (r2 - 1)).2)), .int (nI r2), un, un] [] wk := ih
        have lpA : ∀ (fuel : Nat) (a : Nat) (wk : Mem), gN g - a < fuel → (a ≤ gN g) → (FrK w1 wk) → (KinP wk g (ksrc g r)) → (∀ j, j < a → rI wk 121 j = nI (gA (numL (relK g r) a).1 j)) → G0 E X 0 0 51 [.ref 89, .int (nI rs), .int (nI (numL (relK g r) a).2), .int (nI r), .int (nI a), un] [] wk := by
          intro fuel
          induction fuel with
          | zero => intro a wk q0; exact absurd q0 (Nat.not_lt_zero _)
          | succ fuel ih =>
            intro a wk q0 q1 q2 q3 q4
            have hRk : MRow (rI wk 91) g := by rw [q2.1 91 (by decide) (by decide)]; exact hR1
            refine g_iload4 hX d_M_layKinds_51 ?_
            refine g_aload0 hX d_M_layKinds_53 ?_
            refine g_getF hX d_M_layKinds_54 fl_M_13 (lv_89 _) ?_
            refine g_iconst (v := nI 0) hX d_M_layKinds_57 rfl ?_
            refine g_iald hX d_M_layKinds_58 (lv_91 _) rfl (by decide) ?_
            refine g_topi hRk.n ?_
            refine g_icmpN_ge hX d_M_layKinds_59 (by omega) (by omega) (fun c0 => ?_) (fun c0 => ?_)
            · have hag : a = gN g := by omega
              rw [hag, ← kindG_r] at q4
              rw [hag, ← kindG_r]
              have q4' := q4
              have q2' := q2
              have lpC : ∀ (fuel : Nat) (c : Nat) (f : Nat → Int32), gN g - c < fuel → (c ≤ gN g) → (∀ j, j < c → f j = nI (gA (kindG g r).1 j)) → G0 E X 0 0 176 [.ref 89, .int (nI rs), .int (nI (kindG g r).2), .int (nI r), .int (nI c), un] [] (sA wk 120 f) := by
                intro fuel
                induction fuel with
                | zero => intro c f q0; exact absurd q0 (Nat.not_lt_zero _)
                | succ fuel ih =>
                  intro c f q0 q1 q2
                  refine g_iload4 hX d_M_layKinds_176 ?_
                  refine g_aload0 hX d_M_layKinds_178 ?_
                  refine g_getF hX d_M_layKinds_179 fl_M_13 (lv_89 _) ?_
                  refine g_iconst (v := nI 0) hX d_M_layKinds_182 rfl ?_
                  refine g_iald hX d_M_layKinds_183 (lv_91 _) rfl (by decide) ?_
                  refine g_topi (show rI (sA wk 120 f) 91 0 = nI (gN g) from hRk.n) ?_
                  refine g_icmpN_ge hX d_M_layKinds_184 (by omega) (by omega) (fun c0 => ?_) (fun c0 => ?_)
                  · refine g_iincN3 hX d_M_layKinds_207 rfl (by decide) ?_
                    refine g_goto hX d_M_layKinds_210 ?_
                    refine g_fget 4 ?_
                    refine ihR (r + 1) _ (by omega) (by omega) (q2'.A (Or.inl rfl)) (fun j hj => ⟨?_, ksrc_lt hW (r + 1) hj⟩)
                    rw [rI_sA]
                    exact q2 j (by omega)
                  · refine g_aload0 hX d_M_layKinds_187 ?_
                    refine g_getF hX d_M_layKinds_188 fl_M_132 (lv_89 _) ?_
                    refine g_iload4 hX d_M_layKinds_191 ?_
                    refine g_aload0 hX d_M_layKinds_193 ?_
                    refine g_getF hX d_M_layKinds_194 fl_M_135 (lv_89 _) ?_
                    refine g_iload4 hX d_M_layKinds_197 ?_
                    refine g_iald hX d_M_layKinds_199 (lv_121 _) rfl (by omega) ?_
                    refine g_topi (show rI (sA wk 120 f) 121 c = nI (gA (kindG g r).1 c) from q4' c (by omega)) ?_
                    refine g_iast hX d_M_layKinds_200 (lv_120 _) rfl (by omega) ?_
                    refine g_iincN4 hX d_M_layKinds_201 rfl (by decide) ?_
                    refine g_goto hX d_M_layKinds_204 ?_
                    rw [sI_sA]
                    refine ih (c + 1) _ (by omega) (by omega) (fun j hj => ?_)
                    rw [upd_eq]
                    by_cases e : j = c
                    · rw [if_pos e, e]
                    · rw [if_neg e]; exact q2 j (by omega)
              refine g_iconst (v := nI 0) hX d_M_layKinds_173 rfl ?_
              refine g_istore4 hX d_M_layKinds_174 rfl (by decide) ?_
              refine g_mem (show wk = sA wk 120 (rI wk 120) from (sA_self _ _).symm) ?_
              exact lpC (gN g + 1) 0 _ (by omega) (Nat.zero_le _) (fun j hj => absurd hj (Nat.not_lt_zero _))
            · have haN : a < gN g := by omega
              have ihA := ih
              have lpB : ∀ (fuel : Nat) (b : Nat) (wk : Mem), a - b < fuel → (b ≤ a) → (FrK w1 wk) → (KinP wk g (ksrc g r)) → (∀ j, j < a → rI wk 121 j = nI (gA (numL (relK g r) a).1 j)) → (rI wk 121 a = fInt (lastR (relK g r) (numL (relK g r) a).1 a b)) → G0 E X 0 0 73 [.ref 89, .int (nI rs), .int (nI (numL (relK g r) a).2), .int (nI r), .int (nI a), .int (nI b)] [] wk := by
                intro fuel
                induction fuel with
                | zero => intro b wk q0; exact absurd q0 (Nat.not_lt_zero _)
                | succ fuel ih =>
                  intro b wk q0 q1 q2 q3 q4 q5
                  refine g_iload5 hX d_M_layKinds_73 ?_
                  refine g_iload4 hX d_M_layKinds_75 ?_
                  refine g_icmpN_ge hX d_M_layKinds_77 (by omega) (by omega) (fun c0 => ?_) (fun c0 => ?_)
                  · have hba : b = a := by omega
                    rw [hba] at q5
                    obtain ⟨o1, o2, o3⟩ := numL_ok (relK g r) a
                    refine g_aload0 hX d_M_layKinds_145 ?_
                    refine g_getF hX d_M_layKinds_146 fl_M_135 (lv_89 _) ?_
                    refine g_iload4 hX d_M_layKinds_149 ?_
                    refine g_iald hX d_M_layKinds_151 (lv_121 _) rfl (by omega) ?_
                    refine g_topi q5 ?_
                    refine g_iconst (v := -1) hX d_M_layKinds_152 rfl ?_
                    refine g_icmp_ne hX d_M_layKinds_153 (fun e153 => ?_) (fun e153 => ?_)
                    · refine g_iincN4 hX d_M_layKinds_167 rfl (by decide) ?_
                      refine g_goto hX d_M_layKinds_170 ?_
                      obtain ⟨x, hx⟩ := fInt_ne e153
                      have en := num_some hx
                      refine g_fget 5 ?_
                      refine g_loc (show _ = [.ref 89, .int (nI rs), .int (nI (numL (relK g r) (a + 1)).2), .int (nI r), .int (nI (a + 1)), un] by rw [en]; rfl) ?_
                      refine ihA (a + 1) wk (by omega) (by omega) q2 q3 (fun j hj => ?_)
                      rw [en]
                      show _ = nI (gA ((numL (relK g r) a).1 ++ [x]) j)
                      by_cases e : j = a
                      · rw [e, q5, hx, show gA ((numL (relK g r) a).1 ++ [x]) a = x from by rw [gA_app, o1, if_pos rfl]]; rfl
                      · rw [gA_snoc_l (by omega)]; exact q4 j (by omega)
                    · refine g_aload0 hX d_M_layKinds_156 ?_
                      refine g_getF hX d_M_layKinds_157 fl_M_135 (lv_89 _) ?_
                      refine g_iload4 hX d_M_layKinds_160 ?_
                      refine g_iload2 hX d_M_layKinds_162 ?_
                      refine g_iast hX d_M_layKinds_163 (lv_121 _) rfl (by omega) ?_
                      refine g_iincN2 hX d_M_layKinds_164 rfl (by decide) ?_
                      refine g_iincN4 hX d_M_layKinds_167 rfl (by decide) ?_
                      refine g_goto hX d_M_layKinds_170 ?_
                      have hx := fInt_m1 (fun u hu => by have := o3 u (lastR_mem a (by omega) hu); omega) e153
                      have en := num_none hx
                      refine g_fget 5 ?_
                      refine g_loc (show _ = [.ref 89, .int (nI rs), .int (nI (numL (relK g r) (a + 1)).2), .int (nI r), .int (nI (a + 1)), un] by rw [en]; rfl) ?_
                      refine ihA (a + 1) _ (by omega) (by omega) (q2.I (Or.inr rfl)) (q3.o rfl) (fun j hj => ?_)
                      rw [en, rI_sI, upd_eq]
                      show _ = nI (gA ((numL (relK g r) a).1 ++ [(numL (relK g r) a).2]) j)
                      by_cases e : j = a
                      · rw [if_pos e, e, show gA ((numL (relK g r) a).1 ++ [(numL (relK g r) a).2]) a = (numL (relK g r) a).2 from by rw [gA_app, o1, if_pos rfl]]
                      · rw [if_neg e, gA_snoc_l (by omega)]; exact q4 j (by omega)
                  · obtain ⟨hka, hkal⟩ := q3 a haN
                    obtain ⟨hkb, hkbl⟩ := q3 b (by omega)
                    have hRk : MRow (rI wk 91) g := by rw [q2.1 91 (by decide) (by decide)]; exact hR1
                    have hNk : NearP wk g := fun u hu => by rw [q2.1 110 (by decide) (by decide)]; exact hLd.1 u hu
                    refine g_aload0 hX d_M_layKinds_80 ?_
                    refine g_getF hX d_M_layKinds_81 fl_M_135 (lv_89 _) ?_
                    refine g_iload4 hX d_M_layKinds_84 ?_
                    refine g_iload3 hX d_M_layKinds_86 ?_
                    refine g_if_ne hX d_M_layKinds_87 (fun c87 => ?_) (fun c87 => ?_)
                    · have hr0 : ¬ r = 0 := fun z => c87 (by rw [z]; rfl)
                      have hrel : relK g r a b = alikeK g (ksrc g r) a b 12 := if_neg hr0
                      refine g_aload0 hX d_M_layKinds_110 ?_
                      refine g_iload4 hX d_M_layKinds_111 ?_
                      refine g_iload5 hX d_M_layKinds_113 ?_
                      refine g_callV (As := [_, _]) hX hF.1 d_M_layKinds_115 ml_M_539 cf_M_areAlike cv_M_areAlike rfl rfl (c_M_areAlike hRk hW hNk q3 haN (by omega)) (rcv_obj hX (lv_89 _) rfl rfl) (by omega) (by omega) (by omega) (Nat.le_of_ble_eq_true rfl) ?_
                      refine ret_k ?_
                      refine g_ifB_eq hX d_M_layKinds_118 (fun e118 => ?_) (fun e118 => ?_)
                      · refine g_aload0 hX d_M_layKinds_131 ?_
                        refine g_getF hX d_M_layKinds_132 fl_M_135 (lv_89 _) ?_
                        refine g_iload4 hX d_M_layKinds_135 ?_
                        refine g_iald hX d_M_layKinds_137 (lv_121 _) rfl (by omega) ?_
                        refine g_topi q5 ?_
                        refine g_iast hX d_M_layKinds_138 (lv_121 _) rfl (by omega) ?_
                        refine g_iincN5 hX d_M_layKinds_139 rfl (by decide) ?_
                        refine g_goto hX d_M_layKinds_142 ?_
                        have hno : ¬ relK g r a b = true := by rw [hrel]; exact e118
                        refine ih (b + 1) _ (by omega) (by omega) (q2.I (Or.inr rfl)) (q3.o rfl) (fun j hj => ?_) (by rw [rI_sI, upd_eq, if_pos rfl, lastR, if_neg hno])
                        rw [rI_sI, upd_eq, if_neg (by omega)]; exact q4 j hj
                      · refine g_aload0 hX d_M_layKinds_121 ?_
                        refine g_getF hX d_M_layKinds_122 fl_M_135 (lv_89 _) ?_
                        refine g_iload5 hX d_M_layKinds_125 ?_
                        refine g_iald hX d_M_layKinds_127 (lv_121 _) rfl (by omega) ?_
                        refine g_topi (q4 b (by omega)) ?_
                        refine g_goto hX d_M_layKinds_128 ?_
                        refine g_iast hX d_M_layKinds_138 (lv_121 _) rfl (by omega) ?_
                        refine g_iincN5 hX d_M_layKinds_139 rfl (by decide) ?_
                        refine g_goto hX d_M_layKinds_142 ?_
                        have hyes : relK g r a b = true := by rw [hrel]; exact e118
                        refine ih (b + 1) _ (by omega) (by omega) (q2.I (Or.inr rfl)) (q3.o rfl) (fun j hj => ?_) (by rw [rI_sI, upd_eq, if_pos rfl, lastR, if_pos hyes]; rfl)
                        rw [rI_sI, upd_eq, if_neg (by omega)]; exact q4 j hj
                    · have hr0 : r = 0 := nI_inj (by omega) (by decide) c87
                      have hrel : relK g r a b = decide (ksrc g r a = ksrc g r b) := by rw [hr0]; rfl
                      refine g_aload0 hX d_M_layKinds_90 ?_
                      refine g_getF hX d_M_layKinds_91 fl_M_132 (lv_89 _) ?_
                      refine g_iload4 hX d_M_layKinds_94 ?_
                      refine g_iald hX d_M_layKinds_96 (lv_120 _) rfl (by omega) ?_
                      refine g_topi hka ?_
                      refine g_aload0 hX d_M_layKinds_97 ?_
                      refine g_getF hX d_M_layKinds_98 fl_M_132 (lv_89 _) ?_
                      refine g_iload5 hX d_M_layKinds_101 ?_
                      refine g_iald hX d_M_layKinds_103 (lv_120 _) rfl (by omega) ?_
                      refine g_topi hkb ?_
                      refine g_icmpN_ne hX d_M_layKinds_104 (by omega) (by omega) (fun e104 => ?_) (fun e104 => ?_)
                      · refine g_aload0 hX d_M_layKinds_131 ?_
                        refine g_getF hX d_M_layKinds_132 fl_M_135 (lv_89 _) ?_
                        refine g_iload4 hX d_M_layKinds_135 ?_
                        refine g_iald hX d_M_layKinds_137 (lv_121 _) rfl (by omega) ?_
                        refine g_topi q5 ?_
                        refine g_iast hX d_M_layKinds_138 (lv_121 _) rfl (by omega) ?_
                        refine g_iincN5 hX d_M_layKinds_139 rfl (by decide) ?_
                        refine g_goto hX d_M_layKinds_142 ?_
                        have hno : ¬ relK g r a b = true := by rw [hrel]; exact fun z => e104 (of_decide_eq_true z)
                        refine ih (b + 1) _ (by omega) (by omega) (q2.I (Or.inr rfl)) (q3.o rfl) (fun j hj => ?_) (by rw [rI_sI, upd_eq, if_pos rfl, lastR, if_neg hno])
                        rw [rI_sI, upd_eq, if_neg (by omega)]; exact q4 j hj
                      · refine g_goto hX d_M_layKinds_107 ?_
                        refine g_aload0 hX d_M_layKinds_121 ?_
                        refine g_getF hX d_M_layKinds_122 fl_M_135 (lv_89 _) ?_
                        refine g_iload5 hX d_M_layKinds_125 ?_
                        refine g_iald hX d_M_layKinds_127 (lv_121 _) rfl (by omega) ?_
                        refine g_topi (q4 b (by omega)) ?_
                        refine g_goto hX d_M_layKinds_128 ?_
                        refine g_iast hX d_M_layKinds_138 (lv_121 _) rfl (by omega) ?_
                        refine g_iincN5 hX d_M_layKinds_139 rfl (by decide) ?_
                        refine g_goto hX d_M_layKinds_142 ?_
                        have hyes : relK g r a b = true := by rw [hrel]; exact decide_eq_true e104
                        refine ih (b + 1) _ (by omega) (by omega) (q2.I (Or.inr rfl)) (q3.o rfl) (fun j hj => ?_) (by rw [rI_sI, upd_eq, if_pos rfl, lastR, if_pos hyes]; rfl)
                        rw [rI_sI, upd_eq, if_neg (by omega)]; exact q4 j hj
              refine g_aload0 hX d_M_layKinds_62 ?_
              refine g_getF hX d_M_layKinds_63 fl_M_135 (lv_89 _) ?_
              refine g_iload4 hX d_M_layKinds_66 ?_
              refine g_iconst (v := -1) hX d_M_layKinds_68 rfl ?_
              refine g_iast hX d_M_layKinds_69 (lv_121 _) rfl (by omega) ?_
              refine g_iconst (v := nI 0) hX d_M_layKinds_70 rfl ?_
              refine g_istore5 hX d_M_layKinds_71 rfl (by decide) ?_
              refine lpB (a + 1) 0 _ (by omega) (Nat.zero_le _) (q2.I (Or.inr rfl)) (q3.o rfl) (fun j hj => ?_) (by rw [rI_sI, upd_eq, if_pos rfl]; rfl)
              rw [rI_sI, upd_eq, if_neg (by omega)]; exact q4 j hj
        refine g_iconst (v := nI 0) hX d_M_layKinds_46 rfl ?_
        refine g_istore2 hX d_M_layKinds_47 rfl (by decide) ?_
        refine g_iconst (v := nI 0) hX d_M_layKinds_48 rfl ?_
        refine g_istore4 hX d_M_layKinds_49 rfl (by decide) ?_
        exact lpA (gN g + 1) 0 wk (by omega) (Nat.zero_le _) q2 q3 (fun j hj => absurd hj (Nat.not_lt_zero _))
  have lp0 : ∀ (fuel : Nat) (a : Nat) (f : Nat → Int32), gN g - a < fuel → (a ≤ gN g) → (∀ j, j < a → f j = nI (gC g j)) → G0 E X 0 0 8 [.ref 89, .int (nI rs), .int (nI 0), .int (nI a), un, un] [] (sA w1 120 f) := by
    intro fuel
    induction fuel with
    | zero => intro a f q0; exact absurd q0 (Nat.not_lt_zero _)
    | succ fuel ih =>
      intro a f q0 q1 q2
      refine g_iload3 hX d_M_layKinds_8 ?_
      refine g_aload0 hX d_M_layKinds_9 ?_
      refine g_getF hX d_M_layKinds_10 fl_M_13 (lv_89 _) ?_
      refine g_iconst (v := nI 0) hX d_M_layKinds_13 rfl ?_
      refine g_iald hX d_M_layKinds_14 (lv_91 _) rfl (by decide) ?_
      refine g_topi (show rI (sA w1 120 f) 91 0 = nI (gN g) from hR1.n) ?_
      refine g_icmpN_ge hX d_M_layKinds_15 (by omega) (by omega) (fun c0 => ?_) (fun c0 => ?_)
      · refine g_iconst (v := nI 0) hX d_M_layKinds_39 rfl ?_
        refine g_istore3 hX d_M_layKinds_40 rfl (by decide) ?_
        refine lpR (rs + 2) 0 _ (by omega) (Nat.zero_le _) ((FrK.rf w1).A (Or.inl rfl)) (fun j hj => ⟨?_, ksrc_lt hW 0 hj⟩)
        rw [rI_sA]
        exact q2 j (by omega)
      · refine g_aload0 hX d_M_layKinds_18 ?_
        refine g_getF hX d_M_layKinds_19 fl_M_132 (lv_89 _) ?_
        refine g_iload3 hX d_M_layKinds_22 ?_
        refine g_aload0 hX d_M_layKinds_23 ?_
        refine g_getF hX d_M_layKinds_24 fl_M_13 (lv_89 _) ?_
        refine g_bipush (v := nI 9) hX d_M_layKinds_27 rfl ?_
        refine g_iload3 hX d_M_layKinds_29 ?_
        refine g_iaddN hX d_M_layKinds_30 ?_
        refine g_iald hX d_M_layKinds_31 (lv_91 _) rfl (by omega) ?_
        refine g_topi (show rI (sA w1 120 f) 91 (9 + a) = nI (gC g a) from hR1.c a (by omega)) ?_
        refine g_iast hX d_M_layKinds_32 (lv_120 _) rfl (by omega) ?_
        refine g_iincN3 hX d_M_layKinds_33 rfl (by decide) ?_
        refine g_goto hX d_M_layKinds_36 ?_
        rw [sI_sA]
        refine ih (a + 1) _ (by omega) (by omega) (fun j hj => ?_)
        rw [upd_eq]
        by_cases e : j = a
        · rw [if_pos e, e]
        · rw [if_neg e]; exact q2 j (by omega)
  refine g_mem (show w1 = sA w1 120 (rI w1 120) from (sA_self _ _).symm) ?_
  exact lp0 (gN g + 1) 0 _ (by omega) (Nat.zero_le _) (fun j hj => absurd hj (Nat.not_lt_zero _))
theorem c_M_kind {E : EV} {w : Mem} {x y : Int32} {s : SG} (h : MInv w s) : T E m_M_kind 8 0 0 [.ref 89, .int x, .int y] w (fun r w2 => r = some (.int (opKind x y (sG s))) ∧ MInv w2 s ∧ FrM w w2) := by
  refine T_of (L := [.ref 89, .int x, .int y, un]) cf_M_kind rfl (Nat.le_of_ble_eq_true rfl) (fun X hX hF => ?_)
  obtain ⟨⟨hR, hL, hW⟩, hU, hT, hI, hRf, hSt, hFa, hSm, hSp, hDr, hOr⟩ := id h
  have hn := hW.n
  have hv := hW.v
  have he := hW.el
  refine g_aload0 hX d_M_kind_0 ?_
  refine g_iconst (v := nI 0) hX d_M_kind_1 rfl ?_
  refine g_putI hX d_M_kind_2 fl_M_170 (lv_89 _) ?_
  refine g_iload1 hX d_M_kind_5 ?_
  refine g_iconst (v := -1) hX d_M_kind_6 rfl ?_
  refine g_icmp_eq hX d_M_kind_7 (fun e7 => ?_) (fun e7 => ?_)
  · refine g_iload2 hX d_M_kind_18 ?_
    refine g_i2l hX d_M_kind_19 ?_
    refine g_lconst (v := lN 0) hX d_M_kind_20 rfl ?_
    refine g_ldc2 (v := lN 12) hX d_M_kind_21 k_M_542 rfl ?_
    refine g_callS (As := [_, _, _]) hX hF.1 d_M_kind_24 ml_M_190 cf_M_in cs_M_in rfl (c_M_in) (by omega) (by omega) (by omega) (Nat.le_of_ble_eq_true rfl) ?_
    refine ret_k ?_
    refine g_ifB_ne hX d_M_kind_27 (fun e27 => ?_) (fun e27 => ?_)
    · obtain ⟨y, hy13, rfl, hty⟩ := inN_of ((in_le (by decide)).mp e27) (by decide)
      have hMG : MG (sI w 89 0 (nI 0)) (sG s) := ⟨hR, hL, hOr⟩
      have hS0 : Scr w (sI w 89 0 (nI 0)) := (by repeat (first | exact Scr.rf _ | refine Scr.I9 (by decide) ?_ | refine Scr.I (by decide) ?_ | refine Scr.A (by decide) ?_ | refine Scr.J9 ?_ | refine Scr.J (by decide) ?_ | refine Scr.B (by decide) ?_))
      refine g_aload0 hX d_M_kind_32 ?_
      refine g_iload2 hX d_M_kind_33 ?_
      refine g_callV (As := [_]) hX hF.1 d_M_kind_34 ml_M_544 cf_M_layKinds cv_M_layKinds rfl rfl (c_M_layKinds (w := sI w 89 0 (nI 0)) hMG hW (by omega)) (rcv_obj hX (lv_89 _) rfl rfl) (by omega) (by omega) (by omega) (Nat.le_of_ble_eq_true rfl) ?_
      rintro _ w1 ⟨rfl, hS, hKi⟩
      show G0 _ _ _ _ _ _ _ _
      refine g_istore3 hX d_M_kind_37 rfl (by decide) ?_
      refine g_iload1 hX d_M_kind_38 ?_
      refine g_iconst (v := -1) hX d_M_kind_39 rfl ?_
      refine g_icmp_ne hX d_M_kind_40 (fun h => absurd e7 h) (fun e40 => ?_)
      refine g_iload3 hX d_M_kind_43 ?_
      refine g_goto hX d_M_kind_44 ?_
      refine g_iret hX hF d_M_kind_53 (by omega) (by omega) ?_
      refine ⟨?_, h.keep (hS0.tr hS), (hS0.tr hS).1⟩
      rw [e7, kind_a (by omega)]
    · refine g_iconst (v := -1) hX d_M_kind_30 rfl ?_
      refine g_iret hX hF d_M_kind_31 (by omega) (by omega) ?_
      refine ⟨?_, h.keep (by repeat (first | exact Scr.rf _ | refine Scr.I9 (by decide) ?_ | refine Scr.I (by decide) ?_ | refine Scr.A (by decide) ?_ | refine Scr.J9 ?_ | refine Scr.J (by decide) ?_ | refine Scr.B (by decide) ?_)), (by repeat (first | exact FrM.rf _ | refine FrM.I (by decide) ?_ | refine FrM.A (by decide) ?_ | refine FrM.B (by decide) ?_ | refine FrM.J9 ?_ | refine FrM.J (by decide) ?_))⟩
      rw [kind_no (by first | exact Or.inl ⟨e7, e15⟩ | exact Or.inr (mt (in_le (by decide)).mpr e27))]
  · refine g_aload0 hX d_M_kind_10 ?_
    refine g_iload1 hX d_M_kind_11 ?_
    refine g_callV (As := [_]) hX hF.1 d_M_kind_12 ml_M_214 cf_M_isNode cv_M_isNode rfl rfl (c_M_isNode hR hW) (rcv_obj hX (lv_89 _) rfl rfl) (by omega) (by omega) (by omega) (Nat.le_of_ble_eq_true rfl) ?_
    refine ret_k ?_
    refine g_ifB_eq hX d_M_kind_15 (fun e15 => ?_) (fun e15 => ?_)
    · refine g_iconst (v := -1) hX d_M_kind_30 rfl ?_
      refine g_iret hX hF d_M_kind_31 (by omega) (by omega) ?_
      refine ⟨?_, h.keep (by repeat (first | exact Scr.rf _ | refine Scr.I9 (by decide) ?_ | refine Scr.I (by decide) ?_ | refine Scr.A (by decide) ?_ | refine Scr.J9 ?_ | refine Scr.J (by decide) ?_ | refine Scr.B (by decide) ?_)), (by repeat (first | exact FrM.rf _ | refine FrM.I (by decide) ?_ | refine FrM.A (by decide) ?_ | refine FrM.B (by decide) ?_ | refine FrM.J9 ?_ | refine FrM.J (by decide) ?_))⟩
      rw [kind_no (by first | exact Or.inl ⟨e7, e15⟩ | exact Or.inr (mt (in_le (by decide)).mpr e27))]
    · refine g_iload2 hX d_M_kind_18 ?_
      refine g_i2l hX d_M_kind_19 ?_
      refine g_lconst (v := lN 0) hX d_M_kind_20 rfl ?_
      refine g_ldc2 (v := lN 12) hX d_M_kind_21 k_M_542 rfl ?_
      refine g_callS (As := [_, _, _]) hX hF.1 d_M_kind_24 ml_M_190 cf_M_in cs_M_in rfl (c_M_in) (by omega) (by omega) (by omega) (Nat.le_of_ble_eq_true rfl) ?_
      refine ret_k ?_
      refine g_ifB_ne hX d_M_kind_27 (fun e27 => ?_) (fun e27 => ?_)
      · obtain ⟨y, hy13, rfl, hty⟩ := inN_of ((in_le (by decide)).mp e27) (by decide)
        have hMG : MG (sI w 89 0 (nI 0)) (sG s) := ⟨hR, hL, hOr⟩
        have hS0 : Scr w (sI w 89 0 (nI 0)) := (by repeat (first | exact Scr.rf _ | refine Scr.I9 (by decide) ?_ | refine Scr.I (by decide) ?_ | refine Scr.A (by decide) ?_ | refine Scr.J9 ?_ | refine Scr.J (by decide) ?_ | refine Scr.B (by decide) ?_))
        refine g_aload0 hX d_M_kind_32 ?_
        refine g_iload2 hX d_M_kind_33 ?_
        refine g_callV (As := [_]) hX hF.1 d_M_kind_34 ml_M_544 cf_M_layKinds cv_M_layKinds rfl rfl (c_M_layKinds (w := sI w 89 0 (nI 0)) hMG hW (by omega)) (rcv_obj hX (lv_89 _) rfl rfl) (by omega) (by omega) (by omega) (Nat.le_of_ble_eq_true rfl) ?_
        rintro _ w1 ⟨rfl, hS, hKi⟩
        show G0 _ _ _ _ _ _ _ _
        refine g_istore3 hX d_M_kind_37 rfl (by decide) ?_
        refine g_iload1 hX d_M_kind_38 ?_
        refine g_iconst (v := -1) hX d_M_kind_39 rfl ?_
        refine g_icmp_ne hX d_M_kind_40 (fun e40 => ?_) (fun h => absurd h e7)
        refine g_aload0 hX d_M_kind_47 ?_
        refine g_getF hX d_M_kind_48 fl_M_132 (lv_89 _) ?_
        refine g_iload1 hX d_M_kind_51 ?_
        obtain ⟨x, hx, rfl, -⟩ := inN_of e15 (by omega)
        refine g_iald hX d_M_kind_52 (lv_120 _) rfl (by omega) ?_
        refine g_topi (hKi x hx) ?_
        refine g_iret hX hF d_M_kind_53 (by omega) (by omega) ?_
        refine ⟨?_, h.keep (hS0.tr hS), (hS0.tr hS).1⟩
        rw [kind_b (by omega) hx hn]
      · refine g_iconst (v := -1) hX d_M_kind_30 rfl ?_
        refine g_iret hX hF d_M_kind_31 (by omega) (by omega) ?_
        refine ⟨?_, h.keep (by repeat (first | exact Scr.rf _ | refine Scr.I9 (by decide) ?_ | refine Scr.I (by decide) ?_ | refine Scr.A (by decide) ?_ | refine Scr.J9 ?_ | refine Scr.J (by decide) ?_ | refine Scr.B (by decide) ?_)), (by repeat (first | exact FrM.rf _ | refine FrM.I (by decide) ?_ | refine FrM.A (by decide) ?_ | refine FrM.B (by decide) ?_ | refine FrM.J9 ?_ | refine FrM.J (by decide) ?_))⟩
        rw [kind_no (by first | exact Or.inl ⟨e7, e15⟩ | exact Or.inr (mt (in_le (by decide)).mpr e27))]
