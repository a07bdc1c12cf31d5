def m_M_binds : MR := (⟨"SubgraphDeskModel", "binds", "(I)I"⟩, prog_14_method_47_code, 1, (some .int))
theorem cf_M_binds : CF m_M_binds 1 := ⟨gd 1924 (by decide +kernel) rfl, gd 151 (by decide +kernel) rfl, by decide +kernel, by decide, by decide +kernel⟩
theorem cs_M_binds : CS m_M_binds := gd 1923 (by decide +kernel) rfl
def m_M_emit : MR := (⟨"SubgraphDeskModel", "emit", "(II)V"⟩, prog_14_method_45_code, 3, none)
theorem cf_M_emit : CF m_M_emit 2 := ⟨gd 1912 (by decide +kernel) rfl, gd 151 (by decide +kernel) rfl, by decide +kernel, by decide, by decide +kernel⟩
theorem cv_M_emit : CV m_M_emit := ⟨gd 1911 (by decide +kernel) rfl, gd 90 (by decide +kernel) rfl⟩
def m_M_inner : MR := (⟨"SubgraphDeskModel", "inner", "()I"⟩, prog_14_method_49_code, 3, (some .int))
theorem cf_M_inner : CF m_M_inner 0 := ⟨gd 1932 (by decide +kernel) rfl, gd 151 (by decide +kernel) rfl, by decide +kernel, by decide, by decide +kernel⟩
theorem cv_M_inner : CV m_M_inner := ⟨gd 1931 (by decide +kernel) rfl, gd 94 (by decide +kernel) rfl⟩
def m_M_isCompared : MR := (⟨"SubgraphDeskModel", "isCompared", "()Z"⟩, prog_14_method_50_code, 2, (some .boolean))
theorem cf_M_isCompared : CF m_M_isCompared 0 := ⟨gd 1936 (by decide +kernel) rfl, gd 151 (by decide +kernel) rfl, by decide +kernel, by decide, by decide +kernel⟩
theorem cv_M_isCompared : CV m_M_isCompared := ⟨gd 1935 (by decide +kernel) rfl, gd 95 (by decide +kernel) rfl⟩
def m_M_push : MR := (⟨"SubgraphDeskModel", "push", "(II)V"⟩, prog_14_method_46_code, 3, none)
theorem cf_M_push : CF m_M_push 2 := ⟨gd 1883 (by decide +kernel) rfl, gd 151 (by decide +kernel) rfl, by decide +kernel, by decide, by decide +kernel⟩
theorem cv_M_push : CV m_M_push := ⟨gd 1882 (by decide +kernel) rfl, gd 83 (by decide +kernel) rfl⟩
def m_M_settle : MR := (⟨"SubgraphDeskModel", "settle", "(I)V"⟩, prog_14_method_48_code, 2, none)
theorem cf_M_settle : CF m_M_settle 1 := ⟨gd 1928 (by decide +kernel) rfl, gd 151 (by decide +kernel) rfl, by decide +kernel, by decide, by decide +kernel⟩
theorem cv_M_settle : CV m_M_settle := ⟨gd 1927 (by decide +kernel) rfl, gd 93 (by decide +kernel) rfl⟩
theorem d_M_binds_0 : Dc prog_14_method_47_code 0 (.iload_n 0) 1 1 := ⟨by decide +kernel, rfl⟩
theorem d_M_binds_1 : Dc prog_14_method_47_code 1 (.bipush 31) 2 3 := ⟨by decide +kernel, rfl⟩
theorem d_M_binds_3 : Dj prog_14_method_47_code 3 (.if_icmp .lt 7) 6 7 10 := ⟨by decide +kernel, rfl, rfl⟩
theorem d_M_binds_6 : Dc prog_14_method_47_code 6 (.iconst 0) 1 7 := ⟨by decide +kernel, rfl⟩
theorem d_M_binds_7 : Dj prog_14_method_47_code 7 (.goto 55) 10 55 62 := ⟨by decide +kernel, rfl, rfl⟩
theorem d_M_binds_10 : Dc prog_14_method_47_code 10 (.iload_n 0) 1 11 := ⟨by decide +kernel, rfl⟩
theorem d_M_binds_11 : Dc prog_14_method_47_code 11 (.bipush 30) 2 13 := ⟨by decide +kernel, rfl⟩
theorem d_M_binds_13 : Dj prog_14_method_47_code 13 (.if_icmp .ne 7) 16 7 20 := ⟨by decide +kernel, rfl, rfl⟩
theorem d_M_binds_16 : Dc prog_14_method_47_code 16 (.iconst 1) 1 17 := ⟨by decide +kernel, rfl⟩
theorem d_M_binds_17 : Dj prog_14_method_47_code 17 (.goto 45) 20 45 62 := ⟨by decide +kernel, rfl, rfl⟩
theorem d_M_binds_20 : Dc prog_14_method_47_code 20 (.iload_n 0) 1 21 := ⟨by decide +kernel, rfl⟩
theorem d_M_binds_21 : Dc prog_14_method_47_code 21 (.bipush 29) 2 23 := ⟨by decide +kernel, rfl⟩
theorem d_M_binds_23 : Dj prog_14_method_47_code 23 (.if_icmp .ne 7) 26 7 30 := ⟨by decide +kernel, rfl, rfl⟩
theorem d_M_binds_26 : Dc prog_14_method_47_code 26 (.iconst 2) 1 27 := ⟨by decide +kernel, rfl⟩
theorem d_M_binds_27 : Dj prog_14_method_47_code 27 (.goto 35) 30 35 62 := ⟨by decide +kernel, rfl, rfl⟩
theorem d_M_binds_30 : Dc prog_14_method_47_code 30 (.iload_n 0) 1 31 := ⟨by decide +kernel, rfl⟩
theorem d_M_binds_31 : Dc prog_14_method_47_code 31 (.bipush 28) 2 33 := ⟨by decide +kernel, rfl⟩
theorem d_M_binds_33 : Dj prog_14_method_47_code 33 (.if_icmp .ne 7) 36 7 40 := ⟨by decide +kernel, rfl, rfl⟩
theorem d_M_binds_36 : Dc prog_14_method_47_code 36 (.iconst 3) 1 37 := ⟨by decide +kernel, rfl⟩
theorem d_M_binds_37 : Dj prog_14_method_47_code 37 (.goto 25) 40 25 62 := ⟨by decide +kernel, rfl, rfl⟩
theorem d_M_binds_40 : Dc prog_14_method_47_code 40 (.iload_n 0) 1 41 := ⟨by decide +kernel, rfl⟩
theorem d_M_binds_41 : Dc prog_14_method_47_code 41 (.bipush 25) 2 43 := ⟨by decide +kernel, rfl⟩
theorem d_M_binds_43 : Dj prog_14_method_47_code 43 (.if_icmp .lt 7) 46 7 50 := ⟨by decide +kernel, rfl, rfl⟩
theorem d_M_binds_46 : Dc prog_14_method_47_code 46 (.iconst 4) 1 47 := ⟨by decide +kernel, rfl⟩
theorem d_M_binds_47 : Dj prog_14_method_47_code 47 (.goto 15) 50 15 62 := ⟨by decide +kernel, rfl, rfl⟩
theorem d_M_binds_50 : Dc prog_14_method_47_code 50 (.iload_n 0) 1 51 := ⟨by decide +kernel, rfl⟩
theorem d_M_binds_51 : Dc prog_14_method_47_code 51 (.bipush 22) 2 53 := ⟨by decide +kernel, rfl⟩
theorem d_M_binds_53 : Dj prog_14_method_47_code 53 (.if_icmp .lt 8) 56 8 61 := ⟨by decide +kernel, rfl, rfl⟩
theorem d_M_binds_56 : Dc prog_14_method_47_code 56 (.bipush 6) 2 58 := ⟨by decide +kernel, rfl⟩
theorem d_M_binds_58 : Dj prog_14_method_47_code 58 (.goto 4) 61 4 62 := ⟨by decide +kernel, rfl, rfl⟩
theorem d_M_binds_61 : Dc prog_14_method_47_code 61 (.iconst 5) 1 62 := ⟨by decide +kernel, rfl⟩
theorem d_M_binds_62 : Dc prog_14_method_47_code 62 (.ireturn) 1 63 := ⟨by decide +kernel, rfl⟩
theorem d_M_emit_0 : Dc prog_14_method_45_code 0 (.aload_n 0) 1 1 := ⟨by decide +kernel, rfl⟩
theorem d_M_emit_1 : Dc prog_14_method_45_code 1 (.getfield 45) 3 4 := ⟨by decide +kernel, rfl⟩
theorem d_M_emit_4 : Dc prog_14_method_45_code 4 (.aload_n 0) 1 5 := ⟨by decide +kernel, rfl⟩
theorem d_M_emit_5 : Dc prog_14_method_45_code 5 (.getfield 295) 3 8 := ⟨by decide +kernel, rfl⟩
theorem d_M_emit_8 : Dc prog_14_method_45_code 8 (.iload_n 1) 1 9 := ⟨by decide +kernel, rfl⟩
theorem d_M_emit_9 : Dc prog_14_method_45_code 9 (.iastore) 1 10 := ⟨by decide +kernel, rfl⟩
theorem d_M_emit_10 : Dc prog_14_method_45_code 10 (.aload_n 0) 1 11 := ⟨by decide +kernel, rfl⟩
theorem d_M_emit_11 : Dc prog_14_method_45_code 11 (.getfield 48) 3 14 := ⟨by decide +kernel, rfl⟩
theorem d_M_emit_14 : Dc prog_14_method_45_code 14 (.aload_n 0) 1 15 := ⟨by decide +kernel, rfl⟩
theorem d_M_emit_15 : Dc prog_14_method_45_code 15 (.getfield 295) 3 18 := ⟨by decide +kernel, rfl⟩
theorem d_M_emit_18 : Dc prog_14_method_45_code 18 (.iload_n 2) 1 19 := ⟨by decide +kernel, rfl⟩
theorem d_M_emit_19 : Dc prog_14_method_45_code 19 (.iastore) 1 20 := ⟨by decide +kernel, rfl⟩
theorem d_M_emit_20 : Dc prog_14_method_45_code 20 (.aload_n 0) 1 21 := ⟨by decide +kernel, rfl⟩
theorem d_M_emit_21 : Dc prog_14_method_45_code 21 (.dup) 1 22 := ⟨by decide +kernel, rfl⟩
theorem d_M_emit_22 : Dc prog_14_method_45_code 22 (.getfield 295) 3 25 := ⟨by decide +kernel, rfl⟩
theorem d_M_emit_25 : Dc prog_14_method_45_code 25 (.iconst 1) 1 26 := ⟨by decide +kernel, rfl⟩
theorem d_M_emit_26 : Dc prog_14_method_45_code 26 (.iadd) 1 27 := ⟨by decide +kernel, rfl⟩
theorem d_M_emit_27 : Dc prog_14_method_45_code 27 (.putfield 295) 3 30 := ⟨by decide +kernel, rfl⟩
theorem d_M_emit_30 : Dc prog_14_method_45_code 30 (.return_) 1 31 := ⟨by decide +kernel, rfl⟩
theorem d_M_inner_0 : Dc prog_14_method_49_code 0 (.iconst (-1)) 1 1 := ⟨by decide +kernel, rfl⟩
theorem d_M_inner_1 : Dc prog_14_method_49_code 1 (.istore_n 1) 1 2 := ⟨by decide +kernel, rfl⟩
theorem d_M_inner_2 : Dc prog_14_method_49_code 2 (.iconst 0) 1 3 := ⟨by decide +kernel, rfl⟩
theorem d_M_inner_3 : Dc prog_14_method_49_code 3 (.istore_n 2) 1 4 := ⟨by decide +kernel, rfl⟩
theorem d_M_inner_4 : Dc prog_14_method_49_code 4 (.iload_n 2) 1 5 := ⟨by decide +kernel, rfl⟩
theorem d_M_inner_5 : Dc prog_14_method_49_code 5 (.aload_n 0) 1 6 := ⟨by decide +kernel, rfl⟩
theorem d_M_inner_6 : Dc prog_14_method_49_code 6 (.getfield 298) 3 9 := ⟨by decide +kernel, rfl⟩
theorem d_M_inner_9 : Dj prog_14_method_49_code 9 (.if_icmp .ge 31) 12 31 40 := ⟨by decide +kernel, rfl, rfl⟩
theorem d_M_inner_12 : Dc prog_14_method_49_code 12 (.aload_n 0) 1 13 := ⟨by decide +kernel, rfl⟩
theorem d_M_inner_13 : Dc prog_14_method_49_code 13 (.getfield 51) 3 16 := ⟨by decide +kernel, rfl⟩
theorem d_M_inner_16 : Dc prog_14_method_49_code 16 (.iload_n 2) 1 17 := ⟨by decide +kernel, rfl⟩
theorem d_M_inner_17 : Dc prog_14_method_49_code 17 (.iaload) 1 18 := ⟨by decide +kernel, rfl⟩
theorem d_M_inner_18 : Dc prog_14_method_49_code 18 (.bipush 31) 2 20 := ⟨by decide +kernel, rfl⟩
theorem d_M_inner_20 : Dj prog_14_method_49_code 20 (.if_icmp .lt 12) 23 12 32 := ⟨by decide +kernel, rfl, rfl⟩
theorem d_M_inner_23 : Dc prog_14_method_49_code 23 (.aload_n 0) 1 24 := ⟨by decide +kernel, rfl⟩
theorem d_M_inner_24 : Dc prog_14_method_49_code 24 (.getfield 51) 3 27 := ⟨by decide +kernel, rfl⟩
theorem d_M_inner_27 : Dc prog_14_method_49_code 27 (.iload_n 2) 1 28 := ⟨by decide +kernel, rfl⟩
theorem d_M_inner_28 : Dc prog_14_method_49_code 28 (.iaload) 1 29 := ⟨by decide +kernel, rfl⟩
theorem d_M_inner_29 : Dj prog_14_method_49_code 29 (.goto 4) 32 4 33 := ⟨by decide +kernel, rfl, rfl⟩
theorem d_M_inner_32 : Dc prog_14_method_49_code 32 (.iload_n 1) 1 33 := ⟨by decide +kernel, rfl⟩
theorem d_M_inner_33 : Dc prog_14_method_49_code 33 (.istore_n 1) 1 34 := ⟨by decide +kernel, rfl⟩
theorem d_M_inner_34 : Dc prog_14_method_49_code 34 (.iinc 2 1) 3 37 := ⟨by decide +kernel, rfl⟩
theorem d_M_inner_37 : Dj prog_14_method_49_code 37 (.goto (-33)) 40 (-33) 4 := ⟨by decide +kernel, rfl, rfl⟩
theorem d_M_inner_40 : Dc prog_14_method_49_code 40 (.iload_n 1) 1 41 := ⟨by decide +kernel, rfl⟩
theorem d_M_inner_41 : Dc prog_14_method_49_code 41 (.ireturn) 1 42 := ⟨by decide +kernel, rfl⟩
theorem d_M_isCompared_0 : Dc prog_14_method_50_code 0 (.aload_n 0) 1 1 := ⟨by decide +kernel, rfl⟩
theorem d_M_isCompared_1 : Dc prog_14_method_50_code 1 (.getfield 298) 3 4 := ⟨by decide +kernel, rfl⟩
theorem d_M_isCompared_4 : Dc prog_14_method_50_code 4 (.iconst 1) 1 5 := ⟨by decide +kernel, rfl⟩
theorem d_M_isCompared_5 : Dc prog_14_method_50_code 5 (.isub) 1 6 := ⟨by decide +kernel, rfl⟩
theorem d_M_isCompared_6 : Dc prog_14_method_50_code 6 (.istore_n 1) 1 7 := ⟨by decide +kernel, rfl⟩
theorem d_M_isCompared_7 : Dc prog_14_method_50_code 7 (.iload_n 1) 1 8 := ⟨by decide +kernel, rfl⟩
theorem d_M_isCompared_8 : Dj prog_14_method_50_code 8 (.ifCond .lt 28) 11 28 36 := ⟨by decide +kernel, rfl, rfl⟩
theorem d_M_isCompared_11 : Dc prog_14_method_50_code 11 (.aload_n 0) 1 12 := ⟨by decide +kernel, rfl⟩
theorem d_M_isCompared_12 : Dc prog_14_method_50_code 12 (.getfield 51) 3 15 := ⟨by decide +kernel, rfl⟩
theorem d_M_isCompared_15 : Dc prog_14_method_50_code 15 (.iload_n 1) 1 16 := ⟨by decide +kernel, rfl⟩
theorem d_M_isCompared_16 : Dc prog_14_method_50_code 16 (.iaload) 1 17 := ⟨by decide +kernel, rfl⟩
theorem d_M_isCompared_17 : Dc prog_14_method_50_code 17 (.i2l) 1 18 := ⟨by decide +kernel, rfl⟩
theorem d_M_isCompared_18 : Dc prog_14_method_50_code 18 (.ldc2_w 308) 3 21 := ⟨by decide +kernel, rfl⟩
theorem d_M_isCompared_21 : Dc prog_14_method_50_code 21 (.ldc2_w 310) 3 24 := ⟨by decide +kernel, rfl⟩
theorem d_M_isCompared_24 : Dc prog_14_method_50_code 24 (.invokestatic 190) 3 27 := ⟨by decide +kernel, rfl⟩
theorem d_M_isCompared_27 : Dj prog_14_method_50_code 27 (.ifCond .eq 9) 30 9 36 := ⟨by decide +kernel, rfl, rfl⟩
theorem d_M_isCompared_30 : Dc prog_14_method_50_code 30 (.iinc 1 (-1)) 3 33 := ⟨by decide +kernel, rfl⟩
theorem d_M_isCompared_33 : Dj prog_14_method_50_code 33 (.goto (-26)) 36 (-26) 7 := ⟨by decide +kernel, rfl, rfl⟩
theorem d_M_isCompared_36 : Dc prog_14_method_50_code 36 (.iload_n 1) 1 37 := ⟨by decide +kernel, rfl⟩
theorem d_M_isCompared_37 : Dj prog_14_method_50_code 37 (.ifCond .lt 26) 40 26 63 := ⟨by decide +kernel, rfl, rfl⟩
theorem d_M_isCompared_40 : Dc prog_14_method_50_code 40 (.aload_n 0) 1 41 := ⟨by decide +kernel, rfl⟩
theorem d_M_isCompared_41 : Dc prog_14_method_50_code 41 (.getfield 51) 3 44 := ⟨by decide +kernel, rfl⟩
theorem d_M_isCompared_44 : Dc prog_14_method_50_code 44 (.iload_n 1) 1 45 := ⟨by decide +kernel, rfl⟩
theorem d_M_isCompared_45 : Dc prog_14_method_50_code 45 (.iaload) 1 46 := ⟨by decide +kernel, rfl⟩
theorem d_M_isCompared_46 : Dc prog_14_method_50_code 46 (.i2l) 1 47 := ⟨by decide +kernel, rfl⟩
theorem d_M_isCompared_47 : Dc prog_14_method_50_code 47 (.ldc2_w 312) 3 50 := ⟨by decide +kernel, rfl⟩
theorem d_M_isCompared_50 : Dc prog_14_method_50_code 50 (.ldc2_w 314) 3 53 := ⟨by decide +kernel, rfl⟩
theorem d_M_isCompared_53 : Dc prog_14_method_50_code 53 (.invokestatic 190) 3 56 := ⟨by decide +kernel, rfl⟩
theorem d_M_isCompared_56 : Dj prog_14_method_50_code 56 (.ifCond .eq 7) 59 7 63 := ⟨by decide +kernel, rfl, rfl⟩
theorem d_M_isCompared_59 : Dc prog_14_method_50_code 59 (.iconst 1) 1 60 := ⟨by decide +kernel, rfl⟩
theorem d_M_isCompared_60 : Dj prog_14_method_50_code 60 (.goto 4) 63 4 64 := ⟨by decide +kernel, rfl, rfl⟩
theorem d_M_isCompared_63 : Dc prog_14_method_50_code 63 (.iconst 0) 1 64 := ⟨by decide +kernel, rfl⟩
theorem d_M_isCompared_64 : Dc prog_14_method_50_code 64 (.ireturn) 1 65 := ⟨by decide +kernel, rfl⟩
theorem d_M_push_0 : Dc prog_14_method_46_code 0 (.aload_n 0) 1 1 := ⟨by decide +kernel, rfl⟩
theorem d_M_push_1 : Dc prog_14_method_46_code 1 (.getfield 51) 3 4 := ⟨by decide +kernel, rfl⟩
theorem d_M_push_4 : Dc prog_14_method_46_code 4 (.aload_n 0) 1 5 := ⟨by decide +kernel, rfl⟩
theorem d_M_push_5 : Dc prog_14_method_46_code 5 (.getfield 298) 3 8 := ⟨by decide +kernel, rfl⟩
theorem d_M_push_8 : Dc prog_14_method_46_code 8 (.iload_n 1) 1 9 := ⟨by decide +kernel, rfl⟩
theorem d_M_push_9 : Dc prog_14_method_46_code 9 (.iastore) 1 10 := ⟨by decide +kernel, rfl⟩
theorem d_M_push_10 : Dc prog_14_method_46_code 10 (.aload_n 0) 1 11 := ⟨by decide +kernel, rfl⟩
theorem d_M_push_11 : Dc prog_14_method_46_code 11 (.getfield 54) 3 14 := ⟨by decide +kernel, rfl⟩
theorem d_M_push_14 : Dc prog_14_method_46_code 14 (.aload_n 0) 1 15 := ⟨by decide +kernel, rfl⟩
theorem d_M_push_15 : Dc prog_14_method_46_code 15 (.getfield 298) 3 18 := ⟨by decide +kernel, rfl⟩
theorem d_M_push_18 : Dc prog_14_method_46_code 18 (.iload_n 2) 1 19 := ⟨by decide +kernel, rfl⟩
theorem d_M_push_19 : Dc prog_14_method_46_code 19 (.iastore) 1 20 := ⟨by decide +kernel, rfl⟩
theorem d_M_push_20 : Dc prog_14_method_46_code 20 (.aload_n 0) 1 21 := ⟨by decide +kernel, rfl⟩
theorem d_M_push_21 : Dc prog_14_method_46_code 21 (.dup) 1 22 := ⟨by decide +kernel, rfl⟩
theorem d_M_push_22 : Dc prog_14_method_46_code 22 (.getfield 298) 3 25 := ⟨by decide +kernel, rfl⟩
theorem d_M_push_25 : Dc prog_14_method_46_code 25 (.iconst 1) 1 26 := ⟨by decide +kernel, rfl⟩
theorem d_M_push_26 : Dc prog_14_method_46_code 26 (.iadd) 1 27 := ⟨by decide +kernel, rfl⟩
theorem d_M_push_27 : Dc prog_14_method_46_code 27 (.putfield 298) 3 30 := ⟨by decide +kernel, rfl⟩
theorem d_M_push_30 : Dc prog_14_method_46_code 30 (.return_) 1 31 := ⟨by decide +kernel, rfl⟩
theorem d_M_settle_0 : Dc prog_14_method_48_code 0 (.aload_n 0) 1 1 := ⟨by decide +kernel, rfl⟩
theorem d_M_settle_1 : Dc prog_14_method_48_code 1 (.getfield 298) 3 4 := ⟨by decide +kernel, rfl⟩
theorem d_M_settle_4 : Dj prog_14_method_48_code 4 (.ifCond .le 97) 7 97 101 := ⟨by decide +kernel, rfl, rfl⟩
theorem d_M_settle_7 : Dc prog_14_method_48_code 7 (.aload_n 0) 1 8 := ⟨by decide +kernel, rfl⟩
theorem d_M_settle_8 : Dc prog_14_method_48_code 8 (.getfield 51) 3 11 := ⟨by decide +kernel, rfl⟩
theorem d_M_settle_11 : Dc prog_14_method_48_code 11 (.aload_n 0) 1 12 := ⟨by decide +kernel, rfl⟩
theorem d_M_settle_12 : Dc prog_14_method_48_code 12 (.getfield 298) 3 15 := ⟨by decide +kernel, rfl⟩
theorem d_M_settle_15 : Dc prog_14_method_48_code 15 (.iconst 1) 1 16 := ⟨by decide +kernel, rfl⟩
theorem d_M_settle_16 : Dc prog_14_method_48_code 16 (.isub) 1 17 := ⟨by decide +kernel, rfl⟩
theorem d_M_settle_17 : Dc prog_14_method_48_code 17 (.iaload) 1 18 := ⟨by decide +kernel, rfl⟩
theorem d_M_settle_18 : Dc prog_14_method_48_code 18 (.invokestatic 301) 3 21 := ⟨by decide +kernel, rfl⟩
theorem d_M_settle_21 : Dc prog_14_method_48_code 21 (.iload_n 1) 1 22 := ⟨by decide +kernel, rfl⟩
theorem d_M_settle_22 : Dj prog_14_method_48_code 22 (.if_icmp .lt 79) 25 79 101 := ⟨by decide +kernel, rfl, rfl⟩
theorem d_M_settle_25 : Dc prog_14_method_48_code 25 (.aload_n 0) 1 26 := ⟨by decide +kernel, rfl⟩
theorem d_M_settle_26 : Dc prog_14_method_48_code 26 (.dup) 1 27 := ⟨by decide +kernel, rfl⟩
theorem d_M_settle_27 : Dc prog_14_method_48_code 27 (.getfield 298) 3 30 := ⟨by decide +kernel, rfl⟩
theorem d_M_settle_30 : Dc prog_14_method_48_code 30 (.iconst 1) 1 31 := ⟨by decide +kernel, rfl⟩
theorem d_M_settle_31 : Dc prog_14_method_48_code 31 (.isub) 1 32 := ⟨by decide +kernel, rfl⟩
theorem d_M_settle_32 : Dc prog_14_method_48_code 32 (.putfield 298) 3 35 := ⟨by decide +kernel, rfl⟩
theorem d_M_settle_35 : Dc prog_14_method_48_code 35 (.aload_n 0) 1 36 := ⟨by decide +kernel, rfl⟩
theorem d_M_settle_36 : Dc prog_14_method_48_code 36 (.getfield 51) 3 39 := ⟨by decide +kernel, rfl⟩
theorem d_M_settle_39 : Dc prog_14_method_48_code 39 (.aload_n 0) 1 40 := ⟨by decide +kernel, rfl⟩
theorem d_M_settle_40 : Dc prog_14_method_48_code 40 (.getfield 298) 3 43 := ⟨by decide +kernel, rfl⟩
theorem d_M_settle_43 : Dc prog_14_method_48_code 43 (.iaload) 1 44 := ⟨by decide +kernel, rfl⟩
theorem d_M_settle_44 : Dc prog_14_method_48_code 44 (.bipush 29) 2 46 := ⟨by decide +kernel, rfl⟩
theorem d_M_settle_46 : Dj prog_14_method_48_code 46 (.if_icmp .eq 17) 49 17 63 := ⟨by decide +kernel, rfl, rfl⟩
theorem d_M_settle_49 : Dc prog_14_method_48_code 49 (.aload_n 0) 1 50 := ⟨by decide +kernel, rfl⟩
theorem d_M_settle_50 : Dc prog_14_method_48_code 50 (.getfield 51) 3 53 := ⟨by decide +kernel, rfl⟩
theorem d_M_settle_53 : Dc prog_14_method_48_code 53 (.aload_n 0) 1 54 := ⟨by decide +kernel, rfl⟩
theorem d_M_settle_54 : Dc prog_14_method_48_code 54 (.getfield 298) 3 57 := ⟨by decide +kernel, rfl⟩
theorem d_M_settle_57 : Dc prog_14_method_48_code 57 (.iaload) 1 58 := ⟨by decide +kernel, rfl⟩
theorem d_M_settle_58 : Dc prog_14_method_48_code 58 (.bipush 30) 2 60 := ⟨by decide +kernel, rfl⟩
theorem d_M_settle_60 : Dj prog_14_method_48_code 60 (.if_icmp .ne 24) 63 24 84 := ⟨by decide +kernel, rfl, rfl⟩
theorem d_M_settle_63 : Dc prog_14_method_48_code 63 (.aload_n 0) 1 64 := ⟨by decide +kernel, rfl⟩
theorem d_M_settle_64 : Dc prog_14_method_48_code 64 (.getfield 48) 3 67 := ⟨by decide +kernel, rfl⟩
theorem d_M_settle_67 : Dc prog_14_method_48_code 67 (.aload_n 0) 1 68 := ⟨by decide +kernel, rfl⟩
theorem d_M_settle_68 : Dc prog_14_method_48_code 68 (.getfield 54) 3 71 := ⟨by decide +kernel, rfl⟩
theorem d_M_settle_71 : Dc prog_14_method_48_code 71 (.aload_n 0) 1 72 := ⟨by decide +kernel, rfl⟩
theorem d_M_settle_72 : Dc prog_14_method_48_code 72 (.getfield 298) 3 75 := ⟨by decide +kernel, rfl⟩
theorem d_M_settle_75 : Dc prog_14_method_48_code 75 (.iaload) 1 76 := ⟨by decide +kernel, rfl⟩
theorem d_M_settle_76 : Dc prog_14_method_48_code 76 (.aload_n 0) 1 77 := ⟨by decide +kernel, rfl⟩
theorem d_M_settle_77 : Dc prog_14_method_48_code 77 (.getfield 295) 3 80 := ⟨by decide +kernel, rfl⟩
theorem d_M_settle_80 : Dc prog_14_method_48_code 80 (.iastore) 1 81 := ⟨by decide +kernel, rfl⟩
theorem d_M_settle_81 : Dj prog_14_method_48_code 81 (.goto (-81)) 84 (-81) 0 := ⟨by decide +kernel, rfl, rfl⟩
theorem d_M_settle_84 : Dc prog_14_method_48_code 84 (.aload_n 0) 1 85 := ⟨by decide +kernel, rfl⟩
theorem d_M_settle_85 : Dc prog_14_method_48_code 85 (.aload_n 0) 1 86 := ⟨by decide +kernel, rfl⟩
theorem d_M_settle_86 : Dc prog_14_method_48_code 86 (.getfield 51) 3 89 := ⟨by decide +kernel, rfl⟩
theorem d_M_settle_89 : Dc prog_14_method_48_code 89 (.aload_n 0) 1 90 := ⟨by decide +kernel, rfl⟩
theorem d_M_settle_90 : Dc prog_14_method_48_code 90 (.getfield 298) 3 93 := ⟨by decide +kernel, rfl⟩
theorem d_M_settle_93 : Dc prog_14_method_48_code 93 (.iaload) 1 94 := ⟨by decide +kernel, rfl⟩
theorem d_M_settle_94 : Dc prog_14_method_48_code 94 (.iconst 0) 1 95 := ⟨by decide +kernel, rfl⟩
theorem d_M_settle_95 : Dc prog_14_method_48_code 95 (.invokevirtual 304) 3 98 := ⟨by decide +kernel, rfl⟩
theorem d_M_settle_98 : Dj prog_14_method_48_code 98 (.goto (-98)) 101 (-98) 0 := ⟨by decide +kernel, rfl, rfl⟩
theorem d_M_settle_101 : Dc prog_14_method_48_code 101 (.return_) 1 102 := ⟨by decide +kernel, rfl⟩
theorem fl_M_51 : FL "SubgraphDeskModel" 51 12 27 true (.array .int) (3, 13) := ⟨R_M, F_M, 69, ty_M, rfl, rfl, in_M, tyok_M, nm_M, by decide, gd 1499 (by decide +kernel) rfl, rfl, rfl, rfl⟩
theorem fl_M_54 : FL "SubgraphDeskModel" 54 12 28 true (.array .int) (3, 14) := ⟨R_M, F_M, 69, ty_M, rfl, rfl, in_M, tyok_M, nm_M, by decide, gd 1500 (by decide +kernel) rfl, rfl, rfl, rfl⟩
theorem fl_M_295 : FL "SubgraphDeskModel" 295 12 23 false .int (0, 0) := ⟨R_M, F_M, 69, ty_M, rfl, rfl, in_M, tyok_M, nm_M, by decide, gd 1495 (by decide +kernel) rfl, rfl, rfl, rfl⟩
theorem fl_M_298 : FL "SubgraphDeskModel" 298 12 29 false .int (0, 0) := ⟨R_M, F_M, 69, ty_M, rfl, rfl, in_M, tyok_M, nm_M, by decide, gd 1501 (by decide +kernel) rfl, rfl, rfl, rfl⟩
theorem ml_M_301 : Cond.methodLink "SubgraphDeskModel" 301 m_M_binds.1 ∈ lw_gd := gd 1922 (by decide +kernel) rfl
theorem ml_M_304 : Cond.methodLink "SubgraphDeskModel" 304 m_M_emit.1 ∈ lw_gd := gd 1909 (by decide +kernel) rfl
theorem k_M_310 : Cond.constantLong "SubgraphDeskModel" 310 (24) ∈ lw_gd := gd 1938 (by decide +kernel) rfl
theorem k_M_312 : Cond.constantLong "SubgraphDeskModel" 312 (25) ∈ lw_gd := gd 1939 (by decide +kernel) rfl
theorem k_M_314 : Cond.constantLong "SubgraphDeskModel" 314 (27) ∈ lw_gd := gd 1940 (by decide +kernel) rfl
/-! ===== the reference's code and pile while it reads ===== -/
def CodeP (w : Mem) (c : List (Nat × Nat)) : Prop := rI w 89 23 = nI c.length ∧ ∀ k, k < c.length → rI w 100 k = nI (cO c k) ∧ rI w 101 k = nI (cA c k)
def PileP (w : Mem) (s : List (Nat × Nat)) : Prop := rI w 89 29 = nI s.length ∧ ∀ k, k < s.length → rI w 102 k = nI (cO s k) ∧ rI w 103 k = nI (cA s k)
def bindsN (op : Nat) : Nat := if 31 ≤ op then 0 else if op = 30 then 1 else if op = 29 then 2 else if op = 28 then 3 else if 25 ≤ op then 4 else if 22 ≤ op then 6 else 5
def innK (s : List (Nat × Nat)) : Nat → Int32
  | 0 => -1
  | k + 1 => if 31 ≤ cO s k then nI (cO s k) else innK s k
def cmpK (s : List (Nat × Nat)) : Nat → Bool
  | 0 => false
  | k + 1 => if 20 ≤ cO s k ∧ cO s k ≤ 24 then cmpK s k else decide (25 ≤ cO s k ∧ cO s k ≤ 27)
/-- what stands on the pile is an operation or a bracket; jumps that are pending lie in the code -/
def PileW (c s : List (Nat × Nat)) : Prop := c.length + s.length ≤ 400 ∧ ∀ q ∈ s, q.1 < 33 ∧ ((q.1 = 29 ∨ q.1 = 30) → q.2 < c.length)
theorem cO_mem {s : List (Nat × Nat)} {k : Nat} (h : k < s.length) : (cO s k, cA s k) ∈ s := by
  unfold cO cA
  rw [List.getD_eq_getElem?_getD, List.getElem?_eq_getElem h]
  exact List.getElem_mem h
theorem CodeP.app {w : Mem} {c : List (Nat × Nat)} {q : Nat × Nat} (h : CodeP w c) : CodeP (sI (sI (sI w 100 c.length (nI q.1)) 101 c.length (nI q.2)) 89 23 (nI (c.length + 1))) (c ++ [q]) := by
  refine ⟨by rw [rI_sI, upd_eq, if_pos rfl, List.length_append]; rfl, fun k hk => ?_⟩
  rw [List.length_append, List.length_singleton] at hk
  have e1 : rI (sI (sI (sI w 100 c.length (nI q.1)) 101 c.length (nI q.2)) 89 23 (nI (c.length + 1))) 100 = upd (rI w 100) c.length (nI q.1) := by rw [rI_sI_ne _ _ _ (by decide), rI_sI_ne _ _ _ (by decide), rI_sI]
  have e2 : rI (sI (sI (sI w 100 c.length (nI q.1)) 101 c.length (nI q.2)) 89 23 (nI (c.length + 1))) 101 = upd (rI w 101) c.length (nI q.2) := by rw [rI_sI_ne _ _ _ (by decide), rI_sI, rI_sI_ne _ _ _ (by decide)]
  rw [e1, e2, upd_eq, upd_eq]
  by_cases e : k = c.length
  · rw [if_pos e, if_pos e, e, cO_last.1, cO_last.2]; exact ⟨rfl, rfl⟩
  · rw [if_neg e, if_neg e, (cO_app (by omega)).1, (cO_app (by omega)).2]; exact h.2 k (by omega)
theorem PileP.app {w : Mem} {s : List (Nat × Nat)} {q : Nat × Nat} (h : PileP w s) : PileP (sI (sI (sI w 102 s.length (nI q.1)) 103 s.length (nI q.2)) 89 29 (nI (s.length + 1))) (s ++ [q]) := by
  refine ⟨by rw [rI_sI, upd_eq, if_pos rfl, List.length_append]; rfl, fun k hk => ?_⟩
  rw [List.length_append, List.length_singleton] at hk
  have e1 : rI (sI (sI (sI w 102 s.length (nI q.1)) 103 s.length (nI q.2)) 89 29 (nI (s.length + 1))) 102 = upd (rI w 102) s.length (nI q.1) := by rw [rI_sI_ne _ _ _ (by decide), rI_sI_ne _ _ _ (by decide), rI_sI]
  have e2 : rI (sI (sI (sI w 102 s.length (nI q.1)) 103 s.length (nI q.2)) 89 29 (nI (s.length + 1))) 103 = upd (rI w 103) s.length (nI q.2) := by rw [rI_sI_ne _ _ _ (by decide), rI_sI, rI_sI_ne _ _ _ (by decide)]
  rw [e1, e2, upd_eq, upd_eq]
  by_cases e : k = s.length
  · rw [if_pos e, if_pos e, e, cO_last.1, cO_last.2]; exact ⟨rfl, rfl⟩
  · rw [if_neg e, if_neg e, (cO_app (by omega)).1, (cO_app (by omega)).2]; exact h.2 k (by omega)
theorem PileP.less {w : Mem} {s x : List (Nat × Nat)} (h : PileP w (s ++ x)) : PileP (sI w 89 29 (nI s.length)) s := by
  refine ⟨by rw [rI_sI, upd_eq, if_pos rfl], fun k hk => ?_⟩
  rw [rI_sI_ne _ _ _ (by decide), rI_sI_ne _ _ _ (by decide)]
  have := h.2 k (by rw [List.length_append]; omega)
  rw [(cO_app hk).1, (cO_app hk).2] at this
  exact this
theorem CodeP.o {w : Mem} {c : List (Nat × Nat)} {o k : Nat} {x : Int32} (h : CodeP w c) (h1 : o ≠ 100) (h2 : o ≠ 101) (h3 : o ≠ 89 ∨ k ≠ 23) : CodeP (sI w o k x) c := by
  refine ⟨?_, fun j hj => by rw [rI_sI_ne _ _ _ (Ne.symm h1), rI_sI_ne _ _ _ (Ne.symm h2)]; exact h.2 j hj⟩
  by_cases e : o = 89
  · subst e; rw [rI_sI, upd_eq, if_neg (by omega)]; exact h.1
  · rw [rI_sI_ne _ _ _ (Ne.symm e)]; exact h.1
theorem PileP.o {w : Mem} {c : List (Nat × Nat)} {o k : Nat} {x : Int32} (h : PileP w c) (h1 : o ≠ 102) (h2 : o ≠ 103) (h3 : o ≠ 89 ∨ k ≠ 29) : PileP (sI w o k x) c := by
  refine ⟨?_, fun j hj => by rw [rI_sI_ne _ _ _ (Ne.symm h1), rI_sI_ne _ _ _ (Ne.symm h2)]; exact h.2 j hj⟩
  by_cases e : o = 89
  · subst e; rw [rI_sI, upd_eq, if_neg (by omega)]; exact h.1
  · rw [rI_sI_ne _ _ _ (Ne.symm e)]; exact h.1
theorem CodeP.set {w : Mem} {c : List (Nat × Nat)} {k : Nat} (h : CodeP w c) (hk : k < c.length) : CodeP (sI w 101 k (nI c.length)) (c.set k (cO c k, c.length)) := by
  refine ⟨by rw [rI_sI_ne _ _ _ (by decide), List.length_set]; exact h.1, fun j hj => ?_⟩
  rw [List.length_set] at hj
  rw [rI_sI_ne _ _ _ (by decide), rI_sI, upd_eq]
  by_cases e : j = k
  · rw [if_pos e, e, (cO_at hk).1, (cO_at hk).2]; exact ⟨(h.2 k hk).1, rfl⟩
  · rw [if_neg e, (cO_set e).1, (cO_set e).2]; exact h.2 j hj
theorem bindsN_le (op : Nat) : bindsN op ≤ 6 := by
  unfold bindsN
  repeat (first | omega | split)
/-- cells that settling touches -/
def FrQ (w w2 : Mem) : Prop := (∀ a, a ≠ 89 → a ≠ 100 → a ≠ 101 → rI w2 a = rI w a) ∧ (∀ k, k ≠ 23 → k ≠ 29 → rI w2 89 k = rI w 89 k) ∧ w2.2 = w.2
theorem FrQ.rf (w : Mem) : FrQ w w := ⟨fun _ _ _ _ => rfl, fun _ _ _ => rfl, rfl⟩
theorem FrQ.tr {a b c : Mem} (h : FrQ a b) (h2 : FrQ b c) : FrQ a c := ⟨fun x h1 h3 h4 => (h2.1 x h1 h3 h4).trans (h.1 x h1 h3 h4), fun k h1 h3 => (h2.2.1 k h1 h3).trans (h.2.1 k h1 h3), h2.2.2.trans h.2.2⟩
theorem FrQ.I {w w2 : Mem} {o k : Nat} {x : Int32} (ho : o = 100 ∨ o = 101 ∨ (o = 89 ∧ (k = 23 ∨ k = 29))) (h : FrQ w w2) : FrQ w (sI w2 o k x) := by
  refine ⟨fun a h1 h2 h3 => by rw [rI_sI_ne _ _ _ (by omega)]; exact h.1 a h1 h2 h3, fun j h1 h2 => ?_, h.2.2⟩
  by_cases e : o = 89
  · subst e; rw [rI_sI, upd_eq, if_neg (by omega)]; exact h.2.1 j h1 h2
  · rw [rI_sI_ne _ _ _ (Ne.symm e)]; exact h.2.1 j h1 h2
theorem in_NN {a b c : Nat} (ha : a < 1000000) (hb : b < 1000000) (hc : c < 1000000) : (lN b ≤ lN a ∧ lN a ≤ lN c) ↔ (b ≤ a ∧ a ≤ c) := by
  rw [lI_nat, lI_nat, lI_nat, lI_le (by omega) (by omega), lI_le (by omega) (by omega)]
  omega
theorem c_M_emit {E : EV} {w : Mem} {m a b : Nat} (h : rI w 89 23 = nI m) (hm : m < 400) : T E m_M_emit 0 0 0 [.ref 89, .int (nI a), .int (nI b)] w (Ret none (sI (sI (sI w 100 m (nI a)) 101 m (nI b)) 89 23 (nI (m + 1)))) := by
  refine T_of (L := [.ref 89, .int (nI a), .int (nI b)]) cf_M_emit rfl (Nat.le_of_ble_eq_true rfl) (fun X hX hF => ?_)
  refine g_aload0 hX d_M_emit_0 ?_
  refine g_getF hX d_M_emit_1 fl_M_45 (lv_89 _) ?_
  refine g_aload0 hX d_M_emit_4 ?_
  refine g_getI hX d_M_emit_5 fl_M_295 (lv_89 _) ?_
  refine g_topi h ?_
  refine g_iload1 hX d_M_emit_8 ?_
  refine g_iast hX d_M_emit_9 (lv_100 _) rfl hm ?_
  refine g_aload0 hX d_M_emit_10 ?_
  refine g_getF hX d_M_emit_11 fl_M_48 (lv_89 _) ?_
  refine g_aload0 hX d_M_emit_14 ?_
  refine g_getI hX d_M_emit_15 fl_M_295 (lv_89 _) ?_
  refine g_topi (show rI (sI w 100 m (nI a)) 89 23 = nI m from h) ?_
  refine g_iload2 hX d_M_emit_18 ?_
  refine g_iast hX d_M_emit_19 (lv_101 _) rfl hm ?_
  refine g_aload0 hX d_M_emit_20 ?_
  refine g_dup hX d_M_emit_21 rfl ?_
  refine g_getI hX d_M_emit_22 fl_M_295 (lv_89 _) ?_
  refine g_topi (show rI (sI (sI w 100 m (nI a)) 101 m (nI b)) 89 23 = nI m from h) ?_
  refine g_iconst (v := nI 1) hX d_M_emit_25 rfl ?_
  refine g_iaddN hX d_M_emit_26 ?_
  refine g_putI hX d_M_emit_27 fl_M_295 (lv_89 _) ?_
  refine g_vret hX hF d_M_emit_30 (by omega) (by omega) ?_
  exact ⟨rfl, rfl⟩
theorem c_M_push {E : EV} {w : Mem} {m a b : Nat} (h : rI w 89 29 = nI m) (hm : m < 400) : T E m_M_push 0 0 0 [.ref 89, .int (nI a), .int (nI b)] w (Ret none (sI (sI (sI w 102 m (nI a)) 103 m (nI b)) 89 29 (nI (m + 1)))) := by
  refine T_of (L := [.ref 89, .int (nI a), .int (nI b)]) cf_M_push rfl (Nat.le_of_ble_eq_true rfl) (fun X hX hF => ?_)
  refine g_aload0 hX d_M_push_0 ?_
  refine g_getF hX d_M_push_1 fl_M_51 (lv_89 _) ?_
  refine g_aload0 hX d_M_push_4 ?_
  refine g_getI hX d_M_push_5 fl_M_298 (lv_89 _) ?_
  refine g_topi h ?_
  refine g_iload1 hX d_M_push_8 ?_
  refine g_iast hX d_M_push_9 (lv_102 _) rfl hm ?_
  refine g_aload0 hX d_M_push_10 ?_
  refine g_getF hX d_M_push_11 fl_M_54 (lv_89 _) ?_
  refine g_aload0 hX d_M_push_14 ?_
  refine g_getI hX d_M_push_15 fl_M_298 (lv_89 _) ?_
  refine g_topi (show rI (sI w 102 m (nI a)) 89 29 = nI m from h) ?_
  refine g_iload2 hX d_M_push_18 ?_
  refine g_iast hX d_M_push_19 (lv_103 _) rfl hm ?_
  refine g_aload0 hX d_M_push_20 ?_
  refine g_dup hX d_M_push_21 rfl ?_
  refine g_getI hX d_M_push_22 fl_M_298 (lv_89 _) ?_
  refine g_topi (show rI (sI (sI w 102 m (nI a)) 103 m (nI b)) 89 29 = nI m from h) ?_
  refine g_iconst (v := nI 1) hX d_M_push_25 rfl ?_
  refine g_iaddN hX d_M_push_26 ?_
  refine g_putI hX d_M_push_27 fl_M_298 (lv_89 _) ?_
  refine g_vret hX hF d_M_push_30 (by omega) (by omega) ?_
  exact ⟨rfl, rfl⟩
theorem c_M_binds {E : EV} {w : Mem} {a : Nat} (h : a < 33) : T E m_M_binds 0 0 0 [.int (nI a)] w (Ret (some (.int (nI (bindsN a)))) w) := by
  refine T_of (L := [.int (nI a)]) cf_M_binds rfl (Nat.le_of_ble_eq_true rfl) (fun X hX hF => ?_)
  refine g_iload0 hX d_M_binds_0 ?_
  refine g_bipush (v := nI 31) hX d_M_binds_1 rfl ?_
  refine g_icmpN_lt hX d_M_binds_3 (by omega) (by omega) (fun e3 => ?_) (fun e3 => ?_)
  · refine g_iload0 hX d_M_binds_10 ?_
    refine g_bipush (v := nI 30) hX d_M_binds_11 rfl ?_
    refine g_icmpN_ne hX d_M_binds_13 (by omega) (by omega) (fun e13 => ?_) (fun e13 => ?_)
    · refine g_iload0 hX d_M_binds_20 ?_
      refine g_bipush (v := nI 29) hX d_M_binds_21 rfl ?_
      refine g_icmpN_ne hX d_M_binds_23 (by omega) (by omega) (fun e23 => ?_) (fun e23 => ?_)
      · refine g_iload0 hX d_M_binds_30 ?_
        refine g_bipush (v := nI 28) hX d_M_binds_31 rfl ?_
        refine g_icmpN_ne hX d_M_binds_33 (by omega) (by omega) (fun e33 => ?_) (fun e33 => ?_)
        · refine g_iload0 hX d_M_binds_40 ?_
          refine g_bipush (v := nI 25) hX d_M_binds_41 rfl ?_
          refine g_icmpN_lt hX d_M_binds_43 (by omega) (by omega) (fun e43 => ?_) (fun e43 => ?_)
          · refine g_iload0 hX d_M_binds_50 ?_
            refine g_bipush (v := nI 22) hX d_M_binds_51 rfl ?_
            refine g_icmpN_lt hX d_M_binds_53 (by omega) (by omega) (fun e53 => ?_) (fun e53 => ?_)
            · refine g_iconst (v := nI 5) hX d_M_binds_61 rfl ?_
              refine g_iret hX hF d_M_binds_62 (by omega) (by omega) ?_
              refine ⟨?_, rfl⟩
              unfold bindsN
              first
                | (rw [if_pos (show _ by omega)])
                | (rw [if_neg (show ¬ _ by omega), if_pos (show _ by omega)])
                | (rw [if_neg (show ¬ _ by omega), if_neg (show ¬ _ by omega), if_pos (show _ by omega)])
                | (rw [if_neg (show ¬ _ by omega), if_neg (show ¬ _ by omega), if_neg (show ¬ _ by omega), if_pos (show _ by omega)])
                | (rw [if_neg (show ¬ _ by omega), if_neg (show ¬ _ by omega), if_neg (show ¬ _ by omega), if_neg (show ¬ _ by omega), if_pos (show _ by omega)])
                | (rw [if_neg (show ¬ _ by omega), if_neg (show ¬ _ by omega), if_neg (show ¬ _ by omega), if_neg (show ¬ _ by omega), if_neg (show ¬ _ by omega), if_pos (show _ by omega)])
                | (rw [if_neg (show ¬ _ by omega), if_neg (show ¬ _ by omega), if_neg (show ¬ _ by omega), if_neg (show ¬ _ by omega), if_neg (show ¬ _ by omega), if_neg (show ¬ _ by omega)])
            · refine g_bipush (v := nI 6) hX d_M_binds_56 rfl ?_
              refine g_goto hX d_M_binds_58 ?_
              refine g_iret hX hF d_M_binds_62 (by omega) (by omega) ?_
              refine ⟨?_, rfl⟩
              unfold bindsN
              first
                | (rw [if_pos (show _ by omega)])
                | (rw [if_neg (show ¬ _ by omega), if_pos (show _ by omega)])
                | (rw [if_neg (show ¬ _ by omega), if_neg (show ¬ _ by omega), if_pos (show _ by omega)])
                | (rw [if_neg (show ¬ _ by omega), if_neg (show ¬ _ by omega), if_neg (show ¬ _ by omega), if_pos (show _ by omega)])
                | (rw [if_neg (show ¬ _ by omega), if_neg (show ¬ _ by omega), if_neg (show ¬ _ by omega), if_neg (show ¬ _ by omega), if_pos (show _ by omega)])
                | (rw [if_neg (show ¬ _ by omega), if_neg (show ¬ _ by omega), if_neg (show ¬ _ by omega), if_neg (show ¬ _ by omega), if_neg (show ¬ _ by omega), if_pos (show _ by omega)])
                | (rw [if_neg (show ¬ _ by omega), if_neg (show ¬ _ by omega), if_neg (show ¬ _ by omega), if_neg (show ¬ _ by omega), if_neg (show ¬ _ by omega), if_neg (show ¬ _ by omega)])
          · refine g_iconst (v := nI 4) hX d_M_binds_46 rfl ?_
            refine g_goto hX d_M_binds_47 ?_
            refine g_iret hX hF d_M_binds_62 (by omega) (by omega) ?_
            refine ⟨?_, rfl⟩
            unfold bindsN
            first
              | (rw [if_pos (show _ by omega)])
              | (rw [if_neg (show ¬ _ by omega), if_pos (show _ by omega)])
              | (rw [if_neg (show ¬ _ by omega), if_neg (show ¬ _ by omega), if_pos (show _ by omega)])
              | (rw [if_neg (show ¬ _ by omega), if_neg (show ¬ _ by omega), if_neg (show ¬ _ by omega), if_pos (show _ by omega)])
              | (rw [if_neg (show ¬ _ by omega), if_neg (show ¬ _ by omega), if_neg (show ¬ _ by omega), if_neg (show ¬ _ by omega), if_pos (show _ by omega)])
              | (rw [if_neg (show ¬ _ by omega), if_neg (show ¬ _ by omega), if_neg (show ¬ _ by omega), if_neg (show ¬ _ by omega), if_neg (show ¬ _ by omega), if_pos (show _ by omega)])
              | (rw [if_neg (show ¬ _ by omega), if_neg (show ¬ _ by omega), if_neg (show ¬ _ by omega), if_neg (show ¬ _ by omega), if_neg (show ¬ _ by omega), if_neg (show ¬ _ by omega)])
        · refine g_iconst (v := nI 3) hX d_M_binds_36 rfl ?_
          refine g_goto hX d_M_binds_37 ?_
          refine g_iret hX hF d_M_binds_62 (by omega) (by omega) ?_
          refine ⟨?_, rfl⟩
          unfold bindsN
          first
            | (rw [if_pos (show _ by omega)])
            | (rw [if_neg (show ¬ _ by omega), if_pos (show _ by omega)])
            | (rw [if_neg (show ¬ _ by omega), if_neg (show ¬ _ by omega), if_pos (show _ by omega)])
            | (rw [if_neg (show ¬ _ by omega), if_neg (show ¬ _ by omega), if_neg (show ¬ _ by omega), if_pos (show _ by omega)])
            | (rw [if_neg (show ¬ _ by omega), if_neg (show ¬ _ by omega), if_neg (show ¬ _ by omega), if_neg (show ¬ _ by omega), if_pos (show _ by omega)])
            | (rw [if_neg (show ¬ _ by omega), if_neg (show ¬ _ by omega), if_neg (show ¬ _ by omega), if_neg (show ¬ _ by omega), if_neg (show ¬ _ by omega), if_pos (show _ by omega)])
            | (rw [if_neg (show ¬ _ by omega), if_neg (show ¬ _ by omega), if_neg (show ¬ _ by omega), if_neg (show ¬ _ by omega), if_neg (show ¬ _ by omega), if_neg (show ¬ _ by omega)])
      · refine g_iconst (v := nI 2) hX d_M_binds_26 rfl ?_
        refine g_goto hX d_M_binds_27 ?_
        refine g_iret hX hF d_M_binds_62 (by omega) (by omega) ?_
        refine ⟨?_, rfl⟩
        unfold bindsN
        first
          | (rw [if_pos (show _ by omega)])
          | (rw [if_neg (show ¬ _ by omega), if_pos (show _ by omega)])
          | (rw [if_neg (show ¬ _ by omega), if_neg (show ¬ _ by omega), if_pos (show _ by omega)])
          | (rw [if_neg (show ¬ _ by omega), if_neg (show ¬ _ by omega), if_neg (show ¬ _ by omega), if_pos (show _ by omega)])
          | (rw [if_neg (show ¬ _ by omega), if_neg (show ¬ _ by omega), if_neg (show ¬ _ by omega), if_neg (show ¬ _ by omega), if_pos (show _ by omega)])
          | (rw [if_neg (show ¬ _ by omega), if_neg (show ¬ _ by omega), if_neg (show ¬ _ by omega), if_neg (show ¬ _ by omega), if_neg (show ¬ _ by omega), if_pos (show _ by omega)])
          | (rw [if_neg (show ¬ _ by omega), if_neg (show ¬ _ by omega), if_neg (show ¬ _ by omega), if_neg (show ¬ _ by omega), if_neg (show ¬ _ by omega), if_neg (show ¬ _ by omega)])
    · refine g_iconst (v := nI 1) hX d_M_binds_16 rfl ?_
      refine g_goto hX d_M_binds_17 ?_
      refine g_iret hX hF d_M_binds_62 (by omega) (by omega) ?_
      refine ⟨?_, rfl⟩
      unfold bindsN
      first
        | (rw [if_pos (show _ by omega)])
        | (rw [if_neg (show ¬ _ by omega), if_pos (show _ by omega)])
        | (rw [if_neg (show ¬ _ by omega), if_neg (show ¬ _ by omega), if_pos (show _ by omega)])
        | (rw [if_neg (show ¬ _ by omega), if_neg (show ¬ _ by omega), if_neg (show ¬ _ by omega), if_pos (show _ by omega)])
        | (rw [if_neg (show ¬ _ by omega), if_neg (show ¬ _ by omega), if_neg (show ¬ _ by omega), if_neg (show ¬ _ by omega), if_pos (show _ by omega)])
        | (rw [if_neg (show ¬ _ by omega), if_neg (show ¬ _ by omega), if_neg (show ¬ _ by omega), if_neg (show ¬ _ by omega), if_neg (show ¬ _ by omega), if_pos (show _ by omega)])
        | (rw [if_neg (show ¬ _ by omega), if_neg (show ¬ _ by omega), if_neg (show ¬ _ by omega), if_neg (show ¬ _ by omega), if_neg (show ¬ _ by omega), if_neg (show ¬ _ by omega)])
  · refine g_iconst (v := nI 0) hX d_M_binds_6 rfl ?_
    refine g_goto hX d_M_binds_7 ?_
    refine g_iret hX hF d_M_binds_62 (by omega) (by omega) ?_
    refine ⟨?_, rfl⟩
    unfold bindsN
    first
      | (rw [if_pos (show _ by omega)])
      | (rw [if_neg (show ¬ _ by omega), if_pos (show _ by omega)])
      | (rw [if_neg (show ¬ _ by omega), if_neg (show ¬ _ by omega), if_pos (show _ by omega)])
      | (rw [if_neg (show ¬ _ by omega), if_neg (show ¬ _ by omega), if_neg (show ¬ _ by omega), if_pos (show _ by omega)])
      | (rw [if_neg (show ¬ _ by omega), if_neg (show ¬ _ by omega), if_neg (show ¬ _ by omega), if_neg (show ¬ _ by omega), if_pos (show _ by omega)])
      | (rw [if_neg (show ¬ _ by omega), if_neg (show ¬ _ by omega), if_neg (show ¬ _ by omega), if_neg (show ¬ _ by omega), if_neg (show ¬ _ by omega), if_pos (show _ by omega)])
      | (rw [if_neg (show ¬ _ by omega), if_neg (show ¬ _ by omega), if_neg (show ¬ _ by omega), if_neg (show ¬ _ by omega), if_neg (show ¬ _ by omega), if_neg (show ¬ _ by omega)])
theorem c_M_inner {E : EV} {w : Mem} {c s : List (Nat × Nat)} (hP : PileP w s) (hW : PileW c s) : T E m_M_inner 0 0 0 [.ref 89] w (Ret (some (.int (innK s s.length))) w) := by
  refine T_of (L := [.ref 89, un, un]) cf_M_inner rfl (Nat.le_of_ble_eq_true rfl) (fun X hX hF => ?_)
  have hsl := hW.1
  have lp : ∀ (fuel : Nat) (k : Nat), s.length - k < fuel → (k ≤ s.length) → G0 E X 0 0 4 [.ref 89, .int (innK s k), .int (nI k)] [] w := by
    intro fuel
    induction fuel with
    | zero => intro k q0; exact absurd q0 (Nat.not_lt_zero _)
    | succ fuel ih =>
      intro k q0 q1
      refine g_iload2 hX d_M_inner_4 ?_
      refine g_aload0 hX d_M_inner_5 ?_
      refine g_getI hX d_M_inner_6 fl_M_298 (lv_89 _) ?_
      refine g_topi hP.1 ?_
      refine g_icmpN_ge hX d_M_inner_9 (by omega) (by omega) (fun c0 => ?_) (fun c0 => ?_)
      · refine g_iload1 hX d_M_inner_40 ?_
        refine g_iret hX hF d_M_inner_41 (by omega) (by omega) ?_
        exact ⟨by rw [show k = s.length by omega], rfl⟩
      · have hsk := (hW.2 _ (cO_mem (show k < s.length by omega))).1
        refine g_aload0 hX d_M_inner_12 ?_
        refine g_getF hX d_M_inner_13 fl_M_51 (lv_89 _) ?_
        refine g_iload2 hX d_M_inner_16 ?_
        refine g_iald hX d_M_inner_17 (lv_102 _) rfl (by omega) ?_
        refine g_topi (hP.2 k (by omega)).1 ?_
        refine g_bipush (v := nI 31) hX d_M_inner_18 rfl ?_
        refine g_icmpN_lt hX d_M_inner_20 (by omega) (by omega) (fun e20 => ?_) (fun e20 => ?_)
        · refine g_iload1 hX d_M_inner_32 ?_
          refine g_istore1 hX d_M_inner_33 rfl (by decide) ?_
          refine g_iincN2 hX d_M_inner_34 rfl (by decide) ?_
          refine g_goto hX d_M_inner_37 ?_
          refine g_loc (show _ = [.ref 89, .int (innK s (k + 1)), .int (nI (k + 1))] by rw [innK, if_neg (by omega)]) ?_
          exact ih (k + 1) (by omega) (by omega)
        · refine g_aload0 hX d_M_inner_23 ?_
          refine g_getF hX d_M_inner_24 fl_M_51 (lv_89 _) ?_
          refine g_iload2 hX d_M_inner_27 ?_
          refine g_iald hX d_M_inner_28 (lv_102 _) rfl (by omega) ?_
          refine g_topi (hP.2 k (by omega)).1 ?_
          refine g_goto hX d_M_inner_29 ?_
          refine g_istore1 hX d_M_inner_33 rfl (by decide) ?_
          refine g_iincN2 hX d_M_inner_34 rfl (by decide) ?_
          refine g_goto hX d_M_inner_37 ?_
          refine g_loc (show _ = [.ref 89, .int (innK s (k + 1)), .int (nI (k + 1))] by rw [innK, if_pos (by omega)]) ?_
          exact ih (k + 1) (by omega) (by omega)
  refine g_iconst (v := -1) hX d_M_inner_0 rfl ?_
  refine g_istore1 hX d_M_inner_1 rfl (by decide) ?_
  refine g_iconst (v := nI 0) hX d_M_inner_2 rfl ?_
  refine g_istore2 hX d_M_inner_3 rfl (by decide) ?_
  exact lp (s.length + 1) 0 (by omega) (Nat.zero_le _)
theorem c_M_isCompared {E : EV} {w : Mem} {c s : List (Nat × Nat)} (hP : PileP w s) (hW : PileW c s) : T E m_M_isCompared 1 0 0 [.ref 89] w (Ret (some (.int (b2i (cmpK s s.length = true)))) w) := by
  refine T_of (L := [.ref 89, un]) cf_M_isCompared rfl (Nat.le_of_ble_eq_true rfl) (fun X hX hF => ?_)
  have hsl := hW.1
  have lp : ∀ (fuel : Nat) (k : Nat), k < fuel → k ≤ s.length → cmpK s s.length = cmpK s k → G0 E X 0 0 7 [.ref 89, .int (nI k - nI 1)] [] w := by
    intro fuel
    induction fuel with
    | zero => intro k q0; exact absurd q0 (Nat.not_lt_zero _)
    | succ fuel ih =>
      intro k q0 q1 q2
      have hz : k = 0 ∨ ∃ m, k = m + 1 := by
        cases k with
        | zero => exact Or.inl rfl
        | succ m => exact Or.inr ⟨m, rfl⟩
      rcases hz with rfl | ⟨k, rfl⟩
      · refine g_iload1 hX d_M_isCompared_7 ?_
        refine g_if_lt hX d_M_isCompared_8 (fun c0 => ?_) (fun h => absurd (by decide) h)
        refine g_iload1 hX d_M_isCompared_36 ?_
        refine g_if_lt hX d_M_isCompared_37 (fun c1 => ?_) (fun h => absurd (by decide) h)
        refine g_iconst (v := nI 0) hX d_M_isCompared_63 rfl ?_
        refine g_zret hX hF d_M_isCompared_64 (Or.inl rfl) (by omega) (by omega) ?_
        exact ⟨by rw [b2i_f (by rw [q2]; exact Bool.false_ne_true)]; rfl, rfl⟩
      · have hsk := (hW.2 _ (cO_mem (show k < s.length by omega))).1
        refine g_loc (show _ = [.ref 89, .int (nI k)] by rw [m1_nI]) ?_
        refine g_iload1 hX d_M_isCompared_7 ?_
        refine g_if_lt hX d_M_isCompared_8 (fun h => absurd h (nI_pos (by omega))) (fun c0 => ?_)
        refine g_aload0 hX d_M_isCompared_11 ?_
        refine g_getF hX d_M_isCompared_12 fl_M_51 (lv_89 _) ?_
        refine g_iload1 hX d_M_isCompared_15 ?_
        refine g_iald hX d_M_isCompared_16 (lv_102 _) rfl (by omega) ?_
        refine g_topi (show rI w 102 k = nI (cO s k) from (hP.2 k (by omega)).1) ?_
        refine g_i2l hX d_M_isCompared_17 ?_
        refine g_topl (nI_l (by omega)) ?_
        refine g_ldc2 (v := lN 20) hX d_M_isCompared_18 k_M_308 rfl ?_
        refine g_ldc2 (v := lN 24) hX d_M_isCompared_21 k_M_310 rfl ?_
        refine g_callS (As := [_, _, _]) hX hF.1 d_M_isCompared_24 ml_M_190 cf_M_in cs_M_in rfl (c_M_in) (by omega) (by omega) (by omega) (Nat.le_of_ble_eq_true rfl) ?_
        refine ret_k ?_
        refine g_ifB_eq hX d_M_isCompared_27 (fun c27 => ?_) (fun c27 => ?_)
        · have e27 : ¬ (20 ≤ cO s k ∧ cO s k ≤ 24) := mt (in_NN (by omega) (by decide) (by decide)).mpr c27
          refine g_iload1 hX d_M_isCompared_36 ?_
          refine g_if_lt hX d_M_isCompared_37 (fun h => absurd h (nI_pos (by omega))) (fun c2 => ?_)
          refine g_aload0 hX d_M_isCompared_40 ?_
          refine g_getF hX d_M_isCompared_41 fl_M_51 (lv_89 _) ?_
          refine g_iload1 hX d_M_isCompared_44 ?_
          refine g_iald hX d_M_isCompared_45 (lv_102 _) rfl (by omega) ?_
          refine g_topi (show rI w 102 k = nI (cO s k) from (hP.2 k (by omega)).1) ?_
          refine g_i2l hX d_M_isCompared_46 ?_
          refine g_topl (nI_l (by omega)) ?_
          refine g_ldc2 (v := lN 25) hX d_M_isCompared_47 k_M_312 rfl ?_
          refine g_ldc2 (v := lN 27) hX d_M_isCompared_50 k_M_314 rfl ?_
          refine g_callS (As := [_, _, _]) hX hF.1 d_M_isCompared_53 ml_M_190 cf_M_in cs_M_in rfl (c_M_in) (by omega) (by omega) (by omega) (Nat.le_of_ble_eq_true rfl) ?_
          refine ret_k ?_
          refine g_ifB_eq hX d_M_isCompared_56 (fun c56 => ?_) (fun c56 => ?_)
          · have e56 : ¬ (25 ≤ cO s k ∧ cO s k ≤ 27) := mt (in_NN (by omega) (by decide) (by decide)).mpr c56
            refine g_iconst (v := nI 0) hX d_M_isCompared_63 rfl ?_
            refine g_zret hX hF d_M_isCompared_64 (by first | exact Or.inl rfl | exact Or.inr rfl) (by omega) (by omega) ?_
            first
              | exact ⟨by rw [b2i_t (by rw [q2, cmpK, if_neg e27]; exact decide_eq_true e56)]; rfl, rfl⟩
              | exact ⟨by rw [b2i_f (by rw [q2, cmpK, if_neg e27]; simp [e56])]; rfl, rfl⟩
          · have e56 : 25 ≤ cO s k ∧ cO s k ≤ 27 := (in_NN (by omega) (by decide) (by decide)).mp c56
            refine g_iconst (v := nI 1) hX d_M_isCompared_59 rfl ?_
            refine g_goto hX d_M_isCompared_60 ?_
            refine g_zret hX hF d_M_isCompared_64 (by first | exact Or.inl rfl | exact Or.inr rfl) (by omega) (by omega) ?_
            first
              | exact ⟨by rw [b2i_t (by rw [q2, cmpK, if_neg e27]; exact decide_eq_true e56)]; rfl, rfl⟩
              | exact ⟨by rw [b2i_f (by rw [q2, cmpK, if_neg e27]; simp [e56])]; rfl, rfl⟩
        · have e27 : 20 ≤ cO s k ∧ cO s k ≤ 24 := (in_NN (by omega) (by decide) (by decide)).mp c27
          refine g_iinc1 hX d_M_isCompared_30 (m1_add _) rfl (by decide) ?_
          refine g_goto hX d_M_isCompared_33 ?_
          exact ih k (by omega) (by omega) (by rw [q2, cmpK, if_pos e27])
  refine g_aload0 hX d_M_isCompared_0 ?_
  refine g_getI hX d_M_isCompared_1 fl_M_298 (lv_89 _) ?_
  refine g_topi hP.1 ?_
  refine g_iconst (v := nI 1) hX d_M_isCompared_4 rfl ?_
  refine g_isub hX d_M_isCompared_5 ?_
  refine g_istore1 hX d_M_isCompared_6 rfl (by decide) ?_
  exact lp (s.length + 1) s.length (by omega) (Nat.le_refl _) rfl
theorem PileW.pop {c s : List (Nat × Nat)} {q : Nat × Nat} (h : PileW c (s ++ [q])) : PileW (popC q c) s := by
  have hl := h.1
  rw [List.length_append, List.length_singleton] at hl
  have e : c.length ≤ (popC q c).length ∧ (popC q c).length ≤ c.length + 1 := by
    unfold popC
    split
    · rw [List.length_set]; omega
    · rw [List.length_append, List.length_singleton]; omega
  refine ⟨by omega, fun x hx => ?_⟩
  have := h.2 x (List.mem_append_left _ hx)
  exact ⟨this.1, fun z => by have := this.2 z; omega⟩
theorem bind_jump {q : Nat × Nat} {least : Nat} (h : 1 ≤ least) (h2 : least ≤ bindsN q.1) : q.1 < 31 := by
  unfold bindsN at h2
  split at h2
  · omega
  · omega
theorem c_M_settle {E : EV} {w : Mem} {least : Nat} {c P Q : List (Nat × Nat)} (h1 : 1 ≤ least) (h6 : least ≤ 6) (hC : CodeP w c) (hP : PileP w (P ++ Q)) (hW : PileW c (P ++ Q)) (hQ : ∀ q ∈ Q, least ≤ bindsN q.1) (hlast : ∀ x, 0 < P.length → cO P (P.length - 1) = x → bindsN x < least) : T E m_M_settle 1 0 0 [.ref 89, .int (nI least)] w (fun r w2 => r = none ∧ FrQ w w2 ∧ CodeP w2 (setC Q c) ∧ PileP w2 P) := by
  refine T_of (L := [.ref 89, .int (nI least)]) cf_M_settle rfl (Nat.le_of_ble_eq_true rfl) (fun X hX hF => ?_)
  obtain ⟨C2, hC2⟩ : ∃ C2, setC Q c = C2 := ⟨_, rfl⟩
  rw [hC2] at hF
  have lp : ∀ (fuel : Nat) (Q c : List (Nat × Nat)) (wk : Mem), Q.length < fuel → FrQ w wk → CodeP wk c → PileP wk (P ++ Q) → PileW c (P ++ Q) → (∀ q ∈ Q, least ≤ bindsN q.1) → setC Q c = C2 → G0 E X 0 0 0 [.ref 89, .int (nI least)] [] wk := by
    intro fuel
    induction fuel with
    | zero => intro Q c wk q0; exact absurd q0 (Nat.not_lt_zero _)
    | succ fuel ih =>
      intro Q c wk q0 q2 q3 q4 q5 q6 q7
      have hsl := q5.1
      by_cases hQ : Q = []
      · subst hQ
        rw [List.length_append, List.length_nil] at hsl
        have q3 : CodeP wk C2 := by rw [← q7]; exact q3
        refine g_aload0 hX d_M_settle_0 ?_
        refine g_getI hX d_M_settle_1 fl_M_298 (lv_89 _) ?_
        refine g_topi q4.1 ?_
        refine g_if_le hX d_M_settle_4 (fun c4 => ?_) (fun c4 => ?_)
        · refine g_vret hX hF d_M_settle_101 (by omega) (by omega) ?_
          exact ⟨rfl, q2, q3, by rw [List.append_nil] at q4; exact q4⟩
        · have hne : P ++ ([] : List (Nat × Nat)) ≠ [] := fun z => by rw [z] at c4; exact absurd c4 (by decide)
          rw [List.append_nil] at hne
          have hlen : (P ++ ([] : List (Nat × Nat))).length = P.length := by rw [List.append_nil]
          have hPl : 0 < P.length := List.length_pos_iff.mpr hne
          have hpk := (q4.2 (P.length - 1) (by omega)).1
          rw [List.append_nil] at hpk
          have hx33 := (q5.2 _ (by rw [List.append_nil]; exact cO_mem (show P.length - 1 < P.length by omega))).1
          have hlt := hlast (cO P (P.length - 1)) (by omega) rfl
          have hbl := bindsN_le (cO P (P.length - 1))
          skip
          refine g_aload0 hX d_M_settle_7 ?_
          refine g_getF hX d_M_settle_8 fl_M_51 (lv_89 _) ?_
          refine g_aload0 hX d_M_settle_11 ?_
          refine g_getI hX d_M_settle_12 fl_M_298 (lv_89 _) ?_
          refine g_topi (show rI wk 89 29 = nI P.length by rw [q4.1, List.append_nil]) ?_
          refine g_iconst (v := nI 1) hX d_M_settle_15 rfl ?_
          refine g_isubN hX d_M_settle_16 (by omega) ?_
          refine g_iald hX d_M_settle_17 (lv_102 _) rfl (by omega) ?_
          refine g_topi hpk ?_
          refine g_callS (As := [_]) hX hF.1 d_M_settle_18 ml_M_301 cf_M_binds cs_M_binds rfl (c_M_binds (by omega)) (by omega) (by omega) (by omega) (Nat.le_of_ble_eq_true rfl) ?_
          refine ret_k ?_
          refine g_iload1 hX d_M_settle_21 ?_
          refine g_icmpN_lt hX d_M_settle_22 (by omega) (by omega) (fun c1 => ?_) (fun h => absurd h (by omega))
          refine g_vret hX hF d_M_settle_101 (by omega) (by omega) ?_
          exact ⟨rfl, q2, q3, by rw [List.append_nil] at q4; exact q4⟩
      · obtain ⟨Q2, q, rfl⟩ : ∃ Q2 q, Q = Q2 ++ [q] := ⟨Q.dropLast, Q.getLast hQ, (List.dropLast_concat_getLast hQ).symm⟩
        rw [List.length_append, List.length_append, List.length_singleton] at hsl
        rw [List.length_append, List.length_singleton] at q0
        have hb := q6 q (by simp)
        have hx31 := bind_jump h1 hb
        have hbl := bindsN_le q.1
        have hln : (P ++ Q2).length = P.length + Q2.length := List.length_append
        have hp1 : rI wk 89 29 = nI ((P ++ Q2).length + 1) := by rw [q4.1, ← List.append_assoc, List.length_append]; rfl
        have hpk := q4.2 (P ++ Q2).length (by rw [hln, List.length_append, List.length_append, List.length_singleton]; omega)
        rw [← List.append_assoc, cO_last.1, cO_last.2] at hpk
        obtain ⟨hpo, hpa⟩ := hpk
        refine g_aload0 hX d_M_settle_0 ?_
        refine g_getI hX d_M_settle_1 fl_M_298 (lv_89 _) ?_
        refine g_topi hp1 ?_
        refine g_if_le hX d_M_settle_4 (fun h => absurd h (nI_nle0 (by omega) (by omega))) (fun c0 => ?_)
        refine g_aload0 hX d_M_settle_7 ?_
        refine g_getF hX d_M_settle_8 fl_M_51 (lv_89 _) ?_
        refine g_aload0 hX d_M_settle_11 ?_
        refine g_getI hX d_M_settle_12 fl_M_298 (lv_89 _) ?_
        refine g_topi hp1 ?_
        refine g_iconst (v := nI 1) hX d_M_settle_15 rfl ?_
        refine g_isubN hX d_M_settle_16 (by omega) ?_
        refine g_iald hX d_M_settle_17 (lv_102 _) (congrArg nI (Nat.add_sub_cancel _ 1)) (by omega) ?_
        refine g_topi hpo ?_
        refine g_callS (As := [_]) hX hF.1 d_M_settle_18 ml_M_301 cf_M_binds cs_M_binds rfl (c_M_binds (by omega)) (by omega) (by omega) (by omega) (Nat.le_of_ble_eq_true rfl) ?_
        refine ret_k ?_
        refine g_iload1 hX d_M_settle_21 ?_
        refine g_icmpN_lt hX d_M_settle_22 (by omega) (by omega) (fun h => absurd h (by omega)) (fun c1 => ?_)
        refine g_aload0 hX d_M_settle_25 ?_
        refine g_dup hX d_M_settle_26 rfl ?_
        refine g_getI hX d_M_settle_27 fl_M_298 (lv_89 _) ?_
        refine g_topi hp1 ?_
        refine g_iconst (v := nI 1) hX d_M_settle_30 rfl ?_
        refine g_isubN hX d_M_settle_31 (by omega) ?_
        refine g_topi (congrArg nI (Nat.add_sub_cancel _ 1)) ?_
        refine g_putI hX d_M_settle_32 fl_M_298 (lv_89 _) ?_
        refine g_aload0 hX d_M_settle_35 ?_
        refine g_getF hX d_M_settle_36 fl_M_51 (lv_89 _) ?_
        refine g_aload0 hX d_M_settle_39 ?_
        refine g_getI hX d_M_settle_40 fl_M_298 (lv_89 _) ?_
        refine g_topi (show rI (sI wk 89 29 (nI (P ++ Q2).length)) 89 29 = nI (P ++ Q2).length by rw [rI_sI, upd_eq, if_pos rfl]) ?_
        refine g_iald hX d_M_settle_43 (lv_102 _) rfl (by omega) ?_
        refine g_topi (show rI (sI wk 89 29 (nI (P ++ Q2).length)) 102 (P ++ Q2).length = nI q.1 from hpo) ?_
        refine g_bipush (v := nI 29) hX d_M_settle_44 rfl ?_
        refine g_icmpN_eq hX d_M_settle_46 (by omega) (by omega) (fun e46 => ?_) (fun e46 => ?_)
        · have hjq : q.1 = 29 ∨ q.1 = 30 := Or.inl e46
          have hq2 := (q5.2 q (by simp)).2 hjq
          have hpc : popC q c = c.set q.2 (cO c q.2, c.length) := if_pos hjq
          refine g_aload0 hX d_M_settle_63 ?_
          refine g_getF hX d_M_settle_64 fl_M_48 (lv_89 _) ?_
          refine g_aload0 hX d_M_settle_67 ?_
          refine g_getF hX d_M_settle_68 fl_M_54 (lv_89 _) ?_
          refine g_aload0 hX d_M_settle_71 ?_
          refine g_getI hX d_M_settle_72 fl_M_298 (lv_89 _) ?_
          refine g_topi (show rI (sI wk 89 29 (nI (P ++ Q2).length)) 89 29 = nI (P ++ Q2).length by rw [rI_sI, upd_eq, if_pos rfl]) ?_
          refine g_iald hX d_M_settle_75 (lv_103 _) rfl (by omega) ?_
          refine g_topi (show rI (sI wk 89 29 (nI (P ++ Q2).length)) 103 (P ++ Q2).length = nI q.2 from hpa) ?_
          refine g_aload0 hX d_M_settle_76 ?_
          refine g_getI hX d_M_settle_77 fl_M_295 (lv_89 _) ?_
          refine g_topi (show rI (sI wk 89 29 (nI (P ++ Q2).length)) 89 23 = nI c.length by rw [rI_sI, upd_eq, if_neg (by decide)]; exact q3.1) ?_
          refine g_iast hX d_M_settle_80 (lv_101 _) rfl (by omega) ?_
          refine g_goto hX d_M_settle_81 ?_
          refine ih Q2 (popC q c) _ (by omega) ((q2.I (Or.inr (Or.inr ⟨rfl, Or.inr rfl⟩))).I (Or.inr (Or.inl rfl))) ?_ ?_ (by rw [← List.append_assoc] at q5; exact q5.pop) (fun x hx => q6 x (List.mem_append_left _ hx)) (by rw [← q7, setC_snoc])
          · rw [hpc]
            exact CodeP.set (q3.o (by decide) (by decide) (Or.inr (by decide))) hq2
          · exact (PileP.less (x := [q]) (by rw [List.append_assoc]; exact q4)).o (by decide) (by decide) (Or.inl (by decide))
        · refine g_aload0 hX d_M_settle_49 ?_
          refine g_getF hX d_M_settle_50 fl_M_51 (lv_89 _) ?_
          refine g_aload0 hX d_M_settle_53 ?_
          refine g_getI hX d_M_settle_54 fl_M_298 (lv_89 _) ?_
          refine g_topi (show rI (sI wk 89 29 (nI (P ++ Q2).length)) 89 29 = nI (P ++ Q2).length by rw [rI_sI, upd_eq, if_pos rfl]) ?_
          refine g_iald hX d_M_settle_57 (lv_102 _) rfl (by omega) ?_
          refine g_topi (show rI (sI wk 89 29 (nI (P ++ Q2).length)) 102 (P ++ Q2).length = nI q.1 from hpo) ?_
          refine g_bipush (v := nI 30) hX d_M_settle_58 rfl ?_
          refine g_icmpN_ne hX d_M_settle_60 (by omega) (by omega) (fun e60 => ?_) (fun e60 => ?_)
          · have hjq : ¬ (q.1 = 29 ∨ q.1 = 30) := fun z => z.elim e46 e60
            have hpc : popC q c = c ++ [(q.1, 0)] := if_neg hjq
            refine g_aload0 hX d_M_settle_84 ?_
            refine g_aload0 hX d_M_settle_85 ?_
            refine g_getF hX d_M_settle_86 fl_M_51 (lv_89 _) ?_
            refine g_aload0 hX d_M_settle_89 ?_
            refine g_getI hX d_M_settle_90 fl_M_298 (lv_89 _) ?_
            refine g_topi (show rI (sI wk 89 29 (nI (P ++ Q2).length)) 89 29 = nI (P ++ Q2).length by rw [rI_sI, upd_eq, if_pos rfl]) ?_
            refine g_iald hX d_M_settle_93 (lv_102 _) rfl (by omega) ?_
            refine g_topi (show rI (sI wk 89 29 (nI (P ++ Q2).length)) 102 (P ++ Q2).length = nI q.1 from hpo) ?_
            refine g_iconst (v := nI 0) hX d_M_settle_94 rfl ?_
            refine g_callV (As := [_, _]) hX hF.1 d_M_settle_95 ml_M_304 cf_M_emit cv_M_emit rfl rfl (c_M_emit (m := c.length) (by rw [rI_sI, upd_eq, if_neg (by decide)]; exact q3.1) (by omega)) (rcv_obj hX (lv_89 _) rfl rfl) (by omega) (by omega) (by omega) (Nat.le_of_ble_eq_true rfl) ?_
            refine ret_k ?_
            refine g_goto hX d_M_settle_98 ?_
            refine ih Q2 (popC q c) _ (by omega) ((((q2.I (Or.inr (Or.inr ⟨rfl, Or.inr rfl⟩))).I (Or.inl rfl)).I (Or.inr (Or.inl rfl))).I (Or.inr (Or.inr ⟨rfl, Or.inl rfl⟩))) ?_ ?_ (by rw [← List.append_assoc] at q5; exact q5.pop) (fun x hx => q6 x (List.mem_append_left _ hx)) (by rw [← q7, setC_snoc])
            · rw [hpc]
              exact CodeP.app (q := (q.1, 0)) (q3.o (by decide) (by decide) (Or.inr (by decide)))
            · exact ((((PileP.less (x := [q]) (by rw [List.append_assoc]; exact q4)).o (by decide) (by decide) (Or.inl (by decide))).o (by decide) (by decide) (Or.inl (by decide))).o (by decide) (by decide) (Or.inr (by decide)))
          · have hjq : q.1 = 29 ∨ q.1 = 30 := Or.inr e60
            have hq2 := (q5.2 q (by simp)).2 hjq
            have hpc : popC q c = c.set q.2 (cO c q.2, c.length) := if_pos hjq
            refine g_aload0 hX d_M_settle_63 ?_
            refine g_getF hX d_M_settle_64 fl_M_48 (lv_89 _) ?_
            refine g_aload0 hX d_M_settle_67 ?_
            refine g_getF hX d_M_settle_68 fl_M_54 (lv_89 _) ?_
            refine g_aload0 hX d_M_settle_71 ?_
            refine g_getI hX d_M_settle_72 fl_M_298 (lv_89 _) ?_
            refine g_topi (show rI (sI wk 89 29 (nI (P ++ Q2).length)) 89 29 = nI (P ++ Q2).length by rw [rI_sI, upd_eq, if_pos rfl]) ?_
            refine g_iald hX d_M_settle_75 (lv_103 _) rfl (by omega) ?_
            refine g_topi (show rI (sI wk 89 29 (nI (P ++ Q2).length)) 103 (P ++ Q2).length = nI q.2 from hpa) ?_
            refine g_aload0 hX d_M_settle_76 ?_
            refine g_getI hX d_M_settle_77 fl_M_295 (lv_89 _) ?_
            refine g_topi (show rI (sI wk 89 29 (nI (P ++ Q2).length)) 89 23 = nI c.length by rw [rI_sI, upd_eq, if_neg (by decide)]; exact q3.1) ?_
            refine g_iast hX d_M_settle_80 (lv_101 _) rfl (by omega) ?_
            refine g_goto hX d_M_settle_81 ?_
            refine ih Q2 (popC q c) _ (by omega) ((q2.I (Or.inr (Or.inr ⟨rfl, Or.inr rfl⟩))).I (Or.inr (Or.inl rfl))) ?_ ?_ (by rw [← List.append_assoc] at q5; exact q5.pop) (fun x hx => q6 x (List.mem_append_left _ hx)) (by rw [← q7, setC_snoc])
            · rw [hpc]
              exact CodeP.set (q3.o (by decide) (by decide) (Or.inr (by decide))) hq2
            · exact (PileP.less (x := [q]) (by rw [List.append_assoc]; exact q4)).o (by decide) (by decide) (Or.inl (by decide))
  exact lp (Q.length + 1) Q c w (Nat.lt_succ_self _) (FrQ.rf w) hC hP hW hQ hC2
