def m_M_isAhead : MR := (⟨"SubgraphDeskModel", "isAhead", "(I)Z"⟩, prog_14_method_91_code, 5, (some .boolean))
theorem cf_M_isAhead : CF m_M_isAhead 1 := ⟨gd 2058 (by decide +kernel) rfl, gd 151 (by decide +kernel) rfl, by decide +kernel, by decide, by decide +kernel⟩
theorem cv_M_isAhead : CV m_M_isAhead := ⟨gd 2057 (by decide +kernel) rfl, gd 114 (by decide +kernel) rfl⟩
def m_M_isOnce : MR := (⟨"SubgraphDeskModel", "isOnce", "()Z"⟩, prog_14_method_92_code, 3, (some .boolean))
theorem cf_M_isOnce : CF m_M_isOnce 0 := ⟨gd 2054 (by decide +kernel) rfl, gd 151 (by decide +kernel) rfl, by decide +kernel, by decide, by decide +kernel⟩
theorem cv_M_isOnce : CV m_M_isOnce := ⟨gd 2053 (by decide +kernel) rfl, gd 113 (by decide +kernel) rfl⟩
def m_M_once : MR := (⟨"SubgraphDeskModel", "once", "()I"⟩, prog_14_method_93_code, 2, (some .int))
theorem cf_M_once : CF m_M_once 0 := ⟨gd 2050 (by decide +kernel) rfl, gd 151 (by decide +kernel) rfl, by decide +kernel, by decide, by decide +kernel⟩
theorem cv_M_once : CV m_M_once := ⟨gd 2048 (by decide +kernel) rfl, gd 2049 (by decide +kernel) rfl⟩
def m_M_onceWay : MR := (⟨"SubgraphDeskModel", "onceWay", "(II)I"⟩, prog_14_method_94_code, 4, (some .int))
theorem cf_M_onceWay : CF m_M_onceWay 2 := ⟨gd 2062 (by decide +kernel) rfl, gd 151 (by decide +kernel) rfl, by decide +kernel, by decide, by decide +kernel⟩
theorem cv_M_onceWay : CV m_M_onceWay := ⟨gd 2060 (by decide +kernel) rfl, gd 2061 (by decide +kernel) rfl⟩
def m_M_symmetries : MR := (⟨"SubgraphDeskModel", "symmetries", "()I"⟩, prog_14_method_90_code, 1, (some .int))
theorem cf_M_symmetries : CF m_M_symmetries 0 := ⟨gd 2038 (by decide +kernel) rfl, gd 151 (by decide +kernel) rfl, by decide +kernel, by decide, by decide +kernel⟩
theorem cv_M_symmetries : CV m_M_symmetries := ⟨gd 2036 (by decide +kernel) rfl, gd 2037 (by decide +kernel) rfl⟩
theorem d_M_isAhead_0 : Dc prog_14_method_91_code 0 (.iconst 0) 1 1 := ⟨by decide +kernel, rfl⟩
theorem d_M_isAhead_1 : Dc prog_14_method_91_code 1 (.istore_n 2) 1 2 := ⟨by decide +kernel, rfl⟩
theorem d_M_isAhead_2 : Dc prog_14_method_91_code 2 (.iconst 0) 1 3 := ⟨by decide +kernel, rfl⟩
theorem d_M_isAhead_3 : Dc prog_14_method_91_code 3 (.istore_n 3) 1 4 := ⟨by decide +kernel, rfl⟩
theorem d_M_isAhead_4 : Dc prog_14_method_91_code 4 (.iload_n 3) 1 5 := ⟨by decide +kernel, rfl⟩
theorem d_M_isAhead_5 : Dc prog_14_method_91_code 5 (.aload_n 0) 1 6 := ⟨by decide +kernel, rfl⟩
theorem d_M_isAhead_6 : Dc prog_14_method_91_code 6 (.getfield 13) 3 9 := ⟨by decide +kernel, rfl⟩
theorem d_M_isAhead_9 : Dc prog_14_method_91_code 9 (.iconst 1) 1 10 := ⟨by decide +kernel, rfl⟩
theorem d_M_isAhead_10 : Dc prog_14_method_91_code 10 (.iaload) 1 11 := ⟨by decide +kernel, rfl⟩
theorem d_M_isAhead_11 : Dj prog_14_method_91_code 11 (.if_icmp .ge 82) 14 82 93 := ⟨by decide +kernel, rfl, rfl⟩
theorem d_M_isAhead_14 : Dc prog_14_method_91_code 14 (.aload_n 0) 1 15 := ⟨by decide +kernel, rfl⟩
theorem d_M_isAhead_15 : Dc prog_14_method_91_code 15 (.getfield 111) 3 18 := ⟨by decide +kernel, rfl⟩
theorem d_M_isAhead_18 : Dc prog_14_method_91_code 18 (.aload_n 0) 1 19 := ⟨by decide +kernel, rfl⟩
theorem d_M_isAhead_19 : Dc prog_14_method_91_code 19 (.getfield 114) 3 22 := ⟨by decide +kernel, rfl⟩
theorem d_M_isAhead_22 : Dc prog_14_method_91_code 22 (.iconst 5) 1 23 := ⟨by decide +kernel, rfl⟩
theorem d_M_isAhead_23 : Dc prog_14_method_91_code 23 (.iload_n 1) 1 24 := ⟨by decide +kernel, rfl⟩
theorem d_M_isAhead_24 : Dc prog_14_method_91_code 24 (.imul) 1 25 := ⟨by decide +kernel, rfl⟩
theorem d_M_isAhead_25 : Dc prog_14_method_91_code 25 (.iload_n 3) 1 26 := ⟨by decide +kernel, rfl⟩
theorem d_M_isAhead_26 : Dc prog_14_method_91_code 26 (.iadd) 1 27 := ⟨by decide +kernel, rfl⟩
theorem d_M_isAhead_27 : Dc prog_14_method_91_code 27 (.iaload) 1 28 := ⟨by decide +kernel, rfl⟩
theorem d_M_isAhead_28 : Dc prog_14_method_91_code 28 (.iaload) 1 29 := ⟨by decide +kernel, rfl⟩
theorem d_M_isAhead_29 : Dc prog_14_method_91_code 29 (.istore 4) 2 31 := ⟨by decide +kernel, rfl⟩
theorem d_M_isAhead_31 : Dc prog_14_method_91_code 31 (.aload_n 0) 1 32 := ⟨by decide +kernel, rfl⟩
theorem d_M_isAhead_32 : Dc prog_14_method_91_code 32 (.getfield 105) 3 35 := ⟨by decide +kernel, rfl⟩
theorem d_M_isAhead_35 : Dc prog_14_method_91_code 35 (.iload_n 3) 1 36 := ⟨by decide +kernel, rfl⟩
theorem d_M_isAhead_36 : Dc prog_14_method_91_code 36 (.iaload) 1 37 := ⟨by decide +kernel, rfl⟩
theorem d_M_isAhead_37 : Dc prog_14_method_91_code 37 (.iload 4) 2 39 := ⟨by decide +kernel, rfl⟩
theorem d_M_isAhead_39 : Dc prog_14_method_91_code 39 (.invokestatic 468) 3 42 := ⟨by decide +kernel, rfl⟩
theorem d_M_isAhead_42 : Dj prog_14_method_91_code 42 (.ifCond .ne 5) 45 5 47 := ⟨by decide +kernel, rfl, rfl⟩
theorem d_M_isAhead_45 : Dc prog_14_method_91_code 45 (.iconst 0) 1 46 := ⟨by decide +kernel, rfl⟩
theorem d_M_isAhead_46 : Dc prog_14_method_91_code 46 (.ireturn) 1 47 := ⟨by decide +kernel, rfl⟩
theorem d_M_isAhead_47 : Dc prog_14_method_91_code 47 (.iload_n 2) 1 48 := ⟨by decide +kernel, rfl⟩
theorem d_M_isAhead_48 : Dj prog_14_method_91_code 48 (.ifCond .eq 7) 51 7 55 := ⟨by decide +kernel, rfl, rfl⟩
theorem d_M_isAhead_51 : Dc prog_14_method_91_code 51 (.iload_n 2) 1 52 := ⟨by decide +kernel, rfl⟩
theorem d_M_isAhead_52 : Dj prog_14_method_91_code 52 (.goto 34) 55 34 86 := ⟨by decide +kernel, rfl, rfl⟩
theorem d_M_isAhead_55 : Dc prog_14_method_91_code 55 (.iload 4) 2 57 := ⟨by decide +kernel, rfl⟩
theorem d_M_isAhead_57 : Dc prog_14_method_91_code 57 (.aload_n 0) 1 58 := ⟨by decide +kernel, rfl⟩
theorem d_M_isAhead_58 : Dc prog_14_method_91_code 58 (.getfield 111) 3 61 := ⟨by decide +kernel, rfl⟩
theorem d_M_isAhead_61 : Dc prog_14_method_91_code 61 (.iload_n 3) 1 62 := ⟨by decide +kernel, rfl⟩
theorem d_M_isAhead_62 : Dc prog_14_method_91_code 62 (.iaload) 1 63 := ⟨by decide +kernel, rfl⟩
theorem d_M_isAhead_63 : Dj prog_14_method_91_code 63 (.if_icmp .ge 7) 66 7 70 := ⟨by decide +kernel, rfl, rfl⟩
theorem d_M_isAhead_66 : Dc prog_14_method_91_code 66 (.iconst (-1)) 1 67 := ⟨by decide +kernel, rfl⟩
theorem d_M_isAhead_67 : Dj prog_14_method_91_code 67 (.goto 19) 70 19 86 := ⟨by decide +kernel, rfl, rfl⟩
theorem d_M_isAhead_70 : Dc prog_14_method_91_code 70 (.iload 4) 2 72 := ⟨by decide +kernel, rfl⟩
theorem d_M_isAhead_72 : Dc prog_14_method_91_code 72 (.aload_n 0) 1 73 := ⟨by decide +kernel, rfl⟩
theorem d_M_isAhead_73 : Dc prog_14_method_91_code 73 (.getfield 111) 3 76 := ⟨by decide +kernel, rfl⟩
theorem d_M_isAhead_76 : Dc prog_14_method_91_code 76 (.iload_n 3) 1 77 := ⟨by decide +kernel, rfl⟩
theorem d_M_isAhead_77 : Dc prog_14_method_91_code 77 (.iaload) 1 78 := ⟨by decide +kernel, rfl⟩
theorem d_M_isAhead_78 : Dj prog_14_method_91_code 78 (.if_icmp .le 7) 81 7 85 := ⟨by decide +kernel, rfl, rfl⟩
theorem d_M_isAhead_81 : Dc prog_14_method_91_code 81 (.iconst 1) 1 82 := ⟨by decide +kernel, rfl⟩
theorem d_M_isAhead_82 : Dj prog_14_method_91_code 82 (.goto 4) 85 4 86 := ⟨by decide +kernel, rfl, rfl⟩
theorem d_M_isAhead_85 : Dc prog_14_method_91_code 85 (.iconst 0) 1 86 := ⟨by decide +kernel, rfl⟩
theorem d_M_isAhead_86 : Dc prog_14_method_91_code 86 (.istore_n 2) 1 87 := ⟨by decide +kernel, rfl⟩
theorem d_M_isAhead_87 : Dc prog_14_method_91_code 87 (.iinc 3 1) 3 90 := ⟨by decide +kernel, rfl⟩
theorem d_M_isAhead_90 : Dj prog_14_method_91_code 90 (.goto (-86)) 93 (-86) 4 := ⟨by decide +kernel, rfl, rfl⟩
theorem d_M_isAhead_93 : Dc prog_14_method_91_code 93 (.iload_n 2) 1 94 := ⟨by decide +kernel, rfl⟩
theorem d_M_isAhead_94 : Dj prog_14_method_91_code 94 (.ifCond .ge 7) 97 7 101 := ⟨by decide +kernel, rfl, rfl⟩
theorem d_M_isAhead_97 : Dc prog_14_method_91_code 97 (.iconst 1) 1 98 := ⟨by decide +kernel, rfl⟩
theorem d_M_isAhead_98 : Dj prog_14_method_91_code 98 (.goto 4) 101 4 102 := ⟨by decide +kernel, rfl, rfl⟩
theorem d_M_isAhead_101 : Dc prog_14_method_91_code 101 (.iconst 0) 1 102 := ⟨by decide +kernel, rfl⟩
theorem d_M_isAhead_102 : Dc prog_14_method_91_code 102 (.ireturn) 1 103 := ⟨by decide +kernel, rfl⟩
theorem d_M_isOnce_0 : Dc prog_14_method_92_code 0 (.iconst 1) 1 1 := ⟨by decide +kernel, rfl⟩
theorem d_M_isOnce_1 : Dc prog_14_method_92_code 1 (.istore_n 1) 1 2 := ⟨by decide +kernel, rfl⟩
theorem d_M_isOnce_2 : Dc prog_14_method_92_code 2 (.iconst 0) 1 3 := ⟨by decide +kernel, rfl⟩
theorem d_M_isOnce_3 : Dc prog_14_method_92_code 3 (.istore_n 2) 1 4 := ⟨by decide +kernel, rfl⟩
theorem d_M_isOnce_4 : Dc prog_14_method_92_code 4 (.iload_n 2) 1 5 := ⟨by decide +kernel, rfl⟩
theorem d_M_isOnce_5 : Dc prog_14_method_92_code 5 (.aload_n 0) 1 6 := ⟨by decide +kernel, rfl⟩
theorem d_M_isOnce_6 : Dc prog_14_method_92_code 6 (.getfield 483) 3 9 := ⟨by decide +kernel, rfl⟩
theorem d_M_isOnce_9 : Dj prog_14_method_92_code 9 (.if_icmp .ge 27) 12 27 36 := ⟨by decide +kernel, rfl, rfl⟩
theorem d_M_isOnce_12 : Dc prog_14_method_92_code 12 (.iload_n 1) 1 13 := ⟨by decide +kernel, rfl⟩
theorem d_M_isOnce_13 : Dj prog_14_method_92_code 13 (.ifCond .eq 23) 16 23 36 := ⟨by decide +kernel, rfl, rfl⟩
theorem d_M_isOnce_16 : Dc prog_14_method_92_code 16 (.aload_n 0) 1 17 := ⟨by decide +kernel, rfl⟩
theorem d_M_isOnce_17 : Dc prog_14_method_92_code 17 (.iload_n 2) 1 18 := ⟨by decide +kernel, rfl⟩
theorem d_M_isOnce_18 : Dc prog_14_method_92_code 18 (.invokevirtual 492) 3 21 := ⟨by decide +kernel, rfl⟩
theorem d_M_isOnce_21 : Dj prog_14_method_92_code 21 (.ifCond .ne 7) 24 7 28 := ⟨by decide +kernel, rfl, rfl⟩
theorem d_M_isOnce_24 : Dc prog_14_method_92_code 24 (.iconst 1) 1 25 := ⟨by decide +kernel, rfl⟩
theorem d_M_isOnce_25 : Dj prog_14_method_92_code 25 (.goto 4) 28 4 29 := ⟨by decide +kernel, rfl, rfl⟩
theorem d_M_isOnce_28 : Dc prog_14_method_92_code 28 (.iconst 0) 1 29 := ⟨by decide +kernel, rfl⟩
theorem d_M_isOnce_29 : Dc prog_14_method_92_code 29 (.istore_n 1) 1 30 := ⟨by decide +kernel, rfl⟩
theorem d_M_isOnce_30 : Dc prog_14_method_92_code 30 (.iinc 2 1) 3 33 := ⟨by decide +kernel, rfl⟩
theorem d_M_isOnce_33 : Dj prog_14_method_92_code 33 (.goto (-29)) 36 (-29) 4 := ⟨by decide +kernel, rfl, rfl⟩
theorem d_M_isOnce_36 : Dc prog_14_method_92_code 36 (.iload_n 1) 1 37 := ⟨by decide +kernel, rfl⟩
theorem d_M_isOnce_37 : Dc prog_14_method_92_code 37 (.ireturn) 1 38 := ⟨by decide +kernel, rfl⟩
theorem d_M_once_0 : Dc prog_14_method_93_code 0 (.aload_n 0) 1 1 := ⟨by decide +kernel, rfl⟩
theorem d_M_once_1 : Dc prog_14_method_93_code 1 (.iconst 0) 1 2 := ⟨by decide +kernel, rfl⟩
theorem d_M_once_2 : Dc prog_14_method_93_code 2 (.putfield 170) 3 5 := ⟨by decide +kernel, rfl⟩
theorem d_M_once_5 : Dc prog_14_method_93_code 5 (.aload_n 0) 1 6 := ⟨by decide +kernel, rfl⟩
theorem d_M_once_6 : Dc prog_14_method_93_code 6 (.invokevirtual 489) 3 9 := ⟨by decide +kernel, rfl⟩
theorem d_M_once_9 : Dc prog_14_method_93_code 9 (.aload_n 0) 1 10 := ⟨by decide +kernel, rfl⟩
theorem d_M_once_10 : Dc prog_14_method_93_code 10 (.invokevirtual 474) 3 13 := ⟨by decide +kernel, rfl⟩
theorem d_M_once_13 : Dc prog_14_method_93_code 13 (.iconst 0) 1 14 := ⟨by decide +kernel, rfl⟩
theorem d_M_once_14 : Dc prog_14_method_93_code 14 (.istore_n 1) 1 15 := ⟨by decide +kernel, rfl⟩
theorem d_M_once_15 : Dc prog_14_method_93_code 15 (.aload_n 0) 1 16 := ⟨by decide +kernel, rfl⟩
theorem d_M_once_16 : Dc prog_14_method_93_code 16 (.invokevirtual 477) 3 19 := ⟨by decide +kernel, rfl⟩
theorem d_M_once_19 : Dj prog_14_method_93_code 19 (.ifCond .eq 21) 22 21 40 := ⟨by decide +kernel, rfl, rfl⟩
theorem d_M_once_22 : Dc prog_14_method_93_code 22 (.iload_n 1) 1 23 := ⟨by decide +kernel, rfl⟩
theorem d_M_once_23 : Dc prog_14_method_93_code 23 (.aload_n 0) 1 24 := ⟨by decide +kernel, rfl⟩
theorem d_M_once_24 : Dc prog_14_method_93_code 24 (.invokevirtual 495) 3 27 := ⟨by decide +kernel, rfl⟩
theorem d_M_once_27 : Dj prog_14_method_93_code 27 (.ifCond .eq 7) 30 7 34 := ⟨by decide +kernel, rfl, rfl⟩
theorem d_M_once_30 : Dc prog_14_method_93_code 30 (.iconst 1) 1 31 := ⟨by decide +kernel, rfl⟩
theorem d_M_once_31 : Dj prog_14_method_93_code 31 (.goto 4) 34 4 35 := ⟨by decide +kernel, rfl, rfl⟩
theorem d_M_once_34 : Dc prog_14_method_93_code 34 (.iconst 0) 1 35 := ⟨by decide +kernel, rfl⟩
theorem d_M_once_35 : Dc prog_14_method_93_code 35 (.iadd) 1 36 := ⟨by decide +kernel, rfl⟩
theorem d_M_once_36 : Dc prog_14_method_93_code 36 (.istore_n 1) 1 37 := ⟨by decide +kernel, rfl⟩
theorem d_M_once_37 : Dj prog_14_method_93_code 37 (.goto (-22)) 40 (-22) 15 := ⟨by decide +kernel, rfl, rfl⟩
theorem d_M_once_40 : Dc prog_14_method_93_code 40 (.iload_n 1) 1 41 := ⟨by decide +kernel, rfl⟩
theorem d_M_once_41 : Dc prog_14_method_93_code 41 (.ireturn) 1 42 := ⟨by decide +kernel, rfl⟩
theorem d_M_onceWay_0 : Dc prog_14_method_94_code 0 (.aload_n 0) 1 1 := ⟨by decide +kernel, rfl⟩
theorem d_M_onceWay_1 : Dc prog_14_method_94_code 1 (.iconst 0) 1 2 := ⟨by decide +kernel, rfl⟩
theorem d_M_onceWay_2 : Dc prog_14_method_94_code 2 (.putfield 170) 3 5 := ⟨by decide +kernel, rfl⟩
theorem d_M_onceWay_5 : Dc prog_14_method_94_code 5 (.aload_n 0) 1 6 := ⟨by decide +kernel, rfl⟩
theorem d_M_onceWay_6 : Dc prog_14_method_94_code 6 (.iload_n 2) 1 7 := ⟨by decide +kernel, rfl⟩
theorem d_M_onceWay_7 : Dc prog_14_method_94_code 7 (.invokevirtual 221) 3 10 := ⟨by decide +kernel, rfl⟩
theorem d_M_onceWay_10 : Dj prog_14_method_94_code 10 (.ifCond .eq 7) 13 7 17 := ⟨by decide +kernel, rfl, rfl⟩
theorem d_M_onceWay_13 : Dc prog_14_method_94_code 13 (.iload_n 1) 1 14 := ⟨by decide +kernel, rfl⟩
theorem d_M_onceWay_14 : Dj prog_14_method_94_code 14 (.ifCond .ge 5) 17 5 19 := ⟨by decide +kernel, rfl, rfl⟩
theorem d_M_onceWay_17 : Dc prog_14_method_94_code 17 (.iconst (-1)) 1 18 := ⟨by decide +kernel, rfl⟩
theorem d_M_onceWay_18 : Dc prog_14_method_94_code 18 (.ireturn) 1 19 := ⟨by decide +kernel, rfl⟩
theorem d_M_onceWay_19 : Dc prog_14_method_94_code 19 (.aload_n 0) 1 20 := ⟨by decide +kernel, rfl⟩
theorem d_M_onceWay_20 : Dc prog_14_method_94_code 20 (.invokevirtual 489) 3 23 := ⟨by decide +kernel, rfl⟩
theorem d_M_onceWay_23 : Dc prog_14_method_94_code 23 (.aload_n 0) 1 24 := ⟨by decide +kernel, rfl⟩
theorem d_M_onceWay_24 : Dc prog_14_method_94_code 24 (.invokevirtual 474) 3 27 := ⟨by decide +kernel, rfl⟩
theorem d_M_onceWay_27 : Dc prog_14_method_94_code 27 (.iconst 0) 1 28 := ⟨by decide +kernel, rfl⟩
theorem d_M_onceWay_28 : Dc prog_14_method_94_code 28 (.istore_n 3) 1 29 := ⟨by decide +kernel, rfl⟩
theorem d_M_onceWay_29 : Dc prog_14_method_94_code 29 (.aload_n 0) 1 30 := ⟨by decide +kernel, rfl⟩
theorem d_M_onceWay_30 : Dc prog_14_method_94_code 30 (.invokevirtual 477) 3 33 := ⟨by decide +kernel, rfl⟩
theorem d_M_onceWay_33 : Dj prog_14_method_94_code 33 (.ifCond .eq 28) 36 28 61 := ⟨by decide +kernel, rfl, rfl⟩
theorem d_M_onceWay_36 : Dc prog_14_method_94_code 36 (.aload_n 0) 1 37 := ⟨by decide +kernel, rfl⟩
theorem d_M_onceWay_37 : Dc prog_14_method_94_code 37 (.invokevirtual 495) 3 40 := ⟨by decide +kernel, rfl⟩
theorem d_M_onceWay_40 : Dj prog_14_method_94_code 40 (.ifCond .eq (-11)) 43 (-11) 29 := ⟨by decide +kernel, rfl, rfl⟩
theorem d_M_onceWay_43 : Dc prog_14_method_94_code 43 (.iload_n 3) 1 44 := ⟨by decide +kernel, rfl⟩
theorem d_M_onceWay_44 : Dc prog_14_method_94_code 44 (.iload_n 1) 1 45 := ⟨by decide +kernel, rfl⟩
theorem d_M_onceWay_45 : Dj prog_14_method_94_code 45 (.if_icmp .ne 10) 48 10 55 := ⟨by decide +kernel, rfl, rfl⟩
theorem d_M_onceWay_48 : Dc prog_14_method_94_code 48 (.aload_n 0) 1 49 := ⟨by decide +kernel, rfl⟩
theorem d_M_onceWay_49 : Dc prog_14_method_94_code 49 (.getfield 111) 3 52 := ⟨by decide +kernel, rfl⟩
theorem d_M_onceWay_52 : Dc prog_14_method_94_code 52 (.iload_n 2) 1 53 := ⟨by decide +kernel, rfl⟩
theorem d_M_onceWay_53 : Dc prog_14_method_94_code 53 (.iaload) 1 54 := ⟨by decide +kernel, rfl⟩
theorem d_M_onceWay_54 : Dc prog_14_method_94_code 54 (.ireturn) 1 55 := ⟨by decide +kernel, rfl⟩
theorem d_M_onceWay_55 : Dc prog_14_method_94_code 55 (.iinc 3 1) 3 58 := ⟨by decide +kernel, rfl⟩
theorem d_M_onceWay_58 : Dj prog_14_method_94_code 58 (.goto (-29)) 61 (-29) 29 := ⟨by decide +kernel, rfl, rfl⟩
theorem d_M_onceWay_61 : Dc prog_14_method_94_code 61 (.iconst (-1)) 1 62 := ⟨by decide +kernel, rfl⟩
theorem d_M_onceWay_62 : Dc prog_14_method_94_code 62 (.ireturn) 1 63 := ⟨by decide +kernel, rfl⟩
theorem d_M_symmetries_0 : Dc prog_14_method_90_code 0 (.aload_n 0) 1 1 := ⟨by decide +kernel, rfl⟩
theorem d_M_symmetries_1 : Dc prog_14_method_90_code 1 (.iconst 0) 1 2 := ⟨by decide +kernel, rfl⟩
theorem d_M_symmetries_2 : Dc prog_14_method_90_code 2 (.putfield 170) 3 5 := ⟨by decide +kernel, rfl⟩
theorem d_M_symmetries_5 : Dc prog_14_method_90_code 5 (.aload_n 0) 1 6 := ⟨by decide +kernel, rfl⟩
theorem d_M_symmetries_6 : Dc prog_14_method_90_code 6 (.invokevirtual 489) 3 9 := ⟨by decide +kernel, rfl⟩
theorem d_M_symmetries_9 : Dc prog_14_method_90_code 9 (.aload_n 0) 1 10 := ⟨by decide +kernel, rfl⟩
theorem d_M_symmetries_10 : Dc prog_14_method_90_code 10 (.getfield 13) 3 13 := ⟨by decide +kernel, rfl⟩
theorem d_M_symmetries_13 : Dc prog_14_method_90_code 13 (.iconst 1) 1 14 := ⟨by decide +kernel, rfl⟩
theorem d_M_symmetries_14 : Dc prog_14_method_90_code 14 (.iaload) 1 15 := ⟨by decide +kernel, rfl⟩
theorem d_M_symmetries_15 : Dj prog_14_method_90_code 15 (.ifCond .ne 7) 18 7 22 := ⟨by decide +kernel, rfl, rfl⟩
theorem d_M_symmetries_18 : Dc prog_14_method_90_code 18 (.iconst 1) 1 19 := ⟨by decide +kernel, rfl⟩
theorem d_M_symmetries_19 : Dj prog_14_method_90_code 19 (.goto 7) 22 7 26 := ⟨by decide +kernel, rfl, rfl⟩
theorem d_M_symmetries_22 : Dc prog_14_method_90_code 22 (.aload_n 0) 1 23 := ⟨by decide +kernel, rfl⟩
theorem d_M_symmetries_23 : Dc prog_14_method_90_code 23 (.getfield 483) 3 26 := ⟨by decide +kernel, rfl⟩
theorem d_M_symmetries_26 : Dc prog_14_method_90_code 26 (.ireturn) 1 27 := ⟨by decide +kernel, rfl⟩
theorem ml_M_489 : Cond.methodLink "SubgraphDeskModel" 489 m_M_layTurns.1 ∈ lw_gd := gd 2039 (by decide +kernel) rfl
theorem ml_M_492 : Cond.methodLink "SubgraphDeskModel" 492 m_M_isAhead.1 ∈ lw_gd := gd 2055 (by decide +kernel) rfl
theorem ml_M_495 : Cond.methodLink "SubgraphDeskModel" 495 m_M_isOnce.1 ∈ lw_gd := gd 2051 (by decide +kernel) rfl
/-- how the way put through a turn stands to the way, by the first v vertices -/
def lessN (q x : List Nat) : Nat → Int32
  | 0 => nI 0
  | v + 1 => if lessN q x v = 0 then (if gA q (gA x v) < gA q v then -1 else if gA q v < gA q (gA x v) then nI 1 else nI 0) else lessN q x v
def maysN (g : GC) (q x : List Nat) : Nat → Bool
  | 0 => true
  | v + 1 => maysN g q x v && gMay g v (gA q (gA x v))
def aheadG (g : GC) (q x : List Nat) : Bool := maysN g q x (gV g) && decide (lessN q x (gV g) < 0)
def onceG (g : GC) (q : List Nat) : Bool := (turnsM g).all (fun x => !aheadG g q x)
def onceL (g : GC) : List (List Nat) := (waysL g).filter (onceG g)
def opSymm (g : GC) : Int32 := nI (turnsL g).length
def opOnce (g : GC) : Int32 := nI (onceL g).length
noncomputable def opOnceWay (k v : Int32) (g : GC) : Int32 := by
  classical
  exact if ¬ inN v (gV g) ∨ k < 0 then -1 else match (onceL g)[tn k]? with
    | none => -1
    | some q => nI (gA q (tn v))
theorem oway_no {k v : Int32} {g : GC} (h : ¬ inN v (gV g) ∨ k < 0) : opOnceWay k v g = -1 := by unfold opOnceWay; exact if_pos h
theorem oway_ok {k v : Nat} {g : GC} (hk : k < 2 ^ 31) (hv : v < gV g) (hV : gV g ≤ 5) : opOnceWay (nI k) (nI v) g = match (onceL g)[k]? with | none => -1 | some q => nI (gA q v) := by
  unfold opOnceWay
  refine (if_neg ?_).trans ?_
  · rintro (h | h)
    · exact h (inN_nI hv (by omega))
    · exact nI_pos hk h
  · rw [tn_nI hk, tn_nI (by omega)]
theorem maysN_no {g : GC} {q x : List Nat} {v : Nat} (h : maysN g q x v = false) : ∀ m, v ≤ m → maysN g q x m = false
  | 0, hm => by rw [← h]; congr 1; omega
  | m + 1, hm => by
    by_cases e : v = m + 1
    · rw [← e]; exact h
    · unfold maysN
      rw [maysN_no h m (by omega), Bool.false_and]
theorem less_a {q x : List Nat} {v : Nat} (h : ¬ lessN q x v = 0) : lessN q x v = lessN q x (v + 1) := by
  rw [lessN, if_neg h]
theorem less_b {q x : List Nat} {v : Nat} (h : lessN q x v = 0) (h2 : gA q (gA x v) < gA q v) : (-1 : Int32) = lessN q x (v + 1) := by
  rw [lessN, if_pos h, if_pos h2]
theorem less_c {q x : List Nat} {v : Nat} (h : lessN q x v = 0) (h2 : gA q v < gA q (gA x v)) : nI 1 = lessN q x (v + 1) := by
  rw [lessN, if_pos h, if_neg (by omega), if_pos h2]
theorem less_d {q x : List Nat} {v : Nat} (h : lessN q x v = 0) (h2 : gA q v ≤ gA q (gA x v)) (h3 : gA q (gA x v) ≤ gA q v) : nI 0 = lessN q x (v + 1) := by
  rw [lessN, if_pos h, if_neg (by omega), if_neg (by omega)]
theorem less_l {k v : Nat} {a b : Int32} (h : a = b) : ([.ref 89, .int (nI k), .int a, .int (nI (v + 1)), un] : List Value) = [.ref 89, .int (nI k), .int b, .int (nI (v + 1)), un] := by rw [h]
theorem ahead_no {g : GC} {q x : List Nat} {v : Nat} (h : maysN g q x v = false) (hv : v ≤ gV g) : ¬ aheadG g q x = true := by
  unfold aheadG
  rw [maysN_no h _ hv, Bool.false_and]
  decide
theorem TurnsP.fr {w w2 : Mem} {ts : List (List Nat)} (h : TurnsP w ts) (h1 : rI w2 114 = rI w 114) (h2 : rI w2 89 47 = rI w 89 47) : TurnsP w2 ts := by
  unfold TurnsP
  rw [h1, h2]
  exact h
theorem TurnsP.A {w w2 : Mem} {ts : List (List Nat)} (h : TurnsP w ts) (hf : FrY w w2) : TurnsP w2 ts := h.fr (hf.1 114 (by decide) (by decide) (by decide) (by decide)) (hf.2.1 47 (by decide) (by decide) (by decide))
theorem TurnsP.I {w w2 : Mem} {ts : List (List Nat)} (h : TurnsP w ts) (hf : FrI w w2) : TurnsP w2 ts := h.fr (hf.1 114 (by decide) (by decide)) (hf.2.1 47 (by decide))
theorem c_M_isAhead {E : EV} {w : Mem} {g : GC} {q : List Nat} {ts : List (List Nat)} (hR : MRow (rI w 91) g) (hW : WG g) (hLd : Laid w g) (hLie : LieP w q) (hql : q.length = gV g) (hqn : ∀ n ∈ q, n < gN g) (hT : TurnsP w ts) {k : Nat} {x : List Nat} (hk : ts[k]? = some x) (hk2 : k < 120) (hx : x.length = gV g) (hx2 : ∀ n ∈ x, n < gV g) : T E m_M_isAhead 1 0 0 [.ref 89, .int (nI k)] w (Ret (some (.int (b2i (aheadG g q x = true)))) w) := by
  refine T_of (L := [.ref 89, .int (nI k), un, un, un]) cf_M_isAhead rfl (Nat.le_of_ble_eq_true rfl) (fun X hX hF => ?_)
  have hgn := hW.n
  have hgv := hW.v
  have lp : ∀ (fuel : Nat) (v : Nat), gV g - v < fuel → (v ≤ gV g) → (maysN g q x v = true) → G0 E X 0 0 4 [.ref 89, .int (nI k), .int (lessN q x v), .int (nI v), un] [] w := by
    intro fuel
    induction fuel with
    | zero => intro v q0; exact absurd q0 (Nat.not_lt_zero _)
    | succ fuel ih =>
      intro v q0 q1 q2
      refine g_iload3 hX d_M_isAhead_4 ?_
      refine g_aload0 hX d_M_isAhead_5 ?_
      refine g_getF hX d_M_isAhead_6 fl_M_13 (lv_89 _) ?_
      refine g_iconst (v := nI 1) hX d_M_isAhead_9 rfl ?_
      refine g_iald hX d_M_isAhead_10 (lv_91 _) rfl (by decide) ?_
      refine g_topi hR.v ?_
      refine g_icmpN_ge hX d_M_isAhead_11 (by omega) (by omega) (fun c0 => ?_) (fun c0 => ?_)
      · refine g_iload2 hX d_M_isAhead_93 ?_
        refine g_if_ge hX d_M_isAhead_94 (fun e94 => ?_) (fun e94 => ?_)
        · have hva : v = gV g := by omega
          refine g_iconst (v := nI 0) hX d_M_isAhead_101 rfl ?_
          refine g_zret hX hF d_M_isAhead_102 (by first | exact Or.inl rfl | exact Or.inr rfl) (by omega) (by omega) ?_
          rw [hva] at q2 e94
          first
            | exact ⟨by rw [b2i_f (by unfold aheadG; rw [q2, Bool.true_and, decide_eq_true_iff]; exact Int32.not_lt.mpr e94)]; rfl, rfl⟩
            | exact ⟨by rw [b2i_t (by unfold aheadG; rw [q2, Bool.true_and, decide_eq_true_iff]; exact Int32.not_le.mp e94)]; rfl, rfl⟩
        · have hva : v = gV g := by omega
          refine g_iconst (v := nI 1) hX d_M_isAhead_97 rfl ?_
          refine g_goto hX d_M_isAhead_98 ?_
          refine g_zret hX hF d_M_isAhead_102 (by first | exact Or.inl rfl | exact Or.inr rfl) (by omega) (by omega) ?_
          rw [hva] at q2 e94
          first
            | exact ⟨by rw [b2i_f (by unfold aheadG; rw [q2, Bool.true_and, decide_eq_true_iff]; exact Int32.not_lt.mpr e94)]; rfl, rfl⟩
            | exact ⟨by rw [b2i_t (by unfold aheadG; rw [q2, Bool.true_and, decide_eq_true_iff]; exact Int32.not_le.mp e94)]; rfl, rfl⟩
      · have hxv : gA x v < gV g := hx2 _ (gA_mem (by omega))
        have hqv : gA q v < gN g := hqn _ (gA_mem (by omega))
        have hqx : gA q (gA x v) < gN g := hqn _ (gA_mem (by omega))
        have hml := mayN_lt g v (gN g) hgn
        have htb := mayN_tb g v (gA q (gA x v)) (gN g)
        refine g_aload0 hX d_M_isAhead_14 ?_
        refine g_getF hX d_M_isAhead_15 fl_M_111 (lv_89 _) ?_
        refine g_aload0 hX d_M_isAhead_18 ?_
        refine g_getF hX d_M_isAhead_19 fl_M_114 (lv_89 _) ?_
        refine g_iconst (v := nI 5) hX d_M_isAhead_22 rfl ?_
        refine g_iload1 hX d_M_isAhead_23 ?_
        refine g_imulN hX d_M_isAhead_24 ?_
        refine g_iload3 hX d_M_isAhead_25 ?_
        refine g_iaddN hX d_M_isAhead_26 ?_
        refine g_iald hX d_M_isAhead_27 (lv_114 _) rfl (by omega) ?_
        refine g_topi (show rI w 114 (5 * k + v) = nI (gA x v) from hT.2 k x hk v (by omega)) ?_
        refine g_iald hX d_M_isAhead_28 (lv_113 _) rfl (by omega) ?_
        refine g_topi (hLie (gA x v) (by omega)) ?_
        refine g_istore4 hX d_M_isAhead_29 rfl (by decide) ?_
        refine g_aload0 hX d_M_isAhead_31 ?_
        refine g_getF hX d_M_isAhead_32 fl_M_105 (lv_89 _) ?_
        refine g_iload3 hX d_M_isAhead_35 ?_
        refine g_iald hX d_M_isAhead_36 (lv_111 _) rfl (by omega) ?_
        refine g_topi (hLd.2.1 v (by omega)) ?_
        refine g_iload4 hX d_M_isAhead_37 ?_
        refine g_callS (As := [_, _]) hX hF.1 d_M_isAhead_39 ml_M_468 cf_M_is cs_M_is rfl (c_M_is (by omega) (by omega)) (by omega) (by omega) (by omega) (Nat.le_of_ble_eq_true rfl) ?_
        refine ret_k ?_
        refine g_ifB_ne hX d_M_isAhead_42 (fun e42 => ?_) (fun e42 => ?_)
        · have hok : maysN g q x (v + 1) = true := by rw [maysN, q2, may_yes htb e42]; rfl
          refine g_iload2 hX d_M_isAhead_47 ?_
          refine g_if_eq hX d_M_isAhead_48 (fun e48 => ?_) (fun e48 => ?_)
          · refine g_iload4 hX d_M_isAhead_55 ?_
            refine g_aload0 hX d_M_isAhead_57 ?_
            refine g_getF hX d_M_isAhead_58 fl_M_111 (lv_89 _) ?_
            refine g_iload3 hX d_M_isAhead_61 ?_
            refine g_iald hX d_M_isAhead_62 (lv_113 _) rfl (by omega) ?_
            refine g_topi (hLie v (by omega)) ?_
            refine g_icmpN_ge hX d_M_isAhead_63 (by omega) (by omega) (fun e63 => ?_) (fun e63 => ?_)
            · refine g_iload4 hX d_M_isAhead_70 ?_
              refine g_aload0 hX d_M_isAhead_72 ?_
              refine g_getF hX d_M_isAhead_73 fl_M_111 (lv_89 _) ?_
              refine g_iload3 hX d_M_isAhead_76 ?_
              refine g_iald hX d_M_isAhead_77 (lv_113 _) rfl (by omega) ?_
              refine g_topi (hLie v (by omega)) ?_
              refine g_icmpN_le hX d_M_isAhead_78 (by omega) (by omega) (fun e78 => ?_) (fun e78 => ?_)
              · refine g_iconst (v := nI 0) hX d_M_isAhead_85 rfl ?_
                refine g_istore2 hX d_M_isAhead_86 rfl (by decide) ?_
                refine g_iincN3 hX d_M_isAhead_87 rfl (by decide) ?_
                refine g_goto hX d_M_isAhead_90 ?_
                refine g_fget 4 ?_
                refine g_loc (less_l (less_d e48 e63 e78)) ?_
                exact ih (v + 1) (by omega) (by omega) hok
              · refine g_iconst (v := nI 1) hX d_M_isAhead_81 rfl ?_
                refine g_goto hX d_M_isAhead_82 ?_
                refine g_istore2 hX d_M_isAhead_86 rfl (by decide) ?_
                refine g_iincN3 hX d_M_isAhead_87 rfl (by decide) ?_
                refine g_goto hX d_M_isAhead_90 ?_
                refine g_fget 4 ?_
                refine g_loc (less_l (less_c e48 e78)) ?_
                exact ih (v + 1) (by omega) (by omega) hok
            · refine g_iconst (v := -1) hX d_M_isAhead_66 rfl ?_
              refine g_goto hX d_M_isAhead_67 ?_
              refine g_istore2 hX d_M_isAhead_86 rfl (by decide) ?_
              refine g_iincN3 hX d_M_isAhead_87 rfl (by decide) ?_
              refine g_goto hX d_M_isAhead_90 ?_
              refine g_fget 4 ?_
              refine g_loc (less_l (less_b e48 e63)) ?_
              exact ih (v + 1) (by omega) (by omega) hok
          · refine g_iload2 hX d_M_isAhead_51 ?_
            refine g_goto hX d_M_isAhead_52 ?_
            refine g_istore2 hX d_M_isAhead_86 rfl (by decide) ?_
            refine g_iincN3 hX d_M_isAhead_87 rfl (by decide) ?_
            refine g_goto hX d_M_isAhead_90 ?_
            refine g_fget 4 ?_
            refine g_loc (less_l (less_a e48)) ?_
            exact ih (v + 1) (by omega) (by omega) hok
        · have hno : maysN g q x (v + 1) = false := by rw [maysN, may_no htb e42 hqx, Bool.and_false]
          refine g_iconst (v := nI 0) hX d_M_isAhead_45 rfl ?_
          refine g_zret hX hF d_M_isAhead_46 (Or.inl rfl) (by omega) (by omega) ?_
          exact ⟨by rw [b2i_f (ahead_no hno (by omega))]; rfl, rfl⟩
  refine g_iconst (v := nI 0) hX d_M_isAhead_0 rfl ?_
  refine g_istore2 hX d_M_isAhead_1 rfl (by decide) ?_
  refine g_iconst (v := nI 0) hX d_M_isAhead_2 rfl ?_
  refine g_istore3 hX d_M_isAhead_3 rfl (by decide) ?_
  exact lp (gV g + 1) 0 (by omega) (Nat.zero_le _) rfl
theorem all_ts {g : GC} {q : List Nat} {ts : List (List Nat)} {k : Nat} {x : List Nat} (hk : ts[k]? = some x) (h : (ts.take k).all (fun x => !aheadG g q x) = true) (h2 : aheadG g q x = false) : (ts.take (k + 1)).all (fun x => !aheadG g q x) = true := by
  rw [List.take_add_one, hk, List.all_append, h]
  simp [h2]
theorem no_ts {g : GC} {q : List Nat} {ts : List (List Nat)} {k : Nat} {x : List Nat} (hk : ts[k]? = some x) (h2 : aheadG g q x = true) : ts.all (fun x => !aheadG g q x) = false := by
  rw [List.all_eq_false]
  exact ⟨x, List.mem_of_getElem? hk, by simp [h2]⟩
theorem c_M_isOnce0 {E : EV} {w : Mem} {g : GC} {q : List Nat} {ts : List (List Nat)} (hR : MRow (rI w 91) g) (hW : WG g) (hLd : Laid w g) (hLie : LieP w q) (hql : q.length = gV g) (hqn : ∀ n ∈ q, n < gN g) (hT : TurnsP w ts) (hts : ∀ x ∈ ts, x.length = gV g ∧ ∀ n ∈ x, n < gV g) (hn : ts.length ≤ 120) : T E m_M_isOnce 2 0 0 [.ref 89] w (Ret (some (.int (b2i (ts.all (fun x => !aheadG g q x) = true)))) w) := by
  refine T_of (L := [.ref 89, un, un]) cf_M_isOnce rfl (Nat.le_of_ble_eq_true rfl) (fun X hX hF => ?_)
  have hgn := hW.n
  have hgv := hW.v
  have k0 : ∀ k, k ≤ ts.length → ts.all (fun x => !aheadG g q x) = false → G0 E X 0 0 4 [.ref 89, .int (nI 0), .int (nI k)] [] w := by
    intro k hk hno
    refine g_iload2 hX d_M_isOnce_4 ?_
    refine g_aload0 hX d_M_isOnce_5 ?_
    refine g_getI hX d_M_isOnce_6 fl_M_483 (lv_89 _) ?_
    refine g_topi hT.1 ?_
    refine g_icmpN_ge hX d_M_isOnce_9 (by omega) (by omega) (fun c0 => ?_) (fun c0 => ?_)
    · refine g_iload1 hX d_M_isOnce_36 ?_
      refine g_zret hX hF d_M_isOnce_37 (Or.inl rfl) (by omega) (by omega) ?_
      exact ⟨by rw [b2i_f (by rw [hno]; decide)]; rfl, rfl⟩
    · refine g_iload1 hX d_M_isOnce_12 ?_
      refine g_if_eq hX d_M_isOnce_13 (fun c1 => ?_) (fun h => absurd rfl h)
      refine g_iload1 hX d_M_isOnce_36 ?_
      refine g_zret hX hF d_M_isOnce_37 (Or.inl rfl) (by omega) (by omega) ?_
      exact ⟨by rw [b2i_f (by rw [hno]; decide)]; rfl, rfl⟩
  have lp : ∀ (fuel : Nat) (k : Nat), ts.length - k < fuel → (k ≤ ts.length) → ((ts.take k).all (fun x => !aheadG g q x) = true) → G0 E X 0 0 4 [.ref 89, .int (nI 1), .int (nI k)] [] w := by
    intro fuel
    induction fuel with
    | zero => intro k q0; exact absurd q0 (Nat.not_lt_zero _)
    | succ fuel ih =>
      intro k q0 q1 q2
      refine g_iload2 hX d_M_isOnce_4 ?_
      refine g_aload0 hX d_M_isOnce_5 ?_
      refine g_getI hX d_M_isOnce_6 fl_M_483 (lv_89 _) ?_
      refine g_topi hT.1 ?_
      refine g_icmpN_ge hX d_M_isOnce_9 (by omega) (by omega) (fun c0 => ?_) (fun c0 => ?_)
      · refine g_iload1 hX d_M_isOnce_36 ?_
        refine g_zret hX hF d_M_isOnce_37 (Or.inr rfl) (by omega) (by omega) ?_
        exact ⟨by rw [b2i_t (by rw [← q2, List.take_of_length_le (by omega)])]; rfl, rfl⟩
      · obtain ⟨x, hkx⟩ : ∃ x, ts[k]? = some x := ⟨_, List.getElem?_eq_getElem (by omega)⟩
        obtain ⟨hx1, hx2⟩ := hts x (List.mem_of_getElem? hkx)
        refine g_iload1 hX d_M_isOnce_12 ?_
        refine g_if_eq hX d_M_isOnce_13 (fun h => absurd h (by decide)) (fun c1 => ?_)
        refine g_aload0 hX d_M_isOnce_16 ?_
        refine g_iload2 hX d_M_isOnce_17 ?_
        refine g_callV (As := [_]) hX hF.1 d_M_isOnce_18 ml_M_492 cf_M_isAhead cv_M_isAhead rfl rfl (c_M_isAhead hR hW hLd hLie hql hqn hT hkx (by omega) hx1 hx2) (rcv_obj hX (lv_89 _) rfl rfl) (by omega) (by omega) (by omega) (Nat.le_of_ble_eq_true rfl) ?_
        refine ret_k ?_
        refine g_ifB_ne hX d_M_isOnce_21 (fun e21 => ?_) (fun e21 => ?_)
        · refine g_iconst (v := nI 0) hX d_M_isOnce_28 rfl ?_
          refine g_istore1 hX d_M_isOnce_29 rfl (by decide) ?_
          refine g_iincN2 hX d_M_isOnce_30 rfl (by decide) ?_
          refine g_goto hX d_M_isOnce_33 ?_
          exact k0 (k + 1) (by omega) (no_ts hkx e21)
        · refine g_iconst (v := nI 1) hX d_M_isOnce_24 rfl ?_
          refine g_goto hX d_M_isOnce_25 ?_
          refine g_istore1 hX d_M_isOnce_29 rfl (by decide) ?_
          refine g_iincN2 hX d_M_isOnce_30 rfl (by decide) ?_
          refine g_goto hX d_M_isOnce_33 ?_
          exact ih (k + 1) (by omega) (by omega) (all_ts hkx q2 (Bool.eq_false_iff.mpr e21))
  refine g_iconst (v := nI 1) hX d_M_isOnce_0 rfl ?_
  refine g_istore1 hX d_M_isOnce_1 rfl (by decide) ?_
  refine g_iconst (v := nI 0) hX d_M_isOnce_2 rfl ?_
  refine g_istore2 hX d_M_isOnce_3 rfl (by decide) ?_
  exact lp (ts.length + 1) 0 (by omega) (Nat.zero_le _) rfl
theorem turnsM_le {g : GC} (hW : WG g) : (turnsM g).length ≤ 120 := by
  unfold turnsM
  split
  · simp
  · exact turns_le hW.v
theorem turnsM_mem {g : GC} : ∀ x ∈ turnsM g, x.length = gV g ∧ ∀ n ∈ x, n < gV g := fun x hx => by
  unfold turnsM at hx
  split at hx
  · simp at hx
  · exact turns_mem hx
theorem c_M_isOnce {E : EV} {w : Mem} {g : GC} {q : List Nat} (hR : MRow (rI w 91) g) (hW : WG g) (hLd : Laid w g) (hLie : LieP w q) (hql : q.length = gV g) (hqn : ∀ n ∈ q, n < gN g) (hT : TurnsP w (turnsM g)) : T E m_M_isOnce 2 0 0 [.ref 89] w (Ret (some (.int (b2i (onceG g q = true)))) w) :=
  c_M_isOnce0 hR hW hLd hLie hql hqn hT turnsM_mem (turnsM_le hW)
theorem c_M_symmetries {E : EV} {w : Mem} {s : SG} (h : MInv w s) : T E m_M_symmetries 8 0 0 [.ref 89] w (fun r w2 => r = some (.int (opSymm (sG s))) ∧ MInv w2 s ∧ FrM w w2) := by
  refine T_of (L := [.ref 89]) cf_M_symmetries rfl (Nat.le_of_ble_eq_true rfl) (fun X hX hF => ?_)
  obtain ⟨⟨hR, hL, hW⟩, hU, hT, hI, hRf, hSt, hFa, hSm, hSp, hDr, hOr⟩ := id h
  have hn := hW.n
  have hv := hW.v
  have he := hW.el
  have hle := turnsM_le hW
  refine g_aload0 hX d_M_symmetries_0 ?_
  refine g_iconst (v := nI 0) hX d_M_symmetries_1 rfl ?_
  refine g_putI hX d_M_symmetries_2 fl_M_170 (lv_89 _) ?_
  refine g_aload0 hX d_M_symmetries_5 ?_
  have hS0 : Scr w (sI w 89 0 (nI 0)) := (by repeat (first | exact Scr.rf _ | refine Scr.I9 (by decide) ?_ | refine Scr.I (by decide) ?_ | refine Scr.A (by decide) ?_ | refine Scr.J9 ?_ | refine Scr.J (by decide) ?_ | refine Scr.B (by decide) ?_))
  refine g_callV (As := []) hX hF.1 d_M_symmetries_6 ml_M_489 cf_M_layTurns cv_M_layTurns rfl rfl (c_M_layTurns (w := sI w 89 0 (nI 0)) (g := sG s) hR hW) (rcv_obj hX (lv_89 _) rfl rfl) (by omega) (by omega) (by omega) (Nat.le_of_ble_eq_true rfl) ?_
  rintro _ w1 ⟨rfl, hf, hT1⟩
  have hR1 : MRow (rI w1 91) (sG s) := by rw [hf.1 91 (by decide) (by decide) (by decide)]; exact hR
  show G0 _ _ _ _ _ _ _ _
  refine g_aload0 hX d_M_symmetries_9 ?_
  refine g_getF hX d_M_symmetries_10 fl_M_13 (lv_89 _) ?_
  refine g_iconst (v := nI 1) hX d_M_symmetries_13 rfl ?_
  refine g_iald hX d_M_symmetries_14 (lv_91 _) rfl (by decide) ?_
  refine g_topi hR1.v ?_
  refine g_if_ne hX d_M_symmetries_15 (fun e15 => ?_) (fun e15 => ?_)
  · have hv0 : ¬ gV (sG s) = 0 := fun z => e15 (by rw [z]; rfl)
    refine g_aload0 hX d_M_symmetries_22 ?_
    refine g_getI hX d_M_symmetries_23 fl_M_483 (lv_89 _) ?_
    refine g_topi hT1.1 ?_
    refine g_iret hX hF d_M_symmetries_26 (by omega) (by omega) ?_
    refine ⟨?_, h.keep (hS0.tr hf.S), (hS0.tr hf.S).1⟩
    first
      | rw [show opSymm (sG s) = nI (turnsM (sG s)).length by unfold opSymm turnsM; rw [if_neg hv0]]
      | rw [show opSymm (sG s) = nI 1 by unfold opSymm turnsL; rw [hv0]; rfl]
  · have hv0 : gV (sG s) = 0 := nI_inj (by omega) (by decide) e15
    refine g_iconst (v := nI 1) hX d_M_symmetries_18 rfl ?_
    refine g_goto hX d_M_symmetries_19 ?_
    refine g_iret hX hF d_M_symmetries_26 (by omega) (by omega) ?_
    refine ⟨?_, h.keep (hS0.tr hf.S), (hS0.tr hf.S).1⟩
    first
      | rw [show opSymm (sG s) = nI (turnsM (sG s)).length by unfold opSymm turnsM; rw [if_neg hv0]]
      | rw [show opSymm (sG s) = nI 1 by unfold opSymm turnsL; rw [hv0]; rfl]
theorem c_M_once {E : EV} {w : Mem} {s : SG} (h : MInv w s) : T E m_M_once 8 0 0 [.ref 89] w (fun r w2 => r = some (.int (opOnce (sG s))) ∧ MInv w2 s ∧ FrM w w2) := by
  refine T_of (L := [.ref 89, un]) cf_M_once rfl (Nat.le_of_ble_eq_true rfl) (fun X hX hF => ?_)
  obtain ⟨⟨hR, hL, hW⟩, hU, hT, hI, hRf, hSt, hFa, hSm, hSp, hDr, hOr⟩ := id h
  have hn := hW.n
  have hv := hW.v
  have he := hW.el
  have hMG0 : MG w (sG s) := ⟨hR, hL, hOr⟩
  have lp : ∀ (fuel : Nat) (ws : List (List Nat)) (i : Nat) (wk : Mem), ws.length < fuel → (Scr w wk) → (Laid wk (sG s)) → (ItW wk (sG s) ws) → (TurnsP wk (turnsM (sG s))) → (i + (ws.filter (onceG (sG s))).length = (onceL (sG s)).length) → G0 E X 0 0 15 [.ref 89, .int (nI i)] [] wk := by
    intro fuel
    induction fuel with
    | zero => intro ws i wk q0; exact absurd q0 (Nat.not_lt_zero _)
    | succ fuel ih =>
      intro ws i wk q0 q1 q2 q3 q4 q5
      refine g_aload0 hX d_M_once_15 ?_
      refine g_callV (As := []) hX hF.1 d_M_once_16 ml_M_477 cf_M_isWay cv_M_isWay rfl rfl (c_M_isWay (hMG0.scr q1) hW q2 q3) (rcv_obj hX (lv_89 _) rfl rfl) (by omega) (by omega) (by omega) (Nat.le_of_ble_eq_true rfl) ?_
      rintro _ w2 ⟨hf, hp⟩
      obtain ⟨x, rfl, hx⟩ := hp.c
      show G0 _ _ _ _ _ _ _ _
      refine g_if_eq hX d_M_once_19 (fun e19 => ?_) (fun e19 => ?_)
      · have e_ : ws = [] := by
          rcases hx with hx | hx
          · exact hx.2
          · exact absurd (hx.1.symm.trans e19) (by decide)
        refine g_iload1 hX d_M_once_40 ?_
        refine g_iret hX hF d_M_once_41 (by omega) (by omega) ?_
        have hi : i = (onceL (sG s)).length := by rw [← q5, e_]; rfl
        exact ⟨by rw [hi]; rfl, h.keep (q1.tr hf.S), (q1.tr hf.S).1⟩
      · obtain ⟨q, t, hqt, ql, qn, qL, qI⟩ : ∃ q t, ws = q :: t ∧ q.length = gV (sG s) ∧ (∀ n ∈ q, n < gN (sG s)) ∧ LieP w2 q ∧ ItW w2 (sG s) t := by
          rcases hx with hx | hx
          · exact absurd hx.1 e19
          · exact hx.2
        have hl : ws.length = t.length + 1 := by rw [hqt]; rfl
        refine g_iload1 hX d_M_once_22 ?_
        refine g_aload0 hX d_M_once_23 ?_
        refine g_callV (As := []) hX hF.1 d_M_once_24 ml_M_495 cf_M_isOnce cv_M_isOnce rfl rfl (c_M_isOnce (g := sG s) (q := q) (hMG0.scr (q1.tr hf.S)).1 hW (q2.I hf) qL ql qn (q4.I hf)) (rcv_obj hX (lv_89 _) rfl rfl) (by omega) (by omega) (by omega) (Nat.le_of_ble_eq_true rfl) ?_
        refine ret_k ?_
        refine g_ifB_eq hX d_M_once_27 (fun e27 => ?_) (fun e27 => ?_)
        · refine g_iconst (v := nI 0) hX d_M_once_34 rfl ?_
          refine g_iaddN hX d_M_once_35 ?_
          refine g_istore1 hX d_M_once_36 rfl (by decide) ?_
          refine g_goto hX d_M_once_37 ?_
          refine ih t (i + 0) w2 (by omega) (q1.tr hf.S) (q2.I hf) qI (q4.I hf) ?_
          rw [← q5, hqt, List.filter_cons_of_neg e27]; rfl
        · refine g_iconst (v := nI 1) hX d_M_once_30 rfl ?_
          refine g_goto hX d_M_once_31 ?_
          refine g_iaddN hX d_M_once_35 ?_
          refine g_istore1 hX d_M_once_36 rfl (by decide) ?_
          refine g_goto hX d_M_once_37 ?_
          refine ih t (i + 1) w2 (by omega) (q1.tr hf.S) (q2.I hf) qI (q4.I hf) ?_
          rw [← q5, hqt, List.filter_cons_of_pos e27, List.length_cons]; omega
  refine g_aload0 hX d_M_once_0 ?_
  refine g_iconst (v := nI 0) hX d_M_once_1 rfl ?_
  refine g_putI hX d_M_once_2 fl_M_170 (lv_89 _) ?_
  refine g_aload0 hX d_M_once_5 ?_
  have hS0 : Scr w (sI w 89 0 (nI 0)) := (by repeat (first | exact Scr.rf _ | refine Scr.I9 (by decide) ?_ | refine Scr.I (by decide) ?_ | refine Scr.A (by decide) ?_ | refine Scr.J9 ?_ | refine Scr.J (by decide) ?_ | refine Scr.B (by decide) ?_))
  refine g_callV (As := []) hX hF.1 d_M_once_6 ml_M_489 cf_M_layTurns cv_M_layTurns rfl rfl (c_M_layTurns (w := sI w 89 0 (nI 0)) (g := sG s) hR hW) (rcv_obj hX (lv_89 _) rfl rfl) (by omega) (by omega) (by omega) (Nat.le_of_ble_eq_true rfl) ?_
  rintro _ w0 ⟨rfl, hf0, hTu⟩
  have hS2 := hS0.tr hf0.S
  have hMG2 := hMG0.scr hS2
  show G0 _ _ _ _ _ _ _ _
  refine g_aload0 hX d_M_once_9 ?_
  refine g_callV (As := []) hX hF.1 d_M_once_10 ml_M_474 cf_M_beginWays cv_M_beginWays rfl rfl (c_M_beginWaysA hMG2 hW) (rcv_obj hX (lv_89 _) rfl rfl) (by omega) (by omega) (by omega) (Nat.le_of_ble_eq_true rfl) ?_
  rintro _ w1 ⟨rfl, hfA, hLd, hIt⟩
  have hT1 := hTu.A hfA
  show G0 _ _ _ _ _ _ _ _
  refine g_iconst (v := nI 0) hX d_M_once_13 rfl ?_
  refine g_istore1 hX d_M_once_14 rfl (by decide) ?_
  exact lp _ (waysL (sG s)) 0 w1 (Nat.lt_succ_self _) (hS2.tr hfA.S) hLd hIt hT1 (Nat.zero_add _)
theorem c_M_onceWay {E : EV} {w : Mem} {k v : Int32} {s : SG} (h : MInv w s) : T E m_M_onceWay 8 0 0 [.ref 89, .int k, .int v] w (fun r w2 => r = some (.int (opOnceWay k v (sG s))) ∧ MInv w2 s ∧ FrM w w2) := by
  refine T_of (L := [.ref 89, .int k, .int v, un]) cf_M_onceWay rfl (Nat.le_of_ble_eq_true rfl) (fun X hX hF => ?_)
  obtain ⟨⟨hR, hL, hW⟩, hU, hT, hI, hRf, hSt, hFa, hSm, hSp, hDr, hOr⟩ := id h
  have hn := hW.n
  have hv := hW.v
  have he := hW.el
  have hMG0 : MG w (sG s) := ⟨hR, hL, hOr⟩
  
  refine g_aload0 hX d_M_onceWay_0 ?_
  refine g_iconst (v := nI 0) hX d_M_onceWay_1 rfl ?_
  refine g_putI hX d_M_onceWay_2 fl_M_170 (lv_89 _) ?_
  refine g_aload0 hX d_M_onceWay_5 ?_
  refine g_iload2 hX d_M_onceWay_6 ?_
  refine g_callV (As := [_]) hX hF.1 d_M_onceWay_7 ml_M_221 cf_M_isVertex cv_M_isVertex rfl rfl (c_M_isVertex hR hW) (rcv_obj hX (lv_89 _) rfl rfl) (by omega) (by omega) (by omega) (Nat.le_of_ble_eq_true rfl) ?_
  refine ret_k ?_
  refine g_ifB_eq hX d_M_onceWay_10 (fun e10 => ?_) (fun e10 => ?_)
  · refine g_iconst (v := -1) hX d_M_onceWay_17 rfl ?_
    refine g_iret hX hF d_M_onceWay_18 (by omega) (by omega) ?_
    refine ⟨?_, h.keep (by repeat (first | exact Scr.rf _ | refine Scr.I9 (by decide) ?_ | refine Scr.I (by decide) ?_ | refine Scr.A (by decide) ?_ | refine Scr.J9 ?_ | refine Scr.J (by decide) ?_ | refine Scr.B (by decide) ?_)), (by repeat (first | exact FrM.rf _ | refine FrM.I (by decide) ?_ | refine FrM.A (by decide) ?_ | refine FrM.B (by decide) ?_ | refine FrM.J9 ?_ | refine FrM.J (by decide) ?_))⟩
    rw [oway_no (by first | exact Or.inl e10 | exact Or.inr (Int32.not_le.mp e14))]
  · obtain ⟨v, hjv, rfl, htv⟩ := inN_of e10 (by omega)
    refine g_iload1 hX d_M_onceWay_13 ?_
    refine g_if_ge hX d_M_onceWay_14 (fun e14 => ?_) (fun e14 => ?_)
    · obtain ⟨k, hk2, rfl⟩ := nI_of (fun z => absurd e14 (Int32.not_le.mpr z))
      have hS0 : Scr w (sI w 89 0 (nI 0)) := (by repeat (first | exact Scr.rf _ | refine Scr.I9 (by decide) ?_ | refine Scr.I (by decide) ?_ | refine Scr.A (by decide) ?_ | refine Scr.J9 ?_ | refine Scr.J (by decide) ?_ | refine Scr.B (by decide) ?_))
      have lp : ∀ (fuel : Nat) (ws : List (List Nat)) (i : Nat) (wk : Mem), ws.length < fuel → (Scr w wk) → (Laid wk (sG s)) → (ItW wk (sG s) ws) → (TurnsP wk (turnsM (sG s))) → ((onceL (sG s)).drop i = ws.filter (onceG (sG s))) → (i ≤ k) → G0 E X 0 0 29 [.ref 89, .int (nI k), .int (nI v), .int (nI i)] [] wk := by
        intro fuel
        induction fuel with
        | zero => intro ws i wk q0; exact absurd q0 (Nat.not_lt_zero _)
        | succ fuel ih =>
          intro ws i wk q0 q1 q2 q3 q4 q5 q6
          refine g_aload0 hX d_M_onceWay_29 ?_
          refine g_callV (As := []) hX hF.1 d_M_onceWay_30 ml_M_477 cf_M_isWay cv_M_isWay rfl rfl (c_M_isWay (g := sG s) (hMG0.scr q1) hW q2 q3) (rcv_obj hX (lv_89 _) rfl rfl) (by omega) (by omega) (by omega) (Nat.le_of_ble_eq_true rfl) ?_
          rintro _ w2 ⟨hf, hp⟩
          obtain ⟨x, rfl, hx⟩ := hp.c
          show G0 _ _ _ _ _ _ _ _
          refine g_if_eq hX d_M_onceWay_33 (fun e33 => ?_) (fun e33 => ?_)
          · have e_ : ws = [] := by
              rcases hx with hx | hx
              · exact hx.2
              · exact absurd (hx.1.symm.trans e33) (by decide)
            refine g_iconst (v := -1) hX d_M_onceWay_61 rfl ?_
            refine g_iret hX hF d_M_onceWay_62 (by omega) (by omega) ?_
            refine ⟨?_, h.keep (q1.tr hf.S), (q1.tr hf.S).1⟩
            have hg : (onceL (sG s))[k]? = none := by
              rw [List.getElem?_eq_none_iff]
              have := congrArg List.length q5
              rw [List.length_drop, e_] at this
              have h0 : (([] : List (List Nat)).filter (onceG (sG s))).length = 0 := rfl
              omega
            rw [oway_ok hk2 hjv hv, hg]
          · obtain ⟨q, t, hqt, ql, qn, qL, qI⟩ : ∃ q t, ws = q :: t ∧ q.length = gV (sG s) ∧ (∀ n ∈ q, n < gN (sG s)) ∧ LieP w2 q ∧ ItW w2 (sG s) t := by
              rcases hx with hx | hx
              · exact absurd hx.1 e33
              · exact hx.2
            have hl : ws.length = t.length + 1 := by rw [hqt]; rfl
            refine g_aload0 hX d_M_onceWay_36 ?_
            refine g_callV (As := []) hX hF.1 d_M_onceWay_37 ml_M_495 cf_M_isOnce cv_M_isOnce rfl rfl (c_M_isOnce (g := sG s) (q := q) (hMG0.scr (q1.tr hf.S)).1 hW (q2.I hf) qL ql qn (q4.I hf)) (rcv_obj hX (lv_89 _) rfl rfl) (by omega) (by omega) (by omega) (Nat.le_of_ble_eq_true rfl) ?_
            refine ret_k ?_
            refine g_ifB_eq hX d_M_onceWay_40 (fun e40 => ?_) (fun e40 => ?_)
            · refine ih t i w2 (by omega) (q1.tr hf.S) (q2.I hf) qI (q4.I hf) ?_ q6
              rw [q5, hqt, List.filter_cons_of_neg e40]
            · have q7 : (onceL (sG s)).drop i = q :: t.filter (onceG (sG s)) := by rw [q5, hqt, List.filter_cons_of_pos e40]
              refine g_iload3 hX d_M_onceWay_43 ?_
              refine g_iload1 hX d_M_onceWay_44 ?_
              refine g_icmpN_ne hX d_M_onceWay_45 (by omega) (by omega) (fun e45 => ?_) (fun e45 => ?_)
              · refine g_iincN3 hX d_M_onceWay_55 rfl (by decide) ?_
                refine g_goto hX d_M_onceWay_58 ?_
                exact ih t (i + 1) w2 (by omega) (q1.tr hf.S) (q2.I hf) qI (q4.I hf) (by rw [← List.drop_drop, q7]; rfl) (by omega)
              · refine g_aload0 hX d_M_onceWay_48 ?_
                refine g_getF hX d_M_onceWay_49 fl_M_111 (lv_89 _) ?_
                refine g_iload2 hX d_M_onceWay_52 ?_
                refine g_iald hX d_M_onceWay_53 (lv_113 _) rfl (by omega) ?_
                refine g_topi (qL v (by omega)) ?_
                refine g_iret hX hF d_M_onceWay_54 (by omega) (by omega) ?_
                refine ⟨?_, h.keep (q1.tr hf.S), (q1.tr hf.S).1⟩
                have hg : (onceL (sG s))[k]? = some q := by
                  rw [← e45, ← List.head?_drop, q7]
                  rfl
                rw [oway_ok hk2 hjv hv, hg]
      refine g_aload0 hX d_M_onceWay_19 ?_
      refine g_callV (As := []) hX hF.1 d_M_onceWay_20 ml_M_489 cf_M_layTurns cv_M_layTurns rfl rfl (c_M_layTurns (w := sI w 89 0 (nI 0)) (g := sG s) hR hW) (rcv_obj hX (lv_89 _) rfl rfl) (by omega) (by omega) (by omega) (Nat.le_of_ble_eq_true rfl) ?_
      rintro _ w0 ⟨rfl, hf0, hTu⟩
      have hS2 := hS0.tr hf0.S
      have hMG2 := hMG0.scr hS2
      show G0 _ _ _ _ _ _ _ _
      refine g_aload0 hX d_M_onceWay_23 ?_
      refine g_callV (As := []) hX hF.1 d_M_onceWay_24 ml_M_474 cf_M_beginWays cv_M_beginWays rfl rfl (c_M_beginWaysA hMG2 hW) (rcv_obj hX (lv_89 _) rfl rfl) (by omega) (by omega) (by omega) (Nat.le_of_ble_eq_true rfl) ?_
      rintro _ w1 ⟨rfl, hfA, hLd, hIt⟩
      have hT1 := hTu.A hfA
      show G0 _ _ _ _ _ _ _ _
      refine g_iconst (v := nI 0) hX d_M_onceWay_27 rfl ?_
      refine g_istore3 hX d_M_onceWay_28 rfl (by decide) ?_
      exact lp _ (waysL (sG s)) 0 w1 (Nat.lt_succ_self _) (hS2.tr hfA.S) hLd hIt hT1 rfl (Nat.zero_le _)
    · refine g_iconst (v := -1) hX d_M_onceWay_17 rfl ?_
      refine g_iret hX hF d_M_onceWay_18 (by omega) (by omega) ?_
      refine ⟨?_, h.keep (by repeat (first | exact Scr.rf _ | refine Scr.I9 (by decide) ?_ | refine Scr.I (by decide) ?_ | refine Scr.A (by decide) ?_ | refine Scr.J9 ?_ | refine Scr.J (by decide) ?_ | refine Scr.B (by decide) ?_)), (by repeat (first | exact FrM.rf _ | refine FrM.I (by decide) ?_ | refine FrM.A (by decide) ?_ | refine FrM.B (by decide) ?_ | refine FrM.J9 ?_ | refine FrM.J (by decide) ?_))⟩
      rw [oway_no (by first | exact Or.inl e10 | exact Or.inr (Int32.not_le.mp e14))]
