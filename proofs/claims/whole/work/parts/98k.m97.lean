def m_D_fitting : MR := (⟨"SubgraphDesk", "fitting", "()I"⟩, prog_1_method_47_code, 1, (some .int))
theorem cf_D_fitting : CF m_D_fitting 0 := ⟨gd 1373 (by decide +kernel) rfl, gd 139 (by decide +kernel) rfl, by decide +kernel, by decide, by decide +kernel⟩
theorem cv_D_fitting : CV m_D_fitting := ⟨gd 1371 (by decide +kernel) rfl, gd 1372 (by decide +kernel) rfl⟩
def m_D_look : MR := (⟨"SubgraphDesk", "look", "(I)I"⟩, prog_1_method_48_code, 3, (some .int))
theorem cf_D_look : CF m_D_look 1 := ⟨gd 1385 (by decide +kernel) rfl, gd 139 (by decide +kernel) rfl, by decide +kernel, by decide, by decide +kernel⟩
theorem cv_D_look : CV m_D_look := ⟨gd 1383 (by decide +kernel) rfl, gd 1384 (by decide +kernel) rfl⟩
def m_D_startFitting : MR := (⟨"SubgraphDesk", "startFitting", "()V"⟩, prog_1_method_46_code, 1, none)
theorem cf_D_startFitting : CF m_D_startFitting 0 := ⟨gd 1377 (by decide +kernel) rfl, gd 139 (by decide +kernel) rfl, by decide +kernel, by decide, by decide +kernel⟩
theorem cv_D_startFitting : CV m_D_startFitting := ⟨gd 1376 (by decide +kernel) rfl, gd 55 (by decide +kernel) rfl⟩
def m_Le_keepToSights : MR := (⟨"SubgraphDesk$Ledger", "keepToSights", "(LSubgraphDesk$Board;)V"⟩, prog_5_method_5_code, 4, none)
theorem cf_Le_keepToSights : CF m_Le_keepToSights 1 := ⟨gd 1381 (by decide +kernel) rfl, gd 145 (by decide +kernel) rfl, by decide +kernel, by decide, by decide +kernel⟩
theorem cv_Le_keepToSights : CV m_Le_keepToSights := ⟨gd 1379 (by decide +kernel) rfl, gd 1380 (by decide +kernel) rfl⟩
def m_Wa_findTelling : MR := (⟨"SubgraphDesk$Walker", "findTelling", "()I"⟩, prog_12_method_15_code, 4, (some .int))
theorem cf_Wa_findTelling : CF m_Wa_findTelling 0 := ⟨gd 1389 (by decide +kernel) rfl, gd 146 (by decide +kernel) rfl, by decide +kernel, by decide, by decide +kernel⟩
theorem cv_Wa_findTelling : CV m_Wa_findTelling := ⟨gd 1387 (by decide +kernel) rfl, gd 1388 (by decide +kernel) rfl⟩
def m_Wa_mostOnOneNode : MR := (⟨"SubgraphDesk$Walker", "mostOnOneNode", "(I)I"⟩, prog_12_method_16_code, 4, (some .int))
theorem cf_Wa_mostOnOneNode : CF m_Wa_mostOnOneNode 1 := ⟨gd 1394 (by decide +kernel) rfl, gd 146 (by decide +kernel) rfl, by decide +kernel, by decide, by decide +kernel⟩
theorem cv_Wa_mostOnOneNode : CV m_Wa_mostOnOneNode := ⟨gd 1392 (by decide +kernel) rfl, gd 1393 (by decide +kernel) rfl⟩
theorem d_D_fitting_0 : Dc prog_1_method_47_code 0 (.aload_n 0) 1 1 := ⟨by decide +kernel, rfl⟩
theorem d_D_fitting_1 : Dc prog_1_method_47_code 1 (.invokevirtual 350) 3 4 := ⟨by decide +kernel, rfl⟩
theorem d_D_fitting_4 : Dc prog_1_method_47_code 4 (.aload_n 0) 1 5 := ⟨by decide +kernel, rfl⟩
theorem d_D_fitting_5 : Dc prog_1_method_47_code 5 (.getfield 47) 3 8 := ⟨by decide +kernel, rfl⟩
theorem d_D_fitting_8 : Dc prog_1_method_47_code 8 (.invokevirtual 267) 3 11 := ⟨by decide +kernel, rfl⟩
theorem d_D_fitting_11 : Dc prog_1_method_47_code 11 (.ireturn) 1 12 := ⟨by decide +kernel, rfl⟩
theorem d_D_look_0 : Dc prog_1_method_48_code 0 (.iload_n 1) 1 1 := ⟨by decide +kernel, rfl⟩
theorem d_D_look_1 : Dj prog_1_method_48_code 1 (.ifCond .eq 10) 4 10 11 := ⟨by decide +kernel, rfl, rfl⟩
theorem d_D_look_4 : Dc prog_1_method_48_code 4 (.iload_n 1) 1 5 := ⟨by decide +kernel, rfl⟩
theorem d_D_look_5 : Dc prog_1_method_48_code 5 (.iconst 1) 1 6 := ⟨by decide +kernel, rfl⟩
theorem d_D_look_6 : Dj prog_1_method_48_code 6 (.if_icmp .eq 5) 9 5 11 := ⟨by decide +kernel, rfl, rfl⟩
theorem d_D_look_9 : Dc prog_1_method_48_code 9 (.iconst (-1)) 1 10 := ⟨by decide +kernel, rfl⟩
theorem d_D_look_10 : Dc prog_1_method_48_code 10 (.ireturn) 1 11 := ⟨by decide +kernel, rfl⟩
theorem d_D_look_11 : Dc prog_1_method_48_code 11 (.aload_n 0) 1 12 := ⟨by decide +kernel, rfl⟩
theorem d_D_look_12 : Dc prog_1_method_48_code 12 (.invokevirtual 350) 3 15 := ⟨by decide +kernel, rfl⟩
theorem d_D_look_15 : Dc prog_1_method_48_code 15 (.aload_n 0) 1 16 := ⟨by decide +kernel, rfl⟩
theorem d_D_look_16 : Dc prog_1_method_48_code 16 (.getfield 47) 3 19 := ⟨by decide +kernel, rfl⟩
theorem d_D_look_19 : Dc prog_1_method_48_code 19 (.invokevirtual 353) 3 22 := ⟨by decide +kernel, rfl⟩
theorem d_D_look_22 : Dc prog_1_method_48_code 22 (.istore_n 2) 1 23 := ⟨by decide +kernel, rfl⟩
theorem d_D_look_23 : Dc prog_1_method_48_code 23 (.iload_n 2) 1 24 := ⟨by decide +kernel, rfl⟩
theorem d_D_look_24 : Dc prog_1_method_48_code 24 (.iconst (-1)) 1 25 := ⟨by decide +kernel, rfl⟩
theorem d_D_look_25 : Dj prog_1_method_48_code 25 (.if_icmp .eq 7) 28 7 32 := ⟨by decide +kernel, rfl, rfl⟩
theorem d_D_look_28 : Dc prog_1_method_48_code 28 (.iload_n 1) 1 29 := ⟨by decide +kernel, rfl⟩
theorem d_D_look_29 : Dj prog_1_method_48_code 29 (.ifCond .ne 5) 32 5 34 := ⟨by decide +kernel, rfl, rfl⟩
theorem d_D_look_32 : Dc prog_1_method_48_code 32 (.iload_n 2) 1 33 := ⟨by decide +kernel, rfl⟩
theorem d_D_look_33 : Dc prog_1_method_48_code 33 (.ireturn) 1 34 := ⟨by decide +kernel, rfl⟩
theorem d_D_look_34 : Dc prog_1_method_48_code 34 (.aload_n 0) 1 35 := ⟨by decide +kernel, rfl⟩
theorem d_D_look_35 : Dc prog_1_method_48_code 35 (.getfield 47) 3 38 := ⟨by decide +kernel, rfl⟩
theorem d_D_look_38 : Dc prog_1_method_48_code 38 (.iload_n 2) 1 39 := ⟨by decide +kernel, rfl⟩
theorem d_D_look_39 : Dc prog_1_method_48_code 39 (.invokevirtual 356) 3 42 := ⟨by decide +kernel, rfl⟩
theorem d_D_look_42 : Dc prog_1_method_48_code 42 (.ireturn) 1 43 := ⟨by decide +kernel, rfl⟩
theorem d_D_startFitting_0 : Dc prog_1_method_46_code 0 (.aload_n 0) 1 1 := ⟨by decide +kernel, rfl⟩
theorem d_D_startFitting_1 : Dc prog_1_method_46_code 1 (.getfield 40) 3 4 := ⟨by decide +kernel, rfl⟩
theorem d_D_startFitting_4 : Dc prog_1_method_46_code 4 (.aload_n 0) 1 5 := ⟨by decide +kernel, rfl⟩
theorem d_D_startFitting_5 : Dc prog_1_method_46_code 5 (.getfield 10) 3 8 := ⟨by decide +kernel, rfl⟩
theorem d_D_startFitting_8 : Dc prog_1_method_46_code 8 (.aload_n 0) 1 9 := ⟨by decide +kernel, rfl⟩
theorem d_D_startFitting_9 : Dc prog_1_method_46_code 9 (.getfield 10) 3 12 := ⟨by decide +kernel, rfl⟩
theorem d_D_startFitting_12 : Dc prog_1_method_46_code 12 (.invokevirtual 142) 3 15 := ⟨by decide +kernel, rfl⟩
theorem d_D_startFitting_15 : Dc prog_1_method_46_code 15 (.invokevirtual 146) 3 18 := ⟨by decide +kernel, rfl⟩
theorem d_D_startFitting_18 : Dc prog_1_method_46_code 18 (.aload_n 0) 1 19 := ⟨by decide +kernel, rfl⟩
theorem d_D_startFitting_19 : Dc prog_1_method_46_code 19 (.getfield 40) 3 22 := ⟨by decide +kernel, rfl⟩
theorem d_D_startFitting_22 : Dc prog_1_method_46_code 22 (.aload_n 0) 1 23 := ⟨by decide +kernel, rfl⟩
theorem d_D_startFitting_23 : Dc prog_1_method_46_code 23 (.getfield 10) 3 26 := ⟨by decide +kernel, rfl⟩
theorem d_D_startFitting_26 : Dc prog_1_method_46_code 26 (.invokevirtual 347) 3 29 := ⟨by decide +kernel, rfl⟩
theorem d_D_startFitting_29 : Dc prog_1_method_46_code 29 (.aload_n 0) 1 30 := ⟨by decide +kernel, rfl⟩
theorem d_D_startFitting_30 : Dc prog_1_method_46_code 30 (.getfield 47) 3 33 := ⟨by decide +kernel, rfl⟩
theorem d_D_startFitting_33 : Dc prog_1_method_46_code 33 (.aload_n 0) 1 34 := ⟨by decide +kernel, rfl⟩
theorem d_D_startFitting_34 : Dc prog_1_method_46_code 34 (.getfield 10) 3 37 := ⟨by decide +kernel, rfl⟩
theorem d_D_startFitting_37 : Dc prog_1_method_46_code 37 (.aload_n 0) 1 38 := ⟨by decide +kernel, rfl⟩
theorem d_D_startFitting_38 : Dc prog_1_method_46_code 38 (.getfield 40) 3 41 := ⟨by decide +kernel, rfl⟩
theorem d_D_startFitting_41 : Dc prog_1_method_46_code 41 (.getfield 153) 3 44 := ⟨by decide +kernel, rfl⟩
theorem d_D_startFitting_44 : Dc prog_1_method_46_code 44 (.invokevirtual 258) 3 47 := ⟨by decide +kernel, rfl⟩
theorem d_D_startFitting_47 : Dc prog_1_method_46_code 47 (.return_) 1 48 := ⟨by decide +kernel, rfl⟩
theorem d_Le_keepToSights_0 : Dc prog_5_method_5_code 0 (.iconst 0) 1 1 := ⟨by decide +kernel, rfl⟩
theorem d_Le_keepToSights_1 : Dc prog_5_method_5_code 1 (.istore_n 2) 1 2 := ⟨by decide +kernel, rfl⟩
theorem d_Le_keepToSights_2 : Dc prog_5_method_5_code 2 (.iload_n 2) 1 3 := ⟨by decide +kernel, rfl⟩
theorem d_Le_keepToSights_3 : Dc prog_5_method_5_code 3 (.aload_n 1) 1 4 := ⟨by decide +kernel, rfl⟩
theorem d_Le_keepToSights_4 : Dc prog_5_method_5_code 4 (.getfield 103) 3 7 := ⟨by decide +kernel, rfl⟩
theorem d_Le_keepToSights_7 : Dj prog_5_method_5_code 7 (.if_icmp .ge 39) 10 39 46 := ⟨by decide +kernel, rfl, rfl⟩
theorem d_Le_keepToSights_10 : Dc prog_5_method_5_code 10 (.aload_n 1) 1 11 := ⟨by decide +kernel, rfl⟩
theorem d_Le_keepToSights_11 : Dc prog_5_method_5_code 11 (.getfield 106) 3 14 := ⟨by decide +kernel, rfl⟩
theorem d_Le_keepToSights_14 : Dc prog_5_method_5_code 14 (.iload_n 2) 1 15 := ⟨by decide +kernel, rfl⟩
theorem d_Le_keepToSights_15 : Dc prog_5_method_5_code 15 (.iaload) 1 16 := ⟨by decide +kernel, rfl⟩
theorem d_Le_keepToSights_16 : Dc prog_5_method_5_code 16 (.bipush 12) 2 18 := ⟨by decide +kernel, rfl⟩
theorem d_Le_keepToSights_18 : Dc prog_5_method_5_code 18 (.idiv) 1 19 := ⟨by decide +kernel, rfl⟩
theorem d_Le_keepToSights_19 : Dc prog_5_method_5_code 19 (.istore_n 3) 1 20 := ⟨by decide +kernel, rfl⟩
theorem d_Le_keepToSights_20 : Dc prog_5_method_5_code 20 (.aload_n 0) 1 21 := ⟨by decide +kernel, rfl⟩
theorem d_Le_keepToSights_21 : Dc prog_5_method_5_code 21 (.getfield 9) 3 24 := ⟨by decide +kernel, rfl⟩
theorem d_Le_keepToSights_24 : Dc prog_5_method_5_code 24 (.iload_n 3) 1 25 := ⟨by decide +kernel, rfl⟩
theorem d_Le_keepToSights_25 : Dc prog_5_method_5_code 25 (.dup2) 1 26 := ⟨by decide +kernel, rfl⟩
theorem d_Le_keepToSights_26 : Dc prog_5_method_5_code 26 (.iaload) 1 27 := ⟨by decide +kernel, rfl⟩
theorem d_Le_keepToSights_27 : Dc prog_5_method_5_code 27 (.iconst 1) 1 28 := ⟨by decide +kernel, rfl⟩
theorem d_Le_keepToSights_28 : Dc prog_5_method_5_code 28 (.aload_n 1) 1 29 := ⟨by decide +kernel, rfl⟩
theorem d_Le_keepToSights_29 : Dc prog_5_method_5_code 29 (.getfield 106) 3 32 := ⟨by decide +kernel, rfl⟩
theorem d_Le_keepToSights_32 : Dc prog_5_method_5_code 32 (.iload_n 2) 1 33 := ⟨by decide +kernel, rfl⟩
theorem d_Le_keepToSights_33 : Dc prog_5_method_5_code 33 (.iaload) 1 34 := ⟨by decide +kernel, rfl⟩
theorem d_Le_keepToSights_34 : Dc prog_5_method_5_code 34 (.bipush 12) 2 36 := ⟨by decide +kernel, rfl⟩
theorem d_Le_keepToSights_36 : Dc prog_5_method_5_code 36 (.irem) 1 37 := ⟨by decide +kernel, rfl⟩
theorem d_Le_keepToSights_37 : Dc prog_5_method_5_code 37 (.ishl) 1 38 := ⟨by decide +kernel, rfl⟩
theorem d_Le_keepToSights_38 : Dc prog_5_method_5_code 38 (.iand) 1 39 := ⟨by decide +kernel, rfl⟩
theorem d_Le_keepToSights_39 : Dc prog_5_method_5_code 39 (.iastore) 1 40 := ⟨by decide +kernel, rfl⟩
theorem d_Le_keepToSights_40 : Dc prog_5_method_5_code 40 (.iinc 2 1) 3 43 := ⟨by decide +kernel, rfl⟩
theorem d_Le_keepToSights_43 : Dj prog_5_method_5_code 43 (.goto (-41)) 46 (-41) 2 := ⟨by decide +kernel, rfl, rfl⟩
theorem d_Le_keepToSights_46 : Dc prog_5_method_5_code 46 (.return_) 1 47 := ⟨by decide +kernel, rfl⟩
theorem d_Wa_findTelling_0 : Dc prog_12_method_15_code 0 (.aload_n 0) 1 1 := ⟨by decide +kernel, rfl⟩
theorem d_Wa_findTelling_1 : Dc prog_12_method_15_code 1 (.getfield 24) 3 4 := ⟨by decide +kernel, rfl⟩
theorem d_Wa_findTelling_4 : Dc prog_12_method_15_code 4 (.iconst 0) 1 5 := ⟨by decide +kernel, rfl⟩
theorem d_Wa_findTelling_5 : Dc prog_12_method_15_code 5 (.invokestatic 99) 3 8 := ⟨by decide +kernel, rfl⟩
theorem d_Wa_findTelling_8 : Dc prog_12_method_15_code 8 (.iconst 0) 1 9 := ⟨by decide +kernel, rfl⟩
theorem d_Wa_findTelling_9 : Dc prog_12_method_15_code 9 (.istore_n 1) 1 10 := ⟨by decide +kernel, rfl⟩
theorem d_Wa_findTelling_10 : Dc prog_12_method_15_code 10 (.iload_n 1) 1 11 := ⟨by decide +kernel, rfl⟩
theorem d_Wa_findTelling_11 : Dc prog_12_method_15_code 11 (.ldc 69) 2 13 := ⟨by decide +kernel, rfl⟩
theorem d_Wa_findTelling_13 : Dj prog_12_method_15_code 13 (.if_icmp .ge 55) 16 55 68 := ⟨by decide +kernel, rfl, rfl⟩
theorem d_Wa_findTelling_16 : Dc prog_12_method_15_code 16 (.aload_n 0) 1 17 := ⟨by decide +kernel, rfl⟩
theorem d_Wa_findTelling_17 : Dc prog_12_method_15_code 17 (.invokevirtual 76) 3 20 := ⟨by decide +kernel, rfl⟩
theorem d_Wa_findTelling_20 : Dj prog_12_method_15_code 20 (.ifCond .eq 48) 23 48 68 := ⟨by decide +kernel, rfl, rfl⟩
theorem d_Wa_findTelling_23 : Dc prog_12_method_15_code 23 (.iconst 0) 1 24 := ⟨by decide +kernel, rfl⟩
theorem d_Wa_findTelling_24 : Dc prog_12_method_15_code 24 (.istore_n 2) 1 25 := ⟨by decide +kernel, rfl⟩
theorem d_Wa_findTelling_25 : Dc prog_12_method_15_code 25 (.iload_n 2) 1 26 := ⟨by decide +kernel, rfl⟩
theorem d_Wa_findTelling_26 : Dc prog_12_method_15_code 26 (.aload_n 0) 1 27 := ⟨by decide +kernel, rfl⟩
theorem d_Wa_findTelling_27 : Dc prog_12_method_15_code 27 (.getfield 27) 3 30 := ⟨by decide +kernel, rfl⟩
theorem d_Wa_findTelling_30 : Dc prog_12_method_15_code 30 (.getfield 44) 3 33 := ⟨by decide +kernel, rfl⟩
theorem d_Wa_findTelling_33 : Dj prog_12_method_15_code 33 (.if_icmp .ge 29) 36 29 62 := ⟨by decide +kernel, rfl, rfl⟩
theorem d_Wa_findTelling_36 : Dc prog_12_method_15_code 36 (.aload_n 0) 1 37 := ⟨by decide +kernel, rfl⟩
theorem d_Wa_findTelling_37 : Dc prog_12_method_15_code 37 (.getfield 24) 3 40 := ⟨by decide +kernel, rfl⟩
theorem d_Wa_findTelling_40 : Dc prog_12_method_15_code 40 (.iload_n 2) 1 41 := ⟨by decide +kernel, rfl⟩
theorem d_Wa_findTelling_41 : Dc prog_12_method_15_code 41 (.bipush 12) 2 43 := ⟨by decide +kernel, rfl⟩
theorem d_Wa_findTelling_43 : Dc prog_12_method_15_code 43 (.imul) 1 44 := ⟨by decide +kernel, rfl⟩
theorem d_Wa_findTelling_44 : Dc prog_12_method_15_code 44 (.aload_n 0) 1 45 := ⟨by decide +kernel, rfl⟩
theorem d_Wa_findTelling_45 : Dc prog_12_method_15_code 45 (.getfield 9) 3 48 := ⟨by decide +kernel, rfl⟩
theorem d_Wa_findTelling_48 : Dc prog_12_method_15_code 48 (.iload_n 2) 1 49 := ⟨by decide +kernel, rfl⟩
theorem d_Wa_findTelling_49 : Dc prog_12_method_15_code 49 (.iaload) 1 50 := ⟨by decide +kernel, rfl⟩
theorem d_Wa_findTelling_50 : Dc prog_12_method_15_code 50 (.iadd) 1 51 := ⟨by decide +kernel, rfl⟩
theorem d_Wa_findTelling_51 : Dc prog_12_method_15_code 51 (.dup2) 1 52 := ⟨by decide +kernel, rfl⟩
theorem d_Wa_findTelling_52 : Dc prog_12_method_15_code 52 (.iaload) 1 53 := ⟨by decide +kernel, rfl⟩
theorem d_Wa_findTelling_53 : Dc prog_12_method_15_code 53 (.iconst 1) 1 54 := ⟨by decide +kernel, rfl⟩
theorem d_Wa_findTelling_54 : Dc prog_12_method_15_code 54 (.iadd) 1 55 := ⟨by decide +kernel, rfl⟩
theorem d_Wa_findTelling_55 : Dc prog_12_method_15_code 55 (.iastore) 1 56 := ⟨by decide +kernel, rfl⟩
theorem d_Wa_findTelling_56 : Dc prog_12_method_15_code 56 (.iinc 2 1) 3 59 := ⟨by decide +kernel, rfl⟩
theorem d_Wa_findTelling_59 : Dj prog_12_method_15_code 59 (.goto (-34)) 62 (-34) 25 := ⟨by decide +kernel, rfl, rfl⟩
theorem d_Wa_findTelling_62 : Dc prog_12_method_15_code 62 (.iinc 1 1) 3 65 := ⟨by decide +kernel, rfl⟩
theorem d_Wa_findTelling_65 : Dj prog_12_method_15_code 65 (.goto (-55)) 68 (-55) 10 := ⟨by decide +kernel, rfl, rfl⟩
theorem d_Wa_findTelling_68 : Dc prog_12_method_15_code 68 (.iconst (-1)) 1 69 := ⟨by decide +kernel, rfl⟩
theorem d_Wa_findTelling_69 : Dc prog_12_method_15_code 69 (.istore_n 1) 1 70 := ⟨by decide +kernel, rfl⟩
theorem d_Wa_findTelling_70 : Dc prog_12_method_15_code 70 (.iconst 0) 1 71 := ⟨by decide +kernel, rfl⟩
theorem d_Wa_findTelling_71 : Dc prog_12_method_15_code 71 (.istore_n 2) 1 72 := ⟨by decide +kernel, rfl⟩
theorem d_Wa_findTelling_72 : Dc prog_12_method_15_code 72 (.iload_n 2) 1 73 := ⟨by decide +kernel, rfl⟩
theorem d_Wa_findTelling_73 : Dc prog_12_method_15_code 73 (.aload_n 0) 1 74 := ⟨by decide +kernel, rfl⟩
theorem d_Wa_findTelling_74 : Dc prog_12_method_15_code 74 (.getfield 27) 3 77 := ⟨by decide +kernel, rfl⟩
theorem d_Wa_findTelling_77 : Dc prog_12_method_15_code 77 (.getfield 44) 3 80 := ⟨by decide +kernel, rfl⟩
theorem d_Wa_findTelling_80 : Dj prog_12_method_15_code 80 (.if_icmp .ge 47) 83 47 127 := ⟨by decide +kernel, rfl, rfl⟩
theorem d_Wa_findTelling_83 : Dc prog_12_method_15_code 83 (.iload_n 1) 1 84 := ⟨by decide +kernel, rfl⟩
theorem d_Wa_findTelling_84 : Dc prog_12_method_15_code 84 (.iconst (-1)) 1 85 := ⟨by decide +kernel, rfl⟩
theorem d_Wa_findTelling_85 : Dj prog_12_method_15_code 85 (.if_icmp .eq 16) 88 16 101 := ⟨by decide +kernel, rfl, rfl⟩
theorem d_Wa_findTelling_88 : Dc prog_12_method_15_code 88 (.aload_n 0) 1 89 := ⟨by decide +kernel, rfl⟩
theorem d_Wa_findTelling_89 : Dc prog_12_method_15_code 89 (.iload_n 2) 1 90 := ⟨by decide +kernel, rfl⟩
theorem d_Wa_findTelling_90 : Dc prog_12_method_15_code 90 (.invokevirtual 105) 3 93 := ⟨by decide +kernel, rfl⟩
theorem d_Wa_findTelling_93 : Dc prog_12_method_15_code 93 (.aload_n 0) 1 94 := ⟨by decide +kernel, rfl⟩
theorem d_Wa_findTelling_94 : Dc prog_12_method_15_code 94 (.iload_n 1) 1 95 := ⟨by decide +kernel, rfl⟩
theorem d_Wa_findTelling_95 : Dc prog_12_method_15_code 95 (.invokevirtual 105) 3 98 := ⟨by decide +kernel, rfl⟩
theorem d_Wa_findTelling_98 : Dj prog_12_method_15_code 98 (.if_icmp .ge 7) 101 7 105 := ⟨by decide +kernel, rfl, rfl⟩
theorem d_Wa_findTelling_101 : Dc prog_12_method_15_code 101 (.iconst 1) 1 102 := ⟨by decide +kernel, rfl⟩
theorem d_Wa_findTelling_102 : Dj prog_12_method_15_code 102 (.goto 4) 105 4 106 := ⟨by decide +kernel, rfl, rfl⟩
theorem d_Wa_findTelling_105 : Dc prog_12_method_15_code 105 (.iconst 0) 1 106 := ⟨by decide +kernel, rfl⟩
theorem d_Wa_findTelling_106 : Dc prog_12_method_15_code 106 (.istore_n 3) 1 107 := ⟨by decide +kernel, rfl⟩
theorem d_Wa_findTelling_107 : Dc prog_12_method_15_code 107 (.aload_n 0) 1 108 := ⟨by decide +kernel, rfl⟩
theorem d_Wa_findTelling_108 : Dc prog_12_method_15_code 108 (.iload_n 2) 1 109 := ⟨by decide +kernel, rfl⟩
theorem d_Wa_findTelling_109 : Dc prog_12_method_15_code 109 (.invokevirtual 105) 3 112 := ⟨by decide +kernel, rfl⟩
theorem d_Wa_findTelling_112 : Dj prog_12_method_15_code 112 (.ifCond .le 9) 115 9 121 := ⟨by decide +kernel, rfl, rfl⟩
theorem d_Wa_findTelling_115 : Dc prog_12_method_15_code 115 (.iload_n 3) 1 116 := ⟨by decide +kernel, rfl⟩
theorem d_Wa_findTelling_116 : Dj prog_12_method_15_code 116 (.ifCond .eq 5) 119 5 121 := ⟨by decide +kernel, rfl, rfl⟩
theorem d_Wa_findTelling_119 : Dc prog_12_method_15_code 119 (.iload_n 2) 1 120 := ⟨by decide +kernel, rfl⟩
theorem d_Wa_findTelling_120 : Dc prog_12_method_15_code 120 (.istore_n 1) 1 121 := ⟨by decide +kernel, rfl⟩
theorem d_Wa_findTelling_121 : Dc prog_12_method_15_code 121 (.iinc 2 1) 3 124 := ⟨by decide +kernel, rfl⟩
theorem d_Wa_findTelling_124 : Dj prog_12_method_15_code 124 (.goto (-52)) 127 (-52) 72 := ⟨by decide +kernel, rfl, rfl⟩
theorem d_Wa_findTelling_127 : Dc prog_12_method_15_code 127 (.iload_n 1) 1 128 := ⟨by decide +kernel, rfl⟩
theorem d_Wa_findTelling_128 : Dc prog_12_method_15_code 128 (.ireturn) 1 129 := ⟨by decide +kernel, rfl⟩
theorem d_Wa_mostOnOneNode_0 : Dc prog_12_method_16_code 0 (.iconst 0) 1 1 := ⟨by decide +kernel, rfl⟩
theorem d_Wa_mostOnOneNode_1 : Dc prog_12_method_16_code 1 (.istore_n 2) 1 2 := ⟨by decide +kernel, rfl⟩
theorem d_Wa_mostOnOneNode_2 : Dc prog_12_method_16_code 2 (.iconst 0) 1 3 := ⟨by decide +kernel, rfl⟩
theorem d_Wa_mostOnOneNode_3 : Dc prog_12_method_16_code 3 (.istore_n 3) 1 4 := ⟨by decide +kernel, rfl⟩
theorem d_Wa_mostOnOneNode_4 : Dc prog_12_method_16_code 4 (.iload_n 3) 1 5 := ⟨by decide +kernel, rfl⟩
theorem d_Wa_mostOnOneNode_5 : Dc prog_12_method_16_code 5 (.bipush 12) 2 7 := ⟨by decide +kernel, rfl⟩
theorem d_Wa_mostOnOneNode_7 : Dj prog_12_method_16_code 7 (.if_icmp .ge 25) 10 25 32 := ⟨by decide +kernel, rfl, rfl⟩
theorem d_Wa_mostOnOneNode_10 : Dc prog_12_method_16_code 10 (.iload_n 2) 1 11 := ⟨by decide +kernel, rfl⟩
theorem d_Wa_mostOnOneNode_11 : Dc prog_12_method_16_code 11 (.aload_n 0) 1 12 := ⟨by decide +kernel, rfl⟩
theorem d_Wa_mostOnOneNode_12 : Dc prog_12_method_16_code 12 (.getfield 24) 3 15 := ⟨by decide +kernel, rfl⟩
theorem d_Wa_mostOnOneNode_15 : Dc prog_12_method_16_code 15 (.iload_n 1) 1 16 := ⟨by decide +kernel, rfl⟩
theorem d_Wa_mostOnOneNode_16 : Dc prog_12_method_16_code 16 (.bipush 12) 2 18 := ⟨by decide +kernel, rfl⟩
theorem d_Wa_mostOnOneNode_18 : Dc prog_12_method_16_code 18 (.imul) 1 19 := ⟨by decide +kernel, rfl⟩
theorem d_Wa_mostOnOneNode_19 : Dc prog_12_method_16_code 19 (.iload_n 3) 1 20 := ⟨by decide +kernel, rfl⟩
theorem d_Wa_mostOnOneNode_20 : Dc prog_12_method_16_code 20 (.iadd) 1 21 := ⟨by decide +kernel, rfl⟩
theorem d_Wa_mostOnOneNode_21 : Dc prog_12_method_16_code 21 (.iaload) 1 22 := ⟨by decide +kernel, rfl⟩
theorem d_Wa_mostOnOneNode_22 : Dc prog_12_method_16_code 22 (.invokestatic 108) 3 25 := ⟨by decide +kernel, rfl⟩
theorem d_Wa_mostOnOneNode_25 : Dc prog_12_method_16_code 25 (.istore_n 2) 1 26 := ⟨by decide +kernel, rfl⟩
theorem d_Wa_mostOnOneNode_26 : Dc prog_12_method_16_code 26 (.iinc 3 1) 3 29 := ⟨by decide +kernel, rfl⟩
theorem d_Wa_mostOnOneNode_29 : Dj prog_12_method_16_code 29 (.goto (-25)) 32 (-25) 4 := ⟨by decide +kernel, rfl, rfl⟩
theorem d_Wa_mostOnOneNode_32 : Dc prog_12_method_16_code 32 (.iload_n 2) 1 33 := ⟨by decide +kernel, rfl⟩
theorem d_Wa_mostOnOneNode_33 : Dc prog_12_method_16_code 33 (.ireturn) 1 34 := ⟨by decide +kernel, rfl⟩
theorem fl_Le_103 : FL "SubgraphDesk$Ledger" 103 2 8 false .int (0, 0) := ⟨R_Bo, F_Bo, 15, ty_Bo, rfl, rfl, in_Bo, tyok_Bo, nm_Bo, by decide, gd 218 (by decide +kernel) rfl, rfl, rfl, rfl⟩
theorem fl_Le_106 : FL "SubgraphDesk$Ledger" 106 2 9 true (.array .int) (3, 6) := ⟨R_Bo, F_Bo, 15, ty_Bo, rfl, rfl, in_Bo, tyok_Bo, nm_Bo, by decide, gd 221 (by decide +kernel) rfl, rfl, rfl, rfl⟩
theorem fl_Wa_24 : FL "SubgraphDesk$Walker" 24 11 4 true (.array .int) (3, 5) := ⟨R_Wa, F_Wa, 11, ty_Wa, rfl, rfl, in_Wa, tyok_Wa, nm_Wa, by decide, gd 404 (by decide +kernel) rfl, rfl, rfl, rfl⟩
theorem ml_D_347 : Cond.methodLink "SubgraphDesk" 347 m_Le_keepToSights.1 ∈ lw_gd := gd 1378 (by decide +kernel) rfl
theorem ml_D_350 : Cond.methodLink "SubgraphDesk" 350 m_D_startFitting.1 ∈ lw_gd := gd 1374 (by decide +kernel) rfl
theorem ml_D_353 : Cond.methodLink "SubgraphDesk" 353 m_Wa_findTelling.1 ∈ lw_gd := gd 1386 (by decide +kernel) rfl
theorem ml_D_356 : Cond.methodLink "SubgraphDesk" 356 m_Wa_mostOnOneNode.1 ∈ lw_gd := gd 1396 (by decide +kernel) rfl
theorem ml_Wa_99 : Cond.methodLink "SubgraphDesk$Walker" 99 m_JArrays_fill_IIV.1 ∈ lw_gd := gd 1390 (by decide +kernel) rfl
theorem ml_Wa_105 : Cond.methodLink "SubgraphDesk$Walker" 105 m_Wa_mostOnOneNode.1 ∈ lw_gd := gd 1391 (by decide +kernel) rfl
theorem ml_Wa_108 : Cond.methodLink "SubgraphDesk$Walker" 108 m_JMath_max.1 ∈ lw_gd := gd 1395 (by decide +kernel) rfl
/-- who may lie where and was seen there, as far as it is asked -/
def fitM (m : Nat) (v : Nat) : List (Nat × Nat) → Nat
  | [] => m
  | s :: t => fitM (if s.1 = v then m &&& 1 <<< s.2 else m) v t
theorem fitM_tb (v n : Nat) : ∀ (l : List (Nat × Nat)) (m : Nat), (fitM m v l).testBit n = true ↔ (m.testBit n = true ∧ ∀ s ∈ l, s.1 = v → s.2 = n)
  | [], m => by
    unfold fitM
    exact ⟨fun h => ⟨h, fun s hs => absurd hs (List.not_mem_nil)⟩, fun h => h.1⟩
  | s :: t, m => by
    unfold fitM
    rw [fitM_tb v n t]
    by_cases e : s.1 = v
    · rw [if_pos e, Nat.testBit_and, Bool.and_eq_true, tb_one, decide_eq_true_iff]
      constructor
      · rintro ⟨⟨h1, h2⟩, h3⟩
        refine ⟨h1, fun z hz hzv => ?_⟩
        rcases List.mem_cons.mp hz with rfl | hz
        · exact h2
        · exact h3 z hz hzv
      · rintro ⟨h1, h2⟩
        exact ⟨⟨h1, h2 s List.mem_cons_self e⟩, fun z hz => h2 z (List.mem_cons_of_mem _ hz)⟩
    · rw [if_neg e]
      constructor
      · rintro ⟨h1, h2⟩
        refine ⟨h1, fun z hz hzv => ?_⟩
        rcases List.mem_cons.mp hz with rfl | hz
        · exact absurd hzv e
        · exact h2 z hz hzv
      · rintro ⟨h1, h2⟩
        exact ⟨h1, fun z hz => h2 z (List.mem_cons_of_mem _ hz)⟩
theorem fitM_le (v : Nat) : ∀ (l : List (Nat × Nat)) (m : Nat), fitM m v l ≤ m
  | [], m => Nat.le_refl _
  | s :: t, m => by
    unfold fitM
    split
    · exact Nat.le_trans (fitM_le v t _) Nat.and_le_left
    · exact fitM_le v t m
theorem fitM_app (v : Nat) (s : Nat × Nat) : ∀ (l : List (Nat × Nat)) (m : Nat), fitM m v (l ++ [s]) = (if s.1 = v then fitM m v l &&& 1 <<< s.2 else fitM m v l)
  | [], m => by
    show fitM (if s.1 = v then m &&& 1 <<< s.2 else m) v [] = _
    rfl
  | z :: t, m => fitM_app v s t _
def fitG (g : GC) : Nat → Nat := fun v => fitM (mayN g v (gN g)) v (gS g)
/-- the ways that fit come by candidates -/
theorem exts_pre {g : GC} {c : Nat → Nat} : ∀ (r : Nat) (q x : List Nat), x ∈ extsC g c r q → ∃ y, x = q ++ y ∧ y.length = r
  | 0, q, x, h => by
    rw [extsC, List.mem_singleton] at h
    exact ⟨[], by rw [h, List.append_nil], rfl⟩
  | r + 1, q, x, h => by
    rw [extsC, List.mem_flatMap] at h
    obtain ⟨n, -, hx⟩ := h
    split at hx
    · obtain ⟨y, e, hl⟩ := exts_pre r _ x hx
      exact ⟨n :: y, by rw [e, List.append_assoc]; rfl, by rw [List.length_cons, hl]⟩
    · simp at hx
theorem flat_filter {α β : Type} (p : β → Bool) (f : α → List β) : ∀ l : List α, (l.flatMap f).filter p = l.flatMap (fun x => (f x).filter p)
  | [] => rfl
  | a :: t => by rw [List.flatMap_cons, List.filter_append, flat_filter p f t, List.flatMap_cons]
theorem fits_exts {g : GC} (hS : ∀ s ∈ gS g, s.1 < gV g ∧ s.2 < gN g) : ∀ (r : Nat) (q : List Nat), q.length + r = gV g → (∀ s ∈ gS g, s.1 < q.length → gA q s.1 = s.2) → extsC g (fitG g) r q = (extsC g (mayG g) r q).filter (fitsG g)
  | 0, q, hl, hq => by
    rw [extsC, extsC]
    have : fitsG g q = true := by
      unfold fitsG
      rw [List.all_eq_true]
      intro s hs
      exact decide_eq_true (hq s hs (by have := (hS s hs).1; omega))
    rw [List.filter_cons_of_pos this]
    rfl
  | r + 1, q, hl, hq => by
    rw [extsC, extsC, flat_filter]
    unfold List.flatMap
    congr 1
    apply List.map_congr_left
    intro n hn
    have hokf : okC g (fitG g) q n = true ↔ okC g (mayG g) q n = true ∧ ∀ s ∈ gS g, s.1 = q.length → s.2 = n := by
      unfold okC
      rw [Bool.and_eq_true, Bool.and_eq_true]
      show (fitM _ _ _).testBit n = true ∧ _ ↔ _
      rw [fitM_tb]
      constructor
      · rintro ⟨⟨h1, h2⟩, h3⟩; exact ⟨⟨h1, h3⟩, h2⟩
      · rintro ⟨⟨h1, h3⟩, h2⟩; exact ⟨⟨h1, h2⟩, h3⟩
    by_cases h1 : okC g (mayG g) q n = true
    · rw [if_pos h1]
      by_cases h2 : ∀ s ∈ gS g, s.1 = q.length → s.2 = n
      · rw [if_pos (hokf.mpr ⟨h1, h2⟩)]
        refine fits_exts hS r (q ++ [n]) (by rw [List.length_append, List.length_singleton]; omega) (fun s hs hl2 => ?_)
        rw [List.length_append, List.length_singleton] at hl2
        by_cases e : s.1 = q.length
        · rw [e, gA_app1]; exact (h2 s hs e).symm
        · rw [gA_app0 (by omega)]; exact hq s hs (by omega)
      · rw [if_neg (fun z => h2 (hokf.mp z).2)]
        symm
        rw [List.filter_eq_nil_iff]
        intro x hx hfx
        apply h2
        intro s hs e
        obtain ⟨y, hy, -⟩ := exts_pre r _ x hx
        unfold fitsG at hfx
        have h3 := of_decide_eq_true (List.all_eq_true.mp hfx s hs)
        rw [hy, e] at h3
        rw [← h3]
        unfold gA
        rw [List.getD_eq_getElem?_getD, List.append_assoc, List.getElem?_append_right (Nat.le_refl _), Nat.sub_self]
        rfl
    · rw [if_neg h1, if_neg (fun z => h1 (hokf.mp z).1)]
      rfl
theorem ways_fit {g : GC} (hW : WG g) : waysC g (fitG g) = fittingL g := by
  unfold fittingL
  rw [← ways_C]
  exact fits_exts hW.so (gV g) [] (by rw [List.length_nil, Nat.zero_add]) (fun s _ h => absurd h (Nat.not_lt_zero _))
theorem fitG_lt (g : GC) (v : Nat) : fitG g v < 2 ^ gN g := Nat.lt_of_le_of_lt (fitM_le _ _ _) (mayN_ltN _ _ _)
theorem c_Le_keepToSights {E : EV} {w : Mem} {g : GC} (hR : BRow w 1 g) (hW : WG g) (hM : LeM w g (gV g)) : T E m_Le_keepToSights 0 0 0 [.ref 31, .ref 1] w (fun r w2 => r = none ∧ FrL w w2 ∧ rI w2 33 = rI w 33 ∧ ∀ v, v < gV g → rI w2 32 v = nI (fitG g v)) := by
  refine T_of (L := [.ref 31, .ref 1, un, un]) cf_Le_keepToSights rfl (Nat.le_of_ble_eq_true rfl) (fun X hX hF => ?_)
  have hn := hW.n
  have hv := hW.v
  have hsl := hW.sl
  have lp : ∀ (fuel : Nat) (k : Nat) (wk : Mem), (gS g).length - k < fuel → (FrL w wk) → (rI wk 33 = rI w 33) → (k ≤ (gS g).length) → (∀ v, v < gV g → rI wk 32 v = nI (fitM (mayN g v (gN g)) v ((gS g).take k))) → G0 E X 0 0 2 [.ref 31, .ref 1, .int (nI k), un] [] wk := by
    intro fuel
    induction fuel with
    | zero => intro k wk q0; exact absurd q0 (Nat.not_lt_zero _)
    | succ fuel ih =>
      intro k wk q0 q1 q2 q3 q4
      refine g_iload2 hX d_Le_keepToSights_2 ?_
      refine g_aload1 hX d_Le_keepToSights_3 ?_
      refine g_getI hX d_Le_keepToSights_4 fl_Le_103 (lv_1 _) ?_
      refine g_topi (show rI wk 1 8 = nI (gS g).length by rw [q1.1 1 (by decide)]; exact hR.sl) ?_
      refine g_icmpN_ge hX d_Le_keepToSights_7 (by omega) (by omega) (fun e7 => ?_) (fun e7 => ?_)
      · refine g_vret hX hF d_Le_keepToSights_46 (by omega) (by omega) ?_
        obtain rfl : k = (gS g).length := by omega
        rw [List.take_length] at q4
        exact ⟨rfl, q1, q2, q4⟩
      · obtain ⟨s, hs⟩ : ∃ s, (gS g)[k]? = some s := ⟨_, List.getElem?_eq_getElem e7⟩
        have hso := hW.so s (List.mem_of_getElem? hs)
        have hfl := fitM_le s.1 ((gS g).take k) (mayN g s.1 (gN g))
        have hml := mayN_lt g s.1 (gN g) hn
        have hdv : (s.1 * 12 + s.2) / 12 = s.1 := by omega
        have hmd : (s.1 * 12 + s.2) % 12 = s.2 := by omega
        refine g_aload1 hX d_Le_keepToSights_10 ?_
        refine g_getF hX d_Le_keepToSights_11 fl_Le_106 (lv_1 _) ?_
        refine g_iload2 hX d_Le_keepToSights_14 ?_
        refine g_iald hX d_Le_keepToSights_15 (lv_7 _) rfl (by omega) ?_
        refine g_topi (show rI wk 7 k = nI (s.1 * 12 + s.2) by rw [q1.1 7 (by decide)]; exact hR.sn k s hs) ?_
        refine g_bipush (v := nI 12) hX d_Le_keepToSights_16 rfl ?_
        refine g_idivN hX d_Le_keepToSights_18 (by omega) (by decide) (by decide) ?_
        refine g_topi (show nI ((s.1 * 12 + s.2) / 12) = nI s.1 by rw [hdv]) ?_
        refine g_istore3 hX d_Le_keepToSights_19 rfl (by decide) ?_
        refine g_aload0 hX d_Le_keepToSights_20 ?_
        refine g_getF hX d_Le_keepToSights_21 fl_Le_9 (lv_31 _) ?_
        refine g_iload3 hX d_Le_keepToSights_24 ?_
        refine g_dup2 hX d_Le_keepToSights_25 rfl rfl ?_
        refine g_iald hX d_Le_keepToSights_26 (lv_32 _) rfl (by omega) ?_
        refine g_topi (q4 s.1 hso.1) ?_
        refine g_iconst (v := nI 1) hX d_Le_keepToSights_27 rfl ?_
        refine g_aload1 hX d_Le_keepToSights_28 ?_
        refine g_getF hX d_Le_keepToSights_29 fl_Le_106 (lv_1 _) ?_
        refine g_iload2 hX d_Le_keepToSights_32 ?_
        refine g_iald hX d_Le_keepToSights_33 (lv_7 _) rfl (by omega) ?_
        refine g_topi (show rI wk 7 k = nI (s.1 * 12 + s.2) by rw [q1.1 7 (by decide)]; exact hR.sn k s hs) ?_
        refine g_bipush (v := nI 12) hX d_Le_keepToSights_34 rfl ?_
        refine g_iremN hX d_Le_keepToSights_36 (by omega) (by decide) (by decide) ?_
        refine g_topi (show nI ((s.1 * 12 + s.2) % 12) = nI s.2 by rw [hmd]) ?_
        refine g_ishlN hX d_Le_keepToSights_37 (by omega) ?_
        refine g_iandN hX d_Le_keepToSights_38 ?_
        refine g_iast hX d_Le_keepToSights_39 (lv_32 _) rfl (by omega) ?_
        refine g_iincN2 hX d_Le_keepToSights_40 rfl (by decide) ?_
        refine g_goto hX d_Le_keepToSights_43 ?_
        refine g_fget 3 ?_
        refine ih (k + 1) _ (by omega) (q1.I (by decide)) (by rw [rI_sI_ne _ _ _ (by decide)]; exact q2) (by omega) (fun v hv => ?_)
        rw [List.take_add_one, hs]
        show _ = nI (fitM _ v ((gS g).take k ++ [s]))
        rw [fitM_app, rI_sI, upd_eq]
        by_cases e : v = s.1
        · rw [if_pos e, if_pos e.symm, e]
        · rw [if_neg e, if_neg (fun z => e z.symm)]; exact q4 v hv
  refine g_iconst (v := nI 0) hX d_Le_keepToSights_0 rfl ?_
  refine g_istore2 hX d_Le_keepToSights_1 rfl (by decide) ?_
  exact lp ((gS g).length + 1) 0 w (by omega) (FrL.rf w) rfl (Nat.zero_le _) (fun v hv2 => by rw [List.take_zero]; exact hM v hv2)
theorem c_D_startFitting {E : EV} {w : Mem} {s : SG} (h : DInv w s) : T E m_D_startFitting 4 0 0 [.ref 0] w (fun r w2 => r = none ∧ WkE w2 (sG s) (fitG (sG s)) 32 ∧ (∃ tot, WkS w2 (sG s) (fitG (sG s)) (fittingL (sG s)) tot) ∧ DInv w2 s ∧ DkQ w w2) := by
  refine T_of (L := [.ref 0]) cf_D_startFitting rfl (Nat.le_of_ble_eq_true rfl) (fun X hX hF => ?_)
  obtain ⟨⟨hR, hW, hA⟩, hL, hT, hI, hRF, ⟨hsm, hfa, hsp⟩, hdr, hfx⟩ := id h
  have hn := hW.n
  have hv := hW.v
  have he := hW.el
  have hll := hW.ll
  have hsl := hW.sl
  rcases hgf : gF (sG s) with _ | kf
  · refine g_aload0 hX d_D_startFitting_0 ?_
    refine g_getF hX d_D_startFitting_1 fl_D_40 (lv_0 _) ?_
    refine g_aload0 hX d_D_startFitting_4 ?_
    refine g_getF hX d_D_startFitting_5 fl_D_10 (lv_0 _) ?_
    refine g_aload0 hX d_D_startFitting_8 ?_
    refine g_getF hX d_D_startFitting_9 fl_D_10 (lv_0 _) ?_
    refine g_callV (As := []) hX hF.1 d_D_startFitting_12 ml_D_142 cf_Bo_lawInForce cv_Bo_lawInForce rfl rfl (c_Bo_forceN hR hW (fInt_no hgf _)) (rcv_obj hX (lv_1 _) rfl rfl) (by omega) (by omega) (by omega) (Nat.le_of_ble_eq_true rfl) ?_
    refine ret_k ?_
    refine g_callV (As := [_, _]) hX hF.1 d_D_startFitting_15 ml_D_146 cf_Le_fill cv_Le_fill rfl rfl (c_Le_fillN (o := gF (sG s)) hR hW (gLw_n hgf)) (rcv_obj hX (lv_31 _) rfl rfl) (by omega) (by omega) (by omega) (Nat.le_of_ble_eq_true rfl) ?_
    rintro _ w2 ⟨rfl, hfl, hLe⟩
    replace hLe : LeP w2 (sG s) := hLe
    show G0 _ _ _ _ _ _ _ _
    refine g_aload0 hX d_D_startFitting_18 ?_
    refine g_getF hX d_D_startFitting_19 fl_D_40 (lv_0 _) ?_
    refine g_aload0 hX d_D_startFitting_22 ?_
    refine g_getF hX d_D_startFitting_23 fl_D_10 (lv_0 _) ?_
    refine g_callV (As := [_]) hX hF.1 d_D_startFitting_26 ml_D_347 cf_Le_keepToSights cv_Le_keepToSights rfl rfl (c_Le_keepToSights (hR.l hfl) hW hLe.1) (rcv_obj hX (lv_31 _) rfl rfl) (by omega) (by omega) (by omega) (Nat.le_of_ble_eq_true rfl) ?_
    rintro _ w4 ⟨rfl, hf4, -, hm4⟩
    have hf24 := hfl.tr hf4
    show G0 _ _ _ _ _ _ _ _
    refine g_aload0 hX d_D_startFitting_29 ?_
    refine g_getF hX d_D_startFitting_30 fl_D_47 (lv_0 _) ?_
    refine g_aload0 hX d_D_startFitting_33 ?_
    refine g_getF hX d_D_startFitting_34 fl_D_10 (lv_0 _) ?_
    refine g_aload0 hX d_D_startFitting_37 ?_
    refine g_getF hX d_D_startFitting_38 fl_D_40 (lv_0 _) ?_
    refine g_getF hX d_D_startFitting_41 fl_D_153 (lv_31 _) ?_
    refine g_callV (As := [_, _]) hX hF.1 d_D_startFitting_44 ml_D_258 cf_Wa_start cv_Wa_start rfl rfl (c_Wa_start (c := fitG (sG s)) (hR.l hf24) hW (Or.inl rfl) (fun v hv => ⟨hm4 v hv, fitG_lt _ _⟩)) (rcv_obj hX (lv_36 _) rfl rfl) (by omega) (by omega) (by omega) (Nat.le_of_ble_eq_true rfl) ?_
    rintro _ w3 ⟨rfl, hE3, hS3, hf3⟩
    rw [ways_fit hW] at hS3
    show G0 _ _ _ _ _ _ _ _
    refine g_vret hX hF d_D_startFitting_47 (by omega) (by omega) ?_
    have hQ := hf24.Q.tr hf3.Q
    exact ⟨rfl, hE3, ⟨_, hS3⟩, h.q hQ, hQ⟩
  · obtain ⟨pl, hpl, hPL, hlw⟩ := law_force h hgf
    obtain ⟨hin, htk⟩ := fInt_in hW hgf
    refine g_aload0 hX d_D_startFitting_0 ?_
    refine g_getF hX d_D_startFitting_1 fl_D_40 (lv_0 _) ?_
    refine g_aload0 hX d_D_startFitting_4 ?_
    refine g_getF hX d_D_startFitting_5 fl_D_10 (lv_0 _) ?_
    refine g_aload0 hX d_D_startFitting_8 ?_
    refine g_getF hX d_D_startFitting_9 fl_D_10 (lv_0 _) ?_
    refine g_callV (As := []) hX hF.1 d_D_startFitting_12 ml_D_142 cf_Bo_lawInForce cv_Bo_lawInForce rfl rfl (c_Bo_forceR hR hW hin (by rw [htk]; exact hpl)) (rcv_obj hX (lv_1 _) rfl rfl) (by omega) (by omega) (by omega) (Nat.le_of_ble_eq_true rfl) ?_
    refine ret_k ?_
    refine g_callV (As := [_, _]) hX hF.1 d_D_startFitting_15 ml_D_146 cf_Le_fill cv_Le_fill rfl rfl (c_Le_fillP (o := gF (sG s)) hR hW hPL hlw) (rcv_obj hX (lv_31 _) rfl rfl) (by omega) (by omega) (by omega) (Nat.le_of_ble_eq_true rfl) ?_
    rintro _ w2 ⟨rfl, hfl, hLe⟩
    replace hLe : LeP w2 (sG s) := hLe
    show G0 _ _ _ _ _ _ _ _
    refine g_aload0 hX d_D_startFitting_18 ?_
    refine g_getF hX d_D_startFitting_19 fl_D_40 (lv_0 _) ?_
    refine g_aload0 hX d_D_startFitting_22 ?_
    refine g_getF hX d_D_startFitting_23 fl_D_10 (lv_0 _) ?_
    refine g_callV (As := [_]) hX hF.1 d_D_startFitting_26 ml_D_347 cf_Le_keepToSights cv_Le_keepToSights rfl rfl (c_Le_keepToSights (hR.l hfl) hW hLe.1) (rcv_obj hX (lv_31 _) rfl rfl) (by omega) (by omega) (by omega) (Nat.le_of_ble_eq_true rfl) ?_
    rintro _ w4 ⟨rfl, hf4, -, hm4⟩
    have hf24 := hfl.tr hf4
    show G0 _ _ _ _ _ _ _ _
    refine g_aload0 hX d_D_startFitting_29 ?_
    refine g_getF hX d_D_startFitting_30 fl_D_47 (lv_0 _) ?_
    refine g_aload0 hX d_D_startFitting_33 ?_
    refine g_getF hX d_D_startFitting_34 fl_D_10 (lv_0 _) ?_
    refine g_aload0 hX d_D_startFitting_37 ?_
    refine g_getF hX d_D_startFitting_38 fl_D_40 (lv_0 _) ?_
    refine g_getF hX d_D_startFitting_41 fl_D_153 (lv_31 _) ?_
    refine g_callV (As := [_, _]) hX hF.1 d_D_startFitting_44 ml_D_258 cf_Wa_start cv_Wa_start rfl rfl (c_Wa_start (c := fitG (sG s)) (hR.l hf24) hW (Or.inl rfl) (fun v hv => ⟨hm4 v hv, fitG_lt _ _⟩)) (rcv_obj hX (lv_36 _) rfl rfl) (by omega) (by omega) (by omega) (Nat.le_of_ble_eq_true rfl) ?_
    rintro _ w3 ⟨rfl, hE3, hS3, hf3⟩
    rw [ways_fit hW] at hS3
    show G0 _ _ _ _ _ _ _ _
    refine g_vret hX hF d_D_startFitting_47 (by omega) (by omega) ?_
    have hQ := hf24.Q.tr hf3.Q
    exact ⟨rfl, hE3, ⟨_, hS3⟩, h.q hQ, hQ⟩
theorem c_D_fitting {E : EV} {w : Mem} {s : SG} (h : DInv w s) : T E m_D_fitting 5 0 0 [.ref 0] w (fun r w2 => r = some (.int (opFitting (sG s))) ∧ DInv w2 s ∧ DkD w w2) := by
  refine T_of (L := [.ref 0]) cf_D_fitting rfl (Nat.le_of_ble_eq_true rfl) (fun X hX hF => ?_)
  obtain ⟨⟨hR, hW, hA⟩, hL, hT, hI, hRF, ⟨hsm, hfa, hsp⟩, hdr, hfx⟩ := id h
  have hn := hW.n
  have hv := hW.v
  have he := hW.el
  have hll := hW.ll
  have hsl := hW.sl
  refine g_aload0 hX d_D_fitting_0 ?_
  refine g_callV (As := []) hX hF.1 d_D_fitting_1 ml_D_350 cf_D_startFitting cv_D_startFitting rfl rfl (c_D_startFitting h) (rcv_obj hX (lv_0 _) rfl rfl) (by omega) (by omega) (by omega) (Nat.le_of_ble_eq_true rfl) ?_
  rintro _ w1 ⟨rfl, hE1, ⟨tot, hS1⟩, h1, hQ1⟩
  have hfl2 := fitting_num hW
  show G0 _ _ _ _ _ _ _ _
  refine g_aload0 hX d_D_fitting_4 ?_
  refine g_getF hX d_D_fitting_5 fl_D_47 (lv_0 _) ?_
  refine g_callV (As := []) hX hF.1 d_D_fitting_8 ml_D_267 cf_Wa_countAll cv_Wa_countAll rfl rfl (c_Wa_countAll hE1 hS1 rfl (by omega)) (rcv_obj hX (lv_36 _) rfl rfl) (by omega) (by omega) (by omega) (Nat.le_of_ble_eq_true rfl) ?_
  rintro _ w2 ⟨rfl, hf2, -⟩
  show G0 _ _ _ _ _ _ _ _
  refine g_iret hX hF d_D_fitting_11 (by omega) (by omega) ?_
  exact ⟨rfl, h1.q hf2.Q, (hQ1.tr hf2.Q).D⟩
/-- how many of A lie so -/
def TalD (w : Mem) (g : GC) (A : List (List Nat)) : Prop := ∀ v, v < gV g → ∀ m, m < 12 → rI w 41 (v * 12 + m) = nI (tallyN A v m)
theorem most_max (A : List (List Nat)) (v m : Nat) : mostN A v (m + 1) = max (mostN A v m) (tallyN A v m) := by
  show (if mostN A v m < tallyN A v m then tallyN A v m else mostN A v m) = _
  split <;> omega
theorem most_ge (A : List (List Nat)) (v : Nat) : ∀ m k, k < m → tallyN A v k ≤ mostN A v m
  | 0, k, h => absurd h (Nat.not_lt_zero _)
  | m + 1, k, h => by
    rw [most_max]
    by_cases e : k = m
    · rw [e]; omega
    · have := most_ge A v m k (by omega); omega
theorem most_pos {g : GC} {A : List (List Nat)} (hN : gN g ≤ 12) (hA : ∀ x ∈ A, x.length = gV g ∧ ∀ y ∈ x, y < gN g) (h0 : A ≠ []) {v : Nat} (hv : v < gV g) : 0 < mostN A v 12 := by
  obtain ⟨x, t, rfl⟩ := List.exists_cons_of_ne_nil h0
  obtain ⟨h1, h2⟩ := hA x List.mem_cons_self
  have hx : gA x v < gN g := h2 _ (gA_mem (by omega))
  have h3 := most_ge (x :: t) v 12 (gA x v) (by omega)
  have h4 : 0 < tallyN (x :: t) v (gA x v) := by
    unfold tallyN
    rw [List.filter_cons_of_pos (by simp), List.length_cons]
    omega
  omega
theorem most_nil (v : Nat) : ∀ m, mostN [] v m = 0
  | 0 => rfl
  | m + 1 => by rw [most_max, most_nil v m]; rfl
theorem c_Wa_mostOnOneNode {E : EV} {w : Mem} {g : GC} {A : List (List Nat)} {v : Nat} (hT : TalD w g A) (hA : A.length ≤ 300000) (hV : gV g ≤ 5) (hv : v < gV g) : T E m_Wa_mostOnOneNode 1 0 0 [.ref 36, .int (nI v)] w (Ret (some (.int (nI (mostN A v 12)))) w) := by
  refine T_of (L := [.ref 36, .int (nI v), un, un]) cf_Wa_mostOnOneNode rfl (Nat.le_of_ble_eq_true rfl) (fun X hX hF => ?_)
  have lp : ∀ (fuel : Nat) (m : Nat), 12 - m < fuel → (m ≤ 12) → G0 E X 0 0 4 [.ref 36, .int (nI v), .int (nI (mostN A v m)), .int (nI m)] [] w := by
    intro fuel
    induction fuel with
    | zero => intro m q0; exact absurd q0 (Nat.not_lt_zero _)
    | succ fuel ih =>
      intro m q0 q1
      refine g_iload3 hX d_Wa_mostOnOneNode_4 ?_
      refine g_bipush (v := nI 12) hX d_Wa_mostOnOneNode_5 rfl ?_
      refine g_icmpN_ge hX d_Wa_mostOnOneNode_7 (by omega) (by omega) (fun e7 => ?_) (fun e7 => ?_)
      · refine g_iload2 hX d_Wa_mostOnOneNode_32 ?_
        refine g_iret hX hF d_Wa_mostOnOneNode_33 (by omega) (by omega) ?_
        obtain rfl : m = 12 := by omega
        exact ⟨rfl, rfl⟩
      · have hm1 := most_le A v m
        have ht1 := tally_le A v m
        refine g_iload2 hX d_Wa_mostOnOneNode_10 ?_
        refine g_aload0 hX d_Wa_mostOnOneNode_11 ?_
        refine g_getF hX d_Wa_mostOnOneNode_12 fl_Wa_24 (lv_36 _) ?_
        refine g_iload1 hX d_Wa_mostOnOneNode_15 ?_
        refine g_bipush (v := nI 12) hX d_Wa_mostOnOneNode_16 rfl ?_
        refine g_imulN hX d_Wa_mostOnOneNode_18 ?_
        refine g_iload3 hX d_Wa_mostOnOneNode_19 ?_
        refine g_iaddN hX d_Wa_mostOnOneNode_20 ?_
        refine g_iald hX d_Wa_mostOnOneNode_21 (lv_41 _) rfl (by omega) ?_
        refine g_topi (hT v hv m e7) ?_
        refine g_Math_max hX hF.1 d_Wa_mostOnOneNode_22 ml_Wa_108 (by omega) (by omega) (by omega) (Nat.le_of_ble_eq_true rfl) ?_
        refine g_topi (maxI_n (by omega) (by omega)) ?_
        refine g_istore2 hX d_Wa_mostOnOneNode_25 rfl (by decide) ?_
        refine g_iincN3 hX d_Wa_mostOnOneNode_26 rfl (by decide) ?_
        refine g_goto hX d_Wa_mostOnOneNode_29 ?_
        rw [← most_max]
        exact ih (m + 1) (by omega) (by omega)
  refine g_iconst (v := nI 0) hX d_Wa_mostOnOneNode_0 rfl ?_
  refine g_istore2 hX d_Wa_mostOnOneNode_1 rfl (by decide) ?_
  refine g_iconst (v := nI 0) hX d_Wa_mostOnOneNode_2 rfl ?_
  refine g_istore3 hX d_Wa_mostOnOneNode_3 rfl (by decide) ?_
  exact lp 13 0 (by omega) (Nat.zero_le _)
/-- the vertex that is found among the first v -/
def fndI (A : List (List Nat)) (v : Nat) : Int32 := if A = [] then -1 else (lookN A v).1
theorem look_1 (A : List (List Nat)) : ∀ v, ((lookN A v).1 = -1 ∧ (lookN A v).2 = 100000000) ∨ ∃ u, u < v ∧ (lookN A v).1 = nI u ∧ (lookN A v).2 = mostN A u 12
  | 0 => Or.inl ⟨rfl, rfl⟩
  | v + 1 => by
    unfold lookN
    split
    · exact Or.inr ⟨v, Nat.lt_succ_self v, rfl, rfl⟩
    · rcases look_1 A v with h | ⟨u, h1, h2, h3⟩
      · exact Or.inl h
      · exact Or.inr ⟨u, by omega, h2, h3⟩
theorem c_Wa_findTelling {E : EV} {w : Mem} {g : GC} {c : Nat → Nat} {ab tot : Nat} {wl : List (List Nat)} (hE : WkE w g c ab) (hS : WkS w g c wl tot) (hl2 : wl.length ≤ 300000) : T E m_Wa_findTelling 4 0 0 [.ref 36] w (fun r w2 => r = some (.int (fndI wl (gV g))) ∧ TalD w2 g wl ∧ FrWk w w2) := by
  refine T_of (L := [.ref 36, un, un, un]) cf_Wa_findTelling rfl (Nat.le_of_ble_eq_true rfl) (fun X hX hF => ?_)
  have hW := hE.2.1
  have hn := hW.n
  have hv5 := hW.v
  have k72 : ∀ (A : List (List Nat)) (w3 : Mem), WkE w3 g c ab → TalD w3 g A → A.length ≤ 300000 → (∀ x ∈ A, x.length = gV g ∧ ∀ y ∈ x, y < gN g) → A = wl → FrWk w w3 → G0 E X 0 0 72 [.ref 36, .int (-1), .int (nI 0), un] [] w3 := by
    intro A w3 hE3 hTl hAl hAx hAw hFr
    subst hAw
    have lp3 : ∀ (fuel : Nat) (v : Nat), gV g - v < fuel → (v ≤ gV g) → G0 E X 0 0 72 [.ref 36, .int (fndI A v), .int (nI v), un] [] w3 := by
      intro fuel
      induction fuel with
      | zero => intro v q0; exact absurd q0 (Nat.not_lt_zero _)
      | succ fuel ih3 =>
        intro v q0 q1
        refine g_iload2 hX d_Wa_findTelling_72 ?_
        refine g_aload0 hX d_Wa_findTelling_73 ?_
        refine g_getR hX d_Wa_findTelling_74 fl_Wa_27 (lv_36 _) hE3.2.2.1 ?_
        refine g_getI hX d_Wa_findTelling_77 fl_Wa_44 (lv_1 _) ?_
        refine g_topi hE3.1.v ?_
        refine g_icmpN_ge hX d_Wa_findTelling_80 (by omega) (by omega) (fun e80 => ?_) (fun e80 => ?_)
        · refine g_iload1 hX d_Wa_findTelling_127 ?_
          refine g_iret hX hF d_Wa_findTelling_128 (by omega) (by omega) ?_
          obtain rfl : v = gV g := by omega
          exact ⟨rfl, hTl, hFr⟩
        · have hlk := look_1 A v
          have hml := most_le A v 12
          have hsame0 : A = [] → fndI A v = fndI A (v + 1) := fun z => by unfold fndI; rw [if_pos z, if_pos z]
          have hst : A ≠ [] → ∀ b, b = decide (mostN A v 12 < (lookN A v).2) → fndI A (v + 1) = (if b = true then nI v else fndI A v) := fun z b hb => by
            unfold fndI
            rw [if_neg z, if_neg z]
            show (if mostN A v 12 < (lookN A v).2 then (nI v, mostN A v 12) else lookN A v).1 = _
            by_cases y : mostN A v 12 < (lookN A v).2
            · rw [if_pos y, hb, if_pos (by simpa using y)]
            · rw [if_neg y, hb, if_neg (by simpa using y)]
          refine g_iload1 hX d_Wa_findTelling_83 ?_
          refine g_iconst (v := -1) hX d_Wa_findTelling_84 rfl ?_
          refine g_icmp_eq hX d_Wa_findTelling_85 (fun e85 => ?_) (fun e85 => ?_)
          · refine g_iconst (v := nI 1) hX d_Wa_findTelling_101 rfl ?_
            refine g_goto hX d_Wa_findTelling_102 ?_
            refine g_istore3 hX d_Wa_findTelling_106 rfl (by decide) ?_
            refine g_aload0 hX d_Wa_findTelling_107 ?_
            refine g_iload2 hX d_Wa_findTelling_108 ?_
            refine g_callV (As := [_]) hX hF.1 d_Wa_findTelling_109 ml_Wa_105 cf_Wa_mostOnOneNode cv_Wa_mostOnOneNode rfl rfl (c_Wa_mostOnOneNode hTl hAl hv5 e80) (rcv_obj hX (lv_36 _) rfl rfl) (by omega) (by omega) (by omega) (Nat.le_of_ble_eq_true rfl) ?_
            refine ret_k ?_
            refine g_if_le hX d_Wa_findTelling_112 (fun e112 => ?_) (fun e112 => ?_)
            · have e112z : mostN A v 12 = 0 := by
                rcases Nat.eq_zero_or_pos (mostN A v 12) with z | z
                · exact z
                · exact absurd e112 (nI_nle0 z (by omega))
              refine g_iincN2 hX d_Wa_findTelling_121 rfl (by decide) ?_
              refine g_goto hX d_Wa_findTelling_124 ?_
              refine g_fget 3 ?_
              have hA0 : A = [] := Decidable.by_contra (fun z => absurd (most_pos hn hAx z e80) (by omega))
              have hsm : fndI A (v + 1) = fndI A v := (hsame0 hA0).symm
              refine g_loc (show [Value.ref 36, Value.int (fndI A v), Value.int (nI (v + 1)), un] = [Value.ref 36, Value.int (fndI A (v + 1)), Value.int (nI (v + 1)), un] by rw [hsm]) ?_
              exact ih3 (v + 1) (by omega) (by omega)
            · have e112p : 0 < mostN A v 12 := Nat.pos_of_ne_zero (fun z => e112 (by rw [z]; exact Int32.le_refl _))
              refine g_iload3 hX d_Wa_findTelling_115 ?_
              refine g_if_eq hX d_Wa_findTelling_116 (fun h => absurd h (by decide)) (fun c3 => ?_)
              refine g_iload2 hX d_Wa_findTelling_119 ?_
              refine g_istore1 hX d_Wa_findTelling_120 rfl (by decide) ?_
              refine g_iincN2 hX d_Wa_findTelling_121 rfl (by decide) ?_
              refine g_goto hX d_Wa_findTelling_124 ?_
              refine g_fget 3 ?_
              have hA0 : A ≠ [] := fun z => by rw [z, most_nil] at e112p; omega
              have hl2 : (lookN A v).2 = 100000000 := by
                rcases hlk with z | ⟨u, hu, hu1, hu2⟩
                · exact z.2
                · unfold fndI at e85
                  rw [if_neg hA0, hu1] at e85
                  exact absurd e85 (nI_m1 (by omega))
              have hnew : fndI A (v + 1) = nI v := by rw [hst hA0 true (by rw [hl2]; symm; exact decide_eq_true (by omega)), if_pos rfl]
              refine g_loc (show [Value.ref 36, Value.int (nI v), Value.int (nI (v + 1)), un] = [Value.ref 36, Value.int (fndI A (v + 1)), Value.int (nI (v + 1)), un] by rw [hnew]) ?_
              exact ih3 (v + 1) (by omega) (by omega)
          · have hA0 : A ≠ [] := fun z => e85 (by unfold fndI; rw [if_pos z])
            obtain ⟨u, hu, hu1, hu2⟩ := hlk.resolve_left (fun z => e85 (by unfold fndI; rw [if_neg hA0]; exact z.1))
            have hmu := most_le A u 12
            refine g_loc (show [Value.ref 36, Value.int (fndI A v), Value.int (nI v), un] = [Value.ref 36, Value.int (nI u), Value.int (nI v), un] by unfold fndI; rw [if_neg hA0, hu1]) ?_
            refine g_aload0 hX d_Wa_findTelling_88 ?_
            refine g_iload2 hX d_Wa_findTelling_89 ?_
            refine g_callV (As := [_]) hX hF.1 d_Wa_findTelling_90 ml_Wa_105 cf_Wa_mostOnOneNode cv_Wa_mostOnOneNode rfl rfl (c_Wa_mostOnOneNode hTl hAl hv5 e80) (rcv_obj hX (lv_36 _) rfl rfl) (by omega) (by omega) (by omega) (Nat.le_of_ble_eq_true rfl) ?_
            refine ret_k ?_
            refine g_aload0 hX d_Wa_findTelling_93 ?_
            refine g_iload1 hX d_Wa_findTelling_94 ?_
            refine g_callV (As := [_]) hX hF.1 d_Wa_findTelling_95 ml_Wa_105 cf_Wa_mostOnOneNode cv_Wa_mostOnOneNode rfl rfl (c_Wa_mostOnOneNode hTl hAl hv5 (by omega)) (rcv_obj hX (lv_36 _) rfl rfl) (by omega) (by omega) (by omega) (Nat.le_of_ble_eq_true rfl) ?_
            refine ret_k ?_
            refine g_icmpN_ge hX d_Wa_findTelling_98 (by omega) (by omega) (fun e98 => ?_) (fun e98 => ?_)
            · refine g_iconst (v := nI 0) hX d_Wa_findTelling_105 rfl ?_
              refine g_istore3 hX d_Wa_findTelling_106 rfl (by decide) ?_
              refine g_aload0 hX d_Wa_findTelling_107 ?_
              refine g_iload2 hX d_Wa_findTelling_108 ?_
              refine g_callV (As := [_]) hX hF.1 d_Wa_findTelling_109 ml_Wa_105 cf_Wa_mostOnOneNode cv_Wa_mostOnOneNode rfl rfl (c_Wa_mostOnOneNode hTl hAl hv5 e80) (rcv_obj hX (lv_36 _) rfl rfl) (by omega) (by omega) (by omega) (Nat.le_of_ble_eq_true rfl) ?_
              refine ret_k ?_
              refine g_if_le hX d_Wa_findTelling_112 (fun e112 => ?_) (fun e112 => ?_)
              · have e112z : mostN A v 12 = 0 := by
                  rcases Nat.eq_zero_or_pos (mostN A v 12) with z | z
                  · exact z
                  · exact absurd e112 (nI_nle0 z (by omega))
                refine g_iincN2 hX d_Wa_findTelling_121 rfl (by decide) ?_
                refine g_goto hX d_Wa_findTelling_124 ?_
                refine g_fget 3 ?_
                have hsm : fndI A (v + 1) = nI u := by rw [hst hA0 false (by rw [hu2]; symm; exact decide_eq_false (by omega)), if_neg (by decide)]; unfold fndI; rw [if_neg hA0, hu1]
                refine g_loc (show [Value.ref 36, Value.int (nI u), Value.int (nI (v + 1)), un] = [Value.ref 36, Value.int (fndI A (v + 1)), Value.int (nI (v + 1)), un] by rw [hsm]) ?_
                exact ih3 (v + 1) (by omega) (by omega)
              · have e112p : 0 < mostN A v 12 := Nat.pos_of_ne_zero (fun z => e112 (by rw [z]; exact Int32.le_refl _))
                refine g_iload3 hX d_Wa_findTelling_115 ?_
                refine g_if_eq hX d_Wa_findTelling_116 (fun c6 => ?_) (fun h => absurd (by decide) h)
                refine g_iincN2 hX d_Wa_findTelling_121 rfl (by decide) ?_
                refine g_goto hX d_Wa_findTelling_124 ?_
                refine g_fget 3 ?_
                have hsm : fndI A (v + 1) = nI u := by rw [hst hA0 false (by rw [hu2]; symm; exact decide_eq_false (by omega)), if_neg (by decide)]; unfold fndI; rw [if_neg hA0, hu1]
                refine g_loc (show [Value.ref 36, Value.int (nI u), Value.int (nI (v + 1)), un] = [Value.ref 36, Value.int (fndI A (v + 1)), Value.int (nI (v + 1)), un] by rw [hsm]) ?_
                exact ih3 (v + 1) (by omega) (by omega)
            · refine g_iconst (v := nI 1) hX d_Wa_findTelling_101 rfl ?_
              refine g_goto hX d_Wa_findTelling_102 ?_
              refine g_istore3 hX d_Wa_findTelling_106 rfl (by decide) ?_
              refine g_aload0 hX d_Wa_findTelling_107 ?_
              refine g_iload2 hX d_Wa_findTelling_108 ?_
              refine g_callV (As := [_]) hX hF.1 d_Wa_findTelling_109 ml_Wa_105 cf_Wa_mostOnOneNode cv_Wa_mostOnOneNode rfl rfl (c_Wa_mostOnOneNode hTl hAl hv5 e80) (rcv_obj hX (lv_36 _) rfl rfl) (by omega) (by omega) (by omega) (Nat.le_of_ble_eq_true rfl) ?_
              refine ret_k ?_
              refine g_if_le hX d_Wa_findTelling_112 (fun e112 => ?_) (fun e112 => ?_)
              · have e112z : mostN A v 12 = 0 := by
                  rcases Nat.eq_zero_or_pos (mostN A v 12) with z | z
                  · exact z
                  · exact absurd e112 (nI_nle0 z (by omega))
                refine g_iincN2 hX d_Wa_findTelling_121 rfl (by decide) ?_
                refine g_goto hX d_Wa_findTelling_124 ?_
                exact absurd (most_pos hn hAx hA0 e80) (by omega)
              · have e112p : 0 < mostN A v 12 := Nat.pos_of_ne_zero (fun z => e112 (by rw [z]; exact Int32.le_refl _))
                refine g_iload3 hX d_Wa_findTelling_115 ?_
                refine g_if_eq hX d_Wa_findTelling_116 (fun h => absurd h (by decide)) (fun c8 => ?_)
                refine g_iload2 hX d_Wa_findTelling_119 ?_
                refine g_istore1 hX d_Wa_findTelling_120 rfl (by decide) ?_
                refine g_iincN2 hX d_Wa_findTelling_121 rfl (by decide) ?_
                refine g_goto hX d_Wa_findTelling_124 ?_
                refine g_fget 3 ?_
                have hnew : fndI A (v + 1) = nI v := by rw [hst hA0 true (by rw [hu2]; symm; exact decide_eq_true (by omega)), if_pos rfl]
                refine g_loc (show [Value.ref 36, Value.int (nI v), Value.int (nI (v + 1)), un] = [Value.ref 36, Value.int (fndI A (v + 1)), Value.int (nI (v + 1)), un] by rw [hnew]) ?_
                exact ih3 (v + 1) (by omega) (by omega)
    refine g_loc (show [Value.ref 36, Value.int (-1), Value.int (nI 0), un] = [Value.ref 36, Value.int (fndI A 0), Value.int (nI 0), un] by unfold fndI; split <;> rfl) ?_
    exact lp3 (gV g + 1) 0 (by omega) (Nat.zero_le _)
  have lp : ∀ (fuel : Nat) (k : Nat) (ws A : List (List Nat)) (wk : Mem), ws.length < fuel → (FrWk w wk) → (WkS wk g c ws tot) → (k + ws.length ≤ 400000) → (TalD wk g A) → (A ++ ws = wl) → (∀ x ∈ A, x.length = gV g ∧ ∀ y ∈ x, y < gN g) → G0 E X 0 0 10 [.ref 36, .int (nI k), un, un] [] wk := by
    intro fuel
    induction fuel with
    | zero => intro k ws A wk q0; exact absurd q0 (Nat.not_lt_zero _)
    | succ fuel ih =>
      intro k ws A wk q0 q1 q2 q3 q4 q5 q6
      refine g_iload1 hX d_Wa_findTelling_10 ?_
      refine g_ldc (v := nI 1000000) hX d_Wa_findTelling_11 k_Wa_69 rfl ?_
      refine g_icmpN_ge hX d_Wa_findTelling_13 (by omega) (by omega) (fun h => absurd h (by omega)) (fun c0 => ?_)
      refine g_aload0 hX d_Wa_findTelling_16 ?_
      refine g_callV (As := []) hX hF.1 d_Wa_findTelling_17 ml_Wa_76 cf_Wa_advance cv_Wa_advance rfl rfl (c_Wa_adv (hE.fr q1) q2) (rcv_obj hX (lv_36 _) rfl rfl) (by omega) (by omega) (by omega) (Nat.le_of_ble_eq_true rfl) ?_
      rintro _ w2 ⟨hp, hfa⟩
      obtain ⟨z, rfl, hz2, hz⟩ := hp.c
      have hf2 := q1.tr hfa.W
      show G0 _ _ _ _ _ _ _ _
      refine g_if_eq hX d_Wa_findTelling_20 (fun e14 => ?_) (fun e14 => ?_)
      · have hz0 : z = 0 := nI_inj (by omega) (by decide) e14
        obtain ⟨-, rfl, hZ, hst⟩ := hz.resolve_right (fun y => by omega)
        refine g_iconst (v := -1) hX d_Wa_findTelling_68 rfl ?_
        refine g_istore1 hX d_Wa_findTelling_69 rfl (by decide) ?_
        refine g_iconst (v := nI 0) hX d_Wa_findTelling_70 rfl ?_
        refine g_istore2 hX d_Wa_findTelling_71 rfl (by decide) ?_
        have hAw : A = wl := by rw [← q5, List.append_nil]
        exact k72 A w2 (hE.fr hf2) (fun v hv m hm => by rw [hfa.1 41 (by decide)]; exact q4 v hv m hm) (by rw [hAw]; exact hl2) q6 hAw hf2
      · have hz1 : z = 1 := by
          have : z ≠ 0 := fun y => e14 (by rw [y]; rfl)
          omega
        obtain ⟨-, x, t, rfl, hT⟩ := hz.resolve_left (fun y => by omega)
        have hE2 := hE.fr hf2
        have hq0 := q0
        have q1_ := q1
        have qk := q3
        have qA := q5
        have qX := q6
        have qT : TalD w2 g A := fun v hv m hm => by rw [hfa.1 41 (by decide)]; exact q4 v hv m hm
        have hAl3 : A.length ≤ 300000 := by
          have := congrArg List.length qA
          rw [List.length_append] at this
          omega
        refine g_iconst (v := nI 0) hX d_Wa_findTelling_23 rfl ?_
        refine g_istore2 hX d_Wa_findTelling_24 rfl (by decide) ?_
        have lpI : ∀ (fuel : Nat) (v : Nat) (w3 : Mem), gV g - v < fuel → (v ≤ gV g) → ((∀ a, a ≠ 41 → rI w3 a = rI w2 a) ∧ w3.2 = w2.2) → (∀ u, v ≤ u → u < gV g → ∀ m, m < 12 → rI w3 41 (u * 12 + m) = rI w2 41 (u * 12 + m)) → (∀ u, u < v → ∀ m, m < 12 → rI w3 41 (u * 12 + m) = nI (tallyN (A ++ [x]) u m)) → G0 E X 0 0 25 [.ref 36, .int (nI k), .int (nI v), un] [] w3 := by
          intro fuel
          induction fuel with
          | zero => intro v w3 q0; exact absurd q0 (Nat.not_lt_zero _)
          | succ fuel ihS =>
            intro v w3 q0 q1 q2 q3 q4
            refine g_iload2 hX d_Wa_findTelling_25 ?_
            refine g_aload0 hX d_Wa_findTelling_26 ?_
            refine g_getR hX d_Wa_findTelling_27 fl_Wa_27 (lv_36 _) (show rR w3 36 5 = some 1 by unfold rR; rw [q2.2]; exact hE2.2.2.1) ?_
            refine g_getI hX d_Wa_findTelling_30 fl_Wa_44 (lv_1 _) ?_
            refine g_topi (show rI w3 1 5 = nI (gV g) by rw [q2.1 1 (by decide)]; exact hE2.1.v) ?_
            refine g_icmpN_ge hX d_Wa_findTelling_33 (by omega) (by omega) (fun e33 => ?_) (fun e33 => ?_)
            · obtain rfl : v = gV g := by omega
              refine g_fget 2 ?_
              refine g_iincN1 hX d_Wa_findTelling_62 rfl (by decide) ?_
              refine g_goto hX d_Wa_findTelling_65 ?_
              exact ih (k + 1) t (A ++ [x]) w3 (by simp only [List.length_cons] at hq0; omega) ((q1_.tr hfa.W).tr ⟨fun a ha => q2.1 a (by omega), q2.2⟩) (hT.S.ch0 (fun a ha => q2.1 a (by omega))) (by simp only [List.length_cons] at qk; omega) (fun u hu m hm => q4 u hu m hm) (by rw [List.append_assoc]; exact qA) (fun y hy => by
                rcases List.mem_append.mp hy with hy | hy
                · exact qX y hy
                · rw [List.mem_singleton.mp hy]; exact ⟨hT.1, hT.2.1⟩)
            · have hx := hT.lt e33
              have hta := tally_le A v (gA x v)
              refine g_aload0 hX d_Wa_findTelling_36 ?_
              refine g_getF hX d_Wa_findTelling_37 fl_Wa_24 (lv_36 _) ?_
              refine g_iload2 hX d_Wa_findTelling_40 ?_
              refine g_bipush (v := nI 12) hX d_Wa_findTelling_41 rfl ?_
              refine g_imulN hX d_Wa_findTelling_43 ?_
              refine g_aload0 hX d_Wa_findTelling_44 ?_
              refine g_getF hX d_Wa_findTelling_45 fl_Wa_9 (lv_36 _) ?_
              refine g_iload2 hX d_Wa_findTelling_48 ?_
              refine g_iald hX d_Wa_findTelling_49 (lv_37 _) rfl (by omega) ?_
              refine g_topi (show rI w3 37 v = nI (gA x v) by rw [q2.1 37 (by decide)]; exact hT.2.2.1 v e33) ?_
              refine g_iaddN hX d_Wa_findTelling_50 ?_
              refine g_dup2 hX d_Wa_findTelling_51 rfl rfl ?_
              refine g_iald hX d_Wa_findTelling_52 (lv_41 _) rfl (by omega) ?_
              refine g_topi (show rI w3 41 (v * 12 + gA x v) = nI (tallyN A v (gA x v)) by rw [q3 v (Nat.le_refl _) e33 (gA x v) (by omega)]; exact qT v e33 (gA x v) (by omega)) ?_
              refine g_iconst (v := nI 1) hX d_Wa_findTelling_53 rfl ?_
              refine g_iaddN hX d_Wa_findTelling_54 ?_
              refine g_iast hX d_Wa_findTelling_55 (lv_41 _) rfl (by omega) ?_
              refine g_iincN2 hX d_Wa_findTelling_56 rfl (by decide) ?_
              refine g_goto hX d_Wa_findTelling_59 ?_
              refine ihS (v + 1) _ (by omega) (by omega) ⟨fun a ha => by rw [rI_sI_ne _ _ _ ha]; exact q2.1 a ha, q2.2⟩ (fun u h1 h2 m hm => ?_) (fun u h1 m hm => ?_)
              · rw [rI_sI, upd_eq, if_neg (by omega)]
                exact q3 u (by omega) h2 m hm
              · rw [tally_snoc, rI_sI, upd_eq]
                by_cases e : u = v
                · subst e
                  by_cases e2 : m = gA x u
                  · rw [if_pos (by rw [e2]), e2, if_pos rfl]
                  · rw [if_neg (by omega), if_neg (fun z => e2 z.symm), q3 u (Nat.le_refl _) e33 m hm]
                    exact qT u e33 m hm
                · rw [if_neg (by omega), q4 u (by omega) m hm, tally_snoc]
        exact lpI (gV g + 1) 0 w2 (by omega) (Nat.zero_le _) ⟨fun _ _ => rfl, rfl⟩ (fun _ _ _ _ _ => rfl) (fun u hu => absurd hu (Nat.not_lt_zero _))
  refine g_aload0 hX d_Wa_findTelling_0 ?_
  refine g_getF hX d_Wa_findTelling_1 fl_Wa_24 (lv_36 _) ?_
  refine g_iconst (v := nI 0) hX d_Wa_findTelling_4 rfl ?_
  refine g_callS (As := [_, _]) hX hF.1 d_Wa_findTelling_5 ml_Wa_99 cf_JArrays_fill_IIV cs_JArrays_fill_IIV rfl (c_JArrays_fillI (m := 60) (x := nI 0) (lv_41 _)) (by omega) (by omega) (by omega) (Nat.le_of_ble_eq_true rfl) ?_
  refine ret_k ?_
  refine g_iconst (v := nI 0) hX d_Wa_findTelling_8 rfl ?_
  refine g_istore1 hX d_Wa_findTelling_9 rfl (by decide) ?_
  exact lp (wl.length + 1) 0 wl [] _ (by omega) ((FrWk.rf w).A (by decide)) (hS.ch0 (fun a ha => rI_sA_ne _ _ (by omega))) (by omega) (fun v hv m hm => by rw [rI_sA]; unfold fil; rw [if_pos (by omega)]; rfl) rfl (fun x hx => absurd hx (List.not_mem_nil))
theorem opLook_nil {x : Int32} {g : GC} (h : fittingL g = []) : opLook x g = -1 := look_no (Or.inr (by rw [h]; rfl))
theorem c_D_look {E : EV} {w : Mem} {x : Int32} {s : SG} (h : DInv w s) : T E m_D_look 6 0 0 [.ref 0, .int x] w (fun r w2 => r = some (.int (opLook x (sG s))) ∧ DInv w2 s ∧ DkD w w2) := by
  refine T_of (L := [.ref 0, .int x, un]) cf_D_look rfl (Nat.le_of_ble_eq_true rfl) (fun X hX hF => ?_)
  obtain ⟨⟨hR, hW, hA⟩, hL, hT, hI, hRF, ⟨hsm, hfa, hsp⟩, hdr, hfx⟩ := id h
  have hn := hW.n
  have hv := hW.v
  have he := hW.el
  have hll := hW.ll
  have hsl := hW.sl
  refine g_iload1 hX d_D_look_0 ?_
  refine g_if_eq hX d_D_look_1 (fun e1 => ?_) (fun e1 => ?_)
  · have hx2 : inN x 2 := by rw [e1]; decide
    refine g_aload0 hX d_D_look_11 ?_
    refine g_callV (As := []) hX hF.1 d_D_look_12 ml_D_350 cf_D_startFitting cv_D_startFitting rfl rfl (c_D_startFitting h) (rcv_obj hX (lv_0 _) rfl rfl) (by omega) (by omega) (by omega) (Nat.le_of_ble_eq_true rfl) ?_
    rintro _ w1 ⟨rfl, hE1, ⟨tot, hS1⟩, h1, hQ1⟩
    have hfl2 := fitting_num hW
    show G0 _ _ _ _ _ _ _ _
    refine g_aload0 hX d_D_look_15 ?_
    refine g_getF hX d_D_look_16 fl_D_47 (lv_0 _) ?_
    refine g_callV (As := []) hX hF.1 d_D_look_19 ml_D_353 cf_Wa_findTelling cv_Wa_findTelling rfl rfl (c_Wa_findTelling hE1 hS1 (by omega)) (rcv_obj hX (lv_36 _) rfl rfl) (by omega) (by omega) (by omega) (Nat.le_of_ble_eq_true rfl) ?_
    rintro _ w2 ⟨rfl, hTl, hf2⟩
    have hlk := look_1 (fittingL (sG s)) (gV (sG s))
    show G0 _ _ _ _ _ _ _ _
    refine g_istore2 hX d_D_look_22 rfl (by decide) ?_
    refine g_iload2 hX d_D_look_23 ?_
    refine g_iconst (v := -1) hX d_D_look_24 rfl ?_
    refine g_icmp_eq hX d_D_look_25 (fun e25 => ?_) (fun e25 => ?_)
    · refine g_iload2 hX d_D_look_32 ?_
      refine g_iret hX hF d_D_look_33 (by omega) (by omega) ?_
      refine ⟨?_, h1.q hf2.Q, (hQ1.tr hf2.Q).D⟩
      by_cases hA0 : fittingL (sG s) = []
      · rw [opLook_nil hA0, e25]
      · have hA1 : ¬ (fittingL (sG s)).length = 0 := fun z => hA0 (List.length_eq_zero_iff.mp z)
        have hfn : fndI (fittingL (sG s)) (gV (sG s)) = (lookN (fittingL (sG s)) (gV (sG s))).1 := by unfold fndI; rw [if_neg hA0]
        rw [look_a hx2 hA1 (Or.inl (hfn.symm.trans e25)), hfn]
    · have hA0 : fittingL (sG s) ≠ [] := fun z => e25 (by unfold fndI; rw [if_pos z])
      have hA1 : ¬ (fittingL (sG s)).length = 0 := fun z => hA0 (List.length_eq_zero_iff.mp z)
      have hfn : fndI (fittingL (sG s)) (gV (sG s)) = (lookN (fittingL (sG s)) (gV (sG s))).1 := by unfold fndI; rw [if_neg hA0]
      obtain ⟨u, hu, hu1, hu2⟩ := hlk.resolve_left (fun z => e25 (hfn.trans z.1))
      refine g_iload1 hX d_D_look_28 ?_
      refine g_if_ne hX d_D_look_29 (fun e29 => ?_) (fun e29 => ?_)
      · refine g_loc (show [Value.ref 0, Value.int x, Value.int (fndI (fittingL (sG s)) (gV (sG s)))] = [Value.ref 0, Value.int x, Value.int (nI u)] by rw [hfn, hu1]) ?_
        refine g_aload0 hX d_D_look_34 ?_
        refine g_getF hX d_D_look_35 fl_D_47 (lv_0 _) ?_
        refine g_iload2 hX d_D_look_38 ?_
        refine g_callV (As := [_]) hX hF.1 d_D_look_39 ml_D_356 cf_Wa_mostOnOneNode cv_Wa_mostOnOneNode rfl rfl (c_Wa_mostOnOneNode hTl (by omega) hv hu) (rcv_obj hX (lv_36 _) rfl rfl) (by omega) (by omega) (by omega) (Nat.le_of_ble_eq_true rfl) ?_
        refine ret_k ?_
        refine g_iret hX hF d_D_look_42 (by omega) (by omega) ?_
        rw [look_b hx2 hA1 (fun z => z.elim (fun y => e25 (hfn.trans y)) e29), hu2]
        exact ⟨rfl, h1.q hf2.Q, (hQ1.tr hf2.Q).D⟩
      · refine g_iload2 hX d_D_look_32 ?_
        refine g_iret hX hF d_D_look_33 (by omega) (by omega) ?_
        rw [look_a hx2 hA1 (Or.inr e29), ← hfn]
        exact ⟨rfl, h1.q hf2.Q, (hQ1.tr hf2.Q).D⟩
  · refine g_iload1 hX d_D_look_4 ?_
    refine g_iconst (v := nI 1) hX d_D_look_5 rfl ?_
    refine g_icmp_eq hX d_D_look_6 (fun e6 => ?_) (fun e6 => ?_)
    · have hx2 : inN x 2 := by rw [e6]; decide
      refine g_aload0 hX d_D_look_11 ?_
      refine g_callV (As := []) hX hF.1 d_D_look_12 ml_D_350 cf_D_startFitting cv_D_startFitting rfl rfl (c_D_startFitting h) (rcv_obj hX (lv_0 _) rfl rfl) (by omega) (by omega) (by omega) (Nat.le_of_ble_eq_true rfl) ?_
      rintro _ w1 ⟨rfl, hE1, ⟨tot, hS1⟩, h1, hQ1⟩
      have hfl2 := fitting_num hW
      show G0 _ _ _ _ _ _ _ _
      refine g_aload0 hX d_D_look_15 ?_
      refine g_getF hX d_D_look_16 fl_D_47 (lv_0 _) ?_
      refine g_callV (As := []) hX hF.1 d_D_look_19 ml_D_353 cf_Wa_findTelling cv_Wa_findTelling rfl rfl (c_Wa_findTelling hE1 hS1 (by omega)) (rcv_obj hX (lv_36 _) rfl rfl) (by omega) (by omega) (by omega) (Nat.le_of_ble_eq_true rfl) ?_
      rintro _ w2 ⟨rfl, hTl, hf2⟩
      have hlk := look_1 (fittingL (sG s)) (gV (sG s))
      show G0 _ _ _ _ _ _ _ _
      refine g_istore2 hX d_D_look_22 rfl (by decide) ?_
      refine g_iload2 hX d_D_look_23 ?_
      refine g_iconst (v := -1) hX d_D_look_24 rfl ?_
      refine g_icmp_eq hX d_D_look_25 (fun e25 => ?_) (fun e25 => ?_)
      · refine g_iload2 hX d_D_look_32 ?_
        refine g_iret hX hF d_D_look_33 (by omega) (by omega) ?_
        refine ⟨?_, h1.q hf2.Q, (hQ1.tr hf2.Q).D⟩
        by_cases hA0 : fittingL (sG s) = []
        · rw [opLook_nil hA0, e25]
        · have hA1 : ¬ (fittingL (sG s)).length = 0 := fun z => hA0 (List.length_eq_zero_iff.mp z)
          have hfn : fndI (fittingL (sG s)) (gV (sG s)) = (lookN (fittingL (sG s)) (gV (sG s))).1 := by unfold fndI; rw [if_neg hA0]
          rw [look_a hx2 hA1 (Or.inl (hfn.symm.trans e25)), hfn]
      · have hA0 : fittingL (sG s) ≠ [] := fun z => e25 (by unfold fndI; rw [if_pos z])
        have hA1 : ¬ (fittingL (sG s)).length = 0 := fun z => hA0 (List.length_eq_zero_iff.mp z)
        have hfn : fndI (fittingL (sG s)) (gV (sG s)) = (lookN (fittingL (sG s)) (gV (sG s))).1 := by unfold fndI; rw [if_neg hA0]
        obtain ⟨u, hu, hu1, hu2⟩ := hlk.resolve_left (fun z => e25 (hfn.trans z.1))
        refine g_iload1 hX d_D_look_28 ?_
        refine g_if_ne hX d_D_look_29 (fun e29 => ?_) (fun e29 => ?_)
        · refine g_loc (show [Value.ref 0, Value.int x, Value.int (fndI (fittingL (sG s)) (gV (sG s)))] = [Value.ref 0, Value.int x, Value.int (nI u)] by rw [hfn, hu1]) ?_
          refine g_aload0 hX d_D_look_34 ?_
          refine g_getF hX d_D_look_35 fl_D_47 (lv_0 _) ?_
          refine g_iload2 hX d_D_look_38 ?_
          refine g_callV (As := [_]) hX hF.1 d_D_look_39 ml_D_356 cf_Wa_mostOnOneNode cv_Wa_mostOnOneNode rfl rfl (c_Wa_mostOnOneNode hTl (by omega) hv hu) (rcv_obj hX (lv_36 _) rfl rfl) (by omega) (by omega) (by omega) (Nat.le_of_ble_eq_true rfl) ?_
          refine ret_k ?_
          refine g_iret hX hF d_D_look_42 (by omega) (by omega) ?_
          rw [look_b hx2 hA1 (fun z => z.elim (fun y => e25 (hfn.trans y)) e29), hu2]
          exact ⟨rfl, h1.q hf2.Q, (hQ1.tr hf2.Q).D⟩
        · refine g_iload2 hX d_D_look_32 ?_
          refine g_iret hX hF d_D_look_33 (by omega) (by omega) ?_
          rw [look_a hx2 hA1 (Or.inr e29), ← hfn]
          exact ⟨rfl, h1.q hf2.Q, (hQ1.tr hf2.Q).D⟩
    · refine g_iconst (v := -1) hX d_D_look_9 rfl ?_
      refine g_iret hX hF d_D_look_10 (by omega) (by omega) ?_
      rw [look_no (Or.inl (fun z => by
        obtain ⟨m, hm, rfl, -⟩ := inN_of z (by decide)
        rcases (show m = 0 ∨ m = 1 by omega) with rfl | rfl
        · exact e1 rfl
        · exact e6 rfl))]
      exact ⟨rfl, h, DkD.rf w⟩
