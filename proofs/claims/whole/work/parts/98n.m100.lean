def m_D_at : MR := (⟨"SubgraphDesk", "at", "(II)I"⟩, prog_1_method_8_code, 3, (some .int))
theorem cf_D_at : CF m_D_at 2 := ⟨gd 650 (by decide +kernel) rfl, gd 139 (by decide +kernel) rfl, by decide +kernel, by decide, by decide +kernel⟩
theorem cv_D_at : CV m_D_at := ⟨gd 648 (by decide +kernel) rfl, gd 649 (by decide +kernel) rfl⟩
def m_D_symmetries : MR := (⟨"SubgraphDesk", "symmetries", "()I"⟩, prog_1_method_34_code, 1, (some .int))
theorem cf_D_symmetries : CF m_D_symmetries 0 := ⟨gd 1234 (by decide +kernel) rfl, gd 139 (by decide +kernel) rfl, by decide +kernel, by decide, by decide +kernel⟩
theorem cv_D_symmetries : CV m_D_symmetries := ⟨gd 1232 (by decide +kernel) rfl, gd 1233 (by decide +kernel) rfl⟩
def m_Li_canStandFor : MR := (⟨"SubgraphDesk$Likeness", "canStandFor", "(LSubgraphDesk$Board;II)Z"⟩, prog_6_method_6_code, 5, (some .boolean))
theorem cf_Li_canStandFor : CF m_Li_canStandFor 3 := ⟨gd 1213 (by decide +kernel) rfl, gd 149 (by decide +kernel) rfl, by decide +kernel, by decide, by decide +kernel⟩
theorem cv_Li_canStandFor : CV m_Li_canStandFor := ⟨gd 1212 (by decide +kernel) rfl, gd 40 (by decide +kernel) rfl⟩
def m_Li_extend : MR := (⟨"SubgraphDesk$Likeness", "extend", "(LSubgraphDesk$Board;II)V"⟩, prog_6_method_4_code, 4, none)
theorem cf_Li_extend : CF m_Li_extend 3 := ⟨gd 1200 (by decide +kernel) rfl, gd 149 (by decide +kernel) rfl, by decide +kernel, by decide, by decide +kernel⟩
theorem cv_Li_extend : CV m_Li_extend := ⟨gd 1199 (by decide +kernel) rfl, gd 37 (by decide +kernel) rfl⟩
def m_Li_findSymmetries : MR := (⟨"SubgraphDesk$Likeness", "findSymmetries", "(LSubgraphDesk$Board;)V"⟩, prog_6_method_3_code, 2, none)
theorem cf_Li_findSymmetries : CF m_Li_findSymmetries 1 := ⟨gd 1196 (by decide +kernel) rfl, gd 149 (by decide +kernel) rfl, by decide +kernel, by decide, by decide +kernel⟩
theorem cv_Li_findSymmetries : CV m_Li_findSymmetries := ⟨gd 1194 (by decide +kernel) rfl, gd 1195 (by decide +kernel) rfl⟩
def m_Li_keepTrial : MR := (⟨"SubgraphDesk$Likeness", "keepTrial", "()V"⟩, prog_6_method_7_code, 1, none)
theorem cf_Li_keepTrial : CF m_Li_keepTrial 0 := ⟨gd 1204 (by decide +kernel) rfl, gd 149 (by decide +kernel) rfl, by decide +kernel, by decide, by decide +kernel⟩
theorem cv_Li_keepTrial : CV m_Li_keepTrial := ⟨gd 1203 (by decide +kernel) rfl, gd 38 (by decide +kernel) rfl⟩
def m_Li_tryAll : MR := (⟨"SubgraphDesk$Likeness", "tryAll", "(LSubgraphDesk$Board;II)V"⟩, prog_6_method_5_code, 5, none)
theorem cf_Li_tryAll : CF m_Li_tryAll 3 := ⟨gd 1209 (by decide +kernel) rfl, gd 149 (by decide +kernel) rfl, by decide +kernel, by decide, by decide +kernel⟩
theorem cv_Li_tryAll : CV m_Li_tryAll := ⟨gd 1208 (by decide +kernel) rfl, gd 39 (by decide +kernel) rfl⟩
def m_Li_twinsOf : MR := (⟨"SubgraphDesk$Likeness", "twinsOf", "(LSubgraphDesk$Board;I)I"⟩, prog_6_method_2_code, 7, (some .int))
theorem cf_Li_twinsOf : CF m_Li_twinsOf 2 := ⟨gd 663 (by decide +kernel) rfl, gd 149 (by decide +kernel) rfl, by decide +kernel, by decide, by decide +kernel⟩
theorem cv_Li_twinsOf : CV m_Li_twinsOf := ⟨gd 661 (by decide +kernel) rfl, gd 662 (by decide +kernel) rfl⟩
theorem d_D_at_0 : Dc prog_1_method_8_code 0 (.aload_n 0) 1 1 := ⟨by decide +kernel, rfl⟩
theorem d_D_at_1 : Dc prog_1_method_8_code 1 (.getfield 10) 3 4 := ⟨by decide +kernel, rfl⟩
theorem d_D_at_4 : Dc prog_1_method_8_code 4 (.iload_n 1) 1 5 := ⟨by decide +kernel, rfl⟩
theorem d_D_at_5 : Dc prog_1_method_8_code 5 (.invokevirtual 126) 3 8 := ⟨by decide +kernel, rfl⟩
theorem d_D_at_8 : Dj prog_1_method_8_code 8 (.ifCond .ne 5) 11 5 13 := ⟨by decide +kernel, rfl, rfl⟩
theorem d_D_at_11 : Dc prog_1_method_8_code 11 (.iconst (-1)) 1 12 := ⟨by decide +kernel, rfl⟩
theorem d_D_at_12 : Dc prog_1_method_8_code 12 (.ireturn) 1 13 := ⟨by decide +kernel, rfl⟩
theorem d_D_at_13 : Dc prog_1_method_8_code 13 (.iload_n 2) 1 14 := ⟨by decide +kernel, rfl⟩
theorem d_D_at_14 : Dc prog_1_method_8_code 14 (.tableswitch 72 0 3 #[30, 40, 49, 59]) 30 44 := ⟨by decide +kernel, rfl⟩
theorem d_D_at_44 : Dc prog_1_method_8_code 44 (.aload_n 0) 1 45 := ⟨by decide +kernel, rfl⟩
theorem d_D_at_45 : Dc prog_1_method_8_code 45 (.getfield 10) 3 48 := ⟨by decide +kernel, rfl⟩
theorem d_D_at_48 : Dc prog_1_method_8_code 48 (.getfield 129) 3 51 := ⟨by decide +kernel, rfl⟩
theorem d_D_at_51 : Dc prog_1_method_8_code 51 (.iload_n 1) 1 52 := ⟨by decide +kernel, rfl⟩
theorem d_D_at_52 : Dc prog_1_method_8_code 52 (.iaload) 1 53 := ⟨by decide +kernel, rfl⟩
theorem d_D_at_53 : Dc prog_1_method_8_code 53 (.ireturn) 1 54 := ⟨by decide +kernel, rfl⟩
theorem d_D_at_54 : Dc prog_1_method_8_code 54 (.aload_n 0) 1 55 := ⟨by decide +kernel, rfl⟩
theorem d_D_at_55 : Dc prog_1_method_8_code 55 (.getfield 10) 3 58 := ⟨by decide +kernel, rfl⟩
theorem d_D_at_58 : Dc prog_1_method_8_code 58 (.iload_n 1) 1 59 := ⟨by decide +kernel, rfl⟩
theorem d_D_at_59 : Dc prog_1_method_8_code 59 (.invokevirtual 132) 3 62 := ⟨by decide +kernel, rfl⟩
theorem d_D_at_62 : Dc prog_1_method_8_code 62 (.ireturn) 1 63 := ⟨by decide +kernel, rfl⟩
theorem d_D_at_63 : Dc prog_1_method_8_code 63 (.aload_n 0) 1 64 := ⟨by decide +kernel, rfl⟩
theorem d_D_at_64 : Dc prog_1_method_8_code 64 (.getfield 10) 3 67 := ⟨by decide +kernel, rfl⟩
theorem d_D_at_67 : Dc prog_1_method_8_code 67 (.getfield 135) 3 70 := ⟨by decide +kernel, rfl⟩
theorem d_D_at_70 : Dc prog_1_method_8_code 70 (.iload_n 1) 1 71 := ⟨by decide +kernel, rfl⟩
theorem d_D_at_71 : Dc prog_1_method_8_code 71 (.iaload) 1 72 := ⟨by decide +kernel, rfl⟩
theorem d_D_at_72 : Dc prog_1_method_8_code 72 (.ireturn) 1 73 := ⟨by decide +kernel, rfl⟩
theorem d_D_at_73 : Dc prog_1_method_8_code 73 (.aload_n 0) 1 74 := ⟨by decide +kernel, rfl⟩
theorem d_D_at_74 : Dc prog_1_method_8_code 74 (.getfield 68) 3 77 := ⟨by decide +kernel, rfl⟩
theorem d_D_at_77 : Dc prog_1_method_8_code 77 (.aload_n 0) 1 78 := ⟨by decide +kernel, rfl⟩
theorem d_D_at_78 : Dc prog_1_method_8_code 78 (.getfield 10) 3 81 := ⟨by decide +kernel, rfl⟩
theorem d_D_at_81 : Dc prog_1_method_8_code 81 (.iload_n 1) 1 82 := ⟨by decide +kernel, rfl⟩
theorem d_D_at_82 : Dc prog_1_method_8_code 82 (.invokevirtual 138) 3 85 := ⟨by decide +kernel, rfl⟩
theorem d_D_at_85 : Dc prog_1_method_8_code 85 (.ireturn) 1 86 := ⟨by decide +kernel, rfl⟩
theorem d_D_at_86 : Dc prog_1_method_8_code 86 (.iconst (-1)) 1 87 := ⟨by decide +kernel, rfl⟩
theorem d_D_at_87 : Dc prog_1_method_8_code 87 (.ireturn) 1 88 := ⟨by decide +kernel, rfl⟩
theorem d_D_symmetries_0 : Dc prog_1_method_34_code 0 (.aload_n 0) 1 1 := ⟨by decide +kernel, rfl⟩
theorem d_D_symmetries_1 : Dc prog_1_method_34_code 1 (.getfield 68) 3 4 := ⟨by decide +kernel, rfl⟩
theorem d_D_symmetries_4 : Dc prog_1_method_34_code 4 (.aload_n 0) 1 5 := ⟨by decide +kernel, rfl⟩
theorem d_D_symmetries_5 : Dc prog_1_method_34_code 5 (.getfield 10) 3 8 := ⟨by decide +kernel, rfl⟩
theorem d_D_symmetries_8 : Dc prog_1_method_34_code 8 (.invokevirtual 282) 3 11 := ⟨by decide +kernel, rfl⟩
theorem d_D_symmetries_11 : Dc prog_1_method_34_code 11 (.aload_n 0) 1 12 := ⟨by decide +kernel, rfl⟩
theorem d_D_symmetries_12 : Dc prog_1_method_34_code 12 (.getfield 68) 3 15 := ⟨by decide +kernel, rfl⟩
theorem d_D_symmetries_15 : Dc prog_1_method_34_code 15 (.getfield 294) 3 18 := ⟨by decide +kernel, rfl⟩
theorem d_D_symmetries_18 : Dc prog_1_method_34_code 18 (.ireturn) 1 19 := ⟨by decide +kernel, rfl⟩
theorem d_Li_canStandFor_0 : Dc prog_6_method_6_code 0 (.aload_n 1) 1 1 := ⟨by decide +kernel, rfl⟩
theorem d_Li_canStandFor_1 : Dc prog_6_method_6_code 1 (.getfield 36) 3 4 := ⟨by decide +kernel, rfl⟩
theorem d_Li_canStandFor_4 : Dc prog_6_method_6_code 4 (.iload_n 2) 1 5 := ⟨by decide +kernel, rfl⟩
theorem d_Li_canStandFor_5 : Dc prog_6_method_6_code 5 (.iaload) 1 6 := ⟨by decide +kernel, rfl⟩
theorem d_Li_canStandFor_6 : Dc prog_6_method_6_code 6 (.aload_n 1) 1 7 := ⟨by decide +kernel, rfl⟩
theorem d_Li_canStandFor_7 : Dc prog_6_method_6_code 7 (.getfield 36) 3 10 := ⟨by decide +kernel, rfl⟩
theorem d_Li_canStandFor_10 : Dc prog_6_method_6_code 10 (.iload_n 3) 1 11 := ⟨by decide +kernel, rfl⟩
theorem d_Li_canStandFor_11 : Dc prog_6_method_6_code 11 (.iaload) 1 12 := ⟨by decide +kernel, rfl⟩
theorem d_Li_canStandFor_12 : Dj prog_6_method_6_code 12 (.if_icmp .eq 5) 15 5 17 := ⟨by decide +kernel, rfl, rfl⟩
theorem d_Li_canStandFor_15 : Dc prog_6_method_6_code 15 (.iconst 0) 1 16 := ⟨by decide +kernel, rfl⟩
theorem d_Li_canStandFor_16 : Dc prog_6_method_6_code 16 (.ireturn) 1 17 := ⟨by decide +kernel, rfl⟩
theorem d_Li_canStandFor_17 : Dc prog_6_method_6_code 17 (.iconst 0) 1 18 := ⟨by decide +kernel, rfl⟩
theorem d_Li_canStandFor_18 : Dc prog_6_method_6_code 18 (.istore 4) 2 20 := ⟨by decide +kernel, rfl⟩
theorem d_Li_canStandFor_20 : Dc prog_6_method_6_code 20 (.iload 4) 2 22 := ⟨by decide +kernel, rfl⟩
theorem d_Li_canStandFor_22 : Dc prog_6_method_6_code 22 (.iload_n 3) 1 23 := ⟨by decide +kernel, rfl⟩
theorem d_Li_canStandFor_23 : Dj prog_6_method_6_code 23 (.if_icmp .ge 41) 26 41 64 := ⟨by decide +kernel, rfl, rfl⟩
theorem d_Li_canStandFor_26 : Dc prog_6_method_6_code 26 (.aload_n 1) 1 27 := ⟨by decide +kernel, rfl⟩
theorem d_Li_canStandFor_27 : Dc prog_6_method_6_code 27 (.getfield 33) 3 30 := ⟨by decide +kernel, rfl⟩
theorem d_Li_canStandFor_30 : Dc prog_6_method_6_code 30 (.iload_n 2) 1 31 := ⟨by decide +kernel, rfl⟩
theorem d_Li_canStandFor_31 : Dc prog_6_method_6_code 31 (.iaload) 1 32 := ⟨by decide +kernel, rfl⟩
theorem d_Li_canStandFor_32 : Dc prog_6_method_6_code 32 (.aload_n 0) 1 33 := ⟨by decide +kernel, rfl⟩
theorem d_Li_canStandFor_33 : Dc prog_6_method_6_code 33 (.getfield 15) 3 36 := ⟨by decide +kernel, rfl⟩
theorem d_Li_canStandFor_36 : Dc prog_6_method_6_code 36 (.iload 4) 2 38 := ⟨by decide +kernel, rfl⟩
theorem d_Li_canStandFor_38 : Dc prog_6_method_6_code 38 (.iaload) 1 39 := ⟨by decide +kernel, rfl⟩
theorem d_Li_canStandFor_39 : Dc prog_6_method_6_code 39 (.ishr) 1 40 := ⟨by decide +kernel, rfl⟩
theorem d_Li_canStandFor_40 : Dc prog_6_method_6_code 40 (.iconst 1) 1 41 := ⟨by decide +kernel, rfl⟩
theorem d_Li_canStandFor_41 : Dc prog_6_method_6_code 41 (.iand) 1 42 := ⟨by decide +kernel, rfl⟩
theorem d_Li_canStandFor_42 : Dc prog_6_method_6_code 42 (.aload_n 1) 1 43 := ⟨by decide +kernel, rfl⟩
theorem d_Li_canStandFor_43 : Dc prog_6_method_6_code 43 (.getfield 33) 3 46 := ⟨by decide +kernel, rfl⟩
theorem d_Li_canStandFor_46 : Dc prog_6_method_6_code 46 (.iload_n 3) 1 47 := ⟨by decide +kernel, rfl⟩
theorem d_Li_canStandFor_47 : Dc prog_6_method_6_code 47 (.iaload) 1 48 := ⟨by decide +kernel, rfl⟩
theorem d_Li_canStandFor_48 : Dc prog_6_method_6_code 48 (.iload 4) 2 50 := ⟨by decide +kernel, rfl⟩
theorem d_Li_canStandFor_50 : Dc prog_6_method_6_code 50 (.ishr) 1 51 := ⟨by decide +kernel, rfl⟩
theorem d_Li_canStandFor_51 : Dc prog_6_method_6_code 51 (.iconst 1) 1 52 := ⟨by decide +kernel, rfl⟩
theorem d_Li_canStandFor_52 : Dc prog_6_method_6_code 52 (.iand) 1 53 := ⟨by decide +kernel, rfl⟩
theorem d_Li_canStandFor_53 : Dj prog_6_method_6_code 53 (.if_icmp .eq 5) 56 5 58 := ⟨by decide +kernel, rfl, rfl⟩
theorem d_Li_canStandFor_56 : Dc prog_6_method_6_code 56 (.iconst 0) 1 57 := ⟨by decide +kernel, rfl⟩
theorem d_Li_canStandFor_57 : Dc prog_6_method_6_code 57 (.ireturn) 1 58 := ⟨by decide +kernel, rfl⟩
theorem d_Li_canStandFor_58 : Dc prog_6_method_6_code 58 (.iinc 4 1) 3 61 := ⟨by decide +kernel, rfl⟩
theorem d_Li_canStandFor_61 : Dj prog_6_method_6_code 61 (.goto (-41)) 64 (-41) 20 := ⟨by decide +kernel, rfl, rfl⟩
theorem d_Li_canStandFor_64 : Dc prog_6_method_6_code 64 (.iconst 1) 1 65 := ⟨by decide +kernel, rfl⟩
theorem d_Li_canStandFor_65 : Dc prog_6_method_6_code 65 (.ireturn) 1 66 := ⟨by decide +kernel, rfl⟩
theorem d_Li_extend_0 : Dc prog_6_method_4_code 0 (.iload_n 2) 1 1 := ⟨by decide +kernel, rfl⟩
theorem d_Li_extend_1 : Dc prog_6_method_4_code 1 (.aload_n 0) 1 2 := ⟨by decide +kernel, rfl⟩
theorem d_Li_extend_2 : Dc prog_6_method_4_code 2 (.getfield 42) 3 5 := ⟨by decide +kernel, rfl⟩
theorem d_Li_extend_5 : Dj prog_6_method_4_code 5 (.if_icmp .lt 10) 8 10 15 := ⟨by decide +kernel, rfl, rfl⟩
theorem d_Li_extend_8 : Dc prog_6_method_4_code 8 (.aload_n 0) 1 9 := ⟨by decide +kernel, rfl⟩
theorem d_Li_extend_9 : Dc prog_6_method_4_code 9 (.invokevirtual 47) 3 12 := ⟨by decide +kernel, rfl⟩
theorem d_Li_extend_12 : Dj prog_6_method_4_code 12 (.goto 10) 15 10 22 := ⟨by decide +kernel, rfl, rfl⟩
theorem d_Li_extend_15 : Dc prog_6_method_4_code 15 (.aload_n 0) 1 16 := ⟨by decide +kernel, rfl⟩
theorem d_Li_extend_16 : Dc prog_6_method_4_code 16 (.aload_n 1) 1 17 := ⟨by decide +kernel, rfl⟩
theorem d_Li_extend_17 : Dc prog_6_method_4_code 17 (.iload_n 2) 1 18 := ⟨by decide +kernel, rfl⟩
theorem d_Li_extend_18 : Dc prog_6_method_4_code 18 (.iload_n 3) 1 19 := ⟨by decide +kernel, rfl⟩
theorem d_Li_extend_19 : Dc prog_6_method_4_code 19 (.invokevirtual 50) 3 22 := ⟨by decide +kernel, rfl⟩
theorem d_Li_extend_22 : Dc prog_6_method_4_code 22 (.return_) 1 23 := ⟨by decide +kernel, rfl⟩
theorem d_Li_findSymmetries_0 : Dc prog_6_method_3_code 0 (.aload_n 0) 1 1 := ⟨by decide +kernel, rfl⟩
theorem d_Li_findSymmetries_1 : Dc prog_6_method_3_code 1 (.iconst 0) 1 2 := ⟨by decide +kernel, rfl⟩
theorem d_Li_findSymmetries_2 : Dc prog_6_method_3_code 2 (.putfield 39) 3 5 := ⟨by decide +kernel, rfl⟩
theorem d_Li_findSymmetries_5 : Dc prog_6_method_3_code 5 (.aload_n 0) 1 6 := ⟨by decide +kernel, rfl⟩
theorem d_Li_findSymmetries_6 : Dc prog_6_method_3_code 6 (.aload_n 1) 1 7 := ⟨by decide +kernel, rfl⟩
theorem d_Li_findSymmetries_7 : Dc prog_6_method_3_code 7 (.getfield 27) 3 10 := ⟨by decide +kernel, rfl⟩
theorem d_Li_findSymmetries_10 : Dc prog_6_method_3_code 10 (.putfield 42) 3 13 := ⟨by decide +kernel, rfl⟩
theorem d_Li_findSymmetries_13 : Dc prog_6_method_3_code 13 (.aload_n 0) 1 14 := ⟨by decide +kernel, rfl⟩
theorem d_Li_findSymmetries_14 : Dc prog_6_method_3_code 14 (.aload_n 1) 1 15 := ⟨by decide +kernel, rfl⟩
theorem d_Li_findSymmetries_15 : Dc prog_6_method_3_code 15 (.iconst 0) 1 16 := ⟨by decide +kernel, rfl⟩
theorem d_Li_findSymmetries_16 : Dc prog_6_method_3_code 16 (.iconst 0) 1 17 := ⟨by decide +kernel, rfl⟩
theorem d_Li_findSymmetries_17 : Dc prog_6_method_3_code 17 (.invokevirtual 43) 3 20 := ⟨by decide +kernel, rfl⟩
theorem d_Li_findSymmetries_20 : Dc prog_6_method_3_code 20 (.return_) 1 21 := ⟨by decide +kernel, rfl⟩
theorem d_Li_keepTrial_0 : Dc prog_6_method_7_code 0 (.aload_n 0) 1 1 := ⟨by decide +kernel, rfl⟩
theorem d_Li_keepTrial_1 : Dc prog_6_method_7_code 1 (.getfield 39) 3 4 := ⟨by decide +kernel, rfl⟩
theorem d_Li_keepTrial_4 : Dc prog_6_method_7_code 4 (.bipush 120) 2 6 := ⟨by decide +kernel, rfl⟩
theorem d_Li_keepTrial_6 : Dj prog_6_method_7_code 6 (.if_icmp .ge 32) 9 32 38 := ⟨by decide +kernel, rfl, rfl⟩
theorem d_Li_keepTrial_9 : Dc prog_6_method_7_code 9 (.aload_n 0) 1 10 := ⟨by decide +kernel, rfl⟩
theorem d_Li_keepTrial_10 : Dc prog_6_method_7_code 10 (.getfield 15) 3 13 := ⟨by decide +kernel, rfl⟩
theorem d_Li_keepTrial_13 : Dc prog_6_method_7_code 13 (.iconst 0) 1 14 := ⟨by decide +kernel, rfl⟩
theorem d_Li_keepTrial_14 : Dc prog_6_method_7_code 14 (.aload_n 0) 1 15 := ⟨by decide +kernel, rfl⟩
theorem d_Li_keepTrial_15 : Dc prog_6_method_7_code 15 (.getfield 11) 3 18 := ⟨by decide +kernel, rfl⟩
theorem d_Li_keepTrial_18 : Dc prog_6_method_7_code 18 (.aload_n 0) 1 19 := ⟨by decide +kernel, rfl⟩
theorem d_Li_keepTrial_19 : Dc prog_6_method_7_code 19 (.getfield 39) 3 22 := ⟨by decide +kernel, rfl⟩
theorem d_Li_keepTrial_22 : Dc prog_6_method_7_code 22 (.iconst 5) 1 23 := ⟨by decide +kernel, rfl⟩
theorem d_Li_keepTrial_23 : Dc prog_6_method_7_code 23 (.imul) 1 24 := ⟨by decide +kernel, rfl⟩
theorem d_Li_keepTrial_24 : Dc prog_6_method_7_code 24 (.iconst 5) 1 25 := ⟨by decide +kernel, rfl⟩
theorem d_Li_keepTrial_25 : Dc prog_6_method_7_code 25 (.invokestatic 57) 3 28 := ⟨by decide +kernel, rfl⟩
theorem d_Li_keepTrial_28 : Dc prog_6_method_7_code 28 (.aload_n 0) 1 29 := ⟨by decide +kernel, rfl⟩
theorem d_Li_keepTrial_29 : Dc prog_6_method_7_code 29 (.dup) 1 30 := ⟨by decide +kernel, rfl⟩
theorem d_Li_keepTrial_30 : Dc prog_6_method_7_code 30 (.getfield 39) 3 33 := ⟨by decide +kernel, rfl⟩
theorem d_Li_keepTrial_33 : Dc prog_6_method_7_code 33 (.iconst 1) 1 34 := ⟨by decide +kernel, rfl⟩
theorem d_Li_keepTrial_34 : Dc prog_6_method_7_code 34 (.iadd) 1 35 := ⟨by decide +kernel, rfl⟩
theorem d_Li_keepTrial_35 : Dc prog_6_method_7_code 35 (.putfield 39) 3 38 := ⟨by decide +kernel, rfl⟩
theorem d_Li_keepTrial_38 : Dc prog_6_method_7_code 38 (.return_) 1 39 := ⟨by decide +kernel, rfl⟩
theorem d_Li_tryAll_0 : Dc prog_6_method_5_code 0 (.iconst 0) 1 1 := ⟨by decide +kernel, rfl⟩
theorem d_Li_tryAll_1 : Dc prog_6_method_5_code 1 (.istore 4) 2 3 := ⟨by decide +kernel, rfl⟩
theorem d_Li_tryAll_3 : Dc prog_6_method_5_code 3 (.iload 4) 2 5 := ⟨by decide +kernel, rfl⟩
theorem d_Li_tryAll_5 : Dc prog_6_method_5_code 5 (.aload_n 0) 1 6 := ⟨by decide +kernel, rfl⟩
theorem d_Li_tryAll_6 : Dc prog_6_method_5_code 6 (.getfield 42) 3 9 := ⟨by decide +kernel, rfl⟩
theorem d_Li_tryAll_9 : Dj prog_6_method_5_code 9 (.if_icmp .ge 51) 12 51 60 := ⟨by decide +kernel, rfl, rfl⟩
theorem d_Li_tryAll_12 : Dc prog_6_method_5_code 12 (.iload_n 3) 1 13 := ⟨by decide +kernel, rfl⟩
theorem d_Li_tryAll_13 : Dc prog_6_method_5_code 13 (.iload 4) 2 15 := ⟨by decide +kernel, rfl⟩
theorem d_Li_tryAll_15 : Dc prog_6_method_5_code 15 (.ishr) 1 16 := ⟨by decide +kernel, rfl⟩
theorem d_Li_tryAll_16 : Dc prog_6_method_5_code 16 (.iconst 1) 1 17 := ⟨by decide +kernel, rfl⟩
theorem d_Li_tryAll_17 : Dc prog_6_method_5_code 17 (.iand) 1 18 := ⟨by decide +kernel, rfl⟩
theorem d_Li_tryAll_18 : Dj prog_6_method_5_code 18 (.ifCond .ne 36) 21 36 54 := ⟨by decide +kernel, rfl, rfl⟩
theorem d_Li_tryAll_21 : Dc prog_6_method_5_code 21 (.aload_n 0) 1 22 := ⟨by decide +kernel, rfl⟩
theorem d_Li_tryAll_22 : Dc prog_6_method_5_code 22 (.aload_n 1) 1 23 := ⟨by decide +kernel, rfl⟩
theorem d_Li_tryAll_23 : Dc prog_6_method_5_code 23 (.iload 4) 2 25 := ⟨by decide +kernel, rfl⟩
theorem d_Li_tryAll_25 : Dc prog_6_method_5_code 25 (.iload_n 2) 1 26 := ⟨by decide +kernel, rfl⟩
theorem d_Li_tryAll_26 : Dc prog_6_method_5_code 26 (.invokevirtual 53) 3 29 := ⟨by decide +kernel, rfl⟩
theorem d_Li_tryAll_29 : Dj prog_6_method_5_code 29 (.ifCond .eq 25) 32 25 54 := ⟨by decide +kernel, rfl, rfl⟩
theorem d_Li_tryAll_32 : Dc prog_6_method_5_code 32 (.aload_n 0) 1 33 := ⟨by decide +kernel, rfl⟩
theorem d_Li_tryAll_33 : Dc prog_6_method_5_code 33 (.getfield 15) 3 36 := ⟨by decide +kernel, rfl⟩
theorem d_Li_tryAll_36 : Dc prog_6_method_5_code 36 (.iload_n 2) 1 37 := ⟨by decide +kernel, rfl⟩
theorem d_Li_tryAll_37 : Dc prog_6_method_5_code 37 (.iload 4) 2 39 := ⟨by decide +kernel, rfl⟩
theorem d_Li_tryAll_39 : Dc prog_6_method_5_code 39 (.iastore) 1 40 := ⟨by decide +kernel, rfl⟩
theorem d_Li_tryAll_40 : Dc prog_6_method_5_code 40 (.aload_n 0) 1 41 := ⟨by decide +kernel, rfl⟩
theorem d_Li_tryAll_41 : Dc prog_6_method_5_code 41 (.aload_n 1) 1 42 := ⟨by decide +kernel, rfl⟩
theorem d_Li_tryAll_42 : Dc prog_6_method_5_code 42 (.iload_n 2) 1 43 := ⟨by decide +kernel, rfl⟩
theorem d_Li_tryAll_43 : Dc prog_6_method_5_code 43 (.iconst 1) 1 44 := ⟨by decide +kernel, rfl⟩
theorem d_Li_tryAll_44 : Dc prog_6_method_5_code 44 (.iadd) 1 45 := ⟨by decide +kernel, rfl⟩
theorem d_Li_tryAll_45 : Dc prog_6_method_5_code 45 (.iload_n 3) 1 46 := ⟨by decide +kernel, rfl⟩
theorem d_Li_tryAll_46 : Dc prog_6_method_5_code 46 (.iconst 1) 1 47 := ⟨by decide +kernel, rfl⟩
theorem d_Li_tryAll_47 : Dc prog_6_method_5_code 47 (.iload 4) 2 49 := ⟨by decide +kernel, rfl⟩
theorem d_Li_tryAll_49 : Dc prog_6_method_5_code 49 (.ishl) 1 50 := ⟨by decide +kernel, rfl⟩
theorem d_Li_tryAll_50 : Dc prog_6_method_5_code 50 (.ior) 1 51 := ⟨by decide +kernel, rfl⟩
theorem d_Li_tryAll_51 : Dc prog_6_method_5_code 51 (.invokevirtual 43) 3 54 := ⟨by decide +kernel, rfl⟩
theorem d_Li_tryAll_54 : Dc prog_6_method_5_code 54 (.iinc 4 1) 3 57 := ⟨by decide +kernel, rfl⟩
theorem d_Li_tryAll_57 : Dj prog_6_method_5_code 57 (.goto (-54)) 60 (-54) 3 := ⟨by decide +kernel, rfl, rfl⟩
theorem d_Li_tryAll_60 : Dc prog_6_method_5_code 60 (.return_) 1 61 := ⟨by decide +kernel, rfl⟩
theorem d_Li_twinsOf_0 : Dc prog_6_method_2_code 0 (.iconst 0) 1 1 := ⟨by decide +kernel, rfl⟩
theorem d_Li_twinsOf_1 : Dc prog_6_method_2_code 1 (.istore_n 3) 1 2 := ⟨by decide +kernel, rfl⟩
theorem d_Li_twinsOf_2 : Dc prog_6_method_2_code 2 (.iconst 0) 1 3 := ⟨by decide +kernel, rfl⟩
theorem d_Li_twinsOf_3 : Dc prog_6_method_2_code 3 (.istore 4) 2 5 := ⟨by decide +kernel, rfl⟩
theorem d_Li_twinsOf_5 : Dc prog_6_method_2_code 5 (.iload 4) 2 7 := ⟨by decide +kernel, rfl⟩
theorem d_Li_twinsOf_7 : Dc prog_6_method_2_code 7 (.aload_n 1) 1 8 := ⟨by decide +kernel, rfl⟩
theorem d_Li_twinsOf_8 : Dc prog_6_method_2_code 8 (.getfield 27) 3 11 := ⟨by decide +kernel, rfl⟩
theorem d_Li_twinsOf_11 : Dj prog_6_method_2_code 11 (.if_icmp .ge 84) 14 84 95 := ⟨by decide +kernel, rfl, rfl⟩
theorem d_Li_twinsOf_14 : Dc prog_6_method_2_code 14 (.iconst 1) 1 15 := ⟨by decide +kernel, rfl⟩
theorem d_Li_twinsOf_15 : Dc prog_6_method_2_code 15 (.iload 4) 2 17 := ⟨by decide +kernel, rfl⟩
theorem d_Li_twinsOf_17 : Dc prog_6_method_2_code 17 (.ishl) 1 18 := ⟨by decide +kernel, rfl⟩
theorem d_Li_twinsOf_18 : Dc prog_6_method_2_code 18 (.iconst 1) 1 19 := ⟨by decide +kernel, rfl⟩
theorem d_Li_twinsOf_19 : Dc prog_6_method_2_code 19 (.iload_n 2) 1 20 := ⟨by decide +kernel, rfl⟩
theorem d_Li_twinsOf_20 : Dc prog_6_method_2_code 20 (.ishl) 1 21 := ⟨by decide +kernel, rfl⟩
theorem d_Li_twinsOf_21 : Dc prog_6_method_2_code 21 (.ior) 1 22 := ⟨by decide +kernel, rfl⟩
theorem d_Li_twinsOf_22 : Dc prog_6_method_2_code 22 (.iconst (-1)) 1 23 := ⟨by decide +kernel, rfl⟩
theorem d_Li_twinsOf_23 : Dc prog_6_method_2_code 23 (.ixor) 1 24 := ⟨by decide +kernel, rfl⟩
theorem d_Li_twinsOf_24 : Dc prog_6_method_2_code 24 (.istore 5) 2 26 := ⟨by decide +kernel, rfl⟩
theorem d_Li_twinsOf_26 : Dc prog_6_method_2_code 26 (.aload_n 1) 1 27 := ⟨by decide +kernel, rfl⟩
theorem d_Li_twinsOf_27 : Dc prog_6_method_2_code 27 (.getfield 33) 3 30 := ⟨by decide +kernel, rfl⟩
theorem d_Li_twinsOf_30 : Dc prog_6_method_2_code 30 (.iload 4) 2 32 := ⟨by decide +kernel, rfl⟩
theorem d_Li_twinsOf_32 : Dc prog_6_method_2_code 32 (.iaload) 1 33 := ⟨by decide +kernel, rfl⟩
theorem d_Li_twinsOf_33 : Dc prog_6_method_2_code 33 (.iload 5) 2 35 := ⟨by decide +kernel, rfl⟩
theorem d_Li_twinsOf_35 : Dc prog_6_method_2_code 35 (.iand) 1 36 := ⟨by decide +kernel, rfl⟩
theorem d_Li_twinsOf_36 : Dc prog_6_method_2_code 36 (.aload_n 1) 1 37 := ⟨by decide +kernel, rfl⟩
theorem d_Li_twinsOf_37 : Dc prog_6_method_2_code 37 (.getfield 33) 3 40 := ⟨by decide +kernel, rfl⟩
theorem d_Li_twinsOf_40 : Dc prog_6_method_2_code 40 (.iload_n 2) 1 41 := ⟨by decide +kernel, rfl⟩
theorem d_Li_twinsOf_41 : Dc prog_6_method_2_code 41 (.iaload) 1 42 := ⟨by decide +kernel, rfl⟩
theorem d_Li_twinsOf_42 : Dc prog_6_method_2_code 42 (.iload 5) 2 44 := ⟨by decide +kernel, rfl⟩
theorem d_Li_twinsOf_44 : Dc prog_6_method_2_code 44 (.iand) 1 45 := ⟨by decide +kernel, rfl⟩
theorem d_Li_twinsOf_45 : Dj prog_6_method_2_code 45 (.if_icmp .ne 7) 48 7 52 := ⟨by decide +kernel, rfl, rfl⟩
theorem d_Li_twinsOf_48 : Dc prog_6_method_2_code 48 (.iconst 1) 1 49 := ⟨by decide +kernel, rfl⟩
theorem d_Li_twinsOf_49 : Dj prog_6_method_2_code 49 (.goto 4) 52 4 53 := ⟨by decide +kernel, rfl, rfl⟩
theorem d_Li_twinsOf_52 : Dc prog_6_method_2_code 52 (.iconst 0) 1 53 := ⟨by decide +kernel, rfl⟩
theorem d_Li_twinsOf_53 : Dc prog_6_method_2_code 53 (.istore 6) 2 55 := ⟨by decide +kernel, rfl⟩
theorem d_Li_twinsOf_55 : Dc prog_6_method_2_code 55 (.iload 4) 2 57 := ⟨by decide +kernel, rfl⟩
theorem d_Li_twinsOf_57 : Dc prog_6_method_2_code 57 (.iload_n 2) 1 58 := ⟨by decide +kernel, rfl⟩
theorem d_Li_twinsOf_58 : Dj prog_6_method_2_code 58 (.if_icmp .eq 31) 61 31 89 := ⟨by decide +kernel, rfl, rfl⟩
theorem d_Li_twinsOf_61 : Dc prog_6_method_2_code 61 (.aload_n 1) 1 62 := ⟨by decide +kernel, rfl⟩
theorem d_Li_twinsOf_62 : Dc prog_6_method_2_code 62 (.getfield 36) 3 65 := ⟨by decide +kernel, rfl⟩
theorem d_Li_twinsOf_65 : Dc prog_6_method_2_code 65 (.iload 4) 2 67 := ⟨by decide +kernel, rfl⟩
theorem d_Li_twinsOf_67 : Dc prog_6_method_2_code 67 (.iaload) 1 68 := ⟨by decide +kernel, rfl⟩
theorem d_Li_twinsOf_68 : Dc prog_6_method_2_code 68 (.aload_n 1) 1 69 := ⟨by decide +kernel, rfl⟩
theorem d_Li_twinsOf_69 : Dc prog_6_method_2_code 69 (.getfield 36) 3 72 := ⟨by decide +kernel, rfl⟩
theorem d_Li_twinsOf_72 : Dc prog_6_method_2_code 72 (.iload_n 2) 1 73 := ⟨by decide +kernel, rfl⟩
theorem d_Li_twinsOf_73 : Dc prog_6_method_2_code 73 (.iaload) 1 74 := ⟨by decide +kernel, rfl⟩
theorem d_Li_twinsOf_74 : Dj prog_6_method_2_code 74 (.if_icmp .ne 15) 77 15 89 := ⟨by decide +kernel, rfl, rfl⟩
theorem d_Li_twinsOf_77 : Dc prog_6_method_2_code 77 (.iload 6) 2 79 := ⟨by decide +kernel, rfl⟩
theorem d_Li_twinsOf_79 : Dj prog_6_method_2_code 79 (.ifCond .eq 10) 82 10 89 := ⟨by decide +kernel, rfl, rfl⟩
theorem d_Li_twinsOf_82 : Dc prog_6_method_2_code 82 (.iload_n 3) 1 83 := ⟨by decide +kernel, rfl⟩
theorem d_Li_twinsOf_83 : Dc prog_6_method_2_code 83 (.iconst 1) 1 84 := ⟨by decide +kernel, rfl⟩
theorem d_Li_twinsOf_84 : Dc prog_6_method_2_code 84 (.iload 4) 2 86 := ⟨by decide +kernel, rfl⟩
theorem d_Li_twinsOf_86 : Dc prog_6_method_2_code 86 (.ishl) 1 87 := ⟨by decide +kernel, rfl⟩
theorem d_Li_twinsOf_87 : Dc prog_6_method_2_code 87 (.ior) 1 88 := ⟨by decide +kernel, rfl⟩
theorem d_Li_twinsOf_88 : Dc prog_6_method_2_code 88 (.istore_n 3) 1 89 := ⟨by decide +kernel, rfl⟩
theorem d_Li_twinsOf_89 : Dc prog_6_method_2_code 89 (.iinc 4 1) 3 92 := ⟨by decide +kernel, rfl⟩
theorem d_Li_twinsOf_92 : Dj prog_6_method_2_code 92 (.goto (-87)) 95 (-87) 5 := ⟨by decide +kernel, rfl, rfl⟩
theorem d_Li_twinsOf_95 : Dc prog_6_method_2_code 95 (.iload_n 3) 1 96 := ⟨by decide +kernel, rfl⟩
theorem d_Li_twinsOf_96 : Dc prog_6_method_2_code 96 (.ireturn) 1 97 := ⟨by decide +kernel, rfl⟩
theorem fl_D_68 : FL "SubgraphDesk" 68 0 9 true (.object "SubgraphDesk$Likeness") (3, 47) := ⟨R_D, F_D, 15, ty_D, rfl, rfl, in_D, tyok_D, nm_D, by decide, gd 563 (by decide +kernel) rfl, rfl, rfl, rfl⟩
theorem fl_D_129 : FL "SubgraphDesk" 129 2 6 true (.array .int) (3, 4) := ⟨R_Bo, F_Bo, 15, ty_Bo, rfl, rfl, in_Bo, tyok_Bo, nm_Bo, by decide, gd 208 (by decide +kernel) rfl, rfl, rfl, rfl⟩
theorem fl_D_135 : FL "SubgraphDesk" 135 2 7 true (.array .int) (3, 5) := ⟨R_Bo, F_Bo, 15, ty_Bo, rfl, rfl, in_Bo, tyok_Bo, nm_Bo, by decide, gd 216 (by decide +kernel) rfl, rfl, rfl, rfl⟩
theorem fl_D_294 : FL "SubgraphDesk" 294 5 2 false .int (0, 0) := ⟨R_Li, F_Li, 7, ty_Li, rfl, rfl, in_Li, tyok_Li, nm_Li, by decide, gd 490 (by decide +kernel) rfl, rfl, rfl, rfl⟩
theorem fl_Li_11 : FL "SubgraphDesk$Likeness" 11 5 0 true (.array .int) (3, 1) := ⟨R_Li, F_Li, 7, ty_Li, rfl, rfl, in_Li, tyok_Li, nm_Li, by decide, gd 487 (by decide +kernel) rfl, rfl, rfl, rfl⟩
theorem fl_Li_15 : FL "SubgraphDesk$Likeness" 15 5 1 true (.array .int) (3, 2) := ⟨R_Li, F_Li, 7, ty_Li, rfl, rfl, in_Li, tyok_Li, nm_Li, by decide, gd 488 (by decide +kernel) rfl, rfl, rfl, rfl⟩
theorem fl_Li_27 : FL "SubgraphDesk$Likeness" 27 2 5 false .int (0, 0) := ⟨R_Bo, F_Bo, 15, ty_Bo, rfl, rfl, in_Bo, tyok_Bo, nm_Bo, by decide, gd 199 (by decide +kernel) rfl, rfl, rfl, rfl⟩
theorem fl_Li_33 : FL "SubgraphDesk$Likeness" 33 2 7 true (.array .int) (3, 5) := ⟨R_Bo, F_Bo, 15, ty_Bo, rfl, rfl, in_Bo, tyok_Bo, nm_Bo, by decide, gd 211 (by decide +kernel) rfl, rfl, rfl, rfl⟩
theorem fl_Li_36 : FL "SubgraphDesk$Likeness" 36 2 6 true (.array .int) (3, 4) := ⟨R_Bo, F_Bo, 15, ty_Bo, rfl, rfl, in_Bo, tyok_Bo, nm_Bo, by decide, gd 206 (by decide +kernel) rfl, rfl, rfl, rfl⟩
theorem fl_Li_39 : FL "SubgraphDesk$Likeness" 39 5 2 false .int (0, 0) := ⟨R_Li, F_Li, 7, ty_Li, rfl, rfl, in_Li, tyok_Li, nm_Li, by decide, gd 489 (by decide +kernel) rfl, rfl, rfl, rfl⟩
theorem fl_Li_42 : FL "SubgraphDesk$Likeness" 42 5 3 false .int (0, 0) := ⟨R_Li, F_Li, 7, ty_Li, rfl, rfl, in_Li, tyok_Li, nm_Li, by decide, gd 491 (by decide +kernel) rfl, rfl, rfl, rfl⟩
theorem ml_D_132 : Cond.methodLink "SubgraphDesk" 132 m_Bo_linksOf.1 ∈ lw_gd := gd 655 (by decide +kernel) rfl
theorem ml_D_138 : Cond.methodLink "SubgraphDesk" 138 m_Li_twinsOf.1 ∈ lw_gd := gd 660 (by decide +kernel) rfl
theorem ml_D_282 : Cond.methodLink "SubgraphDesk" 282 m_Li_findSymmetries.1 ∈ lw_gd := gd 1193 (by decide +kernel) rfl
theorem ml_Li_43 : Cond.methodLink "SubgraphDesk$Likeness" 43 m_Li_extend.1 ∈ lw_gd := gd 1197 (by decide +kernel) rfl
theorem ml_Li_47 : Cond.methodLink "SubgraphDesk$Likeness" 47 m_Li_keepTrial.1 ∈ lw_gd := gd 1201 (by decide +kernel) rfl
theorem ml_Li_50 : Cond.methodLink "SubgraphDesk$Likeness" 50 m_Li_tryAll.1 ∈ lw_gd := gd 1206 (by decide +kernel) rfl
theorem ml_Li_53 : Cond.methodLink "SubgraphDesk$Likeness" 53 m_Li_canStandFor.1 ∈ lw_gd := gd 1210 (by decide +kernel) rfl
theorem ml_Li_57 : Cond.methodLink "SubgraphDesk$Likeness" 57 m_JSystem_arraycopy.1 ∈ lw_gd := gd 1205 (by decide +kernel) rfl
/-! ===== symmetries, twins ===== -/
def stdN (g : GC) (q : List Nat) (v u : Nat) : Nat → Bool
  | 0 => decide (gY g u = gY g v)
  | k + 1 => stdN g q v u k && ((gK g u).testBit (gA q k) == (gK g v).testBit k)
theorem turn_std {g : GC} {q : List Nat} {v u : Nat} : ∀ k, turnN g q v u k = true ↔ stdN g q v u k = true ∧ ∀ j, j < k → gA q j ≠ u
  | 0 => by
    unfold turnN stdN
    rw [decide_eq_true_iff, decide_eq_true_iff]
    exact ⟨fun h => ⟨h.symm, fun j hj => absurd hj (Nat.not_lt_zero _)⟩, fun h => h.1.symm⟩
  | k + 1 => by
    unfold turnN stdN
    rw [Bool.and_eq_true, Bool.and_eq_true, Bool.and_eq_true, turn_std k, beq_iff_eq, beq_iff_eq, Bool.not_eq_true', decide_eq_false_iff_not]
    constructor
    · rintro ⟨⟨h1, h2⟩, h3, h4⟩
      refine ⟨⟨h1, h4.symm⟩, fun j hj => ?_⟩
      by_cases e : j = k
      · rw [e]; exact h3
      · exact h2 j (by omega)
    · rintro ⟨⟨h1, h4⟩, h2⟩
      exact ⟨⟨h1, fun j hj => h2 j (by omega)⟩, h2 k (Nat.lt_succ_self k), h4.symm⟩
theorem std_no {g : GC} {q : List Nat} {v u k : Nat} (h : ¬ stdN g q v u k = true) : ∀ m, k ≤ m → ¬ stdN g q v u m = true
  | 0, hm => by
    obtain rfl : k = 0 := by omega
    exact h
  | m + 1, hm => by
    by_cases e : k = m + 1
    · rw [← e]; exact h
    · unfold stdN
      rw [Bool.eq_false_iff.mpr (std_no h m (by omega)), Bool.false_and]
      decide
/-- the symmetries that are kept so far -/
def SymP (w : Mem) (ts : List (List Nat)) : Prop := rI w 47 2 = nI ts.length ∧ ∀ (k : Nat) (q : List Nat), ts[k]? = some q → ∀ u, u < q.length → rI w 48 (k * 5 + u) = nI (gA q u)
def TriD (w : Mem) (q : List Nat) : Prop := ∀ u, u < q.length → rI w 49 u = nI (gA q u)
def FrSy (w w2 : Mem) : Prop := (∀ a, a ≠ 47 → a ≠ 48 → a ≠ 49 → rI w2 a = rI w a) ∧ (∀ k, k ≠ 2 → rI w2 47 k = rI w 47 k) ∧ w2.2 = w.2
theorem FrSy.rf (w : Mem) : FrSy w w := ⟨fun _ _ _ _ => rfl, fun _ _ => rfl, rfl⟩
theorem FrSy.tr {a b c : Mem} (h : FrSy a b) (h2 : FrSy b c) : FrSy a c := ⟨fun x h3 h4 h5 => (h2.1 x h3 h4 h5).trans (h.1 x h3 h4 h5), fun k hk => (h2.2.1 k hk).trans (h.2.1 k hk), h2.2.2.trans h.2.2⟩
theorem FrSy.T (w : Mem) (k : Nat) (x : Int32) : FrSy w (sI w 49 k x) := ⟨fun a _ _ h => by rw [rI_sI_ne _ _ _ h], fun _ _ => by rw [rI_sI_ne _ _ _ (by decide)], rfl⟩
theorem BRow.sy {w w2 : Mem} {g : GC} (h : BRow w 1 g) (f : FrSy w w2) : BRow w2 1 g := h.fr (fun a h1 h2 => f.1 a (by omega) (by omega) (by omega))
theorem FrSy.Q {w w2 : Mem} (h : FrSy w w2) : DkQ w w2 := ⟨fun a ha => h.1 a (by omega) (by omega) (by omega), fun a _ => by unfold rJ; rw [h.2.2], KpR.of2 h.2.2⟩
theorem SymP.snoc {w : Mem} {ts : List (List Nat)} {q : List Nat} (h : SymP w ts) (ht : TriD w q) (hq : q.length ≤ 5) (hts : ∀ x ∈ ts, x.length ≤ 5) : SymP (sI (sA w 48 (va_cpy (rI w 49) (rI w 48) 0 (ts.length * 5) 5)) 47 2 (nI (ts.length + 1))) (ts ++ [q]) := by
  refine ⟨by rw [rI_sI, upd_eq, if_pos rfl, List.length_append]; rfl, fun k x hx u hu => ?_⟩
  rw [rI_sI_ne _ _ _ (by decide), rI_sA]
  unfold va_cpy
  by_cases hk : k < ts.length
  · rw [List.getElem?_append_left hk] at hx
    have := hts x (List.mem_of_getElem? hx)
    rw [if_neg (by omega)]
    exact h.2 k x hx u hu
  · have hk2 := (List.getElem?_eq_some_iff.mp hx).1
    rw [List.length_append, List.length_singleton] at hk2
    obtain rfl : k = ts.length := by omega
    rw [List.getElem?_append_right (Nat.le_refl _), Nat.sub_self] at hx
    obtain rfl := Option.some.inj hx
    rw [if_pos (by omega), show 0 + (ts.length * 5 + u - ts.length * 5) = u by omega]
    exact ht u hu
theorem c_Li_twinsOf {E : EV} {w : Mem} {g : GC} {v : Nat} (hR : BRow w 1 g) (hW : WG g) (hv : v < gV g) : T E m_Li_twinsOf 0 0 0 [.ref 47, .ref 1, .int (nI v)] w (Ret (some (.int (nI (twins g v)))) w) := by
  refine T_of (L := [.ref 47, .ref 1, .int (nI v), un, un, un, un]) cf_Li_twinsOf rfl (Nat.le_of_ble_eq_true rfl) (fun X hX hF => ?_)
  have hgv := hW.v
  have hyv := hW.y v hv
  have hkv := hW.k32 hv
  have lp : ∀ (fuel : Nat) (u : Nat), gV g - u < fuel → (u ≤ gV g) → (((List.range u).foldl (twinS g v) 0) < 2 ^ 12) → G0 E X 0 0 5 [.ref 47, .ref 1, .int (nI v), .int (nI ((List.range u).foldl (twinS g v) 0)), .int (nI u), un, un] [] w := by
    intro fuel
    induction fuel with
    | zero => intro u q0; exact absurd q0 (Nat.not_lt_zero _)
    | succ fuel ih =>
      intro u q0 q1 q2
      refine g_iload4 hX d_Li_twinsOf_5 ?_
      refine g_aload1 hX d_Li_twinsOf_7 ?_
      refine g_getI hX d_Li_twinsOf_8 fl_Li_27 (lv_1 _) ?_
      refine g_topi hR.v ?_
      refine g_icmpN_ge hX d_Li_twinsOf_11 (by omega) (by omega) (fun e11 => ?_) (fun e11 => ?_)
      · refine g_iload3 hX d_Li_twinsOf_95 ?_
        refine g_iret hX hF d_Li_twinsOf_96 (by omega) (by omega) ?_
        obtain rfl : u = gV g := by omega
        exact ⟨rfl, rfl⟩
      · have hyu := hW.y u e11
        have hku := hW.k32 e11
        refine g_iconst (v := nI 1) hX d_Li_twinsOf_14 rfl ?_
        refine g_iload4 hX d_Li_twinsOf_15 ?_
        refine g_ishlN hX d_Li_twinsOf_17 (by omega) ?_
        refine g_iconst (v := nI 1) hX d_Li_twinsOf_18 rfl ?_
        refine g_iload2 hX d_Li_twinsOf_19 ?_
        refine g_ishlN hX d_Li_twinsOf_20 (by omega) ?_
        refine g_iorN hX d_Li_twinsOf_21 ?_
        refine g_iconst (v := -1) hX d_Li_twinsOf_22 rfl ?_
        refine g_ixor hX d_Li_twinsOf_23 ?_
        refine g_istore5 hX d_Li_twinsOf_24 rfl (by decide) ?_
        refine g_aload1 hX d_Li_twinsOf_26 ?_
        refine g_getF hX d_Li_twinsOf_27 fl_Li_33 (lv_1 _) ?_
        refine g_iload4 hX d_Li_twinsOf_30 ?_
        refine g_iald hX d_Li_twinsOf_32 (lv_6 _) rfl (by omega) ?_
        refine g_topi (hR.k u e11) ?_
        refine g_iload5 hX d_Li_twinsOf_33 ?_
        refine g_iandX hX d_Li_twinsOf_35 ?_
        refine g_aload1 hX d_Li_twinsOf_36 ?_
        refine g_getF hX d_Li_twinsOf_37 fl_Li_33 (lv_1 _) ?_
        refine g_iload2 hX d_Li_twinsOf_40 ?_
        refine g_iald hX d_Li_twinsOf_41 (lv_6 _) rfl (by omega) ?_
        refine g_topi (hR.k v hv) ?_
        refine g_iload5 hX d_Li_twinsOf_42 ?_
        refine g_iandX hX d_Li_twinsOf_44 ?_
        refine g_icmpN_ne hX d_Li_twinsOf_45 (by have := sd_le (gK g u) (1 <<< u ||| 1 <<< v); omega) (by have := sd_le (gK g v) (1 <<< u ||| 1 <<< v); omega) (fun e45 => ?_) (fun e45 => ?_)
        · refine g_iconst (v := nI 0) hX d_Li_twinsOf_52 rfl ?_
          refine g_istore6 hX d_Li_twinsOf_53 rfl (by decide) ?_
          refine g_iload4 hX d_Li_twinsOf_55 ?_
          refine g_iload2 hX d_Li_twinsOf_57 ?_
          refine g_icmpN_eq hX d_Li_twinsOf_58 (by omega) (by omega) (fun e58 => ?_) (fun e58 => ?_)
          · refine g_iincN4 hX d_Li_twinsOf_89 rfl (by decide) ?_
            refine g_goto hX d_Li_twinsOf_92 ?_
            refine g_fget 5 ?_
            refine g_fget 6 ?_
            have hst : (List.range (u + 1)).foldl (twinS g v) 0 = ((List.range u).foldl (twinS g v) 0) := by rw [range_fold]; unfold twinS; rw [if_neg (fun z => z.1 e58), Nat.or_zero]
            rw [← hst]
            exact ih (u + 1) (by omega) (by omega) (by rw [hst]; exact q2)
          · refine g_aload1 hX d_Li_twinsOf_61 ?_
            refine g_getF hX d_Li_twinsOf_62 fl_Li_36 (lv_1 _) ?_
            refine g_iload4 hX d_Li_twinsOf_65 ?_
            refine g_iald hX d_Li_twinsOf_67 (lv_5 _) rfl (by omega) ?_
            refine g_topi (hR.y u e11) ?_
            refine g_aload1 hX d_Li_twinsOf_68 ?_
            refine g_getF hX d_Li_twinsOf_69 fl_Li_36 (lv_1 _) ?_
            refine g_iload2 hX d_Li_twinsOf_72 ?_
            refine g_iald hX d_Li_twinsOf_73 (lv_5 _) rfl (by omega) ?_
            refine g_topi (hR.y v hv) ?_
            refine g_icmpN_ne hX d_Li_twinsOf_74 (by omega) (by omega) (fun e74 => ?_) (fun e74 => ?_)
            · refine g_iincN4 hX d_Li_twinsOf_89 rfl (by decide) ?_
              refine g_goto hX d_Li_twinsOf_92 ?_
              refine g_fget 5 ?_
              refine g_fget 6 ?_
              have hst : (List.range (u + 1)).foldl (twinS g v) 0 = ((List.range u).foldl (twinS g v) 0) := by rw [range_fold]; unfold twinS; rw [if_neg (fun z => e74 z.2.1), Nat.or_zero]
              rw [← hst]
              exact ih (u + 1) (by omega) (by omega) (by rw [hst]; exact q2)
            · refine g_iload6 hX d_Li_twinsOf_77 ?_
              refine g_if_eq hX d_Li_twinsOf_79 (fun c4 => ?_) (fun h => absurd (by decide) h)
              refine g_iincN4 hX d_Li_twinsOf_89 rfl (by decide) ?_
              refine g_goto hX d_Li_twinsOf_92 ?_
              refine g_fget 5 ?_
              refine g_fget 6 ?_
              have hst : (List.range (u + 1)).foldl (twinS g v) 0 = ((List.range u).foldl (twinS g v) 0) := by rw [range_fold]; unfold twinS; rw [if_neg (fun z => e45 (by have := z.2.2; rwa [Nat.or_comm] at this)), Nat.or_zero]
              rw [← hst]
              exact ih (u + 1) (by omega) (by omega) (by rw [hst]; exact q2)
        · refine g_iconst (v := nI 1) hX d_Li_twinsOf_48 rfl ?_
          refine g_goto hX d_Li_twinsOf_49 ?_
          refine g_istore6 hX d_Li_twinsOf_53 rfl (by decide) ?_
          refine g_iload4 hX d_Li_twinsOf_55 ?_
          refine g_iload2 hX d_Li_twinsOf_57 ?_
          refine g_icmpN_eq hX d_Li_twinsOf_58 (by omega) (by omega) (fun e58 => ?_) (fun e58 => ?_)
          · refine g_iincN4 hX d_Li_twinsOf_89 rfl (by decide) ?_
            refine g_goto hX d_Li_twinsOf_92 ?_
            refine g_fget 5 ?_
            refine g_fget 6 ?_
            have hst : (List.range (u + 1)).foldl (twinS g v) 0 = ((List.range u).foldl (twinS g v) 0) := by rw [range_fold]; unfold twinS; rw [if_neg (fun z => z.1 e58), Nat.or_zero]
            rw [← hst]
            exact ih (u + 1) (by omega) (by omega) (by rw [hst]; exact q2)
          · refine g_aload1 hX d_Li_twinsOf_61 ?_
            refine g_getF hX d_Li_twinsOf_62 fl_Li_36 (lv_1 _) ?_
            refine g_iload4 hX d_Li_twinsOf_65 ?_
            refine g_iald hX d_Li_twinsOf_67 (lv_5 _) rfl (by omega) ?_
            refine g_topi (hR.y u e11) ?_
            refine g_aload1 hX d_Li_twinsOf_68 ?_
            refine g_getF hX d_Li_twinsOf_69 fl_Li_36 (lv_1 _) ?_
            refine g_iload2 hX d_Li_twinsOf_72 ?_
            refine g_iald hX d_Li_twinsOf_73 (lv_5 _) rfl (by omega) ?_
            refine g_topi (hR.y v hv) ?_
            refine g_icmpN_ne hX d_Li_twinsOf_74 (by omega) (by omega) (fun e74 => ?_) (fun e74 => ?_)
            · refine g_iincN4 hX d_Li_twinsOf_89 rfl (by decide) ?_
              refine g_goto hX d_Li_twinsOf_92 ?_
              refine g_fget 5 ?_
              refine g_fget 6 ?_
              have hst : (List.range (u + 1)).foldl (twinS g v) 0 = ((List.range u).foldl (twinS g v) 0) := by rw [range_fold]; unfold twinS; rw [if_neg (fun z => e74 z.2.1), Nat.or_zero]
              rw [← hst]
              exact ih (u + 1) (by omega) (by omega) (by rw [hst]; exact q2)
            · refine g_iload6 hX d_Li_twinsOf_77 ?_
              refine g_if_eq hX d_Li_twinsOf_79 (fun h => absurd h (by decide)) (fun c7 => ?_)
              refine g_iload3 hX d_Li_twinsOf_82 ?_
              refine g_iconst (v := nI 1) hX d_Li_twinsOf_83 rfl ?_
              refine g_iload4 hX d_Li_twinsOf_84 ?_
              refine g_ishlN hX d_Li_twinsOf_86 (by omega) ?_
              refine g_iorN hX d_Li_twinsOf_87 ?_
              refine g_istore3 hX d_Li_twinsOf_88 rfl (by decide) ?_
              refine g_iincN4 hX d_Li_twinsOf_89 rfl (by decide) ?_
              refine g_goto hX d_Li_twinsOf_92 ?_
              refine g_fget 5 ?_
              refine g_fget 6 ?_
              have hst : (List.range (u + 1)).foldl (twinS g v) 0 = ((List.range u).foldl (twinS g v) 0) ||| 1 <<< u := by rw [range_fold]; unfold twinS; rw [if_pos ⟨e58, e74, by rw [Nat.or_comm]; exact e45⟩]
              rw [← hst]
              exact ih (u + 1) (by omega) (by omega) (by rw [hst]; exact or_lt q2 (shl_lt (by omega)))
  refine g_iconst (v := nI 0) hX d_Li_twinsOf_0 rfl ?_
  refine g_istore3 hX d_Li_twinsOf_1 rfl (by decide) ?_
  refine g_iconst (v := nI 0) hX d_Li_twinsOf_2 rfl ?_
  refine g_istore4 hX d_Li_twinsOf_3 rfl (by decide) ?_
  exact lp (gV g + 1) 0 (by omega) (Nat.zero_le _) (show (0 : Nat) < 2 ^ 12 by decide)
theorem c_D_at {E : EV} {w : Mem} {x what : Int32} {s : SG} (h : DInv w s) : T E m_D_at 2 0 0 [.ref 0, .int x, .int what] w (fun r w2 => r = some (.int (opAt x what (sG s))) ∧ DInv w2 s ∧ DkD w w2) := by
  refine T_of (L := [.ref 0, .int x, .int what]) cf_D_at rfl (Nat.le_of_ble_eq_true rfl) (fun X hX hF => ?_)
  obtain ⟨⟨hR, hW, hA⟩, hL, hT, hI, hRF, ⟨hsm, hfa, hsp⟩, hdr, hfx⟩ := id h
  have hn := hW.n
  have hv := hW.v
  have he := hW.el
  have hll := hW.ll
  have hsl := hW.sl
  refine g_aload0 hX d_D_at_0 ?_
  refine g_getF hX d_D_at_1 fl_D_10 (lv_0 _) ?_
  refine g_iload1 hX d_D_at_4 ?_
  refine g_callV (As := [_]) hX hF.1 d_D_at_5 ml_D_126 cf_Bo_hasVertex cv_Bo_hasVertex rfl rfl (c_Bo_hasVertex isBo1 hR hW) (rcv_obj hX (lv_1 _) rfl rfl) (by omega) (by omega) (by omega) (Nat.le_of_ble_eq_true rfl) ?_
  refine ret_k ?_
  refine g_ifB_ne hX d_D_at_8 (fun e8 => ?_) (fun e8 => ?_)
  · obtain ⟨j, hj, rfl, htn⟩ := inN_of e8 (by omega)
    refine g_iload2 hX d_D_at_13 ?_
    by_cases c1_0 : what = 0
    · refine g_tableIn (off := 30) (tgt := 44) hX d_D_at_14 (by rw [c1_0]; decide) (by rw [c1_0]; decide) (by rw [c1_0]; rfl) rfl ?_
      refine g_aload0 hX d_D_at_44 ?_
      refine g_getF hX d_D_at_45 fl_D_10 (lv_0 _) ?_
      refine g_getF hX d_D_at_48 fl_D_129 (lv_1 _) ?_
      refine g_iload1 hX d_D_at_51 ?_
      refine g_iald hX d_D_at_52 (lv_5 _) rfl (by omega) ?_
      refine g_topi (hR.y j hj) ?_
      refine g_iret hX hF d_D_at_53 (by omega) (by omega) ?_
      unfold opAt
      rw [if_neg (not_not_intro e8), if_pos c1_0, htn]
      exact ⟨rfl, h, DkD.rf w⟩
    by_cases c1_1 : what = 1
    · refine g_tableIn (off := 40) (tgt := 54) hX d_D_at_14 (by rw [c1_1]; decide) (by rw [c1_1]; decide) (by rw [c1_1]; rfl) rfl ?_
      refine g_aload0 hX d_D_at_54 ?_
      refine g_getF hX d_D_at_55 fl_D_10 (lv_0 _) ?_
      refine g_iload1 hX d_D_at_58 ?_
      refine g_callV (As := [_]) hX hF.1 d_D_at_59 ml_D_132 cf_Bo_linksOf cv_Bo_linksOf rfl rfl (c_Bo_linksOf isBo1 hR hW) (rcv_obj hX (lv_1 _) rfl rfl) (by omega) (by omega) (by omega) (Nat.le_of_ble_eq_true rfl) ?_
      refine ret_k ?_
      refine g_iret hX hF d_D_at_62 (by omega) (by omega) ?_
      unfold opAt
      rw [if_neg (not_not_intro e8), if_neg (fun z => absurd (c1_1.symm.trans z) (by decide)), if_pos c1_1, htn]
      rw [lnkI_n hj (by omega)]
      exact ⟨rfl, h, DkD.rf w⟩
    by_cases c1_2 : what = 2
    · refine g_tableIn (off := 49) (tgt := 63) hX d_D_at_14 (by rw [c1_2]; decide) (by rw [c1_2]; decide) (by rw [c1_2]; rfl) rfl ?_
      refine g_aload0 hX d_D_at_63 ?_
      refine g_getF hX d_D_at_64 fl_D_10 (lv_0 _) ?_
      refine g_getF hX d_D_at_67 fl_D_135 (lv_1 _) ?_
      refine g_iload1 hX d_D_at_70 ?_
      refine g_iald hX d_D_at_71 (lv_6 _) rfl (by omega) ?_
      refine g_topi (hR.k j hj) ?_
      refine g_iret hX hF d_D_at_72 (by omega) (by omega) ?_
      unfold opAt
      rw [if_neg (not_not_intro e8), if_neg (fun z => absurd (c1_2.symm.trans z) (by decide)), if_neg (fun z => absurd (c1_2.symm.trans z) (by decide)), if_pos c1_2, htn]
      exact ⟨rfl, h, DkD.rf w⟩
    by_cases c1_3 : what = 3
    · refine g_tableIn (off := 59) (tgt := 73) hX d_D_at_14 (by rw [c1_3]; decide) (by rw [c1_3]; decide) (by rw [c1_3]; rfl) rfl ?_
      refine g_aload0 hX d_D_at_73 ?_
      refine g_getF hX d_D_at_74 fl_D_68 (lv_0 _) ?_
      refine g_aload0 hX d_D_at_77 ?_
      refine g_getF hX d_D_at_78 fl_D_10 (lv_0 _) ?_
      refine g_iload1 hX d_D_at_81 ?_
      refine g_callV (As := [_, _]) hX hF.1 d_D_at_82 ml_D_138 cf_Li_twinsOf cv_Li_twinsOf rfl rfl (c_Li_twinsOf hR hW hj) (rcv_obj hX (lv_47 _) rfl rfl) (by omega) (by omega) (by omega) (Nat.le_of_ble_eq_true rfl) ?_
      refine ret_k ?_
      refine g_iret hX hF d_D_at_85 (by omega) (by omega) ?_
      unfold opAt
      rw [if_neg (not_not_intro e8), if_neg (fun z => absurd (c1_3.symm.trans z) (by decide)), if_neg (fun z => absurd (c1_3.symm.trans z) (by decide)), if_neg (fun z => absurd (c1_3.symm.trans z) (by decide)), if_pos c1_3, htn]
      exact ⟨rfl, h, DkD.rf w⟩
    refine g_tableOut (tgt := 86) hX d_D_at_14 (sw_outR (lo := 0) (hi := 3) (by decide) (by intro k hk1 hk2; rcases (show k = 0 ∨ k = 1 ∨ k = 2 ∨ k = 3 by omega) with rfl | rfl | rfl | rfl <;> first | exact c1_0 | exact c1_1 | exact c1_2 | exact c1_3)) rfl ?_
    refine g_iconst (v := -1) hX d_D_at_86 rfl ?_
    refine g_iret hX hF d_D_at_87 (by omega) (by omega) ?_
    unfold opAt
    rw [if_neg (not_not_intro e8), if_neg c1_0, if_neg c1_1, if_neg c1_2, if_neg c1_3]
    exact ⟨rfl, h, DkD.rf w⟩
  · refine g_iconst (v := -1) hX d_D_at_11 rfl ?_
    refine g_iret hX hF d_D_at_12 (by omega) (by omega) ?_
    unfold opAt
    rw [if_pos e8]
    exact ⟨rfl, h, DkD.rf w⟩
theorem bits_eq {a b x y : Nat} (h : a >>> x &&& 1 = b >>> y &&& 1) : a.testBit x = b.testBit y := by
  cases h1 : a.testBit x with
  | true => symm; apply (tb1 _ _).mp; rw [← h]; exact (tb1 _ _).mpr h1
  | false => symm; apply (tb0 _ _).mp; rw [← h]; exact (tb0 _ _).mpr h1
theorem bits_eq2 {a b x y : Nat} (h : a.testBit x = b.testBit y) : a >>> x &&& 1 = b >>> y &&& 1 := by
  cases h1 : a.testBit x with
  | true => rw [(tb1 _ _).mpr h1, (tb1 _ _).mpr (h ▸ h1)]
  | false => rw [(tb0 _ _).mpr h1, (tb0 _ _).mpr (h ▸ h1)]
theorem c_Li_canStandFor {E : EV} {w : Mem} {g : GC} {u : Nat} {q : List Nat} (hR : BRow w 1 g) (hW : WG g) (hu : u < gV g) (hd : q.length < gV g) (hq : ∀ x ∈ q, x < gV g) (hT : TriD w q) : T E m_Li_canStandFor 0 0 0 [.ref 47, .ref 1, .int (nI u), .int (nI q.length)] w (Ret (some (.int (b2i (stdN g q q.length u q.length = true)))) w) := by
  refine T_of (L := [.ref 47, .ref 1, .int (nI u), .int (nI q.length), un]) cf_Li_canStandFor rfl (Nat.le_of_ble_eq_true rfl) (fun X hX hF => ?_)
  have hgv := hW.v
  have hyu := hW.y u hu
  have hyd := hW.y q.length hd
  have hku := hW.k32 hu
  have hkd := hW.k32 hd
  have lp : ∀ (fuel : Nat) (k : Nat), q.length - k < fuel → (k ≤ q.length) → (stdN g q q.length u k = true) → G0 E X 0 0 20 [.ref 47, .ref 1, .int (nI u), .int (nI q.length), .int (nI k)] [] w := by
    intro fuel
    induction fuel with
    | zero => intro k q0; exact absurd q0 (Nat.not_lt_zero _)
    | succ fuel ih =>
      intro k q0 q1 q2
      refine g_iload4 hX d_Li_canStandFor_20 ?_
      refine g_iload3 hX d_Li_canStandFor_22 ?_
      refine g_icmpN_ge hX d_Li_canStandFor_23 (by omega) (by omega) (fun e23 => ?_) (fun e23 => ?_)
      · refine g_iconst (v := nI 1) hX d_Li_canStandFor_64 rfl ?_
        refine g_zret hX hF d_Li_canStandFor_65 (Or.inr rfl) (by omega) (by omega) ?_
        obtain rfl : k = q.length := by omega
        exact ret_t q2
      · have hx := hq (gA q k) (gA_mem e23)
        refine g_aload1 hX d_Li_canStandFor_26 ?_
        refine g_getF hX d_Li_canStandFor_27 fl_Li_33 (lv_1 _) ?_
        refine g_iload2 hX d_Li_canStandFor_30 ?_
        refine g_iald hX d_Li_canStandFor_31 (lv_6 _) rfl (by omega) ?_
        refine g_topi (hR.k u hu) ?_
        refine g_aload0 hX d_Li_canStandFor_32 ?_
        refine g_getF hX d_Li_canStandFor_33 fl_Li_15 (lv_47 _) ?_
        refine g_iload4 hX d_Li_canStandFor_36 ?_
        refine g_iald hX d_Li_canStandFor_38 (lv_49 _) rfl (by omega) ?_
        refine g_topi (hT k e23) ?_
        refine g_ishrN hX d_Li_canStandFor_39 (by omega) (by omega) ?_
        refine g_iconst (v := nI 1) hX d_Li_canStandFor_40 rfl ?_
        refine g_iandC hX d_Li_canStandFor_41 (fun hm1 => ?_)
        refine g_aload1 hX d_Li_canStandFor_42 ?_
        refine g_getF hX d_Li_canStandFor_43 fl_Li_33 (lv_1 _) ?_
        refine g_iload3 hX d_Li_canStandFor_46 ?_
        refine g_iald hX d_Li_canStandFor_47 (lv_6 _) rfl (by omega) ?_
        refine g_topi (hR.k q.length hd) ?_
        refine g_iload4 hX d_Li_canStandFor_48 ?_
        refine g_ishrN hX d_Li_canStandFor_50 (by omega) (by omega) ?_
        refine g_iconst (v := nI 1) hX d_Li_canStandFor_51 rfl ?_
        refine g_iandC hX d_Li_canStandFor_52 (fun hm2 => ?_)
        refine g_icmpN_eq hX d_Li_canStandFor_53 (by omega) (by omega) (fun e53 => ?_) (fun e53 => ?_)
        · have e53 : (gK g u).testBit (gA q k) = (gK g q.length).testBit k := bits_eq e53
          refine g_iincN4 hX d_Li_canStandFor_58 rfl (by decide) ?_
          refine g_goto hX d_Li_canStandFor_61 ?_
          exact ih (k + 1) (by omega) (by omega) (by unfold stdN; rw [q2, Bool.true_and, beq_iff_eq]; exact e53)
        · have e53 : ¬ (gK g u).testBit (gA q k) = (gK g q.length).testBit k := fun z => e53 (bits_eq2 z)
          refine g_iconst (v := nI 0) hX d_Li_canStandFor_56 rfl ?_
          refine g_zret hX hF d_Li_canStandFor_57 (Or.inl rfl) (by omega) (by omega) ?_
          exact ret_f (std_no (k := k + 1) (fun z => by unfold stdN at z; rw [Bool.and_eq_true, beq_iff_eq] at z; exact e53 z.2) _ (by omega))
  refine g_aload1 hX d_Li_canStandFor_0 ?_
  refine g_getF hX d_Li_canStandFor_1 fl_Li_36 (lv_1 _) ?_
  refine g_iload2 hX d_Li_canStandFor_4 ?_
  refine g_iald hX d_Li_canStandFor_5 (lv_5 _) rfl (by omega) ?_
  refine g_topi (hR.y u hu) ?_
  refine g_aload1 hX d_Li_canStandFor_6 ?_
  refine g_getF hX d_Li_canStandFor_7 fl_Li_36 (lv_1 _) ?_
  refine g_iload3 hX d_Li_canStandFor_10 ?_
  refine g_iald hX d_Li_canStandFor_11 (lv_5 _) rfl (by omega) ?_
  refine g_topi (hR.y q.length hd) ?_
  refine g_icmpN_eq hX d_Li_canStandFor_12 (by omega) (by omega) (fun e12 => ?_) (fun e12 => ?_)
  · refine g_iconst (v := nI 0) hX d_Li_canStandFor_17 rfl ?_
    refine g_istore4 hX d_Li_canStandFor_18 rfl (by decide) ?_
    exact lp (q.length + 1) 0 (by omega) (Nat.zero_le _) (decide_eq_true e12)
  · refine g_iconst (v := nI 0) hX d_Li_canStandFor_15 rfl ?_
    refine g_zret hX hF d_Li_canStandFor_16 (Or.inl rfl) (by omega) (by omega) ?_
    exact ret_f (std_no (k := 0) (fun z => e12 (of_decide_eq_true z)) _ (Nat.zero_le _))
theorem c_Li_keepTrial {E : EV} {w : Mem} {ts : List (List Nat)} (hS : SymP w ts) (hl : ts.length < 120) : T E m_Li_keepTrial 1 0 0 [.ref 47] w (Ret none (sI (sA w 48 (va_cpy (rI w 49) (rI w 48) 0 (ts.length * 5) 5)) 47 2 (nI (ts.length + 1)))) := by
  refine T_of (L := [.ref 47]) cf_Li_keepTrial rfl (Nat.le_of_ble_eq_true rfl) (fun X hX hF => ?_)
  refine g_aload0 hX d_Li_keepTrial_0 ?_
  refine g_getI hX d_Li_keepTrial_1 fl_Li_39 (lv_47 _) ?_
  refine g_topi hS.1 ?_
  refine g_bipush (v := nI 120) hX d_Li_keepTrial_4 rfl ?_
  refine g_icmpN_ge hX d_Li_keepTrial_6 (by omega) (by omega) (fun h => absurd h (by omega)) (fun c0 => ?_)
  refine g_aload0 hX d_Li_keepTrial_9 ?_
  refine g_getF hX d_Li_keepTrial_10 fl_Li_15 (lv_47 _) ?_
  refine g_iconst (v := nI 0) hX d_Li_keepTrial_13 rfl ?_
  refine g_aload0 hX d_Li_keepTrial_14 ?_
  refine g_getF hX d_Li_keepTrial_15 fl_Li_11 (lv_47 _) ?_
  refine g_aload0 hX d_Li_keepTrial_18 ?_
  refine g_getI hX d_Li_keepTrial_19 fl_Li_39 (lv_47 _) ?_
  refine g_topi hS.1 ?_
  refine g_iconst (v := nI 5) hX d_Li_keepTrial_22 rfl ?_
  refine g_imulN hX d_Li_keepTrial_23 ?_
  refine g_iconst (v := nI 5) hX d_Li_keepTrial_24 rfl ?_
  refine g_acpI hX hF.1 d_Li_keepTrial_25 ml_Li_57 lk_acst lk_acna lk_acin (lv_49 _) (lv_48 _) (by omega) (by omega) (by decide) (by omega) (Nat.le_of_ble_eq_true rfl) ?_
  refine g_aload0 hX d_Li_keepTrial_28 ?_
  refine g_dup hX d_Li_keepTrial_29 rfl ?_
  refine g_getI hX d_Li_keepTrial_30 fl_Li_39 (lv_47 _) ?_
  refine g_topi (show rI (sA w 48 _) 47 2 = nI ts.length by rw [rI_sA_ne _ _ (by decide)]; exact hS.1) ?_
  refine g_iconst (v := nI 1) hX d_Li_keepTrial_33 rfl ?_
  refine g_iaddN hX d_Li_keepTrial_34 ?_
  refine g_putI hX d_Li_keepTrial_35 fl_Li_39 (lv_47 _) ?_
  refine g_vret hX hF d_Li_keepTrial_38 (by omega) (by omega) ?_
  exact ⟨rfl, rfl⟩
theorem c_Li_tryAll {E : EV} {w : Mem} {g : GC} {r : Nat} {q : List Nat} {ts : List (List Nat)} (hW : WG g) (IH : ∀ (q : List Nat) (ts : List (List Nat)) (w : Mem), (q).length + r = gV g → (∀ x ∈ (q), x < gV g) → TriD w (q) → SymP w (ts) → (∀ x ∈ (ts), x.length ≤ 5) → (ts).length + (extT g (r) (q)).length ≤ 120 → rI w 47 3 = nI (gV g) → BRow w 1 g → T E m_Li_extend (2 * (r) + 2) 0 0 [.ref 47, .ref 1, .int (nI (q).length), .int (nI (takB (q)))] w (fun rr w2 => rr = none ∧ SymP w2 (ts ++ extT g (r) (q)) ∧ (∀ u, u < (q).length → rI w2 49 u = rI w 49 u) ∧ FrSy w w2)) (hl : q.length + (r + 1) = gV g) (hq : ∀ x ∈ q, x < gV g) (hT : TriD w q) (hS : SymP w ts) (hts : ∀ x ∈ ts, x.length ≤ 5) (hn : ts.length + (extT g (r + 1) q).length ≤ 120) (h3 : rI w 47 3 = nI (gV g)) (hR : BRow w 1 g) : T E m_Li_tryAll (2 * r + 3) 0 0 [.ref 47, .ref 1, .int (nI q.length), .int (nI (takB q))] w (fun rr w2 => rr = none ∧ SymP w2 (ts ++ extT g (r + 1) q) ∧ (∀ u, u < q.length → rI w2 49 u = rI w 49 u) ∧ FrSy w w2) := by
  refine T_of (L := [.ref 47, .ref 1, .int (nI q.length), .int (nI (takB q)), un]) cf_Li_tryAll rfl (Nat.le_of_ble_eq_true rfl) (fun X hX hF => ?_)
  have hgv := hW.v
  have htl := takB_lt (mem12 (by omega) hq)
  have lp : ∀ (fuel : Nat) (u : Nat) (tk : List (List Nat)) (wk : Mem), gV g - u < fuel → (FrSy w wk) → (TriD wk q) → (SymP wk tk) → (∀ x ∈ tk, x.length ≤ 5) → (u ≤ gV g) → (tk ++ remT g r q u = ts ++ extT g (r + 1) q) → G0 E X 0 0 3 [.ref 47, .ref 1, .int (nI q.length), .int (nI (takB q)), .int (nI u)] [] wk := by
    intro fuel
    induction fuel with
    | zero => intro u tk wk q0; exact absurd q0 (Nat.not_lt_zero _)
    | succ fuel ih =>
      intro u tk wk q0 q1 q2 q3 q4 q5 q6
      refine g_iload4 hX d_Li_tryAll_3 ?_
      refine g_aload0 hX d_Li_tryAll_5 ?_
      refine g_getI hX d_Li_tryAll_6 fl_Li_42 (lv_47 _) ?_
      refine g_topi (show rI wk 47 3 = nI (gV g) by rw [q1.2.1 3 (by decide)]; exact h3) ?_
      refine g_icmpN_ge hX d_Li_tryAll_9 (by omega) (by omega) (fun e9 => ?_) (fun e9 => ?_)
      · refine g_vret hX hF d_Li_tryAll_60 (by omega) (by omega) ?_
        obtain rfl : u = gV g := by omega
        rw [remT_N (Nat.le_refl _), List.append_nil] at q6
        exact ⟨rfl, by rw [← q6]; exact q3, fun j hj => (q2 j hj).trans (hT j hj).symm, q1⟩
      · have hRk := hR.sy q1
        refine g_iload3 hX d_Li_tryAll_12 ?_
        refine g_iload4 hX d_Li_tryAll_13 ?_
        refine g_ishrN hX d_Li_tryAll_15 (by omega) (by omega) ?_
        refine g_iconst (v := nI 1) hX d_Li_tryAll_16 rfl ?_
        refine g_iandC hX d_Li_tryAll_17 (fun hm1 => ?_)
        refine g_if_ne hX d_Li_tryAll_18 (fun e18 => ?_) (fun e18 => ?_)
        · have e18 : u ∈ q := by
            have : (takB q).testBit u = true := by
              cases hb : (takB q).testBit u with
              | true => rfl
              | false => exact absurd (by rw [(tb0 _ _).mpr hb]; rfl) e18
            rw [takB_tb] at this
            exact of_decide_eq_true this
          refine g_iincN4 hX d_Li_tryAll_54 rfl (by decide) ?_
          refine g_goto hX d_Li_tryAll_57 ?_
          exact ih (u + 1) tk wk (by omega) q1 q2 q3 q4 (by omega) (by rw [← q6, remT_no e9 (Bool.eq_false_iff.mpr (fun z => turn_notin z e18))])
        · have e18 : u ∉ q := fun z => by
            have : (takB q).testBit u = true := by rw [takB_tb]; exact decide_eq_true z
            rw [(tb1 _ _).mpr this] at e18
            exact absurd e18 (by decide)
          refine g_aload0 hX d_Li_tryAll_21 ?_
          refine g_aload1 hX d_Li_tryAll_22 ?_
          refine g_iload4 hX d_Li_tryAll_23 ?_
          refine g_iload2 hX d_Li_tryAll_25 ?_
          refine g_callV (As := [_, _, _]) hX hF.1 d_Li_tryAll_26 ml_Li_53 cf_Li_canStandFor cv_Li_canStandFor rfl rfl (c_Li_canStandFor hRk hW e9 (by omega) hq q2) (rcv_obj hX (lv_47 _) rfl rfl) (by omega) (by omega) (by omega) (Nat.le_of_ble_eq_true rfl) ?_
          refine ret_k ?_
          refine g_ifB_eq hX d_Li_tryAll_29 (fun e29 => ?_) (fun e29 => ?_)
          · refine g_iincN4 hX d_Li_tryAll_54 rfl (by decide) ?_
            refine g_goto hX d_Li_tryAll_57 ?_
            exact ih (u + 1) tk wk (by omega) q1 q2 q3 q4 (by omega) (by rw [← q6, remT_no e9 (Bool.eq_false_iff.mpr (fun z => e29 ((turn_std _).mp z).1))])
          · refine g_aload0 hX d_Li_tryAll_32 ?_
            refine g_getF hX d_Li_tryAll_33 fl_Li_15 (lv_47 _) ?_
            refine g_iload2 hX d_Li_tryAll_36 ?_
            refine g_iload4 hX d_Li_tryAll_37 ?_
            refine g_iast hX d_Li_tryAll_39 (lv_49 _) rfl (by omega) ?_
            refine g_aload0 hX d_Li_tryAll_40 ?_
            refine g_aload1 hX d_Li_tryAll_41 ?_
            refine g_iload2 hX d_Li_tryAll_42 ?_
            refine g_iconst (v := nI 1) hX d_Li_tryAll_43 rfl ?_
            refine g_iaddN hX d_Li_tryAll_44 ?_
            refine g_iload3 hX d_Li_tryAll_45 ?_
            refine g_iconst (v := nI 1) hX d_Li_tryAll_46 rfl ?_
            refine g_iload4 hX d_Li_tryAll_47 ?_
            refine g_ishlN hX d_Li_tryAll_49 (by omega) ?_
            refine g_iorN hX d_Li_tryAll_50 ?_
            have hturn : turnN g q q.length u q.length = true := (turn_std _).mpr ⟨e29, fun j hj z => e18 (by rw [← z]; exact gA_mem hj)⟩
            have hqx : (q ++ [u]).length = q.length + 1 := by rw [List.length_append, List.length_singleton]
            have hto : tk ++ (extT g r (q ++ [u]) ++ remT g r q (u + 1)) = ts ++ extT g (r + 1) q := by rw [← remT_yes e9 hturn]; exact q6
            have hle : tk.length + (extT g r (q ++ [u])).length ≤ 120 := by
              have := congrArg List.length hto
              rw [List.length_append, List.length_append, List.length_append] at this
              omega
            rw [← hqx]
            refine g_topi (show nI (takB q ||| 1 <<< u) = nI (takB (q ++ [u])) by rw [takB_s]) ?_
            refine g_callV (As := [_, _, _]) hX hF.1 d_Li_tryAll_51 ml_Li_43 cf_Li_extend cv_Li_extend rfl rfl (IH (q ++ [u]) tk (sI wk 49 q.length (nI u)) (by omega) (fun x hx => by rw [List.mem_append, List.mem_singleton] at hx; rcases hx with hx | hx; exact hq x hx; omega) (fun j hj => by rw [hqx] at hj; rw [rI_sI, upd_eq]; by_cases e : j = q.length; rw [if_pos e, e, gA_app1]; rw [if_neg e, gA_app0 (by omega)]; exact q2 j (by omega)) ⟨by rw [rI_sI_ne _ _ _ (by decide)]; exact q3.1, by rw [rI_sI_ne _ _ _ (by decide)]; exact q3.2⟩ q4 hle (by rw [rI_sI_ne _ _ _ (by decide), q1.2.1 3 (by decide)]; exact h3) (hRk.sy (FrSy.T _ _ _))) (rcv_obj hX (lv_47 _) rfl rfl) (by omega) (by omega) (by omega) (Nat.le_of_ble_eq_true rfl) ?_
            rintro _ w2 ⟨rfl, hS2, hT2, hf2⟩
            show G0 _ _ _ _ _ _ _ _
            refine g_iincN4 hX d_Li_tryAll_54 rfl (by decide) ?_
            refine g_goto hX d_Li_tryAll_57 ?_
            exact ih (u + 1) (tk ++ extT g r (q ++ [u])) w2 (by omega) (q1.tr ((FrSy.T _ _ _).tr hf2)) (fun j hj => by rw [hT2 j (by omega), rI_sI, upd_eq, if_neg (by omega)]; exact q2 j hj) hS2 (fun x hx => by
              rcases List.mem_append.mp hx with hx | hx
              · exact q4 x hx
              · have := (extT_mem r (q ++ [u]) x (fun y hy => by rw [List.mem_append, List.mem_singleton] at hy; rcases hy with hy | hy; exact hq y hy; omega) hx).1
                omega) (by omega) (by rw [List.append_assoc]; exact hto)
  refine g_iconst (v := nI 0) hX d_Li_tryAll_0 rfl ?_
  refine g_istore4 hX d_Li_tryAll_1 rfl (by decide) ?_
  exact lp (gV g + 1) 0 ts w (by omega) (FrSy.rf w) hT hS hts (Nat.zero_le _) rfl
theorem c_Li_extend0 {E : EV} {w : Mem} {g : GC} {q : List Nat} {ts : List (List Nat)} (hW : WG g) (hl : q.length + 0 = gV g) (hq : ∀ x ∈ q, x < gV g) (hT : TriD w q) (hS : SymP w ts) (hts : ∀ x ∈ ts, x.length ≤ 5) (hn : ts.length + (extT g (0) q).length ≤ 120) (h3 : rI w 47 3 = nI (gV g)) (hR : BRow w 1 g) : T E m_Li_extend (2 * 0 + 2) 0 0 [.ref 47, .ref 1, .int (nI q.length), .int (nI (takB q))] w (fun rr w2 => rr = none ∧ SymP w2 (ts ++ extT g (0) q) ∧ (∀ u, u < q.length → rI w2 49 u = rI w 49 u) ∧ FrSy w w2) := by
  refine T_of (L := [.ref 47, .ref 1, .int (nI q.length), .int (nI (takB q))]) cf_Li_extend rfl (Nat.le_of_ble_eq_true rfl) (fun X hX hF => ?_)
  have hgv := hW.v
  have hn1 : ts.length + 1 ≤ 120 := hn
  have htl := takB_lt (mem12 (by omega) hq)
  refine g_iload2 hX d_Li_extend_0 ?_
  refine g_aload0 hX d_Li_extend_1 ?_
  refine g_getI hX d_Li_extend_2 fl_Li_42 (lv_47 _) ?_
  refine g_topi h3 ?_
  refine g_icmpN_lt hX d_Li_extend_5 (by omega) (by omega) (fun h => absurd h (by omega)) (fun c0 => ?_)
  refine g_aload0 hX d_Li_extend_8 ?_
  refine g_callV (As := []) hX hF.1 d_Li_extend_9 ml_Li_47 cf_Li_keepTrial cv_Li_keepTrial rfl rfl (c_Li_keepTrial hS (by omega)) (rcv_obj hX (lv_47 _) rfl rfl) (by omega) (by omega) (by omega) (Nat.le_of_ble_eq_true rfl) ?_
  refine ret_k ?_
  refine g_goto hX d_Li_extend_12 ?_
  refine g_vret hX hF d_Li_extend_22 (by omega) (by omega) ?_
  exact ⟨rfl, hS.snoc hT (by omega) hts, fun u hu => by rw [rI_sI_ne _ _ _ (by decide), rI_sA_ne _ _ (by decide)], fun a h1 h2 h4 => by rw [rI_sI_ne _ _ _ h1, rI_sA_ne _ _ h2], fun k hk => by rw [rI_sI, upd_eq, if_neg hk, rI_sA_ne _ _ (by decide)], rfl⟩
theorem c_Li_extendS {E : EV} {w : Mem} {g : GC} {q : List Nat} {ts : List (List Nat)} {r : Nat} (hW : WG g) (IH : ∀ (q : List Nat) (ts : List (List Nat)) (w : Mem), (q).length + r = gV g → (∀ x ∈ (q), x < gV g) → TriD w (q) → SymP w (ts) → (∀ x ∈ (ts), x.length ≤ 5) → (ts).length + (extT g (r) (q)).length ≤ 120 → rI w 47 3 = nI (gV g) → BRow w 1 g → T E m_Li_extend (2 * (r) + 2) 0 0 [.ref 47, .ref 1, .int (nI (q).length), .int (nI (takB (q)))] w (fun rr w2 => rr = none ∧ SymP w2 (ts ++ extT g (r) (q)) ∧ (∀ u, u < (q).length → rI w2 49 u = rI w 49 u) ∧ FrSy w w2)) (hl : q.length + (r + 1) = gV g) (hq : ∀ x ∈ q, x < gV g) (hT : TriD w q) (hS : SymP w ts) (hts : ∀ x ∈ ts, x.length ≤ 5) (hn : ts.length + (extT g (r + 1) q).length ≤ 120) (h3 : rI w 47 3 = nI (gV g)) (hR : BRow w 1 g) : T E m_Li_extend (2 * (r + 1) + 2) 0 0 [.ref 47, .ref 1, .int (nI q.length), .int (nI (takB q))] w (fun rr w2 => rr = none ∧ SymP w2 (ts ++ extT g (r + 1) q) ∧ (∀ u, u < q.length → rI w2 49 u = rI w 49 u) ∧ FrSy w w2) := by
  refine T_of (L := [.ref 47, .ref 1, .int (nI q.length), .int (nI (takB q))]) cf_Li_extend rfl (Nat.le_of_ble_eq_true rfl) (fun X hX hF => ?_)
  have hgv := hW.v
  have htl := takB_lt (mem12 (by omega) hq)
  refine g_iload2 hX d_Li_extend_0 ?_
  refine g_aload0 hX d_Li_extend_1 ?_
  refine g_getI hX d_Li_extend_2 fl_Li_42 (lv_47 _) ?_
  refine g_topi h3 ?_
  refine g_icmpN_lt hX d_Li_extend_5 (by omega) (by omega) (fun c0 => ?_) (fun h => absurd h (by omega))
  refine g_aload0 hX d_Li_extend_15 ?_
  refine g_aload1 hX d_Li_extend_16 ?_
  refine g_iload2 hX d_Li_extend_17 ?_
  refine g_iload3 hX d_Li_extend_18 ?_
  refine g_callV (As := [_, _, _]) hX hF.1 d_Li_extend_19 ml_Li_50 cf_Li_tryAll cv_Li_tryAll rfl rfl (c_Li_tryAll hW IH hl hq hT hS hts hn h3 hR) (rcv_obj hX (lv_47 _) rfl rfl) (by omega) (by omega) (by omega) (Nat.le_of_ble_eq_true rfl) ?_
  rintro _ w2 ⟨rfl, hS2, hT2, hf2⟩
  show G0 _ _ _ _ _ _ _ _
  refine g_vret hX hF d_Li_extend_22 (by omega) (by omega) ?_
  exact ⟨rfl, hS2, hT2, hf2⟩
theorem c_Li_extend {E : EV} {g : GC} (hW : WG g) : ∀ (r : Nat) (q : List Nat) (ts : List (List Nat)) (w : Mem), (q).length + r = gV g → (∀ x ∈ (q), x < gV g) → TriD w (q) → SymP w (ts) → (∀ x ∈ (ts), x.length ≤ 5) → (ts).length + (extT g (r) (q)).length ≤ 120 → rI w 47 3 = nI (gV g) → BRow w 1 g → T E m_Li_extend (2 * (r) + 2) 0 0 [.ref 47, .ref 1, .int (nI (q).length), .int (nI (takB (q)))] w (fun rr w2 => rr = none ∧ SymP w2 (ts ++ extT g (r) (q)) ∧ (∀ u, u < (q).length → rI w2 49 u = rI w 49 u) ∧ FrSy w w2) := by
  intro r
  induction r with
  | zero => intro q ts w h1 h2 h3 h4 h5 h6 h7 h8; exact c_Li_extend0 hW h1 h2 h3 h4 h5 h6 h7 h8
  | succ r ih => intro q ts w h1 h2 h3 h4 h5 h6 h7 h8; exact c_Li_extendS hW ih h1 h2 h3 h4 h5 h6 h7 h8
theorem c_Li_findSymmetries {E : EV} {w : Mem} {g : GC} (hW : WG g) (hR : BRow w 1 g) : T E m_Li_findSymmetries 14 0 0 [.ref 47, .ref 1] w (fun r w2 => r = none ∧ SymP w2 (turnsL g) ∧ rI w2 47 3 = nI (gV g) ∧ DkQ w w2 ∧ (∀ a, a < 47 → rI w2 a = rI w a) ∧ w2.2 = w.2) := by
  refine T_of (L := [.ref 47, .ref 1]) cf_Li_findSymmetries rfl (Nat.le_of_ble_eq_true rfl) (fun X hX hF => ?_)
  have hgv := hW.v
  have htl := turns_le hgv
  refine g_aload0 hX d_Li_findSymmetries_0 ?_
  refine g_iconst (v := nI 0) hX d_Li_findSymmetries_1 rfl ?_
  refine g_putI hX d_Li_findSymmetries_2 fl_Li_39 (lv_47 _) ?_
  refine g_aload0 hX d_Li_findSymmetries_5 ?_
  refine g_aload1 hX d_Li_findSymmetries_6 ?_
  refine g_getI hX d_Li_findSymmetries_7 fl_Li_27 (lv_1 _) ?_
  refine g_topi (show rI (sI w 47 2 (nI 0)) 1 5 = nI (gV g) by rw [rI_sI_ne _ _ _ (by decide)]; exact hR.v) ?_
  refine g_putI hX d_Li_findSymmetries_10 fl_Li_42 (lv_47 _) ?_
  refine g_aload0 hX d_Li_findSymmetries_13 ?_
  refine g_aload1 hX d_Li_findSymmetries_14 ?_
  refine g_iconst (v := nI 0) hX d_Li_findSymmetries_15 rfl ?_
  refine g_iconst (v := nI 0) hX d_Li_findSymmetries_16 rfl ?_
  obtain ⟨w1, hw1⟩ : ∃ z, sI (sI w 47 2 (nI 0)) 47 3 (nI (gV g)) = z := ⟨_, rfl⟩
  have ho1 : ∀ a, a ≠ 47 → rI w1 a = rI w a := fun a ha => by rw [← hw1, rI_sI_ne _ _ _ ha, rI_sI_ne _ _ _ ha]
  have h31 : rI w1 47 3 = nI (gV g) := by rw [← hw1, rI_sI, upd_eq, if_pos rfl]
  refine g_mem hw1 ?_
  refine g_callV (As := [_, _, _]) hX hF.1 d_Li_findSymmetries_17 ml_Li_43 cf_Li_extend cv_Li_extend rfl rfl (c_Li_extend hW (gV g) [] [] w1 (by rw [List.length_nil, Nat.zero_add]) (fun x hx => absurd hx (List.not_mem_nil)) (fun u hu => absurd hu (Nat.not_lt_zero _)) ⟨by rw [← hw1, rI_sI, upd_eq, if_neg (by decide), rI_sI, upd_eq, if_pos rfl]; rfl, fun k q hk => by simp at hk⟩ (fun x hx => absurd hx (List.not_mem_nil)) (by rw [List.length_nil, Nat.zero_add]; exact htl) h31 (hR.fr (fun a h1 h2 => ho1 a (by omega)))) (rcv_obj hX (lv_47 _) rfl rfl) (by omega) (by omega) (by omega) (Nat.le_of_ble_eq_true rfl) ?_
  rintro _ w2 ⟨rfl, hS2, -, hf2⟩
  rw [List.nil_append] at hS2
  show G0 _ _ _ _ _ _ _ _
  refine g_vret hX hF d_Li_findSymmetries_20 (by omega) (by omega) ?_
  have hw2 : w2.2 = w.2 := by rw [hf2.2.2, ← hw1]; rfl
  exact ⟨rfl, hS2, by rw [hf2.2.1 3 (by decide)]; exact h31, ⟨fun a ha => by rw [hf2.1 a (by omega) (by omega) (by omega), ho1 a (by omega)], fun a _ => by unfold rJ; rw [hw2], KpR.of2 hw2⟩, fun a ha => by rw [hf2.1 a (by omega) (by omega) (by omega), ho1 a (by omega)], hw2⟩
theorem c_D_symmetries {E : EV} {w : Mem} {s : SG} (h : DInv w s) : T E m_D_symmetries 15 0 0 [.ref 0] w (fun r w2 => r = some (.int (opSymm (sG s))) ∧ DInv w2 s ∧ DkD w w2) := by
  refine T_of (L := [.ref 0]) cf_D_symmetries rfl (Nat.le_of_ble_eq_true rfl) (fun X hX hF => ?_)
  obtain ⟨⟨hR, hW, hA⟩, hL, hT, hI, hRF, ⟨hsm, hfa, hsp⟩, hdr, hfx⟩ := id h
  have hn := hW.n
  have hv := hW.v
  have he := hW.el
  have hll := hW.ll
  have hsl := hW.sl
  have htl := turns_le hv
  refine g_aload0 hX d_D_symmetries_0 ?_
  refine g_getF hX d_D_symmetries_1 fl_D_68 (lv_0 _) ?_
  refine g_aload0 hX d_D_symmetries_4 ?_
  refine g_getF hX d_D_symmetries_5 fl_D_10 (lv_0 _) ?_
  refine g_callV (As := [_]) hX hF.1 d_D_symmetries_8 ml_D_282 cf_Li_findSymmetries cv_Li_findSymmetries rfl rfl (c_Li_findSymmetries hW hR) (rcv_obj hX (lv_47 _) rfl rfl) (by omega) (by omega) (by omega) (Nat.le_of_ble_eq_true rfl) ?_
  rintro _ w2 ⟨rfl, hS2, -, hQ2, -⟩
  show G0 _ _ _ _ _ _ _ _
  refine g_aload0 hX d_D_symmetries_11 ?_
  refine g_getF hX d_D_symmetries_12 fl_D_68 (lv_0 _) ?_
  refine g_getI hX d_D_symmetries_15 fl_D_294 (lv_47 _) ?_
  refine g_topi hS2.1 ?_
  refine g_iret hX hF d_D_symmetries_18 (by omega) (by omega) ?_
  exact ⟨rfl, h.q hQ2, hQ2.D⟩
