def m_M_at : MR := (⟨"SubgraphDeskModel", "at", "(II)I"⟩, prog_14_method_27_code, 3, (some .int))
theorem cf_M_at : CF m_M_at 2 := ⟨gd 1740 (by decide +kernel) rfl, gd 151 (by decide +kernel) rfl, by decide +kernel, by decide, by decide +kernel⟩
theorem cv_M_at : CV m_M_at := ⟨gd 1738 (by decide +kernel) rfl, gd 1739 (by decide +kernel) rfl⟩
def m_M_came : MR := (⟨"SubgraphDeskModel", "came", "(I)I"⟩, prog_14_method_29_code, 2, (some .int))
theorem cf_M_came : CF m_M_came 1 := ⟨gd 1786 (by decide +kernel) rfl, gd 151 (by decide +kernel) rfl, by decide +kernel, by decide, by decide +kernel⟩
theorem cv_M_came : CV m_M_came := ⟨gd 1784 (by decide +kernel) rfl, gd 1785 (by decide +kernel) rfl⟩
def m_M_fault : MR := (⟨"SubgraphDeskModel", "fault", "()I"⟩, prog_14_method_44_code, 1, (some .int))
theorem cf_M_fault : CF m_M_fault 0 := ⟨gd 1832 (by decide +kernel) rfl, gd 151 (by decide +kernel) rfl, by decide +kernel, by decide, by decide +kernel⟩
theorem cv_M_fault : CV m_M_fault := ⟨gd 1830 (by decide +kernel) rfl, gd 1831 (by decide +kernel) rfl⟩
def m_M_of : MR := (⟨"SubgraphDeskModel", "of", "(II)I"⟩, prog_14_method_25_code, 3, (some .int))
theorem cf_M_of : CF m_M_of 2 := ⟨gd 1721 (by decide +kernel) rfl, gd 151 (by decide +kernel) rfl, by decide +kernel, by decide, by decide +kernel⟩
theorem cv_M_of : CV m_M_of := ⟨gd 1719 (by decide +kernel) rfl, gd 1720 (by decide +kernel) rfl⟩
def m_M_smudges : MR := (⟨"SubgraphDeskModel", "smudges", "()I"⟩, prog_14_method_32_code, 1, (some .int))
theorem cf_M_smudges : CF m_M_smudges 0 := ⟨gd 1816 (by decide +kernel) rfl, gd 151 (by decide +kernel) rfl, by decide +kernel, by decide, by decide +kernel⟩
theorem cv_M_smudges : CV m_M_smudges := ⟨gd 1814 (by decide +kernel) rfl, gd 1815 (by decide +kernel) rfl⟩
def m_M_status : MR := (⟨"SubgraphDeskModel", "status", "()I"⟩, prog_14_method_136_code, 1, (some .int))
theorem cf_M_status : CF m_M_status 0 := ⟨gd 2245 (by decide +kernel) rfl, gd 151 (by decide +kernel) rfl, by decide +kernel, by decide, by decide +kernel⟩
theorem cv_M_status : CV m_M_status := ⟨gd 2243 (by decide +kernel) rfl, gd 2244 (by decide +kernel) rfl⟩
def m_M_stopped : MR := (⟨"SubgraphDeskModel", "stopped", "()I"⟩, prog_14_method_130_code, 1, (some .int))
theorem cf_M_stopped : CF m_M_stopped 0 := ⟨gd 2216 (by decide +kernel) rfl, gd 151 (by decide +kernel) rfl, by decide +kernel, by decide, by decide +kernel⟩
theorem cv_M_stopped : CV m_M_stopped := ⟨gd 2214 (by decide +kernel) rfl, gd 2215 (by decide +kernel) rfl⟩
def m_M_twinsOf : MR := (⟨"SubgraphDeskModel", "twinsOf", "(I)I"⟩, prog_14_method_26_code, 5, (some .int))
theorem cf_M_twinsOf : CF m_M_twinsOf 1 := ⟨gd 1748 (by decide +kernel) rfl, gd 151 (by decide +kernel) rfl, by decide +kernel, by decide, by decide +kernel⟩
theorem cv_M_twinsOf : CV m_M_twinsOf := ⟨gd 1747 (by decide +kernel) rfl, gd 64 (by decide +kernel) rfl⟩
theorem d_M_at_0 : Dc prog_14_method_27_code 0 (.aload_n 0) 1 1 := ⟨by decide +kernel, rfl⟩
theorem d_M_at_1 : Dc prog_14_method_27_code 1 (.iconst 0) 1 2 := ⟨by decide +kernel, rfl⟩
theorem d_M_at_2 : Dc prog_14_method_27_code 2 (.putfield 170) 3 5 := ⟨by decide +kernel, rfl⟩
theorem d_M_at_5 : Dc prog_14_method_27_code 5 (.aload_n 0) 1 6 := ⟨by decide +kernel, rfl⟩
theorem d_M_at_6 : Dc prog_14_method_27_code 6 (.iload_n 1) 1 7 := ⟨by decide +kernel, rfl⟩
theorem d_M_at_7 : Dc prog_14_method_27_code 7 (.invokevirtual 221) 3 10 := ⟨by decide +kernel, rfl⟩
theorem d_M_at_10 : Dj prog_14_method_27_code 10 (.ifCond .ne 5) 13 5 15 := ⟨by decide +kernel, rfl, rfl⟩
theorem d_M_at_13 : Dc prog_14_method_27_code 13 (.iconst (-1)) 1 14 := ⟨by decide +kernel, rfl⟩
theorem d_M_at_14 : Dc prog_14_method_27_code 14 (.ireturn) 1 15 := ⟨by decide +kernel, rfl⟩
theorem d_M_at_15 : Dc prog_14_method_27_code 15 (.iload_n 2) 1 16 := ⟨by decide +kernel, rfl⟩
theorem d_M_at_16 : Dc prog_14_method_27_code 16 (.tableswitch 71 0 3 #[32, 42, 55, 65]) 32 48 := ⟨by decide +kernel, rfl⟩
theorem d_M_at_48 : Dc prog_14_method_27_code 48 (.aload_n 0) 1 49 := ⟨by decide +kernel, rfl⟩
theorem d_M_at_49 : Dc prog_14_method_27_code 49 (.getfield 13) 3 52 := ⟨by decide +kernel, rfl⟩
theorem d_M_at_52 : Dc prog_14_method_27_code 52 (.bipush 21) 2 54 := ⟨by decide +kernel, rfl⟩
theorem d_M_at_54 : Dc prog_14_method_27_code 54 (.iload_n 1) 1 55 := ⟨by decide +kernel, rfl⟩
theorem d_M_at_55 : Dc prog_14_method_27_code 55 (.iadd) 1 56 := ⟨by decide +kernel, rfl⟩
theorem d_M_at_56 : Dc prog_14_method_27_code 56 (.iaload) 1 57 := ⟨by decide +kernel, rfl⟩
theorem d_M_at_57 : Dc prog_14_method_27_code 57 (.ireturn) 1 58 := ⟨by decide +kernel, rfl⟩
theorem d_M_at_58 : Dc prog_14_method_27_code 58 (.aload_n 0) 1 59 := ⟨by decide +kernel, rfl⟩
theorem d_M_at_59 : Dc prog_14_method_27_code 59 (.getfield 13) 3 62 := ⟨by decide +kernel, rfl⟩
theorem d_M_at_62 : Dc prog_14_method_27_code 62 (.bipush 26) 2 64 := ⟨by decide +kernel, rfl⟩
theorem d_M_at_64 : Dc prog_14_method_27_code 64 (.iload_n 1) 1 65 := ⟨by decide +kernel, rfl⟩
theorem d_M_at_65 : Dc prog_14_method_27_code 65 (.iadd) 1 66 := ⟨by decide +kernel, rfl⟩
theorem d_M_at_66 : Dc prog_14_method_27_code 66 (.iaload) 1 67 := ⟨by decide +kernel, rfl⟩
theorem d_M_at_67 : Dc prog_14_method_27_code 67 (.invokestatic 204) 3 70 := ⟨by decide +kernel, rfl⟩
theorem d_M_at_70 : Dc prog_14_method_27_code 70 (.ireturn) 1 71 := ⟨by decide +kernel, rfl⟩
theorem d_M_at_71 : Dc prog_14_method_27_code 71 (.aload_n 0) 1 72 := ⟨by decide +kernel, rfl⟩
theorem d_M_at_72 : Dc prog_14_method_27_code 72 (.getfield 13) 3 75 := ⟨by decide +kernel, rfl⟩
theorem d_M_at_75 : Dc prog_14_method_27_code 75 (.bipush 26) 2 77 := ⟨by decide +kernel, rfl⟩
theorem d_M_at_77 : Dc prog_14_method_27_code 77 (.iload_n 1) 1 78 := ⟨by decide +kernel, rfl⟩
theorem d_M_at_78 : Dc prog_14_method_27_code 78 (.iadd) 1 79 := ⟨by decide +kernel, rfl⟩
theorem d_M_at_79 : Dc prog_14_method_27_code 79 (.iaload) 1 80 := ⟨by decide +kernel, rfl⟩
theorem d_M_at_80 : Dc prog_14_method_27_code 80 (.ireturn) 1 81 := ⟨by decide +kernel, rfl⟩
theorem d_M_at_81 : Dc prog_14_method_27_code 81 (.aload_n 0) 1 82 := ⟨by decide +kernel, rfl⟩
theorem d_M_at_82 : Dc prog_14_method_27_code 82 (.iload_n 1) 1 83 := ⟨by decide +kernel, rfl⟩
theorem d_M_at_83 : Dc prog_14_method_27_code 83 (.invokevirtual 224) 3 86 := ⟨by decide +kernel, rfl⟩
theorem d_M_at_86 : Dc prog_14_method_27_code 86 (.ireturn) 1 87 := ⟨by decide +kernel, rfl⟩
theorem d_M_at_87 : Dc prog_14_method_27_code 87 (.iconst (-1)) 1 88 := ⟨by decide +kernel, rfl⟩
theorem d_M_at_88 : Dc prog_14_method_27_code 88 (.ireturn) 1 89 := ⟨by decide +kernel, rfl⟩
theorem d_M_came_0 : Dc prog_14_method_29_code 0 (.aload_n 0) 1 1 := ⟨by decide +kernel, rfl⟩
theorem d_M_came_1 : Dc prog_14_method_29_code 1 (.iconst 0) 1 2 := ⟨by decide +kernel, rfl⟩
theorem d_M_came_2 : Dc prog_14_method_29_code 2 (.putfield 170) 3 5 := ⟨by decide +kernel, rfl⟩
theorem d_M_came_5 : Dc prog_14_method_29_code 5 (.iload_n 1) 1 6 := ⟨by decide +kernel, rfl⟩
theorem d_M_came_6 : Dc prog_14_method_29_code 6 (.i2l) 1 7 := ⟨by decide +kernel, rfl⟩
theorem d_M_came_7 : Dc prog_14_method_29_code 7 (.lconst 0) 1 8 := ⟨by decide +kernel, rfl⟩
theorem d_M_came_8 : Dc prog_14_method_29_code 8 (.aload_n 0) 1 9 := ⟨by decide +kernel, rfl⟩
theorem d_M_came_9 : Dc prog_14_method_29_code 9 (.getfield 13) 3 12 := ⟨by decide +kernel, rfl⟩
theorem d_M_came_12 : Dc prog_14_method_29_code 12 (.bipush 31) 2 14 := ⟨by decide +kernel, rfl⟩
theorem d_M_came_14 : Dc prog_14_method_29_code 14 (.iaload) 1 15 := ⟨by decide +kernel, rfl⟩
theorem d_M_came_15 : Dc prog_14_method_29_code 15 (.i2l) 1 16 := ⟨by decide +kernel, rfl⟩
theorem d_M_came_16 : Dc prog_14_method_29_code 16 (.lconst 1) 1 17 := ⟨by decide +kernel, rfl⟩
theorem d_M_came_17 : Dc prog_14_method_29_code 17 (.lsub) 1 18 := ⟨by decide +kernel, rfl⟩
theorem d_M_came_18 : Dc prog_14_method_29_code 18 (.invokestatic 190) 3 21 := ⟨by decide +kernel, rfl⟩
theorem d_M_came_21 : Dj prog_14_method_29_code 21 (.ifCond .eq 15) 24 15 36 := ⟨by decide +kernel, rfl, rfl⟩
theorem d_M_came_24 : Dc prog_14_method_29_code 24 (.aload_n 0) 1 25 := ⟨by decide +kernel, rfl⟩
theorem d_M_came_25 : Dc prog_14_method_29_code 25 (.getfield 13) 3 28 := ⟨by decide +kernel, rfl⟩
theorem d_M_came_28 : Dc prog_14_method_29_code 28 (.bipush 32) 2 30 := ⟨by decide +kernel, rfl⟩
theorem d_M_came_30 : Dc prog_14_method_29_code 30 (.iload_n 1) 1 31 := ⟨by decide +kernel, rfl⟩
theorem d_M_came_31 : Dc prog_14_method_29_code 31 (.iadd) 1 32 := ⟨by decide +kernel, rfl⟩
theorem d_M_came_32 : Dc prog_14_method_29_code 32 (.iaload) 1 33 := ⟨by decide +kernel, rfl⟩
theorem d_M_came_33 : Dj prog_14_method_29_code 33 (.goto 4) 36 4 37 := ⟨by decide +kernel, rfl, rfl⟩
theorem d_M_came_36 : Dc prog_14_method_29_code 36 (.iconst (-1)) 1 37 := ⟨by decide +kernel, rfl⟩
theorem d_M_came_37 : Dc prog_14_method_29_code 37 (.ireturn) 1 38 := ⟨by decide +kernel, rfl⟩
theorem d_M_fault_0 : Dc prog_14_method_44_code 0 (.aload_n 0) 1 1 := ⟨by decide +kernel, rfl⟩
theorem d_M_fault_1 : Dc prog_14_method_44_code 1 (.iconst 0) 1 2 := ⟨by decide +kernel, rfl⟩
theorem d_M_fault_2 : Dc prog_14_method_44_code 2 (.putfield 170) 3 5 := ⟨by decide +kernel, rfl⟩
theorem d_M_fault_5 : Dc prog_14_method_44_code 5 (.aload_n 0) 1 6 := ⟨by decide +kernel, rfl⟩
theorem d_M_fault_6 : Dc prog_14_method_44_code 6 (.getfield 38) 3 9 := ⟨by decide +kernel, rfl⟩
theorem d_M_fault_9 : Dc prog_14_method_44_code 9 (.ireturn) 1 10 := ⟨by decide +kernel, rfl⟩
theorem d_M_of_0 : Dc prog_14_method_25_code 0 (.aload_n 0) 1 1 := ⟨by decide +kernel, rfl⟩
theorem d_M_of_1 : Dc prog_14_method_25_code 1 (.iconst 0) 1 2 := ⟨by decide +kernel, rfl⟩
theorem d_M_of_2 : Dc prog_14_method_25_code 2 (.putfield 170) 3 5 := ⟨by decide +kernel, rfl⟩
theorem d_M_of_5 : Dc prog_14_method_25_code 5 (.aload_n 0) 1 6 := ⟨by decide +kernel, rfl⟩
theorem d_M_of_6 : Dc prog_14_method_25_code 6 (.iload_n 1) 1 7 := ⟨by decide +kernel, rfl⟩
theorem d_M_of_7 : Dc prog_14_method_25_code 7 (.invokevirtual 214) 3 10 := ⟨by decide +kernel, rfl⟩
theorem d_M_of_10 : Dj prog_14_method_25_code 10 (.ifCond .ne 5) 13 5 15 := ⟨by decide +kernel, rfl, rfl⟩
theorem d_M_of_13 : Dc prog_14_method_25_code 13 (.iconst (-1)) 1 14 := ⟨by decide +kernel, rfl⟩
theorem d_M_of_14 : Dc prog_14_method_25_code 14 (.ireturn) 1 15 := ⟨by decide +kernel, rfl⟩
theorem d_M_of_15 : Dc prog_14_method_25_code 15 (.iload_n 2) 1 16 := ⟨by decide +kernel, rfl⟩
theorem d_M_of_16 : Dj prog_14_method_25_code 16 (.ifCond .ne 15) 19 15 31 := ⟨by decide +kernel, rfl, rfl⟩
theorem d_M_of_19 : Dc prog_14_method_25_code 19 (.aload_n 0) 1 20 := ⟨by decide +kernel, rfl⟩
theorem d_M_of_20 : Dc prog_14_method_25_code 20 (.getfield 13) 3 23 := ⟨by decide +kernel, rfl⟩
theorem d_M_of_23 : Dc prog_14_method_25_code 23 (.bipush 9) 2 25 := ⟨by decide +kernel, rfl⟩
theorem d_M_of_25 : Dc prog_14_method_25_code 25 (.iload_n 1) 1 26 := ⟨by decide +kernel, rfl⟩
theorem d_M_of_26 : Dc prog_14_method_25_code 26 (.iadd) 1 27 := ⟨by decide +kernel, rfl⟩
theorem d_M_of_27 : Dc prog_14_method_25_code 27 (.iaload) 1 28 := ⟨by decide +kernel, rfl⟩
theorem d_M_of_28 : Dj prog_14_method_25_code 28 (.goto 30) 31 30 58 := ⟨by decide +kernel, rfl, rfl⟩
theorem d_M_of_31 : Dc prog_14_method_25_code 31 (.iload_n 2) 1 32 := ⟨by decide +kernel, rfl⟩
theorem d_M_of_32 : Dc prog_14_method_25_code 32 (.iconst 1) 1 33 := ⟨by decide +kernel, rfl⟩
theorem d_M_of_33 : Dj prog_14_method_25_code 33 (.if_icmp .ne 11) 36 11 44 := ⟨by decide +kernel, rfl, rfl⟩
theorem d_M_of_36 : Dc prog_14_method_25_code 36 (.aload_n 0) 1 37 := ⟨by decide +kernel, rfl⟩
theorem d_M_of_37 : Dc prog_14_method_25_code 37 (.iload_n 1) 1 38 := ⟨by decide +kernel, rfl⟩
theorem d_M_of_38 : Dc prog_14_method_25_code 38 (.invokevirtual 218) 3 41 := ⟨by decide +kernel, rfl⟩
theorem d_M_of_41 : Dj prog_14_method_25_code 41 (.goto 17) 44 17 58 := ⟨by decide +kernel, rfl, rfl⟩
theorem d_M_of_44 : Dc prog_14_method_25_code 44 (.iload_n 2) 1 45 := ⟨by decide +kernel, rfl⟩
theorem d_M_of_45 : Dc prog_14_method_25_code 45 (.iconst 2) 1 46 := ⟨by decide +kernel, rfl⟩
theorem d_M_of_46 : Dj prog_14_method_25_code 46 (.if_icmp .ne 11) 49 11 57 := ⟨by decide +kernel, rfl, rfl⟩
theorem d_M_of_49 : Dc prog_14_method_25_code 49 (.aload_n 0) 1 50 := ⟨by decide +kernel, rfl⟩
theorem d_M_of_50 : Dc prog_14_method_25_code 50 (.iload_n 1) 1 51 := ⟨by decide +kernel, rfl⟩
theorem d_M_of_51 : Dc prog_14_method_25_code 51 (.invokevirtual 201) 3 54 := ⟨by decide +kernel, rfl⟩
theorem d_M_of_54 : Dj prog_14_method_25_code 54 (.goto 4) 57 4 58 := ⟨by decide +kernel, rfl, rfl⟩
theorem d_M_of_57 : Dc prog_14_method_25_code 57 (.iconst (-1)) 1 58 := ⟨by decide +kernel, rfl⟩
theorem d_M_of_58 : Dc prog_14_method_25_code 58 (.ireturn) 1 59 := ⟨by decide +kernel, rfl⟩
theorem d_M_smudges_0 : Dc prog_14_method_32_code 0 (.aload_n 0) 1 1 := ⟨by decide +kernel, rfl⟩
theorem d_M_smudges_1 : Dc prog_14_method_32_code 1 (.iconst 0) 1 2 := ⟨by decide +kernel, rfl⟩
theorem d_M_smudges_2 : Dc prog_14_method_32_code 2 (.putfield 170) 3 5 := ⟨by decide +kernel, rfl⟩
theorem d_M_smudges_5 : Dc prog_14_method_32_code 5 (.aload_n 0) 1 6 := ⟨by decide +kernel, rfl⟩
theorem d_M_smudges_6 : Dc prog_14_method_32_code 6 (.getfield 246) 3 9 := ⟨by decide +kernel, rfl⟩
theorem d_M_smudges_9 : Dc prog_14_method_32_code 9 (.ireturn) 1 10 := ⟨by decide +kernel, rfl⟩
theorem d_M_status_0 : Dc prog_14_method_136_code 0 (.aload_n 0) 1 1 := ⟨by decide +kernel, rfl⟩
theorem d_M_status_1 : Dc prog_14_method_136_code 1 (.iconst 0) 1 2 := ⟨by decide +kernel, rfl⟩
theorem d_M_status_2 : Dc prog_14_method_136_code 2 (.putfield 170) 3 5 := ⟨by decide +kernel, rfl⟩
theorem d_M_status_5 : Dc prog_14_method_136_code 5 (.aload_n 0) 1 6 := ⟨by decide +kernel, rfl⟩
theorem d_M_status_6 : Dc prog_14_method_136_code 6 (.getfield 173) 3 9 := ⟨by decide +kernel, rfl⟩
theorem d_M_status_9 : Dc prog_14_method_136_code 9 (.ireturn) 1 10 := ⟨by decide +kernel, rfl⟩
theorem d_M_stopped_0 : Dc prog_14_method_130_code 0 (.aload_n 0) 1 1 := ⟨by decide +kernel, rfl⟩
theorem d_M_stopped_1 : Dc prog_14_method_130_code 1 (.iconst 0) 1 2 := ⟨by decide +kernel, rfl⟩
theorem d_M_stopped_2 : Dc prog_14_method_130_code 2 (.putfield 170) 3 5 := ⟨by decide +kernel, rfl⟩
theorem d_M_stopped_5 : Dc prog_14_method_130_code 5 (.aload_n 0) 1 6 := ⟨by decide +kernel, rfl⟩
theorem d_M_stopped_6 : Dc prog_14_method_130_code 6 (.getfield 161) 3 9 := ⟨by decide +kernel, rfl⟩
theorem d_M_stopped_9 : Dc prog_14_method_130_code 9 (.ireturn) 1 10 := ⟨by decide +kernel, rfl⟩
theorem d_M_twinsOf_0 : Dc prog_14_method_26_code 0 (.iconst 0) 1 1 := ⟨by decide +kernel, rfl⟩
theorem d_M_twinsOf_1 : Dc prog_14_method_26_code 1 (.istore_n 2) 1 2 := ⟨by decide +kernel, rfl⟩
theorem d_M_twinsOf_2 : Dc prog_14_method_26_code 2 (.iconst 0) 1 3 := ⟨by decide +kernel, rfl⟩
theorem d_M_twinsOf_3 : Dc prog_14_method_26_code 3 (.istore_n 3) 1 4 := ⟨by decide +kernel, rfl⟩
theorem d_M_twinsOf_4 : Dc prog_14_method_26_code 4 (.iload_n 3) 1 5 := ⟨by decide +kernel, rfl⟩
theorem d_M_twinsOf_5 : Dc prog_14_method_26_code 5 (.aload_n 0) 1 6 := ⟨by decide +kernel, rfl⟩
theorem d_M_twinsOf_6 : Dc prog_14_method_26_code 6 (.getfield 13) 3 9 := ⟨by decide +kernel, rfl⟩
theorem d_M_twinsOf_9 : Dc prog_14_method_26_code 9 (.iconst 1) 1 10 := ⟨by decide +kernel, rfl⟩
theorem d_M_twinsOf_10 : Dc prog_14_method_26_code 10 (.iaload) 1 11 := ⟨by decide +kernel, rfl⟩
theorem d_M_twinsOf_11 : Dj prog_14_method_26_code 11 (.if_icmp .ge 85) 14 85 96 := ⟨by decide +kernel, rfl, rfl⟩
theorem d_M_twinsOf_14 : Dc prog_14_method_26_code 14 (.iconst 1) 1 15 := ⟨by decide +kernel, rfl⟩
theorem d_M_twinsOf_15 : Dc prog_14_method_26_code 15 (.iload_n 1) 1 16 := ⟨by decide +kernel, rfl⟩
theorem d_M_twinsOf_16 : Dc prog_14_method_26_code 16 (.ishl) 1 17 := ⟨by decide +kernel, rfl⟩
theorem d_M_twinsOf_17 : Dc prog_14_method_26_code 17 (.iconst 1) 1 18 := ⟨by decide +kernel, rfl⟩
theorem d_M_twinsOf_18 : Dc prog_14_method_26_code 18 (.iload_n 3) 1 19 := ⟨by decide +kernel, rfl⟩
theorem d_M_twinsOf_19 : Dc prog_14_method_26_code 19 (.ishl) 1 20 := ⟨by decide +kernel, rfl⟩
theorem d_M_twinsOf_20 : Dc prog_14_method_26_code 20 (.ior) 1 21 := ⟨by decide +kernel, rfl⟩
theorem d_M_twinsOf_21 : Dc prog_14_method_26_code 21 (.istore 4) 2 23 := ⟨by decide +kernel, rfl⟩
theorem d_M_twinsOf_23 : Dc prog_14_method_26_code 23 (.iload_n 2) 1 24 := ⟨by decide +kernel, rfl⟩
theorem d_M_twinsOf_24 : Dc prog_14_method_26_code 24 (.iload_n 3) 1 25 := ⟨by decide +kernel, rfl⟩
theorem d_M_twinsOf_25 : Dc prog_14_method_26_code 25 (.iload_n 1) 1 26 := ⟨by decide +kernel, rfl⟩
theorem d_M_twinsOf_26 : Dj prog_14_method_26_code 26 (.if_icmp .eq 61) 29 61 87 := ⟨by decide +kernel, rfl, rfl⟩
theorem d_M_twinsOf_29 : Dc prog_14_method_26_code 29 (.aload_n 0) 1 30 := ⟨by decide +kernel, rfl⟩
theorem d_M_twinsOf_30 : Dc prog_14_method_26_code 30 (.getfield 13) 3 33 := ⟨by decide +kernel, rfl⟩
theorem d_M_twinsOf_33 : Dc prog_14_method_26_code 33 (.bipush 21) 2 35 := ⟨by decide +kernel, rfl⟩
theorem d_M_twinsOf_35 : Dc prog_14_method_26_code 35 (.iload_n 3) 1 36 := ⟨by decide +kernel, rfl⟩
theorem d_M_twinsOf_36 : Dc prog_14_method_26_code 36 (.iadd) 1 37 := ⟨by decide +kernel, rfl⟩
theorem d_M_twinsOf_37 : Dc prog_14_method_26_code 37 (.iaload) 1 38 := ⟨by decide +kernel, rfl⟩
theorem d_M_twinsOf_38 : Dc prog_14_method_26_code 38 (.aload_n 0) 1 39 := ⟨by decide +kernel, rfl⟩
theorem d_M_twinsOf_39 : Dc prog_14_method_26_code 39 (.getfield 13) 3 42 := ⟨by decide +kernel, rfl⟩
theorem d_M_twinsOf_42 : Dc prog_14_method_26_code 42 (.bipush 21) 2 44 := ⟨by decide +kernel, rfl⟩
theorem d_M_twinsOf_44 : Dc prog_14_method_26_code 44 (.iload_n 1) 1 45 := ⟨by decide +kernel, rfl⟩
theorem d_M_twinsOf_45 : Dc prog_14_method_26_code 45 (.iadd) 1 46 := ⟨by decide +kernel, rfl⟩
theorem d_M_twinsOf_46 : Dc prog_14_method_26_code 46 (.iaload) 1 47 := ⟨by decide +kernel, rfl⟩
theorem d_M_twinsOf_47 : Dj prog_14_method_26_code 47 (.if_icmp .ne 40) 50 40 87 := ⟨by decide +kernel, rfl, rfl⟩
theorem d_M_twinsOf_50 : Dc prog_14_method_26_code 50 (.aload_n 0) 1 51 := ⟨by decide +kernel, rfl⟩
theorem d_M_twinsOf_51 : Dc prog_14_method_26_code 51 (.getfield 13) 3 54 := ⟨by decide +kernel, rfl⟩
theorem d_M_twinsOf_54 : Dc prog_14_method_26_code 54 (.bipush 26) 2 56 := ⟨by decide +kernel, rfl⟩
theorem d_M_twinsOf_56 : Dc prog_14_method_26_code 56 (.iload_n 3) 1 57 := ⟨by decide +kernel, rfl⟩
theorem d_M_twinsOf_57 : Dc prog_14_method_26_code 57 (.iadd) 1 58 := ⟨by decide +kernel, rfl⟩
theorem d_M_twinsOf_58 : Dc prog_14_method_26_code 58 (.iaload) 1 59 := ⟨by decide +kernel, rfl⟩
theorem d_M_twinsOf_59 : Dc prog_14_method_26_code 59 (.iload 4) 2 61 := ⟨by decide +kernel, rfl⟩
theorem d_M_twinsOf_61 : Dc prog_14_method_26_code 61 (.iconst (-1)) 1 62 := ⟨by decide +kernel, rfl⟩
theorem d_M_twinsOf_62 : Dc prog_14_method_26_code 62 (.ixor) 1 63 := ⟨by decide +kernel, rfl⟩
theorem d_M_twinsOf_63 : Dc prog_14_method_26_code 63 (.iand) 1 64 := ⟨by decide +kernel, rfl⟩
theorem d_M_twinsOf_64 : Dc prog_14_method_26_code 64 (.aload_n 0) 1 65 := ⟨by decide +kernel, rfl⟩
theorem d_M_twinsOf_65 : Dc prog_14_method_26_code 65 (.getfield 13) 3 68 := ⟨by decide +kernel, rfl⟩
theorem d_M_twinsOf_68 : Dc prog_14_method_26_code 68 (.bipush 26) 2 70 := ⟨by decide +kernel, rfl⟩
theorem d_M_twinsOf_70 : Dc prog_14_method_26_code 70 (.iload_n 1) 1 71 := ⟨by decide +kernel, rfl⟩
theorem d_M_twinsOf_71 : Dc prog_14_method_26_code 71 (.iadd) 1 72 := ⟨by decide +kernel, rfl⟩
theorem d_M_twinsOf_72 : Dc prog_14_method_26_code 72 (.iaload) 1 73 := ⟨by decide +kernel, rfl⟩
theorem d_M_twinsOf_73 : Dc prog_14_method_26_code 73 (.iload 4) 2 75 := ⟨by decide +kernel, rfl⟩
theorem d_M_twinsOf_75 : Dc prog_14_method_26_code 75 (.iconst (-1)) 1 76 := ⟨by decide +kernel, rfl⟩
theorem d_M_twinsOf_76 : Dc prog_14_method_26_code 76 (.ixor) 1 77 := ⟨by decide +kernel, rfl⟩
theorem d_M_twinsOf_77 : Dc prog_14_method_26_code 77 (.iand) 1 78 := ⟨by decide +kernel, rfl⟩
theorem d_M_twinsOf_78 : Dj prog_14_method_26_code 78 (.if_icmp .ne 9) 81 9 87 := ⟨by decide +kernel, rfl, rfl⟩
theorem d_M_twinsOf_81 : Dc prog_14_method_26_code 81 (.iconst 1) 1 82 := ⟨by decide +kernel, rfl⟩
theorem d_M_twinsOf_82 : Dc prog_14_method_26_code 82 (.iload_n 3) 1 83 := ⟨by decide +kernel, rfl⟩
theorem d_M_twinsOf_83 : Dc prog_14_method_26_code 83 (.ishl) 1 84 := ⟨by decide +kernel, rfl⟩
theorem d_M_twinsOf_84 : Dj prog_14_method_26_code 84 (.goto 4) 87 4 88 := ⟨by decide +kernel, rfl, rfl⟩
theorem d_M_twinsOf_87 : Dc prog_14_method_26_code 87 (.iconst 0) 1 88 := ⟨by decide +kernel, rfl⟩
theorem d_M_twinsOf_88 : Dc prog_14_method_26_code 88 (.ior) 1 89 := ⟨by decide +kernel, rfl⟩
theorem d_M_twinsOf_89 : Dc prog_14_method_26_code 89 (.istore_n 2) 1 90 := ⟨by decide +kernel, rfl⟩
theorem d_M_twinsOf_90 : Dc prog_14_method_26_code 90 (.iinc 3 1) 3 93 := ⟨by decide +kernel, rfl⟩
theorem d_M_twinsOf_93 : Dj prog_14_method_26_code 93 (.goto (-89)) 96 (-89) 4 := ⟨by decide +kernel, rfl, rfl⟩
theorem d_M_twinsOf_96 : Dc prog_14_method_26_code 96 (.iload_n 2) 1 97 := ⟨by decide +kernel, rfl⟩
theorem d_M_twinsOf_97 : Dc prog_14_method_26_code 97 (.ireturn) 1 98 := ⟨by decide +kernel, rfl⟩
theorem fl_M_38 : FL "SubgraphDeskModel" 38 12 18 false .int (0, 0) := ⟨R_M, F_M, 69, ty_M, rfl, rfl, in_M, tyok_M, nm_M, by decide, gd 1490 (by decide +kernel) rfl, rfl, rfl, rfl⟩
theorem fl_M_161 : FL "SubgraphDeskModel" 161 12 64 false .int (0, 0) := ⟨R_M, F_M, 69, ty_M, rfl, rfl, in_M, tyok_M, nm_M, by decide, gd 1536 (by decide +kernel) rfl, rfl, rfl, rfl⟩
theorem fl_M_246 : FL "SubgraphDeskModel" 246 12 11 false .int (0, 0) := ⟨R_M, F_M, 69, ty_M, rfl, rfl, in_M, tyok_M, nm_M, by decide, gd 1483 (by decide +kernel) rfl, rfl, rfl, rfl⟩
theorem ml_M_214 : Cond.methodLink "SubgraphDeskModel" 214 m_M_isNode.1 ∈ lw_gd := gd 1722 (by decide +kernel) rfl
theorem ml_M_218 : Cond.methodLink "SubgraphDeskModel" 218 m_M_degreeOf.1 ∈ lw_gd := gd 1726 (by decide +kernel) rfl
theorem ml_M_221 : Cond.methodLink "SubgraphDeskModel" 221 m_M_isVertex.1 ∈ lw_gd := gd 1741 (by decide +kernel) rfl
theorem ml_M_224 : Cond.methodLink "SubgraphDeskModel" 224 m_M_twinsOf.1 ∈ lw_gd := gd 1745 (by decide +kernel) rfl
theorem c_M_of {E : EV} {w : Mem} {n what : Int32} {s : SG} (h : MInv w s) : T E m_M_of 2 0 0 [.ref 89, .int n, .int what] w (fun r w2 => r = some (.int (opOf n what (sG s))) ∧ MInv w2 s ∧ FrM w w2) := by
  refine T_of (L := [.ref 89, .int n, .int what]) cf_M_of rfl (Nat.le_of_ble_eq_true rfl) (fun X hX hF => ?_)
  obtain ⟨⟨hR, hL, hW⟩, hU, hT, hI, hRf, hSt, hFa, hSm, hSp, hDr, hOr⟩ := id h
  have hn := hW.n
  have hv := hW.v
  have he := hW.el
  refine g_aload0 hX d_M_of_0 ?_
  refine g_iconst (v := nI 0) hX d_M_of_1 rfl ?_
  refine g_putI hX d_M_of_2 fl_M_170 (lv_89 _) ?_
  refine g_aload0 hX d_M_of_5 ?_
  refine g_iload1 hX d_M_of_6 ?_
  refine g_callV (As := [_]) hX hF.1 d_M_of_7 ml_M_214 cf_M_isNode cv_M_isNode rfl rfl (c_M_isNode hR hW) (rcv_obj hX (lv_89 _) rfl rfl) (by omega) (by omega) (by omega) (Nat.le_of_ble_eq_true rfl) ?_
  refine ret_k ?_
  refine g_ifB_ne hX d_M_of_10 (fun e10 => ?_) (fun e10 => ?_)
  · obtain ⟨j, hj, rfl, htn⟩ := inN_of e10 (by omega)
    refine g_iload2 hX d_M_of_15 ?_
    refine g_if_ne hX d_M_of_16 (fun e16 => ?_) (fun e16 => ?_)
    · refine g_iload2 hX d_M_of_31 ?_
      refine g_iconst (v := nI 1) hX d_M_of_32 rfl ?_
      refine g_icmp_ne hX d_M_of_33 (fun e33 => ?_) (fun e33 => ?_)
      · refine g_iload2 hX d_M_of_44 ?_
        refine g_iconst (v := nI 2) hX d_M_of_45 rfl ?_
        refine g_icmp_ne hX d_M_of_46 (fun e46 => ?_) (fun e46 => ?_)
        · refine g_iconst (v := -1) hX d_M_of_57 rfl ?_
          refine g_iret hX hF d_M_of_58 (by omega) (by omega) ?_
          refine ⟨?_, h.keep (by repeat (first | exact Scr.rf _ | refine Scr.I9 (by decide) ?_ | refine Scr.I (by decide) ?_ | refine Scr.A (by decide) ?_ | refine Scr.J9 ?_ | refine Scr.J (by decide) ?_ | refine Scr.B (by decide) ?_)), (by repeat (first | exact FrM.rf _ | refine FrM.I (by decide) ?_ | refine FrM.A (by decide) ?_ | refine FrM.J9 ?_ | refine FrM.J (by decide) ?_))⟩
          unfold opOf
          rw [if_neg (not_not_intro (show inN (nI j) (gN (sG s)) from e10)), htn]
          first | (rw [if_pos (show what = 0 from e16)]) | (rw [if_neg (show ¬ what = 0 from e16), if_pos (show what = 1 from e33)]) | (rw [if_neg (show ¬ what = 0 from e16), if_neg (show ¬ what = 1 from e33), if_pos (show what = 2 from e46)]) | (rw [if_neg (show ¬ what = 0 from e16), if_neg (show ¬ what = 1 from e33), if_neg (show ¬ what = 2 from e46)])
        · refine g_aload0 hX d_M_of_49 ?_
          refine g_iload1 hX d_M_of_50 ?_
          refine g_callV (As := [_]) hX hF.1 d_M_of_51 ml_M_201 cf_M_bitsOf cv_M_bitsOf rfl rfl (c_M_bitsOf hR hW (by omega)) (rcv_obj hX (lv_89 _) rfl rfl) (by omega) (by omega) (by omega) (Nat.le_of_ble_eq_true rfl) ?_
          refine ret_k ?_
          refine g_goto hX d_M_of_54 ?_
          refine g_iret hX hF d_M_of_58 (by omega) (by omega) ?_
          refine ⟨?_, h.keep (by repeat (first | exact Scr.rf _ | refine Scr.I9 (by decide) ?_ | refine Scr.I (by decide) ?_ | refine Scr.A (by decide) ?_ | refine Scr.J9 ?_ | refine Scr.J (by decide) ?_ | refine Scr.B (by decide) ?_)), (by repeat (first | exact FrM.rf _ | refine FrM.I (by decide) ?_ | refine FrM.A (by decide) ?_ | refine FrM.J9 ?_ | refine FrM.J (by decide) ?_))⟩
          unfold opOf
          rw [if_neg (not_not_intro (show inN (nI j) (gN (sG s)) from e10)), htn]
          first | (rw [if_pos (show what = 0 from e16)]) | (rw [if_neg (show ¬ what = 0 from e16), if_pos (show what = 1 from e33)]) | (rw [if_neg (show ¬ what = 0 from e16), if_neg (show ¬ what = 1 from e33), if_pos (show what = 2 from e46)]) | (rw [if_neg (show ¬ what = 0 from e16), if_neg (show ¬ what = 1 from e33), if_neg (show ¬ what = 2 from e46)])
      · refine g_aload0 hX d_M_of_36 ?_
        refine g_iload1 hX d_M_of_37 ?_
        refine g_callV (As := [_]) hX hF.1 d_M_of_38 ml_M_218 cf_M_degreeOf cv_M_degreeOf rfl rfl (c_M_degreeOf hR hW (by omega)) (rcv_obj hX (lv_89 _) rfl rfl) (by omega) (by omega) (by omega) (Nat.le_of_ble_eq_true rfl) ?_
        refine ret_k ?_
        refine g_goto hX d_M_of_41 ?_
        refine g_iret hX hF d_M_of_58 (by omega) (by omega) ?_
        refine ⟨?_, h.keep (by repeat (first | exact Scr.rf _ | refine Scr.I9 (by decide) ?_ | refine Scr.I (by decide) ?_ | refine Scr.A (by decide) ?_ | refine Scr.J9 ?_ | refine Scr.J (by decide) ?_ | refine Scr.B (by decide) ?_)), (by repeat (first | exact FrM.rf _ | refine FrM.I (by decide) ?_ | refine FrM.A (by decide) ?_ | refine FrM.J9 ?_ | refine FrM.J (by decide) ?_))⟩
        unfold opOf
        rw [if_neg (not_not_intro (show inN (nI j) (gN (sG s)) from e10)), htn]
        first | (rw [if_pos (show what = 0 from e16)]) | (rw [if_neg (show ¬ what = 0 from e16), if_pos (show what = 1 from e33)]) | (rw [if_neg (show ¬ what = 0 from e16), if_neg (show ¬ what = 1 from e33), if_pos (show what = 2 from e46)]) | (rw [if_neg (show ¬ what = 0 from e16), if_neg (show ¬ what = 1 from e33), if_neg (show ¬ what = 2 from e46)])
    · refine g_aload0 hX d_M_of_19 ?_
      refine g_getF hX d_M_of_20 fl_M_13 (lv_89 _) ?_
      refine g_bipush (v := nI 9) hX d_M_of_23 rfl ?_
      refine g_iload1 hX d_M_of_25 ?_
      refine g_iaddN hX d_M_of_26 ?_
      refine g_iald hX d_M_of_27 (lv_91 _) rfl (by omega) ?_
      refine g_topi (hR.c j hj) ?_
      refine g_goto hX d_M_of_28 ?_
      refine g_iret hX hF d_M_of_58 (by omega) (by omega) ?_
      refine ⟨?_, h.keep (by repeat (first | exact Scr.rf _ | refine Scr.I9 (by decide) ?_ | refine Scr.I (by decide) ?_ | refine Scr.A (by decide) ?_ | refine Scr.J9 ?_ | refine Scr.J (by decide) ?_ | refine Scr.B (by decide) ?_)), (by repeat (first | exact FrM.rf _ | refine FrM.I (by decide) ?_ | refine FrM.A (by decide) ?_ | refine FrM.J9 ?_ | refine FrM.J (by decide) ?_))⟩
      unfold opOf
      rw [if_neg (not_not_intro (show inN (nI j) (gN (sG s)) from e10)), htn]
      first | (rw [if_pos (show what = 0 from e16)]) | (rw [if_neg (show ¬ what = 0 from e16), if_pos (show what = 1 from e33)]) | (rw [if_neg (show ¬ what = 0 from e16), if_neg (show ¬ what = 1 from e33), if_pos (show what = 2 from e46)]) | (rw [if_neg (show ¬ what = 0 from e16), if_neg (show ¬ what = 1 from e33), if_neg (show ¬ what = 2 from e46)])
  · refine g_iconst (v := -1) hX d_M_of_13 rfl ?_
    refine g_iret hX hF d_M_of_14 (by omega) (by omega) ?_
    refine ⟨?_, h.keep (by repeat (first | exact Scr.rf _ | refine Scr.I9 (by decide) ?_ | refine Scr.I (by decide) ?_ | refine Scr.A (by decide) ?_ | refine Scr.J9 ?_ | refine Scr.J (by decide) ?_ | refine Scr.B (by decide) ?_)), (by repeat (first | exact FrM.rf _ | refine FrM.I (by decide) ?_ | refine FrM.A (by decide) ?_ | refine FrM.J9 ?_ | refine FrM.J (by decide) ?_))⟩
    unfold opOf
    rw [if_pos (show ¬ inN n (gN (sG s)) from e10)]
theorem range_fold {α : Type} (f : α → Nat → α) (a : α) (n : Nat) : (List.range (n + 1)).foldl f a = f ((List.range n).foldl f a) n := by
  rw [List.range_succ, List.foldl_append]
  rfl
theorem tw_a {g : GC} {v s o : Nat} (h : o = v) : s ||| 0 = twinS g v s o := by unfold twinS; rw [if_neg (fun q => q.1 h)]
theorem tw_b {g : GC} {v s o : Nat} (h : ¬ gY g o = gY g v) : s ||| 0 = twinS g v s o := by unfold twinS; rw [if_neg (fun q => h q.2.1)]
theorem tw_c {g : GC} {v s o : Nat} (h : ¬ sd (gK g o) (1 <<< v ||| 1 <<< o) = sd (gK g v) (1 <<< v ||| 1 <<< o)) : s ||| 0 = twinS g v s o := by unfold twinS; rw [if_neg (fun q => h q.2.2)]
theorem tw_d {g : GC} {v s o : Nat} (h : ¬ o = v) (h2 : gY g o = gY g v) (h3 : sd (gK g o) (1 <<< v ||| 1 <<< o) = sd (gK g v) (1 <<< v ||| 1 <<< o)) : s ||| 1 <<< o = twinS g v s o := by unfold twinS; rw [if_pos ⟨h, h2, h3⟩]
theorem tw_l {v o a b : Nat} (h : a = b) : ([.ref 89, .int (nI v), .int (nI a), .int (nI (o + 1)), un] : List Value) = [.ref 89, .int (nI v), .int (nI b), .int (nI (o + 1)), un] := by rw [h]
theorem twin_lt (g : GC) (v : Nat) : ∀ n, n ≤ 5 → (List.range n).foldl (twinS g v) 0 < 2 ^ 5
  | 0, _ => by simp
  | n + 1, h => by
    rw [range_fold]
    unfold twinS
    refine or_lt (twin_lt g v n (by omega)) ?_
    split
    · exact shl_lt (by omega)
    · decide
theorem c_M_twinsOf {E : EV} {w : Mem} {v : Nat} {g : GC} (hR : MRow (rI w 91) g) (hW : WG g) (hvv : v < gV g) : T E m_M_twinsOf 0 0 0 [.ref 89, .int (nI v)] w (Ret (some (.int (nI (twins g v)))) w) := by
  refine T_of (L := [.ref 89, .int (nI v), un, un, un]) cf_M_twinsOf rfl (Nat.le_of_ble_eq_true rfl) (fun X hX hF => ?_)
  have hn := hW.n
  have hv := hW.v
  have he := hW.el
  have lp : ∀ (fuel : Nat) (o : Nat), gV g - o < fuel → (o ≤ gV g) → G0 E X 0 0 4 [.ref 89, .int (nI v), .int (nI (((List.range o).foldl (twinS g v) 0))), .int (nI o), un] [] w := by
    intro fuel
    induction fuel with
    | zero => intro o q0; exact absurd q0 (Nat.not_lt_zero _)
    | succ fuel ih =>
      intro o q0 q1
      refine g_iload3 hX d_M_twinsOf_4 ?_
      refine g_aload0 hX d_M_twinsOf_5 ?_
      refine g_getF hX d_M_twinsOf_6 fl_M_13 (lv_89 _) ?_
      refine g_iconst (v := nI 1) hX d_M_twinsOf_9 rfl ?_
      refine g_iald hX d_M_twinsOf_10 (lv_91 _) rfl (by decide) ?_
      refine g_topi hR.v ?_
      refine g_icmpN_ge hX d_M_twinsOf_11 (by omega) (by omega) (fun c0 => ?_) (fun c0 => ?_)
      · refine g_iload2 hX d_M_twinsOf_96 ?_
        refine g_iret hX hF d_M_twinsOf_97 (by omega) (by omega) ?_
        exact ⟨by rw [show o = gV g by omega]; rfl, rfl⟩
      · refine g_iconst (v := nI 1) hX d_M_twinsOf_14 rfl ?_
        refine g_iload1 hX d_M_twinsOf_15 ?_
        refine g_ishlN hX d_M_twinsOf_16 (by omega) ?_
        refine g_iconst (v := nI 1) hX d_M_twinsOf_17 rfl ?_
        refine g_iload3 hX d_M_twinsOf_18 ?_
        refine g_ishlN hX d_M_twinsOf_19 (by omega) ?_
        refine g_iorN hX d_M_twinsOf_20 ?_
        refine g_istore4 hX d_M_twinsOf_21 rfl (by decide) ?_
        refine g_iload2 hX d_M_twinsOf_23 ?_
        refine g_iload3 hX d_M_twinsOf_24 ?_
        refine g_iload1 hX d_M_twinsOf_25 ?_
        refine g_icmpN_eq hX d_M_twinsOf_26 (by omega) (by omega) (fun e26 => ?_) (fun e26 => ?_)
        · refine g_iconst (v := nI 0) hX d_M_twinsOf_87 rfl ?_
          refine g_iorN hX d_M_twinsOf_88 ?_
          refine g_istore2 hX d_M_twinsOf_89 rfl (by decide) ?_
          refine g_iincN3 hX d_M_twinsOf_90 rfl (by decide) ?_
          refine g_goto hX d_M_twinsOf_93 ?_
          refine g_fget 4 ?_
          refine g_eq rfl (by rw [range_fold]; first | exact tw_l (tw_a e26) | exact tw_l (tw_b e47) | exact tw_l (tw_c e78) | exact tw_l (tw_d e26 e47 e78)) rfl rfl (ih (o + 1) (by omega) (by omega))
        · refine g_aload0 hX d_M_twinsOf_29 ?_
          refine g_getF hX d_M_twinsOf_30 fl_M_13 (lv_89 _) ?_
          refine g_bipush (v := nI 21) hX d_M_twinsOf_33 rfl ?_
          refine g_iload3 hX d_M_twinsOf_35 ?_
          refine g_iaddN hX d_M_twinsOf_36 ?_
          
          refine g_iald hX d_M_twinsOf_37 (lv_91 _) rfl (by omega) ?_
          refine g_topi (hR.y o (by omega)) ?_
          refine g_aload0 hX d_M_twinsOf_38 ?_
          refine g_getF hX d_M_twinsOf_39 fl_M_13 (lv_89 _) ?_
          refine g_bipush (v := nI 21) hX d_M_twinsOf_42 rfl ?_
          refine g_iload1 hX d_M_twinsOf_44 ?_
          refine g_iaddN hX d_M_twinsOf_45 ?_
          refine g_iald hX d_M_twinsOf_46 (lv_91 _) rfl (by omega) ?_
          refine g_topi (hR.y v hvv) ?_
          have hy1 := hW.y o (by omega)
          have hy2 := hW.y v hvv
          refine g_icmpN_ne hX d_M_twinsOf_47 (by omega) (by omega) (fun e47 => ?_) (fun e47 => ?_)
          · refine g_iconst (v := nI 0) hX d_M_twinsOf_87 rfl ?_
            refine g_iorN hX d_M_twinsOf_88 ?_
            refine g_istore2 hX d_M_twinsOf_89 rfl (by decide) ?_
            refine g_iincN3 hX d_M_twinsOf_90 rfl (by decide) ?_
            refine g_goto hX d_M_twinsOf_93 ?_
            refine g_fget 4 ?_
            refine g_eq rfl (by rw [range_fold]; first | exact tw_l (tw_a e26) | exact tw_l (tw_b e47) | exact tw_l (tw_c e78) | exact tw_l (tw_d e26 e47 e78)) rfl rfl (ih (o + 1) (by omega) (by omega))
          · refine g_aload0 hX d_M_twinsOf_50 ?_
            refine g_getF hX d_M_twinsOf_51 fl_M_13 (lv_89 _) ?_
            refine g_bipush (v := nI 26) hX d_M_twinsOf_54 rfl ?_
            refine g_iload3 hX d_M_twinsOf_56 ?_
            refine g_iaddN hX d_M_twinsOf_57 ?_
            refine g_iald hX d_M_twinsOf_58 (lv_91 _) rfl (by omega) ?_
            refine g_topi (hR.k o (by omega)) ?_
            refine g_iload4 hX d_M_twinsOf_59 ?_
            refine g_iconst (v := -1) hX d_M_twinsOf_61 rfl ?_
            refine g_ixor hX d_M_twinsOf_62 ?_
            refine g_iandX hX d_M_twinsOf_63 ?_
            refine g_aload0 hX d_M_twinsOf_64 ?_
            refine g_getF hX d_M_twinsOf_65 fl_M_13 (lv_89 _) ?_
            refine g_bipush (v := nI 26) hX d_M_twinsOf_68 rfl ?_
            refine g_iload1 hX d_M_twinsOf_70 ?_
            refine g_iaddN hX d_M_twinsOf_71 ?_
            refine g_iald hX d_M_twinsOf_72 (lv_91 _) rfl (by omega) ?_
            refine g_topi (hR.k v hvv) ?_
            refine g_iload4 hX d_M_twinsOf_73 ?_
            refine g_iconst (v := -1) hX d_M_twinsOf_75 rfl ?_
            refine g_ixor hX d_M_twinsOf_76 ?_
            refine g_iandX hX d_M_twinsOf_77 ?_
            have hk1 := hW.k32 (v := o) (by omega)
            have hk2 := hW.k32 hvv
            have hs1 := sd_le (gK g o) (1 <<< v ||| 1 <<< o)
            have hs2 := sd_le (gK g v) (1 <<< v ||| 1 <<< o)
            refine g_icmpN_ne hX d_M_twinsOf_78 (by omega) (by omega) (fun e78 => ?_) (fun e78 => ?_)
            · refine g_iconst (v := nI 0) hX d_M_twinsOf_87 rfl ?_
              refine g_iorN hX d_M_twinsOf_88 ?_
              refine g_istore2 hX d_M_twinsOf_89 rfl (by decide) ?_
              refine g_iincN3 hX d_M_twinsOf_90 rfl (by decide) ?_
              refine g_goto hX d_M_twinsOf_93 ?_
              refine g_fget 4 ?_
              refine g_eq rfl (by rw [range_fold]; first | exact tw_l (tw_a e26) | exact tw_l (tw_b e47) | exact tw_l (tw_c e78) | exact tw_l (tw_d e26 e47 e78)) rfl rfl (ih (o + 1) (by omega) (by omega))
            · refine g_iconst (v := nI 1) hX d_M_twinsOf_81 rfl ?_
              refine g_iload3 hX d_M_twinsOf_82 ?_
              refine g_ishlN hX d_M_twinsOf_83 (by omega) ?_
              refine g_goto hX d_M_twinsOf_84 ?_
              refine g_iorN hX d_M_twinsOf_88 ?_
              refine g_istore2 hX d_M_twinsOf_89 rfl (by decide) ?_
              refine g_iincN3 hX d_M_twinsOf_90 rfl (by decide) ?_
              refine g_goto hX d_M_twinsOf_93 ?_
              refine g_fget 4 ?_
              refine g_eq rfl (by rw [range_fold]; first | exact tw_l (tw_a e26) | exact tw_l (tw_b e47) | exact tw_l (tw_c e78) | exact tw_l (tw_d e26 e47 e78)) rfl rfl (ih (o + 1) (by omega) (by omega))
  refine g_iconst (v := nI 0) hX d_M_twinsOf_0 rfl ?_
  refine g_istore2 hX d_M_twinsOf_1 rfl (by decide) ?_
  refine g_iconst (v := nI 0) hX d_M_twinsOf_2 rfl ?_
  refine g_istore3 hX d_M_twinsOf_3 rfl (by decide) ?_
  exact lp (gV g + 1) 0 (by omega) (by omega)
theorem c_M_at {E : EV} {w : Mem} {v what : Int32} {s : SG} (h : MInv w s) : T E m_M_at 2 0 0 [.ref 89, .int v, .int what] w (fun r w2 => r = some (.int (opAt v what (sG s))) ∧ MInv w2 s ∧ FrM w w2) := by
  refine T_of (L := [.ref 89, .int v, .int what]) cf_M_at rfl (Nat.le_of_ble_eq_true rfl) (fun X hX hF => ?_)
  obtain ⟨⟨hR, hL, hW⟩, hU, hT, hI, hRf, hSt, hFa, hSm, hSp, hDr, hOr⟩ := id h
  have hn := hW.n
  have hv := hW.v
  have he := hW.el
  refine g_aload0 hX d_M_at_0 ?_
  refine g_iconst (v := nI 0) hX d_M_at_1 rfl ?_
  refine g_putI hX d_M_at_2 fl_M_170 (lv_89 _) ?_
  refine g_aload0 hX d_M_at_5 ?_
  refine g_iload1 hX d_M_at_6 ?_
  refine g_callV (As := [_]) hX hF.1 d_M_at_7 ml_M_221 cf_M_isVertex cv_M_isVertex rfl rfl (c_M_isVertex hR hW) (rcv_obj hX (lv_89 _) rfl rfl) (by omega) (by omega) (by omega) (Nat.le_of_ble_eq_true rfl) ?_
  refine ret_k ?_
  refine g_ifB_ne hX d_M_at_10 (fun e10 => ?_) (fun e10 => ?_)
  · obtain ⟨j, hj, rfl, htn⟩ := inN_of e10 (by omega)
    refine g_iload2 hX d_M_at_15 ?_
    by_cases c1_0 : what = 0
    · refine g_tableIn (off := 32) (tgt := 48) hX d_M_at_16 (by rw [c1_0]; decide) (by rw [c1_0]; decide) (by rw [c1_0]; rfl) rfl ?_
      refine g_aload0 hX d_M_at_48 ?_
      refine g_getF hX d_M_at_49 fl_M_13 (lv_89 _) ?_
      refine g_bipush (v := nI 21) hX d_M_at_52 rfl ?_
      refine g_iload1 hX d_M_at_54 ?_
      refine g_iaddN hX d_M_at_55 ?_
      refine g_iald hX d_M_at_56 (lv_91 _) rfl (by omega) ?_
      refine g_topi (hR.y j hj) ?_
      refine g_iret hX hF d_M_at_57 (by omega) (by omega) ?_
      refine ⟨?_, h.keep (by repeat (first | exact Scr.rf _ | refine Scr.I9 (by decide) ?_ | refine Scr.I (by decide) ?_ | refine Scr.A (by decide) ?_ | refine Scr.J9 ?_ | refine Scr.J (by decide) ?_ | refine Scr.B (by decide) ?_)), (by repeat (first | exact FrM.rf _ | refine FrM.I (by decide) ?_ | refine FrM.A (by decide) ?_ | refine FrM.J9 ?_ | refine FrM.J (by decide) ?_))⟩
      unfold opAt
      rw [if_neg (not_not_intro (show inN (nI j) (gV (sG s)) from e10)), htn]
      rw [if_pos c1_0]
    by_cases c1_1 : what = 1
    · refine g_tableIn (off := 42) (tgt := 58) hX d_M_at_16 (by rw [c1_1]; decide) (by rw [c1_1]; decide) (by rw [c1_1]; rfl) rfl ?_
      refine g_aload0 hX d_M_at_58 ?_
      refine g_getF hX d_M_at_59 fl_M_13 (lv_89 _) ?_
      refine g_bipush (v := nI 26) hX d_M_at_62 rfl ?_
      refine g_iload1 hX d_M_at_64 ?_
      refine g_iaddN hX d_M_at_65 ?_
      refine g_iald hX d_M_at_66 (lv_91 _) rfl (by omega) ?_
      refine g_topi (hR.k j hj) ?_
      have hk := hW.k32 hj
      refine g_callS (As := [_]) hX hF.1 d_M_at_67 ml_M_204 cf_M_many cs_M_many rfl (c_M_many (by omega)) (by omega) (by omega) (by omega) (Nat.le_of_ble_eq_true rfl) ?_
      refine ret_k ?_
      refine g_iret hX hF d_M_at_70 (by omega) (by omega) ?_
      refine ⟨?_, h.keep (by repeat (first | exact Scr.rf _ | refine Scr.I9 (by decide) ?_ | refine Scr.I (by decide) ?_ | refine Scr.A (by decide) ?_ | refine Scr.J9 ?_ | refine Scr.J (by decide) ?_ | refine Scr.B (by decide) ?_)), (by repeat (first | exact FrM.rf _ | refine FrM.I (by decide) ?_ | refine FrM.A (by decide) ?_ | refine FrM.J9 ?_ | refine FrM.J (by decide) ?_))⟩
      unfold opAt
      rw [if_neg (not_not_intro (show inN (nI j) (gV (sG s)) from e10)), htn]
      rw [if_neg (show ¬ what = 0 by rw [c1_1]; decide), if_pos c1_1]
    by_cases c1_2 : what = 2
    · refine g_tableIn (off := 55) (tgt := 71) hX d_M_at_16 (by rw [c1_2]; decide) (by rw [c1_2]; decide) (by rw [c1_2]; rfl) rfl ?_
      refine g_aload0 hX d_M_at_71 ?_
      refine g_getF hX d_M_at_72 fl_M_13 (lv_89 _) ?_
      refine g_bipush (v := nI 26) hX d_M_at_75 rfl ?_
      refine g_iload1 hX d_M_at_77 ?_
      refine g_iaddN hX d_M_at_78 ?_
      refine g_iald hX d_M_at_79 (lv_91 _) rfl (by omega) ?_
      refine g_topi (hR.k j hj) ?_
      refine g_iret hX hF d_M_at_80 (by omega) (by omega) ?_
      refine ⟨?_, h.keep (by repeat (first | exact Scr.rf _ | refine Scr.I9 (by decide) ?_ | refine Scr.I (by decide) ?_ | refine Scr.A (by decide) ?_ | refine Scr.J9 ?_ | refine Scr.J (by decide) ?_ | refine Scr.B (by decide) ?_)), (by repeat (first | exact FrM.rf _ | refine FrM.I (by decide) ?_ | refine FrM.A (by decide) ?_ | refine FrM.J9 ?_ | refine FrM.J (by decide) ?_))⟩
      unfold opAt
      rw [if_neg (not_not_intro (show inN (nI j) (gV (sG s)) from e10)), htn]
      rw [if_neg (show ¬ what = 0 by rw [c1_2]; decide), if_neg (show ¬ what = 1 by rw [c1_2]; decide), if_pos c1_2]
    by_cases c1_3 : what = 3
    · refine g_tableIn (off := 65) (tgt := 81) hX d_M_at_16 (by rw [c1_3]; decide) (by rw [c1_3]; decide) (by rw [c1_3]; rfl) rfl ?_
      refine g_aload0 hX d_M_at_81 ?_
      refine g_iload1 hX d_M_at_82 ?_
      refine g_callV (As := [_]) hX hF.1 d_M_at_83 ml_M_224 cf_M_twinsOf cv_M_twinsOf rfl rfl (c_M_twinsOf hR hW hj) (rcv_obj hX (lv_89 _) rfl rfl) (by omega) (by omega) (by omega) (Nat.le_of_ble_eq_true rfl) ?_
      refine ret_k ?_
      refine g_iret hX hF d_M_at_86 (by omega) (by omega) ?_
      refine ⟨?_, h.keep (by repeat (first | exact Scr.rf _ | refine Scr.I9 (by decide) ?_ | refine Scr.I (by decide) ?_ | refine Scr.A (by decide) ?_ | refine Scr.J9 ?_ | refine Scr.J (by decide) ?_ | refine Scr.B (by decide) ?_)), (by repeat (first | exact FrM.rf _ | refine FrM.I (by decide) ?_ | refine FrM.A (by decide) ?_ | refine FrM.J9 ?_ | refine FrM.J (by decide) ?_))⟩
      unfold opAt
      rw [if_neg (not_not_intro (show inN (nI j) (gV (sG s)) from e10)), htn]
      rw [if_neg (show ¬ what = 0 by rw [c1_3]; decide), if_neg (show ¬ what = 1 by rw [c1_3]; decide), if_neg (show ¬ what = 2 by rw [c1_3]; decide), if_pos c1_3]
    refine g_tableOut (tgt := 87) hX d_M_at_16 (sw_outR (lo := 0) (hi := 3) (by decide) (by intro k hk1 hk2; rcases (show k = 0 ∨ k = 1 ∨ k = 2 ∨ k = 3 by omega) with rfl | rfl | rfl | rfl <;> first | exact c1_0 | exact c1_1 | exact c1_2 | exact c1_3)) rfl ?_
    refine g_iconst (v := -1) hX d_M_at_87 rfl ?_
    refine g_iret hX hF d_M_at_88 (by omega) (by omega) ?_
    refine ⟨?_, h.keep (by repeat (first | exact Scr.rf _ | refine Scr.I9 (by decide) ?_ | refine Scr.I (by decide) ?_ | refine Scr.A (by decide) ?_ | refine Scr.J9 ?_ | refine Scr.J (by decide) ?_ | refine Scr.B (by decide) ?_)), (by repeat (first | exact FrM.rf _ | refine FrM.I (by decide) ?_ | refine FrM.A (by decide) ?_ | refine FrM.J9 ?_ | refine FrM.J (by decide) ?_))⟩
    unfold opAt
    rw [if_neg (not_not_intro (show inN (nI j) (gV (sG s)) from e10)), htn]
    rw [if_neg c1_0, if_neg c1_1, if_neg c1_2, if_neg c1_3]
  · refine g_iconst (v := -1) hX d_M_at_13 rfl ?_
    refine g_iret hX hF d_M_at_14 (by omega) (by omega) ?_
    refine ⟨?_, h.keep (by repeat (first | exact Scr.rf _ | refine Scr.I9 (by decide) ?_ | refine Scr.I (by decide) ?_ | refine Scr.A (by decide) ?_ | refine Scr.J9 ?_ | refine Scr.J (by decide) ?_ | refine Scr.B (by decide) ?_)), (by repeat (first | exact FrM.rf _ | refine FrM.I (by decide) ?_ | refine FrM.A (by decide) ?_ | refine FrM.J9 ?_ | refine FrM.J (by decide) ?_))⟩
    unfold opAt
    rw [if_pos (show ¬ inN v (gV (sG s)) from e10)]
theorem c_M_came {E : EV} {w : Mem} {i : Int32} {s : SG} (h : MInv w s) : T E m_M_came 1 0 0 [.ref 89, .int i] w (fun r w2 => r = some (.int (opCame i (sG s))) ∧ MInv w2 s ∧ FrM w w2) := by
  refine T_of (L := [.ref 89, .int i]) cf_M_came rfl (Nat.le_of_ble_eq_true rfl) (fun X hX hF => ?_)
  obtain ⟨⟨hR, hL, hW⟩, hU, hT, hI, hRf, hSt, hFa, hSm, hSp, hDr, hOr⟩ := id h
  have hn := hW.n
  have hv := hW.v
  have he := hW.el
  refine g_aload0 hX d_M_came_0 ?_
  refine g_iconst (v := nI 0) hX d_M_came_1 rfl ?_
  refine g_putI hX d_M_came_2 fl_M_170 (lv_89 _) ?_
  refine g_iload1 hX d_M_came_5 ?_
  refine g_i2l hX d_M_came_6 ?_
  refine g_lconst (v := lN 0) hX d_M_came_7 rfl ?_
  refine g_aload0 hX d_M_came_8 ?_
  refine g_getF hX d_M_came_9 fl_M_13 (lv_89 _) ?_
  refine g_bipush (v := nI 31) hX d_M_came_12 rfl ?_
  refine g_iald hX d_M_came_14 (lv_91 _) rfl (by decide) ?_
  refine g_topi hR.e.1 ?_
  refine g_i2l hX d_M_came_15 ?_
  refine g_lconst (v := lN 1) hX d_M_came_16 rfl ?_
  refine g_lsub hX d_M_came_17 ?_
  refine g_callS (As := [_, _, _]) hX hF.1 d_M_came_18 ml_M_190 cf_M_in cs_M_in rfl (c_M_in) (by omega) (by omega) (by omega) (Nat.le_of_ble_eq_true rfl) ?_
  refine ret_k ?_
  refine g_ifB_eq hX d_M_came_21 (fun c0 => ?_) (fun c0 => ?_)
  · have d0 := mt (in_isN (by omega)).mpr c0
    refine g_iconst (v := -1) hX d_M_came_36 rfl ?_
    refine g_iret hX hF d_M_came_37 (by omega) (by omega) ?_
    refine ⟨?_, h.keep (by repeat (first | exact Scr.rf _ | refine Scr.I9 (by decide) ?_ | refine Scr.I (by decide) ?_ | refine Scr.A (by decide) ?_ | refine Scr.J9 ?_ | refine Scr.J (by decide) ?_ | refine Scr.B (by decide) ?_)), (by repeat (first | exact FrM.rf _ | refine FrM.I (by decide) ?_ | refine FrM.A (by decide) ?_ | refine FrM.J9 ?_ | refine FrM.J (by decide) ?_))⟩
    unfold opCame
    first | (rw [if_neg (show ¬ inN i _ from d0)]) | (rw [if_pos (inN_nI hj (by omega)), htn])
  · obtain ⟨j, hj, rfl, htn⟩ := inN_of (n := (gE (sG s)).length) ((in_isN (by omega)).mp c0) (by omega)
    refine g_aload0 hX d_M_came_24 ?_
    refine g_getF hX d_M_came_25 fl_M_13 (lv_89 _) ?_
    refine g_bipush (v := nI 32) hX d_M_came_28 rfl ?_
    refine g_iload1 hX d_M_came_30 ?_
    refine g_iaddN hX d_M_came_31 ?_
    refine g_iald hX d_M_came_32 (lv_91 _) rfl (by omega) ?_
    refine g_topi (hR.e.2 j hj) ?_
    refine g_goto hX d_M_came_33 ?_
    refine g_iret hX hF d_M_came_37 (by omega) (by omega) ?_
    refine ⟨?_, h.keep (by repeat (first | exact Scr.rf _ | refine Scr.I9 (by decide) ?_ | refine Scr.I (by decide) ?_ | refine Scr.A (by decide) ?_ | refine Scr.J9 ?_ | refine Scr.J (by decide) ?_ | refine Scr.B (by decide) ?_)), (by repeat (first | exact FrM.rf _ | refine FrM.I (by decide) ?_ | refine FrM.A (by decide) ?_ | refine FrM.J9 ?_ | refine FrM.J (by decide) ?_))⟩
    unfold opCame
    first | (rw [if_neg (show ¬ inN i _ from d0)]) | (rw [if_pos (inN_nI hj (by omega)), htn])
theorem c_M_status {E : EV} {w : Mem} {s : SG} (h : MInv w s) : T E m_M_status 0 0 0 [.ref 89] w (fun r w2 => r = some (.int (sSt s)) ∧ MInv w2 s ∧ FrM w w2) := by
  refine T_of (L := [.ref 89]) cf_M_status rfl (Nat.le_of_ble_eq_true rfl) (fun X hX hF => ?_)
  obtain ⟨⟨hR, hL, hW⟩, hU, hT, hI, hRf, hSt, hFa, hSm, hSp, hDr, hOr⟩ := id h
  refine g_aload0 hX d_M_status_0 ?_
  refine g_iconst (v := nI 0) hX d_M_status_1 rfl ?_
  refine g_putI hX d_M_status_2 fl_M_170 (lv_89 _) ?_
  refine g_aload0 hX d_M_status_5 ?_
  refine g_getI hX d_M_status_6 fl_M_173 (lv_89 _) ?_
  refine g_iret hX hF d_M_status_9 (by omega) (by omega) ?_
  refine ⟨?_, h.keep (by repeat (first | exact Scr.rf _ | refine Scr.I9 (by decide) ?_ | refine Scr.I (by decide) ?_ | refine Scr.A (by decide) ?_ | refine Scr.J9 ?_ | refine Scr.J (by decide) ?_ | refine Scr.B (by decide) ?_)), (by repeat (first | exact FrM.rf _ | refine FrM.I (by decide) ?_ | refine FrM.A (by decide) ?_ | refine FrM.J9 ?_ | refine FrM.J (by decide) ?_))⟩
  exact congrArg (fun x => some (Value.int x)) (by exact hSt)
theorem c_M_stopped {E : EV} {w : Mem} {s : SG} (h : MInv w s) : T E m_M_stopped 0 0 0 [.ref 89] w (fun r w2 => r = some (.int (sSp s)) ∧ MInv w2 s ∧ FrM w w2) := by
  refine T_of (L := [.ref 89]) cf_M_stopped rfl (Nat.le_of_ble_eq_true rfl) (fun X hX hF => ?_)
  obtain ⟨⟨hR, hL, hW⟩, hU, hT, hI, hRf, hSt, hFa, hSm, hSp, hDr, hOr⟩ := id h
  refine g_aload0 hX d_M_stopped_0 ?_
  refine g_iconst (v := nI 0) hX d_M_stopped_1 rfl ?_
  refine g_putI hX d_M_stopped_2 fl_M_170 (lv_89 _) ?_
  refine g_aload0 hX d_M_stopped_5 ?_
  refine g_getI hX d_M_stopped_6 fl_M_161 (lv_89 _) ?_
  refine g_iret hX hF d_M_stopped_9 (by omega) (by omega) ?_
  refine ⟨?_, h.keep (by repeat (first | exact Scr.rf _ | refine Scr.I9 (by decide) ?_ | refine Scr.I (by decide) ?_ | refine Scr.A (by decide) ?_ | refine Scr.J9 ?_ | refine Scr.J (by decide) ?_ | refine Scr.B (by decide) ?_)), (by repeat (first | exact FrM.rf _ | refine FrM.I (by decide) ?_ | refine FrM.A (by decide) ?_ | refine FrM.J9 ?_ | refine FrM.J (by decide) ?_))⟩
  exact congrArg (fun x => some (Value.int x)) (by exact hSp)
theorem c_M_fault {E : EV} {w : Mem} {s : SG} (h : MInv w s) : T E m_M_fault 0 0 0 [.ref 89] w (fun r w2 => r = some (.int (sFa s)) ∧ MInv w2 s ∧ FrM w w2) := by
  refine T_of (L := [.ref 89]) cf_M_fault rfl (Nat.le_of_ble_eq_true rfl) (fun X hX hF => ?_)
  obtain ⟨⟨hR, hL, hW⟩, hU, hT, hI, hRf, hSt, hFa, hSm, hSp, hDr, hOr⟩ := id h
  refine g_aload0 hX d_M_fault_0 ?_
  refine g_iconst (v := nI 0) hX d_M_fault_1 rfl ?_
  refine g_putI hX d_M_fault_2 fl_M_170 (lv_89 _) ?_
  refine g_aload0 hX d_M_fault_5 ?_
  refine g_getI hX d_M_fault_6 fl_M_38 (lv_89 _) ?_
  refine g_iret hX hF d_M_fault_9 (by omega) (by omega) ?_
  refine ⟨?_, h.keep (by repeat (first | exact Scr.rf _ | refine Scr.I9 (by decide) ?_ | refine Scr.I (by decide) ?_ | refine Scr.A (by decide) ?_ | refine Scr.J9 ?_ | refine Scr.J (by decide) ?_ | refine Scr.B (by decide) ?_)), (by repeat (first | exact FrM.rf _ | refine FrM.I (by decide) ?_ | refine FrM.A (by decide) ?_ | refine FrM.J9 ?_ | refine FrM.J (by decide) ?_))⟩
  exact congrArg (fun x => some (Value.int x)) (by exact hFa)
theorem c_M_smudges {E : EV} {w : Mem} {s : SG} (h : MInv w s) : T E m_M_smudges 0 0 0 [.ref 89] w (fun r w2 => r = some (.int (sSm s)) ∧ MInv w2 s ∧ FrM w w2) := by
  refine T_of (L := [.ref 89]) cf_M_smudges rfl (Nat.le_of_ble_eq_true rfl) (fun X hX hF => ?_)
  obtain ⟨⟨hR, hL, hW⟩, hU, hT, hI, hRf, hSt, hFa, hSm, hSp, hDr, hOr⟩ := id h
  refine g_aload0 hX d_M_smudges_0 ?_
  refine g_iconst (v := nI 0) hX d_M_smudges_1 rfl ?_
  refine g_putI hX d_M_smudges_2 fl_M_170 (lv_89 _) ?_
  refine g_aload0 hX d_M_smudges_5 ?_
  refine g_getI hX d_M_smudges_6 fl_M_246 (lv_89 _) ?_
  refine g_iret hX hF d_M_smudges_9 (by omega) (by omega) ?_
  refine ⟨?_, h.keep (by repeat (first | exact Scr.rf _ | refine Scr.I9 (by decide) ?_ | refine Scr.I (by decide) ?_ | refine Scr.A (by decide) ?_ | refine Scr.J9 ?_ | refine Scr.J (by decide) ?_ | refine Scr.B (by decide) ?_)), (by repeat (first | exact FrM.rf _ | refine FrM.I (by decide) ?_ | refine FrM.A (by decide) ?_ | refine FrM.J9 ?_ | refine FrM.J (by decide) ?_))⟩
  exact congrArg (fun x => some (Value.int x)) (by exact hSm)
