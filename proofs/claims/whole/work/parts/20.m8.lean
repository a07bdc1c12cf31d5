def m_M_end : MR := (⟨"SubgraphDeskModel", "end", "(I)I"⟩, prog_14_method_35_code, 2, (some .int))
theorem cf_M_end : CF m_M_end 1 := ⟨gd 1828 (by decide +kernel) rfl, gd 151 (by decide +kernel) rfl, by decide +kernel, by decide, by decide +kernel⟩
theorem cv_M_end : CV m_M_end := ⟨gd 1826 (by decide +kernel) rfl, gd 1827 (by decide +kernel) rfl⟩
def m_M_force : MR := (⟨"SubgraphDeskModel", "force", "(I)I"⟩, prog_14_method_65_code, 2, (some .int))
theorem cf_M_force : CF m_M_force 1 := ⟨gd 1955 (by decide +kernel) rfl, gd 151 (by decide +kernel) rfl, by decide +kernel, by decide, by decide +kernel⟩
theorem cv_M_force : CV m_M_force := ⟨gd 1953 (by decide +kernel) rfl, gd 1954 (by decide +kernel) rfl⟩
def m_M_forget : MR := (⟨"SubgraphDeskModel", "forget", "()I"⟩, prog_14_method_117_code, 2, (some .int))
theorem cf_M_forget : CF m_M_forget 0 := ⟨gd 2159 (by decide +kernel) rfl, gd 151 (by decide +kernel) rfl, by decide +kernel, by decide, by decide +kernel⟩
theorem cv_M_forget : CV m_M_forget := ⟨gd 2157 (by decide +kernel) rfl, gd 2158 (by decide +kernel) rfl⟩
def m_M_isLaw : MR := (⟨"SubgraphDeskModel", "isLaw", "(I)Z"⟩, prog_14_method_64_code, 2, (some .boolean))
theorem cf_M_isLaw : CF m_M_isLaw 1 := ⟨gd 1959 (by decide +kernel) rfl, gd 151 (by decide +kernel) rfl, by decide +kernel, by decide, by decide +kernel⟩
theorem cv_M_isLaw : CV m_M_isLaw := ⟨gd 1958 (by decide +kernel) rfl, gd 98 (by decide +kernel) rfl⟩
def m_M_seen : MR := (⟨"SubgraphDeskModel", "seen", "(II)I"⟩, prog_14_method_116_code, 4, (some .int))
theorem cf_M_seen : CF m_M_seen 2 := ⟨gd 2155 (by decide +kernel) rfl, gd 151 (by decide +kernel) rfl, by decide +kernel, by decide, by decide +kernel⟩
theorem cv_M_seen : CV m_M_seen := ⟨gd 2153 (by decide +kernel) rfl, gd 2154 (by decide +kernel) rfl⟩
theorem d_M_end_0 : Dc prog_14_method_35_code 0 (.aload_n 0) 1 1 := ⟨by decide +kernel, rfl⟩
theorem d_M_end_1 : Dc prog_14_method_35_code 1 (.iconst 0) 1 2 := ⟨by decide +kernel, rfl⟩
theorem d_M_end_2 : Dc prog_14_method_35_code 2 (.putfield 170) 3 5 := ⟨by decide +kernel, rfl⟩
theorem d_M_end_5 : Dc prog_14_method_35_code 5 (.iload_n 1) 1 6 := ⟨by decide +kernel, rfl⟩
theorem d_M_end_6 : Dj prog_14_method_35_code 6 (.ifCond .lt 11) 9 11 17 := ⟨by decide +kernel, rfl, rfl⟩
theorem d_M_end_9 : Dc prog_14_method_35_code 9 (.iload_n 1) 1 10 := ⟨by decide +kernel, rfl⟩
theorem d_M_end_10 : Dc prog_14_method_35_code 10 (.aload_n 0) 1 11 := ⟨by decide +kernel, rfl⟩
theorem d_M_end_11 : Dc prog_14_method_35_code 11 (.getfield 243) 3 14 := ⟨by decide +kernel, rfl⟩
theorem d_M_end_14 : Dj prog_14_method_35_code 14 (.if_icmp .le 5) 17 5 19 := ⟨by decide +kernel, rfl, rfl⟩
theorem d_M_end_17 : Dc prog_14_method_35_code 17 (.iconst (-1)) 1 18 := ⟨by decide +kernel, rfl⟩
theorem d_M_end_18 : Dc prog_14_method_35_code 18 (.ireturn) 1 19 := ⟨by decide +kernel, rfl⟩
theorem d_M_end_19 : Dc prog_14_method_35_code 19 (.aload_n 0) 1 20 := ⟨by decide +kernel, rfl⟩
theorem d_M_end_20 : Dc prog_14_method_35_code 20 (.iload_n 1) 1 21 := ⟨by decide +kernel, rfl⟩
theorem d_M_end_21 : Dc prog_14_method_35_code 21 (.putfield 243) 3 24 := ⟨by decide +kernel, rfl⟩
theorem d_M_end_24 : Dc prog_14_method_35_code 24 (.iload_n 1) 1 25 := ⟨by decide +kernel, rfl⟩
theorem d_M_end_25 : Dc prog_14_method_35_code 25 (.ireturn) 1 26 := ⟨by decide +kernel, rfl⟩
theorem d_M_force_0 : Dc prog_14_method_65_code 0 (.aload_n 0) 1 1 := ⟨by decide +kernel, rfl⟩
theorem d_M_force_1 : Dc prog_14_method_65_code 1 (.iconst 0) 1 2 := ⟨by decide +kernel, rfl⟩
theorem d_M_force_2 : Dc prog_14_method_65_code 2 (.putfield 170) 3 5 := ⟨by decide +kernel, rfl⟩
theorem d_M_force_5 : Dc prog_14_method_65_code 5 (.aload_n 0) 1 6 := ⟨by decide +kernel, rfl⟩
theorem d_M_force_6 : Dc prog_14_method_65_code 6 (.iload_n 1) 1 7 := ⟨by decide +kernel, rfl⟩
theorem d_M_force_7 : Dc prog_14_method_65_code 7 (.invokevirtual 406) 3 10 := ⟨by decide +kernel, rfl⟩
theorem d_M_force_10 : Dj prog_14_method_65_code 10 (.ifCond .eq 12) 13 12 22 := ⟨by decide +kernel, rfl, rfl⟩
theorem d_M_force_13 : Dc prog_14_method_65_code 13 (.aload_n 0) 1 14 := ⟨by decide +kernel, rfl⟩
theorem d_M_force_14 : Dc prog_14_method_65_code 14 (.iconst 4) 1 15 := ⟨by decide +kernel, rfl⟩
theorem d_M_force_15 : Dc prog_14_method_65_code 15 (.iload_n 1) 1 16 := ⟨by decide +kernel, rfl⟩
theorem d_M_force_16 : Dc prog_14_method_65_code 16 (.invokevirtual 240) 3 19 := ⟨by decide +kernel, rfl⟩
theorem d_M_force_19 : Dj prog_14_method_65_code 19 (.goto 9) 22 9 28 := ⟨by decide +kernel, rfl, rfl⟩
theorem d_M_force_22 : Dc prog_14_method_65_code 22 (.aload_n 0) 1 23 := ⟨by decide +kernel, rfl⟩
theorem d_M_force_23 : Dc prog_14_method_65_code 23 (.bipush (-2)) 2 25 := ⟨by decide +kernel, rfl⟩
theorem d_M_force_25 : Dc prog_14_method_65_code 25 (.invokevirtual 179) 3 28 := ⟨by decide +kernel, rfl⟩
theorem d_M_force_28 : Dc prog_14_method_65_code 28 (.ireturn) 1 29 := ⟨by decide +kernel, rfl⟩
theorem d_M_forget_0 : Dc prog_14_method_117_code 0 (.aload_n 0) 1 1 := ⟨by decide +kernel, rfl⟩
theorem d_M_forget_1 : Dc prog_14_method_117_code 1 (.iconst 0) 1 2 := ⟨by decide +kernel, rfl⟩
theorem d_M_forget_2 : Dc prog_14_method_117_code 2 (.putfield 170) 3 5 := ⟨by decide +kernel, rfl⟩
theorem d_M_forget_5 : Dc prog_14_method_117_code 5 (.aload_n 0) 1 6 := ⟨by decide +kernel, rfl⟩
theorem d_M_forget_6 : Dc prog_14_method_117_code 6 (.getfield 13) 3 9 := ⟨by decide +kernel, rfl⟩
theorem d_M_forget_9 : Dc prog_14_method_117_code 9 (.iconst 2) 1 10 := ⟨by decide +kernel, rfl⟩
theorem d_M_forget_10 : Dc prog_14_method_117_code 10 (.iaload) 1 11 := ⟨by decide +kernel, rfl⟩
theorem d_M_forget_11 : Dc prog_14_method_117_code 11 (.istore_n 1) 1 12 := ⟨by decide +kernel, rfl⟩
theorem d_M_forget_12 : Dc prog_14_method_117_code 12 (.aload_n 0) 1 13 := ⟨by decide +kernel, rfl⟩
theorem d_M_forget_13 : Dc prog_14_method_117_code 13 (.getfield 13) 3 16 := ⟨by decide +kernel, rfl⟩
theorem d_M_forget_16 : Dc prog_14_method_117_code 16 (.iconst 2) 1 17 := ⟨by decide +kernel, rfl⟩
theorem d_M_forget_17 : Dc prog_14_method_117_code 17 (.iconst 0) 1 18 := ⟨by decide +kernel, rfl⟩
theorem d_M_forget_18 : Dc prog_14_method_117_code 18 (.iastore) 1 19 := ⟨by decide +kernel, rfl⟩
theorem d_M_forget_19 : Dc prog_14_method_117_code 19 (.iload_n 1) 1 20 := ⟨by decide +kernel, rfl⟩
theorem d_M_forget_20 : Dc prog_14_method_117_code 20 (.ireturn) 1 21 := ⟨by decide +kernel, rfl⟩
theorem d_M_isLaw_0 : Dc prog_14_method_64_code 0 (.iload_n 1) 1 1 := ⟨by decide +kernel, rfl⟩
theorem d_M_isLaw_1 : Dc prog_14_method_64_code 1 (.iconst (-1)) 1 2 := ⟨by decide +kernel, rfl⟩
theorem d_M_isLaw_2 : Dj prog_14_method_64_code 2 (.if_icmp .eq 21) 5 21 23 := ⟨by decide +kernel, rfl, rfl⟩
theorem d_M_isLaw_5 : Dc prog_14_method_64_code 5 (.iload_n 1) 1 6 := ⟨by decide +kernel, rfl⟩
theorem d_M_isLaw_6 : Dc prog_14_method_64_code 6 (.i2l) 1 7 := ⟨by decide +kernel, rfl⟩
theorem d_M_isLaw_7 : Dc prog_14_method_64_code 7 (.lconst 0) 1 8 := ⟨by decide +kernel, rfl⟩
theorem d_M_isLaw_8 : Dc prog_14_method_64_code 8 (.aload_n 0) 1 9 := ⟨by decide +kernel, rfl⟩
theorem d_M_isLaw_9 : Dc prog_14_method_64_code 9 (.getfield 13) 3 12 := ⟨by decide +kernel, rfl⟩
theorem d_M_isLaw_12 : Dc prog_14_method_64_code 12 (.iconst 3) 1 13 := ⟨by decide +kernel, rfl⟩
theorem d_M_isLaw_13 : Dc prog_14_method_64_code 13 (.iaload) 1 14 := ⟨by decide +kernel, rfl⟩
theorem d_M_isLaw_14 : Dc prog_14_method_64_code 14 (.i2l) 1 15 := ⟨by decide +kernel, rfl⟩
theorem d_M_isLaw_15 : Dc prog_14_method_64_code 15 (.lconst 1) 1 16 := ⟨by decide +kernel, rfl⟩
theorem d_M_isLaw_16 : Dc prog_14_method_64_code 16 (.lsub) 1 17 := ⟨by decide +kernel, rfl⟩
theorem d_M_isLaw_17 : Dc prog_14_method_64_code 17 (.invokestatic 190) 3 20 := ⟨by decide +kernel, rfl⟩
theorem d_M_isLaw_20 : Dj prog_14_method_64_code 20 (.ifCond .eq 7) 23 7 27 := ⟨by decide +kernel, rfl, rfl⟩
theorem d_M_isLaw_23 : Dc prog_14_method_64_code 23 (.iconst 1) 1 24 := ⟨by decide +kernel, rfl⟩
theorem d_M_isLaw_24 : Dj prog_14_method_64_code 24 (.goto 4) 27 4 28 := ⟨by decide +kernel, rfl, rfl⟩
theorem d_M_isLaw_27 : Dc prog_14_method_64_code 27 (.iconst 0) 1 28 := ⟨by decide +kernel, rfl⟩
theorem d_M_isLaw_28 : Dc prog_14_method_64_code 28 (.ireturn) 1 29 := ⟨by decide +kernel, rfl⟩
theorem d_M_seen_0 : Dc prog_14_method_116_code 0 (.aload_n 0) 1 1 := ⟨by decide +kernel, rfl⟩
theorem d_M_seen_1 : Dc prog_14_method_116_code 1 (.iconst 0) 1 2 := ⟨by decide +kernel, rfl⟩
theorem d_M_seen_2 : Dc prog_14_method_116_code 2 (.putfield 170) 3 5 := ⟨by decide +kernel, rfl⟩
theorem d_M_seen_5 : Dc prog_14_method_116_code 5 (.aload_n 0) 1 6 := ⟨by decide +kernel, rfl⟩
theorem d_M_seen_6 : Dc prog_14_method_116_code 6 (.iload_n 1) 1 7 := ⟨by decide +kernel, rfl⟩
theorem d_M_seen_7 : Dc prog_14_method_116_code 7 (.invokevirtual 221) 3 10 := ⟨by decide +kernel, rfl⟩
theorem d_M_seen_10 : Dj prog_14_method_116_code 10 (.ifCond .eq 11) 13 11 21 := ⟨by decide +kernel, rfl, rfl⟩
theorem d_M_seen_13 : Dc prog_14_method_116_code 13 (.aload_n 0) 1 14 := ⟨by decide +kernel, rfl⟩
theorem d_M_seen_14 : Dc prog_14_method_116_code 14 (.iload_n 2) 1 15 := ⟨by decide +kernel, rfl⟩
theorem d_M_seen_15 : Dc prog_14_method_116_code 15 (.invokevirtual 214) 3 18 := ⟨by decide +kernel, rfl⟩
theorem d_M_seen_18 : Dj prog_14_method_116_code 18 (.ifCond .ne 10) 21 10 28 := ⟨by decide +kernel, rfl, rfl⟩
theorem d_M_seen_21 : Dc prog_14_method_116_code 21 (.aload_n 0) 1 22 := ⟨by decide +kernel, rfl⟩
theorem d_M_seen_22 : Dc prog_14_method_116_code 22 (.bipush (-2)) 2 24 := ⟨by decide +kernel, rfl⟩
theorem d_M_seen_24 : Dc prog_14_method_116_code 24 (.invokevirtual 179) 3 27 := ⟨by decide +kernel, rfl⟩
theorem d_M_seen_27 : Dc prog_14_method_116_code 27 (.ireturn) 1 28 := ⟨by decide +kernel, rfl⟩
theorem d_M_seen_28 : Dc prog_14_method_116_code 28 (.aload_n 0) 1 29 := ⟨by decide +kernel, rfl⟩
theorem d_M_seen_29 : Dc prog_14_method_116_code 29 (.getfield 13) 3 32 := ⟨by decide +kernel, rfl⟩
theorem d_M_seen_32 : Dc prog_14_method_116_code 32 (.iconst 2) 1 33 := ⟨by decide +kernel, rfl⟩
theorem d_M_seen_33 : Dc prog_14_method_116_code 33 (.iaload) 1 34 := ⟨by decide +kernel, rfl⟩
theorem d_M_seen_34 : Dc prog_14_method_116_code 34 (.istore_n 3) 1 35 := ⟨by decide +kernel, rfl⟩
theorem d_M_seen_35 : Dc prog_14_method_116_code 35 (.iload_n 3) 1 36 := ⟨by decide +kernel, rfl⟩
theorem d_M_seen_36 : Dc prog_14_method_116_code 36 (.bipush 6) 2 38 := ⟨by decide +kernel, rfl⟩
theorem d_M_seen_38 : Dj prog_14_method_116_code 38 (.if_icmp .ne 10) 41 10 48 := ⟨by decide +kernel, rfl, rfl⟩
theorem d_M_seen_41 : Dc prog_14_method_116_code 41 (.aload_n 0) 1 42 := ⟨by decide +kernel, rfl⟩
theorem d_M_seen_42 : Dc prog_14_method_116_code 42 (.bipush (-5)) 2 44 := ⟨by decide +kernel, rfl⟩
theorem d_M_seen_44 : Dc prog_14_method_116_code 44 (.invokevirtual 179) 3 47 := ⟨by decide +kernel, rfl⟩
theorem d_M_seen_47 : Dc prog_14_method_116_code 47 (.ireturn) 1 48 := ⟨by decide +kernel, rfl⟩
theorem d_M_seen_48 : Dc prog_14_method_116_code 48 (.aload_n 0) 1 49 := ⟨by decide +kernel, rfl⟩
theorem d_M_seen_49 : Dc prog_14_method_116_code 49 (.getfield 13) 3 52 := ⟨by decide +kernel, rfl⟩
theorem d_M_seen_52 : Dc prog_14_method_116_code 52 (.bipush 98) 2 54 := ⟨by decide +kernel, rfl⟩
theorem d_M_seen_54 : Dc prog_14_method_116_code 54 (.iconst 2) 1 55 := ⟨by decide +kernel, rfl⟩
theorem d_M_seen_55 : Dc prog_14_method_116_code 55 (.iload_n 3) 1 56 := ⟨by decide +kernel, rfl⟩
theorem d_M_seen_56 : Dc prog_14_method_116_code 56 (.imul) 1 57 := ⟨by decide +kernel, rfl⟩
theorem d_M_seen_57 : Dc prog_14_method_116_code 57 (.iadd) 1 58 := ⟨by decide +kernel, rfl⟩
theorem d_M_seen_58 : Dc prog_14_method_116_code 58 (.iload_n 1) 1 59 := ⟨by decide +kernel, rfl⟩
theorem d_M_seen_59 : Dc prog_14_method_116_code 59 (.iastore) 1 60 := ⟨by decide +kernel, rfl⟩
theorem d_M_seen_60 : Dc prog_14_method_116_code 60 (.aload_n 0) 1 61 := ⟨by decide +kernel, rfl⟩
theorem d_M_seen_61 : Dc prog_14_method_116_code 61 (.getfield 13) 3 64 := ⟨by decide +kernel, rfl⟩
theorem d_M_seen_64 : Dc prog_14_method_116_code 64 (.bipush 98) 2 66 := ⟨by decide +kernel, rfl⟩
theorem d_M_seen_66 : Dc prog_14_method_116_code 66 (.iconst 2) 1 67 := ⟨by decide +kernel, rfl⟩
theorem d_M_seen_67 : Dc prog_14_method_116_code 67 (.iload_n 3) 1 68 := ⟨by decide +kernel, rfl⟩
theorem d_M_seen_68 : Dc prog_14_method_116_code 68 (.imul) 1 69 := ⟨by decide +kernel, rfl⟩
theorem d_M_seen_69 : Dc prog_14_method_116_code 69 (.iadd) 1 70 := ⟨by decide +kernel, rfl⟩
theorem d_M_seen_70 : Dc prog_14_method_116_code 70 (.iconst 1) 1 71 := ⟨by decide +kernel, rfl⟩
theorem d_M_seen_71 : Dc prog_14_method_116_code 71 (.iadd) 1 72 := ⟨by decide +kernel, rfl⟩
theorem d_M_seen_72 : Dc prog_14_method_116_code 72 (.iload_n 2) 1 73 := ⟨by decide +kernel, rfl⟩
theorem d_M_seen_73 : Dc prog_14_method_116_code 73 (.iastore) 1 74 := ⟨by decide +kernel, rfl⟩
theorem d_M_seen_74 : Dc prog_14_method_116_code 74 (.aload_n 0) 1 75 := ⟨by decide +kernel, rfl⟩
theorem d_M_seen_75 : Dc prog_14_method_116_code 75 (.getfield 13) 3 78 := ⟨by decide +kernel, rfl⟩
theorem d_M_seen_78 : Dc prog_14_method_116_code 78 (.iconst 2) 1 79 := ⟨by decide +kernel, rfl⟩
theorem d_M_seen_79 : Dc prog_14_method_116_code 79 (.dup2) 1 80 := ⟨by decide +kernel, rfl⟩
theorem d_M_seen_80 : Dc prog_14_method_116_code 80 (.iaload) 1 81 := ⟨by decide +kernel, rfl⟩
theorem d_M_seen_81 : Dc prog_14_method_116_code 81 (.iconst 1) 1 82 := ⟨by decide +kernel, rfl⟩
theorem d_M_seen_82 : Dc prog_14_method_116_code 82 (.iadd) 1 83 := ⟨by decide +kernel, rfl⟩
theorem d_M_seen_83 : Dc prog_14_method_116_code 83 (.iastore) 1 84 := ⟨by decide +kernel, rfl⟩
theorem d_M_seen_84 : Dc prog_14_method_116_code 84 (.aload_n 0) 1 85 := ⟨by decide +kernel, rfl⟩
theorem d_M_seen_85 : Dc prog_14_method_116_code 85 (.iload_n 3) 1 86 := ⟨by decide +kernel, rfl⟩
theorem d_M_seen_86 : Dc prog_14_method_116_code 86 (.iconst 1) 1 87 := ⟨by decide +kernel, rfl⟩
theorem d_M_seen_87 : Dc prog_14_method_116_code 87 (.iadd) 1 88 := ⟨by decide +kernel, rfl⟩
theorem d_M_seen_88 : Dc prog_14_method_116_code 88 (.invokevirtual 179) 3 91 := ⟨by decide +kernel, rfl⟩
theorem d_M_seen_91 : Dc prog_14_method_116_code 91 (.ireturn) 1 92 := ⟨by decide +kernel, rfl⟩
theorem ml_M_406 : Cond.methodLink "SubgraphDeskModel" 406 m_M_isLaw.1 ∈ lw_gd := gd 1956 (by decide +kernel) rfl
theorem MTape.take {f : Nat → Int32} {m : Int32} {t : List Nat} {j : Nat} (h : MTape f m t) (hj : j ≤ t.length) : MTape f (nI j) (t.take j) := by
  obtain ⟨h1, h2, h3⟩ := h
  have hl : (t.take j).length = j := by rw [List.length_take]; omega
  refine ⟨by omega, by rw [hl], fun k hk => ?_⟩
  rw [hl] at hk
  have e : gA (t.take j) k = gA t k := by
    unfold gA
    rw [List.getD_eq_getElem?_getD, List.getElem?_take, if_pos hk, List.getD_eq_getElem?_getD]
  rw [e]
  exact h3 k (by omega)
theorem opEnd_no {n : Int32} {s : SG} (h : n < 0 ∨ nI (sTp s).length < n) : opEnd n s = (-1, s) := by
  unfold opEnd
  exact if_pos h
theorem opEnd_ok {n : Int32} {s : SG} (h : ¬ (n < 0 ∨ nI (sTp s).length < n)) : opEnd n s = (n, wTp s ((sTp s).take (tn n))) := by
  unfold opEnd
  exact if_neg h
theorem c_M_end {E : EV} {w : Mem} {n : Int32} {s : SG} (h : MInv w s) : T E m_M_end 0 0 0 [.ref 89, .int n] w (fun r w2 => r = some (.int (opEnd n s).1) ∧ MInv w2 (opEnd n s).2 ∧ FrM w w2) := by
  refine T_of (L := [.ref 89, .int n]) cf_M_end rfl (Nat.le_of_ble_eq_true rfl) (fun X hX hF => ?_)
  obtain ⟨⟨hR, hL, hW⟩, hU, hT, hI, hRf, hSt, hFa, hSm, hSp, hDr, hOr⟩ := id h
  have hn := hW.n
  have hv := hW.v
  have he := hW.el
  have ht := hT.1
  refine g_aload0 hX d_M_end_0 ?_
  refine g_iconst (v := nI 0) hX d_M_end_1 rfl ?_
  refine g_putI hX d_M_end_2 fl_M_170 (lv_89 _) ?_
  refine g_iload1 hX d_M_end_5 ?_
  refine g_if_lt hX d_M_end_6 (fun e6 => ?_) (fun e6 => ?_)
  · refine g_iconst (v := -1) hX d_M_end_17 rfl ?_
    refine g_iret hX hF d_M_end_18 (by omega) (by omega) ?_
    rw [opEnd_no (by first | exact Or.inl e6 | exact Or.inr (Int32.not_le.mp e14))]
    exact ⟨rfl, h.keep (by repeat (first | exact Scr.rf _ | refine Scr.I9 (by decide) ?_ | refine Scr.I (by decide) ?_ | refine Scr.A (by decide) ?_ | refine Scr.J9 ?_ | refine Scr.J (by decide) ?_ | refine Scr.B (by decide) ?_)), (by repeat (first | exact FrM.rf _ | refine FrM.I (by decide) ?_ | refine FrM.A (by decide) ?_ | refine FrM.J9 ?_ | refine FrM.J (by decide) ?_))⟩
  · refine g_iload1 hX d_M_end_9 ?_
    refine g_aload0 hX d_M_end_10 ?_
    refine g_getI hX d_M_end_11 fl_M_243 (lv_89 _) ?_
    refine g_topi hT.2.1 ?_
    refine g_icmp_le hX d_M_end_14 (fun e14 => ?_) (fun e14 => ?_)
    · refine g_aload0 hX d_M_end_19 ?_
      refine g_iload1 hX d_M_end_20 ?_
      refine g_putI hX d_M_end_21 fl_M_243 (lv_89 _) ?_
      refine g_iload1 hX d_M_end_24 ?_
      refine g_iret hX hF d_M_end_25 (by omega) (by omega) ?_
      rw [opEnd_ok (fun q => q.elim e6 (fun q => absurd e14 (Int32.not_le.mpr q)))]
      obtain ⟨j, hj, rfl⟩ := nI_of e6
      have hj2 : j ≤ (sTp s).length := (nI_leI hj (by omega)).mp e14
      rw [tn_nI hj]
      exact ⟨rfl, ⟨⟨hR, hL, hW⟩, hU, hT.take hj2, hI, hRf, hSt, hFa, hSm, hSp, hDr, hOr⟩, (by repeat (first | exact FrM.rf _ | refine FrM.I (by decide) ?_ | refine FrM.A (by decide) ?_ | refine FrM.J9 ?_ | refine FrM.J (by decide) ?_))⟩
    · refine g_iconst (v := -1) hX d_M_end_17 rfl ?_
      refine g_iret hX hF d_M_end_18 (by omega) (by omega) ?_
      rw [opEnd_no (by first | exact Or.inl e6 | exact Or.inr (Int32.not_le.mp e14))]
      exact ⟨rfl, h.keep (by repeat (first | exact Scr.rf _ | refine Scr.I9 (by decide) ?_ | refine Scr.I (by decide) ?_ | refine Scr.A (by decide) ?_ | refine Scr.J9 ?_ | refine Scr.J (by decide) ?_ | refine Scr.B (by decide) ?_)), (by repeat (first | exact FrM.rf _ | refine FrM.I (by decide) ?_ | refine FrM.A (by decide) ?_ | refine FrM.J9 ?_ | refine FrM.J (by decide) ?_))⟩
def isL (x : Int32) (n : Nat) : Prop := x = -1 ∨ inN x n
theorem c_M_isLaw {E : EV} {w : Mem} {x : Int32} {g : GC} (hR : MRow (rI w 91) g) (hW : WG g) : T E m_M_isLaw 1 0 0 [.ref 89, .int x] w (Ret (some (.int (if x = -1 then 1 else b2i (0 ≤ x ∧ x < nI (gL g).length)))) w) := by
  refine T_of (L := [.ref 89, .int x]) cf_M_isLaw rfl (Nat.le_of_ble_eq_true rfl) (fun X hX hF => ?_)
  have hn := hW.n
  have hv := hW.v
  have he := hW.el
  have hll := hW.ll
  refine g_iload1 hX d_M_isLaw_0 ?_
  refine g_iconst (v := -1) hX d_M_isLaw_1 rfl ?_
  refine g_icmp_eq hX d_M_isLaw_2 (fun e2 => ?_) (fun e2 => ?_)
  · refine g_iconst (v := nI 1) hX d_M_isLaw_23 rfl ?_
    refine g_goto hX d_M_isLaw_24 ?_
    refine g_zret hX hF d_M_isLaw_28 (Or.inr rfl) (by omega) (by omega) ?_
    first
      | exact ⟨by rw [if_pos e2]; rfl, rfl⟩
      | exact ⟨by rw [if_neg e2, b2i_t ((in_isN (by omega)).mp e20)]; rfl, rfl⟩
      | exact ⟨by rw [if_neg e2, b2i_f (mt (in_isN (by omega)).mpr e20)]; rfl, rfl⟩
  · refine g_iload1 hX d_M_isLaw_5 ?_
    refine g_i2l hX d_M_isLaw_6 ?_
    refine g_lconst (v := lN 0) hX d_M_isLaw_7 rfl ?_
    refine g_aload0 hX d_M_isLaw_8 ?_
    refine g_getF hX d_M_isLaw_9 fl_M_13 (lv_89 _) ?_
    refine g_iconst (v := nI 3) hX d_M_isLaw_12 rfl ?_
    refine g_iald hX d_M_isLaw_13 (lv_91 _) rfl (by decide) ?_
    refine g_topi hR.l ?_
    refine g_i2l hX d_M_isLaw_14 ?_
    refine g_lconst (v := lN 1) hX d_M_isLaw_15 rfl ?_
    refine g_lsub hX d_M_isLaw_16 ?_
    refine g_callS (As := [_, _, _]) hX hF.1 d_M_isLaw_17 ml_M_190 cf_M_in cs_M_in rfl (c_M_in) (by omega) (by omega) (by omega) (Nat.le_of_ble_eq_true rfl) ?_
    refine ret_k ?_
    refine g_ifB_eq hX d_M_isLaw_20 (fun e20 => ?_) (fun e20 => ?_)
    · refine g_iconst (v := nI 0) hX d_M_isLaw_27 rfl ?_
      refine g_zret hX hF d_M_isLaw_28 (Or.inl rfl) (by omega) (by omega) ?_
      first
        | exact ⟨by rw [if_pos e2]; rfl, rfl⟩
        | exact ⟨by rw [if_neg e2, b2i_t ((in_isN (by omega)).mp e20)]; rfl, rfl⟩
        | exact ⟨by rw [if_neg e2, b2i_f (mt (in_isN (by omega)).mpr e20)]; rfl, rfl⟩
    · refine g_iconst (v := nI 1) hX d_M_isLaw_23 rfl ?_
      refine g_goto hX d_M_isLaw_24 ?_
      refine g_zret hX hF d_M_isLaw_28 (Or.inr rfl) (by omega) (by omega) ?_
      first
        | exact ⟨by rw [if_pos e2]; rfl, rfl⟩
        | exact ⟨by rw [if_neg e2, b2i_t ((in_isN (by omega)).mp e20)]; rfl, rfl⟩
        | exact ⟨by rw [if_neg e2, b2i_f (mt (in_isN (by omega)).mpr e20)]; rfl, rfl⟩
theorem MRow.force {f : Nat → Int32} {g : GC} {o : Option Nat} {x : Int32} (h : MRow f g) (hx : x = fInt o) (hW : WG g) : MRow (upd f 4 x) (gForce g o) := by
  have hn := hW.n
  have hv := hW.v
  have hne : ∀ i, i ≠ 4 → upd f 4 x i = f i := fun i hi => by rw [upd_eq, if_neg hi]
  refine ⟨h.n, h.v, h.s, h.l, hx, fun i hi => ?_, fun i hi => ?_, fun v hv2 => ?_, fun v hv2 => ?_, h.e.congr hW.el (fun i h1 h2 => hne i (by omega)), fun k q hq => ?_⟩
  · rw [hne _ (by omega)]; exact h.t i hi
  · rw [hne _ (by omega)]; exact h.c i hi
  · rw [hne _ (by omega)]; exact h.y v hv2
  · rw [hne _ (by omega)]; exact h.k v hv2
  · rw [hne _ (by omega), hne _ (by omega)]; exact h.sn k q hq
theorem WG.force {g : GC} {o : Option Nat} (h : WG g) (ho : ∀ i, o = some i → i < (gL g).length) : WG (gForce g o) := ⟨h.n, h.c, h.ed, h.eo, h.v, h.y, h.k, h.ks, h.ki, h.sl, h.so, h.t, h.ll, ho⟩
/-- what an undoing brings back doesn't hang on the law in force, nor on what was seen, nor on the laws -/
theorem MUndo.force {f so : Nat → Int32} {n : Int32} {g : GC} {u : List (Nat × Snap)} {o : Option Nat} (h : MUndo f so n g u) (ho : ∀ i, o = some i → i < (gL g).length) : MUndo f so n (gForce g o) u := by
  obtain ⟨h1, h2, h3⟩ := h
  refine ⟨h1, h2, fun k q hq => ?_⟩
  obtain ⟨g1, g2, g3, g4⟩ := h3 k q hq
  exact ⟨g1, g2, g3, WG.force (g := unsnap g q.2) g4 ho⟩
theorem WG.see {g : GC} {q : List (Nat × Nat)} (h : WG g) (hl : q.length ≤ 6) (hq : ∀ x ∈ q, x.1 < gV g ∧ x.2 < gN g) : WG (gSee g q) := ⟨h.n, h.c, h.ed, h.eo, h.v, h.y, h.k, h.ks, h.ki, hl, hq, h.t, h.ll, h.fo⟩
theorem MUndo.see {f so : Nat → Int32} {n : Int32} {g : GC} {u : List (Nat × Snap)} {q : List (Nat × Nat)} (h : MUndo f so n g u) (hl : q.length ≤ 6) (hq : ∀ x ∈ q, x.1 < gV g ∧ x.2 < gN g) : MUndo f so n (gSee g q) u := by
  obtain ⟨h1, h2, h3⟩ := h
  refine ⟨h1, h2, fun k x hx => ?_⟩
  obtain ⟨g1, g2, g3, g4⟩ := h3 k x hx
  exact ⟨g1, g2, g3, WG.see (g := unsnap g x.2) g4 hl hq⟩
theorem MRow.see0 {f : Nat → Int32} {g : GC} (h : MRow f g) (hW : WG g) : MRow (upd f 2 (nI 0)) (gSee g []) := by
  have hn := hW.n
  have hv := hW.v
  have hne : ∀ i, i ≠ 2 → upd f 2 (nI 0) i = f i := fun i hi => by rw [upd_eq, if_neg hi]
  refine ⟨h.n, h.v, rfl, h.l, h.fo, fun i hi => ?_, fun i hi => ?_, fun v hv2 => ?_, fun v hv2 => ?_, h.e.congr hW.el (fun i h1 h2 => hne i (by omega)), fun k q hq => absurd hq (by simp [gSee, gS])⟩
  · rw [hne _ (by omega)]; exact h.t i hi
  · rw [hne _ (by omega)]; exact h.c i hi
  · rw [hne _ (by omega)]; exact h.y v hv2
  · rw [hne _ (by omega)]; exact h.k v hv2
theorem MRow.see1 {f : Nat → Int32} {g : GC} {v n : Nat} (h : MRow f g) (hW : WG g) (hl : (gS g).length < 6) : MRow (upd (upd (upd f (98 + 2 * (gS g).length) (nI v)) (98 + 2 * (gS g).length + 1) (nI n)) 2 (nI ((gS g).length + 1))) (gSee g (gS g ++ [(v, n)])) := by
  have hn := hW.n
  have hv := hW.v
  have hne : ∀ i, i ≠ 2 → i ≠ 98 + 2 * (gS g).length → i ≠ 98 + 2 * (gS g).length + 1 → upd (upd (upd f (98 + 2 * (gS g).length) (nI v)) (98 + 2 * (gS g).length + 1) (nI n)) 2 (nI ((gS g).length + 1)) i = f i := fun i h1 h2 h3 => by
    rw [upd_eq, upd_eq, upd_eq, if_neg h1, if_neg h3, if_neg h2]
  refine ⟨by rw [hne _ (by omega) (by omega) (by omega)]; exact h.n, by rw [hne _ (by omega) (by omega) (by omega)]; exact h.v, ?_, by rw [hne _ (by omega) (by omega) (by omega)]; exact h.l, by rw [hne _ (by omega) (by omega) (by omega)]; exact h.fo, fun i hi => ?_, fun i hi => ?_, fun v hv2 => ?_, fun v hv2 => ?_, h.e.congr hW.el (fun i h1 h2 => hne i (by omega) (by omega) (by omega)), fun k q hq => ?_⟩
  · show nI ((gS g).length + 1) = nI (gS g ++ [(v, n)]).length
    rw [List.length_append]
    rfl
  · rw [hne _ (by omega) (by omega) (by omega)]; exact h.t i hi
  · have hi2 : i < gN g := hi
    rw [hne _ (by omega) (by omega) (by omega)]; exact h.c i hi2
  · have hv3 : v < gV g := hv2
    rw [hne _ (by omega) (by omega) (by omega)]; exact h.y v hv3
  · have hv3 : v < gV g := hv2
    rw [hne _ (by omega) (by omega) (by omega)]; exact h.k v hv3
  · have hq2 : (gS g ++ [(v, n)])[k]? = some q := hq
    rw [List.getElem?_append] at hq2
    by_cases hk : k < (gS g).length
    · rw [if_pos hk] at hq2
      rw [hne _ (by omega) (by omega) (by omega), hne _ (by omega) (by omega) (by omega)]
      exact h.sn k q hq2
    · rw [if_neg hk] at hq2
      have hk2 : k = (gS g).length := by
        by_cases hz : k - (gS g).length < 1
        · omega
        · rw [List.getElem?_eq_none (by simp; omega)] at hq2
          cases hq2
      subst hk2
      simp only [Nat.sub_self, List.getElem?_cons_zero, Option.some.injEq] at hq2
      subst hq2
      constructor
      · rw [upd_eq, upd_eq, upd_eq, if_neg (by omega), if_neg (by omega), if_pos rfl]
      · rw [upd_eq, upd_eq, if_neg (by omega), if_pos rfl]
theorem opForce_no {x : Int32} {s : SG} (h1 : ¬ x = -1) (h2 : ¬ inN x (gL (sG s)).length) : opForce x s = sNo 2 s := by
  unfold opForce
  exact (if_neg h1).trans (if_neg h2)
theorem opForce_n {x : Int32} {s : SG} (h1 : x = -1) : opForce x s = sOk (fInt (gF (sG s))) (wG s (gForce (sG s) none)) := by
  unfold opForce
  exact if_pos h1
theorem opForce_s {x : Int32} {s : SG} (h1 : ¬ x = -1) (h2 : inN x (gL (sG s)).length) : opForce x s = sOk (fInt (gF (sG s))) (wG s (gForce (sG s) (some (tn x)))) := by
  unfold opForce
  exact (if_neg h1).trans (if_pos h2)
theorem c_M_force {E : EV} {w : Mem} {x : Int32} {s : SG} (h : MInv w s) : T E m_M_force 2 0 0 [.ref 89, .int x] w (fun r w2 => r = some (.int (opForce x s).1) ∧ MInv w2 (opForce x s).2 ∧ FrM w w2) := by
  refine T_of (L := [.ref 89, .int x]) cf_M_force rfl (Nat.le_of_ble_eq_true rfl) (fun X hX hF => ?_)
  obtain ⟨⟨hR, hL, hW⟩, hU, hT, hI, hRf, hSt, hFa, hSm, hSp, hDr, hOr⟩ := id h
  have hll := hW.ll
  by_cases h1 : x = -1
  · refine g_aload0 hX d_M_force_0 ?_
    refine g_iconst (v := nI 0) hX d_M_force_1 rfl ?_
    refine g_putI hX d_M_force_2 fl_M_170 (lv_89 _) ?_
    refine g_aload0 hX d_M_force_5 ?_
    refine g_iload1 hX d_M_force_6 ?_
    refine g_callV (As := [_]) hX hF.1 d_M_force_7 ml_M_406 cf_M_isLaw cv_M_isLaw rfl rfl (c_M_isLaw hR hW) (rcv_obj hX (lv_89 _) rfl rfl) (by omega) (by omega) (by omega) (Nat.le_of_ble_eq_true rfl) ?_
    refine ret_k ?_
    refine g_topi (show _ = nI 1 by rw [if_pos h1]; rfl) ?_
    refine g_if_eq hX d_M_force_10 (fun h => absurd h (by decide)) (fun c0 => ?_)
    refine g_aload0 hX d_M_force_13 ?_
    refine g_iconst (v := nI 4) hX d_M_force_14 rfl ?_
    refine g_iload1 hX d_M_force_15 ?_
    refine g_callV (As := [_, _]) hX hF.1 d_M_force_16 ml_M_240 cf_M_change cv_M_change rfl rfl (c_M_change (by omega)) (rcv_obj hX (lv_89 _) rfl rfl) (by omega) (by omega) (by omega) (Nat.le_of_ble_eq_true rfl) ?_
    refine ret_k ?_
    refine g_goto hX d_M_force_19 ?_
    refine g_iret hX hF d_M_force_28 (by omega) (by omega) ?_
    rw [opForce_n h1]
    refine ⟨congrArg (fun x => some (Value.int x)) hR.fo, ⟨⟨hR.force h1 hW, hL.congr (fun i hi => show upd (rI w 91) _ _ i = rI w 91 i by rw [upd_eq, if_neg (by omega)]), hW.force (fun i hi => by cases hi)⟩, hU.force (fun i hi => by cases hi), hT, hI, hRf, rfl, hFa, hSm, hSp, hDr, hOr⟩, (by repeat (first | exact FrM.rf _ | refine FrM.I (by decide) ?_ | refine FrM.A (by decide) ?_ | refine FrM.J9 ?_ | refine FrM.J (by decide) ?_))⟩
  by_cases h2 : inN x (gL (sG s)).length
  · refine g_aload0 hX d_M_force_0 ?_
    refine g_iconst (v := nI 0) hX d_M_force_1 rfl ?_
    refine g_putI hX d_M_force_2 fl_M_170 (lv_89 _) ?_
    refine g_aload0 hX d_M_force_5 ?_
    refine g_iload1 hX d_M_force_6 ?_
    refine g_callV (As := [_]) hX hF.1 d_M_force_7 ml_M_406 cf_M_isLaw cv_M_isLaw rfl rfl (c_M_isLaw hR hW) (rcv_obj hX (lv_89 _) rfl rfl) (by omega) (by omega) (by omega) (Nat.le_of_ble_eq_true rfl) ?_
    refine ret_k ?_
    refine g_topi (show _ = nI 1 by rw [if_neg h1, b2i_t h2]; rfl) ?_
    refine g_if_eq hX d_M_force_10 (fun h => absurd h (by decide)) (fun c0 => ?_)
    refine g_aload0 hX d_M_force_13 ?_
    refine g_iconst (v := nI 4) hX d_M_force_14 rfl ?_
    refine g_iload1 hX d_M_force_15 ?_
    refine g_callV (As := [_, _]) hX hF.1 d_M_force_16 ml_M_240 cf_M_change cv_M_change rfl rfl (c_M_change (by omega)) (rcv_obj hX (lv_89 _) rfl rfl) (by omega) (by omega) (by omega) (Nat.le_of_ble_eq_true rfl) ?_
    refine ret_k ?_
    refine g_goto hX d_M_force_19 ?_
    refine g_iret hX hF d_M_force_28 (by omega) (by omega) ?_
    rw [opForce_s h1 h2]
    refine ⟨congrArg (fun x => some (Value.int x)) hR.fo, ⟨⟨hR.force (by obtain ⟨j, hj, rfl, htn⟩ := inN_of h2 (by omega); rw [htn]; rfl) hW, hL.congr (fun i hi => show upd (rI w 91) _ _ i = rI w 91 i by rw [upd_eq, if_neg (by omega)]), hW.force (fun i hi => by obtain ⟨j, hj, rfl, htn⟩ := inN_of h2 (by omega); rw [htn] at hi; cases hi; exact hj)⟩, hU.force (fun i hi => by obtain ⟨j, hj, rfl, htn⟩ := inN_of h2 (by omega); rw [htn] at hi; cases hi; exact hj), hT, hI, hRf, rfl, hFa, hSm, hSp, hDr, hOr⟩, (by repeat (first | exact FrM.rf _ | refine FrM.I (by decide) ?_ | refine FrM.A (by decide) ?_ | refine FrM.J9 ?_ | refine FrM.J (by decide) ?_))⟩
  · refine g_aload0 hX d_M_force_0 ?_
    refine g_iconst (v := nI 0) hX d_M_force_1 rfl ?_
    refine g_putI hX d_M_force_2 fl_M_170 (lv_89 _) ?_
    refine g_aload0 hX d_M_force_5 ?_
    refine g_iload1 hX d_M_force_6 ?_
    refine g_callV (As := [_]) hX hF.1 d_M_force_7 ml_M_406 cf_M_isLaw cv_M_isLaw rfl rfl (c_M_isLaw hR hW) (rcv_obj hX (lv_89 _) rfl rfl) (by omega) (by omega) (by omega) (Nat.le_of_ble_eq_true rfl) ?_
    refine ret_k ?_
    refine g_topi (show _ = nI 0 by rw [if_neg h1, b2i_f h2]; rfl) ?_
    refine g_if_eq hX d_M_force_10 (fun c0 => ?_) (fun h => absurd (by decide) h)
    refine g_aload0 hX d_M_force_22 ?_
    refine g_bipush (v := -2) hX d_M_force_23 rfl ?_
    refine g_callV (As := [_]) hX hF.1 d_M_force_25 ml_M_179 cf_M_tell cv_M_tell rfl rfl (c_M_tellN (k := 2) (by decide) (by decide)) (rcv_obj hX (lv_89 _) rfl rfl) (by omega) (by omega) (by omega) (Nat.le_of_ble_eq_true rfl) ?_
    refine ret_k ?_
    refine g_iret hX hF d_M_force_28 (by omega) (by omega) ?_
    rw [opForce_no h1 h2]
    exact ⟨rfl, (h.thr (x := nI 0)).no (k := 2) (by decide), (by repeat (first | exact FrM.rf _ | refine FrM.I (by decide) ?_ | refine FrM.A (by decide) ?_ | refine FrM.J9 ?_ | refine FrM.J (by decide) ?_))⟩
theorem c_M_forget {E : EV} {w : Mem} {s : SG} (h : MInv w s) : T E m_M_forget 0 0 0 [.ref 89] w (fun r w2 => r = some (.int (opForget s).1) ∧ MInv w2 (opForget s).2 ∧ FrM w w2) := by
  refine T_of (L := [.ref 89, un]) cf_M_forget rfl (Nat.le_of_ble_eq_true rfl) (fun X hX hF => ?_)
  obtain ⟨⟨hR, hL, hW⟩, hU, hT, hI, hRf, hSt, hFa, hSm, hSp, hDr, hOr⟩ := id h
  have hn := hW.n
  have hv := hW.v
  have he := hW.el
  refine g_aload0 hX d_M_forget_0 ?_
  refine g_iconst (v := nI 0) hX d_M_forget_1 rfl ?_
  refine g_putI hX d_M_forget_2 fl_M_170 (lv_89 _) ?_
  refine g_aload0 hX d_M_forget_5 ?_
  refine g_getF hX d_M_forget_6 fl_M_13 (lv_89 _) ?_
  refine g_iconst (v := nI 2) hX d_M_forget_9 rfl ?_
  refine g_iald hX d_M_forget_10 (lv_91 _) rfl (by decide) ?_
  refine g_topi hR.s ?_
  refine g_istore1 hX d_M_forget_11 rfl (by decide) ?_
  refine g_aload0 hX d_M_forget_12 ?_
  refine g_getF hX d_M_forget_13 fl_M_13 (lv_89 _) ?_
  refine g_iconst (v := nI 2) hX d_M_forget_16 rfl ?_
  refine g_iconst (v := nI 0) hX d_M_forget_17 rfl ?_
  refine g_iast hX d_M_forget_18 (lv_91 _) rfl (by decide) ?_
  refine g_iload1 hX d_M_forget_19 ?_
  refine g_iret hX hF d_M_forget_20 (by omega) (by omega) ?_
  exact ⟨rfl, ⟨⟨hR.see0 hW, hL.congr (fun i hi => show upd (rI w 91) _ _ i = rI w 91 i by rw [upd_eq, if_neg (by omega)]), hW.see (by simp) (fun x hx => by simp at hx)⟩, hU.see (by simp) (fun x hx => by simp at hx), hT, hI, hRf, hSt, hFa, hSm, hSp, hDr, hOr⟩, (by repeat (first | exact FrM.rf _ | refine FrM.I (by decide) ?_ | refine FrM.A (by decide) ?_ | refine FrM.J9 ?_ | refine FrM.J (by decide) ?_))⟩
theorem opSeen_2 {v n : Int32} {s : SG} (h : ¬ (inN v (gV (sG s)) ∧ inN n (gN (sG s)))) : opSeen v n s = sNo 2 s := by
  unfold opSeen
  exact if_pos h
theorem opSeen_5 {v n : Int32} {s : SG} (h : inN v (gV (sG s)) ∧ inN n (gN (sG s))) (h6 : (gS (sG s)).length = 6) : opSeen v n s = sNo 5 s := by
  unfold opSeen
  exact (if_neg (not_not_intro h)).trans (if_pos h6)
theorem opSeen_ok {v n : Int32} {s : SG} (h : inN v (gV (sG s)) ∧ inN n (gN (sG s))) (h6 : ¬ (gS (sG s)).length = 6) : opSeen v n s = sOk (nI ((gS (sG s)).length + 1)) (wG s (gSee (sG s) (gS (sG s) ++ [(tn v, tn n)]))) := by
  unfold opSeen
  exact (if_neg (not_not_intro h)).trans (if_neg h6)
theorem seen_in {g : GC} {v n : Nat} (hW : WG g) (hv : v < gV g) (hn : n < gN g) : ∀ x ∈ gS g ++ [(v, n)], x.1 < gV g ∧ x.2 < gN g := by
  intro x hx
  rcases List.mem_append.mp hx with h | h
  · exact hW.so x h
  · rw [List.mem_singleton.mp h]
    exact ⟨hv, hn⟩
theorem c_M_seen {E : EV} {w : Mem} {v n : Int32} {s : SG} (h : MInv w s) : T E m_M_seen 2 0 0 [.ref 89, .int v, .int n] w (fun r w2 => r = some (.int (opSeen v n s).1) ∧ MInv w2 (opSeen v n s).2 ∧ FrM w w2) := by
  refine T_of (L := [.ref 89, .int v, .int n, un]) cf_M_seen rfl (Nat.le_of_ble_eq_true rfl) (fun X hX hF => ?_)
  obtain ⟨⟨hR, hL, hW⟩, hU, hT, hI, hRf, hSt, hFa, hSm, hSp, hDr, hOr⟩ := id h
  have hn := hW.n
  have hv := hW.v
  have he := hW.el
  have hsl := hW.sl
  refine g_aload0 hX d_M_seen_0 ?_
  refine g_iconst (v := nI 0) hX d_M_seen_1 rfl ?_
  refine g_putI hX d_M_seen_2 fl_M_170 (lv_89 _) ?_
  refine g_aload0 hX d_M_seen_5 ?_
  refine g_iload1 hX d_M_seen_6 ?_
  refine g_callV (As := [_]) hX hF.1 d_M_seen_7 ml_M_221 cf_M_isVertex cv_M_isVertex rfl rfl (c_M_isVertex hR hW) (rcv_obj hX (lv_89 _) rfl rfl) (by omega) (by omega) (by omega) (Nat.le_of_ble_eq_true rfl) ?_
  refine ret_k ?_
  refine g_ifB_eq hX d_M_seen_10 (fun e10 => ?_) (fun e10 => ?_)
  · refine g_aload0 hX d_M_seen_21 ?_
    refine g_bipush (v := -2) hX d_M_seen_22 rfl ?_
    refine g_callV (As := [_]) hX hF.1 d_M_seen_24 ml_M_179 cf_M_tell cv_M_tell rfl rfl (c_M_tellN (k := 2) (by decide) (by decide)) (rcv_obj hX (lv_89 _) rfl rfl) (by omega) (by omega) (by omega) (Nat.le_of_ble_eq_true rfl) ?_
    refine ret_k ?_
    refine g_iret hX hF d_M_seen_27 (by omega) (by omega) ?_
    rw [opSeen_2 (fun q => by first | exact e10 q.1 | exact e18 q.2)]
    exact ⟨rfl, (h.thr (x := nI 0)).no (k := 2) (by decide), (by repeat (first | exact FrM.rf _ | refine FrM.I (by decide) ?_ | refine FrM.A (by decide) ?_ | refine FrM.J9 ?_ | refine FrM.J (by decide) ?_))⟩
  · obtain ⟨a, ha, rfl, hta⟩ := inN_of e10 (by omega)
    refine g_aload0 hX d_M_seen_13 ?_
    refine g_iload2 hX d_M_seen_14 ?_
    refine g_callV (As := [_]) hX hF.1 d_M_seen_15 ml_M_214 cf_M_isNode cv_M_isNode rfl rfl (c_M_isNode hR hW) (rcv_obj hX (lv_89 _) rfl rfl) (by omega) (by omega) (by omega) (Nat.le_of_ble_eq_true rfl) ?_
    refine ret_k ?_
    refine g_ifB_ne hX d_M_seen_18 (fun e18 => ?_) (fun e18 => ?_)
    · obtain ⟨b, hb, rfl, htb⟩ := inN_of e18 (by omega)
      refine g_aload0 hX d_M_seen_28 ?_
      refine g_getF hX d_M_seen_29 fl_M_13 (lv_89 _) ?_
      refine g_iconst (v := nI 2) hX d_M_seen_32 rfl ?_
      refine g_iald hX d_M_seen_33 (lv_91 _) rfl (by decide) ?_
      refine g_topi hR.s ?_
      refine g_istore3 hX d_M_seen_34 rfl (by decide) ?_
      refine g_iload3 hX d_M_seen_35 ?_
      refine g_bipush (v := nI 6) hX d_M_seen_36 rfl ?_
      refine g_icmpN_ne hX d_M_seen_38 (by omega) (by omega) (fun e38 => ?_) (fun e38 => ?_)
      · refine g_aload0 hX d_M_seen_48 ?_
        refine g_getF hX d_M_seen_49 fl_M_13 (lv_89 _) ?_
        refine g_bipush (v := nI 98) hX d_M_seen_52 rfl ?_
        refine g_iconst (v := nI 2) hX d_M_seen_54 rfl ?_
        refine g_iload3 hX d_M_seen_55 ?_
        refine g_imulN hX d_M_seen_56 ?_
        refine g_iaddN hX d_M_seen_57 ?_
        refine g_iload1 hX d_M_seen_58 ?_
        refine g_iast hX d_M_seen_59 (lv_91 _) rfl (by omega) ?_
        refine g_aload0 hX d_M_seen_60 ?_
        refine g_getF hX d_M_seen_61 fl_M_13 (lv_89 _) ?_
        refine g_bipush (v := nI 98) hX d_M_seen_64 rfl ?_
        refine g_iconst (v := nI 2) hX d_M_seen_66 rfl ?_
        refine g_iload3 hX d_M_seen_67 ?_
        refine g_imulN hX d_M_seen_68 ?_
        refine g_iaddN hX d_M_seen_69 ?_
        refine g_iconst (v := nI 1) hX d_M_seen_70 rfl ?_
        refine g_iaddN hX d_M_seen_71 ?_
        refine g_iload2 hX d_M_seen_72 ?_
        refine g_iast hX d_M_seen_73 (lv_91 _) rfl (by omega) ?_
        refine g_aload0 hX d_M_seen_74 ?_
        refine g_getF hX d_M_seen_75 fl_M_13 (lv_89 _) ?_
        refine g_iconst (v := nI 2) hX d_M_seen_78 rfl ?_
        refine g_dup2 hX d_M_seen_79 rfl rfl ?_
        refine g_iald hX d_M_seen_80 (lv_91 _) rfl (by decide) ?_
        refine g_topi (show upd (upd (rI w 91) _ _) _ _ 2 = nI (gS (sG s)).length by rw [upd_eq, upd_eq, if_neg (by omega), if_neg (by omega)]; exact hR.s) ?_
        refine g_iconst (v := nI 1) hX d_M_seen_81 rfl ?_
        refine g_iaddN hX d_M_seen_82 ?_
        refine g_iast hX d_M_seen_83 (lv_91 _) rfl (by decide) ?_
        refine g_aload0 hX d_M_seen_84 ?_
        refine g_iload3 hX d_M_seen_85 ?_
        refine g_iconst (v := nI 1) hX d_M_seen_86 rfl ?_
        refine g_iaddN hX d_M_seen_87 ?_
        refine g_callV (As := [_]) hX hF.1 d_M_seen_88 ml_M_179 cf_M_tell cv_M_tell rfl rfl (c_M_tell (by omega)) (rcv_obj hX (lv_89 _) rfl rfl) (by omega) (by omega) (by omega) (Nat.le_of_ble_eq_true rfl) ?_
        refine ret_k ?_
        refine g_iret hX hF d_M_seen_91 (by omega) (by omega) ?_
        rw [opSeen_ok ⟨e10, e18⟩ e38, hta, htb]
        exact ⟨rfl, ⟨⟨hR.see1 hW (by omega), hL.congr (fun i hi => show upd (upd (upd (rI w 91) _ _) _ _) _ _ i = rI w 91 i by rw [upd_eq, upd_eq, upd_eq, if_neg (by omega), if_neg (by omega), if_neg (by omega)]), hW.see (by simp; omega) (seen_in hW ha hb)⟩, hU.see (by simp; omega) (seen_in hW ha hb), hT, hI, hRf, rfl, hFa, hSm, hSp, hDr, hOr⟩, (by repeat (first | exact FrM.rf _ | refine FrM.I (by decide) ?_ | refine FrM.A (by decide) ?_ | refine FrM.J9 ?_ | refine FrM.J (by decide) ?_))⟩
      · refine g_aload0 hX d_M_seen_41 ?_
        refine g_bipush (v := -5) hX d_M_seen_42 rfl ?_
        refine g_callV (As := [_]) hX hF.1 d_M_seen_44 ml_M_179 cf_M_tell cv_M_tell rfl rfl (c_M_tellN (k := 5) (by decide) (by decide)) (rcv_obj hX (lv_89 _) rfl rfl) (by omega) (by omega) (by omega) (Nat.le_of_ble_eq_true rfl) ?_
        refine ret_k ?_
        refine g_iret hX hF d_M_seen_47 (by omega) (by omega) ?_
        rw [opSeen_5 ⟨e10, e18⟩ e38]
        exact ⟨rfl, (h.thr (x := nI 0)).no (k := 5) (by decide), (by repeat (first | exact FrM.rf _ | refine FrM.I (by decide) ?_ | refine FrM.A (by decide) ?_ | refine FrM.J9 ?_ | refine FrM.J (by decide) ?_))⟩
    · refine g_aload0 hX d_M_seen_21 ?_
      refine g_bipush (v := -2) hX d_M_seen_22 rfl ?_
      refine g_callV (As := [_]) hX hF.1 d_M_seen_24 ml_M_179 cf_M_tell cv_M_tell rfl rfl (c_M_tellN (k := 2) (by decide) (by decide)) (rcv_obj hX (lv_89 _) rfl rfl) (by omega) (by omega) (by omega) (Nat.le_of_ble_eq_true rfl) ?_
      refine ret_k ?_
      refine g_iret hX hF d_M_seen_27 (by omega) (by omega) ?_
      rw [opSeen_2 (fun q => by first | exact e10 q.1 | exact e18 q.2)]
      exact ⟨rfl, (h.thr (x := nI 0)).no (k := 2) (by decide), (by repeat (first | exact FrM.rf _ | refine FrM.I (by decide) ?_ | refine FrM.A (by decide) ?_ | refine FrM.J9 ?_ | refine FrM.J (by decide) ?_))⟩
