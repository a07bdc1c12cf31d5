def m_Si_lineUp : MR := (⟨"SubgraphDesk$Sieve", "lineUp", "(LSubgraphDesk$Board;)V"⟩, prog_10_method_4_code, 7, none)
theorem cf_Si_lineUp : CF m_Si_lineUp 1 := ⟨gd 1289 (by decide +kernel) rfl, gd 147 (by decide +kernel) rfl, by decide +kernel, by decide, by decide +kernel⟩
theorem cv_Si_lineUp : CV m_Si_lineUp := ⟨gd 1288 (by decide +kernel) rfl, gd 45 (by decide +kernel) rfl⟩
def m_Si_shrink : MR := (⟨"SubgraphDesk$Sieve", "shrink", "(LSubgraphDesk$Board;I)V"⟩, prog_10_method_6_code, 6, none)
theorem cf_Si_shrink : CF m_Si_shrink 2 := ⟨gd 1299 (by decide +kernel) rfl, gd 147 (by decide +kernel) rfl, by decide +kernel, by decide, by decide +kernel⟩
theorem cv_Si_shrink : CV m_Si_shrink := ⟨gd 1298 (by decide +kernel) rfl, gd 47 (by decide +kernel) rfl⟩
theorem d_Si_lineUp_0 : Dc prog_10_method_4_code 0 (.iconst 0) 1 1 := ⟨by decide +kernel, rfl⟩
theorem d_Si_lineUp_1 : Dc prog_10_method_4_code 1 (.istore_n 2) 1 2 := ⟨by decide +kernel, rfl⟩
theorem d_Si_lineUp_2 : Dc prog_10_method_4_code 2 (.iconst 0) 1 3 := ⟨by decide +kernel, rfl⟩
theorem d_Si_lineUp_3 : Dc prog_10_method_4_code 3 (.istore_n 3) 1 4 := ⟨by decide +kernel, rfl⟩
theorem d_Si_lineUp_4 : Dc prog_10_method_4_code 4 (.iconst 0) 1 5 := ⟨by decide +kernel, rfl⟩
theorem d_Si_lineUp_5 : Dc prog_10_method_4_code 5 (.istore 4) 2 7 := ⟨by decide +kernel, rfl⟩
theorem d_Si_lineUp_7 : Dc prog_10_method_4_code 7 (.iload 4) 2 9 := ⟨by decide +kernel, rfl⟩
theorem d_Si_lineUp_9 : Dc prog_10_method_4_code 9 (.aload_n 1) 1 10 := ⟨by decide +kernel, rfl⟩
theorem d_Si_lineUp_10 : Dc prog_10_method_4_code 10 (.getfield 18) 3 13 := ⟨by decide +kernel, rfl⟩
theorem d_Si_lineUp_13 : Dj prog_10_method_4_code 13 (.if_icmp .ge 109) 16 109 122 := ⟨by decide +kernel, rfl, rfl⟩
theorem d_Si_lineUp_16 : Dc prog_10_method_4_code 16 (.iload 4) 2 18 := ⟨by decide +kernel, rfl⟩
theorem d_Si_lineUp_18 : Dc prog_10_method_4_code 18 (.iload_n 3) 1 19 := ⟨by decide +kernel, rfl⟩
theorem d_Si_lineUp_19 : Dj prog_10_method_4_code 19 (.if_icmp .ne 29) 22 29 48 := ⟨by decide +kernel, rfl, rfl⟩
theorem d_Si_lineUp_22 : Dc prog_10_method_4_code 22 (.aload_n 0) 1 23 := ⟨by decide +kernel, rfl⟩
theorem d_Si_lineUp_23 : Dc prog_10_method_4_code 23 (.getfield 15) 3 26 := ⟨by decide +kernel, rfl⟩
theorem d_Si_lineUp_26 : Dc prog_10_method_4_code 26 (.iload_n 3) 1 27 := ⟨by decide +kernel, rfl⟩
theorem d_Si_lineUp_27 : Dc prog_10_method_4_code 27 (.aload_n 0) 1 28 := ⟨by decide +kernel, rfl⟩
theorem d_Si_lineUp_28 : Dc prog_10_method_4_code 28 (.aload_n 1) 1 29 := ⟨by decide +kernel, rfl⟩
theorem d_Si_lineUp_29 : Dc prog_10_method_4_code 29 (.iload_n 2) 1 30 := ⟨by decide +kernel, rfl⟩
theorem d_Si_lineUp_30 : Dc prog_10_method_4_code 30 (.invokevirtual 46) 3 33 := ⟨by decide +kernel, rfl⟩
theorem d_Si_lineUp_33 : Dc prog_10_method_4_code 33 (.iastore) 1 34 := ⟨by decide +kernel, rfl⟩
theorem d_Si_lineUp_34 : Dc prog_10_method_4_code 34 (.iload_n 2) 1 35 := ⟨by decide +kernel, rfl⟩
theorem d_Si_lineUp_35 : Dc prog_10_method_4_code 35 (.iconst 1) 1 36 := ⟨by decide +kernel, rfl⟩
theorem d_Si_lineUp_36 : Dc prog_10_method_4_code 36 (.aload_n 0) 1 37 := ⟨by decide +kernel, rfl⟩
theorem d_Si_lineUp_37 : Dc prog_10_method_4_code 37 (.getfield 15) 3 40 := ⟨by decide +kernel, rfl⟩
theorem d_Si_lineUp_40 : Dc prog_10_method_4_code 40 (.iload_n 3) 1 41 := ⟨by decide +kernel, rfl⟩
theorem d_Si_lineUp_41 : Dc prog_10_method_4_code 41 (.iaload) 1 42 := ⟨by decide +kernel, rfl⟩
theorem d_Si_lineUp_42 : Dc prog_10_method_4_code 42 (.ishl) 1 43 := ⟨by decide +kernel, rfl⟩
theorem d_Si_lineUp_43 : Dc prog_10_method_4_code 43 (.ior) 1 44 := ⟨by decide +kernel, rfl⟩
theorem d_Si_lineUp_44 : Dc prog_10_method_4_code 44 (.istore_n 2) 1 45 := ⟨by decide +kernel, rfl⟩
theorem d_Si_lineUp_45 : Dc prog_10_method_4_code 45 (.iinc 3 1) 3 48 := ⟨by decide +kernel, rfl⟩
theorem d_Si_lineUp_48 : Dc prog_10_method_4_code 48 (.aload_n 1) 1 49 := ⟨by decide +kernel, rfl⟩
theorem d_Si_lineUp_49 : Dc prog_10_method_4_code 49 (.getfield 50) 3 52 := ⟨by decide +kernel, rfl⟩
theorem d_Si_lineUp_52 : Dc prog_10_method_4_code 52 (.aload_n 0) 1 53 := ⟨by decide +kernel, rfl⟩
theorem d_Si_lineUp_53 : Dc prog_10_method_4_code 53 (.getfield 15) 3 56 := ⟨by decide +kernel, rfl⟩
theorem d_Si_lineUp_56 : Dc prog_10_method_4_code 56 (.iload 4) 2 58 := ⟨by decide +kernel, rfl⟩
theorem d_Si_lineUp_58 : Dc prog_10_method_4_code 58 (.iaload) 1 59 := ⟨by decide +kernel, rfl⟩
theorem d_Si_lineUp_59 : Dc prog_10_method_4_code 59 (.iaload) 1 60 := ⟨by decide +kernel, rfl⟩
theorem d_Si_lineUp_60 : Dc prog_10_method_4_code 60 (.iload_n 2) 1 61 := ⟨by decide +kernel, rfl⟩
theorem d_Si_lineUp_61 : Dc prog_10_method_4_code 61 (.iconst (-1)) 1 62 := ⟨by decide +kernel, rfl⟩
theorem d_Si_lineUp_62 : Dc prog_10_method_4_code 62 (.ixor) 1 63 := ⟨by decide +kernel, rfl⟩
theorem d_Si_lineUp_63 : Dc prog_10_method_4_code 63 (.iand) 1 64 := ⟨by decide +kernel, rfl⟩
theorem d_Si_lineUp_64 : Dc prog_10_method_4_code 64 (.istore 5) 2 66 := ⟨by decide +kernel, rfl⟩
theorem d_Si_lineUp_66 : Dc prog_10_method_4_code 66 (.iconst 0) 1 67 := ⟨by decide +kernel, rfl⟩
theorem d_Si_lineUp_67 : Dc prog_10_method_4_code 67 (.istore 6) 2 69 := ⟨by decide +kernel, rfl⟩
theorem d_Si_lineUp_69 : Dc prog_10_method_4_code 69 (.iload 6) 2 71 := ⟨by decide +kernel, rfl⟩
theorem d_Si_lineUp_71 : Dc prog_10_method_4_code 71 (.aload_n 1) 1 72 := ⟨by decide +kernel, rfl⟩
theorem d_Si_lineUp_72 : Dc prog_10_method_4_code 72 (.getfield 18) 3 75 := ⟨by decide +kernel, rfl⟩
theorem d_Si_lineUp_75 : Dj prog_10_method_4_code 75 (.if_icmp .ge 36) 78 36 111 := ⟨by decide +kernel, rfl, rfl⟩
theorem d_Si_lineUp_78 : Dc prog_10_method_4_code 78 (.iload_n 3) 1 79 := ⟨by decide +kernel, rfl⟩
theorem d_Si_lineUp_79 : Dc prog_10_method_4_code 79 (.iconst 5) 1 80 := ⟨by decide +kernel, rfl⟩
theorem d_Si_lineUp_80 : Dj prog_10_method_4_code 80 (.if_icmp .ge 31) 83 31 111 := ⟨by decide +kernel, rfl, rfl⟩
theorem d_Si_lineUp_83 : Dc prog_10_method_4_code 83 (.iload 5) 2 85 := ⟨by decide +kernel, rfl⟩
theorem d_Si_lineUp_85 : Dc prog_10_method_4_code 85 (.iload 6) 2 87 := ⟨by decide +kernel, rfl⟩
theorem d_Si_lineUp_87 : Dc prog_10_method_4_code 87 (.ishr) 1 88 := ⟨by decide +kernel, rfl⟩
theorem d_Si_lineUp_88 : Dc prog_10_method_4_code 88 (.iconst 1) 1 89 := ⟨by decide +kernel, rfl⟩
theorem d_Si_lineUp_89 : Dc prog_10_method_4_code 89 (.iand) 1 90 := ⟨by decide +kernel, rfl⟩
theorem d_Si_lineUp_90 : Dc prog_10_method_4_code 90 (.iconst 1) 1 91 := ⟨by decide +kernel, rfl⟩
theorem d_Si_lineUp_91 : Dj prog_10_method_4_code 91 (.if_icmp .ne 14) 94 14 105 := ⟨by decide +kernel, rfl, rfl⟩
theorem d_Si_lineUp_94 : Dc prog_10_method_4_code 94 (.aload_n 0) 1 95 := ⟨by decide +kernel, rfl⟩
theorem d_Si_lineUp_95 : Dc prog_10_method_4_code 95 (.getfield 15) 3 98 := ⟨by decide +kernel, rfl⟩
theorem d_Si_lineUp_98 : Dc prog_10_method_4_code 98 (.iload_n 3) 1 99 := ⟨by decide +kernel, rfl⟩
theorem d_Si_lineUp_99 : Dc prog_10_method_4_code 99 (.iload 6) 2 101 := ⟨by decide +kernel, rfl⟩
theorem d_Si_lineUp_101 : Dc prog_10_method_4_code 101 (.iastore) 1 102 := ⟨by decide +kernel, rfl⟩
theorem d_Si_lineUp_102 : Dc prog_10_method_4_code 102 (.iinc 3 1) 3 105 := ⟨by decide +kernel, rfl⟩
theorem d_Si_lineUp_105 : Dc prog_10_method_4_code 105 (.iinc 6 1) 3 108 := ⟨by decide +kernel, rfl⟩
theorem d_Si_lineUp_108 : Dj prog_10_method_4_code 108 (.goto (-39)) 111 (-39) 69 := ⟨by decide +kernel, rfl, rfl⟩
theorem d_Si_lineUp_111 : Dc prog_10_method_4_code 111 (.iload_n 2) 1 112 := ⟨by decide +kernel, rfl⟩
theorem d_Si_lineUp_112 : Dc prog_10_method_4_code 112 (.iload 5) 2 114 := ⟨by decide +kernel, rfl⟩
theorem d_Si_lineUp_114 : Dc prog_10_method_4_code 114 (.ior) 1 115 := ⟨by decide +kernel, rfl⟩
theorem d_Si_lineUp_115 : Dc prog_10_method_4_code 115 (.istore_n 2) 1 116 := ⟨by decide +kernel, rfl⟩
theorem d_Si_lineUp_116 : Dc prog_10_method_4_code 116 (.iinc 4 1) 3 119 := ⟨by decide +kernel, rfl⟩
theorem d_Si_lineUp_119 : Dj prog_10_method_4_code 119 (.goto (-112)) 122 (-112) 7 := ⟨by decide +kernel, rfl, rfl⟩
theorem d_Si_lineUp_122 : Dc prog_10_method_4_code 122 (.return_) 1 123 := ⟨by decide +kernel, rfl⟩
theorem d_Si_shrink_0 : Dc prog_10_method_6_code 0 (.iconst 0) 1 1 := ⟨by decide +kernel, rfl⟩
theorem d_Si_shrink_1 : Dc prog_10_method_6_code 1 (.istore_n 3) 1 2 := ⟨by decide +kernel, rfl⟩
theorem d_Si_shrink_2 : Dc prog_10_method_6_code 2 (.iload_n 3) 1 3 := ⟨by decide +kernel, rfl⟩
theorem d_Si_shrink_3 : Dc prog_10_method_6_code 3 (.aload_n 1) 1 4 := ⟨by decide +kernel, rfl⟩
theorem d_Si_shrink_4 : Dc prog_10_method_6_code 4 (.getfield 36) 3 7 := ⟨by decide +kernel, rfl⟩
theorem d_Si_shrink_7 : Dj prog_10_method_6_code 7 (.if_icmp .ge 85) 10 85 92 := ⟨by decide +kernel, rfl, rfl⟩
theorem d_Si_shrink_10 : Dc prog_10_method_6_code 10 (.iconst 0) 1 11 := ⟨by decide +kernel, rfl⟩
theorem d_Si_shrink_11 : Dc prog_10_method_6_code 11 (.istore 4) 2 13 := ⟨by decide +kernel, rfl⟩
theorem d_Si_shrink_13 : Dc prog_10_method_6_code 13 (.iload 4) 2 15 := ⟨by decide +kernel, rfl⟩
theorem d_Si_shrink_15 : Dc prog_10_method_6_code 15 (.aload_n 1) 1 16 := ⟨by decide +kernel, rfl⟩
theorem d_Si_shrink_16 : Dc prog_10_method_6_code 16 (.getfield 18) 3 19 := ⟨by decide +kernel, rfl⟩
theorem d_Si_shrink_19 : Dj prog_10_method_6_code 19 (.if_icmp .ge 67) 22 67 86 := ⟨by decide +kernel, rfl, rfl⟩
theorem d_Si_shrink_22 : Dc prog_10_method_6_code 22 (.aload_n 1) 1 23 := ⟨by decide +kernel, rfl⟩
theorem d_Si_shrink_23 : Dc prog_10_method_6_code 23 (.getfield 50) 3 26 := ⟨by decide +kernel, rfl⟩
theorem d_Si_shrink_26 : Dc prog_10_method_6_code 26 (.iload_n 2) 1 27 := ⟨by decide +kernel, rfl⟩
theorem d_Si_shrink_27 : Dc prog_10_method_6_code 27 (.iaload) 1 28 := ⟨by decide +kernel, rfl⟩
theorem d_Si_shrink_28 : Dc prog_10_method_6_code 28 (.iload 4) 2 30 := ⟨by decide +kernel, rfl⟩
theorem d_Si_shrink_30 : Dc prog_10_method_6_code 30 (.ishr) 1 31 := ⟨by decide +kernel, rfl⟩
theorem d_Si_shrink_31 : Dc prog_10_method_6_code 31 (.iconst 1) 1 32 := ⟨by decide +kernel, rfl⟩
theorem d_Si_shrink_32 : Dc prog_10_method_6_code 32 (.iand) 1 33 := ⟨by decide +kernel, rfl⟩
theorem d_Si_shrink_33 : Dc prog_10_method_6_code 33 (.iconst 1) 1 34 := ⟨by decide +kernel, rfl⟩
theorem d_Si_shrink_34 : Dj prog_10_method_6_code 34 (.if_icmp .ne 7) 37 7 41 := ⟨by decide +kernel, rfl, rfl⟩
theorem d_Si_shrink_37 : Dc prog_10_method_6_code 37 (.iconst 1) 1 38 := ⟨by decide +kernel, rfl⟩
theorem d_Si_shrink_38 : Dj prog_10_method_6_code 38 (.goto 4) 41 4 42 := ⟨by decide +kernel, rfl, rfl⟩
theorem d_Si_shrink_41 : Dc prog_10_method_6_code 41 (.iconst 0) 1 42 := ⟨by decide +kernel, rfl⟩
theorem d_Si_shrink_42 : Dc prog_10_method_6_code 42 (.istore 5) 2 44 := ⟨by decide +kernel, rfl⟩
theorem d_Si_shrink_44 : Dc prog_10_method_6_code 44 (.iload 5) 2 46 := ⟨by decide +kernel, rfl⟩
theorem d_Si_shrink_46 : Dj prog_10_method_6_code 46 (.ifCond .eq 34) 49 34 80 := ⟨by decide +kernel, rfl, rfl⟩
theorem d_Si_shrink_49 : Dc prog_10_method_6_code 49 (.aload_n 1) 1 50 := ⟨by decide +kernel, rfl⟩
theorem d_Si_shrink_50 : Dc prog_10_method_6_code 50 (.getfield 64) 3 53 := ⟨by decide +kernel, rfl⟩
theorem d_Si_shrink_53 : Dc prog_10_method_6_code 53 (.iload_n 3) 1 54 := ⟨by decide +kernel, rfl⟩
theorem d_Si_shrink_54 : Dc prog_10_method_6_code 54 (.iaload) 1 55 := ⟨by decide +kernel, rfl⟩
theorem d_Si_shrink_55 : Dc prog_10_method_6_code 55 (.aload_n 0) 1 56 := ⟨by decide +kernel, rfl⟩
theorem d_Si_shrink_56 : Dc prog_10_method_6_code 56 (.getfield 9) 3 59 := ⟨by decide +kernel, rfl⟩
theorem d_Si_shrink_59 : Dc prog_10_method_6_code 59 (.iload 4) 2 61 := ⟨by decide +kernel, rfl⟩
theorem d_Si_shrink_61 : Dc prog_10_method_6_code 61 (.iaload) 1 62 := ⟨by decide +kernel, rfl⟩
theorem d_Si_shrink_62 : Dc prog_10_method_6_code 62 (.iand) 1 63 := ⟨by decide +kernel, rfl⟩
theorem d_Si_shrink_63 : Dj prog_10_method_6_code 63 (.ifCond .ne 17) 66 17 80 := ⟨by decide +kernel, rfl, rfl⟩
theorem d_Si_shrink_66 : Dc prog_10_method_6_code 66 (.aload_n 0) 1 67 := ⟨by decide +kernel, rfl⟩
theorem d_Si_shrink_67 : Dc prog_10_method_6_code 67 (.getfield 9) 3 70 := ⟨by decide +kernel, rfl⟩
theorem d_Si_shrink_70 : Dc prog_10_method_6_code 70 (.iload_n 2) 1 71 := ⟨by decide +kernel, rfl⟩
theorem d_Si_shrink_71 : Dc prog_10_method_6_code 71 (.dup2) 1 72 := ⟨by decide +kernel, rfl⟩
theorem d_Si_shrink_72 : Dc prog_10_method_6_code 72 (.iaload) 1 73 := ⟨by decide +kernel, rfl⟩
theorem d_Si_shrink_73 : Dc prog_10_method_6_code 73 (.iconst 1) 1 74 := ⟨by decide +kernel, rfl⟩
theorem d_Si_shrink_74 : Dc prog_10_method_6_code 74 (.iload_n 3) 1 75 := ⟨by decide +kernel, rfl⟩
theorem d_Si_shrink_75 : Dc prog_10_method_6_code 75 (.ishl) 1 76 := ⟨by decide +kernel, rfl⟩
theorem d_Si_shrink_76 : Dc prog_10_method_6_code 76 (.iconst (-1)) 1 77 := ⟨by decide +kernel, rfl⟩
theorem d_Si_shrink_77 : Dc prog_10_method_6_code 77 (.ixor) 1 78 := ⟨by decide +kernel, rfl⟩
theorem d_Si_shrink_78 : Dc prog_10_method_6_code 78 (.iand) 1 79 := ⟨by decide +kernel, rfl⟩
theorem d_Si_shrink_79 : Dc prog_10_method_6_code 79 (.iastore) 1 80 := ⟨by decide +kernel, rfl⟩
theorem d_Si_shrink_80 : Dc prog_10_method_6_code 80 (.iinc 4 1) 3 83 := ⟨by decide +kernel, rfl⟩
theorem d_Si_shrink_83 : Dj prog_10_method_6_code 83 (.goto (-70)) 86 (-70) 13 := ⟨by decide +kernel, rfl, rfl⟩
theorem d_Si_shrink_86 : Dc prog_10_method_6_code 86 (.iinc 3 1) 3 89 := ⟨by decide +kernel, rfl⟩
theorem d_Si_shrink_89 : Dj prog_10_method_6_code 89 (.goto (-87)) 92 (-87) 2 := ⟨by decide +kernel, rfl, rfl⟩
theorem d_Si_shrink_92 : Dc prog_10_method_6_code 92 (.return_) 1 93 := ⟨by decide +kernel, rfl⟩
theorem fl_Si_15 : FL "SubgraphDesk$Sieve" 15 9 1 true (.array .int) (3, 2) := ⟨R_Si, F_Si, 2, ty_Si, rfl, rfl, in_Si, tyok_Si, nm_Si, by decide, gd 442 (by decide +kernel) rfl, rfl, rfl, rfl⟩
theorem fl_Si_50 : FL "SubgraphDesk$Sieve" 50 2 7 true (.array .int) (3, 5) := ⟨R_Bo, F_Bo, 15, ty_Bo, rfl, rfl, in_Bo, tyok_Bo, nm_Bo, by decide, gd 213 (by decide +kernel) rfl, rfl, rfl, rfl⟩
theorem fl_Si_64 : FL "SubgraphDesk$Sieve" 64 2 2 true (.array .int) (3, 2) := ⟨R_Bo, F_Bo, 15, ty_Bo, rfl, rfl, in_Bo, tyok_Bo, nm_Bo, by decide, gd 189 (by decide +kernel) rfl, rfl, rfl, rfl⟩
theorem ml_Si_46 : Cond.methodLink "SubgraphDesk$Sieve" 46 m_Si_fewestOutside.1 ∈ lw_gd := gd 1290 (by decide +kernel) rfl
theorem OrdW.full {g : GC} {l : List Nat} (h : OrdW g l) (hl : gV g ≤ l.length) : ∀ x, x < gV g → x ∈ l := fun x hx => by
  by_cases e : x ∈ l
  · exact e
  · have := (h.snoc hx e).len
    rw [List.length_append, List.length_singleton] at this
    omega
theorem extL_iff {g : GC} {i : Nat} {o : List Nat} {x : Nat} : ∀ m, x ∈ extL g i o m ↔ (x ∈ o ∨ (x < m ∧ (gK g (gA o i)).testBit x = true))
  | 0 => ⟨fun h => Or.inl h, fun h => h.elim id (fun z => absurd z.1 (Nat.not_lt_zero _))⟩
  | m + 1 => by
    unfold extL
    by_cases h : m ∉ o ∧ (gK g (gA o i)).testBit m = true
    · rw [if_pos h, List.mem_append, List.mem_singleton, extL_iff m]
      constructor
      · rintro ((h1 | h1) | h1)
        · exact Or.inl h1
        · exact Or.inr ⟨by omega, h1.2⟩
        · exact Or.inr ⟨by omega, h1 ▸ h.2⟩
      · rintro (h1 | ⟨h1, h2⟩)
        · exact Or.inl (Or.inl h1)
        · by_cases e : x = m
          · exact Or.inr e
          · exact Or.inl (Or.inr ⟨by omega, h2⟩)
    · rw [if_neg h, extL_iff m]
      constructor
      · rintro (h1 | ⟨h1, h2⟩)
        · exact Or.inl h1
        · exact Or.inr ⟨by omega, h2⟩
      · rintro (h1 | ⟨h1, h2⟩)
        · exact Or.inl h1
        · by_cases e : x = m
          · by_cases e2 : x ∈ o
            · exact Or.inl e2
            · exact absurd ⟨e ▸ e2, e ▸ h2⟩ h
          · exact Or.inr ⟨by omega, h2⟩
theorem extL_stop {g : GC} {i v : Nat} {o : List Nat} (h : ∀ x, x < gV g → x ∈ extL g i o v) : ∀ m, v + m ≤ gV g → extL g i o (v + m) = extL g i o v
  | 0, _ => rfl
  | m + 1, hm => by
    have hx := h (v + m) (by omega)
    rcases extL_mem v hx with z | z
    · show extL g i o (v + m + 1) = _
      rw [extL, if_neg (fun y => y.1 z)]
      exact extL_stop h m (by omega)
    · omega
theorem takB_ext {g : GC} {i : Nat} {o : List Nat} (hk : gK g (gA o i) < 2 ^ gV g) : takB o ||| sd (gK g (gA o i)) (takB o) = takB (extL g i o (gV g)) := by
  apply Nat.eq_of_testBit_eq
  intro x
  rw [Nat.testBit_or, sd_tb, takB_tb, takB_tb]
  by_cases h : x ∈ o
  · rw [decide_eq_true h, decide_eq_true ((extL_iff _).mpr (Or.inl h))]; rfl
  · rw [decide_eq_false h, Bool.false_or, Bool.not_false, Bool.and_true]
    cases hb : (gK g (gA o i)).testBit x with
    | true =>
      have hx : x < gV g := tb_lt hk hb
      exact (decide_eq_true ((extL_iff _).mpr (Or.inr ⟨hx, hb⟩))).symm
    | false =>
      refine (decide_eq_false (fun z => ?_)).symm
      rcases (extL_iff _).mp z with z | ⟨-, z⟩
      · exact h z
      · rw [hb] at z; cases z
def LnP (w : Mem) (o : List Nat) : Prop := ∀ k, k < o.length → rI w 44 k = nI (gA o k)
theorem LnP.snoc {w : Mem} {o : List Nat} {x : Nat} (h : LnP w o) : LnP (sI w 44 o.length (nI x)) (o ++ [x]) := fun k hk => by
  rw [List.length_append, List.length_singleton] at hk
  rw [rI_sI, upd_eq]
  by_cases e : k = o.length
  · rw [if_pos e, e, gA_app1]
  · rw [if_neg e, gA_app0 (by omega)]; exact h k (by omega)
def FrLi (w w2 : Mem) : Prop := FrSi w w2 ∧ rI w2 43 = rI w 43
theorem FrLi.I {w w2 : Mem} {k : Nat} {x : Int32} (h : FrLi w w2) : FrLi w (sI w2 44 k x) := ⟨h.1.I (Or.inr rfl), by rw [rI_sI_ne _ _ _ (by decide)]; exact h.2⟩
theorem c_Si_lineUp {E : EV} {w : Mem} {g : GC} {c : Nat → Nat} (hR : BRow w 1 g) (hW : WG g) (hC : CdP w g c) (hcl : ∀ v, c v < 4096) : T E m_Si_lineUp 2 0 0 [.ref 42, .ref 1] w (fun r w2 => r = none ∧ FrLi w w2 ∧ OrdW g (ordK g c (gV g)) ∧ (ordK g c (gV g)).length = gV g ∧ LnP w2 (ordK g c (gV g))) := by
  refine T_of (L := [.ref 42, .ref 1, un, un, un, un, un]) cf_Si_lineUp rfl (Nat.le_of_ble_eq_true rfl) (fun X hX hF => ?_)
  have hv := hW.v
  have lp : ∀ (fuel : Nat) (k : Nat) (o : List Nat) (wk : Mem), gV g - k < fuel → (o = ordK g c k) → (FrLi w wk) → (k ≤ gV g) → (OrdW g o) → (LnP wk o) → (k ≤ o.length) → G0 E X 0 0 7 [.ref 42, .ref 1, .int (nI (takB o)), .int (nI o.length), .int (nI k), un, un] [] wk := by
    intro fuel
    induction fuel with
    | zero => intro k o wk q0; exact absurd q0 (Nat.not_lt_zero _)
    | succ fuel ih =>
      intro k o wk q0 q1 q2 q3 q4 q5 q6
      have ho := q1
      have k48 : ∀ (o1 : List Nat) (w1 : Mem), o1 = pickO g c o k → FrLi w w1 → OrdW g o1 → LnP w1 o1 → k < o1.length → k < gV g → G0 E X 0 0 48 [.ref 42, .ref 1, .int (nI (takB o1)), .int (nI o1.length), .int (nI k), un, un] [] w1 := by
        intro o1 w1 ho1 hf1 hO1 hL1 hk1l hkv
        have hx1 : gA o1 k < gV g := hO1.2 _ (gA_mem hk1l)
        have hk32 := hW.k32 hx1
        have hk1 : gK g (gA o1 k) < 2 ^ gV g := hW.k _ hx1
        have hcm := sd_le (gK g (gA o1 k)) (takB o1)
        have hl1 := hO1.len
        refine g_aload1 hX d_Si_lineUp_48 ?_
        refine g_getF hX d_Si_lineUp_49 fl_Si_50 (lv_1 _) ?_
        refine g_aload0 hX d_Si_lineUp_52 ?_
        refine g_getF hX d_Si_lineUp_53 fl_Si_15 (lv_42 _) ?_
        refine g_iload4 hX d_Si_lineUp_56 ?_
        refine g_iald hX d_Si_lineUp_58 (lv_44 _) rfl (by omega) ?_
        refine g_topi (hL1 k hk1l) ?_
        refine g_iald hX d_Si_lineUp_59 (lv_6 _) rfl (by omega) ?_
        refine g_topi ((hR.si hf1.1).k _ hx1) ?_
        refine g_iload2 hX d_Si_lineUp_60 ?_
        refine g_iconst (v := -1) hX d_Si_lineUp_61 rfl ?_
        refine g_ixor hX d_Si_lineUp_62 ?_
        refine g_iandX hX d_Si_lineUp_63 ?_
        refine g_istore5 hX d_Si_lineUp_64 rfl (by decide) ?_
        refine g_iconst (v := nI 0) hX d_Si_lineUp_66 rfl ?_
        refine g_istore6 hX d_Si_lineUp_67 rfl (by decide) ?_
        have lpI : ∀ (fuel : Nat) (v : Nat) (w3 : Mem), gV g - v < fuel → (FrLi w w3) → (v ≤ gV g) → (OrdW g (extL g k o1 v)) → (LnP w3 (extL g k o1 v)) → G0 E X 0 0 69 [.ref 42, .ref 1, .int (nI (takB o1)), .int (nI (extL g k o1 v).length), .int (nI k), .int (nI (sd (gK g (gA o1 k)) (takB o1))), .int (nI v)] [] w3 := by
          intro fuel
          induction fuel with
          | zero => intro v w3 q0; exact absurd q0 (Nat.not_lt_zero _)
          | succ fuel ihI =>
            intro v w3 r0 r1 r2 r3 r4
            refine g_iload6 hX d_Si_lineUp_69 ?_
            refine g_aload1 hX d_Si_lineUp_71 ?_
            refine g_getI hX d_Si_lineUp_72 fl_Si_18 (lv_1 _) ?_
            refine g_topi (hR.si r1.1).v ?_
            refine g_icmpN_ge hX d_Si_lineUp_75 (by omega) (by omega) (fun e75 => ?_) (fun e75 => ?_)
            · have hvv : v = gV g := by omega
              have hfin : extL g k o1 (gV g) = extL g k o1 v := by rw [hvv]
              have hO3 := r3
              have hL3 := r4
              have hsub : k + 1 ≤ (extL g k o1 v).length := by
                have := nodup_len o1 (extL g k o1 v) hO1.1 (fun x hx => extL_sub hx _)
                omega
              refine g_iload2 hX d_Si_lineUp_111 ?_
              refine g_iload5 hX d_Si_lineUp_112 ?_
              refine g_iorN hX d_Si_lineUp_114 ?_
              refine g_istore2 hX d_Si_lineUp_115 rfl (by decide) ?_
              refine g_iincN4 hX d_Si_lineUp_116 rfl (by decide) ?_
              refine g_goto hX d_Si_lineUp_119 ?_
              refine g_loc (show [Value.ref 42, Value.ref 1, Value.int (nI (takB o1 ||| (sd (gK g (gA o1 k)) (takB o1)))), Value.int (nI (extL g k o1 v).length), Value.int (nI (k + 1)), Value.int (nI (sd (gK g (gA o1 k)) (takB o1))), Value.int (nI v)] = [Value.ref 42, Value.ref 1, Value.int (nI (takB (extL g k o1 (gV g)))), Value.int (nI (extL g k o1 (gV g)).length), Value.int (nI (k + 1)), Value.int (nI (sd (gK g (gA o1 k)) (takB o1))), Value.int (nI v)] by rw [takB_ext hk1, hfin]) ?_
              refine g_fget 5 ?_
              refine g_fget 6 ?_
              have hle := hO3.len
              rw [← hfin] at hO3 hL3
              exact ih (k + 1) _ w3 (by omega) (by rw [ho1, ho]; rfl) r1 (by omega) hO3 hL3 (by rw [hfin]; exact hsub)
            · have hle3 := r3.len
              refine g_iload3 hX d_Si_lineUp_78 ?_
              refine g_iconst (v := nI 5) hX d_Si_lineUp_79 rfl ?_
              refine g_icmpN_ge hX d_Si_lineUp_80 (by omega) (by omega) (fun e80 => ?_) (fun e80 => ?_)
              · have hO3 := r3
                have hL3 := r4
                have hfin : extL g k o1 (gV g) = extL g k o1 v := by
                  have := extL_stop (hO3.full (by omega)) (gV g - v) (by omega)
                  rwa [show v + (gV g - v) = gV g by omega] at this
                have hsub : k + 1 ≤ (extL g k o1 v).length := by omega
                refine g_iload2 hX d_Si_lineUp_111 ?_
                refine g_iload5 hX d_Si_lineUp_112 ?_
                refine g_iorN hX d_Si_lineUp_114 ?_
                refine g_istore2 hX d_Si_lineUp_115 rfl (by decide) ?_
                refine g_iincN4 hX d_Si_lineUp_116 rfl (by decide) ?_
                refine g_goto hX d_Si_lineUp_119 ?_
                refine g_loc (show [Value.ref 42, Value.ref 1, Value.int (nI (takB o1 ||| (sd (gK g (gA o1 k)) (takB o1)))), Value.int (nI (extL g k o1 v).length), Value.int (nI (k + 1)), Value.int (nI (sd (gK g (gA o1 k)) (takB o1))), Value.int (nI v)] = [Value.ref 42, Value.ref 1, Value.int (nI (takB (extL g k o1 (gV g)))), Value.int (nI (extL g k o1 (gV g)).length), Value.int (nI (k + 1)), Value.int (nI (sd (gK g (gA o1 k)) (takB o1))), Value.int (nI v)] by rw [takB_ext hk1, hfin]) ?_
                refine g_fget 5 ?_
                refine g_fget 6 ?_
                have hle := hO3.len
                rw [← hfin] at hO3 hL3
                exact ih (k + 1) _ w3 (by omega) (by rw [ho1, ho]; rfl) r1 (by omega) hO3 hL3 (by rw [hfin]; exact hsub)
              · refine g_iload5 hX d_Si_lineUp_83 ?_
                refine g_iload6 hX d_Si_lineUp_85 ?_
                refine g_ishrN hX d_Si_lineUp_87 (by omega) (by omega) ?_
                refine g_iconst (v := nI 1) hX d_Si_lineUp_88 rfl ?_
                refine g_iandC hX d_Si_lineUp_89 (fun hm2 => ?_)
                refine g_iconst (v := nI 1) hX d_Si_lineUp_90 rfl ?_
                refine g_icmpN_ne hX d_Si_lineUp_91 (by omega) (by omega) (fun e91 => ?_) (fun e91 => ?_)
                · have e91 : extL g k o1 (v + 1) = extL g k o1 v := by
                    rw [extL, if_neg]
                    rintro ⟨z1, z2⟩
                    refine e91 ((tb1 _ _).mpr ?_)
                    rw [sd_tb, takB_tb, z2, decide_eq_false z1]
                    rfl
                  refine g_iincN6 hX d_Si_lineUp_105 rfl (by decide) ?_
                  refine g_goto hX d_Si_lineUp_108 ?_
                  rw [← e91]
                  exact ihI (v + 1) w3 (by omega) r1 (by omega) (by rw [e91]; exact r3) (by rw [e91]; exact r4)
                · have e91 := (tb1 _ _).mp e91
                  rw [sd_tb, takB_tb, Bool.and_eq_true] at e91
                  have hvo : v ∉ o1 := fun z => by have := e91.2; rw [decide_eq_true z] at this; cases this
                  have hex : extL g k o1 (v + 1) = extL g k o1 v ++ [v] := by rw [extL, if_pos ⟨hvo, e91.1⟩]
                  have hvn : v ∉ extL g k o1 v := fun z => by
                    rcases extL_mem v z with z | z
                    · exact hvo z
                    · omega
                  refine g_aload0 hX d_Si_lineUp_94 ?_
                  refine g_getF hX d_Si_lineUp_95 fl_Si_15 (lv_42 _) ?_
                  refine g_iload3 hX d_Si_lineUp_98 ?_
                  refine g_iload6 hX d_Si_lineUp_99 ?_
                  refine g_iast hX d_Si_lineUp_101 (lv_44 _) rfl (by omega) ?_
                  refine g_iincN3 hX d_Si_lineUp_102 rfl (by decide) ?_
                  refine g_iincN6 hX d_Si_lineUp_105 rfl (by decide) ?_
                  refine g_goto hX d_Si_lineUp_108 ?_
                  rw [show (extL g k o1 v).length + 1 = (extL g k o1 (v + 1)).length by rw [hex, List.length_append, List.length_singleton]]
                  exact ihI (v + 1) _ (by omega) r1.I (by omega) (by rw [hex]; exact r3.snoc e75 hvn) (by rw [hex]; exact r4.snoc)
        exact lpI (gV g + 1) 0 w1 (by omega) hf1 (Nat.zero_le _) hO1 hL1
      refine g_iload4 hX d_Si_lineUp_7 ?_
      refine g_aload1 hX d_Si_lineUp_9 ?_
      refine g_getI hX d_Si_lineUp_10 fl_Si_18 (lv_1 _) ?_
      refine g_topi (hR.si q2.1).v ?_
      refine g_icmpN_ge hX d_Si_lineUp_13 (by omega) (by omega) (fun e13 => ?_) (fun e13 => ?_)
      · refine g_vret hX hF d_Si_lineUp_122 (by omega) (by omega) ?_
        obtain rfl : k = gV g := by omega
        rw [← q1]
        have := q4.len
        exact ⟨rfl, q2, q4, by omega, q5⟩
      · have hol := q4.len
        have htl := takB_lt (q := o) (fun x hx => by have := q4.2 x hx; omega)
        refine g_iload4 hX d_Si_lineUp_16 ?_
        refine g_iload3 hX d_Si_lineUp_18 ?_
        refine g_icmpN_ne hX d_Si_lineUp_19 (by omega) (by omega) (fun e19 => ?_) (fun e19 => ?_)
        · have hpk : o = pickO g c o k := by unfold pickO; rw [if_neg e19]
          first
          | exact k48 o wk hpk q2 q4 q5 (by omega) e13
          | (rw [← takB_s, show o.length + 1 = (o ++ [u]).length by rw [List.length_append, List.length_singleton]]
             exact k48 (o ++ [u]) _ (by unfold pickO; rw [if_pos e19, hu]; rfl) q2.I (q4.snoc hu1 hu2) q5.snoc (by rw [List.length_append, List.length_singleton]; omega) e13)
        · have hno : ∃ x, x < gV g ∧ x ∉ o := by
            by_cases z : ∃ x, x < gV g ∧ x ∉ o
            · exact z
            · have := OrdW.all (g := g) (o := o) (fun x hx => Classical.byContradiction (fun y => z ⟨x, hx, y⟩))
              omega
          obtain ⟨x0, hx0, hx1⟩ := hno
          refine g_aload0 hX d_Si_lineUp_22 ?_
          refine g_getF hX d_Si_lineUp_23 fl_Si_15 (lv_42 _) ?_
          refine g_iload3 hX d_Si_lineUp_26 ?_
          refine g_aload0 hX d_Si_lineUp_27 ?_
          refine g_aload1 hX d_Si_lineUp_28 ?_
          refine g_iload2 hX d_Si_lineUp_29 ?_
          refine g_callV (As := [_, _]) hX hF.1 d_Si_lineUp_30 ml_Si_46 cf_Si_fewestOutside cv_Si_fewestOutside rfl rfl (c_Si_fewestOutside (c := c) (o := o) (hR.si q2.1) hW (fun v hv => by rw [q2.2]; exact hC v hv) hcl htl (fewO_some hx1 _ hx0)) (rcv_obj hX (lv_42 _) rfl rfl) (by omega) (by omega) (by omega) (Nat.le_of_ble_eq_true rfl) ?_
          rintro _ w5 ⟨u, hu, rfl, hw5⟩
          have hw6 := hw5.symm
          subst hw6
          obtain ⟨hu1, hu2⟩ := fewO_lt _ hu
          show G0 _ _ _ _ _ _ _ _
          refine g_iast hX d_Si_lineUp_33 (lv_44 _) rfl (by omega) ?_
          refine g_iload2 hX d_Si_lineUp_34 ?_
          refine g_iconst (v := nI 1) hX d_Si_lineUp_35 rfl ?_
          refine g_aload0 hX d_Si_lineUp_36 ?_
          refine g_getF hX d_Si_lineUp_37 fl_Si_15 (lv_42 _) ?_
          refine g_iload3 hX d_Si_lineUp_40 ?_
          refine g_iald hX d_Si_lineUp_41 (lv_44 _) rfl (by omega) ?_
          refine g_topi (show rI (sI wk 44 o.length (nI u)) 44 o.length = nI u by rw [rI_sI, upd_eq, if_pos rfl]) ?_
          refine g_ishlN hX d_Si_lineUp_42 (by omega) ?_
          refine g_iorN hX d_Si_lineUp_43 ?_
          refine g_istore2 hX d_Si_lineUp_44 rfl (by decide) ?_
          refine g_iincN3 hX d_Si_lineUp_45 rfl (by decide) ?_
          first
          | exact k48 o wk hpk q2 q4 q5 (by omega) e13
          | (rw [← takB_s, show o.length + 1 = (o ++ [u]).length by rw [List.length_append, List.length_singleton]]
             exact k48 (o ++ [u]) _ (by unfold pickO; rw [if_pos e19, hu]; rfl) q2.I (q4.snoc hu1 hu2) q5.snoc (by rw [List.length_append, List.length_singleton]; omega) e13)
  refine g_iconst (v := nI 0) hX d_Si_lineUp_0 rfl ?_
  refine g_istore2 hX d_Si_lineUp_1 rfl (by decide) ?_
  refine g_iconst (v := nI 0) hX d_Si_lineUp_2 rfl ?_
  refine g_istore3 hX d_Si_lineUp_3 rfl (by decide) ?_
  refine g_iconst (v := nI 0) hX d_Si_lineUp_4 rfl ?_
  refine g_istore4 hX d_Si_lineUp_5 rfl (by decide) ?_
  exact lp (gV g + 1) 0 [] w (by omega) rfl ⟨FrSi.rf w, rfl⟩ (Nat.zero_le _) ⟨List.nodup_nil, fun x hx => absurd hx List.not_mem_nil⟩ (fun k hk => absurd hk (Nat.not_lt_zero _)) (Nat.zero_le _)
theorem sd_sd (x m : Nat) : sd (sd x m) m = sd x m := by
  apply Nat.eq_of_testBit_eq
  intro k
  rw [sd_tb, sd_tb]
  cases x.testBit k <;> cases m.testBit k <;> rfl
def FrSh (w w2 : Mem) : Prop := FrSi w w2 ∧ rI w2 44 = rI w 44
theorem FrSh.I {w w2 : Mem} {k : Nat} {x : Int32} (h : FrSh w w2) : FrSh w (sI w2 43 k x) := ⟨h.1.I (Or.inl rfl), by rw [rI_sI_ne _ _ _ (by decide)]; exact h.2⟩
theorem FrSh.tr {a b c : Mem} (h : FrSh a b) (h2 : FrSh b c) : FrSh a c := ⟨h.1.tr h2.1, h2.2.trans h.2⟩
theorem supK_y {g : GC} {c : Nat → Nat} {v m u : Nat} (h : ¬ (gK g v).testBit u = true ∨ ¬ nearB (gE g) m &&& c u = 0) : supK g c v m (u + 1) = supK g c v m u := by
  show (supK g c v m u && _) = _
  have : (!(gK g v).testBit u || !decide (nearB (gE g) m &&& c u = 0)) = true := by
    rcases h with h | h
    · rw [Bool.eq_false_iff.mpr h]; rfl
    · rw [decide_eq_false h, Bool.or_comm]; rfl
  rw [this, Bool.and_true]
theorem supK_n {g : GC} {c : Nat → Nat} {v m u : Nat} (h : (gK g v).testBit u = true) (h2 : nearB (gE g) m &&& c u = 0) : supK g c v m (u + 1) = false := by
  show (supK g c v m u && _) = _
  rw [h, decide_eq_true h2]
  exact Bool.and_false _
theorem c_Si_shrink {E : EV} {w : Mem} {g : GC} {c : Nat → Nat} {v : Nat} (hR : BRow w 1 g) (hW : WG g) (hC : CdP w g c) (hvv : v < gV g) : T E m_Si_shrink 0 0 0 [.ref 42, .ref 1, .int (nI v)] w (fun r w2 => r = none ∧ FrSh w w2 ∧ CdP w2 g (narC g c v)) := by
  refine T_of (L := [.ref 42, .ref 1, .int (nI v), un, un, un]) cf_Si_shrink rfl (Nat.le_of_ble_eq_true rfl) (fun X hX hF => ?_)
  have hn := hW.n
  have hv := hW.v
  have lp : ∀ (fuel : Nat) (m : Nat) (wk : Mem), gN g - m < fuel → (FrSh w wk) → (m ≤ gN g) → (∀ x, x < gV g → rI wk 43 x = nI (if x = v then narN g c v m else c x)) → G0 E X 0 0 2 [.ref 42, .ref 1, .int (nI v), .int (nI m), un, un] [] wk := by
    intro fuel
    induction fuel with
    | zero => intro m wk q0; exact absurd q0 (Nat.not_lt_zero _)
    | succ fuel ih =>
      intro m wk q0 q1 q2 q3
      refine g_iload3 hX d_Si_shrink_2 ?_
      refine g_aload1 hX d_Si_shrink_3 ?_
      refine g_getI hX d_Si_shrink_4 fl_Si_36 (lv_1 _) ?_
      refine g_topi (hR.si q1.1).n ?_
      refine g_icmpN_ge hX d_Si_shrink_7 (by omega) (by omega) (fun e7 => ?_) (fun e7 => ?_)
      · refine g_vret hX hF d_Si_shrink_92 (by omega) (by omega) ?_
        obtain rfl : m = gN g := by omega
        exact ⟨rfl, q1, q3⟩
      · have hk32 := hW.k32 hvv
        have hnb := near12 hW m
        refine g_iconst (v := nI 0) hX d_Si_shrink_10 rfl ?_
        refine g_istore4 hX d_Si_shrink_11 rfl (by decide) ?_
        have lpI : ∀ (fuel : Nat) (u : Nat) (w3 : Mem), gV g - u < fuel → (FrSh w w3) → (u ≤ gV g) → (∀ x, x < gV g → rI w3 43 x = nI (if x = v then (if supK g c v m u = true then narN g c v m else sd (narN g c v m) (1 <<< m)) else c x)) → G0 E X 0 0 13 [.ref 42, .ref 1, .int (nI v), .int (nI m), .int (nI u), un] [] w3 := by
          intro fuel
          induction fuel with
          | zero => intro u w3 q0; exact absurd q0 (Nat.not_lt_zero _)
          | succ fuel ihI =>
            intro u w3 r0 r1 r2 r3
            refine g_iload4 hX d_Si_shrink_13 ?_
            refine g_aload1 hX d_Si_shrink_15 ?_
            refine g_getI hX d_Si_shrink_16 fl_Si_18 (lv_1 _) ?_
            refine g_topi (hR.si r1.1).v ?_
            refine g_icmpN_ge hX d_Si_shrink_19 (by omega) (by omega) (fun e19 => ?_) (fun e19 => ?_)
            · refine g_iincN3 hX d_Si_shrink_86 rfl (by decide) ?_
              refine g_goto hX d_Si_shrink_89 ?_
              obtain rfl : u = gV g := by omega
              refine g_fget 4 ?_
              exact ih (m + 1) w3 (by omega) r1 (by omega) r3
            · refine g_aload1 hX d_Si_shrink_22 ?_
              refine g_getF hX d_Si_shrink_23 fl_Si_50 (lv_1 _) ?_
              refine g_iload2 hX d_Si_shrink_26 ?_
              refine g_iald hX d_Si_shrink_27 (lv_6 _) rfl (by omega) ?_
              refine g_topi ((hR.si r1.1).k v hvv) ?_
              refine g_iload4 hX d_Si_shrink_28 ?_
              refine g_ishrN hX d_Si_shrink_30 (by omega) (by omega) ?_
              refine g_iconst (v := nI 1) hX d_Si_shrink_31 rfl ?_
              refine g_iandC hX d_Si_shrink_32 (fun hm1 => ?_)
              refine g_iconst (v := nI 1) hX d_Si_shrink_33 rfl ?_
              refine g_icmpN_ne hX d_Si_shrink_34 (by omega) (by omega) (fun e34 => ?_) (fun e34 => ?_)
              · have e34 : ¬ (gK g v).testBit u = true := fun z => e34 ((tb1 _ _).mpr z)
                refine g_iconst (v := nI 0) hX d_Si_shrink_41 rfl ?_
                refine g_istore5 hX d_Si_shrink_42 rfl (by decide) ?_
                refine g_iload5 hX d_Si_shrink_44 ?_
                refine g_if_eq hX d_Si_shrink_46 (fun c3 => ?_) (fun h => absurd (by decide) h)
                refine g_iincN4 hX d_Si_shrink_80 rfl (by decide) ?_
                refine g_goto hX d_Si_shrink_83 ?_
                refine g_fget 5 ?_
                exact ihI (u + 1) w3 (by omega) r1 (by omega) (fun x hx => by rw [supK_y (Or.inl e34)]; exact r3 x hx)
              · have e34 := (tb1 _ _).mp e34
                have huv : u ≠ v := fun z => by
                  rw [z, hW.2.2.2.2.2.2.2.2.1 v hvv] at e34
                  cases e34
                refine g_iconst (v := nI 1) hX d_Si_shrink_37 rfl ?_
                refine g_goto hX d_Si_shrink_38 ?_
                refine g_istore5 hX d_Si_shrink_42 rfl (by decide) ?_
                refine g_iload5 hX d_Si_shrink_44 ?_
                refine g_if_eq hX d_Si_shrink_46 (fun h => absurd h (by decide)) (fun c4 => ?_)
                refine g_aload1 hX d_Si_shrink_49 ?_
                refine g_getF hX d_Si_shrink_50 fl_Si_64 (lv_1 _) ?_
                refine g_iload3 hX d_Si_shrink_53 ?_
                refine g_iald hX d_Si_shrink_54 (lv_3 _) rfl (by omega) ?_
                refine g_topi ((hR.si r1.1).nr m e7) ?_
                refine g_aload0 hX d_Si_shrink_55 ?_
                refine g_getF hX d_Si_shrink_56 fl_Si_9 (lv_42 _) ?_
                refine g_iload4 hX d_Si_shrink_59 ?_
                refine g_iald hX d_Si_shrink_61 (lv_43 _) rfl (by omega) ?_
                refine g_topi (show rI w3 43 u = nI (c u) by rw [r3 u e19, if_neg huv]) ?_
                refine g_iandN hX d_Si_shrink_62 ?_
                refine g_if_ne hX d_Si_shrink_63 (fun e63 => ?_) (fun e63 => ?_)
                · have e63 : ¬ nearB (gE g) m &&& c u = 0 := fun z => e63 (by rw [z]; rfl)
                  refine g_iincN4 hX d_Si_shrink_80 rfl (by decide) ?_
                  refine g_goto hX d_Si_shrink_83 ?_
                  refine g_fget 5 ?_
                  exact ihI (u + 1) w3 (by omega) r1 (by omega) (fun x hx => by rw [supK_y (Or.inr e63)]; exact r3 x hx)
                · have e63 : nearB (gE g) m &&& c u = 0 := nI_inj (Nat.lt_of_le_of_lt Nat.and_le_left (by omega)) (by decide) e63
                  refine g_aload0 hX d_Si_shrink_66 ?_
                  refine g_getF hX d_Si_shrink_67 fl_Si_9 (lv_42 _) ?_
                  refine g_iload2 hX d_Si_shrink_70 ?_
                  refine g_dup2 hX d_Si_shrink_71 rfl rfl ?_
                  refine g_iald hX d_Si_shrink_72 (lv_43 _) rfl (by omega) ?_
                  refine g_topi (show rI w3 43 v = nI (if supK g c v m u = true then narN g c v m else sd (narN g c v m) (1 <<< m)) by rw [r3 v hvv, if_pos rfl]) ?_
                  refine g_iconst (v := nI 1) hX d_Si_shrink_73 rfl ?_
                  refine g_iload3 hX d_Si_shrink_74 ?_
                  refine g_ishlN hX d_Si_shrink_75 (by omega) ?_
                  refine g_iconst (v := -1) hX d_Si_shrink_76 rfl ?_
                  refine g_ixor hX d_Si_shrink_77 ?_
                  refine g_iandX hX d_Si_shrink_78 ?_
                  refine g_iast hX d_Si_shrink_79 (lv_43 _) rfl (by omega) ?_
                  refine g_iincN4 hX d_Si_shrink_80 rfl (by decide) ?_
                  refine g_goto hX d_Si_shrink_83 ?_
                  refine g_fget 5 ?_
                  exact ihI (u + 1) _ (by omega) r1.I (by omega) (fun x hx => by
                    rw [rI_sI, upd_eq, supK_n e34 e63]
                    by_cases e : x = v
                    · rw [if_pos e, if_pos e, if_neg (show ¬ (false = true) by decide)]
                      split
                      · rfl
                      · rw [sd_sd]
                    · rw [if_neg e, if_neg e, r3 x hx, if_neg e])
        exact lpI (gV g + 1) 0 wk (by omega) q1 (Nat.zero_le _) (fun x hx => by rw [q3 x hx]; rfl)
  refine g_iconst (v := nI 0) hX d_Si_shrink_0 rfl ?_
  refine g_istore3 hX d_Si_shrink_1 rfl (by decide) ?_
  exact lp (gN g + 1) 0 w (by omega) ⟨FrSi.rf w, rfl⟩ (Nat.zero_le _) (fun x hx => by rw [hC x hx]; by_cases e : x = v; rw [if_pos e, e]; rfl; rw [if_neg e])
