def m_Le_fill : MR := (⟨"SubgraphDesk$Ledger", "fill", "(LSubgraphDesk$Board;LSubgraphDesk$Program;)V"⟩, prog_5_method_3_code, 7, none)
theorem cf_Le_fill : CF m_Le_fill 2 := ⟨gd 683 (by decide +kernel) rfl, gd 145 (by decide +kernel) rfl, by decide +kernel, by decide, by decide +kernel⟩
theorem cv_Le_fill : CV m_Le_fill := ⟨gd 681 (by decide +kernel) rfl, gd 682 (by decide +kernel) rfl⟩
theorem d_Le_fill_0 : Dc prog_5_method_3_code 0 (.aload_n 0) 1 1 := ⟨by decide +kernel, rfl⟩
theorem d_Le_fill_1 : Dc prog_5_method_3_code 1 (.getfield 18) 3 4 := ⟨by decide +kernel, rfl⟩
theorem d_Le_fill_4 : Dc prog_5_method_3_code 4 (.iconst 5) 1 5 := ⟨by decide +kernel, rfl⟩
theorem d_Le_fill_5 : Dc prog_5_method_3_code 5 (.aload_n 1) 1 6 := ⟨by decide +kernel, rfl⟩
theorem d_Le_fill_6 : Dc prog_5_method_3_code 6 (.getfield 45) 3 9 := ⟨by decide +kernel, rfl⟩
theorem d_Le_fill_9 : Dc prog_5_method_3_code 9 (.iconst 0) 1 10 := ⟨by decide +kernel, rfl⟩
theorem d_Le_fill_10 : Dc prog_5_method_3_code 10 (.iaload) 1 11 := ⟨by decide +kernel, rfl⟩
theorem d_Le_fill_11 : Dc prog_5_method_3_code 11 (.iastore) 1 12 := ⟨by decide +kernel, rfl⟩
theorem d_Le_fill_12 : Dc prog_5_method_3_code 12 (.aload_n 0) 1 13 := ⟨by decide +kernel, rfl⟩
theorem d_Le_fill_13 : Dc prog_5_method_3_code 13 (.getfield 18) 3 16 := ⟨by decide +kernel, rfl⟩
theorem d_Le_fill_16 : Dc prog_5_method_3_code 16 (.bipush 6) 2 18 := ⟨by decide +kernel, rfl⟩
theorem d_Le_fill_18 : Dc prog_5_method_3_code 18 (.aload_n 1) 1 19 := ⟨by decide +kernel, rfl⟩
theorem d_Le_fill_19 : Dc prog_5_method_3_code 19 (.getfield 45) 3 22 := ⟨by decide +kernel, rfl⟩
theorem d_Le_fill_22 : Dc prog_5_method_3_code 22 (.iconst 2) 1 23 := ⟨by decide +kernel, rfl⟩
theorem d_Le_fill_23 : Dc prog_5_method_3_code 23 (.iaload) 1 24 := ⟨by decide +kernel, rfl⟩
theorem d_Le_fill_24 : Dc prog_5_method_3_code 24 (.iastore) 1 25 := ⟨by decide +kernel, rfl⟩
theorem d_Le_fill_25 : Dc prog_5_method_3_code 25 (.iconst 0) 1 26 := ⟨by decide +kernel, rfl⟩
theorem d_Le_fill_26 : Dc prog_5_method_3_code 26 (.istore_n 3) 1 27 := ⟨by decide +kernel, rfl⟩
theorem d_Le_fill_27 : Dc prog_5_method_3_code 27 (.iload_n 3) 1 28 := ⟨by decide +kernel, rfl⟩
theorem d_Le_fill_28 : Dc prog_5_method_3_code 28 (.aload_n 1) 1 29 := ⟨by decide +kernel, rfl⟩
theorem d_Le_fill_29 : Dc prog_5_method_3_code 29 (.getfield 50) 3 32 := ⟨by decide +kernel, rfl⟩
theorem d_Le_fill_32 : Dj prog_5_method_3_code 32 (.if_icmp .ge 181) 35 181 213 := ⟨by decide +kernel, rfl, rfl⟩
theorem d_Le_fill_35 : Dc prog_5_method_3_code 35 (.aload_n 0) 1 36 := ⟨by decide +kernel, rfl⟩
theorem d_Le_fill_36 : Dc prog_5_method_3_code 36 (.getfield 9) 3 39 := ⟨by decide +kernel, rfl⟩
theorem d_Le_fill_39 : Dc prog_5_method_3_code 39 (.iload_n 3) 1 40 := ⟨by decide +kernel, rfl⟩
theorem d_Le_fill_40 : Dc prog_5_method_3_code 40 (.iconst 0) 1 41 := ⟨by decide +kernel, rfl⟩
theorem d_Le_fill_41 : Dc prog_5_method_3_code 41 (.iastore) 1 42 := ⟨by decide +kernel, rfl⟩
theorem d_Le_fill_42 : Dc prog_5_method_3_code 42 (.aload_n 0) 1 43 := ⟨by decide +kernel, rfl⟩
theorem d_Le_fill_43 : Dc prog_5_method_3_code 43 (.getfield 18) 3 46 := ⟨by decide +kernel, rfl⟩
theorem d_Le_fill_46 : Dc prog_5_method_3_code 46 (.iconst 0) 1 47 := ⟨by decide +kernel, rfl⟩
theorem d_Le_fill_47 : Dc prog_5_method_3_code 47 (.iload_n 3) 1 48 := ⟨by decide +kernel, rfl⟩
theorem d_Le_fill_48 : Dc prog_5_method_3_code 48 (.iastore) 1 49 := ⟨by decide +kernel, rfl⟩
theorem d_Le_fill_49 : Dc prog_5_method_3_code 49 (.aload_n 0) 1 50 := ⟨by decide +kernel, rfl⟩
theorem d_Le_fill_50 : Dc prog_5_method_3_code 50 (.getfield 18) 3 53 := ⟨by decide +kernel, rfl⟩
theorem d_Le_fill_53 : Dc prog_5_method_3_code 53 (.iconst 4) 1 54 := ⟨by decide +kernel, rfl⟩
theorem d_Le_fill_54 : Dc prog_5_method_3_code 54 (.aload_n 1) 1 55 := ⟨by decide +kernel, rfl⟩
theorem d_Le_fill_55 : Dc prog_5_method_3_code 55 (.iload_n 3) 1 56 := ⟨by decide +kernel, rfl⟩
theorem d_Le_fill_56 : Dc prog_5_method_3_code 56 (.invokevirtual 54) 3 59 := ⟨by decide +kernel, rfl⟩
theorem d_Le_fill_59 : Dc prog_5_method_3_code 59 (.iastore) 1 60 := ⟨by decide +kernel, rfl⟩
theorem d_Le_fill_60 : Dc prog_5_method_3_code 60 (.iconst 0) 1 61 := ⟨by decide +kernel, rfl⟩
theorem d_Le_fill_61 : Dc prog_5_method_3_code 61 (.istore 4) 2 63 := ⟨by decide +kernel, rfl⟩
theorem d_Le_fill_63 : Dc prog_5_method_3_code 63 (.iload 4) 2 65 := ⟨by decide +kernel, rfl⟩
theorem d_Le_fill_65 : Dc prog_5_method_3_code 65 (.aload_n 1) 1 66 := ⟨by decide +kernel, rfl⟩
theorem d_Le_fill_66 : Dc prog_5_method_3_code 66 (.getfield 58) 3 69 := ⟨by decide +kernel, rfl⟩
theorem d_Le_fill_69 : Dj prog_5_method_3_code 69 (.if_icmp .ge 138) 72 138 207 := ⟨by decide +kernel, rfl, rfl⟩
theorem d_Le_fill_72 : Dc prog_5_method_3_code 72 (.aload_n 0) 1 73 := ⟨by decide +kernel, rfl⟩
theorem d_Le_fill_73 : Dc prog_5_method_3_code 73 (.getfield 18) 3 76 := ⟨by decide +kernel, rfl⟩
theorem d_Le_fill_76 : Dc prog_5_method_3_code 76 (.iconst 1) 1 77 := ⟨by decide +kernel, rfl⟩
theorem d_Le_fill_77 : Dc prog_5_method_3_code 77 (.iload 4) 2 79 := ⟨by decide +kernel, rfl⟩
theorem d_Le_fill_79 : Dc prog_5_method_3_code 79 (.iastore) 1 80 := ⟨by decide +kernel, rfl⟩
theorem d_Le_fill_80 : Dc prog_5_method_3_code 80 (.aload_n 0) 1 81 := ⟨by decide +kernel, rfl⟩
theorem d_Le_fill_81 : Dc prog_5_method_3_code 81 (.getfield 18) 3 84 := ⟨by decide +kernel, rfl⟩
theorem d_Le_fill_84 : Dc prog_5_method_3_code 84 (.iconst 2) 1 85 := ⟨by decide +kernel, rfl⟩
theorem d_Le_fill_85 : Dc prog_5_method_3_code 85 (.aload_n 1) 1 86 := ⟨by decide +kernel, rfl⟩
theorem d_Le_fill_86 : Dc prog_5_method_3_code 86 (.getfield 61) 3 89 := ⟨by decide +kernel, rfl⟩
theorem d_Le_fill_89 : Dc prog_5_method_3_code 89 (.iload 4) 2 91 := ⟨by decide +kernel, rfl⟩
theorem d_Le_fill_91 : Dc prog_5_method_3_code 91 (.iaload) 1 92 := ⟨by decide +kernel, rfl⟩
theorem d_Le_fill_92 : Dc prog_5_method_3_code 92 (.iastore) 1 93 := ⟨by decide +kernel, rfl⟩
theorem d_Le_fill_93 : Dc prog_5_method_3_code 93 (.aload_n 0) 1 94 := ⟨by decide +kernel, rfl⟩
theorem d_Le_fill_94 : Dc prog_5_method_3_code 94 (.getfield 18) 3 97 := ⟨by decide +kernel, rfl⟩
theorem d_Le_fill_97 : Dc prog_5_method_3_code 97 (.iconst 3) 1 98 := ⟨by decide +kernel, rfl⟩
theorem d_Le_fill_98 : Dc prog_5_method_3_code 98 (.aload_n 1) 1 99 := ⟨by decide +kernel, rfl⟩
theorem d_Le_fill_99 : Dc prog_5_method_3_code 99 (.iload 4) 2 101 := ⟨by decide +kernel, rfl⟩
theorem d_Le_fill_101 : Dc prog_5_method_3_code 101 (.invokevirtual 63) 3 104 := ⟨by decide +kernel, rfl⟩
theorem d_Le_fill_104 : Dc prog_5_method_3_code 104 (.iastore) 1 105 := ⟨by decide +kernel, rfl⟩
theorem d_Le_fill_105 : Dc prog_5_method_3_code 105 (.aload_n 0) 1 106 := ⟨by decide +kernel, rfl⟩
theorem d_Le_fill_106 : Dc prog_5_method_3_code 106 (.getfield 15) 3 109 := ⟨by decide +kernel, rfl⟩
theorem d_Le_fill_109 : Dc prog_5_method_3_code 109 (.iload_n 3) 1 110 := ⟨by decide +kernel, rfl⟩
theorem d_Le_fill_110 : Dc prog_5_method_3_code 110 (.bipush 12) 2 112 := ⟨by decide +kernel, rfl⟩
theorem d_Le_fill_112 : Dc prog_5_method_3_code 112 (.imul) 1 113 := ⟨by decide +kernel, rfl⟩
theorem d_Le_fill_113 : Dc prog_5_method_3_code 113 (.iload 4) 2 115 := ⟨by decide +kernel, rfl⟩
theorem d_Le_fill_115 : Dc prog_5_method_3_code 115 (.iadd) 1 116 := ⟨by decide +kernel, rfl⟩
theorem d_Le_fill_116 : Dc prog_5_method_3_code 116 (.iconst 1) 1 117 := ⟨by decide +kernel, rfl⟩
theorem d_Le_fill_117 : Dc prog_5_method_3_code 117 (.iastore) 1 118 := ⟨by decide +kernel, rfl⟩
theorem d_Le_fill_118 : Dc prog_5_method_3_code 118 (.aload_n 2) 1 119 := ⟨by decide +kernel, rfl⟩
theorem d_Le_fill_119 : Dj prog_5_method_3_code 119 (.ifnull 22) 122 22 141 := ⟨by decide +kernel, rfl, rfl⟩
theorem d_Le_fill_122 : Dc prog_5_method_3_code 122 (.aload_n 0) 1 123 := ⟨by decide +kernel, rfl⟩
theorem d_Le_fill_123 : Dc prog_5_method_3_code 123 (.aload_n 2) 1 124 := ⟨by decide +kernel, rfl⟩
theorem d_Le_fill_124 : Dc prog_5_method_3_code 124 (.iload_n 3) 1 125 := ⟨by decide +kernel, rfl⟩
theorem d_Le_fill_125 : Dc prog_5_method_3_code 125 (.bipush 12) 2 127 := ⟨by decide +kernel, rfl⟩
theorem d_Le_fill_127 : Dc prog_5_method_3_code 127 (.imul) 1 128 := ⟨by decide +kernel, rfl⟩
theorem d_Le_fill_128 : Dc prog_5_method_3_code 128 (.iload 4) 2 130 := ⟨by decide +kernel, rfl⟩
theorem d_Le_fill_130 : Dc prog_5_method_3_code 130 (.iadd) 1 131 := ⟨by decide +kernel, rfl⟩
theorem d_Le_fill_131 : Dc prog_5_method_3_code 131 (.invokevirtual 66) 3 134 := ⟨by decide +kernel, rfl⟩
theorem d_Le_fill_134 : Dj prog_5_method_3_code 134 (.ifCond .eq 7) 137 7 141 := ⟨by decide +kernel, rfl, rfl⟩
theorem d_Le_fill_137 : Dc prog_5_method_3_code 137 (.iconst 1) 1 138 := ⟨by decide +kernel, rfl⟩
theorem d_Le_fill_138 : Dj prog_5_method_3_code 138 (.goto 4) 141 4 142 := ⟨by decide +kernel, rfl, rfl⟩
theorem d_Le_fill_141 : Dc prog_5_method_3_code 141 (.iconst 0) 1 142 := ⟨by decide +kernel, rfl⟩
theorem d_Le_fill_142 : Dc prog_5_method_3_code 142 (.istore 5) 2 144 := ⟨by decide +kernel, rfl⟩
theorem d_Le_fill_144 : Dc prog_5_method_3_code 144 (.aload_n 1) 1 145 := ⟨by decide +kernel, rfl⟩
theorem d_Le_fill_145 : Dc prog_5_method_3_code 145 (.getfield 70) 3 148 := ⟨by decide +kernel, rfl⟩
theorem d_Le_fill_148 : Dc prog_5_method_3_code 148 (.iload_n 3) 1 149 := ⟨by decide +kernel, rfl⟩
theorem d_Le_fill_149 : Dc prog_5_method_3_code 149 (.iaload) 1 150 := ⟨by decide +kernel, rfl⟩
theorem d_Le_fill_150 : Dc prog_5_method_3_code 150 (.bipush 6) 2 152 := ⟨by decide +kernel, rfl⟩
theorem d_Le_fill_152 : Dj prog_5_method_3_code 152 (.if_icmp .eq 19) 155 19 171 := ⟨by decide +kernel, rfl, rfl⟩
theorem d_Le_fill_155 : Dc prog_5_method_3_code 155 (.aload_n 1) 1 156 := ⟨by decide +kernel, rfl⟩
theorem d_Le_fill_156 : Dc prog_5_method_3_code 156 (.getfield 70) 3 159 := ⟨by decide +kernel, rfl⟩
theorem d_Le_fill_159 : Dc prog_5_method_3_code 159 (.iload_n 3) 1 160 := ⟨by decide +kernel, rfl⟩
theorem d_Le_fill_160 : Dc prog_5_method_3_code 160 (.iaload) 1 161 := ⟨by decide +kernel, rfl⟩
theorem d_Le_fill_161 : Dc prog_5_method_3_code 161 (.aload_n 1) 1 162 := ⟨by decide +kernel, rfl⟩
theorem d_Le_fill_162 : Dc prog_5_method_3_code 162 (.getfield 61) 3 165 := ⟨by decide +kernel, rfl⟩
theorem d_Le_fill_165 : Dc prog_5_method_3_code 165 (.iload 4) 2 167 := ⟨by decide +kernel, rfl⟩
theorem d_Le_fill_167 : Dc prog_5_method_3_code 167 (.iaload) 1 168 := ⟨by decide +kernel, rfl⟩
theorem d_Le_fill_168 : Dj prog_5_method_3_code 168 (.if_icmp .ne 7) 171 7 175 := ⟨by decide +kernel, rfl, rfl⟩
theorem d_Le_fill_171 : Dc prog_5_method_3_code 171 (.iconst 1) 1 172 := ⟨by decide +kernel, rfl⟩
theorem d_Le_fill_172 : Dj prog_5_method_3_code 172 (.goto 4) 175 4 176 := ⟨by decide +kernel, rfl, rfl⟩
theorem d_Le_fill_175 : Dc prog_5_method_3_code 175 (.iconst 0) 1 176 := ⟨by decide +kernel, rfl⟩
theorem d_Le_fill_176 : Dc prog_5_method_3_code 176 (.istore 6) 2 178 := ⟨by decide +kernel, rfl⟩
theorem d_Le_fill_178 : Dc prog_5_method_3_code 178 (.iload 6) 2 180 := ⟨by decide +kernel, rfl⟩
theorem d_Le_fill_180 : Dj prog_5_method_3_code 180 (.ifCond .eq 21) 183 21 201 := ⟨by decide +kernel, rfl, rfl⟩
theorem d_Le_fill_183 : Dc prog_5_method_3_code 183 (.iload 5) 2 185 := ⟨by decide +kernel, rfl⟩
theorem d_Le_fill_185 : Dj prog_5_method_3_code 185 (.ifCond .ne 16) 188 16 201 := ⟨by decide +kernel, rfl, rfl⟩
theorem d_Le_fill_188 : Dc prog_5_method_3_code 188 (.aload_n 0) 1 189 := ⟨by decide +kernel, rfl⟩
theorem d_Le_fill_189 : Dc prog_5_method_3_code 189 (.getfield 9) 3 192 := ⟨by decide +kernel, rfl⟩
theorem d_Le_fill_192 : Dc prog_5_method_3_code 192 (.iload_n 3) 1 193 := ⟨by decide +kernel, rfl⟩
theorem d_Le_fill_193 : Dc prog_5_method_3_code 193 (.dup2) 1 194 := ⟨by decide +kernel, rfl⟩
theorem d_Le_fill_194 : Dc prog_5_method_3_code 194 (.iaload) 1 195 := ⟨by decide +kernel, rfl⟩
theorem d_Le_fill_195 : Dc prog_5_method_3_code 195 (.iconst 1) 1 196 := ⟨by decide +kernel, rfl⟩
theorem d_Le_fill_196 : Dc prog_5_method_3_code 196 (.iload 4) 2 198 := ⟨by decide +kernel, rfl⟩
theorem d_Le_fill_198 : Dc prog_5_method_3_code 198 (.ishl) 1 199 := ⟨by decide +kernel, rfl⟩
theorem d_Le_fill_199 : Dc prog_5_method_3_code 199 (.ior) 1 200 := ⟨by decide +kernel, rfl⟩
theorem d_Le_fill_200 : Dc prog_5_method_3_code 200 (.iastore) 1 201 := ⟨by decide +kernel, rfl⟩
theorem d_Le_fill_201 : Dc prog_5_method_3_code 201 (.iinc 4 1) 3 204 := ⟨by decide +kernel, rfl⟩
theorem d_Le_fill_204 : Dj prog_5_method_3_code 204 (.goto (-141)) 207 (-141) 63 := ⟨by decide +kernel, rfl, rfl⟩
theorem d_Le_fill_207 : Dc prog_5_method_3_code 207 (.iinc 3 1) 3 210 := ⟨by decide +kernel, rfl⟩
theorem d_Le_fill_210 : Dj prog_5_method_3_code 210 (.goto (-183)) 213 (-183) 27 := ⟨by decide +kernel, rfl, rfl⟩
theorem d_Le_fill_213 : Dc prog_5_method_3_code 213 (.return_) 1 214 := ⟨by decide +kernel, rfl⟩
theorem fl_Le_9 : FL "SubgraphDesk$Ledger" 9 4 0 true (.array .int) (3, 1) := ⟨R_Le, F_Le, 4, ty_Le, rfl, rfl, in_Le, tyok_Le, nm_Le, by decide, gd 374 (by decide +kernel) rfl, rfl, rfl, rfl⟩
theorem fl_Le_45 : FL "SubgraphDesk$Ledger" 45 2 10 true (.array .int) (3, 7) := ⟨R_Bo, F_Bo, 15, ty_Bo, rfl, rfl, in_Bo, tyok_Bo, nm_Bo, by decide, gd 223 (by decide +kernel) rfl, rfl, rfl, rfl⟩
theorem fl_Le_50 : FL "SubgraphDesk$Ledger" 50 2 5 false .int (0, 0) := ⟨R_Bo, F_Bo, 15, ty_Bo, rfl, rfl, in_Bo, tyok_Bo, nm_Bo, by decide, gd 203 (by decide +kernel) rfl, rfl, rfl, rfl⟩
theorem fl_Le_58 : FL "SubgraphDesk$Ledger" 58 2 0 false .int (0, 0) := ⟨R_Bo, F_Bo, 15, ty_Bo, rfl, rfl, in_Bo, tyok_Bo, nm_Bo, by decide, gd 178 (by decide +kernel) rfl, rfl, rfl, rfl⟩
theorem fl_Le_61 : FL "SubgraphDesk$Ledger" 61 2 1 true (.array .int) (3, 1) := ⟨R_Bo, F_Bo, 15, ty_Bo, rfl, rfl, in_Bo, tyok_Bo, nm_Bo, by decide, gd 183 (by decide +kernel) rfl, rfl, rfl, rfl⟩
theorem fl_Le_70 : FL "SubgraphDesk$Ledger" 70 2 6 true (.array .int) (3, 4) := ⟨R_Bo, F_Bo, 15, ty_Bo, rfl, rfl, in_Bo, tyok_Bo, nm_Bo, by decide, gd 207 (by decide +kernel) rfl, rfl, rfl, rfl⟩
theorem ml_Le_54 : Cond.methodLink "SubgraphDesk$Ledger" 54 m_Bo_linksOf.1 ∈ lw_gd := gd 684 (by decide +kernel) rfl
theorem ml_Le_63 : Cond.methodLink "SubgraphDesk$Ledger" 63 m_Bo_degreeOf.1 ∈ lw_gd := gd 685 (by decide +kernel) rfl
theorem ml_Le_66 : Cond.methodLink "SubgraphDesk$Ledger" 66 m_Le_weigh.1 ∈ lw_gd := gd 686 (by decide +kernel) rfl
/-- the law that is in force -/
def gLw (g : GC) : Option LawT := match gF g with
  | none => none
  | some i => some ((gL g).getD i [])
theorem gTell_n {g : GC} {kd v n : Nat} {d : Int} (h : gLw g = none) : gTell g kd v n d = d := by
  unfold gLw at h
  unfold gTell
  cases hf : gF g with
  | none => rfl
  | some i => rw [hf] at h; cases h
theorem gTell_s {g : GC} {kd v n : Nat} {d : Int} {q : LawT} (h : gLw g = some q) : gTell g kd v n d = q.foldl (tellS (envL g v n) kd) d := by
  unfold gLw at h
  unfold gTell
  cases hf : gF g with
  | none => rw [hf] at h; cases h
  | some i =>
    rw [hf] at h
    have h2 : (gL g).getD i [] = q := Option.some.inj h
    show ((gL g).getD i []).foldl _ d = _
    rw [h2]
theorem may_y {g : GC} {v n : Nat} (h : gMay g v n = true) : mayN g v (n + 1) = mayN g v n ||| 1 <<< n := by rw [mayN, if_pos h]
theorem may_n {g : GC} {v n : Nat} (h : ¬ gMay g v n = true) : mayN g v (n + 1) = mayN g v n := by rw [mayN, if_neg h, Nat.or_zero]
/-- while the ledger is filled -/
def FrL (w w2 : Mem) : Prop := (∀ a, a < 32 ∨ 34 < a → rI w2 a = rI w a) ∧ (∀ a, a ≠ 35 → rJ w2 a = rJ w a) ∧ w2.2.2 = w.2.2
theorem FrL.rf (w : Mem) : FrL w w := ⟨fun _ _ => rfl, fun _ _ => rfl, rfl⟩
theorem FrL.tr {a b c : Mem} (h : FrL a b) (h2 : FrL b c) : FrL a c := ⟨fun x hx => (h2.1 x hx).trans (h.1 x hx), fun x hx => (h2.2.1 x hx).trans (h.2.1 x hx), h2.2.2.trans h.2.2⟩
theorem FrL.I {w w2 : Mem} {o k : Nat} {x : Int32} (ho : 32 ≤ o ∧ o ≤ 34) (h : FrL w w2) : FrL w (sI w2 o k x) := ⟨fun a ha => by rw [rI_sI_ne _ _ _ (by omega)]; exact h.1 a ha, h.2⟩
theorem WgF.L {m : Nat} {w w2 : Mem} (h : WgF m w w2) : FrL w w2 := ⟨fun a ha => h.1 a (by omega), h.2.2.1, h.2.2.2⟩
theorem FrL.Q {w w2 : Mem} (h : FrL w w2) : DkQ w w2 := ⟨fun a ha => h.1 a (by omega), fun a ha => h.2.1 a (by omega), KpR.of h.2.2⟩
theorem PrgL.l {w w2 : Mem} {p : Nat} {q : LawT} (h : PrgL w p q) (f : FrL w w2) : PrgL w2 p q := h.fr2 (fun a ha => f.1 a (by omega)) (fun a _ => by unfold rR; rw [f.2.2]) (by rw [f.2.2])
theorem BRow.l {w w2 : Mem} {g : GC} (h : BRow w 1 g) (f : FrL w w2) : BRow w2 1 g := h.fr (fun a h1 h2 => f.1 a (by omega))
/-- who may lie where, as far as it is told; the costs -/
def LeM (w : Mem) (g : GC) (v : Nat) : Prop := ∀ u, u < v → rI w 32 u = nI (mayN g u (gN g))
def LeC (w : Mem) (g : GC) (v n : Nat) : Prop := ∀ u m, (u < v ∧ m < gN g) ∨ (u = v ∧ m < n) → rI w 33 (u * 12 + m) = nI (gCost g u m)
/-- the ledger is filled -/
def LeP (w : Mem) (g : GC) : Prop := LeM w g (gV g) ∧ LeC w g (gV g) 0
/-- the words, as far as they are written -/
def LeW (w : Mem) (g : GC) (v : Nat) : Prop := rI w 34 5 = nI (gT g 0) ∧ rI w 34 6 = nI (gT g 2) ∧ rI w 34 0 = nI v ∧ rI w 34 4 = nI (pop (gK g v))
theorem envW_of {w : Mem} {g : GC} {v n : Nat} (hW : WG g) (hv : v < gV g) (hn : n < gN g) (h : LeW w g v) (h1 : rI w 34 1 = nI n) (h2 : rI w 34 2 = nI (gC g n)) (h3 : rI w 34 3 = nI (pop (nearB (gE g) n))) : EnvW w (envL g v n) := by
  obtain ⟨g5, g6, g0, g4⟩ := h
  have hvv := hW.v
  have hnn := hW.n
  have hc := hW.c n hn
  have hp1 := pop_le (nearB (gE g) n)
  have hp2 := pop_le (gK g v)
  obtain ⟨t0, t1, t2⟩ := hW.t
  have e : ∀ x : Nat, nI x = Int32.ofInt (x : Int) := fun x => (Int32.ofInt_eq_ofNat).symm
  intro o ho1 ho7
  rcases (show o = 1 ∨ o = 2 ∨ o = 3 ∨ o = 4 ∨ o = 5 ∨ o = 6 ∨ o = 7 by omega) with rfl | rfl | rfl | rfl | rfl | rfl | rfl
  · exact ⟨g0.trans (e v), by show bd (v : Int); omega⟩
  · exact ⟨h1.trans (e n), by show bd (n : Int); omega⟩
  · exact ⟨h2.trans (e _), by show bd (gC g n : Int); omega⟩
  · exact ⟨h3.trans (e _), by show bd (pop (nearB (gE g) n) : Int); omega⟩
  · exact ⟨g4.trans (e _), by show bd (pop (gK g v) : Int); omega⟩
  · exact ⟨g5.trans (e _), by show bd (gT g 0 : Int); omega⟩
  · exact ⟨g6.trans (e _), by show bd (gT g 2 : Int); omega⟩
theorem envL_f (g : GC) (o : Option Nat) (v n : Nat) : envL (gForce g o) v n = envL g v n := rfl
theorem cost_1 {g : GC} {v n : Nat} (h : gLw g = none) : gCost g v n = 1 := by
  unfold gCost
  rw [gTell_n h]
  rfl
theorem mayI {g : GC} {v n : Nat} : gMay g v n = true ↔ (gY g v = 6 ∨ gY g v = gC g n) ∧ gTell g 1 v n 0 = 0 := may_iff
theorem c_Le_fillN {E : EV} {w : Mem} {g : GC} {o : Option Nat} (hR : BRow w 1 g) (hW : WG g) (hlw : gLw (gForce g o) = none) : T E m_Le_fill 3 0 0 [.ref 31, .ref 1, .null] w (fun r w2 => r = none ∧ FrL w w2 ∧ LeP w2 (gForce g o)) := by
  refine T_of (L := [.ref 31, .ref 1, .null, un, un, un, un]) cf_Le_fill rfl (Nat.le_of_ble_eq_true rfl) (fun X hX hF => ?_)
  have hgn := hW.n
  have hgv := hW.v
  have lpO : ∀ (fuel : Nat) (v : Nat) (wk : Mem), gV g - v < fuel → (FrL w wk) → (LeM wk (gForce g o) v) → (LeC wk (gForce g o) v 0) → (rI wk 34 5 = nI (gT g 0)) → (rI wk 34 6 = nI (gT g 2)) → (v ≤ gV g) → G0 E X 0 0 27 [.ref 31, .ref 1, .null, .int (nI v), un, un, un] [] wk := by
    intro fuel
    induction fuel with
    | zero => intro v wk q0; exact absurd q0 (Nat.not_lt_zero _)
    | succ fuel ih =>
      intro v wk q0 q1 q2 q3 q4 q5 q6
      refine g_iload3 hX d_Le_fill_27 ?_
      refine g_aload1 hX d_Le_fill_28 ?_
      refine g_getI hX d_Le_fill_29 fl_Le_50 (lv_1 _) ?_
      refine g_topi (hR.l q1).v ?_
      refine g_icmpN_ge hX d_Le_fill_32 (by omega) (by omega) (fun e32 => ?_) (fun e32 => ?_)
      · refine g_vret hX hF d_Le_fill_213 (by omega) (by omega) ?_
        obtain rfl : v = gV g := by omega
        exact ⟨rfl, q1, q2, q3⟩
      · have ihv := ih
        refine g_aload0 hX d_Le_fill_35 ?_
        refine g_getF hX d_Le_fill_36 fl_Le_9 (lv_31 _) ?_
        refine g_iload3 hX d_Le_fill_39 ?_
        refine g_iconst (v := nI 0) hX d_Le_fill_40 rfl ?_
        refine g_iast hX d_Le_fill_41 (lv_32 _) rfl (by omega) ?_
        refine g_aload0 hX d_Le_fill_42 ?_
        refine g_getF hX d_Le_fill_43 fl_Le_18 (lv_31 _) ?_
        refine g_iconst (v := nI 0) hX d_Le_fill_46 rfl ?_
        refine g_iload3 hX d_Le_fill_47 ?_
        refine g_iast hX d_Le_fill_48 (lv_34 _) rfl (by decide) ?_
        refine g_aload0 hX d_Le_fill_49 ?_
        refine g_getF hX d_Le_fill_50 fl_Le_18 (lv_31 _) ?_
        refine g_iconst (v := nI 4) hX d_Le_fill_53 rfl ?_
        refine g_aload1 hX d_Le_fill_54 ?_
        refine g_iload3 hX d_Le_fill_55 ?_
        refine g_callV (As := [_]) hX hF.1 d_Le_fill_56 ml_Le_54 cf_Bo_linksOf cv_Bo_linksOf rfl rfl (c_Bo_linksOf isBo1 (show BRow (sI (sI wk 32 v (nI 0)) 34 0 (nI v)) 1 g from (hR.l q1).fr (fun a h1 h2 => by rw [rI_sI_ne _ _ _ (by omega), rI_sI_ne _ _ _ (by omega)])) hW) (rcv_obj hX (lv_1 _) rfl rfl) (by omega) (by omega) (by omega) (Nat.le_of_ble_eq_true rfl) ?_
        refine ret_k ?_
        refine g_topi (lnkI_n e32 (by omega)) ?_
        refine g_iast hX d_Le_fill_59 (lv_34 _) rfl (by decide) ?_
        refine g_iconst (v := nI 0) hX d_Le_fill_60 rfl ?_
        refine g_istore4 hX d_Le_fill_61 rfl (by decide) ?_
        have lpI : ∀ (fuel : Nat) (m : Nat) (wk : Mem), gN g - m < fuel → (FrL w wk) → (LeM wk (gForce g o) v) → (LeC wk (gForce g o) v m) → (LeW wk g v) → (rI wk 32 v = nI (mayN (gForce g o) v m)) → (v < gV g) → (m ≤ gN g) → G0 E X 0 0 63 [.ref 31, .ref 1, .null, .int (nI v), .int (nI m), un, un] [] wk := by
          intro fuel
          induction fuel with
          | zero => intro m wk q0; exact absurd q0 (Nat.not_lt_zero _)
          | succ fuel ih =>
            intro m wk q0 q1 q2 q3 q4 q5 q6 q7
            refine g_iload4 hX d_Le_fill_63 ?_
            refine g_aload1 hX d_Le_fill_65 ?_
            refine g_getI hX d_Le_fill_66 fl_Le_58 (lv_1 _) ?_
            refine g_topi (hR.l q1).n ?_
            refine g_icmpN_ge hX d_Le_fill_69 (by omega) (by omega) (fun e69 => ?_) (fun e69 => ?_)
            · obtain rfl : m = gN g := by omega
              refine g_fget 4 ?_
              refine g_iincN3 hX d_Le_fill_207 rfl (by decide) ?_
              refine g_goto hX d_Le_fill_210 ?_
              exact ihv (v + 1) wk (by omega) q1 (fun u hu => by
                by_cases e : u = v
                · rw [e]; exact q5
                · exact q2 u (by omega)) (fun u z hz => q3 u z (by have hgn : gN (gForce g o) = gN g := rfl; omega)) q4.1 q4.2.1 (by omega)
            · have hB := hR.l q1
              have hcm := hW.c m e69
              have hyv := hW.y v q6
              have hml := mayN_lt (gForce g o) v m (by omega)
              refine g_aload0 hX d_Le_fill_72 ?_
              refine g_getF hX d_Le_fill_73 fl_Le_18 (lv_31 _) ?_
              refine g_iconst (v := nI 1) hX d_Le_fill_76 rfl ?_
              refine g_iload4 hX d_Le_fill_77 ?_
              refine g_iast hX d_Le_fill_79 (lv_34 _) rfl (by decide) ?_
              refine g_aload0 hX d_Le_fill_80 ?_
              refine g_getF hX d_Le_fill_81 fl_Le_18 (lv_31 _) ?_
              refine g_iconst (v := nI 2) hX d_Le_fill_84 rfl ?_
              refine g_aload1 hX d_Le_fill_85 ?_
              refine g_getF hX d_Le_fill_86 fl_Le_61 (lv_1 _) ?_
              refine g_iload4 hX d_Le_fill_89 ?_
              refine g_iald hX d_Le_fill_91 (lv_2 _) rfl (by omega) ?_
              refine g_topi (show rI (sI wk 34 1 (nI m)) 2 m = nI (gC g m) by rw [rI_sI_ne _ _ _ (by decide)]; exact hB.c m e69) ?_
              refine g_iast hX d_Le_fill_92 (lv_34 _) rfl (by decide) ?_
              refine g_aload0 hX d_Le_fill_93 ?_
              refine g_getF hX d_Le_fill_94 fl_Le_18 (lv_31 _) ?_
              refine g_iconst (v := nI 3) hX d_Le_fill_97 rfl ?_
              refine g_aload1 hX d_Le_fill_98 ?_
              refine g_iload4 hX d_Le_fill_99 ?_
              refine g_callV (As := [_]) hX hF.1 d_Le_fill_101 ml_Le_63 cf_Bo_degreeOf cv_Bo_degreeOf rfl rfl (c_Bo_degreeOf isBo1 (show BRow (sI (sI wk 34 1 (nI m)) 34 2 (nI (gC g m))) 1 g from (hR.l q1).fr (fun a h1 h2 => by rw [rI_sI_ne _ _ _ (by omega), rI_sI_ne _ _ _ (by omega)])) hW) (rcv_obj hX (lv_1 _) rfl rfl) (by omega) (by omega) (by omega) (Nat.le_of_ble_eq_true rfl) ?_
              refine ret_k ?_
              refine g_topi (degI_n e69 (by omega)) ?_
              refine g_iast hX d_Le_fill_104 (lv_34 _) rfl (by decide) ?_
              refine g_aload0 hX d_Le_fill_105 ?_
              refine g_getF hX d_Le_fill_106 fl_Le_15 (lv_31 _) ?_
              refine g_iload3 hX d_Le_fill_109 ?_
              refine g_bipush (v := nI 12) hX d_Le_fill_110 rfl ?_
              refine g_imulN hX d_Le_fill_112 ?_
              refine g_iload4 hX d_Le_fill_113 ?_
              refine g_iaddN hX d_Le_fill_115 ?_
              refine g_iconst (v := nI 1) hX d_Le_fill_116 rfl ?_
              refine g_iast hX d_Le_fill_117 (lv_33 _) rfl (by omega) ?_
              obtain ⟨w3, hw3⟩ : ∃ z, (sI (sI (sI (sI wk 34 1 (nI m)) 34 2 (nI (gC g m))) 34 3 (nI (pop (nearB (gE g) m)))) 33 (v * 12 + m) (nI 1)) = z := ⟨_, rfl⟩
              have hf3 : FrL w w3 := by rw [← hw3]; exact (((q1.I (by decide)).I (by decide)).I (by decide)).I (by decide)
              have hB3 := hR.l hf3
              have hm3 : LeM w3 (gForce g o) v := fun u hu => by rw [← hw3, rI_sI_ne _ _ _ (by decide), rI_sI_ne _ _ _ (by decide), rI_sI_ne _ _ _ (by decide), rI_sI_ne _ _ _ (by decide)]; exact q2 u hu
              have hv3 : rI w3 32 v = nI (mayN (gForce g o) v m) := by rw [← hw3, rI_sI_ne _ _ _ (by decide), rI_sI_ne _ _ _ (by decide), rI_sI_ne _ _ _ (by decide), rI_sI_ne _ _ _ (by decide)]; exact q5
              have hw34 : LeW w3 g v := by
                have e5 : ∀ k, k ≠ 1 → k ≠ 2 → k ≠ 3 → rI w3 34 k = rI wk 34 k := fun k k1 k2 k3 => by rw [← hw3, rI_sI_ne _ _ _ (by decide), rI_sI, upd_eq, if_neg k3, rI_sI, upd_eq, if_neg k2, rI_sI, upd_eq, if_neg k1]
                unfold LeW
                rw [e5 5 (by decide) (by decide) (by decide), e5 6 (by decide) (by decide) (by decide), e5 0 (by decide) (by decide) (by decide), e5 4 (by decide) (by decide) (by decide)]
                exact q4
              have hc3 : LeC w3 (gForce g o) v m := fun u z hz => by
                have hgn : gN (gForce g o) = gN g := rfl
                rw [← hw3, rI_sI, upd_eq, if_neg (by omega), rI_sI_ne _ _ _ (by decide), rI_sI_ne _ _ _ (by decide), rI_sI_ne _ _ _ (by decide)]
                exact q3 u z hz
              have hc31 : rI w3 33 (v * 12 + m) = nI 1 := by rw [← hw3, rI_sI, upd_eq, if_pos rfl]
              refine g_mem hw3 ?_
              have hf4 := hf3
              have hB4 := hB3
              have hv4 := hv3
              have hm4 := hm3
              have hw44 := hw34
              have hcx : LeC w3 (gForce g o) v (m + 1) := fun u z hz => by
                by_cases e : u * 12 + z = v * 12 + m
                · have hgn : gN (gForce g o) = gN g := rfl
                  obtain ⟨rfl, rfl⟩ : u = v ∧ z = m := by omega
                  rw [hc31, cost_1 hlw]
                · exact hc3 u z (by omega)
              have ht4 : gTell (gForce g o) 1 v m 0 = 0 := gTell_n hlw
              refine g_aloadN2 hX d_Le_fill_118 ?_
              refine g_ifnullN hX d_Le_fill_119 ?_
              refine g_iconst (v := nI 0) hX d_Le_fill_141 rfl ?_
              refine g_istore5 hX d_Le_fill_142 rfl (by decide) ?_
              refine g_aload1 hX d_Le_fill_144 ?_
              refine g_getF hX d_Le_fill_145 fl_Le_70 (lv_1 _) ?_
              refine g_iload3 hX d_Le_fill_148 ?_
              refine g_iald hX d_Le_fill_149 (lv_5 _) rfl (by omega) ?_
              refine g_topi (show rI w3 5 v = nI (gY g v) from hB4.y v q6) ?_
              refine g_bipush (v := nI 6) hX d_Le_fill_150 rfl ?_
              refine g_icmpN_eq hX d_Le_fill_152 (by omega) (by omega) (fun e152 => ?_) (fun e152 => ?_)
              · refine g_iconst (v := nI 1) hX d_Le_fill_171 rfl ?_
                refine g_goto hX d_Le_fill_172 ?_
                refine g_istore6 hX d_Le_fill_176 rfl (by decide) ?_
                refine g_iload6 hX d_Le_fill_178 ?_
                refine g_if_eq hX d_Le_fill_180 (fun h => absurd h (by decide)) (fun c2 => ?_)
                refine g_iload5 hX d_Le_fill_183 ?_
                refine g_if_ne hX d_Le_fill_185 (fun h => absurd (by decide) h) (fun c3 => ?_)
                refine g_aload0 hX d_Le_fill_188 ?_
                refine g_getF hX d_Le_fill_189 fl_Le_9 (lv_31 _) ?_
                refine g_iload3 hX d_Le_fill_192 ?_
                refine g_dup2 hX d_Le_fill_193 rfl rfl ?_
                refine g_iald hX d_Le_fill_194 (lv_32 _) rfl (by omega) ?_
                refine g_topi (show rI w3 32 v = nI (mayN (gForce g o) v m) from hv4) ?_
                refine g_iconst (v := nI 1) hX d_Le_fill_195 rfl ?_
                refine g_iload4 hX d_Le_fill_196 ?_
                refine g_ishlN hX d_Le_fill_198 (by omega) ?_
                refine g_iorN hX d_Le_fill_199 ?_
                refine g_iast hX d_Le_fill_200 (lv_32 _) rfl (by omega) ?_
                refine g_iincN4 hX d_Le_fill_201 rfl (by decide) ?_
                refine g_goto hX d_Le_fill_204 ?_
                refine g_fget 5 ?_
                refine g_fget 6 ?_
                exact ih (m + 1) _ (by omega) (hf4.I (by decide)) (fun u hu => by rw [rI_sI, upd_eq, if_neg (by omega)]; exact hm4 u hu) (fun u z hz => by rw [rI_sI_ne _ _ _ (by decide)]; exact hcx u z hz) (by unfold LeW; rw [rI_sI_ne _ _ _ (by decide)]; exact hw44) (by rw [rI_sI, upd_eq, if_pos rfl, may_y (g := gForce g o) (mayI.mpr ⟨Or.inl e152, ht4⟩)]) q6 (by omega)
              · refine g_aload1 hX d_Le_fill_155 ?_
                refine g_getF hX d_Le_fill_156 fl_Le_70 (lv_1 _) ?_
                refine g_iload3 hX d_Le_fill_159 ?_
                refine g_iald hX d_Le_fill_160 (lv_5 _) rfl (by omega) ?_
                refine g_topi (show rI w3 5 v = nI (gY g v) from hB4.y v q6) ?_
                refine g_aload1 hX d_Le_fill_161 ?_
                refine g_getF hX d_Le_fill_162 fl_Le_61 (lv_1 _) ?_
                refine g_iload4 hX d_Le_fill_165 ?_
                refine g_iald hX d_Le_fill_167 (lv_2 _) rfl (by omega) ?_
                refine g_topi (show rI w3 2 m = nI (gC g m) from hB4.c m e69) ?_
                refine g_icmpN_ne hX d_Le_fill_168 (by omega) (by omega) (fun e168 => ?_) (fun e168 => ?_)
                · refine g_iconst (v := nI 0) hX d_Le_fill_175 rfl ?_
                  refine g_istore6 hX d_Le_fill_176 rfl (by decide) ?_
                  refine g_iload6 hX d_Le_fill_178 ?_
                  refine g_if_eq hX d_Le_fill_180 (fun c5 => ?_) (fun h => absurd (by decide) h)
                  refine g_iincN4 hX d_Le_fill_201 rfl (by decide) ?_
                  refine g_goto hX d_Le_fill_204 ?_
                  refine g_fget 5 ?_
                  refine g_fget 6 ?_
                  exact ih (m + 1) _ (by omega) hf4 hm4 hcx hw44 (by rw [hv4, may_n (g := gForce g o) (fun z => ((mayI (g := gForce g o)).mp z).1.elim (fun y => e152 y) (fun y => e168 y))]) q6 (by omega)
                · refine g_iconst (v := nI 1) hX d_Le_fill_171 rfl ?_
                  refine g_goto hX d_Le_fill_172 ?_
                  refine g_istore6 hX d_Le_fill_176 rfl (by decide) ?_
                  refine g_iload6 hX d_Le_fill_178 ?_
                  refine g_if_eq hX d_Le_fill_180 (fun h => absurd h (by decide)) (fun c6 => ?_)
                  refine g_iload5 hX d_Le_fill_183 ?_
                  refine g_if_ne hX d_Le_fill_185 (fun h => absurd (by decide) h) (fun c7 => ?_)
                  refine g_aload0 hX d_Le_fill_188 ?_
                  refine g_getF hX d_Le_fill_189 fl_Le_9 (lv_31 _) ?_
                  refine g_iload3 hX d_Le_fill_192 ?_
                  refine g_dup2 hX d_Le_fill_193 rfl rfl ?_
                  refine g_iald hX d_Le_fill_194 (lv_32 _) rfl (by omega) ?_
                  refine g_topi (show rI w3 32 v = nI (mayN (gForce g o) v m) from hv4) ?_
                  refine g_iconst (v := nI 1) hX d_Le_fill_195 rfl ?_
                  refine g_iload4 hX d_Le_fill_196 ?_
                  refine g_ishlN hX d_Le_fill_198 (by omega) ?_
                  refine g_iorN hX d_Le_fill_199 ?_
                  refine g_iast hX d_Le_fill_200 (lv_32 _) rfl (by omega) ?_
                  refine g_iincN4 hX d_Le_fill_201 rfl (by decide) ?_
                  refine g_goto hX d_Le_fill_204 ?_
                  refine g_fget 5 ?_
                  refine g_fget 6 ?_
                  exact ih (m + 1) _ (by omega) (hf4.I (by decide)) (fun u hu => by rw [rI_sI, upd_eq, if_neg (by omega)]; exact hm4 u hu) (fun u z hz => by rw [rI_sI_ne _ _ _ (by decide)]; exact hcx u z hz) (by unfold LeW; rw [rI_sI_ne _ _ _ (by decide)]; exact hw44) (by rw [rI_sI, upd_eq, if_pos rfl, may_y (g := gForce g o) (mayI.mpr ⟨Or.inr e168, ht4⟩)]) q6 (by omega)
        exact lpI (gN g + 1) 0 _ (by omega) (((q1.I (by decide)).I (by decide)).I (by decide)) (fun u hu => by rw [rI_sI_ne _ _ _ (by decide), rI_sI_ne _ _ _ (by decide), rI_sI, upd_eq, if_neg (by omega)]; exact q2 u hu) (fun u z hz => by rw [rI_sI_ne _ _ _ (by decide), rI_sI_ne _ _ _ (by decide), rI_sI_ne _ _ _ (by decide)]; exact q3 u z (by omega)) ⟨by rw [rI_sI, upd_eq, if_neg (by decide), rI_sI, upd_eq, if_neg (by decide), rI_sI_ne _ _ _ (by decide)]; exact q4, by rw [rI_sI, upd_eq, if_neg (by decide), rI_sI, upd_eq, if_neg (by decide), rI_sI_ne _ _ _ (by decide)]; exact q5, by rw [rI_sI, upd_eq, if_neg (by decide), rI_sI, upd_eq, if_pos rfl], by rw [rI_sI, upd_eq, if_pos rfl]⟩ (by rw [rI_sI_ne _ _ _ (by decide), rI_sI_ne _ _ _ (by decide), rI_sI, upd_eq, if_pos rfl]; rfl) e32 (Nat.zero_le _)
  refine g_aload0 hX d_Le_fill_0 ?_
  refine g_getF hX d_Le_fill_1 fl_Le_18 (lv_31 _) ?_
  refine g_iconst (v := nI 5) hX d_Le_fill_4 rfl ?_
  refine g_aload1 hX d_Le_fill_5 ?_
  refine g_getF hX d_Le_fill_6 fl_Le_45 (lv_1 _) ?_
  refine g_iconst (v := nI 0) hX d_Le_fill_9 rfl ?_
  refine g_iald hX d_Le_fill_10 (lv_8 _) rfl (by decide) ?_
  refine g_topi (hR.t 0 (by decide)) ?_
  refine g_iast hX d_Le_fill_11 (lv_34 _) rfl (by decide) ?_
  refine g_aload0 hX d_Le_fill_12 ?_
  refine g_getF hX d_Le_fill_13 fl_Le_18 (lv_31 _) ?_
  refine g_bipush (v := nI 6) hX d_Le_fill_16 rfl ?_
  refine g_aload1 hX d_Le_fill_18 ?_
  refine g_getF hX d_Le_fill_19 fl_Le_45 (lv_1 _) ?_
  refine g_iconst (v := nI 2) hX d_Le_fill_22 rfl ?_
  refine g_iald hX d_Le_fill_23 (lv_8 _) rfl (by decide) ?_
  refine g_topi (show rI (sI w 34 5 (nI (gT g 0))) 8 2 = nI (gT g 2) by rw [rI_sI_ne _ _ _ (by decide)]; exact hR.t 2 (by decide)) ?_
  refine g_iast hX d_Le_fill_24 (lv_34 _) rfl (by decide) ?_
  refine g_iconst (v := nI 0) hX d_Le_fill_25 rfl ?_
  refine g_istore3 hX d_Le_fill_26 rfl (by decide) ?_
  exact lpO (gV g + 1) 0 _ (by omega) (((FrL.rf w).I (by decide)).I (by decide)) (fun u hu => absurd hu (Nat.not_lt_zero _)) (fun u z hz => absurd hz (by omega)) (by rw [rI_sI, upd_eq, if_neg (by decide), rI_sI, upd_eq, if_pos rfl]) (by rw [rI_sI, upd_eq, if_pos rfl]) (Nat.zero_le _)
theorem c_Le_fillP {E : EV} {w : Mem} {g : GC} {o : Option Nat} (hR : BRow w 1 g) (hW : WG g) {p : Nat} {q : LawT} (hP : PrgL w p q) (hlw : gLw (gForce g o) = some q) : T E m_Le_fill 3 0 0 [.ref 31, .ref 1, .ref p] w (fun r w2 => r = none ∧ FrL w w2 ∧ LeP w2 (gForce g o)) := by
  refine T_of (L := [.ref 31, .ref 1, .ref p, un, un, un, un]) cf_Le_fill rfl (Nat.le_of_ble_eq_true rfl) (fun X hX hF => ?_)
  have hgn := hW.n
  have hgv := hW.v
  have lpO : ∀ (fuel : Nat) (v : Nat) (wk : Mem), gV g - v < fuel → (FrL w wk) → (LeM wk (gForce g o) v) → (LeC wk (gForce g o) v 0) → (rI wk 34 5 = nI (gT g 0)) → (rI wk 34 6 = nI (gT g 2)) → (v ≤ gV g) → G0 E X 0 0 27 [.ref 31, .ref 1, .ref p, .int (nI v), un, un, un] [] wk := by
    intro fuel
    induction fuel with
    | zero => intro v wk q0; exact absurd q0 (Nat.not_lt_zero _)
    | succ fuel ih =>
      intro v wk q0 q1 q2 q3 q4 q5 q6
      have hPk := hP.l q1
      refine g_iload3 hX d_Le_fill_27 ?_
      refine g_aload1 hX d_Le_fill_28 ?_
      refine g_getI hX d_Le_fill_29 fl_Le_50 (lv_1 _) ?_
      refine g_topi (hR.l q1).v ?_
      refine g_icmpN_ge hX d_Le_fill_32 (by omega) (by omega) (fun e32 => ?_) (fun e32 => ?_)
      · refine g_vret hX hF d_Le_fill_213 (by omega) (by omega) ?_
        obtain rfl : v = gV g := by omega
        exact ⟨rfl, q1, q2, q3⟩
      · have ihv := ih
        refine g_aload0 hX d_Le_fill_35 ?_
        refine g_getF hX d_Le_fill_36 fl_Le_9 (lv_31 _) ?_
        refine g_iload3 hX d_Le_fill_39 ?_
        refine g_iconst (v := nI 0) hX d_Le_fill_40 rfl ?_
        refine g_iast hX d_Le_fill_41 (lv_32 _) rfl (by omega) ?_
        refine g_aload0 hX d_Le_fill_42 ?_
        refine g_getF hX d_Le_fill_43 fl_Le_18 (lv_31 _) ?_
        refine g_iconst (v := nI 0) hX d_Le_fill_46 rfl ?_
        refine g_iload3 hX d_Le_fill_47 ?_
        refine g_iast hX d_Le_fill_48 (lv_34 _) rfl (by decide) ?_
        refine g_aload0 hX d_Le_fill_49 ?_
        refine g_getF hX d_Le_fill_50 fl_Le_18 (lv_31 _) ?_
        refine g_iconst (v := nI 4) hX d_Le_fill_53 rfl ?_
        refine g_aload1 hX d_Le_fill_54 ?_
        refine g_iload3 hX d_Le_fill_55 ?_
        refine g_callV (As := [_]) hX hF.1 d_Le_fill_56 ml_Le_54 cf_Bo_linksOf cv_Bo_linksOf rfl rfl (c_Bo_linksOf isBo1 (show BRow (sI (sI wk 32 v (nI 0)) 34 0 (nI v)) 1 g from (hR.l q1).fr (fun a h1 h2 => by rw [rI_sI_ne _ _ _ (by omega), rI_sI_ne _ _ _ (by omega)])) hW) (rcv_obj hX (lv_1 _) rfl rfl) (by omega) (by omega) (by omega) (Nat.le_of_ble_eq_true rfl) ?_
        refine ret_k ?_
        refine g_topi (lnkI_n e32 (by omega)) ?_
        refine g_iast hX d_Le_fill_59 (lv_34 _) rfl (by decide) ?_
        refine g_iconst (v := nI 0) hX d_Le_fill_60 rfl ?_
        refine g_istore4 hX d_Le_fill_61 rfl (by decide) ?_
        have lpI : ∀ (fuel : Nat) (m : Nat) (wk : Mem), gN g - m < fuel → (FrL w wk) → (LeM wk (gForce g o) v) → (LeC wk (gForce g o) v m) → (LeW wk g v) → (rI wk 32 v = nI (mayN (gForce g o) v m)) → (v < gV g) → (m ≤ gN g) → G0 E X 0 0 63 [.ref 31, .ref 1, .ref p, .int (nI v), .int (nI m), un, un] [] wk := by
          intro fuel
          induction fuel with
          | zero => intro m wk q0; exact absurd q0 (Nat.not_lt_zero _)
          | succ fuel ih =>
            intro m wk q0 q1 q2 q3 q4 q5 q6 q7
            have hPk := hP.l q1
            refine g_iload4 hX d_Le_fill_63 ?_
            refine g_aload1 hX d_Le_fill_65 ?_
            refine g_getI hX d_Le_fill_66 fl_Le_58 (lv_1 _) ?_
            refine g_topi (hR.l q1).n ?_
            refine g_icmpN_ge hX d_Le_fill_69 (by omega) (by omega) (fun e69 => ?_) (fun e69 => ?_)
            · obtain rfl : m = gN g := by omega
              refine g_fget 4 ?_
              refine g_iincN3 hX d_Le_fill_207 rfl (by decide) ?_
              refine g_goto hX d_Le_fill_210 ?_
              exact ihv (v + 1) wk (by omega) q1 (fun u hu => by
                by_cases e : u = v
                · rw [e]; exact q5
                · exact q2 u (by omega)) (fun u z hz => q3 u z (by have hgn : gN (gForce g o) = gN g := rfl; omega)) q4.1 q4.2.1 (by omega)
            · have hB := hR.l q1
              have hcm := hW.c m e69
              have hyv := hW.y v q6
              have hml := mayN_lt (gForce g o) v m (by omega)
              refine g_aload0 hX d_Le_fill_72 ?_
              refine g_getF hX d_Le_fill_73 fl_Le_18 (lv_31 _) ?_
              refine g_iconst (v := nI 1) hX d_Le_fill_76 rfl ?_
              refine g_iload4 hX d_Le_fill_77 ?_
              refine g_iast hX d_Le_fill_79 (lv_34 _) rfl (by decide) ?_
              refine g_aload0 hX d_Le_fill_80 ?_
              refine g_getF hX d_Le_fill_81 fl_Le_18 (lv_31 _) ?_
              refine g_iconst (v := nI 2) hX d_Le_fill_84 rfl ?_
              refine g_aload1 hX d_Le_fill_85 ?_
              refine g_getF hX d_Le_fill_86 fl_Le_61 (lv_1 _) ?_
              refine g_iload4 hX d_Le_fill_89 ?_
              refine g_iald hX d_Le_fill_91 (lv_2 _) rfl (by omega) ?_
              refine g_topi (show rI (sI wk 34 1 (nI m)) 2 m = nI (gC g m) by rw [rI_sI_ne _ _ _ (by decide)]; exact hB.c m e69) ?_
              refine g_iast hX d_Le_fill_92 (lv_34 _) rfl (by decide) ?_
              refine g_aload0 hX d_Le_fill_93 ?_
              refine g_getF hX d_Le_fill_94 fl_Le_18 (lv_31 _) ?_
              refine g_iconst (v := nI 3) hX d_Le_fill_97 rfl ?_
              refine g_aload1 hX d_Le_fill_98 ?_
              refine g_iload4 hX d_Le_fill_99 ?_
              refine g_callV (As := [_]) hX hF.1 d_Le_fill_101 ml_Le_63 cf_Bo_degreeOf cv_Bo_degreeOf rfl rfl (c_Bo_degreeOf isBo1 (show BRow (sI (sI wk 34 1 (nI m)) 34 2 (nI (gC g m))) 1 g from (hR.l q1).fr (fun a h1 h2 => by rw [rI_sI_ne _ _ _ (by omega), rI_sI_ne _ _ _ (by omega)])) hW) (rcv_obj hX (lv_1 _) rfl rfl) (by omega) (by omega) (by omega) (Nat.le_of_ble_eq_true rfl) ?_
              refine ret_k ?_
              refine g_topi (degI_n e69 (by omega)) ?_
              refine g_iast hX d_Le_fill_104 (lv_34 _) rfl (by decide) ?_
              refine g_aload0 hX d_Le_fill_105 ?_
              refine g_getF hX d_Le_fill_106 fl_Le_15 (lv_31 _) ?_
              refine g_iload3 hX d_Le_fill_109 ?_
              refine g_bipush (v := nI 12) hX d_Le_fill_110 rfl ?_
              refine g_imulN hX d_Le_fill_112 ?_
              refine g_iload4 hX d_Le_fill_113 ?_
              refine g_iaddN hX d_Le_fill_115 ?_
              refine g_iconst (v := nI 1) hX d_Le_fill_116 rfl ?_
              refine g_iast hX d_Le_fill_117 (lv_33 _) rfl (by omega) ?_
              obtain ⟨w3, hw3⟩ : ∃ z, (sI (sI (sI (sI wk 34 1 (nI m)) 34 2 (nI (gC g m))) 34 3 (nI (pop (nearB (gE g) m)))) 33 (v * 12 + m) (nI 1)) = z := ⟨_, rfl⟩
              have hf3 : FrL w w3 := by rw [← hw3]; exact (((q1.I (by decide)).I (by decide)).I (by decide)).I (by decide)
              have hB3 := hR.l hf3
              have hm3 : LeM w3 (gForce g o) v := fun u hu => by rw [← hw3, rI_sI_ne _ _ _ (by decide), rI_sI_ne _ _ _ (by decide), rI_sI_ne _ _ _ (by decide), rI_sI_ne _ _ _ (by decide)]; exact q2 u hu
              have hv3 : rI w3 32 v = nI (mayN (gForce g o) v m) := by rw [← hw3, rI_sI_ne _ _ _ (by decide), rI_sI_ne _ _ _ (by decide), rI_sI_ne _ _ _ (by decide), rI_sI_ne _ _ _ (by decide)]; exact q5
              have hw34 : LeW w3 g v := by
                have e5 : ∀ k, k ≠ 1 → k ≠ 2 → k ≠ 3 → rI w3 34 k = rI wk 34 k := fun k k1 k2 k3 => by rw [← hw3, rI_sI_ne _ _ _ (by decide), rI_sI, upd_eq, if_neg k3, rI_sI, upd_eq, if_neg k2, rI_sI, upd_eq, if_neg k1]
                unfold LeW
                rw [e5 5 (by decide) (by decide) (by decide), e5 6 (by decide) (by decide) (by decide), e5 0 (by decide) (by decide) (by decide), e5 4 (by decide) (by decide) (by decide)]
                exact q4
              have hc3 : LeC w3 (gForce g o) v m := fun u z hz => by
                have hgn : gN (gForce g o) = gN g := rfl
                rw [← hw3, rI_sI, upd_eq, if_neg (by omega), rI_sI_ne _ _ _ (by decide), rI_sI_ne _ _ _ (by decide), rI_sI_ne _ _ _ (by decide)]
                exact q3 u z hz
              have hc31 : rI w3 33 (v * 12 + m) = nI 1 := by rw [← hw3, rI_sI, upd_eq, if_pos rfl]
              refine g_mem hw3 ?_
              have hE3 : EnvW w3 (envL (gForce g o) v m) := envW_of (g := g) hW q6 e69 hw34 (by rw [← hw3, rI_sI_ne _ _ _ (by decide), rI_sI, upd_eq, if_neg (by decide), rI_sI, upd_eq, if_neg (by decide), rI_sI, upd_eq, if_pos rfl]) (by rw [← hw3, rI_sI_ne _ _ _ (by decide), rI_sI, upd_eq, if_neg (by decide), rI_sI, upd_eq, if_pos rfl]) (by rw [← hw3, rI_sI_ne _ _ _ (by decide), rI_sI, upd_eq, if_pos rfl])
              refine g_aload2 hX d_Le_fill_118 ?_
              refine g_ifnull hX d_Le_fill_119 ?_
              refine g_aload0 hX d_Le_fill_122 ?_
              refine g_aload2 hX d_Le_fill_123 ?_
              refine g_iload3 hX d_Le_fill_124 ?_
              refine g_bipush (v := nI 12) hX d_Le_fill_125 rfl ?_
              refine g_imulN hX d_Le_fill_127 ?_
              refine g_iload4 hX d_Le_fill_128 ?_
              refine g_iaddN hX d_Le_fill_130 ?_
              refine g_callV (As := [_, _]) hX hF.1 d_Le_fill_131 ml_Le_66 cf_Le_weigh cv_Le_weigh rfl rfl (c_Le_weigh (d := 1) (hP.l hf3) hE3 (by omega) hc31) (rcv_obj hX (lv_31 _) rfl rfl) (by omega) (by omega) (by omega) (Nat.le_of_ble_eq_true rfl) ?_
              rintro _ w4 ⟨rfl, hwg, hc4⟩
              have hf4 := hf3.tr hwg.L
              have hB4 := hR.l hf4
              have hv4 : rI w4 32 v = nI (mayN (gForce g o) v m) := by rw [hwg.1 32 (by decide)]; exact hv3
              have hm4 : LeM w4 (gForce g o) v := fun u hu => by rw [hwg.1 32 (by decide)]; exact hm3 u hu
              have hw44 : LeW w4 g v := by unfold LeW; rw [hwg.1 34 (by decide)]; exact hw34
              have hcx : LeC w4 (gForce g o) v (m + 1) := fun u z hz => by
                by_cases e : u * 12 + z = v * 12 + m
                · have hgn : gN (gForce g o) = gN g := rfl
                  obtain ⟨rfl, rfl⟩ : u = v ∧ z = m := by omega
                  rw [hc4]
                  unfold gCost
                  rw [gTell_s hlw]
                · rw [hwg.2.1 _ e]
                  exact hc3 u z (by omega)
              have ht4 : gTell (gForce g o) 1 v m 0 = q.foldl (tellS (envL (gForce g o) v m) 1) 0 := gTell_s hlw
              show G0 _ _ _ _ _ _ _ _
              refine g_ifB_eq hX d_Le_fill_134 (fun e134 => ?_) (fun e134 => ?_)
              · refine g_iconst (v := nI 0) hX d_Le_fill_141 rfl ?_
                refine g_istore5 hX d_Le_fill_142 rfl (by decide) ?_
                refine g_aload1 hX d_Le_fill_144 ?_
                refine g_getF hX d_Le_fill_145 fl_Le_70 (lv_1 _) ?_
                refine g_iload3 hX d_Le_fill_148 ?_
                refine g_iald hX d_Le_fill_149 (lv_5 _) rfl (by omega) ?_
                refine g_topi (show rI w4 5 v = nI (gY g v) from hB4.y v q6) ?_
                refine g_bipush (v := nI 6) hX d_Le_fill_150 rfl ?_
                refine g_icmpN_eq hX d_Le_fill_152 (by omega) (by omega) (fun e152 => ?_) (fun e152 => ?_)
                · refine g_iconst (v := nI 1) hX d_Le_fill_171 rfl ?_
                  refine g_goto hX d_Le_fill_172 ?_
                  refine g_istore6 hX d_Le_fill_176 rfl (by decide) ?_
                  refine g_iload6 hX d_Le_fill_178 ?_
                  refine g_if_eq hX d_Le_fill_180 (fun h => absurd h (by decide)) (fun c3 => ?_)
                  refine g_iload5 hX d_Le_fill_183 ?_
                  refine g_if_ne hX d_Le_fill_185 (fun h => absurd (by decide) h) (fun c4 => ?_)
                  refine g_aload0 hX d_Le_fill_188 ?_
                  refine g_getF hX d_Le_fill_189 fl_Le_9 (lv_31 _) ?_
                  refine g_iload3 hX d_Le_fill_192 ?_
                  refine g_dup2 hX d_Le_fill_193 rfl rfl ?_
                  refine g_iald hX d_Le_fill_194 (lv_32 _) rfl (by omega) ?_
                  refine g_topi (show rI w4 32 v = nI (mayN (gForce g o) v m) from hv4) ?_
                  refine g_iconst (v := nI 1) hX d_Le_fill_195 rfl ?_
                  refine g_iload4 hX d_Le_fill_196 ?_
                  refine g_ishlN hX d_Le_fill_198 (by omega) ?_
                  refine g_iorN hX d_Le_fill_199 ?_
                  refine g_iast hX d_Le_fill_200 (lv_32 _) rfl (by omega) ?_
                  refine g_iincN4 hX d_Le_fill_201 rfl (by decide) ?_
                  refine g_goto hX d_Le_fill_204 ?_
                  refine g_fget 5 ?_
                  refine g_fget 6 ?_
                  exact ih (m + 1) _ (by omega) (hf4.I (by decide)) (fun u hu => by rw [rI_sI, upd_eq, if_neg (by omega)]; exact hm4 u hu) (fun u z hz => by rw [rI_sI_ne _ _ _ (by decide)]; exact hcx u z hz) (by unfold LeW; rw [rI_sI_ne _ _ _ (by decide)]; exact hw44) (by rw [rI_sI, upd_eq, if_pos rfl, may_y (g := gForce g o) (mayI.mpr ⟨Or.inl e152, (by rw [ht4]; exact Decidable.of_not_not e134)⟩)]) q6 (by omega)
                · refine g_aload1 hX d_Le_fill_155 ?_
                  refine g_getF hX d_Le_fill_156 fl_Le_70 (lv_1 _) ?_
                  refine g_iload3 hX d_Le_fill_159 ?_
                  refine g_iald hX d_Le_fill_160 (lv_5 _) rfl (by omega) ?_
                  refine g_topi (show rI w4 5 v = nI (gY g v) from hB4.y v q6) ?_
                  refine g_aload1 hX d_Le_fill_161 ?_
                  refine g_getF hX d_Le_fill_162 fl_Le_61 (lv_1 _) ?_
                  refine g_iload4 hX d_Le_fill_165 ?_
                  refine g_iald hX d_Le_fill_167 (lv_2 _) rfl (by omega) ?_
                  refine g_topi (show rI w4 2 m = nI (gC g m) from hB4.c m e69) ?_
                  refine g_icmpN_ne hX d_Le_fill_168 (by omega) (by omega) (fun e168 => ?_) (fun e168 => ?_)
                  · refine g_iconst (v := nI 0) hX d_Le_fill_175 rfl ?_
                    refine g_istore6 hX d_Le_fill_176 rfl (by decide) ?_
                    refine g_iload6 hX d_Le_fill_178 ?_
                    refine g_if_eq hX d_Le_fill_180 (fun c6 => ?_) (fun h => absurd (by decide) h)
                    refine g_iincN4 hX d_Le_fill_201 rfl (by decide) ?_
                    refine g_goto hX d_Le_fill_204 ?_
                    refine g_fget 5 ?_
                    refine g_fget 6 ?_
                    exact ih (m + 1) _ (by omega) hf4 hm4 hcx hw44 (by rw [hv4, may_n (g := gForce g o) (fun z => ((mayI (g := gForce g o)).mp z).1.elim (fun y => e152 y) (fun y => e168 y))]) q6 (by omega)
                  · refine g_iconst (v := nI 1) hX d_Le_fill_171 rfl ?_
                    refine g_goto hX d_Le_fill_172 ?_
                    refine g_istore6 hX d_Le_fill_176 rfl (by decide) ?_
                    refine g_iload6 hX d_Le_fill_178 ?_
                    refine g_if_eq hX d_Le_fill_180 (fun h => absurd h (by decide)) (fun c7 => ?_)
                    refine g_iload5 hX d_Le_fill_183 ?_
                    refine g_if_ne hX d_Le_fill_185 (fun h => absurd (by decide) h) (fun c8 => ?_)
                    refine g_aload0 hX d_Le_fill_188 ?_
                    refine g_getF hX d_Le_fill_189 fl_Le_9 (lv_31 _) ?_
                    refine g_iload3 hX d_Le_fill_192 ?_
                    refine g_dup2 hX d_Le_fill_193 rfl rfl ?_
                    refine g_iald hX d_Le_fill_194 (lv_32 _) rfl (by omega) ?_
                    refine g_topi (show rI w4 32 v = nI (mayN (gForce g o) v m) from hv4) ?_
                    refine g_iconst (v := nI 1) hX d_Le_fill_195 rfl ?_
                    refine g_iload4 hX d_Le_fill_196 ?_
                    refine g_ishlN hX d_Le_fill_198 (by omega) ?_
                    refine g_iorN hX d_Le_fill_199 ?_
                    refine g_iast hX d_Le_fill_200 (lv_32 _) rfl (by omega) ?_
                    refine g_iincN4 hX d_Le_fill_201 rfl (by decide) ?_
                    refine g_goto hX d_Le_fill_204 ?_
                    refine g_fget 5 ?_
                    refine g_fget 6 ?_
                    exact ih (m + 1) _ (by omega) (hf4.I (by decide)) (fun u hu => by rw [rI_sI, upd_eq, if_neg (by omega)]; exact hm4 u hu) (fun u z hz => by rw [rI_sI_ne _ _ _ (by decide)]; exact hcx u z hz) (by unfold LeW; rw [rI_sI_ne _ _ _ (by decide)]; exact hw44) (by rw [rI_sI, upd_eq, if_pos rfl, may_y (g := gForce g o) (mayI.mpr ⟨Or.inr e168, (by rw [ht4]; exact Decidable.of_not_not e134)⟩)]) q6 (by omega)
              · refine g_iconst (v := nI 1) hX d_Le_fill_137 rfl ?_
                refine g_goto hX d_Le_fill_138 ?_
                refine g_istore5 hX d_Le_fill_142 rfl (by decide) ?_
                refine g_aload1 hX d_Le_fill_144 ?_
                refine g_getF hX d_Le_fill_145 fl_Le_70 (lv_1 _) ?_
                refine g_iload3 hX d_Le_fill_148 ?_
                refine g_iald hX d_Le_fill_149 (lv_5 _) rfl (by omega) ?_
                refine g_topi (show rI w4 5 v = nI (gY g v) from hB4.y v q6) ?_
                refine g_bipush (v := nI 6) hX d_Le_fill_150 rfl ?_
                refine g_icmpN_eq hX d_Le_fill_152 (by omega) (by omega) (fun e152 => ?_) (fun e152 => ?_)
                · refine g_iconst (v := nI 1) hX d_Le_fill_171 rfl ?_
                  refine g_goto hX d_Le_fill_172 ?_
                  refine g_istore6 hX d_Le_fill_176 rfl (by decide) ?_
                  refine g_iload6 hX d_Le_fill_178 ?_
                  refine g_if_eq hX d_Le_fill_180 (fun h => absurd h (by decide)) (fun c10 => ?_)
                  refine g_iload5 hX d_Le_fill_183 ?_
                  refine g_if_ne hX d_Le_fill_185 (fun c11 => ?_) (fun h => absurd h (by decide))
                  refine g_iincN4 hX d_Le_fill_201 rfl (by decide) ?_
                  refine g_goto hX d_Le_fill_204 ?_
                  refine g_fget 5 ?_
                  refine g_fget 6 ?_
                  exact ih (m + 1) _ (by omega) hf4 hm4 hcx hw44 (by rw [hv4, may_n (g := gForce g o) (fun z => e134 (by rw [← ht4]; exact ((mayI (g := gForce g o)).mp z).2))]) q6 (by omega)
                · refine g_aload1 hX d_Le_fill_155 ?_
                  refine g_getF hX d_Le_fill_156 fl_Le_70 (lv_1 _) ?_
                  refine g_iload3 hX d_Le_fill_159 ?_
                  refine g_iald hX d_Le_fill_160 (lv_5 _) rfl (by omega) ?_
                  refine g_topi (show rI w4 5 v = nI (gY g v) from hB4.y v q6) ?_
                  refine g_aload1 hX d_Le_fill_161 ?_
                  refine g_getF hX d_Le_fill_162 fl_Le_61 (lv_1 _) ?_
                  refine g_iload4 hX d_Le_fill_165 ?_
                  refine g_iald hX d_Le_fill_167 (lv_2 _) rfl (by omega) ?_
                  refine g_topi (show rI w4 2 m = nI (gC g m) from hB4.c m e69) ?_
                  refine g_icmpN_ne hX d_Le_fill_168 (by omega) (by omega) (fun e168 => ?_) (fun e168 => ?_)
                  · refine g_iconst (v := nI 0) hX d_Le_fill_175 rfl ?_
                    refine g_istore6 hX d_Le_fill_176 rfl (by decide) ?_
                    refine g_iload6 hX d_Le_fill_178 ?_
                    refine g_if_eq hX d_Le_fill_180 (fun c13 => ?_) (fun h => absurd (by decide) h)
                    refine g_iincN4 hX d_Le_fill_201 rfl (by decide) ?_
                    refine g_goto hX d_Le_fill_204 ?_
                    refine g_fget 5 ?_
                    refine g_fget 6 ?_
                    exact ih (m + 1) _ (by omega) hf4 hm4 hcx hw44 (by rw [hv4, may_n (g := gForce g o) (fun z => ((mayI (g := gForce g o)).mp z).1.elim (fun y => e152 y) (fun y => e168 y))]) q6 (by omega)
                  · refine g_iconst (v := nI 1) hX d_Le_fill_171 rfl ?_
                    refine g_goto hX d_Le_fill_172 ?_
                    refine g_istore6 hX d_Le_fill_176 rfl (by decide) ?_
                    refine g_iload6 hX d_Le_fill_178 ?_
                    refine g_if_eq hX d_Le_fill_180 (fun h => absurd h (by decide)) (fun c14 => ?_)
                    refine g_iload5 hX d_Le_fill_183 ?_
                    refine g_if_ne hX d_Le_fill_185 (fun c15 => ?_) (fun h => absurd h (by decide))
                    refine g_iincN4 hX d_Le_fill_201 rfl (by decide) ?_
                    refine g_goto hX d_Le_fill_204 ?_
                    refine g_fget 5 ?_
                    refine g_fget 6 ?_
                    exact ih (m + 1) _ (by omega) hf4 hm4 hcx hw44 (by rw [hv4, may_n (g := gForce g o) (fun z => e134 (by rw [← ht4]; exact ((mayI (g := gForce g o)).mp z).2))]) q6 (by omega)
        exact lpI (gN g + 1) 0 _ (by omega) (((q1.I (by decide)).I (by decide)).I (by decide)) (fun u hu => by rw [rI_sI_ne _ _ _ (by decide), rI_sI_ne _ _ _ (by decide), rI_sI, upd_eq, if_neg (by omega)]; exact q2 u hu) (fun u z hz => by rw [rI_sI_ne _ _ _ (by decide), rI_sI_ne _ _ _ (by decide), rI_sI_ne _ _ _ (by decide)]; exact q3 u z (by omega)) ⟨by rw [rI_sI, upd_eq, if_neg (by decide), rI_sI, upd_eq, if_neg (by decide), rI_sI_ne _ _ _ (by decide)]; exact q4, by rw [rI_sI, upd_eq, if_neg (by decide), rI_sI, upd_eq, if_neg (by decide), rI_sI_ne _ _ _ (by decide)]; exact q5, by rw [rI_sI, upd_eq, if_neg (by decide), rI_sI, upd_eq, if_pos rfl], by rw [rI_sI, upd_eq, if_pos rfl]⟩ (by rw [rI_sI_ne _ _ _ (by decide), rI_sI_ne _ _ _ (by decide), rI_sI, upd_eq, if_pos rfl]; rfl) e32 (Nat.zero_le _)
  refine g_aload0 hX d_Le_fill_0 ?_
  refine g_getF hX d_Le_fill_1 fl_Le_18 (lv_31 _) ?_
  refine g_iconst (v := nI 5) hX d_Le_fill_4 rfl ?_
  refine g_aload1 hX d_Le_fill_5 ?_
  refine g_getF hX d_Le_fill_6 fl_Le_45 (lv_1 _) ?_
  refine g_iconst (v := nI 0) hX d_Le_fill_9 rfl ?_
  refine g_iald hX d_Le_fill_10 (lv_8 _) rfl (by decide) ?_
  refine g_topi (hR.t 0 (by decide)) ?_
  refine g_iast hX d_Le_fill_11 (lv_34 _) rfl (by decide) ?_
  refine g_aload0 hX d_Le_fill_12 ?_
  refine g_getF hX d_Le_fill_13 fl_Le_18 (lv_31 _) ?_
  refine g_bipush (v := nI 6) hX d_Le_fill_16 rfl ?_
  refine g_aload1 hX d_Le_fill_18 ?_
  refine g_getF hX d_Le_fill_19 fl_Le_45 (lv_1 _) ?_
  refine g_iconst (v := nI 2) hX d_Le_fill_22 rfl ?_
  refine g_iald hX d_Le_fill_23 (lv_8 _) rfl (by decide) ?_
  refine g_topi (show rI (sI w 34 5 (nI (gT g 0))) 8 2 = nI (gT g 2) by rw [rI_sI_ne _ _ _ (by decide)]; exact hR.t 2 (by decide)) ?_
  refine g_iast hX d_Le_fill_24 (lv_34 _) rfl (by decide) ?_
  refine g_iconst (v := nI 0) hX d_Le_fill_25 rfl ?_
  refine g_istore3 hX d_Le_fill_26 rfl (by decide) ?_
  exact lpO (gV g + 1) 0 _ (by omega) (((FrL.rf w).I (by decide)).I (by decide)) (fun u hu => absurd hu (Nat.not_lt_zero _)) (fun u z hz => absurd hz (by omega)) (by rw [rI_sI, upd_eq, if_neg (by decide), rI_sI, upd_eq, if_pos rfl]) (by rw [rI_sI, upd_eq, if_pos rfl]) (Nat.zero_le _)
