def m_Ac_copyFrom : MR := (⟨"SubgraphDesk$Acts", "copyFrom", "(LSubgraphDesk$Acts;)V"⟩, prog_2_method_3_code, 2, none)
theorem cf_Ac_copyFrom : CF m_Ac_copyFrom 1 := ⟨gd 1015 (by decide +kernel) rfl, gd 141 (by decide +kernel) rfl, by decide +kernel, by decide, by decide +kernel⟩
theorem cv_Ac_copyFrom : CV m_Ac_copyFrom := ⟨gd 1013 (by decide +kernel) rfl, gd 1014 (by decide +kernel) rfl⟩
def m_Bo_copyFrom : MR := (⟨"SubgraphDesk$Board", "copyFrom", "(LSubgraphDesk$Board;)V"⟩, prog_3_method_2_code, 3, none)
theorem cf_Bo_copyFrom : CF m_Bo_copyFrom 1 := ⟨gd 1010 (by decide +kernel) rfl, gd 140 (by decide +kernel) rfl, by decide +kernel, by decide, by decide +kernel⟩
theorem cv_Bo_copyFrom : CV m_Bo_copyFrom := ⟨gd 1008 (by decide +kernel) rfl, gd 1009 (by decide +kernel) rfl⟩
theorem d_Ac_copyFrom_0 : Dc prog_2_method_3_code 0 (.aload_n 0) 1 1 := ⟨by decide +kernel, rfl⟩
theorem d_Ac_copyFrom_1 : Dc prog_2_method_3_code 1 (.aload_n 1) 1 2 := ⟨by decide +kernel, rfl⟩
theorem d_Ac_copyFrom_2 : Dc prog_2_method_3_code 2 (.getfield 24) 3 5 := ⟨by decide +kernel, rfl⟩
theorem d_Ac_copyFrom_5 : Dc prog_2_method_3_code 5 (.putfield 24) 3 8 := ⟨by decide +kernel, rfl⟩
theorem d_Ac_copyFrom_8 : Dc prog_2_method_3_code 8 (.aload_n 1) 1 9 := ⟨by decide +kernel, rfl⟩
theorem d_Ac_copyFrom_9 : Dc prog_2_method_3_code 9 (.getfield 11) 3 12 := ⟨by decide +kernel, rfl⟩
theorem d_Ac_copyFrom_12 : Dc prog_2_method_3_code 12 (.iconst 0) 1 13 := ⟨by decide +kernel, rfl⟩
theorem d_Ac_copyFrom_13 : Dc prog_2_method_3_code 13 (.aload_n 0) 1 14 := ⟨by decide +kernel, rfl⟩
theorem d_Ac_copyFrom_14 : Dc prog_2_method_3_code 14 (.getfield 11) 3 17 := ⟨by decide +kernel, rfl⟩
theorem d_Ac_copyFrom_17 : Dc prog_2_method_3_code 17 (.iconst 0) 1 18 := ⟨by decide +kernel, rfl⟩
theorem d_Ac_copyFrom_18 : Dc prog_2_method_3_code 18 (.bipush 16) 2 20 := ⟨by decide +kernel, rfl⟩
theorem d_Ac_copyFrom_20 : Dc prog_2_method_3_code 20 (.invokestatic 28) 3 23 := ⟨by decide +kernel, rfl⟩
theorem d_Ac_copyFrom_23 : Dc prog_2_method_3_code 23 (.aload_n 1) 1 24 := ⟨by decide +kernel, rfl⟩
theorem d_Ac_copyFrom_24 : Dc prog_2_method_3_code 24 (.getfield 15) 3 27 := ⟨by decide +kernel, rfl⟩
theorem d_Ac_copyFrom_27 : Dc prog_2_method_3_code 27 (.iconst 0) 1 28 := ⟨by decide +kernel, rfl⟩
theorem d_Ac_copyFrom_28 : Dc prog_2_method_3_code 28 (.aload_n 0) 1 29 := ⟨by decide +kernel, rfl⟩
theorem d_Ac_copyFrom_29 : Dc prog_2_method_3_code 29 (.getfield 15) 3 32 := ⟨by decide +kernel, rfl⟩
theorem d_Ac_copyFrom_32 : Dc prog_2_method_3_code 32 (.iconst 0) 1 33 := ⟨by decide +kernel, rfl⟩
theorem d_Ac_copyFrom_33 : Dc prog_2_method_3_code 33 (.bipush 16) 2 35 := ⟨by decide +kernel, rfl⟩
theorem d_Ac_copyFrom_35 : Dc prog_2_method_3_code 35 (.invokestatic 28) 3 38 := ⟨by decide +kernel, rfl⟩
theorem d_Ac_copyFrom_38 : Dc prog_2_method_3_code 38 (.aload_n 1) 1 39 := ⟨by decide +kernel, rfl⟩
theorem d_Ac_copyFrom_39 : Dc prog_2_method_3_code 39 (.getfield 18) 3 42 := ⟨by decide +kernel, rfl⟩
theorem d_Ac_copyFrom_42 : Dc prog_2_method_3_code 42 (.iconst 0) 1 43 := ⟨by decide +kernel, rfl⟩
theorem d_Ac_copyFrom_43 : Dc prog_2_method_3_code 43 (.aload_n 0) 1 44 := ⟨by decide +kernel, rfl⟩
theorem d_Ac_copyFrom_44 : Dc prog_2_method_3_code 44 (.getfield 18) 3 47 := ⟨by decide +kernel, rfl⟩
theorem d_Ac_copyFrom_47 : Dc prog_2_method_3_code 47 (.iconst 0) 1 48 := ⟨by decide +kernel, rfl⟩
theorem d_Ac_copyFrom_48 : Dc prog_2_method_3_code 48 (.bipush 16) 2 50 := ⟨by decide +kernel, rfl⟩
theorem d_Ac_copyFrom_50 : Dc prog_2_method_3_code 50 (.invokestatic 28) 3 53 := ⟨by decide +kernel, rfl⟩
theorem d_Ac_copyFrom_53 : Dc prog_2_method_3_code 53 (.aload_n 1) 1 54 := ⟨by decide +kernel, rfl⟩
theorem d_Ac_copyFrom_54 : Dc prog_2_method_3_code 54 (.getfield 21) 3 57 := ⟨by decide +kernel, rfl⟩
theorem d_Ac_copyFrom_57 : Dc prog_2_method_3_code 57 (.iconst 0) 1 58 := ⟨by decide +kernel, rfl⟩
theorem d_Ac_copyFrom_58 : Dc prog_2_method_3_code 58 (.aload_n 0) 1 59 := ⟨by decide +kernel, rfl⟩
theorem d_Ac_copyFrom_59 : Dc prog_2_method_3_code 59 (.getfield 21) 3 62 := ⟨by decide +kernel, rfl⟩
theorem d_Ac_copyFrom_62 : Dc prog_2_method_3_code 62 (.iconst 0) 1 63 := ⟨by decide +kernel, rfl⟩
theorem d_Ac_copyFrom_63 : Dc prog_2_method_3_code 63 (.bipush 16) 2 65 := ⟨by decide +kernel, rfl⟩
theorem d_Ac_copyFrom_65 : Dc prog_2_method_3_code 65 (.invokestatic 28) 3 68 := ⟨by decide +kernel, rfl⟩
theorem d_Ac_copyFrom_68 : Dc prog_2_method_3_code 68 (.return_) 1 69 := ⟨by decide +kernel, rfl⟩
theorem d_Bo_copyFrom_0 : Dc prog_3_method_2_code 0 (.aload_n 0) 1 1 := ⟨by decide +kernel, rfl⟩
theorem d_Bo_copyFrom_1 : Dc prog_3_method_2_code 1 (.aload_n 1) 1 2 := ⟨by decide +kernel, rfl⟩
theorem d_Bo_copyFrom_2 : Dc prog_3_method_2_code 2 (.getfield 43) 3 5 := ⟨by decide +kernel, rfl⟩
theorem d_Bo_copyFrom_5 : Dc prog_3_method_2_code 5 (.putfield 43) 3 8 := ⟨by decide +kernel, rfl⟩
theorem d_Bo_copyFrom_8 : Dc prog_3_method_2_code 8 (.aload_n 0) 1 9 := ⟨by decide +kernel, rfl⟩
theorem d_Bo_copyFrom_9 : Dc prog_3_method_2_code 9 (.aload_n 1) 1 10 := ⟨by decide +kernel, rfl⟩
theorem d_Bo_copyFrom_10 : Dc prog_3_method_2_code 10 (.getfield 46) 3 13 := ⟨by decide +kernel, rfl⟩
theorem d_Bo_copyFrom_13 : Dc prog_3_method_2_code 13 (.putfield 46) 3 16 := ⟨by decide +kernel, rfl⟩
theorem d_Bo_copyFrom_16 : Dc prog_3_method_2_code 16 (.aload_n 0) 1 17 := ⟨by decide +kernel, rfl⟩
theorem d_Bo_copyFrom_17 : Dc prog_3_method_2_code 17 (.aload_n 1) 1 18 := ⟨by decide +kernel, rfl⟩
theorem d_Bo_copyFrom_18 : Dc prog_3_method_2_code 18 (.getfield 49) 3 21 := ⟨by decide +kernel, rfl⟩
theorem d_Bo_copyFrom_21 : Dc prog_3_method_2_code 21 (.putfield 49) 3 24 := ⟨by decide +kernel, rfl⟩
theorem d_Bo_copyFrom_24 : Dc prog_3_method_2_code 24 (.aload_n 0) 1 25 := ⟨by decide +kernel, rfl⟩
theorem d_Bo_copyFrom_25 : Dc prog_3_method_2_code 25 (.aload_n 1) 1 26 := ⟨by decide +kernel, rfl⟩
theorem d_Bo_copyFrom_26 : Dc prog_3_method_2_code 26 (.getfield 52) 3 29 := ⟨by decide +kernel, rfl⟩
theorem d_Bo_copyFrom_29 : Dc prog_3_method_2_code 29 (.putfield 52) 3 32 := ⟨by decide +kernel, rfl⟩
theorem d_Bo_copyFrom_32 : Dc prog_3_method_2_code 32 (.aload_n 0) 1 33 := ⟨by decide +kernel, rfl⟩
theorem d_Bo_copyFrom_33 : Dc prog_3_method_2_code 33 (.aload_n 1) 1 34 := ⟨by decide +kernel, rfl⟩
theorem d_Bo_copyFrom_34 : Dc prog_3_method_2_code 34 (.getfield 55) 3 37 := ⟨by decide +kernel, rfl⟩
theorem d_Bo_copyFrom_37 : Dc prog_3_method_2_code 37 (.putfield 55) 3 40 := ⟨by decide +kernel, rfl⟩
theorem d_Bo_copyFrom_40 : Dc prog_3_method_2_code 40 (.aload_n 0) 1 41 := ⟨by decide +kernel, rfl⟩
theorem d_Bo_copyFrom_41 : Dc prog_3_method_2_code 41 (.aload_n 1) 1 42 := ⟨by decide +kernel, rfl⟩
theorem d_Bo_copyFrom_42 : Dc prog_3_method_2_code 42 (.getfield 33) 3 45 := ⟨by decide +kernel, rfl⟩
theorem d_Bo_copyFrom_45 : Dc prog_3_method_2_code 45 (.putfield 33) 3 48 := ⟨by decide +kernel, rfl⟩
theorem d_Bo_copyFrom_48 : Dc prog_3_method_2_code 48 (.aload_n 1) 1 49 := ⟨by decide +kernel, rfl⟩
theorem d_Bo_copyFrom_49 : Dc prog_3_method_2_code 49 (.getfield 9) 3 52 := ⟨by decide +kernel, rfl⟩
theorem d_Bo_copyFrom_52 : Dc prog_3_method_2_code 52 (.iconst 0) 1 53 := ⟨by decide +kernel, rfl⟩
theorem d_Bo_copyFrom_53 : Dc prog_3_method_2_code 53 (.aload_n 0) 1 54 := ⟨by decide +kernel, rfl⟩
theorem d_Bo_copyFrom_54 : Dc prog_3_method_2_code 54 (.getfield 9) 3 57 := ⟨by decide +kernel, rfl⟩
theorem d_Bo_copyFrom_57 : Dc prog_3_method_2_code 57 (.iconst 0) 1 58 := ⟨by decide +kernel, rfl⟩
theorem d_Bo_copyFrom_58 : Dc prog_3_method_2_code 58 (.bipush 12) 2 60 := ⟨by decide +kernel, rfl⟩
theorem d_Bo_copyFrom_60 : Dc prog_3_method_2_code 60 (.invokestatic 58) 3 63 := ⟨by decide +kernel, rfl⟩
theorem d_Bo_copyFrom_63 : Dc prog_3_method_2_code 63 (.aload_n 1) 1 64 := ⟨by decide +kernel, rfl⟩
theorem d_Bo_copyFrom_64 : Dc prog_3_method_2_code 64 (.getfield 15) 3 67 := ⟨by decide +kernel, rfl⟩
theorem d_Bo_copyFrom_67 : Dc prog_3_method_2_code 67 (.iconst 0) 1 68 := ⟨by decide +kernel, rfl⟩
theorem d_Bo_copyFrom_68 : Dc prog_3_method_2_code 68 (.aload_n 0) 1 69 := ⟨by decide +kernel, rfl⟩
theorem d_Bo_copyFrom_69 : Dc prog_3_method_2_code 69 (.getfield 15) 3 72 := ⟨by decide +kernel, rfl⟩
theorem d_Bo_copyFrom_72 : Dc prog_3_method_2_code 72 (.iconst 0) 1 73 := ⟨by decide +kernel, rfl⟩
theorem d_Bo_copyFrom_73 : Dc prog_3_method_2_code 73 (.bipush 12) 2 75 := ⟨by decide +kernel, rfl⟩
theorem d_Bo_copyFrom_75 : Dc prog_3_method_2_code 75 (.invokestatic 58) 3 78 := ⟨by decide +kernel, rfl⟩
theorem d_Bo_copyFrom_78 : Dc prog_3_method_2_code 78 (.aload_n 1) 1 79 := ⟨by decide +kernel, rfl⟩
theorem d_Bo_copyFrom_79 : Dc prog_3_method_2_code 79 (.getfield 18) 3 82 := ⟨by decide +kernel, rfl⟩
theorem d_Bo_copyFrom_82 : Dc prog_3_method_2_code 82 (.iconst 0) 1 83 := ⟨by decide +kernel, rfl⟩
theorem d_Bo_copyFrom_83 : Dc prog_3_method_2_code 83 (.aload_n 0) 1 84 := ⟨by decide +kernel, rfl⟩
theorem d_Bo_copyFrom_84 : Dc prog_3_method_2_code 84 (.getfield 18) 3 87 := ⟨by decide +kernel, rfl⟩
theorem d_Bo_copyFrom_87 : Dc prog_3_method_2_code 87 (.iconst 0) 1 88 := ⟨by decide +kernel, rfl⟩
theorem d_Bo_copyFrom_88 : Dc prog_3_method_2_code 88 (.bipush 66) 2 90 := ⟨by decide +kernel, rfl⟩
theorem d_Bo_copyFrom_90 : Dc prog_3_method_2_code 90 (.invokestatic 58) 3 93 := ⟨by decide +kernel, rfl⟩
theorem d_Bo_copyFrom_93 : Dc prog_3_method_2_code 93 (.aload_n 1) 1 94 := ⟨by decide +kernel, rfl⟩
theorem d_Bo_copyFrom_94 : Dc prog_3_method_2_code 94 (.getfield 21) 3 97 := ⟨by decide +kernel, rfl⟩
theorem d_Bo_copyFrom_97 : Dc prog_3_method_2_code 97 (.iconst 0) 1 98 := ⟨by decide +kernel, rfl⟩
theorem d_Bo_copyFrom_98 : Dc prog_3_method_2_code 98 (.aload_n 0) 1 99 := ⟨by decide +kernel, rfl⟩
theorem d_Bo_copyFrom_99 : Dc prog_3_method_2_code 99 (.getfield 21) 3 102 := ⟨by decide +kernel, rfl⟩
theorem d_Bo_copyFrom_102 : Dc prog_3_method_2_code 102 (.iconst 0) 1 103 := ⟨by decide +kernel, rfl⟩
theorem d_Bo_copyFrom_103 : Dc prog_3_method_2_code 103 (.iconst 5) 1 104 := ⟨by decide +kernel, rfl⟩
theorem d_Bo_copyFrom_104 : Dc prog_3_method_2_code 104 (.invokestatic 58) 3 107 := ⟨by decide +kernel, rfl⟩
theorem d_Bo_copyFrom_107 : Dc prog_3_method_2_code 107 (.aload_n 1) 1 108 := ⟨by decide +kernel, rfl⟩
theorem d_Bo_copyFrom_108 : Dc prog_3_method_2_code 108 (.getfield 24) 3 111 := ⟨by decide +kernel, rfl⟩
theorem d_Bo_copyFrom_111 : Dc prog_3_method_2_code 111 (.iconst 0) 1 112 := ⟨by decide +kernel, rfl⟩
theorem d_Bo_copyFrom_112 : Dc prog_3_method_2_code 112 (.aload_n 0) 1 113 := ⟨by decide +kernel, rfl⟩
theorem d_Bo_copyFrom_113 : Dc prog_3_method_2_code 113 (.getfield 24) 3 116 := ⟨by decide +kernel, rfl⟩
theorem d_Bo_copyFrom_116 : Dc prog_3_method_2_code 116 (.iconst 0) 1 117 := ⟨by decide +kernel, rfl⟩
theorem d_Bo_copyFrom_117 : Dc prog_3_method_2_code 117 (.iconst 5) 1 118 := ⟨by decide +kernel, rfl⟩
theorem d_Bo_copyFrom_118 : Dc prog_3_method_2_code 118 (.invokestatic 58) 3 121 := ⟨by decide +kernel, rfl⟩
theorem d_Bo_copyFrom_121 : Dc prog_3_method_2_code 121 (.aload_n 1) 1 122 := ⟨by decide +kernel, rfl⟩
theorem d_Bo_copyFrom_122 : Dc prog_3_method_2_code 122 (.getfield 27) 3 125 := ⟨by decide +kernel, rfl⟩
theorem d_Bo_copyFrom_125 : Dc prog_3_method_2_code 125 (.iconst 0) 1 126 := ⟨by decide +kernel, rfl⟩
theorem d_Bo_copyFrom_126 : Dc prog_3_method_2_code 126 (.aload_n 0) 1 127 := ⟨by decide +kernel, rfl⟩
theorem d_Bo_copyFrom_127 : Dc prog_3_method_2_code 127 (.getfield 27) 3 130 := ⟨by decide +kernel, rfl⟩
theorem d_Bo_copyFrom_130 : Dc prog_3_method_2_code 130 (.iconst 0) 1 131 := ⟨by decide +kernel, rfl⟩
theorem d_Bo_copyFrom_131 : Dc prog_3_method_2_code 131 (.bipush 6) 2 133 := ⟨by decide +kernel, rfl⟩
theorem d_Bo_copyFrom_133 : Dc prog_3_method_2_code 133 (.invokestatic 58) 3 136 := ⟨by decide +kernel, rfl⟩
theorem d_Bo_copyFrom_136 : Dc prog_3_method_2_code 136 (.aload_n 1) 1 137 := ⟨by decide +kernel, rfl⟩
theorem d_Bo_copyFrom_137 : Dc prog_3_method_2_code 137 (.getfield 30) 3 140 := ⟨by decide +kernel, rfl⟩
theorem d_Bo_copyFrom_140 : Dc prog_3_method_2_code 140 (.iconst 0) 1 141 := ⟨by decide +kernel, rfl⟩
theorem d_Bo_copyFrom_141 : Dc prog_3_method_2_code 141 (.aload_n 0) 1 142 := ⟨by decide +kernel, rfl⟩
theorem d_Bo_copyFrom_142 : Dc prog_3_method_2_code 142 (.getfield 30) 3 145 := ⟨by decide +kernel, rfl⟩
theorem d_Bo_copyFrom_145 : Dc prog_3_method_2_code 145 (.iconst 0) 1 146 := ⟨by decide +kernel, rfl⟩
theorem d_Bo_copyFrom_146 : Dc prog_3_method_2_code 146 (.iconst 3) 1 147 := ⟨by decide +kernel, rfl⟩
theorem d_Bo_copyFrom_147 : Dc prog_3_method_2_code 147 (.invokestatic 58) 3 150 := ⟨by decide +kernel, rfl⟩
theorem d_Bo_copyFrom_150 : Dc prog_3_method_2_code 150 (.iconst 0) 1 151 := ⟨by decide +kernel, rfl⟩
theorem d_Bo_copyFrom_151 : Dc prog_3_method_2_code 151 (.istore_n 2) 1 152 := ⟨by decide +kernel, rfl⟩
theorem d_Bo_copyFrom_152 : Dc prog_3_method_2_code 152 (.iload_n 2) 1 153 := ⟨by decide +kernel, rfl⟩
theorem d_Bo_copyFrom_153 : Dc prog_3_method_2_code 153 (.bipush 6) 2 155 := ⟨by decide +kernel, rfl⟩
theorem d_Bo_copyFrom_155 : Dj prog_3_method_2_code 155 (.if_icmp .ge 21) 158 21 176 := ⟨by decide +kernel, rfl, rfl⟩
theorem d_Bo_copyFrom_158 : Dc prog_3_method_2_code 158 (.aload_n 0) 1 159 := ⟨by decide +kernel, rfl⟩
theorem d_Bo_copyFrom_159 : Dc prog_3_method_2_code 159 (.getfield 39) 3 162 := ⟨by decide +kernel, rfl⟩
theorem d_Bo_copyFrom_162 : Dc prog_3_method_2_code 162 (.iload_n 2) 1 163 := ⟨by decide +kernel, rfl⟩
theorem d_Bo_copyFrom_163 : Dc prog_3_method_2_code 163 (.aload_n 1) 1 164 := ⟨by decide +kernel, rfl⟩
theorem d_Bo_copyFrom_164 : Dc prog_3_method_2_code 164 (.getfield 39) 3 167 := ⟨by decide +kernel, rfl⟩
theorem d_Bo_copyFrom_167 : Dc prog_3_method_2_code 167 (.iload_n 2) 1 168 := ⟨by decide +kernel, rfl⟩
theorem d_Bo_copyFrom_168 : Dc prog_3_method_2_code 168 (.aaload) 1 169 := ⟨by decide +kernel, rfl⟩
theorem d_Bo_copyFrom_169 : Dc prog_3_method_2_code 169 (.aastore) 1 170 := ⟨by decide +kernel, rfl⟩
theorem d_Bo_copyFrom_170 : Dc prog_3_method_2_code 170 (.iinc 2 1) 3 173 := ⟨by decide +kernel, rfl⟩
theorem d_Bo_copyFrom_173 : Dj prog_3_method_2_code 173 (.goto (-21)) 176 (-21) 152 := ⟨by decide +kernel, rfl, rfl⟩
theorem d_Bo_copyFrom_176 : Dc prog_3_method_2_code 176 (.return_) 1 177 := ⟨by decide +kernel, rfl⟩
theorem fl_Bo_30 : FL "SubgraphDesk$Board" 30 2 10 true (.array .int) (3, 7) := ⟨R_Bo, F_Bo, 15, ty_Bo, rfl, rfl, in_Bo, tyok_Bo, nm_Bo, by decide, gd 222 (by decide +kernel) rfl, rfl, rfl, rfl⟩
theorem fl_Bo_33 : FL "SubgraphDesk$Board" 33 2 12 false .int (0, 0) := ⟨R_Bo, F_Bo, 15, ty_Bo, rfl, rfl, in_Bo, tyok_Bo, nm_Bo, by decide, gd 228 (by decide +kernel) rfl, rfl, rfl, rfl⟩
theorem fl_Bo_39 : FL "SubgraphDesk$Board" 39 2 13 true (.array (.object "SubgraphDesk$Program")) (3, 8) := ⟨R_Bo, F_Bo, 15, ty_Bo, rfl, rfl, in_Bo, tyok_Bo, nm_Bo, by decide, gd 230 (by decide +kernel) rfl, rfl, rfl, rfl⟩
theorem ml_Bo_58 : Cond.methodLink "SubgraphDesk$Board" 58 m_JSystem_arraycopy.1 ∈ lw_gd := gd 1011 (by decide +kernel) rfl
/-- a whole row of references anew -/
def sRw (w : Mem) (o : Nat) (f : Nat → Option Nat) : Mem := (w.1, w.2.1, fun a => if a = o then f else w.2.2.1 a, w.2.2.2)
theorem rR_sRw (w : Mem) (o : Nat) (f : Nat → Option Nat) : rR (sRw w o f) o = f := by simp [rR, sRw]
theorem rR_sRw_ne (w : Mem) {o a : Nat} (f : Nat → Option Nat) (h : a ≠ o) : rR (sRw w o f) a = rR w a := by simp [rR, sRw, h]
theorem sRw_self (w : Mem) (o : Nat) : sRw w o (rR w o) = w := by
  unfold sRw rR
  have : (fun a => if a = o then w.2.2.1 o else w.2.2.1 a) = w.2.2.1 := by
    funext a
    by_cases h : a = o
    · simp [h]
    · simp [h]
  rw [this]
theorem sR_sRw (w : Mem) (o k : Nat) (f : Nat → Option Nat) (x : Option Nat) : sR (sRw w o f) o k x = sRw w o (va_up f k x) := by
  unfold sR sRw
  congr 3
  funext a
  by_cases h : a = o
  · simp [h]
  · simp [h]
/-- the first i references as in another row -/
def cpR (f g : Nat → Option Nat) (i : Nat) : Nat → Option Nat := fun k => if k < i then f k else g k
theorem cpR_0 (f g : Nat → Option Nat) : cpR f g 0 = g := by
  funext k
  unfold cpR
  rw [if_neg (by omega)]
theorem cpR_s (f g : Nat → Option Nat) (i : Nat) : va_up (cpR f g i) i (f i) = cpR f g (i + 1) := by
  funext k
  unfold va_up cpR
  by_cases e : k = i
  · rw [if_pos e, e, if_pos (by omega)]
  · rw [if_neg e]
    by_cases e2 : k < i
    · rw [if_pos e2, if_pos (by omega)]
    · rw [if_neg e2, if_neg (by omega)]
theorem cpy_n {f g : Nat → Int32} {m k : Nat} (h : k < m) : va_cpy f g 0 0 m k = f k := by
  unfold va_cpy
  rw [if_pos (by omega), Nat.zero_add, Nat.sub_zero]
/-- a board's laws are references to Programs, or none -/
def TxtOK (w : Mem) (b : Nat) : Prop := ∀ k, k < 6 → ∀ r, rR w (b + 8) k = some r → Lv w r (1, 6)
def CpA (w : Mem) (a a2 : Nat) : Mem := (sA (sA (sA (sA (sI w a 0 (rI w a2 0)) (a + 1) (va_cpy (rI w (a2 + 1)) (rI w (a + 1)) 0 0 16)) (a + 2) (va_cpy (rI w (a2 + 2)) (rI w (a + 2)) 0 0 16)) (a + 3) (va_cpy (rI w (a2 + 3)) (rI w (a + 3)) 0 0 16)) (a + 4) (va_cpy (rI w (a2 + 4)) (rI w (a + 4)) 0 0 16))
theorem c_Ac_copyFrom {E : EV} {w : Mem} {a a2 : Nat} (ha : IsAc a) (ha2 : IsAc a2) (hne : a + 4 < a2 ∨ a2 + 4 < a) : T E m_Ac_copyFrom 1 0 0 [.ref a, .ref a2] w (Ret none (CpA w a a2)) := by
  refine T_of (L := [.ref a, .ref a2]) cf_Ac_copyFrom rfl (Nat.le_of_ble_eq_true rfl) (fun X hX hF => ?_)
  refine g_aload0 hX d_Ac_copyFrom_0 ?_
  refine g_aload1 hX d_Ac_copyFrom_1 ?_
  refine g_getI hX d_Ac_copyFrom_2 fl_Ac_24 (lvAc_0 ha2 _) ?_
  refine g_putI hX d_Ac_copyFrom_5 fl_Ac_24 (lvAc_0 ha _) ?_
  refine g_aload1 hX d_Ac_copyFrom_8 ?_
  refine g_getF hX d_Ac_copyFrom_9 fl_Ac_11 (lvAc_0 ha2 _) ?_
  refine g_iconst (v := nI 0) hX d_Ac_copyFrom_12 rfl ?_
  refine g_aload0 hX d_Ac_copyFrom_13 ?_
  refine g_getF hX d_Ac_copyFrom_14 fl_Ac_11 (lvAc_0 ha _) ?_
  refine g_iconst (v := nI 0) hX d_Ac_copyFrom_17 rfl ?_
  refine g_bipush (v := nI 16) hX d_Ac_copyFrom_18 rfl ?_
  refine g_acpI hX hF.1 d_Ac_copyFrom_20 ml_Ac_28 lk_acst lk_acna lk_acin (lvAc_1 ha2 _) (lvAc_1 ha _) (by omega) (by omega) (by decide) (by omega) (Nat.le_of_ble_eq_true rfl) ?_
  refine g_mem (show _ = (sA (sI w a 0 (rI w a2 0)) (a + 1) (va_cpy (rI w (a2 + 1)) (rI w (a + 1)) 0 0 16)) by rw [show rI (sI w a 0 (rI w a2 0)) (a2 + 1) = rI w (a2 + 1) by rw [rI_sI_ne _ _ _ (show a2 + 1 ≠ a by omega)], show rI (sI w a 0 (rI w a2 0)) (a + 1) = rI w (a + 1) by rw [rI_sI_ne _ _ _ (show a + 1 ≠ a by omega)]]) ?_
  refine g_aload1 hX d_Ac_copyFrom_23 ?_
  refine g_getF hX d_Ac_copyFrom_24 fl_Ac_15 (lvAc_0 ha2 _) ?_
  refine g_iconst (v := nI 0) hX d_Ac_copyFrom_27 rfl ?_
  refine g_aload0 hX d_Ac_copyFrom_28 ?_
  refine g_getF hX d_Ac_copyFrom_29 fl_Ac_15 (lvAc_0 ha _) ?_
  refine g_iconst (v := nI 0) hX d_Ac_copyFrom_32 rfl ?_
  refine g_bipush (v := nI 16) hX d_Ac_copyFrom_33 rfl ?_
  refine g_acpI hX hF.1 d_Ac_copyFrom_35 ml_Ac_28 lk_acst lk_acna lk_acin (lvAc_2 ha2 _) (lvAc_2 ha _) (by omega) (by omega) (by decide) (by omega) (Nat.le_of_ble_eq_true rfl) ?_
  refine g_mem (show _ = (sA (sA (sI w a 0 (rI w a2 0)) (a + 1) (va_cpy (rI w (a2 + 1)) (rI w (a + 1)) 0 0 16)) (a + 2) (va_cpy (rI w (a2 + 2)) (rI w (a + 2)) 0 0 16)) by rw [show rI (sA (sI w a 0 (rI w a2 0)) (a + 1) (va_cpy (rI w (a2 + 1)) (rI w (a + 1)) 0 0 16)) (a2 + 2) = rI w (a2 + 2) by rw [rI_sA_ne _ _ (show a2 + 2 ≠ a + 1 by omega), rI_sI_ne _ _ _ (show a2 + 2 ≠ a by omega)], show rI (sA (sI w a 0 (rI w a2 0)) (a + 1) (va_cpy (rI w (a2 + 1)) (rI w (a + 1)) 0 0 16)) (a + 2) = rI w (a + 2) by rw [rI_sA_ne _ _ (show a + 2 ≠ a + 1 by omega), rI_sI_ne _ _ _ (show a + 2 ≠ a by omega)]]) ?_
  refine g_aload1 hX d_Ac_copyFrom_38 ?_
  refine g_getF hX d_Ac_copyFrom_39 fl_Ac_18 (lvAc_0 ha2 _) ?_
  refine g_iconst (v := nI 0) hX d_Ac_copyFrom_42 rfl ?_
  refine g_aload0 hX d_Ac_copyFrom_43 ?_
  refine g_getF hX d_Ac_copyFrom_44 fl_Ac_18 (lvAc_0 ha _) ?_
  refine g_iconst (v := nI 0) hX d_Ac_copyFrom_47 rfl ?_
  refine g_bipush (v := nI 16) hX d_Ac_copyFrom_48 rfl ?_
  refine g_acpI hX hF.1 d_Ac_copyFrom_50 ml_Ac_28 lk_acst lk_acna lk_acin (lvAc_3 ha2 _) (lvAc_3 ha _) (by omega) (by omega) (by decide) (by omega) (Nat.le_of_ble_eq_true rfl) ?_
  refine g_mem (show _ = (sA (sA (sA (sI w a 0 (rI w a2 0)) (a + 1) (va_cpy (rI w (a2 + 1)) (rI w (a + 1)) 0 0 16)) (a + 2) (va_cpy (rI w (a2 + 2)) (rI w (a + 2)) 0 0 16)) (a + 3) (va_cpy (rI w (a2 + 3)) (rI w (a + 3)) 0 0 16)) by rw [show rI (sA (sA (sI w a 0 (rI w a2 0)) (a + 1) (va_cpy (rI w (a2 + 1)) (rI w (a + 1)) 0 0 16)) (a + 2) (va_cpy (rI w (a2 + 2)) (rI w (a + 2)) 0 0 16)) (a2 + 3) = rI w (a2 + 3) by rw [rI_sA_ne _ _ (show a2 + 3 ≠ a + 2 by omega), rI_sA_ne _ _ (show a2 + 3 ≠ a + 1 by omega), rI_sI_ne _ _ _ (show a2 + 3 ≠ a by omega)], show rI (sA (sA (sI w a 0 (rI w a2 0)) (a + 1) (va_cpy (rI w (a2 + 1)) (rI w (a + 1)) 0 0 16)) (a + 2) (va_cpy (rI w (a2 + 2)) (rI w (a + 2)) 0 0 16)) (a + 3) = rI w (a + 3) by rw [rI_sA_ne _ _ (show a + 3 ≠ a + 2 by omega), rI_sA_ne _ _ (show a + 3 ≠ a + 1 by omega), rI_sI_ne _ _ _ (show a + 3 ≠ a by omega)]]) ?_
  refine g_aload1 hX d_Ac_copyFrom_53 ?_
  refine g_getF hX d_Ac_copyFrom_54 fl_Ac_21 (lvAc_0 ha2 _) ?_
  refine g_iconst (v := nI 0) hX d_Ac_copyFrom_57 rfl ?_
  refine g_aload0 hX d_Ac_copyFrom_58 ?_
  refine g_getF hX d_Ac_copyFrom_59 fl_Ac_21 (lvAc_0 ha _) ?_
  refine g_iconst (v := nI 0) hX d_Ac_copyFrom_62 rfl ?_
  refine g_bipush (v := nI 16) hX d_Ac_copyFrom_63 rfl ?_
  refine g_acpI hX hF.1 d_Ac_copyFrom_65 ml_Ac_28 lk_acst lk_acna lk_acin (lvAc_4 ha2 _) (lvAc_4 ha _) (by omega) (by omega) (by decide) (by omega) (Nat.le_of_ble_eq_true rfl) ?_
  refine g_mem (show _ = (sA (sA (sA (sA (sI w a 0 (rI w a2 0)) (a + 1) (va_cpy (rI w (a2 + 1)) (rI w (a + 1)) 0 0 16)) (a + 2) (va_cpy (rI w (a2 + 2)) (rI w (a + 2)) 0 0 16)) (a + 3) (va_cpy (rI w (a2 + 3)) (rI w (a + 3)) 0 0 16)) (a + 4) (va_cpy (rI w (a2 + 4)) (rI w (a + 4)) 0 0 16)) by rw [show rI (sA (sA (sA (sI w a 0 (rI w a2 0)) (a + 1) (va_cpy (rI w (a2 + 1)) (rI w (a + 1)) 0 0 16)) (a + 2) (va_cpy (rI w (a2 + 2)) (rI w (a + 2)) 0 0 16)) (a + 3) (va_cpy (rI w (a2 + 3)) (rI w (a + 3)) 0 0 16)) (a2 + 4) = rI w (a2 + 4) by rw [rI_sA_ne _ _ (show a2 + 4 ≠ a + 3 by omega), rI_sA_ne _ _ (show a2 + 4 ≠ a + 2 by omega), rI_sA_ne _ _ (show a2 + 4 ≠ a + 1 by omega), rI_sI_ne _ _ _ (show a2 + 4 ≠ a by omega)], show rI (sA (sA (sA (sI w a 0 (rI w a2 0)) (a + 1) (va_cpy (rI w (a2 + 1)) (rI w (a + 1)) 0 0 16)) (a + 2) (va_cpy (rI w (a2 + 2)) (rI w (a + 2)) 0 0 16)) (a + 3) (va_cpy (rI w (a2 + 3)) (rI w (a + 3)) 0 0 16)) (a + 4) = rI w (a + 4) by rw [rI_sA_ne _ _ (show a + 4 ≠ a + 3 by omega), rI_sA_ne _ _ (show a + 4 ≠ a + 2 by omega), rI_sA_ne _ _ (show a + 4 ≠ a + 1 by omega), rI_sI_ne _ _ _ (show a + 4 ≠ a by omega)]]) ?_
  refine g_vret hX hF d_Ac_copyFrom_68 (by omega) (by omega) ?_
  exact ⟨rfl, rfl⟩
theorem CpA_fr (w : Mem) (a a2 : Nat) : FrAc a w (CpA w a a2) := (((((FrAc.rf a w).I (by omega)).A (by omega)).A (by omega)).A (by omega)).A (by omega)
theorem CpA_0 (w : Mem) (a a2 : Nat) : rI (CpA w a a2) a 0 = rI w a2 0 := by
  unfold CpA
  rw [rI_sA_ne _ _ (by omega), rI_sA_ne _ _ (by omega), rI_sA_ne _ _ (by omega), rI_sA_ne _ _ (by omega), rI_sI, upd_eq, if_pos rfl]
theorem CpA_k (w : Mem) (a a2 : Nat) {k : Nat} (hk : k < 16) : rI (CpA w a a2) (a + 1) k = rI w (a2 + 1) k ∧ rI (CpA w a a2) (a + 2) k = rI w (a2 + 2) k ∧ rI (CpA w a a2) (a + 3) k = rI w (a2 + 3) k ∧ rI (CpA w a a2) (a + 4) k = rI w (a2 + 4) k := by
  unfold CpA
  refine ⟨?_, ?_, ?_, ?_⟩
  · rw [rI_sA_ne _ _ (by omega), rI_sA_ne _ _ (by omega), rI_sA_ne _ _ (by omega), rI_sA, cpy_n hk]
  · rw [rI_sA_ne _ _ (by omega), rI_sA_ne _ _ (by omega), rI_sA, cpy_n hk]
  · rw [rI_sA_ne _ _ (by omega), rI_sA, cpy_n hk]
  · rw [rI_sA, cpy_n hk]
theorem ActP.copy {w : Mem} {a a2 : Nat} {g : GC} {u : List (Nat × Snap)} (h : ActP w a2 g u) : ActP (CpA w a a2) a g u := by
  obtain ⟨h1, h2, h3⟩ := h
  refine ⟨h1, by rw [CpA_0]; exact h2, fun k q hq => ?_⟩
  have hk := (List.getElem?_eq_some_iff.mp hq).1
  obtain ⟨e1, e2, e3, e4⟩ := CpA_k w a a2 (show k < 16 by omega)
  rw [e1, e2, e3, e4]
  exact h3 k q hq
def CpI (w : Mem) (b b2 : Nat) : Mem := (sA (sA (sA (sA (sA (sA (sA (sI (sI (sI (sI (sI (sI w b 0 (rI w b2 0)) b 3 (rI w b2 3)) b 5 (rI w b2 5)) b 8 (rI w b2 8)) b 11 (rI w b2 11)) b 12 (rI w b2 12)) (b + 1) (va_cpy (rI w (b2 + 1)) (rI w (b + 1)) 0 0 12)) (b + 2) (va_cpy (rI w (b2 + 2)) (rI w (b + 2)) 0 0 12)) (b + 3) (va_cpy (rI w (b2 + 3)) (rI w (b + 3)) 0 0 66)) (b + 4) (va_cpy (rI w (b2 + 4)) (rI w (b + 4)) 0 0 5)) (b + 5) (va_cpy (rI w (b2 + 5)) (rI w (b + 5)) 0 0 5)) (b + 6) (va_cpy (rI w (b2 + 6)) (rI w (b + 6)) 0 0 6)) (b + 7) (va_cpy (rI w (b2 + 7)) (rI w (b + 7)) 0 0 3))
/-- the world with a board copied -/
def CpB (w : Mem) (b b2 : Nat) : Mem := (sRw (CpI w b b2) (b + 8) (cpR (rR w (b2 + 8)) (rR w (b + 8)) 6))
theorem c_Bo_copyFrom {E : EV} {w : Mem} {b b2 : Nat} (hb : IsBo b) (hb2 : IsBo b2) (hne : b + 8 < b2 ∨ b2 + 8 < b) (hT : TxtOK w b2) : T E m_Bo_copyFrom 1 0 0 [.ref b, .ref b2] w (Ret none (CpB w b b2)) := by
  refine T_of (L := [.ref b, .ref b2, un]) cf_Bo_copyFrom rfl (Nat.le_of_ble_eq_true rfl) (fun X hX hF => ?_)
  have lp : ∀ (fuel : Nat) (i : Nat), 6 - i < fuel → (i ≤ 6) → G0 E X 0 0 152 [.ref b, .ref b2, .int (nI i)] [] (sRw (CpI w b b2) (b + 8) (cpR (rR w (b2 + 8)) (rR w (b + 8)) i)) := by
    intro fuel
    induction fuel with
    | zero => intro i q0; exact absurd q0 (Nat.not_lt_zero _)
    | succ fuel ih =>
      intro i q0 q1
      refine g_iload2 hX d_Bo_copyFrom_152 ?_
      refine g_bipush (v := nI 6) hX d_Bo_copyFrom_153 rfl ?_
      refine g_icmpN_ge hX d_Bo_copyFrom_155 (by omega) (by omega) (fun c0 => ?_) (fun c0 => ?_)
      · refine g_vret hX hF d_Bo_copyFrom_176 (by omega) (by omega) ?_
        obtain rfl : i = 6 := by omega
        exact ⟨rfl, rfl⟩
      · refine g_aload0 hX d_Bo_copyFrom_158 ?_
        refine g_getF hX d_Bo_copyFrom_159 fl_Bo_39 (lvBo_0 hb _) ?_
        refine g_iload2 hX d_Bo_copyFrom_162 ?_
        refine g_aload1 hX d_Bo_copyFrom_163 ?_
        refine g_getF hX d_Bo_copyFrom_164 fl_Bo_39 (lvBo_0 hb2 _) ?_
        refine g_iload2 hX d_Bo_copyFrom_167 ?_
        rcases hr : rR w (b2 + 8) i with _ | r
        · refine g_aaldPN hX d_Bo_copyFrom_168 (lvBo_8 hb2 _) rfl (by omega) (show rR (sRw (CpI w b b2) (b + 8) (cpR (rR w (b2 + 8)) (rR w (b + 8)) i)) (b2 + 8) i = none by rw [rR_sRw_ne _ _ (show b2 + 8 ≠ b + 8 by omega)]; exact hr) ?_
          refine g_aastPN hX d_Bo_copyFrom_169 (lvBo_8 hb _) rfl (by omega) ?_
          refine g_iincN2 hX d_Bo_copyFrom_170 rfl (by decide) ?_
          refine g_goto hX d_Bo_copyFrom_173 ?_
          refine g_mem (by rw [sR_sRw, ← hr, cpR_s]) ?_
          exact ih (i + 1) (by omega) (by omega)
        · refine g_aaldP hX d_Bo_copyFrom_168 (lvBo_8 hb2 _) rfl (by omega) (show rR (sRw (CpI w b b2) (b + 8) (cpR (rR w (b2 + 8)) (rR w (b + 8)) i)) (b2 + 8) i = some r by rw [rR_sRw_ne _ _ (show b2 + 8 ≠ b + 8 by omega)]; exact hr) ?_
          refine g_aastP hX d_Bo_copyFrom_169 (lvBo_8 hb _) rfl (by omega) (show Lv (sRw (CpI w b b2) (b + 8) (cpR (rR w (b2 + 8)) (rR w (b + 8)) i)) r (1, 6) from hT i (by omega) r hr) ?_
          refine g_iincN2 hX d_Bo_copyFrom_170 rfl (by decide) ?_
          refine g_goto hX d_Bo_copyFrom_173 ?_
          refine g_mem (by rw [sR_sRw, ← hr, cpR_s]) ?_
          exact ih (i + 1) (by omega) (by omega)
  refine g_aload0 hX d_Bo_copyFrom_0 ?_
  refine g_aload1 hX d_Bo_copyFrom_1 ?_
  refine g_getI hX d_Bo_copyFrom_2 fl_Bo_43 (lvBo_0 hb2 _) ?_
  refine g_topi (show rI w b2 0 = rI w b2 0 from rfl) ?_
  refine g_putI hX d_Bo_copyFrom_5 fl_Bo_43 (lvBo_0 hb _) ?_
  refine g_aload0 hX d_Bo_copyFrom_8 ?_
  refine g_aload1 hX d_Bo_copyFrom_9 ?_
  refine g_getI hX d_Bo_copyFrom_10 fl_Bo_46 (lvBo_0 hb2 _) ?_
  refine g_topi (show rI (sI w b 0 (rI w b2 0)) b2 3 = rI w b2 3 by rw [rI_sI_ne _ _ _ (show b2 ≠ b by omega)]) ?_
  refine g_putI hX d_Bo_copyFrom_13 fl_Bo_46 (lvBo_0 hb _) ?_
  refine g_aload0 hX d_Bo_copyFrom_16 ?_
  refine g_aload1 hX d_Bo_copyFrom_17 ?_
  refine g_getI hX d_Bo_copyFrom_18 fl_Bo_49 (lvBo_0 hb2 _) ?_
  refine g_topi (show rI (sI (sI w b 0 (rI w b2 0)) b 3 (rI w b2 3)) b2 5 = rI w b2 5 by rw [rI_sI_ne _ _ _ (show b2 ≠ b by omega), rI_sI_ne _ _ _ (show b2 ≠ b by omega)]) ?_
  refine g_putI hX d_Bo_copyFrom_21 fl_Bo_49 (lvBo_0 hb _) ?_
  refine g_aload0 hX d_Bo_copyFrom_24 ?_
  refine g_aload1 hX d_Bo_copyFrom_25 ?_
  refine g_getI hX d_Bo_copyFrom_26 fl_Bo_52 (lvBo_0 hb2 _) ?_
  refine g_topi (show rI (sI (sI (sI w b 0 (rI w b2 0)) b 3 (rI w b2 3)) b 5 (rI w b2 5)) b2 8 = rI w b2 8 by rw [rI_sI_ne _ _ _ (show b2 ≠ b by omega), rI_sI_ne _ _ _ (show b2 ≠ b by omega), rI_sI_ne _ _ _ (show b2 ≠ b by omega)]) ?_
  refine g_putI hX d_Bo_copyFrom_29 fl_Bo_52 (lvBo_0 hb _) ?_
  refine g_aload0 hX d_Bo_copyFrom_32 ?_
  refine g_aload1 hX d_Bo_copyFrom_33 ?_
  refine g_getI hX d_Bo_copyFrom_34 fl_Bo_55 (lvBo_0 hb2 _) ?_
  refine g_topi (show rI (sI (sI (sI (sI w b 0 (rI w b2 0)) b 3 (rI w b2 3)) b 5 (rI w b2 5)) b 8 (rI w b2 8)) b2 11 = rI w b2 11 by rw [rI_sI_ne _ _ _ (show b2 ≠ b by omega), rI_sI_ne _ _ _ (show b2 ≠ b by omega), rI_sI_ne _ _ _ (show b2 ≠ b by omega), rI_sI_ne _ _ _ (show b2 ≠ b by omega)]) ?_
  refine g_putI hX d_Bo_copyFrom_37 fl_Bo_55 (lvBo_0 hb _) ?_
  refine g_aload0 hX d_Bo_copyFrom_40 ?_
  refine g_aload1 hX d_Bo_copyFrom_41 ?_
  refine g_getI hX d_Bo_copyFrom_42 fl_Bo_33 (lvBo_0 hb2 _) ?_
  refine g_topi (show rI (sI (sI (sI (sI (sI w b 0 (rI w b2 0)) b 3 (rI w b2 3)) b 5 (rI w b2 5)) b 8 (rI w b2 8)) b 11 (rI w b2 11)) b2 12 = rI w b2 12 by rw [rI_sI_ne _ _ _ (show b2 ≠ b by omega), rI_sI_ne _ _ _ (show b2 ≠ b by omega), rI_sI_ne _ _ _ (show b2 ≠ b by omega), rI_sI_ne _ _ _ (show b2 ≠ b by omega), rI_sI_ne _ _ _ (show b2 ≠ b by omega)]) ?_
  refine g_putI hX d_Bo_copyFrom_45 fl_Bo_33 (lvBo_0 hb _) ?_
  refine g_aload1 hX d_Bo_copyFrom_48 ?_
  refine g_getF hX d_Bo_copyFrom_49 fl_Bo_9 (lvBo_0 hb2 _) ?_
  refine g_iconst (v := nI 0) hX d_Bo_copyFrom_52 rfl ?_
  refine g_aload0 hX d_Bo_copyFrom_53 ?_
  refine g_getF hX d_Bo_copyFrom_54 fl_Bo_9 (lvBo_0 hb _) ?_
  refine g_iconst (v := nI 0) hX d_Bo_copyFrom_57 rfl ?_
  refine g_bipush (v := nI 12) hX d_Bo_copyFrom_58 rfl ?_
  refine g_acpI hX hF.1 d_Bo_copyFrom_60 ml_Bo_58 lk_acst lk_acna lk_acin (lvBo_1 hb2 _) (lvBo_1 hb _) (by omega) (by omega) (by decide) (by omega) (Nat.le_of_ble_eq_true rfl) ?_
  refine g_mem (show _ = (sA (sI (sI (sI (sI (sI (sI w b 0 (rI w b2 0)) b 3 (rI w b2 3)) b 5 (rI w b2 5)) b 8 (rI w b2 8)) b 11 (rI w b2 11)) b 12 (rI w b2 12)) (b + 1) (va_cpy (rI w (b2 + 1)) (rI w (b + 1)) 0 0 12)) by rw [show rI (sI (sI (sI (sI (sI (sI w b 0 (rI w b2 0)) b 3 (rI w b2 3)) b 5 (rI w b2 5)) b 8 (rI w b2 8)) b 11 (rI w b2 11)) b 12 (rI w b2 12)) (b2 + 1) = rI w (b2 + 1) by rw [rI_sI_ne _ _ _ (show b2 + 1 ≠ b by omega), rI_sI_ne _ _ _ (show b2 + 1 ≠ b by omega), rI_sI_ne _ _ _ (show b2 + 1 ≠ b by omega), rI_sI_ne _ _ _ (show b2 + 1 ≠ b by omega), rI_sI_ne _ _ _ (show b2 + 1 ≠ b by omega), rI_sI_ne _ _ _ (show b2 + 1 ≠ b by omega)], show rI (sI (sI (sI (sI (sI (sI w b 0 (rI w b2 0)) b 3 (rI w b2 3)) b 5 (rI w b2 5)) b 8 (rI w b2 8)) b 11 (rI w b2 11)) b 12 (rI w b2 12)) (b + 1) = rI w (b + 1) by rw [rI_sI_ne _ _ _ (show b + 1 ≠ b by omega), rI_sI_ne _ _ _ (show b + 1 ≠ b by omega), rI_sI_ne _ _ _ (show b + 1 ≠ b by omega), rI_sI_ne _ _ _ (show b + 1 ≠ b by omega), rI_sI_ne _ _ _ (show b + 1 ≠ b by omega), rI_sI_ne _ _ _ (show b + 1 ≠ b by omega)]]) ?_
  refine g_aload1 hX d_Bo_copyFrom_63 ?_
  refine g_getF hX d_Bo_copyFrom_64 fl_Bo_15 (lvBo_0 hb2 _) ?_
  refine g_iconst (v := nI 0) hX d_Bo_copyFrom_67 rfl ?_
  refine g_aload0 hX d_Bo_copyFrom_68 ?_
  refine g_getF hX d_Bo_copyFrom_69 fl_Bo_15 (lvBo_0 hb _) ?_
  refine g_iconst (v := nI 0) hX d_Bo_copyFrom_72 rfl ?_
  refine g_bipush (v := nI 12) hX d_Bo_copyFrom_73 rfl ?_
  refine g_acpI hX hF.1 d_Bo_copyFrom_75 ml_Bo_58 lk_acst lk_acna lk_acin (lvBo_2 hb2 _) (lvBo_2 hb _) (by omega) (by omega) (by decide) (by omega) (Nat.le_of_ble_eq_true rfl) ?_
  refine g_mem (show _ = (sA (sA (sI (sI (sI (sI (sI (sI w b 0 (rI w b2 0)) b 3 (rI w b2 3)) b 5 (rI w b2 5)) b 8 (rI w b2 8)) b 11 (rI w b2 11)) b 12 (rI w b2 12)) (b + 1) (va_cpy (rI w (b2 + 1)) (rI w (b + 1)) 0 0 12)) (b + 2) (va_cpy (rI w (b2 + 2)) (rI w (b + 2)) 0 0 12)) by rw [show rI (sA (sI (sI (sI (sI (sI (sI w b 0 (rI w b2 0)) b 3 (rI w b2 3)) b 5 (rI w b2 5)) b 8 (rI w b2 8)) b 11 (rI w b2 11)) b 12 (rI w b2 12)) (b + 1) (va_cpy (rI w (b2 + 1)) (rI w (b + 1)) 0 0 12)) (b2 + 2) = rI w (b2 + 2) by rw [rI_sA_ne _ _ (show b2 + 2 ≠ b + 1 by omega), rI_sI_ne _ _ _ (show b2 + 2 ≠ b by omega), rI_sI_ne _ _ _ (show b2 + 2 ≠ b by omega), rI_sI_ne _ _ _ (show b2 + 2 ≠ b by omega), rI_sI_ne _ _ _ (show b2 + 2 ≠ b by omega), rI_sI_ne _ _ _ (show b2 + 2 ≠ b by omega), rI_sI_ne _ _ _ (show b2 + 2 ≠ b by omega)], show rI (sA (sI (sI (sI (sI (sI (sI w b 0 (rI w b2 0)) b 3 (rI w b2 3)) b 5 (rI w b2 5)) b 8 (rI w b2 8)) b 11 (rI w b2 11)) b 12 (rI w b2 12)) (b + 1) (va_cpy (rI w (b2 + 1)) (rI w (b + 1)) 0 0 12)) (b + 2) = rI w (b + 2) by rw [rI_sA_ne _ _ (show b + 2 ≠ b + 1 by omega), rI_sI_ne _ _ _ (show b + 2 ≠ b by omega), rI_sI_ne _ _ _ (show b + 2 ≠ b by omega), rI_sI_ne _ _ _ (show b + 2 ≠ b by omega), rI_sI_ne _ _ _ (show b + 2 ≠ b by omega), rI_sI_ne _ _ _ (show b + 2 ≠ b by omega), rI_sI_ne _ _ _ (show b + 2 ≠ b by omega)]]) ?_
  refine g_aload1 hX d_Bo_copyFrom_78 ?_
  refine g_getF hX d_Bo_copyFrom_79 fl_Bo_18 (lvBo_0 hb2 _) ?_
  refine g_iconst (v := nI 0) hX d_Bo_copyFrom_82 rfl ?_
  refine g_aload0 hX d_Bo_copyFrom_83 ?_
  refine g_getF hX d_Bo_copyFrom_84 fl_Bo_18 (lvBo_0 hb _) ?_
  refine g_iconst (v := nI 0) hX d_Bo_copyFrom_87 rfl ?_
  refine g_bipush (v := nI 66) hX d_Bo_copyFrom_88 rfl ?_
  refine g_acpI hX hF.1 d_Bo_copyFrom_90 ml_Bo_58 lk_acst lk_acna lk_acin (lvBo_3 hb2 _) (lvBo_3 hb _) (by omega) (by omega) (by decide) (by omega) (Nat.le_of_ble_eq_true rfl) ?_
  refine g_mem (show _ = (sA (sA (sA (sI (sI (sI (sI (sI (sI w b 0 (rI w b2 0)) b 3 (rI w b2 3)) b 5 (rI w b2 5)) b 8 (rI w b2 8)) b 11 (rI w b2 11)) b 12 (rI w b2 12)) (b + 1) (va_cpy (rI w (b2 + 1)) (rI w (b + 1)) 0 0 12)) (b + 2) (va_cpy (rI w (b2 + 2)) (rI w (b + 2)) 0 0 12)) (b + 3) (va_cpy (rI w (b2 + 3)) (rI w (b + 3)) 0 0 66)) by rw [show rI (sA (sA (sI (sI (sI (sI (sI (sI w b 0 (rI w b2 0)) b 3 (rI w b2 3)) b 5 (rI w b2 5)) b 8 (rI w b2 8)) b 11 (rI w b2 11)) b 12 (rI w b2 12)) (b + 1) (va_cpy (rI w (b2 + 1)) (rI w (b + 1)) 0 0 12)) (b + 2) (va_cpy (rI w (b2 + 2)) (rI w (b + 2)) 0 0 12)) (b2 + 3) = rI w (b2 + 3) by rw [rI_sA_ne _ _ (show b2 + 3 ≠ b + 2 by omega), rI_sA_ne _ _ (show b2 + 3 ≠ b + 1 by omega), rI_sI_ne _ _ _ (show b2 + 3 ≠ b by omega), rI_sI_ne _ _ _ (show b2 + 3 ≠ b by omega), rI_sI_ne _ _ _ (show b2 + 3 ≠ b by omega), rI_sI_ne _ _ _ (show b2 + 3 ≠ b by omega), rI_sI_ne _ _ _ (show b2 + 3 ≠ b by omega), rI_sI_ne _ _ _ (show b2 + 3 ≠ b by omega)], show rI (sA (sA (sI (sI (sI (sI (sI (sI w b 0 (rI w b2 0)) b 3 (rI w b2 3)) b 5 (rI w b2 5)) b 8 (rI w b2 8)) b 11 (rI w b2 11)) b 12 (rI w b2 12)) (b + 1) (va_cpy (rI w (b2 + 1)) (rI w (b + 1)) 0 0 12)) (b + 2) (va_cpy (rI w (b2 + 2)) (rI w (b + 2)) 0 0 12)) (b + 3) = rI w (b + 3) by rw [rI_sA_ne _ _ (show b + 3 ≠ b + 2 by omega), rI_sA_ne _ _ (show b + 3 ≠ b + 1 by omega), rI_sI_ne _ _ _ (show b + 3 ≠ b by omega), rI_sI_ne _ _ _ (show b + 3 ≠ b by omega), rI_sI_ne _ _ _ (show b + 3 ≠ b by omega), rI_sI_ne _ _ _ (show b + 3 ≠ b by omega), rI_sI_ne _ _ _ (show b + 3 ≠ b by omega), rI_sI_ne _ _ _ (show b + 3 ≠ b by omega)]]) ?_
  refine g_aload1 hX d_Bo_copyFrom_93 ?_
  refine g_getF hX d_Bo_copyFrom_94 fl_Bo_21 (lvBo_0 hb2 _) ?_
  refine g_iconst (v := nI 0) hX d_Bo_copyFrom_97 rfl ?_
  refine g_aload0 hX d_Bo_copyFrom_98 ?_
  refine g_getF hX d_Bo_copyFrom_99 fl_Bo_21 (lvBo_0 hb _) ?_
  refine g_iconst (v := nI 0) hX d_Bo_copyFrom_102 rfl ?_
  refine g_iconst (v := nI 5) hX d_Bo_copyFrom_103 rfl ?_
  refine g_acpI hX hF.1 d_Bo_copyFrom_104 ml_Bo_58 lk_acst lk_acna lk_acin (lvBo_4 hb2 _) (lvBo_4 hb _) (by omega) (by omega) (by decide) (by omega) (Nat.le_of_ble_eq_true rfl) ?_
  refine g_mem (show _ = (sA (sA (sA (sA (sI (sI (sI (sI (sI (sI w b 0 (rI w b2 0)) b 3 (rI w b2 3)) b 5 (rI w b2 5)) b 8 (rI w b2 8)) b 11 (rI w b2 11)) b 12 (rI w b2 12)) (b + 1) (va_cpy (rI w (b2 + 1)) (rI w (b + 1)) 0 0 12)) (b + 2) (va_cpy (rI w (b2 + 2)) (rI w (b + 2)) 0 0 12)) (b + 3) (va_cpy (rI w (b2 + 3)) (rI w (b + 3)) 0 0 66)) (b + 4) (va_cpy (rI w (b2 + 4)) (rI w (b + 4)) 0 0 5)) by rw [show rI (sA (sA (sA (sI (sI (sI (sI (sI (sI w b 0 (rI w b2 0)) b 3 (rI w b2 3)) b 5 (rI w b2 5)) b 8 (rI w b2 8)) b 11 (rI w b2 11)) b 12 (rI w b2 12)) (b + 1) (va_cpy (rI w (b2 + 1)) (rI w (b + 1)) 0 0 12)) (b + 2) (va_cpy (rI w (b2 + 2)) (rI w (b + 2)) 0 0 12)) (b + 3) (va_cpy (rI w (b2 + 3)) (rI w (b + 3)) 0 0 66)) (b2 + 4) = rI w (b2 + 4) by rw [rI_sA_ne _ _ (show b2 + 4 ≠ b + 3 by omega), rI_sA_ne _ _ (show b2 + 4 ≠ b + 2 by omega), rI_sA_ne _ _ (show b2 + 4 ≠ b + 1 by omega), rI_sI_ne _ _ _ (show b2 + 4 ≠ b by omega), rI_sI_ne _ _ _ (show b2 + 4 ≠ b by omega), rI_sI_ne _ _ _ (show b2 + 4 ≠ b by omega), rI_sI_ne _ _ _ (show b2 + 4 ≠ b by omega), rI_sI_ne _ _ _ (show b2 + 4 ≠ b by omega), rI_sI_ne _ _ _ (show b2 + 4 ≠ b by omega)], show rI (sA (sA (sA (sI (sI (sI (sI (sI (sI w b 0 (rI w b2 0)) b 3 (rI w b2 3)) b 5 (rI w b2 5)) b 8 (rI w b2 8)) b 11 (rI w b2 11)) b 12 (rI w b2 12)) (b + 1) (va_cpy (rI w (b2 + 1)) (rI w (b + 1)) 0 0 12)) (b + 2) (va_cpy (rI w (b2 + 2)) (rI w (b + 2)) 0 0 12)) (b + 3) (va_cpy (rI w (b2 + 3)) (rI w (b + 3)) 0 0 66)) (b + 4) = rI w (b + 4) by rw [rI_sA_ne _ _ (show b + 4 ≠ b + 3 by omega), rI_sA_ne _ _ (show b + 4 ≠ b + 2 by omega), rI_sA_ne _ _ (show b + 4 ≠ b + 1 by omega), rI_sI_ne _ _ _ (show b + 4 ≠ b by omega), rI_sI_ne _ _ _ (show b + 4 ≠ b by omega), rI_sI_ne _ _ _ (show b + 4 ≠ b by omega), rI_sI_ne _ _ _ (show b + 4 ≠ b by omega), rI_sI_ne _ _ _ (show b + 4 ≠ b by omega), rI_sI_ne _ _ _ (show b + 4 ≠ b by omega)]]) ?_
  refine g_aload1 hX d_Bo_copyFrom_107 ?_
  refine g_getF hX d_Bo_copyFrom_108 fl_Bo_24 (lvBo_0 hb2 _) ?_
  refine g_iconst (v := nI 0) hX d_Bo_copyFrom_111 rfl ?_
  refine g_aload0 hX d_Bo_copyFrom_112 ?_
  refine g_getF hX d_Bo_copyFrom_113 fl_Bo_24 (lvBo_0 hb _) ?_
  refine g_iconst (v := nI 0) hX d_Bo_copyFrom_116 rfl ?_
  refine g_iconst (v := nI 5) hX d_Bo_copyFrom_117 rfl ?_
  refine g_acpI hX hF.1 d_Bo_copyFrom_118 ml_Bo_58 lk_acst lk_acna lk_acin (lvBo_5 hb2 _) (lvBo_5 hb _) (by omega) (by omega) (by decide) (by omega) (Nat.le_of_ble_eq_true rfl) ?_
  refine g_mem (show _ = (sA (sA (sA (sA (sA (sI (sI (sI (sI (sI (sI w b 0 (rI w b2 0)) b 3 (rI w b2 3)) b 5 (rI w b2 5)) b 8 (rI w b2 8)) b 11 (rI w b2 11)) b 12 (rI w b2 12)) (b + 1) (va_cpy (rI w (b2 + 1)) (rI w (b + 1)) 0 0 12)) (b + 2) (va_cpy (rI w (b2 + 2)) (rI w (b + 2)) 0 0 12)) (b + 3) (va_cpy (rI w (b2 + 3)) (rI w (b + 3)) 0 0 66)) (b + 4) (va_cpy (rI w (b2 + 4)) (rI w (b + 4)) 0 0 5)) (b + 5) (va_cpy (rI w (b2 + 5)) (rI w (b + 5)) 0 0 5)) by rw [show rI (sA (sA (sA (sA (sI (sI (sI (sI (sI (sI w b 0 (rI w b2 0)) b 3 (rI w b2 3)) b 5 (rI w b2 5)) b 8 (rI w b2 8)) b 11 (rI w b2 11)) b 12 (rI w b2 12)) (b + 1) (va_cpy (rI w (b2 + 1)) (rI w (b + 1)) 0 0 12)) (b + 2) (va_cpy (rI w (b2 + 2)) (rI w (b + 2)) 0 0 12)) (b + 3) (va_cpy (rI w (b2 + 3)) (rI w (b + 3)) 0 0 66)) (b + 4) (va_cpy (rI w (b2 + 4)) (rI w (b + 4)) 0 0 5)) (b2 + 5) = rI w (b2 + 5) by rw [rI_sA_ne _ _ (show b2 + 5 ≠ b + 4 by omega), rI_sA_ne _ _ (show b2 + 5 ≠ b + 3 by omega), rI_sA_ne _ _ (show b2 + 5 ≠ b + 2 by omega), rI_sA_ne _ _ (show b2 + 5 ≠ b + 1 by omega), rI_sI_ne _ _ _ (show b2 + 5 ≠ b by omega), rI_sI_ne _ _ _ (show b2 + 5 ≠ b by omega), rI_sI_ne _ _ _ (show b2 + 5 ≠ b by omega), rI_sI_ne _ _ _ (show b2 + 5 ≠ b by omega), rI_sI_ne _ _ _ (show b2 + 5 ≠ b by omega), rI_sI_ne _ _ _ (show b2 + 5 ≠ b by omega)], show rI (sA (sA (sA (sA (sI (sI (sI (sI (sI (sI w b 0 (rI w b2 0)) b 3 (rI w b2 3)) b 5 (rI w b2 5)) b 8 (rI w b2 8)) b 11 (rI w b2 11)) b 12 (rI w b2 12)) (b + 1) (va_cpy (rI w (b2 + 1)) (rI w (b + 1)) 0 0 12)) (b + 2) (va_cpy (rI w (b2 + 2)) (rI w (b + 2)) 0 0 12)) (b + 3) (va_cpy (rI w (b2 + 3)) (rI w (b + 3)) 0 0 66)) (b + 4) (va_cpy (rI w (b2 + 4)) (rI w (b + 4)) 0 0 5)) (b + 5) = rI w (b + 5) by rw [rI_sA_ne _ _ (show b + 5 ≠ b + 4 by omega), rI_sA_ne _ _ (show b + 5 ≠ b + 3 by omega), rI_sA_ne _ _ (show b + 5 ≠ b + 2 by omega), rI_sA_ne _ _ (show b + 5 ≠ b + 1 by omega), rI_sI_ne _ _ _ (show b + 5 ≠ b by omega), rI_sI_ne _ _ _ (show b + 5 ≠ b by omega), rI_sI_ne _ _ _ (show b + 5 ≠ b by omega), rI_sI_ne _ _ _ (show b + 5 ≠ b by omega), rI_sI_ne _ _ _ (show b + 5 ≠ b by omega), rI_sI_ne _ _ _ (show b + 5 ≠ b by omega)]]) ?_
  refine g_aload1 hX d_Bo_copyFrom_121 ?_
  refine g_getF hX d_Bo_copyFrom_122 fl_Bo_27 (lvBo_0 hb2 _) ?_
  refine g_iconst (v := nI 0) hX d_Bo_copyFrom_125 rfl ?_
  refine g_aload0 hX d_Bo_copyFrom_126 ?_
  refine g_getF hX d_Bo_copyFrom_127 fl_Bo_27 (lvBo_0 hb _) ?_
  refine g_iconst (v := nI 0) hX d_Bo_copyFrom_130 rfl ?_
  refine g_bipush (v := nI 6) hX d_Bo_copyFrom_131 rfl ?_
  refine g_acpI hX hF.1 d_Bo_copyFrom_133 ml_Bo_58 lk_acst lk_acna lk_acin (lvBo_6 hb2 _) (lvBo_6 hb _) (by omega) (by omega) (by decide) (by omega) (Nat.le_of_ble_eq_true rfl) ?_
  refine g_mem (show _ = (sA (sA (sA (sA (sA (sA (sI (sI (sI (sI (sI (sI w b 0 (rI w b2 0)) b 3 (rI w b2 3)) b 5 (rI w b2 5)) b 8 (rI w b2 8)) b 11 (rI w b2 11)) b 12 (rI w b2 12)) (b + 1) (va_cpy (rI w (b2 + 1)) (rI w (b + 1)) 0 0 12)) (b + 2) (va_cpy (rI w (b2 + 2)) (rI w (b + 2)) 0 0 12)) (b + 3) (va_cpy (rI w (b2 + 3)) (rI w (b + 3)) 0 0 66)) (b + 4) (va_cpy (rI w (b2 + 4)) (rI w (b + 4)) 0 0 5)) (b + 5) (va_cpy (rI w (b2 + 5)) (rI w (b + 5)) 0 0 5)) (b + 6) (va_cpy (rI w (b2 + 6)) (rI w (b + 6)) 0 0 6)) by rw [show rI (sA (sA (sA (sA (sA (sI (sI (sI (sI (sI (sI w b 0 (rI w b2 0)) b 3 (rI w b2 3)) b 5 (rI w b2 5)) b 8 (rI w b2 8)) b 11 (rI w b2 11)) b 12 (rI w b2 12)) (b + 1) (va_cpy (rI w (b2 + 1)) (rI w (b + 1)) 0 0 12)) (b + 2) (va_cpy (rI w (b2 + 2)) (rI w (b + 2)) 0 0 12)) (b + 3) (va_cpy (rI w (b2 + 3)) (rI w (b + 3)) 0 0 66)) (b + 4) (va_cpy (rI w (b2 + 4)) (rI w (b + 4)) 0 0 5)) (b + 5) (va_cpy (rI w (b2 + 5)) (rI w (b + 5)) 0 0 5)) (b2 + 6) = rI w (b2 + 6) by rw [rI_sA_ne _ _ (show b2 + 6 ≠ b + 5 by omega), rI_sA_ne _ _ (show b2 + 6 ≠ b + 4 by omega), rI_sA_ne _ _ (show b2 + 6 ≠ b + 3 by omega), rI_sA_ne _ _ (show b2 + 6 ≠ b + 2 by omega), rI_sA_ne _ _ (show b2 + 6 ≠ b + 1 by omega), rI_sI_ne _ _ _ (show b2 + 6 ≠ b by omega), rI_sI_ne _ _ _ (show b2 + 6 ≠ b by omega), rI_sI_ne _ _ _ (show b2 + 6 ≠ b by omega), rI_sI_ne _ _ _ (show b2 + 6 ≠ b by omega), rI_sI_ne _ _ _ (show b2 + 6 ≠ b by omega), rI_sI_ne _ _ _ (show b2 + 6 ≠ b by omega)], show rI (sA (sA (sA (sA (sA (sI (sI (sI (sI (sI (sI w b 0 (rI w b2 0)) b 3 (rI w b2 3)) b 5 (rI w b2 5)) b 8 (rI w b2 8)) b 11 (rI w b2 11)) b 12 (rI w b2 12)) (b + 1) (va_cpy (rI w (b2 + 1)) (rI w (b + 1)) 0 0 12)) (b + 2) (va_cpy (rI w (b2 + 2)) (rI w (b + 2)) 0 0 12)) (b + 3) (va_cpy (rI w (b2 + 3)) (rI w (b + 3)) 0 0 66)) (b + 4) (va_cpy (rI w (b2 + 4)) (rI w (b + 4)) 0 0 5)) (b + 5) (va_cpy (rI w (b2 + 5)) (rI w (b + 5)) 0 0 5)) (b + 6) = rI w (b + 6) by rw [rI_sA_ne _ _ (show b + 6 ≠ b + 5 by omega), rI_sA_ne _ _ (show b + 6 ≠ b + 4 by omega), rI_sA_ne _ _ (show b + 6 ≠ b + 3 by omega), rI_sA_ne _ _ (show b + 6 ≠ b + 2 by omega), rI_sA_ne _ _ (show b + 6 ≠ b + 1 by omega), rI_sI_ne _ _ _ (show b + 6 ≠ b by omega), rI_sI_ne _ _ _ (show b + 6 ≠ b by omega), rI_sI_ne _ _ _ (show b + 6 ≠ b by omega), rI_sI_ne _ _ _ (show b + 6 ≠ b by omega), rI_sI_ne _ _ _ (show b + 6 ≠ b by omega), rI_sI_ne _ _ _ (show b + 6 ≠ b by omega)]]) ?_
  refine g_aload1 hX d_Bo_copyFrom_136 ?_
  refine g_getF hX d_Bo_copyFrom_137 fl_Bo_30 (lvBo_0 hb2 _) ?_
  refine g_iconst (v := nI 0) hX d_Bo_copyFrom_140 rfl ?_
  refine g_aload0 hX d_Bo_copyFrom_141 ?_
  refine g_getF hX d_Bo_copyFrom_142 fl_Bo_30 (lvBo_0 hb _) ?_
  refine g_iconst (v := nI 0) hX d_Bo_copyFrom_145 rfl ?_
  refine g_iconst (v := nI 3) hX d_Bo_copyFrom_146 rfl ?_
  refine g_acpI hX hF.1 d_Bo_copyFrom_147 ml_Bo_58 lk_acst lk_acna lk_acin (lvBo_7 hb2 _) (lvBo_7 hb _) (by omega) (by omega) (by decide) (by omega) (Nat.le_of_ble_eq_true rfl) ?_
  refine g_mem (show _ = (sA (sA (sA (sA (sA (sA (sA (sI (sI (sI (sI (sI (sI w b 0 (rI w b2 0)) b 3 (rI w b2 3)) b 5 (rI w b2 5)) b 8 (rI w b2 8)) b 11 (rI w b2 11)) b 12 (rI w b2 12)) (b + 1) (va_cpy (rI w (b2 + 1)) (rI w (b + 1)) 0 0 12)) (b + 2) (va_cpy (rI w (b2 + 2)) (rI w (b + 2)) 0 0 12)) (b + 3) (va_cpy (rI w (b2 + 3)) (rI w (b + 3)) 0 0 66)) (b + 4) (va_cpy (rI w (b2 + 4)) (rI w (b + 4)) 0 0 5)) (b + 5) (va_cpy (rI w (b2 + 5)) (rI w (b + 5)) 0 0 5)) (b + 6) (va_cpy (rI w (b2 + 6)) (rI w (b + 6)) 0 0 6)) (b + 7) (va_cpy (rI w (b2 + 7)) (rI w (b + 7)) 0 0 3)) by rw [show rI (sA (sA (sA (sA (sA (sA (sI (sI (sI (sI (sI (sI w b 0 (rI w b2 0)) b 3 (rI w b2 3)) b 5 (rI w b2 5)) b 8 (rI w b2 8)) b 11 (rI w b2 11)) b 12 (rI w b2 12)) (b + 1) (va_cpy (rI w (b2 + 1)) (rI w (b + 1)) 0 0 12)) (b + 2) (va_cpy (rI w (b2 + 2)) (rI w (b + 2)) 0 0 12)) (b + 3) (va_cpy (rI w (b2 + 3)) (rI w (b + 3)) 0 0 66)) (b + 4) (va_cpy (rI w (b2 + 4)) (rI w (b + 4)) 0 0 5)) (b + 5) (va_cpy (rI w (b2 + 5)) (rI w (b + 5)) 0 0 5)) (b + 6) (va_cpy (rI w (b2 + 6)) (rI w (b + 6)) 0 0 6)) (b2 + 7) = rI w (b2 + 7) by rw [rI_sA_ne _ _ (show b2 + 7 ≠ b + 6 by omega), rI_sA_ne _ _ (show b2 + 7 ≠ b + 5 by omega), rI_sA_ne _ _ (show b2 + 7 ≠ b + 4 by omega), rI_sA_ne _ _ (show b2 + 7 ≠ b + 3 by omega), rI_sA_ne _ _ (show b2 + 7 ≠ b + 2 by omega), rI_sA_ne _ _ (show b2 + 7 ≠ b + 1 by omega), rI_sI_ne _ _ _ (show b2 + 7 ≠ b by omega), rI_sI_ne _ _ _ (show b2 + 7 ≠ b by omega), rI_sI_ne _ _ _ (show b2 + 7 ≠ b by omega), rI_sI_ne _ _ _ (show b2 + 7 ≠ b by omega), rI_sI_ne _ _ _ (show b2 + 7 ≠ b by omega), rI_sI_ne _ _ _ (show b2 + 7 ≠ b by omega)], show rI (sA (sA (sA (sA (sA (sA (sI (sI (sI (sI (sI (sI w b 0 (rI w b2 0)) b 3 (rI w b2 3)) b 5 (rI w b2 5)) b 8 (rI w b2 8)) b 11 (rI w b2 11)) b 12 (rI w b2 12)) (b + 1) (va_cpy (rI w (b2 + 1)) (rI w (b + 1)) 0 0 12)) (b + 2) (va_cpy (rI w (b2 + 2)) (rI w (b + 2)) 0 0 12)) (b + 3) (va_cpy (rI w (b2 + 3)) (rI w (b + 3)) 0 0 66)) (b + 4) (va_cpy (rI w (b2 + 4)) (rI w (b + 4)) 0 0 5)) (b + 5) (va_cpy (rI w (b2 + 5)) (rI w (b + 5)) 0 0 5)) (b + 6) (va_cpy (rI w (b2 + 6)) (rI w (b + 6)) 0 0 6)) (b + 7) = rI w (b + 7) by rw [rI_sA_ne _ _ (show b + 7 ≠ b + 6 by omega), rI_sA_ne _ _ (show b + 7 ≠ b + 5 by omega), rI_sA_ne _ _ (show b + 7 ≠ b + 4 by omega), rI_sA_ne _ _ (show b + 7 ≠ b + 3 by omega), rI_sA_ne _ _ (show b + 7 ≠ b + 2 by omega), rI_sA_ne _ _ (show b + 7 ≠ b + 1 by omega), rI_sI_ne _ _ _ (show b + 7 ≠ b by omega), rI_sI_ne _ _ _ (show b + 7 ≠ b by omega), rI_sI_ne _ _ _ (show b + 7 ≠ b by omega), rI_sI_ne _ _ _ (show b + 7 ≠ b by omega), rI_sI_ne _ _ _ (show b + 7 ≠ b by omega), rI_sI_ne _ _ _ (show b + 7 ≠ b by omega)]]) ?_
  refine g_mem (show _ = CpI w b b2 from rfl) ?_
  refine g_iconst (v := nI 0) hX d_Bo_copyFrom_150 rfl ?_
  refine g_istore2 hX d_Bo_copyFrom_151 rfl (by decide) ?_
  refine g_mem (show CpI w b b2 = (sRw (CpI w b b2) (b + 8) (cpR (rR w (b2 + 8)) (rR w (b + 8)) 0)) by rw [cpR_0]; exact (sRw_self (CpI w b b2) (b + 8)).symm) ?_
  exact lp 7 0 (by omega) (by omega)
theorem CpI_fr (w : Mem) (b b2 : Nat) : FrBo b w (CpI w b b2) := (((((((((((((FrBo.rf b w).I (by omega)).I (by omega)).I (by omega)).I (by omega)).I (by omega)).I (by omega)).A (by omega)).A (by omega)).A (by omega)).A (by omega)).A (by omega)).A (by omega)).A (by omega)
theorem CpI_0 (w : Mem) (b b2 : Nat) : rI (CpI w b b2) b = upd (upd (upd (upd (upd (upd (rI w b) 0 (rI w b2 0)) 3 (rI w b2 3)) 5 (rI w b2 5)) 8 (rI w b2 8)) 11 (rI w b2 11)) 12 (rI w b2 12) := by
  unfold CpI
  rw [rI_sA_ne _ _ (by omega), rI_sA_ne _ _ (by omega), rI_sA_ne _ _ (by omega), rI_sA_ne _ _ (by omega), rI_sA_ne _ _ (by omega), rI_sA_ne _ _ (by omega), rI_sA_ne _ _ (by omega), rI_sI, rI_sI, rI_sI, rI_sI, rI_sI, rI_sI]
theorem BRow.copy {w : Mem} {b b2 : Nat} {g : GC} (h : BRow w b2 g) (hW : WG g) : BRow (CpB w b b2) b g := by
  have hn := hW.n
  have hv := hW.v
  have he := hW.el
  have hs := hW.sl
  have e0 : rI (CpB w b b2) b = rI (CpI w b b2) b := rfl
  unfold BRow
  rw [e0, CpI_0]
  refine ⟨h.n, h.el, h.v, h.sl, h.ll, h.fo, fun i hi => ?_, fun i hi => ?_, fun k hk => ?_, fun v hv2 => ?_, fun v hv2 => ?_, fun k q hq => ?_, fun i hi => ?_⟩
  · show rI (CpI w b b2) (b + 1) i = _
    unfold CpI
    rw [rI_sA_ne _ _ (by omega), rI_sA_ne _ _ (by omega), rI_sA_ne _ _ (by omega), rI_sA_ne _ _ (by omega), rI_sA_ne _ _ (by omega), rI_sA_ne _ _ (by omega), rI_sA, cpy_n (by omega)]
    exact h.c i hi
  · show rI (CpI w b b2) (b + 2) i = _
    unfold CpI
    rw [rI_sA_ne _ _ (by omega), rI_sA_ne _ _ (by omega), rI_sA_ne _ _ (by omega), rI_sA_ne _ _ (by omega), rI_sA_ne _ _ (by omega), rI_sA, cpy_n (by omega)]
    exact h.nr i hi
  · show rI (CpI w b b2) (b + 3) k = _
    unfold CpI
    rw [rI_sA_ne _ _ (by omega), rI_sA_ne _ _ (by omega), rI_sA_ne _ _ (by omega), rI_sA_ne _ _ (by omega), rI_sA, cpy_n (by omega)]
    exact h.e k hk
  · show rI (CpI w b b2) (b + 4) v = _
    unfold CpI
    rw [rI_sA_ne _ _ (by omega), rI_sA_ne _ _ (by omega), rI_sA_ne _ _ (by omega), rI_sA, cpy_n (by omega)]
    exact h.y v hv2
  · show rI (CpI w b b2) (b + 5) v = _
    unfold CpI
    rw [rI_sA_ne _ _ (by omega), rI_sA_ne _ _ (by omega), rI_sA, cpy_n (by omega)]
    exact h.k v hv2
  · have hk := (List.getElem?_eq_some_iff.mp hq).1
    show rI (CpI w b b2) (b + 6) k = _
    unfold CpI
    rw [rI_sA_ne _ _ (by omega), rI_sA, cpy_n (by omega)]
    exact h.sn k q hq
  · show rI (CpI w b b2) (b + 7) i = _
    unfold CpI
    rw [rI_sA, cpy_n hi]
    exact h.t i hi
theorem CpB_txt (w : Mem) (b b2 : Nat) {k : Nat} (hk : k < 6) : rR (CpB w b b2) (b + 8) k = rR w (b2 + 8) k := by
  unfold CpB
  rw [rR_sRw]
  unfold cpR
  rw [if_pos hk]
theorem CpB_o (w : Mem) (b b2 : Nat) {a : Nat} (h : a < b ∨ b + 7 < a) : rI (CpB w b b2) a = rI w a := (CpI_fr w b b2).1 a h
theorem CpB_r (w : Mem) (b b2 : Nat) {a : Nat} (h : a ≠ b + 8) : rR (CpB w b b2) a = rR w a := by
  unfold CpB
  rw [rR_sRw_ne _ _ h]
  rfl
