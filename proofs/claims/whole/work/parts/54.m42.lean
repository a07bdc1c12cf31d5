def m_M_stepsFewest : MR := (⟨"SubgraphDeskModel", "stepsFewest", "(I)I"⟩, prog_14_method_106_code, 6, (some .int))
theorem cf_M_stepsFewest : CF m_M_stepsFewest 1 := ⟨gd 2108 (by decide +kernel) rfl, gd 151 (by decide +kernel) rfl, by decide +kernel, by decide, by decide +kernel⟩
theorem cv_M_stepsFewest : CV m_M_stepsFewest := ⟨gd 2107 (by decide +kernel) rfl, gd 121 (by decide +kernel) rfl⟩
theorem d_M_stepsFewest_0 : Dc prog_14_method_106_code 0 (.aload_n 0) 1 1 := ⟨by decide +kernel, rfl⟩
theorem d_M_stepsFewest_1 : Dc prog_14_method_106_code 1 (.getfield 13) 3 4 := ⟨by decide +kernel, rfl⟩
theorem d_M_stepsFewest_4 : Dc prog_14_method_106_code 4 (.iconst 1) 1 5 := ⟨by decide +kernel, rfl⟩
theorem d_M_stepsFewest_5 : Dc prog_14_method_106_code 5 (.iaload) 1 6 := ⟨by decide +kernel, rfl⟩
theorem d_M_stepsFewest_6 : Dc prog_14_method_106_code 6 (.istore_n 2) 1 7 := ⟨by decide +kernel, rfl⟩
theorem d_M_stepsFewest_7 : Dc prog_14_method_106_code 7 (.aload_n 0) 1 8 := ⟨by decide +kernel, rfl⟩
theorem d_M_stepsFewest_8 : Dc prog_14_method_106_code 8 (.iconst 0) 1 9 := ⟨by decide +kernel, rfl⟩
theorem d_M_stepsFewest_9 : Dc prog_14_method_106_code 9 (.putfield 514) 3 12 := ⟨by decide +kernel, rfl⟩
theorem d_M_stepsFewest_12 : Dc prog_14_method_106_code 12 (.aload_n 0) 1 13 := ⟨by decide +kernel, rfl⟩
theorem d_M_stepsFewest_13 : Dc prog_14_method_106_code 13 (.iconst 0) 1 14 := ⟨by decide +kernel, rfl⟩
theorem d_M_stepsFewest_14 : Dc prog_14_method_106_code 14 (.putfield 520) 3 17 := ⟨by decide +kernel, rfl⟩
theorem d_M_stepsFewest_17 : Dc prog_14_method_106_code 17 (.iconst 0) 1 18 := ⟨by decide +kernel, rfl⟩
theorem d_M_stepsFewest_18 : Dc prog_14_method_106_code 18 (.istore_n 3) 1 19 := ⟨by decide +kernel, rfl⟩
theorem d_M_stepsFewest_19 : Dc prog_14_method_106_code 19 (.iconst 0) 1 20 := ⟨by decide +kernel, rfl⟩
theorem d_M_stepsFewest_20 : Dc prog_14_method_106_code 20 (.istore 4) 2 22 := ⟨by decide +kernel, rfl⟩
theorem d_M_stepsFewest_22 : Dc prog_14_method_106_code 22 (.iload_n 2) 1 23 := ⟨by decide +kernel, rfl⟩
theorem d_M_stepsFewest_23 : Dj prog_14_method_106_code 23 (.ifCond .le 25) 26 25 48 := ⟨by decide +kernel, rfl, rfl⟩
theorem d_M_stepsFewest_26 : Dc prog_14_method_106_code 26 (.aload_n 0) 1 27 := ⟨by decide +kernel, rfl⟩
theorem d_M_stepsFewest_27 : Dc prog_14_method_106_code 27 (.getfield 129) 3 30 := ⟨by decide +kernel, rfl⟩
theorem d_M_stepsFewest_30 : Dc prog_14_method_106_code 30 (.iconst 0) 1 31 := ⟨by decide +kernel, rfl⟩
theorem d_M_stepsFewest_31 : Dc prog_14_method_106_code 31 (.aload_n 0) 1 32 := ⟨by decide +kernel, rfl⟩
theorem d_M_stepsFewest_32 : Dc prog_14_method_106_code 32 (.invokevirtual 523) 3 35 := ⟨by decide +kernel, rfl⟩
theorem d_M_stepsFewest_35 : Dc prog_14_method_106_code 35 (.iastore) 1 36 := ⟨by decide +kernel, rfl⟩
theorem d_M_stepsFewest_36 : Dc prog_14_method_106_code 36 (.aload_n 0) 1 37 := ⟨by decide +kernel, rfl⟩
theorem d_M_stepsFewest_37 : Dc prog_14_method_106_code 37 (.getfield 111) 3 40 := ⟨by decide +kernel, rfl⟩
theorem d_M_stepsFewest_40 : Dc prog_14_method_106_code 40 (.aload_n 0) 1 41 := ⟨by decide +kernel, rfl⟩
theorem d_M_stepsFewest_41 : Dc prog_14_method_106_code 41 (.getfield 129) 3 44 := ⟨by decide +kernel, rfl⟩
theorem d_M_stepsFewest_44 : Dc prog_14_method_106_code 44 (.iconst 0) 1 45 := ⟨by decide +kernel, rfl⟩
theorem d_M_stepsFewest_45 : Dc prog_14_method_106_code 45 (.iaload) 1 46 := ⟨by decide +kernel, rfl⟩
theorem d_M_stepsFewest_46 : Dc prog_14_method_106_code 46 (.iconst (-1)) 1 47 := ⟨by decide +kernel, rfl⟩
theorem d_M_stepsFewest_47 : Dc prog_14_method_106_code 47 (.iastore) 1 48 := ⟨by decide +kernel, rfl⟩
theorem d_M_stepsFewest_48 : Dc prog_14_method_106_code 48 (.iload 4) 2 50 := ⟨by decide +kernel, rfl⟩
theorem d_M_stepsFewest_50 : Dj prog_14_method_106_code 50 (.ifCond .lt 182) 53 182 232 := ⟨by decide +kernel, rfl, rfl⟩
theorem d_M_stepsFewest_53 : Dc prog_14_method_106_code 53 (.iload_n 2) 1 54 := ⟨by decide +kernel, rfl⟩
theorem d_M_stepsFewest_54 : Dj prog_14_method_106_code 54 (.ifCond .le 178) 57 178 232 := ⟨by decide +kernel, rfl, rfl⟩
theorem d_M_stepsFewest_57 : Dc prog_14_method_106_code 57 (.iload_n 3) 1 58 := ⟨by decide +kernel, rfl⟩
theorem d_M_stepsFewest_58 : Dc prog_14_method_106_code 58 (.iload_n 1) 1 59 := ⟨by decide +kernel, rfl⟩
theorem d_M_stepsFewest_59 : Dj prog_14_method_106_code 59 (.if_icmp .ge 173) 62 173 232 := ⟨by decide +kernel, rfl, rfl⟩
theorem d_M_stepsFewest_62 : Dc prog_14_method_106_code 62 (.aload_n 0) 1 63 := ⟨by decide +kernel, rfl⟩
theorem d_M_stepsFewest_63 : Dc prog_14_method_106_code 63 (.getfield 129) 3 66 := ⟨by decide +kernel, rfl⟩
theorem d_M_stepsFewest_66 : Dc prog_14_method_106_code 66 (.iload 4) 2 68 := ⟨by decide +kernel, rfl⟩
theorem d_M_stepsFewest_68 : Dc prog_14_method_106_code 68 (.iaload) 1 69 := ⟨by decide +kernel, rfl⟩
theorem d_M_stepsFewest_69 : Dc prog_14_method_106_code 69 (.istore 5) 2 71 := ⟨by decide +kernel, rfl⟩
theorem d_M_stepsFewest_71 : Dc prog_14_method_106_code 71 (.aload_n 0) 1 72 := ⟨by decide +kernel, rfl⟩
theorem d_M_stepsFewest_72 : Dc prog_14_method_106_code 72 (.dup) 1 73 := ⟨by decide +kernel, rfl⟩
theorem d_M_stepsFewest_73 : Dc prog_14_method_106_code 73 (.getfield 514) 3 76 := ⟨by decide +kernel, rfl⟩
theorem d_M_stepsFewest_76 : Dc prog_14_method_106_code 76 (.iconst 1) 1 77 := ⟨by decide +kernel, rfl⟩
theorem d_M_stepsFewest_77 : Dc prog_14_method_106_code 77 (.iload 5) 2 79 := ⟨by decide +kernel, rfl⟩
theorem d_M_stepsFewest_79 : Dc prog_14_method_106_code 79 (.ishl) 1 80 := ⟨by decide +kernel, rfl⟩
theorem d_M_stepsFewest_80 : Dc prog_14_method_106_code 80 (.iconst (-1)) 1 81 := ⟨by decide +kernel, rfl⟩
theorem d_M_stepsFewest_81 : Dc prog_14_method_106_code 81 (.ixor) 1 82 := ⟨by decide +kernel, rfl⟩
theorem d_M_stepsFewest_82 : Dc prog_14_method_106_code 82 (.iand) 1 83 := ⟨by decide +kernel, rfl⟩
theorem d_M_stepsFewest_83 : Dc prog_14_method_106_code 83 (.putfield 514) 3 86 := ⟨by decide +kernel, rfl⟩
theorem d_M_stepsFewest_86 : Dc prog_14_method_106_code 86 (.aload_n 0) 1 87 := ⟨by decide +kernel, rfl⟩
theorem d_M_stepsFewest_87 : Dc prog_14_method_106_code 87 (.getfield 111) 3 90 := ⟨by decide +kernel, rfl⟩
theorem d_M_stepsFewest_90 : Dc prog_14_method_106_code 90 (.iload 5) 2 92 := ⟨by decide +kernel, rfl⟩
theorem d_M_stepsFewest_92 : Dc prog_14_method_106_code 92 (.dup2) 1 93 := ⟨by decide +kernel, rfl⟩
theorem d_M_stepsFewest_93 : Dc prog_14_method_106_code 93 (.iaload) 1 94 := ⟨by decide +kernel, rfl⟩
theorem d_M_stepsFewest_94 : Dc prog_14_method_106_code 94 (.iconst 1) 1 95 := ⟨by decide +kernel, rfl⟩
theorem d_M_stepsFewest_95 : Dc prog_14_method_106_code 95 (.iadd) 1 96 := ⟨by decide +kernel, rfl⟩
theorem d_M_stepsFewest_96 : Dc prog_14_method_106_code 96 (.iastore) 1 97 := ⟨by decide +kernel, rfl⟩
theorem d_M_stepsFewest_97 : Dc prog_14_method_106_code 97 (.aload_n 0) 1 98 := ⟨by decide +kernel, rfl⟩
theorem d_M_stepsFewest_98 : Dc prog_14_method_106_code 98 (.getfield 111) 3 101 := ⟨by decide +kernel, rfl⟩
theorem d_M_stepsFewest_101 : Dc prog_14_method_106_code 101 (.iload 5) 2 103 := ⟨by decide +kernel, rfl⟩
theorem d_M_stepsFewest_103 : Dc prog_14_method_106_code 103 (.iaload) 1 104 := ⟨by decide +kernel, rfl⟩
theorem d_M_stepsFewest_104 : Dc prog_14_method_106_code 104 (.aload_n 0) 1 105 := ⟨by decide +kernel, rfl⟩
theorem d_M_stepsFewest_105 : Dc prog_14_method_106_code 105 (.getfield 13) 3 108 := ⟨by decide +kernel, rfl⟩
theorem d_M_stepsFewest_108 : Dc prog_14_method_106_code 108 (.iconst 0) 1 109 := ⟨by decide +kernel, rfl⟩
theorem d_M_stepsFewest_109 : Dc prog_14_method_106_code 109 (.iaload) 1 110 := ⟨by decide +kernel, rfl⟩
theorem d_M_stepsFewest_110 : Dj prog_14_method_106_code 110 (.if_icmp .ge 33) 113 33 143 := ⟨by decide +kernel, rfl, rfl⟩
theorem d_M_stepsFewest_113 : Dc prog_14_method_106_code 113 (.aload_n 0) 1 114 := ⟨by decide +kernel, rfl⟩
theorem d_M_stepsFewest_114 : Dc prog_14_method_106_code 114 (.iload 5) 2 116 := ⟨by decide +kernel, rfl⟩
theorem d_M_stepsFewest_116 : Dc prog_14_method_106_code 116 (.aload_n 0) 1 117 := ⟨by decide +kernel, rfl⟩
theorem d_M_stepsFewest_117 : Dc prog_14_method_106_code 117 (.getfield 111) 3 120 := ⟨by decide +kernel, rfl⟩
theorem d_M_stepsFewest_120 : Dc prog_14_method_106_code 120 (.iload 5) 2 122 := ⟨by decide +kernel, rfl⟩
theorem d_M_stepsFewest_122 : Dc prog_14_method_106_code 122 (.iaload) 1 123 := ⟨by decide +kernel, rfl⟩
theorem d_M_stepsFewest_123 : Dc prog_14_method_106_code 123 (.invokevirtual 517) 3 126 := ⟨by decide +kernel, rfl⟩
theorem d_M_stepsFewest_126 : Dj prog_14_method_106_code 126 (.ifCond .ne 17) 129 17 143 := ⟨by decide +kernel, rfl, rfl⟩
theorem d_M_stepsFewest_129 : Dc prog_14_method_106_code 129 (.aload_n 0) 1 130 := ⟨by decide +kernel, rfl⟩
theorem d_M_stepsFewest_130 : Dc prog_14_method_106_code 130 (.getfield 111) 3 133 := ⟨by decide +kernel, rfl⟩
theorem d_M_stepsFewest_133 : Dc prog_14_method_106_code 133 (.iload 5) 2 135 := ⟨by decide +kernel, rfl⟩
theorem d_M_stepsFewest_135 : Dc prog_14_method_106_code 135 (.dup2) 1 136 := ⟨by decide +kernel, rfl⟩
theorem d_M_stepsFewest_136 : Dc prog_14_method_106_code 136 (.iaload) 1 137 := ⟨by decide +kernel, rfl⟩
theorem d_M_stepsFewest_137 : Dc prog_14_method_106_code 137 (.iconst 1) 1 138 := ⟨by decide +kernel, rfl⟩
theorem d_M_stepsFewest_138 : Dc prog_14_method_106_code 138 (.iadd) 1 139 := ⟨by decide +kernel, rfl⟩
theorem d_M_stepsFewest_139 : Dc prog_14_method_106_code 139 (.iastore) 1 140 := ⟨by decide +kernel, rfl⟩
theorem d_M_stepsFewest_140 : Dj prog_14_method_106_code 140 (.goto (-43)) 143 (-43) 97 := ⟨by decide +kernel, rfl, rfl⟩
theorem d_M_stepsFewest_143 : Dc prog_14_method_106_code 143 (.aload_n 0) 1 144 := ⟨by decide +kernel, rfl⟩
theorem d_M_stepsFewest_144 : Dc prog_14_method_106_code 144 (.getfield 111) 3 147 := ⟨by decide +kernel, rfl⟩
theorem d_M_stepsFewest_147 : Dc prog_14_method_106_code 147 (.iload 5) 2 149 := ⟨by decide +kernel, rfl⟩
theorem d_M_stepsFewest_149 : Dc prog_14_method_106_code 149 (.iaload) 1 150 := ⟨by decide +kernel, rfl⟩
theorem d_M_stepsFewest_150 : Dc prog_14_method_106_code 150 (.aload_n 0) 1 151 := ⟨by decide +kernel, rfl⟩
theorem d_M_stepsFewest_151 : Dc prog_14_method_106_code 151 (.getfield 13) 3 154 := ⟨by decide +kernel, rfl⟩
theorem d_M_stepsFewest_154 : Dc prog_14_method_106_code 154 (.iconst 0) 1 155 := ⟨by decide +kernel, rfl⟩
theorem d_M_stepsFewest_155 : Dc prog_14_method_106_code 155 (.iaload) 1 156 := ⟨by decide +kernel, rfl⟩
theorem d_M_stepsFewest_156 : Dj prog_14_method_106_code 156 (.if_icmp .ne 9) 159 9 165 := ⟨by decide +kernel, rfl, rfl⟩
theorem d_M_stepsFewest_159 : Dc prog_14_method_106_code 159 (.iinc 4 (-1)) 3 162 := ⟨by decide +kernel, rfl⟩
theorem d_M_stepsFewest_162 : Dj prog_14_method_106_code 162 (.goto 67) 165 67 229 := ⟨by decide +kernel, rfl, rfl⟩
theorem d_M_stepsFewest_165 : Dc prog_14_method_106_code 165 (.iinc 3 1) 3 168 := ⟨by decide +kernel, rfl⟩
theorem d_M_stepsFewest_168 : Dc prog_14_method_106_code 168 (.aload_n 0) 1 169 := ⟨by decide +kernel, rfl⟩
theorem d_M_stepsFewest_169 : Dc prog_14_method_106_code 169 (.dup) 1 170 := ⟨by decide +kernel, rfl⟩
theorem d_M_stepsFewest_170 : Dc prog_14_method_106_code 170 (.getfield 514) 3 173 := ⟨by decide +kernel, rfl⟩
theorem d_M_stepsFewest_173 : Dc prog_14_method_106_code 173 (.iconst 1) 1 174 := ⟨by decide +kernel, rfl⟩
theorem d_M_stepsFewest_174 : Dc prog_14_method_106_code 174 (.iload 5) 2 176 := ⟨by decide +kernel, rfl⟩
theorem d_M_stepsFewest_176 : Dc prog_14_method_106_code 176 (.ishl) 1 177 := ⟨by decide +kernel, rfl⟩
theorem d_M_stepsFewest_177 : Dc prog_14_method_106_code 177 (.ior) 1 178 := ⟨by decide +kernel, rfl⟩
theorem d_M_stepsFewest_178 : Dc prog_14_method_106_code 178 (.putfield 514) 3 181 := ⟨by decide +kernel, rfl⟩
theorem d_M_stepsFewest_181 : Dc prog_14_method_106_code 181 (.iload 4) 2 183 := ⟨by decide +kernel, rfl⟩
theorem d_M_stepsFewest_183 : Dc prog_14_method_106_code 183 (.iload_n 2) 1 184 := ⟨by decide +kernel, rfl⟩
theorem d_M_stepsFewest_184 : Dc prog_14_method_106_code 184 (.iconst 1) 1 185 := ⟨by decide +kernel, rfl⟩
theorem d_M_stepsFewest_185 : Dc prog_14_method_106_code 185 (.isub) 1 186 := ⟨by decide +kernel, rfl⟩
theorem d_M_stepsFewest_186 : Dj prog_14_method_106_code 186 (.if_icmp .ne 16) 189 16 202 := ⟨by decide +kernel, rfl, rfl⟩
theorem d_M_stepsFewest_189 : Dc prog_14_method_106_code 189 (.aload_n 0) 1 190 := ⟨by decide +kernel, rfl⟩
theorem d_M_stepsFewest_190 : Dc prog_14_method_106_code 190 (.dup) 1 191 := ⟨by decide +kernel, rfl⟩
theorem d_M_stepsFewest_191 : Dc prog_14_method_106_code 191 (.getfield 520) 3 194 := ⟨by decide +kernel, rfl⟩
theorem d_M_stepsFewest_194 : Dc prog_14_method_106_code 194 (.iconst 1) 1 195 := ⟨by decide +kernel, rfl⟩
theorem d_M_stepsFewest_195 : Dc prog_14_method_106_code 195 (.iadd) 1 196 := ⟨by decide +kernel, rfl⟩
theorem d_M_stepsFewest_196 : Dc prog_14_method_106_code 196 (.putfield 520) 3 199 := ⟨by decide +kernel, rfl⟩
theorem d_M_stepsFewest_199 : Dj prog_14_method_106_code 199 (.goto 30) 202 30 229 := ⟨by decide +kernel, rfl, rfl⟩
theorem d_M_stepsFewest_202 : Dc prog_14_method_106_code 202 (.iinc 4 1) 3 205 := ⟨by decide +kernel, rfl⟩
theorem d_M_stepsFewest_205 : Dc prog_14_method_106_code 205 (.aload_n 0) 1 206 := ⟨by decide +kernel, rfl⟩
theorem d_M_stepsFewest_206 : Dc prog_14_method_106_code 206 (.getfield 129) 3 209 := ⟨by decide +kernel, rfl⟩
theorem d_M_stepsFewest_209 : Dc prog_14_method_106_code 209 (.iload 4) 2 211 := ⟨by decide +kernel, rfl⟩
theorem d_M_stepsFewest_211 : Dc prog_14_method_106_code 211 (.aload_n 0) 1 212 := ⟨by decide +kernel, rfl⟩
theorem d_M_stepsFewest_212 : Dc prog_14_method_106_code 212 (.invokevirtual 523) 3 215 := ⟨by decide +kernel, rfl⟩
theorem d_M_stepsFewest_215 : Dc prog_14_method_106_code 215 (.iastore) 1 216 := ⟨by decide +kernel, rfl⟩
theorem d_M_stepsFewest_216 : Dc prog_14_method_106_code 216 (.aload_n 0) 1 217 := ⟨by decide +kernel, rfl⟩
theorem d_M_stepsFewest_217 : Dc prog_14_method_106_code 217 (.getfield 111) 3 220 := ⟨by decide +kernel, rfl⟩
theorem d_M_stepsFewest_220 : Dc prog_14_method_106_code 220 (.aload_n 0) 1 221 := ⟨by decide +kernel, rfl⟩
theorem d_M_stepsFewest_221 : Dc prog_14_method_106_code 221 (.getfield 129) 3 224 := ⟨by decide +kernel, rfl⟩
theorem d_M_stepsFewest_224 : Dc prog_14_method_106_code 224 (.iload 4) 2 226 := ⟨by decide +kernel, rfl⟩
theorem d_M_stepsFewest_226 : Dc prog_14_method_106_code 226 (.iaload) 1 227 := ⟨by decide +kernel, rfl⟩
theorem d_M_stepsFewest_227 : Dc prog_14_method_106_code 227 (.iconst (-1)) 1 228 := ⟨by decide +kernel, rfl⟩
theorem d_M_stepsFewest_228 : Dc prog_14_method_106_code 228 (.iastore) 1 229 := ⟨by decide +kernel, rfl⟩
theorem d_M_stepsFewest_229 : Dj prog_14_method_106_code 229 (.goto (-181)) 232 (-181) 48 := ⟨by decide +kernel, rfl, rfl⟩
theorem d_M_stepsFewest_232 : Dc prog_14_method_106_code 232 (.iload_n 3) 1 233 := ⟨by decide +kernel, rfl⟩
theorem d_M_stepsFewest_233 : Dc prog_14_method_106_code 233 (.ireturn) 1 234 := ⟨by decide +kernel, rfl⟩
theorem fl_M_129 : FL "SubgraphDeskModel" 129 12 52 true (.array .int) (3, 30) := ⟨R_M, F_M, 69, ty_M, rfl, rfl, in_M, tyok_M, nm_M, by decide, gd 1524 (by decide +kernel) rfl, rfl, rfl, rfl⟩
theorem fl_M_520 : FL "SubgraphDeskModel" 520 12 54 false .int (0, 0) := ⟨R_M, F_M, 69, ty_M, rfl, rfl, in_M, tyok_M, nm_M, by decide, gd 1526 (by decide +kernel) rfl, rfl, rfl, rfl⟩
theorem ml_M_523 : Cond.methodLink "SubgraphDeskModel" 523 m_M_fewestThen.1 ∈ lw_gd := gd 2109 (by decide +kernel) rfl
def upP (p : Nat → Option Nat) (v n : Nat) : Nat → Option Nat := fun u => if u = v then some n else p u
/-- the third search behind p, r vertices more: how many steps, how many ways laid -/
def huntG (g : GC) (cd : Nat → Nat) (most : Nat) : Nat → (Nat → Option Nat) → Nat × Nat → Nat × Nat
  | 0, _, st => (st.1, st.2 + 1)
  | r + 1, p, st => (List.range (gN g)).foldl (fun st n => if st.1 < most ∧ openH g cd p ((pickK g cd p (gV g)).1.getD 0) n = true then huntG g cd most r (upP p ((pickK g cd p (gV g)).1.getD 0) n) (st.1 + 1, st.2) else st) st
def remH (g : GC) (cd : Nat → Nat) (most r : Nat) (p : Nat → Option Nat) (v k : Nat) (st : Nat × Nat) : Nat × Nat := ((List.range (gN g)).drop k).foldl (fun st n => if st.1 < most ∧ openH g cd p v n = true then huntG g cd most r (upP p v n) (st.1 + 1, st.2) else st) st
section
variable {g : GC} {cd : Nat → Nat} {most r : Nat} {p : Nat → Option Nat} {v k : Nat} {st : Nat × Nat}
theorem remH_0 {u : Nat} (h : (pickK g cd p (gV g)).1 = some u) : huntG g cd most (r + 1) p st = remH g cd most r p u 0 st := by
  unfold huntG remH
  rw [h]
  rfl
theorem remH_N (h : gN g ≤ k) : remH g cd most r p v k st = st := by
  unfold remH
  rw [List.drop_of_length_le (by rw [List.length_range]; exact h)]
  rfl
theorem remH_s (h : k < gN g) : remH g cd most r p v k st = remH g cd most r p v (k + 1) (if st.1 < most ∧ openH g cd p v k = true then huntG g cd most r (upP p v k) (st.1 + 1, st.2) else st) := by
  unfold remH
  have e : (List.range (gN g)).drop k = k :: (List.range (gN g)).drop (k + 1) := by
    rw [List.drop_eq_getElem_cons (by rw [List.length_range]; exact h), List.getElem_range]
  rw [e, List.foldl_cons]
theorem remH_no (h : k < gN g) (h2 : ¬ openH g cd p v k = true) : remH g cd most r p v k st = remH g cd most r p v (k + 1) st := by
  rw [remH_s h, if_neg (fun z => h2 z.2)]
theorem remH_yes (h : k < gN g) (h1 : st.1 < most) (h2 : openH g cd p v k = true) : remH g cd most r p v k st = remH g cd most r p v (k + 1) (huntG g cd most r (upP p v k) (st.1 + 1, st.2)) := by
  rw [remH_s h, if_pos ⟨h1, h2⟩]
theorem remH_stop (h : most ≤ st.1) : remH g cd most r p v k st = st := by
  unfold remH
  generalize (List.range (gN g)).drop k = l
  induction l with
  | nil => rfl
  | cons a t ih =>
    rw [List.foldl_cons, if_neg (fun z => by have := z.1; omega)]
    exact ih
theorem huntG_stop (h : most ≤ st.1) : huntG g cd most (r + 1) p st = st := by
  unfold huntG
  generalize (List.range (gN g)) = l
  induction l with
  | nil => rfl
  | cons a t ih =>
    rw [List.foldl_cons, if_neg (fun z => by have := z.1; omega)]
    exact ih
end
theorem huntG_le {g : GC} {cd : Nat → Nat} {most : Nat} : ∀ (r : Nat) (p : Nat → Option Nat) (st : Nat × Nat), st.1 ≤ most → (huntG g cd most r p st).1 ≤ most
  | 0, _, st, h => h
  | r + 1, p, st, h => by
    unfold huntG
    generalize (List.range (gN g)) = l
    induction l generalizing st with
    | nil => exact h
    | cons a t ih =>
      rw [List.foldl_cons]
      refine ih _ ?_
      split
      · rename_i h2
        exact huntG_le r _ _ h2.1
      · exact h
def DeepP (w : Mem) (vs : List Nat) : Prop := ∀ k, k < vs.length → rI w 119 k = nI (gA vs k)
def FrH (w w2 : Mem) : Prop := (∀ a, a ≠ 89 → a ≠ 113 → a ≠ 119 → rI w2 a = rI w a) ∧ (∀ k, k ≠ 53 → k ≠ 54 → rI w2 89 k = rI w 89 k) ∧ w2.2 = w.2
theorem FrH.rf (w : Mem) : FrH w w := ⟨fun _ _ _ _ => rfl, fun _ _ _ => rfl, rfl⟩
theorem FrH.D {w w2 : Mem} {k : Nat} {x : Int32} (hk : k = 53 ∨ k = 54) (h : FrH w w2) : FrH w (sI w2 89 k x) := ⟨fun a h1 h2 h3 => by rw [rI_sI_ne _ _ _ h1]; exact h.1 a h1 h2 h3, fun j h1 h2 => by rw [rI_sI, upd_eq, if_neg (by omega)]; exact h.2.1 j h1 h2, h.2.2⟩
theorem FrH.L {w w2 : Mem} {o k : Nat} {x : Int32} (ho : o = 113 ∨ o = 119) (h : FrH w w2) : FrH w (sI w2 o k x) := ⟨fun a h1 h2 h3 => by rw [rI_sI_ne _ _ _ (by omega)]; exact h.1 a h1 h2 h3, fun j h1 h2 => by rw [rI_sI_ne _ _ _ (by omega)]; exact h.2.1 j h1 h2, h.2.2⟩
theorem FrH.S {w w2 : Mem} (h : FrH w w2) : Scr w w2 := ⟨⟨fun a ha => h.1 a (by omega) (by omega) (by omega), fun a ha => by unfold rJ; rw [h.2.2], by rw [h.2.2]⟩, fun a ha => h.1 a (by rintro rfl; exact absurd ha (by decide)) (by rintro rfl; exact absurd ha (by decide)) (by rintro rfl; exact absurd ha (by decide)), fun k hk => h.2.1 k (by rintro rfl; exact absurd hk (by decide)) (by rintro rfl; exact absurd hk (by decide))⟩
theorem DeepP.o {w w2 : Mem} {vs : List Nat} (h : DeepP w vs) (e : rI w2 119 = rI w 119) : DeepP w2 vs := fun k hk => by rw [e]; exact h k hk
theorem DeepP.snoc {w : Mem} {vs : List Nat} {v : Nat} (h : DeepP w vs) (h2 : rI w 119 vs.length = nI v) : DeepP w (vs ++ [v]) := fun k hk => by
  rw [List.length_append, List.length_singleton] at hk
  by_cases e : k = vs.length
  · rw [e, gA_snoc]; exact h2
  · rw [gA_snoc_l (by omega)]; exact h k (by omega)
theorem DeepP.put {w : Mem} {vs : List Nat} {x : Int32} (h : DeepP w vs) : DeepP (sI w 119 vs.length x) vs := fun k hk => by
  rw [rI_sI, upd_eq, if_neg (by omega)]
  exact h k hk
theorem DeepP.init {w : Mem} {vs : List Nat} {v : Nat} (h : DeepP w (vs ++ [v])) : DeepP w vs ∧ rI w 119 vs.length = nI v := by
  refine ⟨fun k hk => ?_, ?_⟩
  · have := h k (by rw [List.length_append, List.length_singleton]; omega)
    rw [gA_snoc_l hk] at this
    exact this
  · have := h vs.length (by rw [List.length_append, List.length_singleton]; omega)
    rw [gA_snoc] at this
    exact this
theorem HunP.lie {w : Mem} {g : GC} {p : Nat → Option Nat} {x v : Nat} {y : Int32} (h : HunP w g p x) (hv : p v = none) : HunP (sI w 113 v y) g p x := by
  refine ⟨by rw [rI_sI_ne _ _ _ (by decide)]; exact h.1, h.2.1, h.2.2.1, fun u m hu hm => ?_⟩
  rw [rI_sI, upd_eq, if_neg (by rintro rfl; rw [hv] at hm; cases hm)]
  exact h.2.2.2 u m hu hm
theorem HunP.o {w : Mem} {g : GC} {p : Nat → Option Nat} {x o k : Nat} {y : Int32} (h : HunP w g p x) (h1 : o ≠ 89) (h2 : o ≠ 113) : HunP (sI w o k y) g p x := by
  refine ⟨by rw [rI_sI_ne _ _ _ (Ne.symm h1)]; exact h.1, h.2.1, h.2.2.1, fun u m hu hm => ?_⟩
  rw [rI_sI_ne _ _ _ (Ne.symm h2)]
  exact h.2.2.2 u m hu hm
theorem HunP.W {w : Mem} {g : GC} {p : Nat → Option Nat} {x : Nat} {y : Int32} (h : HunP w g p x) : HunP (sI w 89 54 y) g p x := by
  refine ⟨by rw [rI_sI, upd_eq, if_neg (by decide)]; exact h.1, h.2.1, h.2.2.1, fun u m hu hm => ?_⟩
  rw [rI_sI_ne _ _ _ (by decide)]
  exact h.2.2.2 u m hu hm
theorem HunP.up {w : Mem} {g : GC} {p : Nat → Option Nat} {x v n : Nat} (h : HunP w g p x) (hv : v < gV g) (hV : gV g ≤ 5) (hpv : p v = none) (hl : rI w 113 v = nI n) (hn : n < gN g) : HunP (sI w 89 53 (nI (x ||| 1 <<< v))) g (upP p v n) (x ||| 1 <<< v) := by
  refine ⟨by rw [rI_sI, upd_eq, if_pos rfl], or_lt h.2.1 (shl_lt (by omega)), fun u hu => ?_, fun u m hu hm => ?_⟩
  · rw [Nat.testBit_or, tb_one, Bool.or_eq_true, decide_eq_true_iff, h.2.2.1 u hu]
    unfold upP
    by_cases e : u = v
    · rw [if_pos e]; simp [e]
    · rw [if_neg e]
      constructor
      · rintro (z | z)
        · exact z
        · exact absurd z.symm e
      · exact Or.inl
  · rw [rI_sI_ne _ _ _ (by decide)]
    unfold upP at hm
    by_cases e : u = v
    · rw [if_pos e] at hm
      injection hm with hm
      rw [e, ← hm]
      exact ⟨hl, hn⟩
    · rw [if_neg e] at hm
      exact h.2.2.2 u m hu hm
theorem HunP.down {w : Mem} {g : GC} {p : Nat → Option Nat} {x v n : Nat} (h : HunP w g (upP p v n) x) (hpv : p v = none) : HunP (sI w 89 53 (nI (sd x (1 <<< v)))) g p (sd x (1 <<< v)) := by
  refine ⟨by rw [rI_sI, upd_eq, if_pos rfl], Nat.lt_of_le_of_lt (sd_le _ _) h.2.1, fun u hu => ?_, fun u m hu hm => ?_⟩
  · rw [sd_tb, tb_one, Bool.and_eq_true, h.2.2.1 u hu]
    unfold upP
    by_cases e : u = v
    · rw [e]; simp [hpv]
    · rw [if_neg e]
      simp [Ne.symm e]
  · rw [rI_sI_ne _ _ _ (by decide)]
    refine h.2.2.2 u m hu ?_
    unfold upP
    rw [if_neg (by rintro rfl; rw [hpv] at hm; cases hm)]
    exact hm
theorem HunP.same {w : Mem} {g : GC} {p : Nat → Option Nat} {x v : Nat} (h : HunP w g p x) (hpv : p v = none) : HunP (sI w 89 53 (nI (sd x (1 <<< v)))) g p (sd x (1 <<< v)) := by
  refine ⟨by rw [rI_sI, upd_eq, if_pos rfl], Nat.lt_of_le_of_lt (sd_le _ _) h.2.1, fun u hu => ?_, fun u m hu hm => ?_⟩
  · rw [sd_tb, tb_one, Bool.and_eq_true, h.2.2.1 u hu]
    by_cases e : u = v
    · rw [e]; simp [hpv]
    · simp [Ne.symm e]
  · rw [rI_sI_ne _ _ _ (by decide)]
    exact h.2.2.2 u m hu hm
theorem free_v {g : GC} {vs : List Nat} (h : vs.length < gV g) : ∃ u, u < gV g ∧ u ∉ vs := by
  by_cases e : ∃ u, u < gV g ∧ u ∉ vs
  · exact e
  · have := OrdW.all (g := g) (o := vs) (fun x hx => by
      by_cases z : x ∈ vs
      · exact z
      · exact absurd ⟨x, hx, z⟩ e)
    omega
theorem upP_in {p : Nat → Option Nat} {v n : Nat} {vs : List Nat} (h : ∀ u, p u ≠ none → u ∈ vs) : ∀ u, upP p v n u ≠ none → u ∈ vs ++ [v] := fun u hu => by
  unfold upP at hu
  rw [List.mem_append, List.mem_singleton]
  by_cases e : u = v
  · exact Or.inr e
  · rw [if_neg e] at hu
    exact Or.inl (h u hu)
def StH (w wk : Mem) (g : GC) (vs : List Nat) (v : Nat) (p : Nat → Option Nat) (k x : Nat) (st : Nat × Nat) : Prop := FrH w wk ∧ DeepP wk vs ∧ rI wk 119 vs.length = nI v ∧ HunP wk g p x ∧ rI wk 113 v = nI k ∧ rI wk 89 54 = nI st.2
theorem c_M_stepsFewest {E : EV} {w : Mem} {g : GC} {cd : Nat → Nat} {most : Nat} (hR : MRow (rI w 91) g) (hW : WG g) (hNr : NearP w g) (hC : CandP w g cd) (hcd : ∀ v, v < gV g → cd v < 2 ^ 12) (hmost : most ≤ 100000000) : T E m_M_stepsFewest 4 0 0 [.ref 89, .int (nI most)] w (fun r w2 => r = some (.int (nI (if gV g = 0 then 0 else (huntG g cd most (gV g) (fun _ => none) (0, 0)).1))) ∧ FrH w w2 ∧ (0 < gV g → rI w2 89 54 = nI (huntG g cd most (gV g) (fun _ => none) (0, 0)).2)) := by
  refine T_of (L := [.ref 89, .int (nI most), un, un, un, un]) cf_M_stepsFewest rfl (Nat.le_of_ble_eq_true rfl) (fun X hX hF => ?_)
  have hgv := hW.v
  have hgn := hW.n
  have hhl := huntG_le (g := g) (cd := cd) (most := most) (gV g) (fun _ => none) (0, 0) (Nat.zero_le _)
  have go48 : ∀ (d v c m x : Nat) (wk : Mem), d < gV g → v < gV g → m < most → rI wk 119 d = nI v → rI wk 89 53 = nI x → x < 2 ^ 5 → rI wk 113 v = nI c - nI 1 → G0 E X 0 0 97 [.ref 89, .int (nI most), .int (nI (gV g)), .int (nI (m)), .int (nI d), .int (nI v)] [] (sI (sI wk 89 53 (nI (sd x (1 <<< v)))) 113 v (nI c)) → G0 E X 0 0 48 [.ref 89, .int (nI most), .int (nI (gV g)), .int (nI (m)), .int (nI d), un] [] wk := by
    intro d v c m x wk hd hv hm h1 h2 hx h4 hk
    refine g_iload4 hX d_M_stepsFewest_48 ?_
    refine g_if_lt hX d_M_stepsFewest_50 (fun h => absurd h (nI_pos (by omega))) (fun c0 => ?_)
    refine g_iload2 hX d_M_stepsFewest_53 ?_
    refine g_if_le hX d_M_stepsFewest_54 (fun h => absurd h (nI_nle0 (by omega) (by omega))) (fun c1 => ?_)
    refine g_iload3 hX d_M_stepsFewest_57 ?_
    refine g_iload1 hX d_M_stepsFewest_58 ?_
    refine g_icmpN_ge hX d_M_stepsFewest_59 (by omega) (by omega) (fun h => absurd h (by omega)) (fun c2 => ?_)
    refine g_aload0 hX d_M_stepsFewest_62 ?_
    refine g_getF hX d_M_stepsFewest_63 fl_M_129 (lv_89 _) ?_
    refine g_iload4 hX d_M_stepsFewest_66 ?_
    refine g_iald hX d_M_stepsFewest_68 (lv_119 _) rfl (by omega) ?_
    refine g_topi h1 ?_
    refine g_istore5 hX d_M_stepsFewest_69 rfl (by decide) ?_
    refine g_aload0 hX d_M_stepsFewest_71 ?_
    refine g_dup hX d_M_stepsFewest_72 rfl ?_
    refine g_getI hX d_M_stepsFewest_73 fl_M_514 (lv_89 _) ?_
    refine g_topi h2 ?_
    refine g_iconst (v := nI 1) hX d_M_stepsFewest_76 rfl ?_
    refine g_iload5 hX d_M_stepsFewest_77 ?_
    refine g_ishlN hX d_M_stepsFewest_79 (by omega) ?_
    refine g_iconst (v := -1) hX d_M_stepsFewest_80 rfl ?_
    refine g_ixor hX d_M_stepsFewest_81 ?_
    refine g_iandX hX d_M_stepsFewest_82 ?_
    refine g_putI hX d_M_stepsFewest_83 fl_M_514 (lv_89 _) ?_
    refine g_aload0 hX d_M_stepsFewest_86 ?_
    refine g_getF hX d_M_stepsFewest_87 fl_M_111 (lv_89 _) ?_
    refine g_iload5 hX d_M_stepsFewest_90 ?_
    refine g_dup2 hX d_M_stepsFewest_92 rfl rfl ?_
    refine g_iald hX d_M_stepsFewest_93 (lv_113 _) rfl (by omega) ?_
    refine g_topi (show rI (sI wk 89 53 (nI (sd x (1 <<< v)))) 113 v = nI c - nI 1 from h4) ?_
    refine g_iconst (v := nI 1) hX d_M_stepsFewest_94 rfl ?_
    refine g_iadd hX d_M_stepsFewest_95 ?_
    refine g_topi (nI_sa c) ?_
    refine g_iast hX d_M_stepsFewest_96 (lv_113 _) rfl (by omega) ?_
    exact hk
  have lev : ∀ (r : Nat) (d : Nat) (vs : List Nat) (v : Nat) (p : Nat → Option Nat) (k : Nat) (st : Nat × Nat) (x : Nat) (wk : Mem), k + d = gN g → vs.length + r + 1 = gV g → v < gV g → p v = none → (∀ u, p u ≠ none → u ∈ vs) → st.1 < most → StH w wk g vs v p k x st →
      (∀ (w2 : Mem) (x2 : Nat), FrH w w2 → DeepP w2 vs → HunP w2 g p x2 → rI w2 89 54 = nI (remH g cd most r p v k st).2 → (remH g cd most r p v k st).1 < most → G0 E X 0 0 48 [.ref 89, .int (nI most), .int (nI (gV g)), .int (nI ((remH g cd most r p v k st).1)), .int (nI vs.length - nI 1), un] [] w2) →
      (∀ (w2 : Mem) (d2 : Nat), d2 ≤ 5 → FrH w w2 → rI w2 89 54 = nI (remH g cd most r p v k st).2 → most ≤ (remH g cd most r p v k st).1 → G0 E X 0 0 48 [.ref 89, .int (nI most), .int (nI (gV g)), .int (nI ((remH g cd most r p v k st).1)), .int (nI d2), un] [] w2) → G0 E X 0 0 97 [.ref 89, .int (nI most), .int (nI (gV g)), .int (nI (st.1)), .int (nI vs.length), .int (nI v)] [] wk := by
    intro r
    induction r with
    | zero =>
      intro d
      induction d with
      | zero =>
        intro vs v p k st x wk hcd2 hr hv hpv hvs hst hs hb he
        obtain ⟨h1, h2, h3, hH, h4, h5⟩ := hs
        have hdl : vs.length < gV g := by omega
        have hRk : MRow (rI wk 91) g := by rw [h1.1 91 (by decide) (by decide) (by decide)]; exact hR
        have hCk : CandP wk g cd := fun u hu => by rw [h1.1 117 (by decide) (by decide) (by decide)]; exact hC u hu
        have hNk : NearP wk g := fun u hu => by rw [h1.1 110 (by decide) (by decide) (by decide)]; exact hNr u hu
        have hxl := hH.2.1
        refine g_aload0 hX d_M_stepsFewest_97 ?_
        refine g_getF hX d_M_stepsFewest_98 fl_M_111 (lv_89 _) ?_
        refine g_iload5 hX d_M_stepsFewest_101 ?_
        refine g_iald hX d_M_stepsFewest_103 (lv_113 _) rfl (by omega) ?_
        refine g_topi h4 ?_
        refine g_aload0 hX d_M_stepsFewest_104 ?_
        refine g_getF hX d_M_stepsFewest_105 fl_M_13 (lv_89 _) ?_
        refine g_iconst (v := nI 0) hX d_M_stepsFewest_108 rfl ?_
        refine g_iald hX d_M_stepsFewest_109 (lv_91 _) rfl (by decide) ?_
        refine g_topi hRk.n ?_
        refine g_icmpN_ge hX d_M_stepsFewest_110 (by omega) (by omega) (fun c0 => ?_) (fun h => absurd h (by omega))
        refine g_aload0 hX d_M_stepsFewest_143 ?_
        refine g_getF hX d_M_stepsFewest_144 fl_M_111 (lv_89 _) ?_
        refine g_iload5 hX d_M_stepsFewest_147 ?_
        refine g_iald hX d_M_stepsFewest_149 (lv_113 _) rfl (by omega) ?_
        refine g_topi h4 ?_
        refine g_aload0 hX d_M_stepsFewest_150 ?_
        refine g_getF hX d_M_stepsFewest_151 fl_M_13 (lv_89 _) ?_
        refine g_iconst (v := nI 0) hX d_M_stepsFewest_154 rfl ?_
        refine g_iald hX d_M_stepsFewest_155 (lv_91 _) rfl (by decide) ?_
        refine g_topi hRk.n ?_
        refine g_icmpN_ne hX d_M_stepsFewest_156 (by omega) (by omega) (fun h => absurd (by omega) h) (fun c1 => ?_)
        refine g_iinc4 hX d_M_stepsFewest_159 (m1_add _) rfl (by decide) ?_
        refine g_goto hX d_M_stepsFewest_162 ?_
        refine g_goto hX d_M_stepsFewest_229 ?_
        refine g_fget 5 ?_
        rw [remH_N (by omega)] at hb
        exact hb wk x h1 h2 hH h5 hst
      | succ d ihd =>
        intro vs v p k st x wk hcd2 hr hv hpv hvs hst hs hb he
        have ihc := ihd vs v p
        obtain ⟨h1, h2, h3, hH, h4, h5⟩ := hs
        have hdl : vs.length < gV g := by omega
        have hRk : MRow (rI wk 91) g := by rw [h1.1 91 (by decide) (by decide) (by decide)]; exact hR
        have hCk : CandP wk g cd := fun u hu => by rw [h1.1 117 (by decide) (by decide) (by decide)]; exact hC u hu
        have hNk : NearP wk g := fun u hu => by rw [h1.1 110 (by decide) (by decide) (by decide)]; exact hNr u hu
        have hxl := hH.2.1
        refine g_aload0 hX d_M_stepsFewest_97 ?_
        refine g_getF hX d_M_stepsFewest_98 fl_M_111 (lv_89 _) ?_
        refine g_iload5 hX d_M_stepsFewest_101 ?_
        refine g_iald hX d_M_stepsFewest_103 (lv_113 _) rfl (by omega) ?_
        refine g_topi h4 ?_
        refine g_aload0 hX d_M_stepsFewest_104 ?_
        refine g_getF hX d_M_stepsFewest_105 fl_M_13 (lv_89 _) ?_
        refine g_iconst (v := nI 0) hX d_M_stepsFewest_108 rfl ?_
        refine g_iald hX d_M_stepsFewest_109 (lv_91 _) rfl (by decide) ?_
        refine g_topi hRk.n ?_
        refine g_icmpN_ge hX d_M_stepsFewest_110 (by omega) (by omega) (fun h => absurd h (by omega)) (fun c0 => ?_)
        refine g_aload0 hX d_M_stepsFewest_113 ?_
        refine g_iload5 hX d_M_stepsFewest_114 ?_
        refine g_aload0 hX d_M_stepsFewest_116 ?_
        refine g_getF hX d_M_stepsFewest_117 fl_M_111 (lv_89 _) ?_
        refine g_iload5 hX d_M_stepsFewest_120 ?_
        refine g_iald hX d_M_stepsFewest_122 (lv_113 _) rfl (by omega) ?_
        refine g_topi h4 ?_
        refine g_callV (As := [_, _]) hX hF.1 d_M_stepsFewest_123 ml_M_517 cf_M_fitsThose cv_M_fitsThose rfl rfl (c_M_fitsThose (w := wk) (g := g) (p := p) hRk hW hNk hCk hcd hH hv (by omega)) (rcv_obj hX (lv_89 _) rfl rfl) (by omega) (by omega) (by omega) (Nat.le_of_ble_eq_true rfl) ?_
        refine ret_k ?_
        refine g_ifB_ne hX d_M_stepsFewest_126 (fun e126 => ?_) (fun e126 => ?_)
        · rw [remH_yes (by omega) hst e126] at hb he
          have hU := hH.up hv hgv hpv h4 (by omega)
          refine g_aload0 hX d_M_stepsFewest_143 ?_
          refine g_getF hX d_M_stepsFewest_144 fl_M_111 (lv_89 _) ?_
          refine g_iload5 hX d_M_stepsFewest_147 ?_
          refine g_iald hX d_M_stepsFewest_149 (lv_113 _) rfl (by omega) ?_
          refine g_topi h4 ?_
          refine g_aload0 hX d_M_stepsFewest_150 ?_
          refine g_getF hX d_M_stepsFewest_151 fl_M_13 (lv_89 _) ?_
          refine g_iconst (v := nI 0) hX d_M_stepsFewest_154 rfl ?_
          refine g_iald hX d_M_stepsFewest_155 (lv_91 _) rfl (by decide) ?_
          refine g_topi hRk.n ?_
          refine g_icmpN_ne hX d_M_stepsFewest_156 (by omega) (by omega) (fun c2 => ?_) (fun h => absurd h (by omega))
          refine g_iincN3 hX d_M_stepsFewest_165 rfl (by decide) ?_
          refine g_aload0 hX d_M_stepsFewest_168 ?_
          refine g_dup hX d_M_stepsFewest_169 rfl ?_
          refine g_getI hX d_M_stepsFewest_170 fl_M_514 (lv_89 _) ?_
          refine g_topi hH.1 ?_
          refine g_iconst (v := nI 1) hX d_M_stepsFewest_173 rfl ?_
          refine g_iload5 hX d_M_stepsFewest_174 ?_
          refine g_ishlN hX d_M_stepsFewest_176 (by omega) ?_
          refine g_iorN hX d_M_stepsFewest_177 ?_
          refine g_putI hX d_M_stepsFewest_178 fl_M_514 (lv_89 _) ?_
          refine g_iload4 hX d_M_stepsFewest_181 ?_
          refine g_iload2 hX d_M_stepsFewest_183 ?_
          refine g_iconst (v := nI 1) hX d_M_stepsFewest_184 rfl ?_
          refine g_isubN hX d_M_stepsFewest_185 (by omega) ?_
          refine g_icmpN_ne hX d_M_stepsFewest_186 (by omega) (by omega) (fun h => absurd (by omega) h) (fun c3 => ?_)
          refine g_aload0 hX d_M_stepsFewest_189 ?_
          refine g_dup hX d_M_stepsFewest_190 rfl ?_
          refine g_getI hX d_M_stepsFewest_191 fl_M_520 (lv_89 _) ?_
          refine g_topi (show rI (sI wk 89 53 (nI (x ||| 1 <<< v))) 89 54 = nI st.2 by rw [rI_sI, upd_eq, if_neg (by decide)]; exact h5) ?_
          refine g_iconst (v := nI 1) hX d_M_stepsFewest_194 rfl ?_
          refine g_iaddN hX d_M_stepsFewest_195 ?_
          refine g_putI hX d_M_stepsFewest_196 fl_M_520 (lv_89 _) ?_
          refine g_goto hX d_M_stepsFewest_199 ?_
          refine g_goto hX d_M_stepsFewest_229 ?_
          refine g_fget 5 ?_
          by_cases hm2 : st.1 + 1 < most
          · refine go48 vs.length v (k + 1) (st.1 + 1) (x ||| 1 <<< v) _ hdl hv hm2 (by rw [rI_sI_ne _ _ _ (by decide), rI_sI_ne _ _ _ (by decide)]; exact h3) (by rw [rI_sI, upd_eq, if_neg (by decide), rI_sI, upd_eq, if_pos rfl]) hU.2.1 (by rw [rI_sI_ne _ _ _ (by decide), rI_sI_ne _ _ _ (by decide), h4, m1_nI]) ?_
            refine ihc (k + 1) (st.1 + 1, st.2 + 1) _ _ (by omega) hr hv hpv hvs hm2 ⟨((((h1.D (Or.inl rfl)).D (Or.inr rfl)).D (Or.inl rfl)).L (Or.inl rfl)), h2.o rfl, by rw [rI_sI_ne _ _ _ (by decide), rI_sI_ne _ _ _ (by decide), rI_sI_ne _ _ _ (by decide), rI_sI_ne _ _ _ (by decide)]; exact h3, (hU.W.down hpv).lie hpv, by rw [rI_sI, upd_eq, if_pos rfl], by rw [rI_sI_ne _ _ _ (by decide), rI_sI, upd_eq, if_neg (by decide), rI_sI, upd_eq, if_pos rfl]⟩ hb he
          · rw [remH_stop (show most ≤ (huntG g cd most 0 (upP p v k) (st.1 + 1, st.2)).1 by show most ≤ st.1 + 1; omega)] at he
            refine he _ vs.length (by omega) ((h1.D (Or.inl rfl)).D (Or.inr rfl)) ?_ ?_
            · rw [rI_sI, upd_eq, if_pos rfl]; rfl
            · show most ≤ st.1 + 1; omega
        · refine g_aload0 hX d_M_stepsFewest_129 ?_
          refine g_getF hX d_M_stepsFewest_130 fl_M_111 (lv_89 _) ?_
          refine g_iload5 hX d_M_stepsFewest_133 ?_
          refine g_dup2 hX d_M_stepsFewest_135 rfl rfl ?_
          refine g_iald hX d_M_stepsFewest_136 (lv_113 _) rfl (by omega) ?_
          refine g_topi h4 ?_
          refine g_iconst (v := nI 1) hX d_M_stepsFewest_137 rfl ?_
          refine g_iaddN hX d_M_stepsFewest_138 ?_
          refine g_iast hX d_M_stepsFewest_139 (lv_113 _) rfl (by omega) ?_
          refine g_goto hX d_M_stepsFewest_140 ?_
          exact ihc (k + 1) st x _ (by omega) hr hv hpv hvs hst ⟨h1.L (Or.inl rfl), h2.o rfl, by rw [rI_sI_ne _ _ _ (by decide)]; exact h3, hH.lie hpv, by rw [rI_sI, upd_eq, if_pos rfl], by rw [rI_sI_ne _ _ _ (by decide)]; exact h5⟩ (by rw [remH_no (by omega) e126] at hb; exact hb) (by rw [remH_no (by omega) e126] at he; exact he)
    | succ r ihr =>
      intro d
      induction d with
      | zero =>
        intro vs v p k st x wk hcd2 hr hv hpv hvs hst hs hb he
        obtain ⟨h1, h2, h3, hH, h4, h5⟩ := hs
        have hdl : vs.length < gV g := by omega
        have hRk : MRow (rI wk 91) g := by rw [h1.1 91 (by decide) (by decide) (by decide)]; exact hR
        have hCk : CandP wk g cd := fun u hu => by rw [h1.1 117 (by decide) (by decide) (by decide)]; exact hC u hu
        have hNk : NearP wk g := fun u hu => by rw [h1.1 110 (by decide) (by decide) (by decide)]; exact hNr u hu
        have hxl := hH.2.1
        refine g_aload0 hX d_M_stepsFewest_97 ?_
        refine g_getF hX d_M_stepsFewest_98 fl_M_111 (lv_89 _) ?_
        refine g_iload5 hX d_M_stepsFewest_101 ?_
        refine g_iald hX d_M_stepsFewest_103 (lv_113 _) rfl (by omega) ?_
        refine g_topi h4 ?_
        refine g_aload0 hX d_M_stepsFewest_104 ?_
        refine g_getF hX d_M_stepsFewest_105 fl_M_13 (lv_89 _) ?_
        refine g_iconst (v := nI 0) hX d_M_stepsFewest_108 rfl ?_
        refine g_iald hX d_M_stepsFewest_109 (lv_91 _) rfl (by decide) ?_
        refine g_topi hRk.n ?_
        refine g_icmpN_ge hX d_M_stepsFewest_110 (by omega) (by omega) (fun c0 => ?_) (fun h => absurd h (by omega))
        refine g_aload0 hX d_M_stepsFewest_143 ?_
        refine g_getF hX d_M_stepsFewest_144 fl_M_111 (lv_89 _) ?_
        refine g_iload5 hX d_M_stepsFewest_147 ?_
        refine g_iald hX d_M_stepsFewest_149 (lv_113 _) rfl (by omega) ?_
        refine g_topi h4 ?_
        refine g_aload0 hX d_M_stepsFewest_150 ?_
        refine g_getF hX d_M_stepsFewest_151 fl_M_13 (lv_89 _) ?_
        refine g_iconst (v := nI 0) hX d_M_stepsFewest_154 rfl ?_
        refine g_iald hX d_M_stepsFewest_155 (lv_91 _) rfl (by decide) ?_
        refine g_topi hRk.n ?_
        refine g_icmpN_ne hX d_M_stepsFewest_156 (by omega) (by omega) (fun h => absurd (by omega) h) (fun c1 => ?_)
        refine g_iinc4 hX d_M_stepsFewest_159 (m1_add _) rfl (by decide) ?_
        refine g_goto hX d_M_stepsFewest_162 ?_
        refine g_goto hX d_M_stepsFewest_229 ?_
        refine g_fget 5 ?_
        rw [remH_N (by omega)] at hb
        exact hb wk x h1 h2 hH h5 hst
      | succ d ihd =>
        intro vs v p k st x wk hcd2 hr hv hpv hvs hst hs hb he
        have ihc := ihd vs v p
        obtain ⟨h1, h2, h3, hH, h4, h5⟩ := hs
        have hdl : vs.length < gV g := by omega
        have hRk : MRow (rI wk 91) g := by rw [h1.1 91 (by decide) (by decide) (by decide)]; exact hR
        have hCk : CandP wk g cd := fun u hu => by rw [h1.1 117 (by decide) (by decide) (by decide)]; exact hC u hu
        have hNk : NearP wk g := fun u hu => by rw [h1.1 110 (by decide) (by decide) (by decide)]; exact hNr u hu
        have hxl := hH.2.1
        refine g_aload0 hX d_M_stepsFewest_97 ?_
        refine g_getF hX d_M_stepsFewest_98 fl_M_111 (lv_89 _) ?_
        refine g_iload5 hX d_M_stepsFewest_101 ?_
        refine g_iald hX d_M_stepsFewest_103 (lv_113 _) rfl (by omega) ?_
        refine g_topi h4 ?_
        refine g_aload0 hX d_M_stepsFewest_104 ?_
        refine g_getF hX d_M_stepsFewest_105 fl_M_13 (lv_89 _) ?_
        refine g_iconst (v := nI 0) hX d_M_stepsFewest_108 rfl ?_
        refine g_iald hX d_M_stepsFewest_109 (lv_91 _) rfl (by decide) ?_
        refine g_topi hRk.n ?_
        refine g_icmpN_ge hX d_M_stepsFewest_110 (by omega) (by omega) (fun h => absurd h (by omega)) (fun c0 => ?_)
        refine g_aload0 hX d_M_stepsFewest_113 ?_
        refine g_iload5 hX d_M_stepsFewest_114 ?_
        refine g_aload0 hX d_M_stepsFewest_116 ?_
        refine g_getF hX d_M_stepsFewest_117 fl_M_111 (lv_89 _) ?_
        refine g_iload5 hX d_M_stepsFewest_120 ?_
        refine g_iald hX d_M_stepsFewest_122 (lv_113 _) rfl (by omega) ?_
        refine g_topi h4 ?_
        refine g_callV (As := [_, _]) hX hF.1 d_M_stepsFewest_123 ml_M_517 cf_M_fitsThose cv_M_fitsThose rfl rfl (c_M_fitsThose (w := wk) (g := g) (p := p) hRk hW hNk hCk hcd hH hv (by omega)) (rcv_obj hX (lv_89 _) rfl rfl) (by omega) (by omega) (by omega) (Nat.le_of_ble_eq_true rfl) ?_
        refine ret_k ?_
        refine g_ifB_ne hX d_M_stepsFewest_126 (fun e126 => ?_) (fun e126 => ?_)
        · rw [remH_yes (by omega) hst e126] at hb he
          have hU := hH.up hv hgv hpv h4 (by omega)
          refine g_aload0 hX d_M_stepsFewest_143 ?_
          refine g_getF hX d_M_stepsFewest_144 fl_M_111 (lv_89 _) ?_
          refine g_iload5 hX d_M_stepsFewest_147 ?_
          refine g_iald hX d_M_stepsFewest_149 (lv_113 _) rfl (by omega) ?_
          refine g_topi h4 ?_
          refine g_aload0 hX d_M_stepsFewest_150 ?_
          refine g_getF hX d_M_stepsFewest_151 fl_M_13 (lv_89 _) ?_
          refine g_iconst (v := nI 0) hX d_M_stepsFewest_154 rfl ?_
          refine g_iald hX d_M_stepsFewest_155 (lv_91 _) rfl (by decide) ?_
          refine g_topi hRk.n ?_
          refine g_icmpN_ne hX d_M_stepsFewest_156 (by omega) (by omega) (fun c2 => ?_) (fun h => absurd h (by omega))
          refine g_iincN3 hX d_M_stepsFewest_165 rfl (by decide) ?_
          refine g_aload0 hX d_M_stepsFewest_168 ?_
          refine g_dup hX d_M_stepsFewest_169 rfl ?_
          refine g_getI hX d_M_stepsFewest_170 fl_M_514 (lv_89 _) ?_
          refine g_topi hH.1 ?_
          refine g_iconst (v := nI 1) hX d_M_stepsFewest_173 rfl ?_
          refine g_iload5 hX d_M_stepsFewest_174 ?_
          refine g_ishlN hX d_M_stepsFewest_176 (by omega) ?_
          refine g_iorN hX d_M_stepsFewest_177 ?_
          refine g_putI hX d_M_stepsFewest_178 fl_M_514 (lv_89 _) ?_
          refine g_iload4 hX d_M_stepsFewest_181 ?_
          refine g_iload2 hX d_M_stepsFewest_183 ?_
          refine g_iconst (v := nI 1) hX d_M_stepsFewest_184 rfl ?_
          refine g_isubN hX d_M_stepsFewest_185 (by omega) ?_
          refine g_icmpN_ne hX d_M_stepsFewest_186 (by omega) (by omega) (fun c3 => ?_) (fun h => absurd h (by omega))
          refine g_iincN4 hX d_M_stepsFewest_202 rfl (by decide) ?_
          obtain ⟨y, hy1, hy2⟩ := free_v (g := g) (vs := vs ++ [v]) (by rw [List.length_append, List.length_singleton]; omega)
          have hvs2 := upP_in (v := v) (n := k) hvs
          have hy3 : upP p v k y = none := by
            by_cases z : upP p v k y = none
            · exact z
            · exact absurd (hvs2 y z) hy2
          obtain ⟨u, hu⟩ := pickK_some (c := cd) hgn hy3 _ hy1
          obtain ⟨hu1, hu2⟩ := pickK_lt _ hu
          refine g_aload0 hX d_M_stepsFewest_205 ?_
          refine g_getF hX d_M_stepsFewest_206 fl_M_129 (lv_89 _) ?_
          refine g_iload4 hX d_M_stepsFewest_209 ?_
          refine g_aload0 hX d_M_stepsFewest_211 ?_
          refine g_callV (As := []) hX hF.1 d_M_stepsFewest_212 ml_M_523 cf_M_fewestThen cv_M_fewestThen rfl rfl (c_M_fewestThen (w := sI wk 89 53 (nI (x ||| 1 <<< v))) (g := g) (p := upP p v k) hRk hW hNk hCk hcd hU) (rcv_obj hX (lv_89 _) rfl rfl) (by omega) (by omega) (by omega) (Nat.le_of_ble_eq_true rfl) ?_
          refine ret_k ?_
          refine g_topi (show fInt (pickK g cd (upP p v k) (gV g)).1 = nI u by rw [hu]; rfl) ?_
          refine g_iast hX d_M_stepsFewest_215 (lv_119 _) rfl (by omega) ?_
          refine g_aload0 hX d_M_stepsFewest_216 ?_
          refine g_getF hX d_M_stepsFewest_217 fl_M_111 (lv_89 _) ?_
          refine g_aload0 hX d_M_stepsFewest_220 ?_
          refine g_getF hX d_M_stepsFewest_221 fl_M_129 (lv_89 _) ?_
          refine g_iload4 hX d_M_stepsFewest_224 ?_
          refine g_iald hX d_M_stepsFewest_226 (lv_119 _) rfl (by omega) ?_
          refine g_topi (show rI (sI (sI wk 89 53 (nI (x ||| 1 <<< v))) 119 (vs.length + 1) (nI u)) 119 (vs.length + 1) = nI u by rw [rI_sI, upd_eq, if_pos rfl]) ?_
          refine g_iconst (v := -1) hX d_M_stepsFewest_227 rfl ?_
          refine g_iast hX d_M_stepsFewest_228 (lv_113 _) rfl (by omega) ?_
          refine g_goto hX d_M_stepsFewest_229 ?_
          refine g_fget 5 ?_
          have hlen : (vs ++ [v]).length = vs.length + 1 := by rw [List.length_append]; rfl
          have hD0 : DeepP (sI wk 89 53 (nI (x ||| 1 <<< v))) (vs ++ [v]) := (h2.snoc h3).o rfl
          have hD1 := hD0.put (x := nI u)
          rw [hlen] at hD1
          have hF1 : FrH w (sI (sI (sI wk 89 53 (nI (x ||| 1 <<< v))) 119 (vs.length + 1) (nI u)) 113 u (-1)) := ((h1.D (Or.inl rfl)).L (Or.inr rfl)).L (Or.inl rfl)
          have hH1 : HunP (sI (sI (sI wk 89 53 (nI (x ||| 1 <<< v))) 119 (vs.length + 1) (nI u)) 113 u (-1)) g (upP p v k) (x ||| 1 <<< v) := (hU.o (by decide) (by decide)).lie hu2
          rw [remH_0 hu] at hb he
          by_cases hm2 : st.1 + 1 < most
          · refine go48 (vs.length + 1) u 0 (st.1 + 1) (x ||| 1 <<< v) _ (by omega) hu1 hm2 (by rw [rI_sI_ne _ _ _ (by decide), rI_sI, upd_eq, if_pos rfl]) hH1.1 hU.2.1 (by rw [rI_sI, upd_eq, if_pos rfl]; decide) ?_
            refine g_loc (show _ = [.ref 89, .int (nI most), .int (nI (gV g)), .int (nI (st.1 + 1)), .int (nI (vs ++ [v]).length), .int (nI u)] by rw [hlen]) ?_
            refine ihr (gN g) (vs ++ [v]) u (upP p v k) 0 (st.1 + 1, st.2) _ _ (by omega) (by rw [hlen]; omega) hu1 hu2 hvs2 hm2 ⟨((hF1.D (Or.inl rfl)).L (Or.inl rfl)), (hD1.o rfl), ?_, (hH1.same hu2).lie hu2, by rw [rI_sI, upd_eq, if_pos rfl], ?_⟩ (fun w3 x3 z1 z2 z3 z4 z5 => ?_) (fun w3 d3 z0 z1 z2 z3 => ?_)
            · rw [hlen, rI_sI_ne _ _ _ (by decide), rI_sI_ne _ _ _ (by decide), rI_sI_ne _ _ _ (by decide), rI_sI, upd_eq, if_pos rfl]
            · rw [rI_sI_ne _ _ _ (by decide), rI_sI, upd_eq, if_neg (by decide), rI_sI_ne _ _ _ (by decide), rI_sI_ne _ _ _ (by decide), rI_sI, upd_eq, if_neg (by decide)]; exact h5
            · obtain ⟨y5, y6⟩ := z2.init
              have hvk := (z3.2.2.2 v k hv (by unfold upP; rw [if_pos rfl])).1
              refine g_loc (show _ = [.ref 89, .int (nI most), .int (nI (gV g)), .int (nI ((remH g cd most r (upP p v k) u 0 (st.1 + 1, st.2)).1)), .int (nI vs.length), un] by rw [hlen, m1_nI]) ?_
              refine go48 vs.length v (k + 1) _ x3 w3 hdl hv z5 y6 z3.1 z3.2.1 (by rw [hvk, m1_nI]) ?_
              refine ihc (k + 1) (remH g cd most r (upP p v k) u 0 (st.1 + 1, st.2)) _ _ (by omega) hr hv hpv hvs z5 ⟨((z1.D (Or.inl rfl)).L (Or.inl rfl)), y5.o rfl, by rw [rI_sI_ne _ _ _ (by decide), rI_sI_ne _ _ _ (by decide)]; exact y6, (z3.down hpv).lie hpv, by rw [rI_sI, upd_eq, if_pos rfl], by rw [rI_sI_ne _ _ _ (by decide), rI_sI, upd_eq, if_neg (by decide)]; exact z4⟩ hb he
            · rw [remH_stop z3] at he
              exact he w3 d3 z0 z1 z2 z3
          · have hst2 : most ≤ (remH g cd most r (upP p v k) u 0 (st.1 + 1, st.2)).1 := by
              rw [remH_stop (show most ≤ (st.1 + 1, st.2).1 by show most ≤ st.1 + 1; omega)]
              show most ≤ st.1 + 1
              omega
            rw [remH_stop hst2, remH_stop (show most ≤ (st.1 + 1, st.2).1 by show most ≤ st.1 + 1; omega)] at he
            refine he _ (vs.length + 1) (by omega) hF1 ?_ (by show most ≤ st.1 + 1; omega)
            rw [rI_sI_ne _ _ _ (by decide), rI_sI_ne _ _ _ (by decide), rI_sI, upd_eq, if_neg (by decide)]
            exact h5
        · refine g_aload0 hX d_M_stepsFewest_129 ?_
          refine g_getF hX d_M_stepsFewest_130 fl_M_111 (lv_89 _) ?_
          refine g_iload5 hX d_M_stepsFewest_133 ?_
          refine g_dup2 hX d_M_stepsFewest_135 rfl rfl ?_
          refine g_iald hX d_M_stepsFewest_136 (lv_113 _) rfl (by omega) ?_
          refine g_topi h4 ?_
          refine g_iconst (v := nI 1) hX d_M_stepsFewest_137 rfl ?_
          refine g_iaddN hX d_M_stepsFewest_138 ?_
          refine g_iast hX d_M_stepsFewest_139 (lv_113 _) rfl (by omega) ?_
          refine g_goto hX d_M_stepsFewest_140 ?_
          exact ihc (k + 1) st x _ (by omega) hr hv hpv hvs hst ⟨h1.L (Or.inl rfl), h2.o rfl, by rw [rI_sI_ne _ _ _ (by decide)]; exact h3, hH.lie hpv, by rw [rI_sI, upd_eq, if_pos rfl], by rw [rI_sI_ne _ _ _ (by decide)]; exact h5⟩ (by rw [remH_no (by omega) e126] at hb; exact hb) (by rw [remH_no (by omega) e126] at he; exact he)
  refine g_aload0 hX d_M_stepsFewest_0 ?_
  refine g_getF hX d_M_stepsFewest_1 fl_M_13 (lv_89 _) ?_
  refine g_iconst (v := nI 1) hX d_M_stepsFewest_4 rfl ?_
  refine g_iald hX d_M_stepsFewest_5 (lv_91 _) rfl (by decide) ?_
  refine g_topi hR.v ?_
  refine g_istore2 hX d_M_stepsFewest_6 rfl (by decide) ?_
  refine g_aload0 hX d_M_stepsFewest_7 ?_
  refine g_iconst (v := nI 0) hX d_M_stepsFewest_8 rfl ?_
  refine g_putI hX d_M_stepsFewest_9 fl_M_514 (lv_89 _) ?_
  refine g_aload0 hX d_M_stepsFewest_12 ?_
  refine g_iconst (v := nI 0) hX d_M_stepsFewest_13 rfl ?_
  refine g_putI hX d_M_stepsFewest_14 fl_M_520 (lv_89 _) ?_
  refine g_iconst (v := nI 0) hX d_M_stepsFewest_17 rfl ?_
  refine g_istore3 hX d_M_stepsFewest_18 rfl (by decide) ?_
  refine g_iconst (v := nI 0) hX d_M_stepsFewest_19 rfl ?_
  refine g_istore4 hX d_M_stepsFewest_20 rfl (by decide) ?_
  refine g_iload2 hX d_M_stepsFewest_22 ?_
  refine g_if_le hX d_M_stepsFewest_23 (fun e23 => ?_) (fun e23 => ?_)
  · have hv0 : gV g = 0 := by
      by_cases z : gV g = 0
      · exact z
      · exact absurd e23 (nI_nle0 (by omega) (by omega))
    rw [hv0]
    refine g_iload4 hX d_M_stepsFewest_48 ?_
    refine g_if_lt hX d_M_stepsFewest_50 (fun h => absurd h (by decide)) (fun c0 => ?_)
    refine g_iload2 hX d_M_stepsFewest_53 ?_
    refine g_if_le hX d_M_stepsFewest_54 (fun c1 => ?_) (fun h => absurd (by decide) h)
    refine g_iload3 hX d_M_stepsFewest_232 ?_
    refine g_iret hX hF d_M_stepsFewest_233 (by omega) (by omega) ?_
    exact ⟨by rw [hv0, if_pos rfl], ((FrH.rf w).D (Or.inl rfl)).D (Or.inr rfl), fun z => absurd z (by rw [hv0]; decide)⟩
  · have hv0 : 0 < gV g := by
      by_cases z : gV g = 0
      · exact absurd (by rw [z]; decide) e23
      · omega
    obtain ⟨u, hu⟩ := pickK_some (g := g) (c := cd) (p := fun _ => none) hgn (x := 0) rfl _ hv0
    obtain ⟨hu1, hu2⟩ := pickK_lt _ hu
    have hF0 : FrH w (sI (sI w 89 53 (nI 0)) 89 54 (nI 0)) := ((FrH.rf w).D (Or.inl rfl)).D (Or.inr rfl)
    have hH0 : HunP (sI (sI w 89 53 (nI 0)) 89 54 (nI 0)) g (fun _ => none) 0 := ⟨by rw [rI_sI, upd_eq, if_neg (by decide), rI_sI, upd_eq, if_pos rfl], by decide, fun u _ => by simp, fun u m _ z => by cases z⟩
    refine g_aload0 hX d_M_stepsFewest_26 ?_
    refine g_getF hX d_M_stepsFewest_27 fl_M_129 (lv_89 _) ?_
    refine g_iconst (v := nI 0) hX d_M_stepsFewest_30 rfl ?_
    refine g_aload0 hX d_M_stepsFewest_31 ?_
    refine g_callV (As := []) hX hF.1 d_M_stepsFewest_32 ml_M_523 cf_M_fewestThen cv_M_fewestThen rfl rfl (c_M_fewestThen (w := sI (sI w 89 53 (nI 0)) 89 54 (nI 0)) (g := g) (p := fun _ => none) hR hW hNr hC hcd hH0) (rcv_obj hX (lv_89 _) rfl rfl) (by omega) (by omega) (by omega) (Nat.le_of_ble_eq_true rfl) ?_
    refine ret_k ?_
    refine g_topi (show fInt (pickK g cd (fun _ => none) (gV g)).1 = nI u by rw [hu]; rfl) ?_
    refine g_iast hX d_M_stepsFewest_35 (lv_119 _) rfl (by decide) ?_
    refine g_aload0 hX d_M_stepsFewest_36 ?_
    refine g_getF hX d_M_stepsFewest_37 fl_M_111 (lv_89 _) ?_
    refine g_aload0 hX d_M_stepsFewest_40 ?_
    refine g_getF hX d_M_stepsFewest_41 fl_M_129 (lv_89 _) ?_
    refine g_iconst (v := nI 0) hX d_M_stepsFewest_44 rfl ?_
    refine g_iald hX d_M_stepsFewest_45 (lv_119 _) rfl (by decide) ?_
    refine g_topi (show rI (sI (sI (sI w 89 53 (nI 0)) 89 54 (nI 0)) 119 0 (nI u)) 119 0 = nI u by rw [rI_sI, upd_eq, if_pos rfl]) ?_
    refine g_iconst (v := -1) hX d_M_stepsFewest_46 rfl ?_
    refine g_iast hX d_M_stepsFewest_47 (lv_113 _) rfl (by omega) ?_
    have hF1 : FrH w (sI (sI (sI (sI w 89 53 (nI 0)) 89 54 (nI 0)) 119 0 (nI u)) 113 u (-1)) := (hF0.L (Or.inr rfl)).L (Or.inl rfl)
    have hH1 : HunP (sI (sI (sI (sI w 89 53 (nI 0)) 89 54 (nI 0)) 119 0 (nI u)) 113 u (-1)) g (fun _ => none) 0 := (hH0.o (by decide) (by decide)).lie rfl
    have hw54 : rI (sI (sI (sI (sI w 89 53 (nI 0)) 89 54 (nI 0)) 119 0 (nI u)) 113 u (-1)) 89 54 = nI 0 := by rw [rI_sI_ne _ _ _ (by decide), rI_sI_ne _ _ _ (by decide), rI_sI, upd_eq, if_pos rfl]
    have e0 : huntG g cd most (gV g) (fun _ => none) (0, 0) = remH g cd most (gV g - 1) (fun _ => none) u 0 (0, 0) := by
      rw [← remH_0 hu, show gV g - 1 + 1 = gV g by omega]
    by_cases hm0 : most = 0
    · have e1 : remH g cd most (gV g - 1) (fun _ => none) u 0 (0, 0) = (0, 0) := remH_stop (by rw [hm0]; exact Nat.le_refl 0)
      refine g_iload4 hX d_M_stepsFewest_48 ?_
      refine g_if_lt hX d_M_stepsFewest_50 (fun h => absurd h (by decide)) (fun c0 => ?_)
      refine g_iload2 hX d_M_stepsFewest_53 ?_
      refine g_if_le hX d_M_stepsFewest_54 (fun h => absurd h (nI_nle0 (by omega) (by omega))) (fun c1 => ?_)
      refine g_iload3 hX d_M_stepsFewest_57 ?_
      refine g_iload1 hX d_M_stepsFewest_58 ?_
      refine g_icmpN_ge hX d_M_stepsFewest_59 (by omega) (by omega) (fun c2 => ?_) (fun h => absurd h (by omega))
      refine g_iload3 hX d_M_stepsFewest_232 ?_
      refine g_iret hX hF d_M_stepsFewest_233 (by omega) (by omega) ?_
      exact ⟨by rw [if_neg (by omega), e0, e1], hF1, fun _ => by rw [e0, e1]; exact hw54⟩
    refine go48 0 u 0 0 0 _ hv0 hu1 (by omega) (by rw [rI_sI_ne _ _ _ (by decide), rI_sI, upd_eq, if_pos rfl]) hH1.1 (by decide) (by rw [rI_sI, upd_eq, if_pos rfl]; decide) ?_
    refine lev (gV g - 1) (gN g) [] u (fun _ => none) 0 (0, 0) _ _ (by omega) (by show 0 + (gV g - 1) + 1 = gV g; omega) hu1 rfl (fun u z => absurd rfl z) (by show 0 < most; omega) ⟨(hF1.D (Or.inl rfl)).L (Or.inl rfl), fun k hk => absurd hk (Nat.not_lt_zero _), ?_, (hH1.same rfl).lie rfl, by rw [rI_sI, upd_eq, if_pos rfl], ?_⟩ (fun w2 x2 z1 z2 z3 z4 z5 => ?_) (fun w2 d2 z0 z1 z2 z3 => ?_)
    · show rI _ 119 0 = _
      rw [rI_sI_ne _ _ _ (by decide), rI_sI_ne _ _ _ (by decide), rI_sI_ne _ _ _ (by decide), rI_sI, upd_eq, if_pos rfl]
    · rw [rI_sI_ne _ _ _ (by decide), rI_sI, upd_eq, if_neg (by decide)]; exact hw54
    · rw [← e0] at z4 z5 ⊢
      refine g_iload4 hX d_M_stepsFewest_48 ?_
      refine g_if_lt hX d_M_stepsFewest_50 (fun c0 => ?_) (fun h => absurd (by decide) h)
      refine g_iload3 hX d_M_stepsFewest_232 ?_
      refine g_iret hX hF d_M_stepsFewest_233 (by omega) (by omega) ?_
      exact ⟨by rw [if_neg (by omega)], z1, fun _ => z4⟩
    · rw [← e0] at z2 z3 ⊢
      refine g_iload4 hX d_M_stepsFewest_48 ?_
      refine g_if_lt hX d_M_stepsFewest_50 (fun h => absurd h (nI_pos (by omega))) (fun c0 => ?_)
      refine g_iload2 hX d_M_stepsFewest_53 ?_
      refine g_if_le hX d_M_stepsFewest_54 (fun h => absurd h (nI_nle0 (by omega) (by omega))) (fun c1 => ?_)
      refine g_iload3 hX d_M_stepsFewest_57 ?_
      refine g_iload1 hX d_M_stepsFewest_58 ?_
      refine g_icmpN_ge hX d_M_stepsFewest_59 (by omega) (by omega) (fun c2 => ?_) (fun h => absurd h (by omega))
      refine g_iload3 hX d_M_stepsFewest_232 ?_
      refine g_iret hX hF d_M_stepsFewest_233 (by omega) (by omega) ?_
      exact ⟨by rw [if_neg (by omega)], z1, fun _ => z2⟩
