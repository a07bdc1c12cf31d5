def m_M_readLaw : MR := (⟨"SubgraphDeskModel", "readLaw", "()V"⟩, prog_14_method_62_code, 4, none)
theorem cf_M_readLaw : CF m_M_readLaw 0 := ⟨gd 1862 (by decide +kernel) rfl, gd 151 (by decide +kernel) rfl, by decide +kernel, by decide, by decide +kernel⟩
theorem cv_M_readLaw : CV m_M_readLaw := ⟨gd 1861 (by decide +kernel) rfl, gd 78 (by decide +kernel) rfl⟩
theorem d_M_readLaw_0 : Dc prog_14_method_62_code 0 (.iconst (-1)) 1 1 := ⟨by decide +kernel, rfl⟩
theorem d_M_readLaw_1 : Dc prog_14_method_62_code 1 (.istore_n 1) 1 2 := ⟨by decide +kernel, rfl⟩
theorem d_M_readLaw_2 : Dc prog_14_method_62_code 2 (.iconst 0) 1 3 := ⟨by decide +kernel, rfl⟩
theorem d_M_readLaw_3 : Dc prog_14_method_62_code 3 (.istore_n 2) 1 4 := ⟨by decide +kernel, rfl⟩
theorem d_M_readLaw_4 : Dc prog_14_method_62_code 4 (.iload_n 2) 1 5 := ⟨by decide +kernel, rfl⟩
theorem d_M_readLaw_5 : Dc prog_14_method_62_code 5 (.iconst 2) 1 6 := ⟨by decide +kernel, rfl⟩
theorem d_M_readLaw_6 : Dj prog_14_method_62_code 6 (.if_icmp .ge 28) 9 28 34 := ⟨by decide +kernel, rfl, rfl⟩
theorem d_M_readLaw_9 : Dc prog_14_method_62_code 9 (.aload_n 0) 1 10 := ⟨by decide +kernel, rfl⟩
theorem d_M_readLaw_10 : Dc prog_14_method_62_code 10 (.aload_n 0) 1 11 := ⟨by decide +kernel, rfl⟩
theorem d_M_readLaw_11 : Dc prog_14_method_62_code 11 (.getfield 90) 3 14 := ⟨by decide +kernel, rfl⟩
theorem d_M_readLaw_14 : Dc prog_14_method_62_code 14 (.iload_n 2) 1 15 := ⟨by decide +kernel, rfl⟩
theorem d_M_readLaw_15 : Dc prog_14_method_62_code 15 (.laload) 1 16 := ⟨by decide +kernel, rfl⟩
theorem d_M_readLaw_16 : Dc prog_14_method_62_code 16 (.invokevirtual 316) 3 19 := ⟨by decide +kernel, rfl⟩
theorem d_M_readLaw_19 : Dj prog_14_method_62_code 19 (.ifCond .eq 7) 22 7 26 := ⟨by decide +kernel, rfl, rfl⟩
theorem d_M_readLaw_22 : Dc prog_14_method_62_code 22 (.iload_n 2) 1 23 := ⟨by decide +kernel, rfl⟩
theorem d_M_readLaw_23 : Dj prog_14_method_62_code 23 (.goto 4) 26 4 27 := ⟨by decide +kernel, rfl, rfl⟩
theorem d_M_readLaw_26 : Dc prog_14_method_62_code 26 (.iload_n 1) 1 27 := ⟨by decide +kernel, rfl⟩
theorem d_M_readLaw_27 : Dc prog_14_method_62_code 27 (.istore_n 1) 1 28 := ⟨by decide +kernel, rfl⟩
theorem d_M_readLaw_28 : Dc prog_14_method_62_code 28 (.iinc 2 1) 3 31 := ⟨by decide +kernel, rfl⟩
theorem d_M_readLaw_31 : Dj prog_14_method_62_code 31 (.goto (-27)) 34 (-27) 4 := ⟨by decide +kernel, rfl, rfl⟩
theorem d_M_readLaw_34 : Dc prog_14_method_62_code 34 (.aload_n 0) 1 35 := ⟨by decide +kernel, rfl⟩
theorem d_M_readLaw_35 : Dc prog_14_method_62_code 35 (.iload_n 1) 1 36 := ⟨by decide +kernel, rfl⟩
theorem d_M_readLaw_36 : Dc prog_14_method_62_code 36 (.iconst (-1)) 1 37 := ⟨by decide +kernel, rfl⟩
theorem d_M_readLaw_37 : Dj prog_14_method_62_code 37 (.if_icmp .eq 16) 40 16 53 := ⟨by decide +kernel, rfl, rfl⟩
theorem d_M_readLaw_40 : Dc prog_14_method_62_code 40 (.aload_n 0) 1 41 := ⟨by decide +kernel, rfl⟩
theorem d_M_readLaw_41 : Dc prog_14_method_62_code 41 (.getfield 389) 3 44 := ⟨by decide +kernel, rfl⟩
theorem d_M_readLaw_44 : Dc prog_14_method_62_code 44 (.bipush 12) 2 46 := ⟨by decide +kernel, rfl⟩
theorem d_M_readLaw_46 : Dj prog_14_method_62_code 46 (.if_icmp .ge 7) 49 7 53 := ⟨by decide +kernel, rfl, rfl⟩
theorem d_M_readLaw_49 : Dc prog_14_method_62_code 49 (.iconst 1) 1 50 := ⟨by decide +kernel, rfl⟩
theorem d_M_readLaw_50 : Dj prog_14_method_62_code 50 (.goto 4) 53 4 54 := ⟨by decide +kernel, rfl, rfl⟩
theorem d_M_readLaw_53 : Dc prog_14_method_62_code 53 (.iconst 0) 1 54 := ⟨by decide +kernel, rfl⟩
theorem d_M_readLaw_54 : Dc prog_14_method_62_code 54 (.invokevirtual 291) 3 57 := ⟨by decide +kernel, rfl⟩
theorem d_M_readLaw_57 : Dc prog_14_method_62_code 57 (.aload_n 0) 1 58 := ⟨by decide +kernel, rfl⟩
theorem d_M_readLaw_58 : Dc prog_14_method_62_code 58 (.getfield 258) 3 61 := ⟨by decide +kernel, rfl⟩
theorem d_M_readLaw_61 : Dj prog_14_method_62_code 61 (.ifCond .eq 4) 64 4 65 := ⟨by decide +kernel, rfl, rfl⟩
theorem d_M_readLaw_64 : Dc prog_14_method_62_code 64 (.return_) 1 65 := ⟨by decide +kernel, rfl⟩
theorem d_M_readLaw_65 : Dc prog_14_method_62_code 65 (.bipush 8) 2 67 := ⟨by decide +kernel, rfl⟩
theorem d_M_readLaw_67 : Dc prog_14_method_62_code 67 (.aload_n 0) 1 68 := ⟨by decide +kernel, rfl⟩
theorem d_M_readLaw_68 : Dc prog_14_method_62_code 68 (.getfield 389) 3 71 := ⟨by decide +kernel, rfl⟩
theorem d_M_readLaw_71 : Dc prog_14_method_62_code 71 (.imul) 1 72 := ⟨by decide +kernel, rfl⟩
theorem d_M_readLaw_72 : Dc prog_14_method_62_code 72 (.istore_n 2) 1 73 := ⟨by decide +kernel, rfl⟩
theorem d_M_readLaw_73 : Dc prog_14_method_62_code 73 (.iconst 0) 1 74 := ⟨by decide +kernel, rfl⟩
theorem d_M_readLaw_74 : Dc prog_14_method_62_code 74 (.istore_n 3) 1 75 := ⟨by decide +kernel, rfl⟩
theorem d_M_readLaw_75 : Dc prog_14_method_62_code 75 (.iload_n 3) 1 76 := ⟨by decide +kernel, rfl⟩
theorem d_M_readLaw_76 : Dc prog_14_method_62_code 76 (.bipush 8) 2 78 := ⟨by decide +kernel, rfl⟩
theorem d_M_readLaw_78 : Dj prog_14_method_62_code 78 (.if_icmp .ge 18) 81 18 96 := ⟨by decide +kernel, rfl, rfl⟩
theorem d_M_readLaw_81 : Dc prog_14_method_62_code 81 (.aload_n 0) 1 82 := ⟨by decide +kernel, rfl⟩
theorem d_M_readLaw_82 : Dc prog_14_method_62_code 82 (.getfield 42) 3 85 := ⟨by decide +kernel, rfl⟩
theorem d_M_readLaw_85 : Dc prog_14_method_62_code 85 (.iload_n 2) 1 86 := ⟨by decide +kernel, rfl⟩
theorem d_M_readLaw_86 : Dc prog_14_method_62_code 86 (.iload_n 3) 1 87 := ⟨by decide +kernel, rfl⟩
theorem d_M_readLaw_87 : Dc prog_14_method_62_code 87 (.iadd) 1 88 := ⟨by decide +kernel, rfl⟩
theorem d_M_readLaw_88 : Dc prog_14_method_62_code 88 (.iconst 0) 1 89 := ⟨by decide +kernel, rfl⟩
theorem d_M_readLaw_89 : Dc prog_14_method_62_code 89 (.iastore) 1 90 := ⟨by decide +kernel, rfl⟩
theorem d_M_readLaw_90 : Dc prog_14_method_62_code 90 (.iinc 3 1) 3 93 := ⟨by decide +kernel, rfl⟩
theorem d_M_readLaw_93 : Dj prog_14_method_62_code 93 (.goto (-18)) 96 (-18) 75 := ⟨by decide +kernel, rfl, rfl⟩
theorem d_M_readLaw_96 : Dc prog_14_method_62_code 96 (.aload_n 0) 1 97 := ⟨by decide +kernel, rfl⟩
theorem d_M_readLaw_97 : Dc prog_14_method_62_code 97 (.getfield 42) 3 100 := ⟨by decide +kernel, rfl⟩
theorem d_M_readLaw_100 : Dc prog_14_method_62_code 100 (.iload_n 2) 1 101 := ⟨by decide +kernel, rfl⟩
theorem d_M_readLaw_101 : Dc prog_14_method_62_code 101 (.iload_n 1) 1 102 := ⟨by decide +kernel, rfl⟩
theorem d_M_readLaw_102 : Dc prog_14_method_62_code 102 (.iastore) 1 103 := ⟨by decide +kernel, rfl⟩
theorem d_M_readLaw_103 : Dc prog_14_method_62_code 103 (.aload_n 0) 1 104 := ⟨by decide +kernel, rfl⟩
theorem d_M_readLaw_104 : Dc prog_14_method_62_code 104 (.dup) 1 105 := ⟨by decide +kernel, rfl⟩
theorem d_M_readLaw_105 : Dc prog_14_method_62_code 105 (.getfield 389) 3 108 := ⟨by decide +kernel, rfl⟩
theorem d_M_readLaw_108 : Dc prog_14_method_62_code 108 (.iconst 1) 1 109 := ⟨by decide +kernel, rfl⟩
theorem d_M_readLaw_109 : Dc prog_14_method_62_code 109 (.iadd) 1 110 := ⟨by decide +kernel, rfl⟩
theorem d_M_readLaw_110 : Dc prog_14_method_62_code 110 (.putfield 389) 3 113 := ⟨by decide +kernel, rfl⟩
theorem d_M_readLaw_113 : Dc prog_14_method_62_code 113 (.aload_n 0) 1 114 := ⟨by decide +kernel, rfl⟩
theorem d_M_readLaw_114 : Dc prog_14_method_62_code 114 (.getfield 42) 3 117 := ⟨by decide +kernel, rfl⟩
theorem d_M_readLaw_117 : Dc prog_14_method_62_code 117 (.iload_n 2) 1 118 := ⟨by decide +kernel, rfl⟩
theorem d_M_readLaw_118 : Dc prog_14_method_62_code 118 (.iconst 3) 1 119 := ⟨by decide +kernel, rfl⟩
theorem d_M_readLaw_119 : Dc prog_14_method_62_code 119 (.iadd) 1 120 := ⟨by decide +kernel, rfl⟩
theorem d_M_readLaw_120 : Dc prog_14_method_62_code 120 (.aload_n 0) 1 121 := ⟨by decide +kernel, rfl⟩
theorem d_M_readLaw_121 : Dc prog_14_method_62_code 121 (.getfield 295) 3 124 := ⟨by decide +kernel, rfl⟩
theorem d_M_readLaw_124 : Dc prog_14_method_62_code 124 (.iastore) 1 125 := ⟨by decide +kernel, rfl⟩
theorem d_M_readLaw_125 : Dc prog_14_method_62_code 125 (.iload_n 1) 1 126 := ⟨by decide +kernel, rfl⟩
theorem d_M_readLaw_126 : Dj prog_14_method_62_code 126 (.ifCond .ne 8) 129 8 134 := ⟨by decide +kernel, rfl, rfl⟩
theorem d_M_readLaw_129 : Dc prog_14_method_62_code 129 (.aload_n 0) 1 130 := ⟨by decide +kernel, rfl⟩
theorem d_M_readLaw_130 : Dc prog_14_method_62_code 130 (.iconst 0) 1 131 := ⟨by decide +kernel, rfl⟩
theorem d_M_readLaw_131 : Dc prog_14_method_62_code 131 (.invokevirtual 392) 3 134 := ⟨by decide +kernel, rfl⟩
theorem d_M_readLaw_134 : Dc prog_14_method_62_code 134 (.aload_n 0) 1 135 := ⟨by decide +kernel, rfl⟩
theorem d_M_readLaw_135 : Dc prog_14_method_62_code 135 (.getfield 42) 3 138 := ⟨by decide +kernel, rfl⟩
theorem d_M_readLaw_138 : Dc prog_14_method_62_code 138 (.iload_n 2) 1 139 := ⟨by decide +kernel, rfl⟩
theorem d_M_readLaw_139 : Dc prog_14_method_62_code 139 (.iconst 4) 1 140 := ⟨by decide +kernel, rfl⟩
theorem d_M_readLaw_140 : Dc prog_14_method_62_code 140 (.iadd) 1 141 := ⟨by decide +kernel, rfl⟩
theorem d_M_readLaw_141 : Dc prog_14_method_62_code 141 (.aload_n 0) 1 142 := ⟨by decide +kernel, rfl⟩
theorem d_M_readLaw_142 : Dc prog_14_method_62_code 142 (.getfield 295) 3 145 := ⟨by decide +kernel, rfl⟩
theorem d_M_readLaw_145 : Dc prog_14_method_62_code 145 (.iastore) 1 146 := ⟨by decide +kernel, rfl⟩
theorem d_M_readLaw_146 : Dc prog_14_method_62_code 146 (.aload_n 0) 1 147 := ⟨by decide +kernel, rfl⟩
theorem d_M_readLaw_147 : Dc prog_14_method_62_code 147 (.getfield 42) 3 150 := ⟨by decide +kernel, rfl⟩
theorem d_M_readLaw_150 : Dc prog_14_method_62_code 150 (.iload_n 2) 1 151 := ⟨by decide +kernel, rfl⟩
theorem d_M_readLaw_151 : Dc prog_14_method_62_code 151 (.iconst 5) 1 152 := ⟨by decide +kernel, rfl⟩
theorem d_M_readLaw_152 : Dc prog_14_method_62_code 152 (.iadd) 1 153 := ⟨by decide +kernel, rfl⟩
theorem d_M_readLaw_153 : Dc prog_14_method_62_code 153 (.aload_n 0) 1 154 := ⟨by decide +kernel, rfl⟩
theorem d_M_readLaw_154 : Dc prog_14_method_62_code 154 (.getfield 295) 3 157 := ⟨by decide +kernel, rfl⟩
theorem d_M_readLaw_157 : Dc prog_14_method_62_code 157 (.iastore) 1 158 := ⟨by decide +kernel, rfl⟩
theorem d_M_readLaw_158 : Dc prog_14_method_62_code 158 (.aload_n 0) 1 159 := ⟨by decide +kernel, rfl⟩
theorem d_M_readLaw_159 : Dc prog_14_method_62_code 159 (.getfield 258) 3 162 := ⟨by decide +kernel, rfl⟩
theorem d_M_readLaw_162 : Dj prog_14_method_62_code 162 (.ifCond .ne 22) 165 22 184 := ⟨by decide +kernel, rfl, rfl⟩
theorem d_M_readLaw_165 : Dc prog_14_method_62_code 165 (.aload_n 0) 1 166 := ⟨by decide +kernel, rfl⟩
theorem d_M_readLaw_166 : Dc prog_14_method_62_code 166 (.ldc2_w 395) 3 169 := ⟨by decide +kernel, rfl⟩
theorem d_M_readLaw_169 : Dc prog_14_method_62_code 169 (.invokevirtual 316) 3 172 := ⟨by decide +kernel, rfl⟩
theorem d_M_readLaw_172 : Dj prog_14_method_62_code 172 (.ifCond .eq 12) 175 12 184 := ⟨by decide +kernel, rfl, rfl⟩
theorem d_M_readLaw_175 : Dc prog_14_method_62_code 175 (.aload_n 0) 1 176 := ⟨by decide +kernel, rfl⟩
theorem d_M_readLaw_176 : Dc prog_14_method_62_code 176 (.invokevirtual 262) 3 179 := ⟨by decide +kernel, rfl⟩
theorem d_M_readLaw_179 : Dc prog_14_method_62_code 179 (.aload_n 0) 1 180 := ⟨by decide +kernel, rfl⟩
theorem d_M_readLaw_180 : Dc prog_14_method_62_code 180 (.iconst 1) 1 181 := ⟨by decide +kernel, rfl⟩
theorem d_M_readLaw_181 : Dc prog_14_method_62_code 181 (.invokevirtual 392) 3 184 := ⟨by decide +kernel, rfl⟩
theorem d_M_readLaw_184 : Dc prog_14_method_62_code 184 (.aload_n 0) 1 185 := ⟨by decide +kernel, rfl⟩
theorem d_M_readLaw_185 : Dc prog_14_method_62_code 185 (.getfield 42) 3 188 := ⟨by decide +kernel, rfl⟩
theorem d_M_readLaw_188 : Dc prog_14_method_62_code 188 (.iload_n 2) 1 189 := ⟨by decide +kernel, rfl⟩
theorem d_M_readLaw_189 : Dc prog_14_method_62_code 189 (.bipush 6) 2 191 := ⟨by decide +kernel, rfl⟩
theorem d_M_readLaw_191 : Dc prog_14_method_62_code 191 (.iadd) 1 192 := ⟨by decide +kernel, rfl⟩
theorem d_M_readLaw_192 : Dc prog_14_method_62_code 192 (.aload_n 0) 1 193 := ⟨by decide +kernel, rfl⟩
theorem d_M_readLaw_193 : Dc prog_14_method_62_code 193 (.getfield 295) 3 196 := ⟨by decide +kernel, rfl⟩
theorem d_M_readLaw_196 : Dc prog_14_method_62_code 196 (.iastore) 1 197 := ⟨by decide +kernel, rfl⟩
theorem d_M_readLaw_197 : Dc prog_14_method_62_code 197 (.return_) 1 198 := ⟨by decide +kernel, rfl⟩
theorem fl_M_42 : FL "SubgraphDeskModel" 42 12 22 true (.array .int) (3, 10) := ⟨R_M, F_M, 69, ty_M, rfl, rfl, in_M, tyok_M, nm_M, by decide, gd 1494 (by decide +kernel) rfl, rfl, rfl, rfl⟩
theorem fl_M_90 : FL "SubgraphDeskModel" 90 12 33 true (.array .long) (3, 17) := ⟨R_M, F_M, 69, ty_M, rfl, rfl, in_M, tyok_M, nm_M, by decide, gd 1505 (by decide +kernel) rfl, rfl, rfl, rfl⟩
theorem fl_M_389 : FL "SubgraphDeskModel" 389 12 21 false .int (0, 0) := ⟨R_M, F_M, 69, ty_M, rfl, rfl, in_M, tyok_M, nm_M, by decide, gd 1493 (by decide +kernel) rfl, rfl, rfl, rfl⟩
theorem ml_M_392 : Cond.methodLink "SubgraphDeskModel" 392 m_M_readExpression.1 ∈ lw_gd := gd 1871 (by decide +kernel) rfl
theorem k_M_395 : Cond.constantLong "SubgraphDeskModel" 395 (294) ∈ lw_gd := gd 1947 (by decide +kernel) rfl
noncomputable def rdE (t : List Nat) (o : Bool) (m f p : Nat) : ResT := (rd t o 5000 m 0 f p (fun _ => none)).getD (.inl 0)
theorem rdE_eq {t : List Nat} {o : Bool} {m f p : Nat} (htl : t.length ≤ 400) (hf : okF t f) (hp : p ≤ 50) : rd t o 5000 m 0 f p (fun _ => none) = some (rdE t o m f p) := by
  unfold rdE
  have h := rd_tot (o := o) 5000 m 0 f p (fun _ => none) hf hp (by have := rkM_le m; omega)
  cases e : rd t o 5000 m 0 f p (fun _ => none) with
  | none => exact absurd e h
  | some x => rfl
abbrev ClT : Type := Bool × Den × Option Den
/-- the test of a clause, if it has one -/
noncomputable def ifT (t : List Nat) (o : Bool) (f p : Nat) : Nat ⊕ (Nat × Nat × Option Den) := if isW t f wIf then (match rdE t o 8 (nxT t f) p with
  | .inl e => .inl e
  | .inr (f2, p2, d) => .inr (f2, p2, some d)) else .inr (f, p, none)
noncomputable def clT (t : List Nat) (b : Bool) (r : ResT) : Nat ⊕ (Nat × Nat × ClT) := match r with
  | .inl e => .inl e
  | .inr (f1, p1, d) => match ifT t false f1 p1 with
    | .inl e => .inl e
    | .inr (f2, p2, q) => .inr (f2, p2, (b, d, q))
/-- a clause of a law, behind k of them -/
noncomputable def lawCl (t : List Nat) (k f p : Nat) : Nat ⊕ (Nat × Nat × ClT) := if 12 ≤ k then .inl f else if isW t f wCosts then clT t true (rdE t false 3 (nxT t f) p) else if isW t f wBars then clT t false (.inr (nxT t f, p, fun _ => none)) else .inl f
def headK (t : List Nat) (f : Nat) : Nat → Int32
  | 0 => -1
  | k + 1 => if isW t f (gA2 [wCosts, wBars] k) then nI k else headK t f k
theorem heads_w : ∀ k, k < 2 → (gA2 [wCosts, wBars] k).length ≤ 10 ∧ (∀ i, i < (gA2 [wCosts, wBars] k).length → 97 ≤ gA (gA2 [wCosts, wBars] k) i ∧ gA (gA2 [wCosts, wBars] k) i ≤ 122) ∧ (gA mHeads k : Int) = wcN (gA2 [wCosts, wBars] k) (gA2 [wCosts, wBars] k).length := by decide
theorem head_c {t : List Nat} {f : Nat} (h : isW t f wCosts) : headK t f 2 = nI 0 := by
  have h2 : ¬ isW t f wBars := fun z => absurd (isW_un h z) (by decide)
  show (if isW t f wBars then nI 1 else if isW t f wCosts then nI 0 else -1) = _
  rw [if_neg h2, if_pos h]
theorem head_b {t : List Nat} {f : Nat} (h : isW t f wBars) : headK t f 2 = nI 1 := by
  show (if isW t f wBars then nI 1 else if isW t f wCosts then nI 0 else -1) = _
  rw [if_pos h]
theorem head_n {t : List Nat} {f : Nat} (h : ¬ isW t f wCosts) (h2 : ¬ isW t f wBars) : headK t f 2 = -1 := by
  show (if isW t f wBars then nI 1 else if isW t f wCosts then nI 0 else -1) = _
  rw [if_neg h2, if_neg h]
/-- a clause in the reference's table -/
def ClE (h : Nat → Int32) (c : List (Nat × Nat)) (k : Nat) (q : ClT) : Prop := h k = (if q.1 then nI 0 else nI 1) ∧ ∃ a b x e : Nat, h (k + 3) = nI a ∧ h (k + 4) = nI b ∧ h (k + 5) = nI x ∧ h (k + 6) = nI e ∧ b ≤ c.length ∧ e ≤ c.length ∧ x ≤ c.length ∧ (q.1 = true → SegL c a b q.2.1) ∧ (match q.2.2 with | none => x = e | some f => SegL c x e f)
def ClsP (w : Mem) (c : List (Nat × Nat)) (cls : List ClT) : Prop := rI w 89 21 = nI cls.length ∧ ∀ (j : Nat) (q : ClT), cls[j]? = some q → ClE (rI w 99) c (8 * j) q
theorem ClE.same {h h2 : Nat → Int32} {c c2 : List (Nat × Nat)} {k : Nat} {q : ClT} (hc : ClE h c k q) (hs : SameC c.length c c2) (e : ∀ j, j < 8 → h2 (k + j) = h (k + j)) : ClE h2 c2 k q := by
  obtain ⟨h0, a, b, x, y, h1, h2', h3, h4, h5, h6, h7, h8, h9⟩ := hc
  have hl := hs.1
  refine ⟨by rw [← h0]; exact e 0 (by decide), a, b, x, y, by rw [← h1]; exact e 3 (by decide), by rw [← h2']; exact e 4 (by decide), by rw [← h3]; exact e 5 (by decide), by rw [← h4]; exact e 6 (by decide), by omega, by omega, by omega, fun z => SegS.same (h8 z) hs h5, ?_⟩
  obtain ⟨q1, q2, q3⟩ := q
  cases q3 with
  | none => exact h9
  | some f => exact SegS.same (show SegL c x y f from h9) hs h6
/-- while a text is read: the tables too -/
def FrW (w w2 : Mem) : Prop := (∀ a, a ≠ 89 → (a < 99 ∨ 103 < a) → a ≠ 126 → rI w2 a = rI w a) ∧ (∀ k, k ∈ [1, 8, 11, 13, 20, 64, 68] → rI w2 89 k = rI w 89 k) ∧ (∀ a, a ≠ 89 → rJ w2 a = rJ w a) ∧ w2.2.2 = w.2.2
theorem FrW.rf (w : Mem) : FrW w w := ⟨fun _ _ _ _ => rfl, fun _ _ => rfl, fun _ _ => rfl, rfl⟩
theorem FrW.tr {a b c : Mem} (h : FrW a b) (h2 : FrW b c) : FrW a c := ⟨fun x h1 h3 h4 => (h2.1 x h1 h3 h4).trans (h.1 x h1 h3 h4), fun k hk => (h2.2.1 k hk).trans (h.2.1 k hk), fun x hx => (h2.2.2.1 x hx).trans (h.2.2.1 x hx), h2.2.2.2.trans h.2.2.2⟩
theorem FrR.W {w w2 : Mem} (h : FrR w w2) : FrW w w2 := ⟨fun a h1 h2 _ => h.1 a h1 (by omega), fun k hk => h.2.1 k (by rintro rfl; exact absurd hk (by decide)) (by rintro rfl; exact absurd hk (by decide)) (by rintro rfl; exact absurd hk (by decide)) (by rintro rfl; exact absurd hk (by decide)) (by rintro rfl; exact absurd hk (by decide)) (by rintro rfl; exact absurd hk (by decide)) (by rintro rfl; exact absurd hk (by decide)) (by rintro rfl; exact absurd hk (by decide)) (by rintro rfl; exact absurd hk (by decide)), h.2.2.1, h.2.2.2.2⟩
theorem FrW.I {w w2 : Mem} {o k : Nat} {x : Int32} (ho : o = 99 ∨ o = 126 ∨ (o = 89 ∧ k ∉ [1, 8, 11, 13, 20, 64, 68])) (h : FrW w w2) : FrW w (sI w2 o k x) := by
  refine ⟨fun a h1 h2 h3 => by rw [rI_sI_ne _ _ _ (by omega)]; exact h.1 a h1 h2 h3, fun j hj => ?_, h.2.2⟩
  by_cases e : o = 89
  · subst e; rw [rI_sI, upd_eq, if_neg (by rintro rfl; rcases ho with z | z | z; omega; omega; exact z.2 hj)]; exact h.2.1 j hj
  · rw [rI_sI_ne _ _ _ (Ne.symm e)]; exact h.2.1 j hj
theorem FrW.A {w w2 : Mem} {o : Nat} {f : Nat → Int32} (ho : o = 99 ∨ o = 126) (h : FrW w w2) : FrW w (sA w2 o f) := ⟨fun a h1 h2 h3 => by rw [rI_sA_ne _ _ (by omega)]; exact h.1 a h1 h2 h3, fun j hj => by rw [rI_sA_ne _ _ (by omega)]; exact h.2.1 j hj, h.2.2⟩
theorem RdC.W {w w2 : Mem} {o : Bool} (h : RdC w o) (hf : FrW w w2) : RdC w2 o := by
  refine ⟨by rw [hf.2.1 20 (by decide)]; exact h.1, ?_⟩
  obtain ⟨h1, h2, h3, h4⟩ := h.2
  refine ⟨fun k hk => ?_, fun k hk => ?_, fun k hk => ?_, fun k hk => ?_⟩
  · rw [hf.2.2.1 104 (by decide)]; exact h1 k hk
  · rw [hf.2.2.1 105 (by decide)]; exact h2 k hk
  · rw [hf.2.2.1 106 (by decide)]; exact h3 k hk
  · rw [hf.2.2.1 125 (by decide)]; exact h4 k hk
theorem CodeP.at_ {w w2 : Mem} {c : List (Nat × Nat)} (h : CodeP w c) (h1 : rI w2 100 = rI w 100) (h2 : rI w2 101 = rI w 101) (h3 : rI w2 89 23 = rI w 89 23) : CodeP w2 c := by
  unfold CodeP
  rw [h1, h2, h3]; exact h
theorem PileP.at_ {w w2 : Mem} {c : List (Nat × Nat)} (h : PileP w c) (h1 : rI w2 102 = rI w 102) (h2 : rI w2 103 = rI w 103) (h3 : rI w2 89 29 = rI w 89 29) : PileP w2 c := by
  unfold PileP
  rw [h1, h2, h3]; exact h
/-- another world that differs in the tables alone -/
def FrV (w w2 : Mem) : Prop := (∀ a, a ≠ 89 → a ≠ 99 → a ≠ 126 → rI w2 a = rI w a) ∧ (∀ k, k ≠ 21 → rI w2 89 k = rI w 89 k) ∧ w2.2 = w.2
theorem FrV.rf (w : Mem) : FrV w w := ⟨fun _ _ _ _ => rfl, fun _ _ => rfl, rfl⟩
theorem FrV.I {w w2 : Mem} {o k : Nat} {x : Int32} (ho : o = 99 ∨ o = 126 ∨ (o = 89 ∧ k = 21)) (h : FrV w w2) : FrV w (sI w2 o k x) := by
  refine ⟨fun a h1 h2 h3 => by rw [rI_sI_ne _ _ _ (by omega)]; exact h.1 a h1 h2 h3, fun j hj => ?_, h.2.2⟩
  by_cases e : o = 89
  · subst e; rw [rI_sI, upd_eq, if_neg (by omega)]; exact h.2.1 j hj
  · rw [rI_sI_ne _ _ _ (Ne.symm e)]; exact h.2.1 j hj
theorem FrV.A {w w2 : Mem} {o : Nat} {f : Nat → Int32} (ho : o = 99 ∨ o = 126) (h : FrV w w2) : FrV w (sA w2 o f) := ⟨fun a h1 h2 h3 => by rw [rI_sA_ne _ _ (by omega)]; exact h.1 a h1 h2 h3, fun j hj => by rw [rI_sA_ne _ _ (by omega)]; exact h.2.1 j hj, h.2.2⟩
theorem FrV.W {w w2 : Mem} (h : FrV w w2) : FrW w w2 := ⟨fun a h1 h2 h3 => h.1 a h1 (by omega) h3, fun k hk => h.2.1 k (by rintro rfl; exact absurd hk (by decide)), fun a _ => by unfold rJ; rw [h.2.2], by rw [h.2.2]⟩
theorem TokP.v {w w2 : Mem} {t : List Nat} {f : Nat} (h : TokP w t f) (hf : FrV w w2) : TokP w2 t f := by
  unfold TokP
  rw [hf.1 98 (by decide) (by decide) (by decide), hf.2.1 13 (by decide), hf.2.1 14 (by decide), hf.2.1 15 (by decide), hf.2.1 16 (by decide)]
  refine ⟨h.1, h.2.1, h.2.2.1, h.2.2.2.1, ?_, h.2.2.2.2.2⟩
  show rJ w2 89 17 = _
  unfold rJ
  rw [hf.2.2]
  exact h.2.2.2.2.1
theorem RdP.v {w w2 : Mem} {t : List Nat} {f p : Nat} {c s : List (Nat × Nat)} {od : Nat} (h : RdP w t f p c s od) (hf : FrV w w2) : RdP w2 t f p c s od := by
  obtain ⟨h1, h2, h3, h4, h5, h6, h7⟩ := h
  exact ⟨h1.v hf, by rw [hf.2.1 26 (by decide)]; exact h2, h3.at_ (hf.1 100 (by decide) (by decide) (by decide)) (hf.1 101 (by decide) (by decide) (by decide)) (hf.2.1 23 (by decide)), h4.at_ (hf.1 102 (by decide) (by decide) (by decide)) (hf.1 103 (by decide) (by decide) (by decide)) (hf.2.1 29 (by decide)), by rw [hf.2.1 30 (by decide)]; exact h5, by rw [hf.2.1 19 (by decide)]; exact h6, by rw [hf.2.1 18 (by decide)]; exact h7⟩
theorem BadP.v {w w2 : Mem} {t : List Nat} {e : Nat} (h : BadP w t e) (hf : FrV w w2) : BadP w2 t e := by
  obtain ⟨h1, h2, h3, h4, c, s, h5, h6, h7⟩ := h
  exact ⟨by rw [hf.1 98 (by decide) (by decide) (by decide), hf.2.1 13 (by decide)]; exact h1, by rw [hf.2.1 19 (by decide)]; exact h2, by rw [hf.2.1 18 (by decide)]; exact h3, h4, c, s, h5.at_ (hf.1 100 (by decide) (by decide) (by decide)) (hf.1 101 (by decide) (by decide) (by decide)) (hf.2.1 23 (by decide)), h6.at_ (hf.1 102 (by decide) (by decide) (by decide)) (hf.1 103 (by decide) (by decide) (by decide)) (hf.2.1 29 (by decide)), h7⟩
theorem BadB.code {w : Mem} {t : List Nat} {e : Nat} (h : BadB w t e) : ∃ m, rI w 89 23 = nI m := by
  obtain ⟨h1, h2, h3, h4, c, h5⟩ := h
  exact ⟨_, h5.1⟩
theorem RdB.v {w w2 : Mem} {t : List Nat} {f p : Nat} {c : List (Nat × Nat)} (h : RdB w t f p c) (hf : FrV w w2) : RdB w2 t f p c := by
  obtain ⟨h1, h2, h3, h6, h7⟩ := h
  exact ⟨h1.v hf, by rw [hf.2.1 26 (by decide)]; exact h2, h3.at_ (hf.1 100 (by decide) (by decide) (by decide)) (hf.1 101 (by decide) (by decide) (by decide)) (hf.2.1 23 (by decide)), by rw [hf.2.1 19 (by decide)]; exact h6, by rw [hf.2.1 18 (by decide)]; exact h7⟩
theorem BadB.v {w w2 : Mem} {t : List Nat} {e : Nat} (h : BadB w t e) (hf : FrV w w2) : BadB w2 t e := by
  obtain ⟨h1, h2, h3, h4, c, h5⟩ := h
  exact ⟨by rw [hf.1 98 (by decide) (by decide) (by decide), hf.2.1 13 (by decide)]; exact h1, by rw [hf.2.1 19 (by decide)]; exact h2, by rw [hf.2.1 18 (by decide)]; exact h3, h4, c, h5.at_ (hf.1 100 (by decide) (by decide) (by decide)) (hf.1 101 (by decide) (by decide) (by decide)) (hf.2.1 23 (by decide))⟩
def lawQ (t : List Nat) (cls : List ClT) (r : Nat ⊕ (Nat × Nat × ClT)) (w2 : Mem) : Prop := match r with
  | .inl e => BadB w2 t e
  | .inr (f2, p2, q) => ∃ c2, RdB w2 t f2 p2 c2 ∧ RdX false c2 [] f2 p2 0 ∧ ClsP w2 c2 (cls ++ [q])
theorem c_M_readLaw_n {E : EV} {w : Mem} {t : List Nat} {f p : Nat} {c : List (Nat × Nat)} {cls : List ClT} (h : RdB w t f p c) (hX0 : RdX false c [] f p 0) (hC : RdC w false) (hcl : ClsP w c cls) (hc12 : cls.length ≤ 12) (h1 : ¬ isW t f wCosts) (h2 : ¬ isW t f wBars) : T E m_M_readLaw 7 0 0 [.ref 89] w (fun r w2 => r = none ∧ FrW w w2 ∧ BadB w2 t f) := by
  refine T_of (L := [.ref 89, un, un, un]) cf_M_readLaw rfl (Nat.le_of_ble_eq_true rfl) (fun X hX hF => ?_)
  have k34 : G0 E X 0 0 34 [.ref 89, .int (headK t f 2), un, un] [] w := by
    rw [head_n h1 h2]
    refine g_aload0 hX d_M_readLaw_34 ?_
    refine g_iload1 hX d_M_readLaw_35 ?_
    refine g_iconst (v := -1) hX d_M_readLaw_36 rfl ?_
    refine g_icmp_eq hX d_M_readLaw_37 (fun c0 => ?_) (fun h => absurd rfl h)
    refine g_iconst (v := nI 0) hX d_M_readLaw_53 rfl ?_
    refine g_callV (As := [_]) hX hF.1 d_M_readLaw_54 ml_M_291 cf_M_must cv_M_must rfl rfl (c_M_mustN h.1.2.1 h.2.2.2.1 rfl) (rcv_obj hX (lv_89 _) rfl rfl) (by omega) (by omega) (by omega) (Nat.le_of_ble_eq_true rfl) ?_
    refine ret_k ?_
    refine g_aload0 hX d_M_readLaw_57 ?_
    refine g_getZ hX d_M_readLaw_58 fl_M_258 (lv_89 _) ?_
    refine g_topi h.bad.2.1 ?_
    refine g_if_eq hX d_M_readLaw_61 (fun h => absurd h (by decide)) (fun c1 => ?_)
    refine g_vret hX hF d_M_readLaw_64 (by omega) (by omega) ?_
    exact ⟨rfl, (FrR.rf w).bad.W, h.bad⟩
  have lpH : ∀ (fuel : Nat) (k : Nat), 2 - k < fuel → (k ≤ 2) → G0 E X 0 0 4 [.ref 89, .int (headK t f k), .int (nI k), un] [] w := by
    intro fuel
    induction fuel with
    | zero => intro k q0; exact absurd q0 (Nat.not_lt_zero _)
    | succ fuel ih =>
      intro k q0 q1
      refine g_iload2 hX d_M_readLaw_4 ?_
      refine g_iconst (v := nI 2) hX d_M_readLaw_5 rfl ?_
      refine g_icmpN_ge hX d_M_readLaw_6 (by omega) (by omega) (fun c0 => ?_) (fun c0 => ?_)
      · refine g_fget 2 ?_
        have hk2 : k = 2 := by omega
        rw [hk2]
        exact k34
      · obtain ⟨w1, w2, w3⟩ := heads_w k (by omega)
        refine g_aload0 hX d_M_readLaw_9 ?_
        refine g_aload0 hX d_M_readLaw_10 ?_
        refine g_getF hX d_M_readLaw_11 fl_M_90 (lv_89 _) ?_
        refine g_iload2 hX d_M_readLaw_14 ?_
        refine g_lald hX d_M_readLaw_15 (lv_106 _) rfl (by omega) ?_
        refine g_topl (hC.2.2.2.1 k (by omega)) ?_
        refine g_callV (As := [_]) hX hF.1 d_M_readLaw_16 ml_M_316 cf_M_isWord cv_M_isWord rfl rfl (c_M_isWord h.1 (show lN _ = _ by rw [lI_nat]; exact congrArg lI w3) w1 w2) (rcv_obj hX (lv_89 _) rfl rfl) (by omega) (by omega) (by omega) (Nat.le_of_ble_eq_true rfl) ?_
        refine ret_k ?_
        refine g_ifB_eq hX d_M_readLaw_19 (fun e19 => ?_) (fun e19 => ?_)
        · refine g_iload1 hX d_M_readLaw_26 ?_
          refine g_istore1 hX d_M_readLaw_27 rfl (by decide) ?_
          refine g_iincN2 hX d_M_readLaw_28 rfl (by decide) ?_
          refine g_goto hX d_M_readLaw_31 ?_
          refine g_loc (show _ = [.ref 89, .int (headK t f (k + 1)), .int (nI (k + 1)), un] by rw [headK, if_neg e19]) ?_
          exact ih (k + 1) (by omega) (by omega)
        · refine g_iload2 hX d_M_readLaw_22 ?_
          refine g_goto hX d_M_readLaw_23 ?_
          refine g_istore1 hX d_M_readLaw_27 rfl (by decide) ?_
          refine g_iincN2 hX d_M_readLaw_28 rfl (by decide) ?_
          refine g_goto hX d_M_readLaw_31 ?_
          refine g_loc (show _ = [.ref 89, .int (headK t f (k + 1)), .int (nI (k + 1)), un] by rw [headK, if_pos e19]) ?_
          exact ih (k + 1) (by omega) (by omega)
  refine g_iconst (v := -1) hX d_M_readLaw_0 rfl ?_
  refine g_istore1 hX d_M_readLaw_1 rfl (by decide) ?_
  refine g_iconst (v := nI 0) hX d_M_readLaw_2 rfl ?_
  refine g_istore2 hX d_M_readLaw_3 rfl (by decide) ?_
  exact lpH 3 0 (by omega) (by omega)
theorem c_M_readLaw_cF {E : EV} {w : Mem} {t : List Nat} {f p : Nat} {c : List (Nat × Nat)} {cls : List ClT} (h : RdB w t f p c) (hX0 : RdX false c [] f p 0) (hC : RdC w false) (hcl : ClsP w c cls) (hc12 : cls.length ≤ 12) (h1 : isW t f wCosts) (hk : 12 ≤ cls.length) : T E m_M_readLaw 7 0 0 [.ref 89] w (fun r w2 => r = none ∧ FrW w w2 ∧ BadB w2 t f) := by
  refine T_of (L := [.ref 89, un, un, un]) cf_M_readLaw rfl (Nat.le_of_ble_eq_true rfl) (fun X hX hF => ?_)
  have k34 : G0 E X 0 0 34 [.ref 89, .int (headK t f 2), un, un] [] w := by
    rw [head_c h1]
    refine g_aload0 hX d_M_readLaw_34 ?_
    refine g_iload1 hX d_M_readLaw_35 ?_
    refine g_iconst (v := -1) hX d_M_readLaw_36 rfl ?_
    refine g_icmp_eq hX d_M_readLaw_37 (fun h => absurd h (show ¬ nI 0 = -1 by decide)) (fun c0 => ?_)
    refine g_aload0 hX d_M_readLaw_40 ?_
    refine g_getI hX d_M_readLaw_41 fl_M_389 (lv_89 _) ?_
    refine g_topi hcl.1 ?_
    refine g_bipush (v := nI 12) hX d_M_readLaw_44 rfl ?_
    refine g_icmpN_ge hX d_M_readLaw_46 (by omega) (by omega) (fun c1 => ?_) (fun h => absurd h (by omega))
    refine g_iconst (v := nI 0) hX d_M_readLaw_53 rfl ?_
    refine g_callV (As := [_]) hX hF.1 d_M_readLaw_54 ml_M_291 cf_M_must cv_M_must rfl rfl (c_M_mustN h.1.2.1 h.2.2.2.1 rfl) (rcv_obj hX (lv_89 _) rfl rfl) (by omega) (by omega) (by omega) (Nat.le_of_ble_eq_true rfl) ?_
    refine ret_k ?_
    refine g_aload0 hX d_M_readLaw_57 ?_
    refine g_getZ hX d_M_readLaw_58 fl_M_258 (lv_89 _) ?_
    refine g_topi h.bad.2.1 ?_
    refine g_if_eq hX d_M_readLaw_61 (fun h => absurd h (by decide)) (fun c2 => ?_)
    refine g_vret hX hF d_M_readLaw_64 (by omega) (by omega) ?_
    exact ⟨rfl, (FrR.rf w).bad.W, h.bad⟩
  have lpH : ∀ (fuel : Nat) (k : Nat), 2 - k < fuel → (k ≤ 2) → G0 E X 0 0 4 [.ref 89, .int (headK t f k), .int (nI k), un] [] w := by
    intro fuel
    induction fuel with
    | zero => intro k q0; exact absurd q0 (Nat.not_lt_zero _)
    | succ fuel ih =>
      intro k q0 q1
      refine g_iload2 hX d_M_readLaw_4 ?_
      refine g_iconst (v := nI 2) hX d_M_readLaw_5 rfl ?_
      refine g_icmpN_ge hX d_M_readLaw_6 (by omega) (by omega) (fun c0 => ?_) (fun c0 => ?_)
      · refine g_fget 2 ?_
        have hk2 : k = 2 := by omega
        rw [hk2]
        exact k34
      · obtain ⟨w1, w2, w3⟩ := heads_w k (by omega)
        refine g_aload0 hX d_M_readLaw_9 ?_
        refine g_aload0 hX d_M_readLaw_10 ?_
        refine g_getF hX d_M_readLaw_11 fl_M_90 (lv_89 _) ?_
        refine g_iload2 hX d_M_readLaw_14 ?_
        refine g_lald hX d_M_readLaw_15 (lv_106 _) rfl (by omega) ?_
        refine g_topl (hC.2.2.2.1 k (by omega)) ?_
        refine g_callV (As := [_]) hX hF.1 d_M_readLaw_16 ml_M_316 cf_M_isWord cv_M_isWord rfl rfl (c_M_isWord h.1 (show lN _ = _ by rw [lI_nat]; exact congrArg lI w3) w1 w2) (rcv_obj hX (lv_89 _) rfl rfl) (by omega) (by omega) (by omega) (Nat.le_of_ble_eq_true rfl) ?_
        refine ret_k ?_
        refine g_ifB_eq hX d_M_readLaw_19 (fun e19 => ?_) (fun e19 => ?_)
        · refine g_iload1 hX d_M_readLaw_26 ?_
          refine g_istore1 hX d_M_readLaw_27 rfl (by decide) ?_
          refine g_iincN2 hX d_M_readLaw_28 rfl (by decide) ?_
          refine g_goto hX d_M_readLaw_31 ?_
          refine g_loc (show _ = [.ref 89, .int (headK t f (k + 1)), .int (nI (k + 1)), un] by rw [headK, if_neg e19]) ?_
          exact ih (k + 1) (by omega) (by omega)
        · refine g_iload2 hX d_M_readLaw_22 ?_
          refine g_goto hX d_M_readLaw_23 ?_
          refine g_istore1 hX d_M_readLaw_27 rfl (by decide) ?_
          refine g_iincN2 hX d_M_readLaw_28 rfl (by decide) ?_
          refine g_goto hX d_M_readLaw_31 ?_
          refine g_loc (show _ = [.ref 89, .int (headK t f (k + 1)), .int (nI (k + 1)), un] by rw [headK, if_pos e19]) ?_
          exact ih (k + 1) (by omega) (by omega)
  refine g_iconst (v := -1) hX d_M_readLaw_0 rfl ?_
  refine g_istore1 hX d_M_readLaw_1 rfl (by decide) ?_
  refine g_iconst (v := nI 0) hX d_M_readLaw_2 rfl ?_
  refine g_istore2 hX d_M_readLaw_3 rfl (by decide) ?_
  exact lpH 3 0 (by omega) (by omega)
theorem c_M_readLaw_bF {E : EV} {w : Mem} {t : List Nat} {f p : Nat} {c : List (Nat × Nat)} {cls : List ClT} (h : RdB w t f p c) (hX0 : RdX false c [] f p 0) (hC : RdC w false) (hcl : ClsP w c cls) (hc12 : cls.length ≤ 12) (h1 : isW t f wBars) (hk : 12 ≤ cls.length) : T E m_M_readLaw 7 0 0 [.ref 89] w (fun r w2 => r = none ∧ FrW w w2 ∧ BadB w2 t f) := by
  refine T_of (L := [.ref 89, un, un, un]) cf_M_readLaw rfl (Nat.le_of_ble_eq_true rfl) (fun X hX hF => ?_)
  have k34 : G0 E X 0 0 34 [.ref 89, .int (headK t f 2), un, un] [] w := by
    rw [head_b h1]
    refine g_aload0 hX d_M_readLaw_34 ?_
    refine g_iload1 hX d_M_readLaw_35 ?_
    refine g_iconst (v := -1) hX d_M_readLaw_36 rfl ?_
    refine g_icmp_eq hX d_M_readLaw_37 (fun h => absurd h (show ¬ nI 1 = -1 by decide)) (fun c0 => ?_)
    refine g_aload0 hX d_M_readLaw_40 ?_
    refine g_getI hX d_M_readLaw_41 fl_M_389 (lv_89 _) ?_
    refine g_topi hcl.1 ?_
    refine g_bipush (v := nI 12) hX d_M_readLaw_44 rfl ?_
    refine g_icmpN_ge hX d_M_readLaw_46 (by omega) (by omega) (fun c1 => ?_) (fun h => absurd h (by omega))
    refine g_iconst (v := nI 0) hX d_M_readLaw_53 rfl ?_
    refine g_callV (As := [_]) hX hF.1 d_M_readLaw_54 ml_M_291 cf_M_must cv_M_must rfl rfl (c_M_mustN h.1.2.1 h.2.2.2.1 rfl) (rcv_obj hX (lv_89 _) rfl rfl) (by omega) (by omega) (by omega) (Nat.le_of_ble_eq_true rfl) ?_
    refine ret_k ?_
    refine g_aload0 hX d_M_readLaw_57 ?_
    refine g_getZ hX d_M_readLaw_58 fl_M_258 (lv_89 _) ?_
    refine g_topi h.bad.2.1 ?_
    refine g_if_eq hX d_M_readLaw_61 (fun h => absurd h (by decide)) (fun c2 => ?_)
    refine g_vret hX hF d_M_readLaw_64 (by omega) (by omega) ?_
    exact ⟨rfl, (FrR.rf w).bad.W, h.bad⟩
  have lpH : ∀ (fuel : Nat) (k : Nat), 2 - k < fuel → (k ≤ 2) → G0 E X 0 0 4 [.ref 89, .int (headK t f k), .int (nI k), un] [] w := by
    intro fuel
    induction fuel with
    | zero => intro k q0; exact absurd q0 (Nat.not_lt_zero _)
    | succ fuel ih =>
      intro k q0 q1
      refine g_iload2 hX d_M_readLaw_4 ?_
      refine g_iconst (v := nI 2) hX d_M_readLaw_5 rfl ?_
      refine g_icmpN_ge hX d_M_readLaw_6 (by omega) (by omega) (fun c0 => ?_) (fun c0 => ?_)
      · refine g_fget 2 ?_
        have hk2 : k = 2 := by omega
        rw [hk2]
        exact k34
      · obtain ⟨w1, w2, w3⟩ := heads_w k (by omega)
        refine g_aload0 hX d_M_readLaw_9 ?_
        refine g_aload0 hX d_M_readLaw_10 ?_
        refine g_getF hX d_M_readLaw_11 fl_M_90 (lv_89 _) ?_
        refine g_iload2 hX d_M_readLaw_14 ?_
        refine g_lald hX d_M_readLaw_15 (lv_106 _) rfl (by omega) ?_
        refine g_topl (hC.2.2.2.1 k (by omega)) ?_
        refine g_callV (As := [_]) hX hF.1 d_M_readLaw_16 ml_M_316 cf_M_isWord cv_M_isWord rfl rfl (c_M_isWord h.1 (show lN _ = _ by rw [lI_nat]; exact congrArg lI w3) w1 w2) (rcv_obj hX (lv_89 _) rfl rfl) (by omega) (by omega) (by omega) (Nat.le_of_ble_eq_true rfl) ?_
        refine ret_k ?_
        refine g_ifB_eq hX d_M_readLaw_19 (fun e19 => ?_) (fun e19 => ?_)
        · refine g_iload1 hX d_M_readLaw_26 ?_
          refine g_istore1 hX d_M_readLaw_27 rfl (by decide) ?_
          refine g_iincN2 hX d_M_readLaw_28 rfl (by decide) ?_
          refine g_goto hX d_M_readLaw_31 ?_
          refine g_loc (show _ = [.ref 89, .int (headK t f (k + 1)), .int (nI (k + 1)), un] by rw [headK, if_neg e19]) ?_
          exact ih (k + 1) (by omega) (by omega)
        · refine g_iload2 hX d_M_readLaw_22 ?_
          refine g_goto hX d_M_readLaw_23 ?_
          refine g_istore1 hX d_M_readLaw_27 rfl (by decide) ?_
          refine g_iincN2 hX d_M_readLaw_28 rfl (by decide) ?_
          refine g_goto hX d_M_readLaw_31 ?_
          refine g_loc (show _ = [.ref 89, .int (headK t f (k + 1)), .int (nI (k + 1)), un] by rw [headK, if_pos e19]) ?_
          exact ih (k + 1) (by omega) (by omega)
  refine g_iconst (v := -1) hX d_M_readLaw_0 rfl ?_
  refine g_istore1 hX d_M_readLaw_1 rfl (by decide) ?_
  refine g_iconst (v := nI 0) hX d_M_readLaw_2 rfl ?_
  refine g_istore2 hX d_M_readLaw_3 rfl (by decide) ?_
  exact lpH 3 0 (by omega) (by omega)
theorem c_M_readLaw_costs_bad_no {E : EV} {w : Mem} {t : List Nat} {f p : Nat} {c : List (Nat × Nat)} {cls : List ClT} (h : RdB w t f p c) (hX0 : RdX false c [] f p 0) (hC : RdC w false) (hcl : ClsP w c cls) (hc12 : cls.length ≤ 12) (h1 : isW t f wCosts) (hk : cls.length < 12) {e : Nat} (hs : rdE t false 3 (nxT t f) p = .inl e) : T E m_M_readLaw 7 0 0 [.ref 89] w (fun r w2 => r = none ∧ FrW w w2 ∧ BadB w2 t e) := by
  refine T_of (L := [.ref 89, un, un, un]) cf_M_readLaw rfl (Nat.le_of_ble_eq_true rfl) (fun X hX hF => ?_)
  have htl := h.1.1.1
  have hp50 := hX0.1.2.2.1
  have k34 : G0 E X 0 0 34 [.ref 89, .int (headK t f 2), un, un] [] w := by
    rw [head_c h1]
    refine g_aload0 hX d_M_readLaw_34 ?_
    refine g_iload1 hX d_M_readLaw_35 ?_
    refine g_iconst (v := -1) hX d_M_readLaw_36 rfl ?_
    refine g_icmp_eq hX d_M_readLaw_37 (fun h => absurd h (show ¬ nI 0 = -1 by decide)) (fun c0 => ?_)
    refine g_aload0 hX d_M_readLaw_40 ?_
    refine g_getI hX d_M_readLaw_41 fl_M_389 (lv_89 _) ?_
    refine g_topi hcl.1 ?_
    refine g_bipush (v := nI 12) hX d_M_readLaw_44 rfl ?_
    refine g_icmpN_ge hX d_M_readLaw_46 (by omega) (by omega) (fun h => absurd h (by omega)) (fun c1 => ?_)
    refine g_iconst (v := nI 1) hX d_M_readLaw_49 rfl ?_
    refine g_goto hX d_M_readLaw_50 ?_
    refine g_callV (As := [_]) hX hF.1 d_M_readLaw_54 ml_M_291 cf_M_must cv_M_must rfl rfl (c_M_mustY h.1 h.2.2.2.1 rfl) (rcv_obj hX (lv_89 _) rfl rfl) (by omega) (by omega) (by omega) (Nat.le_of_ble_eq_true rfl) ?_
    rintro _ w2 ⟨rfl, hf2, hT2⟩
    have hR2 := h.tok hf2 hT2
    have hC2 := hC.fr hf2.R
    have hfw2 := hf2.R.W
    have hX2 := hX0.mono (Nat.le_of_lt (nxT_gt (isW_0 h1)))
    have hok2 := hT2.2.2.2.2.2
    have h21 : rI w2 89 21 = nI cls.length := by rw [hf2.2.1 21 (by decide) (by decide) (by decide)]; exact hcl.1
    have k96 : ∀ g : Nat → Int32, (∀ j, j < 8 * cls.length → g j = rI w2 99 j) → G0 E X 0 0 96 [.ref 89, .int (nI 0), .int (nI (8 * cls.length)), un] [] (sA w2 99 g) := by
      intro g hg2
      refine g_aload0 hX d_M_readLaw_96 ?_
      refine g_getF hX d_M_readLaw_97 fl_M_42 (lv_89 _) ?_
      refine g_iload2 hX d_M_readLaw_100 ?_
      refine g_iload1 hX d_M_readLaw_101 ?_
      refine g_iast hX d_M_readLaw_102 (lv_99 _) rfl (by omega) ?_
      refine g_aload0 hX d_M_readLaw_103 ?_
      refine g_dup hX d_M_readLaw_104 rfl ?_
      refine g_getI hX d_M_readLaw_105 fl_M_389 (lv_89 _) ?_
      refine g_topi (show rI (sI (sA w2 99 g) 99 (8 * cls.length) (nI 0)) 89 21 = nI cls.length from h21) ?_
      refine g_iconst (v := nI 1) hX d_M_readLaw_108 rfl ?_
      refine g_iaddN hX d_M_readLaw_109 ?_
      refine g_putI hX d_M_readLaw_110 fl_M_389 (lv_89 _) ?_
      refine g_aload0 hX d_M_readLaw_113 ?_
      refine g_getF hX d_M_readLaw_114 fl_M_42 (lv_89 _) ?_
      refine g_iload2 hX d_M_readLaw_117 ?_
      refine g_iconst (v := nI 3) hX d_M_readLaw_118 rfl ?_
      refine g_iaddN hX d_M_readLaw_119 ?_
      refine g_aload0 hX d_M_readLaw_120 ?_
      refine g_getI hX d_M_readLaw_121 fl_M_295 (lv_89 _) ?_
      refine g_topi (show rI (sI (sI (sA w2 99 g) 99 (8 * cls.length) (nI 0)) 89 21 (nI (cls.length + 1))) 89 23 = nI c.length by rw [rI_sI, upd_eq, if_neg (by decide)]; exact hR2.2.2.1.1) ?_
      refine g_iast hX d_M_readLaw_124 (lv_99 _) rfl (by omega) ?_
      have hv3 : FrV w2 (sI (sI (sI (sA w2 99 g) 99 (8 * cls.length) (nI 0)) 89 21 (nI (cls.length + 1))) 99 (8 * cls.length + 3) (nI c.length)) := (((FrV.rf w2).A (Or.inl rfl)).I (Or.inl rfl)).I (Or.inr (Or.inr ⟨rfl, rfl⟩)) |>.I (Or.inl rfl)
      have e99 : rI (sI (sI (sI (sA w2 99 g) 99 (8 * cls.length) (nI 0)) 89 21 (nI (cls.length + 1))) 99 (8 * cls.length + 3) (nI c.length)) 99 = upd (upd g (8 * cls.length) (nI 0)) (8 * cls.length + 3) (nI c.length) := by rw [rI_sI, rI_sI_ne _ _ _ (by decide), rI_sI, rI_sA]
      have e21 : rI (sI (sI (sI (sA w2 99 g) 99 (8 * cls.length) (nI 0)) 89 21 (nI (cls.length + 1))) 99 (8 * cls.length + 3) (nI c.length)) 89 21 = nI (cls.length + 1) := by rw [rI_sI_ne _ _ _ (by decide), rI_sI, upd_eq, if_pos rfl]
      obtain ⟨w3, hw3⟩ : ∃ w3, sI (sI (sI (sA w2 99 g) 99 (8 * cls.length) (nI 0)) 89 21 (nI (cls.length + 1))) 99 (8 * cls.length + 3) (nI c.length) = w3 := ⟨_, rfl⟩
      rw [hw3] at hv3 e99 e21
      refine g_mem hw3 ?_
      have hR3 := hR2.v hv3
      have hC3 := hC2.W hv3.W
      have hfw3 := hfw2.tr hv3.W
      refine g_iload1 hX d_M_readLaw_125 ?_
      refine g_if_ne hX d_M_readLaw_126 (fun h => absurd (by decide) h) (fun c0 => ?_)
      refine g_aload0 hX d_M_readLaw_129 ?_
      refine g_iconst (v := nI 0) hX d_M_readLaw_130 rfl ?_
      refine g_callV (As := [_]) hX hF.1 d_M_readLaw_131 ml_M_392 cf_M_readExpression cv_M_readExpression rfl rfl (c_M_readExpression (tb := 0) hR3 hX2 hC3 (by decide) (rdE_eq (m := 3) htl hok2 hp50)) (rcv_obj hX (lv_89 _) rfl rfl) (by omega) (by omega) (by omega) (Nat.le_of_ble_eq_true rfl) ?_
      rintro _ w4 ⟨rfl, hf4, he4⟩
      rw [hs] at he4
      have e99b : rI w4 99 = upd (upd g (8 * cls.length) (nI 0)) (8 * cls.length + 3) (nI c.length) := by rw [hf4.1 99 (by decide) (by decide)]; exact e99
      have e21b : rI w4 89 21 = nI (cls.length + 1) := by rw [hf4.2.1 21 (by decide) (by decide) (by decide) (by decide) (by decide) (by decide) (by decide) (by decide) (by decide)]; exact e21
      have hfw4 := hfw3.tr hf4.W
      have hC4 := hC3.fr hf4
      have he4 := BadP.B he4
      obtain ⟨mc, hcode⟩ := he4.code
      show G0 _ _ _ _ _ _ _ _
      refine g_aload0 hX d_M_readLaw_134 ?_
      refine g_getF hX d_M_readLaw_135 fl_M_42 (lv_89 _) ?_
      refine g_iload2 hX d_M_readLaw_138 ?_
      refine g_iconst (v := nI 4) hX d_M_readLaw_139 rfl ?_
      refine g_iaddN hX d_M_readLaw_140 ?_
      refine g_aload0 hX d_M_readLaw_141 ?_
      refine g_getI hX d_M_readLaw_142 fl_M_295 (lv_89 _) ?_
      refine g_topi hcode ?_
      refine g_iast hX d_M_readLaw_145 (lv_99 _) rfl (by omega) ?_
      refine g_aload0 hX d_M_readLaw_146 ?_
      refine g_getF hX d_M_readLaw_147 fl_M_42 (lv_89 _) ?_
      refine g_iload2 hX d_M_readLaw_150 ?_
      refine g_iconst (v := nI 5) hX d_M_readLaw_151 rfl ?_
      refine g_iaddN hX d_M_readLaw_152 ?_
      refine g_aload0 hX d_M_readLaw_153 ?_
      refine g_getI hX d_M_readLaw_154 fl_M_295 (lv_89 _) ?_
      refine g_topi (show rI (sI w4 99 (8 * cls.length + 4) (nI mc)) 89 23 = nI mc from hcode) ?_
      refine g_iast hX d_M_readLaw_157 (lv_99 _) rfl (by omega) ?_
      have hv5 : FrV w4 (sI (sI w4 99 (8 * cls.length + 4) (nI mc)) 99 (8 * cls.length + 5) (nI mc)) := ((FrV.rf w4).I (Or.inl rfl)).I (Or.inl rfl)
      have e99c : rI (sI (sI w4 99 (8 * cls.length + 4) (nI mc)) 99 (8 * cls.length + 5) (nI mc)) 99 = upd (upd (upd (upd g (8 * cls.length) (nI 0)) (8 * cls.length + 3) (nI c.length)) (8 * cls.length + 4) (nI mc)) (8 * cls.length + 5) (nI mc) := by rw [rI_sI, rI_sI, e99b]
      have e21c : rI (sI (sI w4 99 (8 * cls.length + 4) (nI mc)) 99 (8 * cls.length + 5) (nI mc)) 89 21 = nI (cls.length + 1) := e21b
      obtain ⟨w5, hw5⟩ : ∃ w5, sI (sI w4 99 (8 * cls.length + 4) (nI mc)) 99 (8 * cls.length + 5) (nI mc) = w5 := ⟨_, rfl⟩
      rw [hw5] at hv5 e99c e21c
      refine g_mem hw5 ?_
      have hfw5 := hfw4.tr hv5.W
      have hC5 := hC4.W hv5.W
      have hB5 := he4.v hv5
      refine g_aload0 hX d_M_readLaw_158 ?_
      refine g_getZ hX d_M_readLaw_159 fl_M_258 (lv_89 _) ?_
      refine g_topi hB5.2.1 ?_
      refine g_if_ne hX d_M_readLaw_162 (fun c1 => ?_) (fun h => absurd h (by decide))
      refine g_aload0 hX d_M_readLaw_184 ?_
      refine g_getF hX d_M_readLaw_185 fl_M_42 (lv_89 _) ?_
      refine g_iload2 hX d_M_readLaw_188 ?_
      refine g_bipush (v := nI 6) hX d_M_readLaw_189 rfl ?_
      refine g_iaddN hX d_M_readLaw_191 ?_
      refine g_aload0 hX d_M_readLaw_192 ?_
      refine g_getI hX d_M_readLaw_193 fl_M_295 (lv_89 _) ?_
      refine g_topi (show rI w5 89 23 = nI mc by rw [hv5.2.1 23 (by decide)]; exact hcode) ?_
      refine g_iast hX d_M_readLaw_196 (lv_99 _) rfl (by omega) ?_
      refine g_vret hX hF d_M_readLaw_197 (by omega) (by omega) ?_
      exact ⟨rfl, hfw5.I (Or.inl rfl), hB5.v ((FrV.rf w5).I (Or.inl rfl))⟩
    have lpZ : ∀ (fuel : Nat) (k : Nat) (g : Nat → Int32), 8 - k < fuel → (k ≤ 8) → (∀ j, j < 8 * cls.length → g j = rI w2 99 j) → G0 E X 0 0 75 [.ref 89, .int (nI 0), .int (nI (8 * cls.length)), .int (nI k)] [] (sA w2 99 g) := by
      intro fuel
      induction fuel with
      | zero => intro k g q0; exact absurd q0 (Nat.not_lt_zero _)
      | succ fuel ih =>
        intro k g q0 q1 q2
        refine g_iload3 hX d_M_readLaw_75 ?_
        refine g_bipush (v := nI 8) hX d_M_readLaw_76 rfl ?_
        refine g_icmpN_ge hX d_M_readLaw_78 (by omega) (by omega) (fun c0 => ?_) (fun c0 => ?_)
        · refine g_fget 3 ?_
          exact k96 g q2
        · refine g_aload0 hX d_M_readLaw_81 ?_
          refine g_getF hX d_M_readLaw_82 fl_M_42 (lv_89 _) ?_
          refine g_iload2 hX d_M_readLaw_85 ?_
          refine g_iload3 hX d_M_readLaw_86 ?_
          refine g_iaddN hX d_M_readLaw_87 ?_
          refine g_iconst (v := nI 0) hX d_M_readLaw_88 rfl ?_
          refine g_iast hX d_M_readLaw_89 (lv_99 _) rfl (by omega) ?_
          refine g_iincN3 hX d_M_readLaw_90 rfl (by decide) ?_
          refine g_goto hX d_M_readLaw_93 ?_
          rw [sI_sA]
          exact ih (k + 1) _ (by omega) (by omega) (fun j hj => by rw [upd_eq, if_neg (by omega)]; exact q2 j hj)
    show G0 _ _ _ _ _ _ _ _
    refine g_aload0 hX d_M_readLaw_57 ?_
    refine g_getZ hX d_M_readLaw_58 fl_M_258 (lv_89 _) ?_
    refine g_topi hR2.2.2.2.1 ?_
    refine g_if_eq hX d_M_readLaw_61 (fun c2 => ?_) (fun h => absurd (by decide) h)
    refine g_bipush (v := nI 8) hX d_M_readLaw_65 rfl ?_
    refine g_aload0 hX d_M_readLaw_67 ?_
    refine g_getI hX d_M_readLaw_68 fl_M_389 (lv_89 _) ?_
    refine g_topi h21 ?_
    refine g_imulN hX d_M_readLaw_71 ?_
    refine g_istore2 hX d_M_readLaw_72 rfl (by decide) ?_
    refine g_iconst (v := nI 0) hX d_M_readLaw_73 rfl ?_
    refine g_istore3 hX d_M_readLaw_74 rfl (by decide) ?_
    refine g_mem (show w2 = sA w2 99 (rI w2 99) from (sA_self _ _).symm) ?_
    exact lpZ 9 0 _ (by omega) (by omega) (fun j _ => rfl)
  have lpH : ∀ (fuel : Nat) (k : Nat), 2 - k < fuel → (k ≤ 2) → G0 E X 0 0 4 [.ref 89, .int (headK t f k), .int (nI k), un] [] w := by
    intro fuel
    induction fuel with
    | zero => intro k q0; exact absurd q0 (Nat.not_lt_zero _)
    | succ fuel ih =>
      intro k q0 q1
      refine g_iload2 hX d_M_readLaw_4 ?_
      refine g_iconst (v := nI 2) hX d_M_readLaw_5 rfl ?_
      refine g_icmpN_ge hX d_M_readLaw_6 (by omega) (by omega) (fun c0 => ?_) (fun c0 => ?_)
      · refine g_fget 2 ?_
        have hk2 : k = 2 := by omega
        rw [hk2]
        exact k34
      · obtain ⟨w1, w2, w3⟩ := heads_w k (by omega)
        refine g_aload0 hX d_M_readLaw_9 ?_
        refine g_aload0 hX d_M_readLaw_10 ?_
        refine g_getF hX d_M_readLaw_11 fl_M_90 (lv_89 _) ?_
        refine g_iload2 hX d_M_readLaw_14 ?_
        refine g_lald hX d_M_readLaw_15 (lv_106 _) rfl (by omega) ?_
        refine g_topl (hC.2.2.2.1 k (by omega)) ?_
        refine g_callV (As := [_]) hX hF.1 d_M_readLaw_16 ml_M_316 cf_M_isWord cv_M_isWord rfl rfl (c_M_isWord h.1 (show lN _ = _ by rw [lI_nat]; exact congrArg lI w3) w1 w2) (rcv_obj hX (lv_89 _) rfl rfl) (by omega) (by omega) (by omega) (Nat.le_of_ble_eq_true rfl) ?_
        refine ret_k ?_
        refine g_ifB_eq hX d_M_readLaw_19 (fun e19 => ?_) (fun e19 => ?_)
        · refine g_iload1 hX d_M_readLaw_26 ?_
          refine g_istore1 hX d_M_readLaw_27 rfl (by decide) ?_
          refine g_iincN2 hX d_M_readLaw_28 rfl (by decide) ?_
          refine g_goto hX d_M_readLaw_31 ?_
          refine g_loc (show _ = [.ref 89, .int (headK t f (k + 1)), .int (nI (k + 1)), un] by rw [headK, if_neg e19]) ?_
          exact ih (k + 1) (by omega) (by omega)
        · refine g_iload2 hX d_M_readLaw_22 ?_
          refine g_goto hX d_M_readLaw_23 ?_
          refine g_istore1 hX d_M_readLaw_27 rfl (by decide) ?_
          refine g_iincN2 hX d_M_readLaw_28 rfl (by decide) ?_
          refine g_goto hX d_M_readLaw_31 ?_
          refine g_loc (show _ = [.ref 89, .int (headK t f (k + 1)), .int (nI (k + 1)), un] by rw [headK, if_pos e19]) ?_
          exact ih (k + 1) (by omega) (by omega)
  refine g_iconst (v := -1) hX d_M_readLaw_0 rfl ?_
  refine g_istore1 hX d_M_readLaw_1 rfl (by decide) ?_
  refine g_iconst (v := nI 0) hX d_M_readLaw_2 rfl ?_
  refine g_istore2 hX d_M_readLaw_3 rfl (by decide) ?_
  exact lpH 3 0 (by omega) (by omega)
theorem c_M_readLaw_costs_ok_no {E : EV} {w : Mem} {t : List Nat} {f p : Nat} {c : List (Nat × Nat)} {cls : List ClT} (h : RdB w t f p c) (hX0 : RdX false c [] f p 0) (hC : RdC w false) (hcl : ClsP w c cls) (hc12 : cls.length ≤ 12) (h1 : isW t f wCosts) (hk : cls.length < 12) {f1 p1 : Nat} {d : Den} (hs : rdE t false 3 (nxT t f) p = .inr (f1, p1, d)) (hi : ¬ isW t f1 wIf) : T E m_M_readLaw 7 0 0 [.ref 89] w (fun r w2 => r = none ∧ FrW w w2 ∧ lawQ t cls (.inr (f1, p1, (true, d, none))) w2) := by
  refine T_of (L := [.ref 89, un, un, un]) cf_M_readLaw rfl (Nat.le_of_ble_eq_true rfl) (fun X hX hF => ?_)
  have htl := h.1.1.1
  have hp50 := hX0.1.2.2.1
  have k34 : G0 E X 0 0 34 [.ref 89, .int (headK t f 2), un, un] [] w := by
    rw [head_c h1]
    refine g_aload0 hX d_M_readLaw_34 ?_
    refine g_iload1 hX d_M_readLaw_35 ?_
    refine g_iconst (v := -1) hX d_M_readLaw_36 rfl ?_
    refine g_icmp_eq hX d_M_readLaw_37 (fun h => absurd h (show ¬ nI 0 = -1 by decide)) (fun c0 => ?_)
    refine g_aload0 hX d_M_readLaw_40 ?_
    refine g_getI hX d_M_readLaw_41 fl_M_389 (lv_89 _) ?_
    refine g_topi hcl.1 ?_
    refine g_bipush (v := nI 12) hX d_M_readLaw_44 rfl ?_
    refine g_icmpN_ge hX d_M_readLaw_46 (by omega) (by omega) (fun h => absurd h (by omega)) (fun c1 => ?_)
    refine g_iconst (v := nI 1) hX d_M_readLaw_49 rfl ?_
    refine g_goto hX d_M_readLaw_50 ?_
    refine g_callV (As := [_]) hX hF.1 d_M_readLaw_54 ml_M_291 cf_M_must cv_M_must rfl rfl (c_M_mustY h.1 h.2.2.2.1 rfl) (rcv_obj hX (lv_89 _) rfl rfl) (by omega) (by omega) (by omega) (Nat.le_of_ble_eq_true rfl) ?_
    rintro _ w2 ⟨rfl, hf2, hT2⟩
    have hR2 := h.tok hf2 hT2
    have hC2 := hC.fr hf2.R
    have hfw2 := hf2.R.W
    have hX2 := hX0.mono (Nat.le_of_lt (nxT_gt (isW_0 h1)))
    have hok2 := hT2.2.2.2.2.2
    have h21 : rI w2 89 21 = nI cls.length := by rw [hf2.2.1 21 (by decide) (by decide) (by decide)]; exact hcl.1
    have k96 : ∀ g : Nat → Int32, (∀ j, j < 8 * cls.length → g j = rI w2 99 j) → G0 E X 0 0 96 [.ref 89, .int (nI 0), .int (nI (8 * cls.length)), un] [] (sA w2 99 g) := by
      intro g hg2
      refine g_aload0 hX d_M_readLaw_96 ?_
      refine g_getF hX d_M_readLaw_97 fl_M_42 (lv_89 _) ?_
      refine g_iload2 hX d_M_readLaw_100 ?_
      refine g_iload1 hX d_M_readLaw_101 ?_
      refine g_iast hX d_M_readLaw_102 (lv_99 _) rfl (by omega) ?_
      refine g_aload0 hX d_M_readLaw_103 ?_
      refine g_dup hX d_M_readLaw_104 rfl ?_
      refine g_getI hX d_M_readLaw_105 fl_M_389 (lv_89 _) ?_
      refine g_topi (show rI (sI (sA w2 99 g) 99 (8 * cls.length) (nI 0)) 89 21 = nI cls.length from h21) ?_
      refine g_iconst (v := nI 1) hX d_M_readLaw_108 rfl ?_
      refine g_iaddN hX d_M_readLaw_109 ?_
      refine g_putI hX d_M_readLaw_110 fl_M_389 (lv_89 _) ?_
      refine g_aload0 hX d_M_readLaw_113 ?_
      refine g_getF hX d_M_readLaw_114 fl_M_42 (lv_89 _) ?_
      refine g_iload2 hX d_M_readLaw_117 ?_
      refine g_iconst (v := nI 3) hX d_M_readLaw_118 rfl ?_
      refine g_iaddN hX d_M_readLaw_119 ?_
      refine g_aload0 hX d_M_readLaw_120 ?_
      refine g_getI hX d_M_readLaw_121 fl_M_295 (lv_89 _) ?_
      refine g_topi (show rI (sI (sI (sA w2 99 g) 99 (8 * cls.length) (nI 0)) 89 21 (nI (cls.length + 1))) 89 23 = nI c.length by rw [rI_sI, upd_eq, if_neg (by decide)]; exact hR2.2.2.1.1) ?_
      refine g_iast hX d_M_readLaw_124 (lv_99 _) rfl (by omega) ?_
      have hv3 : FrV w2 (sI (sI (sI (sA w2 99 g) 99 (8 * cls.length) (nI 0)) 89 21 (nI (cls.length + 1))) 99 (8 * cls.length + 3) (nI c.length)) := (((FrV.rf w2).A (Or.inl rfl)).I (Or.inl rfl)).I (Or.inr (Or.inr ⟨rfl, rfl⟩)) |>.I (Or.inl rfl)
      have e99 : rI (sI (sI (sI (sA w2 99 g) 99 (8 * cls.length) (nI 0)) 89 21 (nI (cls.length + 1))) 99 (8 * cls.length + 3) (nI c.length)) 99 = upd (upd g (8 * cls.length) (nI 0)) (8 * cls.length + 3) (nI c.length) := by rw [rI_sI, rI_sI_ne _ _ _ (by decide), rI_sI, rI_sA]
      have e21 : rI (sI (sI (sI (sA w2 99 g) 99 (8 * cls.length) (nI 0)) 89 21 (nI (cls.length + 1))) 99 (8 * cls.length + 3) (nI c.length)) 89 21 = nI (cls.length + 1) := by rw [rI_sI_ne _ _ _ (by decide), rI_sI, upd_eq, if_pos rfl]
      obtain ⟨w3, hw3⟩ : ∃ w3, sI (sI (sI (sA w2 99 g) 99 (8 * cls.length) (nI 0)) 89 21 (nI (cls.length + 1))) 99 (8 * cls.length + 3) (nI c.length) = w3 := ⟨_, rfl⟩
      rw [hw3] at hv3 e99 e21
      refine g_mem hw3 ?_
      have hR3 := hR2.v hv3
      have hC3 := hC2.W hv3.W
      have hfw3 := hfw2.tr hv3.W
      refine g_iload1 hX d_M_readLaw_125 ?_
      refine g_if_ne hX d_M_readLaw_126 (fun h => absurd (by decide) h) (fun c0 => ?_)
      refine g_aload0 hX d_M_readLaw_129 ?_
      refine g_iconst (v := nI 0) hX d_M_readLaw_130 rfl ?_
      refine g_callV (As := [_]) hX hF.1 d_M_readLaw_131 ml_M_392 cf_M_readExpression cv_M_readExpression rfl rfl (c_M_readExpression (tb := 0) hR3 hX2 hC3 (by decide) (rdE_eq (m := 3) htl hok2 hp50)) (rcv_obj hX (lv_89 _) rfl rfl) (by omega) (by omega) (by omega) (Nat.le_of_ble_eq_true rfl) ?_
      rintro _ w4 ⟨rfl, hf4, he4⟩
      rw [hs] at he4
      have e99b : rI w4 99 = upd (upd g (8 * cls.length) (nI 0)) (8 * cls.length + 3) (nI c.length) := by rw [hf4.1 99 (by decide) (by decide)]; exact e99
      have e21b : rI w4 89 21 = nI (cls.length + 1) := by rw [hf4.2.1 21 (by decide) (by decide) (by decide) (by decide) (by decide) (by decide) (by decide) (by decide) (by decide)]; exact e21
      have hfw4 := hfw3.tr hf4.W
      have hC4 := hC3.fr hf4
      obtain ⟨kd2, hR4, hX4, hseg, hsame⟩ := he4
      have hR4 := hR4.B
      have hcode := hR4.2.2.1.1
      show G0 _ _ _ _ _ _ _ _
      refine g_aload0 hX d_M_readLaw_134 ?_
      refine g_getF hX d_M_readLaw_135 fl_M_42 (lv_89 _) ?_
      refine g_iload2 hX d_M_readLaw_138 ?_
      refine g_iconst (v := nI 4) hX d_M_readLaw_139 rfl ?_
      refine g_iaddN hX d_M_readLaw_140 ?_
      refine g_aload0 hX d_M_readLaw_141 ?_
      refine g_getI hX d_M_readLaw_142 fl_M_295 (lv_89 _) ?_
      refine g_topi hcode ?_
      refine g_iast hX d_M_readLaw_145 (lv_99 _) rfl (by omega) ?_
      refine g_aload0 hX d_M_readLaw_146 ?_
      refine g_getF hX d_M_readLaw_147 fl_M_42 (lv_89 _) ?_
      refine g_iload2 hX d_M_readLaw_150 ?_
      refine g_iconst (v := nI 5) hX d_M_readLaw_151 rfl ?_
      refine g_iaddN hX d_M_readLaw_152 ?_
      refine g_aload0 hX d_M_readLaw_153 ?_
      refine g_getI hX d_M_readLaw_154 fl_M_295 (lv_89 _) ?_
      refine g_topi (show rI (sI w4 99 (8 * cls.length + 4) (nI kd2.length)) 89 23 = nI kd2.length from hcode) ?_
      refine g_iast hX d_M_readLaw_157 (lv_99 _) rfl (by omega) ?_
      have hv5 : FrV w4 (sI (sI w4 99 (8 * cls.length + 4) (nI kd2.length)) 99 (8 * cls.length + 5) (nI kd2.length)) := ((FrV.rf w4).I (Or.inl rfl)).I (Or.inl rfl)
      have e99c : rI (sI (sI w4 99 (8 * cls.length + 4) (nI kd2.length)) 99 (8 * cls.length + 5) (nI kd2.length)) 99 = upd (upd (upd (upd g (8 * cls.length) (nI 0)) (8 * cls.length + 3) (nI c.length)) (8 * cls.length + 4) (nI kd2.length)) (8 * cls.length + 5) (nI kd2.length) := by rw [rI_sI, rI_sI, e99b]
      have e21c : rI (sI (sI w4 99 (8 * cls.length + 4) (nI kd2.length)) 99 (8 * cls.length + 5) (nI kd2.length)) 89 21 = nI (cls.length + 1) := e21b
      obtain ⟨w5, hw5⟩ : ∃ w5, sI (sI w4 99 (8 * cls.length + 4) (nI kd2.length)) 99 (8 * cls.length + 5) (nI kd2.length) = w5 := ⟨_, rfl⟩
      rw [hw5] at hv5 e99c e21c
      refine g_mem hw5 ?_
      have hfw5 := hfw4.tr hv5.W
      have hC5 := hC4.W hv5.W
      have hR5 := hR4.v hv5
      refine g_aload0 hX d_M_readLaw_158 ?_
      refine g_getZ hX d_M_readLaw_159 fl_M_258 (lv_89 _) ?_
      refine g_topi hR5.2.2.2.1 ?_
      refine g_if_ne hX d_M_readLaw_162 (fun h => absurd (by decide) h) (fun c1 => ?_)
      refine g_aload0 hX d_M_readLaw_165 ?_
      refine g_ldc2 (v := lN 294) hX d_M_readLaw_166 k_M_395 rfl ?_
      refine g_callV (As := [_]) hX hF.1 d_M_readLaw_169 ml_M_316 cf_M_isWord cv_M_isWord rfl rfl (c_M_isWord (wd := wIf) hR5.1 rfl (by decide) (by decide)) (rcv_obj hX (lv_89 _) rfl rfl) (by omega) (by omega) (by omega) (Nat.le_of_ble_eq_true rfl) ?_
      refine ret_k ?_
      refine g_ifB_eq hX d_M_readLaw_172 (fun c2 => ?_) (fun h => absurd h hi)
      refine g_aload0 hX d_M_readLaw_184 ?_
      refine g_getF hX d_M_readLaw_185 fl_M_42 (lv_89 _) ?_
      refine g_iload2 hX d_M_readLaw_188 ?_
      refine g_bipush (v := nI 6) hX d_M_readLaw_189 rfl ?_
      refine g_iaddN hX d_M_readLaw_191 ?_
      refine g_aload0 hX d_M_readLaw_192 ?_
      refine g_getI hX d_M_readLaw_193 fl_M_295 (lv_89 _) ?_
      refine g_topi (show rI w5 89 23 = nI kd2.length from hR5.2.2.1.1) ?_
      refine g_iast hX d_M_readLaw_196 (lv_99 _) rfl (by omega) ?_
      refine g_vret hX hF d_M_readLaw_197 (by omega) (by omega) ?_
      refine ⟨rfl, hfw5.I (Or.inl rfl), ?_⟩
      refine ⟨kd2, RdB.v hR5 ((FrV.rf _).I (Or.inl rfl)), hX4, ?_⟩
      refine ⟨by rw [rI_sI_ne _ _ _ (by decide), List.length_append]; exact e21c, fun j q hq => ?_⟩
      rw [rI_sI, e99c]
      by_cases hj : j < cls.length
      · rw [List.getElem?_append_left hj] at hq
        refine (hcl.2 j q hq).same hsame (fun m hm => ?_)
        rw [upd_eq, upd_eq, upd_eq, upd_eq, upd_eq, if_neg (by omega), if_neg (by omega), if_neg (by omega), if_neg (by omega), if_neg (by omega)]
        rw [hg2 _ (by omega), hf2.1 99 (by decide)]
      · rw [List.getElem?_append_right (by omega)] at hq
        have hj0 : j = cls.length := by
          by_cases z : j = cls.length
          · exact z
          · rw [List.getElem?_eq_none (by rw [List.length_singleton]; omega)] at hq
            cases hq
        subst hj0
        rw [Nat.sub_self] at hq
        obtain rfl := Option.some.inj hq.symm
        refine ⟨?_, c.length, kd2.length, kd2.length, kd2.length, ?_, ?_, ?_, ?_, Nat.le_refl _, Nat.le_refl _, Nat.le_refl _, (fun _ => hseg), rfl⟩
        · rw [upd_eq, upd_eq, upd_eq, upd_eq, upd_eq, if_neg (by omega), if_neg (by omega), if_neg (by omega), if_neg (by omega), if_pos rfl]; rfl
        · rw [upd_eq, upd_eq, upd_eq, upd_eq, if_neg (by omega), if_neg (by omega), if_neg (by omega), if_pos rfl]
        · rw [upd_eq, upd_eq, upd_eq, if_neg (by omega), if_neg (by omega), if_pos rfl]
        · rw [upd_eq, upd_eq, if_neg (by omega), if_pos rfl]
        · rw [upd_eq, if_pos rfl]
    have lpZ : ∀ (fuel : Nat) (k : Nat) (g : Nat → Int32), 8 - k < fuel → (k ≤ 8) → (∀ j, j < 8 * cls.length → g j = rI w2 99 j) → G0 E X 0 0 75 [.ref 89, .int (nI 0), .int (nI (8 * cls.length)), .int (nI k)] [] (sA w2 99 g) := by
      intro fuel
      induction fuel with
      | zero => intro k g q0; exact absurd q0 (Nat.not_lt_zero _)
      | succ fuel ih =>
        intro k g q0 q1 q2
        refine g_iload3 hX d_M_readLaw_75 ?_
        refine g_bipush (v := nI 8) hX d_M_readLaw_76 rfl ?_
        refine g_icmpN_ge hX d_M_readLaw_78 (by omega) (by omega) (fun c0 => ?_) (fun c0 => ?_)
        · refine g_fget 3 ?_
          exact k96 g q2
        · refine g_aload0 hX d_M_readLaw_81 ?_
          refine g_getF hX d_M_readLaw_82 fl_M_42 (lv_89 _) ?_
          refine g_iload2 hX d_M_readLaw_85 ?_
          refine g_iload3 hX d_M_readLaw_86 ?_
          refine g_iaddN hX d_M_readLaw_87 ?_
          refine g_iconst (v := nI 0) hX d_M_readLaw_88 rfl ?_
          refine g_iast hX d_M_readLaw_89 (lv_99 _) rfl (by omega) ?_
          refine g_iincN3 hX d_M_readLaw_90 rfl (by decide) ?_
          refine g_goto hX d_M_readLaw_93 ?_
          rw [sI_sA]
          exact ih (k + 1) _ (by omega) (by omega) (fun j hj => by rw [upd_eq, if_neg (by omega)]; exact q2 j hj)
    show G0 _ _ _ _ _ _ _ _
    refine g_aload0 hX d_M_readLaw_57 ?_
    refine g_getZ hX d_M_readLaw_58 fl_M_258 (lv_89 _) ?_
    refine g_topi hR2.2.2.2.1 ?_
    refine g_if_eq hX d_M_readLaw_61 (fun c2 => ?_) (fun h => absurd (by decide) h)
    refine g_bipush (v := nI 8) hX d_M_readLaw_65 rfl ?_
    refine g_aload0 hX d_M_readLaw_67 ?_
    refine g_getI hX d_M_readLaw_68 fl_M_389 (lv_89 _) ?_
    refine g_topi h21 ?_
    refine g_imulN hX d_M_readLaw_71 ?_
    refine g_istore2 hX d_M_readLaw_72 rfl (by decide) ?_
    refine g_iconst (v := nI 0) hX d_M_readLaw_73 rfl ?_
    refine g_istore3 hX d_M_readLaw_74 rfl (by decide) ?_
    refine g_mem (show w2 = sA w2 99 (rI w2 99) from (sA_self _ _).symm) ?_
    exact lpZ 9 0 _ (by omega) (by omega) (fun j _ => rfl)
  have lpH : ∀ (fuel : Nat) (k : Nat), 2 - k < fuel → (k ≤ 2) → G0 E X 0 0 4 [.ref 89, .int (headK t f k), .int (nI k), un] [] w := by
    intro fuel
    induction fuel with
    | zero => intro k q0; exact absurd q0 (Nat.not_lt_zero _)
    | succ fuel ih =>
      intro k q0 q1
      refine g_iload2 hX d_M_readLaw_4 ?_
      refine g_iconst (v := nI 2) hX d_M_readLaw_5 rfl ?_
      refine g_icmpN_ge hX d_M_readLaw_6 (by omega) (by omega) (fun c0 => ?_) (fun c0 => ?_)
      · refine g_fget 2 ?_
        have hk2 : k = 2 := by omega
        rw [hk2]
        exact k34
      · obtain ⟨w1, w2, w3⟩ := heads_w k (by omega)
        refine g_aload0 hX d_M_readLaw_9 ?_
        refine g_aload0 hX d_M_readLaw_10 ?_
        refine g_getF hX d_M_readLaw_11 fl_M_90 (lv_89 _) ?_
        refine g_iload2 hX d_M_readLaw_14 ?_
        refine g_lald hX d_M_readLaw_15 (lv_106 _) rfl (by omega) ?_
        refine g_topl (hC.2.2.2.1 k (by omega)) ?_
        refine g_callV (As := [_]) hX hF.1 d_M_readLaw_16 ml_M_316 cf_M_isWord cv_M_isWord rfl rfl (c_M_isWord h.1 (show lN _ = _ by rw [lI_nat]; exact congrArg lI w3) w1 w2) (rcv_obj hX (lv_89 _) rfl rfl) (by omega) (by omega) (by omega) (Nat.le_of_ble_eq_true rfl) ?_
        refine ret_k ?_
        refine g_ifB_eq hX d_M_readLaw_19 (fun e19 => ?_) (fun e19 => ?_)
        · refine g_iload1 hX d_M_readLaw_26 ?_
          refine g_istore1 hX d_M_readLaw_27 rfl (by decide) ?_
          refine g_iincN2 hX d_M_readLaw_28 rfl (by decide) ?_
          refine g_goto hX d_M_readLaw_31 ?_
          refine g_loc (show _ = [.ref 89, .int (headK t f (k + 1)), .int (nI (k + 1)), un] by rw [headK, if_neg e19]) ?_
          exact ih (k + 1) (by omega) (by omega)
        · refine g_iload2 hX d_M_readLaw_22 ?_
          refine g_goto hX d_M_readLaw_23 ?_
          refine g_istore1 hX d_M_readLaw_27 rfl (by decide) ?_
          refine g_iincN2 hX d_M_readLaw_28 rfl (by decide) ?_
          refine g_goto hX d_M_readLaw_31 ?_
          refine g_loc (show _ = [.ref 89, .int (headK t f (k + 1)), .int (nI (k + 1)), un] by rw [headK, if_pos e19]) ?_
          exact ih (k + 1) (by omega) (by omega)
  refine g_iconst (v := -1) hX d_M_readLaw_0 rfl ?_
  refine g_istore1 hX d_M_readLaw_1 rfl (by decide) ?_
  refine g_iconst (v := nI 0) hX d_M_readLaw_2 rfl ?_
  refine g_istore2 hX d_M_readLaw_3 rfl (by decide) ?_
  exact lpH 3 0 (by omega) (by omega)
theorem c_M_readLaw_costs_ok_bad {E : EV} {w : Mem} {t : List Nat} {f p : Nat} {c : List (Nat × Nat)} {cls : List ClT} (h : RdB w t f p c) (hX0 : RdX false c [] f p 0) (hC : RdC w false) (hcl : ClsP w c cls) (hc12 : cls.length ≤ 12) (h1 : isW t f wCosts) (hk : cls.length < 12) {f1 p1 : Nat} {d : Den} (hs : rdE t false 3 (nxT t f) p = .inr (f1, p1, d)) {e : Nat} (hi : isW t f1 wIf) (ht : rdE t false 8 (nxT t f1) p1 = .inl e) : T E m_M_readLaw 7 0 0 [.ref 89] w (fun r w2 => r = none ∧ FrW w w2 ∧ BadB w2 t e) := by
  refine T_of (L := [.ref 89, un, un, un]) cf_M_readLaw rfl (Nat.le_of_ble_eq_true rfl) (fun X hX hF => ?_)
  have htl := h.1.1.1
  have hp50 := hX0.1.2.2.1
  have k34 : G0 E X 0 0 34 [.ref 89, .int (headK t f 2), un, un] [] w := by
    rw [head_c h1]
    refine g_aload0 hX d_M_readLaw_34 ?_
    refine g_iload1 hX d_M_readLaw_35 ?_
    refine g_iconst (v := -1) hX d_M_readLaw_36 rfl ?_
    refine g_icmp_eq hX d_M_readLaw_37 (fun h => absurd h (show ¬ nI 0 = -1 by decide)) (fun c0 => ?_)
    refine g_aload0 hX d_M_readLaw_40 ?_
    refine g_getI hX d_M_readLaw_41 fl_M_389 (lv_89 _) ?_
    refine g_topi hcl.1 ?_
    refine g_bipush (v := nI 12) hX d_M_readLaw_44 rfl ?_
    refine g_icmpN_ge hX d_M_readLaw_46 (by omega) (by omega) (fun h => absurd h (by omega)) (fun c1 => ?_)
    refine g_iconst (v := nI 1) hX d_M_readLaw_49 rfl ?_
    refine g_goto hX d_M_readLaw_50 ?_
    refine g_callV (As := [_]) hX hF.1 d_M_readLaw_54 ml_M_291 cf_M_must cv_M_must rfl rfl (c_M_mustY h.1 h.2.2.2.1 rfl) (rcv_obj hX (lv_89 _) rfl rfl) (by omega) (by omega) (by omega) (Nat.le_of_ble_eq_true rfl) ?_
    rintro _ w2 ⟨rfl, hf2, hT2⟩
    have hR2 := h.tok hf2 hT2
    have hC2 := hC.fr hf2.R
    have hfw2 := hf2.R.W
    have hX2 := hX0.mono (Nat.le_of_lt (nxT_gt (isW_0 h1)))
    have hok2 := hT2.2.2.2.2.2
    have h21 : rI w2 89 21 = nI cls.length := by rw [hf2.2.1 21 (by decide) (by decide) (by decide)]; exact hcl.1
    have k96 : ∀ g : Nat → Int32, (∀ j, j < 8 * cls.length → g j = rI w2 99 j) → G0 E X 0 0 96 [.ref 89, .int (nI 0), .int (nI (8 * cls.length)), un] [] (sA w2 99 g) := by
      intro g hg2
      refine g_aload0 hX d_M_readLaw_96 ?_
      refine g_getF hX d_M_readLaw_97 fl_M_42 (lv_89 _) ?_
      refine g_iload2 hX d_M_readLaw_100 ?_
      refine g_iload1 hX d_M_readLaw_101 ?_
      refine g_iast hX d_M_readLaw_102 (lv_99 _) rfl (by omega) ?_
      refine g_aload0 hX d_M_readLaw_103 ?_
      refine g_dup hX d_M_readLaw_104 rfl ?_
      refine g_getI hX d_M_readLaw_105 fl_M_389 (lv_89 _) ?_
      refine g_topi (show rI (sI (sA w2 99 g) 99 (8 * cls.length) (nI 0)) 89 21 = nI cls.length from h21) ?_
      refine g_iconst (v := nI 1) hX d_M_readLaw_108 rfl ?_
      refine g_iaddN hX d_M_readLaw_109 ?_
      refine g_putI hX d_M_readLaw_110 fl_M_389 (lv_89 _) ?_
      refine g_aload0 hX d_M_readLaw_113 ?_
      refine g_getF hX d_M_readLaw_114 fl_M_42 (lv_89 _) ?_
      refine g_iload2 hX d_M_readLaw_117 ?_
      refine g_iconst (v := nI 3) hX d_M_readLaw_118 rfl ?_
      refine g_iaddN hX d_M_readLaw_119 ?_
      refine g_aload0 hX d_M_readLaw_120 ?_
      refine g_getI hX d_M_readLaw_121 fl_M_295 (lv_89 _) ?_
      refine g_topi (show rI (sI (sI (sA w2 99 g) 99 (8 * cls.length) (nI 0)) 89 21 (nI (cls.length + 1))) 89 23 = nI c.length by rw [rI_sI, upd_eq, if_neg (by decide)]; exact hR2.2.2.1.1) ?_
      refine g_iast hX d_M_readLaw_124 (lv_99 _) rfl (by omega) ?_
      have hv3 : FrV w2 (sI (sI (sI (sA w2 99 g) 99 (8 * cls.length) (nI 0)) 89 21 (nI (cls.length + 1))) 99 (8 * cls.length + 3) (nI c.length)) := (((FrV.rf w2).A (Or.inl rfl)).I (Or.inl rfl)).I (Or.inr (Or.inr ⟨rfl, rfl⟩)) |>.I (Or.inl rfl)
      have e99 : rI (sI (sI (sI (sA w2 99 g) 99 (8 * cls.length) (nI 0)) 89 21 (nI (cls.length + 1))) 99 (8 * cls.length + 3) (nI c.length)) 99 = upd (upd g (8 * cls.length) (nI 0)) (8 * cls.length + 3) (nI c.length) := by rw [rI_sI, rI_sI_ne _ _ _ (by decide), rI_sI, rI_sA]
      have e21 : rI (sI (sI (sI (sA w2 99 g) 99 (8 * cls.length) (nI 0)) 89 21 (nI (cls.length + 1))) 99 (8 * cls.length + 3) (nI c.length)) 89 21 = nI (cls.length + 1) := by rw [rI_sI_ne _ _ _ (by decide), rI_sI, upd_eq, if_pos rfl]
      obtain ⟨w3, hw3⟩ : ∃ w3, sI (sI (sI (sA w2 99 g) 99 (8 * cls.length) (nI 0)) 89 21 (nI (cls.length + 1))) 99 (8 * cls.length + 3) (nI c.length) = w3 := ⟨_, rfl⟩
      rw [hw3] at hv3 e99 e21
      refine g_mem hw3 ?_
      have hR3 := hR2.v hv3
      have hC3 := hC2.W hv3.W
      have hfw3 := hfw2.tr hv3.W
      refine g_iload1 hX d_M_readLaw_125 ?_
      refine g_if_ne hX d_M_readLaw_126 (fun h => absurd (by decide) h) (fun c0 => ?_)
      refine g_aload0 hX d_M_readLaw_129 ?_
      refine g_iconst (v := nI 0) hX d_M_readLaw_130 rfl ?_
      refine g_callV (As := [_]) hX hF.1 d_M_readLaw_131 ml_M_392 cf_M_readExpression cv_M_readExpression rfl rfl (c_M_readExpression (tb := 0) hR3 hX2 hC3 (by decide) (rdE_eq (m := 3) htl hok2 hp50)) (rcv_obj hX (lv_89 _) rfl rfl) (by omega) (by omega) (by omega) (Nat.le_of_ble_eq_true rfl) ?_
      rintro _ w4 ⟨rfl, hf4, he4⟩
      rw [hs] at he4
      have e99b : rI w4 99 = upd (upd g (8 * cls.length) (nI 0)) (8 * cls.length + 3) (nI c.length) := by rw [hf4.1 99 (by decide) (by decide)]; exact e99
      have e21b : rI w4 89 21 = nI (cls.length + 1) := by rw [hf4.2.1 21 (by decide) (by decide) (by decide) (by decide) (by decide) (by decide) (by decide) (by decide) (by decide)]; exact e21
      have hfw4 := hfw3.tr hf4.W
      have hC4 := hC3.fr hf4
      obtain ⟨kd2, hR4, hX4, hseg, hsame⟩ := he4
      have hR4 := hR4.B
      have hcode := hR4.2.2.1.1
      show G0 _ _ _ _ _ _ _ _
      refine g_aload0 hX d_M_readLaw_134 ?_
      refine g_getF hX d_M_readLaw_135 fl_M_42 (lv_89 _) ?_
      refine g_iload2 hX d_M_readLaw_138 ?_
      refine g_iconst (v := nI 4) hX d_M_readLaw_139 rfl ?_
      refine g_iaddN hX d_M_readLaw_140 ?_
      refine g_aload0 hX d_M_readLaw_141 ?_
      refine g_getI hX d_M_readLaw_142 fl_M_295 (lv_89 _) ?_
      refine g_topi hcode ?_
      refine g_iast hX d_M_readLaw_145 (lv_99 _) rfl (by omega) ?_
      refine g_aload0 hX d_M_readLaw_146 ?_
      refine g_getF hX d_M_readLaw_147 fl_M_42 (lv_89 _) ?_
      refine g_iload2 hX d_M_readLaw_150 ?_
      refine g_iconst (v := nI 5) hX d_M_readLaw_151 rfl ?_
      refine g_iaddN hX d_M_readLaw_152 ?_
      refine g_aload0 hX d_M_readLaw_153 ?_
      refine g_getI hX d_M_readLaw_154 fl_M_295 (lv_89 _) ?_
      refine g_topi (show rI (sI w4 99 (8 * cls.length + 4) (nI kd2.length)) 89 23 = nI kd2.length from hcode) ?_
      refine g_iast hX d_M_readLaw_157 (lv_99 _) rfl (by omega) ?_
      have hv5 : FrV w4 (sI (sI w4 99 (8 * cls.length + 4) (nI kd2.length)) 99 (8 * cls.length + 5) (nI kd2.length)) := ((FrV.rf w4).I (Or.inl rfl)).I (Or.inl rfl)
      have e99c : rI (sI (sI w4 99 (8 * cls.length + 4) (nI kd2.length)) 99 (8 * cls.length + 5) (nI kd2.length)) 99 = upd (upd (upd (upd g (8 * cls.length) (nI 0)) (8 * cls.length + 3) (nI c.length)) (8 * cls.length + 4) (nI kd2.length)) (8 * cls.length + 5) (nI kd2.length) := by rw [rI_sI, rI_sI, e99b]
      have e21c : rI (sI (sI w4 99 (8 * cls.length + 4) (nI kd2.length)) 99 (8 * cls.length + 5) (nI kd2.length)) 89 21 = nI (cls.length + 1) := e21b
      obtain ⟨w5, hw5⟩ : ∃ w5, sI (sI w4 99 (8 * cls.length + 4) (nI kd2.length)) 99 (8 * cls.length + 5) (nI kd2.length) = w5 := ⟨_, rfl⟩
      rw [hw5] at hv5 e99c e21c
      refine g_mem hw5 ?_
      have hfw5 := hfw4.tr hv5.W
      have hC5 := hC4.W hv5.W
      have hR5 := hR4.v hv5
      refine g_aload0 hX d_M_readLaw_158 ?_
      refine g_getZ hX d_M_readLaw_159 fl_M_258 (lv_89 _) ?_
      refine g_topi hR5.2.2.2.1 ?_
      refine g_if_ne hX d_M_readLaw_162 (fun h => absurd (by decide) h) (fun c1 => ?_)
      refine g_aload0 hX d_M_readLaw_165 ?_
      refine g_ldc2 (v := lN 294) hX d_M_readLaw_166 k_M_395 rfl ?_
      refine g_callV (As := [_]) hX hF.1 d_M_readLaw_169 ml_M_316 cf_M_isWord cv_M_isWord rfl rfl (c_M_isWord (wd := wIf) hR5.1 rfl (by decide) (by decide)) (rcv_obj hX (lv_89 _) rfl rfl) (by omega) (by omega) (by omega) (Nat.le_of_ble_eq_true rfl) ?_
      refine ret_k ?_
      refine g_ifB_eq hX d_M_readLaw_172 (fun h => absurd hi h) (fun c2 => ?_)
      refine g_aload0 hX d_M_readLaw_175 ?_
      refine g_callV (As := []) hX hF.1 d_M_readLaw_176 ml_M_262 cf_M_next cv_M_next rfl rfl (c_M_next hR5.1) (rcv_obj hX (lv_89 _) rfl rfl) (by omega) (by omega) (by omega) (Nat.le_of_ble_eq_true rfl) ?_
      rintro _ w6 ⟨rfl, hf6, hT6⟩
      have hR6 := hR5.tok hf6 hT6
      have hC6 := hC5.fr hf6.R
      have hX6 := hX4.mono (Nat.le_of_lt (nxT_gt (isW_0 hi)))
      show G0 _ _ _ _ _ _ _ _
      refine g_aload0 hX d_M_readLaw_179 ?_
      refine g_iconst (v := nI 1) hX d_M_readLaw_180 rfl ?_
      refine g_callV (As := [_]) hX hF.1 d_M_readLaw_181 ml_M_392 cf_M_readExpression cv_M_readExpression rfl rfl (c_M_readExpression (tb := 1) hR6 hX6 hC6 (by decide) (rdE_eq (m := 8) htl hT6.2.2.2.2.2 hX4.1.2.2.1)) (rcv_obj hX (lv_89 _) rfl rfl) (by omega) (by omega) (by omega) (Nat.le_of_ble_eq_true rfl) ?_
      rintro _ w7 ⟨rfl, hf7, he7⟩
      rw [ht] at he7
      have hfw7 := hfw5.tr (hf6.R.tr hf7).W
      have e99d : rI w7 99 = upd (upd (upd (upd g (8 * cls.length) (nI 0)) (8 * cls.length + 3) (nI c.length)) (8 * cls.length + 4) (nI kd2.length)) (8 * cls.length + 5) (nI kd2.length) := by rw [hf7.1 99 (by decide) (by decide), hf6.1 99 (by decide)]; exact e99c
      have e21d : rI w7 89 21 = nI (cls.length + 1) := by rw [hf7.2.1 21 (by decide) (by decide) (by decide) (by decide) (by decide) (by decide) (by decide) (by decide) (by decide), hf6.2.1 21 (by decide) (by decide) (by decide)]; exact e21c
      have he7 := BadP.B he7
      obtain ⟨md, hcode7⟩ := he7.code
      show G0 _ _ _ _ _ _ _ _
      refine g_aload0 hX d_M_readLaw_184 ?_
      refine g_getF hX d_M_readLaw_185 fl_M_42 (lv_89 _) ?_
      refine g_iload2 hX d_M_readLaw_188 ?_
      refine g_bipush (v := nI 6) hX d_M_readLaw_189 rfl ?_
      refine g_iaddN hX d_M_readLaw_191 ?_
      refine g_aload0 hX d_M_readLaw_192 ?_
      refine g_getI hX d_M_readLaw_193 fl_M_295 (lv_89 _) ?_
      refine g_topi hcode7 ?_
      refine g_iast hX d_M_readLaw_196 (lv_99 _) rfl (by omega) ?_
      refine g_vret hX hF d_M_readLaw_197 (by omega) (by omega) ?_
      exact ⟨rfl, hfw7.I (Or.inl rfl), he7.v ((FrV.rf w7).I (Or.inl rfl))⟩
    have lpZ : ∀ (fuel : Nat) (k : Nat) (g : Nat → Int32), 8 - k < fuel → (k ≤ 8) → (∀ j, j < 8 * cls.length → g j = rI w2 99 j) → G0 E X 0 0 75 [.ref 89, .int (nI 0), .int (nI (8 * cls.length)), .int (nI k)] [] (sA w2 99 g) := by
      intro fuel
      induction fuel with
      | zero => intro k g q0; exact absurd q0 (Nat.not_lt_zero _)
      | succ fuel ih =>
        intro k g q0 q1 q2
        refine g_iload3 hX d_M_readLaw_75 ?_
        refine g_bipush (v := nI 8) hX d_M_readLaw_76 rfl ?_
        refine g_icmpN_ge hX d_M_readLaw_78 (by omega) (by omega) (fun c0 => ?_) (fun c0 => ?_)
        · refine g_fget 3 ?_
          exact k96 g q2
        · refine g_aload0 hX d_M_readLaw_81 ?_
          refine g_getF hX d_M_readLaw_82 fl_M_42 (lv_89 _) ?_
          refine g_iload2 hX d_M_readLaw_85 ?_
          refine g_iload3 hX d_M_readLaw_86 ?_
          refine g_iaddN hX d_M_readLaw_87 ?_
          refine g_iconst (v := nI 0) hX d_M_readLaw_88 rfl ?_
          refine g_iast hX d_M_readLaw_89 (lv_99 _) rfl (by omega) ?_
          refine g_iincN3 hX d_M_readLaw_90 rfl (by decide) ?_
          refine g_goto hX d_M_readLaw_93 ?_
          rw [sI_sA]
          exact ih (k + 1) _ (by omega) (by omega) (fun j hj => by rw [upd_eq, if_neg (by omega)]; exact q2 j hj)
    show G0 _ _ _ _ _ _ _ _
    refine g_aload0 hX d_M_readLaw_57 ?_
    refine g_getZ hX d_M_readLaw_58 fl_M_258 (lv_89 _) ?_
    refine g_topi hR2.2.2.2.1 ?_
    refine g_if_eq hX d_M_readLaw_61 (fun c2 => ?_) (fun h => absurd (by decide) h)
    refine g_bipush (v := nI 8) hX d_M_readLaw_65 rfl ?_
    refine g_aload0 hX d_M_readLaw_67 ?_
    refine g_getI hX d_M_readLaw_68 fl_M_389 (lv_89 _) ?_
    refine g_topi h21 ?_
    refine g_imulN hX d_M_readLaw_71 ?_
    refine g_istore2 hX d_M_readLaw_72 rfl (by decide) ?_
    refine g_iconst (v := nI 0) hX d_M_readLaw_73 rfl ?_
    refine g_istore3 hX d_M_readLaw_74 rfl (by decide) ?_
    refine g_mem (show w2 = sA w2 99 (rI w2 99) from (sA_self _ _).symm) ?_
    exact lpZ 9 0 _ (by omega) (by omega) (fun j _ => rfl)
  have lpH : ∀ (fuel : Nat) (k : Nat), 2 - k < fuel → (k ≤ 2) → G0 E X 0 0 4 [.ref 89, .int (headK t f k), .int (nI k), un] [] w := by
    intro fuel
    induction fuel with
    | zero => intro k q0; exact absurd q0 (Nat.not_lt_zero _)
    | succ fuel ih =>
      intro k q0 q1
      refine g_iload2 hX d_M_readLaw_4 ?_
      refine g_iconst (v := nI 2) hX d_M_readLaw_5 rfl ?_
      refine g_icmpN_ge hX d_M_readLaw_6 (by omega) (by omega) (fun c0 => ?_) (fun c0 => ?_)
      · refine g_fget 2 ?_
        have hk2 : k = 2 := by omega
        rw [hk2]
        exact k34
      · obtain ⟨w1, w2, w3⟩ := heads_w k (by omega)
        refine g_aload0 hX d_M_readLaw_9 ?_
        refine g_aload0 hX d_M_readLaw_10 ?_
        refine g_getF hX d_M_readLaw_11 fl_M_90 (lv_89 _) ?_
        refine g_iload2 hX d_M_readLaw_14 ?_
        refine g_lald hX d_M_readLaw_15 (lv_106 _) rfl (by omega) ?_
        refine g_topl (hC.2.2.2.1 k (by omega)) ?_
        refine g_callV (As := [_]) hX hF.1 d_M_readLaw_16 ml_M_316 cf_M_isWord cv_M_isWord rfl rfl (c_M_isWord h.1 (show lN _ = _ by rw [lI_nat]; exact congrArg lI w3) w1 w2) (rcv_obj hX (lv_89 _) rfl rfl) (by omega) (by omega) (by omega) (Nat.le_of_ble_eq_true rfl) ?_
        refine ret_k ?_
        refine g_ifB_eq hX d_M_readLaw_19 (fun e19 => ?_) (fun e19 => ?_)
        · refine g_iload1 hX d_M_readLaw_26 ?_
          refine g_istore1 hX d_M_readLaw_27 rfl (by decide) ?_
          refine g_iincN2 hX d_M_readLaw_28 rfl (by decide) ?_
          refine g_goto hX d_M_readLaw_31 ?_
          refine g_loc (show _ = [.ref 89, .int (headK t f (k + 1)), .int (nI (k + 1)), un] by rw [headK, if_neg e19]) ?_
          exact ih (k + 1) (by omega) (by omega)
        · refine g_iload2 hX d_M_readLaw_22 ?_
          refine g_goto hX d_M_readLaw_23 ?_
          refine g_istore1 hX d_M_readLaw_27 rfl (by decide) ?_
          refine g_iincN2 hX d_M_readLaw_28 rfl (by decide) ?_
          refine g_goto hX d_M_readLaw_31 ?_
          refine g_loc (show _ = [.ref 89, .int (headK t f (k + 1)), .int (nI (k + 1)), un] by rw [headK, if_pos e19]) ?_
          exact ih (k + 1) (by omega) (by omega)
  refine g_iconst (v := -1) hX d_M_readLaw_0 rfl ?_
  refine g_istore1 hX d_M_readLaw_1 rfl (by decide) ?_
  refine g_iconst (v := nI 0) hX d_M_readLaw_2 rfl ?_
  refine g_istore2 hX d_M_readLaw_3 rfl (by decide) ?_
  exact lpH 3 0 (by omega) (by omega)
theorem c_M_readLaw_costs_ok_ok {E : EV} {w : Mem} {t : List Nat} {f p : Nat} {c : List (Nat × Nat)} {cls : List ClT} (h : RdB w t f p c) (hX0 : RdX false c [] f p 0) (hC : RdC w false) (hcl : ClsP w c cls) (hc12 : cls.length ≤ 12) (h1 : isW t f wCosts) (hk : cls.length < 12) {f1 p1 : Nat} {d : Den} (hs : rdE t false 3 (nxT t f) p = .inr (f1, p1, d)) {f2 p2 : Nat} {d2 : Den} (hi : isW t f1 wIf) (ht : rdE t false 8 (nxT t f1) p1 = .inr (f2, p2, d2)) : T E m_M_readLaw 7 0 0 [.ref 89] w (fun r w2 => r = none ∧ FrW w w2 ∧ lawQ t cls (.inr (f2, p2, (true, d, some d2))) w2) := by
  refine T_of (L := [.ref 89, un, un, un]) cf_M_readLaw rfl (Nat.le_of_ble_eq_true rfl) (fun X hX hF => ?_)
  have htl := h.1.1.1
  have hp50 := hX0.1.2.2.1
  have k34 : G0 E X 0 0 34 [.ref 89, .int (headK t f 2), un, un] [] w := by
    rw [head_c h1]
    refine g_aload0 hX d_M_readLaw_34 ?_
    refine g_iload1 hX d_M_readLaw_35 ?_
    refine g_iconst (v := -1) hX d_M_readLaw_36 rfl ?_
    refine g_icmp_eq hX d_M_readLaw_37 (fun h => absurd h (show ¬ nI 0 = -1 by decide)) (fun c0 => ?_)
    refine g_aload0 hX d_M_readLaw_40 ?_
    refine g_getI hX d_M_readLaw_41 fl_M_389 (lv_89 _) ?_
    refine g_topi hcl.1 ?_
    refine g_bipush (v := nI 12) hX d_M_readLaw_44 rfl ?_
    refine g_icmpN_ge hX d_M_readLaw_46 (by omega) (by omega) (fun h => absurd h (by omega)) (fun c1 => ?_)
    refine g_iconst (v := nI 1) hX d_M_readLaw_49 rfl ?_
    refine g_goto hX d_M_readLaw_50 ?_
    refine g_callV (As := [_]) hX hF.1 d_M_readLaw_54 ml_M_291 cf_M_must cv_M_must rfl rfl (c_M_mustY h.1 h.2.2.2.1 rfl) (rcv_obj hX (lv_89 _) rfl rfl) (by omega) (by omega) (by omega) (Nat.le_of_ble_eq_true rfl) ?_
    rintro _ w2 ⟨rfl, hf2, hT2⟩
    have hR2 := h.tok hf2 hT2
    have hC2 := hC.fr hf2.R
    have hfw2 := hf2.R.W
    have hX2 := hX0.mono (Nat.le_of_lt (nxT_gt (isW_0 h1)))
    have hok2 := hT2.2.2.2.2.2
    have h21 : rI w2 89 21 = nI cls.length := by rw [hf2.2.1 21 (by decide) (by decide) (by decide)]; exact hcl.1
    have k96 : ∀ g : Nat → Int32, (∀ j, j < 8 * cls.length → g j = rI w2 99 j) → G0 E X 0 0 96 [.ref 89, .int (nI 0), .int (nI (8 * cls.length)), un] [] (sA w2 99 g) := by
      intro g hg2
      refine g_aload0 hX d_M_readLaw_96 ?_
      refine g_getF hX d_M_readLaw_97 fl_M_42 (lv_89 _) ?_
      refine g_iload2 hX d_M_readLaw_100 ?_
      refine g_iload1 hX d_M_readLaw_101 ?_
      refine g_iast hX d_M_readLaw_102 (lv_99 _) rfl (by omega) ?_
      refine g_aload0 hX d_M_readLaw_103 ?_
      refine g_dup hX d_M_readLaw_104 rfl ?_
      refine g_getI hX d_M_readLaw_105 fl_M_389 (lv_89 _) ?_
      refine g_topi (show rI (sI (sA w2 99 g) 99 (8 * cls.length) (nI 0)) 89 21 = nI cls.length from h21) ?_
      refine g_iconst (v := nI 1) hX d_M_readLaw_108 rfl ?_
      refine g_iaddN hX d_M_readLaw_109 ?_
      refine g_putI hX d_M_readLaw_110 fl_M_389 (lv_89 _) ?_
      refine g_aload0 hX d_M_readLaw_113 ?_
      refine g_getF hX d_M_readLaw_114 fl_M_42 (lv_89 _) ?_
      refine g_iload2 hX d_M_readLaw_117 ?_
      refine g_iconst (v := nI 3) hX d_M_readLaw_118 rfl ?_
      refine g_iaddN hX d_M_readLaw_119 ?_
      refine g_aload0 hX d_M_readLaw_120 ?_
      refine g_getI hX d_M_readLaw_121 fl_M_295 (lv_89 _) ?_
      refine g_topi (show rI (sI (sI (sA w2 99 g) 99 (8 * cls.length) (nI 0)) 89 21 (nI (cls.length + 1))) 89 23 = nI c.length by rw [rI_sI, upd_eq, if_neg (by decide)]; exact hR2.2.2.1.1) ?_
      refine g_iast hX d_M_readLaw_124 (lv_99 _) rfl (by omega) ?_
      have hv3 : FrV w2 (sI (sI (sI (sA w2 99 g) 99 (8 * cls.length) (nI 0)) 89 21 (nI (cls.length + 1))) 99 (8 * cls.length + 3) (nI c.length)) := (((FrV.rf w2).A (Or.inl rfl)).I (Or.inl rfl)).I (Or.inr (Or.inr ⟨rfl, rfl⟩)) |>.I (Or.inl rfl)
      have e99 : rI (sI (sI (sI (sA w2 99 g) 99 (8 * cls.length) (nI 0)) 89 21 (nI (cls.length + 1))) 99 (8 * cls.length + 3) (nI c.length)) 99 = upd (upd g (8 * cls.length) (nI 0)) (8 * cls.length + 3) (nI c.length) := by rw [rI_sI, rI_sI_ne _ _ _ (by decide), rI_sI, rI_sA]
      have e21 : rI (sI (sI (sI (sA w2 99 g) 99 (8 * cls.length) (nI 0)) 89 21 (nI (cls.length + 1))) 99 (8 * cls.length + 3) (nI c.length)) 89 21 = nI (cls.length + 1) := by rw [rI_sI_ne _ _ _ (by decide), rI_sI, upd_eq, if_pos rfl]
      obtain ⟨w3, hw3⟩ : ∃ w3, sI (sI (sI (sA w2 99 g) 99 (8 * cls.length) (nI 0)) 89 21 (nI (cls.length + 1))) 99 (8 * cls.length + 3) (nI c.length) = w3 := ⟨_, rfl⟩
      rw [hw3] at hv3 e99 e21
      refine g_mem hw3 ?_
      have hR3 := hR2.v hv3
      have hC3 := hC2.W hv3.W
      have hfw3 := hfw2.tr hv3.W
      refine g_iload1 hX d_M_readLaw_125 ?_
      refine g_if_ne hX d_M_readLaw_126 (fun h => absurd (by decide) h) (fun c0 => ?_)
      refine g_aload0 hX d_M_readLaw_129 ?_
      refine g_iconst (v := nI 0) hX d_M_readLaw_130 rfl ?_
      refine g_callV (As := [_]) hX hF.1 d_M_readLaw_131 ml_M_392 cf_M_readExpression cv_M_readExpression rfl rfl (c_M_readExpression (tb := 0) hR3 hX2 hC3 (by decide) (rdE_eq (m := 3) htl hok2 hp50)) (rcv_obj hX (lv_89 _) rfl rfl) (by omega) (by omega) (by omega) (Nat.le_of_ble_eq_true rfl) ?_
      rintro _ w4 ⟨rfl, hf4, he4⟩
      rw [hs] at he4
      have e99b : rI w4 99 = upd (upd g (8 * cls.length) (nI 0)) (8 * cls.length + 3) (nI c.length) := by rw [hf4.1 99 (by decide) (by decide)]; exact e99
      have e21b : rI w4 89 21 = nI (cls.length + 1) := by rw [hf4.2.1 21 (by decide) (by decide) (by decide) (by decide) (by decide) (by decide) (by decide) (by decide) (by decide)]; exact e21
      have hfw4 := hfw3.tr hf4.W
      have hC4 := hC3.fr hf4
      obtain ⟨kd2, hR4, hX4, hseg, hsame⟩ := he4
      have hR4 := hR4.B
      have hcode := hR4.2.2.1.1
      show G0 _ _ _ _ _ _ _ _
      refine g_aload0 hX d_M_readLaw_134 ?_
      refine g_getF hX d_M_readLaw_135 fl_M_42 (lv_89 _) ?_
      refine g_iload2 hX d_M_readLaw_138 ?_
      refine g_iconst (v := nI 4) hX d_M_readLaw_139 rfl ?_
      refine g_iaddN hX d_M_readLaw_140 ?_
      refine g_aload0 hX d_M_readLaw_141 ?_
      refine g_getI hX d_M_readLaw_142 fl_M_295 (lv_89 _) ?_
      refine g_topi hcode ?_
      refine g_iast hX d_M_readLaw_145 (lv_99 _) rfl (by omega) ?_
      refine g_aload0 hX d_M_readLaw_146 ?_
      refine g_getF hX d_M_readLaw_147 fl_M_42 (lv_89 _) ?_
      refine g_iload2 hX d_M_readLaw_150 ?_
      refine g_iconst (v := nI 5) hX d_M_readLaw_151 rfl ?_
      refine g_iaddN hX d_M_readLaw_152 ?_
      refine g_aload0 hX d_M_readLaw_153 ?_
      refine g_getI hX d_M_readLaw_154 fl_M_295 (lv_89 _) ?_
      refine g_topi (show rI (sI w4 99 (8 * cls.length + 4) (nI kd2.length)) 89 23 = nI kd2.length from hcode) ?_
      refine g_iast hX d_M_readLaw_157 (lv_99 _) rfl (by omega) ?_
      have hv5 : FrV w4 (sI (sI w4 99 (8 * cls.length + 4) (nI kd2.length)) 99 (8 * cls.length + 5) (nI kd2.length)) := ((FrV.rf w4).I (Or.inl rfl)).I (Or.inl rfl)
      have e99c : rI (sI (sI w4 99 (8 * cls.length + 4) (nI kd2.length)) 99 (8 * cls.length + 5) (nI kd2.length)) 99 = upd (upd (upd (upd g (8 * cls.length) (nI 0)) (8 * cls.length + 3) (nI c.length)) (8 * cls.length + 4) (nI kd2.length)) (8 * cls.length + 5) (nI kd2.length) := by rw [rI_sI, rI_sI, e99b]
      have e21c : rI (sI (sI w4 99 (8 * cls.length + 4) (nI kd2.length)) 99 (8 * cls.length + 5) (nI kd2.length)) 89 21 = nI (cls.length + 1) := e21b
      obtain ⟨w5, hw5⟩ : ∃ w5, sI (sI w4 99 (8 * cls.length + 4) (nI kd2.length)) 99 (8 * cls.length + 5) (nI kd2.length) = w5 := ⟨_, rfl⟩
      rw [hw5] at hv5 e99c e21c
      refine g_mem hw5 ?_
      have hfw5 := hfw4.tr hv5.W
      have hC5 := hC4.W hv5.W
      have hR5 := hR4.v hv5
      refine g_aload0 hX d_M_readLaw_158 ?_
      refine g_getZ hX d_M_readLaw_159 fl_M_258 (lv_89 _) ?_
      refine g_topi hR5.2.2.2.1 ?_
      refine g_if_ne hX d_M_readLaw_162 (fun h => absurd (by decide) h) (fun c1 => ?_)
      refine g_aload0 hX d_M_readLaw_165 ?_
      refine g_ldc2 (v := lN 294) hX d_M_readLaw_166 k_M_395 rfl ?_
      refine g_callV (As := [_]) hX hF.1 d_M_readLaw_169 ml_M_316 cf_M_isWord cv_M_isWord rfl rfl (c_M_isWord (wd := wIf) hR5.1 rfl (by decide) (by decide)) (rcv_obj hX (lv_89 _) rfl rfl) (by omega) (by omega) (by omega) (Nat.le_of_ble_eq_true rfl) ?_
      refine ret_k ?_
      refine g_ifB_eq hX d_M_readLaw_172 (fun h => absurd hi h) (fun c2 => ?_)
      refine g_aload0 hX d_M_readLaw_175 ?_
      refine g_callV (As := []) hX hF.1 d_M_readLaw_176 ml_M_262 cf_M_next cv_M_next rfl rfl (c_M_next hR5.1) (rcv_obj hX (lv_89 _) rfl rfl) (by omega) (by omega) (by omega) (Nat.le_of_ble_eq_true rfl) ?_
      rintro _ w6 ⟨rfl, hf6, hT6⟩
      have hR6 := hR5.tok hf6 hT6
      have hC6 := hC5.fr hf6.R
      have hX6 := hX4.mono (Nat.le_of_lt (nxT_gt (isW_0 hi)))
      show G0 _ _ _ _ _ _ _ _
      refine g_aload0 hX d_M_readLaw_179 ?_
      refine g_iconst (v := nI 1) hX d_M_readLaw_180 rfl ?_
      refine g_callV (As := [_]) hX hF.1 d_M_readLaw_181 ml_M_392 cf_M_readExpression cv_M_readExpression rfl rfl (c_M_readExpression (tb := 1) hR6 hX6 hC6 (by decide) (rdE_eq (m := 8) htl hT6.2.2.2.2.2 hX4.1.2.2.1)) (rcv_obj hX (lv_89 _) rfl rfl) (by omega) (by omega) (by omega) (Nat.le_of_ble_eq_true rfl) ?_
      rintro _ w7 ⟨rfl, hf7, he7⟩
      rw [ht] at he7
      have hfw7 := hfw5.tr (hf6.R.tr hf7).W
      have e99d : rI w7 99 = upd (upd (upd (upd g (8 * cls.length) (nI 0)) (8 * cls.length + 3) (nI c.length)) (8 * cls.length + 4) (nI kd2.length)) (8 * cls.length + 5) (nI kd2.length) := by rw [hf7.1 99 (by decide) (by decide), hf6.1 99 (by decide)]; exact e99c
      have e21d : rI w7 89 21 = nI (cls.length + 1) := by rw [hf7.2.1 21 (by decide) (by decide) (by decide) (by decide) (by decide) (by decide) (by decide) (by decide) (by decide), hf6.2.1 21 (by decide) (by decide) (by decide)]; exact e21c
      obtain ⟨kd3, hR7, hX7, hseg7, hsame7⟩ := he7
      have hR7 := hR7.B
      have hcode7 := hR7.2.2.1.1
      have hss := hsame.tr hsame7 hsame.1
      have hsl7 := hsame7.1
      show G0 _ _ _ _ _ _ _ _
      refine g_aload0 hX d_M_readLaw_184 ?_
      refine g_getF hX d_M_readLaw_185 fl_M_42 (lv_89 _) ?_
      refine g_iload2 hX d_M_readLaw_188 ?_
      refine g_bipush (v := nI 6) hX d_M_readLaw_189 rfl ?_
      refine g_iaddN hX d_M_readLaw_191 ?_
      refine g_aload0 hX d_M_readLaw_192 ?_
      refine g_getI hX d_M_readLaw_193 fl_M_295 (lv_89 _) ?_
      refine g_topi hcode7 ?_
      refine g_iast hX d_M_readLaw_196 (lv_99 _) rfl (by omega) ?_
      refine g_vret hX hF d_M_readLaw_197 (by omega) (by omega) ?_
      refine ⟨rfl, hfw7.I (Or.inl rfl), ?_⟩
      refine ⟨kd3, RdB.v hR7 ((FrV.rf _).I (Or.inl rfl)), hX7, ?_⟩
      refine ⟨by rw [rI_sI_ne _ _ _ (by decide), List.length_append]; exact e21d, fun j q hq => ?_⟩
      rw [rI_sI, e99d]
      by_cases hj : j < cls.length
      · rw [List.getElem?_append_left hj] at hq
        refine (hcl.2 j q hq).same hss (fun m hm => ?_)
        rw [upd_eq, upd_eq, upd_eq, upd_eq, upd_eq, if_neg (by omega), if_neg (by omega), if_neg (by omega), if_neg (by omega), if_neg (by omega)]
        rw [hg2 _ (by omega), hf2.1 99 (by decide)]
      · rw [List.getElem?_append_right (by omega)] at hq
        have hj0 : j = cls.length := by
          by_cases z : j = cls.length
          · exact z
          · rw [List.getElem?_eq_none (by rw [List.length_singleton]; omega)] at hq
            cases hq
        subst hj0
        rw [Nat.sub_self] at hq
        obtain rfl := Option.some.inj hq.symm
        refine ⟨?_, c.length, kd2.length, kd2.length, kd3.length, ?_, ?_, ?_, ?_, hsl7, Nat.le_refl _, hsl7, (fun _ => SegS.same hseg hsame7 (Nat.le_refl _)), hseg7⟩
        · rw [upd_eq, upd_eq, upd_eq, upd_eq, upd_eq, if_neg (by omega), if_neg (by omega), if_neg (by omega), if_neg (by omega), if_pos rfl]; rfl
        · rw [upd_eq, upd_eq, upd_eq, upd_eq, if_neg (by omega), if_neg (by omega), if_neg (by omega), if_pos rfl]
        · rw [upd_eq, upd_eq, upd_eq, if_neg (by omega), if_neg (by omega), if_pos rfl]
        · rw [upd_eq, upd_eq, if_neg (by omega), if_pos rfl]
        · rw [upd_eq, if_pos rfl]
    have lpZ : ∀ (fuel : Nat) (k : Nat) (g : Nat → Int32), 8 - k < fuel → (k ≤ 8) → (∀ j, j < 8 * cls.length → g j = rI w2 99 j) → G0 E X 0 0 75 [.ref 89, .int (nI 0), .int (nI (8 * cls.length)), .int (nI k)] [] (sA w2 99 g) := by
      intro fuel
      induction fuel with
      | zero => intro k g q0; exact absurd q0 (Nat.not_lt_zero _)
      | succ fuel ih =>
        intro k g q0 q1 q2
        refine g_iload3 hX d_M_readLaw_75 ?_
        refine g_bipush (v := nI 8) hX d_M_readLaw_76 rfl ?_
        refine g_icmpN_ge hX d_M_readLaw_78 (by omega) (by omega) (fun c0 => ?_) (fun c0 => ?_)
        · refine g_fget 3 ?_
          exact k96 g q2
        · refine g_aload0 hX d_M_readLaw_81 ?_
          refine g_getF hX d_M_readLaw_82 fl_M_42 (lv_89 _) ?_
          refine g_iload2 hX d_M_readLaw_85 ?_
          refine g_iload3 hX d_M_readLaw_86 ?_
          refine g_iaddN hX d_M_readLaw_87 ?_
          refine g_iconst (v := nI 0) hX d_M_readLaw_88 rfl ?_
          refine g_iast hX d_M_readLaw_89 (lv_99 _) rfl (by omega) ?_
          refine g_iincN3 hX d_M_readLaw_90 rfl (by decide) ?_
          refine g_goto hX d_M_readLaw_93 ?_
          rw [sI_sA]
          exact ih (k + 1) _ (by omega) (by omega) (fun j hj => by rw [upd_eq, if_neg (by omega)]; exact q2 j hj)
    show G0 _ _ _ _ _ _ _ _
    refine g_aload0 hX d_M_readLaw_57 ?_
    refine g_getZ hX d_M_readLaw_58 fl_M_258 (lv_89 _) ?_
    refine g_topi hR2.2.2.2.1 ?_
    refine g_if_eq hX d_M_readLaw_61 (fun c2 => ?_) (fun h => absurd (by decide) h)
    refine g_bipush (v := nI 8) hX d_M_readLaw_65 rfl ?_
    refine g_aload0 hX d_M_readLaw_67 ?_
    refine g_getI hX d_M_readLaw_68 fl_M_389 (lv_89 _) ?_
    refine g_topi h21 ?_
    refine g_imulN hX d_M_readLaw_71 ?_
    refine g_istore2 hX d_M_readLaw_72 rfl (by decide) ?_
    refine g_iconst (v := nI 0) hX d_M_readLaw_73 rfl ?_
    refine g_istore3 hX d_M_readLaw_74 rfl (by decide) ?_
    refine g_mem (show w2 = sA w2 99 (rI w2 99) from (sA_self _ _).symm) ?_
    exact lpZ 9 0 _ (by omega) (by omega) (fun j _ => rfl)
  have lpH : ∀ (fuel : Nat) (k : Nat), 2 - k < fuel → (k ≤ 2) → G0 E X 0 0 4 [.ref 89, .int (headK t f k), .int (nI k), un] [] w := by
    intro fuel
    induction fuel with
    | zero => intro k q0; exact absurd q0 (Nat.not_lt_zero _)
    | succ fuel ih =>
      intro k q0 q1
      refine g_iload2 hX d_M_readLaw_4 ?_
      refine g_iconst (v := nI 2) hX d_M_readLaw_5 rfl ?_
      refine g_icmpN_ge hX d_M_readLaw_6 (by omega) (by omega) (fun c0 => ?_) (fun c0 => ?_)
      · refine g_fget 2 ?_
        have hk2 : k = 2 := by omega
        rw [hk2]
        exact k34
      · obtain ⟨w1, w2, w3⟩ := heads_w k (by omega)
        refine g_aload0 hX d_M_readLaw_9 ?_
        refine g_aload0 hX d_M_readLaw_10 ?_
        refine g_getF hX d_M_readLaw_11 fl_M_90 (lv_89 _) ?_
        refine g_iload2 hX d_M_readLaw_14 ?_
        refine g_lald hX d_M_readLaw_15 (lv_106 _) rfl (by omega) ?_
        refine g_topl (hC.2.2.2.1 k (by omega)) ?_
        refine g_callV (As := [_]) hX hF.1 d_M_readLaw_16 ml_M_316 cf_M_isWord cv_M_isWord rfl rfl (c_M_isWord h.1 (show lN _ = _ by rw [lI_nat]; exact congrArg lI w3) w1 w2) (rcv_obj hX (lv_89 _) rfl rfl) (by omega) (by omega) (by omega) (Nat.le_of_ble_eq_true rfl) ?_
        refine ret_k ?_
        refine g_ifB_eq hX d_M_readLaw_19 (fun e19 => ?_) (fun e19 => ?_)
        · refine g_iload1 hX d_M_readLaw_26 ?_
          refine g_istore1 hX d_M_readLaw_27 rfl (by decide) ?_
          refine g_iincN2 hX d_M_readLaw_28 rfl (by decide) ?_
          refine g_goto hX d_M_readLaw_31 ?_
          refine g_loc (show _ = [.ref 89, .int (headK t f (k + 1)), .int (nI (k + 1)), un] by rw [headK, if_neg e19]) ?_
          exact ih (k + 1) (by omega) (by omega)
        · refine g_iload2 hX d_M_readLaw_22 ?_
          refine g_goto hX d_M_readLaw_23 ?_
          refine g_istore1 hX d_M_readLaw_27 rfl (by decide) ?_
          refine g_iincN2 hX d_M_readLaw_28 rfl (by decide) ?_
          refine g_goto hX d_M_readLaw_31 ?_
          refine g_loc (show _ = [.ref 89, .int (headK t f (k + 1)), .int (nI (k + 1)), un] by rw [headK, if_pos e19]) ?_
          exact ih (k + 1) (by omega) (by omega)
  refine g_iconst (v := -1) hX d_M_readLaw_0 rfl ?_
  refine g_istore1 hX d_M_readLaw_1 rfl (by decide) ?_
  refine g_iconst (v := nI 0) hX d_M_readLaw_2 rfl ?_
  refine g_istore2 hX d_M_readLaw_3 rfl (by decide) ?_
  exact lpH 3 0 (by omega) (by omega)
theorem c_M_readLaw_bars_ok_no {E : EV} {w : Mem} {t : List Nat} {f p : Nat} {c : List (Nat × Nat)} {cls : List ClT} (h : RdB w t f p c) (hX0 : RdX false c [] f p 0) (hC : RdC w false) (hcl : ClsP w c cls) (hc12 : cls.length ≤ 12) (h1 : isW t f wBars) (hk : cls.length < 12) (hi : ¬ isW t (nxT t f) wIf) : T E m_M_readLaw 7 0 0 [.ref 89] w (fun r w2 => r = none ∧ FrW w w2 ∧ lawQ t cls (.inr ((nxT t f), p, (false, (fun _ => none), none))) w2) := by
  refine T_of (L := [.ref 89, un, un, un]) cf_M_readLaw rfl (Nat.le_of_ble_eq_true rfl) (fun X hX hF => ?_)
  have htl := h.1.1.1
  have hp50 := hX0.1.2.2.1
  have k34 : G0 E X 0 0 34 [.ref 89, .int (headK t f 2), un, un] [] w := by
    rw [head_b h1]
    refine g_aload0 hX d_M_readLaw_34 ?_
    refine g_iload1 hX d_M_readLaw_35 ?_
    refine g_iconst (v := -1) hX d_M_readLaw_36 rfl ?_
    refine g_icmp_eq hX d_M_readLaw_37 (fun h => absurd h (show ¬ nI 1 = -1 by decide)) (fun c0 => ?_)
    refine g_aload0 hX d_M_readLaw_40 ?_
    refine g_getI hX d_M_readLaw_41 fl_M_389 (lv_89 _) ?_
    refine g_topi hcl.1 ?_
    refine g_bipush (v := nI 12) hX d_M_readLaw_44 rfl ?_
    refine g_icmpN_ge hX d_M_readLaw_46 (by omega) (by omega) (fun h => absurd h (by omega)) (fun c1 => ?_)
    refine g_iconst (v := nI 1) hX d_M_readLaw_49 rfl ?_
    refine g_goto hX d_M_readLaw_50 ?_
    refine g_callV (As := [_]) hX hF.1 d_M_readLaw_54 ml_M_291 cf_M_must cv_M_must rfl rfl (c_M_mustY h.1 h.2.2.2.1 rfl) (rcv_obj hX (lv_89 _) rfl rfl) (by omega) (by omega) (by omega) (Nat.le_of_ble_eq_true rfl) ?_
    rintro _ w2 ⟨rfl, hf2, hT2⟩
    have hR2 := h.tok hf2 hT2
    have hC2 := hC.fr hf2.R
    have hfw2 := hf2.R.W
    have hX2 := hX0.mono (Nat.le_of_lt (nxT_gt (isW_0 h1)))
    have hok2 := hT2.2.2.2.2.2
    have h21 : rI w2 89 21 = nI cls.length := by rw [hf2.2.1 21 (by decide) (by decide) (by decide)]; exact hcl.1
    have k96 : ∀ g : Nat → Int32, (∀ j, j < 8 * cls.length → g j = rI w2 99 j) → G0 E X 0 0 96 [.ref 89, .int (nI 1), .int (nI (8 * cls.length)), un] [] (sA w2 99 g) := by
      intro g hg2
      refine g_aload0 hX d_M_readLaw_96 ?_
      refine g_getF hX d_M_readLaw_97 fl_M_42 (lv_89 _) ?_
      refine g_iload2 hX d_M_readLaw_100 ?_
      refine g_iload1 hX d_M_readLaw_101 ?_
      refine g_iast hX d_M_readLaw_102 (lv_99 _) rfl (by omega) ?_
      refine g_aload0 hX d_M_readLaw_103 ?_
      refine g_dup hX d_M_readLaw_104 rfl ?_
      refine g_getI hX d_M_readLaw_105 fl_M_389 (lv_89 _) ?_
      refine g_topi (show rI (sI (sA w2 99 g) 99 (8 * cls.length) (nI 1)) 89 21 = nI cls.length from h21) ?_
      refine g_iconst (v := nI 1) hX d_M_readLaw_108 rfl ?_
      refine g_iaddN hX d_M_readLaw_109 ?_
      refine g_putI hX d_M_readLaw_110 fl_M_389 (lv_89 _) ?_
      refine g_aload0 hX d_M_readLaw_113 ?_
      refine g_getF hX d_M_readLaw_114 fl_M_42 (lv_89 _) ?_
      refine g_iload2 hX d_M_readLaw_117 ?_
      refine g_iconst (v := nI 3) hX d_M_readLaw_118 rfl ?_
      refine g_iaddN hX d_M_readLaw_119 ?_
      refine g_aload0 hX d_M_readLaw_120 ?_
      refine g_getI hX d_M_readLaw_121 fl_M_295 (lv_89 _) ?_
      refine g_topi (show rI (sI (sI (sA w2 99 g) 99 (8 * cls.length) (nI 1)) 89 21 (nI (cls.length + 1))) 89 23 = nI c.length by rw [rI_sI, upd_eq, if_neg (by decide)]; exact hR2.2.2.1.1) ?_
      refine g_iast hX d_M_readLaw_124 (lv_99 _) rfl (by omega) ?_
      have hv3 : FrV w2 (sI (sI (sI (sA w2 99 g) 99 (8 * cls.length) (nI 1)) 89 21 (nI (cls.length + 1))) 99 (8 * cls.length + 3) (nI c.length)) := (((FrV.rf w2).A (Or.inl rfl)).I (Or.inl rfl)).I (Or.inr (Or.inr ⟨rfl, rfl⟩)) |>.I (Or.inl rfl)
      have e99 : rI (sI (sI (sI (sA w2 99 g) 99 (8 * cls.length) (nI 1)) 89 21 (nI (cls.length + 1))) 99 (8 * cls.length + 3) (nI c.length)) 99 = upd (upd g (8 * cls.length) (nI 1)) (8 * cls.length + 3) (nI c.length) := by rw [rI_sI, rI_sI_ne _ _ _ (by decide), rI_sI, rI_sA]
      have e21 : rI (sI (sI (sI (sA w2 99 g) 99 (8 * cls.length) (nI 1)) 89 21 (nI (cls.length + 1))) 99 (8 * cls.length + 3) (nI c.length)) 89 21 = nI (cls.length + 1) := by rw [rI_sI_ne _ _ _ (by decide), rI_sI, upd_eq, if_pos rfl]
      obtain ⟨w3, hw3⟩ : ∃ w3, sI (sI (sI (sA w2 99 g) 99 (8 * cls.length) (nI 1)) 89 21 (nI (cls.length + 1))) 99 (8 * cls.length + 3) (nI c.length) = w3 := ⟨_, rfl⟩
      rw [hw3] at hv3 e99 e21
      refine g_mem hw3 ?_
      have hR3 := hR2.v hv3
      have hC3 := hC2.W hv3.W
      have hfw3 := hfw2.tr hv3.W
      refine g_iload1 hX d_M_readLaw_125 ?_
      refine g_if_ne hX d_M_readLaw_126 (fun c0 => ?_) (fun h => absurd h (by decide))
      have e99b := e99
      have e21b := e21
      have hfw4 := hfw3
      have hC4 := hC3
      have hR4 := hR3
      have hX4 := hX2
      have hcode := hR3.2.2.1.1
      have hsame : SameC c.length c c := ⟨Nat.le_refl _, fun _ _ => ⟨rfl, rfl⟩⟩
      refine g_aload0 hX d_M_readLaw_134 ?_
      refine g_getF hX d_M_readLaw_135 fl_M_42 (lv_89 _) ?_
      refine g_iload2 hX d_M_readLaw_138 ?_
      refine g_iconst (v := nI 4) hX d_M_readLaw_139 rfl ?_
      refine g_iaddN hX d_M_readLaw_140 ?_
      refine g_aload0 hX d_M_readLaw_141 ?_
      refine g_getI hX d_M_readLaw_142 fl_M_295 (lv_89 _) ?_
      refine g_topi hcode ?_
      refine g_iast hX d_M_readLaw_145 (lv_99 _) rfl (by omega) ?_
      refine g_aload0 hX d_M_readLaw_146 ?_
      refine g_getF hX d_M_readLaw_147 fl_M_42 (lv_89 _) ?_
      refine g_iload2 hX d_M_readLaw_150 ?_
      refine g_iconst (v := nI 5) hX d_M_readLaw_151 rfl ?_
      refine g_iaddN hX d_M_readLaw_152 ?_
      refine g_aload0 hX d_M_readLaw_153 ?_
      refine g_getI hX d_M_readLaw_154 fl_M_295 (lv_89 _) ?_
      refine g_topi (show rI (sI w3 99 (8 * cls.length + 4) (nI c.length)) 89 23 = nI c.length from hcode) ?_
      refine g_iast hX d_M_readLaw_157 (lv_99 _) rfl (by omega) ?_
      have hv5 : FrV w3 (sI (sI w3 99 (8 * cls.length + 4) (nI c.length)) 99 (8 * cls.length + 5) (nI c.length)) := ((FrV.rf w3).I (Or.inl rfl)).I (Or.inl rfl)
      have e99c : rI (sI (sI w3 99 (8 * cls.length + 4) (nI c.length)) 99 (8 * cls.length + 5) (nI c.length)) 99 = upd (upd (upd (upd g (8 * cls.length) (nI 1)) (8 * cls.length + 3) (nI c.length)) (8 * cls.length + 4) (nI c.length)) (8 * cls.length + 5) (nI c.length) := by rw [rI_sI, rI_sI, e99b]
      have e21c : rI (sI (sI w3 99 (8 * cls.length + 4) (nI c.length)) 99 (8 * cls.length + 5) (nI c.length)) 89 21 = nI (cls.length + 1) := e21b
      obtain ⟨w5, hw5⟩ : ∃ w5, sI (sI w3 99 (8 * cls.length + 4) (nI c.length)) 99 (8 * cls.length + 5) (nI c.length) = w5 := ⟨_, rfl⟩
      rw [hw5] at hv5 e99c e21c
      refine g_mem hw5 ?_
      have hfw5 := hfw4.tr hv5.W
      have hC5 := hC4.W hv5.W
      have hR5 := hR4.v hv5
      refine g_aload0 hX d_M_readLaw_158 ?_
      refine g_getZ hX d_M_readLaw_159 fl_M_258 (lv_89 _) ?_
      refine g_topi hR5.2.2.2.1 ?_
      refine g_if_ne hX d_M_readLaw_162 (fun h => absurd (by decide) h) (fun c1 => ?_)
      refine g_aload0 hX d_M_readLaw_165 ?_
      refine g_ldc2 (v := lN 294) hX d_M_readLaw_166 k_M_395 rfl ?_
      refine g_callV (As := [_]) hX hF.1 d_M_readLaw_169 ml_M_316 cf_M_isWord cv_M_isWord rfl rfl (c_M_isWord (wd := wIf) hR5.1 rfl (by decide) (by decide)) (rcv_obj hX (lv_89 _) rfl rfl) (by omega) (by omega) (by omega) (Nat.le_of_ble_eq_true rfl) ?_
      refine ret_k ?_
      refine g_ifB_eq hX d_M_readLaw_172 (fun c2 => ?_) (fun h => absurd h hi)
      refine g_aload0 hX d_M_readLaw_184 ?_
      refine g_getF hX d_M_readLaw_185 fl_M_42 (lv_89 _) ?_
      refine g_iload2 hX d_M_readLaw_188 ?_
      refine g_bipush (v := nI 6) hX d_M_readLaw_189 rfl ?_
      refine g_iaddN hX d_M_readLaw_191 ?_
      refine g_aload0 hX d_M_readLaw_192 ?_
      refine g_getI hX d_M_readLaw_193 fl_M_295 (lv_89 _) ?_
      refine g_topi (show rI w5 89 23 = nI c.length from hR5.2.2.1.1) ?_
      refine g_iast hX d_M_readLaw_196 (lv_99 _) rfl (by omega) ?_
      refine g_vret hX hF d_M_readLaw_197 (by omega) (by omega) ?_
      refine ⟨rfl, hfw5.I (Or.inl rfl), ?_⟩
      refine ⟨c, RdB.v hR5 ((FrV.rf _).I (Or.inl rfl)), hX4, ?_⟩
      refine ⟨by rw [rI_sI_ne _ _ _ (by decide), List.length_append]; exact e21c, fun j q hq => ?_⟩
      rw [rI_sI, e99c]
      by_cases hj : j < cls.length
      · rw [List.getElem?_append_left hj] at hq
        refine (hcl.2 j q hq).same hsame (fun m hm => ?_)
        rw [upd_eq, upd_eq, upd_eq, upd_eq, upd_eq, if_neg (by omega), if_neg (by omega), if_neg (by omega), if_neg (by omega), if_neg (by omega)]
        rw [hg2 _ (by omega), hf2.1 99 (by decide)]
      · rw [List.getElem?_append_right (by omega)] at hq
        have hj0 : j = cls.length := by
          by_cases z : j = cls.length
          · exact z
          · rw [List.getElem?_eq_none (by rw [List.length_singleton]; omega)] at hq
            cases hq
        subst hj0
        rw [Nat.sub_self] at hq
        obtain rfl := Option.some.inj hq.symm
        refine ⟨?_, c.length, c.length, c.length, c.length, ?_, ?_, ?_, ?_, Nat.le_refl _, Nat.le_refl _, Nat.le_refl _, (fun z => by cases z), rfl⟩
        · rw [upd_eq, upd_eq, upd_eq, upd_eq, upd_eq, if_neg (by omega), if_neg (by omega), if_neg (by omega), if_neg (by omega), if_pos rfl]; rfl
        · rw [upd_eq, upd_eq, upd_eq, upd_eq, if_neg (by omega), if_neg (by omega), if_neg (by omega), if_pos rfl]
        · rw [upd_eq, upd_eq, upd_eq, if_neg (by omega), if_neg (by omega), if_pos rfl]
        · rw [upd_eq, upd_eq, if_neg (by omega), if_pos rfl]
        · rw [upd_eq, if_pos rfl]
    have lpZ : ∀ (fuel : Nat) (k : Nat) (g : Nat → Int32), 8 - k < fuel → (k ≤ 8) → (∀ j, j < 8 * cls.length → g j = rI w2 99 j) → G0 E X 0 0 75 [.ref 89, .int (nI 1), .int (nI (8 * cls.length)), .int (nI k)] [] (sA w2 99 g) := by
      intro fuel
      induction fuel with
      | zero => intro k g q0; exact absurd q0 (Nat.not_lt_zero _)
      | succ fuel ih =>
        intro k g q0 q1 q2
        refine g_iload3 hX d_M_readLaw_75 ?_
        refine g_bipush (v := nI 8) hX d_M_readLaw_76 rfl ?_
        refine g_icmpN_ge hX d_M_readLaw_78 (by omega) (by omega) (fun c0 => ?_) (fun c0 => ?_)
        · refine g_fget 3 ?_
          exact k96 g q2
        · refine g_aload0 hX d_M_readLaw_81 ?_
          refine g_getF hX d_M_readLaw_82 fl_M_42 (lv_89 _) ?_
          refine g_iload2 hX d_M_readLaw_85 ?_
          refine g_iload3 hX d_M_readLaw_86 ?_
          refine g_iaddN hX d_M_readLaw_87 ?_
          refine g_iconst (v := nI 0) hX d_M_readLaw_88 rfl ?_
          refine g_iast hX d_M_readLaw_89 (lv_99 _) rfl (by omega) ?_
          refine g_iincN3 hX d_M_readLaw_90 rfl (by decide) ?_
          refine g_goto hX d_M_readLaw_93 ?_
          rw [sI_sA]
          exact ih (k + 1) _ (by omega) (by omega) (fun j hj => by rw [upd_eq, if_neg (by omega)]; exact q2 j hj)
    show G0 _ _ _ _ _ _ _ _
    refine g_aload0 hX d_M_readLaw_57 ?_
    refine g_getZ hX d_M_readLaw_58 fl_M_258 (lv_89 _) ?_
    refine g_topi hR2.2.2.2.1 ?_
    refine g_if_eq hX d_M_readLaw_61 (fun c2 => ?_) (fun h => absurd (by decide) h)
    refine g_bipush (v := nI 8) hX d_M_readLaw_65 rfl ?_
    refine g_aload0 hX d_M_readLaw_67 ?_
    refine g_getI hX d_M_readLaw_68 fl_M_389 (lv_89 _) ?_
    refine g_topi h21 ?_
    refine g_imulN hX d_M_readLaw_71 ?_
    refine g_istore2 hX d_M_readLaw_72 rfl (by decide) ?_
    refine g_iconst (v := nI 0) hX d_M_readLaw_73 rfl ?_
    refine g_istore3 hX d_M_readLaw_74 rfl (by decide) ?_
    refine g_mem (show w2 = sA w2 99 (rI w2 99) from (sA_self _ _).symm) ?_
    exact lpZ 9 0 _ (by omega) (by omega) (fun j _ => rfl)
  have lpH : ∀ (fuel : Nat) (k : Nat), 2 - k < fuel → (k ≤ 2) → G0 E X 0 0 4 [.ref 89, .int (headK t f k), .int (nI k), un] [] w := by
    intro fuel
    induction fuel with
    | zero => intro k q0; exact absurd q0 (Nat.not_lt_zero _)
    | succ fuel ih =>
      intro k q0 q1
      refine g_iload2 hX d_M_readLaw_4 ?_
      refine g_iconst (v := nI 2) hX d_M_readLaw_5 rfl ?_
      refine g_icmpN_ge hX d_M_readLaw_6 (by omega) (by omega) (fun c0 => ?_) (fun c0 => ?_)
      · refine g_fget 2 ?_
        have hk2 : k = 2 := by omega
        rw [hk2]
        exact k34
      · obtain ⟨w1, w2, w3⟩ := heads_w k (by omega)
        refine g_aload0 hX d_M_readLaw_9 ?_
        refine g_aload0 hX d_M_readLaw_10 ?_
        refine g_getF hX d_M_readLaw_11 fl_M_90 (lv_89 _) ?_
        refine g_iload2 hX d_M_readLaw_14 ?_
        refine g_lald hX d_M_readLaw_15 (lv_106 _) rfl (by omega) ?_
        refine g_topl (hC.2.2.2.1 k (by omega)) ?_
        refine g_callV (As := [_]) hX hF.1 d_M_readLaw_16 ml_M_316 cf_M_isWord cv_M_isWord rfl rfl (c_M_isWord h.1 (show lN _ = _ by rw [lI_nat]; exact congrArg lI w3) w1 w2) (rcv_obj hX (lv_89 _) rfl rfl) (by omega) (by omega) (by omega) (Nat.le_of_ble_eq_true rfl) ?_
        refine ret_k ?_
        refine g_ifB_eq hX d_M_readLaw_19 (fun e19 => ?_) (fun e19 => ?_)
        · refine g_iload1 hX d_M_readLaw_26 ?_
          refine g_istore1 hX d_M_readLaw_27 rfl (by decide) ?_
          refine g_iincN2 hX d_M_readLaw_28 rfl (by decide) ?_
          refine g_goto hX d_M_readLaw_31 ?_
          refine g_loc (show _ = [.ref 89, .int (headK t f (k + 1)), .int (nI (k + 1)), un] by rw [headK, if_neg e19]) ?_
          exact ih (k + 1) (by omega) (by omega)
        · refine g_iload2 hX d_M_readLaw_22 ?_
          refine g_goto hX d_M_readLaw_23 ?_
          refine g_istore1 hX d_M_readLaw_27 rfl (by decide) ?_
          refine g_iincN2 hX d_M_readLaw_28 rfl (by decide) ?_
          refine g_goto hX d_M_readLaw_31 ?_
          refine g_loc (show _ = [.ref 89, .int (headK t f (k + 1)), .int (nI (k + 1)), un] by rw [headK, if_pos e19]) ?_
          exact ih (k + 1) (by omega) (by omega)
  refine g_iconst (v := -1) hX d_M_readLaw_0 rfl ?_
  refine g_istore1 hX d_M_readLaw_1 rfl (by decide) ?_
  refine g_iconst (v := nI 0) hX d_M_readLaw_2 rfl ?_
  refine g_istore2 hX d_M_readLaw_3 rfl (by decide) ?_
  exact lpH 3 0 (by omega) (by omega)
theorem c_M_readLaw_bars_ok_bad {E : EV} {w : Mem} {t : List Nat} {f p : Nat} {c : List (Nat × Nat)} {cls : List ClT} (h : RdB w t f p c) (hX0 : RdX false c [] f p 0) (hC : RdC w false) (hcl : ClsP w c cls) (hc12 : cls.length ≤ 12) (h1 : isW t f wBars) (hk : cls.length < 12) {e : Nat} (hi : isW t (nxT t f) wIf) (ht : rdE t false 8 (nxT t (nxT t f)) p = .inl e) : T E m_M_readLaw 7 0 0 [.ref 89] w (fun r w2 => r = none ∧ FrW w w2 ∧ BadB w2 t e) := by
  refine T_of (L := [.ref 89, un, un, un]) cf_M_readLaw rfl (Nat.le_of_ble_eq_true rfl) (fun X hX hF => ?_)
  have htl := h.1.1.1
  have hp50 := hX0.1.2.2.1
  have k34 : G0 E X 0 0 34 [.ref 89, .int (headK t f 2), un, un] [] w := by
    rw [head_b h1]
    refine g_aload0 hX d_M_readLaw_34 ?_
    refine g_iload1 hX d_M_readLaw_35 ?_
    refine g_iconst (v := -1) hX d_M_readLaw_36 rfl ?_
    refine g_icmp_eq hX d_M_readLaw_37 (fun h => absurd h (show ¬ nI 1 = -1 by decide)) (fun c0 => ?_)
    refine g_aload0 hX d_M_readLaw_40 ?_
    refine g_getI hX d_M_readLaw_41 fl_M_389 (lv_89 _) ?_
    refine g_topi hcl.1 ?_
    refine g_bipush (v := nI 12) hX d_M_readLaw_44 rfl ?_
    refine g_icmpN_ge hX d_M_readLaw_46 (by omega) (by omega) (fun h => absurd h (by omega)) (fun c1 => ?_)
    refine g_iconst (v := nI 1) hX d_M_readLaw_49 rfl ?_
    refine g_goto hX d_M_readLaw_50 ?_
    refine g_callV (As := [_]) hX hF.1 d_M_readLaw_54 ml_M_291 cf_M_must cv_M_must rfl rfl (c_M_mustY h.1 h.2.2.2.1 rfl) (rcv_obj hX (lv_89 _) rfl rfl) (by omega) (by omega) (by omega) (Nat.le_of_ble_eq_true rfl) ?_
    rintro _ w2 ⟨rfl, hf2, hT2⟩
    have hR2 := h.tok hf2 hT2
    have hC2 := hC.fr hf2.R
    have hfw2 := hf2.R.W
    have hX2 := hX0.mono (Nat.le_of_lt (nxT_gt (isW_0 h1)))
    have hok2 := hT2.2.2.2.2.2
    have h21 : rI w2 89 21 = nI cls.length := by rw [hf2.2.1 21 (by decide) (by decide) (by decide)]; exact hcl.1
    have k96 : ∀ g : Nat → Int32, (∀ j, j < 8 * cls.length → g j = rI w2 99 j) → G0 E X 0 0 96 [.ref 89, .int (nI 1), .int (nI (8 * cls.length)), un] [] (sA w2 99 g) := by
      intro g hg2
      refine g_aload0 hX d_M_readLaw_96 ?_
      refine g_getF hX d_M_readLaw_97 fl_M_42 (lv_89 _) ?_
      refine g_iload2 hX d_M_readLaw_100 ?_
      refine g_iload1 hX d_M_readLaw_101 ?_
      refine g_iast hX d_M_readLaw_102 (lv_99 _) rfl (by omega) ?_
      refine g_aload0 hX d_M_readLaw_103 ?_
      refine g_dup hX d_M_readLaw_104 rfl ?_
      refine g_getI hX d_M_readLaw_105 fl_M_389 (lv_89 _) ?_
      refine g_topi (show rI (sI (sA w2 99 g) 99 (8 * cls.length) (nI 1)) 89 21 = nI cls.length from h21) ?_
      refine g_iconst (v := nI 1) hX d_M_readLaw_108 rfl ?_
      refine g_iaddN hX d_M_readLaw_109 ?_
      refine g_putI hX d_M_readLaw_110 fl_M_389 (lv_89 _) ?_
      refine g_aload0 hX d_M_readLaw_113 ?_
      refine g_getF hX d_M_readLaw_114 fl_M_42 (lv_89 _) ?_
      refine g_iload2 hX d_M_readLaw_117 ?_
      refine g_iconst (v := nI 3) hX d_M_readLaw_118 rfl ?_
      refine g_iaddN hX d_M_readLaw_119 ?_
      refine g_aload0 hX d_M_readLaw_120 ?_
      refine g_getI hX d_M_readLaw_121 fl_M_295 (lv_89 _) ?_
      refine g_topi (show rI (sI (sI (sA w2 99 g) 99 (8 * cls.length) (nI 1)) 89 21 (nI (cls.length + 1))) 89 23 = nI c.length by rw [rI_sI, upd_eq, if_neg (by decide)]; exact hR2.2.2.1.1) ?_
      refine g_iast hX d_M_readLaw_124 (lv_99 _) rfl (by omega) ?_
      have hv3 : FrV w2 (sI (sI (sI (sA w2 99 g) 99 (8 * cls.length) (nI 1)) 89 21 (nI (cls.length + 1))) 99 (8 * cls.length + 3) (nI c.length)) := (((FrV.rf w2).A (Or.inl rfl)).I (Or.inl rfl)).I (Or.inr (Or.inr ⟨rfl, rfl⟩)) |>.I (Or.inl rfl)
      have e99 : rI (sI (sI (sI (sA w2 99 g) 99 (8 * cls.length) (nI 1)) 89 21 (nI (cls.length + 1))) 99 (8 * cls.length + 3) (nI c.length)) 99 = upd (upd g (8 * cls.length) (nI 1)) (8 * cls.length + 3) (nI c.length) := by rw [rI_sI, rI_sI_ne _ _ _ (by decide), rI_sI, rI_sA]
      have e21 : rI (sI (sI (sI (sA w2 99 g) 99 (8 * cls.length) (nI 1)) 89 21 (nI (cls.length + 1))) 99 (8 * cls.length + 3) (nI c.length)) 89 21 = nI (cls.length + 1) := by rw [rI_sI_ne _ _ _ (by decide), rI_sI, upd_eq, if_pos rfl]
      obtain ⟨w3, hw3⟩ : ∃ w3, sI (sI (sI (sA w2 99 g) 99 (8 * cls.length) (nI 1)) 89 21 (nI (cls.length + 1))) 99 (8 * cls.length + 3) (nI c.length) = w3 := ⟨_, rfl⟩
      rw [hw3] at hv3 e99 e21
      refine g_mem hw3 ?_
      have hR3 := hR2.v hv3
      have hC3 := hC2.W hv3.W
      have hfw3 := hfw2.tr hv3.W
      refine g_iload1 hX d_M_readLaw_125 ?_
      refine g_if_ne hX d_M_readLaw_126 (fun c0 => ?_) (fun h => absurd h (by decide))
      have e99b := e99
      have e21b := e21
      have hfw4 := hfw3
      have hC4 := hC3
      have hR4 := hR3
      have hX4 := hX2
      have hcode := hR3.2.2.1.1
      have hsame : SameC c.length c c := ⟨Nat.le_refl _, fun _ _ => ⟨rfl, rfl⟩⟩
      refine g_aload0 hX d_M_readLaw_134 ?_
      refine g_getF hX d_M_readLaw_135 fl_M_42 (lv_89 _) ?_
      refine g_iload2 hX d_M_readLaw_138 ?_
      refine g_iconst (v := nI 4) hX d_M_readLaw_139 rfl ?_
      refine g_iaddN hX d_M_readLaw_140 ?_
      refine g_aload0 hX d_M_readLaw_141 ?_
      refine g_getI hX d_M_readLaw_142 fl_M_295 (lv_89 _) ?_
      refine g_topi hcode ?_
      refine g_iast hX d_M_readLaw_145 (lv_99 _) rfl (by omega) ?_
      refine g_aload0 hX d_M_readLaw_146 ?_
      refine g_getF hX d_M_readLaw_147 fl_M_42 (lv_89 _) ?_
      refine g_iload2 hX d_M_readLaw_150 ?_
      refine g_iconst (v := nI 5) hX d_M_readLaw_151 rfl ?_
      refine g_iaddN hX d_M_readLaw_152 ?_
      refine g_aload0 hX d_M_readLaw_153 ?_
      refine g_getI hX d_M_readLaw_154 fl_M_295 (lv_89 _) ?_
      refine g_topi (show rI (sI w3 99 (8 * cls.length + 4) (nI c.length)) 89 23 = nI c.length from hcode) ?_
      refine g_iast hX d_M_readLaw_157 (lv_99 _) rfl (by omega) ?_
      have hv5 : FrV w3 (sI (sI w3 99 (8 * cls.length + 4) (nI c.length)) 99 (8 * cls.length + 5) (nI c.length)) := ((FrV.rf w3).I (Or.inl rfl)).I (Or.inl rfl)
      have e99c : rI (sI (sI w3 99 (8 * cls.length + 4) (nI c.length)) 99 (8 * cls.length + 5) (nI c.length)) 99 = upd (upd (upd (upd g (8 * cls.length) (nI 1)) (8 * cls.length + 3) (nI c.length)) (8 * cls.length + 4) (nI c.length)) (8 * cls.length + 5) (nI c.length) := by rw [rI_sI, rI_sI, e99b]
      have e21c : rI (sI (sI w3 99 (8 * cls.length + 4) (nI c.length)) 99 (8 * cls.length + 5) (nI c.length)) 89 21 = nI (cls.length + 1) := e21b
      obtain ⟨w5, hw5⟩ : ∃ w5, sI (sI w3 99 (8 * cls.length + 4) (nI c.length)) 99 (8 * cls.length + 5) (nI c.length) = w5 := ⟨_, rfl⟩
      rw [hw5] at hv5 e99c e21c
      refine g_mem hw5 ?_
      have hfw5 := hfw4.tr hv5.W
      have hC5 := hC4.W hv5.W
      have hR5 := hR4.v hv5
      refine g_aload0 hX d_M_readLaw_158 ?_
      refine g_getZ hX d_M_readLaw_159 fl_M_258 (lv_89 _) ?_
      refine g_topi hR5.2.2.2.1 ?_
      refine g_if_ne hX d_M_readLaw_162 (fun h => absurd (by decide) h) (fun c1 => ?_)
      refine g_aload0 hX d_M_readLaw_165 ?_
      refine g_ldc2 (v := lN 294) hX d_M_readLaw_166 k_M_395 rfl ?_
      refine g_callV (As := [_]) hX hF.1 d_M_readLaw_169 ml_M_316 cf_M_isWord cv_M_isWord rfl rfl (c_M_isWord (wd := wIf) hR5.1 rfl (by decide) (by decide)) (rcv_obj hX (lv_89 _) rfl rfl) (by omega) (by omega) (by omega) (Nat.le_of_ble_eq_true rfl) ?_
      refine ret_k ?_
      refine g_ifB_eq hX d_M_readLaw_172 (fun h => absurd hi h) (fun c2 => ?_)
      refine g_aload0 hX d_M_readLaw_175 ?_
      refine g_callV (As := []) hX hF.1 d_M_readLaw_176 ml_M_262 cf_M_next cv_M_next rfl rfl (c_M_next hR5.1) (rcv_obj hX (lv_89 _) rfl rfl) (by omega) (by omega) (by omega) (Nat.le_of_ble_eq_true rfl) ?_
      rintro _ w6 ⟨rfl, hf6, hT6⟩
      have hR6 := hR5.tok hf6 hT6
      have hC6 := hC5.fr hf6.R
      have hX6 := hX4.mono (Nat.le_of_lt (nxT_gt (isW_0 hi)))
      show G0 _ _ _ _ _ _ _ _
      refine g_aload0 hX d_M_readLaw_179 ?_
      refine g_iconst (v := nI 1) hX d_M_readLaw_180 rfl ?_
      refine g_callV (As := [_]) hX hF.1 d_M_readLaw_181 ml_M_392 cf_M_readExpression cv_M_readExpression rfl rfl (c_M_readExpression (tb := 1) hR6 hX6 hC6 (by decide) (rdE_eq (m := 8) htl hT6.2.2.2.2.2 hX4.1.2.2.1)) (rcv_obj hX (lv_89 _) rfl rfl) (by omega) (by omega) (by omega) (Nat.le_of_ble_eq_true rfl) ?_
      rintro _ w7 ⟨rfl, hf7, he7⟩
      rw [ht] at he7
      have hfw7 := hfw5.tr (hf6.R.tr hf7).W
      have e99d : rI w7 99 = upd (upd (upd (upd g (8 * cls.length) (nI 1)) (8 * cls.length + 3) (nI c.length)) (8 * cls.length + 4) (nI c.length)) (8 * cls.length + 5) (nI c.length) := by rw [hf7.1 99 (by decide) (by decide), hf6.1 99 (by decide)]; exact e99c
      have e21d : rI w7 89 21 = nI (cls.length + 1) := by rw [hf7.2.1 21 (by decide) (by decide) (by decide) (by decide) (by decide) (by decide) (by decide) (by decide) (by decide), hf6.2.1 21 (by decide) (by decide) (by decide)]; exact e21c
      have he7 := BadP.B he7
      obtain ⟨md, hcode7⟩ := he7.code
      show G0 _ _ _ _ _ _ _ _
      refine g_aload0 hX d_M_readLaw_184 ?_
      refine g_getF hX d_M_readLaw_185 fl_M_42 (lv_89 _) ?_
      refine g_iload2 hX d_M_readLaw_188 ?_
      refine g_bipush (v := nI 6) hX d_M_readLaw_189 rfl ?_
      refine g_iaddN hX d_M_readLaw_191 ?_
      refine g_aload0 hX d_M_readLaw_192 ?_
      refine g_getI hX d_M_readLaw_193 fl_M_295 (lv_89 _) ?_
      refine g_topi hcode7 ?_
      refine g_iast hX d_M_readLaw_196 (lv_99 _) rfl (by omega) ?_
      refine g_vret hX hF d_M_readLaw_197 (by omega) (by omega) ?_
      exact ⟨rfl, hfw7.I (Or.inl rfl), he7.v ((FrV.rf w7).I (Or.inl rfl))⟩
    have lpZ : ∀ (fuel : Nat) (k : Nat) (g : Nat → Int32), 8 - k < fuel → (k ≤ 8) → (∀ j, j < 8 * cls.length → g j = rI w2 99 j) → G0 E X 0 0 75 [.ref 89, .int (nI 1), .int (nI (8 * cls.length)), .int (nI k)] [] (sA w2 99 g) := by
      intro fuel
      induction fuel with
      | zero => intro k g q0; exact absurd q0 (Nat.not_lt_zero _)
      | succ fuel ih =>
        intro k g q0 q1 q2
        refine g_iload3 hX d_M_readLaw_75 ?_
        refine g_bipush (v := nI 8) hX d_M_readLaw_76 rfl ?_
        refine g_icmpN_ge hX d_M_readLaw_78 (by omega) (by omega) (fun c0 => ?_) (fun c0 => ?_)
        · refine g_fget 3 ?_
          exact k96 g q2
        · refine g_aload0 hX d_M_readLaw_81 ?_
          refine g_getF hX d_M_readLaw_82 fl_M_42 (lv_89 _) ?_
          refine g_iload2 hX d_M_readLaw_85 ?_
          refine g_iload3 hX d_M_readLaw_86 ?_
          refine g_iaddN hX d_M_readLaw_87 ?_
          refine g_iconst (v := nI 0) hX d_M_readLaw_88 rfl ?_
          refine g_iast hX d_M_readLaw_89 (lv_99 _) rfl (by omega) ?_
          refine g_iincN3 hX d_M_readLaw_90 rfl (by decide) ?_
          refine g_goto hX d_M_readLaw_93 ?_
          rw [sI_sA]
          exact ih (k + 1) _ (by omega) (by omega) (fun j hj => by rw [upd_eq, if_neg (by omega)]; exact q2 j hj)
    show G0 _ _ _ _ _ _ _ _
    refine g_aload0 hX d_M_readLaw_57 ?_
    refine g_getZ hX d_M_readLaw_58 fl_M_258 (lv_89 _) ?_
    refine g_topi hR2.2.2.2.1 ?_
    refine g_if_eq hX d_M_readLaw_61 (fun c2 => ?_) (fun h => absurd (by decide) h)
    refine g_bipush (v := nI 8) hX d_M_readLaw_65 rfl ?_
    refine g_aload0 hX d_M_readLaw_67 ?_
    refine g_getI hX d_M_readLaw_68 fl_M_389 (lv_89 _) ?_
    refine g_topi h21 ?_
    refine g_imulN hX d_M_readLaw_71 ?_
    refine g_istore2 hX d_M_readLaw_72 rfl (by decide) ?_
    refine g_iconst (v := nI 0) hX d_M_readLaw_73 rfl ?_
    refine g_istore3 hX d_M_readLaw_74 rfl (by decide) ?_
    refine g_mem (show w2 = sA w2 99 (rI w2 99) from (sA_self _ _).symm) ?_
    exact lpZ 9 0 _ (by omega) (by omega) (fun j _ => rfl)
  have lpH : ∀ (fuel : Nat) (k : Nat), 2 - k < fuel → (k ≤ 2) → G0 E X 0 0 4 [.ref 89, .int (headK t f k), .int (nI k), un] [] w := by
    intro fuel
    induction fuel with
    | zero => intro k q0; exact absurd q0 (Nat.not_lt_zero _)
    | succ fuel ih =>
      intro k q0 q1
      refine g_iload2 hX d_M_readLaw_4 ?_
      refine g_iconst (v := nI 2) hX d_M_readLaw_5 rfl ?_
      refine g_icmpN_ge hX d_M_readLaw_6 (by omega) (by omega) (fun c0 => ?_) (fun c0 => ?_)
      · refine g_fget 2 ?_
        have hk2 : k = 2 := by omega
        rw [hk2]
        exact k34
      · obtain ⟨w1, w2, w3⟩ := heads_w k (by omega)
        refine g_aload0 hX d_M_readLaw_9 ?_
        refine g_aload0 hX d_M_readLaw_10 ?_
        refine g_getF hX d_M_readLaw_11 fl_M_90 (lv_89 _) ?_
        refine g_iload2 hX d_M_readLaw_14 ?_
        refine g_lald hX d_M_readLaw_15 (lv_106 _) rfl (by omega) ?_
        refine g_topl (hC.2.2.2.1 k (by omega)) ?_
        refine g_callV (As := [_]) hX hF.1 d_M_readLaw_16 ml_M_316 cf_M_isWord cv_M_isWord rfl rfl (c_M_isWord h.1 (show lN _ = _ by rw [lI_nat]; exact congrArg lI w3) w1 w2) (rcv_obj hX (lv_89 _) rfl rfl) (by omega) (by omega) (by omega) (Nat.le_of_ble_eq_true rfl) ?_
        refine ret_k ?_
        refine g_ifB_eq hX d_M_readLaw_19 (fun e19 => ?_) (fun e19 => ?_)
        · refine g_iload1 hX d_M_readLaw_26 ?_
          refine g_istore1 hX d_M_readLaw_27 rfl (by decide) ?_
          refine g_iincN2 hX d_M_readLaw_28 rfl (by decide) ?_
          refine g_goto hX d_M_readLaw_31 ?_
          refine g_loc (show _ = [.ref 89, .int (headK t f (k + 1)), .int (nI (k + 1)), un] by rw [headK, if_neg e19]) ?_
          exact ih (k + 1) (by omega) (by omega)
        · refine g_iload2 hX d_M_readLaw_22 ?_
          refine g_goto hX d_M_readLaw_23 ?_
          refine g_istore1 hX d_M_readLaw_27 rfl (by decide) ?_
          refine g_iincN2 hX d_M_readLaw_28 rfl (by decide) ?_
          refine g_goto hX d_M_readLaw_31 ?_
          refine g_loc (show _ = [.ref 89, .int (headK t f (k + 1)), .int (nI (k + 1)), un] by rw [headK, if_pos e19]) ?_
          exact ih (k + 1) (by omega) (by omega)
  refine g_iconst (v := -1) hX d_M_readLaw_0 rfl ?_
  refine g_istore1 hX d_M_readLaw_1 rfl (by decide) ?_
  refine g_iconst (v := nI 0) hX d_M_readLaw_2 rfl ?_
  refine g_istore2 hX d_M_readLaw_3 rfl (by decide) ?_
  exact lpH 3 0 (by omega) (by omega)
theorem c_M_readLaw_bars_ok_ok {E : EV} {w : Mem} {t : List Nat} {f p : Nat} {c : List (Nat × Nat)} {cls : List ClT} (h : RdB w t f p c) (hX0 : RdX false c [] f p 0) (hC : RdC w false) (hcl : ClsP w c cls) (hc12 : cls.length ≤ 12) (h1 : isW t f wBars) (hk : cls.length < 12) {f2 p2 : Nat} {d2 : Den} (hi : isW t (nxT t f) wIf) (ht : rdE t false 8 (nxT t (nxT t f)) p = .inr (f2, p2, d2)) : T E m_M_readLaw 7 0 0 [.ref 89] w (fun r w2 => r = none ∧ FrW w w2 ∧ lawQ t cls (.inr (f2, p2, (false, (fun _ => none), some d2))) w2) := by
  refine T_of (L := [.ref 89, un, un, un]) cf_M_readLaw rfl (Nat.le_of_ble_eq_true rfl) (fun X hX hF => ?_)
  have htl := h.1.1.1
  have hp50 := hX0.1.2.2.1
  have k34 : G0 E X 0 0 34 [.ref 89, .int (headK t f 2), un, un] [] w := by
    rw [head_b h1]
    refine g_aload0 hX d_M_readLaw_34 ?_
    refine g_iload1 hX d_M_readLaw_35 ?_
    refine g_iconst (v := -1) hX d_M_readLaw_36 rfl ?_
    refine g_icmp_eq hX d_M_readLaw_37 (fun h => absurd h (show ¬ nI 1 = -1 by decide)) (fun c0 => ?_)
    refine g_aload0 hX d_M_readLaw_40 ?_
    refine g_getI hX d_M_readLaw_41 fl_M_389 (lv_89 _) ?_
    refine g_topi hcl.1 ?_
    refine g_bipush (v := nI 12) hX d_M_readLaw_44 rfl ?_
    refine g_icmpN_ge hX d_M_readLaw_46 (by omega) (by omega) (fun h => absurd h (by omega)) (fun c1 => ?_)
    refine g_iconst (v := nI 1) hX d_M_readLaw_49 rfl ?_
    refine g_goto hX d_M_readLaw_50 ?_
    refine g_callV (As := [_]) hX hF.1 d_M_readLaw_54 ml_M_291 cf_M_must cv_M_must rfl rfl (c_M_mustY h.1 h.2.2.2.1 rfl) (rcv_obj hX (lv_89 _) rfl rfl) (by omega) (by omega) (by omega) (Nat.le_of_ble_eq_true rfl) ?_
    rintro _ w2 ⟨rfl, hf2, hT2⟩
    have hR2 := h.tok hf2 hT2
    have hC2 := hC.fr hf2.R
    have hfw2 := hf2.R.W
    have hX2 := hX0.mono (Nat.le_of_lt (nxT_gt (isW_0 h1)))
    have hok2 := hT2.2.2.2.2.2
    have h21 : rI w2 89 21 = nI cls.length := by rw [hf2.2.1 21 (by decide) (by decide) (by decide)]; exact hcl.1
    have k96 : ∀ g : Nat → Int32, (∀ j, j < 8 * cls.length → g j = rI w2 99 j) → G0 E X 0 0 96 [.ref 89, .int (nI 1), .int (nI (8 * cls.length)), un] [] (sA w2 99 g) := by
      intro g hg2
      refine g_aload0 hX d_M_readLaw_96 ?_
      refine g_getF hX d_M_readLaw_97 fl_M_42 (lv_89 _) ?_
      refine g_iload2 hX d_M_readLaw_100 ?_
      refine g_iload1 hX d_M_readLaw_101 ?_
      refine g_iast hX d_M_readLaw_102 (lv_99 _) rfl (by omega) ?_
      refine g_aload0 hX d_M_readLaw_103 ?_
      refine g_dup hX d_M_readLaw_104 rfl ?_
      refine g_getI hX d_M_readLaw_105 fl_M_389 (lv_89 _) ?_
      refine g_topi (show rI (sI (sA w2 99 g) 99 (8 * cls.length) (nI 1)) 89 21 = nI cls.length from h21) ?_
      refine g_iconst (v := nI 1) hX d_M_readLaw_108 rfl ?_
      refine g_iaddN hX d_M_readLaw_109 ?_
      refine g_putI hX d_M_readLaw_110 fl_M_389 (lv_89 _) ?_
      refine g_aload0 hX d_M_readLaw_113 ?_
      refine g_getF hX d_M_readLaw_114 fl_M_42 (lv_89 _) ?_
      refine g_iload2 hX d_M_readLaw_117 ?_
      refine g_iconst (v := nI 3) hX d_M_readLaw_118 rfl ?_
      refine g_iaddN hX d_M_readLaw_119 ?_
      refine g_aload0 hX d_M_readLaw_120 ?_
      refine g_getI hX d_M_readLaw_121 fl_M_295 (lv_89 _) ?_
      refine g_topi (show rI (sI (sI (sA w2 99 g) 99 (8 * cls.length) (nI 1)) 89 21 (nI (cls.length + 1))) 89 23 = nI c.length by rw [rI_sI, upd_eq, if_neg (by decide)]; exact hR2.2.2.1.1) ?_
      refine g_iast hX d_M_readLaw_124 (lv_99 _) rfl (by omega) ?_
      have hv3 : FrV w2 (sI (sI (sI (sA w2 99 g) 99 (8 * cls.length) (nI 1)) 89 21 (nI (cls.length + 1))) 99 (8 * cls.length + 3) (nI c.length)) := (((FrV.rf w2).A (Or.inl rfl)).I (Or.inl rfl)).I (Or.inr (Or.inr ⟨rfl, rfl⟩)) |>.I (Or.inl rfl)
      have e99 : rI (sI (sI (sI (sA w2 99 g) 99 (8 * cls.length) (nI 1)) 89 21 (nI (cls.length + 1))) 99 (8 * cls.length + 3) (nI c.length)) 99 = upd (upd g (8 * cls.length) (nI 1)) (8 * cls.length + 3) (nI c.length) := by rw [rI_sI, rI_sI_ne _ _ _ (by decide), rI_sI, rI_sA]
      have e21 : rI (sI (sI (sI (sA w2 99 g) 99 (8 * cls.length) (nI 1)) 89 21 (nI (cls.length + 1))) 99 (8 * cls.length + 3) (nI c.length)) 89 21 = nI (cls.length + 1) := by rw [rI_sI_ne _ _ _ (by decide), rI_sI, upd_eq, if_pos rfl]
      obtain ⟨w3, hw3⟩ : ∃ w3, sI (sI (sI (sA w2 99 g) 99 (8 * cls.length) (nI 1)) 89 21 (nI (cls.length + 1))) 99 (8 * cls.length + 3) (nI c.length) = w3 := ⟨_, rfl⟩
      rw [hw3] at hv3 e99 e21
      refine g_mem hw3 ?_
      have hR3 := hR2.v hv3
      have hC3 := hC2.W hv3.W
      have hfw3 := hfw2.tr hv3.W
      refine g_iload1 hX d_M_readLaw_125 ?_
      refine g_if_ne hX d_M_readLaw_126 (fun c0 => ?_) (fun h => absurd h (by decide))
      have e99b := e99
      have e21b := e21
      have hfw4 := hfw3
      have hC4 := hC3
      have hR4 := hR3
      have hX4 := hX2
      have hcode := hR3.2.2.1.1
      have hsame : SameC c.length c c := ⟨Nat.le_refl _, fun _ _ => ⟨rfl, rfl⟩⟩
      refine g_aload0 hX d_M_readLaw_134 ?_
      refine g_getF hX d_M_readLaw_135 fl_M_42 (lv_89 _) ?_
      refine g_iload2 hX d_M_readLaw_138 ?_
      refine g_iconst (v := nI 4) hX d_M_readLaw_139 rfl ?_
      refine g_iaddN hX d_M_readLaw_140 ?_
      refine g_aload0 hX d_M_readLaw_141 ?_
      refine g_getI hX d_M_readLaw_142 fl_M_295 (lv_89 _) ?_
      refine g_topi hcode ?_
      refine g_iast hX d_M_readLaw_145 (lv_99 _) rfl (by omega) ?_
      refine g_aload0 hX d_M_readLaw_146 ?_
      refine g_getF hX d_M_readLaw_147 fl_M_42 (lv_89 _) ?_
      refine g_iload2 hX d_M_readLaw_150 ?_
      refine g_iconst (v := nI 5) hX d_M_readLaw_151 rfl ?_
      refine g_iaddN hX d_M_readLaw_152 ?_
      refine g_aload0 hX d_M_readLaw_153 ?_
      refine g_getI hX d_M_readLaw_154 fl_M_295 (lv_89 _) ?_
      refine g_topi (show rI (sI w3 99 (8 * cls.length + 4) (nI c.length)) 89 23 = nI c.length from hcode) ?_
      refine g_iast hX d_M_readLaw_157 (lv_99 _) rfl (by omega) ?_
      have hv5 : FrV w3 (sI (sI w3 99 (8 * cls.length + 4) (nI c.length)) 99 (8 * cls.length + 5) (nI c.length)) := ((FrV.rf w3).I (Or.inl rfl)).I (Or.inl rfl)
      have e99c : rI (sI (sI w3 99 (8 * cls.length + 4) (nI c.length)) 99 (8 * cls.length + 5) (nI c.length)) 99 = upd (upd (upd (upd g (8 * cls.length) (nI 1)) (8 * cls.length + 3) (nI c.length)) (8 * cls.length + 4) (nI c.length)) (8 * cls.length + 5) (nI c.length) := by rw [rI_sI, rI_sI, e99b]
      have e21c : rI (sI (sI w3 99 (8 * cls.length + 4) (nI c.length)) 99 (8 * cls.length + 5) (nI c.length)) 89 21 = nI (cls.length + 1) := e21b
      obtain ⟨w5, hw5⟩ : ∃ w5, sI (sI w3 99 (8 * cls.length + 4) (nI c.length)) 99 (8 * cls.length + 5) (nI c.length) = w5 := ⟨_, rfl⟩
      rw [hw5] at hv5 e99c e21c
      refine g_mem hw5 ?_
      have hfw5 := hfw4.tr hv5.W
      have hC5 := hC4.W hv5.W
      have hR5 := hR4.v hv5
      refine g_aload0 hX d_M_readLaw_158 ?_
      refine g_getZ hX d_M_readLaw_159 fl_M_258 (lv_89 _) ?_
      refine g_topi hR5.2.2.2.1 ?_
      refine g_if_ne hX d_M_readLaw_162 (fun h => absurd (by decide) h) (fun c1 => ?_)
      refine g_aload0 hX d_M_readLaw_165 ?_
      refine g_ldc2 (v := lN 294) hX d_M_readLaw_166 k_M_395 rfl ?_
      refine g_callV (As := [_]) hX hF.1 d_M_readLaw_169 ml_M_316 cf_M_isWord cv_M_isWord rfl rfl (c_M_isWord (wd := wIf) hR5.1 rfl (by decide) (by decide)) (rcv_obj hX (lv_89 _) rfl rfl) (by omega) (by omega) (by omega) (Nat.le_of_ble_eq_true rfl) ?_
      refine ret_k ?_
      refine g_ifB_eq hX d_M_readLaw_172 (fun h => absurd hi h) (fun c2 => ?_)
      refine g_aload0 hX d_M_readLaw_175 ?_
      refine g_callV (As := []) hX hF.1 d_M_readLaw_176 ml_M_262 cf_M_next cv_M_next rfl rfl (c_M_next hR5.1) (rcv_obj hX (lv_89 _) rfl rfl) (by omega) (by omega) (by omega) (Nat.le_of_ble_eq_true rfl) ?_
      rintro _ w6 ⟨rfl, hf6, hT6⟩
      have hR6 := hR5.tok hf6 hT6
      have hC6 := hC5.fr hf6.R
      have hX6 := hX4.mono (Nat.le_of_lt (nxT_gt (isW_0 hi)))
      show G0 _ _ _ _ _ _ _ _
      refine g_aload0 hX d_M_readLaw_179 ?_
      refine g_iconst (v := nI 1) hX d_M_readLaw_180 rfl ?_
      refine g_callV (As := [_]) hX hF.1 d_M_readLaw_181 ml_M_392 cf_M_readExpression cv_M_readExpression rfl rfl (c_M_readExpression (tb := 1) hR6 hX6 hC6 (by decide) (rdE_eq (m := 8) htl hT6.2.2.2.2.2 hX4.1.2.2.1)) (rcv_obj hX (lv_89 _) rfl rfl) (by omega) (by omega) (by omega) (Nat.le_of_ble_eq_true rfl) ?_
      rintro _ w7 ⟨rfl, hf7, he7⟩
      rw [ht] at he7
      have hfw7 := hfw5.tr (hf6.R.tr hf7).W
      have e99d : rI w7 99 = upd (upd (upd (upd g (8 * cls.length) (nI 1)) (8 * cls.length + 3) (nI c.length)) (8 * cls.length + 4) (nI c.length)) (8 * cls.length + 5) (nI c.length) := by rw [hf7.1 99 (by decide) (by decide), hf6.1 99 (by decide)]; exact e99c
      have e21d : rI w7 89 21 = nI (cls.length + 1) := by rw [hf7.2.1 21 (by decide) (by decide) (by decide) (by decide) (by decide) (by decide) (by decide) (by decide) (by decide), hf6.2.1 21 (by decide) (by decide) (by decide)]; exact e21c
      obtain ⟨kd3, hR7, hX7, hseg7, hsame7⟩ := he7
      have hR7 := hR7.B
      have hcode7 := hR7.2.2.1.1
      have hss := hsame.tr hsame7 hsame.1
      have hsl7 := hsame7.1
      show G0 _ _ _ _ _ _ _ _
      refine g_aload0 hX d_M_readLaw_184 ?_
      refine g_getF hX d_M_readLaw_185 fl_M_42 (lv_89 _) ?_
      refine g_iload2 hX d_M_readLaw_188 ?_
      refine g_bipush (v := nI 6) hX d_M_readLaw_189 rfl ?_
      refine g_iaddN hX d_M_readLaw_191 ?_
      refine g_aload0 hX d_M_readLaw_192 ?_
      refine g_getI hX d_M_readLaw_193 fl_M_295 (lv_89 _) ?_
      refine g_topi hcode7 ?_
      refine g_iast hX d_M_readLaw_196 (lv_99 _) rfl (by omega) ?_
      refine g_vret hX hF d_M_readLaw_197 (by omega) (by omega) ?_
      refine ⟨rfl, hfw7.I (Or.inl rfl), ?_⟩
      refine ⟨kd3, RdB.v hR7 ((FrV.rf _).I (Or.inl rfl)), hX7, ?_⟩
      refine ⟨by rw [rI_sI_ne _ _ _ (by decide), List.length_append]; exact e21d, fun j q hq => ?_⟩
      rw [rI_sI, e99d]
      by_cases hj : j < cls.length
      · rw [List.getElem?_append_left hj] at hq
        refine (hcl.2 j q hq).same hss (fun m hm => ?_)
        rw [upd_eq, upd_eq, upd_eq, upd_eq, upd_eq, if_neg (by omega), if_neg (by omega), if_neg (by omega), if_neg (by omega), if_neg (by omega)]
        rw [hg2 _ (by omega), hf2.1 99 (by decide)]
      · rw [List.getElem?_append_right (by omega)] at hq
        have hj0 : j = cls.length := by
          by_cases z : j = cls.length
          · exact z
          · rw [List.getElem?_eq_none (by rw [List.length_singleton]; omega)] at hq
            cases hq
        subst hj0
        rw [Nat.sub_self] at hq
        obtain rfl := Option.some.inj hq.symm
        refine ⟨?_, c.length, c.length, c.length, kd3.length, ?_, ?_, ?_, ?_, hsl7, Nat.le_refl _, hsl7, (fun z => by cases z), hseg7⟩
        · rw [upd_eq, upd_eq, upd_eq, upd_eq, upd_eq, if_neg (by omega), if_neg (by omega), if_neg (by omega), if_neg (by omega), if_pos rfl]; rfl
        · rw [upd_eq, upd_eq, upd_eq, upd_eq, if_neg (by omega), if_neg (by omega), if_neg (by omega), if_pos rfl]
        · rw [upd_eq, upd_eq, upd_eq, if_neg (by omega), if_neg (by omega), if_pos rfl]
        · rw [upd_eq, upd_eq, if_neg (by omega), if_pos rfl]
        · rw [upd_eq, if_pos rfl]
    have lpZ : ∀ (fuel : Nat) (k : Nat) (g : Nat → Int32), 8 - k < fuel → (k ≤ 8) → (∀ j, j < 8 * cls.length → g j = rI w2 99 j) → G0 E X 0 0 75 [.ref 89, .int (nI 1), .int (nI (8 * cls.length)), .int (nI k)] [] (sA w2 99 g) := by
      intro fuel
      induction fuel with
      | zero => intro k g q0; exact absurd q0 (Nat.not_lt_zero _)
      | succ fuel ih =>
        intro k g q0 q1 q2
        refine g_iload3 hX d_M_readLaw_75 ?_
        refine g_bipush (v := nI 8) hX d_M_readLaw_76 rfl ?_
        refine g_icmpN_ge hX d_M_readLaw_78 (by omega) (by omega) (fun c0 => ?_) (fun c0 => ?_)
        · refine g_fget 3 ?_
          exact k96 g q2
        · refine g_aload0 hX d_M_readLaw_81 ?_
          refine g_getF hX d_M_readLaw_82 fl_M_42 (lv_89 _) ?_
          refine g_iload2 hX d_M_readLaw_85 ?_
          refine g_iload3 hX d_M_readLaw_86 ?_
          refine g_iaddN hX d_M_readLaw_87 ?_
          refine g_iconst (v := nI 0) hX d_M_readLaw_88 rfl ?_
          refine g_iast hX d_M_readLaw_89 (lv_99 _) rfl (by omega) ?_
          refine g_iincN3 hX d_M_readLaw_90 rfl (by decide) ?_
          refine g_goto hX d_M_readLaw_93 ?_
          rw [sI_sA]
          exact ih (k + 1) _ (by omega) (by omega) (fun j hj => by rw [upd_eq, if_neg (by omega)]; exact q2 j hj)
    show G0 _ _ _ _ _ _ _ _
    refine g_aload0 hX d_M_readLaw_57 ?_
    refine g_getZ hX d_M_readLaw_58 fl_M_258 (lv_89 _) ?_
    refine g_topi hR2.2.2.2.1 ?_
    refine g_if_eq hX d_M_readLaw_61 (fun c2 => ?_) (fun h => absurd (by decide) h)
    refine g_bipush (v := nI 8) hX d_M_readLaw_65 rfl ?_
    refine g_aload0 hX d_M_readLaw_67 ?_
    refine g_getI hX d_M_readLaw_68 fl_M_389 (lv_89 _) ?_
    refine g_topi h21 ?_
    refine g_imulN hX d_M_readLaw_71 ?_
    refine g_istore2 hX d_M_readLaw_72 rfl (by decide) ?_
    refine g_iconst (v := nI 0) hX d_M_readLaw_73 rfl ?_
    refine g_istore3 hX d_M_readLaw_74 rfl (by decide) ?_
    refine g_mem (show w2 = sA w2 99 (rI w2 99) from (sA_self _ _).symm) ?_
    exact lpZ 9 0 _ (by omega) (by omega) (fun j _ => rfl)
  have lpH : ∀ (fuel : Nat) (k : Nat), 2 - k < fuel → (k ≤ 2) → G0 E X 0 0 4 [.ref 89, .int (headK t f k), .int (nI k), un] [] w := by
    intro fuel
    induction fuel with
    | zero => intro k q0; exact absurd q0 (Nat.not_lt_zero _)
    | succ fuel ih =>
      intro k q0 q1
      refine g_iload2 hX d_M_readLaw_4 ?_
      refine g_iconst (v := nI 2) hX d_M_readLaw_5 rfl ?_
      refine g_icmpN_ge hX d_M_readLaw_6 (by omega) (by omega) (fun c0 => ?_) (fun c0 => ?_)
      · refine g_fget 2 ?_
        have hk2 : k = 2 := by omega
        rw [hk2]
        exact k34
      · obtain ⟨w1, w2, w3⟩ := heads_w k (by omega)
        refine g_aload0 hX d_M_readLaw_9 ?_
        refine g_aload0 hX d_M_readLaw_10 ?_
        refine g_getF hX d_M_readLaw_11 fl_M_90 (lv_89 _) ?_
        refine g_iload2 hX d_M_readLaw_14 ?_
        refine g_lald hX d_M_readLaw_15 (lv_106 _) rfl (by omega) ?_
        refine g_topl (hC.2.2.2.1 k (by omega)) ?_
        refine g_callV (As := [_]) hX hF.1 d_M_readLaw_16 ml_M_316 cf_M_isWord cv_M_isWord rfl rfl (c_M_isWord h.1 (show lN _ = _ by rw [lI_nat]; exact congrArg lI w3) w1 w2) (rcv_obj hX (lv_89 _) rfl rfl) (by omega) (by omega) (by omega) (Nat.le_of_ble_eq_true rfl) ?_
        refine ret_k ?_
        refine g_ifB_eq hX d_M_readLaw_19 (fun e19 => ?_) (fun e19 => ?_)
        · refine g_iload1 hX d_M_readLaw_26 ?_
          refine g_istore1 hX d_M_readLaw_27 rfl (by decide) ?_
          refine g_iincN2 hX d_M_readLaw_28 rfl (by decide) ?_
          refine g_goto hX d_M_readLaw_31 ?_
          refine g_loc (show _ = [.ref 89, .int (headK t f (k + 1)), .int (nI (k + 1)), un] by rw [headK, if_neg e19]) ?_
          exact ih (k + 1) (by omega) (by omega)
        · refine g_iload2 hX d_M_readLaw_22 ?_
          refine g_goto hX d_M_readLaw_23 ?_
          refine g_istore1 hX d_M_readLaw_27 rfl (by decide) ?_
          refine g_iincN2 hX d_M_readLaw_28 rfl (by decide) ?_
          refine g_goto hX d_M_readLaw_31 ?_
          refine g_loc (show _ = [.ref 89, .int (headK t f (k + 1)), .int (nI (k + 1)), un] by rw [headK, if_pos e19]) ?_
          exact ih (k + 1) (by omega) (by omega)
  refine g_iconst (v := -1) hX d_M_readLaw_0 rfl ?_
  refine g_istore1 hX d_M_readLaw_1 rfl (by decide) ?_
  refine g_iconst (v := nI 0) hX d_M_readLaw_2 rfl ?_
  refine g_istore2 hX d_M_readLaw_3 rfl (by decide) ?_
  exact lpH 3 0 (by omega) (by omega)
