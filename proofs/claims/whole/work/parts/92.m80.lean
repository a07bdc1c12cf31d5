def m_Ta_sortOf : MR := (⟨"SubgraphDesk$Tape", "sortOf", "(I)I"⟩, prog_11_method_5_code, 1, (some .int))
theorem cf_Ta_sortOf : CF m_Ta_sortOf 1 := ⟨gd 790 (by decide +kernel) rfl, gd 143 (by decide +kernel) rfl, by decide +kernel, by decide, by decide +kernel⟩
theorem cs_Ta_sortOf : CS m_Ta_sortOf := gd 789 (by decide +kernel) rfl
def m_Ta_step : MR := (⟨"SubgraphDesk$Tape", "step", "()V"⟩, prog_11_method_4_code, 1, none)
theorem cf_Ta_step : CF m_Ta_step 0 := ⟨gd 787 (by decide +kernel) rfl, gd 143 (by decide +kernel) rfl, by decide +kernel, by decide, by decide +kernel⟩
theorem cv_Ta_step : CV m_Ta_step := ⟨gd 785 (by decide +kernel) rfl, gd 786 (by decide +kernel) rfl⟩
theorem d_Ta_sortOf_0 : Dc prog_11_method_5_code 0 (.iload_n 0) 1 1 := ⟨by decide +kernel, rfl⟩
theorem d_Ta_sortOf_1 : Dc prog_11_method_5_code 1 (.bipush 97) 2 3 := ⟨by decide +kernel, rfl⟩
theorem d_Ta_sortOf_3 : Dj prog_11_method_5_code 3 (.if_icmp .lt 11) 6 11 14 := ⟨by decide +kernel, rfl, rfl⟩
theorem d_Ta_sortOf_6 : Dc prog_11_method_5_code 6 (.iload_n 0) 1 7 := ⟨by decide +kernel, rfl⟩
theorem d_Ta_sortOf_7 : Dc prog_11_method_5_code 7 (.bipush 122) 2 9 := ⟨by decide +kernel, rfl⟩
theorem d_Ta_sortOf_9 : Dj prog_11_method_5_code 9 (.if_icmp .gt 5) 12 5 14 := ⟨by decide +kernel, rfl, rfl⟩
theorem d_Ta_sortOf_12 : Dc prog_11_method_5_code 12 (.iconst 1) 1 13 := ⟨by decide +kernel, rfl⟩
theorem d_Ta_sortOf_13 : Dc prog_11_method_5_code 13 (.ireturn) 1 14 := ⟨by decide +kernel, rfl⟩
theorem d_Ta_sortOf_14 : Dc prog_11_method_5_code 14 (.iload_n 0) 1 15 := ⟨by decide +kernel, rfl⟩
theorem d_Ta_sortOf_15 : Dc prog_11_method_5_code 15 (.bipush 48) 2 17 := ⟨by decide +kernel, rfl⟩
theorem d_Ta_sortOf_17 : Dj prog_11_method_5_code 17 (.if_icmp .lt 13) 20 13 30 := ⟨by decide +kernel, rfl, rfl⟩
theorem d_Ta_sortOf_20 : Dc prog_11_method_5_code 20 (.iload_n 0) 1 21 := ⟨by decide +kernel, rfl⟩
theorem d_Ta_sortOf_21 : Dc prog_11_method_5_code 21 (.bipush 57) 2 23 := ⟨by decide +kernel, rfl⟩
theorem d_Ta_sortOf_23 : Dj prog_11_method_5_code 23 (.if_icmp .gt 7) 26 7 30 := ⟨by decide +kernel, rfl, rfl⟩
theorem d_Ta_sortOf_26 : Dc prog_11_method_5_code 26 (.iconst 2) 1 27 := ⟨by decide +kernel, rfl⟩
theorem d_Ta_sortOf_27 : Dj prog_11_method_5_code 27 (.goto 4) 30 4 31 := ⟨by decide +kernel, rfl, rfl⟩
theorem d_Ta_sortOf_30 : Dc prog_11_method_5_code 30 (.iconst 3) 1 31 := ⟨by decide +kernel, rfl⟩
theorem d_Ta_sortOf_31 : Dc prog_11_method_5_code 31 (.ireturn) 1 32 := ⟨by decide +kernel, rfl⟩
theorem d_Ta_step_0 : Dc prog_11_method_4_code 0 (.aload_n 0) 1 1 := ⟨by decide +kernel, rfl⟩
theorem d_Ta_step_1 : Dc prog_11_method_4_code 1 (.aload_n 0) 1 2 := ⟨by decide +kernel, rfl⟩
theorem d_Ta_step_2 : Dc prog_11_method_4_code 2 (.getfield 22) 3 5 := ⟨by decide +kernel, rfl⟩
theorem d_Ta_step_5 : Dc prog_11_method_4_code 5 (.putfield 28) 3 8 := ⟨by decide +kernel, rfl⟩
theorem d_Ta_step_8 : Dc prog_11_method_4_code 8 (.aload_n 0) 1 9 := ⟨by decide +kernel, rfl⟩
theorem d_Ta_step_9 : Dc prog_11_method_4_code 9 (.getfield 28) 3 12 := ⟨by decide +kernel, rfl⟩
theorem d_Ta_step_12 : Dc prog_11_method_4_code 12 (.aload_n 0) 1 13 := ⟨by decide +kernel, rfl⟩
theorem d_Ta_step_13 : Dc prog_11_method_4_code 13 (.getfield 19) 3 16 := ⟨by decide +kernel, rfl⟩
theorem d_Ta_step_16 : Dj prog_11_method_4_code 16 (.if_icmp .ge 30) 19 30 46 := ⟨by decide +kernel, rfl, rfl⟩
theorem d_Ta_step_19 : Dc prog_11_method_4_code 19 (.aload_n 0) 1 20 := ⟨by decide +kernel, rfl⟩
theorem d_Ta_step_20 : Dc prog_11_method_4_code 20 (.getfield 9) 3 23 := ⟨by decide +kernel, rfl⟩
theorem d_Ta_step_23 : Dc prog_11_method_4_code 23 (.aload_n 0) 1 24 := ⟨by decide +kernel, rfl⟩
theorem d_Ta_step_24 : Dc prog_11_method_4_code 24 (.getfield 28) 3 27 := ⟨by decide +kernel, rfl⟩
theorem d_Ta_step_27 : Dc prog_11_method_4_code 27 (.iaload) 1 28 := ⟨by decide +kernel, rfl⟩
theorem d_Ta_step_28 : Dc prog_11_method_4_code 28 (.bipush 32) 2 30 := ⟨by decide +kernel, rfl⟩
theorem d_Ta_step_30 : Dj prog_11_method_4_code 30 (.if_icmp .ne 16) 33 16 46 := ⟨by decide +kernel, rfl, rfl⟩
theorem d_Ta_step_33 : Dc prog_11_method_4_code 33 (.aload_n 0) 1 34 := ⟨by decide +kernel, rfl⟩
theorem d_Ta_step_34 : Dc prog_11_method_4_code 34 (.dup) 1 35 := ⟨by decide +kernel, rfl⟩
theorem d_Ta_step_35 : Dc prog_11_method_4_code 35 (.getfield 28) 3 38 := ⟨by decide +kernel, rfl⟩
theorem d_Ta_step_38 : Dc prog_11_method_4_code 38 (.iconst 1) 1 39 := ⟨by decide +kernel, rfl⟩
theorem d_Ta_step_39 : Dc prog_11_method_4_code 39 (.iadd) 1 40 := ⟨by decide +kernel, rfl⟩
theorem d_Ta_step_40 : Dc prog_11_method_4_code 40 (.putfield 28) 3 43 := ⟨by decide +kernel, rfl⟩
theorem d_Ta_step_43 : Dj prog_11_method_4_code 43 (.goto (-35)) 46 (-35) 8 := ⟨by decide +kernel, rfl, rfl⟩
theorem d_Ta_step_46 : Dc prog_11_method_4_code 46 (.aload_n 0) 1 47 := ⟨by decide +kernel, rfl⟩
theorem d_Ta_step_47 : Dc prog_11_method_4_code 47 (.aload_n 0) 1 48 := ⟨by decide +kernel, rfl⟩
theorem d_Ta_step_48 : Dc prog_11_method_4_code 48 (.getfield 28) 3 51 := ⟨by decide +kernel, rfl⟩
theorem d_Ta_step_51 : Dc prog_11_method_4_code 51 (.putfield 22) 3 54 := ⟨by decide +kernel, rfl⟩
theorem d_Ta_step_54 : Dc prog_11_method_4_code 54 (.aload_n 0) 1 55 := ⟨by decide +kernel, rfl⟩
theorem d_Ta_step_55 : Dc prog_11_method_4_code 55 (.aload_n 0) 1 56 := ⟨by decide +kernel, rfl⟩
theorem d_Ta_step_56 : Dc prog_11_method_4_code 56 (.getfield 28) 3 59 := ⟨by decide +kernel, rfl⟩
theorem d_Ta_step_59 : Dc prog_11_method_4_code 59 (.aload_n 0) 1 60 := ⟨by decide +kernel, rfl⟩
theorem d_Ta_step_60 : Dc prog_11_method_4_code 60 (.getfield 19) 3 63 := ⟨by decide +kernel, rfl⟩
theorem d_Ta_step_63 : Dj prog_11_method_4_code 63 (.if_icmp .ge 18) 66 18 81 := ⟨by decide +kernel, rfl, rfl⟩
theorem d_Ta_step_66 : Dc prog_11_method_4_code 66 (.aload_n 0) 1 67 := ⟨by decide +kernel, rfl⟩
theorem d_Ta_step_67 : Dc prog_11_method_4_code 67 (.getfield 9) 3 70 := ⟨by decide +kernel, rfl⟩
theorem d_Ta_step_70 : Dc prog_11_method_4_code 70 (.aload_n 0) 1 71 := ⟨by decide +kernel, rfl⟩
theorem d_Ta_step_71 : Dc prog_11_method_4_code 71 (.getfield 28) 3 74 := ⟨by decide +kernel, rfl⟩
theorem d_Ta_step_74 : Dc prog_11_method_4_code 74 (.iaload) 1 75 := ⟨by decide +kernel, rfl⟩
theorem d_Ta_step_75 : Dc prog_11_method_4_code 75 (.invokestatic 31) 3 78 := ⟨by decide +kernel, rfl⟩
theorem d_Ta_step_78 : Dj prog_11_method_4_code 78 (.goto 4) 81 4 82 := ⟨by decide +kernel, rfl, rfl⟩
theorem d_Ta_step_81 : Dc prog_11_method_4_code 81 (.iconst 0) 1 82 := ⟨by decide +kernel, rfl⟩
theorem d_Ta_step_82 : Dc prog_11_method_4_code 82 (.putfield 35) 3 85 := ⟨by decide +kernel, rfl⟩
theorem d_Ta_step_85 : Dc prog_11_method_4_code 85 (.aload_n 0) 1 86 := ⟨by decide +kernel, rfl⟩
theorem d_Ta_step_86 : Dc prog_11_method_4_code 86 (.getfield 35) 3 89 := ⟨by decide +kernel, rfl⟩
theorem d_Ta_step_89 : Dc prog_11_method_4_code 89 (.iconst 3) 1 90 := ⟨by decide +kernel, rfl⟩
theorem d_Ta_step_90 : Dj prog_11_method_4_code 90 (.if_icmp .ne 14) 93 14 104 := ⟨by decide +kernel, rfl, rfl⟩
theorem d_Ta_step_93 : Dc prog_11_method_4_code 93 (.aload_n 0) 1 94 := ⟨by decide +kernel, rfl⟩
theorem d_Ta_step_94 : Dc prog_11_method_4_code 94 (.dup) 1 95 := ⟨by decide +kernel, rfl⟩
theorem d_Ta_step_95 : Dc prog_11_method_4_code 95 (.getfield 22) 3 98 := ⟨by decide +kernel, rfl⟩
theorem d_Ta_step_98 : Dc prog_11_method_4_code 98 (.iconst 1) 1 99 := ⟨by decide +kernel, rfl⟩
theorem d_Ta_step_99 : Dc prog_11_method_4_code 99 (.iadd) 1 100 := ⟨by decide +kernel, rfl⟩
theorem d_Ta_step_100 : Dc prog_11_method_4_code 100 (.putfield 22) 3 103 := ⟨by decide +kernel, rfl⟩
theorem d_Ta_step_103 : Dc prog_11_method_4_code 103 (.return_) 1 104 := ⟨by decide +kernel, rfl⟩
theorem d_Ta_step_104 : Dc prog_11_method_4_code 104 (.aload_n 0) 1 105 := ⟨by decide +kernel, rfl⟩
theorem d_Ta_step_105 : Dc prog_11_method_4_code 105 (.iconst 0) 1 106 := ⟨by decide +kernel, rfl⟩
theorem d_Ta_step_106 : Dc prog_11_method_4_code 106 (.putfield 38) 3 109 := ⟨by decide +kernel, rfl⟩
theorem d_Ta_step_109 : Dc prog_11_method_4_code 109 (.aload_n 0) 1 110 := ⟨by decide +kernel, rfl⟩
theorem d_Ta_step_110 : Dc prog_11_method_4_code 110 (.getfield 22) 3 113 := ⟨by decide +kernel, rfl⟩
theorem d_Ta_step_113 : Dc prog_11_method_4_code 113 (.aload_n 0) 1 114 := ⟨by decide +kernel, rfl⟩
theorem d_Ta_step_114 : Dc prog_11_method_4_code 114 (.getfield 19) 3 117 := ⟨by decide +kernel, rfl⟩
theorem d_Ta_step_117 : Dj prog_11_method_4_code 117 (.if_icmp .ge 65) 120 65 182 := ⟨by decide +kernel, rfl, rfl⟩
theorem d_Ta_step_120 : Dc prog_11_method_4_code 120 (.aload_n 0) 1 121 := ⟨by decide +kernel, rfl⟩
theorem d_Ta_step_121 : Dc prog_11_method_4_code 121 (.getfield 9) 3 124 := ⟨by decide +kernel, rfl⟩
theorem d_Ta_step_124 : Dc prog_11_method_4_code 124 (.aload_n 0) 1 125 := ⟨by decide +kernel, rfl⟩
theorem d_Ta_step_125 : Dc prog_11_method_4_code 125 (.getfield 22) 3 128 := ⟨by decide +kernel, rfl⟩
theorem d_Ta_step_128 : Dc prog_11_method_4_code 128 (.iaload) 1 129 := ⟨by decide +kernel, rfl⟩
theorem d_Ta_step_129 : Dc prog_11_method_4_code 129 (.invokestatic 31) 3 132 := ⟨by decide +kernel, rfl⟩
theorem d_Ta_step_132 : Dc prog_11_method_4_code 132 (.aload_n 0) 1 133 := ⟨by decide +kernel, rfl⟩
theorem d_Ta_step_133 : Dc prog_11_method_4_code 133 (.getfield 35) 3 136 := ⟨by decide +kernel, rfl⟩
theorem d_Ta_step_136 : Dj prog_11_method_4_code 136 (.if_icmp .ne 46) 139 46 182 := ⟨by decide +kernel, rfl, rfl⟩
theorem d_Ta_step_139 : Dc prog_11_method_4_code 139 (.aload_n 0) 1 140 := ⟨by decide +kernel, rfl⟩
theorem d_Ta_step_140 : Dc prog_11_method_4_code 140 (.sipush 1001) 3 143 := ⟨by decide +kernel, rfl⟩
theorem d_Ta_step_143 : Dc prog_11_method_4_code 143 (.aload_n 0) 1 144 := ⟨by decide +kernel, rfl⟩
theorem d_Ta_step_144 : Dc prog_11_method_4_code 144 (.getfield 38) 3 147 := ⟨by decide +kernel, rfl⟩
theorem d_Ta_step_147 : Dc prog_11_method_4_code 147 (.bipush 10) 2 149 := ⟨by decide +kernel, rfl⟩
theorem d_Ta_step_149 : Dc prog_11_method_4_code 149 (.imul) 1 150 := ⟨by decide +kernel, rfl⟩
theorem d_Ta_step_150 : Dc prog_11_method_4_code 150 (.aload_n 0) 1 151 := ⟨by decide +kernel, rfl⟩
theorem d_Ta_step_151 : Dc prog_11_method_4_code 151 (.getfield 9) 3 154 := ⟨by decide +kernel, rfl⟩
theorem d_Ta_step_154 : Dc prog_11_method_4_code 154 (.aload_n 0) 1 155 := ⟨by decide +kernel, rfl⟩
theorem d_Ta_step_155 : Dc prog_11_method_4_code 155 (.getfield 22) 3 158 := ⟨by decide +kernel, rfl⟩
theorem d_Ta_step_158 : Dc prog_11_method_4_code 158 (.iaload) 1 159 := ⟨by decide +kernel, rfl⟩
theorem d_Ta_step_159 : Dc prog_11_method_4_code 159 (.iadd) 1 160 := ⟨by decide +kernel, rfl⟩
theorem d_Ta_step_160 : Dc prog_11_method_4_code 160 (.bipush 48) 2 162 := ⟨by decide +kernel, rfl⟩
theorem d_Ta_step_162 : Dc prog_11_method_4_code 162 (.isub) 1 163 := ⟨by decide +kernel, rfl⟩
theorem d_Ta_step_163 : Dc prog_11_method_4_code 163 (.invokestatic 41) 3 166 := ⟨by decide +kernel, rfl⟩
theorem d_Ta_step_166 : Dc prog_11_method_4_code 166 (.putfield 38) 3 169 := ⟨by decide +kernel, rfl⟩
theorem d_Ta_step_169 : Dc prog_11_method_4_code 169 (.aload_n 0) 1 170 := ⟨by decide +kernel, rfl⟩
theorem d_Ta_step_170 : Dc prog_11_method_4_code 170 (.dup) 1 171 := ⟨by decide +kernel, rfl⟩
theorem d_Ta_step_171 : Dc prog_11_method_4_code 171 (.getfield 22) 3 174 := ⟨by decide +kernel, rfl⟩
theorem d_Ta_step_174 : Dc prog_11_method_4_code 174 (.iconst 1) 1 175 := ⟨by decide +kernel, rfl⟩
theorem d_Ta_step_175 : Dc prog_11_method_4_code 175 (.iadd) 1 176 := ⟨by decide +kernel, rfl⟩
theorem d_Ta_step_176 : Dc prog_11_method_4_code 176 (.putfield 22) 3 179 := ⟨by decide +kernel, rfl⟩
theorem d_Ta_step_179 : Dj prog_11_method_4_code 179 (.goto (-70)) 182 (-70) 109 := ⟨by decide +kernel, rfl, rfl⟩
theorem d_Ta_step_182 : Dc prog_11_method_4_code 182 (.return_) 1 183 := ⟨by decide +kernel, rfl⟩
theorem fl_Ta_9 : FL "SubgraphDesk$Tape" 9 10 0 true (.array .int) (3, 1) := ⟨R_Ta, F_Ta, 7, ty_Ta, rfl, rfl, in_Ta, tyok_Ta, nm_Ta, by decide, gd 300 (by decide +kernel) rfl, rfl, rfl, rfl⟩
theorem fl_Ta_19 : FL "SubgraphDesk$Tape" 19 10 2 false .int (0, 0) := ⟨R_Ta, F_Ta, 7, ty_Ta, rfl, rfl, in_Ta, tyok_Ta, nm_Ta, by decide, gd 304 (by decide +kernel) rfl, rfl, rfl, rfl⟩
theorem fl_Ta_22 : FL "SubgraphDesk$Tape" 22 10 4 false .int (0, 0) := ⟨R_Ta, F_Ta, 7, ty_Ta, rfl, rfl, in_Ta, tyok_Ta, nm_Ta, by decide, gd 307 (by decide +kernel) rfl, rfl, rfl, rfl⟩
theorem fl_Ta_28 : FL "SubgraphDesk$Tape" 28 10 3 false .int (0, 0) := ⟨R_Ta, F_Ta, 7, ty_Ta, rfl, rfl, in_Ta, tyok_Ta, nm_Ta, by decide, gd 306 (by decide +kernel) rfl, rfl, rfl, rfl⟩
theorem fl_Ta_35 : FL "SubgraphDesk$Tape" 35 10 5 false .int (0, 0) := ⟨R_Ta, F_Ta, 7, ty_Ta, rfl, rfl, in_Ta, tyok_Ta, nm_Ta, by decide, gd 309 (by decide +kernel) rfl, rfl, rfl, rfl⟩
theorem fl_Ta_38 : FL "SubgraphDesk$Tape" 38 10 6 false .int (0, 0) := ⟨R_Ta, F_Ta, 7, ty_Ta, rfl, rfl, in_Ta, tyok_Ta, nm_Ta, by decide, gd 310 (by decide +kernel) rfl, rfl, rfl, rfl⟩
theorem ml_Ta_31 : Cond.methodLink "SubgraphDesk$Tape" 31 m_Ta_sortOf.1 ∈ lw_gd := gd 788 (by decide +kernel) rfl
theorem ml_Ta_41 : Cond.methodLink "SubgraphDesk$Tape" 41 m_JMath_min.1 ∈ lw_gd := gd 791 (by decide +kernel) rfl
/-! ===== the desk's tape ===== -/
theorem sI2 (w : Mem) (o k : Nat) (x y : Int32) : sI (sI w o k x) o k y = sI w o k y := by
  unfold sI
  congr 1
  funext a
  by_cases h : a = o
  · simp only [h, if_true]
    funext j
    simp only [upd_eq]
    by_cases e : j = k <;> simp [e]
  · simp [h]
def sortN (x : Nat) : Nat := if 97 ≤ x ∧ x ≤ 122 then 1 else if 48 ≤ x ∧ x ≤ 57 then 2 else 3
theorem srt_s {t : List Nat} {f : Nat} (h : f < t.length) : srt t f = sortN (gA t f) := by
  unfold srt sortN
  rw [if_neg (by omega)]
theorem sortN_c {x : Nat} : sortN x = 1 ∨ sortN x = 2 ∨ sortN x = 3 := by
  unfold sortN
  split
  · exact Or.inl rfl
  · split
    · exact Or.inr (Or.inl rfl)
    · exact Or.inr (Or.inr rfl)
theorem sortN_r {t : List Nat} {q k : Nat} (hq : q = 1 ∨ q = 2) (hk : k < t.length) : sortN (gA t k) = q ↔ runC t q k := by
  unfold sortN
  rcases hq with rfl | rfl
  · constructor
    · intro h
      by_cases h1 : 97 ≤ gA t k ∧ gA t k ≤ 122
      · exact ⟨hk, Or.inr (Or.inl ⟨rfl, h1⟩)⟩
      · rw [if_neg h1] at h
        split at h <;> exact absurd h (by decide)
    · rintro ⟨-, h | h | h⟩
      · exact absurd h.1 (by decide)
      · rw [if_pos h.2]
      · exact absurd h.1 (by decide)
  · constructor
    · intro h
      by_cases h1 : 97 ≤ gA t k ∧ gA t k ≤ 122
      · rw [if_pos h1] at h; exact absurd h (by decide)
      · rw [if_neg h1] at h
        by_cases h2 : 48 ≤ gA t k ∧ gA t k ≤ 57
        · exact ⟨hk, Or.inr (Or.inr ⟨rfl, h2⟩)⟩
        · rw [if_neg h2] at h; exact absurd h (by decide)
    · rintro ⟨-, h | h | h⟩
      · exact absurd h.1 (by decide)
      · exact absurd h.1 (by decide)
      · rw [if_neg (by omega), if_pos h.2]
/-- the bytes of the text that is read -/
def TbP (w : Mem) (t : List Nat) : Prop := t.length ≤ 400 ∧ rI w 26 2 = nI t.length ∧ ∀ k, k < t.length → rI w 27 k = nI (gA t k) ∧ gA t k < 256
/-- the token at f is looked at -/
def TkD (w : Mem) (t : List Nat) (f : Nat) : Prop := TbP w t ∧ rI w 26 3 = nI f ∧ rI w 26 4 = nI (enT t f) ∧ rI w 26 5 = nI (srt t f) ∧ (srt t f ≠ 3 → rI w 26 6 = nI (numC t f)) ∧ okF t f
/-- only the token changed -/
def FrTk (w w2 : Mem) : Prop := (∀ a, a ≠ 26 → rI w2 a = rI w a) ∧ (∀ k, k < 3 → rI w2 26 k = rI w 26 k) ∧ w2.2 = w.2
theorem FrTk.rf (w : Mem) : FrTk w w := ⟨fun _ _ => rfl, fun _ _ => rfl, rfl⟩
theorem FrTk.tr {a b c : Mem} (h : FrTk a b) (h2 : FrTk b c) : FrTk a c := ⟨fun x hx => (h2.1 x hx).trans (h.1 x hx), fun k hk => (h2.2.1 k hk).trans (h.2.1 k hk), h2.2.2.trans h.2.2⟩
theorem FrTk.I {w w2 : Mem} {k : Nat} {x : Int32} (hk : 3 ≤ k) (h : FrTk w w2) : FrTk w (sI w2 26 k x) := ⟨fun a ha => by rw [rI_sI_ne _ _ _ ha]; exact h.1 a ha, fun q hq => by rw [rI_sI, upd_eq, if_neg (by omega)]; exact h.2.1 q hq, h.2.2⟩
theorem TbP.fr {w w2 : Mem} {t : List Nat} (h : TbP w t) (f : FrTk w w2) : TbP w2 t := ⟨h.1, by rw [f.2.1 2 (by decide)]; exact h.2.1, by rw [f.1 27 (by decide)]; exact h.2.2⟩
theorem TkD.fr {w w2 : Mem} {t : List Nat} {f : Nat} (h : TkD w t f) (e1 : rI w2 26 = rI w 26) (e2 : rI w2 27 = rI w 27) : TkD w2 t f := by
  unfold TkD TbP
  rw [e1, e2]
  exact h
theorem c_Ta_sortOf {E : EV} {w : Mem} {x : Nat} (hx : x < 2 ^ 31) : T E m_Ta_sortOf 0 0 0 [.int (nI x)] w (Ret (some (.int (nI (sortN x)))) w) := by
  refine T_of (L := [.int (nI x)]) cf_Ta_sortOf rfl (Nat.le_of_ble_eq_true rfl) (fun X hX hF => ?_)
  refine g_iload0 hX d_Ta_sortOf_0 ?_
  refine g_bipush (v := nI 97) hX d_Ta_sortOf_1 rfl ?_
  refine g_icmpN_lt hX d_Ta_sortOf_3 (by omega) (by omega) (fun e3 => ?_) (fun e3 => ?_)
  · refine g_iload0 hX d_Ta_sortOf_14 ?_
    refine g_bipush (v := nI 48) hX d_Ta_sortOf_15 rfl ?_
    refine g_icmpN_lt hX d_Ta_sortOf_17 (by omega) (by omega) (fun e17 => ?_) (fun e17 => ?_)
    · refine g_iconst (v := nI 3) hX d_Ta_sortOf_30 rfl ?_
      refine g_iret hX hF d_Ta_sortOf_31 (by omega) (by omega) ?_
      first | (exfalso; omega) | exact ⟨by unfold sortN; rw [if_neg (by omega), if_neg (by omega)], rfl⟩ | exact ⟨by unfold sortN; rw [if_neg (by omega), if_pos (by omega)], rfl⟩
    · refine g_iload0 hX d_Ta_sortOf_20 ?_
      refine g_bipush (v := nI 57) hX d_Ta_sortOf_21 rfl ?_
      refine g_icmpN_gt hX d_Ta_sortOf_23 (by omega) (by omega) (fun e23 => ?_) (fun e23 => ?_)
      · refine g_iconst (v := nI 3) hX d_Ta_sortOf_30 rfl ?_
        refine g_iret hX hF d_Ta_sortOf_31 (by omega) (by omega) ?_
        first | (exfalso; omega) | exact ⟨by unfold sortN; rw [if_neg (by omega), if_neg (by omega)], rfl⟩ | exact ⟨by unfold sortN; rw [if_neg (by omega), if_pos (by omega)], rfl⟩
      · refine g_iconst (v := nI 2) hX d_Ta_sortOf_26 rfl ?_
        refine g_goto hX d_Ta_sortOf_27 ?_
        refine g_iret hX hF d_Ta_sortOf_31 (by omega) (by omega) ?_
        first | (exfalso; omega) | exact ⟨by unfold sortN; rw [if_neg (by omega), if_neg (by omega)], rfl⟩ | exact ⟨by unfold sortN; rw [if_neg (by omega), if_pos (by omega)], rfl⟩
  · refine g_iload0 hX d_Ta_sortOf_6 ?_
    refine g_bipush (v := nI 122) hX d_Ta_sortOf_7 rfl ?_
    refine g_icmpN_gt hX d_Ta_sortOf_9 (by omega) (by omega) (fun e9 => ?_) (fun e9 => ?_)
    · refine g_iload0 hX d_Ta_sortOf_14 ?_
      refine g_bipush (v := nI 48) hX d_Ta_sortOf_15 rfl ?_
      refine g_icmpN_lt hX d_Ta_sortOf_17 (by omega) (by omega) (fun e17 => ?_) (fun e17 => ?_)
      · refine g_iconst (v := nI 3) hX d_Ta_sortOf_30 rfl ?_
        refine g_iret hX hF d_Ta_sortOf_31 (by omega) (by omega) ?_
        first | (exfalso; omega) | exact ⟨by unfold sortN; rw [if_neg (by omega), if_neg (by omega)], rfl⟩ | exact ⟨by unfold sortN; rw [if_neg (by omega), if_pos (by omega)], rfl⟩
      · refine g_iload0 hX d_Ta_sortOf_20 ?_
        refine g_bipush (v := nI 57) hX d_Ta_sortOf_21 rfl ?_
        refine g_icmpN_gt hX d_Ta_sortOf_23 (by omega) (by omega) (fun e23 => ?_) (fun e23 => ?_)
        · refine g_iconst (v := nI 3) hX d_Ta_sortOf_30 rfl ?_
          refine g_iret hX hF d_Ta_sortOf_31 (by omega) (by omega) ?_
          first | (exfalso; omega) | exact ⟨by unfold sortN; rw [if_neg (by omega), if_neg (by omega)], rfl⟩ | exact ⟨by unfold sortN; rw [if_neg (by omega), if_pos (by omega)], rfl⟩
        · refine g_iconst (v := nI 2) hX d_Ta_sortOf_26 rfl ?_
          refine g_goto hX d_Ta_sortOf_27 ?_
          refine g_iret hX hF d_Ta_sortOf_31 (by omega) (by omega) ?_
          first | (exfalso; omega) | exact ⟨by unfold sortN; rw [if_neg (by omega), if_neg (by omega)], rfl⟩ | exact ⟨by unfold sortN; rw [if_neg (by omega), if_pos (by omega)], rfl⟩
    · refine g_iconst (v := nI 1) hX d_Ta_sortOf_12 rfl ?_
      refine g_iret hX hF d_Ta_sortOf_13 (by omega) (by omega) ?_
      exact ⟨by unfold sortN; rw [if_pos (by omega)], rfl⟩
/-- in a token's walk: k of its bytes are behind -/
def StpP (w wk : Mem) (t : List Nat) (f q k : Nat) : Prop := FrTk w wk ∧ rI wk 26 3 = nI f ∧ rI wk 26 4 = nI (f + k) ∧ rI wk 26 5 = nI q ∧ rI wk 26 6 = nI (digC t f k)
theorem digC_le (t : List Nat) (f : Nat) : ∀ k, digC t f k ≤ 1001
  | 0 => Nat.zero_le _
  | k + 1 => Nat.min_le_left _ _
theorem c_Ta_step {E : EV} {w : Mem} {t : List Nat} {e : Nat} (hT : TbP w t) (he : rI w 26 4 = nI e) (hel : e ≤ t.length) : T E m_Ta_step 1 0 0 [.ref 26] w ((fun r w2 => r = none ∧ FrTk w w2 ∧ TkD w2 t (runE t 0 e))) := by
  refine T_of (L := [.ref 26]) cf_Ta_step rfl (Nat.le_of_ble_eq_true rfl) (fun X hX hF => ?_)
  have htl := hT.1
  have k46 : ∀ (f : Nat) (wk : Mem), FrTk w wk → rI wk 26 3 = nI f → f ≤ t.length → ¬ runC t 0 f → runE t 0 e = f → G0 E X 0 0 46 [.ref 26] [] wk := by
    intro f wk hfw h3 hf hnc hre
    refine g_aload0 hX d_Ta_step_46 ?_
    refine g_aload0 hX d_Ta_step_47 ?_
    refine g_getI hX d_Ta_step_48 fl_Ta_28 (lv_26 _) ?_
    refine g_topi h3 ?_
    refine g_putI hX d_Ta_step_51 fl_Ta_22 (lv_26 _) ?_
    refine g_aload0 hX d_Ta_step_54 ?_
    refine g_aload0 hX d_Ta_step_55 ?_
    refine g_getI hX d_Ta_step_56 fl_Ta_28 (lv_26 _) ?_
    refine g_topi (show rI (sI wk 26 4 (nI f)) 26 3 = nI f by rw [rI_sI, upd_eq, if_neg (by decide)]; exact h3) ?_
    refine g_aload0 hX d_Ta_step_59 ?_
    refine g_getI hX d_Ta_step_60 fl_Ta_19 (lv_26 _) ?_
    refine g_topi (show rI (sI wk 26 4 (nI f)) 26 2 = nI t.length by rw [rI_sI, upd_eq, if_neg (by decide)]; exact (hT.fr hfw).2.1) ?_
    refine g_icmpN_ge hX d_Ta_step_63 (by omega) (by omega) (fun e63 => ?_) (fun e63 => ?_)
    · have hsq : srt t f = 0 := by unfold srt; rw [if_pos e63]
      have hen0 : enT t f = f := by unfold enT; rw [if_pos hsq]
      refine g_iconst (v := nI 0) hX d_Ta_step_81 rfl ?_
      skip
      refine g_putI hX d_Ta_step_82 fl_Ta_35 (lv_26 _) ?_
      refine g_aload0 hX d_Ta_step_85 ?_
      refine g_getI hX d_Ta_step_86 fl_Ta_35 (lv_26 _) ?_
      refine g_topi (show rI (sI (sI wk 26 4 (nI f)) 26 5 (nI 0)) 26 5 = nI 0 by rw [rI_sI, upd_eq, if_pos rfl]) ?_
      refine g_iconst (v := nI 3) hX d_Ta_step_89 rfl ?_
      refine g_icmpN_ne hX d_Ta_step_90 (by have := srt_le t f; omega) (by omega) (fun e90 => ?_) (fun h => absurd h (by decide))
      refine g_aload0 hX d_Ta_step_104 ?_
      refine g_iconst (v := nI 0) hX d_Ta_step_105 rfl ?_
      refine g_putI hX d_Ta_step_106 fl_Ta_38 (lv_26 _) ?_
      refine g_aload0 hX d_Ta_step_109 ?_
      refine g_getI hX d_Ta_step_110 fl_Ta_22 (lv_26 _) ?_
      refine g_topi (show rI (sI (sI (sI wk 26 4 (nI f)) 26 5 (nI 0)) 26 6 (nI 0)) 26 4 = nI f by rw [rI_sI, upd_eq, if_neg (by decide), rI_sI, upd_eq, if_neg (by decide), rI_sI, upd_eq, if_pos rfl]) ?_
      refine g_aload0 hX d_Ta_step_113 ?_
      refine g_getI hX d_Ta_step_114 fl_Ta_19 (lv_26 _) ?_
      refine g_topi (show rI (sI (sI (sI wk 26 4 (nI f)) 26 5 (nI 0)) 26 6 (nI 0)) 26 2 = nI t.length by rw [rI_sI, upd_eq, if_neg (by decide), rI_sI, upd_eq, if_neg (by decide), rI_sI, upd_eq, if_neg (by decide)]; exact (hT.fr hfw).2.1) ?_
      refine g_icmpN_ge hX d_Ta_step_117 (by omega) (by omega) (fun c0 => ?_) (fun h => absurd h (by omega))
      refine g_vret hX hF d_Ta_step_182 (by omega) (by omega) ?_
      refine ⟨rfl, ((hfw.I (by decide)).I (by decide)).I (by decide), ?_⟩
      rw [hre]
      refine ⟨hT.fr (((hfw.I (by decide)).I (by decide)).I (by decide)), by rw [rI_sI, upd_eq, if_neg (by decide), rI_sI, upd_eq, if_neg (by decide), rI_sI, upd_eq, if_neg (by decide)]; exact h3, by rw [hen0, rI_sI, upd_eq, if_neg (by decide), rI_sI, upd_eq, if_neg (by decide), rI_sI, upd_eq, if_pos rfl], by rw [hsq, rI_sI, upd_eq, if_neg (by decide), rI_sI, upd_eq, if_pos rfl], fun _ => ?_, hf, hnc⟩
      unfold numC
      rw [hen0, Nat.sub_self, rI_sI, upd_eq, if_pos rfl]
      rfl
    · have hsq0 := srt_s e63
      have hbf := (hT.2.2 f e63).2
      obtain ⟨q, hsq⟩ : ∃ q, srt t f = q := ⟨_, rfl⟩
      have hsN : sortN (gA t f) = q := hsq0.symm.trans hsq
      refine g_aload0 hX d_Ta_step_66 ?_
      refine g_getF hX d_Ta_step_67 fl_Ta_9 (lv_26 _) ?_
      refine g_aload0 hX d_Ta_step_70 ?_
      refine g_getI hX d_Ta_step_71 fl_Ta_28 (lv_26 _) ?_
      refine g_topi (show rI (sI wk 26 4 (nI f)) 26 3 = nI f by rw [rI_sI, upd_eq, if_neg (by decide)]; exact h3) ?_
      refine g_iald hX d_Ta_step_74 (lv_27 _) rfl (by omega) ?_
      refine g_topi (show rI (sI wk 26 4 (nI f)) 27 f = nI (gA t f) by rw [rI_sI_ne _ _ _ (by decide)]; exact ((hT.fr hfw).2.2 f e63).1) ?_
      refine g_callS (As := [_]) hX hF.1 d_Ta_step_75 ml_Ta_31 cf_Ta_sortOf cs_Ta_sortOf rfl (c_Ta_sortOf (by omega)) (by omega) (by omega) (by omega) (Nat.le_of_ble_eq_true rfl) ?_
      refine ret_k ?_
      refine g_goto hX d_Ta_step_78 ?_
      refine g_topi (show nI (sortN (gA t f)) = nI q by rw [hsN]) ?_
      refine g_putI hX d_Ta_step_82 fl_Ta_35 (lv_26 _) ?_
      refine g_aload0 hX d_Ta_step_85 ?_
      refine g_getI hX d_Ta_step_86 fl_Ta_35 (lv_26 _) ?_
      refine g_topi (show rI (sI (sI wk 26 4 (nI f)) 26 5 (nI q)) 26 5 = nI q by rw [rI_sI, upd_eq, if_pos rfl]) ?_
      refine g_iconst (v := nI 3) hX d_Ta_step_89 rfl ?_
      refine g_icmpN_ne hX d_Ta_step_90 (by have := srt_le t f; omega) (by omega) (fun e90 => ?_) (fun e90 => ?_)
      · refine g_aload0 hX d_Ta_step_104 ?_
        refine g_iconst (v := nI 0) hX d_Ta_step_105 rfl ?_
        refine g_putI hX d_Ta_step_106 fl_Ta_38 (lv_26 _) ?_
        have hq12 : q = 1 ∨ q = 2 := by
          have := sortN_c (x := gA t f)
          omega
        have hel2 := enT_le hf
        have henq : enT t f = runE t q f := by unfold enT; rw [hsq, if_neg (by omega), if_neg e90]
        have lpB : ∀ (fuel : Nat) (k : Nat) (wk : Mem), t.length - (f + k) < fuel → (StpP w wk t f q k) → (f + k ≤ enT t f) → G0 E X 0 0 109 [.ref 26] [] wk := by
          intro fuel
          induction fuel with
          | zero => intro k wk q0; exact absurd q0 (Nat.not_lt_zero _)
          | succ fuel ih =>
            intro k wk q0 q1 q2
            refine g_aload0 hX d_Ta_step_109 ?_
            refine g_getI hX d_Ta_step_110 fl_Ta_22 (lv_26 _) ?_
            refine g_topi q1.2.2.1 ?_
            refine g_aload0 hX d_Ta_step_113 ?_
            refine g_getI hX d_Ta_step_114 fl_Ta_19 (lv_26 _) ?_
            refine g_topi (show rI wk 26 2 = nI t.length from (hT.fr q1.1).2.1) ?_
            refine g_icmpN_ge hX d_Ta_step_117 (by omega) (by omega) (fun e117 => ?_) (fun e117 => ?_)
            · refine g_vret hX hF d_Ta_step_182 (by omega) (by omega) ?_
              have hen : f + k = enT t f := by
                rcases Nat.lt_or_ge (f + k) (enT t f) with z | z
                · exfalso
                  have hrc : runC t q (f + k) := by rw [henq] at z; exact runE_in (by omega) z
                  first
                  | exact absurd hrc.1 (by omega)
                  | exact e136 ((sortN_r hq12 hrc.1).mpr hrc)
                · omega
              refine ⟨rfl, q1.1, ?_⟩
              rw [hre]
              refine ⟨hT.fr q1.1, q1.2.1, by rw [← hen]; exact q1.2.2.1, by rw [hsq]; exact q1.2.2.2.1, fun _ => ?_, hf, hnc⟩
              unfold numC
              rw [← hen, Nat.add_sub_cancel_left]
              exact q1.2.2.2.2
            · have hb := (hT.2.2 (f + k) (by omega)).2
              refine g_aload0 hX d_Ta_step_120 ?_
              refine g_getF hX d_Ta_step_121 fl_Ta_9 (lv_26 _) ?_
              refine g_aload0 hX d_Ta_step_124 ?_
              refine g_getI hX d_Ta_step_125 fl_Ta_22 (lv_26 _) ?_
              refine g_topi q1.2.2.1 ?_
              refine g_iald hX d_Ta_step_128 (lv_27 _) rfl (by omega) ?_
              refine g_topi (show rI wk 27 (f + k) = nI (gA t (f + k)) from ((hT.fr q1.1).2.2 (f + k) (by omega)).1) ?_
              refine g_callS (As := [_]) hX hF.1 d_Ta_step_129 ml_Ta_31 cf_Ta_sortOf cs_Ta_sortOf rfl (c_Ta_sortOf (by omega)) (by omega) (by omega) (by omega) (Nat.le_of_ble_eq_true rfl) ?_
              refine ret_k ?_
              refine g_aload0 hX d_Ta_step_132 ?_
              refine g_getI hX d_Ta_step_133 fl_Ta_35 (lv_26 _) ?_
              refine g_topi q1.2.2.2.1 ?_
              refine g_icmpN_ne hX d_Ta_step_136 (by have := sortN_c (x := gA t (f + k)); omega) (by omega) (fun e136 => ?_) (fun e136 => ?_)
              · refine g_vret hX hF d_Ta_step_182 (by omega) (by omega) ?_
                have hen : f + k = enT t f := by
                  rcases Nat.lt_or_ge (f + k) (enT t f) with z | z
                  · exfalso
                    have hrc : runC t q (f + k) := by rw [henq] at z; exact runE_in (by omega) z
                    first
                    | exact absurd hrc.1 (by omega)
                    | exact e136 ((sortN_r hq12 hrc.1).mpr hrc)
                  · omega
                refine ⟨rfl, q1.1, ?_⟩
                rw [hre]
                refine ⟨hT.fr q1.1, q1.2.1, by rw [← hen]; exact q1.2.2.1, by rw [hsq]; exact q1.2.2.2.1, fun _ => ?_, hf, hnc⟩
                unfold numC
                rw [← hen, Nat.add_sub_cancel_left]
                exact q1.2.2.2.2
              · have hrc : runC t q (f + k) := (sortN_r hq12 (by omega)).mp e136
                have h48 : 48 ≤ gA t (f + k) := by
                  rcases hrc.2 with z | z | z
                  · omega
                  · omega
                  · omega
                have hdg : digC t f k ≤ 1001 := digC_le t f k
                refine g_aload0 hX d_Ta_step_139 ?_
                refine g_sipush (v := nI 1001) hX d_Ta_step_140 rfl ?_
                refine g_aload0 hX d_Ta_step_143 ?_
                refine g_getI hX d_Ta_step_144 fl_Ta_38 (lv_26 _) ?_
                refine g_topi q1.2.2.2.2 ?_
                refine g_bipush (v := nI 10) hX d_Ta_step_147 rfl ?_
                refine g_imulN hX d_Ta_step_149 ?_
                refine g_aload0 hX d_Ta_step_150 ?_
                refine g_getF hX d_Ta_step_151 fl_Ta_9 (lv_26 _) ?_
                refine g_aload0 hX d_Ta_step_154 ?_
                refine g_getI hX d_Ta_step_155 fl_Ta_22 (lv_26 _) ?_
                refine g_topi q1.2.2.1 ?_
                refine g_iald hX d_Ta_step_158 (lv_27 _) rfl (by omega) ?_
                refine g_topi (show rI wk 27 (f + k) = nI (gA t (f + k)) from ((hT.fr q1.1).2.2 (f + k) (by omega)).1) ?_
                refine g_iaddN hX d_Ta_step_159 ?_
                refine g_bipush (v := nI 48) hX d_Ta_step_160 rfl ?_
                refine g_isubN hX d_Ta_step_162 (by omega) ?_
                refine g_Math_min hX hF.1 d_Ta_step_163 ml_Ta_41 (by omega) (by omega) (by omega) (Nat.le_of_ble_eq_true rfl) ?_
                refine g_topi (minI_n (by omega) (by omega)) ?_
                refine g_topi (show nI (min 1001 (digC t f k * 10 + gA t (f + k) - 48)) = nI (digC t f (k + 1)) by rw [digC, show digC t f k * 10 + gA t (f + k) - 48 = digC t f k * 10 + (gA t (f + k) - 48) by omega]) ?_
                refine g_putI hX d_Ta_step_166 fl_Ta_38 (lv_26 _) ?_
                refine g_aload0 hX d_Ta_step_169 ?_
                refine g_dup hX d_Ta_step_170 rfl ?_
                refine g_getI hX d_Ta_step_171 fl_Ta_22 (lv_26 _) ?_
                refine g_topi (show rI (sI wk 26 6 (nI (digC t f (k + 1)))) 26 4 = nI (f + k) by rw [rI_sI, upd_eq, if_neg (by decide)]; exact q1.2.2.1) ?_
                refine g_iconst (v := nI 1) hX d_Ta_step_174 rfl ?_
                refine g_iaddN hX d_Ta_step_175 ?_
                refine g_putI hX d_Ta_step_176 fl_Ta_22 (lv_26 _) ?_
                refine g_goto hX d_Ta_step_179 ?_
                have hlt : f + k < enT t f := by
                  rcases Nat.lt_or_ge (f + k) (enT t f) with z | z
                  · exact z
                  · have hst : ¬ runC t q (enT t f) := by rw [henq]; exact runE_stop t q f
                    rw [show enT t f = f + k by omega] at hst
                    exact absurd hrc hst
                exact ih (k + 1) _ (by omega) ⟨(q1.1.I (by decide)).I (by decide), by rw [rI_sI, upd_eq, if_neg (by decide), rI_sI, upd_eq, if_neg (by decide)]; exact q1.2.1, by rw [rI_sI, upd_eq, if_pos rfl, Nat.add_assoc], by rw [rI_sI, upd_eq, if_neg (by decide), rI_sI, upd_eq, if_neg (by decide)]; exact q1.2.2.2.1, by rw [rI_sI, upd_eq, if_neg (by decide), rI_sI, upd_eq, if_pos rfl]⟩ (by omega)
        have hge := runE_ge t q f
        exact lpB (t.length + 1) 0 _ (by omega) ⟨((hfw.I (by decide)).I (by decide)).I (by decide), by rw [rI_sI, upd_eq, if_neg (by decide), rI_sI, upd_eq, if_neg (by decide), rI_sI, upd_eq, if_neg (by decide)]; exact h3, by rw [rI_sI, upd_eq, if_neg (by decide), rI_sI, upd_eq, if_neg (by decide), rI_sI, upd_eq, if_pos rfl]; rfl, by rw [rI_sI, upd_eq, if_neg (by decide), rI_sI, upd_eq, if_pos rfl], by rw [rI_sI, upd_eq, if_pos rfl]; rfl⟩ (by omega)
      · refine g_aload0 hX d_Ta_step_93 ?_
        refine g_dup hX d_Ta_step_94 rfl ?_
        refine g_getI hX d_Ta_step_95 fl_Ta_22 (lv_26 _) ?_
        refine g_topi (show rI (sI (sI wk 26 4 (nI f)) 26 5 (nI q)) 26 4 = nI f by rw [rI_sI, upd_eq, if_neg (by decide), rI_sI, upd_eq, if_pos rfl]) ?_
        refine g_iconst (v := nI 1) hX d_Ta_step_98 rfl ?_
        refine g_iaddN hX d_Ta_step_99 ?_
        refine g_putI hX d_Ta_step_100 fl_Ta_22 (lv_26 _) ?_
        refine g_vret hX hF d_Ta_step_103 (by omega) (by omega) ?_
        have hen3 : enT t f = f + 1 := by unfold enT; rw [hsq, e90, if_neg (by decide), if_pos rfl]
        refine ⟨rfl, ((hfw.I (by decide)).I (by decide)).I (by decide), ?_⟩
        rw [hre]
        exact ⟨hT.fr (((hfw.I (by decide)).I (by decide)).I (by decide)), by rw [rI_sI, upd_eq, if_neg (by decide), rI_sI, upd_eq, if_neg (by decide), rI_sI, upd_eq, if_neg (by decide)]; exact h3, by rw [hen3, rI_sI, upd_eq, if_pos rfl], by rw [hsq, rI_sI, upd_eq, if_neg (by decide), rI_sI, upd_eq, if_pos rfl], fun z => absurd (hsq.trans e90) z, hf, hnc⟩
  have lpA : ∀ (fuel : Nat) (f : Nat) (wk : Mem), t.length - f < fuel → (FrTk w wk) → (rI wk 26 3 = nI f) → (f ≤ t.length) → (runE t 0 e = runE t 0 f) → G0 E X 0 0 8 [.ref 26] [] wk := by
    intro fuel
    induction fuel with
    | zero => intro f wk q0; exact absurd q0 (Nat.not_lt_zero _)
    | succ fuel ih =>
      intro f wk q0 q1 q2 q3 q4
      refine g_aload0 hX d_Ta_step_8 ?_
      refine g_getI hX d_Ta_step_9 fl_Ta_28 (lv_26 _) ?_
      refine g_topi q2 ?_
      refine g_aload0 hX d_Ta_step_12 ?_
      refine g_getI hX d_Ta_step_13 fl_Ta_19 (lv_26 _) ?_
      refine g_topi (show rI wk 26 2 = nI t.length from (hT.fr q1).2.1) ?_
      refine g_icmpN_ge hX d_Ta_step_16 (by omega) (by omega) (fun e16 => ?_) (fun e16 => ?_)
      · have hnc : ¬ runC t 0 f := fun z => absurd z.1 (by omega)
        exact k46 f wk q1 q2 q3 hnc (q4.trans (runE_n hnc))
      · have hb := (hT.2.2 f e16).2
        refine g_aload0 hX d_Ta_step_19 ?_
        refine g_getF hX d_Ta_step_20 fl_Ta_9 (lv_26 _) ?_
        refine g_aload0 hX d_Ta_step_23 ?_
        refine g_getI hX d_Ta_step_24 fl_Ta_28 (lv_26 _) ?_
        refine g_topi q2 ?_
        refine g_iald hX d_Ta_step_27 (lv_27 _) rfl (by omega) ?_
        refine g_topi (show rI wk 27 f = nI (gA t f) from ((hT.fr q1).2.2 f e16).1) ?_
        refine g_bipush (v := nI 32) hX d_Ta_step_28 rfl ?_
        refine g_icmpN_ne hX d_Ta_step_30 (by omega) (by omega) (fun e30 => ?_) (fun e30 => ?_)
        · have hnc : ¬ runC t 0 f := fun z => by
            rcases z.2 with y | y | y
            · exact e30 y.2
            · exact absurd y.1 (by decide)
            · exact absurd y.1 (by decide)
          exact k46 f wk q1 q2 q3 hnc (q4.trans (runE_n hnc))
        · refine g_aload0 hX d_Ta_step_33 ?_
          refine g_dup hX d_Ta_step_34 rfl ?_
          refine g_getI hX d_Ta_step_35 fl_Ta_28 (lv_26 _) ?_
          refine g_topi q2 ?_
          refine g_iconst (v := nI 1) hX d_Ta_step_38 rfl ?_
          refine g_iaddN hX d_Ta_step_39 ?_
          refine g_putI hX d_Ta_step_40 fl_Ta_28 (lv_26 _) ?_
          refine g_goto hX d_Ta_step_43 ?_
          exact ih (f + 1) _ (by omega) (q1.I (by decide)) (by rw [rI_sI, upd_eq, if_pos rfl]) (by omega) (q4.trans (runE_y ⟨e16, Or.inl ⟨rfl, e30⟩⟩))
  refine g_aload0 hX d_Ta_step_0 ?_
  refine g_aload0 hX d_Ta_step_1 ?_
  refine g_getI hX d_Ta_step_2 fl_Ta_22 (lv_26 _) ?_
  refine g_topi he ?_
  refine g_putI hX d_Ta_step_5 fl_Ta_28 (lv_26 _) ?_
  exact lpA (t.length + 1) e _ (by omega) ((FrTk.rf w).I (by decide)) (by rw [rI_sI, upd_eq, if_pos rfl]) hel rfl
