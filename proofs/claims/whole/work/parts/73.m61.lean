def m_M_law : MR := (⟨"SubgraphDeskModel", "law", "()I"⟩, prog_14_method_63_code, 3, (some .int))
theorem cf_M_law : CF m_M_law 0 := ⟨gd 1836 (by decide +kernel) rfl, gd 151 (by decide +kernel) rfl, by decide +kernel, by decide, by decide +kernel⟩
theorem cv_M_law : CV m_M_law := ⟨gd 1834 (by decide +kernel) rfl, gd 1835 (by decide +kernel) rfl⟩
theorem d_M_law_0 : Dc prog_14_method_63_code 0 (.aload_n 0) 1 1 := ⟨by decide +kernel, rfl⟩
theorem d_M_law_1 : Dc prog_14_method_63_code 1 (.iconst 0) 1 2 := ⟨by decide +kernel, rfl⟩
theorem d_M_law_2 : Dc prog_14_method_63_code 2 (.putfield 170) 3 5 := ⟨by decide +kernel, rfl⟩
theorem d_M_law_5 : Dc prog_14_method_63_code 5 (.aload_n 0) 1 6 := ⟨by decide +kernel, rfl⟩
theorem d_M_law_6 : Dc prog_14_method_63_code 6 (.getfield 13) 3 9 := ⟨by decide +kernel, rfl⟩
theorem d_M_law_9 : Dc prog_14_method_63_code 9 (.iconst 3) 1 10 := ⟨by decide +kernel, rfl⟩
theorem d_M_law_10 : Dc prog_14_method_63_code 10 (.iaload) 1 11 := ⟨by decide +kernel, rfl⟩
theorem d_M_law_11 : Dc prog_14_method_63_code 11 (.bipush 6) 2 13 := ⟨by decide +kernel, rfl⟩
theorem d_M_law_13 : Dj prog_14_method_63_code 13 (.if_icmp .ne 15) 16 15 28 := ⟨by decide +kernel, rfl, rfl⟩
theorem d_M_law_16 : Dc prog_14_method_63_code 16 (.aload_n 0) 1 17 := ⟨by decide +kernel, rfl⟩
theorem d_M_law_17 : Dc prog_14_method_63_code 17 (.iconst 0) 1 18 := ⟨by decide +kernel, rfl⟩
theorem d_M_law_18 : Dc prog_14_method_63_code 18 (.putfield 243) 3 21 := ⟨by decide +kernel, rfl⟩
theorem d_M_law_21 : Dc prog_14_method_63_code 21 (.aload_n 0) 1 22 := ⟨by decide +kernel, rfl⟩
theorem d_M_law_22 : Dc prog_14_method_63_code 22 (.bipush (-5)) 2 24 := ⟨by decide +kernel, rfl⟩
theorem d_M_law_24 : Dc prog_14_method_63_code 24 (.invokevirtual 179) 3 27 := ⟨by decide +kernel, rfl⟩
theorem d_M_law_27 : Dc prog_14_method_63_code 27 (.ireturn) 1 28 := ⟨by decide +kernel, rfl⟩
theorem d_M_law_28 : Dc prog_14_method_63_code 28 (.aload_n 0) 1 29 := ⟨by decide +kernel, rfl⟩
theorem d_M_law_29 : Dc prog_14_method_63_code 29 (.iconst 0) 1 30 := ⟨by decide +kernel, rfl⟩
theorem d_M_law_30 : Dc prog_14_method_63_code 30 (.invokevirtual 397) 3 33 := ⟨by decide +kernel, rfl⟩
theorem d_M_law_33 : Dc prog_14_method_63_code 33 (.aload_n 0) 1 34 := ⟨by decide +kernel, rfl⟩
theorem d_M_law_34 : Dc prog_14_method_63_code 34 (.invokevirtual 400) 3 37 := ⟨by decide +kernel, rfl⟩
theorem d_M_law_37 : Dc prog_14_method_63_code 37 (.aload_n 0) 1 38 := ⟨by decide +kernel, rfl⟩
theorem d_M_law_38 : Dc prog_14_method_63_code 38 (.getfield 258) 3 41 := ⟨by decide +kernel, rfl⟩
theorem d_M_law_41 : Dj prog_14_method_63_code 41 (.ifCond .ne 23) 44 23 64 := ⟨by decide +kernel, rfl, rfl⟩
theorem d_M_law_44 : Dc prog_14_method_63_code 44 (.aload_n 0) 1 45 := ⟨by decide +kernel, rfl⟩
theorem d_M_law_45 : Dc prog_14_method_63_code 45 (.bipush 59) 2 47 := ⟨by decide +kernel, rfl⟩
theorem d_M_law_47 : Dc prog_14_method_63_code 47 (.invokevirtual 329) 3 50 := ⟨by decide +kernel, rfl⟩
theorem d_M_law_50 : Dj prog_14_method_63_code 50 (.ifCond .eq 14) 53 14 64 := ⟨by decide +kernel, rfl, rfl⟩
theorem d_M_law_53 : Dc prog_14_method_63_code 53 (.aload_n 0) 1 54 := ⟨by decide +kernel, rfl⟩
theorem d_M_law_54 : Dc prog_14_method_63_code 54 (.invokevirtual 262) 3 57 := ⟨by decide +kernel, rfl⟩
theorem d_M_law_57 : Dc prog_14_method_63_code 57 (.aload_n 0) 1 58 := ⟨by decide +kernel, rfl⟩
theorem d_M_law_58 : Dc prog_14_method_63_code 58 (.invokevirtual 400) 3 61 := ⟨by decide +kernel, rfl⟩
theorem d_M_law_61 : Dj prog_14_method_63_code 61 (.goto (-24)) 64 (-24) 37 := ⟨by decide +kernel, rfl, rfl⟩
theorem d_M_law_64 : Dc prog_14_method_63_code 64 (.aload_n 0) 1 65 := ⟨by decide +kernel, rfl⟩
theorem d_M_law_65 : Dc prog_14_method_63_code 65 (.invokevirtual 403) 3 68 := ⟨by decide +kernel, rfl⟩
theorem d_M_law_68 : Dc prog_14_method_63_code 68 (.aload_n 0) 1 69 := ⟨by decide +kernel, rfl⟩
theorem d_M_law_69 : Dc prog_14_method_63_code 69 (.getfield 258) 3 72 := ⟨by decide +kernel, rfl⟩
theorem d_M_law_72 : Dj prog_14_method_63_code 72 (.ifCond .eq 10) 75 10 82 := ⟨by decide +kernel, rfl, rfl⟩
theorem d_M_law_75 : Dc prog_14_method_63_code 75 (.aload_n 0) 1 76 := ⟨by decide +kernel, rfl⟩
theorem d_M_law_76 : Dc prog_14_method_63_code 76 (.bipush (-6)) 2 78 := ⟨by decide +kernel, rfl⟩
theorem d_M_law_78 : Dc prog_14_method_63_code 78 (.invokevirtual 179) 3 81 := ⟨by decide +kernel, rfl⟩
theorem d_M_law_81 : Dc prog_14_method_63_code 81 (.ireturn) 1 82 := ⟨by decide +kernel, rfl⟩
theorem d_M_law_82 : Dc prog_14_method_63_code 82 (.bipush 110) 2 84 := ⟨by decide +kernel, rfl⟩
theorem d_M_law_84 : Dc prog_14_method_63_code 84 (.sipush 900) 3 87 := ⟨by decide +kernel, rfl⟩
theorem d_M_law_87 : Dc prog_14_method_63_code 87 (.aload_n 0) 1 88 := ⟨by decide +kernel, rfl⟩
theorem d_M_law_88 : Dc prog_14_method_63_code 88 (.getfield 13) 3 91 := ⟨by decide +kernel, rfl⟩
theorem d_M_law_91 : Dc prog_14_method_63_code 91 (.iconst 3) 1 92 := ⟨by decide +kernel, rfl⟩
theorem d_M_law_92 : Dc prog_14_method_63_code 92 (.iaload) 1 93 := ⟨by decide +kernel, rfl⟩
theorem d_M_law_93 : Dc prog_14_method_63_code 93 (.imul) 1 94 := ⟨by decide +kernel, rfl⟩
theorem d_M_law_94 : Dc prog_14_method_63_code 94 (.iadd) 1 95 := ⟨by decide +kernel, rfl⟩
theorem d_M_law_95 : Dc prog_14_method_63_code 95 (.istore_n 1) 1 96 := ⟨by decide +kernel, rfl⟩
theorem d_M_law_96 : Dc prog_14_method_63_code 96 (.aload_n 0) 1 97 := ⟨by decide +kernel, rfl⟩
theorem d_M_law_97 : Dc prog_14_method_63_code 97 (.getfield 13) 3 100 := ⟨by decide +kernel, rfl⟩
theorem d_M_law_100 : Dc prog_14_method_63_code 100 (.iload_n 1) 1 101 := ⟨by decide +kernel, rfl⟩
theorem d_M_law_101 : Dc prog_14_method_63_code 101 (.iconst 1) 1 102 := ⟨by decide +kernel, rfl⟩
theorem d_M_law_102 : Dc prog_14_method_63_code 102 (.iadd) 1 103 := ⟨by decide +kernel, rfl⟩
theorem d_M_law_103 : Dc prog_14_method_63_code 103 (.aload_n 0) 1 104 := ⟨by decide +kernel, rfl⟩
theorem d_M_law_104 : Dc prog_14_method_63_code 104 (.getfield 389) 3 107 := ⟨by decide +kernel, rfl⟩
theorem d_M_law_107 : Dc prog_14_method_63_code 107 (.iastore) 1 108 := ⟨by decide +kernel, rfl⟩
theorem d_M_law_108 : Dc prog_14_method_63_code 108 (.iconst 0) 1 109 := ⟨by decide +kernel, rfl⟩
theorem d_M_law_109 : Dc prog_14_method_63_code 109 (.istore_n 2) 1 110 := ⟨by decide +kernel, rfl⟩
theorem d_M_law_110 : Dc prog_14_method_63_code 110 (.iload_n 2) 1 111 := ⟨by decide +kernel, rfl⟩
theorem d_M_law_111 : Dc prog_14_method_63_code 111 (.bipush 8) 2 113 := ⟨by decide +kernel, rfl⟩
theorem d_M_law_113 : Dc prog_14_method_63_code 113 (.aload_n 0) 1 114 := ⟨by decide +kernel, rfl⟩
theorem d_M_law_114 : Dc prog_14_method_63_code 114 (.getfield 389) 3 117 := ⟨by decide +kernel, rfl⟩
theorem d_M_law_117 : Dc prog_14_method_63_code 117 (.imul) 1 118 := ⟨by decide +kernel, rfl⟩
theorem d_M_law_118 : Dj prog_14_method_63_code 118 (.if_icmp .ge 25) 121 25 143 := ⟨by decide +kernel, rfl, rfl⟩
theorem d_M_law_121 : Dc prog_14_method_63_code 121 (.aload_n 0) 1 122 := ⟨by decide +kernel, rfl⟩
theorem d_M_law_122 : Dc prog_14_method_63_code 122 (.getfield 13) 3 125 := ⟨by decide +kernel, rfl⟩
theorem d_M_law_125 : Dc prog_14_method_63_code 125 (.iload_n 1) 1 126 := ⟨by decide +kernel, rfl⟩
theorem d_M_law_126 : Dc prog_14_method_63_code 126 (.iconst 2) 1 127 := ⟨by decide +kernel, rfl⟩
theorem d_M_law_127 : Dc prog_14_method_63_code 127 (.iadd) 1 128 := ⟨by decide +kernel, rfl⟩
theorem d_M_law_128 : Dc prog_14_method_63_code 128 (.iload_n 2) 1 129 := ⟨by decide +kernel, rfl⟩
theorem d_M_law_129 : Dc prog_14_method_63_code 129 (.iadd) 1 130 := ⟨by decide +kernel, rfl⟩
theorem d_M_law_130 : Dc prog_14_method_63_code 130 (.aload_n 0) 1 131 := ⟨by decide +kernel, rfl⟩
theorem d_M_law_131 : Dc prog_14_method_63_code 131 (.getfield 42) 3 134 := ⟨by decide +kernel, rfl⟩
theorem d_M_law_134 : Dc prog_14_method_63_code 134 (.iload_n 2) 1 135 := ⟨by decide +kernel, rfl⟩
theorem d_M_law_135 : Dc prog_14_method_63_code 135 (.iaload) 1 136 := ⟨by decide +kernel, rfl⟩
theorem d_M_law_136 : Dc prog_14_method_63_code 136 (.iastore) 1 137 := ⟨by decide +kernel, rfl⟩
theorem d_M_law_137 : Dc prog_14_method_63_code 137 (.iinc 2 1) 3 140 := ⟨by decide +kernel, rfl⟩
theorem d_M_law_140 : Dj prog_14_method_63_code 140 (.goto (-30)) 143 (-30) 110 := ⟨by decide +kernel, rfl, rfl⟩
theorem d_M_law_143 : Dc prog_14_method_63_code 143 (.iconst 0) 1 144 := ⟨by decide +kernel, rfl⟩
theorem d_M_law_144 : Dc prog_14_method_63_code 144 (.istore_n 2) 1 145 := ⟨by decide +kernel, rfl⟩
theorem d_M_law_145 : Dc prog_14_method_63_code 145 (.iload_n 2) 1 146 := ⟨by decide +kernel, rfl⟩
theorem d_M_law_146 : Dc prog_14_method_63_code 146 (.aload_n 0) 1 147 := ⟨by decide +kernel, rfl⟩
theorem d_M_law_147 : Dc prog_14_method_63_code 147 (.getfield 295) 3 150 := ⟨by decide +kernel, rfl⟩
theorem d_M_law_150 : Dj prog_14_method_63_code 150 (.if_icmp .ge 49) 153 49 199 := ⟨by decide +kernel, rfl, rfl⟩
theorem d_M_law_153 : Dc prog_14_method_63_code 153 (.aload_n 0) 1 154 := ⟨by decide +kernel, rfl⟩
theorem d_M_law_154 : Dc prog_14_method_63_code 154 (.getfield 13) 3 157 := ⟨by decide +kernel, rfl⟩
theorem d_M_law_157 : Dc prog_14_method_63_code 157 (.iload_n 1) 1 158 := ⟨by decide +kernel, rfl⟩
theorem d_M_law_158 : Dc prog_14_method_63_code 158 (.bipush 98) 2 160 := ⟨by decide +kernel, rfl⟩
theorem d_M_law_160 : Dc prog_14_method_63_code 160 (.iadd) 1 161 := ⟨by decide +kernel, rfl⟩
theorem d_M_law_161 : Dc prog_14_method_63_code 161 (.iconst 2) 1 162 := ⟨by decide +kernel, rfl⟩
theorem d_M_law_162 : Dc prog_14_method_63_code 162 (.iload_n 2) 1 163 := ⟨by decide +kernel, rfl⟩
theorem d_M_law_163 : Dc prog_14_method_63_code 163 (.imul) 1 164 := ⟨by decide +kernel, rfl⟩
theorem d_M_law_164 : Dc prog_14_method_63_code 164 (.iadd) 1 165 := ⟨by decide +kernel, rfl⟩
theorem d_M_law_165 : Dc prog_14_method_63_code 165 (.aload_n 0) 1 166 := ⟨by decide +kernel, rfl⟩
theorem d_M_law_166 : Dc prog_14_method_63_code 166 (.getfield 45) 3 169 := ⟨by decide +kernel, rfl⟩
theorem d_M_law_169 : Dc prog_14_method_63_code 169 (.iload_n 2) 1 170 := ⟨by decide +kernel, rfl⟩
theorem d_M_law_170 : Dc prog_14_method_63_code 170 (.iaload) 1 171 := ⟨by decide +kernel, rfl⟩
theorem d_M_law_171 : Dc prog_14_method_63_code 171 (.iastore) 1 172 := ⟨by decide +kernel, rfl⟩
theorem d_M_law_172 : Dc prog_14_method_63_code 172 (.aload_n 0) 1 173 := ⟨by decide +kernel, rfl⟩
theorem d_M_law_173 : Dc prog_14_method_63_code 173 (.getfield 13) 3 176 := ⟨by decide +kernel, rfl⟩
theorem d_M_law_176 : Dc prog_14_method_63_code 176 (.iload_n 1) 1 177 := ⟨by decide +kernel, rfl⟩
theorem d_M_law_177 : Dc prog_14_method_63_code 177 (.bipush 98) 2 179 := ⟨by decide +kernel, rfl⟩
theorem d_M_law_179 : Dc prog_14_method_63_code 179 (.iadd) 1 180 := ⟨by decide +kernel, rfl⟩
theorem d_M_law_180 : Dc prog_14_method_63_code 180 (.iconst 2) 1 181 := ⟨by decide +kernel, rfl⟩
theorem d_M_law_181 : Dc prog_14_method_63_code 181 (.iload_n 2) 1 182 := ⟨by decide +kernel, rfl⟩
theorem d_M_law_182 : Dc prog_14_method_63_code 182 (.imul) 1 183 := ⟨by decide +kernel, rfl⟩
theorem d_M_law_183 : Dc prog_14_method_63_code 183 (.iadd) 1 184 := ⟨by decide +kernel, rfl⟩
theorem d_M_law_184 : Dc prog_14_method_63_code 184 (.iconst 1) 1 185 := ⟨by decide +kernel, rfl⟩
theorem d_M_law_185 : Dc prog_14_method_63_code 185 (.iadd) 1 186 := ⟨by decide +kernel, rfl⟩
theorem d_M_law_186 : Dc prog_14_method_63_code 186 (.aload_n 0) 1 187 := ⟨by decide +kernel, rfl⟩
theorem d_M_law_187 : Dc prog_14_method_63_code 187 (.getfield 48) 3 190 := ⟨by decide +kernel, rfl⟩
theorem d_M_law_190 : Dc prog_14_method_63_code 190 (.iload_n 2) 1 191 := ⟨by decide +kernel, rfl⟩
theorem d_M_law_191 : Dc prog_14_method_63_code 191 (.iaload) 1 192 := ⟨by decide +kernel, rfl⟩
theorem d_M_law_192 : Dc prog_14_method_63_code 192 (.iastore) 1 193 := ⟨by decide +kernel, rfl⟩
theorem d_M_law_193 : Dc prog_14_method_63_code 193 (.iinc 2 1) 3 196 := ⟨by decide +kernel, rfl⟩
theorem d_M_law_196 : Dj prog_14_method_63_code 196 (.goto (-51)) 199 (-51) 145 := ⟨by decide +kernel, rfl, rfl⟩
theorem d_M_law_199 : Dc prog_14_method_63_code 199 (.aload_n 0) 1 200 := ⟨by decide +kernel, rfl⟩
theorem d_M_law_200 : Dc prog_14_method_63_code 200 (.getfield 13) 3 203 := ⟨by decide +kernel, rfl⟩
theorem d_M_law_203 : Dc prog_14_method_63_code 203 (.iconst 3) 1 204 := ⟨by decide +kernel, rfl⟩
theorem d_M_law_204 : Dc prog_14_method_63_code 204 (.dup2) 1 205 := ⟨by decide +kernel, rfl⟩
theorem d_M_law_205 : Dc prog_14_method_63_code 205 (.iaload) 1 206 := ⟨by decide +kernel, rfl⟩
theorem d_M_law_206 : Dc prog_14_method_63_code 206 (.iconst 1) 1 207 := ⟨by decide +kernel, rfl⟩
theorem d_M_law_207 : Dc prog_14_method_63_code 207 (.iadd) 1 208 := ⟨by decide +kernel, rfl⟩
theorem d_M_law_208 : Dc prog_14_method_63_code 208 (.iastore) 1 209 := ⟨by decide +kernel, rfl⟩
theorem d_M_law_209 : Dc prog_14_method_63_code 209 (.aload_n 0) 1 210 := ⟨by decide +kernel, rfl⟩
theorem d_M_law_210 : Dc prog_14_method_63_code 210 (.aload_n 0) 1 211 := ⟨by decide +kernel, rfl⟩
theorem d_M_law_211 : Dc prog_14_method_63_code 211 (.getfield 13) 3 214 := ⟨by decide +kernel, rfl⟩
theorem d_M_law_214 : Dc prog_14_method_63_code 214 (.iconst 3) 1 215 := ⟨by decide +kernel, rfl⟩
theorem d_M_law_215 : Dc prog_14_method_63_code 215 (.iaload) 1 216 := ⟨by decide +kernel, rfl⟩
theorem d_M_law_216 : Dc prog_14_method_63_code 216 (.iconst 1) 1 217 := ⟨by decide +kernel, rfl⟩
theorem d_M_law_217 : Dc prog_14_method_63_code 217 (.isub) 1 218 := ⟨by decide +kernel, rfl⟩
theorem d_M_law_218 : Dc prog_14_method_63_code 218 (.invokevirtual 179) 3 221 := ⟨by decide +kernel, rfl⟩
theorem d_M_law_221 : Dc prog_14_method_63_code 221 (.ireturn) 1 222 := ⟨by decide +kernel, rfl⟩
theorem ml_M_397 : Cond.methodLink "SubgraphDeskModel" 397 m_M_beginText.1 ∈ lw_gd := gd 1837 (by decide +kernel) rfl
theorem ml_M_400 : Cond.methodLink "SubgraphDeskModel" 400 m_M_readLaw.1 ∈ lw_gd := gd 1859 (by decide +kernel) rfl
theorem ml_M_403 : Cond.methodLink "SubgraphDeskModel" 403 m_M_endText.1 ∈ lw_gd := gd 1948 (by decide +kernel) rfl
noncomputable def opLaw (s : SG) : An := if (gL (sG s)).length = 6 then sNo 5 (wTp s []) else match lawT (sTp s) with
  | .inl e => sNo 6 (wFa (wTp s []) (nI e))
  | .inr q => sOk (nI (gL (sG s)).length) (wFa (wTp (wG s (gAddL (sG s) q)) []) (-1))
theorem MClause.cong {h h2 : Nat → Int32} {op arg : Nat → Nat} {len k : Nat} {q : Bool × Den × Option Den} (hc : MClause h op arg len k q) (e : ∀ j, j < 7 → h2 (k + j) = h (k + j)) : MClause h2 op arg len k q := by
  obtain ⟨h0, a, b, t, x, h1, h2', h3, h4, h5⟩ := hc
  exact ⟨by rw [← h0]; exact e 0 (by decide), a, b, t, x, by rw [← h1]; exact e 3 (by decide), by rw [← h2']; exact e 4 (by decide), by rw [← h3]; exact e 5 (by decide), by rw [← h4]; exact e 6 (by decide), h5⟩
theorem MLaw.congH {h h2 : Nat → Int32} {q : LawT} (hq : MLaw h q) (e : ∀ j, j < 900 → h2 j = h j) : MLaw h2 q := by
  obtain ⟨h1, h3, op, arg, len, h4, h5, h6, h7, h8⟩ := hq
  refine ⟨h1, by rw [e 1 (by decide)]; exact h3, op, arg, len, h4, h5, h6, fun j hj => by rw [e _ (by omega), e _ (by omega)]; exact h7 j hj, fun c x hx => (h8 c x hx).cong (fun j hj => e _ ?_)⟩
  have := (List.getElem?_eq_some_iff.mp hx).1
  omega
theorem MRow.addL {f F : Nat → Int32} {g : GC} {q : LawT} (h : MRow f g) (hW : WG g) (e : ∀ j, j < 110 → j ≠ 3 → F j = f j) (e3 : F 3 = nI ((gL g).length + 1)) : MRow F (gAddL g q) := by
  have hn := hW.n
  have hv := hW.v
  have hl := hW.el
  have hs := hW.sl
  refine ⟨by rw [e 0 (by decide) (by decide)]; exact h.n, by rw [e 1 (by decide) (by decide)]; exact h.v, by rw [e 2 (by decide) (by decide)]; exact h.s, ?_, by rw [e 4 (by decide) (by decide)]; exact h.fo, fun i hi => by rw [e _ (by omega) (by omega)]; exact h.t i hi, fun i hi => ?_, fun i hi => ?_, fun i hi => ?_, h.e.congr hl (fun i h1 h2 => e i (by omega) (by omega)), fun k z hz => ?_⟩
  · rw [e3]
    show _ = nI (gL g ++ [q]).length
    rw [List.length_append]; rfl
  · have hi2 : i < gN g := hi
    rw [e _ (by omega) (by omega)]; exact h.c i hi2
  · have hi2 : i < gV g := hi
    rw [e _ (by omega) (by omega)]; exact h.y i hi2
  · have hi2 : i < gV g := hi
    rw [e _ (by omega) (by omega)]; exact h.k i hi2
  · have hk := (List.getElem?_eq_some_iff.mp hz).1
    have hk2 : k < (gS g).length := hk
    rw [e _ (by omega) (by omega), e _ (by omega) (by omega)]; exact h.sn k z hz
theorem WG.addL {g : GC} {q : LawT} (h : WG g) (hl : (gL g).length < 6) : WG (gAddL g q) := ⟨h.n, h.c, h.ed, h.eo, h.v, h.y, h.k, h.ks, h.ki, h.sl, h.so, h.t, by show (gL g ++ [q]).length ≤ 6; rw [List.length_append, List.length_singleton]; omega, fun i hi => by have := h.fo i hi; show i < (gL g ++ [q]).length; rw [List.length_append]; omega⟩
theorem MLaws.addL {f F : Nat → Int32} {ls : List LawT} {q : LawT} (h : MLaws f ls) (e : ∀ j, 110 ≤ j → j < 110 + 900 * ls.length → F j = f j) (hq : MLaw (fun j => F (110 + 900 * ls.length + j)) q) : MLaws F (ls ++ [q]) := fun i x hx => by
  by_cases hi : i < ls.length
  · rw [List.getElem?_append_left hi] at hx
    exact (h i x hx).congH (fun j hj => e _ (by omega) (by omega))
  · rw [List.getElem?_append_right (by omega)] at hx
    have hi0 : i = ls.length := by
      by_cases z : i = ls.length
      · exact z
      · rw [List.getElem?_eq_none (by rw [List.length_singleton]; omega)] at hx
        cases hx
    subst hi0
    rw [Nat.sub_self] at hx
    obtain rfl := Option.some.inj hx
    exact hq
/-- what was read stands in a row of words as a law -/
theorem MLaw.of {h : Nat → Int32} {w : Mem} {c : List (Nat × Nat)} {cls : List ClT} {f p : Nat} (hc : ClsP w c cls) (hX : RdX false c [] f p 0) (h12 : cls.length ≤ 12) (h1 : h 1 = nI cls.length) (h2 : ∀ j, j < 8 * cls.length → h (2 + j) = rI w 99 j) (h3 : ∀ j, j < c.length → h (98 + 2 * j) = nI (cO c j) ∧ h (98 + 2 * j + 1) = nI (cA c j)) : MLaw h cls := by
  obtain ⟨⟨a1, a2, a3, a4, a5, a6⟩, a7⟩ := hX
  have hl := a1.1
  rw [List.length_nil] at hl
  refine ⟨h12, h1, cO c, cA c, c.length, by omega, fun j hj => ?_, fun j hj => ?_, h3, fun k x hx => ?_⟩
  · have := a5 _ (cO_mem hj)
    have h7 : (partsL false).length = 7 := rfl
    refine ⟨?_, this.1, fun z => ?_⟩
    · have z := this.2
      rw [h7] at z
      have z2 : cO c j ≤ 7 ∨ (20 ≤ cO c j ∧ cO c j < 31) := z
      omega
    · rcases a6 j hj z with y | ⟨q, hq, -⟩
      · exact y
      · cases hq
  · have := (a5 _ (cO_mem hj)).2
    have h7 : (partsL false).length = 7 := rfl
    rw [h7] at this
    have z2 : cO c j ≤ 7 ∨ (20 ≤ cO c j ∧ cO c j < 31) := this
    omega
  · have hk := (List.getElem?_eq_some_iff.mp hx).1
    obtain ⟨b0, a, b, y, e, b1, b2, b3, b4, b5, b6, b7, b8, b9⟩ := hc.2 k x hx
    have e8 : ∀ m, m < 8 → h (2 + 8 * k + m) = rI w 99 (8 * k + m) := fun m hm => by rw [← h2 _ (by omega), Nat.add_assoc]
    refine ⟨by rw [← b0]; exact e8 0 (by decide), a, b, y, e, by rw [← b1]; exact e8 3 (by decide), by rw [← b2]; exact e8 4 (by decide), by rw [← b3]; exact e8 5 (by decide), by rw [← b4]; exact e8 6 (by decide), b5, b6, b7, fun z => (b8 z).M, ?_⟩
    obtain ⟨q1, q2, q3⟩ := x
    cases q3 with
    | none => exact b9
    | some d => exact SegS.M (show SegL c y e d from b9)
theorem c_M_law {E : EV} {w : Mem} {s : SG} (h : MInv w s) (hM : MConst w) : T E m_M_law 8 0 0 [.ref 89] w (fun r w2 => r = some (.int (opLaw s).1) ∧ MInv w2 (opLaw s).2 ∧ FrM w w2) := by
  refine T_of (L := [.ref 89, un, un]) cf_M_law rfl (Nat.le_of_ble_eq_true rfl) (fun X hX hF => ?_)
  obtain ⟨⟨hR, hL, hW⟩, hU, hT, hI, hRf, hSt, hFa, hSm, hSp, hDr, hOr⟩ := id h
  have hll := hW.ll
  refine g_aload0 hX d_M_law_0 ?_
  refine g_iconst (v := nI 0) hX d_M_law_1 rfl ?_
  refine g_putI hX d_M_law_2 fl_M_170 (lv_89 _) ?_
  refine g_aload0 hX d_M_law_5 ?_
  refine g_getF hX d_M_law_6 fl_M_13 (lv_89 _) ?_
  refine g_iconst (v := nI 3) hX d_M_law_9 rfl ?_
  refine g_iald hX d_M_law_10 (lv_91 _) rfl (by decide) ?_
  refine g_topi (show rI (sI w 89 0 (nI 0)) 91 3 = nI (gL (sG s)).length from hR.l) ?_
  refine g_bipush (v := nI 6) hX d_M_law_11 rfl ?_
  refine g_icmpN_ne hX d_M_law_13 (by omega) (by omega) (fun e13 => ?_) (fun e13 => ?_)
  · have hl6 : ¬ (gL (sG s)).length = 6 := e13
    have kBad : ∀ (w2 : Mem) (e : Nat), lawT (sTp s) = .inl e → FrZ w w2 → BadB w2 (sTp s) e → G0 E X 0 0 64 [.ref 89, un, un] [] w2 := by
      intro w2 e he hz hb
      have hI := h.txt hz hb.2.2.1
      refine g_aload0 hX d_M_law_64 ?_
      refine g_callV (As := []) hX hF.1 d_M_law_65 ml_M_403 cf_M_endText cv_M_endText rfl rfl (c_M_endTextB hb.2.1) (rcv_obj hX (lv_89 _) rfl rfl) (by omega) (by omega) (by omega) (Nat.le_of_ble_eq_true rfl) ?_
      refine ret_k ?_
      refine g_aload0 hX d_M_law_68 ?_
      refine g_getZ hX d_M_law_69 fl_M_258 (lv_89 _) ?_
      refine g_topi (show rI (sI (sI w2 89 20 (nI 0)) 89 13 (nI 0)) 89 19 = nI 1 by rw [rI_sI, upd_eq, if_neg (by decide), rI_sI, upd_eq, if_neg (by decide)]; exact hb.2.1) ?_
      refine g_if_eq hX d_M_law_72 (fun h => absurd h (by decide)) (fun c0 => ?_)
      refine g_aload0 hX d_M_law_75 ?_
      refine g_bipush (v := -6) hX d_M_law_76 rfl ?_
      refine g_callV (As := [_]) hX hF.1 d_M_law_78 ml_M_179 cf_M_tell cv_M_tell rfl rfl (c_M_tellN (k := 6) (by decide) (by decide)) (rcv_obj hX (lv_89 _) rfl rfl) (by omega) (by omega) (by omega) (Nat.le_of_ble_eq_true rfl) ?_
      refine ret_k ?_
      refine g_iret hX hF d_M_law_81 (by omega) (by omega) ?_
      refine ⟨?_, ?_, ((((hz.I (by decide)).I (by decide)).M).I (by decide)).I (by decide)⟩
      · unfold opLaw; rw [if_neg hl6, he]; rfl
      · unfold opLaw; rw [if_neg hl6, he]; exact hI.no (by decide)
    have kMore : ∀ (w2 : Mem) (f p : Nat) (c : List (Nat × Nat)), lawT (sTp s) = .inl f → FrZ w w2 → RdB w2 (sTp s) f p c → srt (sTp s) f ≠ 0 → G0 E X 0 0 64 [.ref 89, un, un] [] w2 := by
      intro w2 f p c he hz hb hs
      have hI := h.txt (w2 := sI (sI w2 89 19 (nI 1)) 89 18 (nI f)) (x := nI f) ((hz.I (by decide)).I (by decide)) (by rw [rI_sI, upd_eq, if_pos rfl])
      refine g_aload0 hX d_M_law_64 ?_
      refine g_callV (As := []) hX hF.1 d_M_law_65 ml_M_403 cf_M_endText cv_M_endText rfl rfl (c_M_endTextN (f := f) (m := srt (sTp s) f) hb.2.2.2.1 hb.1.2.2.2.1 hs (srt_le _ _) hb.1.2.1) (rcv_obj hX (lv_89 _) rfl rfl) (by omega) (by omega) (by omega) (Nat.le_of_ble_eq_true rfl) ?_
      refine ret_k ?_
      refine g_aload0 hX d_M_law_68 ?_
      refine g_getZ hX d_M_law_69 fl_M_258 (lv_89 _) ?_
      refine g_topi (show rI (sI (sI (sI (sI w2 89 19 (nI 1)) 89 18 (nI f)) 89 20 (nI 0)) 89 13 (nI 0)) 89 19 = nI 1 by rw [rI_sI, upd_eq, if_neg (by decide), rI_sI, upd_eq, if_neg (by decide), rI_sI, upd_eq, if_neg (by decide), rI_sI, upd_eq, if_pos rfl]) ?_
      refine g_if_eq hX d_M_law_72 (fun h => absurd h (by decide)) (fun c0 => ?_)
      refine g_aload0 hX d_M_law_75 ?_
      refine g_bipush (v := -6) hX d_M_law_76 rfl ?_
      refine g_callV (As := [_]) hX hF.1 d_M_law_78 ml_M_179 cf_M_tell cv_M_tell rfl rfl (c_M_tellN (k := 6) (by decide) (by decide)) (rcv_obj hX (lv_89 _) rfl rfl) (by omega) (by omega) (by omega) (Nat.le_of_ble_eq_true rfl) ?_
      refine ret_k ?_
      refine g_iret hX hF d_M_law_81 (by omega) (by omega) ?_
      refine ⟨?_, ?_, ((((((hz.I (by decide)).I (by decide)).I (by decide)).I (by decide)).M).I (by decide)).I (by decide)⟩
      · unfold opLaw; rw [if_neg hl6, he]; rfl
      · unfold opLaw; rw [if_neg hl6, he]; exact hI.no (by decide)
    have kOk : ∀ (w2 : Mem) (f p : Nat) (c : List (Nat × Nat)) (cls : List ClT), lawT (sTp s) = .inr cls → FrZ w w2 → RdB w2 (sTp s) f p c → srt (sTp s) f = 0 → RdX false c [] f p 0 → ClsP w2 c cls → cls.length ≤ 12 → G0 E X 0 0 64 [.ref 89, un, un] [] w2 := by
      intro w2 f p c cls he hz hb hs hXr hcl h12
      have hI := h.txt hz hb.2.2.2.2
      have hz' : FrZ w (sI (sI w2 89 20 (nI 0)) 89 13 (nI 0)) := (hz.I (by decide)).I (by decide)
      have hcd' := (hb.2.2.1.o (o := 89) (k := 20) (x := nI 0) (by decide) (by decide) (Or.inr (by decide))).o (o := 89) (k := 13) (x := nI 0) (by decide) (by decide) (Or.inr (by decide))
      have hc1' : rI (sI (sI w2 89 20 (nI 0)) 89 13 (nI 0)) 89 21 = nI cls.length := by rw [rI_sI, upd_eq, if_neg (by decide), rI_sI, upd_eq, if_neg (by decide)]; exact hcl.1
      have hc2' : ∀ (j : Nat) (q : ClT), cls[j]? = some q → ClE (rI (sI (sI w2 89 20 (nI 0)) 89 13 (nI 0)) 99) c (8 * j) q := hcl.2
      have hcl400 := hXr.1.1.1
      rw [List.length_nil] at hcl400
      refine g_aload0 hX d_M_law_64 ?_
      refine g_callV (As := []) hX hF.1 d_M_law_65 ml_M_403 cf_M_endText cv_M_endText rfl rfl (c_M_endTextY hb.2.2.2.1 (by rw [hb.1.2.2.2.1, hs])) (rcv_obj hX (lv_89 _) rfl rfl) (by omega) (by omega) (by omega) (Nat.le_of_ble_eq_true rfl) ?_
      refine ret_k ?_
      refine g_aload0 hX d_M_law_68 ?_
      refine g_getZ hX d_M_law_69 fl_M_258 (lv_89 _) ?_
      refine g_topi (show rI (sI (sI w2 89 20 (nI 0)) 89 13 (nI 0)) 89 19 = nI 0 by rw [rI_sI, upd_eq, if_neg (by decide), rI_sI, upd_eq, if_neg (by decide)]; exact hb.2.2.2.1) ?_
      refine g_if_eq hX d_M_law_72 (fun c0 => ?_) (fun h => absurd (by decide) h)
      obtain ⟨w3, hw3⟩ : ∃ w3, (sI (sI w2 89 20 (nI 0)) 89 13 (nI 0)) = w3 := ⟨_, rfl⟩
      rw [hw3] at hI hz' hcd' hc1' hc2'
      refine g_mem hw3 ?_
      have hI3 := hI
      have hz3 := hz'
      have hcd := hcd'
      have hc1 := hc1'
      have hc2 := hc2'
      obtain ⟨⟨hR3, hL3, -⟩, -⟩ := id hI3
      have hR3 : MRow (rI w3 91) (sG s) := hR3
      have hL3 : MLaws (rI w3 91) (gL (sG s)) := hL3
      have k199 : ∀ g : Nat → Int32, (∀ j, j < 110 + 900 * (gL (sG s)).length → g j = rI w3 91 j) → g (110 + 900 * (gL (sG s)).length + 1) = nI cls.length → (∀ j, j < 8 * cls.length → g (110 + 900 * (gL (sG s)).length + 2 + j) = rI w3 99 j) → (∀ j, j < c.length → g (110 + 900 * (gL (sG s)).length + 98 + 2 * j) = nI (cO c j) ∧ g (110 + 900 * (gL (sG s)).length + 98 + 2 * j + 1) = nI (cA c j)) → G0 E X 0 0 199 [.ref 89, .int (nI (110 + 900 * (gL (sG s)).length)), un] [] (sA w3 91 g) := by
        intro g g1 g2 g3 g4
        refine g_aload0 hX d_M_law_199 ?_
        refine g_getF hX d_M_law_200 fl_M_13 (lv_89 _) ?_
        refine g_iconst (v := nI 3) hX d_M_law_203 rfl ?_
        refine g_dup2 hX d_M_law_204 rfl rfl ?_
        refine g_iald hX d_M_law_205 (lv_91 _) rfl (by decide) ?_
        refine g_topi (show rI (sA w3 91 g) 91 3 = nI (gL (sG s)).length by rw [rI_sA, g1 3 (by omega)]; exact hR3.l) ?_
        refine g_iconst (v := nI 1) hX d_M_law_206 rfl ?_
        refine g_iaddN hX d_M_law_207 ?_
        refine g_iast hX d_M_law_208 (lv_91 _) rfl (by decide) ?_
        refine g_aload0 hX d_M_law_209 ?_
        refine g_aload0 hX d_M_law_210 ?_
        refine g_getF hX d_M_law_211 fl_M_13 (lv_89 _) ?_
        refine g_iconst (v := nI 3) hX d_M_law_214 rfl ?_
        refine g_iald hX d_M_law_215 (lv_91 _) rfl (by decide) ?_
        refine g_topi (show rI (sI (sA w3 91 g) 91 3 (nI ((gL (sG s)).length + 1))) 91 3 = nI ((gL (sG s)).length + 1) by rw [rI_sI, upd_eq, if_pos rfl]) ?_
        refine g_iconst (v := nI 1) hX d_M_law_216 rfl ?_
        refine g_isubN hX d_M_law_217 (by omega) ?_
        refine g_callV (As := [_]) hX hF.1 d_M_law_218 ml_M_179 cf_M_tell cv_M_tell rfl rfl (c_M_tell (by omega)) (rcv_obj hX (lv_89 _) rfl rfl) (by omega) (by omega) (by omega) (Nat.le_of_ble_eq_true rfl) ?_
        refine ret_k ?_
        refine g_iret hX hF d_M_law_221 (by omega) (by omega) ?_
        refine ⟨?_, ?_, (((hz3.M.A (by decide)).I (by decide)).I (by decide))⟩
        · unfold opLaw; rw [if_neg hl6, he]; rfl
        unfold opLaw
        rw [if_neg hl6, he]
        have hI4 : MInv (sI (sA w3 91 g) 91 3 (nI ((gL (sG s)).length + 1))) (wFa (wTp (wG s (gAddL (sG s) cls)) []) (-1)) := by
          obtain ⟨-, i2, i3, i4, i5, i6, i7, i8, i9, i10, i11⟩ := hI3
          have e91 : rI (sI (sA w3 91 g) 91 3 (nI ((gL (sG s)).length + 1))) 91 = upd g 3 (nI ((gL (sG s)).length + 1)) := by rw [rI_sI, rI_sA]
          have ea : ∀ a, a ≠ 91 → rI (sI (sA w3 91 g) 91 3 (nI ((gL (sG s)).length + 1))) a = rI w3 a := fun a ha => by rw [rI_sI_ne _ _ _ ha, rI_sA_ne _ _ ha]
          unfold MInv
          rw [e91, ea 94 (by decide), ea 95 (by decide), ea 98 (by decide), ea 92 (by decide), ea 93 (by decide), ea 90 (by decide), ea 127 (by decide), ea 89 (by decide)]
          refine ⟨⟨?_, ?_, hW.addL (by omega)⟩, ?_, i3, i4, i5, i6, i7, i8, i9, i10, i11⟩
          · exact MRow.addL hR3 hW (fun j h1 h2 => by rw [upd_eq, if_neg h2]; exact g1 j (by omega)) (by rw [upd_eq, if_pos rfl])
          · refine MLaws.addL hL3 (fun j h1 h2 => by rw [upd_eq, if_neg (by omega)]; exact g1 j h2) ?_
            refine MLaw.of (w := w3) (c := c) (f := f) (p := p) ⟨hc1, hc2⟩ hXr h12 ?_ (fun j hj => ?_) (fun j hj => ?_)
            · show upd g 3 _ _ = _
              rw [upd_eq, if_neg (by omega)]; exact g2
            · show upd g 3 _ _ = _
              rw [upd_eq, if_neg (by omega), ← Nat.add_assoc]; exact g3 j hj
            · show upd g 3 _ _ = _ ∧ upd g 3 _ _ = _
              rw [upd_eq, upd_eq, if_neg (by omega), if_neg (by omega), ← Nat.add_assoc, ← Nat.add_assoc, ← Nat.add_assoc]
              exact g4 j hj
          · refine ⟨i2.1, i2.2.1, fun k z hz => ?_⟩
            obtain ⟨y1, y2, y3, y4⟩ := i2.2.2 k z hz
            exact ⟨y1, y2, y3, WG.addL (show WG (unsnap (sG s) z.2) from y4) (show (gL (sG s)).length < 6 by omega)⟩
        exact hI4.ok (a := nI (gL (sG s)).length)
      have lp2 : ∀ (fuel : Nat) (k : Nat) (g : Nat → Int32), c.length - k < fuel → (k ≤ c.length) → (∀ j, j < 110 + 900 * (gL (sG s)).length → g j = rI w3 91 j) → (g (110 + 900 * (gL (sG s)).length + 1) = nI cls.length) → (∀ j, j < 8 * cls.length → g (110 + 900 * (gL (sG s)).length + 2 + j) = rI w3 99 j) → (∀ j, j < k → g (110 + 900 * (gL (sG s)).length + 98 + 2 * j) = nI (cO c j) ∧ g (110 + 900 * (gL (sG s)).length + 98 + 2 * j + 1) = nI (cA c j)) → G0 E X 0 0 145 [.ref 89, .int (nI (110 + 900 * (gL (sG s)).length)), .int (nI k)] [] (sA w3 91 g) := by
        intro fuel
        induction fuel with
        | zero => intro k g q0; exact absurd q0 (Nat.not_lt_zero _)
        | succ fuel ih =>
          intro k g q0 q1 q2 q3 q4 q5
          refine g_iload2 hX d_M_law_145 ?_
          refine g_aload0 hX d_M_law_146 ?_
          refine g_getI hX d_M_law_147 fl_M_295 (lv_89 _) ?_
          refine g_topi (show rI (sA w3 91 g) 89 23 = nI c.length from hcd.1) ?_
          refine g_icmpN_ge hX d_M_law_150 (by omega) (by omega) (fun c0 => ?_) (fun c0 => ?_)
          · refine g_fget 2 ?_
            have hkc : k = c.length := by omega
            rw [hkc] at q5
            exact k199 g q2 q3 q4 q5
          · have hck := hcd.2 k (by omega)
            refine g_aload0 hX d_M_law_153 ?_
            refine g_getF hX d_M_law_154 fl_M_13 (lv_89 _) ?_
            refine g_iload1 hX d_M_law_157 ?_
            refine g_bipush (v := nI 98) hX d_M_law_158 rfl ?_
            refine g_iaddN hX d_M_law_160 ?_
            refine g_iconst (v := nI 2) hX d_M_law_161 rfl ?_
            refine g_iload2 hX d_M_law_162 ?_
            refine g_imulN hX d_M_law_163 ?_
            refine g_iaddN hX d_M_law_164 ?_
            refine g_aload0 hX d_M_law_165 ?_
            refine g_getF hX d_M_law_166 fl_M_45 (lv_89 _) ?_
            refine g_iload2 hX d_M_law_169 ?_
            refine g_iald hX d_M_law_170 (lv_100 _) rfl (by omega) ?_
            refine g_topi (show rI (sA w3 91 g) 100 k = nI (cO c k) from hck.1) ?_
            refine g_iast hX d_M_law_171 (lv_91 _) rfl (by omega) ?_
            refine g_aload0 hX d_M_law_172 ?_
            refine g_getF hX d_M_law_173 fl_M_13 (lv_89 _) ?_
            refine g_iload1 hX d_M_law_176 ?_
            refine g_bipush (v := nI 98) hX d_M_law_177 rfl ?_
            refine g_iaddN hX d_M_law_179 ?_
            refine g_iconst (v := nI 2) hX d_M_law_180 rfl ?_
            refine g_iload2 hX d_M_law_181 ?_
            refine g_imulN hX d_M_law_182 ?_
            refine g_iaddN hX d_M_law_183 ?_
            refine g_iconst (v := nI 1) hX d_M_law_184 rfl ?_
            refine g_iaddN hX d_M_law_185 ?_
            refine g_aload0 hX d_M_law_186 ?_
            refine g_getF hX d_M_law_187 fl_M_48 (lv_89 _) ?_
            refine g_iload2 hX d_M_law_190 ?_
            refine g_iald hX d_M_law_191 (lv_101 _) rfl (by omega) ?_
            refine g_topi (show rI (sI (sA w3 91 g) 91 (110 + 900 * (gL (sG s)).length + 98 + 2 * k) (nI (cO c k))) 101 k = nI (cA c k) from hck.2) ?_
            refine g_iast hX d_M_law_192 (lv_91 _) rfl (by omega) ?_
            refine g_iincN2 hX d_M_law_193 rfl (by decide) ?_
            refine g_goto hX d_M_law_196 ?_
            rw [sI_sA, sI_sA]
            refine ih (k + 1) _ (by omega) (by omega) (fun j hj => ?_) ?_ (fun j hj => ?_) (fun j hj => ?_)
            · rw [upd_eq, upd_eq, if_neg (by omega), if_neg (by omega)]; exact q2 j hj
            · rw [upd_eq, upd_eq, if_neg (by omega), if_neg (by omega)]; exact q3
            · rw [upd_eq, upd_eq, if_neg (by omega), if_neg (by omega)]; exact q4 j hj
            · rw [upd_eq, upd_eq, upd_eq, upd_eq]
              by_cases e : j = k
              · rw [e, if_neg (by omega), if_pos rfl, if_pos rfl]; exact ⟨rfl, rfl⟩
              · rw [if_neg (by omega), if_neg (by omega), if_neg (by omega), if_neg (by omega)]; exact q5 j (by omega)
      have lp1 : ∀ (fuel : Nat) (k : Nat) (g : Nat → Int32), 8 * cls.length - k < fuel → (k ≤ 8 * cls.length) → (∀ j, j < 110 + 900 * (gL (sG s)).length → g j = rI w3 91 j) → (g (110 + 900 * (gL (sG s)).length + 1) = nI cls.length) → (∀ j, j < k → g (110 + 900 * (gL (sG s)).length + 2 + j) = rI w3 99 j) → G0 E X 0 0 110 [.ref 89, .int (nI (110 + 900 * (gL (sG s)).length)), .int (nI k)] [] (sA w3 91 g) := by
        intro fuel
        induction fuel with
        | zero => intro k g q0; exact absurd q0 (Nat.not_lt_zero _)
        | succ fuel ih =>
          intro k g q0 q1 q2 q3 q4
          refine g_iload2 hX d_M_law_110 ?_
          refine g_bipush (v := nI 8) hX d_M_law_111 rfl ?_
          refine g_aload0 hX d_M_law_113 ?_
          refine g_getI hX d_M_law_114 fl_M_389 (lv_89 _) ?_
          refine g_topi (show rI (sA w3 91 g) 89 21 = nI cls.length from hc1) ?_
          refine g_imulN hX d_M_law_117 ?_
          refine g_icmpN_ge hX d_M_law_118 (by omega) (by omega) (fun c0 => ?_) (fun c0 => ?_)
          · refine g_iconst (v := nI 0) hX d_M_law_143 rfl ?_
            refine g_istore2 hX d_M_law_144 rfl (by decide) ?_
            have hkc : k = 8 * cls.length := by omega
            rw [hkc] at q4
            exact lp2 (c.length + 1) 0 g (by omega) (Nat.zero_le _) q2 q3 q4 (fun j hj => absurd hj (Nat.not_lt_zero _))
          · refine g_aload0 hX d_M_law_121 ?_
            refine g_getF hX d_M_law_122 fl_M_13 (lv_89 _) ?_
            refine g_iload1 hX d_M_law_125 ?_
            refine g_iconst (v := nI 2) hX d_M_law_126 rfl ?_
            refine g_iaddN hX d_M_law_127 ?_
            refine g_iload2 hX d_M_law_128 ?_
            refine g_iaddN hX d_M_law_129 ?_
            refine g_aload0 hX d_M_law_130 ?_
            refine g_getF hX d_M_law_131 fl_M_42 (lv_89 _) ?_
            refine g_iload2 hX d_M_law_134 ?_
            refine g_iald hX d_M_law_135 (lv_99 _) rfl (by omega) ?_
            refine g_iast hX d_M_law_136 (lv_91 _) rfl (by omega) ?_
            refine g_iincN2 hX d_M_law_137 rfl (by decide) ?_
            refine g_goto hX d_M_law_140 ?_
            rw [sI_sA]
            refine ih (k + 1) _ (by omega) (by omega) (fun j hj => ?_) ?_ (fun j hj => ?_)
            · rw [upd_eq, if_neg (by omega)]; exact q2 j hj
            · rw [upd_eq, if_neg (by omega)]; exact q3
            · rw [upd_eq]
              by_cases e : j = k
              · rw [if_pos (by omega), e]; rfl
              · rw [if_neg (by omega)]; exact q4 j (by omega)
      refine g_bipush (v := nI 110) hX d_M_law_82 rfl ?_
      refine g_sipush (v := nI 900) hX d_M_law_84 rfl ?_
      refine g_aload0 hX d_M_law_87 ?_
      refine g_getF hX d_M_law_88 fl_M_13 (lv_89 _) ?_
      refine g_iconst (v := nI 3) hX d_M_law_91 rfl ?_
      refine g_iald hX d_M_law_92 (lv_91 _) rfl (by decide) ?_
      refine g_topi hR3.l ?_
      refine g_imulN hX d_M_law_93 ?_
      refine g_iaddN hX d_M_law_94 ?_
      refine g_istore1 hX d_M_law_95 rfl (by decide) ?_
      refine g_aload0 hX d_M_law_96 ?_
      refine g_getF hX d_M_law_97 fl_M_13 (lv_89 _) ?_
      refine g_iload1 hX d_M_law_100 ?_
      refine g_iconst (v := nI 1) hX d_M_law_101 rfl ?_
      refine g_iaddN hX d_M_law_102 ?_
      refine g_aload0 hX d_M_law_103 ?_
      refine g_getI hX d_M_law_104 fl_M_389 (lv_89 _) ?_
      refine g_topi hc1 ?_
      refine g_iast hX d_M_law_107 (lv_91 _) rfl (by omega) ?_
      refine g_iconst (v := nI 0) hX d_M_law_108 rfl ?_
      refine g_istore2 hX d_M_law_109 rfl (by decide) ?_
      rw [sI_eq]
      refine lp1 (8 * cls.length + 1) 0 _ (by omega) (Nat.zero_le _) (fun j hj => ?_) ?_ (fun j hj => absurd hj (Nat.not_lt_zero _))
      · rw [upd_eq, if_neg (by omega)]
      · rw [upd_eq, if_pos rfl]
    have lp : ∀ (n : Nat) (cls : List ClT) (f p : Nat) (c : List (Nat × Nat)) (w2 : Mem), RdB w2 (sTp s) f p c → RdX false c [] f p 0 → ClsP w2 c cls → cls.length + n = 13 → cls.length ≤ 12 → lawAll cls (lawRest (sTp s) n cls.length f p) = lawT (sTp s) → FrZ w w2 → RdC w2 false → G0 E X 0 0 37 [.ref 89, un, un] [] w2 := by
      intro n
      induction n with
      | zero => intro cls f p c w2 _ _ _ h13 h12; omega
      | succ n ih =>
        intro cls f p c w2 hb hXr hcl h13 h12 hres hz hC
        refine g_aload0 hX d_M_law_37 ?_
        refine g_getZ hX d_M_law_38 fl_M_258 (lv_89 _) ?_
        refine g_topi hb.2.2.2.1 ?_
        refine g_if_ne hX d_M_law_41 (fun h => absurd (by decide) h) (fun c0 => ?_)
        refine g_aload0 hX d_M_law_44 ?_
        refine g_bipush (v := nI 59) hX d_M_law_45 rfl ?_
        refine g_callV (As := [_]) hX hF.1 d_M_law_47 ml_M_329 cf_M_isSign cv_M_isSign rfl rfl (c_M_isSign hb.1 (by decide)) (rcv_obj hX (lv_89 _) rfl rfl) (by omega) (by omega) (by omega) (Nat.le_of_ble_eq_true rfl) ?_
        refine ret_k ?_
        refine g_ifB_eq hX d_M_law_50 (fun e50 => ?_) (fun e50 => ?_)
        · unfold lawRest at hres
          rw [if_neg e50] at hres
          by_cases hs : srt (sTp s) f = 0
          · rw [if_pos hs] at hres
            have hres2 : Sum.inr (cls ++ []) = lawT (sTp s) := hres
            rw [List.append_nil] at hres2
            exact kOk w2 f p c cls hres2.symm hz hb hs hXr hcl h12
          · rw [if_neg hs] at hres
            exact kMore w2 f p c hres.symm hz hb hs
        · unfold lawRest at hres
          rw [if_pos e50] at hres
          refine g_aload0 hX d_M_law_53 ?_
          refine g_callV (As := []) hX hF.1 d_M_law_54 ml_M_262 cf_M_next cv_M_next rfl rfl (c_M_next hb.1) (rcv_obj hX (lv_89 _) rfl rfl) (by omega) (by omega) (by omega) (Nat.le_of_ble_eq_true rfl) ?_
          rintro _ w3 ⟨rfl, hf3, hT3⟩
          have hb3 := hb.tok hf3 hT3
          have hX3 := hXr.mono (Nat.le_of_lt (nxT_gt (isS_0 e50)))
          have hC3 := hC.fr hf3.R
          have hcl3 : ClsP w3 c cls := by
            unfold ClsP
            rw [hf3.1 99 (by decide), hf3.2.1 21 (by decide) (by decide) (by decide)]
            exact hcl
          show G0 _ _ _ _ _ _ _ _
          refine g_aload0 hX d_M_law_57 ?_
          refine g_callV (As := []) hX hF.1 d_M_law_58 ml_M_400 cf_M_readLaw cv_M_readLaw rfl rfl (c_M_readLaw hb3 hX3 hC3 hcl3 h12) (rcv_obj hX (lv_89 _) rfl rfl) (by omega) (by omega) (by omega) (Nat.le_of_ble_eq_true rfl) ?_
          rintro _ w4 ⟨rfl, hf4, hq⟩
          have hz4 := (hz.tr hf3.R.W.Z).tr hf4.Z
          have hC4 := hC3.W hf4
          show G0 _ _ _ _ _ _ _ _
          refine g_goto hX d_M_law_61 ?_
          cases hl : lawCl (sTp s) cls.length (nxT (sTp s) f) p with
          | inl e =>
            rw [hl] at hq
            have hq : BadB w4 (sTp s) e := hq
            rw [lawGo_bad hl] at hres
            refine g_aload0 hX d_M_law_37 ?_
            refine g_getZ hX d_M_law_38 fl_M_258 (lv_89 _) ?_
            refine g_topi hq.2.1 ?_
            refine g_if_ne hX d_M_law_41 (fun c0 => ?_) (fun h => absurd h (by decide))
            exact kBad w4 e hres.symm hz4 hq
          | inr z =>
            obtain ⟨f2, p2, q⟩ := z
            rw [hl] at hq
            obtain ⟨kd2, hR4, hX4, hcl4⟩ := hq
            rw [lawGo_ok hl] at hres
            have h12b := lawCl_12 hl
            have hlen : (cls ++ [q]).length = cls.length + 1 := by rw [List.length_append]; rfl
            rw [← hlen] at hres
            exact ih (cls ++ [q]) f2 p2 kd2 w4 hR4 hX4 hcl4 (by omega) (by omega) hres hz4 hC4
    refine g_aload0 hX d_M_law_28 ?_
    refine g_iconst (v := nI 0) hX d_M_law_29 rfl ?_
    refine g_callV (As := [_]) hX hF.1 d_M_law_30 ml_M_397 cf_M_beginText cv_M_beginText rfl rfl (c_M_beginTextL (t := sTp s) (w := sI w 89 0 (nI 0)) hT) (rcv_obj hX (lv_89 _) rfl rfl) (by omega) (by omega) (by omega) (Nat.le_of_ble_eq_true rfl) ?_
    rintro _ w1 ⟨rfl, hz1, hb1, h20, h21⟩
    have hz1 : FrZ w w1 := FrZ.tr ((FrZ.rf w).I (by decide)) hz1
    have hM1 : MConst w1 := hM.fr hz1.M
    have hC1 : RdC w1 false := ⟨h20, hM1⟩
    have hcl1 : ClsP w1 [] [] := ⟨h21, fun j q hj => by simp at hj⟩
    have hX1 : RdX false [] [] (runE (sTp s) 0 0) 0 0 := ⟨⟨⟨by decide, fun q hq => (by cases hq)⟩, Nat.zero_le _, by decide, by decide, fun q hq => (by cases hq), fun k hk => absurd hk (Nat.not_lt_zero _)⟩, fun q hq => (by cases hq)⟩
    show G0 _ _ _ _ _ _ _ _
    refine g_aload0 hX d_M_law_33 ?_
    refine g_callV (As := []) hX hF.1 d_M_law_34 ml_M_400 cf_M_readLaw cv_M_readLaw rfl rfl (c_M_readLaw hb1 hX1 hC1 hcl1 (by decide)) (rcv_obj hX (lv_89 _) rfl rfl) (by omega) (by omega) (by omega) (Nat.le_of_ble_eq_true rfl) ?_
    rintro _ w4 ⟨rfl, hf4, hq⟩
    have hz4 := hz1.tr hf4.Z
    have hC4 := hC1.W hf4
    have hq : lawQ (sTp s) [] (lawCl (sTp s) 0 (runE (sTp s) 0 0) 0) w4 := hq
    show G0 _ _ _ _ _ _ _ _
    cases hl : lawCl (sTp s) 0 (runE (sTp s) 0 0) 0 with
    | inl e =>
      rw [hl] at hq
      have hq : BadB w4 (sTp s) e := hq
      have hres : Sum.inl e = lawT (sTp s) := (lawGo_bad (n := 12) (cls := []) hl).symm.trans (by unfold lawT; cases lawGo (sTp s) 13 0 (runE (sTp s) 0 0) 0 <;> rfl)
      refine g_aload0 hX d_M_law_37 ?_
      refine g_getZ hX d_M_law_38 fl_M_258 (lv_89 _) ?_
      refine g_topi hq.2.1 ?_
      refine g_if_ne hX d_M_law_41 (fun c0 => ?_) (fun h => absurd h (by decide))
      exact kBad w4 e hres.symm hz4 hq
    | inr z =>
      obtain ⟨f2, p2, q⟩ := z
      rw [hl] at hq
      obtain ⟨kd2, hR4, hX4, hcl4⟩ := hq
      have hres : lawAll [q] (lawRest (sTp s) 12 1 f2 p2) = lawT (sTp s) := (lawGo_ok (n := 12) (cls := []) hl).symm.trans (by unfold lawT; cases lawGo (sTp s) 13 0 (runE (sTp s) 0 0) 0 <;> rfl)
      exact lp 12 [q] f2 p2 kd2 w4 hR4 hX4 hcl4 rfl (by show 1 ≤ 12; decide) hres hz4 hC4
  · have h5 : MInv (sI (sI w 89 0 (nI 0)) 89 13 (nI 0)) (wTp s []) := ⟨⟨hR, hL, hW⟩, hU, ⟨Nat.zero_le _, by rw [rI_sI, upd_eq, if_pos rfl]; rfl, fun k hk => absurd hk (Nat.not_lt_zero _)⟩, hI, hRf, hSt, hFa, hSm, hSp, hDr, hOr⟩
    refine g_aload0 hX d_M_law_16 ?_
    refine g_iconst (v := nI 0) hX d_M_law_17 rfl ?_
    refine g_putI hX d_M_law_18 fl_M_243 (lv_89 _) ?_
    refine g_aload0 hX d_M_law_21 ?_
    refine g_bipush (v := -5) hX d_M_law_22 rfl ?_
    refine g_callV (As := [_]) hX hF.1 d_M_law_24 ml_M_179 cf_M_tell cv_M_tell rfl rfl (c_M_tellN (k := 5) (by decide) (by decide)) (rcv_obj hX (lv_89 _) rfl rfl) (by omega) (by omega) (by omega) (Nat.le_of_ble_eq_true rfl) ?_
    refine ret_k ?_
    refine g_iret hX hF d_M_law_27 (by omega) (by omega) ?_
    refine ⟨?_, ?_, (by repeat (first | exact FrM.rf _ | refine FrM.I (by decide) ?_ | refine FrM.A (by decide) ?_ | refine FrM.B (by decide) ?_ | refine FrM.J9 ?_ | refine FrM.J (by decide) ?_))⟩
    · unfold opLaw; rw [if_pos e13]; rfl
    · unfold opLaw; rw [if_pos e13]; exact h5.no (by decide)
