def m_M_orders : MR := (⟨"SubgraphDeskModel", "orders", "()I"⟩, prog_14_method_128_code, 4, (some .int))
theorem cf_M_orders : CF m_M_orders 0 := ⟨gd 2185 (by decide +kernel) rfl, gd 151 (by decide +kernel) rfl, by decide +kernel, by decide, by decide +kernel⟩
theorem cv_M_orders : CV m_M_orders := ⟨gd 2183 (by decide +kernel) rfl, gd 2184 (by decide +kernel) rfl⟩
theorem d_M_orders_0 : Dc prog_14_method_128_code 0 (.aload_n 0) 1 1 := ⟨by decide +kernel, rfl⟩
theorem d_M_orders_1 : Dc prog_14_method_128_code 1 (.iconst 0) 1 2 := ⟨by decide +kernel, rfl⟩
theorem d_M_orders_2 : Dc prog_14_method_128_code 2 (.putfield 170) 3 5 := ⟨by decide +kernel, rfl⟩
theorem d_M_orders_5 : Dc prog_14_method_128_code 5 (.aload_n 0) 1 6 := ⟨by decide +kernel, rfl⟩
theorem d_M_orders_6 : Dc prog_14_method_128_code 6 (.iconst (-1)) 1 7 := ⟨by decide +kernel, rfl⟩
theorem d_M_orders_7 : Dc prog_14_method_128_code 7 (.putfield 161) 3 10 := ⟨by decide +kernel, rfl⟩
theorem d_M_orders_10 : Dc prog_14_method_128_code 10 (.aload_n 0) 1 11 := ⟨by decide +kernel, rfl⟩
theorem d_M_orders_11 : Dc prog_14_method_128_code 11 (.iconst 1) 1 12 := ⟨by decide +kernel, rfl⟩
theorem d_M_orders_12 : Dc prog_14_method_128_code 12 (.invokevirtual 397) 3 15 := ⟨by decide +kernel, rfl⟩
theorem d_M_orders_15 : Dc prog_14_method_128_code 15 (.aload_n 0) 1 16 := ⟨by decide +kernel, rfl⟩
theorem d_M_orders_16 : Dc prog_14_method_128_code 16 (.invokevirtual 586) 3 19 := ⟨by decide +kernel, rfl⟩
theorem d_M_orders_19 : Dc prog_14_method_128_code 19 (.aload_n 0) 1 20 := ⟨by decide +kernel, rfl⟩
theorem d_M_orders_20 : Dc prog_14_method_128_code 20 (.getfield 258) 3 23 := ⟨by decide +kernel, rfl⟩
theorem d_M_orders_23 : Dj prog_14_method_128_code 23 (.ifCond .ne 23) 26 23 46 := ⟨by decide +kernel, rfl, rfl⟩
theorem d_M_orders_26 : Dc prog_14_method_128_code 26 (.aload_n 0) 1 27 := ⟨by decide +kernel, rfl⟩
theorem d_M_orders_27 : Dc prog_14_method_128_code 27 (.bipush 59) 2 29 := ⟨by decide +kernel, rfl⟩
theorem d_M_orders_29 : Dc prog_14_method_128_code 29 (.invokevirtual 329) 3 32 := ⟨by decide +kernel, rfl⟩
theorem d_M_orders_32 : Dj prog_14_method_128_code 32 (.ifCond .eq 14) 35 14 46 := ⟨by decide +kernel, rfl, rfl⟩
theorem d_M_orders_35 : Dc prog_14_method_128_code 35 (.aload_n 0) 1 36 := ⟨by decide +kernel, rfl⟩
theorem d_M_orders_36 : Dc prog_14_method_128_code 36 (.invokevirtual 262) 3 39 := ⟨by decide +kernel, rfl⟩
theorem d_M_orders_39 : Dc prog_14_method_128_code 39 (.aload_n 0) 1 40 := ⟨by decide +kernel, rfl⟩
theorem d_M_orders_40 : Dc prog_14_method_128_code 40 (.invokevirtual 586) 3 43 := ⟨by decide +kernel, rfl⟩
theorem d_M_orders_43 : Dj prog_14_method_128_code 43 (.goto (-24)) 46 (-24) 19 := ⟨by decide +kernel, rfl, rfl⟩
theorem d_M_orders_46 : Dc prog_14_method_128_code 46 (.aload_n 0) 1 47 := ⟨by decide +kernel, rfl⟩
theorem d_M_orders_47 : Dc prog_14_method_128_code 47 (.invokevirtual 403) 3 50 := ⟨by decide +kernel, rfl⟩
theorem d_M_orders_50 : Dc prog_14_method_128_code 50 (.aload_n 0) 1 51 := ⟨by decide +kernel, rfl⟩
theorem d_M_orders_51 : Dc prog_14_method_128_code 51 (.getfield 258) 3 54 := ⟨by decide +kernel, rfl⟩
theorem d_M_orders_54 : Dj prog_14_method_128_code 54 (.ifCond .eq 10) 57 10 64 := ⟨by decide +kernel, rfl, rfl⟩
theorem d_M_orders_57 : Dc prog_14_method_128_code 57 (.aload_n 0) 1 58 := ⟨by decide +kernel, rfl⟩
theorem d_M_orders_58 : Dc prog_14_method_128_code 58 (.bipush (-6)) 2 60 := ⟨by decide +kernel, rfl⟩
theorem d_M_orders_60 : Dc prog_14_method_128_code 60 (.invokevirtual 179) 3 63 := ⟨by decide +kernel, rfl⟩
theorem d_M_orders_63 : Dc prog_14_method_128_code 63 (.ireturn) 1 64 := ⟨by decide +kernel, rfl⟩
theorem d_M_orders_64 : Dc prog_14_method_128_code 64 (.aload_n 0) 1 65 := ⟨by decide +kernel, rfl⟩
theorem d_M_orders_65 : Dc prog_14_method_128_code 65 (.bipush 17) 2 67 := ⟨by decide +kernel, rfl⟩
theorem d_M_orders_67 : Dc prog_14_method_128_code 67 (.invokevirtual 183) 3 70 := ⟨by decide +kernel, rfl⟩
theorem d_M_orders_70 : Dc prog_14_method_128_code 70 (.aload_n 0) 1 71 := ⟨by decide +kernel, rfl⟩
theorem d_M_orders_71 : Dc prog_14_method_128_code 71 (.getfield 176) 3 74 := ⟨by decide +kernel, rfl⟩
theorem d_M_orders_74 : Dc prog_14_method_128_code 74 (.istore_n 1) 1 75 := ⟨by decide +kernel, rfl⟩
theorem d_M_orders_75 : Dc prog_14_method_128_code 75 (.iconst 0) 1 76 := ⟨by decide +kernel, rfl⟩
theorem d_M_orders_76 : Dc prog_14_method_128_code 76 (.istore_n 2) 1 77 := ⟨by decide +kernel, rfl⟩
theorem d_M_orders_77 : Dc prog_14_method_128_code 77 (.iload_n 2) 1 78 := ⟨by decide +kernel, rfl⟩
theorem d_M_orders_78 : Dc prog_14_method_128_code 78 (.sipush 1472) 3 81 := ⟨by decide +kernel, rfl⟩
theorem d_M_orders_81 : Dj prog_14_method_128_code 81 (.if_icmp .ge 21) 84 21 102 := ⟨by decide +kernel, rfl, rfl⟩
theorem d_M_orders_84 : Dc prog_14_method_128_code 84 (.aload_n 0) 1 85 := ⟨by decide +kernel, rfl⟩
theorem d_M_orders_85 : Dc prog_14_method_128_code 85 (.getfield 29) 3 88 := ⟨by decide +kernel, rfl⟩
theorem d_M_orders_88 : Dc prog_14_method_128_code 88 (.iload_n 2) 1 89 := ⟨by decide +kernel, rfl⟩
theorem d_M_orders_89 : Dc prog_14_method_128_code 89 (.aload_n 0) 1 90 := ⟨by decide +kernel, rfl⟩
theorem d_M_orders_90 : Dc prog_14_method_128_code 90 (.getfield 23) 3 93 := ⟨by decide +kernel, rfl⟩
theorem d_M_orders_93 : Dc prog_14_method_128_code 93 (.iload_n 2) 1 94 := ⟨by decide +kernel, rfl⟩
theorem d_M_orders_94 : Dc prog_14_method_128_code 94 (.iaload) 1 95 := ⟨by decide +kernel, rfl⟩
theorem d_M_orders_95 : Dc prog_14_method_128_code 95 (.iastore) 1 96 := ⟨by decide +kernel, rfl⟩
theorem d_M_orders_96 : Dc prog_14_method_128_code 96 (.iinc 2 1) 3 99 := ⟨by decide +kernel, rfl⟩
theorem d_M_orders_99 : Dj prog_14_method_128_code 99 (.goto (-22)) 102 (-22) 77 := ⟨by decide +kernel, rfl, rfl⟩
theorem d_M_orders_102 : Dc prog_14_method_128_code 102 (.iconst 0) 1 103 := ⟨by decide +kernel, rfl⟩
theorem d_M_orders_103 : Dc prog_14_method_128_code 103 (.istore_n 2) 1 104 := ⟨by decide +kernel, rfl⟩
theorem d_M_orders_104 : Dc prog_14_method_128_code 104 (.iload_n 2) 1 105 := ⟨by decide +kernel, rfl⟩
theorem d_M_orders_105 : Dc prog_14_method_128_code 105 (.bipush 16) 2 107 := ⟨by decide +kernel, rfl⟩
theorem d_M_orders_107 : Dj prog_14_method_128_code 107 (.if_icmp .ge 21) 110 21 128 := ⟨by decide +kernel, rfl, rfl⟩
theorem d_M_orders_110 : Dc prog_14_method_128_code 110 (.aload_n 0) 1 111 := ⟨by decide +kernel, rfl⟩
theorem d_M_orders_111 : Dc prog_14_method_128_code 111 (.getfield 32) 3 114 := ⟨by decide +kernel, rfl⟩
theorem d_M_orders_114 : Dc prog_14_method_128_code 114 (.iload_n 2) 1 115 := ⟨by decide +kernel, rfl⟩
theorem d_M_orders_115 : Dc prog_14_method_128_code 115 (.aload_n 0) 1 116 := ⟨by decide +kernel, rfl⟩
theorem d_M_orders_116 : Dc prog_14_method_128_code 116 (.getfield 26) 3 119 := ⟨by decide +kernel, rfl⟩
theorem d_M_orders_119 : Dc prog_14_method_128_code 119 (.iload_n 2) 1 120 := ⟨by decide +kernel, rfl⟩
theorem d_M_orders_120 : Dc prog_14_method_128_code 120 (.iaload) 1 121 := ⟨by decide +kernel, rfl⟩
theorem d_M_orders_121 : Dc prog_14_method_128_code 121 (.iastore) 1 122 := ⟨by decide +kernel, rfl⟩
theorem d_M_orders_122 : Dc prog_14_method_128_code 122 (.iinc 2 1) 3 125 := ⟨by decide +kernel, rfl⟩
theorem d_M_orders_125 : Dj prog_14_method_128_code 125 (.goto (-21)) 128 (-21) 104 := ⟨by decide +kernel, rfl, rfl⟩
theorem d_M_orders_128 : Dc prog_14_method_128_code 128 (.aload_n 0) 1 129 := ⟨by decide +kernel, rfl⟩
theorem d_M_orders_129 : Dc prog_14_method_128_code 129 (.iconst 0) 1 130 := ⟨by decide +kernel, rfl⟩
theorem d_M_orders_130 : Dc prog_14_method_128_code 130 (.putfield 574) 3 133 := ⟨by decide +kernel, rfl⟩
theorem d_M_orders_133 : Dc prog_14_method_128_code 133 (.aload_n 0) 1 134 := ⟨by decide +kernel, rfl⟩
theorem d_M_orders_134 : Dc prog_14_method_128_code 134 (.iconst (-1)) 1 135 := ⟨by decide +kernel, rfl⟩
theorem d_M_orders_135 : Dc prog_14_method_128_code 135 (.putfield 577) 3 138 := ⟨by decide +kernel, rfl⟩
theorem d_M_orders_138 : Dc prog_14_method_128_code 138 (.iconst 0) 1 139 := ⟨by decide +kernel, rfl⟩
theorem d_M_orders_139 : Dc prog_14_method_128_code 139 (.istore_n 2) 1 140 := ⟨by decide +kernel, rfl⟩
theorem d_M_orders_140 : Dc prog_14_method_128_code 140 (.iload_n 2) 1 141 := ⟨by decide +kernel, rfl⟩
theorem d_M_orders_141 : Dc prog_14_method_128_code 141 (.aload_n 0) 1 142 := ⟨by decide +kernel, rfl⟩
theorem d_M_orders_142 : Dc prog_14_method_128_code 142 (.getfield 389) 3 145 := ⟨by decide +kernel, rfl⟩
theorem d_M_orders_145 : Dj prog_14_method_128_code 145 (.if_icmp .ge 61) 148 61 206 := ⟨by decide +kernel, rfl, rfl⟩
theorem d_M_orders_148 : Dc prog_14_method_128_code 148 (.iconst 0) 1 149 := ⟨by decide +kernel, rfl⟩
theorem d_M_orders_149 : Dc prog_14_method_128_code 149 (.istore_n 3) 1 150 := ⟨by decide +kernel, rfl⟩
theorem d_M_orders_150 : Dc prog_14_method_128_code 150 (.iload_n 3) 1 151 := ⟨by decide +kernel, rfl⟩
theorem d_M_orders_151 : Dc prog_14_method_128_code 151 (.aload_n 0) 1 152 := ⟨by decide +kernel, rfl⟩
theorem d_M_orders_152 : Dc prog_14_method_128_code 152 (.getfield 158) 3 155 := ⟨by decide +kernel, rfl⟩
theorem d_M_orders_155 : Dc prog_14_method_128_code 155 (.bipush 8) 2 157 := ⟨by decide +kernel, rfl⟩
theorem d_M_orders_157 : Dc prog_14_method_128_code 157 (.iload_n 2) 1 158 := ⟨by decide +kernel, rfl⟩
theorem d_M_orders_158 : Dc prog_14_method_128_code 158 (.imul) 1 159 := ⟨by decide +kernel, rfl⟩
theorem d_M_orders_159 : Dc prog_14_method_128_code 159 (.bipush 7) 2 161 := ⟨by decide +kernel, rfl⟩
theorem d_M_orders_161 : Dc prog_14_method_128_code 161 (.iadd) 1 162 := ⟨by decide +kernel, rfl⟩
theorem d_M_orders_162 : Dc prog_14_method_128_code 162 (.iaload) 1 163 := ⟨by decide +kernel, rfl⟩
theorem d_M_orders_163 : Dj prog_14_method_128_code 163 (.if_icmp .ge 37) 166 37 200 := ⟨by decide +kernel, rfl, rfl⟩
theorem d_M_orders_166 : Dc prog_14_method_128_code 166 (.aload_n 0) 1 167 := ⟨by decide +kernel, rfl⟩
theorem d_M_orders_167 : Dc prog_14_method_128_code 167 (.bipush 8) 2 169 := ⟨by decide +kernel, rfl⟩
theorem d_M_orders_169 : Dc prog_14_method_128_code 169 (.iload_n 2) 1 170 := ⟨by decide +kernel, rfl⟩
theorem d_M_orders_170 : Dc prog_14_method_128_code 170 (.imul) 1 171 := ⟨by decide +kernel, rfl⟩
theorem d_M_orders_171 : Dc prog_14_method_128_code 171 (.invokevirtual 589) 3 174 := ⟨by decide +kernel, rfl⟩
theorem d_M_orders_174 : Dj prog_14_method_128_code 174 (.ifCond .ge 20) 177 20 194 := ⟨by decide +kernel, rfl, rfl⟩
theorem d_M_orders_177 : Dc prog_14_method_128_code 177 (.aload_n 0) 1 178 := ⟨by decide +kernel, rfl⟩
theorem d_M_orders_178 : Dc prog_14_method_128_code 178 (.iload_n 1) 1 179 := ⟨by decide +kernel, rfl⟩
theorem d_M_orders_179 : Dc prog_14_method_128_code 179 (.invokevirtual 592) 3 182 := ⟨by decide +kernel, rfl⟩
theorem d_M_orders_182 : Dc prog_14_method_128_code 182 (.aload_n 0) 1 183 := ⟨by decide +kernel, rfl⟩
theorem d_M_orders_183 : Dc prog_14_method_128_code 183 (.iload_n 2) 1 184 := ⟨by decide +kernel, rfl⟩
theorem d_M_orders_184 : Dc prog_14_method_128_code 184 (.putfield 161) 3 187 := ⟨by decide +kernel, rfl⟩
theorem d_M_orders_187 : Dc prog_14_method_128_code 187 (.aload_n 0) 1 188 := ⟨by decide +kernel, rfl⟩
theorem d_M_orders_188 : Dc prog_14_method_128_code 188 (.bipush (-3)) 2 190 := ⟨by decide +kernel, rfl⟩
theorem d_M_orders_190 : Dc prog_14_method_128_code 190 (.invokevirtual 179) 3 193 := ⟨by decide +kernel, rfl⟩
theorem d_M_orders_193 : Dc prog_14_method_128_code 193 (.ireturn) 1 194 := ⟨by decide +kernel, rfl⟩
theorem d_M_orders_194 : Dc prog_14_method_128_code 194 (.iinc 3 1) 3 197 := ⟨by decide +kernel, rfl⟩
theorem d_M_orders_197 : Dj prog_14_method_128_code 197 (.goto (-47)) 200 (-47) 150 := ⟨by decide +kernel, rfl, rfl⟩
theorem d_M_orders_200 : Dc prog_14_method_128_code 200 (.iinc 2 1) 3 203 := ⟨by decide +kernel, rfl⟩
theorem d_M_orders_203 : Dj prog_14_method_128_code 203 (.goto (-63)) 206 (-63) 140 := ⟨by decide +kernel, rfl, rfl⟩
theorem d_M_orders_206 : Dc prog_14_method_128_code 206 (.aload_n 0) 1 207 := ⟨by decide +kernel, rfl⟩
theorem d_M_orders_207 : Dc prog_14_method_128_code 207 (.aload_n 0) 1 208 := ⟨by decide +kernel, rfl⟩
theorem d_M_orders_208 : Dc prog_14_method_128_code 208 (.getfield 574) 3 211 := ⟨by decide +kernel, rfl⟩
theorem d_M_orders_211 : Dc prog_14_method_128_code 211 (.invokevirtual 179) 3 214 := ⟨by decide +kernel, rfl⟩
theorem d_M_orders_214 : Dc prog_14_method_128_code 214 (.ireturn) 1 215 := ⟨by decide +kernel, rfl⟩
theorem ml_M_586 : Cond.methodLink "SubgraphDeskModel" 586 m_M_readOrder.1 ∈ lw_gd := gd 2186 (by decide +kernel) rfl
theorem ml_M_589 : Cond.methodLink "SubgraphDeskModel" 589 m_M_run.1 ∈ lw_gd := gd 2197 (by decide +kernel) rfl
theorem ml_M_592 : Cond.methodLink "SubgraphDeskModel" 592 m_M_giveBack.1 ∈ lw_gd := gd 2209 (by decide +kernel) rfl
theorem MInv.spI {w : Mem} {s : SG} {x : Int32} (h : MInv w s) : MInv (sI w 89 64 x) (wSp s x) := by
  obtain ⟨h1, h2, h3, h4, h5, h6, h7, h8, h9, h10, h11⟩ := h
  have e : ∀ k, k ≠ 64 → rI (sI w 89 64 x) 89 k = rI w 89 k := fun k hk => by rw [rI_sI, upd_eq, if_neg hk]
  have e2 : ∀ a, a ≠ 89 → rI (sI w 89 64 x) a = rI w a := fun a ha => rI_sI_ne _ _ _ ha
  unfold MInv
  rw [e 8 (by decide), e 13 (by decide), e 1 (by decide), e 18 (by decide), e 11 (by decide), e 68 (by decide), e 20 (by decide), e2 91 (by decide), e2 94 (by decide), e2 95 (by decide), e2 98 (by decide), e2 92 (by decide), e2 93 (by decide), e2 90 (by decide), e2 127 (by decide)]
  exact ⟨h1, h2, h3, h4, h5, h6, h7, h8, by rw [rI_sI, upd_eq, if_pos rfl]; rfl, h10, h11⟩
theorem MInv.thrI {w : Mem} {s : SG} {x : Int32} (h : MInv w s) : MInv (sI w 89 0 x) s := h
theorem FrX.M {w w2 : Mem} (h : FrX w w2) : FrM w w2 := ⟨fun a ha => h.1 a (by omega) (by omega) (by omega) (by omega) (by omega), fun a ha => h.2.2.1 a (by omega) (by omega), h.2.2.2.1⟩
theorem FrM.gvB {w w2 : Mem} {k : Nat} (h : FrM w w2) : FrM w (GvB w2 k) := (((h.A (by decide)).A (by decide)).A (by decide)).I (by decide)
def PrA (w : Mem) : Mem := sA w 94 (va_cpy (rI w 91) (rI w 94) 6 1564 92)
def PrB (w : Mem) : Mem := sA (PrA w) 96 (va_cpy (rI (PrA w) 94) (rI (PrA w) 96) 0 0 1472)
def PrC (w : Mem) : Mem := sA (PrB w) 97 (va_cpy (rI (PrB w) 95) (rI (PrB w) 97) 0 0 16)
/-- the world when the orders begin to run -/
def PrW (w : Mem) : Mem := sI (sI (PrC w) 89 62 (nI 0)) 89 63 (-1)
theorem PrC_ne (w : Mem) {a : Nat} (h1 : a ≠ 94) (h2 : a ≠ 96) (h3 : a ≠ 97) : rI (PrC w) a = rI w a := by
  unfold PrC PrB PrA
  rw [rI_sA_ne _ _ h3, rI_sA_ne _ _ h2, rI_sA_ne _ _ h1]
theorem PrW_ne (w : Mem) {a : Nat} (h0 : a ≠ 89) (h1 : a ≠ 94) (h2 : a ≠ 96) (h3 : a ≠ 97) : rI (PrW w) a = rI w a := by
  unfold PrW
  rw [rI_sI_ne _ _ _ h0, rI_sI_ne _ _ _ h0, PrC_ne w h1 h2 h3]
theorem PrW_9 (w : Mem) {k : Nat} (h1 : k ≠ 62) (h2 : k ≠ 63) : rI (PrW w) 89 k = rI w 89 k := by
  unfold PrW
  rw [rI_sI, upd_eq, if_neg h2, rI_sI, upd_eq, if_neg h1, PrC_ne w (by decide) (by decide) (by decide)]
theorem PrW_94 (w : Mem) : rI (PrW w) 94 = va_cpy (rI w 91) (rI w 94) 6 1564 92 := by
  unfold PrW
  rw [rI_sI_ne _ _ _ (by decide), rI_sI_ne _ _ _ (by decide)]
  unfold PrC PrB PrA
  rw [rI_sA_ne _ _ (by decide), rI_sA_ne _ _ (by decide), rI_sA]
theorem PrW_M (w : Mem) : FrM w (PrW w) := (((((FrM.rf w).A (by decide)).A (by decide)).A (by decide)).I (by decide)).I (by decide)
theorem PrW_keep (w : Mem) : KeepP w (PrW w) := by
  refine ⟨fun i hi => ?_, fun i hi => ?_, fun i hi => ?_⟩
  · rw [PrW_94]
    unfold va_cpy
    rw [if_pos (by omega), Nat.add_sub_cancel_left]
  · have e : rI (PrW w) 96 = va_cpy (rI (PrA w) 94) (rI (PrA w) 96) 0 0 1472 := by
      unfold PrW
      rw [rI_sI_ne _ _ _ (by decide), rI_sI_ne _ _ _ (by decide)]
      unfold PrC PrB
      rw [rI_sA_ne _ _ (by decide), rI_sA]
    rw [e]
    unfold va_cpy
    rw [if_pos (by omega), Nat.zero_add, Nat.sub_zero]
    unfold PrA
    rw [rI_sA]
    unfold va_cpy
    rw [if_neg (by omega)]
  · have e : rI (PrW w) 97 = va_cpy (rI (PrB w) 95) (rI (PrB w) 97) 0 0 16 := by
      unfold PrW
      rw [rI_sI_ne _ _ _ (by decide), rI_sI_ne _ _ _ (by decide)]
      unfold PrC
      rw [rI_sA]
    rw [e]
    unfold va_cpy
    rw [if_pos (by omega), Nat.zero_add, Nat.sub_zero]
    unfold PrB PrA
    rw [rI_sA_ne _ _ (by decide), rI_sA_ne _ _ (by decide)]
theorem PrW_inv {w : Mem} {s : SG} (h : MInv w s) : MInv (PrW w) s := by
  obtain ⟨⟨hR, hL, hW⟩, h2, h3, h4, h5, h6, h7, h8, h9, h10, h11⟩ := h
  unfold MInv
  rw [PrW_94, PrW_ne w (a := 91) (by decide) (by decide) (by decide) (by decide), PrW_ne w (a := 95) (by decide) (by decide) (by decide) (by decide), PrW_ne w (a := 98) (by decide) (by decide) (by decide) (by decide), PrW_ne w (a := 92) (by decide) (by decide) (by decide) (by decide), PrW_ne w (a := 93) (by decide) (by decide) (by decide) (by decide), PrW_ne w (a := 90) (by decide) (by decide) (by decide) (by decide), PrW_ne w (a := 127) (by decide) (by decide) (by decide) (by decide), PrW_9 w (k := 8) (by decide) (by decide), PrW_9 w (k := 13) (by decide) (by decide), PrW_9 w (k := 1) (by decide) (by decide), PrW_9 w (k := 18) (by decide) (by decide), PrW_9 w (k := 11) (by decide) (by decide), PrW_9 w (k := 64) (by decide) (by decide), PrW_9 w (k := 68) (by decide) (by decide), PrW_9 w (k := 20) (by decide) (by decide)]
  exact ⟨⟨hR, hL, hW⟩, h2.congO hW.n hW.v (fun i hi => by unfold va_cpy; rw [if_neg (by omega)]) (fun i _ => rfl), h3, h4, h5, h6, h7, h8, h9, h10, h11⟩
theorem PrW_run {w : Mem} {s : SG} (h : MInv w s) : RnP (PrW w) (sG s, sU s, 0, -1) := by
  have h2 := PrW_inv h
  refine ⟨⟨h2.1.1, h2.1.2.1, h2.1.2.2, h2.2.1⟩, ?_, ?_, ?_⟩
  · unfold PrW
    rw [rI_sI, upd_eq, if_neg (by decide), rI_sI, upd_eq, if_pos rfl]
  · unfold PrW
    rw [rI_sI, upd_eq, if_pos rfl]
  · rw [PrW_9 w (by decide) (by decide)]
    exact h.2.2.2.2.2.2.2.2.2.2
theorem PrW_code {w : Mem} {c : List (Nat × Nat)} (h : CodeP w c) : CodeP (PrW w) c := by
  unfold CodeP
  rw [PrW_9 w (by decide) (by decide), PrW_ne w (a := 100) (by decide) (by decide) (by decide) (by decide), PrW_ne w (a := 101) (by decide) (by decide) (by decide) (by decide)]
  exact h
theorem PrW_cls {w : Mem} {c : List (Nat × Nat)} {cls : List OcT} (h : OcsP w c cls) : OcsP (PrW w) c cls := by
  unfold OcsP
  rw [PrW_9 w (by decide) (by decide), PrW_ne w (a := 126) (by decide) (by decide) (by decide) (by decide)]
  exact h
theorem RnR.ex {s : RSt} {z : Option RSt} {r : Option Value} {w2 : Mem} (h : RnR s z r w2) : ∃ x, r = some (.int x) ∧ ((x = -3 ∧ z = none ∧ MGU w2 s.1 s.2.1 ∧ rI w2 89 20 = nI 0) ∨ (x = nI 0 ∧ ∃ s2, z = some s2 ∧ RnP w2 s2)) := by
  cases z with
  | none => exact ⟨-3, h.1, Or.inl ⟨rfl, rfl, h.2.1, h.2.2⟩⟩
  | some s2 => exact ⟨nI 0, h.1, Or.inr ⟨rfl, s2, rfl, h.2⟩⟩
theorem OcE.tm {h : Nat → Int32} {c : List (Nat × Nat)} {k : Nat} {q : OcT} (hq : OcE h c k q) : h (k + 7) = nI q.2.2.2.1 ∧ q.2.2.2.1 ≤ 20 := ⟨hq.2.2.1, hq.2.2.2.1⟩
theorem c_M_orders {E : EV} {w : Mem} {s : SG} (h : MInv w s) (hM : MConst w) : T E m_M_orders 9 0 0 [.ref 89] w (fun r w2 => r = some (.int (opOrders s).1) ∧ MInv w2 (opOrders s).2 ∧ FrM w w2) := by
  refine T_of (L := [.ref 89, un, un, un]) cf_M_orders rfl (Nat.le_of_ble_eq_true rfl) (fun X hX hF => ?_)
  refine g_aload0 hX d_M_orders_0 ?_
  refine g_iconst (v := nI 0) hX d_M_orders_1 rfl ?_
  refine g_putI hX d_M_orders_2 fl_M_170 (lv_89 _) ?_
  refine g_aload0 hX d_M_orders_5 ?_
  refine g_iconst (v := -1) hX d_M_orders_6 rfl ?_
  refine g_putI hX d_M_orders_7 fl_M_161 (lv_89 _) ?_
  obtain ⟨w0, hw0⟩ : ∃ w0, sI (sI w 89 0 (nI 0)) 89 64 (-1) = w0 := ⟨_, rfl⟩
  obtain ⟨s1, hs1⟩ : ∃ s1, wSp s (-1) = s1 := ⟨_, rfl⟩
  have hop : opOrders s = ordersA s1 := by unfold opOrders; rw [hs1]
  have h0 : MInv w0 s1 := by rw [← hw0, ← hs1]; exact h.thrI.spI
  have hfm : FrM w w0 := by rw [← hw0]; exact ((FrM.rf w).I (by decide)).I (by decide)
  have hT0 : MTape (rI w0 98) (rI w0 89 13) (sTp s1) := h0.2.2.1
  refine g_mem hw0 ?_
  have kBad : ∀ (w2 : Mem) (e : Nat), ordT (sTp s1) = .inl e → FrZ w0 w2 → BadB w2 (sTp s1) e → G0 E X 0 0 46 [.ref 89, un, un, un] [] w2 := by
    intro w2 e he hz hb
    have hI := h0.txt hz hb.2.2.1
    refine g_aload0 hX d_M_orders_46 ?_
    refine g_callV (As := []) hX hF.1 d_M_orders_47 ml_M_403 cf_M_endText cv_M_endText rfl rfl (c_M_endTextB hb.2.1) (rcv_obj hX (lv_89 _) rfl rfl) (by omega) (by omega) (by omega) (Nat.le_of_ble_eq_true rfl) ?_
    refine ret_k ?_
    refine g_aload0 hX d_M_orders_50 ?_
    refine g_getZ hX d_M_orders_51 fl_M_258 (lv_89 _) ?_
    refine g_topi (show rI (sI (sI w2 89 20 (nI 0)) 89 13 (nI 0)) 89 19 = nI 1 by rw [rI_sI, upd_eq, if_neg (by decide), rI_sI, upd_eq, if_neg (by decide)]; exact hb.2.1) ?_
    refine g_if_eq hX d_M_orders_54 (fun h => absurd h (by decide)) (fun c0 => ?_)
    refine g_aload0 hX d_M_orders_57 ?_
    refine g_bipush (v := -6) hX d_M_orders_58 rfl ?_
    refine g_callV (As := [_]) hX hF.1 d_M_orders_60 ml_M_179 cf_M_tell cv_M_tell rfl rfl (c_M_tellN (k := 6) (by decide) (by decide)) (rcv_obj hX (lv_89 _) rfl rfl) (by omega) (by omega) (by omega) (Nat.le_of_ble_eq_true rfl) ?_
    refine ret_k ?_
    refine g_iret hX hF d_M_orders_63 (by omega) (by omega) ?_
    refine ⟨?_, ?_, hfm.tr (((((hz.I (by decide)).I (by decide)).M).I (by decide)).I (by decide))⟩
    · rw [hop]; unfold ordersA; rw [he]; rfl
    · rw [hop]; unfold ordersA; rw [he]; exact hI.no (by decide)
  have kMore : ∀ (w2 : Mem) (f p : Nat) (c : List (Nat × Nat)), ordT (sTp s1) = .inl f → FrZ w0 w2 → RdB w2 (sTp s1) f p c → srt (sTp s1) f ≠ 0 → G0 E X 0 0 46 [.ref 89, un, un, un] [] w2 := by
    intro w2 f p c he hz hb hs
    have hI := h0.txt (w2 := sI (sI w2 89 19 (nI 1)) 89 18 (nI f)) (x := nI f) ((hz.I (by decide)).I (by decide)) (by rw [rI_sI, upd_eq, if_pos rfl])
    refine g_aload0 hX d_M_orders_46 ?_
    refine g_callV (As := []) hX hF.1 d_M_orders_47 ml_M_403 cf_M_endText cv_M_endText rfl rfl (c_M_endTextN (f := f) (m := srt (sTp s1) f) hb.2.2.2.1 hb.1.2.2.2.1 hs (srt_le _ _) hb.1.2.1) (rcv_obj hX (lv_89 _) rfl rfl) (by omega) (by omega) (by omega) (Nat.le_of_ble_eq_true rfl) ?_
    refine ret_k ?_
    refine g_aload0 hX d_M_orders_50 ?_
    refine g_getZ hX d_M_orders_51 fl_M_258 (lv_89 _) ?_
    refine g_topi (show rI (sI (sI (sI (sI w2 89 19 (nI 1)) 89 18 (nI f)) 89 20 (nI 0)) 89 13 (nI 0)) 89 19 = nI 1 by rw [rI_sI, upd_eq, if_neg (by decide), rI_sI, upd_eq, if_neg (by decide), rI_sI, upd_eq, if_neg (by decide), rI_sI, upd_eq, if_pos rfl]) ?_
    refine g_if_eq hX d_M_orders_54 (fun h => absurd h (by decide)) (fun c0 => ?_)
    refine g_aload0 hX d_M_orders_57 ?_
    refine g_bipush (v := -6) hX d_M_orders_58 rfl ?_
    refine g_callV (As := [_]) hX hF.1 d_M_orders_60 ml_M_179 cf_M_tell cv_M_tell rfl rfl (c_M_tellN (k := 6) (by decide) (by decide)) (rcv_obj hX (lv_89 _) rfl rfl) (by omega) (by omega) (by omega) (Nat.le_of_ble_eq_true rfl) ?_
    refine ret_k ?_
    refine g_iret hX hF d_M_orders_63 (by omega) (by omega) ?_
    refine ⟨?_, ?_, hfm.tr (((((((hz.I (by decide)).I (by decide)).I (by decide)).I (by decide)).M).I (by decide)).I (by decide))⟩
    · rw [hop]; unfold ordersA; rw [he]; rfl
    · rw [hop]; unfold ordersA; rw [he]; exact hI.no (by decide)
  have kOk : ∀ (w2 : Mem) (f p : Nat) (c : List (Nat × Nat)) (cls : List OcT), ordT (sTp s1) = .inr cls → FrZ w0 w2 → RdB w2 (sTp s1) f p c → srt (sTp s1) f = 0 → RdX true c [] f p 0 → OcsP w2 c cls → cls.length ≤ 12 → G0 E X 0 0 46 [.ref 89, un, un, un] [] w2 := by
    intro w2 f p c cls he hz hb hs hXr hcl h12
    have hI := h0.txt hz hb.2.2.2.2
    have hz' : FrZ w0 (sI (sI w2 89 20 (nI 0)) 89 13 (nI 0)) := (hz.I (by decide)).I (by decide)
    have hcd' := (hb.2.2.1.o (o := 89) (k := 20) (x := nI 0) (by decide) (by decide) (Or.inr (by decide))).o (o := 89) (k := 13) (x := nI 0) (by decide) (by decide) (Or.inr (by decide))
    have hcl' : OcsP (sI (sI w2 89 20 (nI 0)) 89 13 (nI 0)) c cls := by
      refine ⟨?_, hcl.2⟩
      rw [rI_sI, upd_eq, if_neg (by decide), rI_sI, upd_eq, if_neg (by decide)]
      exact hcl.1
    refine g_aload0 hX d_M_orders_46 ?_
    refine g_callV (As := []) hX hF.1 d_M_orders_47 ml_M_403 cf_M_endText cv_M_endText rfl rfl (c_M_endTextY hb.2.2.2.1 (by rw [hb.1.2.2.2.1, hs])) (rcv_obj hX (lv_89 _) rfl rfl) (by omega) (by omega) (by omega) (Nat.le_of_ble_eq_true rfl) ?_
    refine ret_k ?_
    refine g_aload0 hX d_M_orders_50 ?_
    refine g_getZ hX d_M_orders_51 fl_M_258 (lv_89 _) ?_
    refine g_topi (show rI (sI (sI w2 89 20 (nI 0)) 89 13 (nI 0)) 89 19 = nI 0 by rw [rI_sI, upd_eq, if_neg (by decide), rI_sI, upd_eq, if_neg (by decide)]; exact hb.2.2.2.1) ?_
    refine g_if_eq hX d_M_orders_54 (fun c0 => ?_) (fun h => absurd (by decide) h)
    obtain ⟨w3, hw3⟩ : ∃ w3, (sI (sI w2 89 20 (nI 0)) 89 13 (nI 0)) = w3 := ⟨_, rfl⟩
    rw [hw3] at hI hz' hcd' hcl'
    refine g_mem hw3 ?_
    have hI3 := hI
    have hz3 := hz'
    have hcd := hcd'
    have hcl3 := hcl'
    obtain ⟨s3, hs3⟩ : ∃ s3, (wFa (wTp s1 []) (-1)) = s3 := ⟨_, rfl⟩
    rw [hs3] at hI3
    have hRun0 : RnP (PrW w3) (sG s1, sU s1, 0, -1) := by
      have := PrW_run hI3
      rw [← hs3] at this
      exact this
    have hU3 : MUndo (rI w3 94) (rI w3 95) (rI w3 89 8) (sG s1) (sU s1) := hI.2.1
    have lpO : ∀ (fuel : Nat) (i : Nat) (v3 : Value) (st : RSt) (wk : Mem), cls.length - i < fuel → (i ≤ cls.length) → (FrX (PrW w3) wk) → (RnP wk st) → (tlS st.2.2.2) → (st.2.2.1 ≤ 20 * i) → (SameK (sG s1) st.1) → (runsR (cls.drop i) i st = (runsR cls 0 (sG s1, sU s1, 0, -1))) → G0 E X 0 0 140 [.ref 89, .int (nI (sU s1).length), .int (nI i), v3] [] wk := by
      intro fuel
      induction fuel with
      | zero => intro i v3 st wk q0; exact absurd q0 (Nat.not_lt_zero _)
      | succ fuel ih =>
        intro i v3 st wk q0 q1 q2 q3 q4 q5 q6 q7
        refine g_iload2 hX d_M_orders_140 ?_
        refine g_aload0 hX d_M_orders_141 ?_
        refine g_getI hX d_M_orders_142 fl_M_389 (lv_89 _) ?_
        refine g_topi (show rI wk 89 21 = nI cls.length by rw [q2.2.1 21 (by decide)]; exact (PrW_cls hcl3).1) ?_
        refine g_icmpN_ge hX d_M_orders_145 (by omega) (by omega) (fun e145 => ?_) (fun e145 => ?_)
        · have hRs : (.inr st : Nat ⊕ RSt) = (runsR cls 0 (sG s1, sU s1, 0, -1)) := by
            rw [← q7, List.drop_of_length_le e145]
            rfl
          have hA : ordersA s1 = sOk (nI st.2.2.1) (wU (wG s3 st.1) st.2.1) := by
            unfold ordersA
            rw [he, hs3]
            show (match (runsR cls 0 (sG s1, sU s1, 0, -1)) with | .inl k => _ | .inr z => _) = _
            rw [← hRs]
          have hIe : MInv wk (wU (wG s3 st.1) st.2.1) := (PrW_inv hI3).runs q2 q3.1 q3.2.2.2
          refine g_aload0 hX d_M_orders_206 ?_
          refine g_aload0 hX d_M_orders_207 ?_
          refine g_getI hX d_M_orders_208 fl_M_574 (lv_89 _) ?_
          refine g_topi q3.2.1 ?_
          refine g_callV (As := [_]) hX hF.1 d_M_orders_211 ml_M_179 cf_M_tell cv_M_tell rfl rfl (c_M_tell (by omega)) (rcv_obj hX (lv_89 _) rfl rfl) (by omega) (by omega) (by omega) (Nat.le_of_ble_eq_true rfl) ?_
          refine ret_k ?_
          refine g_iret hX hF d_M_orders_214 (by omega) (by omega) ?_
          refine ⟨?_, ?_, hfm.tr (hz3.M.tr ((PrW_M w3).tr (q2.M.I (by decide))))⟩
          · rw [hop, hA]; rfl
          · rw [hop, hA]; exact hIe.ok (a := nI st.2.2.1)
        · obtain ⟨q, hq⟩ : ∃ q, cls[i]? = some q := ⟨_, List.getElem?_eq_getElem e145⟩
          have hOc : OcE (rI (PrW w3) 126) c (8 * i) q := (PrW_cls hcl3).2 i q hq
          have h20 := hOc.tm.2
          have hRs : runsR (q :: cls.drop (i + 1)) i st = (runsR cls 0 (sG s1, sU s1, 0, -1)) := by rw [← drop_at hq]; exact q7
          have ihO := ih
          refine g_iconst (v := nI 0) hX d_M_orders_148 rfl ?_
          refine g_istore3 hX d_M_orders_149 rfl (by decide) ?_
          have kNo : ∀ (jv : Int32) (st2 : RSt) (wk2 : Mem), FrX (PrW w3) wk2 → MGU wk2 st2.1 st2.2.1 → rI wk2 89 20 = nI 0 → SameK (sG s1) st2.1 → timesR q q.2.2.2.1 st = none → G0 E X 0 0 177 [.ref 89, .int (nI (sU s1).length), .int (nI i), .int jv] [] wk2 := by
            intro jv st2 wk2 p1 p2 p3 p4 p5
            have hI9 : MInv (GvB wk2 (sU s1).length) s3 := by
              have := MInv.giveB hI3 (PrW_inv hI3) ((PrW_keep w3).X p1) p1 p2 (by rw [← hs3]; exact p4) p3
              rw [← hs3] at this ⊢
              exact this
            have hA : ordersA s1 = sNo 3 (wSp s3 (nI i)) := by
              unfold ordersA
              rw [he, hs3]
              show (match (runsR cls 0 (sG s1, sU s1, 0, -1)) with | .inl k => _ | .inr z => _) = _
              rw [← hRs, runsR_no p5]
            refine g_aload0 hX d_M_orders_177 ?_
            refine g_iload1 hX d_M_orders_178 ?_
            refine g_callV (As := [_]) hX hF.1 d_M_orders_179 ml_M_592 cf_M_giveBack cv_M_giveBack rfl rfl (c_M_giveBack) (rcv_obj hX (lv_89 _) rfl rfl) (by omega) (by omega) (by omega) (Nat.le_of_ble_eq_true rfl) ?_
            refine ret_k ?_
            refine g_aload0 hX d_M_orders_182 ?_
            refine g_iload2 hX d_M_orders_183 ?_
            refine g_putI hX d_M_orders_184 fl_M_161 (lv_89 _) ?_
            refine g_aload0 hX d_M_orders_187 ?_
            refine g_bipush (v := -3) hX d_M_orders_188 rfl ?_
            refine g_callV (As := [_]) hX hF.1 d_M_orders_190 ml_M_179 cf_M_tell cv_M_tell rfl rfl (c_M_tellN (k := 3) (by decide) (by decide)) (rcv_obj hX (lv_89 _) rfl rfl) (by omega) (by omega) (by omega) (Nat.le_of_ble_eq_true rfl) ?_
            refine ret_k ?_
            refine g_iret hX hF d_M_orders_193 (by omega) (by omega) ?_
            refine ⟨?_, ?_, hfm.tr (hz3.M.tr ((PrW_M w3).tr ((((p1.M.gvB).I (by decide)).I (by decide)).I (by decide))))⟩
            · rw [hop, hA]; rfl
            · rw [hop, hA]; exact hI9.spI.no (by decide)
          have kEx : ∀ (jv : Int32) (st2 : RSt) (wk2 : Mem), FrX (PrW w3) wk2 → RnP wk2 st2 → tlS st2.2.2.2 → st2.2.2.1 ≤ 20 * (i + 1) → SameK (sG s1) st2.1 → timesR q q.2.2.2.1 st = some st2 → G0 E X 0 0 200 [.ref 89, .int (nI (sU s1).length), .int (nI i), .int jv] [] wk2 := by
            intro jv st2 wk2 p1 p2 p3 p4 p5 p6
            refine g_iincN2 hX d_M_orders_200 rfl (by decide) ?_
            refine g_goto hX d_M_orders_203 ?_
            exact ihO (i + 1) (.int jv) st2 wk2 (by omega) (by omega) p1 p2 p3 p4 p5 ((runsR_ok p6).symm.trans hRs)
          have lpT : ∀ (fuel : Nat) (j : Nat) (st2 : RSt) (wk2 : Mem), q.2.2.2.1 - j < fuel → (j ≤ q.2.2.2.1) → (FrX (PrW w3) wk2) → (RnP wk2 st2) → (tlS st2.2.2.2) → (st2.2.2.1 ≤ 20 * i + j) → (SameK (sG s1) st2.1) → (timesR q (q.2.2.2.1 - j) st2 = timesR q q.2.2.2.1 st) → G0 E X 0 0 150 [.ref 89, .int (nI (sU s1).length), .int (nI i), .int (nI j)] [] wk2 := by
            intro fuel
            induction fuel with
            | zero => intro j st2 wk2 q0; exact absurd q0 (Nat.not_lt_zero _)
            | succ fuel ih =>
              intro j st2 wk2 q0 q1 q2 q3 q4 q5 q6 q7
              refine g_iload3 hX d_M_orders_150 ?_
              refine g_aload0 hX d_M_orders_151 ?_
              refine g_getF hX d_M_orders_152 fl_M_158 (lv_89 _) ?_
              refine g_bipush (v := nI 8) hX d_M_orders_155 rfl ?_
              refine g_iload2 hX d_M_orders_157 ?_
              refine g_imulN hX d_M_orders_158 ?_
              refine g_bipush (v := nI 7) hX d_M_orders_159 rfl ?_
              refine g_iaddN hX d_M_orders_161 ?_
              refine g_iald hX d_M_orders_162 (lv_126 _) rfl (by omega) ?_
              refine g_topi (show rI wk2 126 (8 * i + 7) = nI q.2.2.2.1 by rw [q2.e126]; exact hOc.tm.1) ?_
              refine g_icmpN_ge hX d_M_orders_163 (by omega) (by omega) (fun e163 => ?_) (fun e163 => ?_)
              · have hj0 : q.2.2.2.1 - j = 0 := by omega
                rw [hj0] at q7
                exact kEx (nI j) st2 wk2 q2 q3 q4 (by omega) q6 q7.symm
              · refine g_aload0 hX d_M_orders_166 ?_
                refine g_bipush (v := nI 8) hX d_M_orders_167 rfl ?_
                refine g_iload2 hX d_M_orders_169 ?_
                refine g_imulN hX d_M_orders_170 ?_
                refine g_callV (As := [_]) hX hF.1 d_M_orders_171 ml_M_589 cf_M_run cv_M_run rfl rfl (c_M_run (w := wk2) (s := st2) q3 (by omega) q4 hXr ((PrW_code hcd).X q2) (by rw [q2.e126]; exact hOc) (by omega)) (rcv_obj hX (lv_89 _) rfl rfl) (by omega) (by omega) (by omega) (Nat.le_of_ble_eq_true rfl) ?_
                intro r w5 hr
                obtain ⟨f5, hr⟩ := hr
                obtain ⟨x5, rfl, hx5⟩ := hr.ex
                have hT1 : q.2.2.2.1 - j = (q.2.2.2.1 - (j + 1)) + 1 := by omega
                rw [hT1] at q7
                show G0 _ _ _ _ _ _ _ _
                refine g_if_ge hX d_M_orders_174 (fun e174 => ?_) (fun e174 => ?_)
                · rcases hx5 with ⟨rfl, -⟩ | ⟨rfl, st5, y1, y2⟩
                  · exact absurd e174 (by decide)
                  have hsm := ordOne_sm q3.wg q4 y1
                  rw [timesR_ok y1] at q7
                  refine g_iincN3 hX d_M_orders_194 rfl (by decide) ?_
                  refine g_goto hX d_M_orders_197 ?_
                  exact ih (j + 1) st5 w5 (by omega) (by omega) (q2.tr f5) y2 hsm.1 (by have := hsm.2.1; omega) (q6.tr hsm.2.2) q7
                · rcases hx5 with ⟨rfl, y1, y2, y3⟩ | ⟨rfl, -⟩
                  rotate_left
                  · exact absurd (by decide) e174
                  rw [timesR_no y1] at q7
                  exact kNo (nI j) st2 w5 (q2.tr f5) y2 y3 q6 q7.symm
          exact lpT (q.2.2.2.1 + 1) 0 st wk (by omega) (Nat.zero_le _) q2 q3 q4 (by omega) q6 (by rw [Nat.sub_zero])
    have kC : G0 E X 0 0 128 [.ref 89, .int (nI (sU s1).length), .int (nI 16), un] [] (PrC w3) := by
      refine g_aload0 hX d_M_orders_128 ?_
      refine g_iconst (v := nI 0) hX d_M_orders_129 rfl ?_
      refine g_putI hX d_M_orders_130 fl_M_574 (lv_89 _) ?_
      refine g_aload0 hX d_M_orders_133 ?_
      refine g_iconst (v := -1) hX d_M_orders_134 rfl ?_
      refine g_putI hX d_M_orders_135 fl_M_577 (lv_89 _) ?_
      refine g_iconst (v := nI 0) hX d_M_orders_138 rfl ?_
      refine g_istore2 hX d_M_orders_139 rfl (by decide) ?_
      refine g_mem (show _ = PrW w3 from rfl) ?_
      exact lpO (cls.length + 1) 0 un _ _ (by omega) (Nat.zero_le _) (FrX.rf _) hRun0 (Or.inl rfl) (Nat.zero_le _) (SameK.rf _) rfl
    have lpB : ∀ (fuel : Nat) (i : Nat), 16 - i < fuel → (i ≤ 16) → G0 E X 0 0 104 [.ref 89, .int (nI (sU s1).length), .int (nI i), un] [] (sA (PrB w3) 97 (va_cpy (rI (PrB w3) 95) (rI (PrB w3) 97) 0 0 i)) := by
      intro fuel
      induction fuel with
      | zero => intro i q0; exact absurd q0 (Nat.not_lt_zero _)
      | succ fuel ih =>
        intro i q0 q1
        refine g_iload2 hX d_M_orders_104 ?_
        refine g_bipush (v := nI 16) hX d_M_orders_105 rfl ?_
        refine g_icmpN_ge hX d_M_orders_107 (by omega) (by omega) (fun c0 => ?_) (fun c0 => ?_)
        · obtain rfl : i = 16 := by omega
          exact kC
        · refine g_aload0 hX d_M_orders_110 ?_
          refine g_getF hX d_M_orders_111 fl_M_32 (lv_89 _) ?_
          refine g_iload2 hX d_M_orders_114 ?_
          refine g_aload0 hX d_M_orders_115 ?_
          refine g_getF hX d_M_orders_116 fl_M_26 (lv_89 _) ?_
          refine g_iload2 hX d_M_orders_119 ?_
          refine g_iald hX d_M_orders_120 (lv_95 _) rfl (by omega) ?_
          refine g_topi (show rI (sA (PrB w3) 97 (va_cpy (rI (PrB w3) 95) (rI (PrB w3) 97) 0 0 i)) 95 i = rI (PrB w3) 95 (0 + i) by rw [rI_sA_ne _ _ (by decide), Nat.zero_add]) ?_
          refine g_iast hX d_M_orders_121 (lv_97 _) rfl (by omega) ?_
          refine g_iincN2 hX d_M_orders_122 rfl (by decide) ?_
          refine g_goto hX d_M_orders_125 ?_
          refine g_mem (sI_sA _ _ _ _ _) ?_
          refine g_mem (by rw [show upd (va_cpy (rI (PrB w3) 95) (rI (PrB w3) 97) 0 0 i) i (rI (PrB w3) 95 (0 + i)) = va_cpy (rI (PrB w3) 95) (rI (PrB w3) 97) 0 0 (i + 1) by have := cpy_s (rI (PrB w3) 95) (rI (PrB w3) 97) 0 0 i; rw [Nat.zero_add i] at this ⊢; exact this]) ?_
          exact ih (i + 1) (by omega) (by omega)
    have kB : G0 E X 0 0 102 [.ref 89, .int (nI (sU s1).length), .int (nI 1472), un] [] (PrB w3) := by
      refine g_iconst (v := nI 0) hX d_M_orders_102 rfl ?_
      refine g_istore2 hX d_M_orders_103 rfl (by decide) ?_
      refine g_mem (show PrB w3 = (sA (PrB w3) 97 (va_cpy (rI (PrB w3) 95) (rI (PrB w3) 97) 0 0 0)) by rw [cpy_0]; exact (sA_self (PrB w3) 97).symm) ?_
      exact lpB 17 0 (by omega) (by omega)
    have lpA : ∀ (fuel : Nat) (i : Nat), 1472 - i < fuel → (i ≤ 1472) → G0 E X 0 0 77 [.ref 89, .int (nI (sU s1).length), .int (nI i), un] [] (sA (PrA w3) 96 (va_cpy (rI (PrA w3) 94) (rI (PrA w3) 96) 0 0 i)) := by
      intro fuel
      induction fuel with
      | zero => intro i q0; exact absurd q0 (Nat.not_lt_zero _)
      | succ fuel ih =>
        intro i q0 q1
        refine g_iload2 hX d_M_orders_77 ?_
        refine g_sipush (v := nI 1472) hX d_M_orders_78 rfl ?_
        refine g_icmpN_ge hX d_M_orders_81 (by omega) (by omega) (fun c0 => ?_) (fun c0 => ?_)
        · obtain rfl : i = 1472 := by omega
          exact kB
        · refine g_aload0 hX d_M_orders_84 ?_
          refine g_getF hX d_M_orders_85 fl_M_29 (lv_89 _) ?_
          refine g_iload2 hX d_M_orders_88 ?_
          refine g_aload0 hX d_M_orders_89 ?_
          refine g_getF hX d_M_orders_90 fl_M_23 (lv_89 _) ?_
          refine g_iload2 hX d_M_orders_93 ?_
          refine g_iald hX d_M_orders_94 (lv_94 _) rfl (by omega) ?_
          refine g_topi (show rI (sA (PrA w3) 96 (va_cpy (rI (PrA w3) 94) (rI (PrA w3) 96) 0 0 i)) 94 i = rI (PrA w3) 94 (0 + i) by rw [rI_sA_ne _ _ (by decide), Nat.zero_add]) ?_
          refine g_iast hX d_M_orders_95 (lv_96 _) rfl (by omega) ?_
          refine g_iincN2 hX d_M_orders_96 rfl (by decide) ?_
          refine g_goto hX d_M_orders_99 ?_
          refine g_mem (sI_sA _ _ _ _ _) ?_
          refine g_mem (by rw [show upd (va_cpy (rI (PrA w3) 94) (rI (PrA w3) 96) 0 0 i) i (rI (PrA w3) 94 (0 + i)) = va_cpy (rI (PrA w3) 94) (rI (PrA w3) 96) 0 0 (i + 1) by have := cpy_s (rI (PrA w3) 94) (rI (PrA w3) 96) 0 0 i; rw [Nat.zero_add i] at this ⊢; exact this]) ?_
          exact ih (i + 1) (by omega) (by omega)
    refine g_aload0 hX d_M_orders_64 ?_
    refine g_bipush (v := nI 17) hX d_M_orders_65 rfl ?_
    refine g_callV (As := [_]) hX hF.1 d_M_orders_67 ml_M_183 cf_M_keepAll cv_M_keepAll rfl rfl (c_M_keepAll (k := 17) (by decide)) (rcv_obj hX (lv_89 _) rfl rfl) (by omega) (by omega) (by omega) (Nat.le_of_ble_eq_true rfl) ?_
    refine ret_k ?_
    refine g_aload0 hX d_M_orders_70 ?_
    refine g_mem (show _ = PrA w3 from rfl) ?_
    refine g_getI hX d_M_orders_71 fl_M_176 (lv_89 _) ?_
    refine g_topi (show rI (PrA w3) 89 8 = nI (sU s1).length from hU3.n) ?_
    refine g_istore1 hX d_M_orders_74 rfl (by decide) ?_
    refine g_iconst (v := nI 0) hX d_M_orders_75 rfl ?_
    refine g_istore2 hX d_M_orders_76 rfl (by decide) ?_
    refine g_mem (show PrA w3 = (sA (PrA w3) 96 (va_cpy (rI (PrA w3) 94) (rI (PrA w3) 96) 0 0 0)) by rw [cpy_0]; exact (sA_self (PrA w3) 96).symm) ?_
    exact lpA 1473 0 (by omega) (by omega)
  have lp : ∀ (n : Nat) (cls : List OcT) (f p : Nat) (c : List (Nat × Nat)) (w2 : Mem), RdB w2 (sTp s1) f p c → RdX true c [] f p 0 → OcsP w2 c cls → cls.length + n = 13 → cls.length ≤ 12 → ordAll cls (ordRest (sTp s1) n cls.length f p) = ordT (sTp s1) → FrZ w0 w2 → RdC w2 true → G0 E X 0 0 19 [.ref 89, un, un, un] [] w2 := by
    intro n
    induction n with
    | zero => intro cls f p c w2 _ _ _ h13 h12; omega
    | succ n ih =>
      intro cls f p c w2 hb hXr hcl h13 h12 hres hz hC
      refine g_aload0 hX d_M_orders_19 ?_
      refine g_getZ hX d_M_orders_20 fl_M_258 (lv_89 _) ?_
      refine g_topi hb.2.2.2.1 ?_
      refine g_if_ne hX d_M_orders_23 (fun h => absurd (by decide) h) (fun c0 => ?_)
      refine g_aload0 hX d_M_orders_26 ?_
      refine g_bipush (v := nI 59) hX d_M_orders_27 rfl ?_
      refine g_callV (As := [_]) hX hF.1 d_M_orders_29 ml_M_329 cf_M_isSign cv_M_isSign rfl rfl (c_M_isSign hb.1 (by decide)) (rcv_obj hX (lv_89 _) rfl rfl) (by omega) (by omega) (by omega) (Nat.le_of_ble_eq_true rfl) ?_
      refine ret_k ?_
      refine g_ifB_eq hX d_M_orders_32 (fun e32 => ?_) (fun e32 => ?_)
      · unfold ordRest at hres
        rw [if_neg e32] at hres
        by_cases hs : srt (sTp s1) f = 0
        · rw [if_pos hs] at hres
          have hres2 : Sum.inr (cls ++ []) = ordT (sTp s1) := hres
          rw [List.append_nil] at hres2
          exact kOk w2 f p c cls hres2.symm hz hb hs hXr hcl h12
        · rw [if_neg hs] at hres
          exact kMore w2 f p c hres.symm hz hb hs
      · unfold ordRest at hres
        rw [if_pos e32] at hres
        refine g_aload0 hX d_M_orders_35 ?_
        refine g_callV (As := []) hX hF.1 d_M_orders_36 ml_M_262 cf_M_next cv_M_next rfl rfl (c_M_next hb.1) (rcv_obj hX (lv_89 _) rfl rfl) (by omega) (by omega) (by omega) (Nat.le_of_ble_eq_true rfl) ?_
        rintro _ w3 ⟨rfl, hf3, hT3⟩
        have hb3 := hb.tok hf3 hT3
        have hX3 := hXr.mono (Nat.le_of_lt (nxT_gt (isS_0 e32)))
        have hC3 := hC.fr hf3.R
        have hcl3 : OcsP w3 c cls := by
          unfold OcsP
          rw [hf3.1 126 (by decide), hf3.2.1 21 (by decide) (by decide) (by decide)]
          exact hcl
        show G0 _ _ _ _ _ _ _ _
        refine g_aload0 hX d_M_orders_39 ?_
        refine g_callV (As := []) hX hF.1 d_M_orders_40 ml_M_586 cf_M_readOrder cv_M_readOrder rfl rfl (c_M_readOrder hb3 hX3 hC3 hcl3 h12) (rcv_obj hX (lv_89 _) rfl rfl) (by omega) (by omega) (by omega) (Nat.le_of_ble_eq_true rfl) ?_
        rintro _ w4 ⟨rfl, hf4, hq⟩
        have hz4 := (hz.tr hf3.R.W.Z).tr hf4.Z
        have hC4 := hC3.W hf4
        show G0 _ _ _ _ _ _ _ _
        refine g_goto hX d_M_orders_43 ?_
        cases hl : ordCl (sTp s1) cls.length (nxT (sTp s1) f) p with
        | inl e =>
          rw [hl] at hq
          have hq : BadB w4 (sTp s1) e := hq
          rw [ordGo_bad hl] at hres
          refine g_aload0 hX d_M_orders_19 ?_
          refine g_getZ hX d_M_orders_20 fl_M_258 (lv_89 _) ?_
          refine g_topi hq.2.1 ?_
          refine g_if_ne hX d_M_orders_23 (fun c0 => ?_) (fun h => absurd h (by decide))
          exact kBad w4 e hres.symm hz4 hq
        | inr z =>
          obtain ⟨f2, p2, q⟩ := z
          rw [hl] at hq
          obtain ⟨kd2, hR4, hX4, hcl4⟩ := hq
          rw [ordGo_ok hl] at hres
          have h12b := ordCl_12 hl
          have hlen : (cls ++ [q]).length = cls.length + 1 := by rw [List.length_append]; rfl
          rw [← hlen] at hres
          exact ih (cls ++ [q]) f2 p2 kd2 w4 hR4 hX4 hcl4 (by omega) (by omega) hres hz4 hC4
  refine g_aload0 hX d_M_orders_10 ?_
  refine g_iconst (v := nI 1) hX d_M_orders_11 rfl ?_
  refine g_callV (As := [_]) hX hF.1 d_M_orders_12 ml_M_397 cf_M_beginText cv_M_beginText rfl rfl (c_M_beginTextO (t := sTp s1) (w := w0) hT0) (rcv_obj hX (lv_89 _) rfl rfl) (by omega) (by omega) (by omega) (Nat.le_of_ble_eq_true rfl) ?_
  rintro _ w1 ⟨rfl, hz1, hb1, h20, h21⟩
  have hM1 : MConst w1 := (hM.fr hfm).fr hz1.M
  have hC1 : RdC w1 true := ⟨h20, hM1⟩
  have hcl1 : OcsP w1 [] [] := ⟨h21, fun j q hj => by simp at hj⟩
  have hX1 : RdX true [] [] (runE (sTp s1) 0 0) 0 0 := ⟨⟨⟨by decide, fun q hq => (by cases hq)⟩, Nat.zero_le _, by decide, by decide, fun q hq => (by cases hq), fun k hk => absurd hk (Nat.not_lt_zero _)⟩, fun q hq => (by cases hq)⟩
  show G0 _ _ _ _ _ _ _ _
  refine g_aload0 hX d_M_orders_15 ?_
  refine g_callV (As := []) hX hF.1 d_M_orders_16 ml_M_586 cf_M_readOrder cv_M_readOrder rfl rfl (c_M_readOrder hb1 hX1 hC1 hcl1 (by decide)) (rcv_obj hX (lv_89 _) rfl rfl) (by omega) (by omega) (by omega) (Nat.le_of_ble_eq_true rfl) ?_
  rintro _ w4 ⟨rfl, hf4, hq⟩
  have hz4 := hz1.tr hf4.Z
  have hC4 := hC1.W hf4
  have hq : ordQ (sTp s1) [] (ordCl (sTp s1) 0 (runE (sTp s1) 0 0) 0) w4 := hq
  show G0 _ _ _ _ _ _ _ _
  cases hl : ordCl (sTp s1) 0 (runE (sTp s1) 0 0) 0 with
  | inl e =>
    rw [hl] at hq
    have hq : BadB w4 (sTp s1) e := hq
    have hres : Sum.inl e = ordT (sTp s1) := (ordGo_bad (m := 12) (cls := []) hl).symm.trans (by unfold ordT; cases ordGo (sTp s1) 13 0 (runE (sTp s1) 0 0) 0 <;> rfl)
    refine g_aload0 hX d_M_orders_19 ?_
    refine g_getZ hX d_M_orders_20 fl_M_258 (lv_89 _) ?_
    refine g_topi hq.2.1 ?_
    refine g_if_ne hX d_M_orders_23 (fun c0 => ?_) (fun h => absurd h (by decide))
    exact kBad w4 e hres.symm hz4 hq
  | inr z =>
    obtain ⟨f2, p2, q⟩ := z
    rw [hl] at hq
    obtain ⟨kd2, hR4, hX4, hcl4⟩ := hq
    have hres : ordAll [q] (ordRest (sTp s1) 12 1 f2 p2) = ordT (sTp s1) := (ordGo_ok (m := 12) (cls := []) hl).symm.trans (by unfold ordT; cases ordGo (sTp s1) 13 0 (runE (sTp s1) 0 0) 0 <;> rfl)
    exact lp 12 [q] f2 p2 kd2 w4 hR4 hX4 hcl4 rfl (by show 1 ≤ 12; decide) hres hz4 hC4
