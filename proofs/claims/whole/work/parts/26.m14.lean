def m_M_few : MR := (⟨"SubgraphDeskModel", "few", "(II)J"⟩, prog_14_method_122_code, 8, (some .long))
theorem cf_M_few : CF m_M_few 2 := ⟨gd 2179 (by decide +kernel) rfl, gd 151 (by decide +kernel) rfl, by decide +kernel, by decide, by decide +kernel⟩
theorem cv_M_few : CV m_M_few := ⟨gd 2177 (by decide +kernel) rfl, gd 2178 (by decide +kernel) rfl⟩
theorem d_M_few_0 : Dc prog_14_method_122_code 0 (.aload_n 0) 1 1 := ⟨by decide +kernel, rfl⟩
theorem d_M_few_1 : Dc prog_14_method_122_code 1 (.iconst 0) 1 2 := ⟨by decide +kernel, rfl⟩
theorem d_M_few_2 : Dc prog_14_method_122_code 2 (.putfield 170) 3 5 := ⟨by decide +kernel, rfl⟩
theorem d_M_few_5 : Dc prog_14_method_122_code 5 (.iload_n 1) 1 6 := ⟨by decide +kernel, rfl⟩
theorem d_M_few_6 : Dc prog_14_method_122_code 6 (.i2l) 1 7 := ⟨by decide +kernel, rfl⟩
theorem d_M_few_7 : Dc prog_14_method_122_code 7 (.lconst 1) 1 8 := ⟨by decide +kernel, rfl⟩
theorem d_M_few_8 : Dc prog_14_method_122_code 8 (.ldc2_w 308) 3 11 := ⟨by decide +kernel, rfl⟩
theorem d_M_few_11 : Dc prog_14_method_122_code 11 (.invokestatic 190) 3 14 := ⟨by decide +kernel, rfl⟩
theorem d_M_few_14 : Dj prog_14_method_122_code 14 (.ifCond .eq 15) 17 15 29 := ⟨by decide +kernel, rfl, rfl⟩
theorem d_M_few_17 : Dc prog_14_method_122_code 17 (.iload_n 2) 1 18 := ⟨by decide +kernel, rfl⟩
theorem d_M_few_18 : Dc prog_14_method_122_code 18 (.i2l) 1 19 := ⟨by decide +kernel, rfl⟩
theorem d_M_few_19 : Dc prog_14_method_122_code 19 (.lconst 0) 1 20 := ⟨by decide +kernel, rfl⟩
theorem d_M_few_20 : Dc prog_14_method_122_code 20 (.ldc2_w 558) 3 23 := ⟨by decide +kernel, rfl⟩
theorem d_M_few_23 : Dc prog_14_method_122_code 23 (.invokestatic 190) 3 26 := ⟨by decide +kernel, rfl⟩
theorem d_M_few_26 : Dj prog_14_method_122_code 26 (.ifCond .ne 7) 29 7 33 := ⟨by decide +kernel, rfl, rfl⟩
theorem d_M_few_29 : Dc prog_14_method_122_code 29 (.ldc2_w 285) 3 32 := ⟨by decide +kernel, rfl⟩
theorem d_M_few_32 : Dc prog_14_method_122_code 32 (.lreturn) 1 33 := ⟨by decide +kernel, rfl⟩
theorem d_M_few_33 : Dc prog_14_method_122_code 33 (.iconst 0) 1 34 := ⟨by decide +kernel, rfl⟩
theorem d_M_few_34 : Dc prog_14_method_122_code 34 (.istore_n 3) 1 35 := ⟨by decide +kernel, rfl⟩
theorem d_M_few_35 : Dc prog_14_method_122_code 35 (.iload_n 3) 1 36 := ⟨by decide +kernel, rfl⟩
theorem d_M_few_36 : Dc prog_14_method_122_code 36 (.bipush 21) 2 38 := ⟨by decide +kernel, rfl⟩
theorem d_M_few_38 : Dj prog_14_method_122_code 38 (.if_icmp .ge 26) 41 26 64 := ⟨by decide +kernel, rfl, rfl⟩
theorem d_M_few_41 : Dc prog_14_method_122_code 41 (.aload_n 0) 1 42 := ⟨by decide +kernel, rfl⟩
theorem d_M_few_42 : Dc prog_14_method_122_code 42 (.getfield 144) 3 45 := ⟨by decide +kernel, rfl⟩
theorem d_M_few_45 : Dc prog_14_method_122_code 45 (.iload_n 3) 1 46 := ⟨by decide +kernel, rfl⟩
theorem d_M_few_46 : Dc prog_14_method_122_code 46 (.iload_n 3) 1 47 := ⟨by decide +kernel, rfl⟩
theorem d_M_few_47 : Dj prog_14_method_122_code 47 (.ifCond .ne 9) 50 9 56 := ⟨by decide +kernel, rfl, rfl⟩
theorem d_M_few_50 : Dc prog_14_method_122_code 50 (.ldc2_w 560) 3 53 := ⟨by decide +kernel, rfl⟩
theorem d_M_few_53 : Dj prog_14_method_122_code 53 (.goto 4) 56 4 57 := ⟨by decide +kernel, rfl, rfl⟩
theorem d_M_few_56 : Dc prog_14_method_122_code 56 (.lconst 0) 1 57 := ⟨by decide +kernel, rfl⟩
theorem d_M_few_57 : Dc prog_14_method_122_code 57 (.lastore) 1 58 := ⟨by decide +kernel, rfl⟩
theorem d_M_few_58 : Dc prog_14_method_122_code 58 (.iinc 3 1) 3 61 := ⟨by decide +kernel, rfl⟩
theorem d_M_few_61 : Dj prog_14_method_122_code 61 (.goto (-26)) 64 (-26) 35 := ⟨by decide +kernel, rfl, rfl⟩
theorem d_M_few_64 : Dc prog_14_method_122_code 64 (.aload_n 0) 1 65 := ⟨by decide +kernel, rfl⟩
theorem d_M_few_65 : Dc prog_14_method_122_code 65 (.getfield 13) 3 68 := ⟨by decide +kernel, rfl⟩
theorem d_M_few_68 : Dc prog_14_method_122_code 68 (.bipush 7) 2 70 := ⟨by decide +kernel, rfl⟩
theorem d_M_few_70 : Dc prog_14_method_122_code 70 (.iaload) 1 71 := ⟨by decide +kernel, rfl⟩
theorem d_M_few_71 : Dc prog_14_method_122_code 71 (.istore_n 3) 1 72 := ⟨by decide +kernel, rfl⟩
theorem d_M_few_72 : Dc prog_14_method_122_code 72 (.iconst 0) 1 73 := ⟨by decide +kernel, rfl⟩
theorem d_M_few_73 : Dc prog_14_method_122_code 73 (.istore 4) 2 75 := ⟨by decide +kernel, rfl⟩
theorem d_M_few_75 : Dc prog_14_method_122_code 75 (.iload 4) 2 77 := ⟨by decide +kernel, rfl⟩
theorem d_M_few_77 : Dc prog_14_method_122_code 77 (.iload_n 2) 1 78 := ⟨by decide +kernel, rfl⟩
theorem d_M_few_78 : Dj prog_14_method_122_code 78 (.if_icmp .ge 74) 81 74 152 := ⟨by decide +kernel, rfl, rfl⟩
theorem d_M_few_81 : Dc prog_14_method_122_code 81 (.iload_n 1) 1 82 := ⟨by decide +kernel, rfl⟩
theorem d_M_few_82 : Dc prog_14_method_122_code 82 (.iconst 1) 1 83 := ⟨by decide +kernel, rfl⟩
theorem d_M_few_83 : Dc prog_14_method_122_code 83 (.isub) 1 84 := ⟨by decide +kernel, rfl⟩
theorem d_M_few_84 : Dc prog_14_method_122_code 84 (.istore 5) 2 86 := ⟨by decide +kernel, rfl⟩
theorem d_M_few_86 : Dc prog_14_method_122_code 86 (.iload 5) 2 88 := ⟨by decide +kernel, rfl⟩
theorem d_M_few_88 : Dj prog_14_method_122_code 88 (.ifCond .lt 58) 91 58 146 := ⟨by decide +kernel, rfl, rfl⟩
theorem d_M_few_91 : Dc prog_14_method_122_code 91 (.aload_n 0) 1 92 := ⟨by decide +kernel, rfl⟩
theorem d_M_few_92 : Dc prog_14_method_122_code 92 (.getfield 144) 3 95 := ⟨by decide +kernel, rfl⟩
theorem d_M_few_95 : Dc prog_14_method_122_code 95 (.iload 5) 2 97 := ⟨by decide +kernel, rfl⟩
theorem d_M_few_97 : Dc prog_14_method_122_code 97 (.laload) 1 98 := ⟨by decide +kernel, rfl⟩
theorem d_M_few_98 : Dc prog_14_method_122_code 98 (.lstore 6) 2 100 := ⟨by decide +kernel, rfl⟩
theorem d_M_few_100 : Dc prog_14_method_122_code 100 (.aload_n 0) 1 101 := ⟨by decide +kernel, rfl⟩
theorem d_M_few_101 : Dc prog_14_method_122_code 101 (.getfield 144) 3 104 := ⟨by decide +kernel, rfl⟩
theorem d_M_few_104 : Dc prog_14_method_122_code 104 (.iload 5) 2 106 := ⟨by decide +kernel, rfl⟩
theorem d_M_few_106 : Dc prog_14_method_122_code 106 (.lload 6) 2 108 := ⟨by decide +kernel, rfl⟩
theorem d_M_few_108 : Dc prog_14_method_122_code 108 (.bipush 10) 2 110 := ⟨by decide +kernel, rfl⟩
theorem d_M_few_110 : Dc prog_14_method_122_code 110 (.iload_n 3) 1 111 := ⟨by decide +kernel, rfl⟩
theorem d_M_few_111 : Dc prog_14_method_122_code 111 (.isub) 1 112 := ⟨by decide +kernel, rfl⟩
theorem d_M_few_112 : Dc prog_14_method_122_code 112 (.i2l) 1 113 := ⟨by decide +kernel, rfl⟩
theorem d_M_few_113 : Dc prog_14_method_122_code 113 (.lmul) 1 114 := ⟨by decide +kernel, rfl⟩
theorem d_M_few_114 : Dc prog_14_method_122_code 114 (.ldc2_w 236) 3 117 := ⟨by decide +kernel, rfl⟩
theorem d_M_few_117 : Dc prog_14_method_122_code 117 (.ldiv) 1 118 := ⟨by decide +kernel, rfl⟩
theorem d_M_few_118 : Dc prog_14_method_122_code 118 (.lastore) 1 119 := ⟨by decide +kernel, rfl⟩
theorem d_M_few_119 : Dc prog_14_method_122_code 119 (.aload_n 0) 1 120 := ⟨by decide +kernel, rfl⟩
theorem d_M_few_120 : Dc prog_14_method_122_code 120 (.getfield 144) 3 123 := ⟨by decide +kernel, rfl⟩
theorem d_M_few_123 : Dc prog_14_method_122_code 123 (.iload 5) 2 125 := ⟨by decide +kernel, rfl⟩
theorem d_M_few_125 : Dc prog_14_method_122_code 125 (.iconst 1) 1 126 := ⟨by decide +kernel, rfl⟩
theorem d_M_few_126 : Dc prog_14_method_122_code 126 (.iadd) 1 127 := ⟨by decide +kernel, rfl⟩
theorem d_M_few_127 : Dc prog_14_method_122_code 127 (.dup2) 1 128 := ⟨by decide +kernel, rfl⟩
theorem d_M_few_128 : Dc prog_14_method_122_code 128 (.laload) 1 129 := ⟨by decide +kernel, rfl⟩
theorem d_M_few_129 : Dc prog_14_method_122_code 129 (.lload 6) 2 131 := ⟨by decide +kernel, rfl⟩
theorem d_M_few_131 : Dc prog_14_method_122_code 131 (.iload_n 3) 1 132 := ⟨by decide +kernel, rfl⟩
theorem d_M_few_132 : Dc prog_14_method_122_code 132 (.i2l) 1 133 := ⟨by decide +kernel, rfl⟩
theorem d_M_few_133 : Dc prog_14_method_122_code 133 (.lmul) 1 134 := ⟨by decide +kernel, rfl⟩
theorem d_M_few_134 : Dc prog_14_method_122_code 134 (.ldc2_w 236) 3 137 := ⟨by decide +kernel, rfl⟩
theorem d_M_few_137 : Dc prog_14_method_122_code 137 (.ldiv) 1 138 := ⟨by decide +kernel, rfl⟩
theorem d_M_few_138 : Dc prog_14_method_122_code 138 (.ladd) 1 139 := ⟨by decide +kernel, rfl⟩
theorem d_M_few_139 : Dc prog_14_method_122_code 139 (.lastore) 1 140 := ⟨by decide +kernel, rfl⟩
theorem d_M_few_140 : Dc prog_14_method_122_code 140 (.iinc 5 (-1)) 3 143 := ⟨by decide +kernel, rfl⟩
theorem d_M_few_143 : Dj prog_14_method_122_code 143 (.goto (-57)) 146 (-57) 86 := ⟨by decide +kernel, rfl, rfl⟩
theorem d_M_few_146 : Dc prog_14_method_122_code 146 (.iinc 4 1) 3 149 := ⟨by decide +kernel, rfl⟩
theorem d_M_few_149 : Dj prog_14_method_122_code 149 (.goto (-74)) 152 (-74) 75 := ⟨by decide +kernel, rfl, rfl⟩
theorem d_M_few_152 : Dc prog_14_method_122_code 152 (.lconst 0) 1 153 := ⟨by decide +kernel, rfl⟩
theorem d_M_few_153 : Dc prog_14_method_122_code 153 (.lstore 4) 2 155 := ⟨by decide +kernel, rfl⟩
theorem d_M_few_155 : Dc prog_14_method_122_code 155 (.iconst 0) 1 156 := ⟨by decide +kernel, rfl⟩
theorem d_M_few_156 : Dc prog_14_method_122_code 156 (.istore 6) 2 158 := ⟨by decide +kernel, rfl⟩
theorem d_M_few_158 : Dc prog_14_method_122_code 158 (.iload 6) 2 160 := ⟨by decide +kernel, rfl⟩
theorem d_M_few_160 : Dc prog_14_method_122_code 160 (.iload_n 1) 1 161 := ⟨by decide +kernel, rfl⟩
theorem d_M_few_161 : Dj prog_14_method_122_code 161 (.if_icmp .ge 21) 164 21 182 := ⟨by decide +kernel, rfl, rfl⟩
theorem d_M_few_164 : Dc prog_14_method_122_code 164 (.lload 4) 2 166 := ⟨by decide +kernel, rfl⟩
theorem d_M_few_166 : Dc prog_14_method_122_code 166 (.aload_n 0) 1 167 := ⟨by decide +kernel, rfl⟩
theorem d_M_few_167 : Dc prog_14_method_122_code 167 (.getfield 144) 3 170 := ⟨by decide +kernel, rfl⟩
theorem d_M_few_170 : Dc prog_14_method_122_code 170 (.iload 6) 2 172 := ⟨by decide +kernel, rfl⟩
theorem d_M_few_172 : Dc prog_14_method_122_code 172 (.laload) 1 173 := ⟨by decide +kernel, rfl⟩
theorem d_M_few_173 : Dc prog_14_method_122_code 173 (.ladd) 1 174 := ⟨by decide +kernel, rfl⟩
theorem d_M_few_174 : Dc prog_14_method_122_code 174 (.lstore 4) 2 176 := ⟨by decide +kernel, rfl⟩
theorem d_M_few_176 : Dc prog_14_method_122_code 176 (.iinc 6 1) 3 179 := ⟨by decide +kernel, rfl⟩
theorem d_M_few_179 : Dj prog_14_method_122_code 179 (.goto (-21)) 182 (-21) 158 := ⟨by decide +kernel, rfl, rfl⟩
theorem d_M_few_182 : Dc prog_14_method_122_code 182 (.lload 4) 2 184 := ⟨by decide +kernel, rfl⟩
theorem d_M_few_184 : Dc prog_14_method_122_code 184 (.lreturn) 1 185 := ⟨by decide +kernel, rfl⟩
theorem fl_M_144 : FL "SubgraphDeskModel" 144 12 59 true (.array .long) (3, 35) := ⟨R_M, F_M, 69, ty_M, rfl, rfl, in_M, tyok_M, nm_M, by decide, gd 1531 (by decide +kernel) rfl, rfl, rfl, rfl⟩
theorem k_M_285 : Cond.constantLong "SubgraphDeskModel" 285 (-1) ∈ lw_gd := gd 1769 (by decide +kernel) rfl
theorem k_M_308 : Cond.constantLong "SubgraphDeskModel" 308 (20) ∈ lw_gd := gd 1937 (by decide +kernel) rfl
theorem k_M_558 : Cond.constantLong "SubgraphDeskModel" 558 (99) ∈ lw_gd := gd 2180 (by decide +kernel) rfl
theorem k_M_560 : Cond.constantLong "SubgraphDeskModel" 560 (1000000000000) ∈ lw_gd := gd 2181 (by decide +kernel) rfl
/-- the parts behind m marks -/
def fewP (s : Nat) : Nat → Nat → Nat
  | 0, i => if i = 0 then 1000000000000 else 0
  | m + 1, i => fewP s m i * (10 - s) / 10 + (if i = 0 then 0 else fewP s m (i - 1) * s / 10)
def fewS (s m : Nat) : Nat → Nat
  | 0 => 0
  | k + 1 => fewS s m k + fewP s m k
theorem fewP_le {s : Nat} (hs : s ≤ 10) : ∀ m i, fewP s m i ≤ 1000000000000
  | 0, i => by unfold fewP; split <;> omega
  | m + 1, i => by
    have h1 := fewP_le hs m i
    have h2 := fewP_le hs m (i - 1)
    unfold fewP
    have a1 : fewP s m i * (10 - s) ≤ 1000000000000 * (10 - s) := Nat.mul_le_mul_right _ h1
    have a2 : fewP s m (i - 1) * s ≤ 1000000000000 * s := Nat.mul_le_mul_right _ h2
    split <;> omega
noncomputable def opFew (k n : Int32) (g : GC) : Int64 := by
  classical
  exact if nI 1 ≤ k ∧ k ≤ nI 20 ∧ inN n 100 then lN (fewS (gT g 1) (tn n) (tn k)) else -1
theorem few_no {k n : Int32} {g : GC} (h : ¬ (nI 1 ≤ k ∧ k ≤ nI 20 ∧ inN n 100)) : opFew k n g = -1 := by unfold opFew; exact if_neg h
theorem few_ok {k n : Nat} {g : GC} (hk : 1 ≤ k) (hk2 : k ≤ 20) (hn : n < 100) : opFew (nI k) (nI n) g = lN (fewS (gT g 1) n k) := by
  unfold opFew
  refine (if_pos ⟨nI_le hk (by omega), nI_le hk2 (by decide), inN_nI hn (by decide)⟩).trans ?_
  rw [tn_nI (by omega), tn_nI (by omega)]
theorem one_of {k : Int32} {n : Nat} (hn : n < 2 ^ 31) (h : nI 1 ≤ k ∧ k ≤ nI n) : ∃ j : Nat, 1 ≤ j ∧ j ≤ n ∧ k = nI j := by
  obtain ⟨h1, h2⟩ := h
  rw [Int32.le_iff_toInt_le, nI_toInt (by omega)] at h1 h2
  exact ⟨k.toInt.toNat, by omega, by omega, by apply Int32.toInt_inj.mp; rw [nI_toInt (by omega)]; omega⟩
theorem fw_mul {a b : Nat} (ha : a ≤ 1000000000000) (hb : b ≤ 10) : lN a * lN b / lN 10 = lN (a * b / 10) := by
  have : a * b ≤ 1000000000000 * 10 := Nat.mul_le_mul ha hb
  rw [lN_mul, pk_lDiv (by omega) (by decide) (by decide)]
theorem m1_nI (i : Nat) : nI (i + 1) - nI 1 = nI i := by rw [pk_sub (by omega)]; rfl
theorem c_M_few {E : EV} {w : Mem} {k n : Int32} {s : SG} (h : MInv w s) : T E m_M_few 2 0 0 [.ref 89, .int k, .int n] w (fun r w2 => r = some (.long (opFew k n (sG s))) ∧ MInv w2 s ∧ FrM w w2) := by
  refine T_of (L := [.ref 89, .int k, .int n, un, un, un, un, un]) cf_M_few rfl (Nat.le_of_ble_eq_true rfl) (fun X hX hF => ?_)
  obtain ⟨⟨hR, hL, hW⟩, hU, hT, hI, hRf, hSt, hFa, hSm, hSp, hDr, hOr⟩ := id h
  have hn := hW.n
  have hv := hW.v
  have he := hW.el
  refine g_aload0 hX d_M_few_0 ?_
  refine g_iconst (v := nI 0) hX d_M_few_1 rfl ?_
  refine g_putI hX d_M_few_2 fl_M_170 (lv_89 _) ?_
  refine g_iload1 hX d_M_few_5 ?_
  refine g_i2l hX d_M_few_6 ?_
  refine g_lconst (v := lN 1) hX d_M_few_7 rfl ?_
  refine g_ldc2 (v := lN 20) hX d_M_few_8 k_M_308 rfl ?_
  refine g_callS (As := [_, _, _]) hX hF.1 d_M_few_11 ml_M_190 cf_M_in cs_M_in rfl (c_M_in) (by omega) (by omega) (by omega) (Nat.le_of_ble_eq_true rfl) ?_
  refine ret_k ?_
  refine g_ifB_eq hX d_M_few_14 (fun e14 => ?_) (fun e14 => ?_)
  · have d14 := mt (in_isC (by decide) (by decide)).mpr e14
    refine g_ldc2 (v := -1) hX d_M_few_29 k_M_285 rfl ?_
    refine g_lret hX hF d_M_few_32 (by omega) (by omega) ?_
    rw [few_no (by first | exact fun z => d14 ⟨z.1, z.2.1⟩ | exact fun z => d26 z.2.2)]
    exact ⟨rfl, h.keep (by repeat (first | exact Scr.rf _ | refine Scr.I9 (by decide) ?_ | refine Scr.I (by decide) ?_ | refine Scr.A (by decide) ?_ | refine Scr.J9 ?_ | refine Scr.J (by decide) ?_ | refine Scr.B (by decide) ?_)), (by repeat (first | exact FrM.rf _ | refine FrM.I (by decide) ?_ | refine FrM.A (by decide) ?_ | refine FrM.B (by decide) ?_ | refine FrM.J9 ?_ | refine FrM.J (by decide) ?_))⟩
  · have d14 := (in_isC (by decide) (by decide)).mp e14
    refine g_iload2 hX d_M_few_17 ?_
    refine g_i2l hX d_M_few_18 ?_
    refine g_lconst (v := lN 0) hX d_M_few_19 rfl ?_
    refine g_ldc2 (v := lN 99) hX d_M_few_20 k_M_558 rfl ?_
    refine g_callS (As := [_, _, _]) hX hF.1 d_M_few_23 ml_M_190 cf_M_in cs_M_in rfl (c_M_in) (by omega) (by omega) (by omega) (Nat.le_of_ble_eq_true rfl) ?_
    refine ret_k ?_
    refine g_ifB_ne hX d_M_few_26 (fun e26 => ?_) (fun e26 => ?_)
    · have d26 := (in_le (by decide)).mp e26
      obtain ⟨k, hk1, hk2, rfl⟩ := one_of (by decide) d14
      obtain ⟨n, hn1, rfl, -⟩ := inN_of d26 (by decide)
      have hS : (gT (sG s) 1) ≤ 10 := hW.t.2.1
      have kE : ∀ (m : Nat) (f : Nat → Int64), (∀ j, j < k → f j = lN (fewP (gT (sG s) 1) n j)) → G0 E X 0 0 152 [.ref 89, .int (nI k), .int (nI n), .int (nI (gT (sG s) 1)), .int (nI m), un, un, un] [] (sB (sI w 89 0 (nI 0)) 124 f) := by
        intro m f hf
        have lpD : ∀ (fuel : Nat) (i : Nat), k - i < fuel → (i ≤ k) → G0 E X 0 0 158 [.ref 89, .int (nI k), .int (nI n), .int (nI (gT (sG s) 1)), .long (lN (fewS (gT (sG s) 1) n i)), un, .int (nI i), un] [] (sB (sI w 89 0 (nI 0)) 124 f) := by
          intro fuel
          induction fuel with
          | zero => intro i q0; exact absurd q0 (Nat.not_lt_zero _)
          | succ fuel ih =>
            intro i q0 q1
            refine g_iload6 hX d_M_few_158 ?_
            refine g_iload1 hX d_M_few_160 ?_
            refine g_icmpN_ge hX d_M_few_161 (by omega) (by omega) (fun c0 => ?_) (fun c0 => ?_)
            · refine g_lload4 hX d_M_few_182 ?_
              refine g_lret hX hF d_M_few_184 (by omega) (by omega) ?_
              obtain rfl : i = k := by omega
              rw [few_ok hk1 hk2 hn1]
              exact ⟨rfl, h.keep (by repeat (first | exact Scr.rf _ | refine Scr.I9 (by decide) ?_ | refine Scr.I (by decide) ?_ | refine Scr.A (by decide) ?_ | refine Scr.J9 ?_ | refine Scr.J (by decide) ?_ | refine Scr.B (by decide) ?_)), (by repeat (first | exact FrM.rf _ | refine FrM.I (by decide) ?_ | refine FrM.A (by decide) ?_ | refine FrM.B (by decide) ?_ | refine FrM.J9 ?_ | refine FrM.J (by decide) ?_))⟩
            · refine g_lload4 hX d_M_few_164 ?_
              refine g_aload0 hX d_M_few_166 ?_
              refine g_getF hX d_M_few_167 fl_M_144 (lv_89 _) ?_
              refine g_iload6 hX d_M_few_170 ?_
              refine g_lald hX d_M_few_172 (lv_124 _) rfl (by omega) ?_
              refine g_topl (show rJ (sB (sI w 89 0 (nI 0)) 124 f) 124 i = lN (fewP (gT (sG s) 1) n i) by rw [rJ_sB]; exact hf i (by omega)) ?_
              refine g_ladd hX d_M_few_173 ?_
              refine g_topl (y := lN (fewS (gT (sG s) 1) n (i + 1))) (by rw [lN_add]; rfl) ?_
              refine g_lstore4 hX d_M_few_174 rfl (by decide) ?_
              refine g_iincN6 hX d_M_few_176 rfl (by decide) ?_
              refine g_goto hX d_M_few_179 ?_
              exact ih (i + 1) (by omega) (by omega)
        refine g_lconst (v := lN 0) hX d_M_few_152 rfl ?_
        refine g_lstore4 hX d_M_few_153 rfl (by decide) ?_
        refine g_iconst (v := nI 0) hX d_M_few_155 rfl ?_
        refine g_istore6 hX d_M_few_156 rfl (by decide) ?_
        exact lpD (k + 1) 0 (by omega) (by omega)
      have lpB : ∀ (fuel : Nat) (m : Nat) (f : Nat → Int64), n - m < fuel → (m ≤ n) → (∀ j, j < k → f j = lN (fewP (gT (sG s) 1) m j)) → G0 E X 0 0 75 [.ref 89, .int (nI k), .int (nI n), .int (nI (gT (sG s) 1)), .int (nI m), un, un, un] [] (sB (sI w 89 0 (nI 0)) 124 f) := by
        intro fuel
        induction fuel with
        | zero => intro m f q0; exact absurd q0 (Nat.not_lt_zero _)
        | succ fuel ih =>
          intro m f q0 q1 q2
          refine g_iload4 hX d_M_few_75 ?_
          refine g_iload2 hX d_M_few_77 ?_
          refine g_icmpN_ge hX d_M_few_78 (by omega) (by omega) (fun c0 => ?_) (fun c0 => ?_)
          · exact kE m f (fun j hj => by rw [q2 j hj, show m = n by omega])
          · have lpC : ∀ (i : Nat) (f : Nat → Int64), i ≤ k → (∀ j, j < i → f j = lN (fewP (gT (sG s) 1) m j)) → (∀ j, j = i → j < k → f j = lN (fewP (gT (sG s) 1) m j * (10 - (gT (sG s) 1)) / 10)) → (∀ j, i < j → j < k → f j = lN (fewP (gT (sG s) 1) (m + 1) j)) → G0 E X 0 0 86 [.ref 89, .int (nI k), .int (nI n), .int (nI (gT (sG s) 1)), .int (nI m), .int (nI i - nI 1), un, un] [] (sB (sI w 89 0 (nI 0)) 124 f) := by
              have ihB := ih
              intro i
              induction i with
              | zero =>
                intro f c0 c1 c2 c3
                refine g_iload5 hX d_M_few_86 ?_
                refine g_if_lt hX d_M_few_88 (fun c0 => ?_) (fun h => absurd (by decide) h)
                refine g_iincN4 hX d_M_few_146 rfl (by decide) ?_
                refine g_goto hX d_M_few_149 ?_
                refine g_fget 5 ?_
                refine ihB (m + 1) f (by omega) (by omega) (fun j hj => ?_)
                by_cases h0 : j = 0
                · rw [c2 j h0 hj, h0]
                  rfl
                · exact c3 j (by omega) hj
              | succ i ihC =>
                intro f c0 c1 c2 c3
                refine g_loc (L2 := [.ref 89, .int (nI k), .int (nI n), .int (nI (gT (sG s) 1)), .int (nI m), .int (nI i), un, un]) (by rw [m1_nI]) ?_
                refine g_iload5 hX d_M_few_86 ?_
                refine g_if_lt hX d_M_few_88 (fun h => absurd h (nI_pos (by omega))) (fun c0 => ?_)
                refine g_aload0 hX d_M_few_91 ?_
                refine g_getF hX d_M_few_92 fl_M_144 (lv_89 _) ?_
                refine g_iload5 hX d_M_few_95 ?_
                refine g_lald hX d_M_few_97 (lv_124 _) rfl (by omega) ?_
                refine g_topl (show rJ (sB (sI w 89 0 (nI 0)) 124 f) 124 i = lN (fewP (gT (sG s) 1) m i) by rw [rJ_sB]; exact c1 i (by omega)) ?_
                refine g_lstore6 hX d_M_few_98 rfl (by decide) ?_
                refine g_aload0 hX d_M_few_100 ?_
                refine g_getF hX d_M_few_101 fl_M_144 (lv_89 _) ?_
                refine g_iload5 hX d_M_few_104 ?_
                refine g_lload6 hX d_M_few_106 ?_
                refine g_bipush (v := nI 10) hX d_M_few_108 rfl ?_
                refine g_iload3 hX d_M_few_110 ?_
                refine g_isubN hX d_M_few_111 (by omega) ?_
                refine g_i2l hX d_M_few_112 ?_
                refine g_topl (nI_l (by omega)) ?_
                refine g_lmul hX d_M_few_113 ?_
                refine g_ldc2 (v := lN 10) hX d_M_few_114 k_M_236 rfl ?_
                refine g_ldiv hX d_M_few_117 (by decide) ?_
                refine g_topl (fw_mul (fewP_le hS m i) (by omega)) ?_
                refine g_last hX d_M_few_118 (lv_124 _) rfl (by omega) ?_
                refine g_aload0 hX d_M_few_119 ?_
                refine g_getF hX d_M_few_120 fl_M_144 (lv_89 _) ?_
                refine g_iload5 hX d_M_few_123 ?_
                refine g_iconst (v := nI 1) hX d_M_few_125 rfl ?_
                refine g_iaddN hX d_M_few_126 ?_
                refine g_dup2 hX d_M_few_127 rfl rfl ?_
                refine g_lald hX d_M_few_128 (lv_124 _) rfl (by omega) ?_
                refine g_topl (y := f (i + 1)) (by rw [sJ_sB, rJ_sB, updL_eq, if_neg (by omega)]) ?_
                refine g_lload6 hX d_M_few_129 ?_
                refine g_iload3 hX d_M_few_131 ?_
                refine g_i2l hX d_M_few_132 ?_
                refine g_topl (nI_l (by omega)) ?_
                refine g_lmul hX d_M_few_133 ?_
                refine g_ldc2 (v := lN 10) hX d_M_few_134 k_M_236 rfl ?_
                refine g_ldiv hX d_M_few_137 (by decide) ?_
                refine g_topl (fw_mul (fewP_le hS m i) hS) ?_
                refine g_ladd hX d_M_few_138 ?_
                refine g_last hX d_M_few_139 (lv_124 _) rfl (by omega) ?_
                refine g_iinc5 hX d_M_few_140 (v := nI i - nI 1) (by rw [Int32.sub_eq_add_neg]; rfl) rfl (by decide) ?_
                refine g_goto hX d_M_few_143 ?_
                refine g_fget 6 ?_
                rw [sJ_sB, sJ_sB]
                refine ihC _ (by omega) (fun j hj => ?_) (fun j h0 hj => ?_) (fun j h0 hj => ?_)
                · rw [updL_eq, updL_eq, if_neg (by omega), if_neg (by omega)]
                  exact c1 j (by omega)
                · rw [updL_eq, updL_eq, if_neg (by omega), if_pos h0, h0]
                · rw [updL_eq]
                  by_cases h1 : j = i + 1
                  · rw [if_pos h1, c2 (i + 1) rfl (by omega), lN_add, h1]
                    congr 1
                  · rw [if_neg h1, updL_eq, if_neg (by omega)]
                    exact c3 j (by omega) hj
            refine g_iload1 hX d_M_few_81 ?_
            refine g_iconst (v := nI 1) hX d_M_few_82 rfl ?_
            refine g_isub hX d_M_few_83 ?_
            refine g_istore5 hX d_M_few_84 rfl (by decide) ?_
            exact lpC k f (Nat.le_refl k) (fun j hj => q2 j hj) (fun j h1 h2 => by omega) (fun j h1 h2 => by omega)
      have kA : ∀ (i : Nat) (f : Nat → Int64), (∀ j, j < 21 → f j = lN (fewP (gT (sG s) 1) 0 j)) → G0 E X 0 0 64 [.ref 89, .int (nI k), .int (nI n), .int (nI i), un, un, un, un] [] (sB (sI w 89 0 (nI 0)) 124 f) := by
        intro i f hf
        refine g_aload0 hX d_M_few_64 ?_
        refine g_getF hX d_M_few_65 fl_M_13 (lv_89 _) ?_
        refine g_bipush (v := nI 7) hX d_M_few_68 rfl ?_
        refine g_iald hX d_M_few_70 (lv_91 _) rfl (by decide) ?_
        refine g_topi (show rI w 91 (6 + 1) = _ from hR.t 1 (by decide)) ?_
        refine g_istore3 hX d_M_few_71 rfl (by decide) ?_
        refine g_iconst (v := nI 0) hX d_M_few_72 rfl ?_
        refine g_istore4 hX d_M_few_73 rfl (by decide) ?_
        exact lpB (n + 1) 0 f (by omega) (by omega) (fun j hj => hf j (by omega))
      have lpA : ∀ (fuel : Nat) (i : Nat) (f : Nat → Int64), 21 - i < fuel → (i ≤ 21) → (∀ j, j < i → f j = lN (fewP (gT (sG s) 1) 0 j)) → G0 E X 0 0 35 [.ref 89, .int (nI k), .int (nI n), .int (nI i), un, un, un, un] [] (sB (sI w 89 0 (nI 0)) 124 f) := by
        intro fuel
        induction fuel with
        | zero => intro i f q0; exact absurd q0 (Nat.not_lt_zero _)
        | succ fuel ih =>
          intro i f q0 q1 q2
          refine g_iload3 hX d_M_few_35 ?_
          refine g_bipush (v := nI 21) hX d_M_few_36 rfl ?_
          refine g_icmpN_ge hX d_M_few_38 (by omega) (by omega) (fun c0 => ?_) (fun c0 => ?_)
          · exact kA i f (fun j hj => q2 j (by omega))
          · refine g_aload0 hX d_M_few_41 ?_
            refine g_getF hX d_M_few_42 fl_M_144 (lv_89 _) ?_
            refine g_iload3 hX d_M_few_45 ?_
            refine g_iload3 hX d_M_few_46 ?_
            refine g_if_ne hX d_M_few_47 (fun e47 => ?_) (fun e47 => ?_)
            · refine g_lconst (v := lN 0) hX d_M_few_56 rfl ?_
              refine g_last hX d_M_few_57 (lv_124 _) rfl (by omega) ?_
              refine g_iincN3 hX d_M_few_58 rfl (by decide) ?_
              refine g_goto hX d_M_few_61 ?_
              rw [sJ_sB]
              refine ih (i + 1) _ (by omega) (by omega) (fun j hj => ?_)
              rw [updL_eq]
              by_cases hji : j = i
              · rw [if_pos hji, hji]
                unfold fewP
                first
                  | rw [if_pos (nI_inj (by omega) (by decide) e47)]
                  | rw [if_neg (fun z => e47 (by rw [z]; rfl))]
              · rw [if_neg hji]
                exact q2 j (by omega)
            · refine g_ldc2 (v := lN 1000000000000) hX d_M_few_50 k_M_560 rfl ?_
              refine g_goto hX d_M_few_53 ?_
              refine g_last hX d_M_few_57 (lv_124 _) rfl (by omega) ?_
              refine g_iincN3 hX d_M_few_58 rfl (by decide) ?_
              refine g_goto hX d_M_few_61 ?_
              rw [sJ_sB]
              refine ih (i + 1) _ (by omega) (by omega) (fun j hj => ?_)
              rw [updL_eq]
              by_cases hji : j = i
              · rw [if_pos hji, hji]
                unfold fewP
                first
                  | rw [if_pos (nI_inj (by omega) (by decide) e47)]
                  | rw [if_neg (fun z => e47 (by rw [z]; rfl))]
              · rw [if_neg hji]
                exact q2 j (by omega)
      refine g_iconst (v := nI 0) hX d_M_few_33 rfl ?_
      refine g_istore3 hX d_M_few_34 rfl (by decide) ?_
      refine g_mem (show _ = sB (sI w 89 0 (nI 0)) 124 (rJ (sI w 89 0 (nI 0)) 124) from (sB_self _ _).symm) ?_
      exact lpA 22 0 _ (by omega) (by omega) (fun j hj => absurd hj (Nat.not_lt_zero _))
    · have d26 := mt (in_le (by decide)).mpr e26
      refine g_ldc2 (v := -1) hX d_M_few_29 k_M_285 rfl ?_
      refine g_lret hX hF d_M_few_32 (by omega) (by omega) ?_
      rw [few_no (by first | exact fun z => d14 ⟨z.1, z.2.1⟩ | exact fun z => d26 z.2.2)]
      exact ⟨rfl, h.keep (by repeat (first | exact Scr.rf _ | refine Scr.I9 (by decide) ?_ | refine Scr.I (by decide) ?_ | refine Scr.A (by decide) ?_ | refine Scr.J9 ?_ | refine Scr.J (by decide) ?_ | refine Scr.B (by decide) ?_)), (by repeat (first | exact FrM.rf _ | refine FrM.I (by decide) ?_ | refine FrM.A (by decide) ?_ | refine FrM.B (by decide) ?_ | refine FrM.J9 ?_ | refine FrM.J (by decide) ?_))⟩
