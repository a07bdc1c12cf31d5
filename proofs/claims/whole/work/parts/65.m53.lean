def m_M_readPart : MR := (⟨"SubgraphDeskModel", "readPart", "()I"⟩, prog_14_method_55_code, 4, (some .int))
theorem cf_M_readPart : CF m_M_readPart 0 := ⟨gd 1895 (by decide +kernel) rfl, gd 151 (by decide +kernel) rfl, by decide +kernel, by decide, by decide +kernel⟩
theorem cv_M_readPart : CV m_M_readPart := ⟨gd 1894 (by decide +kernel) rfl, gd 86 (by decide +kernel) rfl⟩
theorem d_M_readPart_0 : Dc prog_14_method_55_code 0 (.aload_n 0) 1 1 := ⟨by decide +kernel, rfl⟩
theorem d_M_readPart_1 : Dc prog_14_method_55_code 1 (.bipush 91) 2 3 := ⟨by decide +kernel, rfl⟩
theorem d_M_readPart_3 : Dc prog_14_method_55_code 3 (.invokevirtual 329) 3 6 := ⟨by decide +kernel, rfl⟩
theorem d_M_readPart_6 : Dj prog_14_method_55_code 6 (.ifCond .eq 11) 9 11 17 := ⟨by decide +kernel, rfl, rfl⟩
theorem d_M_readPart_9 : Dc prog_14_method_55_code 9 (.aload_n 0) 1 10 := ⟨by decide +kernel, rfl⟩
theorem d_M_readPart_10 : Dc prog_14_method_55_code 10 (.bipush 32) 2 12 := ⟨by decide +kernel, rfl⟩
theorem d_M_readPart_12 : Dc prog_14_method_55_code 12 (.invokevirtual 332) 3 15 := ⟨by decide +kernel, rfl⟩
theorem d_M_readPart_15 : Dc prog_14_method_55_code 15 (.iconst 1) 1 16 := ⟨by decide +kernel, rfl⟩
theorem d_M_readPart_16 : Dc prog_14_method_55_code 16 (.ireturn) 1 17 := ⟨by decide +kernel, rfl⟩
theorem d_M_readPart_17 : Dc prog_14_method_55_code 17 (.aload_n 0) 1 18 := ⟨by decide +kernel, rfl⟩
theorem d_M_readPart_18 : Dc prog_14_method_55_code 18 (.getfield 335) 3 21 := ⟨by decide +kernel, rfl⟩
theorem d_M_readPart_21 : Dj prog_14_method_55_code 21 (.ifCond .eq 10) 24 10 31 := ⟨by decide +kernel, rfl, rfl⟩
theorem d_M_readPart_24 : Dc prog_14_method_55_code 24 (.aload_n 0) 1 25 := ⟨by decide +kernel, rfl⟩
theorem d_M_readPart_25 : Dc prog_14_method_55_code 25 (.invokevirtual 338) 3 28 := ⟨by decide +kernel, rfl⟩
theorem d_M_readPart_28 : Dj prog_14_method_55_code 28 (.goto 7) 31 7 35 := ⟨by decide +kernel, rfl, rfl⟩
theorem d_M_readPart_31 : Dc prog_14_method_55_code 31 (.aload_n 0) 1 32 := ⟨by decide +kernel, rfl⟩
theorem d_M_readPart_32 : Dc prog_14_method_55_code 32 (.invokevirtual 342) 3 35 := ⟨by decide +kernel, rfl⟩
theorem d_M_readPart_35 : Dc prog_14_method_55_code 35 (.istore_n 1) 1 36 := ⟨by decide +kernel, rfl⟩
theorem d_M_readPart_36 : Dc prog_14_method_55_code 36 (.aload_n 0) 1 37 := ⟨by decide +kernel, rfl⟩
theorem d_M_readPart_37 : Dc prog_14_method_55_code 37 (.getfield 278) 3 40 := ⟨by decide +kernel, rfl⟩
theorem d_M_readPart_40 : Dc prog_14_method_55_code 40 (.iconst 2) 1 41 := ⟨by decide +kernel, rfl⟩
theorem d_M_readPart_41 : Dj prog_14_method_55_code 41 (.if_icmp .ne 18) 44 18 59 := ⟨by decide +kernel, rfl, rfl⟩
theorem d_M_readPart_44 : Dc prog_14_method_55_code 44 (.aload_n 0) 1 45 := ⟨by decide +kernel, rfl⟩
theorem d_M_readPart_45 : Dc prog_14_method_55_code 45 (.getfield 268) 3 48 := ⟨by decide +kernel, rfl⟩
theorem d_M_readPart_48 : Dc prog_14_method_55_code 48 (.ldc2_w 345) 3 51 := ⟨by decide +kernel, rfl⟩
theorem d_M_readPart_51 : Dc prog_14_method_55_code 51 (.lcmp) 1 52 := ⟨by decide +kernel, rfl⟩
theorem d_M_readPart_52 : Dj prog_14_method_55_code 52 (.ifCond .gt 7) 55 7 59 := ⟨by decide +kernel, rfl, rfl⟩
theorem d_M_readPart_55 : Dc prog_14_method_55_code 55 (.iconst 1) 1 56 := ⟨by decide +kernel, rfl⟩
theorem d_M_readPart_56 : Dj prog_14_method_55_code 56 (.goto 4) 59 4 60 := ⟨by decide +kernel, rfl, rfl⟩
theorem d_M_readPart_59 : Dc prog_14_method_55_code 59 (.iconst 0) 1 60 := ⟨by decide +kernel, rfl⟩
theorem d_M_readPart_60 : Dc prog_14_method_55_code 60 (.istore_n 2) 1 61 := ⟨by decide +kernel, rfl⟩
theorem d_M_readPart_61 : Dc prog_14_method_55_code 61 (.aload_n 0) 1 62 := ⟨by decide +kernel, rfl⟩
theorem d_M_readPart_62 : Dc prog_14_method_55_code 62 (.iload_n 1) 1 63 := ⟨by decide +kernel, rfl⟩
theorem d_M_readPart_63 : Dc prog_14_method_55_code 63 (.iconst (-1)) 1 64 := ⟨by decide +kernel, rfl⟩
theorem d_M_readPart_64 : Dj prog_14_method_55_code 64 (.if_icmp .ne 7) 67 7 71 := ⟨by decide +kernel, rfl, rfl⟩
theorem d_M_readPart_67 : Dc prog_14_method_55_code 67 (.iload_n 2) 1 68 := ⟨by decide +kernel, rfl⟩
theorem d_M_readPart_68 : Dj prog_14_method_55_code 68 (.ifCond .eq 7) 71 7 75 := ⟨by decide +kernel, rfl, rfl⟩
theorem d_M_readPart_71 : Dc prog_14_method_55_code 71 (.iconst 1) 1 72 := ⟨by decide +kernel, rfl⟩
theorem d_M_readPart_72 : Dj prog_14_method_55_code 72 (.goto 4) 75 4 76 := ⟨by decide +kernel, rfl, rfl⟩
theorem d_M_readPart_75 : Dc prog_14_method_55_code 75 (.iconst 0) 1 76 := ⟨by decide +kernel, rfl⟩
theorem d_M_readPart_76 : Dc prog_14_method_55_code 76 (.iload_n 1) 1 77 := ⟨by decide +kernel, rfl⟩
theorem d_M_readPart_77 : Dc prog_14_method_55_code 77 (.iconst (-1)) 1 78 := ⟨by decide +kernel, rfl⟩
theorem d_M_readPart_78 : Dj prog_14_method_55_code 78 (.if_icmp .ne 7) 81 7 85 := ⟨by decide +kernel, rfl, rfl⟩
theorem d_M_readPart_81 : Dc prog_14_method_55_code 81 (.iconst 0) 1 82 := ⟨by decide +kernel, rfl⟩
theorem d_M_readPart_82 : Dj prog_14_method_55_code 82 (.goto 4) 85 4 86 := ⟨by decide +kernel, rfl, rfl⟩
theorem d_M_readPart_85 : Dc prog_14_method_55_code 85 (.iload_n 1) 1 86 := ⟨by decide +kernel, rfl⟩
theorem d_M_readPart_86 : Dc prog_14_method_55_code 86 (.iload_n 2) 1 87 := ⟨by decide +kernel, rfl⟩
theorem d_M_readPart_87 : Dj prog_14_method_55_code 87 (.ifCond .eq 11) 90 11 98 := ⟨by decide +kernel, rfl, rfl⟩
theorem d_M_readPart_90 : Dc prog_14_method_55_code 90 (.aload_n 0) 1 91 := ⟨by decide +kernel, rfl⟩
theorem d_M_readPart_91 : Dc prog_14_method_55_code 91 (.getfield 268) 3 94 := ⟨by decide +kernel, rfl⟩
theorem d_M_readPart_94 : Dc prog_14_method_55_code 94 (.l2i) 1 95 := ⟨by decide +kernel, rfl⟩
theorem d_M_readPart_95 : Dj prog_14_method_55_code 95 (.goto 4) 98 4 99 := ⟨by decide +kernel, rfl, rfl⟩
theorem d_M_readPart_98 : Dc prog_14_method_55_code 98 (.iconst 0) 1 99 := ⟨by decide +kernel, rfl⟩
theorem d_M_readPart_99 : Dc prog_14_method_55_code 99 (.invokevirtual 347) 3 102 := ⟨by decide +kernel, rfl⟩
theorem d_M_readPart_102 : Dc prog_14_method_55_code 102 (.aload_n 0) 1 103 := ⟨by decide +kernel, rfl⟩
theorem d_M_readPart_103 : Dc prog_14_method_55_code 103 (.getfield 335) 3 106 := ⟨by decide +kernel, rfl⟩
theorem d_M_readPart_106 : Dj prog_14_method_55_code 106 (.ifCond .eq 37) 109 37 143 := ⟨by decide +kernel, rfl, rfl⟩
theorem d_M_readPart_109 : Dc prog_14_method_55_code 109 (.iload_n 1) 1 110 := ⟨by decide +kernel, rfl⟩
theorem d_M_readPart_110 : Dc prog_14_method_55_code 110 (.bipush 6) 2 112 := ⟨by decide +kernel, rfl⟩
theorem d_M_readPart_112 : Dj prog_14_method_55_code 112 (.if_icmp .ne 31) 115 31 143 := ⟨by decide +kernel, rfl, rfl⟩
theorem d_M_readPart_115 : Dc prog_14_method_55_code 115 (.aload_n 0) 1 116 := ⟨by decide +kernel, rfl⟩
theorem d_M_readPart_116 : Dc prog_14_method_55_code 116 (.getfield 258) 3 119 := ⟨by decide +kernel, rfl⟩
theorem d_M_readPart_119 : Dj prog_14_method_55_code 119 (.ifCond .ne 24) 122 24 143 := ⟨by decide +kernel, rfl, rfl⟩
theorem d_M_readPart_122 : Dc prog_14_method_55_code 122 (.aload_n 0) 1 123 := ⟨by decide +kernel, rfl⟩
theorem d_M_readPart_123 : Dc prog_14_method_55_code 123 (.getfield 295) 3 126 := ⟨by decide +kernel, rfl⟩
theorem d_M_readPart_126 : Dc prog_14_method_55_code 126 (.iconst 1) 1 127 := ⟨by decide +kernel, rfl⟩
theorem d_M_readPart_127 : Dc prog_14_method_55_code 127 (.isub) 1 128 := ⟨by decide +kernel, rfl⟩
theorem d_M_readPart_128 : Dc prog_14_method_55_code 128 (.istore_n 3) 1 129 := ⟨by decide +kernel, rfl⟩
theorem d_M_readPart_129 : Dc prog_14_method_55_code 129 (.aload_n 0) 1 130 := ⟨by decide +kernel, rfl⟩
theorem d_M_readPart_130 : Dc prog_14_method_55_code 130 (.getfield 48) 3 133 := ⟨by decide +kernel, rfl⟩
theorem d_M_readPart_133 : Dc prog_14_method_55_code 133 (.iload_n 3) 1 134 := ⟨by decide +kernel, rfl⟩
theorem d_M_readPart_134 : Dc prog_14_method_55_code 134 (.aload_n 0) 1 135 := ⟨by decide +kernel, rfl⟩
theorem d_M_readPart_135 : Dc prog_14_method_55_code 135 (.lconst 0) 1 136 := ⟨by decide +kernel, rfl⟩
theorem d_M_readPart_136 : Dc prog_14_method_55_code 136 (.ldc2_w 351) 3 139 := ⟨by decide +kernel, rfl⟩
theorem d_M_readPart_139 : Dc prog_14_method_55_code 139 (.invokevirtual 353) 3 142 := ⟨by decide +kernel, rfl⟩
theorem d_M_readPart_142 : Dc prog_14_method_55_code 142 (.iastore) 1 143 := ⟨by decide +kernel, rfl⟩
theorem d_M_readPart_143 : Dc prog_14_method_55_code 143 (.iconst 3) 1 144 := ⟨by decide +kernel, rfl⟩
theorem d_M_readPart_144 : Dc prog_14_method_55_code 144 (.ireturn) 1 145 := ⟨by decide +kernel, rfl⟩
theorem ml_M_329 : Cond.methodLink "SubgraphDeskModel" 329 m_M_isSign.1 ∈ lw_gd := gd 1884 (by decide +kernel) rfl
theorem ml_M_332 : Cond.methodLink "SubgraphDeskModel" 332 m_M_openBracket.1 ∈ lw_gd := gd 1888 (by decide +kernel) rfl
theorem ml_M_338 : Cond.methodLink "SubgraphDeskModel" 338 m_M_orderPartAt.1 ∈ lw_gd := gd 1896 (by decide +kernel) rfl
theorem ml_M_342 : Cond.methodLink "SubgraphDeskModel" 342 m_M_partAt.1 ∈ lw_gd := gd 1900 (by decide +kernel) rfl
theorem ml_M_347 : Cond.methodLink "SubgraphDeskModel" 347 m_M_leaf.1 ∈ lw_gd := gd 1905 (by decide +kernel) rfl
theorem ml_M_353 : Cond.methodLink "SubgraphDeskModel" 353 m_M_number.1 ∈ lw_gd := gd 1914 (by decide +kernel) rfl
theorem k_M_345 : Cond.constantLong "SubgraphDeskModel" 345 (1000) ∈ lw_gd := gd 1904 (by decide +kernel) rfl
theorem k_M_351 : Cond.constantLong "SubgraphDeskModel" 351 (11) ∈ lw_gd := gd 1913 (by decide +kernel) rfl
def oB (o : Bool) : Nat := if o then 1 else 0
/-- what the reader needs to know of the rest -/
def RdC (w : Mem) (o : Bool) : Prop := rI w 89 20 = nI (oB o) ∧ MConst w
theorem RdC.fr {w w2 : Mem} {o : Bool} (h : RdC w o) (hf : FrR w w2) : RdC w2 o := by
  refine ⟨by rw [hf.2.1 20 (by decide) (by decide) (by decide) (by decide) (by decide) (by decide) (by decide) (by decide) (by decide)]; exact h.1, ?_⟩
  obtain ⟨h1, h2, h3, h4⟩ := h.2
  refine ⟨fun k hk => ?_, fun k hk => ?_, fun k hk => ?_, fun k hk => ?_⟩
  · rw [hf.2.2.1 104 (by decide)]; exact h1 k hk
  · rw [hf.2.2.1 105 (by decide)]; exact h2 k hk
  · rw [hf.2.2.1 106 (by decide)]; exact h3 k hk
  · rw [hf.2.2.1 125 (by decide)]; exact h4 k hk
theorem BadP.arg {w : Mem} {t : List Nat} {e k : Nat} {x : Int32} (h : BadP w t e) : BadP (sI w 101 k x) t e := by
  obtain ⟨h1, h2, h3, h4, c, s, h5, h6, h7⟩ := h
  refine ⟨h1, h2, h3, h4, if k < c.length then c.set k (cO c k, x.toBitVec.toNat) else c, s, ?_, h6.o (by decide) (by decide) (Or.inl (by decide)), ?_⟩
  · by_cases hk : k < c.length
    · rw [if_pos hk]
      refine ⟨by rw [List.length_set]; exact h5.1, fun j hj => ?_⟩
      rw [List.length_set] at hj
      rw [rI_sI_ne _ _ _ (by decide), rI_sI, upd_eq]
      by_cases e : j = k
      · rw [if_pos e, e, (cO_at hk).1, (cO_at hk).2]
        refine ⟨(h5.2 k hk).1, ?_⟩
        apply Int32.toBitVec_inj.mp
        show x.toBitVec = BitVec.ofNat 32 x.toBitVec.toNat
        rw [BitVec.ofNat_toNat, BitVec.setWidth_eq]
      · rw [if_neg e, (cO_set e).1, (cO_set e).2]; exact h5.2 j hj
    · rw [if_neg hk]
      refine ⟨h5.1, fun j hj => ?_⟩
      rw [rI_sI_ne _ _ _ (by decide), rI_sI, upd_eq, if_neg (by omega)]
      exact h5.2 j hj
  · split
    · refine ⟨by rw [List.length_set]; exact h7.1, fun q hq => ?_⟩
      rw [List.length_set]
      exact h7.2 q hq
    · exact h7
theorem c_M_readPart_numL {E : EV} {w : Mem} {t : List Nat} {f p : Nat} {c s : List (Nat × Nat)} {od : Nat} (h : RdP w t f p c s od) (hP : PileW c s) (hC : RdC w false) (hns : ¬ isS t f 91) (hlt : c.length < 400) (hp : p < 50) (hn : isN t f 0 1000) : T E m_M_readPart 4 0 0 [.ref 89] w (fun r w2 => r = some (.int (nI 3)) ∧ FrR w w2 ∧ RdP w2 t (nxT t f) (p + 1) (c ++ [(0, numC t f)]) s od) := by
  refine T_of (L := [.ref 89, un, un, un]) cf_M_readPart rfl (Nat.le_of_ble_eq_true rfl) (fun X hX hF => ?_)
  have hbw := h.1.b
  have hwn := num_wor (by decide) hn
  refine g_aload0 hX d_M_readPart_0 ?_
  refine g_bipush (v := nI 91) hX d_M_readPart_1 rfl ?_
  refine g_callV (As := [_]) hX hF.1 d_M_readPart_3 ml_M_329 cf_M_isSign cv_M_isSign rfl rfl (c_M_isSign h.1 (by decide)) (rcv_obj hX (lv_89 _) rfl rfl) (by omega) (by omega) (by omega) (Nat.le_of_ble_eq_true rfl) ?_
  refine ret_k ?_
  refine g_ifB_eq hX d_M_readPart_6 (fun c0 => ?_) (fun h => absurd h hns)
  refine g_aload0 hX d_M_readPart_17 ?_
  refine g_getZ hX d_M_readPart_18 fl_M_335 (lv_89 _) ?_
  refine g_topi hC.1 ?_
  refine g_if_eq hX d_M_readPart_21 (fun c1 => ?_) (fun h => absurd (by decide) h)
  refine g_aload0 hX d_M_readPart_31 ?_
  refine g_callV (As := []) hX hF.1 d_M_readPart_32 ml_M_342 cf_M_partAt cv_M_partAt rfl rfl (c_M_partAt h.1 hC.2.1) (rcv_obj hX (lv_89 _) rfl rfl) (by omega) (by omega) (by omega) (Nat.le_of_ble_eq_true rfl) ?_
  refine ret_k ?_
  refine g_topi (parts_srt (o := false) (by have := hn.1; omega)) ?_
  refine g_istore1 hX d_M_readPart_35 rfl (by decide) ?_
  refine g_aload0 hX d_M_readPart_36 ?_
  refine g_getI hX d_M_readPart_37 fl_M_278 (lv_89 _) ?_
  refine g_topi h.1.2.2.2.1 ?_
  refine g_iconst (v := nI 2) hX d_M_readPart_40 rfl ?_
  refine g_icmpN_ne hX d_M_readPart_41 (by omega) (by omega) (fun h => absurd (by have := hn.1; omega) h) (fun c2 => ?_)
  refine g_aload0 hX d_M_readPart_44 ?_
  refine g_getJ hX d_M_readPart_45 fl_M_268 (lv_89 _) ?_
  refine g_topl h.1.2.2.2.2.1 ?_
  refine g_ldc2 (v := lN 1000) hX d_M_readPart_48 k_M_345 rfl ?_
  refine g_lcmp_gt hX d_M_readPart_51 d_M_readPart_52 (fun h => absurd h (fun z => by
      rw [show lN 1000 = lI 1000 from rfl, lI_lt (by omega) (by omega)] at z
      have := (num0 hn.1).mp hn
      omega)) (fun c3 => ?_)
  refine g_iconst (v := nI 1) hX d_M_readPart_55 rfl ?_
  refine g_goto hX d_M_readPart_56 ?_
  refine g_istore2 hX d_M_readPart_60 rfl (by decide) ?_
  refine g_aload0 hX d_M_readPart_61 ?_
  refine g_iload1 hX d_M_readPart_62 ?_
  refine g_iconst (v := -1) hX d_M_readPart_63 rfl ?_
  refine g_icmp_ne hX d_M_readPart_64 (fun h => absurd rfl h) (fun c4 => ?_)
  refine g_iload2 hX d_M_readPart_67 ?_
  refine g_if_eq hX d_M_readPart_68 (fun h => absurd h (by decide)) (fun c5 => ?_)
  refine g_iconst (v := nI 1) hX d_M_readPart_71 rfl ?_
  refine g_goto hX d_M_readPart_72 ?_
  refine g_iload1 hX d_M_readPart_76 ?_
  refine g_iconst (v := -1) hX d_M_readPart_77 rfl ?_
  refine g_icmp_ne hX d_M_readPart_78 (fun h => absurd rfl h) (fun c6 => ?_)
  refine g_iconst (v := nI 0) hX d_M_readPart_81 rfl ?_
  refine g_goto hX d_M_readPart_82 ?_
  refine g_iload2 hX d_M_readPart_86 ?_
  refine g_if_eq hX d_M_readPart_87 (fun h => absurd h (by decide)) (fun c7 => ?_)
  refine g_aload0 hX d_M_readPart_90 ?_
  refine g_getJ hX d_M_readPart_91 fl_M_268 (lv_89 _) ?_
  refine g_topl h.1.2.2.2.2.1 ?_
  refine g_l2i hX d_M_readPart_94 ?_
  refine g_topi (y := nI (numC t f)) (by rw [hwn]; exact lN_i _) ?_
  refine g_goto hX d_M_readPart_95 ?_
  refine g_callV (As := [_, _, _]) hX hF.1 d_M_readPart_99 ml_M_347 cf_M_leaf cv_M_leaf rfl rfl (c_M_leafY (a := 0) (b := numC t f) h hP hlt hp) (rcv_obj hX (lv_89 _) rfl rfl) (by omega) (by omega) (by omega) (Nat.le_of_ble_eq_true rfl) ?_
  rintro _ w2 ⟨rfl, hf, h2⟩
  have hor := (hC.fr hf).1
  show G0 _ _ _ _ _ _ _ _
  refine g_aload0 hX d_M_readPart_102 ?_
  refine g_getZ hX d_M_readPart_103 fl_M_335 (lv_89 _) ?_
  refine g_topi hor ?_
  refine g_if_eq hX d_M_readPart_106 (fun c8 => ?_) (fun h => absurd (by decide) h)
  refine g_iconst (v := nI 3) hX d_M_readPart_143 rfl ?_
  refine g_iret hX hF d_M_readPart_144 (by omega) (by omega) ?_
  exact ⟨rfl, hf, h2⟩
theorem c_M_readPart_wordL {E : EV} {w : Mem} {t : List Nat} {f p : Nat} {c s : List (Nat × Nat)} {od : Nat} (h : RdP w t f p c s od) (hP : PileW c s) (hC : RdC w false) (hns : ¬ isS t f 91) (hlt : c.length < 400) (hp : p < 50) {k : Nat} (hk : k < (partsL false).length) (hw : isW t f (gA2 (partsL false) k)) : T E m_M_readPart 4 0 0 [.ref 89] w (fun r w2 => r = some (.int (nI 3)) ∧ FrR w w2 ∧ RdP w2 t (nxT t f) (p + 1) (c ++ [(k + 1, 0)]) s od) := by
  refine T_of (L := [.ref 89, un, un, un]) cf_M_readPart rfl (Nat.le_of_ble_eq_true rfl) (fun X hX hF => ?_)
  have hk7 : k < 7 := Nat.lt_of_lt_of_le hk (by decide)
  refine g_aload0 hX d_M_readPart_0 ?_
  refine g_bipush (v := nI 91) hX d_M_readPart_1 rfl ?_
  refine g_callV (As := [_]) hX hF.1 d_M_readPart_3 ml_M_329 cf_M_isSign cv_M_isSign rfl rfl (c_M_isSign h.1 (by decide)) (rcv_obj hX (lv_89 _) rfl rfl) (by omega) (by omega) (by omega) (Nat.le_of_ble_eq_true rfl) ?_
  refine ret_k ?_
  refine g_ifB_eq hX d_M_readPart_6 (fun c0 => ?_) (fun h => absurd h hns)
  refine g_aload0 hX d_M_readPart_17 ?_
  refine g_getZ hX d_M_readPart_18 fl_M_335 (lv_89 _) ?_
  refine g_topi hC.1 ?_
  refine g_if_eq hX d_M_readPart_21 (fun c1 => ?_) (fun h => absurd (by decide) h)
  refine g_aload0 hX d_M_readPart_31 ?_
  refine g_callV (As := []) hX hF.1 d_M_readPart_32 ml_M_342 cf_M_partAt cv_M_partAt rfl rfl (c_M_partAt h.1 hC.2.1) (rcv_obj hX (lv_89 _) rfl rfl) (by omega) (by omega) (by omega) (Nat.le_of_ble_eq_true rfl) ?_
  refine ret_k ?_
  refine g_topi (parts_at hk hw) ?_
  refine g_istore1 hX d_M_readPart_35 rfl (by decide) ?_
  refine g_aload0 hX d_M_readPart_36 ?_
  refine g_getI hX d_M_readPart_37 fl_M_278 (lv_89 _) ?_
  refine g_topi h.1.2.2.2.1 ?_
  refine g_iconst (v := nI 2) hX d_M_readPart_40 rfl ?_
  refine g_icmpN_ne hX d_M_readPart_41 (by omega) (by omega) (fun c2 => ?_) (fun h => absurd h (by have := hw.1; omega))
  refine g_iconst (v := nI 0) hX d_M_readPart_59 rfl ?_
  refine g_istore2 hX d_M_readPart_60 rfl (by decide) ?_
  refine g_aload0 hX d_M_readPart_61 ?_
  refine g_iload1 hX d_M_readPart_62 ?_
  refine g_iconst (v := -1) hX d_M_readPart_63 rfl ?_
  refine g_icmp_ne hX d_M_readPart_64 (fun c3 => ?_) (fun h => absurd h (nI_m1 (by omega)))
  refine g_iconst (v := nI 1) hX d_M_readPart_71 rfl ?_
  refine g_goto hX d_M_readPart_72 ?_
  refine g_iload1 hX d_M_readPart_76 ?_
  refine g_iconst (v := -1) hX d_M_readPart_77 rfl ?_
  refine g_icmp_ne hX d_M_readPart_78 (fun c4 => ?_) (fun h => absurd h (nI_m1 (by omega)))
  refine g_iload1 hX d_M_readPart_85 ?_
  refine g_iload2 hX d_M_readPart_86 ?_
  refine g_if_eq hX d_M_readPart_87 (fun c5 => ?_) (fun h => absurd (by decide) h)
  refine g_iconst (v := nI 0) hX d_M_readPart_98 rfl ?_
  refine g_callV (As := [_, _, _]) hX hF.1 d_M_readPart_99 ml_M_347 cf_M_leaf cv_M_leaf rfl rfl (c_M_leafY (a := k + 1) (b := 0) h hP hlt hp) (rcv_obj hX (lv_89 _) rfl rfl) (by omega) (by omega) (by omega) (Nat.le_of_ble_eq_true rfl) ?_
  rintro _ w2 ⟨rfl, hf, h2⟩
  have hor := (hC.fr hf).1
  show G0 _ _ _ _ _ _ _ _
  refine g_aload0 hX d_M_readPart_102 ?_
  refine g_getZ hX d_M_readPart_103 fl_M_335 (lv_89 _) ?_
  refine g_topi hor ?_
  refine g_if_eq hX d_M_readPart_106 (fun c6 => ?_) (fun h => absurd (by decide) h)
  refine g_iconst (v := nI 3) hX d_M_readPart_143 rfl ?_
  refine g_iret hX hF d_M_readPart_144 (by omega) (by omega) ?_
  exact ⟨rfl, hf, h2⟩
theorem c_M_readPart_noL {E : EV} {w : Mem} {t : List Nat} {f p : Nat} {c s : List (Nat × Nat)} {od : Nat} (h : RdP w t f p c s od) (hP : PileW c s) (hC : RdC w false) (hns : ¬ isS t f 91) (hn : ¬ isN t f 0 1000) (hno : ∀ k, k < (partsL false).length → ¬ isW t f (gA2 (partsL false) k)) : T E m_M_readPart 4 0 0 [.ref 89] w (fun r w2 => r = some (.int (nI 3)) ∧ FrR w w2 ∧ BadP w2 t f) := by
  refine T_of (L := [.ref 89, un, un, un]) cf_M_readPart rfl (Nat.le_of_ble_eq_true rfl) (fun X hX hF => ?_)
  have hbw := h.1.b
  have hsl := srt_le t f
  refine g_aload0 hX d_M_readPart_0 ?_
  refine g_bipush (v := nI 91) hX d_M_readPart_1 rfl ?_
  refine g_callV (As := [_]) hX hF.1 d_M_readPart_3 ml_M_329 cf_M_isSign cv_M_isSign rfl rfl (c_M_isSign h.1 (by decide)) (rcv_obj hX (lv_89 _) rfl rfl) (by omega) (by omega) (by omega) (Nat.le_of_ble_eq_true rfl) ?_
  refine ret_k ?_
  refine g_ifB_eq hX d_M_readPart_6 (fun c0 => ?_) (fun h => absurd h hns)
  refine g_aload0 hX d_M_readPart_17 ?_
  refine g_getZ hX d_M_readPart_18 fl_M_335 (lv_89 _) ?_
  refine g_topi hC.1 ?_
  refine g_if_eq hX d_M_readPart_21 (fun c1 => ?_) (fun h => absurd (by decide) h)
  refine g_aload0 hX d_M_readPart_31 ?_
  refine g_callV (As := []) hX hF.1 d_M_readPart_32 ml_M_342 cf_M_partAt cv_M_partAt rfl rfl (c_M_partAt h.1 hC.2.1) (rcv_obj hX (lv_89 _) rfl rfl) (by omega) (by omega) (by omega) (Nat.le_of_ble_eq_true rfl) ?_
  refine ret_k ?_
  refine g_topi (pK_no _ hno) ?_
  refine g_istore1 hX d_M_readPart_35 rfl (by decide) ?_
  refine g_aload0 hX d_M_readPart_36 ?_
  refine g_getI hX d_M_readPart_37 fl_M_278 (lv_89 _) ?_
  refine g_topi h.1.2.2.2.1 ?_
  refine g_iconst (v := nI 2) hX d_M_readPart_40 rfl ?_
  refine g_icmpN_ne hX d_M_readPart_41 (by omega) (by omega) (fun e41 => ?_) (fun e41 => ?_)
  · refine g_iconst (v := nI 0) hX d_M_readPart_59 rfl ?_
    refine g_istore2 hX d_M_readPart_60 rfl (by decide) ?_
    refine g_aload0 hX d_M_readPart_61 ?_
    refine g_iload1 hX d_M_readPart_62 ?_
    refine g_iconst (v := -1) hX d_M_readPart_63 rfl ?_
    refine g_icmp_ne hX d_M_readPart_64 (fun h => absurd rfl h) (fun c3 => ?_)
    refine g_iload2 hX d_M_readPart_67 ?_
    refine g_if_eq hX d_M_readPart_68 (fun c4 => ?_) (fun h => absurd (by decide) h)
    refine g_iconst (v := nI 0) hX d_M_readPart_75 rfl ?_
    refine g_iload1 hX d_M_readPart_76 ?_
    refine g_iconst (v := -1) hX d_M_readPart_77 rfl ?_
    refine g_icmp_ne hX d_M_readPart_78 (fun h => absurd rfl h) (fun c5 => ?_)
    refine g_iconst (v := nI 0) hX d_M_readPart_81 rfl ?_
    refine g_goto hX d_M_readPart_82 ?_
    refine g_iload2 hX d_M_readPart_86 ?_
    refine g_if_eq hX d_M_readPart_87 (fun c6 => ?_) (fun h => absurd (by decide) h)
    refine g_iconst (v := nI 0) hX d_M_readPart_98 rfl ?_
    refine g_callV (As := [_, _, _]) hX hF.1 d_M_readPart_99 ml_M_347 cf_M_leaf cv_M_leaf rfl rfl (c_M_leafN0 h hP) (rcv_obj hX (lv_89 _) rfl rfl) (by omega) (by omega) (by omega) (Nat.le_of_ble_eq_true rfl) ?_
    refine ret_k ?_
    refine g_aload0 hX d_M_readPart_102 ?_
    refine g_getZ hX d_M_readPart_103 fl_M_335 (lv_89 _) ?_
    refine g_topi (hC.fr ((FrR.rf w).bad)).1 ?_
    refine g_if_eq hX d_M_readPart_106 (fun c7 => ?_) (fun h => absurd (by decide) h)
    refine g_iconst (v := nI 3) hX d_M_readPart_143 rfl ?_
    refine g_iret hX hF d_M_readPart_144 (by omega) (by omega) ?_
    exact ⟨rfl, (FrR.rf w).bad, h.bad hP⟩
  · have hgt : lN 1000 < lI (worI t f) := by
      rw [show lN 1000 = lI 1000 from rfl, lI_lt (by omega) (by omega)]
      have := mt (num0 e41).mpr hn
      omega
    refine g_aload0 hX d_M_readPart_44 ?_
    refine g_getJ hX d_M_readPart_45 fl_M_268 (lv_89 _) ?_
    refine g_topl h.1.2.2.2.2.1 ?_
    refine g_ldc2 (v := lN 1000) hX d_M_readPart_48 k_M_345 rfl ?_
    refine g_lcmp_gt hX d_M_readPart_51 d_M_readPart_52 (fun c8 => ?_) (fun h => absurd hgt h)
    refine g_iconst (v := nI 0) hX d_M_readPart_59 rfl ?_
    refine g_istore2 hX d_M_readPart_60 rfl (by decide) ?_
    refine g_aload0 hX d_M_readPart_61 ?_
    refine g_iload1 hX d_M_readPart_62 ?_
    refine g_iconst (v := -1) hX d_M_readPart_63 rfl ?_
    refine g_icmp_ne hX d_M_readPart_64 (fun h => absurd rfl h) (fun c9 => ?_)
    refine g_iload2 hX d_M_readPart_67 ?_
    refine g_if_eq hX d_M_readPart_68 (fun c10 => ?_) (fun h => absurd (by decide) h)
    refine g_iconst (v := nI 0) hX d_M_readPart_75 rfl ?_
    refine g_iload1 hX d_M_readPart_76 ?_
    refine g_iconst (v := -1) hX d_M_readPart_77 rfl ?_
    refine g_icmp_ne hX d_M_readPart_78 (fun h => absurd rfl h) (fun c11 => ?_)
    refine g_iconst (v := nI 0) hX d_M_readPart_81 rfl ?_
    refine g_goto hX d_M_readPart_82 ?_
    refine g_iload2 hX d_M_readPart_86 ?_
    refine g_if_eq hX d_M_readPart_87 (fun c12 => ?_) (fun h => absurd (by decide) h)
    refine g_iconst (v := nI 0) hX d_M_readPart_98 rfl ?_
    refine g_callV (As := [_, _, _]) hX hF.1 d_M_readPart_99 ml_M_347 cf_M_leaf cv_M_leaf rfl rfl (c_M_leafN0 h hP) (rcv_obj hX (lv_89 _) rfl rfl) (by omega) (by omega) (by omega) (Nat.le_of_ble_eq_true rfl) ?_
    refine ret_k ?_
    refine g_aload0 hX d_M_readPart_102 ?_
    refine g_getZ hX d_M_readPart_103 fl_M_335 (lv_89 _) ?_
    refine g_topi (hC.fr ((FrR.rf w).bad)).1 ?_
    refine g_if_eq hX d_M_readPart_106 (fun c13 => ?_) (fun h => absurd (by decide) h)
    refine g_iconst (v := nI 3) hX d_M_readPart_143 rfl ?_
    refine g_iret hX hF d_M_readPart_144 (by omega) (by omega) ?_
    exact ⟨rfl, (FrR.rf w).bad, h.bad hP⟩
theorem c_M_readPart_numFL {E : EV} {w : Mem} {t : List Nat} {f p : Nat} {c s : List (Nat × Nat)} {od : Nat} (h : RdP w t f p c s od) (hP : PileW c s) (hC : RdC w false) (hns : ¬ isS t f 91) (hp : 50 ≤ p) (hp2 : p < 100) (hn : isN t f 0 1000) : T E m_M_readPart 4 0 0 [.ref 89] w (fun r w2 => r = some (.int (nI 3)) ∧ FrR w w2 ∧ BadP w2 t f) := by
  refine T_of (L := [.ref 89, un, un, un]) cf_M_readPart rfl (Nat.le_of_ble_eq_true rfl) (fun X hX hF => ?_)
  have hbw := h.1.b
  have hwn := num_wor (by decide) hn
  refine g_aload0 hX d_M_readPart_0 ?_
  refine g_bipush (v := nI 91) hX d_M_readPart_1 rfl ?_
  refine g_callV (As := [_]) hX hF.1 d_M_readPart_3 ml_M_329 cf_M_isSign cv_M_isSign rfl rfl (c_M_isSign h.1 (by decide)) (rcv_obj hX (lv_89 _) rfl rfl) (by omega) (by omega) (by omega) (Nat.le_of_ble_eq_true rfl) ?_
  refine ret_k ?_
  refine g_ifB_eq hX d_M_readPart_6 (fun c0 => ?_) (fun h => absurd h hns)
  refine g_aload0 hX d_M_readPart_17 ?_
  refine g_getZ hX d_M_readPart_18 fl_M_335 (lv_89 _) ?_
  refine g_topi hC.1 ?_
  refine g_if_eq hX d_M_readPart_21 (fun c1 => ?_) (fun h => absurd (by decide) h)
  refine g_aload0 hX d_M_readPart_31 ?_
  refine g_callV (As := []) hX hF.1 d_M_readPart_32 ml_M_342 cf_M_partAt cv_M_partAt rfl rfl (c_M_partAt h.1 hC.2.1) (rcv_obj hX (lv_89 _) rfl rfl) (by omega) (by omega) (by omega) (Nat.le_of_ble_eq_true rfl) ?_
  refine ret_k ?_
  refine g_topi (parts_srt (o := false) (by have := hn.1; omega)) ?_
  refine g_istore1 hX d_M_readPart_35 rfl (by decide) ?_
  refine g_aload0 hX d_M_readPart_36 ?_
  refine g_getI hX d_M_readPart_37 fl_M_278 (lv_89 _) ?_
  refine g_topi h.1.2.2.2.1 ?_
  refine g_iconst (v := nI 2) hX d_M_readPart_40 rfl ?_
  refine g_icmpN_ne hX d_M_readPart_41 (by omega) (by omega) (fun h => absurd (by have := hn.1; omega) h) (fun c2 => ?_)
  refine g_aload0 hX d_M_readPart_44 ?_
  refine g_getJ hX d_M_readPart_45 fl_M_268 (lv_89 _) ?_
  refine g_topl h.1.2.2.2.2.1 ?_
  refine g_ldc2 (v := lN 1000) hX d_M_readPart_48 k_M_345 rfl ?_
  refine g_lcmp_gt hX d_M_readPart_51 d_M_readPart_52 (fun h => absurd h (fun z => by
      rw [show lN 1000 = lI 1000 from rfl, lI_lt (by omega) (by omega)] at z
      have := (num0 hn.1).mp hn
      omega)) (fun c3 => ?_)
  refine g_iconst (v := nI 1) hX d_M_readPart_55 rfl ?_
  refine g_goto hX d_M_readPart_56 ?_
  refine g_istore2 hX d_M_readPart_60 rfl (by decide) ?_
  refine g_aload0 hX d_M_readPart_61 ?_
  refine g_iload1 hX d_M_readPart_62 ?_
  refine g_iconst (v := -1) hX d_M_readPart_63 rfl ?_
  refine g_icmp_ne hX d_M_readPart_64 (fun h => absurd rfl h) (fun c4 => ?_)
  refine g_iload2 hX d_M_readPart_67 ?_
  refine g_if_eq hX d_M_readPart_68 (fun h => absurd h (by decide)) (fun c5 => ?_)
  refine g_iconst (v := nI 1) hX d_M_readPart_71 rfl ?_
  refine g_goto hX d_M_readPart_72 ?_
  refine g_iload1 hX d_M_readPart_76 ?_
  refine g_iconst (v := -1) hX d_M_readPart_77 rfl ?_
  refine g_icmp_ne hX d_M_readPart_78 (fun h => absurd rfl h) (fun c6 => ?_)
  refine g_iconst (v := nI 0) hX d_M_readPart_81 rfl ?_
  refine g_goto hX d_M_readPart_82 ?_
  refine g_iload2 hX d_M_readPart_86 ?_
  refine g_if_eq hX d_M_readPart_87 (fun h => absurd h (by decide)) (fun c7 => ?_)
  refine g_aload0 hX d_M_readPart_90 ?_
  refine g_getJ hX d_M_readPart_91 fl_M_268 (lv_89 _) ?_
  refine g_topl h.1.2.2.2.2.1 ?_
  refine g_l2i hX d_M_readPart_94 ?_
  refine g_topi (y := nI (numC t f)) (by rw [hwn]; exact lN_i _) ?_
  refine g_goto hX d_M_readPart_95 ?_
  refine g_callV (As := [_, _, _]) hX hF.1 d_M_readPart_99 ml_M_347 cf_M_leaf cv_M_leaf rfl rfl (c_M_leafN1 h hP hp hp2) (rcv_obj hX (lv_89 _) rfl rfl) (by omega) (by omega) (by omega) (Nat.le_of_ble_eq_true rfl) ?_
  refine ret_k ?_
  refine g_aload0 hX d_M_readPart_102 ?_
  refine g_getZ hX d_M_readPart_103 fl_M_335 (lv_89 _) ?_
  refine g_topi (hC.fr ((FrR.rf w).bad)).1 ?_
  refine g_if_eq hX d_M_readPart_106 (fun c8 => ?_) (fun h => absurd (by decide) h)
  refine g_iconst (v := nI 3) hX d_M_readPart_143 rfl ?_
  refine g_iret hX hF d_M_readPart_144 (by omega) (by omega) ?_
  exact ⟨rfl, (FrR.rf w).bad, h.bad hP⟩
theorem c_M_readPart_wordFL {E : EV} {w : Mem} {t : List Nat} {f p : Nat} {c s : List (Nat × Nat)} {od : Nat} (h : RdP w t f p c s od) (hP : PileW c s) (hC : RdC w false) (hns : ¬ isS t f 91) (hp : 50 ≤ p) (hp2 : p < 100) {k : Nat} (hk : k < (partsL false).length) (hw : isW t f (gA2 (partsL false) k)) : T E m_M_readPart 4 0 0 [.ref 89] w (fun r w2 => r = some (.int (nI 3)) ∧ FrR w w2 ∧ BadP w2 t f) := by
  refine T_of (L := [.ref 89, un, un, un]) cf_M_readPart rfl (Nat.le_of_ble_eq_true rfl) (fun X hX hF => ?_)
  have hk7 : k < 7 := Nat.lt_of_lt_of_le hk (by decide)
  refine g_aload0 hX d_M_readPart_0 ?_
  refine g_bipush (v := nI 91) hX d_M_readPart_1 rfl ?_
  refine g_callV (As := [_]) hX hF.1 d_M_readPart_3 ml_M_329 cf_M_isSign cv_M_isSign rfl rfl (c_M_isSign h.1 (by decide)) (rcv_obj hX (lv_89 _) rfl rfl) (by omega) (by omega) (by omega) (Nat.le_of_ble_eq_true rfl) ?_
  refine ret_k ?_
  refine g_ifB_eq hX d_M_readPart_6 (fun c0 => ?_) (fun h => absurd h hns)
  refine g_aload0 hX d_M_readPart_17 ?_
  refine g_getZ hX d_M_readPart_18 fl_M_335 (lv_89 _) ?_
  refine g_topi hC.1 ?_
  refine g_if_eq hX d_M_readPart_21 (fun c1 => ?_) (fun h => absurd (by decide) h)
  refine g_aload0 hX d_M_readPart_31 ?_
  refine g_callV (As := []) hX hF.1 d_M_readPart_32 ml_M_342 cf_M_partAt cv_M_partAt rfl rfl (c_M_partAt h.1 hC.2.1) (rcv_obj hX (lv_89 _) rfl rfl) (by omega) (by omega) (by omega) (Nat.le_of_ble_eq_true rfl) ?_
  refine ret_k ?_
  refine g_topi (parts_at hk hw) ?_
  refine g_istore1 hX d_M_readPart_35 rfl (by decide) ?_
  refine g_aload0 hX d_M_readPart_36 ?_
  refine g_getI hX d_M_readPart_37 fl_M_278 (lv_89 _) ?_
  refine g_topi h.1.2.2.2.1 ?_
  refine g_iconst (v := nI 2) hX d_M_readPart_40 rfl ?_
  refine g_icmpN_ne hX d_M_readPart_41 (by omega) (by omega) (fun c2 => ?_) (fun h => absurd h (by have := hw.1; omega))
  refine g_iconst (v := nI 0) hX d_M_readPart_59 rfl ?_
  refine g_istore2 hX d_M_readPart_60 rfl (by decide) ?_
  refine g_aload0 hX d_M_readPart_61 ?_
  refine g_iload1 hX d_M_readPart_62 ?_
  refine g_iconst (v := -1) hX d_M_readPart_63 rfl ?_
  refine g_icmp_ne hX d_M_readPart_64 (fun c3 => ?_) (fun h => absurd h (nI_m1 (by omega)))
  refine g_iconst (v := nI 1) hX d_M_readPart_71 rfl ?_
  refine g_goto hX d_M_readPart_72 ?_
  refine g_iload1 hX d_M_readPart_76 ?_
  refine g_iconst (v := -1) hX d_M_readPart_77 rfl ?_
  refine g_icmp_ne hX d_M_readPart_78 (fun c4 => ?_) (fun h => absurd h (nI_m1 (by omega)))
  refine g_iload1 hX d_M_readPart_85 ?_
  refine g_iload2 hX d_M_readPart_86 ?_
  refine g_if_eq hX d_M_readPart_87 (fun c5 => ?_) (fun h => absurd (by decide) h)
  refine g_iconst (v := nI 0) hX d_M_readPart_98 rfl ?_
  refine g_callV (As := [_, _, _]) hX hF.1 d_M_readPart_99 ml_M_347 cf_M_leaf cv_M_leaf rfl rfl (c_M_leafN1 h hP hp hp2) (rcv_obj hX (lv_89 _) rfl rfl) (by omega) (by omega) (by omega) (Nat.le_of_ble_eq_true rfl) ?_
  refine ret_k ?_
  refine g_aload0 hX d_M_readPart_102 ?_
  refine g_getZ hX d_M_readPart_103 fl_M_335 (lv_89 _) ?_
  refine g_topi (hC.fr ((FrR.rf w).bad)).1 ?_
  refine g_if_eq hX d_M_readPart_106 (fun c6 => ?_) (fun h => absurd (by decide) h)
  refine g_iconst (v := nI 3) hX d_M_readPart_143 rfl ?_
  refine g_iret hX hF d_M_readPart_144 (by omega) (by omega) ?_
  exact ⟨rfl, (FrR.rf w).bad, h.bad hP⟩
theorem c_M_readPart_numO {E : EV} {w : Mem} {t : List Nat} {f p : Nat} {c s : List (Nat × Nat)} {od : Nat} (h : RdP w t f p c s od) (hP : PileW c s) (hC : RdC w true) (hns : ¬ isS t f 91) (hlt : c.length < 400) (hp : p < 50) (hn : isN t f 0 1000) : T E m_M_readPart 4 0 0 [.ref 89] w (fun r w2 => r = some (.int (nI 3)) ∧ FrR w w2 ∧ RdP w2 t (nxT t f) (p + 1) (c ++ [(0, numC t f)]) s od) := by
  refine T_of (L := [.ref 89, un, un, un]) cf_M_readPart rfl (Nat.le_of_ble_eq_true rfl) (fun X hX hF => ?_)
  have hbw := h.1.b
  have hwn := num_wor (by decide) hn
  refine g_aload0 hX d_M_readPart_0 ?_
  refine g_bipush (v := nI 91) hX d_M_readPart_1 rfl ?_
  refine g_callV (As := [_]) hX hF.1 d_M_readPart_3 ml_M_329 cf_M_isSign cv_M_isSign rfl rfl (c_M_isSign h.1 (by decide)) (rcv_obj hX (lv_89 _) rfl rfl) (by omega) (by omega) (by omega) (Nat.le_of_ble_eq_true rfl) ?_
  refine ret_k ?_
  refine g_ifB_eq hX d_M_readPart_6 (fun c0 => ?_) (fun h => absurd h hns)
  refine g_aload0 hX d_M_readPart_17 ?_
  refine g_getZ hX d_M_readPart_18 fl_M_335 (lv_89 _) ?_
  refine g_topi hC.1 ?_
  refine g_if_eq hX d_M_readPart_21 (fun h => absurd h (by decide)) (fun c1 => ?_)
  refine g_aload0 hX d_M_readPart_24 ?_
  refine g_callV (As := []) hX hF.1 d_M_readPart_25 ml_M_338 cf_M_orderPartAt cv_M_orderPartAt rfl rfl (c_M_orderPartAt h.1 hC.2.2.1) (rcv_obj hX (lv_89 _) rfl rfl) (by omega) (by omega) (by omega) (Nat.le_of_ble_eq_true rfl) ?_
  refine ret_k ?_
  refine g_topi (parts_srt (o := true) (by have := hn.1; omega)) ?_
  refine g_goto hX d_M_readPart_28 ?_
  refine g_istore1 hX d_M_readPart_35 rfl (by decide) ?_
  refine g_aload0 hX d_M_readPart_36 ?_
  refine g_getI hX d_M_readPart_37 fl_M_278 (lv_89 _) ?_
  refine g_topi h.1.2.2.2.1 ?_
  refine g_iconst (v := nI 2) hX d_M_readPart_40 rfl ?_
  refine g_icmpN_ne hX d_M_readPart_41 (by omega) (by omega) (fun h => absurd (by have := hn.1; omega) h) (fun c2 => ?_)
  refine g_aload0 hX d_M_readPart_44 ?_
  refine g_getJ hX d_M_readPart_45 fl_M_268 (lv_89 _) ?_
  refine g_topl h.1.2.2.2.2.1 ?_
  refine g_ldc2 (v := lN 1000) hX d_M_readPart_48 k_M_345 rfl ?_
  refine g_lcmp_gt hX d_M_readPart_51 d_M_readPart_52 (fun h => absurd h (fun z => by
      rw [show lN 1000 = lI 1000 from rfl, lI_lt (by omega) (by omega)] at z
      have := (num0 hn.1).mp hn
      omega)) (fun c3 => ?_)
  refine g_iconst (v := nI 1) hX d_M_readPart_55 rfl ?_
  refine g_goto hX d_M_readPart_56 ?_
  refine g_istore2 hX d_M_readPart_60 rfl (by decide) ?_
  refine g_aload0 hX d_M_readPart_61 ?_
  refine g_iload1 hX d_M_readPart_62 ?_
  refine g_iconst (v := -1) hX d_M_readPart_63 rfl ?_
  refine g_icmp_ne hX d_M_readPart_64 (fun h => absurd rfl h) (fun c4 => ?_)
  refine g_iload2 hX d_M_readPart_67 ?_
  refine g_if_eq hX d_M_readPart_68 (fun h => absurd h (by decide)) (fun c5 => ?_)
  refine g_iconst (v := nI 1) hX d_M_readPart_71 rfl ?_
  refine g_goto hX d_M_readPart_72 ?_
  refine g_iload1 hX d_M_readPart_76 ?_
  refine g_iconst (v := -1) hX d_M_readPart_77 rfl ?_
  refine g_icmp_ne hX d_M_readPart_78 (fun h => absurd rfl h) (fun c6 => ?_)
  refine g_iconst (v := nI 0) hX d_M_readPart_81 rfl ?_
  refine g_goto hX d_M_readPart_82 ?_
  refine g_iload2 hX d_M_readPart_86 ?_
  refine g_if_eq hX d_M_readPart_87 (fun h => absurd h (by decide)) (fun c7 => ?_)
  refine g_aload0 hX d_M_readPart_90 ?_
  refine g_getJ hX d_M_readPart_91 fl_M_268 (lv_89 _) ?_
  refine g_topl h.1.2.2.2.2.1 ?_
  refine g_l2i hX d_M_readPart_94 ?_
  refine g_topi (y := nI (numC t f)) (by rw [hwn]; exact lN_i _) ?_
  refine g_goto hX d_M_readPart_95 ?_
  refine g_callV (As := [_, _, _]) hX hF.1 d_M_readPart_99 ml_M_347 cf_M_leaf cv_M_leaf rfl rfl (c_M_leafY (a := 0) (b := numC t f) h hP hlt hp) (rcv_obj hX (lv_89 _) rfl rfl) (by omega) (by omega) (by omega) (Nat.le_of_ble_eq_true rfl) ?_
  rintro _ w2 ⟨rfl, hf, h2⟩
  have hor := (hC.fr hf).1
  show G0 _ _ _ _ _ _ _ _
  refine g_aload0 hX d_M_readPart_102 ?_
  refine g_getZ hX d_M_readPart_103 fl_M_335 (lv_89 _) ?_
  refine g_topi hor ?_
  refine g_if_eq hX d_M_readPart_106 (fun h => absurd h (by decide)) (fun c8 => ?_)
  refine g_iload1 hX d_M_readPart_109 ?_
  refine g_bipush (v := nI 6) hX d_M_readPart_110 rfl ?_
  refine g_icmp_ne hX d_M_readPart_112 (fun c9 => ?_) (fun h => absurd h (by decide))
  refine g_iconst (v := nI 3) hX d_M_readPart_143 rfl ?_
  refine g_iret hX hF d_M_readPart_144 (by omega) (by omega) ?_
  exact ⟨rfl, hf, h2⟩
theorem c_M_readPart_wordO {E : EV} {w : Mem} {t : List Nat} {f p : Nat} {c s : List (Nat × Nat)} {od : Nat} (h : RdP w t f p c s od) (hP : PileW c s) (hC : RdC w true) (hns : ¬ isS t f 91) (hlt : c.length < 400) (hp : p < 50) {k : Nat} (hk : k < (partsL true).length) (hw : isW t f (gA2 (partsL true) k)) (hk5 : k ≠ 5) : T E m_M_readPart 4 0 0 [.ref 89] w (fun r w2 => r = some (.int (nI 3)) ∧ FrR w w2 ∧ RdP w2 t (nxT t f) (p + 1) (c ++ [(k + 1, 0)]) s od) := by
  refine T_of (L := [.ref 89, un, un, un]) cf_M_readPart rfl (Nat.le_of_ble_eq_true rfl) (fun X hX hF => ?_)
  have hk7 : k < 7 := Nat.lt_of_lt_of_le hk (by decide)
  refine g_aload0 hX d_M_readPart_0 ?_
  refine g_bipush (v := nI 91) hX d_M_readPart_1 rfl ?_
  refine g_callV (As := [_]) hX hF.1 d_M_readPart_3 ml_M_329 cf_M_isSign cv_M_isSign rfl rfl (c_M_isSign h.1 (by decide)) (rcv_obj hX (lv_89 _) rfl rfl) (by omega) (by omega) (by omega) (Nat.le_of_ble_eq_true rfl) ?_
  refine ret_k ?_
  refine g_ifB_eq hX d_M_readPart_6 (fun c0 => ?_) (fun h => absurd h hns)
  refine g_aload0 hX d_M_readPart_17 ?_
  refine g_getZ hX d_M_readPart_18 fl_M_335 (lv_89 _) ?_
  refine g_topi hC.1 ?_
  refine g_if_eq hX d_M_readPart_21 (fun h => absurd h (by decide)) (fun c1 => ?_)
  refine g_aload0 hX d_M_readPart_24 ?_
  refine g_callV (As := []) hX hF.1 d_M_readPart_25 ml_M_338 cf_M_orderPartAt cv_M_orderPartAt rfl rfl (c_M_orderPartAt h.1 hC.2.2.1) (rcv_obj hX (lv_89 _) rfl rfl) (by omega) (by omega) (by omega) (Nat.le_of_ble_eq_true rfl) ?_
  refine ret_k ?_
  refine g_topi (parts_at hk hw) ?_
  refine g_goto hX d_M_readPart_28 ?_
  refine g_istore1 hX d_M_readPart_35 rfl (by decide) ?_
  refine g_aload0 hX d_M_readPart_36 ?_
  refine g_getI hX d_M_readPart_37 fl_M_278 (lv_89 _) ?_
  refine g_topi h.1.2.2.2.1 ?_
  refine g_iconst (v := nI 2) hX d_M_readPart_40 rfl ?_
  refine g_icmpN_ne hX d_M_readPart_41 (by omega) (by omega) (fun c2 => ?_) (fun h => absurd h (by have := hw.1; omega))
  refine g_iconst (v := nI 0) hX d_M_readPart_59 rfl ?_
  refine g_istore2 hX d_M_readPart_60 rfl (by decide) ?_
  refine g_aload0 hX d_M_readPart_61 ?_
  refine g_iload1 hX d_M_readPart_62 ?_
  refine g_iconst (v := -1) hX d_M_readPart_63 rfl ?_
  refine g_icmp_ne hX d_M_readPart_64 (fun c3 => ?_) (fun h => absurd h (nI_m1 (by omega)))
  refine g_iconst (v := nI 1) hX d_M_readPart_71 rfl ?_
  refine g_goto hX d_M_readPart_72 ?_
  refine g_iload1 hX d_M_readPart_76 ?_
  refine g_iconst (v := -1) hX d_M_readPart_77 rfl ?_
  refine g_icmp_ne hX d_M_readPart_78 (fun c4 => ?_) (fun h => absurd h (nI_m1 (by omega)))
  refine g_iload1 hX d_M_readPart_85 ?_
  refine g_iload2 hX d_M_readPart_86 ?_
  refine g_if_eq hX d_M_readPart_87 (fun c5 => ?_) (fun h => absurd (by decide) h)
  refine g_iconst (v := nI 0) hX d_M_readPart_98 rfl ?_
  refine g_callV (As := [_, _, _]) hX hF.1 d_M_readPart_99 ml_M_347 cf_M_leaf cv_M_leaf rfl rfl (c_M_leafY (a := k + 1) (b := 0) h hP hlt hp) (rcv_obj hX (lv_89 _) rfl rfl) (by omega) (by omega) (by omega) (Nat.le_of_ble_eq_true rfl) ?_
  rintro _ w2 ⟨rfl, hf, h2⟩
  have hor := (hC.fr hf).1
  show G0 _ _ _ _ _ _ _ _
  refine g_aload0 hX d_M_readPart_102 ?_
  refine g_getZ hX d_M_readPart_103 fl_M_335 (lv_89 _) ?_
  refine g_topi hor ?_
  refine g_if_eq hX d_M_readPart_106 (fun h => absurd h (by decide)) (fun c6 => ?_)
  refine g_iload1 hX d_M_readPart_109 ?_
  refine g_bipush (v := nI 6) hX d_M_readPart_110 rfl ?_
  refine g_icmpN_ne hX d_M_readPart_112 (by omega) (by omega) (fun c7 => ?_) (fun h => absurd h (by omega))
  refine g_iconst (v := nI 3) hX d_M_readPart_143 rfl ?_
  refine g_iret hX hF d_M_readPart_144 (by omega) (by omega) ?_
  exact ⟨rfl, hf, h2⟩
theorem c_M_readPart_deg {E : EV} {w : Mem} {t : List Nat} {f p : Nat} {c s : List (Nat × Nat)} {od : Nat} (h : RdP w t f p c s od) (hP : PileW c s) (hC : RdC w true) (hns : ¬ isS t f 91) (hlt : c.length < 400) (hp : p < 50) {k : Nat} (hk5 : k = 5) (hk : k < (partsL true).length) (hw : isW t f (gA2 (partsL true) k)) (hn : isN t (nxT t f) 0 11) : T E m_M_readPart 4 0 0 [.ref 89] w (fun r w2 => r = some (.int (nI 3)) ∧ FrR w w2 ∧ RdP w2 t (nxT t (nxT t f)) (p + 1) (c ++ [(6, numC t (nxT t f))]) s od) := by
  refine T_of (L := [.ref 89, un, un, un]) cf_M_readPart rfl (Nat.le_of_ble_eq_true rfl) (fun X hX hF => ?_)
  refine g_aload0 hX d_M_readPart_0 ?_
  refine g_bipush (v := nI 91) hX d_M_readPart_1 rfl ?_
  refine g_callV (As := [_]) hX hF.1 d_M_readPart_3 ml_M_329 cf_M_isSign cv_M_isSign rfl rfl (c_M_isSign h.1 (by decide)) (rcv_obj hX (lv_89 _) rfl rfl) (by omega) (by omega) (by omega) (Nat.le_of_ble_eq_true rfl) ?_
  refine ret_k ?_
  refine g_ifB_eq hX d_M_readPart_6 (fun c0 => ?_) (fun h => absurd h hns)
  refine g_aload0 hX d_M_readPart_17 ?_
  refine g_getZ hX d_M_readPart_18 fl_M_335 (lv_89 _) ?_
  refine g_topi hC.1 ?_
  refine g_if_eq hX d_M_readPart_21 (fun h => absurd h (by decide)) (fun c1 => ?_)
  refine g_aload0 hX d_M_readPart_24 ?_
  refine g_callV (As := []) hX hF.1 d_M_readPart_25 ml_M_338 cf_M_orderPartAt cv_M_orderPartAt rfl rfl (c_M_orderPartAt h.1 hC.2.2.1) (rcv_obj hX (lv_89 _) rfl rfl) (by omega) (by omega) (by omega) (Nat.le_of_ble_eq_true rfl) ?_
  refine ret_k ?_
  refine g_topi (parts_at hk hw) ?_
  refine g_goto hX d_M_readPart_28 ?_
  refine g_istore1 hX d_M_readPart_35 rfl (by decide) ?_
  refine g_aload0 hX d_M_readPart_36 ?_
  refine g_getI hX d_M_readPart_37 fl_M_278 (lv_89 _) ?_
  refine g_topi h.1.2.2.2.1 ?_
  refine g_iconst (v := nI 2) hX d_M_readPart_40 rfl ?_
  refine g_icmpN_ne hX d_M_readPart_41 (by omega) (by omega) (fun c2 => ?_) (fun h => absurd h (by have := hw.1; omega))
  refine g_iconst (v := nI 0) hX d_M_readPart_59 rfl ?_
  refine g_istore2 hX d_M_readPart_60 rfl (by decide) ?_
  refine g_aload0 hX d_M_readPart_61 ?_
  refine g_iload1 hX d_M_readPart_62 ?_
  refine g_iconst (v := -1) hX d_M_readPart_63 rfl ?_
  refine g_icmp_ne hX d_M_readPart_64 (fun c3 => ?_) (fun h => absurd h (nI_m1 (by omega)))
  refine g_iconst (v := nI 1) hX d_M_readPart_71 rfl ?_
  refine g_goto hX d_M_readPart_72 ?_
  refine g_iload1 hX d_M_readPart_76 ?_
  refine g_iconst (v := -1) hX d_M_readPart_77 rfl ?_
  refine g_icmp_ne hX d_M_readPart_78 (fun c4 => ?_) (fun h => absurd h (nI_m1 (by omega)))
  refine g_iload1 hX d_M_readPart_85 ?_
  refine g_iload2 hX d_M_readPart_86 ?_
  refine g_if_eq hX d_M_readPart_87 (fun c5 => ?_) (fun h => absurd (by decide) h)
  refine g_iconst (v := nI 0) hX d_M_readPart_98 rfl ?_
  refine g_callV (As := [_, _, _]) hX hF.1 d_M_readPart_99 ml_M_347 cf_M_leaf cv_M_leaf rfl rfl (c_M_leafY (a := k + 1) (b := 0) h hP hlt hp) (rcv_obj hX (lv_89 _) rfl rfl) (by omega) (by omega) (by omega) (Nat.le_of_ble_eq_true rfl) ?_
  rintro _ w2 ⟨rfl, hf, h2⟩
  have hor := (hC.fr hf).1
  show G0 _ _ _ _ _ _ _ _
  refine g_aload0 hX d_M_readPart_102 ?_
  refine g_getZ hX d_M_readPart_103 fl_M_335 (lv_89 _) ?_
  refine g_topi hor ?_
  refine g_if_eq hX d_M_readPart_106 (fun h => absurd h (by decide)) (fun c6 => ?_)
  refine g_iload1 hX d_M_readPart_109 ?_
  refine g_bipush (v := nI 6) hX d_M_readPart_110 rfl ?_
  refine g_icmpN_ne hX d_M_readPart_112 (by omega) (by omega) (fun h => absurd (by omega) h) (fun c7 => ?_)
  refine g_aload0 hX d_M_readPart_115 ?_
  refine g_getZ hX d_M_readPart_116 fl_M_258 (lv_89 _) ?_
  refine g_topi h2.2.2.2.2.2.1 ?_
  refine g_if_ne hX d_M_readPart_119 (fun h => absurd (by decide) h) (fun c8 => ?_)
  refine g_aload0 hX d_M_readPart_122 ?_
  refine g_getI hX d_M_readPart_123 fl_M_295 (lv_89 _) ?_
  refine g_topi h2.2.2.1.1 ?_
  refine g_iconst (v := nI 1) hX d_M_readPart_126 rfl ?_
  refine g_isubN hX d_M_readPart_127 (by rw [List.length_append, List.length_singleton]; omega) ?_
  refine g_topi (show nI ((c ++ [(k + 1, 0)]).length - 1) = nI c.length by rw [List.length_append]; rfl) ?_
  refine g_istore3 hX d_M_readPart_128 rfl (by decide) ?_
  refine g_aload0 hX d_M_readPart_129 ?_
  refine g_getF hX d_M_readPart_130 fl_M_48 (lv_89 _) ?_
  refine g_iload3 hX d_M_readPart_133 ?_
  refine g_aload0 hX d_M_readPart_134 ?_
  refine g_lconst (v := lN 0) hX d_M_readPart_135 rfl ?_
  refine g_ldc2 (v := lN 11) hX d_M_readPart_136 k_M_351 rfl ?_
  refine g_callV (As := [_, _]) hX hF.1 d_M_readPart_139 ml_M_353 cf_M_number cv_M_number rfl rfl (c_M_numberY (lo := 0) (hi := 11) h2.1 h2.2.2.2.2.2.1 (by decide) (by decide) hn) (rcv_obj hX (lv_89 _) rfl rfl) (by omega) (by omega) (by omega) (Nat.le_of_ble_eq_true rfl) ?_
  rintro _ w3 ⟨rfl, hf3, hT3⟩
  show G0 _ _ _ _ _ _ _ _
  refine g_iast hX d_M_readPart_142 (lv_101 _) rfl (by omega) ?_
  refine g_iconst (v := nI 3) hX d_M_readPart_143 rfl ?_
  refine g_iret hX hF d_M_readPart_144 (by omega) (by omega) ?_
  have h3 := h2.tok hf3 hT3
  refine ⟨rfl, (hf.tr hf3.R).I (by omega), h3.1.o (by decide) (Or.inl (by decide)), h3.2.1, ?_, h3.2.2.2.1.o (by decide) (by decide) (Or.inl (by decide)), h3.2.2.2.2.1, h3.2.2.2.2.2.1, h3.2.2.2.2.2.2⟩
  obtain ⟨k1, k2⟩ := h3.2.2.1
  rw [List.length_append, List.length_singleton] at k1 k2
  refine ⟨by rw [rI_sI_ne _ _ _ (by decide), List.length_append, List.length_singleton]; exact k1, fun j hj => ?_⟩
  rw [List.length_append, List.length_singleton] at hj
  have k3 := k2 j hj
  rw [rI_sI_ne _ _ _ (by decide), rI_sI, upd_eq]
  by_cases e : j = c.length
  · rw [e, cO_last.1] at k3
    rw [if_pos e, e, cO_last.1, cO_last.2]
    exact ⟨by rw [k3.1, hk5], rfl⟩
  · rw [(cO_app (by omega)).1, (cO_app (by omega)).2] at k3
    rw [if_neg e, (cO_app (by omega)).1, (cO_app (by omega)).2]; exact k3
theorem c_M_readPart_degN {E : EV} {w : Mem} {t : List Nat} {f p : Nat} {c s : List (Nat × Nat)} {od : Nat} (h : RdP w t f p c s od) (hP : PileW c s) (hC : RdC w true) (hns : ¬ isS t f 91) (hlt : c.length + s.length < 400) (hp : p < 50) {k : Nat} (hk5 : k = 5) (hk : k < (partsL true).length) (hw : isW t f (gA2 (partsL true) k)) (hn : ¬ isN t (nxT t f) 0 11) : T E m_M_readPart 4 0 0 [.ref 89] w (fun r w2 => r = some (.int (nI 3)) ∧ FrR w w2 ∧ BadP w2 t (nxT t f)) := by
  refine T_of (L := [.ref 89, un, un, un]) cf_M_readPart rfl (Nat.le_of_ble_eq_true rfl) (fun X hX hF => ?_)
  have hlt2 : c.length < 400 := by omega
  refine g_aload0 hX d_M_readPart_0 ?_
  refine g_bipush (v := nI 91) hX d_M_readPart_1 rfl ?_
  refine g_callV (As := [_]) hX hF.1 d_M_readPart_3 ml_M_329 cf_M_isSign cv_M_isSign rfl rfl (c_M_isSign h.1 (by decide)) (rcv_obj hX (lv_89 _) rfl rfl) (by omega) (by omega) (by omega) (Nat.le_of_ble_eq_true rfl) ?_
  refine ret_k ?_
  refine g_ifB_eq hX d_M_readPart_6 (fun c0 => ?_) (fun h => absurd h hns)
  refine g_aload0 hX d_M_readPart_17 ?_
  refine g_getZ hX d_M_readPart_18 fl_M_335 (lv_89 _) ?_
  refine g_topi hC.1 ?_
  refine g_if_eq hX d_M_readPart_21 (fun h => absurd h (by decide)) (fun c1 => ?_)
  refine g_aload0 hX d_M_readPart_24 ?_
  refine g_callV (As := []) hX hF.1 d_M_readPart_25 ml_M_338 cf_M_orderPartAt cv_M_orderPartAt rfl rfl (c_M_orderPartAt h.1 hC.2.2.1) (rcv_obj hX (lv_89 _) rfl rfl) (by omega) (by omega) (by omega) (Nat.le_of_ble_eq_true rfl) ?_
  refine ret_k ?_
  refine g_topi (parts_at hk hw) ?_
  refine g_goto hX d_M_readPart_28 ?_
  refine g_istore1 hX d_M_readPart_35 rfl (by decide) ?_
  refine g_aload0 hX d_M_readPart_36 ?_
  refine g_getI hX d_M_readPart_37 fl_M_278 (lv_89 _) ?_
  refine g_topi h.1.2.2.2.1 ?_
  refine g_iconst (v := nI 2) hX d_M_readPart_40 rfl ?_
  refine g_icmpN_ne hX d_M_readPart_41 (by omega) (by omega) (fun c2 => ?_) (fun h => absurd h (by have := hw.1; omega))
  refine g_iconst (v := nI 0) hX d_M_readPart_59 rfl ?_
  refine g_istore2 hX d_M_readPart_60 rfl (by decide) ?_
  refine g_aload0 hX d_M_readPart_61 ?_
  refine g_iload1 hX d_M_readPart_62 ?_
  refine g_iconst (v := -1) hX d_M_readPart_63 rfl ?_
  refine g_icmp_ne hX d_M_readPart_64 (fun c3 => ?_) (fun h => absurd h (nI_m1 (by omega)))
  refine g_iconst (v := nI 1) hX d_M_readPart_71 rfl ?_
  refine g_goto hX d_M_readPart_72 ?_
  refine g_iload1 hX d_M_readPart_76 ?_
  refine g_iconst (v := -1) hX d_M_readPart_77 rfl ?_
  refine g_icmp_ne hX d_M_readPart_78 (fun c4 => ?_) (fun h => absurd h (nI_m1 (by omega)))
  refine g_iload1 hX d_M_readPart_85 ?_
  refine g_iload2 hX d_M_readPart_86 ?_
  refine g_if_eq hX d_M_readPart_87 (fun c5 => ?_) (fun h => absurd (by decide) h)
  refine g_iconst (v := nI 0) hX d_M_readPart_98 rfl ?_
  refine g_callV (As := [_, _, _]) hX hF.1 d_M_readPart_99 ml_M_347 cf_M_leaf cv_M_leaf rfl rfl (c_M_leafY (a := k + 1) (b := 0) h hP hlt2 hp) (rcv_obj hX (lv_89 _) rfl rfl) (by omega) (by omega) (by omega) (Nat.le_of_ble_eq_true rfl) ?_
  rintro _ w2 ⟨rfl, hf, h2⟩
  have hor := (hC.fr hf).1
  show G0 _ _ _ _ _ _ _ _
  refine g_aload0 hX d_M_readPart_102 ?_
  refine g_getZ hX d_M_readPart_103 fl_M_335 (lv_89 _) ?_
  refine g_topi hor ?_
  refine g_if_eq hX d_M_readPart_106 (fun h => absurd h (by decide)) (fun c6 => ?_)
  refine g_iload1 hX d_M_readPart_109 ?_
  refine g_bipush (v := nI 6) hX d_M_readPart_110 rfl ?_
  refine g_icmpN_ne hX d_M_readPart_112 (by omega) (by omega) (fun h => absurd (by omega) h) (fun c7 => ?_)
  refine g_aload0 hX d_M_readPart_115 ?_
  refine g_getZ hX d_M_readPart_116 fl_M_258 (lv_89 _) ?_
  refine g_topi h2.2.2.2.2.2.1 ?_
  refine g_if_ne hX d_M_readPart_119 (fun h => absurd (by decide) h) (fun c8 => ?_)
  refine g_aload0 hX d_M_readPart_122 ?_
  refine g_getI hX d_M_readPart_123 fl_M_295 (lv_89 _) ?_
  refine g_topi h2.2.2.1.1 ?_
  refine g_iconst (v := nI 1) hX d_M_readPart_126 rfl ?_
  refine g_isubN hX d_M_readPart_127 (by rw [List.length_append, List.length_singleton]; omega) ?_
  refine g_topi (show nI ((c ++ [(k + 1, 0)]).length - 1) = nI c.length by rw [List.length_append]; rfl) ?_
  refine g_istore3 hX d_M_readPart_128 rfl (by decide) ?_
  refine g_aload0 hX d_M_readPart_129 ?_
  refine g_getF hX d_M_readPart_130 fl_M_48 (lv_89 _) ?_
  refine g_iload3 hX d_M_readPart_133 ?_
  refine g_aload0 hX d_M_readPart_134 ?_
  refine g_lconst (v := lN 0) hX d_M_readPart_135 rfl ?_
  refine g_ldc2 (v := lN 11) hX d_M_readPart_136 k_M_351 rfl ?_
  refine g_callV (As := [_, _]) hX hF.1 d_M_readPart_139 ml_M_353 cf_M_number cv_M_number rfl rfl (c_M_numberN (lo := 0) (hi := 11) h2.1 h2.2.2.2.2.2.1 (by decide) (by decide) hn) (rcv_obj hX (lv_89 _) rfl rfl) (by omega) (by omega) (by omega) (Nat.le_of_ble_eq_true rfl) ?_
  rintro _ w3 ⟨⟨x, rfl⟩, rfl⟩
  show G0 _ _ _ _ _ _ _ _
  refine g_iast hX d_M_readPart_142 (lv_101 _) rfl (by omega) ?_
  refine g_iconst (v := nI 3) hX d_M_readPart_143 rfl ?_
  refine g_iret hX hF d_M_readPart_144 (by omega) (by omega) ?_
  refine ⟨rfl, (hf.bad).I (by omega), (h2.bad ⟨by rw [List.length_append, List.length_singleton]; omega, fun q hq => ⟨(hP.2 q hq).1, fun z => ?_⟩⟩).arg⟩
  rw [List.length_append]
  have := (hP.2 q hq).2 z
  omega
theorem c_M_readPart_noO {E : EV} {w : Mem} {t : List Nat} {f p : Nat} {c s : List (Nat × Nat)} {od : Nat} (h : RdP w t f p c s od) (hP : PileW c s) (hC : RdC w true) (hns : ¬ isS t f 91) (hn : ¬ isN t f 0 1000) (hno : ∀ k, k < (partsL true).length → ¬ isW t f (gA2 (partsL true) k)) : T E m_M_readPart 4 0 0 [.ref 89] w (fun r w2 => r = some (.int (nI 3)) ∧ FrR w w2 ∧ BadP w2 t f) := by
  refine T_of (L := [.ref 89, un, un, un]) cf_M_readPart rfl (Nat.le_of_ble_eq_true rfl) (fun X hX hF => ?_)
  have hbw := h.1.b
  have hsl := srt_le t f
  refine g_aload0 hX d_M_readPart_0 ?_
  refine g_bipush (v := nI 91) hX d_M_readPart_1 rfl ?_
  refine g_callV (As := [_]) hX hF.1 d_M_readPart_3 ml_M_329 cf_M_isSign cv_M_isSign rfl rfl (c_M_isSign h.1 (by decide)) (rcv_obj hX (lv_89 _) rfl rfl) (by omega) (by omega) (by omega) (Nat.le_of_ble_eq_true rfl) ?_
  refine ret_k ?_
  refine g_ifB_eq hX d_M_readPart_6 (fun c0 => ?_) (fun h => absurd h hns)
  refine g_aload0 hX d_M_readPart_17 ?_
  refine g_getZ hX d_M_readPart_18 fl_M_335 (lv_89 _) ?_
  refine g_topi hC.1 ?_
  refine g_if_eq hX d_M_readPart_21 (fun h => absurd h (by decide)) (fun c1 => ?_)
  refine g_aload0 hX d_M_readPart_24 ?_
  refine g_callV (As := []) hX hF.1 d_M_readPart_25 ml_M_338 cf_M_orderPartAt cv_M_orderPartAt rfl rfl (c_M_orderPartAt h.1 hC.2.2.1) (rcv_obj hX (lv_89 _) rfl rfl) (by omega) (by omega) (by omega) (Nat.le_of_ble_eq_true rfl) ?_
  refine ret_k ?_
  refine g_topi (pK_no _ hno) ?_
  refine g_goto hX d_M_readPart_28 ?_
  refine g_istore1 hX d_M_readPart_35 rfl (by decide) ?_
  refine g_aload0 hX d_M_readPart_36 ?_
  refine g_getI hX d_M_readPart_37 fl_M_278 (lv_89 _) ?_
  refine g_topi h.1.2.2.2.1 ?_
  refine g_iconst (v := nI 2) hX d_M_readPart_40 rfl ?_
  refine g_icmpN_ne hX d_M_readPart_41 (by omega) (by omega) (fun e41 => ?_) (fun e41 => ?_)
  · refine g_iconst (v := nI 0) hX d_M_readPart_59 rfl ?_
    refine g_istore2 hX d_M_readPart_60 rfl (by decide) ?_
    refine g_aload0 hX d_M_readPart_61 ?_
    refine g_iload1 hX d_M_readPart_62 ?_
    refine g_iconst (v := -1) hX d_M_readPart_63 rfl ?_
    refine g_icmp_ne hX d_M_readPart_64 (fun h => absurd rfl h) (fun c3 => ?_)
    refine g_iload2 hX d_M_readPart_67 ?_
    refine g_if_eq hX d_M_readPart_68 (fun c4 => ?_) (fun h => absurd (by decide) h)
    refine g_iconst (v := nI 0) hX d_M_readPart_75 rfl ?_
    refine g_iload1 hX d_M_readPart_76 ?_
    refine g_iconst (v := -1) hX d_M_readPart_77 rfl ?_
    refine g_icmp_ne hX d_M_readPart_78 (fun h => absurd rfl h) (fun c5 => ?_)
    refine g_iconst (v := nI 0) hX d_M_readPart_81 rfl ?_
    refine g_goto hX d_M_readPart_82 ?_
    refine g_iload2 hX d_M_readPart_86 ?_
    refine g_if_eq hX d_M_readPart_87 (fun c6 => ?_) (fun h => absurd (by decide) h)
    refine g_iconst (v := nI 0) hX d_M_readPart_98 rfl ?_
    refine g_callV (As := [_, _, _]) hX hF.1 d_M_readPart_99 ml_M_347 cf_M_leaf cv_M_leaf rfl rfl (c_M_leafN0 h hP) (rcv_obj hX (lv_89 _) rfl rfl) (by omega) (by omega) (by omega) (Nat.le_of_ble_eq_true rfl) ?_
    refine ret_k ?_
    refine g_aload0 hX d_M_readPart_102 ?_
    refine g_getZ hX d_M_readPart_103 fl_M_335 (lv_89 _) ?_
    refine g_topi (hC.fr ((FrR.rf w).bad)).1 ?_
    refine g_if_eq hX d_M_readPart_106 (fun h => absurd h (by decide)) (fun c7 => ?_)
    refine g_iload1 hX d_M_readPart_109 ?_
    refine g_bipush (v := nI 6) hX d_M_readPart_110 rfl ?_
    refine g_icmp_ne hX d_M_readPart_112 (fun c8 => ?_) (fun h => absurd h (by decide))
    refine g_iconst (v := nI 3) hX d_M_readPart_143 rfl ?_
    refine g_iret hX hF d_M_readPart_144 (by omega) (by omega) ?_
    exact ⟨rfl, (FrR.rf w).bad, h.bad hP⟩
  · have hgt : lN 1000 < lI (worI t f) := by
      rw [show lN 1000 = lI 1000 from rfl, lI_lt (by omega) (by omega)]
      have := mt (num0 e41).mpr hn
      omega
    refine g_aload0 hX d_M_readPart_44 ?_
    refine g_getJ hX d_M_readPart_45 fl_M_268 (lv_89 _) ?_
    refine g_topl h.1.2.2.2.2.1 ?_
    refine g_ldc2 (v := lN 1000) hX d_M_readPart_48 k_M_345 rfl ?_
    refine g_lcmp_gt hX d_M_readPart_51 d_M_readPart_52 (fun c9 => ?_) (fun h => absurd hgt h)
    refine g_iconst (v := nI 0) hX d_M_readPart_59 rfl ?_
    refine g_istore2 hX d_M_readPart_60 rfl (by decide) ?_
    refine g_aload0 hX d_M_readPart_61 ?_
    refine g_iload1 hX d_M_readPart_62 ?_
    refine g_iconst (v := -1) hX d_M_readPart_63 rfl ?_
    refine g_icmp_ne hX d_M_readPart_64 (fun h => absurd rfl h) (fun c10 => ?_)
    refine g_iload2 hX d_M_readPart_67 ?_
    refine g_if_eq hX d_M_readPart_68 (fun c11 => ?_) (fun h => absurd (by decide) h)
    refine g_iconst (v := nI 0) hX d_M_readPart_75 rfl ?_
    refine g_iload1 hX d_M_readPart_76 ?_
    refine g_iconst (v := -1) hX d_M_readPart_77 rfl ?_
    refine g_icmp_ne hX d_M_readPart_78 (fun h => absurd rfl h) (fun c12 => ?_)
    refine g_iconst (v := nI 0) hX d_M_readPart_81 rfl ?_
    refine g_goto hX d_M_readPart_82 ?_
    refine g_iload2 hX d_M_readPart_86 ?_
    refine g_if_eq hX d_M_readPart_87 (fun c13 => ?_) (fun h => absurd (by decide) h)
    refine g_iconst (v := nI 0) hX d_M_readPart_98 rfl ?_
    refine g_callV (As := [_, _, _]) hX hF.1 d_M_readPart_99 ml_M_347 cf_M_leaf cv_M_leaf rfl rfl (c_M_leafN0 h hP) (rcv_obj hX (lv_89 _) rfl rfl) (by omega) (by omega) (by omega) (Nat.le_of_ble_eq_true rfl) ?_
    refine ret_k ?_
    refine g_aload0 hX d_M_readPart_102 ?_
    refine g_getZ hX d_M_readPart_103 fl_M_335 (lv_89 _) ?_
    refine g_topi (hC.fr ((FrR.rf w).bad)).1 ?_
    refine g_if_eq hX d_M_readPart_106 (fun h => absurd h (by decide)) (fun c14 => ?_)
    refine g_iload1 hX d_M_readPart_109 ?_
    refine g_bipush (v := nI 6) hX d_M_readPart_110 rfl ?_
    refine g_icmp_ne hX d_M_readPart_112 (fun c15 => ?_) (fun h => absurd h (by decide))
    refine g_iconst (v := nI 3) hX d_M_readPart_143 rfl ?_
    refine g_iret hX hF d_M_readPart_144 (by omega) (by omega) ?_
    exact ⟨rfl, (FrR.rf w).bad, h.bad hP⟩
theorem c_M_readPart_numFO {E : EV} {w : Mem} {t : List Nat} {f p : Nat} {c s : List (Nat × Nat)} {od : Nat} (h : RdP w t f p c s od) (hP : PileW c s) (hC : RdC w true) (hns : ¬ isS t f 91) (hp : 50 ≤ p) (hp2 : p < 100) (hn : isN t f 0 1000) : T E m_M_readPart 4 0 0 [.ref 89] w (fun r w2 => r = some (.int (nI 3)) ∧ FrR w w2 ∧ BadP w2 t f) := by
  refine T_of (L := [.ref 89, un, un, un]) cf_M_readPart rfl (Nat.le_of_ble_eq_true rfl) (fun X hX hF => ?_)
  have hbw := h.1.b
  have hwn := num_wor (by decide) hn
  refine g_aload0 hX d_M_readPart_0 ?_
  refine g_bipush (v := nI 91) hX d_M_readPart_1 rfl ?_
  refine g_callV (As := [_]) hX hF.1 d_M_readPart_3 ml_M_329 cf_M_isSign cv_M_isSign rfl rfl (c_M_isSign h.1 (by decide)) (rcv_obj hX (lv_89 _) rfl rfl) (by omega) (by omega) (by omega) (Nat.le_of_ble_eq_true rfl) ?_
  refine ret_k ?_
  refine g_ifB_eq hX d_M_readPart_6 (fun c0 => ?_) (fun h => absurd h hns)
  refine g_aload0 hX d_M_readPart_17 ?_
  refine g_getZ hX d_M_readPart_18 fl_M_335 (lv_89 _) ?_
  refine g_topi hC.1 ?_
  refine g_if_eq hX d_M_readPart_21 (fun h => absurd h (by decide)) (fun c1 => ?_)
  refine g_aload0 hX d_M_readPart_24 ?_
  refine g_callV (As := []) hX hF.1 d_M_readPart_25 ml_M_338 cf_M_orderPartAt cv_M_orderPartAt rfl rfl (c_M_orderPartAt h.1 hC.2.2.1) (rcv_obj hX (lv_89 _) rfl rfl) (by omega) (by omega) (by omega) (Nat.le_of_ble_eq_true rfl) ?_
  refine ret_k ?_
  refine g_topi (parts_srt (o := true) (by have := hn.1; omega)) ?_
  refine g_goto hX d_M_readPart_28 ?_
  refine g_istore1 hX d_M_readPart_35 rfl (by decide) ?_
  refine g_aload0 hX d_M_readPart_36 ?_
  refine g_getI hX d_M_readPart_37 fl_M_278 (lv_89 _) ?_
  refine g_topi h.1.2.2.2.1 ?_
  refine g_iconst (v := nI 2) hX d_M_readPart_40 rfl ?_
  refine g_icmpN_ne hX d_M_readPart_41 (by omega) (by omega) (fun h => absurd (by have := hn.1; omega) h) (fun c2 => ?_)
  refine g_aload0 hX d_M_readPart_44 ?_
  refine g_getJ hX d_M_readPart_45 fl_M_268 (lv_89 _) ?_
  refine g_topl h.1.2.2.2.2.1 ?_
  refine g_ldc2 (v := lN 1000) hX d_M_readPart_48 k_M_345 rfl ?_
  refine g_lcmp_gt hX d_M_readPart_51 d_M_readPart_52 (fun h => absurd h (fun z => by
      rw [show lN 1000 = lI 1000 from rfl, lI_lt (by omega) (by omega)] at z
      have := (num0 hn.1).mp hn
      omega)) (fun c3 => ?_)
  refine g_iconst (v := nI 1) hX d_M_readPart_55 rfl ?_
  refine g_goto hX d_M_readPart_56 ?_
  refine g_istore2 hX d_M_readPart_60 rfl (by decide) ?_
  refine g_aload0 hX d_M_readPart_61 ?_
  refine g_iload1 hX d_M_readPart_62 ?_
  refine g_iconst (v := -1) hX d_M_readPart_63 rfl ?_
  refine g_icmp_ne hX d_M_readPart_64 (fun h => absurd rfl h) (fun c4 => ?_)
  refine g_iload2 hX d_M_readPart_67 ?_
  refine g_if_eq hX d_M_readPart_68 (fun h => absurd h (by decide)) (fun c5 => ?_)
  refine g_iconst (v := nI 1) hX d_M_readPart_71 rfl ?_
  refine g_goto hX d_M_readPart_72 ?_
  refine g_iload1 hX d_M_readPart_76 ?_
  refine g_iconst (v := -1) hX d_M_readPart_77 rfl ?_
  refine g_icmp_ne hX d_M_readPart_78 (fun h => absurd rfl h) (fun c6 => ?_)
  refine g_iconst (v := nI 0) hX d_M_readPart_81 rfl ?_
  refine g_goto hX d_M_readPart_82 ?_
  refine g_iload2 hX d_M_readPart_86 ?_
  refine g_if_eq hX d_M_readPart_87 (fun h => absurd h (by decide)) (fun c7 => ?_)
  refine g_aload0 hX d_M_readPart_90 ?_
  refine g_getJ hX d_M_readPart_91 fl_M_268 (lv_89 _) ?_
  refine g_topl h.1.2.2.2.2.1 ?_
  refine g_l2i hX d_M_readPart_94 ?_
  refine g_topi (y := nI (numC t f)) (by rw [hwn]; exact lN_i _) ?_
  refine g_goto hX d_M_readPart_95 ?_
  refine g_callV (As := [_, _, _]) hX hF.1 d_M_readPart_99 ml_M_347 cf_M_leaf cv_M_leaf rfl rfl (c_M_leafN1 h hP hp hp2) (rcv_obj hX (lv_89 _) rfl rfl) (by omega) (by omega) (by omega) (Nat.le_of_ble_eq_true rfl) ?_
  refine ret_k ?_
  refine g_aload0 hX d_M_readPart_102 ?_
  refine g_getZ hX d_M_readPart_103 fl_M_335 (lv_89 _) ?_
  refine g_topi (hC.fr ((FrR.rf w).bad)).1 ?_
  refine g_if_eq hX d_M_readPart_106 (fun h => absurd h (by decide)) (fun c8 => ?_)
  refine g_iload1 hX d_M_readPart_109 ?_
  refine g_bipush (v := nI 6) hX d_M_readPart_110 rfl ?_
  refine g_icmp_ne hX d_M_readPart_112 (fun c9 => ?_) (fun h => absurd h (by decide))
  refine g_iconst (v := nI 3) hX d_M_readPart_143 rfl ?_
  refine g_iret hX hF d_M_readPart_144 (by omega) (by omega) ?_
  exact ⟨rfl, (FrR.rf w).bad, h.bad hP⟩
theorem c_M_readPart_wordFO {E : EV} {w : Mem} {t : List Nat} {f p : Nat} {c s : List (Nat × Nat)} {od : Nat} (h : RdP w t f p c s od) (hP : PileW c s) (hC : RdC w true) (hns : ¬ isS t f 91) (hp : 50 ≤ p) (hp2 : p < 100) {k : Nat} (hk : k < (partsL true).length) (hw : isW t f (gA2 (partsL true) k)) : T E m_M_readPart 4 0 0 [.ref 89] w (fun r w2 => r = some (.int (nI 3)) ∧ FrR w w2 ∧ BadP w2 t f) := by
  refine T_of (L := [.ref 89, un, un, un]) cf_M_readPart rfl (Nat.le_of_ble_eq_true rfl) (fun X hX hF => ?_)
  have hk7 : k < 7 := Nat.lt_of_lt_of_le hk (by decide)
  refine g_aload0 hX d_M_readPart_0 ?_
  refine g_bipush (v := nI 91) hX d_M_readPart_1 rfl ?_
  refine g_callV (As := [_]) hX hF.1 d_M_readPart_3 ml_M_329 cf_M_isSign cv_M_isSign rfl rfl (c_M_isSign h.1 (by decide)) (rcv_obj hX (lv_89 _) rfl rfl) (by omega) (by omega) (by omega) (Nat.le_of_ble_eq_true rfl) ?_
  refine ret_k ?_
  refine g_ifB_eq hX d_M_readPart_6 (fun c0 => ?_) (fun h => absurd h hns)
  refine g_aload0 hX d_M_readPart_17 ?_
  refine g_getZ hX d_M_readPart_18 fl_M_335 (lv_89 _) ?_
  refine g_topi hC.1 ?_
  refine g_if_eq hX d_M_readPart_21 (fun h => absurd h (by decide)) (fun c1 => ?_)
  refine g_aload0 hX d_M_readPart_24 ?_
  refine g_callV (As := []) hX hF.1 d_M_readPart_25 ml_M_338 cf_M_orderPartAt cv_M_orderPartAt rfl rfl (c_M_orderPartAt h.1 hC.2.2.1) (rcv_obj hX (lv_89 _) rfl rfl) (by omega) (by omega) (by omega) (Nat.le_of_ble_eq_true rfl) ?_
  refine ret_k ?_
  refine g_topi (parts_at hk hw) ?_
  refine g_goto hX d_M_readPart_28 ?_
  refine g_istore1 hX d_M_readPart_35 rfl (by decide) ?_
  refine g_aload0 hX d_M_readPart_36 ?_
  refine g_getI hX d_M_readPart_37 fl_M_278 (lv_89 _) ?_
  refine g_topi h.1.2.2.2.1 ?_
  refine g_iconst (v := nI 2) hX d_M_readPart_40 rfl ?_
  refine g_icmpN_ne hX d_M_readPart_41 (by omega) (by omega) (fun c2 => ?_) (fun h => absurd h (by have := hw.1; omega))
  refine g_iconst (v := nI 0) hX d_M_readPart_59 rfl ?_
  refine g_istore2 hX d_M_readPart_60 rfl (by decide) ?_
  refine g_aload0 hX d_M_readPart_61 ?_
  refine g_iload1 hX d_M_readPart_62 ?_
  refine g_iconst (v := -1) hX d_M_readPart_63 rfl ?_
  refine g_icmp_ne hX d_M_readPart_64 (fun c3 => ?_) (fun h => absurd h (nI_m1 (by omega)))
  refine g_iconst (v := nI 1) hX d_M_readPart_71 rfl ?_
  refine g_goto hX d_M_readPart_72 ?_
  refine g_iload1 hX d_M_readPart_76 ?_
  refine g_iconst (v := -1) hX d_M_readPart_77 rfl ?_
  refine g_icmp_ne hX d_M_readPart_78 (fun c4 => ?_) (fun h => absurd h (nI_m1 (by omega)))
  refine g_iload1 hX d_M_readPart_85 ?_
  refine g_iload2 hX d_M_readPart_86 ?_
  refine g_if_eq hX d_M_readPart_87 (fun c5 => ?_) (fun h => absurd (by decide) h)
  refine g_iconst (v := nI 0) hX d_M_readPart_98 rfl ?_
  refine g_callV (As := [_, _, _]) hX hF.1 d_M_readPart_99 ml_M_347 cf_M_leaf cv_M_leaf rfl rfl (c_M_leafN1 h hP hp hp2) (rcv_obj hX (lv_89 _) rfl rfl) (by omega) (by omega) (by omega) (Nat.le_of_ble_eq_true rfl) ?_
  refine ret_k ?_
  refine g_aload0 hX d_M_readPart_102 ?_
  refine g_getZ hX d_M_readPart_103 fl_M_335 (lv_89 _) ?_
  refine g_topi (hC.fr ((FrR.rf w).bad)).1 ?_
  refine g_if_eq hX d_M_readPart_106 (fun h => absurd h (by decide)) (fun c6 => ?_)
  refine g_iload1 hX d_M_readPart_109 ?_
  refine g_bipush (v := nI 6) hX d_M_readPart_110 rfl ?_
  refine g_icmpN_ne hX d_M_readPart_112 (by omega) (by omega) (fun c7 => ?_) (fun c7 => ?_)
  · refine g_iconst (v := nI 3) hX d_M_readPart_143 rfl ?_
    refine g_iret hX hF d_M_readPart_144 (by omega) (by omega) ?_
    exact ⟨rfl, (FrR.rf w).bad, h.bad hP⟩
  · refine g_aload0 hX d_M_readPart_115 ?_
    refine g_getZ hX d_M_readPart_116 fl_M_258 (lv_89 _) ?_
    refine g_topi (show rI (sI (sI w 89 19 (nI 1)) 89 18 (nI f)) 89 19 = nI 1 by rw [rI_sI, upd_eq, if_neg (by decide), rI_sI, upd_eq, if_pos rfl]) ?_
    refine g_if_ne hX d_M_readPart_119 (fun c8 => ?_) (fun h => absurd h (by decide))
    refine g_iconst (v := nI 3) hX d_M_readPart_143 rfl ?_
    refine g_iret hX hF d_M_readPart_144 (by omega) (by omega) ?_
    exact ⟨rfl, (FrR.rf w).bad, h.bad hP⟩
theorem c_M_readPart_bY {E : EV} {w : Mem} {t : List Nat} {f p : Nat} {c s : List (Nat × Nat)} {od : Nat} (h : RdP w t f p c s od) (hP : PileW c s) (hs : isS t f 91) (hlt : s.length < 400) (hod : od < 8) : T E m_M_readPart 4 0 0 [.ref 89] w (fun r w2 => r = some (.int (nI 1)) ∧ FrR w w2 ∧ RdP w2 t (nxT t f) p c (s ++ [(32, 0)]) (od + 1)) := by
  refine T_of (L := [.ref 89, un, un, un]) cf_M_readPart rfl (Nat.le_of_ble_eq_true rfl) (fun X hX hF => ?_)
  refine g_aload0 hX d_M_readPart_0 ?_
  refine g_bipush (v := nI 91) hX d_M_readPart_1 rfl ?_
  refine g_callV (As := [_]) hX hF.1 d_M_readPart_3 ml_M_329 cf_M_isSign cv_M_isSign rfl rfl (c_M_isSign h.1 (by decide)) (rcv_obj hX (lv_89 _) rfl rfl) (by omega) (by omega) (by omega) (Nat.le_of_ble_eq_true rfl) ?_
  refine ret_k ?_
  refine g_ifB_eq hX d_M_readPart_6 (fun h => absurd hs h) (fun c0 => ?_)
  refine g_aload0 hX d_M_readPart_9 ?_
  refine g_bipush (v := nI 32) hX d_M_readPart_10 rfl ?_
  refine g_callV (As := [_]) hX hF.1 d_M_readPart_12 ml_M_332 cf_M_openBracket cv_M_openBracket rfl rfl (c_M_openBracketY (q := 32) h hP hlt hod) (rcv_obj hX (lv_89 _) rfl rfl) (by omega) (by omega) (by omega) (Nat.le_of_ble_eq_true rfl) ?_
  rintro _ w2 ⟨rfl, hf, h2⟩
  show G0 _ _ _ _ _ _ _ _
  refine g_iconst (v := nI 1) hX d_M_readPart_15 rfl ?_
  refine g_iret hX hF d_M_readPart_16 (by omega) (by omega) ?_
  exact ⟨rfl, hf, h2⟩
theorem c_M_readPart_bN {E : EV} {w : Mem} {t : List Nat} {f p : Nat} {c s : List (Nat × Nat)} {od : Nat} (h : RdP w t f p c s od) (hP : PileW c s) (hs : isS t f 91) (hod : 8 ≤ od) (ho8 : od < 100) : T E m_M_readPart 4 0 0 [.ref 89] w (fun r w2 => r = some (.int (nI 1)) ∧ FrR w w2 ∧ BadP w2 t f) := by
  refine T_of (L := [.ref 89, un, un, un]) cf_M_readPart rfl (Nat.le_of_ble_eq_true rfl) (fun X hX hF => ?_)
  refine g_aload0 hX d_M_readPart_0 ?_
  refine g_bipush (v := nI 91) hX d_M_readPart_1 rfl ?_
  refine g_callV (As := [_]) hX hF.1 d_M_readPart_3 ml_M_329 cf_M_isSign cv_M_isSign rfl rfl (c_M_isSign h.1 (by decide)) (rcv_obj hX (lv_89 _) rfl rfl) (by omega) (by omega) (by omega) (Nat.le_of_ble_eq_true rfl) ?_
  refine ret_k ?_
  refine g_ifB_eq hX d_M_readPart_6 (fun h => absurd hs h) (fun c0 => ?_)
  refine g_aload0 hX d_M_readPart_9 ?_
  refine g_bipush (v := nI 32) hX d_M_readPart_10 rfl ?_
  refine g_callV (As := [_]) hX hF.1 d_M_readPart_12 ml_M_332 cf_M_openBracket cv_M_openBracket rfl rfl (c_M_openBracketN h hP hod ho8) (rcv_obj hX (lv_89 _) rfl rfl) (by omega) (by omega) (by omega) (Nat.le_of_ble_eq_true rfl) ?_
  refine ret_k ?_
  refine g_iconst (v := nI 1) hX d_M_readPart_15 rfl ?_
  refine g_iret hX hF d_M_readPart_16 (by omega) (by omega) ?_
  exact ⟨rfl, (FrR.rf w).bad, h.bad hP⟩
