def m_M_node : MR := (⟨"SubgraphDeskModel", "node", "(I)I"⟩, prog_14_method_23_code, 3, (some .int))
theorem cf_M_node : CF m_M_node 1 := ⟨gd 1711 (by decide +kernel) rfl, gd 151 (by decide +kernel) rfl, by decide +kernel, by decide, by decide +kernel⟩
theorem cv_M_node : CV m_M_node := ⟨gd 1709 (by decide +kernel) rfl, gd 1710 (by decide +kernel) rfl⟩
def m_M_vertex : MR := (⟨"SubgraphDeskModel", "vertex", "(I)I"⟩, prog_14_method_24_code, 3, (some .int))
theorem cf_M_vertex : CF m_M_vertex 1 := ⟨gd 1716 (by decide +kernel) rfl, gd 151 (by decide +kernel) rfl, by decide +kernel, by decide, by decide +kernel⟩
theorem cv_M_vertex : CV m_M_vertex := ⟨gd 1714 (by decide +kernel) rfl, gd 1715 (by decide +kernel) rfl⟩
theorem d_M_node_0 : Dc prog_14_method_23_code 0 (.aload_n 0) 1 1 := ⟨by decide +kernel, rfl⟩
theorem d_M_node_1 : Dc prog_14_method_23_code 1 (.iconst 0) 1 2 := ⟨by decide +kernel, rfl⟩
theorem d_M_node_2 : Dc prog_14_method_23_code 2 (.putfield 170) 3 5 := ⟨by decide +kernel, rfl⟩
theorem d_M_node_5 : Dc prog_14_method_23_code 5 (.iload_n 1) 1 6 := ⟨by decide +kernel, rfl⟩
theorem d_M_node_6 : Dc prog_14_method_23_code 6 (.i2l) 1 7 := ⟨by decide +kernel, rfl⟩
theorem d_M_node_7 : Dc prog_14_method_23_code 7 (.lconst 0) 1 8 := ⟨by decide +kernel, rfl⟩
theorem d_M_node_8 : Dc prog_14_method_23_code 8 (.ldc2_w 210) 3 11 := ⟨by decide +kernel, rfl⟩
theorem d_M_node_11 : Dc prog_14_method_23_code 11 (.invokestatic 190) 3 14 := ⟨by decide +kernel, rfl⟩
theorem d_M_node_14 : Dj prog_14_method_23_code 14 (.ifCond .ne 9) 17 9 23 := ⟨by decide +kernel, rfl, rfl⟩
theorem d_M_node_17 : Dc prog_14_method_23_code 17 (.aload_n 0) 1 18 := ⟨by decide +kernel, rfl⟩
theorem d_M_node_18 : Dc prog_14_method_23_code 18 (.iconst (-1)) 1 19 := ⟨by decide +kernel, rfl⟩
theorem d_M_node_19 : Dc prog_14_method_23_code 19 (.invokevirtual 179) 3 22 := ⟨by decide +kernel, rfl⟩
theorem d_M_node_22 : Dc prog_14_method_23_code 22 (.ireturn) 1 23 := ⟨by decide +kernel, rfl⟩
theorem d_M_node_23 : Dc prog_14_method_23_code 23 (.aload_n 0) 1 24 := ⟨by decide +kernel, rfl⟩
theorem d_M_node_24 : Dc prog_14_method_23_code 24 (.getfield 13) 3 27 := ⟨by decide +kernel, rfl⟩
theorem d_M_node_27 : Dc prog_14_method_23_code 27 (.iconst 0) 1 28 := ⟨by decide +kernel, rfl⟩
theorem d_M_node_28 : Dc prog_14_method_23_code 28 (.iaload) 1 29 := ⟨by decide +kernel, rfl⟩
theorem d_M_node_29 : Dc prog_14_method_23_code 29 (.istore_n 2) 1 30 := ⟨by decide +kernel, rfl⟩
theorem d_M_node_30 : Dc prog_14_method_23_code 30 (.iload_n 2) 1 31 := ⟨by decide +kernel, rfl⟩
theorem d_M_node_31 : Dc prog_14_method_23_code 31 (.bipush 12) 2 33 := ⟨by decide +kernel, rfl⟩
theorem d_M_node_33 : Dj prog_14_method_23_code 33 (.if_icmp .ne 10) 36 10 43 := ⟨by decide +kernel, rfl, rfl⟩
theorem d_M_node_36 : Dc prog_14_method_23_code 36 (.aload_n 0) 1 37 := ⟨by decide +kernel, rfl⟩
theorem d_M_node_37 : Dc prog_14_method_23_code 37 (.bipush (-5)) 2 39 := ⟨by decide +kernel, rfl⟩
theorem d_M_node_39 : Dc prog_14_method_23_code 39 (.invokevirtual 179) 3 42 := ⟨by decide +kernel, rfl⟩
theorem d_M_node_42 : Dc prog_14_method_23_code 42 (.ireturn) 1 43 := ⟨by decide +kernel, rfl⟩
theorem d_M_node_43 : Dc prog_14_method_23_code 43 (.aload_n 0) 1 44 := ⟨by decide +kernel, rfl⟩
theorem d_M_node_44 : Dc prog_14_method_23_code 44 (.getfield 13) 3 47 := ⟨by decide +kernel, rfl⟩
theorem d_M_node_47 : Dc prog_14_method_23_code 47 (.bipush 9) 2 49 := ⟨by decide +kernel, rfl⟩
theorem d_M_node_49 : Dc prog_14_method_23_code 49 (.iload_n 2) 1 50 := ⟨by decide +kernel, rfl⟩
theorem d_M_node_50 : Dc prog_14_method_23_code 50 (.iadd) 1 51 := ⟨by decide +kernel, rfl⟩
theorem d_M_node_51 : Dc prog_14_method_23_code 51 (.iload_n 1) 1 52 := ⟨by decide +kernel, rfl⟩
theorem d_M_node_52 : Dc prog_14_method_23_code 52 (.iastore) 1 53 := ⟨by decide +kernel, rfl⟩
theorem d_M_node_53 : Dc prog_14_method_23_code 53 (.aload_n 0) 1 54 := ⟨by decide +kernel, rfl⟩
theorem d_M_node_54 : Dc prog_14_method_23_code 54 (.getfield 13) 3 57 := ⟨by decide +kernel, rfl⟩
theorem d_M_node_57 : Dc prog_14_method_23_code 57 (.iconst 0) 1 58 := ⟨by decide +kernel, rfl⟩
theorem d_M_node_58 : Dc prog_14_method_23_code 58 (.dup2) 1 59 := ⟨by decide +kernel, rfl⟩
theorem d_M_node_59 : Dc prog_14_method_23_code 59 (.iaload) 1 60 := ⟨by decide +kernel, rfl⟩
theorem d_M_node_60 : Dc prog_14_method_23_code 60 (.iconst 1) 1 61 := ⟨by decide +kernel, rfl⟩
theorem d_M_node_61 : Dc prog_14_method_23_code 61 (.iadd) 1 62 := ⟨by decide +kernel, rfl⟩
theorem d_M_node_62 : Dc prog_14_method_23_code 62 (.iastore) 1 63 := ⟨by decide +kernel, rfl⟩
theorem d_M_node_63 : Dc prog_14_method_23_code 63 (.aload_n 0) 1 64 := ⟨by decide +kernel, rfl⟩
theorem d_M_node_64 : Dc prog_14_method_23_code 64 (.iload_n 2) 1 65 := ⟨by decide +kernel, rfl⟩
theorem d_M_node_65 : Dc prog_14_method_23_code 65 (.invokevirtual 194) 3 68 := ⟨by decide +kernel, rfl⟩
theorem d_M_node_68 : Dc prog_14_method_23_code 68 (.ireturn) 1 69 := ⟨by decide +kernel, rfl⟩
theorem d_M_vertex_0 : Dc prog_14_method_24_code 0 (.aload_n 0) 1 1 := ⟨by decide +kernel, rfl⟩
theorem d_M_vertex_1 : Dc prog_14_method_24_code 1 (.iconst 0) 1 2 := ⟨by decide +kernel, rfl⟩
theorem d_M_vertex_2 : Dc prog_14_method_24_code 2 (.putfield 170) 3 5 := ⟨by decide +kernel, rfl⟩
theorem d_M_vertex_5 : Dc prog_14_method_24_code 5 (.iload_n 1) 1 6 := ⟨by decide +kernel, rfl⟩
theorem d_M_vertex_6 : Dc prog_14_method_24_code 6 (.i2l) 1 7 := ⟨by decide +kernel, rfl⟩
theorem d_M_vertex_7 : Dc prog_14_method_24_code 7 (.lconst 0) 1 8 := ⟨by decide +kernel, rfl⟩
theorem d_M_vertex_8 : Dc prog_14_method_24_code 8 (.ldc2_w 212) 3 11 := ⟨by decide +kernel, rfl⟩
theorem d_M_vertex_11 : Dc prog_14_method_24_code 11 (.invokestatic 190) 3 14 := ⟨by decide +kernel, rfl⟩
theorem d_M_vertex_14 : Dj prog_14_method_24_code 14 (.ifCond .ne 9) 17 9 23 := ⟨by decide +kernel, rfl, rfl⟩
theorem d_M_vertex_17 : Dc prog_14_method_24_code 17 (.aload_n 0) 1 18 := ⟨by decide +kernel, rfl⟩
theorem d_M_vertex_18 : Dc prog_14_method_24_code 18 (.iconst (-1)) 1 19 := ⟨by decide +kernel, rfl⟩
theorem d_M_vertex_19 : Dc prog_14_method_24_code 19 (.invokevirtual 179) 3 22 := ⟨by decide +kernel, rfl⟩
theorem d_M_vertex_22 : Dc prog_14_method_24_code 22 (.ireturn) 1 23 := ⟨by decide +kernel, rfl⟩
theorem d_M_vertex_23 : Dc prog_14_method_24_code 23 (.aload_n 0) 1 24 := ⟨by decide +kernel, rfl⟩
theorem d_M_vertex_24 : Dc prog_14_method_24_code 24 (.getfield 13) 3 27 := ⟨by decide +kernel, rfl⟩
theorem d_M_vertex_27 : Dc prog_14_method_24_code 27 (.iconst 1) 1 28 := ⟨by decide +kernel, rfl⟩
theorem d_M_vertex_28 : Dc prog_14_method_24_code 28 (.iaload) 1 29 := ⟨by decide +kernel, rfl⟩
theorem d_M_vertex_29 : Dc prog_14_method_24_code 29 (.istore_n 2) 1 30 := ⟨by decide +kernel, rfl⟩
theorem d_M_vertex_30 : Dc prog_14_method_24_code 30 (.iload_n 2) 1 31 := ⟨by decide +kernel, rfl⟩
theorem d_M_vertex_31 : Dc prog_14_method_24_code 31 (.iconst 5) 1 32 := ⟨by decide +kernel, rfl⟩
theorem d_M_vertex_32 : Dj prog_14_method_24_code 32 (.if_icmp .ne 10) 35 10 42 := ⟨by decide +kernel, rfl, rfl⟩
theorem d_M_vertex_35 : Dc prog_14_method_24_code 35 (.aload_n 0) 1 36 := ⟨by decide +kernel, rfl⟩
theorem d_M_vertex_36 : Dc prog_14_method_24_code 36 (.bipush (-5)) 2 38 := ⟨by decide +kernel, rfl⟩
theorem d_M_vertex_38 : Dc prog_14_method_24_code 38 (.invokevirtual 179) 3 41 := ⟨by decide +kernel, rfl⟩
theorem d_M_vertex_41 : Dc prog_14_method_24_code 41 (.ireturn) 1 42 := ⟨by decide +kernel, rfl⟩
theorem d_M_vertex_42 : Dc prog_14_method_24_code 42 (.aload_n 0) 1 43 := ⟨by decide +kernel, rfl⟩
theorem d_M_vertex_43 : Dc prog_14_method_24_code 43 (.getfield 13) 3 46 := ⟨by decide +kernel, rfl⟩
theorem d_M_vertex_46 : Dc prog_14_method_24_code 46 (.bipush 21) 2 48 := ⟨by decide +kernel, rfl⟩
theorem d_M_vertex_48 : Dc prog_14_method_24_code 48 (.iload_n 2) 1 49 := ⟨by decide +kernel, rfl⟩
theorem d_M_vertex_49 : Dc prog_14_method_24_code 49 (.iadd) 1 50 := ⟨by decide +kernel, rfl⟩
theorem d_M_vertex_50 : Dc prog_14_method_24_code 50 (.iload_n 1) 1 51 := ⟨by decide +kernel, rfl⟩
theorem d_M_vertex_51 : Dc prog_14_method_24_code 51 (.iastore) 1 52 := ⟨by decide +kernel, rfl⟩
theorem d_M_vertex_52 : Dc prog_14_method_24_code 52 (.aload_n 0) 1 53 := ⟨by decide +kernel, rfl⟩
theorem d_M_vertex_53 : Dc prog_14_method_24_code 53 (.getfield 13) 3 56 := ⟨by decide +kernel, rfl⟩
theorem d_M_vertex_56 : Dc prog_14_method_24_code 56 (.bipush 26) 2 58 := ⟨by decide +kernel, rfl⟩
theorem d_M_vertex_58 : Dc prog_14_method_24_code 58 (.iload_n 2) 1 59 := ⟨by decide +kernel, rfl⟩
theorem d_M_vertex_59 : Dc prog_14_method_24_code 59 (.iadd) 1 60 := ⟨by decide +kernel, rfl⟩
theorem d_M_vertex_60 : Dc prog_14_method_24_code 60 (.iconst 0) 1 61 := ⟨by decide +kernel, rfl⟩
theorem d_M_vertex_61 : Dc prog_14_method_24_code 61 (.iastore) 1 62 := ⟨by decide +kernel, rfl⟩
theorem d_M_vertex_62 : Dc prog_14_method_24_code 62 (.aload_n 0) 1 63 := ⟨by decide +kernel, rfl⟩
theorem d_M_vertex_63 : Dc prog_14_method_24_code 63 (.getfield 13) 3 66 := ⟨by decide +kernel, rfl⟩
theorem d_M_vertex_66 : Dc prog_14_method_24_code 66 (.iconst 1) 1 67 := ⟨by decide +kernel, rfl⟩
theorem d_M_vertex_67 : Dc prog_14_method_24_code 67 (.dup2) 1 68 := ⟨by decide +kernel, rfl⟩
theorem d_M_vertex_68 : Dc prog_14_method_24_code 68 (.iaload) 1 69 := ⟨by decide +kernel, rfl⟩
theorem d_M_vertex_69 : Dc prog_14_method_24_code 69 (.iconst 1) 1 70 := ⟨by decide +kernel, rfl⟩
theorem d_M_vertex_70 : Dc prog_14_method_24_code 70 (.iadd) 1 71 := ⟨by decide +kernel, rfl⟩
theorem d_M_vertex_71 : Dc prog_14_method_24_code 71 (.iastore) 1 72 := ⟨by decide +kernel, rfl⟩
theorem d_M_vertex_72 : Dc prog_14_method_24_code 72 (.aload_n 0) 1 73 := ⟨by decide +kernel, rfl⟩
theorem d_M_vertex_73 : Dc prog_14_method_24_code 73 (.iload_n 2) 1 74 := ⟨by decide +kernel, rfl⟩
theorem d_M_vertex_74 : Dc prog_14_method_24_code 74 (.invokevirtual 194) 3 77 := ⟨by decide +kernel, rfl⟩
theorem d_M_vertex_77 : Dc prog_14_method_24_code 77 (.ireturn) 1 78 := ⟨by decide +kernel, rfl⟩
theorem fl_M_170 : FL "SubgraphDeskModel" 170 12 0 false .int (0, 0) := ⟨R_M, F_M, 69, ty_M, rfl, rfl, in_M, tyok_M, nm_M, by decide, gd 1472 (by decide +kernel) rfl, rfl, rfl, rfl⟩
theorem ml_M_194 : Cond.methodLink "SubgraphDeskModel" 194 m_M_lasting.1 ∈ lw_gd := gd 1704 (by decide +kernel) rfl
theorem k_M_210 : Cond.constantLong "SubgraphDeskModel" 210 (5) ∈ lw_gd := gd 1712 (by decide +kernel) rfl
theorem k_M_212 : Cond.constantLong "SubgraphDeskModel" 212 (6) ∈ lw_gd := gd 1717 (by decide +kernel) rfl
theorem c_M_node {E : EV} {w : Mem} {c : Int32} {s : SG} (h : MInv w s) : T E m_M_node 2 0 0 [.ref 89, .int c] w (fun r w2 => r = some (.int (opNode c s).1) ∧ MInv w2 (opNode c s).2 ∧ FrM w w2) := by
  refine T_of (L := [.ref 89, .int c, un]) cf_M_node rfl (Nat.le_of_ble_eq_true rfl) (fun X hX hF => ?_)
  obtain ⟨⟨hR, hL, hW⟩, hU, hT, hI, hRf, hSt, hFa, hSm, hSp, hDr, hOr⟩ := id h
  have hn := hW.n
  have hv := hW.v
  refine g_aload0 hX d_M_node_0 ?_
  refine g_iconst (v := nI 0) hX d_M_node_1 rfl ?_
  refine g_putI hX d_M_node_2 fl_M_170 (lv_89 _) ?_
  refine g_iload1 hX d_M_node_5 ?_
  refine g_i2l hX d_M_node_6 ?_
  refine g_lconst (v := lN 0) hX d_M_node_7 rfl ?_
  refine g_ldc2 (v := lN 5) hX d_M_node_8 k_M_210 rfl ?_
  refine g_callS (As := [_, _, _]) hX hF.1 d_M_node_11 ml_M_190 cf_M_in cs_M_in rfl (c_M_in) (by omega) (by omega) (by omega) (Nat.le_of_ble_eq_true rfl) ?_
  refine ret_k ?_
  refine g_ifB_ne hX d_M_node_14 (fun c0 => ?_) (fun c0 => ?_)
  · have d0 := (in_le (by decide)).mp c0
    refine g_aload0 hX d_M_node_23 ?_
    refine g_getF hX d_M_node_24 fl_M_13 (lv_89 _) ?_
    refine g_iconst (v := nI 0) hX d_M_node_27 rfl ?_
    refine g_iald hX d_M_node_28 (lv_91 _) rfl (by decide) ?_
    refine g_topi hR.n ?_
    refine g_istore2 hX d_M_node_29 rfl (by decide) ?_
    refine g_iload2 hX d_M_node_30 ?_
    refine g_bipush (v := nI 12) hX d_M_node_31 rfl ?_
    refine g_icmpN_ne hX d_M_node_33 (by omega) (by omega) (fun c1 => ?_) (fun c1 => ?_)
    · obtain ⟨j, hj, rfl, htn⟩ := inN_of d0 (by decide)
      refine g_aload0 hX d_M_node_43 ?_
      refine g_getF hX d_M_node_44 fl_M_13 (lv_89 _) ?_
      refine g_bipush (v := nI 9) hX d_M_node_47 rfl ?_
      refine g_iload2 hX d_M_node_49 ?_
      refine g_iaddN hX d_M_node_50 ?_
      refine g_iload1 hX d_M_node_51 ?_
      refine g_iast hX d_M_node_52 (lv_91 _) rfl (by omega) ?_
      refine g_aload0 hX d_M_node_53 ?_
      refine g_getF hX d_M_node_54 fl_M_13 (lv_89 _) ?_
      refine g_iconst (v := nI 0) hX d_M_node_57 rfl ?_
      refine g_dup2 hX d_M_node_58 rfl rfl ?_
      refine g_iald hX d_M_node_59 (lv_91 _) rfl (by decide) ?_
      refine g_topi (show rI _ 91 0 = nI (gN (sG s)) from (by rw [rI_sI, upd_eq, if_neg (by omega)]; exact hR.n)) ?_
      refine g_iconst (v := nI 1) hX d_M_node_60 rfl ?_
      refine g_iaddN hX d_M_node_61 ?_
      refine g_iast hX d_M_node_62 (lv_91 _) rfl (by decide) ?_
      refine g_aload0 hX d_M_node_63 ?_
      refine g_iload2 hX d_M_node_64 ?_
      refine g_callV (As := [_]) hX hF.1 d_M_node_65 ml_M_194 cf_M_lasting cv_M_lasting rfl rfl (c_M_lasting (by omega)) (rcv_obj hX (lv_89 _) rfl rfl) (by omega) (by omega) (by omega) (Nat.le_of_ble_eq_true rfl) ?_
      refine ret_k ?_
      refine g_iret hX hF d_M_node_68 (by omega) (by omega) ?_
      unfold opNode
      rw [if_neg (not_not_intro d0), if_neg (by omega), htn]
      refine ⟨rfl, ⟨⟨?_, ?_, ?_⟩, MUndo.nil, hT, hI, hRf, rfl, hFa, hSm, hSp, hDr, hOr⟩, (by repeat (first | exact FrM.rf _ | refine FrM.I (by decide) ?_ | refine FrM.A (by decide) ?_ | refine FrM.J9 ?_ | refine FrM.J (by decide) ?_))⟩
      · exact hR.addN hW (by omega)
      · exact hL.congr (fun i hi => by show upd (upd (rI w 91) _ _) _ _ i = rI w 91 i; rw [upd_eq, upd_eq, if_neg (by omega), if_neg (by omega)])
      · exact hW.addN (by omega) (by omega)
    · refine g_aload0 hX d_M_node_36 ?_
      refine g_bipush (v := -5) hX d_M_node_37 rfl ?_
      refine g_callV (As := [_]) hX hF.1 d_M_node_39 ml_M_179 cf_M_tell cv_M_tell rfl rfl (c_M_tellN (k := 5) (by decide) (by decide)) (rcv_obj hX (lv_89 _) rfl rfl) (by omega) (by omega) (by omega) (Nat.le_of_ble_eq_true rfl) ?_
      refine ret_k ?_
      refine g_iret hX hF d_M_node_42 (by omega) (by omega) ?_
      unfold opNode
      rw [if_neg (not_not_intro d0), if_pos (by omega)]
      exact ⟨rfl, (h.thr (x := nI 0)).no (k := 5) (by decide), (by repeat (first | exact FrM.rf _ | refine FrM.I (by decide) ?_ | refine FrM.A (by decide) ?_ | refine FrM.J9 ?_ | refine FrM.J (by decide) ?_))⟩
  · have d0 := mt (in_le (by decide)).mpr c0
    refine g_aload0 hX d_M_node_17 ?_
    refine g_iconst (v := -1) hX d_M_node_18 rfl ?_
    refine g_callV (As := [_]) hX hF.1 d_M_node_19 ml_M_179 cf_M_tell cv_M_tell rfl rfl (c_M_tellN (k := 1) (by decide) (by decide)) (rcv_obj hX (lv_89 _) rfl rfl) (by omega) (by omega) (by omega) (Nat.le_of_ble_eq_true rfl) ?_
    refine ret_k ?_
    refine g_iret hX hF d_M_node_22 (by omega) (by omega) ?_
    unfold opNode
    rw [if_pos d0]
    exact ⟨rfl, (h.thr (x := nI 0)).no (k := 1) (by decide), (by repeat (first | exact FrM.rf _ | refine FrM.I (by decide) ?_ | refine FrM.A (by decide) ?_ | refine FrM.J9 ?_ | refine FrM.J (by decide) ?_))⟩
theorem c_M_vertex {E : EV} {w : Mem} {c : Int32} {s : SG} (h : MInv w s) : T E m_M_vertex 2 0 0 [.ref 89, .int c] w (fun r w2 => r = some (.int (opVertex c s).1) ∧ MInv w2 (opVertex c s).2 ∧ FrM w w2) := by
  refine T_of (L := [.ref 89, .int c, un]) cf_M_vertex rfl (Nat.le_of_ble_eq_true rfl) (fun X hX hF => ?_)
  obtain ⟨⟨hR, hL, hW⟩, hU, hT, hI, hRf, hSt, hFa, hSm, hSp, hDr, hOr⟩ := id h
  have hn := hW.n
  have hv := hW.v
  refine g_aload0 hX d_M_vertex_0 ?_
  refine g_iconst (v := nI 0) hX d_M_vertex_1 rfl ?_
  refine g_putI hX d_M_vertex_2 fl_M_170 (lv_89 _) ?_
  refine g_iload1 hX d_M_vertex_5 ?_
  refine g_i2l hX d_M_vertex_6 ?_
  refine g_lconst (v := lN 0) hX d_M_vertex_7 rfl ?_
  refine g_ldc2 (v := lN 6) hX d_M_vertex_8 k_M_212 rfl ?_
  refine g_callS (As := [_, _, _]) hX hF.1 d_M_vertex_11 ml_M_190 cf_M_in cs_M_in rfl (c_M_in) (by omega) (by omega) (by omega) (Nat.le_of_ble_eq_true rfl) ?_
  refine ret_k ?_
  refine g_ifB_ne hX d_M_vertex_14 (fun c0 => ?_) (fun c0 => ?_)
  · have d0 := (in_le (by decide)).mp c0
    refine g_aload0 hX d_M_vertex_23 ?_
    refine g_getF hX d_M_vertex_24 fl_M_13 (lv_89 _) ?_
    refine g_iconst (v := nI 1) hX d_M_vertex_27 rfl ?_
    refine g_iald hX d_M_vertex_28 (lv_91 _) rfl (by decide) ?_
    refine g_topi hR.v ?_
    refine g_istore2 hX d_M_vertex_29 rfl (by decide) ?_
    refine g_iload2 hX d_M_vertex_30 ?_
    refine g_iconst (v := nI 5) hX d_M_vertex_31 rfl ?_
    refine g_icmpN_ne hX d_M_vertex_32 (by omega) (by omega) (fun c1 => ?_) (fun c1 => ?_)
    · obtain ⟨j, hj, rfl, htn⟩ := inN_of d0 (by decide)
      refine g_aload0 hX d_M_vertex_42 ?_
      refine g_getF hX d_M_vertex_43 fl_M_13 (lv_89 _) ?_
      refine g_bipush (v := nI 21) hX d_M_vertex_46 rfl ?_
      refine g_iload2 hX d_M_vertex_48 ?_
      refine g_iaddN hX d_M_vertex_49 ?_
      refine g_iload1 hX d_M_vertex_50 ?_
      refine g_iast hX d_M_vertex_51 (lv_91 _) rfl (by omega) ?_
      refine g_aload0 hX d_M_vertex_52 ?_
      refine g_getF hX d_M_vertex_53 fl_M_13 (lv_89 _) ?_
      refine g_bipush (v := nI 26) hX d_M_vertex_56 rfl ?_
      refine g_iload2 hX d_M_vertex_58 ?_
      refine g_iaddN hX d_M_vertex_59 ?_
      refine g_iconst (v := nI 0) hX d_M_vertex_60 rfl ?_
      refine g_iast hX d_M_vertex_61 (lv_91 _) rfl (by omega) ?_
      refine g_aload0 hX d_M_vertex_62 ?_
      refine g_getF hX d_M_vertex_63 fl_M_13 (lv_89 _) ?_
      refine g_iconst (v := nI 1) hX d_M_vertex_66 rfl ?_
      refine g_dup2 hX d_M_vertex_67 rfl rfl ?_
      refine g_iald hX d_M_vertex_68 (lv_91 _) rfl (by decide) ?_
      refine g_topi (show rI _ 91 1 = nI (gV (sG s)) from (by rw [rI_sI, upd_eq, if_neg (by omega), rI_sI, upd_eq, if_neg (by omega)]; exact hR.v)) ?_
      refine g_iconst (v := nI 1) hX d_M_vertex_69 rfl ?_
      refine g_iaddN hX d_M_vertex_70 ?_
      refine g_iast hX d_M_vertex_71 (lv_91 _) rfl (by decide) ?_
      refine g_aload0 hX d_M_vertex_72 ?_
      refine g_iload2 hX d_M_vertex_73 ?_
      refine g_callV (As := [_]) hX hF.1 d_M_vertex_74 ml_M_194 cf_M_lasting cv_M_lasting rfl rfl (c_M_lasting (by omega)) (rcv_obj hX (lv_89 _) rfl rfl) (by omega) (by omega) (by omega) (Nat.le_of_ble_eq_true rfl) ?_
      refine ret_k ?_
      refine g_iret hX hF d_M_vertex_77 (by omega) (by omega) ?_
      unfold opVertex
      rw [if_neg (not_not_intro d0), if_neg (by omega), htn]
      refine ⟨rfl, ⟨⟨?_, ?_, ?_⟩, MUndo.nil, hT, hI, hRf, rfl, hFa, hSm, hSp, hDr, hOr⟩, (by repeat (first | exact FrM.rf _ | refine FrM.I (by decide) ?_ | refine FrM.A (by decide) ?_ | refine FrM.J9 ?_ | refine FrM.J (by decide) ?_))⟩
      · exact hR.addV hW (by omega)
      · exact hL.congr (fun i hi => by show upd (upd (upd (rI w 91) _ _) _ _) _ _ i = rI w 91 i; rw [upd_eq, upd_eq, upd_eq, if_neg (by omega), if_neg (by omega), if_neg (by omega)])
      · exact hW.addV (by omega) (by omega)
    · refine g_aload0 hX d_M_vertex_35 ?_
      refine g_bipush (v := -5) hX d_M_vertex_36 rfl ?_
      refine g_callV (As := [_]) hX hF.1 d_M_vertex_38 ml_M_179 cf_M_tell cv_M_tell rfl rfl (c_M_tellN (k := 5) (by decide) (by decide)) (rcv_obj hX (lv_89 _) rfl rfl) (by omega) (by omega) (by omega) (Nat.le_of_ble_eq_true rfl) ?_
      refine ret_k ?_
      refine g_iret hX hF d_M_vertex_41 (by omega) (by omega) ?_
      unfold opVertex
      rw [if_neg (not_not_intro d0), if_pos (by omega)]
      exact ⟨rfl, (h.thr (x := nI 0)).no (k := 5) (by decide), (by repeat (first | exact FrM.rf _ | refine FrM.I (by decide) ?_ | refine FrM.A (by decide) ?_ | refine FrM.J9 ?_ | refine FrM.J (by decide) ?_))⟩
  · have d0 := mt (in_le (by decide)).mpr c0
    refine g_aload0 hX d_M_vertex_17 ?_
    refine g_iconst (v := -1) hX d_M_vertex_18 rfl ?_
    refine g_callV (As := [_]) hX hF.1 d_M_vertex_19 ml_M_179 cf_M_tell cv_M_tell rfl rfl (c_M_tellN (k := 1) (by decide) (by decide)) (rcv_obj hX (lv_89 _) rfl rfl) (by omega) (by omega) (by omega) (Nat.le_of_ble_eq_true rfl) ?_
    refine ret_k ?_
    refine g_iret hX hF d_M_vertex_22 (by omega) (by omega) ?_
    unfold opVertex
    rw [if_pos d0]
    exact ⟨rfl, (h.thr (x := nI 0)).no (k := 1) (by decide), (by repeat (first | exact FrM.rf _ | refine FrM.I (by decide) ?_ | refine FrM.A (by decide) ?_ | refine FrM.J9 ?_ | refine FrM.J (by decide) ?_))⟩
