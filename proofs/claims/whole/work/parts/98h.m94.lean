def m_Bo_lawInForce : MR := (⟨"SubgraphDesk$Board", "lawInForce", "()LSubgraphDesk$Program;"⟩, prog_3_method_11_code, 1, (some (.object "SubgraphDesk$Program")))
theorem cf_Bo_lawInForce : CF m_Bo_lawInForce 0 := ⟨gd 671 (by decide +kernel) rfl, gd 140 (by decide +kernel) rfl, by decide +kernel, by decide, by decide +kernel⟩
theorem cv_Bo_lawInForce : CV m_Bo_lawInForce := ⟨gd 669 (by decide +kernel) rfl, gd 670 (by decide +kernel) rfl⟩
def m_Bo_lawOrNull : MR := (⟨"SubgraphDesk$Board", "lawOrNull", "(I)LSubgraphDesk$Program;"⟩, prog_3_method_10_code, 2, (some (.object "SubgraphDesk$Program")))
theorem cf_Bo_lawOrNull : CF m_Bo_lawOrNull 1 := ⟨gd 675 (by decide +kernel) rfl, gd 140 (by decide +kernel) rfl, by decide +kernel, by decide, by decide +kernel⟩
theorem cv_Bo_lawOrNull : CV m_Bo_lawOrNull := ⟨gd 673 (by decide +kernel) rfl, gd 674 (by decide +kernel) rfl⟩
def m_D_lay : MR := (⟨"SubgraphDesk", "lay", "(III)I"⟩, prog_1_method_9_code, 4, (some .int))
theorem cf_D_lay : CF m_D_lay 3 := ⟨gd 667 (by decide +kernel) rfl, gd 139 (by decide +kernel) rfl, by decide +kernel, by decide, by decide +kernel⟩
theorem cv_D_lay : CV m_D_lay := ⟨gd 665 (by decide +kernel) rfl, gd 666 (by decide +kernel) rfl⟩
def m_D_nodeInWay : MR := (⟨"SubgraphDesk", "nodeInWay", "(ZI)I"⟩, prog_1_method_28_code, 3, (some .int))
theorem cf_D_nodeInWay : CF m_D_nodeInWay 2 := ⟨gd 1183 (by decide +kernel) rfl, gd 139 (by decide +kernel) rfl, by decide +kernel, by decide, by decide +kernel⟩
theorem cv_D_nodeInWay : CV m_D_nodeInWay := ⟨gd 1182 (by decide +kernel) rfl, gd 35 (by decide +kernel) rfl⟩
def m_D_startWays : MR := (⟨"SubgraphDesk", "startWays", "()V"⟩, prog_1_method_27_code, 1, none)
theorem cf_D_startWays : CF m_D_startWays 0 := ⟨gd 1169 (by decide +kernel) rfl, gd 139 (by decide +kernel) rfl, by decide +kernel, by decide, by decide +kernel⟩
theorem cv_D_startWays : CV m_D_startWays := ⟨gd 1168 (by decide +kernel) rfl, gd 34 (by decide +kernel) rfl⟩
def m_D_way : MR := (⟨"SubgraphDesk", "way", "(II)I"⟩, prog_1_method_30_code, 3, (some .int))
theorem cf_D_way : CF m_D_way 2 := ⟨gd 1175 (by decide +kernel) rfl, gd 139 (by decide +kernel) rfl, by decide +kernel, by decide, by decide +kernel⟩
theorem cv_D_way : CV m_D_way := ⟨gd 1173 (by decide +kernel) rfl, gd 1174 (by decide +kernel) rfl⟩
def m_D_ways : MR := (⟨"SubgraphDesk", "ways", "()I"⟩, prog_1_method_29_code, 1, (some .int))
theorem cf_D_ways : CF m_D_ways 0 := ⟨gd 1165 (by decide +kernel) rfl, gd 139 (by decide +kernel) rfl, by decide +kernel, by decide, by decide +kernel⟩
theorem cv_D_ways : CV m_D_ways := ⟨gd 1163 (by decide +kernel) rfl, gd 1164 (by decide +kernel) rfl⟩
theorem d_Bo_lawInForce_0 : Dc prog_3_method_11_code 0 (.aload_n 0) 1 1 := ⟨by decide +kernel, rfl⟩
theorem d_Bo_lawInForce_1 : Dc prog_3_method_11_code 1 (.aload_n 0) 1 2 := ⟨by decide +kernel, rfl⟩
theorem d_Bo_lawInForce_2 : Dc prog_3_method_11_code 2 (.getfield 33) 3 5 := ⟨by decide +kernel, rfl⟩
theorem d_Bo_lawInForce_5 : Dc prog_3_method_11_code 5 (.invokevirtual 68) 3 8 := ⟨by decide +kernel, rfl⟩
theorem d_Bo_lawInForce_8 : Dc prog_3_method_11_code 8 (.areturn) 1 9 := ⟨by decide +kernel, rfl⟩
theorem d_Bo_lawOrNull_0 : Dc prog_3_method_10_code 0 (.aload_n 0) 1 1 := ⟨by decide +kernel, rfl⟩
theorem d_Bo_lawOrNull_1 : Dc prog_3_method_10_code 1 (.iload_n 1) 1 2 := ⟨by decide +kernel, rfl⟩
theorem d_Bo_lawOrNull_2 : Dc prog_3_method_10_code 2 (.invokevirtual 64) 3 5 := ⟨by decide +kernel, rfl⟩
theorem d_Bo_lawOrNull_5 : Dj prog_3_method_10_code 5 (.ifCond .eq 12) 8 12 17 := ⟨by decide +kernel, rfl, rfl⟩
theorem d_Bo_lawOrNull_8 : Dc prog_3_method_10_code 8 (.aload_n 0) 1 9 := ⟨by decide +kernel, rfl⟩
theorem d_Bo_lawOrNull_9 : Dc prog_3_method_10_code 9 (.getfield 39) 3 12 := ⟨by decide +kernel, rfl⟩
theorem d_Bo_lawOrNull_12 : Dc prog_3_method_10_code 12 (.iload_n 1) 1 13 := ⟨by decide +kernel, rfl⟩
theorem d_Bo_lawOrNull_13 : Dc prog_3_method_10_code 13 (.aaload) 1 14 := ⟨by decide +kernel, rfl⟩
theorem d_Bo_lawOrNull_14 : Dj prog_3_method_10_code 14 (.goto 4) 17 4 18 := ⟨by decide +kernel, rfl, rfl⟩
theorem d_Bo_lawOrNull_17 : Dc prog_3_method_10_code 17 (.aconst_null) 1 18 := ⟨by decide +kernel, rfl⟩
theorem d_Bo_lawOrNull_18 : Dc prog_3_method_10_code 18 (.areturn) 1 19 := ⟨by decide +kernel, rfl⟩
theorem d_D_lay_0 : Dc prog_1_method_9_code 0 (.aload_n 0) 1 1 := ⟨by decide +kernel, rfl⟩
theorem d_D_lay_1 : Dc prog_1_method_9_code 1 (.getfield 10) 3 4 := ⟨by decide +kernel, rfl⟩
theorem d_D_lay_4 : Dc prog_1_method_9_code 4 (.iload_n 1) 1 5 := ⟨by decide +kernel, rfl⟩
theorem d_D_lay_5 : Dc prog_1_method_9_code 5 (.invokevirtual 126) 3 8 := ⟨by decide +kernel, rfl⟩
theorem d_D_lay_8 : Dj prog_1_method_9_code 8 (.ifCond .eq 14) 11 14 22 := ⟨by decide +kernel, rfl, rfl⟩
theorem d_D_lay_11 : Dc prog_1_method_9_code 11 (.aload_n 0) 1 12 := ⟨by decide +kernel, rfl⟩
theorem d_D_lay_12 : Dc prog_1_method_9_code 12 (.getfield 10) 3 15 := ⟨by decide +kernel, rfl⟩
theorem d_D_lay_15 : Dc prog_1_method_9_code 15 (.iload_n 2) 1 16 := ⟨by decide +kernel, rfl⟩
theorem d_D_lay_16 : Dc prog_1_method_9_code 16 (.invokevirtual 113) 3 19 := ⟨by decide +kernel, rfl⟩
theorem d_D_lay_19 : Dj prog_1_method_9_code 19 (.ifCond .ne 5) 22 5 24 := ⟨by decide +kernel, rfl, rfl⟩
theorem d_D_lay_22 : Dc prog_1_method_9_code 22 (.iconst (-1)) 1 23 := ⟨by decide +kernel, rfl⟩
theorem d_D_lay_23 : Dc prog_1_method_9_code 23 (.ireturn) 1 24 := ⟨by decide +kernel, rfl⟩
theorem d_D_lay_24 : Dc prog_1_method_9_code 24 (.aload_n 0) 1 25 := ⟨by decide +kernel, rfl⟩
theorem d_D_lay_25 : Dc prog_1_method_9_code 25 (.getfield 40) 3 28 := ⟨by decide +kernel, rfl⟩
theorem d_D_lay_28 : Dc prog_1_method_9_code 28 (.aload_n 0) 1 29 := ⟨by decide +kernel, rfl⟩
theorem d_D_lay_29 : Dc prog_1_method_9_code 29 (.getfield 10) 3 32 := ⟨by decide +kernel, rfl⟩
theorem d_D_lay_32 : Dc prog_1_method_9_code 32 (.aload_n 0) 1 33 := ⟨by decide +kernel, rfl⟩
theorem d_D_lay_33 : Dc prog_1_method_9_code 33 (.getfield 10) 3 36 := ⟨by decide +kernel, rfl⟩
theorem d_D_lay_36 : Dc prog_1_method_9_code 36 (.invokevirtual 142) 3 39 := ⟨by decide +kernel, rfl⟩
theorem d_D_lay_39 : Dc prog_1_method_9_code 39 (.invokevirtual 146) 3 42 := ⟨by decide +kernel, rfl⟩
theorem d_D_lay_42 : Dc prog_1_method_9_code 42 (.iload_n 3) 1 43 := ⟨by decide +kernel, rfl⟩
theorem d_D_lay_43 : Dc prog_1_method_9_code 43 (.lookupswitch 54 #[(0, 25), (1, 40)]) 25 68 := ⟨by decide +kernel, rfl⟩
theorem d_D_lay_68 : Dc prog_1_method_9_code 68 (.aload_n 0) 1 69 := ⟨by decide +kernel, rfl⟩
theorem d_D_lay_69 : Dc prog_1_method_9_code 69 (.getfield 40) 3 72 := ⟨by decide +kernel, rfl⟩
theorem d_D_lay_72 : Dc prog_1_method_9_code 72 (.getfield 150) 3 75 := ⟨by decide +kernel, rfl⟩
theorem d_D_lay_75 : Dc prog_1_method_9_code 75 (.iload_n 1) 1 76 := ⟨by decide +kernel, rfl⟩
theorem d_D_lay_76 : Dc prog_1_method_9_code 76 (.bipush 12) 2 78 := ⟨by decide +kernel, rfl⟩
theorem d_D_lay_78 : Dc prog_1_method_9_code 78 (.imul) 1 79 := ⟨by decide +kernel, rfl⟩
theorem d_D_lay_79 : Dc prog_1_method_9_code 79 (.iload_n 2) 1 80 := ⟨by decide +kernel, rfl⟩
theorem d_D_lay_80 : Dc prog_1_method_9_code 80 (.iadd) 1 81 := ⟨by decide +kernel, rfl⟩
theorem d_D_lay_81 : Dc prog_1_method_9_code 81 (.iaload) 1 82 := ⟨by decide +kernel, rfl⟩
theorem d_D_lay_82 : Dc prog_1_method_9_code 82 (.ireturn) 1 83 := ⟨by decide +kernel, rfl⟩
theorem d_D_lay_83 : Dc prog_1_method_9_code 83 (.aload_n 0) 1 84 := ⟨by decide +kernel, rfl⟩
theorem d_D_lay_84 : Dc prog_1_method_9_code 84 (.getfield 40) 3 87 := ⟨by decide +kernel, rfl⟩
theorem d_D_lay_87 : Dc prog_1_method_9_code 87 (.getfield 153) 3 90 := ⟨by decide +kernel, rfl⟩
theorem d_D_lay_90 : Dc prog_1_method_9_code 90 (.iload_n 1) 1 91 := ⟨by decide +kernel, rfl⟩
theorem d_D_lay_91 : Dc prog_1_method_9_code 91 (.iaload) 1 92 := ⟨by decide +kernel, rfl⟩
theorem d_D_lay_92 : Dc prog_1_method_9_code 92 (.iload_n 2) 1 93 := ⟨by decide +kernel, rfl⟩
theorem d_D_lay_93 : Dc prog_1_method_9_code 93 (.ishr) 1 94 := ⟨by decide +kernel, rfl⟩
theorem d_D_lay_94 : Dc prog_1_method_9_code 94 (.iconst 1) 1 95 := ⟨by decide +kernel, rfl⟩
theorem d_D_lay_95 : Dc prog_1_method_9_code 95 (.iand) 1 96 := ⟨by decide +kernel, rfl⟩
theorem d_D_lay_96 : Dc prog_1_method_9_code 96 (.ireturn) 1 97 := ⟨by decide +kernel, rfl⟩
theorem d_D_lay_97 : Dc prog_1_method_9_code 97 (.iconst (-1)) 1 98 := ⟨by decide +kernel, rfl⟩
theorem d_D_lay_98 : Dc prog_1_method_9_code 98 (.ireturn) 1 99 := ⟨by decide +kernel, rfl⟩
theorem d_D_nodeInWay_0 : Dc prog_1_method_28_code 0 (.iload_n 1) 1 1 := ⟨by decide +kernel, rfl⟩
theorem d_D_nodeInWay_1 : Dj prog_1_method_28_code 1 (.ifCond .eq 26) 4 26 27 := ⟨by decide +kernel, rfl, rfl⟩
theorem d_D_nodeInWay_4 : Dc prog_1_method_28_code 4 (.aload_n 0) 1 5 := ⟨by decide +kernel, rfl⟩
theorem d_D_nodeInWay_5 : Dc prog_1_method_28_code 5 (.getfield 10) 3 8 := ⟨by decide +kernel, rfl⟩
theorem d_D_nodeInWay_8 : Dc prog_1_method_28_code 8 (.iload_n 2) 1 9 := ⟨by decide +kernel, rfl⟩
theorem d_D_nodeInWay_9 : Dc prog_1_method_28_code 9 (.invokevirtual 126) 3 12 := ⟨by decide +kernel, rfl⟩
theorem d_D_nodeInWay_12 : Dj prog_1_method_28_code 12 (.ifCond .eq 15) 15 15 27 := ⟨by decide +kernel, rfl, rfl⟩
theorem d_D_nodeInWay_15 : Dc prog_1_method_28_code 15 (.aload_n 0) 1 16 := ⟨by decide +kernel, rfl⟩
theorem d_D_nodeInWay_16 : Dc prog_1_method_28_code 16 (.getfield 47) 3 19 := ⟨by decide +kernel, rfl⟩
theorem d_D_nodeInWay_19 : Dc prog_1_method_28_code 19 (.getfield 261) 3 22 := ⟨by decide +kernel, rfl⟩
theorem d_D_nodeInWay_22 : Dc prog_1_method_28_code 22 (.iload_n 2) 1 23 := ⟨by decide +kernel, rfl⟩
theorem d_D_nodeInWay_23 : Dc prog_1_method_28_code 23 (.iaload) 1 24 := ⟨by decide +kernel, rfl⟩
theorem d_D_nodeInWay_24 : Dj prog_1_method_28_code 24 (.goto 4) 27 4 28 := ⟨by decide +kernel, rfl, rfl⟩
theorem d_D_nodeInWay_27 : Dc prog_1_method_28_code 27 (.iconst (-1)) 1 28 := ⟨by decide +kernel, rfl⟩
theorem d_D_nodeInWay_28 : Dc prog_1_method_28_code 28 (.ireturn) 1 29 := ⟨by decide +kernel, rfl⟩
theorem d_D_startWays_0 : Dc prog_1_method_27_code 0 (.aload_n 0) 1 1 := ⟨by decide +kernel, rfl⟩
theorem d_D_startWays_1 : Dc prog_1_method_27_code 1 (.getfield 40) 3 4 := ⟨by decide +kernel, rfl⟩
theorem d_D_startWays_4 : Dc prog_1_method_27_code 4 (.aload_n 0) 1 5 := ⟨by decide +kernel, rfl⟩
theorem d_D_startWays_5 : Dc prog_1_method_27_code 5 (.getfield 10) 3 8 := ⟨by decide +kernel, rfl⟩
theorem d_D_startWays_8 : Dc prog_1_method_27_code 8 (.aload_n 0) 1 9 := ⟨by decide +kernel, rfl⟩
theorem d_D_startWays_9 : Dc prog_1_method_27_code 9 (.getfield 10) 3 12 := ⟨by decide +kernel, rfl⟩
theorem d_D_startWays_12 : Dc prog_1_method_27_code 12 (.invokevirtual 142) 3 15 := ⟨by decide +kernel, rfl⟩
theorem d_D_startWays_15 : Dc prog_1_method_27_code 15 (.invokevirtual 146) 3 18 := ⟨by decide +kernel, rfl⟩
theorem d_D_startWays_18 : Dc prog_1_method_27_code 18 (.aload_n 0) 1 19 := ⟨by decide +kernel, rfl⟩
theorem d_D_startWays_19 : Dc prog_1_method_27_code 19 (.getfield 47) 3 22 := ⟨by decide +kernel, rfl⟩
theorem d_D_startWays_22 : Dc prog_1_method_27_code 22 (.aload_n 0) 1 23 := ⟨by decide +kernel, rfl⟩
theorem d_D_startWays_23 : Dc prog_1_method_27_code 23 (.getfield 10) 3 26 := ⟨by decide +kernel, rfl⟩
theorem d_D_startWays_26 : Dc prog_1_method_27_code 26 (.aload_n 0) 1 27 := ⟨by decide +kernel, rfl⟩
theorem d_D_startWays_27 : Dc prog_1_method_27_code 27 (.getfield 40) 3 30 := ⟨by decide +kernel, rfl⟩
theorem d_D_startWays_30 : Dc prog_1_method_27_code 30 (.getfield 153) 3 33 := ⟨by decide +kernel, rfl⟩
theorem d_D_startWays_33 : Dc prog_1_method_27_code 33 (.invokevirtual 258) 3 36 := ⟨by decide +kernel, rfl⟩
theorem d_D_startWays_36 : Dc prog_1_method_27_code 36 (.return_) 1 37 := ⟨by decide +kernel, rfl⟩
theorem d_D_way_0 : Dc prog_1_method_30_code 0 (.aload_n 0) 1 1 := ⟨by decide +kernel, rfl⟩
theorem d_D_way_1 : Dc prog_1_method_30_code 1 (.invokevirtual 264) 3 4 := ⟨by decide +kernel, rfl⟩
theorem d_D_way_4 : Dc prog_1_method_30_code 4 (.aload_n 0) 1 5 := ⟨by decide +kernel, rfl⟩
theorem d_D_way_5 : Dc prog_1_method_30_code 5 (.aload_n 0) 1 6 := ⟨by decide +kernel, rfl⟩
theorem d_D_way_6 : Dc prog_1_method_30_code 6 (.getfield 47) 3 9 := ⟨by decide +kernel, rfl⟩
theorem d_D_way_9 : Dc prog_1_method_30_code 9 (.iload_n 1) 1 10 := ⟨by decide +kernel, rfl⟩
theorem d_D_way_10 : Dc prog_1_method_30_code 10 (.invokevirtual 271) 3 13 := ⟨by decide +kernel, rfl⟩
theorem d_D_way_13 : Dc prog_1_method_30_code 13 (.iload_n 2) 1 14 := ⟨by decide +kernel, rfl⟩
theorem d_D_way_14 : Dc prog_1_method_30_code 14 (.invokevirtual 274) 3 17 := ⟨by decide +kernel, rfl⟩
theorem d_D_way_17 : Dc prog_1_method_30_code 17 (.ireturn) 1 18 := ⟨by decide +kernel, rfl⟩
theorem d_D_ways_0 : Dc prog_1_method_29_code 0 (.aload_n 0) 1 1 := ⟨by decide +kernel, rfl⟩
theorem d_D_ways_1 : Dc prog_1_method_29_code 1 (.invokevirtual 264) 3 4 := ⟨by decide +kernel, rfl⟩
theorem d_D_ways_4 : Dc prog_1_method_29_code 4 (.aload_n 0) 1 5 := ⟨by decide +kernel, rfl⟩
theorem d_D_ways_5 : Dc prog_1_method_29_code 5 (.getfield 47) 3 8 := ⟨by decide +kernel, rfl⟩
theorem d_D_ways_8 : Dc prog_1_method_29_code 8 (.invokevirtual 267) 3 11 := ⟨by decide +kernel, rfl⟩
theorem d_D_ways_11 : Dc prog_1_method_29_code 11 (.ireturn) 1 12 := ⟨by decide +kernel, rfl⟩
theorem fl_D_40 : FL "SubgraphDesk" 40 0 5 true (.object "SubgraphDesk$Ledger") (3, 31) := ⟨R_D, F_D, 15, ty_D, rfl, rfl, in_D, tyok_D, nm_D, by decide, gd 559 (by decide +kernel) rfl, rfl, rfl, rfl⟩
theorem fl_D_47 : FL "SubgraphDesk" 47 0 6 true (.object "SubgraphDesk$Walker") (3, 36) := ⟨R_D, F_D, 15, ty_D, rfl, rfl, in_D, tyok_D, nm_D, by decide, gd 560 (by decide +kernel) rfl, rfl, rfl, rfl⟩
theorem fl_D_150 : FL "SubgraphDesk" 150 4 1 true (.array .int) (3, 2) := ⟨R_Le, F_Le, 4, ty_Le, rfl, rfl, in_Le, tyok_Le, nm_Le, by decide, gd 378 (by decide +kernel) rfl, rfl, rfl, rfl⟩
theorem fl_D_153 : FL "SubgraphDesk" 153 4 0 true (.array .int) (3, 1) := ⟨R_Le, F_Le, 4, ty_Le, rfl, rfl, in_Le, tyok_Le, nm_Le, by decide, gd 376 (by decide +kernel) rfl, rfl, rfl, rfl⟩
theorem fl_D_261 : FL "SubgraphDesk" 261 11 0 true (.array .int) (3, 1) := ⟨R_Wa, F_Wa, 11, ty_Wa, rfl, rfl, in_Wa, tyok_Wa, nm_Wa, by decide, gd 399 (by decide +kernel) rfl, rfl, rfl, rfl⟩
theorem ml_D_142 : Cond.methodLink "SubgraphDesk" 142 m_Bo_lawInForce.1 ∈ lw_gd := gd 668 (by decide +kernel) rfl
theorem ml_D_146 : Cond.methodLink "SubgraphDesk" 146 m_Le_fill.1 ∈ lw_gd := gd 680 (by decide +kernel) rfl
theorem ml_D_258 : Cond.methodLink "SubgraphDesk" 258 m_Wa_start.1 ∈ lw_gd := gd 1170 (by decide +kernel) rfl
theorem ml_D_264 : Cond.methodLink "SubgraphDesk" 264 m_D_startWays.1 ∈ lw_gd := gd 1166 (by decide +kernel) rfl
theorem ml_D_267 : Cond.methodLink "SubgraphDesk" 267 m_Wa_countAll.1 ∈ lw_gd := gd 1171 (by decide +kernel) rfl
theorem ml_D_271 : Cond.methodLink "SubgraphDesk" 271 m_Wa_goTo.1 ∈ lw_gd := gd 1176 (by decide +kernel) rfl
theorem ml_D_274 : Cond.methodLink "SubgraphDesk" 274 m_D_nodeInWay.1 ∈ lw_gd := gd 1180 (by decide +kernel) rfl
theorem ml_Bo_64 : Cond.methodLink "SubgraphDesk$Board" 64 m_Bo_hasLaw.1 ∈ lw_gd := gd 676 (by decide +kernel) rfl
theorem ml_Bo_68 : Cond.methodLink "SubgraphDesk$Board" 68 m_Bo_lawOrNull.1 ∈ lw_gd := gd 672 (by decide +kernel) rfl
def mayG (g : GC) : Nat → Nat := fun v => mayN g v (gN g)
theorem mayN_ltN (g : GC) (v : Nat) : ∀ n, mayN g v n < 2 ^ n
  | 0 => by unfold mayN; decide
  | n + 1 => by
    unfold mayN
    refine or_lt (Nat.lt_of_lt_of_le (mayN_ltN g v n) (Nat.pow_le_pow_right (by decide) (Nat.le_succ n))) ?_
    split
    · exact shl_lt (Nat.lt_succ_self n)
    · exact Nat.two_pow_pos _
theorem fInt_in {g : GC} (hW : WG g) {i : Nat} (h : gF g = some i) : inN (fInt (gF g)) (gL g).length ∧ tn (fInt (gF g)) = i := by
  have h1 := hW.fo i h
  have h2 := hW.ll
  rw [h]
  exact ⟨inN_nI h1 (by omega), tn_nI (by omega)⟩
theorem fInt_no {g : GC} (h : gF g = none) (n : Nat) : ¬ inN (fInt (gF g)) n := by
  rw [h]
  rintro ⟨h1, -⟩
  exact absurd h1 (by decide)
theorem tn_lt (k : Int32) : tn k < 2 ^ 31 := by
  have h1 := Int32.toInt_lt k
  unfold tn
  show k.toInt.toNat < _
  omega
theorem tn_k {k : Int32} (h : ¬ k < 0) : nI (tn k) = k := by
  have h1 := tn_lt k
  apply Int32.toInt_inj.mp
  rw [nI_toInt h1]
  have h2 : 0 ≤ k.toInt := by
    have := Int32.not_lt.mp h
    rw [Int32.le_iff_toInt_le] at this
    exact this
  show ((k.toInt.toNat : Nat) : Int) = k.toInt
  omega
theorem c_Bo_lawN {E : EV} {w : Mem} {x : Int32} {g : GC} (hR : BRow w 1 g) (hW : WG g) (hx : ¬ inN x (gL g).length) : T E m_Bo_lawOrNull 1 0 0 [.ref 1, .int x] w (Ret (some .null) w) := by
  refine T_of (L := [.ref 1, .int x]) cf_Bo_lawOrNull rfl (Nat.le_of_ble_eq_true rfl) (fun X hX hF => ?_)
  refine g_aload0 hX d_Bo_lawOrNull_0 ?_
  refine g_iload1 hX d_Bo_lawOrNull_1 ?_
  refine g_callV (As := [_]) hX hF.1 d_Bo_lawOrNull_2 ml_Bo_64 cf_Bo_hasLaw cv_Bo_hasLaw rfl rfl (c_Bo_hasLaw isBo1 hR hW) (rcv_obj hX (lv_1 _) rfl rfl) (by omega) (by omega) (by omega) (Nat.le_of_ble_eq_true rfl) ?_
  refine ret_k ?_
  refine g_ifB_eq hX d_Bo_lawOrNull_5 (fun c0 => ?_) (fun h => absurd h hx)
  refine g_null hX d_Bo_lawOrNull_17 ?_
  refine g_aretN hX hF d_Bo_lawOrNull_18 (by omega) (by omega) ?_
  exact ⟨rfl, rfl⟩
theorem c_Bo_lawR {E : EV} {w : Mem} {x : Int32} {g : GC} (hR : BRow w 1 g) (hW : WG g) (hx : inN x (gL g).length) {q : Nat} (hq : rR w 9 (tn x) = some q) : T E m_Bo_lawOrNull 1 0 0 [.ref 1, .int x] w (Ret (some (.ref q)) w) := by
  refine T_of (L := [.ref 1, .int x]) cf_Bo_lawOrNull rfl (Nat.le_of_ble_eq_true rfl) (fun X hX hF => ?_)
  have hll := hW.ll
  obtain ⟨j, hj, rfl, htn⟩ := inN_of hx (by omega)
  rw [htn] at hq
  refine g_aload0 hX d_Bo_lawOrNull_0 ?_
  refine g_iload1 hX d_Bo_lawOrNull_1 ?_
  refine g_callV (As := [_]) hX hF.1 d_Bo_lawOrNull_2 ml_Bo_64 cf_Bo_hasLaw cv_Bo_hasLaw rfl rfl (c_Bo_hasLaw isBo1 hR hW) (rcv_obj hX (lv_1 _) rfl rfl) (by omega) (by omega) (by omega) (Nat.le_of_ble_eq_true rfl) ?_
  refine ret_k ?_
  refine g_ifB_eq hX d_Bo_lawOrNull_5 (fun h => absurd hx h) (fun c0 => ?_)
  refine g_aload0 hX d_Bo_lawOrNull_8 ?_
  refine g_getF hX d_Bo_lawOrNull_9 fl_Bo_39 (lv_1 _) ?_
  refine g_iload1 hX d_Bo_lawOrNull_12 ?_
  refine g_aaldP hX d_Bo_lawOrNull_13 (lv_9 _) rfl (by omega) hq ?_
  refine g_goto hX d_Bo_lawOrNull_14 ?_
  refine g_aret hX hF d_Bo_lawOrNull_18 (by omega) (by omega) ?_
  exact ⟨rfl, rfl⟩
theorem c_Bo_forceN {E : EV} {w : Mem} {g : GC} (hR : BRow w 1 g) (hW : WG g) (hx : ¬ inN (fInt (gF g)) (gL g).length) : T E m_Bo_lawInForce 2 0 0 [.ref 1] w (Ret (some .null) w) := by
  refine T_of (L := [.ref 1]) cf_Bo_lawInForce rfl (Nat.le_of_ble_eq_true rfl) (fun X hX hF => ?_)
  refine g_aload0 hX d_Bo_lawInForce_0 ?_
  refine g_aload0 hX d_Bo_lawInForce_1 ?_
  refine g_getI hX d_Bo_lawInForce_2 fl_Bo_33 (lv_1 _) ?_
  refine g_topi hR.fo ?_
  refine g_callV (As := [_]) hX hF.1 d_Bo_lawInForce_5 ml_Bo_68 cf_Bo_lawOrNull cv_Bo_lawOrNull rfl rfl (c_Bo_lawN hR hW hx) (rcv_obj hX (lv_1 _) rfl rfl) (by omega) (by omega) (by omega) (Nat.le_of_ble_eq_true rfl) ?_
  refine ret_k ?_
  refine g_aretN hX hF d_Bo_lawInForce_8 (by omega) (by omega) ?_
  exact ⟨rfl, rfl⟩
theorem c_Bo_forceR {E : EV} {w : Mem} {g : GC} (hR : BRow w 1 g) (hW : WG g) (hx : inN (fInt (gF g)) (gL g).length) {q : Nat} (hq : rR w 9 (tn (fInt (gF g))) = some q) : T E m_Bo_lawInForce 2 0 0 [.ref 1] w (Ret (some (.ref q)) w) := by
  refine T_of (L := [.ref 1]) cf_Bo_lawInForce rfl (Nat.le_of_ble_eq_true rfl) (fun X hX hF => ?_)
  refine g_aload0 hX d_Bo_lawInForce_0 ?_
  refine g_aload0 hX d_Bo_lawInForce_1 ?_
  refine g_getI hX d_Bo_lawInForce_2 fl_Bo_33 (lv_1 _) ?_
  refine g_topi hR.fo ?_
  refine g_callV (As := [_]) hX hF.1 d_Bo_lawInForce_5 ml_Bo_68 cf_Bo_lawOrNull cv_Bo_lawOrNull rfl rfl (c_Bo_lawR hR hW hx hq) (rcv_obj hX (lv_1 _) rfl rfl) (by omega) (by omega) (by omega) (Nat.le_of_ble_eq_true rfl) ?_
  refine ret_k ?_
  refine g_aret hX hF d_Bo_lawInForce_8 (by omega) (by omega) ?_
  exact ⟨rfl, rfl⟩
theorem law_force {w : Mem} {s : SG} (h : DInv w s) {k : Nat} (hk : gF (sG s) = some k) : ∃ p, rR w 9 k = some p ∧ PrgL w p ((gL (sG s)).getD k []) ∧ gLw (sG s) = some ((gL (sG s)).getD k []) := by
  have h1 := h.wg.fo k hk
  have h2 : (gL (sG s))[k]? = some ((gL (sG s)).getD k []) := by
    rw [List.getD_eq_getElem?_getD, List.getElem?_eq_getElem h1]
    rfl
  obtain ⟨p, h3, h4⟩ := h.l k _ h2
  refine ⟨p, h3, h4, ?_⟩
  unfold gLw
  rw [hk]
theorem gLw_n {g : GC} (h : gF g = none) : gLw g = none := by unfold gLw; rw [h]
theorem c_D_startWays {E : EV} {w : Mem} {s : SG} (h : DInv w s) : T E m_D_startWays 4 0 0 [.ref 0] w (fun r w2 => r = none ∧ WkE w2 (sG s) (mayG (sG s)) 32 ∧ WkS w2 (sG s) (mayG (sG s)) (waysL (sG s)) (stepsC (sG s) (mayG (sG s)) (gV (sG s)) []) ∧ LeP w2 (sG s) ∧ DInv w2 s ∧ DkQ w w2) := by
  refine T_of (L := [.ref 0]) cf_D_startWays rfl (Nat.le_of_ble_eq_true rfl) (fun X hX hF => ?_)
  obtain ⟨⟨hR, hW, hA⟩, hL, hT, hI, hRF, ⟨hsm, hfa, hsp⟩, hdr, hfx⟩ := id h
  have hn := hW.n
  have hv := hW.v
  have he := hW.el
  have hll := hW.ll
  have hsl := hW.sl
  rcases hgf : gF (sG s) with _ | kf
  · refine g_aload0 hX d_D_startWays_0 ?_
    refine g_getF hX d_D_startWays_1 fl_D_40 (lv_0 _) ?_
    refine g_aload0 hX d_D_startWays_4 ?_
    refine g_getF hX d_D_startWays_5 fl_D_10 (lv_0 _) ?_
    refine g_aload0 hX d_D_startWays_8 ?_
    refine g_getF hX d_D_startWays_9 fl_D_10 (lv_0 _) ?_
    refine g_callV (As := []) hX hF.1 d_D_startWays_12 ml_D_142 cf_Bo_lawInForce cv_Bo_lawInForce rfl rfl (c_Bo_forceN hR hW (fInt_no hgf _)) (rcv_obj hX (lv_1 _) rfl rfl) (by omega) (by omega) (by omega) (Nat.le_of_ble_eq_true rfl) ?_
    refine ret_k ?_
    refine g_callV (As := [_, _]) hX hF.1 d_D_startWays_15 ml_D_146 cf_Le_fill cv_Le_fill rfl rfl (c_Le_fillN (o := gF (sG s)) hR hW (gLw_n hgf)) (rcv_obj hX (lv_31 _) rfl rfl) (by omega) (by omega) (by omega) (Nat.le_of_ble_eq_true rfl) ?_
    rintro _ w2 ⟨rfl, hfl, hLe⟩
    replace hLe : LeP w2 (sG s) := hLe
    show G0 _ _ _ _ _ _ _ _
    refine g_aload0 hX d_D_startWays_18 ?_
    refine g_getF hX d_D_startWays_19 fl_D_47 (lv_0 _) ?_
    refine g_aload0 hX d_D_startWays_22 ?_
    refine g_getF hX d_D_startWays_23 fl_D_10 (lv_0 _) ?_
    refine g_aload0 hX d_D_startWays_26 ?_
    refine g_getF hX d_D_startWays_27 fl_D_40 (lv_0 _) ?_
    refine g_getF hX d_D_startWays_30 fl_D_153 (lv_31 _) ?_
    refine g_callV (As := [_, _]) hX hF.1 d_D_startWays_33 ml_D_258 cf_Wa_start cv_Wa_start rfl rfl (c_Wa_start (c := mayG (sG s)) (hR.l hfl) hW (Or.inl rfl) (fun v hv => ⟨hLe.1 v hv, mayN_ltN _ _ _⟩)) (rcv_obj hX (lv_36 _) rfl rfl) (by omega) (by omega) (by omega) (Nat.le_of_ble_eq_true rfl) ?_
    rintro _ w3 ⟨rfl, hE3, hS3, hf3⟩
    show G0 _ _ _ _ _ _ _ _
    refine g_vret hX hF d_D_startWays_36 (by omega) (by omega) ?_
    have hQ := hfl.Q.tr hf3.Q
    refine ⟨rfl, hE3, ?_, ⟨fun u hu => ?_, fun u m hm => ?_⟩, h.q hQ, hQ⟩
    · rw [← ways_C]; exact hS3
    · rw [hf3.1 32 (by decide)]; exact hLe.1 u hu
    · rw [hf3.1 33 (by decide)]; exact hLe.2 u m hm
  · obtain ⟨pl, hpl, hPL, hlw⟩ := law_force h hgf
    obtain ⟨hin, htk⟩ := fInt_in hW hgf
    refine g_aload0 hX d_D_startWays_0 ?_
    refine g_getF hX d_D_startWays_1 fl_D_40 (lv_0 _) ?_
    refine g_aload0 hX d_D_startWays_4 ?_
    refine g_getF hX d_D_startWays_5 fl_D_10 (lv_0 _) ?_
    refine g_aload0 hX d_D_startWays_8 ?_
    refine g_getF hX d_D_startWays_9 fl_D_10 (lv_0 _) ?_
    refine g_callV (As := []) hX hF.1 d_D_startWays_12 ml_D_142 cf_Bo_lawInForce cv_Bo_lawInForce rfl rfl (c_Bo_forceR hR hW hin (by rw [htk]; exact hpl)) (rcv_obj hX (lv_1 _) rfl rfl) (by omega) (by omega) (by omega) (Nat.le_of_ble_eq_true rfl) ?_
    refine ret_k ?_
    refine g_callV (As := [_, _]) hX hF.1 d_D_startWays_15 ml_D_146 cf_Le_fill cv_Le_fill rfl rfl (c_Le_fillP (o := gF (sG s)) hR hW hPL hlw) (rcv_obj hX (lv_31 _) rfl rfl) (by omega) (by omega) (by omega) (Nat.le_of_ble_eq_true rfl) ?_
    rintro _ w2 ⟨rfl, hfl, hLe⟩
    replace hLe : LeP w2 (sG s) := hLe
    show G0 _ _ _ _ _ _ _ _
    refine g_aload0 hX d_D_startWays_18 ?_
    refine g_getF hX d_D_startWays_19 fl_D_47 (lv_0 _) ?_
    refine g_aload0 hX d_D_startWays_22 ?_
    refine g_getF hX d_D_startWays_23 fl_D_10 (lv_0 _) ?_
    refine g_aload0 hX d_D_startWays_26 ?_
    refine g_getF hX d_D_startWays_27 fl_D_40 (lv_0 _) ?_
    refine g_getF hX d_D_startWays_30 fl_D_153 (lv_31 _) ?_
    refine g_callV (As := [_, _]) hX hF.1 d_D_startWays_33 ml_D_258 cf_Wa_start cv_Wa_start rfl rfl (c_Wa_start (c := mayG (sG s)) (hR.l hfl) hW (Or.inl rfl) (fun v hv => ⟨hLe.1 v hv, mayN_ltN _ _ _⟩)) (rcv_obj hX (lv_36 _) rfl rfl) (by omega) (by omega) (by omega) (Nat.le_of_ble_eq_true rfl) ?_
    rintro _ w3 ⟨rfl, hE3, hS3, hf3⟩
    show G0 _ _ _ _ _ _ _ _
    refine g_vret hX hF d_D_startWays_36 (by omega) (by omega) ?_
    have hQ := hfl.Q.tr hf3.Q
    refine ⟨rfl, hE3, ?_, ⟨fun u hu => ?_, fun u m hm => ?_⟩, h.q hQ, hQ⟩
    · rw [← ways_C]; exact hS3
    · rw [hf3.1 32 (by decide)]; exact hLe.1 u hu
    · rw [hf3.1 33 (by decide)]; exact hLe.2 u m hm
theorem c_D_lay {E : EV} {w : Mem} {v0 n0 what : Int32} {s : SG} (h : DInv w s) : T E m_D_lay 4 0 0 [.ref 0, .int v0, .int n0, .int what] w (fun r w2 => r = some (.int (opLay v0 n0 what (sG s))) ∧ DInv w2 s ∧ DkD w w2) := by
  refine T_of (L := [.ref 0, .int v0, .int n0, .int what]) cf_D_lay rfl (Nat.le_of_ble_eq_true rfl) (fun X hX hF => ?_)
  obtain ⟨⟨hR, hW, hA⟩, hL, hT, hI, hRF, ⟨hsm, hfa, hsp⟩, hdr, hfx⟩ := id h
  have hn := hW.n
  have hv := hW.v
  have he := hW.el
  have hll := hW.ll
  have hsl := hW.sl
  refine g_aload0 hX d_D_lay_0 ?_
  refine g_getF hX d_D_lay_1 fl_D_10 (lv_0 _) ?_
  refine g_iload1 hX d_D_lay_4 ?_
  refine g_callV (As := [_]) hX hF.1 d_D_lay_5 ml_D_126 cf_Bo_hasVertex cv_Bo_hasVertex rfl rfl (c_Bo_hasVertex isBo1 hR hW) (rcv_obj hX (lv_1 _) rfl rfl) (by omega) (by omega) (by omega) (Nat.le_of_ble_eq_true rfl) ?_
  refine ret_k ?_
  refine g_ifB_eq hX d_D_lay_8 (fun e8 => ?_) (fun e8 => ?_)
  · refine g_iconst (v := -1) hX d_D_lay_22 rfl ?_
    refine g_iret hX hF d_D_lay_23 (by omega) (by omega) ?_
    rw [lay_no (fun q => by first | exact e8 q.1 | exact e19 q.2)]
    exact ⟨rfl, h, DkD.rf w⟩
  · refine g_aload0 hX d_D_lay_11 ?_
    refine g_getF hX d_D_lay_12 fl_D_10 (lv_0 _) ?_
    refine g_iload2 hX d_D_lay_15 ?_
    refine g_callV (As := [_]) hX hF.1 d_D_lay_16 ml_D_113 cf_Bo_hasNode cv_Bo_hasNode rfl rfl (c_Bo_hasNode isBo1 hR hW) (rcv_obj hX (lv_1 _) rfl rfl) (by omega) (by omega) (by omega) (Nat.le_of_ble_eq_true rfl) ?_
    refine ret_k ?_
    refine g_ifB_ne hX d_D_lay_19 (fun e19 => ?_) (fun e19 => ?_)
    · obtain ⟨x, hx, rfl, htx⟩ := inN_of e8 (by omega)
      obtain ⟨y, hy, rfl, hty⟩ := inN_of e19 (by omega)
      have hix := e8
      have hiy := e19
      rcases hgf : gF (sG s) with _ | kf
      · refine g_aload0 hX d_D_lay_24 ?_
        refine g_getF hX d_D_lay_25 fl_D_40 (lv_0 _) ?_
        refine g_aload0 hX d_D_lay_28 ?_
        refine g_getF hX d_D_lay_29 fl_D_10 (lv_0 _) ?_
        refine g_aload0 hX d_D_lay_32 ?_
        refine g_getF hX d_D_lay_33 fl_D_10 (lv_0 _) ?_
        refine g_callV (As := []) hX hF.1 d_D_lay_36 ml_D_142 cf_Bo_lawInForce cv_Bo_lawInForce rfl rfl (c_Bo_forceN hR hW (fInt_no hgf _)) (rcv_obj hX (lv_1 _) rfl rfl) (by omega) (by omega) (by omega) (Nat.le_of_ble_eq_true rfl) ?_
        refine ret_k ?_
        refine g_callV (As := [_, _]) hX hF.1 d_D_lay_39 ml_D_146 cf_Le_fill cv_Le_fill rfl rfl (c_Le_fillN (o := gF (sG s)) hR hW (gLw_n hgf)) (rcv_obj hX (lv_31 _) rfl rfl) (by omega) (by omega) (by omega) (Nat.le_of_ble_eq_true rfl) ?_
        rintro _ w2 ⟨rfl, hfl, hLe⟩
        replace hLe : LeP w2 (sG s) := hLe
        have hcl := gCost_le (sG s) x y
        have hml := mayN_lt (sG s) x (gN (sG s)) hn
        show G0 _ _ _ _ _ _ _ _
        refine g_iload3 hX d_D_lay_42 ?_
        by_cases c0_0 : what = 0
        · refine g_lookup (off := 25) (tgt := 68) hX d_D_lay_43 (by decide) (by rw [c0_0]; rfl) rfl ?_
          refine g_aload0 hX d_D_lay_68 ?_
          refine g_getF hX d_D_lay_69 fl_D_40 (lv_0 _) ?_
          refine g_getF hX d_D_lay_72 fl_D_150 (lv_31 _) ?_
          refine g_iload1 hX d_D_lay_75 ?_
          refine g_bipush (v := nI 12) hX d_D_lay_76 rfl ?_
          refine g_imulN hX d_D_lay_78 ?_
          refine g_iload2 hX d_D_lay_79 ?_
          refine g_iaddN hX d_D_lay_80 ?_
          refine g_iald hX d_D_lay_81 (lv_33 _) rfl (by omega) ?_
          refine g_topi (show rI w2 33 (x * 12 + y) = nI (gCost (sG s) x y) from hLe.2 x y (Or.inl ⟨hx, hy⟩)) ?_
          refine g_iret hX hF d_D_lay_82 (by omega) (by omega) ?_
          rw [lay_0 ⟨hix, hiy⟩ htx hty c0_0]
          exact ⟨rfl, h.q hfl.Q, hfl.Q.D⟩
        by_cases c0_1 : what = 1
        · refine g_lookup (off := 40) (tgt := 83) hX d_D_lay_43 (by decide) (by rw [c0_1]; rfl) rfl ?_
          refine g_aload0 hX d_D_lay_83 ?_
          refine g_getF hX d_D_lay_84 fl_D_40 (lv_0 _) ?_
          refine g_getF hX d_D_lay_87 fl_D_153 (lv_31 _) ?_
          refine g_iload1 hX d_D_lay_90 ?_
          refine g_iald hX d_D_lay_91 (lv_32 _) rfl (by omega) ?_
          refine g_topi (show rI w2 32 x = nI (mayN (sG s) x (gN (sG s))) from hLe.1 x hx) ?_
          refine g_iload2 hX d_D_lay_92 ?_
          refine g_ishrN hX d_D_lay_93 (by omega) (by omega) ?_
          refine g_iconst (v := nI 1) hX d_D_lay_94 rfl ?_
          refine g_iandC hX d_D_lay_95 (fun hm1 => ?_)
          refine g_iret hX hF d_D_lay_96 (by omega) (by omega) ?_
          rw [lay_1 ⟨hix, hiy⟩ htx hty (fun z => absurd (c0_1.symm.trans z) (by decide)) c0_1]
          refine ⟨?_, h.q hfl.Q, hfl.Q.D⟩
          rw [bit_b2i, mayN_tb]
          simp only [hy, decide_true, Bool.true_and]
        refine g_lookup (off := 54) (tgt := 97) hX d_D_lay_43 (by decide) (by exact (lv_osw c0_0 rfl).trans ((lv_osw c0_1 rfl).trans (rfl))) rfl ?_
        refine g_iconst (v := -1) hX d_D_lay_97 rfl ?_
        refine g_iret hX hF d_D_lay_98 (by omega) (by omega) ?_
        unfold opLay
        rw [if_neg (not_not_intro ⟨hix, hiy⟩), if_neg c0_0, if_neg c0_1]
        exact ⟨rfl, h.q hfl.Q, hfl.Q.D⟩
      · obtain ⟨pl, hpl, hPL, hlw⟩ := law_force h hgf
        obtain ⟨hin, htk⟩ := fInt_in hW hgf
        refine g_aload0 hX d_D_lay_24 ?_
        refine g_getF hX d_D_lay_25 fl_D_40 (lv_0 _) ?_
        refine g_aload0 hX d_D_lay_28 ?_
        refine g_getF hX d_D_lay_29 fl_D_10 (lv_0 _) ?_
        refine g_aload0 hX d_D_lay_32 ?_
        refine g_getF hX d_D_lay_33 fl_D_10 (lv_0 _) ?_
        refine g_callV (As := []) hX hF.1 d_D_lay_36 ml_D_142 cf_Bo_lawInForce cv_Bo_lawInForce rfl rfl (c_Bo_forceR hR hW hin (by rw [htk]; exact hpl)) (rcv_obj hX (lv_1 _) rfl rfl) (by omega) (by omega) (by omega) (Nat.le_of_ble_eq_true rfl) ?_
        refine ret_k ?_
        refine g_callV (As := [_, _]) hX hF.1 d_D_lay_39 ml_D_146 cf_Le_fill cv_Le_fill rfl rfl (c_Le_fillP (o := gF (sG s)) hR hW hPL hlw) (rcv_obj hX (lv_31 _) rfl rfl) (by omega) (by omega) (by omega) (Nat.le_of_ble_eq_true rfl) ?_
        rintro _ w2 ⟨rfl, hfl, hLe⟩
        replace hLe : LeP w2 (sG s) := hLe
        have hcl := gCost_le (sG s) x y
        have hml := mayN_lt (sG s) x (gN (sG s)) hn
        show G0 _ _ _ _ _ _ _ _
        refine g_iload3 hX d_D_lay_42 ?_
        by_cases c0_0 : what = 0
        · refine g_lookup (off := 25) (tgt := 68) hX d_D_lay_43 (by decide) (by rw [c0_0]; rfl) rfl ?_
          refine g_aload0 hX d_D_lay_68 ?_
          refine g_getF hX d_D_lay_69 fl_D_40 (lv_0 _) ?_
          refine g_getF hX d_D_lay_72 fl_D_150 (lv_31 _) ?_
          refine g_iload1 hX d_D_lay_75 ?_
          refine g_bipush (v := nI 12) hX d_D_lay_76 rfl ?_
          refine g_imulN hX d_D_lay_78 ?_
          refine g_iload2 hX d_D_lay_79 ?_
          refine g_iaddN hX d_D_lay_80 ?_
          refine g_iald hX d_D_lay_81 (lv_33 _) rfl (by omega) ?_
          refine g_topi (show rI w2 33 (x * 12 + y) = nI (gCost (sG s) x y) from hLe.2 x y (Or.inl ⟨hx, hy⟩)) ?_
          refine g_iret hX hF d_D_lay_82 (by omega) (by omega) ?_
          rw [lay_0 ⟨hix, hiy⟩ htx hty c0_0]
          exact ⟨rfl, h.q hfl.Q, hfl.Q.D⟩
        by_cases c0_1 : what = 1
        · refine g_lookup (off := 40) (tgt := 83) hX d_D_lay_43 (by decide) (by rw [c0_1]; rfl) rfl ?_
          refine g_aload0 hX d_D_lay_83 ?_
          refine g_getF hX d_D_lay_84 fl_D_40 (lv_0 _) ?_
          refine g_getF hX d_D_lay_87 fl_D_153 (lv_31 _) ?_
          refine g_iload1 hX d_D_lay_90 ?_
          refine g_iald hX d_D_lay_91 (lv_32 _) rfl (by omega) ?_
          refine g_topi (show rI w2 32 x = nI (mayN (sG s) x (gN (sG s))) from hLe.1 x hx) ?_
          refine g_iload2 hX d_D_lay_92 ?_
          refine g_ishrN hX d_D_lay_93 (by omega) (by omega) ?_
          refine g_iconst (v := nI 1) hX d_D_lay_94 rfl ?_
          refine g_iandC hX d_D_lay_95 (fun hm1 => ?_)
          refine g_iret hX hF d_D_lay_96 (by omega) (by omega) ?_
          rw [lay_1 ⟨hix, hiy⟩ htx hty (fun z => absurd (c0_1.symm.trans z) (by decide)) c0_1]
          refine ⟨?_, h.q hfl.Q, hfl.Q.D⟩
          rw [bit_b2i, mayN_tb]
          simp only [hy, decide_true, Bool.true_and]
        refine g_lookup (off := 54) (tgt := 97) hX d_D_lay_43 (by decide) (by exact (lv_osw c0_0 rfl).trans ((lv_osw c0_1 rfl).trans (rfl))) rfl ?_
        refine g_iconst (v := -1) hX d_D_lay_97 rfl ?_
        refine g_iret hX hF d_D_lay_98 (by omega) (by omega) ?_
        unfold opLay
        rw [if_neg (not_not_intro ⟨hix, hiy⟩), if_neg c0_0, if_neg c0_1]
        exact ⟨rfl, h.q hfl.Q, hfl.Q.D⟩
    · refine g_iconst (v := -1) hX d_D_lay_22 rfl ?_
      refine g_iret hX hF d_D_lay_23 (by omega) (by omega) ?_
      rw [lay_no (fun q => by first | exact e8 q.1 | exact e19 q.2)]
      exact ⟨rfl, h, DkD.rf w⟩
theorem c_D_niw0 {E : EV} {w : Mem} {x : Int32} : T E m_D_nodeInWay 1 0 0 [.ref 0, .int (nI 0), .int x] w (Ret (some (.int (-1))) w) := by
  refine T_of (L := [.ref 0, .int (nI 0), .int x]) cf_D_nodeInWay rfl (Nat.le_of_ble_eq_true rfl) (fun X hX hF => ?_)
  refine g_iload1 hX d_D_nodeInWay_0 ?_
  refine g_if_eq hX d_D_nodeInWay_1 (fun c0 => ?_) (fun h => absurd (by decide) h)
  refine g_iconst (v := -1) hX d_D_nodeInWay_27 rfl ?_
  refine g_iret hX hF d_D_nodeInWay_28 (by omega) (by omega) ?_
  exact ⟨rfl, rfl⟩
theorem c_D_niwN {E : EV} {w : Mem} {g : GC} {x : Int32} (hR : BRow w 1 g) (hW : WG g) (hx : ¬ inN x (gV g)) : T E m_D_nodeInWay 1 0 0 [.ref 0, .int (nI 1), .int x] w (Ret (some (.int (-1))) w) := by
  refine T_of (L := [.ref 0, .int (nI 1), .int x]) cf_D_nodeInWay rfl (Nat.le_of_ble_eq_true rfl) (fun X hX hF => ?_)
  refine g_iload1 hX d_D_nodeInWay_0 ?_
  refine g_if_eq hX d_D_nodeInWay_1 (fun h => absurd h (by decide)) (fun c0 => ?_)
  refine g_aload0 hX d_D_nodeInWay_4 ?_
  refine g_getF hX d_D_nodeInWay_5 fl_D_10 (lv_0 _) ?_
  refine g_iload2 hX d_D_nodeInWay_8 ?_
  refine g_callV (As := [_]) hX hF.1 d_D_nodeInWay_9 ml_D_126 cf_Bo_hasVertex cv_Bo_hasVertex rfl rfl (c_Bo_hasVertex isBo1 hR hW) (rcv_obj hX (lv_1 _) rfl rfl) (by omega) (by omega) (by omega) (Nat.le_of_ble_eq_true rfl) ?_
  refine ret_k ?_
  refine g_ifB_eq hX d_D_nodeInWay_12 (fun c1 => ?_) (fun h => absurd h hx)
  refine g_iconst (v := -1) hX d_D_nodeInWay_27 rfl ?_
  refine g_iret hX hF d_D_nodeInWay_28 (by omega) (by omega) ?_
  exact ⟨rfl, rfl⟩
theorem c_D_niw1 {E : EV} {w : Mem} {g : GC} {x y : Nat} (hR : BRow w 1 g) (hW : WG g) (hx : x < gV g) (hy : rI w 37 x = nI y) : T E m_D_nodeInWay 1 0 0 [.ref 0, .int (nI 1), .int (nI x)] w (Ret (some (.int (nI y))) w) := by
  refine T_of (L := [.ref 0, .int (nI 1), .int (nI x)]) cf_D_nodeInWay rfl (Nat.le_of_ble_eq_true rfl) (fun X hX hF => ?_)
  have hv := hW.v
  refine g_iload1 hX d_D_nodeInWay_0 ?_
  refine g_if_eq hX d_D_nodeInWay_1 (fun h => absurd h (by decide)) (fun c0 => ?_)
  refine g_aload0 hX d_D_nodeInWay_4 ?_
  refine g_getF hX d_D_nodeInWay_5 fl_D_10 (lv_0 _) ?_
  refine g_iload2 hX d_D_nodeInWay_8 ?_
  refine g_callV (As := [_]) hX hF.1 d_D_nodeInWay_9 ml_D_126 cf_Bo_hasVertex cv_Bo_hasVertex rfl rfl (c_Bo_hasVertex isBo1 hR hW) (rcv_obj hX (lv_1 _) rfl rfl) (by omega) (by omega) (by omega) (Nat.le_of_ble_eq_true rfl) ?_
  refine ret_k ?_
  refine g_ifB_eq hX d_D_nodeInWay_12 (fun h => absurd (inN_nI hx (by omega)) h) (fun c1 => ?_)
  refine g_aload0 hX d_D_nodeInWay_15 ?_
  refine g_getF hX d_D_nodeInWay_16 fl_D_47 (lv_0 _) ?_
  refine g_getF hX d_D_nodeInWay_19 fl_D_261 (lv_36 _) ?_
  refine g_iload2 hX d_D_nodeInWay_22 ?_
  refine g_iald hX d_D_nodeInWay_23 (lv_37 _) rfl (by omega) ?_
  refine g_topi hy ?_
  refine g_goto hX d_D_nodeInWay_24 ?_
  refine g_iret hX hF d_D_nodeInWay_28 (by omega) (by omega) ?_
  exact ⟨rfl, rfl⟩
theorem c_D_ways {E : EV} {w : Mem} {s : SG} (h : DInv w s) : T E m_D_ways 5 0 0 [.ref 0] w (fun r w2 => r = some (.int (opWays (sG s))) ∧ DInv w2 s ∧ DkD w w2) := by
  refine T_of (L := [.ref 0]) cf_D_ways rfl (Nat.le_of_ble_eq_true rfl) (fun X hX hF => ?_)
  obtain ⟨⟨hR, hW, hA⟩, hL, hT, hI, hRF, ⟨hsm, hfa, hsp⟩, hdr, hfx⟩ := id h
  have hn := hW.n
  have hv := hW.v
  have he := hW.el
  have hll := hW.ll
  have hsl := hW.sl
  refine g_aload0 hX d_D_ways_0 ?_
  refine g_callV (As := []) hX hF.1 d_D_ways_1 ml_D_264 cf_D_startWays cv_D_startWays rfl rfl (c_D_startWays h) (rcv_obj hX (lv_0 _) rfl rfl) (by omega) (by omega) (by omega) (Nat.le_of_ble_eq_true rfl) ?_
  rintro _ w1 ⟨rfl, hE1, hS1, hLe1, h1, hQ1⟩
  have hwl : (waysL (sG s)).length ≤ 248832 := by rw [← ways_C]; exact waysC_len hW
  show G0 _ _ _ _ _ _ _ _
  refine g_aload0 hX d_D_ways_4 ?_
  refine g_getF hX d_D_ways_5 fl_D_47 (lv_0 _) ?_
  refine g_callV (As := []) hX hF.1 d_D_ways_8 ml_D_267 cf_Wa_countAll cv_Wa_countAll rfl rfl (c_Wa_countAll hE1 hS1 rfl (by omega)) (rcv_obj hX (lv_36 _) rfl rfl) (by omega) (by omega) (by omega) (Nat.le_of_ble_eq_true rfl) ?_
  rintro _ w2 ⟨rfl, hf2, -⟩
  show G0 _ _ _ _ _ _ _ _
  refine g_iret hX hF d_D_ways_11 (by omega) (by omega) ?_
  exact ⟨rfl, h1.q hf2.Q, (hQ1.tr hf2.Q).D⟩
theorem c_D_way {E : EV} {w : Mem} {k v : Int32} {s : SG} (h : DInv w s) : T E m_D_way 5 0 0 [.ref 0, .int k, .int v] w (fun r w2 => r = some (.int (opWay k v (sG s))) ∧ DInv w2 s ∧ DkD w w2) := by
  refine T_of (L := [.ref 0, .int k, .int v]) cf_D_way rfl (Nat.le_of_ble_eq_true rfl) (fun X hX hF => ?_)
  obtain ⟨⟨hR, hW, hA⟩, hL, hT, hI, hRF, ⟨hsm, hfa, hsp⟩, hdr, hfx⟩ := id h
  have hn := hW.n
  have hv := hW.v
  have he := hW.el
  have hll := hW.ll
  have hsl := hW.sl
  by_cases hk0 : k < 0
  · refine g_aload0 hX d_D_way_0 ?_
    refine g_callV (As := []) hX hF.1 d_D_way_1 ml_D_264 cf_D_startWays cv_D_startWays rfl rfl (c_D_startWays h) (rcv_obj hX (lv_0 _) rfl rfl) (by omega) (by omega) (by omega) (Nat.le_of_ble_eq_true rfl) ?_
    rintro _ w1 ⟨rfl, hE1, hS1, hLe1, h1, hQ1⟩
    have hwl : (waysL (sG s)).length ≤ 248832 := by rw [← ways_C]; exact waysC_len hW
    show G0 _ _ _ _ _ _ _ _
    refine g_aload0 hX d_D_way_4 ?_
    refine g_aload0 hX d_D_way_5 ?_
    refine g_getF hX d_D_way_6 fl_D_47 (lv_0 _) ?_
    refine g_iload1 hX d_D_way_9 ?_
    refine g_callV (As := [_]) hX hF.1 d_D_way_10 ml_D_271 cf_Wa_goTo cv_Wa_goTo rfl rfl (c_Wa_goTo0 hk0) (rcv_obj hX (lv_36 _) rfl rfl) (by omega) (by omega) (by omega) (Nat.le_of_ble_eq_true rfl) ?_
    refine ret_k ?_
    refine g_iload2 hX d_D_way_13 ?_
    refine g_callV (As := [_, _]) hX hF.1 d_D_way_14 ml_D_274 cf_D_nodeInWay cv_D_nodeInWay rfl rfl (c_D_niw0) (rcv_obj hX (lv_0 _) rfl rfl) (by omega) (by omega) (by omega) (Nat.le_of_ble_eq_true rfl) ?_
    refine ret_k ?_
    refine g_iret hX hF d_D_way_17 (by omega) (by omega) ?_
    rw [way_no (Or.inr hk0)]
    exact ⟨rfl, h1, hQ1.D⟩
  · obtain ⟨m, hm31, rfl⟩ : ∃ m : Nat, m < 2 ^ 31 ∧ k = nI m := ⟨tn k, tn_lt k, (tn_k hk0).symm⟩
    rcases hwm : (waysL (sG s))[m]? with _ | y
    · refine g_aload0 hX d_D_way_0 ?_
      refine g_callV (As := []) hX hF.1 d_D_way_1 ml_D_264 cf_D_startWays cv_D_startWays rfl rfl (c_D_startWays h) (rcv_obj hX (lv_0 _) rfl rfl) (by omega) (by omega) (by omega) (Nat.le_of_ble_eq_true rfl) ?_
      rintro _ w1 ⟨rfl, hE1, hS1, hLe1, h1, hQ1⟩
      have hwl : (waysL (sG s)).length ≤ 248832 := by rw [← ways_C]; exact waysC_len hW
      show G0 _ _ _ _ _ _ _ _
      refine g_aload0 hX d_D_way_4 ?_
      refine g_aload0 hX d_D_way_5 ?_
      refine g_getF hX d_D_way_6 fl_D_47 (lv_0 _) ?_
      refine g_iload1 hX d_D_way_9 ?_
      refine g_callV (As := [_]) hX hF.1 d_D_way_10 ml_D_271 cf_Wa_goTo cv_Wa_goTo rfl rfl (c_Wa_goTo hE1 hS1 (by omega) hm31) (rcv_obj hX (lv_36 _) rfl rfl) (by omega) (by omega) (by omega) (Nat.le_of_ble_eq_true rfl) ?_
      rintro rg w2 ⟨hgo, hf2⟩
      unfold GoP at hgo
      rw [hwm] at hgo
      subst hgo
      show G0 _ _ _ _ _ _ _ _
      refine g_iload2 hX d_D_way_13 ?_
      refine g_callV (As := [_, _]) hX hF.1 d_D_way_14 ml_D_274 cf_D_nodeInWay cv_D_nodeInWay rfl rfl (c_D_niw0) (rcv_obj hX (lv_0 _) rfl rfl) (by omega) (by omega) (by omega) (Nat.le_of_ble_eq_true rfl) ?_
      refine ret_k ?_
      refine g_iret hX hF d_D_way_17 (by omega) (by omega) ?_
      by_cases hv0 : inN v (gV (sG s))
      · obtain ⟨x, hx, rfl, -⟩ := inN_of hv0 (by omega)
        rw [way_ok hm31 hx hv, hwm]
        exact ⟨rfl, h1.q hf2.Q, (hQ1.tr hf2.Q).D⟩
      · rw [way_no (Or.inl hv0)]
        exact ⟨rfl, h1.q hf2.Q, (hQ1.tr hf2.Q).D⟩
    · by_cases hv0 : inN v (gV (sG s))
      · obtain ⟨x, hx, rfl, -⟩ := inN_of hv0 (by omega)
        refine g_aload0 hX d_D_way_0 ?_
        refine g_callV (As := []) hX hF.1 d_D_way_1 ml_D_264 cf_D_startWays cv_D_startWays rfl rfl (c_D_startWays h) (rcv_obj hX (lv_0 _) rfl rfl) (by omega) (by omega) (by omega) (Nat.le_of_ble_eq_true rfl) ?_
        rintro _ w1 ⟨rfl, hE1, hS1, hLe1, h1, hQ1⟩
        have hwl : (waysL (sG s)).length ≤ 248832 := by rw [← ways_C]; exact waysC_len hW
        show G0 _ _ _ _ _ _ _ _
        refine g_aload0 hX d_D_way_4 ?_
        refine g_aload0 hX d_D_way_5 ?_
        refine g_getF hX d_D_way_6 fl_D_47 (lv_0 _) ?_
        refine g_iload1 hX d_D_way_9 ?_
        refine g_callV (As := [_]) hX hF.1 d_D_way_10 ml_D_271 cf_Wa_goTo cv_Wa_goTo rfl rfl (c_Wa_goTo hE1 hS1 (by omega) hm31) (rcv_obj hX (lv_36 _) rfl rfl) (by omega) (by omega) (by omega) (Nat.le_of_ble_eq_true rfl) ?_
        rintro rg w2 ⟨hgo, hf2⟩
        unfold GoP at hgo
        rw [hwm] at hgo
        obtain ⟨rfl, hpl⟩ := hgo
        show G0 _ _ _ _ _ _ _ _
        refine g_iload2 hX d_D_way_13 ?_
        refine g_callV (As := [_, _]) hX hF.1 d_D_way_14 ml_D_274 cf_D_nodeInWay cv_D_nodeInWay rfl rfl (c_D_niw1 (hE1.fr hf2.W).1 hW hx (hpl x hx)) (rcv_obj hX (lv_0 _) rfl rfl) (by omega) (by omega) (by omega) (Nat.le_of_ble_eq_true rfl) ?_
        refine ret_k ?_
        refine g_iret hX hF d_D_way_17 (by omega) (by omega) ?_
        rw [way_ok hm31 hx hv, hwm]
        exact ⟨rfl, h1.q hf2.Q, (hQ1.tr hf2.Q).D⟩
      · refine g_aload0 hX d_D_way_0 ?_
        refine g_callV (As := []) hX hF.1 d_D_way_1 ml_D_264 cf_D_startWays cv_D_startWays rfl rfl (c_D_startWays h) (rcv_obj hX (lv_0 _) rfl rfl) (by omega) (by omega) (by omega) (Nat.le_of_ble_eq_true rfl) ?_
        rintro _ w1 ⟨rfl, hE1, hS1, hLe1, h1, hQ1⟩
        have hwl : (waysL (sG s)).length ≤ 248832 := by rw [← ways_C]; exact waysC_len hW
        show G0 _ _ _ _ _ _ _ _
        refine g_aload0 hX d_D_way_4 ?_
        refine g_aload0 hX d_D_way_5 ?_
        refine g_getF hX d_D_way_6 fl_D_47 (lv_0 _) ?_
        refine g_iload1 hX d_D_way_9 ?_
        refine g_callV (As := [_]) hX hF.1 d_D_way_10 ml_D_271 cf_Wa_goTo cv_Wa_goTo rfl rfl (c_Wa_goTo hE1 hS1 (by omega) hm31) (rcv_obj hX (lv_36 _) rfl rfl) (by omega) (by omega) (by omega) (Nat.le_of_ble_eq_true rfl) ?_
        rintro rg w2 ⟨hgo, hf2⟩
        unfold GoP at hgo
        rw [hwm] at hgo
        obtain ⟨rfl, hpl⟩ := hgo
        show G0 _ _ _ _ _ _ _ _
        refine g_iload2 hX d_D_way_13 ?_
        refine g_callV (As := [_, _]) hX hF.1 d_D_way_14 ml_D_274 cf_D_nodeInWay cv_D_nodeInWay rfl rfl (c_D_niwN (hE1.fr hf2.W).1 hW hv0) (rcv_obj hX (lv_0 _) rfl rfl) (by omega) (by omega) (by omega) (Nat.le_of_ble_eq_true rfl) ?_
        refine ret_k ?_
        refine g_iret hX hF d_D_way_17 (by omega) (by omega) ?_
        rw [way_no (Or.inl hv0)]
        exact ⟨rfl, h1.q hf2.Q, (hQ1.tr hf2.Q).D⟩
