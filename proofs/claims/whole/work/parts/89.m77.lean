def m_Ac_takeBack : MR := (⟨"SubgraphDesk$Acts", "takeBack", "(LSubgraphDesk$Board;)I"⟩, prog_2_method_10_code, 3, (some .int))
theorem cf_Ac_takeBack : CF m_Ac_takeBack 1 := ⟨gd 1153 (by decide +kernel) rfl, gd 141 (by decide +kernel) rfl, by decide +kernel, by decide, by decide +kernel⟩
theorem cv_Ac_takeBack : CV m_Ac_takeBack := ⟨gd 1151 (by decide +kernel) rfl, gd 1152 (by decide +kernel) rfl⟩
def m_Ac_takeBackJoin : MR := (⟨"SubgraphDesk$Acts", "takeBackJoin", "(LSubgraphDesk$Board;III)V"⟩, prog_2_method_11_code, 5, none)
theorem cf_Ac_takeBackJoin : CF m_Ac_takeBackJoin 4 := ⟨gd 1157 (by decide +kernel) rfl, gd 141 (by decide +kernel) rfl, by decide +kernel, by decide, by decide +kernel⟩
theorem cv_Ac_takeBackJoin : CV m_Ac_takeBackJoin := ⟨gd 1156 (by decide +kernel) rfl, gd 33 (by decide +kernel) rfl⟩
theorem d_Ac_takeBack_0 : Dc prog_2_method_10_code 0 (.aload_n 0) 1 1 := ⟨by decide +kernel, rfl⟩
theorem d_Ac_takeBack_1 : Dc prog_2_method_10_code 1 (.getfield 24) 3 4 := ⟨by decide +kernel, rfl⟩
theorem d_Ac_takeBack_4 : Dj prog_2_method_10_code 4 (.ifCond .gt 6) 7 6 10 := ⟨by decide +kernel, rfl, rfl⟩
theorem d_Ac_takeBack_7 : Dc prog_2_method_10_code 7 (.bipush (-3)) 2 9 := ⟨by decide +kernel, rfl⟩
theorem d_Ac_takeBack_9 : Dc prog_2_method_10_code 9 (.ireturn) 1 10 := ⟨by decide +kernel, rfl⟩
theorem d_Ac_takeBack_10 : Dc prog_2_method_10_code 10 (.aload_n 0) 1 11 := ⟨by decide +kernel, rfl⟩
theorem d_Ac_takeBack_11 : Dc prog_2_method_10_code 11 (.dup) 1 12 := ⟨by decide +kernel, rfl⟩
theorem d_Ac_takeBack_12 : Dc prog_2_method_10_code 12 (.getfield 24) 3 15 := ⟨by decide +kernel, rfl⟩
theorem d_Ac_takeBack_15 : Dc prog_2_method_10_code 15 (.iconst 1) 1 16 := ⟨by decide +kernel, rfl⟩
theorem d_Ac_takeBack_16 : Dc prog_2_method_10_code 16 (.isub) 1 17 := ⟨by decide +kernel, rfl⟩
theorem d_Ac_takeBack_17 : Dc prog_2_method_10_code 17 (.putfield 24) 3 20 := ⟨by decide +kernel, rfl⟩
theorem d_Ac_takeBack_20 : Dc prog_2_method_10_code 20 (.aload_n 0) 1 21 := ⟨by decide +kernel, rfl⟩
theorem d_Ac_takeBack_21 : Dc prog_2_method_10_code 21 (.getfield 15) 3 24 := ⟨by decide +kernel, rfl⟩
theorem d_Ac_takeBack_24 : Dc prog_2_method_10_code 24 (.aload_n 0) 1 25 := ⟨by decide +kernel, rfl⟩
theorem d_Ac_takeBack_25 : Dc prog_2_method_10_code 25 (.getfield 24) 3 28 := ⟨by decide +kernel, rfl⟩
theorem d_Ac_takeBack_28 : Dc prog_2_method_10_code 28 (.iaload) 1 29 := ⟨by decide +kernel, rfl⟩
theorem d_Ac_takeBack_29 : Dc prog_2_method_10_code 29 (.istore_n 2) 1 30 := ⟨by decide +kernel, rfl⟩
theorem d_Ac_takeBack_30 : Dc prog_2_method_10_code 30 (.aload_n 0) 1 31 := ⟨by decide +kernel, rfl⟩
theorem d_Ac_takeBack_31 : Dc prog_2_method_10_code 31 (.getfield 11) 3 34 := ⟨by decide +kernel, rfl⟩
theorem d_Ac_takeBack_34 : Dc prog_2_method_10_code 34 (.aload_n 0) 1 35 := ⟨by decide +kernel, rfl⟩
theorem d_Ac_takeBack_35 : Dc prog_2_method_10_code 35 (.getfield 24) 3 38 := ⟨by decide +kernel, rfl⟩
theorem d_Ac_takeBack_38 : Dc prog_2_method_10_code 38 (.iaload) 1 39 := ⟨by decide +kernel, rfl⟩
theorem d_Ac_takeBack_39 : Dc prog_2_method_10_code 39 (.tableswitch 87 0 2 #[25, 52, 69]) 25 64 := ⟨by decide +kernel, rfl⟩
theorem d_Ac_takeBack_64 : Dc prog_2_method_10_code 64 (.aload_n 0) 1 65 := ⟨by decide +kernel, rfl⟩
theorem d_Ac_takeBack_65 : Dc prog_2_method_10_code 65 (.aload_n 1) 1 66 := ⟨by decide +kernel, rfl⟩
theorem d_Ac_takeBack_66 : Dc prog_2_method_10_code 66 (.iload_n 2) 1 67 := ⟨by decide +kernel, rfl⟩
theorem d_Ac_takeBack_67 : Dc prog_2_method_10_code 67 (.aload_n 0) 1 68 := ⟨by decide +kernel, rfl⟩
theorem d_Ac_takeBack_68 : Dc prog_2_method_10_code 68 (.getfield 18) 3 71 := ⟨by decide +kernel, rfl⟩
theorem d_Ac_takeBack_71 : Dc prog_2_method_10_code 71 (.aload_n 0) 1 72 := ⟨by decide +kernel, rfl⟩
theorem d_Ac_takeBack_72 : Dc prog_2_method_10_code 72 (.getfield 24) 3 75 := ⟨by decide +kernel, rfl⟩
theorem d_Ac_takeBack_75 : Dc prog_2_method_10_code 75 (.iaload) 1 76 := ⟨by decide +kernel, rfl⟩
theorem d_Ac_takeBack_76 : Dc prog_2_method_10_code 76 (.aload_n 0) 1 77 := ⟨by decide +kernel, rfl⟩
theorem d_Ac_takeBack_77 : Dc prog_2_method_10_code 77 (.getfield 21) 3 80 := ⟨by decide +kernel, rfl⟩
theorem d_Ac_takeBack_80 : Dc prog_2_method_10_code 80 (.aload_n 0) 1 81 := ⟨by decide +kernel, rfl⟩
theorem d_Ac_takeBack_81 : Dc prog_2_method_10_code 81 (.getfield 24) 3 84 := ⟨by decide +kernel, rfl⟩
theorem d_Ac_takeBack_84 : Dc prog_2_method_10_code 84 (.iaload) 1 85 := ⟨by decide +kernel, rfl⟩
theorem d_Ac_takeBack_85 : Dc prog_2_method_10_code 85 (.invokevirtual 67) 3 88 := ⟨by decide +kernel, rfl⟩
theorem d_Ac_takeBack_88 : Dj prog_2_method_10_code 88 (.goto 53) 91 53 141 := ⟨by decide +kernel, rfl, rfl⟩
theorem d_Ac_takeBack_91 : Dc prog_2_method_10_code 91 (.aload_n 1) 1 92 := ⟨by decide +kernel, rfl⟩
theorem d_Ac_takeBack_92 : Dc prog_2_method_10_code 92 (.iload_n 2) 1 93 := ⟨by decide +kernel, rfl⟩
theorem d_Ac_takeBack_93 : Dc prog_2_method_10_code 93 (.aload_n 0) 1 94 := ⟨by decide +kernel, rfl⟩
theorem d_Ac_takeBack_94 : Dc prog_2_method_10_code 94 (.getfield 18) 3 97 := ⟨by decide +kernel, rfl⟩
theorem d_Ac_takeBack_97 : Dc prog_2_method_10_code 97 (.aload_n 0) 1 98 := ⟨by decide +kernel, rfl⟩
theorem d_Ac_takeBack_98 : Dc prog_2_method_10_code 98 (.getfield 24) 3 101 := ⟨by decide +kernel, rfl⟩
theorem d_Ac_takeBack_101 : Dc prog_2_method_10_code 101 (.iaload) 1 102 := ⟨by decide +kernel, rfl⟩
theorem d_Ac_takeBack_102 : Dc prog_2_method_10_code 102 (.invokevirtual 54) 3 105 := ⟨by decide +kernel, rfl⟩
theorem d_Ac_takeBack_105 : Dj prog_2_method_10_code 105 (.goto 36) 108 36 141 := ⟨by decide +kernel, rfl, rfl⟩
theorem d_Ac_takeBack_108 : Dc prog_2_method_10_code 108 (.aload_n 1) 1 109 := ⟨by decide +kernel, rfl⟩
theorem d_Ac_takeBack_109 : Dc prog_2_method_10_code 109 (.getfield 61) 3 112 := ⟨by decide +kernel, rfl⟩
theorem d_Ac_takeBack_112 : Dc prog_2_method_10_code 112 (.iload_n 2) 1 113 := ⟨by decide +kernel, rfl⟩
theorem d_Ac_takeBack_113 : Dc prog_2_method_10_code 113 (.aload_n 0) 1 114 := ⟨by decide +kernel, rfl⟩
theorem d_Ac_takeBack_114 : Dc prog_2_method_10_code 114 (.getfield 21) 3 117 := ⟨by decide +kernel, rfl⟩
theorem d_Ac_takeBack_117 : Dc prog_2_method_10_code 117 (.aload_n 0) 1 118 := ⟨by decide +kernel, rfl⟩
theorem d_Ac_takeBack_118 : Dc prog_2_method_10_code 118 (.getfield 24) 3 121 := ⟨by decide +kernel, rfl⟩
theorem d_Ac_takeBack_121 : Dc prog_2_method_10_code 121 (.iaload) 1 122 := ⟨by decide +kernel, rfl⟩
theorem d_Ac_takeBack_122 : Dc prog_2_method_10_code 122 (.iastore) 1 123 := ⟨by decide +kernel, rfl⟩
theorem d_Ac_takeBack_123 : Dj prog_2_method_10_code 123 (.goto 18) 126 18 141 := ⟨by decide +kernel, rfl, rfl⟩
theorem d_Ac_takeBack_126 : Dc prog_2_method_10_code 126 (.aload_n 1) 1 127 := ⟨by decide +kernel, rfl⟩
theorem d_Ac_takeBack_127 : Dc prog_2_method_10_code 127 (.getfield 64) 3 130 := ⟨by decide +kernel, rfl⟩
theorem d_Ac_takeBack_130 : Dc prog_2_method_10_code 130 (.iload_n 2) 1 131 := ⟨by decide +kernel, rfl⟩
theorem d_Ac_takeBack_131 : Dc prog_2_method_10_code 131 (.aload_n 0) 1 132 := ⟨by decide +kernel, rfl⟩
theorem d_Ac_takeBack_132 : Dc prog_2_method_10_code 132 (.getfield 21) 3 135 := ⟨by decide +kernel, rfl⟩
theorem d_Ac_takeBack_135 : Dc prog_2_method_10_code 135 (.aload_n 0) 1 136 := ⟨by decide +kernel, rfl⟩
theorem d_Ac_takeBack_136 : Dc prog_2_method_10_code 136 (.getfield 24) 3 139 := ⟨by decide +kernel, rfl⟩
theorem d_Ac_takeBack_139 : Dc prog_2_method_10_code 139 (.iaload) 1 140 := ⟨by decide +kernel, rfl⟩
theorem d_Ac_takeBack_140 : Dc prog_2_method_10_code 140 (.iastore) 1 141 := ⟨by decide +kernel, rfl⟩
theorem d_Ac_takeBack_141 : Dc prog_2_method_10_code 141 (.aload_n 0) 1 142 := ⟨by decide +kernel, rfl⟩
theorem d_Ac_takeBack_142 : Dc prog_2_method_10_code 142 (.getfield 11) 3 145 := ⟨by decide +kernel, rfl⟩
theorem d_Ac_takeBack_145 : Dc prog_2_method_10_code 145 (.aload_n 0) 1 146 := ⟨by decide +kernel, rfl⟩
theorem d_Ac_takeBack_146 : Dc prog_2_method_10_code 146 (.getfield 24) 3 149 := ⟨by decide +kernel, rfl⟩
theorem d_Ac_takeBack_149 : Dc prog_2_method_10_code 149 (.iaload) 1 150 := ⟨by decide +kernel, rfl⟩
theorem d_Ac_takeBack_150 : Dc prog_2_method_10_code 150 (.ireturn) 1 151 := ⟨by decide +kernel, rfl⟩
theorem d_Ac_takeBackJoin_0 : Dc prog_2_method_11_code 0 (.iload 4) 2 2 := ⟨by decide +kernel, rfl⟩
theorem d_Ac_takeBackJoin_2 : Dc prog_2_method_11_code 2 (.iconst (-1)) 1 3 := ⟨by decide +kernel, rfl⟩
theorem d_Ac_takeBackJoin_3 : Dj prog_2_method_11_code 3 (.if_icmp .ne 13) 6 13 16 := ⟨by decide +kernel, rfl, rfl⟩
theorem d_Ac_takeBackJoin_6 : Dc prog_2_method_11_code 6 (.aload_n 1) 1 7 := ⟨by decide +kernel, rfl⟩
theorem d_Ac_takeBackJoin_7 : Dc prog_2_method_11_code 7 (.iload_n 2) 1 8 := ⟨by decide +kernel, rfl⟩
theorem d_Ac_takeBackJoin_8 : Dc prog_2_method_11_code 8 (.iload_n 3) 1 9 := ⟨by decide +kernel, rfl⟩
theorem d_Ac_takeBackJoin_9 : Dc prog_2_method_11_code 9 (.invokevirtual 43) 3 12 := ⟨by decide +kernel, rfl⟩
theorem d_Ac_takeBackJoin_12 : Dc prog_2_method_11_code 12 (.pop) 1 13 := ⟨by decide +kernel, rfl⟩
theorem d_Ac_takeBackJoin_13 : Dj prog_2_method_11_code 13 (.goto 11) 16 11 24 := ⟨by decide +kernel, rfl, rfl⟩
theorem d_Ac_takeBackJoin_16 : Dc prog_2_method_11_code 16 (.aload_n 1) 1 17 := ⟨by decide +kernel, rfl⟩
theorem d_Ac_takeBackJoin_17 : Dc prog_2_method_11_code 17 (.iload_n 2) 1 18 := ⟨by decide +kernel, rfl⟩
theorem d_Ac_takeBackJoin_18 : Dc prog_2_method_11_code 18 (.iload_n 3) 1 19 := ⟨by decide +kernel, rfl⟩
theorem d_Ac_takeBackJoin_19 : Dc prog_2_method_11_code 19 (.iload 4) 2 21 := ⟨by decide +kernel, rfl⟩
theorem d_Ac_takeBackJoin_21 : Dc prog_2_method_11_code 21 (.invokevirtual 71) 3 24 := ⟨by decide +kernel, rfl⟩
theorem d_Ac_takeBackJoin_24 : Dc prog_2_method_11_code 24 (.return_) 1 25 := ⟨by decide +kernel, rfl⟩
theorem ml_Ac_67 : Cond.methodLink "SubgraphDesk$Acts" 67 m_Ac_takeBackJoin.1 ∈ lw_gd := gd 1154 (by decide +kernel) rfl
theorem ml_Ac_71 : Cond.methodLink "SubgraphDesk$Acts" 71 m_Bo_restoreEdge.1 ∈ lw_gd := gd 1158 (by decide +kernel) rfl
theorem c_Ac_takeBackJoin {E : EV} {w : Mem} {a c : Nat} {z : Int32} {g : GC} {s : Snap} (hR : BRow w 1 g) (hW : WG g) (ha : a < gN g) (hc : c < gN g) (hac : a ≠ c) (hsn : snapOf g = sJoin s a c) (hd : s.1.Nodup) (hl : s.1.length ≤ 66) (hz : (codeOf a c ∉ s.1 ∧ z = -1) ∨ ∃ ix : Nat, ix < s.1.length ∧ gA s.1 ix = codeOf a c ∧ z = nI ix) : T E m_Ac_takeBackJoin 2 0 0 [.ref 20, .ref 1, .int (nI a), .int (nI c), .int z] w (fun r w2 => r = none ∧ BRow w2 1 (unsnap g s) ∧ FrBo 1 w w2) := by
  refine T_of (L := [.ref 20, .ref 1, .int (nI a), .int (nI c), .int z]) cf_Ac_takeBackJoin rfl (Nat.le_of_ble_eq_true rfl) (fun X hX hF => ?_)
  refine g_iload4 hX d_Ac_takeBackJoin_0 ?_
  refine g_iconst (v := -1) hX d_Ac_takeBackJoin_2 rfl ?_
  refine g_icmp_ne hX d_Ac_takeBackJoin_3 (fun e3 => ?_) (fun e3 => ?_)
  · obtain ⟨ix, y1, y2, rfl⟩ : ∃ ix : Nat, ix < s.1.length ∧ gA s.1 ix = codeOf a c ∧ z = nI ix := hz.resolve_left (fun y => e3 y.2)
    obtain ⟨hno, hle, hun⟩ := un_ins hsn hd y1 y2
    refine g_aload1 hX d_Ac_takeBackJoin_16 ?_
    refine g_iload2 hX d_Ac_takeBackJoin_17 ?_
    refine g_iload3 hX d_Ac_takeBackJoin_18 ?_
    refine g_iload4 hX d_Ac_takeBackJoin_19 ?_
    refine g_callV (As := [_, _, _]) hX hF.1 d_Ac_takeBackJoin_21 ml_Ac_71 cf_Bo_restoreEdge cv_Bo_restoreEdge rfl rfl (c_Bo_restoreEdge (show IsBo 1 from Or.inl rfl) hR hW ha hc hac (p := ix) (by omega) (by omega)) (rcv_obj hX (lv_1 _) rfl rfl) (by omega) (by omega) (by omega) (Nat.le_of_ble_eq_true rfl) ?_
    rintro _ w1 ⟨rfl, hB1, hf1⟩
    rw [hun] at hB1
    show G0 _ _ _ _ _ _ _ _
    refine g_vret hX hF d_Ac_takeBackJoin_24 (by omega) (by omega) ?_
    first | exact ⟨rfl, hB1, hf1⟩ | (rw [un_join hsn hno] at hB1; exact ⟨rfl, hB1, hf1⟩)
  · have hno : codeOf a c ∉ s.1 := by
      rcases hz with y | ⟨ix, y1, y2, y3⟩
      · exact y.1
      · rw [y3] at e3; exact absurd e3 (nI_m1 (by omega))
    refine g_aload1 hX d_Ac_takeBackJoin_6 ?_
    refine g_iload2 hX d_Ac_takeBackJoin_7 ?_
    refine g_iload3 hX d_Ac_takeBackJoin_8 ?_
    refine g_callV (As := [_, _]) hX hF.1 d_Ac_takeBackJoin_9 ml_Ac_43 cf_Bo_toggleEdge cv_Bo_toggleEdge rfl rfl (c_Bo_toggleEdge (show IsBo 1 from Or.inl rfl) hR hW ha hc hac) (rcv_obj hX (lv_1 _) rfl rfl) (by omega) (by omega) (by omega) (Nat.le_of_ble_eq_true rfl) ?_
    rintro r w1 ⟨hB1, hf1, hr⟩
    obtain ⟨x, rfl, -⟩ := hr.ex
    show G0 _ _ _ _ _ _ _ _
    refine g_pop hX d_Ac_takeBackJoin_12 rfl ?_
    refine g_goto hX d_Ac_takeBackJoin_13 ?_
    refine g_vret hX hF d_Ac_takeBackJoin_24 (by omega) (by omega) ?_
    first | exact ⟨rfl, hB1, hf1⟩ | (rw [un_join hsn hno] at hB1; exact ⟨rfl, hB1, hf1⟩)
theorem nI_gt0 {x : Nat} (h0 : 0 < x) (h : x < 2 ^ 31) : 0 < nI x := nI_lt (a := 0) h0 h
theorem c_Ac_takeBack0 {E : EV} {w : Mem} {g : GC} (hG : DG w g []) : T E m_Ac_takeBack 3 0 0 [.ref 20, .ref 1] w (Ret (some (.int (-(nI 3)))) w) := by
  refine T_of (L := [.ref 20, .ref 1, un]) cf_Ac_takeBack rfl (Nat.le_of_ble_eq_true rfl) (fun X hX hF => ?_)
  refine g_aload0 hX d_Ac_takeBack_0 ?_
  refine g_getI hX d_Ac_takeBack_1 fl_Ac_24 (lv_20 _) ?_
  refine g_topi hG.2.2.2.1 ?_
  refine g_if_gt hX d_Ac_takeBack_4 (fun h => absurd h (by decide)) (fun c0 => ?_)
  refine g_bipush (v := -3) hX d_Ac_takeBack_7 rfl ?_
  refine g_iret hX hF d_Ac_takeBack_9 (by omega) (by omega) ?_
  exact ⟨rfl, rfl⟩
theorem c_Ac_takeBack {E : EV} {w : Mem} {g : GC} {u : List (Nat × Snap)} {q : Nat × Snap} {l : Nat} (hG : DG w g u) (hl : u.length = l + 1) (hq : u[l]? = some q) : T E m_Ac_takeBack 3 0 0 [.ref 20, .ref 1] w (fun r w2 => r = some (.int (nI q.1)) ∧ DG w2 (unsnap g q.2) u.dropLast ∧ FrAb w w2) := by
  refine T_of (L := [.ref 20, .ref 1, un]) cf_Ac_takeBack rfl (Nat.le_of_ble_eq_true rfl) (fun X hX hF => ?_)
  obtain ⟨hR, hW, hA⟩ := id hG
  have hul := hA.1
  have hn := hW.n
  have hv := hW.v
  obtain ⟨hq4, hs2, hd, hWq⟩ := hA.2.2 l q hq
  have hnx : nxS g u l = snapOf g := by
    unfold nxS
    rw [List.getElem?_eq_none (by omega)]
  rw [hnx] at hd
  have hms : q.1 = 0 ∨ q.1 = 1 ∨ q.1 = 2 ∨ q.1 = 3 := by omega
  rcases hms with hm | hm | hm | hm
  · rw [hm] at hd
    obtain ⟨a, c, d1, d2, d3, d4, d5, d6, d7⟩ := hd
    refine g_aload0 hX d_Ac_takeBack_0 ?_
    refine g_getI hX d_Ac_takeBack_1 fl_Ac_24 (lv_20 _) ?_
    refine g_topi hA.2.1 ?_
    refine g_if_gt hX d_Ac_takeBack_4 (fun c0 => ?_) (fun h => absurd (nI_gt0 (show 0 < u.length by omega) (by omega)) h)
    refine g_aload0 hX d_Ac_takeBack_10 ?_
    refine g_dup hX d_Ac_takeBack_11 rfl ?_
    refine g_getI hX d_Ac_takeBack_12 fl_Ac_24 (lv_20 _) ?_
    refine g_topi (show rI w 20 0 = nI (l + 1) by rw [hA.2.1, hl]) ?_
    refine g_iconst (v := nI 1) hX d_Ac_takeBack_15 rfl ?_
    refine g_isubN hX d_Ac_takeBack_16 (by omega) ?_
    refine g_topi (show nI (l + 1 - 1) = nI l from rfl) ?_
    refine g_putI hX d_Ac_takeBack_17 fl_Ac_24 (lv_20 _) ?_
    refine g_aload0 hX d_Ac_takeBack_20 ?_
    refine g_getF hX d_Ac_takeBack_21 fl_Ac_15 (lv_20 _) ?_
    refine g_aload0 hX d_Ac_takeBack_24 ?_
    refine g_getI hX d_Ac_takeBack_25 fl_Ac_24 (lv_20 _) ?_
    refine g_topi (show rI (sI w 20 0 (nI l)) 20 0 = nI l by rw [rI_sI, upd_eq, if_pos rfl]) ?_
    refine g_iald hX d_Ac_takeBack_28 (lv_22 _) rfl (by omega) ?_
    refine g_topi (show rI (sI w 20 0 (nI l)) 22 l = nI a by rw [rI_sI_ne _ _ _ (by decide)]; exact d1) ?_
    refine g_istore2 hX d_Ac_takeBack_29 rfl (by decide) ?_
    refine g_aload0 hX d_Ac_takeBack_30 ?_
    refine g_getF hX d_Ac_takeBack_31 fl_Ac_11 (lv_20 _) ?_
    refine g_aload0 hX d_Ac_takeBack_34 ?_
    refine g_getI hX d_Ac_takeBack_35 fl_Ac_24 (lv_20 _) ?_
    refine g_topi (show rI (sI w 20 0 (nI l)) 20 0 = nI l by rw [rI_sI, upd_eq, if_pos rfl]) ?_
    refine g_iald hX d_Ac_takeBack_38 (lv_21 _) rfl (by omega) ?_
    refine g_topi (show rI (sI w 20 0 (nI l)) 21 l = nI 0 by rw [rI_sI_ne _ _ _ (by decide)]; exact (by rw [hs2, hm])) ?_
    refine g_tableIn (off := 25) (tgt := 64) hX d_Ac_takeBack_39 (by decide) (by decide) rfl rfl ?_
    refine g_aload0 hX d_Ac_takeBack_64 ?_
    refine g_aload1 hX d_Ac_takeBack_65 ?_
    refine g_iload2 hX d_Ac_takeBack_66 ?_
    refine g_aload0 hX d_Ac_takeBack_67 ?_
    refine g_getF hX d_Ac_takeBack_68 fl_Ac_18 (lv_20 _) ?_
    refine g_aload0 hX d_Ac_takeBack_71 ?_
    refine g_getI hX d_Ac_takeBack_72 fl_Ac_24 (lv_20 _) ?_
    refine g_topi (show rI (sI w 20 0 (nI l)) 20 0 = nI l by rw [rI_sI, upd_eq, if_pos rfl]) ?_
    refine g_iald hX d_Ac_takeBack_75 (lv_23 _) rfl (by omega) ?_
    refine g_topi (show rI (sI w 20 0 (nI l)) 23 l = nI c by rw [rI_sI_ne _ _ _ (by decide)]; exact d2) ?_
    refine g_aload0 hX d_Ac_takeBack_76 ?_
    refine g_getF hX d_Ac_takeBack_77 fl_Ac_21 (lv_20 _) ?_
    refine g_aload0 hX d_Ac_takeBack_80 ?_
    refine g_getI hX d_Ac_takeBack_81 fl_Ac_24 (lv_20 _) ?_
    refine g_topi (show rI (sI w 20 0 (nI l)) 20 0 = nI l by rw [rI_sI, upd_eq, if_pos rfl]) ?_
    refine g_iald hX d_Ac_takeBack_84 (lv_24 _) rfl (by omega) ?_
    refine g_topi (show rI (sI w 20 0 (nI l)) 24 l = rI w 24 l by rw [rI_sI_ne _ _ _ (by decide)]) ?_
    refine g_callV (As := [_, _, _, _]) hX hF.1 d_Ac_takeBack_85 ml_Ac_67 cf_Ac_takeBackJoin cv_Ac_takeBackJoin rfl rfl (c_Ac_takeBackJoin (w := (sI w 20 0 (nI l))) (s := q.2) (show BRow (sI w 20 0 (nI l)) 1 g from hR.fr (fun o h1 h2 => rI_sI_ne _ _ _ (by omega))) hW d3 d4 d5 d6 hWq.ed hWq.el d7) (rcv_obj hX (lv_20 _) rfl rfl) (by omega) (by omega) (by omega) (Nat.le_of_ble_eq_true rfl) ?_
    rintro _ w1 ⟨rfl, hB1, hf1⟩
    show G0 _ _ _ _ _ _ _ _
    refine g_goto hX d_Ac_takeBack_88 ?_
    refine g_aload0 hX d_Ac_takeBack_141 ?_
    refine g_getF hX d_Ac_takeBack_142 fl_Ac_11 (lv_20 _) ?_
    refine g_aload0 hX d_Ac_takeBack_145 ?_
    refine g_getI hX d_Ac_takeBack_146 fl_Ac_24 (lv_20 _) ?_
    refine g_topi (show rI w1 20 0 = nI l by rw [hf1.1 20 (by decide), rI_sI, upd_eq, if_pos rfl]) ?_
    refine g_iald hX d_Ac_takeBack_149 (lv_21 _) rfl (by omega) ?_
    refine g_topi (show rI w1 21 l = nI q.1 by rw [hf1.1 21 (by decide), rI_sI_ne _ _ _ (by decide)]; exact hs2) ?_
    refine g_iret hX hF d_Ac_takeBack_150 (by omega) (by omega) ?_
    refine ⟨rfl, ⟨hB1, hWq, ?_⟩, ?_⟩
    · exact hA.pop hl hq (by rw [hf1.1 20 (by decide), rI_sI, upd_eq, if_pos rfl]) (fun o h1 h2 => by rw [hf1.1 o (by omega), rI_sI_ne _ _ _ (by omega)])
    · exact ((FrAb.rf w).I (by omega)).tr hf1.Ab
  · rw [hm] at hd
    obtain ⟨a, c, d1, d2, d3, d4, d5, d6⟩ := hd
    refine g_aload0 hX d_Ac_takeBack_0 ?_
    refine g_getI hX d_Ac_takeBack_1 fl_Ac_24 (lv_20 _) ?_
    refine g_topi hA.2.1 ?_
    refine g_if_gt hX d_Ac_takeBack_4 (fun c0 => ?_) (fun h => absurd (nI_gt0 (show 0 < u.length by omega) (by omega)) h)
    refine g_aload0 hX d_Ac_takeBack_10 ?_
    refine g_dup hX d_Ac_takeBack_11 rfl ?_
    refine g_getI hX d_Ac_takeBack_12 fl_Ac_24 (lv_20 _) ?_
    refine g_topi (show rI w 20 0 = nI (l + 1) by rw [hA.2.1, hl]) ?_
    refine g_iconst (v := nI 1) hX d_Ac_takeBack_15 rfl ?_
    refine g_isubN hX d_Ac_takeBack_16 (by omega) ?_
    refine g_topi (show nI (l + 1 - 1) = nI l from rfl) ?_
    refine g_putI hX d_Ac_takeBack_17 fl_Ac_24 (lv_20 _) ?_
    refine g_aload0 hX d_Ac_takeBack_20 ?_
    refine g_getF hX d_Ac_takeBack_21 fl_Ac_15 (lv_20 _) ?_
    refine g_aload0 hX d_Ac_takeBack_24 ?_
    refine g_getI hX d_Ac_takeBack_25 fl_Ac_24 (lv_20 _) ?_
    refine g_topi (show rI (sI w 20 0 (nI l)) 20 0 = nI l by rw [rI_sI, upd_eq, if_pos rfl]) ?_
    refine g_iald hX d_Ac_takeBack_28 (lv_22 _) rfl (by omega) ?_
    refine g_topi (show rI (sI w 20 0 (nI l)) 22 l = nI a by rw [rI_sI_ne _ _ _ (by decide)]; exact d1) ?_
    refine g_istore2 hX d_Ac_takeBack_29 rfl (by decide) ?_
    refine g_aload0 hX d_Ac_takeBack_30 ?_
    refine g_getF hX d_Ac_takeBack_31 fl_Ac_11 (lv_20 _) ?_
    refine g_aload0 hX d_Ac_takeBack_34 ?_
    refine g_getI hX d_Ac_takeBack_35 fl_Ac_24 (lv_20 _) ?_
    refine g_topi (show rI (sI w 20 0 (nI l)) 20 0 = nI l by rw [rI_sI, upd_eq, if_pos rfl]) ?_
    refine g_iald hX d_Ac_takeBack_38 (lv_21 _) rfl (by omega) ?_
    refine g_topi (show rI (sI w 20 0 (nI l)) 21 l = nI 1 by rw [rI_sI_ne _ _ _ (by decide)]; exact (by rw [hs2, hm])) ?_
    refine g_tableIn (off := 52) (tgt := 91) hX d_Ac_takeBack_39 (by decide) (by decide) rfl rfl ?_
    refine g_aload1 hX d_Ac_takeBack_91 ?_
    refine g_iload2 hX d_Ac_takeBack_92 ?_
    refine g_aload0 hX d_Ac_takeBack_93 ?_
    refine g_getF hX d_Ac_takeBack_94 fl_Ac_18 (lv_20 _) ?_
    refine g_aload0 hX d_Ac_takeBack_97 ?_
    refine g_getI hX d_Ac_takeBack_98 fl_Ac_24 (lv_20 _) ?_
    refine g_topi (show rI (sI w 20 0 (nI l)) 20 0 = nI l by rw [rI_sI, upd_eq, if_pos rfl]) ?_
    refine g_iald hX d_Ac_takeBack_101 (lv_23 _) rfl (by omega) ?_
    refine g_topi (show rI (sI w 20 0 (nI l)) 23 l = nI c by rw [rI_sI_ne _ _ _ (by decide)]; exact d2) ?_
    refine g_callV (As := [_, _]) hX hF.1 d_Ac_takeBack_102 ml_Ac_54 cf_Bo_toggleLink cv_Bo_toggleLink rfl rfl (c_Bo_toggleLink (w := (sI w 20 0 (nI l))) (show IsBo 1 from Or.inl rfl) (show BRow (sI w 20 0 (nI l)) 1 g from hR.fr (fun o h1 h2 => rI_sI_ne _ _ _ (by omega))) hW d3 d4 d5) (rcv_obj hX (lv_1 _) rfl rfl) (by omega) (by omega) (by omega) (Nat.le_of_ble_eq_true rfl) ?_
    rintro _ w1 ⟨rfl, hB1, hf1⟩
    rw [un_link d6 d5] at hB1
    show G0 _ _ _ _ _ _ _ _
    refine g_goto hX d_Ac_takeBack_105 ?_
    refine g_aload0 hX d_Ac_takeBack_141 ?_
    refine g_getF hX d_Ac_takeBack_142 fl_Ac_11 (lv_20 _) ?_
    refine g_aload0 hX d_Ac_takeBack_145 ?_
    refine g_getI hX d_Ac_takeBack_146 fl_Ac_24 (lv_20 _) ?_
    refine g_topi (show rI w1 20 0 = nI l by rw [hf1.1 20 (by decide), rI_sI, upd_eq, if_pos rfl]) ?_
    refine g_iald hX d_Ac_takeBack_149 (lv_21 _) rfl (by omega) ?_
    refine g_topi (show rI w1 21 l = nI q.1 by rw [hf1.1 21 (by decide), rI_sI_ne _ _ _ (by decide)]; exact hs2) ?_
    refine g_iret hX hF d_Ac_takeBack_150 (by omega) (by omega) ?_
    refine ⟨rfl, ⟨hB1, hWq, ?_⟩, ?_⟩
    · exact hA.pop hl hq (by rw [hf1.1 20 (by decide), rI_sI, upd_eq, if_pos rfl]) (fun o h1 h2 => by rw [hf1.1 o (by omega), rI_sI_ne _ _ _ (by omega)])
    · exact ((FrAb.rf w).I (by omega)).tr hf1.Ab
  · rw [hm] at hd
    obtain ⟨k, c, d1, d2, d3, d4⟩ := hd
    refine g_aload0 hX d_Ac_takeBack_0 ?_
    refine g_getI hX d_Ac_takeBack_1 fl_Ac_24 (lv_20 _) ?_
    refine g_topi hA.2.1 ?_
    refine g_if_gt hX d_Ac_takeBack_4 (fun c0 => ?_) (fun h => absurd (nI_gt0 (show 0 < u.length by omega) (by omega)) h)
    refine g_aload0 hX d_Ac_takeBack_10 ?_
    refine g_dup hX d_Ac_takeBack_11 rfl ?_
    refine g_getI hX d_Ac_takeBack_12 fl_Ac_24 (lv_20 _) ?_
    refine g_topi (show rI w 20 0 = nI (l + 1) by rw [hA.2.1, hl]) ?_
    refine g_iconst (v := nI 1) hX d_Ac_takeBack_15 rfl ?_
    refine g_isubN hX d_Ac_takeBack_16 (by omega) ?_
    refine g_topi (show nI (l + 1 - 1) = nI l from rfl) ?_
    refine g_putI hX d_Ac_takeBack_17 fl_Ac_24 (lv_20 _) ?_
    refine g_aload0 hX d_Ac_takeBack_20 ?_
    refine g_getF hX d_Ac_takeBack_21 fl_Ac_15 (lv_20 _) ?_
    refine g_aload0 hX d_Ac_takeBack_24 ?_
    refine g_getI hX d_Ac_takeBack_25 fl_Ac_24 (lv_20 _) ?_
    refine g_topi (show rI (sI w 20 0 (nI l)) 20 0 = nI l by rw [rI_sI, upd_eq, if_pos rfl]) ?_
    refine g_iald hX d_Ac_takeBack_28 (lv_22 _) rfl (by omega) ?_
    refine g_topi (show rI (sI w 20 0 (nI l)) 22 l = nI k by rw [rI_sI_ne _ _ _ (by decide)]; exact d1) ?_
    refine g_istore2 hX d_Ac_takeBack_29 rfl (by decide) ?_
    refine g_aload0 hX d_Ac_takeBack_30 ?_
    refine g_getF hX d_Ac_takeBack_31 fl_Ac_11 (lv_20 _) ?_
    refine g_aload0 hX d_Ac_takeBack_34 ?_
    refine g_getI hX d_Ac_takeBack_35 fl_Ac_24 (lv_20 _) ?_
    refine g_topi (show rI (sI w 20 0 (nI l)) 20 0 = nI l by rw [rI_sI, upd_eq, if_pos rfl]) ?_
    refine g_iald hX d_Ac_takeBack_38 (lv_21 _) rfl (by omega) ?_
    refine g_topi (show rI (sI w 20 0 (nI l)) 21 l = nI 2 by rw [rI_sI_ne _ _ _ (by decide)]; exact (by rw [hs2, hm])) ?_
    refine g_tableIn (off := 69) (tgt := 108) hX d_Ac_takeBack_39 (by decide) (by decide) rfl rfl ?_
    refine g_aload1 hX d_Ac_takeBack_108 ?_
    refine g_getF hX d_Ac_takeBack_109 fl_Ac_61 (lv_1 _) ?_
    refine g_iload2 hX d_Ac_takeBack_112 ?_
    refine g_aload0 hX d_Ac_takeBack_113 ?_
    refine g_getF hX d_Ac_takeBack_114 fl_Ac_21 (lv_20 _) ?_
    refine g_aload0 hX d_Ac_takeBack_117 ?_
    refine g_getI hX d_Ac_takeBack_118 fl_Ac_24 (lv_20 _) ?_
    refine g_topi (show rI (sI w 20 0 (nI l)) 20 0 = nI l by rw [rI_sI, upd_eq, if_pos rfl]) ?_
    refine g_iald hX d_Ac_takeBack_121 (lv_24 _) rfl (by omega) ?_
    refine g_topi (show rI (sI w 20 0 (nI l)) 24 l = nI (q.2.2.1 k) by rw [rI_sI_ne _ _ _ (by decide)]; exact d4) ?_
    refine g_iast hX d_Ac_takeBack_122 (lv_2 _) rfl (by omega) ?_
    refine g_goto hX d_Ac_takeBack_123 ?_
    obtain ⟨w1, hw1⟩ : ∃ w1, sI (sI w 20 0 (nI l)) (1 + 1) k (nI (q.2.2.1 k)) = w1 := ⟨_, rfl⟩
    have hB1 : BRow w1 1 (unsnap g q.2) := by
      rw [← hw1, ← un_paint d3]
      exact BRow.paint (show BRow (sI w 20 0 (nI l)) 1 g from hR.fr (fun o h1 h2 => rI_sI_ne _ _ _ (by omega)))
    have hf1 : FrBo 1 (sI w 20 0 (nI l)) w1 := by rw [← hw1]; exact (FrBo.rf 1 _).I (by omega)
    refine g_mem hw1 ?_
    refine g_aload0 hX d_Ac_takeBack_141 ?_
    refine g_getF hX d_Ac_takeBack_142 fl_Ac_11 (lv_20 _) ?_
    refine g_aload0 hX d_Ac_takeBack_145 ?_
    refine g_getI hX d_Ac_takeBack_146 fl_Ac_24 (lv_20 _) ?_
    refine g_topi (show rI w1 20 0 = nI l by rw [hf1.1 20 (by decide), rI_sI, upd_eq, if_pos rfl]) ?_
    refine g_iald hX d_Ac_takeBack_149 (lv_21 _) rfl (by omega) ?_
    refine g_topi (show rI w1 21 l = nI q.1 by rw [hf1.1 21 (by decide), rI_sI_ne _ _ _ (by decide)]; exact hs2) ?_
    refine g_iret hX hF d_Ac_takeBack_150 (by omega) (by omega) ?_
    refine ⟨rfl, ⟨hB1, hWq, ?_⟩, ?_⟩
    · exact hA.pop hl hq (by rw [hf1.1 20 (by decide), rI_sI, upd_eq, if_pos rfl]) (fun o h1 h2 => by rw [hf1.1 o (by omega), rI_sI_ne _ _ _ (by omega)])
    · exact ((FrAb.rf w).I (by omega)).tr hf1.Ab
  · rw [hm] at hd
    obtain ⟨k, c, d1, d2, d3, d4⟩ := hd
    refine g_aload0 hX d_Ac_takeBack_0 ?_
    refine g_getI hX d_Ac_takeBack_1 fl_Ac_24 (lv_20 _) ?_
    refine g_topi hA.2.1 ?_
    refine g_if_gt hX d_Ac_takeBack_4 (fun c0 => ?_) (fun h => absurd (nI_gt0 (show 0 < u.length by omega) (by omega)) h)
    refine g_aload0 hX d_Ac_takeBack_10 ?_
    refine g_dup hX d_Ac_takeBack_11 rfl ?_
    refine g_getI hX d_Ac_takeBack_12 fl_Ac_24 (lv_20 _) ?_
    refine g_topi (show rI w 20 0 = nI (l + 1) by rw [hA.2.1, hl]) ?_
    refine g_iconst (v := nI 1) hX d_Ac_takeBack_15 rfl ?_
    refine g_isubN hX d_Ac_takeBack_16 (by omega) ?_
    refine g_topi (show nI (l + 1 - 1) = nI l from rfl) ?_
    refine g_putI hX d_Ac_takeBack_17 fl_Ac_24 (lv_20 _) ?_
    refine g_aload0 hX d_Ac_takeBack_20 ?_
    refine g_getF hX d_Ac_takeBack_21 fl_Ac_15 (lv_20 _) ?_
    refine g_aload0 hX d_Ac_takeBack_24 ?_
    refine g_getI hX d_Ac_takeBack_25 fl_Ac_24 (lv_20 _) ?_
    refine g_topi (show rI (sI w 20 0 (nI l)) 20 0 = nI l by rw [rI_sI, upd_eq, if_pos rfl]) ?_
    refine g_iald hX d_Ac_takeBack_28 (lv_22 _) rfl (by omega) ?_
    refine g_topi (show rI (sI w 20 0 (nI l)) 22 l = nI k by rw [rI_sI_ne _ _ _ (by decide)]; exact d1) ?_
    refine g_istore2 hX d_Ac_takeBack_29 rfl (by decide) ?_
    refine g_aload0 hX d_Ac_takeBack_30 ?_
    refine g_getF hX d_Ac_takeBack_31 fl_Ac_11 (lv_20 _) ?_
    refine g_aload0 hX d_Ac_takeBack_34 ?_
    refine g_getI hX d_Ac_takeBack_35 fl_Ac_24 (lv_20 _) ?_
    refine g_topi (show rI (sI w 20 0 (nI l)) 20 0 = nI l by rw [rI_sI, upd_eq, if_pos rfl]) ?_
    refine g_iald hX d_Ac_takeBack_38 (lv_21 _) rfl (by omega) ?_
    refine g_topi (show rI (sI w 20 0 (nI l)) 21 l = nI 3 by rw [rI_sI_ne _ _ _ (by decide)]; exact (by rw [hs2, hm])) ?_
    refine g_tableOut (tgt := 126) hX d_Ac_takeBack_39 (Or.inr (by decide)) rfl ?_
    refine g_aload1 hX d_Ac_takeBack_126 ?_
    refine g_getF hX d_Ac_takeBack_127 fl_Ac_64 (lv_1 _) ?_
    refine g_iload2 hX d_Ac_takeBack_130 ?_
    refine g_aload0 hX d_Ac_takeBack_131 ?_
    refine g_getF hX d_Ac_takeBack_132 fl_Ac_21 (lv_20 _) ?_
    refine g_aload0 hX d_Ac_takeBack_135 ?_
    refine g_getI hX d_Ac_takeBack_136 fl_Ac_24 (lv_20 _) ?_
    refine g_topi (show rI (sI w 20 0 (nI l)) 20 0 = nI l by rw [rI_sI, upd_eq, if_pos rfl]) ?_
    refine g_iald hX d_Ac_takeBack_139 (lv_24 _) rfl (by omega) ?_
    refine g_topi (show rI (sI w 20 0 (nI l)) 24 l = nI (q.2.2.2.1 k) by rw [rI_sI_ne _ _ _ (by decide)]; exact d4) ?_
    refine g_iast hX d_Ac_takeBack_140 (lv_5 _) rfl (by omega) ?_
    obtain ⟨w1, hw1⟩ : ∃ w1, sI (sI w 20 0 (nI l)) (1 + 4) k (nI (q.2.2.2.1 k)) = w1 := ⟨_, rfl⟩
    have hB1 : BRow w1 1 (unsnap g q.2) := by
      rw [← hw1, ← un_dye d3]
      exact BRow.dye (show BRow (sI w 20 0 (nI l)) 1 g from hR.fr (fun o h1 h2 => rI_sI_ne _ _ _ (by omega)))
    have hf1 : FrBo 1 (sI w 20 0 (nI l)) w1 := by rw [← hw1]; exact (FrBo.rf 1 _).I (by omega)
    refine g_mem hw1 ?_
    refine g_aload0 hX d_Ac_takeBack_141 ?_
    refine g_getF hX d_Ac_takeBack_142 fl_Ac_11 (lv_20 _) ?_
    refine g_aload0 hX d_Ac_takeBack_145 ?_
    refine g_getI hX d_Ac_takeBack_146 fl_Ac_24 (lv_20 _) ?_
    refine g_topi (show rI w1 20 0 = nI l by rw [hf1.1 20 (by decide), rI_sI, upd_eq, if_pos rfl]) ?_
    refine g_iald hX d_Ac_takeBack_149 (lv_21 _) rfl (by omega) ?_
    refine g_topi (show rI w1 21 l = nI q.1 by rw [hf1.1 21 (by decide), rI_sI_ne _ _ _ (by decide)]; exact hs2) ?_
    refine g_iret hX hF d_Ac_takeBack_150 (by omega) (by omega) ?_
    refine ⟨rfl, ⟨hB1, hWq, ?_⟩, ?_⟩
    · exact hA.pop hl hq (by rw [hf1.1 20 (by decide), rI_sI, upd_eq, if_pos rfl]) (fun o h1 h2 => by rw [hf1.1 o (by omega), rI_sI_ne _ _ _ (by omega)])
    · exact ((FrAb.rf w).I (by omega)).tr hf1.Ab
