def m_M_dye : MR := (⟨"SubgraphDeskModel", "dye", "(II)I"⟩, prog_14_method_80_code, 3, (some .int))
theorem cf_M_dye : CF m_M_dye 2 := ⟨gd 1999 (by decide +kernel) rfl, gd 151 (by decide +kernel) rfl, by decide +kernel, by decide, by decide +kernel⟩
theorem cv_M_dye : CV m_M_dye := ⟨gd 1997 (by decide +kernel) rfl, gd 1998 (by decide +kernel) rfl⟩
def m_M_edge : MR := (⟨"SubgraphDeskModel", "edge", "(II)I"⟩, prog_14_method_73_code, 3, (some .int))
theorem cf_M_edge : CF m_M_edge 2 := ⟨gd 1963 (by decide +kernel) rfl, gd 151 (by decide +kernel) rfl, by decide +kernel, by decide, by decide +kernel⟩
theorem cv_M_edge : CV m_M_edge := ⟨gd 1961 (by decide +kernel) rfl, gd 1962 (by decide +kernel) rfl⟩
def m_M_link : MR := (⟨"SubgraphDeskModel", "link", "(II)I"⟩, prog_14_method_75_code, 3, (some .int))
theorem cf_M_link : CF m_M_link 2 := ⟨gd 1979 (by decide +kernel) rfl, gd 151 (by decide +kernel) rfl, by decide +kernel, by decide, by decide +kernel⟩
theorem cv_M_link : CV m_M_link := ⟨gd 1977 (by decide +kernel) rfl, gd 1978 (by decide +kernel) rfl⟩
def m_M_paint : MR := (⟨"SubgraphDeskModel", "paint", "(II)I"⟩, prog_14_method_78_code, 3, (some .int))
theorem cf_M_paint : CF m_M_paint 2 := ⟨gd 1987 (by decide +kernel) rfl, gd 151 (by decide +kernel) rfl, by decide +kernel, by decide, by decide +kernel⟩
theorem cv_M_paint : CV m_M_paint := ⟨gd 1985 (by decide +kernel) rfl, gd 1986 (by decide +kernel) rfl⟩
def m_M_undo : MR := (⟨"SubgraphDeskModel", "undo", "()I"⟩, prog_14_method_13_code, 1, (some .int))
theorem cf_M_undo : CF m_M_undo 0 := ⟨gd 1684 (by decide +kernel) rfl, gd 151 (by decide +kernel) rfl, by decide +kernel, by decide, by decide +kernel⟩
theorem cv_M_undo : CV m_M_undo := ⟨gd 1682 (by decide +kernel) rfl, gd 1683 (by decide +kernel) rfl⟩
theorem d_M_dye_0 : Dc prog_14_method_80_code 0 (.aload_n 0) 1 1 := ⟨by decide +kernel, rfl⟩
theorem d_M_dye_1 : Dc prog_14_method_80_code 1 (.iconst 0) 1 2 := ⟨by decide +kernel, rfl⟩
theorem d_M_dye_2 : Dc prog_14_method_80_code 2 (.putfield 170) 3 5 := ⟨by decide +kernel, rfl⟩
theorem d_M_dye_5 : Dc prog_14_method_80_code 5 (.aload_n 0) 1 6 := ⟨by decide +kernel, rfl⟩
theorem d_M_dye_6 : Dc prog_14_method_80_code 6 (.aload_n 0) 1 7 := ⟨by decide +kernel, rfl⟩
theorem d_M_dye_7 : Dc prog_14_method_80_code 7 (.iload_n 1) 1 8 := ⟨by decide +kernel, rfl⟩
theorem d_M_dye_8 : Dc prog_14_method_80_code 8 (.iload_n 2) 1 9 := ⟨by decide +kernel, rfl⟩
theorem d_M_dye_9 : Dc prog_14_method_80_code 9 (.invokevirtual 459) 3 12 := ⟨by decide +kernel, rfl⟩
theorem d_M_dye_12 : Dc prog_14_method_80_code 12 (.invokevirtual 179) 3 15 := ⟨by decide +kernel, rfl⟩
theorem d_M_dye_15 : Dc prog_14_method_80_code 15 (.ireturn) 1 16 := ⟨by decide +kernel, rfl⟩
theorem d_M_edge_0 : Dc prog_14_method_73_code 0 (.aload_n 0) 1 1 := ⟨by decide +kernel, rfl⟩
theorem d_M_edge_1 : Dc prog_14_method_73_code 1 (.iconst 0) 1 2 := ⟨by decide +kernel, rfl⟩
theorem d_M_edge_2 : Dc prog_14_method_73_code 2 (.putfield 170) 3 5 := ⟨by decide +kernel, rfl⟩
theorem d_M_edge_5 : Dc prog_14_method_73_code 5 (.aload_n 0) 1 6 := ⟨by decide +kernel, rfl⟩
theorem d_M_edge_6 : Dc prog_14_method_73_code 6 (.aload_n 0) 1 7 := ⟨by decide +kernel, rfl⟩
theorem d_M_edge_7 : Dc prog_14_method_73_code 7 (.iload_n 1) 1 8 := ⟨by decide +kernel, rfl⟩
theorem d_M_edge_8 : Dc prog_14_method_73_code 8 (.iload_n 2) 1 9 := ⟨by decide +kernel, rfl⟩
theorem d_M_edge_9 : Dc prog_14_method_73_code 9 (.invokevirtual 446) 3 12 := ⟨by decide +kernel, rfl⟩
theorem d_M_edge_12 : Dc prog_14_method_73_code 12 (.invokevirtual 179) 3 15 := ⟨by decide +kernel, rfl⟩
theorem d_M_edge_15 : Dc prog_14_method_73_code 15 (.ireturn) 1 16 := ⟨by decide +kernel, rfl⟩
theorem d_M_link_0 : Dc prog_14_method_75_code 0 (.aload_n 0) 1 1 := ⟨by decide +kernel, rfl⟩
theorem d_M_link_1 : Dc prog_14_method_75_code 1 (.iconst 0) 1 2 := ⟨by decide +kernel, rfl⟩
theorem d_M_link_2 : Dc prog_14_method_75_code 2 (.putfield 170) 3 5 := ⟨by decide +kernel, rfl⟩
theorem d_M_link_5 : Dc prog_14_method_75_code 5 (.aload_n 0) 1 6 := ⟨by decide +kernel, rfl⟩
theorem d_M_link_6 : Dc prog_14_method_75_code 6 (.aload_n 0) 1 7 := ⟨by decide +kernel, rfl⟩
theorem d_M_link_7 : Dc prog_14_method_75_code 7 (.iload_n 1) 1 8 := ⟨by decide +kernel, rfl⟩
theorem d_M_link_8 : Dc prog_14_method_75_code 8 (.iload_n 2) 1 9 := ⟨by decide +kernel, rfl⟩
theorem d_M_link_9 : Dc prog_14_method_75_code 9 (.invokevirtual 449) 3 12 := ⟨by decide +kernel, rfl⟩
theorem d_M_link_12 : Dc prog_14_method_75_code 12 (.invokevirtual 179) 3 15 := ⟨by decide +kernel, rfl⟩
theorem d_M_link_15 : Dc prog_14_method_75_code 15 (.ireturn) 1 16 := ⟨by decide +kernel, rfl⟩
theorem d_M_paint_0 : Dc prog_14_method_78_code 0 (.aload_n 0) 1 1 := ⟨by decide +kernel, rfl⟩
theorem d_M_paint_1 : Dc prog_14_method_78_code 1 (.iconst 0) 1 2 := ⟨by decide +kernel, rfl⟩
theorem d_M_paint_2 : Dc prog_14_method_78_code 2 (.putfield 170) 3 5 := ⟨by decide +kernel, rfl⟩
theorem d_M_paint_5 : Dc prog_14_method_78_code 5 (.aload_n 0) 1 6 := ⟨by decide +kernel, rfl⟩
theorem d_M_paint_6 : Dc prog_14_method_78_code 6 (.aload_n 0) 1 7 := ⟨by decide +kernel, rfl⟩
theorem d_M_paint_7 : Dc prog_14_method_78_code 7 (.iload_n 1) 1 8 := ⟨by decide +kernel, rfl⟩
theorem d_M_paint_8 : Dc prog_14_method_78_code 8 (.iload_n 2) 1 9 := ⟨by decide +kernel, rfl⟩
theorem d_M_paint_9 : Dc prog_14_method_78_code 9 (.invokevirtual 456) 3 12 := ⟨by decide +kernel, rfl⟩
theorem d_M_paint_12 : Dc prog_14_method_78_code 12 (.invokevirtual 179) 3 15 := ⟨by decide +kernel, rfl⟩
theorem d_M_paint_15 : Dc prog_14_method_78_code 15 (.ireturn) 1 16 := ⟨by decide +kernel, rfl⟩
theorem d_M_undo_0 : Dc prog_14_method_13_code 0 (.aload_n 0) 1 1 := ⟨by decide +kernel, rfl⟩
theorem d_M_undo_1 : Dc prog_14_method_13_code 1 (.iconst 0) 1 2 := ⟨by decide +kernel, rfl⟩
theorem d_M_undo_2 : Dc prog_14_method_13_code 2 (.putfield 170) 3 5 := ⟨by decide +kernel, rfl⟩
theorem d_M_undo_5 : Dc prog_14_method_13_code 5 (.aload_n 0) 1 6 := ⟨by decide +kernel, rfl⟩
theorem d_M_undo_6 : Dc prog_14_method_13_code 6 (.getfield 176) 3 9 := ⟨by decide +kernel, rfl⟩
theorem d_M_undo_9 : Dj prog_14_method_13_code 9 (.ifCond .ne 10) 12 10 19 := ⟨by decide +kernel, rfl, rfl⟩
theorem d_M_undo_12 : Dc prog_14_method_13_code 12 (.aload_n 0) 1 13 := ⟨by decide +kernel, rfl⟩
theorem d_M_undo_13 : Dc prog_14_method_13_code 13 (.bipush (-3)) 2 15 := ⟨by decide +kernel, rfl⟩
theorem d_M_undo_15 : Dc prog_14_method_13_code 15 (.invokevirtual 179) 3 18 := ⟨by decide +kernel, rfl⟩
theorem d_M_undo_18 : Dc prog_14_method_13_code 18 (.ireturn) 1 19 := ⟨by decide +kernel, rfl⟩
theorem d_M_undo_19 : Dc prog_14_method_13_code 19 (.aload_n 0) 1 20 := ⟨by decide +kernel, rfl⟩
theorem d_M_undo_20 : Dc prog_14_method_13_code 20 (.dup) 1 21 := ⟨by decide +kernel, rfl⟩
theorem d_M_undo_21 : Dc prog_14_method_13_code 21 (.getfield 176) 3 24 := ⟨by decide +kernel, rfl⟩
theorem d_M_undo_24 : Dc prog_14_method_13_code 24 (.iconst 1) 1 25 := ⟨by decide +kernel, rfl⟩
theorem d_M_undo_25 : Dc prog_14_method_13_code 25 (.isub) 1 26 := ⟨by decide +kernel, rfl⟩
theorem d_M_undo_26 : Dc prog_14_method_13_code 26 (.putfield 176) 3 29 := ⟨by decide +kernel, rfl⟩
theorem d_M_undo_29 : Dc prog_14_method_13_code 29 (.aload_n 0) 1 30 := ⟨by decide +kernel, rfl⟩
theorem d_M_undo_30 : Dc prog_14_method_13_code 30 (.aload_n 0) 1 31 := ⟨by decide +kernel, rfl⟩
theorem d_M_undo_31 : Dc prog_14_method_13_code 31 (.getfield 176) 3 34 := ⟨by decide +kernel, rfl⟩
theorem d_M_undo_34 : Dc prog_14_method_13_code 34 (.invokevirtual 187) 3 37 := ⟨by decide +kernel, rfl⟩
theorem d_M_undo_37 : Dc prog_14_method_13_code 37 (.aload_n 0) 1 38 := ⟨by decide +kernel, rfl⟩
theorem d_M_undo_38 : Dc prog_14_method_13_code 38 (.aload_n 0) 1 39 := ⟨by decide +kernel, rfl⟩
theorem d_M_undo_39 : Dc prog_14_method_13_code 39 (.getfield 26) 3 42 := ⟨by decide +kernel, rfl⟩
theorem d_M_undo_42 : Dc prog_14_method_13_code 42 (.aload_n 0) 1 43 := ⟨by decide +kernel, rfl⟩
theorem d_M_undo_43 : Dc prog_14_method_13_code 43 (.getfield 176) 3 46 := ⟨by decide +kernel, rfl⟩
theorem d_M_undo_46 : Dc prog_14_method_13_code 46 (.iaload) 1 47 := ⟨by decide +kernel, rfl⟩
theorem d_M_undo_47 : Dc prog_14_method_13_code 47 (.invokevirtual 179) 3 50 := ⟨by decide +kernel, rfl⟩
theorem d_M_undo_50 : Dc prog_14_method_13_code 50 (.ireturn) 1 51 := ⟨by decide +kernel, rfl⟩
theorem ml_M_187 : Cond.methodLink "SubgraphDeskModel" 187 m_M_putBack.1 ∈ lw_gd := gd 1689 (by decide +kernel) rfl
theorem ml_M_446 : Cond.methodLink "SubgraphDeskModel" 446 m_M_edgeNow.1 ∈ lw_gd := gd 1964 (by decide +kernel) rfl
theorem ml_M_449 : Cond.methodLink "SubgraphDeskModel" 449 m_M_linkNow.1 ∈ lw_gd := gd 1980 (by decide +kernel) rfl
theorem ml_M_456 : Cond.methodLink "SubgraphDeskModel" 456 m_M_paintNow.1 ∈ lw_gd := gd 1988 (by decide +kernel) rfl
theorem ml_M_459 : Cond.methodLink "SubgraphDeskModel" 459 m_M_dyeNow.1 ∈ lw_gd := gd 2000 (by decide +kernel) rfl
theorem act_neg {r : Act} (h : r.1 < 0) (s : SG) : byAct r s = sNo (tn (-r.1)) s := by unfold byAct; exact if_pos h
theorem act_pos {r : Act} (h : ¬ r.1 < 0) (s : SG) : byAct r s = sOk r.1 (wU (wG s r.2.1) r.2.2) := by unfold byAct; exact if_neg h
/-- what an act tells: refused by 1, 2, 3, and then nothing is changed; or not -/
def ActOK (r : Act) (g : GC) (u : List (Nat × Snap)) : Prop := (∃ k, 0 < k ∧ k < 4 ∧ r = (-(nI k), g, u)) ∨ (∃ v : Nat, v < 2 ^ 31 ∧ r.1 = nI v)
theorem b2i_nI (p : Prop) [Decidable p] : ∃ v : Nat, v < 2 ^ 31 ∧ b2i p = nI v := by
  rcases b2i_01 p with h | h
  · exact ⟨0, by decide, h⟩
  · exact ⟨1, by decide, h⟩
theorem aEdge_a (x y : Int32) (g : GC) (u : List (Nat × Snap)) : ActOK (aEdge x y g u) g u := by
  by_cases h1 : x = y
  · exact Or.inl ⟨1, by decide, by decide, aEdge_1 h1⟩
  · by_cases h2 : inN x (gN g) ∧ inN y (gN g)
    · rw [aEdge_ok h1 h2]; exact Or.inr (b2i_nI _)
    · exact Or.inl ⟨2, by decide, by decide, aEdge_2 h1 h2⟩
theorem aLink_a (x y : Int32) (g : GC) (u : List (Nat × Snap)) : ActOK (aLink x y g u) g u := by
  by_cases h1 : x = y
  · exact Or.inl ⟨1, by decide, by decide, aLink_1 h1⟩
  · by_cases h2 : inN x (gV g) ∧ inN y (gV g)
    · rw [aLink_ok h1 h2]; exact Or.inr (b2i_nI _)
    · exact Or.inl ⟨2, by decide, by decide, aLink_2 h1 h2⟩
theorem aPaint_a {g : GC} (hW : WG g) (x y : Int32) (u : List (Nat × Snap)) : ActOK (aPaint x y g u) g u := by
  have hn := hW.n
  by_cases h1 : inN y 6
  · by_cases h2 : inN x (gN g)
    · by_cases h3 : gC g (tn x) = tn y
      · exact Or.inl ⟨3, by decide, by decide, aPaint_3 h1 h2 h3⟩
      · rw [aPaint_ok h1 h2 h3]
        obtain ⟨j, hj, -, ht⟩ := inN_of h2 (by omega)
        have := hW.c j hj
        exact Or.inr ⟨gC g (tn x), by rw [ht]; omega, rfl⟩
    · exact Or.inl ⟨2, by decide, by decide, aPaint_2 h1 h2⟩
  · exact Or.inl ⟨1, by decide, by decide, aPaint_1 h1⟩
theorem aDye_a {g : GC} (hW : WG g) (x y : Int32) (u : List (Nat × Snap)) : ActOK (aDye x y g u) g u := by
  have hn := hW.v
  by_cases h1 : inN y 7
  · by_cases h2 : inN x (gV g)
    · by_cases h3 : gY g (tn x) = tn y
      · exact Or.inl ⟨3, by decide, by decide, aDye_3 h1 h2 h3⟩
      · rw [aDye_ok h1 h2 h3]
        obtain ⟨j, hj, -, ht⟩ := inN_of h2 (by omega)
        have := hW.y j hj
        exact Or.inr ⟨gY g (tn x), by rw [ht]; omega, rfl⟩
    · exact Or.inl ⟨2, by decide, by decide, aDye_2 h1 h2⟩
  · exact Or.inl ⟨1, by decide, by decide, aDye_1 h1⟩
theorem MInv.gu {w : Mem} {s : SG} (h : MInv w s) : MGU w (sG s) (sU s) := ⟨h.1.1, h.1.2.1, h.1.2.2, h.2.1⟩
theorem MInv.same {s : SG} : wU (wG s (sG s)) (sU s) = s := rfl
theorem act_no {k : Nat} {r : Act} {g : GC} {u : List (Nat × Snap)} (h0 : 0 < k) (h4 : k < 4) (h : r = (-(nI k), g, u)) (s : SG) : byAct r s = sNo k s := by
  have ht := tell_lt h0 (show k < 7 by omega)
  rw [act_neg (by rw [h]; exact ht.1)]
  congr 1
  rw [h]
  show tn (-(-(nI k))) = k
  rw [ht.2, tn_nI (by omega)]
theorem c_M_edge {E : EV} {w : Mem} {x y : Int32} {s : SG} (h : MInv w s) : T E m_M_edge 4 0 0 [.ref 89, .int x, .int y] w (fun r w2 => r = some (.int (byAct (aEdge x y (sG s) (sU s)) s).1) ∧ MInv w2 (byAct (aEdge x y (sG s) (sU s)) s).2 ∧ FrM w w2) := by
  refine T_of (L := [.ref 89, .int x, .int y]) cf_M_edge rfl (Nat.le_of_ble_eq_true rfl) (fun X hX hF => ?_)
  obtain ⟨⟨hR, hL, hW⟩, hU, hT, hI, hRf, hSt, hFa, hSm, hSp, hDr, hOr⟩ := id h
  have h0 := h.thr (x := nI 0)
  refine g_aload0 hX d_M_edge_0 ?_
  refine g_iconst (v := nI 0) hX d_M_edge_1 rfl ?_
  refine g_putI hX d_M_edge_2 fl_M_170 (lv_89 _) ?_
  refine g_aload0 hX d_M_edge_5 ?_
  refine g_aload0 hX d_M_edge_6 ?_
  refine g_iload1 hX d_M_edge_7 ?_
  refine g_iload2 hX d_M_edge_8 ?_
  refine g_callV (As := [_, _]) hX hF.1 d_M_edge_9 ml_M_446 cf_M_edgeNow cv_M_edgeNow rfl rfl (c_M_edgeNow h0.gu) (rcv_obj hX (lv_89 _) rfl rfl) (by omega) (by omega) (by omega) (Nat.le_of_ble_eq_true rfl) ?_
  rintro _ w2 ⟨rfl, hG2, hf2⟩
  have hI2 := h0.act hf2 hG2
  rcases aEdge_a x y (sG s) (sU s) with ⟨k, hk0, hk4, hr⟩ | ⟨v, hv2, hr⟩
  · rw [hr] at hI2
    rw [hr]
    refine g_callV (As := [.int (-(nI k))]) hX hF.1 d_M_edge_12 ml_M_179 cf_M_tell cv_M_tell rfl rfl (c_M_tellN (k := k) hk0 (by omega)) (rcv_obj hX (lv_89 _) rfl rfl) (by omega) (by omega) (by omega) (Nat.le_of_ble_eq_true rfl) ?_
    refine ret_k ?_
    refine g_iret hX hF d_M_edge_15 (by omega) (by omega) ?_
    rw [act_no hk0 hk4 hr]
    exact ⟨rfl, MInv.no (s := s) hI2 (by omega), ((FrM.I (by decide) (FrM.rf w)).tr hf2.M).tr (by repeat (first | exact FrM.rf _ | refine FrM.I (by decide) ?_ | refine FrM.A (by decide) ?_ | refine FrM.J9 ?_ | refine FrM.J (by decide) ?_))⟩
  rw [hr]
  refine g_callV (As := [_]) hX hF.1 d_M_edge_12 ml_M_179 cf_M_tell cv_M_tell rfl rfl (c_M_tell (v := v) hv2) (rcv_obj hX (lv_89 _) rfl rfl) (by omega) (by omega) (by omega) (Nat.le_of_ble_eq_true rfl) ?_
  refine ret_k ?_
  refine g_iret hX hF d_M_edge_15 (by omega) (by omega) ?_
  rw [act_pos (by rw [hr]; exact nI_pos hv2)]
  exact ⟨by rw [hr]; rfl, MInv.ok (a := (aEdge x y (sG s) (sU s)).1) hI2, ((FrM.I (by decide) (FrM.rf w)).tr hf2.M).tr (by repeat (first | exact FrM.rf _ | refine FrM.I (by decide) ?_ | refine FrM.A (by decide) ?_ | refine FrM.J9 ?_ | refine FrM.J (by decide) ?_))⟩
theorem c_M_link {E : EV} {w : Mem} {x y : Int32} {s : SG} (h : MInv w s) : T E m_M_link 4 0 0 [.ref 89, .int x, .int y] w (fun r w2 => r = some (.int (byAct (aLink x y (sG s) (sU s)) s).1) ∧ MInv w2 (byAct (aLink x y (sG s) (sU s)) s).2 ∧ FrM w w2) := by
  refine T_of (L := [.ref 89, .int x, .int y]) cf_M_link rfl (Nat.le_of_ble_eq_true rfl) (fun X hX hF => ?_)
  obtain ⟨⟨hR, hL, hW⟩, hU, hT, hI, hRf, hSt, hFa, hSm, hSp, hDr, hOr⟩ := id h
  have h0 := h.thr (x := nI 0)
  refine g_aload0 hX d_M_link_0 ?_
  refine g_iconst (v := nI 0) hX d_M_link_1 rfl ?_
  refine g_putI hX d_M_link_2 fl_M_170 (lv_89 _) ?_
  refine g_aload0 hX d_M_link_5 ?_
  refine g_aload0 hX d_M_link_6 ?_
  refine g_iload1 hX d_M_link_7 ?_
  refine g_iload2 hX d_M_link_8 ?_
  refine g_callV (As := [_, _]) hX hF.1 d_M_link_9 ml_M_449 cf_M_linkNow cv_M_linkNow rfl rfl (c_M_linkNow h0.gu) (rcv_obj hX (lv_89 _) rfl rfl) (by omega) (by omega) (by omega) (Nat.le_of_ble_eq_true rfl) ?_
  rintro _ w2 ⟨rfl, hG2, hf2⟩
  have hI2 := h0.act hf2 hG2
  rcases aLink_a x y (sG s) (sU s) with ⟨k, hk0, hk4, hr⟩ | ⟨v, hv2, hr⟩
  · rw [hr] at hI2
    rw [hr]
    refine g_callV (As := [.int (-(nI k))]) hX hF.1 d_M_link_12 ml_M_179 cf_M_tell cv_M_tell rfl rfl (c_M_tellN (k := k) hk0 (by omega)) (rcv_obj hX (lv_89 _) rfl rfl) (by omega) (by omega) (by omega) (Nat.le_of_ble_eq_true rfl) ?_
    refine ret_k ?_
    refine g_iret hX hF d_M_link_15 (by omega) (by omega) ?_
    rw [act_no hk0 hk4 hr]
    exact ⟨rfl, MInv.no (s := s) hI2 (by omega), ((FrM.I (by decide) (FrM.rf w)).tr hf2.M).tr (by repeat (first | exact FrM.rf _ | refine FrM.I (by decide) ?_ | refine FrM.A (by decide) ?_ | refine FrM.J9 ?_ | refine FrM.J (by decide) ?_))⟩
  rw [hr]
  refine g_callV (As := [_]) hX hF.1 d_M_link_12 ml_M_179 cf_M_tell cv_M_tell rfl rfl (c_M_tell (v := v) hv2) (rcv_obj hX (lv_89 _) rfl rfl) (by omega) (by omega) (by omega) (Nat.le_of_ble_eq_true rfl) ?_
  refine ret_k ?_
  refine g_iret hX hF d_M_link_15 (by omega) (by omega) ?_
  rw [act_pos (by rw [hr]; exact nI_pos hv2)]
  exact ⟨by rw [hr]; rfl, MInv.ok (a := (aLink x y (sG s) (sU s)).1) hI2, ((FrM.I (by decide) (FrM.rf w)).tr hf2.M).tr (by repeat (first | exact FrM.rf _ | refine FrM.I (by decide) ?_ | refine FrM.A (by decide) ?_ | refine FrM.J9 ?_ | refine FrM.J (by decide) ?_))⟩
theorem c_M_paint {E : EV} {w : Mem} {x y : Int32} {s : SG} (h : MInv w s) : T E m_M_paint 4 0 0 [.ref 89, .int x, .int y] w (fun r w2 => r = some (.int (byAct (aPaint x y (sG s) (sU s)) s).1) ∧ MInv w2 (byAct (aPaint x y (sG s) (sU s)) s).2 ∧ FrM w w2) := by
  refine T_of (L := [.ref 89, .int x, .int y]) cf_M_paint rfl (Nat.le_of_ble_eq_true rfl) (fun X hX hF => ?_)
  obtain ⟨⟨hR, hL, hW⟩, hU, hT, hI, hRf, hSt, hFa, hSm, hSp, hDr, hOr⟩ := id h
  have h0 := h.thr (x := nI 0)
  refine g_aload0 hX d_M_paint_0 ?_
  refine g_iconst (v := nI 0) hX d_M_paint_1 rfl ?_
  refine g_putI hX d_M_paint_2 fl_M_170 (lv_89 _) ?_
  refine g_aload0 hX d_M_paint_5 ?_
  refine g_aload0 hX d_M_paint_6 ?_
  refine g_iload1 hX d_M_paint_7 ?_
  refine g_iload2 hX d_M_paint_8 ?_
  refine g_callV (As := [_, _]) hX hF.1 d_M_paint_9 ml_M_456 cf_M_paintNow cv_M_paintNow rfl rfl (c_M_paintNow h0.gu) (rcv_obj hX (lv_89 _) rfl rfl) (by omega) (by omega) (by omega) (Nat.le_of_ble_eq_true rfl) ?_
  rintro _ w2 ⟨rfl, hG2, hf2⟩
  have hI2 := h0.act hf2 hG2
  rcases aPaint_a hW x y (sU s) with ⟨k, hk0, hk4, hr⟩ | ⟨v, hv2, hr⟩
  · rw [hr] at hI2
    rw [hr]
    refine g_callV (As := [.int (-(nI k))]) hX hF.1 d_M_paint_12 ml_M_179 cf_M_tell cv_M_tell rfl rfl (c_M_tellN (k := k) hk0 (by omega)) (rcv_obj hX (lv_89 _) rfl rfl) (by omega) (by omega) (by omega) (Nat.le_of_ble_eq_true rfl) ?_
    refine ret_k ?_
    refine g_iret hX hF d_M_paint_15 (by omega) (by omega) ?_
    rw [act_no hk0 hk4 hr]
    exact ⟨rfl, MInv.no (s := s) hI2 (by omega), ((FrM.I (by decide) (FrM.rf w)).tr hf2.M).tr (by repeat (first | exact FrM.rf _ | refine FrM.I (by decide) ?_ | refine FrM.A (by decide) ?_ | refine FrM.J9 ?_ | refine FrM.J (by decide) ?_))⟩
  rw [hr]
  refine g_callV (As := [_]) hX hF.1 d_M_paint_12 ml_M_179 cf_M_tell cv_M_tell rfl rfl (c_M_tell (v := v) hv2) (rcv_obj hX (lv_89 _) rfl rfl) (by omega) (by omega) (by omega) (Nat.le_of_ble_eq_true rfl) ?_
  refine ret_k ?_
  refine g_iret hX hF d_M_paint_15 (by omega) (by omega) ?_
  rw [act_pos (by rw [hr]; exact nI_pos hv2)]
  exact ⟨by rw [hr]; rfl, MInv.ok (a := (aPaint x y (sG s) (sU s)).1) hI2, ((FrM.I (by decide) (FrM.rf w)).tr hf2.M).tr (by repeat (first | exact FrM.rf _ | refine FrM.I (by decide) ?_ | refine FrM.A (by decide) ?_ | refine FrM.J9 ?_ | refine FrM.J (by decide) ?_))⟩
theorem c_M_dye {E : EV} {w : Mem} {x y : Int32} {s : SG} (h : MInv w s) : T E m_M_dye 4 0 0 [.ref 89, .int x, .int y] w (fun r w2 => r = some (.int (byAct (aDye x y (sG s) (sU s)) s).1) ∧ MInv w2 (byAct (aDye x y (sG s) (sU s)) s).2 ∧ FrM w w2) := by
  refine T_of (L := [.ref 89, .int x, .int y]) cf_M_dye rfl (Nat.le_of_ble_eq_true rfl) (fun X hX hF => ?_)
  obtain ⟨⟨hR, hL, hW⟩, hU, hT, hI, hRf, hSt, hFa, hSm, hSp, hDr, hOr⟩ := id h
  have h0 := h.thr (x := nI 0)
  refine g_aload0 hX d_M_dye_0 ?_
  refine g_iconst (v := nI 0) hX d_M_dye_1 rfl ?_
  refine g_putI hX d_M_dye_2 fl_M_170 (lv_89 _) ?_
  refine g_aload0 hX d_M_dye_5 ?_
  refine g_aload0 hX d_M_dye_6 ?_
  refine g_iload1 hX d_M_dye_7 ?_
  refine g_iload2 hX d_M_dye_8 ?_
  refine g_callV (As := [_, _]) hX hF.1 d_M_dye_9 ml_M_459 cf_M_dyeNow cv_M_dyeNow rfl rfl (c_M_dyeNow h0.gu) (rcv_obj hX (lv_89 _) rfl rfl) (by omega) (by omega) (by omega) (Nat.le_of_ble_eq_true rfl) ?_
  rintro _ w2 ⟨rfl, hG2, hf2⟩
  have hI2 := h0.act hf2 hG2
  rcases aDye_a hW x y (sU s) with ⟨k, hk0, hk4, hr⟩ | ⟨v, hv2, hr⟩
  · rw [hr] at hI2
    rw [hr]
    refine g_callV (As := [.int (-(nI k))]) hX hF.1 d_M_dye_12 ml_M_179 cf_M_tell cv_M_tell rfl rfl (c_M_tellN (k := k) hk0 (by omega)) (rcv_obj hX (lv_89 _) rfl rfl) (by omega) (by omega) (by omega) (Nat.le_of_ble_eq_true rfl) ?_
    refine ret_k ?_
    refine g_iret hX hF d_M_dye_15 (by omega) (by omega) ?_
    rw [act_no hk0 hk4 hr]
    exact ⟨rfl, MInv.no (s := s) hI2 (by omega), ((FrM.I (by decide) (FrM.rf w)).tr hf2.M).tr (by repeat (first | exact FrM.rf _ | refine FrM.I (by decide) ?_ | refine FrM.A (by decide) ?_ | refine FrM.J9 ?_ | refine FrM.J (by decide) ?_))⟩
  rw [hr]
  refine g_callV (As := [_]) hX hF.1 d_M_dye_12 ml_M_179 cf_M_tell cv_M_tell rfl rfl (c_M_tell (v := v) hv2) (rcv_obj hX (lv_89 _) rfl rfl) (by omega) (by omega) (by omega) (Nat.le_of_ble_eq_true rfl) ?_
  refine ret_k ?_
  refine g_iret hX hF d_M_dye_15 (by omega) (by omega) ?_
  rw [act_pos (by rw [hr]; exact nI_pos hv2)]
  exact ⟨by rw [hr]; rfl, MInv.ok (a := (aDye x y (sG s) (sU s)).1) hI2, ((FrM.I (by decide) (FrM.rf w)).tr hf2.M).tr (by repeat (first | exact FrM.rf _ | refine FrM.I (by decide) ?_ | refine FrM.A (by decide) ?_ | refine FrM.J9 ?_ | refine FrM.J (by decide) ?_))⟩
theorem MSnap.row {f h : Nat → Int32} {g : GC} {q : Snap} (hR : MRow f g) (hW : WG g) (hWq : WG (unsnap g q)) (hS : MSnap h (gN g) (gV g) q) : MRow (va_cpy h f 0 6 92) (unsnap g q) := by
  have hn := hW.n
  have hv := hW.v
  have he := hWq.el
  obtain ⟨s1, s2, s3, s4, s5, s6⟩ := hS
  have ei : ∀ i, 6 ≤ i → i < 98 → va_cpy h f 0 6 92 i = h (i - 6) := fun i h1 h2 => by
    unfold va_cpy
    rw [if_pos (by omega), Nat.zero_add]
  have eo : ∀ i, i < 6 ∨ 98 ≤ i → va_cpy h f 0 6 92 i = f i := fun i h1 => by
    unfold va_cpy
    rw [if_neg (by omega)]
  refine ⟨by rw [eo _ (by omega)]; exact hR.n, by rw [eo _ (by omega)]; exact hR.v, by rw [eo _ (by omega)]; exact hR.s, by rw [eo _ (by omega)]; exact hR.l, by rw [eo _ (by omega)]; exact hR.fo, fun i hi => ?_, fun i hi => ?_, fun v hv2 => ?_, fun v hv2 => ?_, ⟨?_, fun k hk => ?_⟩, fun k x hx => ?_⟩
  · rw [ei _ (by omega) (by omega), Nat.add_sub_cancel_left]; exact s1 i hi
  · have hi2 : i < gN g := hi
    rw [ei _ (by omega) (by omega), show 9 + i - 6 = 3 + i by omega]; exact s2 i hi2
  · have hv3 : v < gV g := hv2
    rw [ei _ (by omega) (by omega), show 21 + v - 6 = 15 + v by omega]; exact s3 v hv3
  · have hv3 : v < gV g := hv2
    rw [ei _ (by omega) (by omega), show 26 + v - 6 = 20 + v by omega]; exact s4 v hv3
  · rw [ei _ (by omega) (by omega)]; exact s5
  · have hk2 : k < q.1.length := hk
    have hk3 : (gE (unsnap g q)).length = q.1.length := rfl
    rw [ei _ (by omega) (by omega), show 32 + k - 6 = 26 + k by omega]; exact s6 k hk2
  · rw [eo _ (by omega), eo _ (by omega)]; exact hR.sn k x hx
theorem MUndo.last {f so : Nat → Int32} {n : Int32} {g : GC} {u : List (Nat × Snap)} {q : Nat × Snap} (h : MUndo f so n g u) (hq : u.getLast? = some q) : 0 < u.length ∧ q.1 < 4 ∧ so (u.length - 1) = nI q.1 ∧ MSnap (fun i => f (92 * (u.length - 1) + i)) (gN g) (gV g) q.2 ∧ WG (unsnap g q.2) ∧ MUndo f so (nI (u.length - 1)) (unsnap g q.2) u.dropLast := by
  obtain ⟨h1, h2, h3⟩ := h
  rw [List.getLast?_eq_getElem?] at hq
  have hl := (List.getElem?_eq_some_iff.mp hq).1
  obtain ⟨g1, g2, g3, g4⟩ := h3 _ q hq
  refine ⟨by omega, g1, g2, g3, g4, by rw [List.length_dropLast]; omega, by rw [List.length_dropLast], fun k x hx => ?_⟩
  rw [List.getElem?_dropLast] at hx
  split at hx
  · exact h3 k x hx
  · cases hx
theorem opUndo_no {s : SG} (h : sU s = []) : opUndo s = sNo 3 s := by unfold opUndo; rw [h]; rfl
theorem opUndo_ok {s : SG} {q : Nat × Snap} (h : (sU s).getLast? = some q) : opUndo s = sOk (nI q.1) (wU (wG s (unsnap (sG s) q.2)) (sU s).dropLast) := by unfold opUndo; rw [h]
theorem c_M_undo {E : EV} {w : Mem} {s : SG} (h : MInv w s) : T E m_M_undo 1 0 0 [.ref 89] w (fun r w2 => r = some (.int (opUndo s).1) ∧ MInv w2 (opUndo s).2 ∧ FrM w w2) := by
  refine T_of (L := [.ref 89]) cf_M_undo rfl (Nat.le_of_ble_eq_true rfl) (fun X hX hF => ?_)
  obtain ⟨⟨hR, hL, hW⟩, hU, hT, hI, hRf, hSt, hFa, hSm, hSp, hDr, hOr⟩ := id h
  have hul := hU.len
  rcases hq : (sU s).getLast? with _ | q
  · have hu : sU s = [] := List.getLast?_eq_none_iff.mp hq
    refine g_aload0 hX d_M_undo_0 ?_
    refine g_iconst (v := nI 0) hX d_M_undo_1 rfl ?_
    refine g_putI hX d_M_undo_2 fl_M_170 (lv_89 _) ?_
    refine g_aload0 hX d_M_undo_5 ?_
    refine g_getI hX d_M_undo_6 fl_M_176 (lv_89 _) ?_
    refine g_topi hU.n ?_
    refine g_if_ne hX d_M_undo_9 (fun h => absurd (by rw [hu]; rfl) h) (fun c0 => ?_)
    refine g_aload0 hX d_M_undo_12 ?_
    refine g_bipush (v := -3) hX d_M_undo_13 rfl ?_
    refine g_callV (As := [_]) hX hF.1 d_M_undo_15 ml_M_179 cf_M_tell cv_M_tell rfl rfl (c_M_tellN (k := 3) (by decide) (by decide)) (rcv_obj hX (lv_89 _) rfl rfl) (by omega) (by omega) (by omega) (Nat.le_of_ble_eq_true rfl) ?_
    refine ret_k ?_
    refine g_iret hX hF d_M_undo_18 (by omega) (by omega) ?_
    rw [opUndo_no hu]
    exact ⟨rfl, (h.thr (x := nI 0)).no (k := 3) (by decide), (by repeat (first | exact FrM.rf _ | refine FrM.I (by decide) ?_ | refine FrM.A (by decide) ?_ | refine FrM.J9 ?_ | refine FrM.J (by decide) ?_))⟩
  · obtain ⟨hl0, hl1, hl2, hl3, hl4, hl5⟩ := hU.last hq
    refine g_aload0 hX d_M_undo_0 ?_
    refine g_iconst (v := nI 0) hX d_M_undo_1 rfl ?_
    refine g_putI hX d_M_undo_2 fl_M_170 (lv_89 _) ?_
    refine g_aload0 hX d_M_undo_5 ?_
    refine g_getI hX d_M_undo_6 fl_M_176 (lv_89 _) ?_
    refine g_topi hU.n ?_
    refine g_if_ne hX d_M_undo_9 (fun c0 => ?_) (fun h => absurd h (nI_ne0 hl0 (by omega)))
    refine g_aload0 hX d_M_undo_19 ?_
    refine g_dup hX d_M_undo_20 rfl ?_
    refine g_getI hX d_M_undo_21 fl_M_176 (lv_89 _) ?_
    refine g_topi hU.n ?_
    refine g_iconst (v := nI 1) hX d_M_undo_24 rfl ?_
    refine g_isubN hX d_M_undo_25 (by omega) ?_
    refine g_putI hX d_M_undo_26 fl_M_176 (lv_89 _) ?_
    refine g_aload0 hX d_M_undo_29 ?_
    refine g_aload0 hX d_M_undo_30 ?_
    refine g_getI hX d_M_undo_31 fl_M_176 (lv_89 _) ?_
    refine g_topi (show _ = nI ((sU s).length - 1) from rfl) ?_
    refine g_callV (As := [_]) hX hF.1 d_M_undo_34 ml_M_187 cf_M_putBack cv_M_putBack rfl rfl (c_M_putBack (by omega)) (rcv_obj hX (lv_89 _) rfl rfl) (by omega) (by omega) (by omega) (Nat.le_of_ble_eq_true rfl) ?_
    refine ret_k ?_
    refine g_aload0 hX d_M_undo_37 ?_
    refine g_aload0 hX d_M_undo_38 ?_
    refine g_getF hX d_M_undo_39 fl_M_26 (lv_89 _) ?_
    refine g_aload0 hX d_M_undo_42 ?_
    refine g_getI hX d_M_undo_43 fl_M_176 (lv_89 _) ?_
    refine g_topi (show _ = nI ((sU s).length - 1) from rfl) ?_
    refine g_iald hX d_M_undo_46 (lv_95 _) rfl (by omega) ?_
    refine g_topi (show rI w 95 ((sU s).length - 1) = nI q.1 from hl2) ?_
    refine g_callV (As := [_]) hX hF.1 d_M_undo_47 ml_M_179 cf_M_tell cv_M_tell rfl rfl (c_M_tell (by omega)) (rcv_obj hX (lv_89 _) rfl rfl) (by omega) (by omega) (by omega) (Nat.le_of_ble_eq_true rfl) ?_
    refine ret_k ?_
    refine g_iret hX hF d_M_undo_50 (by omega) (by omega) ?_
    rw [opUndo_ok hq]
    refine ⟨rfl, ⟨⟨?_, ?_, hl4⟩, hl5, hT, hI, hRf, rfl, hFa, hSm, hSp, hDr, hOr⟩, (by repeat (first | exact FrM.rf _ | refine FrM.I (by decide) ?_ | refine FrM.A (by decide) ?_ | refine FrM.J9 ?_ | refine FrM.J (by decide) ?_))⟩
    · have hr := hl3.row hR hW hl4
      have e : va_cpy (fun i => rI w 94 (92 * ((sU s).length - 1) + i)) (rI w 91) 0 6 92 = va_cpy (rI w 94) (rI w 91) (92 * ((sU s).length - 1)) 6 92 := by
        funext i
        unfold va_cpy
        split
        · rw [Nat.zero_add]
        · rfl
      rw [e] at hr
      exact hr
    · refine hL.congr (fun i hi => ?_)
      show (if 6 ≤ i ∧ i < 6 + 92 then _ else rI w 91 i) = rI w 91 i
      exact if_neg (by omega)
