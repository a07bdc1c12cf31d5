def m_M_compare : MR := (⟨"SubgraphDeskModel", "compare", "(I)I"⟩, prog_14_method_97_code, 4, (some .int))
theorem cf_M_compare : CF m_M_compare 1 := ⟨gd 2075 (by decide +kernel) rfl, gd 151 (by decide +kernel) rfl, by decide +kernel, by decide, by decide +kernel⟩
theorem cv_M_compare : CV m_M_compare := ⟨gd 2073 (by decide +kernel) rfl, gd 2074 (by decide +kernel) rfl⟩
theorem d_M_compare_0 : Dc prog_14_method_97_code 0 (.aload_n 0) 1 1 := ⟨by decide +kernel, rfl⟩
theorem d_M_compare_1 : Dc prog_14_method_97_code 1 (.iconst 0) 1 2 := ⟨by decide +kernel, rfl⟩
theorem d_M_compare_2 : Dc prog_14_method_97_code 2 (.putfield 170) 3 5 := ⟨by decide +kernel, rfl⟩
theorem d_M_compare_5 : Dc prog_14_method_97_code 5 (.aload_n 0) 1 6 := ⟨by decide +kernel, rfl⟩
theorem d_M_compare_6 : Dc prog_14_method_97_code 6 (.iload_n 1) 1 7 := ⟨by decide +kernel, rfl⟩
theorem d_M_compare_7 : Dc prog_14_method_97_code 7 (.invokevirtual 406) 3 10 := ⟨by decide +kernel, rfl⟩
theorem d_M_compare_10 : Dj prog_14_method_97_code 10 (.ifCond .ne 5) 13 5 15 := ⟨by decide +kernel, rfl, rfl⟩
theorem d_M_compare_13 : Dc prog_14_method_97_code 13 (.iconst (-1)) 1 14 := ⟨by decide +kernel, rfl⟩
theorem d_M_compare_14 : Dc prog_14_method_97_code 14 (.ireturn) 1 15 := ⟨by decide +kernel, rfl⟩
theorem d_M_compare_15 : Dc prog_14_method_97_code 15 (.aload_n 0) 1 16 := ⟨by decide +kernel, rfl⟩
theorem d_M_compare_16 : Dc prog_14_method_97_code 16 (.getfield 13) 3 19 := ⟨by decide +kernel, rfl⟩
theorem d_M_compare_19 : Dc prog_14_method_97_code 19 (.iconst 4) 1 20 := ⟨by decide +kernel, rfl⟩
theorem d_M_compare_20 : Dc prog_14_method_97_code 20 (.iaload) 1 21 := ⟨by decide +kernel, rfl⟩
theorem d_M_compare_21 : Dc prog_14_method_97_code 21 (.istore_n 2) 1 22 := ⟨by decide +kernel, rfl⟩
theorem d_M_compare_22 : Dc prog_14_method_97_code 22 (.aload_n 0) 1 23 := ⟨by decide +kernel, rfl⟩
theorem d_M_compare_23 : Dc prog_14_method_97_code 23 (.getfield 13) 3 26 := ⟨by decide +kernel, rfl⟩
theorem d_M_compare_26 : Dc prog_14_method_97_code 26 (.iconst 4) 1 27 := ⟨by decide +kernel, rfl⟩
theorem d_M_compare_27 : Dc prog_14_method_97_code 27 (.iload_n 1) 1 28 := ⟨by decide +kernel, rfl⟩
theorem d_M_compare_28 : Dc prog_14_method_97_code 28 (.iastore) 1 29 := ⟨by decide +kernel, rfl⟩
theorem d_M_compare_29 : Dc prog_14_method_97_code 29 (.aload_n 0) 1 30 := ⟨by decide +kernel, rfl⟩
theorem d_M_compare_30 : Dc prog_14_method_97_code 30 (.invokevirtual 499) 3 33 := ⟨by decide +kernel, rfl⟩
theorem d_M_compare_33 : Dc prog_14_method_97_code 33 (.istore_n 3) 1 34 := ⟨by decide +kernel, rfl⟩
theorem d_M_compare_34 : Dc prog_14_method_97_code 34 (.aload_n 0) 1 35 := ⟨by decide +kernel, rfl⟩
theorem d_M_compare_35 : Dc prog_14_method_97_code 35 (.getfield 13) 3 38 := ⟨by decide +kernel, rfl⟩
theorem d_M_compare_38 : Dc prog_14_method_97_code 38 (.iconst 4) 1 39 := ⟨by decide +kernel, rfl⟩
theorem d_M_compare_39 : Dc prog_14_method_97_code 39 (.iload_n 2) 1 40 := ⟨by decide +kernel, rfl⟩
theorem d_M_compare_40 : Dc prog_14_method_97_code 40 (.iastore) 1 41 := ⟨by decide +kernel, rfl⟩
theorem d_M_compare_41 : Dc prog_14_method_97_code 41 (.iload_n 3) 1 42 := ⟨by decide +kernel, rfl⟩
theorem d_M_compare_42 : Dc prog_14_method_97_code 42 (.ireturn) 1 43 := ⟨by decide +kernel, rfl⟩
noncomputable def opCompare (x : Int32) (g : GC) : Int32 := by
  classical
  exact if x = -1 then leastI (gForce g none) else if inN x (gL g).length then leastI (gForce g (some (tn x))) else -1
theorem cmp_none {g : GC} : opCompare (-1) g = leastI (gForce g none) := by unfold opCompare; exact if_pos rfl
theorem cmp_some {x : Nat} {g : GC} (h : x < (gL g).length) (hl : (gL g).length ≤ 6) : opCompare (nI x) g = leastI (gForce g (some x)) := by
  unfold opCompare
  refine (if_neg (nI_m1 (by omega))).trans ((if_pos (inN_nI h (by omega))).trans ?_)
  rw [tn_nI (by omega)]
theorem cmp_no {x : Int32} {g : GC} (h : ¬ x = -1) (h2 : ¬ inN x (gL g).length) : opCompare x g = -1 := by
  unfold opCompare
  exact (if_neg h).trans (if_neg h2)
/-- the law in force is put back -/
theorem Scr.law {w a b : Mem} {x : Int32} (h0 : Scr w a) (h : Scr (sI a 91 4 x) b) : Scr w (sI b 91 4 (rI a 91 4)) := by
  refine ⟨FrM.I (by decide) (FrM.tr (FrM.I (by decide) h0.1) h.1), fun c hc => ?_, fun k hk => ?_⟩
  · by_cases e : c = 91
    · subst e
      rw [rI_sI, h.2.1 91 (by decide), rI_sI, ← h0.2.1 91 (by decide)]
      funext j
      rw [upd_eq, upd_eq]
      split
      · rename_i z; rw [z]
      · rfl
    · rw [rI_sI_ne _ _ _ e, h.2.1 c hc, rI_sI_ne _ _ _ e]
      exact h0.2.1 c hc
  · rw [rI_sI_ne _ _ _ (by decide), h.2.2 k hk, rI_sI_ne _ _ _ (by decide)]
    exact h0.2.2 k hk
theorem c_M_compare {E : EV} {w : Mem} {a : Int32} {s : SG} (h : MInv w s) : T E m_M_compare 8 0 0 [.ref 89, .int a] w (fun r w2 => r = some (.int (opCompare a (sG s))) ∧ MInv w2 s ∧ FrM w w2) := by
  refine T_of (L := [.ref 89, .int a, un, un]) cf_M_compare rfl (Nat.le_of_ble_eq_true rfl) (fun X hX hF => ?_)
  obtain ⟨⟨hR, hL, hW⟩, hU, hT, hI, hRf, hSt, hFa, hSm, hSp, hDr, hOr⟩ := id h
  have hn := hW.n
  have hv := hW.v
  have he := hW.el
  have hll := hW.ll
  by_cases h1 : a = -1
  · subst h1
    refine g_aload0 hX d_M_compare_0 ?_
    refine g_iconst (v := nI 0) hX d_M_compare_1 rfl ?_
    refine g_putI hX d_M_compare_2 fl_M_170 (lv_89 _) ?_
    have hMG : MG (sI w 89 0 (nI 0)) (sG s) := ⟨hR, hL, hOr⟩
    have hS0 : Scr w (sI w 89 0 (nI 0)) := (by repeat (first | exact Scr.rf _ | refine Scr.I9 (by decide) ?_ | refine Scr.I (by decide) ?_ | refine Scr.A (by decide) ?_ | refine Scr.J9 ?_ | refine Scr.J (by decide) ?_ | refine Scr.B (by decide) ?_))
    refine g_aload0 hX d_M_compare_5 ?_
    refine g_iload1 hX d_M_compare_6 ?_
    refine g_callV (As := [_]) hX hF.1 d_M_compare_7 ml_M_406 cf_M_isLaw cv_M_isLaw rfl rfl (c_M_isLaw (w := sI w 89 0 (nI 0)) (g := sG s) hR hW) (rcv_obj hX (lv_89 _) rfl rfl) (by omega) (by omega) (by omega) (Nat.le_of_ble_eq_true rfl) ?_
    refine ret_k ?_
    refine g_if_ne hX d_M_compare_10 (fun c0 => ?_) (fun h => absurd h (by rw [if_pos rfl]; decide))
    refine g_aload0 hX d_M_compare_15 ?_
    refine g_getF hX d_M_compare_16 fl_M_13 (lv_89 _) ?_
    refine g_iconst (v := nI 4) hX d_M_compare_19 rfl ?_
    refine g_iald hX d_M_compare_20 (lv_91 _) rfl (by decide) ?_
    refine g_istore2 hX d_M_compare_21 rfl (by decide) ?_
    refine g_aload0 hX d_M_compare_22 ?_
    refine g_getF hX d_M_compare_23 fl_M_13 (lv_89 _) ?_
    refine g_iconst (v := nI 4) hX d_M_compare_26 rfl ?_
    refine g_iload1 hX d_M_compare_27 ?_
    refine g_iast hX d_M_compare_28 (lv_91 _) rfl (by decide) ?_
    have hMG2 : MG (sI (sI w 89 0 (nI 0)) 91 4 (-1)) (gForce (sG s) none) := ⟨MRow.force (f := rI w 91) hR (show -1 = fInt none from rfl) hW, hL.congr (fun i hi => by show upd (rI w 91) 4 (-1) i = _; rw [upd_eq, if_neg (by omega)]), hOr⟩
    have hW2 : WG (gForce (sG s) none) := hW.force (fun i z => by cases z)
    refine g_aload0 hX d_M_compare_29 ?_
    refine g_callV (As := []) hX hF.1 d_M_compare_30 ml_M_499 cf_M_leastCost cv_M_leastCost rfl rfl (c_M_leastCost hMG2 hW2) (rcv_obj hX (lv_89 _) rfl rfl) (by omega) (by omega) (by omega) (Nat.le_of_ble_eq_true rfl) ?_
    rintro _ w1 ⟨rfl, hS, hbr⟩
    show G0 _ _ _ _ _ _ _ _
    refine g_istore3 hX d_M_compare_33 rfl (by decide) ?_
    refine g_aload0 hX d_M_compare_34 ?_
    refine g_getF hX d_M_compare_35 fl_M_13 (lv_89 _) ?_
    refine g_iconst (v := nI 4) hX d_M_compare_38 rfl ?_
    refine g_iload2 hX d_M_compare_39 ?_
    refine g_iast hX d_M_compare_40 (lv_91 _) rfl (by decide) ?_
    refine g_iload3 hX d_M_compare_41 ?_
    refine g_iret hX hF d_M_compare_42 (by omega) (by omega) ?_
    refine ⟨?_, h.keep (hS0.law hS), (hS0.law hS).1⟩
    rw [cmp_none]
  by_cases h2 : inN a (gL (sG s)).length
  · obtain ⟨x, hx, rfl, -⟩ := inN_of h2 (by omega)
    refine g_aload0 hX d_M_compare_0 ?_
    refine g_iconst (v := nI 0) hX d_M_compare_1 rfl ?_
    refine g_putI hX d_M_compare_2 fl_M_170 (lv_89 _) ?_
    have hMG : MG (sI w 89 0 (nI 0)) (sG s) := ⟨hR, hL, hOr⟩
    have hS0 : Scr w (sI w 89 0 (nI 0)) := (by repeat (first | exact Scr.rf _ | refine Scr.I9 (by decide) ?_ | refine Scr.I (by decide) ?_ | refine Scr.A (by decide) ?_ | refine Scr.J9 ?_ | refine Scr.J (by decide) ?_ | refine Scr.B (by decide) ?_))
    refine g_aload0 hX d_M_compare_5 ?_
    refine g_iload1 hX d_M_compare_6 ?_
    refine g_callV (As := [_]) hX hF.1 d_M_compare_7 ml_M_406 cf_M_isLaw cv_M_isLaw rfl rfl (c_M_isLaw (w := sI w 89 0 (nI 0)) (g := sG s) hR hW) (rcv_obj hX (lv_89 _) rfl rfl) (by omega) (by omega) (by omega) (Nat.le_of_ble_eq_true rfl) ?_
    refine ret_k ?_
    refine g_if_ne hX d_M_compare_10 (fun c0 => ?_) (fun h => absurd h (by rw [if_neg (nI_m1 (by omega)), b2i_t ((in_nI (by omega)).mpr ⟨x, hx, rfl⟩)]; decide))
    refine g_aload0 hX d_M_compare_15 ?_
    refine g_getF hX d_M_compare_16 fl_M_13 (lv_89 _) ?_
    refine g_iconst (v := nI 4) hX d_M_compare_19 rfl ?_
    refine g_iald hX d_M_compare_20 (lv_91 _) rfl (by decide) ?_
    refine g_istore2 hX d_M_compare_21 rfl (by decide) ?_
    refine g_aload0 hX d_M_compare_22 ?_
    refine g_getF hX d_M_compare_23 fl_M_13 (lv_89 _) ?_
    refine g_iconst (v := nI 4) hX d_M_compare_26 rfl ?_
    refine g_iload1 hX d_M_compare_27 ?_
    refine g_iast hX d_M_compare_28 (lv_91 _) rfl (by decide) ?_
    have hMG2 : MG (sI (sI w 89 0 (nI 0)) 91 4 (nI x)) (gForce (sG s) (some x)) := ⟨MRow.force (f := rI w 91) hR (show nI x = fInt (some x) from rfl) hW, hL.congr (fun i hi => by show upd (rI w 91) 4 (nI x) i = _; rw [upd_eq, if_neg (by omega)]), hOr⟩
    have hW2 : WG (gForce (sG s) (some x)) := hW.force (fun i z => by injection z with z; omega)
    refine g_aload0 hX d_M_compare_29 ?_
    refine g_callV (As := []) hX hF.1 d_M_compare_30 ml_M_499 cf_M_leastCost cv_M_leastCost rfl rfl (c_M_leastCost hMG2 hW2) (rcv_obj hX (lv_89 _) rfl rfl) (by omega) (by omega) (by omega) (Nat.le_of_ble_eq_true rfl) ?_
    rintro _ w1 ⟨rfl, hS, hbr⟩
    show G0 _ _ _ _ _ _ _ _
    refine g_istore3 hX d_M_compare_33 rfl (by decide) ?_
    refine g_aload0 hX d_M_compare_34 ?_
    refine g_getF hX d_M_compare_35 fl_M_13 (lv_89 _) ?_
    refine g_iconst (v := nI 4) hX d_M_compare_38 rfl ?_
    refine g_iload2 hX d_M_compare_39 ?_
    refine g_iast hX d_M_compare_40 (lv_91 _) rfl (by decide) ?_
    refine g_iload3 hX d_M_compare_41 ?_
    refine g_iret hX hF d_M_compare_42 (by omega) (by omega) ?_
    refine ⟨?_, h.keep (hS0.law hS), (hS0.law hS).1⟩
    rw [cmp_some hx hll]
  · skip
    refine g_aload0 hX d_M_compare_0 ?_
    refine g_iconst (v := nI 0) hX d_M_compare_1 rfl ?_
    refine g_putI hX d_M_compare_2 fl_M_170 (lv_89 _) ?_
    refine g_aload0 hX d_M_compare_5 ?_
    refine g_iload1 hX d_M_compare_6 ?_
    refine g_callV (As := [_]) hX hF.1 d_M_compare_7 ml_M_406 cf_M_isLaw cv_M_isLaw rfl rfl (c_M_isLaw (w := sI w 89 0 (nI 0)) (g := sG s) hR hW) (rcv_obj hX (lv_89 _) rfl rfl) (by omega) (by omega) (by omega) (Nat.le_of_ble_eq_true rfl) ?_
    refine ret_k ?_
    refine g_if_ne hX d_M_compare_10 (fun h => absurd (by rw [if_neg h1, b2i_f h2]) h) (fun c0 => ?_)
    refine g_iconst (v := -1) hX d_M_compare_13 rfl ?_
    refine g_iret hX hF d_M_compare_14 (by omega) (by omega) ?_
    refine ⟨?_, h.keep (by repeat (first | exact Scr.rf _ | refine Scr.I9 (by decide) ?_ | refine Scr.I (by decide) ?_ | refine Scr.A (by decide) ?_ | refine Scr.J9 ?_ | refine Scr.J (by decide) ?_ | refine Scr.B (by decide) ?_)), (by repeat (first | exact FrM.rf _ | refine FrM.I (by decide) ?_ | refine FrM.A (by decide) ?_ | refine FrM.B (by decide) ?_ | refine FrM.J9 ?_ | refine FrM.J (by decide) ?_))⟩
    rw [cmp_no h1 h2]
