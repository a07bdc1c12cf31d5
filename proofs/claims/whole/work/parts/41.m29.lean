def m_M_best : MR := (⟨"SubgraphDeskModel", "best", "(I)I"⟩, prog_14_method_96_code, 3, (some .int))
theorem cf_M_best : CF m_M_best 1 := ⟨gd 2066 (by decide +kernel) rfl, gd 151 (by decide +kernel) rfl, by decide +kernel, by decide, by decide +kernel⟩
theorem cv_M_best : CV m_M_best := ⟨gd 2064 (by decide +kernel) rfl, gd 2065 (by decide +kernel) rfl⟩
theorem d_M_best_0 : Dc prog_14_method_96_code 0 (.aload_n 0) 1 1 := ⟨by decide +kernel, rfl⟩
theorem d_M_best_1 : Dc prog_14_method_96_code 1 (.iconst 0) 1 2 := ⟨by decide +kernel, rfl⟩
theorem d_M_best_2 : Dc prog_14_method_96_code 2 (.putfield 170) 3 5 := ⟨by decide +kernel, rfl⟩
theorem d_M_best_5 : Dc prog_14_method_96_code 5 (.iload_n 1) 1 6 := ⟨by decide +kernel, rfl⟩
theorem d_M_best_6 : Dc prog_14_method_96_code 6 (.iconst (-1)) 1 7 := ⟨by decide +kernel, rfl⟩
theorem d_M_best_7 : Dj prog_14_method_96_code 7 (.if_icmp .eq 13) 10 13 20 := ⟨by decide +kernel, rfl, rfl⟩
theorem d_M_best_10 : Dc prog_14_method_96_code 10 (.aload_n 0) 1 11 := ⟨by decide +kernel, rfl⟩
theorem d_M_best_11 : Dc prog_14_method_96_code 11 (.iload_n 1) 1 12 := ⟨by decide +kernel, rfl⟩
theorem d_M_best_12 : Dc prog_14_method_96_code 12 (.invokevirtual 221) 3 15 := ⟨by decide +kernel, rfl⟩
theorem d_M_best_15 : Dj prog_14_method_96_code 15 (.ifCond .ne 5) 18 5 20 := ⟨by decide +kernel, rfl, rfl⟩
theorem d_M_best_18 : Dc prog_14_method_96_code 18 (.iconst (-1)) 1 19 := ⟨by decide +kernel, rfl⟩
theorem d_M_best_19 : Dc prog_14_method_96_code 19 (.ireturn) 1 20 := ⟨by decide +kernel, rfl⟩
theorem d_M_best_20 : Dc prog_14_method_96_code 20 (.aload_n 0) 1 21 := ⟨by decide +kernel, rfl⟩
theorem d_M_best_21 : Dc prog_14_method_96_code 21 (.invokevirtual 499) 3 24 := ⟨by decide +kernel, rfl⟩
theorem d_M_best_24 : Dc prog_14_method_96_code 24 (.istore_n 2) 1 25 := ⟨by decide +kernel, rfl⟩
theorem d_M_best_25 : Dc prog_14_method_96_code 25 (.iload_n 2) 1 26 := ⟨by decide +kernel, rfl⟩
theorem d_M_best_26 : Dc prog_14_method_96_code 26 (.iconst (-1)) 1 27 := ⟨by decide +kernel, rfl⟩
theorem d_M_best_27 : Dj prog_14_method_96_code 27 (.if_icmp .eq 8) 30 8 35 := ⟨by decide +kernel, rfl, rfl⟩
theorem d_M_best_30 : Dc prog_14_method_96_code 30 (.iload_n 1) 1 31 := ⟨by decide +kernel, rfl⟩
theorem d_M_best_31 : Dc prog_14_method_96_code 31 (.iconst (-1)) 1 32 := ⟨by decide +kernel, rfl⟩
theorem d_M_best_32 : Dj prog_14_method_96_code 32 (.if_icmp .ne 7) 35 7 39 := ⟨by decide +kernel, rfl, rfl⟩
theorem d_M_best_35 : Dc prog_14_method_96_code 35 (.iload_n 2) 1 36 := ⟨by decide +kernel, rfl⟩
theorem d_M_best_36 : Dj prog_14_method_96_code 36 (.goto 9) 39 9 45 := ⟨by decide +kernel, rfl, rfl⟩
theorem d_M_best_39 : Dc prog_14_method_96_code 39 (.aload_n 0) 1 40 := ⟨by decide +kernel, rfl⟩
theorem d_M_best_40 : Dc prog_14_method_96_code 40 (.getfield 120) 3 43 := ⟨by decide +kernel, rfl⟩
theorem d_M_best_43 : Dc prog_14_method_96_code 43 (.iload_n 1) 1 44 := ⟨by decide +kernel, rfl⟩
theorem d_M_best_44 : Dc prog_14_method_96_code 44 (.iaload) 1 45 := ⟨by decide +kernel, rfl⟩
theorem d_M_best_45 : Dc prog_14_method_96_code 45 (.ireturn) 1 46 := ⟨by decide +kernel, rfl⟩
theorem ml_M_499 : Cond.methodLink "SubgraphDeskModel" 499 m_M_leastCost.1 ∈ lw_gd := gd 2067 (by decide +kernel) rfl
noncomputable def opBest (v : Int32) (g : GC) : Int32 := by
  classical
  exact if ¬ v = -1 ∧ ¬ inN v (gV g) then -1 else if leastI g = -1 ∨ v = -1 then leastI g else nI (gA (bestG g).2 (tn v))
theorem best_no {v : Int32} {g : GC} (h : ¬ v = -1 ∧ ¬ inN v (gV g)) : opBest v g = -1 := by unfold opBest; exact if_pos h
theorem best_a {v : Int32} {g : GC} (h : v = -1 ∨ inN v (gV g)) (h2 : leastI g = -1 ∨ v = -1) : opBest v g = leastI g := by
  unfold opBest
  refine (if_neg ?_).trans (if_pos h2)
  rintro ⟨h3, h4⟩
  exact h.elim h3 h4
theorem best_b {v : Nat} {g : GC} (h : v < gV g) (hV : gV g ≤ 5) (h2 : ¬ leastI g = -1) : opBest (nI v) g = nI (gA (bestG g).2 v) := by
  unfold opBest
  refine (if_neg ?_).trans ((if_neg ?_).trans ?_)
  · exact fun z => z.2 (inN_nI h (by omega))
  · rintro (z | z)
    · exact h2 z
    · exact nI_m1 (by omega) z
  · rw [tn_nI (by omega)]
theorem least_n {g : GC} (h : ¬ leastI g = -1) : (bestG g).1 ≠ 100000000 := fun z => h (by unfold leastI; rw [if_pos z])
theorem inN_m1 {n : Nat} : ¬ inN (-1) n := fun h => absurd h.1 (by decide)
theorem c_M_best {E : EV} {w : Mem} {v : Int32} {s : SG} (h : MInv w s) : T E m_M_best 8 0 0 [.ref 89, .int v] w (fun r w2 => r = some (.int (opBest v (sG s))) ∧ MInv w2 s ∧ FrM w w2) := by
  refine T_of (L := [.ref 89, .int v, un]) cf_M_best rfl (Nat.le_of_ble_eq_true rfl) (fun X hX hF => ?_)
  obtain ⟨⟨hR, hL, hW⟩, hU, hT, hI, hRf, hSt, hFa, hSm, hSp, hDr, hOr⟩ := id h
  have hn := hW.n
  have hv := hW.v
  have he := hW.el
  refine g_aload0 hX d_M_best_0 ?_
  refine g_iconst (v := nI 0) hX d_M_best_1 rfl ?_
  refine g_putI hX d_M_best_2 fl_M_170 (lv_89 _) ?_
  refine g_iload1 hX d_M_best_5 ?_
  refine g_iconst (v := -1) hX d_M_best_6 rfl ?_
  refine g_icmp_eq hX d_M_best_7 (fun e7 => ?_) (fun e7 => ?_)
  · have hMG : MG (sI w 89 0 (nI 0)) (sG s) := ⟨hR, hL, hOr⟩
    have hS0 : Scr w (sI w 89 0 (nI 0)) := (by repeat (first | exact Scr.rf _ | refine Scr.I9 (by decide) ?_ | refine Scr.I (by decide) ?_ | refine Scr.A (by decide) ?_ | refine Scr.J9 ?_ | refine Scr.J (by decide) ?_ | refine Scr.B (by decide) ?_))
    refine g_aload0 hX d_M_best_20 ?_
    refine g_callV (As := []) hX hF.1 d_M_best_21 ml_M_499 cf_M_leastCost cv_M_leastCost rfl rfl (c_M_leastCost (w := sI w 89 0 (nI 0)) hMG hW) (rcv_obj hX (lv_89 _) rfl rfl) (by omega) (by omega) (by omega) (Nat.le_of_ble_eq_true rfl) ?_
    rintro _ w1 ⟨rfl, hS, hbr⟩
    show G0 _ _ _ _ _ _ _ _
    refine g_istore2 hX d_M_best_24 rfl (by decide) ?_
    refine g_iload2 hX d_M_best_25 ?_
    refine g_iconst (v := -1) hX d_M_best_26 rfl ?_
    refine g_icmp_eq hX d_M_best_27 (fun e27 => ?_) (fun e27 => ?_)
    · refine g_iload2 hX d_M_best_35 ?_
      refine g_goto hX d_M_best_36 ?_
      refine g_iret hX hF d_M_best_45 (by omega) (by omega) ?_
      refine ⟨?_, h.keep (hS0.tr hS), (hS0.tr hS).1⟩
      rw [best_a (by first | exact Or.inl e7 | exact Or.inr e15) (Or.inl e27)]
    · refine g_iload1 hX d_M_best_30 ?_
      refine g_iconst (v := -1) hX d_M_best_31 rfl ?_
      refine g_icmp_ne hX d_M_best_32 (fun h => absurd e7 h) (fun e32 => ?_)
      refine g_iload2 hX d_M_best_35 ?_
      refine g_goto hX d_M_best_36 ?_
      refine g_iret hX hF d_M_best_45 (by omega) (by omega) ?_
      refine ⟨?_, h.keep (hS0.tr hS), (hS0.tr hS).1⟩
      rw [best_a (Or.inl e7) (Or.inr e7)]
  · refine g_aload0 hX d_M_best_10 ?_
    refine g_iload1 hX d_M_best_11 ?_
    refine g_callV (As := [_]) hX hF.1 d_M_best_12 ml_M_221 cf_M_isVertex cv_M_isVertex rfl rfl (c_M_isVertex hR hW) (rcv_obj hX (lv_89 _) rfl rfl) (by omega) (by omega) (by omega) (Nat.le_of_ble_eq_true rfl) ?_
    refine ret_k ?_
    refine g_ifB_ne hX d_M_best_15 (fun e15 => ?_) (fun e15 => ?_)
    · have hMG : MG (sI w 89 0 (nI 0)) (sG s) := ⟨hR, hL, hOr⟩
      have hS0 : Scr w (sI w 89 0 (nI 0)) := (by repeat (first | exact Scr.rf _ | refine Scr.I9 (by decide) ?_ | refine Scr.I (by decide) ?_ | refine Scr.A (by decide) ?_ | refine Scr.J9 ?_ | refine Scr.J (by decide) ?_ | refine Scr.B (by decide) ?_))
      refine g_aload0 hX d_M_best_20 ?_
      refine g_callV (As := []) hX hF.1 d_M_best_21 ml_M_499 cf_M_leastCost cv_M_leastCost rfl rfl (c_M_leastCost (w := sI w 89 0 (nI 0)) hMG hW) (rcv_obj hX (lv_89 _) rfl rfl) (by omega) (by omega) (by omega) (Nat.le_of_ble_eq_true rfl) ?_
      rintro _ w1 ⟨rfl, hS, hbr⟩
      show G0 _ _ _ _ _ _ _ _
      refine g_istore2 hX d_M_best_24 rfl (by decide) ?_
      refine g_iload2 hX d_M_best_25 ?_
      refine g_iconst (v := -1) hX d_M_best_26 rfl ?_
      refine g_icmp_eq hX d_M_best_27 (fun e27 => ?_) (fun e27 => ?_)
      · refine g_iload2 hX d_M_best_35 ?_
        refine g_goto hX d_M_best_36 ?_
        refine g_iret hX hF d_M_best_45 (by omega) (by omega) ?_
        refine ⟨?_, h.keep (hS0.tr hS), (hS0.tr hS).1⟩
        rw [best_a (by first | exact Or.inl e7 | exact Or.inr e15) (Or.inl e27)]
      · refine g_iload1 hX d_M_best_30 ?_
        refine g_iconst (v := -1) hX d_M_best_31 rfl ?_
        refine g_icmp_ne hX d_M_best_32 (fun e32 => ?_) (fun e32 => ?_)
        · refine g_aload0 hX d_M_best_39 ?_
          refine g_getF hX d_M_best_40 fl_M_120 (lv_89 _) ?_
          refine g_iload1 hX d_M_best_43 ?_
          obtain ⟨j, hj, rfl, -⟩ := inN_of e15 (by omega)
          have hl := least_n e27
          refine g_iald hX d_M_best_44 (lv_116 _) rfl (by omega) ?_
          refine g_topi (hbr hl j hj) ?_
          refine g_iret hX hF d_M_best_45 (by omega) (by omega) ?_
          refine ⟨?_, h.keep (hS0.tr hS), (hS0.tr hS).1⟩
          first
            | rw [best_b hj hv e27]
            | rw [best_a (by first | exact Or.inl e7 | exact Or.inr e15) (by first | exact Or.inl e27 | exact Or.inr e32)]
        · refine g_iload2 hX d_M_best_35 ?_
          refine g_goto hX d_M_best_36 ?_
          refine g_iret hX hF d_M_best_45 (by omega) (by omega) ?_
          refine ⟨?_, h.keep (hS0.tr hS), (hS0.tr hS).1⟩
          first
            | rw [best_b hj hv e27]
            | rw [best_a (by first | exact Or.inl e7 | exact Or.inr e15) (by first | exact Or.inl e27 | exact Or.inr e32)]
    · refine g_iconst (v := -1) hX d_M_best_18 rfl ?_
      refine g_iret hX hF d_M_best_19 (by omega) (by omega) ?_
      refine ⟨?_, h.keep (by repeat (first | exact Scr.rf _ | refine Scr.I9 (by decide) ?_ | refine Scr.I (by decide) ?_ | refine Scr.A (by decide) ?_ | refine Scr.J9 ?_ | refine Scr.J (by decide) ?_ | refine Scr.B (by decide) ?_)), (by repeat (first | exact FrM.rf _ | refine FrM.I (by decide) ?_ | refine FrM.A (by decide) ?_ | refine FrM.B (by decide) ?_ | refine FrM.J9 ?_ | refine FrM.J (by decide) ?_))⟩
      rw [best_no ⟨e7, e15⟩]
