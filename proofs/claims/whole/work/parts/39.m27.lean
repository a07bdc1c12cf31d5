def m_M_way : MR := (⟨"SubgraphDeskModel", "way", "(II)I"⟩, prog_14_method_87_code, 4, (some .int))
theorem cf_M_way : CF m_M_way 2 := ⟨gd 2034 (by decide +kernel) rfl, gd 151 (by decide +kernel) rfl, by decide +kernel, by decide, by decide +kernel⟩
theorem cv_M_way : CV m_M_way := ⟨gd 2032 (by decide +kernel) rfl, gd 2033 (by decide +kernel) rfl⟩
def m_M_ways : MR := (⟨"SubgraphDeskModel", "ways", "()I"⟩, prog_14_method_86_code, 1, (some .int))
theorem cf_M_ways : CF m_M_ways 0 := ⟨gd 2007 (by decide +kernel) rfl, gd 151 (by decide +kernel) rfl, by decide +kernel, by decide, by decide +kernel⟩
theorem cv_M_ways : CV m_M_ways := ⟨gd 2005 (by decide +kernel) rfl, gd 2006 (by decide +kernel) rfl⟩
def m_M_waysOf : MR := (⟨"SubgraphDeskModel", "waysOf", "()I"⟩, prog_14_method_85_code, 2, (some .int))
theorem cf_M_waysOf : CF m_M_waysOf 0 := ⟨gd 2011 (by decide +kernel) rfl, gd 151 (by decide +kernel) rfl, by decide +kernel, by decide, by decide +kernel⟩
theorem cv_M_waysOf : CV m_M_waysOf := ⟨gd 2010 (by decide +kernel) rfl, gd 106 (by decide +kernel) rfl⟩
theorem d_M_way_0 : Dc prog_14_method_87_code 0 (.aload_n 0) 1 1 := ⟨by decide +kernel, rfl⟩
theorem d_M_way_1 : Dc prog_14_method_87_code 1 (.iconst 0) 1 2 := ⟨by decide +kernel, rfl⟩
theorem d_M_way_2 : Dc prog_14_method_87_code 2 (.putfield 170) 3 5 := ⟨by decide +kernel, rfl⟩
theorem d_M_way_5 : Dc prog_14_method_87_code 5 (.aload_n 0) 1 6 := ⟨by decide +kernel, rfl⟩
theorem d_M_way_6 : Dc prog_14_method_87_code 6 (.iload_n 2) 1 7 := ⟨by decide +kernel, rfl⟩
theorem d_M_way_7 : Dc prog_14_method_87_code 7 (.invokevirtual 221) 3 10 := ⟨by decide +kernel, rfl⟩
theorem d_M_way_10 : Dj prog_14_method_87_code 10 (.ifCond .eq 7) 13 7 17 := ⟨by decide +kernel, rfl, rfl⟩
theorem d_M_way_13 : Dc prog_14_method_87_code 13 (.iload_n 1) 1 14 := ⟨by decide +kernel, rfl⟩
theorem d_M_way_14 : Dj prog_14_method_87_code 14 (.ifCond .ge 5) 17 5 19 := ⟨by decide +kernel, rfl, rfl⟩
theorem d_M_way_17 : Dc prog_14_method_87_code 17 (.iconst (-1)) 1 18 := ⟨by decide +kernel, rfl⟩
theorem d_M_way_18 : Dc prog_14_method_87_code 18 (.ireturn) 1 19 := ⟨by decide +kernel, rfl⟩
theorem d_M_way_19 : Dc prog_14_method_87_code 19 (.aload_n 0) 1 20 := ⟨by decide +kernel, rfl⟩
theorem d_M_way_20 : Dc prog_14_method_87_code 20 (.invokevirtual 474) 3 23 := ⟨by decide +kernel, rfl⟩
theorem d_M_way_23 : Dc prog_14_method_87_code 23 (.iconst 0) 1 24 := ⟨by decide +kernel, rfl⟩
theorem d_M_way_24 : Dc prog_14_method_87_code 24 (.istore_n 3) 1 25 := ⟨by decide +kernel, rfl⟩
theorem d_M_way_25 : Dc prog_14_method_87_code 25 (.aload_n 0) 1 26 := ⟨by decide +kernel, rfl⟩
theorem d_M_way_26 : Dc prog_14_method_87_code 26 (.invokevirtual 477) 3 29 := ⟨by decide +kernel, rfl⟩
theorem d_M_way_29 : Dj prog_14_method_87_code 29 (.ifCond .eq 21) 32 21 50 := ⟨by decide +kernel, rfl, rfl⟩
theorem d_M_way_32 : Dc prog_14_method_87_code 32 (.iload_n 3) 1 33 := ⟨by decide +kernel, rfl⟩
theorem d_M_way_33 : Dc prog_14_method_87_code 33 (.iload_n 1) 1 34 := ⟨by decide +kernel, rfl⟩
theorem d_M_way_34 : Dj prog_14_method_87_code 34 (.if_icmp .ne 10) 37 10 44 := ⟨by decide +kernel, rfl, rfl⟩
theorem d_M_way_37 : Dc prog_14_method_87_code 37 (.aload_n 0) 1 38 := ⟨by decide +kernel, rfl⟩
theorem d_M_way_38 : Dc prog_14_method_87_code 38 (.getfield 111) 3 41 := ⟨by decide +kernel, rfl⟩
theorem d_M_way_41 : Dc prog_14_method_87_code 41 (.iload_n 2) 1 42 := ⟨by decide +kernel, rfl⟩
theorem d_M_way_42 : Dc prog_14_method_87_code 42 (.iaload) 1 43 := ⟨by decide +kernel, rfl⟩
theorem d_M_way_43 : Dc prog_14_method_87_code 43 (.ireturn) 1 44 := ⟨by decide +kernel, rfl⟩
theorem d_M_way_44 : Dc prog_14_method_87_code 44 (.iinc 3 1) 3 47 := ⟨by decide +kernel, rfl⟩
theorem d_M_way_47 : Dj prog_14_method_87_code 47 (.goto (-22)) 50 (-22) 25 := ⟨by decide +kernel, rfl, rfl⟩
theorem d_M_way_50 : Dc prog_14_method_87_code 50 (.iconst (-1)) 1 51 := ⟨by decide +kernel, rfl⟩
theorem d_M_way_51 : Dc prog_14_method_87_code 51 (.ireturn) 1 52 := ⟨by decide +kernel, rfl⟩
theorem d_M_ways_0 : Dc prog_14_method_86_code 0 (.aload_n 0) 1 1 := ⟨by decide +kernel, rfl⟩
theorem d_M_ways_1 : Dc prog_14_method_86_code 1 (.iconst 0) 1 2 := ⟨by decide +kernel, rfl⟩
theorem d_M_ways_2 : Dc prog_14_method_86_code 2 (.putfield 170) 3 5 := ⟨by decide +kernel, rfl⟩
theorem d_M_ways_5 : Dc prog_14_method_86_code 5 (.aload_n 0) 1 6 := ⟨by decide +kernel, rfl⟩
theorem d_M_ways_6 : Dc prog_14_method_86_code 6 (.invokevirtual 480) 3 9 := ⟨by decide +kernel, rfl⟩
theorem d_M_ways_9 : Dc prog_14_method_86_code 9 (.ireturn) 1 10 := ⟨by decide +kernel, rfl⟩
theorem d_M_waysOf_0 : Dc prog_14_method_85_code 0 (.iconst 0) 1 1 := ⟨by decide +kernel, rfl⟩
theorem d_M_waysOf_1 : Dc prog_14_method_85_code 1 (.istore_n 1) 1 2 := ⟨by decide +kernel, rfl⟩
theorem d_M_waysOf_2 : Dc prog_14_method_85_code 2 (.aload_n 0) 1 3 := ⟨by decide +kernel, rfl⟩
theorem d_M_waysOf_3 : Dc prog_14_method_85_code 3 (.invokevirtual 474) 3 6 := ⟨by decide +kernel, rfl⟩
theorem d_M_waysOf_6 : Dc prog_14_method_85_code 6 (.aload_n 0) 1 7 := ⟨by decide +kernel, rfl⟩
theorem d_M_waysOf_7 : Dc prog_14_method_85_code 7 (.invokevirtual 477) 3 10 := ⟨by decide +kernel, rfl⟩
theorem d_M_waysOf_10 : Dj prog_14_method_85_code 10 (.ifCond .eq 9) 13 9 19 := ⟨by decide +kernel, rfl, rfl⟩
theorem d_M_waysOf_13 : Dc prog_14_method_85_code 13 (.iinc 1 1) 3 16 := ⟨by decide +kernel, rfl⟩
theorem d_M_waysOf_16 : Dj prog_14_method_85_code 16 (.goto (-10)) 19 (-10) 6 := ⟨by decide +kernel, rfl, rfl⟩
theorem d_M_waysOf_19 : Dc prog_14_method_85_code 19 (.iload_n 1) 1 20 := ⟨by decide +kernel, rfl⟩
theorem d_M_waysOf_20 : Dc prog_14_method_85_code 20 (.ireturn) 1 21 := ⟨by decide +kernel, rfl⟩
theorem ml_M_474 : Cond.methodLink "SubgraphDeskModel" 474 m_M_beginWays.1 ∈ lw_gd := gd 2012 (by decide +kernel) rfl
theorem ml_M_477 : Cond.methodLink "SubgraphDeskModel" 477 m_M_isWay.1 ∈ lw_gd := gd 2020 (by decide +kernel) rfl
theorem ml_M_480 : Cond.methodLink "SubgraphDeskModel" 480 m_M_waysOf.1 ∈ lw_gd := gd 2008 (by decide +kernel) rfl
theorem WayP.c {g : GC} {ws : List (List Nat)} {r : Option Value} {w2 : Mem} (h : WayP g ws r w2) : ∃ x, r = some (.int x) ∧ ((x = 0 ∧ ws = []) ∨ (x = nI 1 ∧ ∃ q t, ws = q :: t ∧ q.length = gV g ∧ (∀ n ∈ q, n < gN g) ∧ LieP w2 q ∧ ItW w2 g t)) := by
  cases ws with
  | nil => exact ⟨_, h, Or.inl ⟨rfl, rfl⟩⟩
  | cons q t => exact ⟨_, h.1, Or.inr ⟨rfl, q, t, rfl, h.2⟩⟩
def opWays (g : GC) : Int32 := nI (waysL g).length
noncomputable def opWay (k v : Int32) (g : GC) : Int32 := by
  classical
  exact if ¬ inN v (gV g) ∨ k < 0 then -1 else match (waysL g)[tn k]? with
    | none => -1
    | some q => nI (gA q (tn v))
theorem way_no {k v : Int32} {g : GC} (h : ¬ inN v (gV g) ∨ k < 0) : opWay k v g = -1 := by unfold opWay; exact if_pos h
theorem way_ok {k v : Nat} {g : GC} (hk : k < 2 ^ 31) (hv : v < gV g) (hV : gV g ≤ 5) : opWay (nI k) (nI v) g = match (waysL g)[k]? with | none => -1 | some q => nI (gA q v) := by
  unfold opWay
  refine (if_neg ?_).trans ?_
  · rintro (h | h)
    · exact h (inN_nI hv (by omega))
    · exact nI_pos hk h
  · rw [tn_nI hk, tn_nI (by omega)]
theorem c_M_waysOf {E : EV} {w : Mem} {g : GC} (hG : MG w g) (hW : WG g) : T E m_M_waysOf 7 0 0 [.ref 89] w (fun r w2 => r = some (.int (nI (waysL g).length)) ∧ Scr w w2) := by
  refine T_of (L := [.ref 89, un]) cf_M_waysOf rfl (Nat.le_of_ble_eq_true rfl) (fun X hX hF => ?_)
  have lp : ∀ (fuel : Nat) (ws : List (List Nat)) (i : Nat) (wk : Mem), ws.length < fuel → (Scr w wk) → (Laid wk g) → (ItW wk g ws) → (i + ws.length = (waysL g).length) → G0 E X 0 0 6 [.ref 89, .int (nI i)] [] wk := by
    intro fuel
    induction fuel with
    | zero => intro ws i wk q0; exact absurd q0 (Nat.not_lt_zero _)
    | succ fuel ih =>
      intro ws i wk q0 q1 q2 q3 q4
      refine g_aload0 hX d_M_waysOf_6 ?_
      refine g_callV (As := []) hX hF.1 d_M_waysOf_7 ml_M_477 cf_M_isWay cv_M_isWay rfl rfl (c_M_isWay (hG.scr q1) hW q2 q3) (rcv_obj hX (lv_89 _) rfl rfl) (by omega) (by omega) (by omega) (Nat.le_of_ble_eq_true rfl) ?_
      rintro _ w2 ⟨hf, hp⟩
      obtain ⟨x, rfl, hx⟩ := hp.c
      show G0 _ _ _ _ _ _ _ _
      refine g_if_eq hX d_M_waysOf_10 (fun e10 => ?_) (fun e10 => ?_)
      · have e_ : ws = [] := by
          rcases hx with hx | hx
          · exact hx.2
          · exact absurd (hx.1.symm.trans e10) (by decide)
        refine g_iload1 hX d_M_waysOf_19 ?_
        refine g_iret hX hF d_M_waysOf_20 (by omega) (by omega) ?_
        have h0 : ws.length = 0 := by rw [e_]; rfl
        exact ⟨by rw [show i = (waysL g).length by omega], q1.tr hf.S⟩
      · obtain ⟨q, t, hqt, ql, qn, qL, qI⟩ : ∃ q t, ws = q :: t ∧ q.length = gV g ∧ (∀ n ∈ q, n < gN g) ∧ LieP w2 q ∧ ItW w2 g t := by
          rcases hx with hx | hx
          · exact absurd hx.1 e10
          · exact hx.2
        have hl : ws.length = t.length + 1 := by rw [hqt]; rfl
        refine g_iincN1 hX d_M_waysOf_13 rfl (by decide) ?_
        refine g_goto hX d_M_waysOf_16 ?_
        exact ih t (i + 1) w2 (by omega) (q1.tr hf.S) (q2.I hf) qI (by omega)
  refine g_iconst (v := nI 0) hX d_M_waysOf_0 rfl ?_
  refine g_istore1 hX d_M_waysOf_1 rfl (by decide) ?_
  refine g_aload0 hX d_M_waysOf_2 ?_
  refine g_callV (As := []) hX hF.1 d_M_waysOf_3 ml_M_474 cf_M_beginWays cv_M_beginWays rfl rfl (c_M_beginWays hG hW) (rcv_obj hX (lv_89 _) rfl rfl) (by omega) (by omega) (by omega) (Nat.le_of_ble_eq_true rfl) ?_
  rintro _ w1 ⟨rfl, hS, hLd, hIt⟩
  show G0 _ _ _ _ _ _ _ _
  exact lp _ (waysL g) 0 w1 (Nat.lt_succ_self _) hS hLd hIt (Nat.zero_add _)
theorem c_M_ways {E : EV} {w : Mem} {s : SG} (h : MInv w s) : T E m_M_ways 8 0 0 [.ref 89] w (fun r w2 => r = some (.int (opWays (sG s))) ∧ MInv w2 s ∧ FrM w w2) := by
  refine T_of (L := [.ref 89]) cf_M_ways rfl (Nat.le_of_ble_eq_true rfl) (fun X hX hF => ?_)
  obtain ⟨⟨hR, hL, hW⟩, hU, hT, hI, hRf, hSt, hFa, hSm, hSp, hDr, hOr⟩ := id h
  have hn := hW.n
  have hv := hW.v
  have he := hW.el
  refine g_aload0 hX d_M_ways_0 ?_
  refine g_iconst (v := nI 0) hX d_M_ways_1 rfl ?_
  refine g_putI hX d_M_ways_2 fl_M_170 (lv_89 _) ?_
  have hMG : MG (sI w 89 0 (nI 0)) (sG s) := ⟨hR, hL, hOr⟩
  have hS0 : Scr w (sI w 89 0 (nI 0)) := (by repeat (first | exact Scr.rf _ | refine Scr.I9 (by decide) ?_ | refine Scr.I (by decide) ?_ | refine Scr.A (by decide) ?_ | refine Scr.J9 ?_ | refine Scr.J (by decide) ?_ | refine Scr.B (by decide) ?_))
  refine g_aload0 hX d_M_ways_5 ?_
  refine g_callV (As := []) hX hF.1 d_M_ways_6 ml_M_480 cf_M_waysOf cv_M_waysOf rfl rfl (c_M_waysOf (w := sI w 89 0 (nI 0)) hMG hW) (rcv_obj hX (lv_89 _) rfl rfl) (by omega) (by omega) (by omega) (Nat.le_of_ble_eq_true rfl) ?_
  rintro _ w1 ⟨rfl, hS⟩
  show G0 _ _ _ _ _ _ _ _
  refine g_iret hX hF d_M_ways_9 (by omega) (by omega) ?_
  exact ⟨rfl, h.keep (hS0.tr hS), (hS0.tr hS).1⟩
theorem c_M_way {E : EV} {w : Mem} {k v : Int32} {s : SG} (h : MInv w s) : T E m_M_way 8 0 0 [.ref 89, .int k, .int v] w (fun r w2 => r = some (.int (opWay k v (sG s))) ∧ MInv w2 s ∧ FrM w w2) := by
  refine T_of (L := [.ref 89, .int k, .int v, un]) cf_M_way rfl (Nat.le_of_ble_eq_true rfl) (fun X hX hF => ?_)
  obtain ⟨⟨hR, hL, hW⟩, hU, hT, hI, hRf, hSt, hFa, hSm, hSp, hDr, hOr⟩ := id h
  have hn := hW.n
  have hv := hW.v
  have he := hW.el
  refine g_aload0 hX d_M_way_0 ?_
  refine g_iconst (v := nI 0) hX d_M_way_1 rfl ?_
  refine g_putI hX d_M_way_2 fl_M_170 (lv_89 _) ?_
  refine g_aload0 hX d_M_way_5 ?_
  refine g_iload2 hX d_M_way_6 ?_
  refine g_callV (As := [_]) hX hF.1 d_M_way_7 ml_M_221 cf_M_isVertex cv_M_isVertex rfl rfl (c_M_isVertex hR hW) (rcv_obj hX (lv_89 _) rfl rfl) (by omega) (by omega) (by omega) (Nat.le_of_ble_eq_true rfl) ?_
  refine ret_k ?_
  refine g_ifB_eq hX d_M_way_10 (fun e10 => ?_) (fun e10 => ?_)
  · refine g_iconst (v := -1) hX d_M_way_17 rfl ?_
    refine g_iret hX hF d_M_way_18 (by omega) (by omega) ?_
    refine ⟨?_, h.keep (by repeat (first | exact Scr.rf _ | refine Scr.I9 (by decide) ?_ | refine Scr.I (by decide) ?_ | refine Scr.A (by decide) ?_ | refine Scr.J9 ?_ | refine Scr.J (by decide) ?_ | refine Scr.B (by decide) ?_)), (by repeat (first | exact FrM.rf _ | refine FrM.I (by decide) ?_ | refine FrM.A (by decide) ?_ | refine FrM.B (by decide) ?_ | refine FrM.J9 ?_ | refine FrM.J (by decide) ?_))⟩
    rw [way_no (by first | exact Or.inl e10 | exact Or.inr (Int32.not_le.mp e14))]
  · obtain ⟨v, hjv, rfl, htv⟩ := inN_of e10 (by omega)
    refine g_iload1 hX d_M_way_13 ?_
    refine g_if_ge hX d_M_way_14 (fun e14 => ?_) (fun e14 => ?_)
    · obtain ⟨k, hk2, rfl⟩ := nI_of (fun z => absurd e14 (Int32.not_le.mpr z))
      have hMG : MG (sI w 89 0 (nI 0)) (sG s) := ⟨hR, hL, hOr⟩
      have hS0 : Scr w (sI w 89 0 (nI 0)) := (by repeat (first | exact Scr.rf _ | refine Scr.I9 (by decide) ?_ | refine Scr.I (by decide) ?_ | refine Scr.A (by decide) ?_ | refine Scr.J9 ?_ | refine Scr.J (by decide) ?_ | refine Scr.B (by decide) ?_))
      have hMG0 : MG w (sG s) := ⟨hR, hL, hOr⟩
      have lp : ∀ (fuel : Nat) (ws : List (List Nat)) (i : Nat) (wk : Mem), ws.length < fuel → (Scr w wk) → (Laid wk (sG s)) → (ItW wk (sG s) ws) → ((waysL (sG s)).drop i = ws) → (i ≤ k) → G0 E X 0 0 25 [.ref 89, .int (nI k), .int (nI v), .int (nI i)] [] wk := by
        intro fuel
        induction fuel with
        | zero => intro ws i wk q0; exact absurd q0 (Nat.not_lt_zero _)
        | succ fuel ih =>
          intro ws i wk q0 q1 q2 q3 q4 q5
          refine g_aload0 hX d_M_way_25 ?_
          refine g_callV (As := []) hX hF.1 d_M_way_26 ml_M_477 cf_M_isWay cv_M_isWay rfl rfl (c_M_isWay (g := sG s) (hMG0.scr q1) hW q2 q3) (rcv_obj hX (lv_89 _) rfl rfl) (by omega) (by omega) (by omega) (Nat.le_of_ble_eq_true rfl) ?_
          rintro _ w2 ⟨hf, hp⟩
          obtain ⟨x, rfl, hx⟩ := hp.c
          show G0 _ _ _ _ _ _ _ _
          refine g_if_eq hX d_M_way_29 (fun e29 => ?_) (fun e29 => ?_)
          · have e_ : ws = [] := by
              rcases hx with hx | hx
              · exact hx.2
              · exact absurd (hx.1.symm.trans e29) (by decide)
            refine g_iconst (v := -1) hX d_M_way_50 rfl ?_
            refine g_iret hX hF d_M_way_51 (by omega) (by omega) ?_
            refine ⟨?_, h.keep (q1.tr hf.S), (q1.tr hf.S).1⟩
            have hg : (waysL (sG s))[k]? = none := by
              rw [List.getElem?_eq_none_iff]
              have := congrArg List.length (q4.trans e_)
              rw [List.length_drop] at this
              have h0 : ([] : List (List Nat)).length = 0 := rfl
              omega
            rw [way_ok hk2 hjv hv, hg]
          · obtain ⟨q, t, hqt, ql, qn, qL, qI⟩ : ∃ q t, ws = q :: t ∧ q.length = gV (sG s) ∧ (∀ n ∈ q, n < gN (sG s)) ∧ LieP w2 q ∧ ItW w2 (sG s) t := by
              rcases hx with hx | hx
              · exact absurd hx.1 e29
              · exact hx.2
            have hl : ws.length = t.length + 1 := by rw [hqt]; rfl
            refine g_iload3 hX d_M_way_32 ?_
            refine g_iload1 hX d_M_way_33 ?_
            refine g_icmpN_ne hX d_M_way_34 (by omega) (by omega) (fun e34 => ?_) (fun e34 => ?_)
            · refine g_iincN3 hX d_M_way_44 rfl (by decide) ?_
              refine g_goto hX d_M_way_47 ?_
              exact ih t (i + 1) w2 (by omega) (q1.tr hf.S) (q2.I hf) qI (by rw [← List.drop_drop, q4, hqt]; rfl) (by omega)
            · refine g_aload0 hX d_M_way_37 ?_
              refine g_getF hX d_M_way_38 fl_M_111 (lv_89 _) ?_
              refine g_iload2 hX d_M_way_41 ?_
              refine g_iald hX d_M_way_42 (lv_113 _) rfl (by omega) ?_
              refine g_topi (qL v (by omega)) ?_
              refine g_iret hX hF d_M_way_43 (by omega) (by omega) ?_
              refine ⟨?_, h.keep (q1.tr hf.S), (q1.tr hf.S).1⟩
              have hg : (waysL (sG s))[k]? = some q := by
                rw [← e34, ← List.head?_drop, q4, hqt]
                rfl
              rw [way_ok hk2 hjv hv, hg]
      refine g_aload0 hX d_M_way_19 ?_
      refine g_callV (As := []) hX hF.1 d_M_way_20 ml_M_474 cf_M_beginWays cv_M_beginWays rfl rfl (c_M_beginWays (w := sI w 89 0 (nI 0)) hMG hW) (rcv_obj hX (lv_89 _) rfl rfl) (by omega) (by omega) (by omega) (Nat.le_of_ble_eq_true rfl) ?_
      rintro _ w1 ⟨rfl, hS, hLd, hIt⟩
      show G0 _ _ _ _ _ _ _ _
      refine g_iconst (v := nI 0) hX d_M_way_23 rfl ?_
      refine g_istore3 hX d_M_way_24 rfl (by decide) ?_
      exact lp _ (waysL (sG s)) 0 w1 (Nat.lt_succ_self _) (hS0.tr hS) hLd hIt rfl (Nat.zero_le _)
    · refine g_iconst (v := -1) hX d_M_way_17 rfl ?_
      refine g_iret hX hF d_M_way_18 (by omega) (by omega) ?_
      refine ⟨?_, h.keep (by repeat (first | exact Scr.rf _ | refine Scr.I9 (by decide) ?_ | refine Scr.I (by decide) ?_ | refine Scr.A (by decide) ?_ | refine Scr.J9 ?_ | refine Scr.J (by decide) ?_ | refine Scr.B (by decide) ?_)), (by repeat (first | exact FrM.rf _ | refine FrM.I (by decide) ?_ | refine FrM.A (by decide) ?_ | refine FrM.B (by decide) ?_ | refine FrM.J9 ?_ | refine FrM.J (by decide) ?_))⟩
      rw [way_no (by first | exact Or.inl e10 | exact Or.inr (Int32.not_le.mp e14))]
