def m_M_steps : MR := (⟨"SubgraphDeskModel", "steps", "(I)I"⟩, prog_14_method_107_code, 3, (some .int))
theorem cf_M_steps : CF m_M_steps 1 := ⟨gd 2099 (by decide +kernel) rfl, gd 151 (by decide +kernel) rfl, by decide +kernel, by decide, by decide +kernel⟩
theorem cv_M_steps : CV m_M_steps := ⟨gd 2097 (by decide +kernel) rfl, gd 2098 (by decide +kernel) rfl⟩
def m_M_within : MR := (⟨"SubgraphDeskModel", "within", "(I)I"⟩, prog_14_method_108_code, 2, (some .int))
theorem cf_M_within : CF m_M_within 1 := ⟨gd 2120 (by decide +kernel) rfl, gd 151 (by decide +kernel) rfl, by decide +kernel, by decide, by decide +kernel⟩
theorem cv_M_within : CV m_M_within := ⟨gd 2118 (by decide +kernel) rfl, gd 2119 (by decide +kernel) rfl⟩
theorem d_M_steps_0 : Dc prog_14_method_107_code 0 (.aload_n 0) 1 1 := ⟨by decide +kernel, rfl⟩
theorem d_M_steps_1 : Dc prog_14_method_107_code 1 (.iconst 0) 1 2 := ⟨by decide +kernel, rfl⟩
theorem d_M_steps_2 : Dc prog_14_method_107_code 2 (.putfield 170) 3 5 := ⟨by decide +kernel, rfl⟩
theorem d_M_steps_5 : Dc prog_14_method_107_code 5 (.iload_n 1) 1 6 := ⟨by decide +kernel, rfl⟩
theorem d_M_steps_6 : Dc prog_14_method_107_code 6 (.i2l) 1 7 := ⟨by decide +kernel, rfl⟩
theorem d_M_steps_7 : Dc prog_14_method_107_code 7 (.lconst 0) 1 8 := ⟨by decide +kernel, rfl⟩
theorem d_M_steps_8 : Dc prog_14_method_107_code 8 (.ldc2_w 526) 3 11 := ⟨by decide +kernel, rfl⟩
theorem d_M_steps_11 : Dc prog_14_method_107_code 11 (.invokestatic 190) 3 14 := ⟨by decide +kernel, rfl⟩
theorem d_M_steps_14 : Dj prog_14_method_107_code 14 (.ifCond .ne 5) 17 5 19 := ⟨by decide +kernel, rfl, rfl⟩
theorem d_M_steps_17 : Dc prog_14_method_107_code 17 (.iconst (-1)) 1 18 := ⟨by decide +kernel, rfl⟩
theorem d_M_steps_18 : Dc prog_14_method_107_code 18 (.ireturn) 1 19 := ⟨by decide +kernel, rfl⟩
theorem d_M_steps_19 : Dc prog_14_method_107_code 19 (.aload_n 0) 1 20 := ⟨by decide +kernel, rfl⟩
theorem d_M_steps_20 : Dc prog_14_method_107_code 20 (.iconst 4) 1 21 := ⟨by decide +kernel, rfl⟩
theorem d_M_steps_21 : Dc prog_14_method_107_code 21 (.invokevirtual 511) 3 24 := ⟨by decide +kernel, rfl⟩
theorem d_M_steps_24 : Dc prog_14_method_107_code 24 (.iconst 0) 1 25 := ⟨by decide +kernel, rfl⟩
theorem d_M_steps_25 : Dc prog_14_method_107_code 25 (.istore_n 2) 1 26 := ⟨by decide +kernel, rfl⟩
theorem d_M_steps_26 : Dc prog_14_method_107_code 26 (.iload_n 2) 1 27 := ⟨by decide +kernel, rfl⟩
theorem d_M_steps_27 : Dc prog_14_method_107_code 27 (.aload_n 0) 1 28 := ⟨by decide +kernel, rfl⟩
theorem d_M_steps_28 : Dc prog_14_method_107_code 28 (.getfield 13) 3 31 := ⟨by decide +kernel, rfl⟩
theorem d_M_steps_31 : Dc prog_14_method_107_code 31 (.iconst 1) 1 32 := ⟨by decide +kernel, rfl⟩
theorem d_M_steps_32 : Dc prog_14_method_107_code 32 (.iaload) 1 33 := ⟨by decide +kernel, rfl⟩
theorem d_M_steps_33 : Dj prog_14_method_107_code 33 (.if_icmp .ge 25) 36 25 58 := ⟨by decide +kernel, rfl, rfl⟩
theorem d_M_steps_36 : Dc prog_14_method_107_code 36 (.iload_n 1) 1 37 := ⟨by decide +kernel, rfl⟩
theorem d_M_steps_37 : Dj prog_14_method_107_code 37 (.ifCond .ne 21) 40 21 58 := ⟨by decide +kernel, rfl, rfl⟩
theorem d_M_steps_40 : Dc prog_14_method_107_code 40 (.aload_n 0) 1 41 := ⟨by decide +kernel, rfl⟩
theorem d_M_steps_41 : Dc prog_14_method_107_code 41 (.getfield 123) 3 44 := ⟨by decide +kernel, rfl⟩
theorem d_M_steps_44 : Dc prog_14_method_107_code 44 (.iload_n 2) 1 45 := ⟨by decide +kernel, rfl⟩
theorem d_M_steps_45 : Dc prog_14_method_107_code 45 (.aload_n 0) 1 46 := ⟨by decide +kernel, rfl⟩
theorem d_M_steps_46 : Dc prog_14_method_107_code 46 (.getfield 105) 3 49 := ⟨by decide +kernel, rfl⟩
theorem d_M_steps_49 : Dc prog_14_method_107_code 49 (.iload_n 2) 1 50 := ⟨by decide +kernel, rfl⟩
theorem d_M_steps_50 : Dc prog_14_method_107_code 50 (.iaload) 1 51 := ⟨by decide +kernel, rfl⟩
theorem d_M_steps_51 : Dc prog_14_method_107_code 51 (.iastore) 1 52 := ⟨by decide +kernel, rfl⟩
theorem d_M_steps_52 : Dc prog_14_method_107_code 52 (.iinc 2 1) 3 55 := ⟨by decide +kernel, rfl⟩
theorem d_M_steps_55 : Dj prog_14_method_107_code 55 (.goto (-29)) 58 (-29) 26 := ⟨by decide +kernel, rfl, rfl⟩
theorem d_M_steps_58 : Dc prog_14_method_107_code 58 (.iload_n 1) 1 59 := ⟨by decide +kernel, rfl⟩
theorem d_M_steps_59 : Dc prog_14_method_107_code 59 (.iconst 2) 1 60 := ⟨by decide +kernel, rfl⟩
theorem d_M_steps_60 : Dj prog_14_method_107_code 60 (.if_icmp .ge 10) 63 10 70 := ⟨by decide +kernel, rfl, rfl⟩
theorem d_M_steps_63 : Dc prog_14_method_107_code 63 (.aload_n 0) 1 64 := ⟨by decide +kernel, rfl⟩
theorem d_M_steps_64 : Dc prog_14_method_107_code 64 (.invokevirtual 528) 3 67 := ⟨by decide +kernel, rfl⟩
theorem d_M_steps_67 : Dj prog_14_method_107_code 67 (.goto 10) 70 10 77 := ⟨by decide +kernel, rfl, rfl⟩
theorem d_M_steps_70 : Dc prog_14_method_107_code 70 (.aload_n 0) 1 71 := ⟨by decide +kernel, rfl⟩
theorem d_M_steps_71 : Dc prog_14_method_107_code 71 (.ldc_w 498) 3 74 := ⟨by decide +kernel, rfl⟩
theorem d_M_steps_74 : Dc prog_14_method_107_code 74 (.invokevirtual 531) 3 77 := ⟨by decide +kernel, rfl⟩
theorem d_M_steps_77 : Dc prog_14_method_107_code 77 (.ireturn) 1 78 := ⟨by decide +kernel, rfl⟩
theorem d_M_within_0 : Dc prog_14_method_108_code 0 (.aload_n 0) 1 1 := ⟨by decide +kernel, rfl⟩
theorem d_M_within_1 : Dc prog_14_method_108_code 1 (.iconst 0) 1 2 := ⟨by decide +kernel, rfl⟩
theorem d_M_within_2 : Dc prog_14_method_108_code 2 (.putfield 170) 3 5 := ⟨by decide +kernel, rfl⟩
theorem d_M_within_5 : Dc prog_14_method_108_code 5 (.iload_n 1) 1 6 := ⟨by decide +kernel, rfl⟩
theorem d_M_within_6 : Dc prog_14_method_108_code 6 (.i2l) 1 7 := ⟨by decide +kernel, rfl⟩
theorem d_M_within_7 : Dc prog_14_method_108_code 7 (.lconst 0) 1 8 := ⟨by decide +kernel, rfl⟩
theorem d_M_within_8 : Dc prog_14_method_108_code 8 (.ldc2_w 534) 3 11 := ⟨by decide +kernel, rfl⟩
theorem d_M_within_11 : Dc prog_14_method_108_code 11 (.invokestatic 190) 3 14 := ⟨by decide +kernel, rfl⟩
theorem d_M_within_14 : Dj prog_14_method_108_code 14 (.ifCond .ne 5) 17 5 19 := ⟨by decide +kernel, rfl, rfl⟩
theorem d_M_within_17 : Dc prog_14_method_108_code 17 (.iconst (-1)) 1 18 := ⟨by decide +kernel, rfl⟩
theorem d_M_within_18 : Dc prog_14_method_108_code 18 (.ireturn) 1 19 := ⟨by decide +kernel, rfl⟩
theorem d_M_within_19 : Dc prog_14_method_108_code 19 (.aload_n 0) 1 20 := ⟨by decide +kernel, rfl⟩
theorem d_M_within_20 : Dc prog_14_method_108_code 20 (.iconst 4) 1 21 := ⟨by decide +kernel, rfl⟩
theorem d_M_within_21 : Dc prog_14_method_108_code 21 (.invokevirtual 511) 3 24 := ⟨by decide +kernel, rfl⟩
theorem d_M_within_24 : Dc prog_14_method_108_code 24 (.aload_n 0) 1 25 := ⟨by decide +kernel, rfl⟩
theorem d_M_within_25 : Dc prog_14_method_108_code 25 (.iload_n 1) 1 26 := ⟨by decide +kernel, rfl⟩
theorem d_M_within_26 : Dc prog_14_method_108_code 26 (.invokevirtual 531) 3 29 := ⟨by decide +kernel, rfl⟩
theorem d_M_within_29 : Dc prog_14_method_108_code 29 (.pop) 1 30 := ⟨by decide +kernel, rfl⟩
theorem d_M_within_30 : Dc prog_14_method_108_code 30 (.aload_n 0) 1 31 := ⟨by decide +kernel, rfl⟩
theorem d_M_within_31 : Dc prog_14_method_108_code 31 (.getfield 13) 3 34 := ⟨by decide +kernel, rfl⟩
theorem d_M_within_34 : Dc prog_14_method_108_code 34 (.iconst 1) 1 35 := ⟨by decide +kernel, rfl⟩
theorem d_M_within_35 : Dc prog_14_method_108_code 35 (.iaload) 1 36 := ⟨by decide +kernel, rfl⟩
theorem d_M_within_36 : Dj prog_14_method_108_code 36 (.ifCond .ne 7) 39 7 43 := ⟨by decide +kernel, rfl, rfl⟩
theorem d_M_within_39 : Dc prog_14_method_108_code 39 (.iconst 1) 1 40 := ⟨by decide +kernel, rfl⟩
theorem d_M_within_40 : Dj prog_14_method_108_code 40 (.goto 7) 43 7 47 := ⟨by decide +kernel, rfl, rfl⟩
theorem d_M_within_43 : Dc prog_14_method_108_code 43 (.aload_n 0) 1 44 := ⟨by decide +kernel, rfl⟩
theorem d_M_within_44 : Dc prog_14_method_108_code 44 (.getfield 520) 3 47 := ⟨by decide +kernel, rfl⟩
theorem d_M_within_47 : Dc prog_14_method_108_code 47 (.ireturn) 1 48 := ⟨by decide +kernel, rfl⟩
theorem ml_M_528 : Cond.methodLink "SubgraphDeskModel" 528 m_M_stepsRising.1 ∈ lw_gd := gd 2101 (by decide +kernel) rfl
theorem ml_M_531 : Cond.methodLink "SubgraphDeskModel" 531 m_M_stepsFewest.1 ∈ lw_gd := gd 2105 (by decide +kernel) rfl
theorem k_M_526 : Cond.constantLong "SubgraphDeskModel" 526 (2) ∈ lw_gd := gd 2100 (by decide +kernel) rfl
theorem k_M_534 : Cond.constantLong "SubgraphDeskModel" 534 (9999) ∈ lw_gd := gd 2121 (by decide +kernel) rfl
/-- the candidates on which a search goes -/
def candS (g : GC) (s : Nat) : Nat → Nat := if s = 0 then (fun v => mayN g v (gN g)) else candN g 4
def stepsG (g : GC) (s : Nat) : Nat := if s < 2 then stepsC g (candS g s) (gV g) [] else if gV g = 0 then 0 else (huntG g (candN g 4) 100000000 (gV g) (fun _ => none) (0, 0)).1
noncomputable def opSteps (x : Int32) (g : GC) : Int32 := by
  classical
  exact if inN x 3 then nI (stepsG g (tn x)) else -1
noncomputable def opWithin (x : Int32) (g : GC) : Int32 := by
  classical
  exact if inN x 10000 then nI (huntG g (candN g 4) (tn x) (gV g) (fun _ => none) (0, 0)).2 else -1
theorem steps_no {x : Int32} {g : GC} (h : ¬ inN x 3) : opSteps x g = -1 := by unfold opSteps; exact if_neg h
theorem steps_ok {x : Nat} {g : GC} (h : x < 3) : opSteps (nI x) g = nI (stepsG g x) := by
  unfold opSteps
  refine (if_pos (inN_nI h (by decide))).trans ?_
  rw [tn_nI (by omega)]
theorem within_no {x : Int32} {g : GC} (h : ¬ inN x 10000) : opWithin x g = -1 := by unfold opWithin; exact if_neg h
theorem within_ok {x : Nat} {g : GC} (h : x < 10000) : opWithin (nI x) g = nI (huntG g (candN g 4) x (gV g) (fun _ => none) (0, 0)).2 := by
  unfold opWithin
  refine (if_pos (inN_nI h (by decide))).trans ?_
  rw [tn_nI (by omega)]
theorem candS_lt {g : GC} (hN : gN g ≤ 12) (s v : Nat) : candS g s v < 2 ^ 12 := by
  unfold candS
  split
  · exact mayN_lt g v _ hN
  · exact candN_lt hN v 4
theorem candS_0 {g : GC} {s v : Nat} (h : s = 0) : candS g s v = mayN g v (gN g) := by unfold candS; rw [if_pos h]
theorem candS_1 {g : GC} {s : Nat} (h : ¬ s = 0) : candS g s = candN g 4 := by unfold candS; rw [if_neg h]
theorem FrC.mg {w w2 : Mem} {g : GC} (h : FrC w w2) (h2 : MG w g) : MG w2 g := h2.scr h.S
theorem c_M_steps {E : EV} {w : Mem} {x : Int32} {s : SG} (h : MInv w s) : T E m_M_steps 8 0 0 [.ref 89, .int x] w (fun r w2 => r = some (.int (opSteps x (sG s))) ∧ MInv w2 s ∧ FrM w w2) := by
  refine T_of (L := [.ref 89, .int x, un]) cf_M_steps rfl (Nat.le_of_ble_eq_true rfl) (fun X hX hF => ?_)
  obtain ⟨⟨hR, hL, hW⟩, hU, hT, hI, hRf, hSt, hFa, hSm, hSp, hDr, hOr⟩ := id h
  have hn := hW.n
  have hv := hW.v
  have he := hW.el
  refine g_aload0 hX d_M_steps_0 ?_
  refine g_iconst (v := nI 0) hX d_M_steps_1 rfl ?_
  refine g_putI hX d_M_steps_2 fl_M_170 (lv_89 _) ?_
  refine g_iload1 hX d_M_steps_5 ?_
  refine g_i2l hX d_M_steps_6 ?_
  refine g_lconst (v := lN 0) hX d_M_steps_7 rfl ?_
  refine g_ldc2 (v := lN 2) hX d_M_steps_8 k_M_526 rfl ?_
  refine g_callS (As := [_, _, _]) hX hF.1 d_M_steps_11 ml_M_190 cf_M_in cs_M_in rfl (c_M_in) (by omega) (by omega) (by omega) (Nat.le_of_ble_eq_true rfl) ?_
  refine ret_k ?_
  refine g_ifB_ne hX d_M_steps_14 (fun e14 => ?_) (fun e14 => ?_)
  · obtain ⟨x, hx3, rfl, htx⟩ := inN_of ((in_le (by decide)).mp e14) (by decide)
    have hMG : MG (sI w 89 0 (nI 0)) (sG s) := ⟨hR, hL, hOr⟩
    have hS0 : Scr w (sI w 89 0 (nI 0)) := (by repeat (first | exact Scr.rf _ | refine Scr.I9 (by decide) ?_ | refine Scr.I (by decide) ?_ | refine Scr.A (by decide) ?_ | refine Scr.J9 ?_ | refine Scr.J (by decide) ?_ | refine Scr.B (by decide) ?_))
    refine g_aload0 hX d_M_steps_19 ?_
    refine g_iconst (v := nI 4) hX d_M_steps_20 rfl ?_
    refine g_callV (As := [_]) hX hF.1 d_M_steps_21 ml_M_511 cf_M_layCandidates cv_M_layCandidates rfl rfl (c_M_layCandidates (w := sI w 89 0 (nI 0)) hMG hW (by omega)) (rcv_obj hX (lv_89 _) rfl rfl) (by omega) (by omega) (by omega) (Nat.le_of_ble_eq_true rfl) ?_
    rintro _ w1 ⟨rfl, hS, hLd, hC⟩
    have hMG1 := hMG.scr hS
    have k58 : ∀ (wk : Mem) (v : Nat), FrC w1 wk → CandP wk (sG s) (candS (sG s) x) → G0 E X 0 0 58 [.ref 89, .int (nI x), .int (nI v)] [] wk := by
      intro wk v r1 r2
      have hMk := r1.mg hMG1
      have hLk := r1.laid hLd
      have hSk := hS0.tr (hS.tr r1.S)
      refine g_iload1 hX d_M_steps_58 ?_
      refine g_iconst (v := nI 2) hX d_M_steps_59 rfl ?_
      refine g_icmpN_ge hX d_M_steps_60 (by omega) (by omega) (fun e60 => ?_) (fun e60 => ?_)
      · rw [candS_1 (by omega)] at r2
        refine g_aload0 hX d_M_steps_70 ?_
        refine g_ldc_w (v := nI 100000000) hX d_M_steps_71 k_M_498 rfl ?_
        refine g_callV (As := [_]) hX hF.1 d_M_steps_74 ml_M_531 cf_M_stepsFewest cv_M_stepsFewest rfl rfl (c_M_stepsFewest (most := 100000000) hMk.1 hW hLk.1 r2 (fun v _ => candN_lt hn v 4) (Nat.le_refl _)) (rcv_obj hX (lv_89 _) rfl rfl) (by omega) (by omega) (by omega) (Nat.le_of_ble_eq_true rfl) ?_
        rintro _ w3 ⟨rfl, hf, -⟩
        show G0 _ _ _ _ _ _ _ _
        refine g_iret hX hF d_M_steps_77 (by omega) (by omega) ?_
        refine ⟨?_, h.keep (hSk.tr hf.S), (hSk.tr hf.S).1⟩
        rw [steps_ok hx3]
        unfold stepsG
        rw [if_neg (show ¬ x < 2 by omega)]
      · refine g_aload0 hX d_M_steps_63 ?_
        refine g_callV (As := []) hX hF.1 d_M_steps_64 ml_M_528 cf_M_stepsRising cv_M_stepsRising rfl rfl (c_M_stepsRising hMk.1 hW hLk.1 r2 (fun v _ => candS_lt hn x v)) (rcv_obj hX (lv_89 _) rfl rfl) (by omega) (by omega) (by omega) (Nat.le_of_ble_eq_true rfl) ?_
        rintro _ w3 ⟨rfl, hf⟩
        show G0 _ _ _ _ _ _ _ _
        refine g_goto hX d_M_steps_67 ?_
        refine g_iret hX hF d_M_steps_77 (by omega) (by omega) ?_
        refine ⟨?_, h.keep (hSk.tr hf.S), (hSk.tr hf.S).1⟩
        rw [steps_ok hx3]
        unfold stepsG
        rw [if_pos (show x < 2 by omega)]
    have lp : ∀ (fuel : Nat) (v : Nat) (wk : Mem), gV (sG s) - v < fuel → (v ≤ gV (sG s)) → (FrC w1 wk) → (∀ u, u < v → rI wk 117 u = nI (mayN (sG s) u (gN (sG s)))) → (∀ u, v ≤ u → u < gV (sG s) → rI wk 117 u = nI (candN (sG s) 4 u)) → (v = 0 ∨ x = 0) → G0 E X 0 0 26 [.ref 89, .int (nI x), .int (nI v)] [] wk := by
      intro fuel
      induction fuel with
      | zero => intro v wk q0; exact absurd q0 (Nat.not_lt_zero _)
      | succ fuel ih =>
        intro v wk q0 q1 q2 q3 q4 q5
        have hMk := q2.mg hMG1
        have hLk := q2.laid hLd
        refine g_iload2 hX d_M_steps_26 ?_
        refine g_aload0 hX d_M_steps_27 ?_
        refine g_getF hX d_M_steps_28 fl_M_13 (lv_89 _) ?_
        refine g_iconst (v := nI 1) hX d_M_steps_31 rfl ?_
        refine g_iald hX d_M_steps_32 (lv_91 _) rfl (by decide) ?_
        refine g_topi hMk.1.v ?_
        refine g_icmpN_ge hX d_M_steps_33 (by omega) (by omega) (fun c0 => ?_) (fun c0 => ?_)
        · refine k58 wk v q2 (fun u hu => ?_)
          rcases q5 with q5 | q5
          · omega
          · rw [candS_0 q5]; exact q3 u (by omega)
        · refine g_iload1 hX d_M_steps_36 ?_
          refine g_if_ne hX d_M_steps_37 (fun c37 => ?_) (fun c37 => ?_)
          · have e37 : ¬ x = 0 := fun z => c37 (by rw [z]; rfl)
            refine k58 wk v q2 (fun u hu => ?_)
            rw [candS_1 e37]
            rcases q5 with q5 | q5
            · exact q4 u (by omega) hu
            · exact absurd q5 e37
          · have e37 : x = 0 := nI_inj (by omega) (by decide) c37
            refine g_aload0 hX d_M_steps_40 ?_
            refine g_getF hX d_M_steps_41 fl_M_123 (lv_89 _) ?_
            refine g_iload2 hX d_M_steps_44 ?_
            refine g_aload0 hX d_M_steps_45 ?_
            refine g_getF hX d_M_steps_46 fl_M_105 (lv_89 _) ?_
            refine g_iload2 hX d_M_steps_49 ?_
            refine g_iald hX d_M_steps_50 (lv_111 _) rfl (by omega) ?_
            refine g_topi (hLk.2.1 v (by omega)) ?_
            refine g_iast hX d_M_steps_51 (lv_117 _) rfl (by omega) ?_
            refine g_iincN2 hX d_M_steps_52 rfl (by decide) ?_
            refine g_goto hX d_M_steps_55 ?_
            refine ih (v + 1) _ (by omega) (by omega) (q2.I (Or.inl rfl)) (fun u hu => ?_) (fun u h1 h2 => ?_) (Or.inr e37)
            · rw [rI_sI, upd_eq]
              by_cases e : u = v
              · rw [if_pos e, e]
              · rw [if_neg e]; exact q3 u (by omega)
            · rw [rI_sI, upd_eq, if_neg (by omega)]; exact q4 u (by omega) h2
    show G0 _ _ _ _ _ _ _ _
    refine g_iconst (v := nI 0) hX d_M_steps_24 rfl ?_
    refine g_istore2 hX d_M_steps_25 rfl (by decide) ?_
    exact lp (gV (sG s) + 1) 0 w1 (by omega) (Nat.zero_le _) (FrC.rf w1) (fun u hu => absurd hu (Nat.not_lt_zero _)) (fun u _ hu => hC u hu) (Or.inl rfl)
  · refine g_iconst (v := -1) hX d_M_steps_17 rfl ?_
    refine g_iret hX hF d_M_steps_18 (by omega) (by omega) ?_
    refine ⟨?_, h.keep (by repeat (first | exact Scr.rf _ | refine Scr.I9 (by decide) ?_ | refine Scr.I (by decide) ?_ | refine Scr.A (by decide) ?_ | refine Scr.J9 ?_ | refine Scr.J (by decide) ?_ | refine Scr.B (by decide) ?_)), (by repeat (first | exact FrM.rf _ | refine FrM.I (by decide) ?_ | refine FrM.A (by decide) ?_ | refine FrM.B (by decide) ?_ | refine FrM.J9 ?_ | refine FrM.J (by decide) ?_))⟩
    rw [steps_no (mt (in_le (by decide)).mpr e14)]
theorem c_M_within {E : EV} {w : Mem} {x : Int32} {s : SG} (h : MInv w s) : T E m_M_within 8 0 0 [.ref 89, .int x] w (fun r w2 => r = some (.int (opWithin x (sG s))) ∧ MInv w2 s ∧ FrM w w2) := by
  refine T_of (L := [.ref 89, .int x]) cf_M_within rfl (Nat.le_of_ble_eq_true rfl) (fun X hX hF => ?_)
  obtain ⟨⟨hR, hL, hW⟩, hU, hT, hI, hRf, hSt, hFa, hSm, hSp, hDr, hOr⟩ := id h
  have hn := hW.n
  have hv := hW.v
  have he := hW.el
  refine g_aload0 hX d_M_within_0 ?_
  refine g_iconst (v := nI 0) hX d_M_within_1 rfl ?_
  refine g_putI hX d_M_within_2 fl_M_170 (lv_89 _) ?_
  refine g_iload1 hX d_M_within_5 ?_
  refine g_i2l hX d_M_within_6 ?_
  refine g_lconst (v := lN 0) hX d_M_within_7 rfl ?_
  refine g_ldc2 (v := lN 9999) hX d_M_within_8 k_M_534 rfl ?_
  refine g_callS (As := [_, _, _]) hX hF.1 d_M_within_11 ml_M_190 cf_M_in cs_M_in rfl (c_M_in) (by omega) (by omega) (by omega) (Nat.le_of_ble_eq_true rfl) ?_
  refine ret_k ?_
  refine g_ifB_ne hX d_M_within_14 (fun e14 => ?_) (fun e14 => ?_)
  · obtain ⟨x, hx3, rfl, htx⟩ := inN_of ((in_le (by decide)).mp e14) (by decide)
    have hMG : MG (sI w 89 0 (nI 0)) (sG s) := ⟨hR, hL, hOr⟩
    have hS0 : Scr w (sI w 89 0 (nI 0)) := (by repeat (first | exact Scr.rf _ | refine Scr.I9 (by decide) ?_ | refine Scr.I (by decide) ?_ | refine Scr.A (by decide) ?_ | refine Scr.J9 ?_ | refine Scr.J (by decide) ?_ | refine Scr.B (by decide) ?_))
    refine g_aload0 hX d_M_within_19 ?_
    refine g_iconst (v := nI 4) hX d_M_within_20 rfl ?_
    refine g_callV (As := [_]) hX hF.1 d_M_within_21 ml_M_511 cf_M_layCandidates cv_M_layCandidates rfl rfl (c_M_layCandidates (w := sI w 89 0 (nI 0)) hMG hW (by omega)) (rcv_obj hX (lv_89 _) rfl rfl) (by omega) (by omega) (by omega) (Nat.le_of_ble_eq_true rfl) ?_
    rintro _ w1 ⟨rfl, hS, hLd, hC⟩
    have hMG1 := hMG.scr hS
    show G0 _ _ _ _ _ _ _ _
    refine g_aload0 hX d_M_within_24 ?_
    refine g_iload1 hX d_M_within_25 ?_
    refine g_callV (As := [_]) hX hF.1 d_M_within_26 ml_M_531 cf_M_stepsFewest cv_M_stepsFewest rfl rfl (c_M_stepsFewest (most := x) hMG1.1 hW hLd.1 hC (fun v _ => candN_lt hn v 4) (by omega)) (rcv_obj hX (lv_89 _) rfl rfl) (by omega) (by omega) (by omega) (Nat.le_of_ble_eq_true rfl) ?_
    rintro _ w3 ⟨rfl, hf, hwh⟩
    have hMG3 := hMG1.scr hf.S
    have hSk := hS0.tr (hS.tr hf.S)
    show G0 _ _ _ _ _ _ _ _
    refine g_pop hX d_M_within_29 rfl ?_
    refine g_aload0 hX d_M_within_30 ?_
    refine g_getF hX d_M_within_31 fl_M_13 (lv_89 _) ?_
    refine g_iconst (v := nI 1) hX d_M_within_34 rfl ?_
    refine g_iald hX d_M_within_35 (lv_91 _) rfl (by decide) ?_
    refine g_topi hMG3.1.v ?_
    refine g_if_ne hX d_M_within_36 (fun e36 => ?_) (fun e36 => ?_)
    · have hv0 : ¬ gV (sG s) = 0 := fun z => e36 (by rw [z]; rfl)
      refine g_aload0 hX d_M_within_43 ?_
      refine g_getI hX d_M_within_44 fl_M_520 (lv_89 _) ?_
      refine g_topi (hwh (by omega)) ?_
      refine g_iret hX hF d_M_within_47 (by omega) (by omega) ?_
      refine ⟨?_, h.keep hSk, hSk.1⟩
      rw [within_ok hx3]
      all_goals first | rfl | (rw [hv0]; rfl) | rw [hv0]
    · have hv0 : gV (sG s) = 0 := nI_inj (by omega) (by decide) e36
      refine g_iconst (v := nI 1) hX d_M_within_39 rfl ?_
      refine g_goto hX d_M_within_40 ?_
      refine g_iret hX hF d_M_within_47 (by omega) (by omega) ?_
      refine ⟨?_, h.keep hSk, hSk.1⟩
      rw [within_ok hx3]
      all_goals first | rfl | (rw [hv0]; rfl) | rw [hv0]
  · refine g_iconst (v := -1) hX d_M_within_17 rfl ?_
    refine g_iret hX hF d_M_within_18 (by omega) (by omega) ?_
    refine ⟨?_, h.keep (by repeat (first | exact Scr.rf _ | refine Scr.I9 (by decide) ?_ | refine Scr.I (by decide) ?_ | refine Scr.A (by decide) ?_ | refine Scr.J9 ?_ | refine Scr.J (by decide) ?_ | refine Scr.B (by decide) ?_)), (by repeat (first | exact FrM.rf _ | refine FrM.I (by decide) ?_ | refine FrM.A (by decide) ?_ | refine FrM.B (by decide) ?_ | refine FrM.J9 ?_ | refine FrM.J (by decide) ?_))⟩
    rw [within_no (mt (in_le (by decide)).mpr e14)]
