def m_M_terms : MR := (⟨"SubgraphDeskModel", "terms", "(II)I"⟩, prog_14_method_30_code, 4, (some .int))
theorem cf_M_terms : CF m_M_terms 2 := ⟨gd 1790 (by decide +kernel) rfl, gd 151 (by decide +kernel) rfl, by decide +kernel, by decide, by decide +kernel⟩
theorem cv_M_terms : CV m_M_terms := ⟨gd 1788 (by decide +kernel) rfl, gd 1789 (by decide +kernel) rfl⟩
theorem d_M_terms_0 : Dc prog_14_method_30_code 0 (.aload_n 0) 1 1 := ⟨by decide +kernel, rfl⟩
theorem d_M_terms_1 : Dc prog_14_method_30_code 1 (.iconst 0) 1 2 := ⟨by decide +kernel, rfl⟩
theorem d_M_terms_2 : Dc prog_14_method_30_code 2 (.putfield 170) 3 5 := ⟨by decide +kernel, rfl⟩
theorem d_M_terms_5 : Dc prog_14_method_30_code 5 (.iload_n 1) 1 6 := ⟨by decide +kernel, rfl⟩
theorem d_M_terms_6 : Dj prog_14_method_30_code 6 (.ifCond .ne 15) 9 15 21 := ⟨by decide +kernel, rfl, rfl⟩
theorem d_M_terms_9 : Dc prog_14_method_30_code 9 (.iload_n 2) 1 10 := ⟨by decide +kernel, rfl⟩
theorem d_M_terms_10 : Dc prog_14_method_30_code 10 (.i2l) 1 11 := ⟨by decide +kernel, rfl⟩
theorem d_M_terms_11 : Dc prog_14_method_30_code 11 (.lconst 0) 1 12 := ⟨by decide +kernel, rfl⟩
theorem d_M_terms_12 : Dc prog_14_method_30_code 12 (.ldc2_w 234) 3 15 := ⟨by decide +kernel, rfl⟩
theorem d_M_terms_15 : Dc prog_14_method_30_code 15 (.invokestatic 190) 3 18 := ⟨by decide +kernel, rfl⟩
theorem d_M_terms_18 : Dj prog_14_method_30_code 18 (.goto 42) 21 42 60 := ⟨by decide +kernel, rfl, rfl⟩
theorem d_M_terms_21 : Dc prog_14_method_30_code 21 (.iload_n 1) 1 22 := ⟨by decide +kernel, rfl⟩
theorem d_M_terms_22 : Dc prog_14_method_30_code 22 (.iconst 1) 1 23 := ⟨by decide +kernel, rfl⟩
theorem d_M_terms_23 : Dj prog_14_method_30_code 23 (.if_icmp .ne 15) 26 15 38 := ⟨by decide +kernel, rfl, rfl⟩
theorem d_M_terms_26 : Dc prog_14_method_30_code 26 (.iload_n 2) 1 27 := ⟨by decide +kernel, rfl⟩
theorem d_M_terms_27 : Dc prog_14_method_30_code 27 (.i2l) 1 28 := ⟨by decide +kernel, rfl⟩
theorem d_M_terms_28 : Dc prog_14_method_30_code 28 (.lconst 0) 1 29 := ⟨by decide +kernel, rfl⟩
theorem d_M_terms_29 : Dc prog_14_method_30_code 29 (.ldc2_w 236) 3 32 := ⟨by decide +kernel, rfl⟩
theorem d_M_terms_32 : Dc prog_14_method_30_code 32 (.invokestatic 190) 3 35 := ⟨by decide +kernel, rfl⟩
theorem d_M_terms_35 : Dj prog_14_method_30_code 35 (.goto 25) 38 25 60 := ⟨by decide +kernel, rfl, rfl⟩
theorem d_M_terms_38 : Dc prog_14_method_30_code 38 (.iload_n 1) 1 39 := ⟨by decide +kernel, rfl⟩
theorem d_M_terms_39 : Dc prog_14_method_30_code 39 (.iconst 2) 1 40 := ⟨by decide +kernel, rfl⟩
theorem d_M_terms_40 : Dj prog_14_method_30_code 40 (.if_icmp .ne 19) 43 19 59 := ⟨by decide +kernel, rfl, rfl⟩
theorem d_M_terms_43 : Dc prog_14_method_30_code 43 (.iload_n 2) 1 44 := ⟨by decide +kernel, rfl⟩
theorem d_M_terms_44 : Dc prog_14_method_30_code 44 (.i2l) 1 45 := ⟨by decide +kernel, rfl⟩
theorem d_M_terms_45 : Dc prog_14_method_30_code 45 (.lconst 0) 1 46 := ⟨by decide +kernel, rfl⟩
theorem d_M_terms_46 : Dc prog_14_method_30_code 46 (.ldc2_w 238) 3 49 := ⟨by decide +kernel, rfl⟩
theorem d_M_terms_49 : Dc prog_14_method_30_code 49 (.invokestatic 190) 3 52 := ⟨by decide +kernel, rfl⟩
theorem d_M_terms_52 : Dj prog_14_method_30_code 52 (.ifCond .eq 7) 55 7 59 := ⟨by decide +kernel, rfl, rfl⟩
theorem d_M_terms_55 : Dc prog_14_method_30_code 55 (.iconst 1) 1 56 := ⟨by decide +kernel, rfl⟩
theorem d_M_terms_56 : Dj prog_14_method_30_code 56 (.goto 4) 59 4 60 := ⟨by decide +kernel, rfl, rfl⟩
theorem d_M_terms_59 : Dc prog_14_method_30_code 59 (.iconst 0) 1 60 := ⟨by decide +kernel, rfl⟩
theorem d_M_terms_60 : Dc prog_14_method_30_code 60 (.istore_n 3) 1 61 := ⟨by decide +kernel, rfl⟩
theorem d_M_terms_61 : Dc prog_14_method_30_code 61 (.iload_n 3) 1 62 := ⟨by decide +kernel, rfl⟩
theorem d_M_terms_62 : Dj prog_14_method_30_code 62 (.ifCond .ne 9) 65 9 71 := ⟨by decide +kernel, rfl, rfl⟩
theorem d_M_terms_65 : Dc prog_14_method_30_code 65 (.aload_n 0) 1 66 := ⟨by decide +kernel, rfl⟩
theorem d_M_terms_66 : Dc prog_14_method_30_code 66 (.iconst (-1)) 1 67 := ⟨by decide +kernel, rfl⟩
theorem d_M_terms_67 : Dc prog_14_method_30_code 67 (.invokevirtual 179) 3 70 := ⟨by decide +kernel, rfl⟩
theorem d_M_terms_70 : Dc prog_14_method_30_code 70 (.ireturn) 1 71 := ⟨by decide +kernel, rfl⟩
theorem d_M_terms_71 : Dc prog_14_method_30_code 71 (.aload_n 0) 1 72 := ⟨by decide +kernel, rfl⟩
theorem d_M_terms_72 : Dc prog_14_method_30_code 72 (.iconst 0) 1 73 := ⟨by decide +kernel, rfl⟩
theorem d_M_terms_73 : Dc prog_14_method_30_code 73 (.putfield 176) 3 76 := ⟨by decide +kernel, rfl⟩
theorem d_M_terms_76 : Dc prog_14_method_30_code 76 (.aload_n 0) 1 77 := ⟨by decide +kernel, rfl⟩
theorem d_M_terms_77 : Dc prog_14_method_30_code 77 (.bipush 6) 2 79 := ⟨by decide +kernel, rfl⟩
theorem d_M_terms_79 : Dc prog_14_method_30_code 79 (.iload_n 1) 1 80 := ⟨by decide +kernel, rfl⟩
theorem d_M_terms_80 : Dc prog_14_method_30_code 80 (.iadd) 1 81 := ⟨by decide +kernel, rfl⟩
theorem d_M_terms_81 : Dc prog_14_method_30_code 81 (.iload_n 2) 1 82 := ⟨by decide +kernel, rfl⟩
theorem d_M_terms_82 : Dc prog_14_method_30_code 82 (.invokevirtual 240) 3 85 := ⟨by decide +kernel, rfl⟩
theorem d_M_terms_85 : Dc prog_14_method_30_code 85 (.ireturn) 1 86 := ⟨by decide +kernel, rfl⟩
theorem ml_M_240 : Cond.methodLink "SubgraphDeskModel" 240 m_M_change.1 ∈ lw_gd := gd 1794 (by decide +kernel) rfl
theorem k_M_234 : Cond.constantLong "SubgraphDeskModel" 234 (999) ∈ lw_gd := gd 1791 (by decide +kernel) rfl
theorem k_M_236 : Cond.constantLong "SubgraphDeskModel" 236 (10) ∈ lw_gd := gd 1792 (by decide +kernel) rfl
theorem k_M_238 : Cond.constantLong "SubgraphDeskModel" 238 (9) ∈ lw_gd := gd 1793 (by decide +kernel) rfl
theorem MRow.keepTop {f f2 : Nat → Int32} {g : GC} (h : MRow f g) (e : ∀ i, f2 i = f i) : MRow f2 g := by
  have : f2 = f := funext e
  rw [this]; exact h
theorem MRow.term {f : Nat → Int32} {g : GC} {j x : Nat} (h : MRow f g) (hW : WG g) (hj : j < 3) : MRow (upd f (6 + j) (nI x)) (gTerm g j x) := by
  have hn := hW.n
  have hv := hW.v
  have hs := hW.sl
  have hne : ∀ i, i < 6 ∨ 9 ≤ i → upd f (6 + j) (nI x) i = f i := fun i hi => by rw [upd_eq, if_neg (by omega)]
  refine ⟨by rw [hne 0 (by omega)]; exact h.n, by rw [hne 1 (by omega)]; exact h.v, by rw [hne 2 (by omega)]; exact h.s, by rw [hne 3 (by omega)]; exact h.l, by rw [hne 4 (by omega)]; exact h.fo, fun i hi => ?_, fun i hi => ?_, fun v hv2 => ?_, fun v hv2 => ?_, h.e.congr hW.el (fun i h1 h2 => hne i (by omega)), fun k q hq => ?_⟩
  · show _ = nI (if i = j then x else gT g i)
    rw [upd_eq]
    by_cases he : i = j
    · rw [if_pos (by omega), if_pos he]
    · rw [if_neg (by omega), if_neg he]; exact h.t i hi
  · rw [hne _ (by omega)]; exact h.c i hi
  · rw [hne _ (by omega)]; exact h.y v hv2
  · rw [hne _ (by omega)]; exact h.k v hv2
  · rw [hne _ (by omega), hne _ (by omega)]; exact h.sn k q hq
theorem WG.term {g : GC} {j x : Nat} (h : WG g) (hj : (j = 0 ∧ x ≤ 999) ∨ (j = 1 ∧ x ≤ 10) ∨ (j = 2 ∧ x ≤ 9)) : WG (gTerm g j x) := by
  refine ⟨h.n, h.c, h.ed, h.eo, h.v, h.y, h.k, h.ks, h.ki, h.sl, h.so, ?_, h.ll, h.fo⟩
  have := h.t
  show (if 0 = j then x else gT g 0) ≤ 999 ∧ (if 1 = j then x else gT g 1) ≤ 10 ∧ (if 2 = j then x else gT g 2) ≤ 9
  rcases hj with ⟨rfl, hx⟩ | ⟨rfl, hx⟩ | ⟨rfl, hx⟩ <;> simp <;> omega
/-- terms(), refused -/
theorem opTerms_no {what v : Int32} {s : SG} (h : ¬ ((what = nI 0 ∧ inN v 1000) ∨ (what = nI 1 ∧ inN v 11) ∨ (what = nI 2 ∧ inN v 10))) : opTerms what v s = sNo 1 s := by
  unfold opTerms
  exact if_neg h
theorem opTerms_ok {j x : Nat} {s : SG} (hj : j < 3) (hx : x < 1000) (h : (nI j = nI 0 ∧ inN (nI x) 1000) ∨ (nI j = nI 1 ∧ inN (nI x) 11) ∨ (nI j = nI 2 ∧ inN (nI x) 10)) : opTerms (nI j) (nI x) s = sOk (nI (gT (sG s) j)) (wU (wG s (gTerm (sG s) j x)) []) := by
  unfold opTerms
  refine (if_pos h).trans ?_
  rw [tn_nI (by omega), tn_nI (by omega)]
theorem c_M_terms {E : EV} {w : Mem} {what v : Int32} {s : SG} (h : MInv w s) : T E m_M_terms 2 0 0 [.ref 89, .int what, .int v] w (fun r w2 => r = some (.int (opTerms what v s).1) ∧ MInv w2 (opTerms what v s).2 ∧ FrM w w2) := by
  refine T_of (L := [.ref 89, .int what, .int v, un]) cf_M_terms rfl (Nat.le_of_ble_eq_true rfl) (fun X hX hF => ?_)
  obtain ⟨⟨hR, hL, hW⟩, hU, hT, hI, hRf, hSt, hFa, hSm, hSp, hDr, hOr⟩ := id h
  have hn := hW.n
  by_cases h0 : what = nI 0
  · subst h0
    refine g_aload0 hX d_M_terms_0 ?_
    refine g_iconst (v := nI 0) hX d_M_terms_1 rfl ?_
    refine g_putI hX d_M_terms_2 fl_M_170 (lv_89 _) ?_
    refine g_iload1 hX d_M_terms_5 ?_
    refine g_if_ne hX d_M_terms_6 (fun h => absurd rfl h) (fun c0 => ?_)
    refine g_iload2 hX d_M_terms_9 ?_
    refine g_i2l hX d_M_terms_10 ?_
    refine g_lconst (v := lN 0) hX d_M_terms_11 rfl ?_
    refine g_ldc2 (v := lN 999) hX d_M_terms_12 k_M_234 rfl ?_
    refine g_callS (As := [_, _, _]) hX hF.1 d_M_terms_15 ml_M_190 cf_M_in cs_M_in rfl (c_M_in) (by omega) (by omega) (by omega) (Nat.le_of_ble_eq_true rfl) ?_
    refine ret_k ?_
    refine g_goto hX d_M_terms_18 ?_
    refine g_istore3 hX d_M_terms_60 rfl (by decide) ?_
    refine g_iload3 hX d_M_terms_61 ?_
    refine g_ifB_ne hX d_M_terms_62 (fun d62 => ?_) (fun d62 => ?_)
    · obtain ⟨x, hx, rfl, htx⟩ := inN_of ((in_le (by decide)).mp d62) (by decide)
      refine g_aload0 hX d_M_terms_71 ?_
      refine g_iconst (v := nI 0) hX d_M_terms_72 rfl ?_
      refine g_putI hX d_M_terms_73 fl_M_176 (lv_89 _) ?_
      refine g_aload0 hX d_M_terms_76 ?_
      refine g_bipush (v := nI 6) hX d_M_terms_77 rfl ?_
      refine g_iload1 hX d_M_terms_79 ?_
      refine g_iaddN hX d_M_terms_80 ?_
      refine g_iload2 hX d_M_terms_81 ?_
      refine g_callV (As := [_, _]) hX hF.1 d_M_terms_82 ml_M_240 cf_M_change cv_M_change rfl rfl (c_M_change (by omega)) (rcv_obj hX (lv_89 _) rfl rfl) (by omega) (by omega) (by omega) (Nat.le_of_ble_eq_true rfl) ?_
      refine ret_k ?_
      refine g_iret hX hF d_M_terms_85 (by omega) (by omega) ?_
      rw [opTerms_ok (j := 0) (by decide) (by omega) (by first | exact Or.inl ⟨rfl, inN_nI (by omega) (by decide)⟩ | exact Or.inr (Or.inl ⟨rfl, inN_nI (by omega) (by decide)⟩) | exact Or.inr (Or.inr ⟨rfl, inN_nI (by omega) (by decide)⟩))]
      refine ⟨congrArg (fun x => some (Value.int x)) (show rI w 91 6 = nI (gT (sG s) 0) from hR.t 0 (by decide)), ⟨⟨hR.term hW (by decide), hL.congr (fun i hi => show upd (rI w 91) _ _ i = rI w 91 i by rw [upd_eq, if_neg (by omega)]), hW.term (by omega)⟩, MUndo.nil, hT, hI, hRf, rfl, hFa, hSm, hSp, hDr, hOr⟩, (by repeat (first | exact FrM.rf _ | refine FrM.I (by decide) ?_ | refine FrM.A (by decide) ?_ | refine FrM.J9 ?_ | refine FrM.J (by decide) ?_))⟩
    · skip
      refine g_aload0 hX d_M_terms_65 ?_
      refine g_iconst (v := -1) hX d_M_terms_66 rfl ?_
      refine g_callV (As := [_]) hX hF.1 d_M_terms_67 ml_M_179 cf_M_tell cv_M_tell rfl rfl (c_M_tellN (k := 1) (by decide) (by decide)) (rcv_obj hX (lv_89 _) rfl rfl) (by omega) (by omega) (by omega) (Nat.le_of_ble_eq_true rfl) ?_
      refine ret_k ?_
      refine g_iret hX hF d_M_terms_70 (by omega) (by omega) ?_
      rw [opTerms_no (by rintro (⟨e, q⟩ | ⟨e, q⟩ | ⟨e, q⟩) <;> first | exact absurd e (by decide) | exact d62 ((in_le (by decide)).mpr q))]
      exact ⟨rfl, (h.thr (x := nI 0)).no (k := 1) (by decide), (by repeat (first | exact FrM.rf _ | refine FrM.I (by decide) ?_ | refine FrM.A (by decide) ?_ | refine FrM.J9 ?_ | refine FrM.J (by decide) ?_))⟩
  by_cases h1 : what = nI 1
  · subst h1
    refine g_aload0 hX d_M_terms_0 ?_
    refine g_iconst (v := nI 0) hX d_M_terms_1 rfl ?_
    refine g_putI hX d_M_terms_2 fl_M_170 (lv_89 _) ?_
    refine g_iload1 hX d_M_terms_5 ?_
    refine g_if_ne hX d_M_terms_6 (fun c0 => ?_) (fun h => absurd h (by decide))
    refine g_iload1 hX d_M_terms_21 ?_
    refine g_iconst (v := nI 1) hX d_M_terms_22 rfl ?_
    refine g_icmpN_ne hX d_M_terms_23 (by omega) (by omega) (fun h => absurd rfl h) (fun c1 => ?_)
    refine g_iload2 hX d_M_terms_26 ?_
    refine g_i2l hX d_M_terms_27 ?_
    refine g_lconst (v := lN 0) hX d_M_terms_28 rfl ?_
    refine g_ldc2 (v := lN 10) hX d_M_terms_29 k_M_236 rfl ?_
    refine g_callS (As := [_, _, _]) hX hF.1 d_M_terms_32 ml_M_190 cf_M_in cs_M_in rfl (c_M_in) (by omega) (by omega) (by omega) (Nat.le_of_ble_eq_true rfl) ?_
    refine ret_k ?_
    refine g_goto hX d_M_terms_35 ?_
    refine g_istore3 hX d_M_terms_60 rfl (by decide) ?_
    refine g_iload3 hX d_M_terms_61 ?_
    refine g_ifB_ne hX d_M_terms_62 (fun d62 => ?_) (fun d62 => ?_)
    · obtain ⟨x, hx, rfl, htx⟩ := inN_of ((in_le (by decide)).mp d62) (by decide)
      refine g_aload0 hX d_M_terms_71 ?_
      refine g_iconst (v := nI 0) hX d_M_terms_72 rfl ?_
      refine g_putI hX d_M_terms_73 fl_M_176 (lv_89 _) ?_
      refine g_aload0 hX d_M_terms_76 ?_
      refine g_bipush (v := nI 6) hX d_M_terms_77 rfl ?_
      refine g_iload1 hX d_M_terms_79 ?_
      refine g_iaddN hX d_M_terms_80 ?_
      refine g_iload2 hX d_M_terms_81 ?_
      refine g_callV (As := [_, _]) hX hF.1 d_M_terms_82 ml_M_240 cf_M_change cv_M_change rfl rfl (c_M_change (by omega)) (rcv_obj hX (lv_89 _) rfl rfl) (by omega) (by omega) (by omega) (Nat.le_of_ble_eq_true rfl) ?_
      refine ret_k ?_
      refine g_iret hX hF d_M_terms_85 (by omega) (by omega) ?_
      rw [opTerms_ok (j := 1) (by decide) (by omega) (by first | exact Or.inl ⟨rfl, inN_nI (by omega) (by decide)⟩ | exact Or.inr (Or.inl ⟨rfl, inN_nI (by omega) (by decide)⟩) | exact Or.inr (Or.inr ⟨rfl, inN_nI (by omega) (by decide)⟩))]
      refine ⟨congrArg (fun x => some (Value.int x)) (show rI w 91 7 = nI (gT (sG s) 1) from hR.t 1 (by decide)), ⟨⟨hR.term hW (by decide), hL.congr (fun i hi => show upd (rI w 91) _ _ i = rI w 91 i by rw [upd_eq, if_neg (by omega)]), hW.term (by omega)⟩, MUndo.nil, hT, hI, hRf, rfl, hFa, hSm, hSp, hDr, hOr⟩, (by repeat (first | exact FrM.rf _ | refine FrM.I (by decide) ?_ | refine FrM.A (by decide) ?_ | refine FrM.J9 ?_ | refine FrM.J (by decide) ?_))⟩
    · skip
      refine g_aload0 hX d_M_terms_65 ?_
      refine g_iconst (v := -1) hX d_M_terms_66 rfl ?_
      refine g_callV (As := [_]) hX hF.1 d_M_terms_67 ml_M_179 cf_M_tell cv_M_tell rfl rfl (c_M_tellN (k := 1) (by decide) (by decide)) (rcv_obj hX (lv_89 _) rfl rfl) (by omega) (by omega) (by omega) (Nat.le_of_ble_eq_true rfl) ?_
      refine ret_k ?_
      refine g_iret hX hF d_M_terms_70 (by omega) (by omega) ?_
      rw [opTerms_no (by rintro (⟨e, q⟩ | ⟨e, q⟩ | ⟨e, q⟩) <;> first | exact absurd e (by decide) | exact d62 ((in_le (by decide)).mpr q))]
      exact ⟨rfl, (h.thr (x := nI 0)).no (k := 1) (by decide), (by repeat (first | exact FrM.rf _ | refine FrM.I (by decide) ?_ | refine FrM.A (by decide) ?_ | refine FrM.J9 ?_ | refine FrM.J (by decide) ?_))⟩
  by_cases h2 : what = nI 2
  · subst h2
    refine g_aload0 hX d_M_terms_0 ?_
    refine g_iconst (v := nI 0) hX d_M_terms_1 rfl ?_
    refine g_putI hX d_M_terms_2 fl_M_170 (lv_89 _) ?_
    refine g_iload1 hX d_M_terms_5 ?_
    refine g_if_ne hX d_M_terms_6 (fun c0 => ?_) (fun h => absurd h (by decide))
    refine g_iload1 hX d_M_terms_21 ?_
    refine g_iconst (v := nI 1) hX d_M_terms_22 rfl ?_
    refine g_icmpN_ne hX d_M_terms_23 (by omega) (by omega) (fun c1 => ?_) (fun h => absurd h (by decide))
    refine g_iload1 hX d_M_terms_38 ?_
    refine g_iconst (v := nI 2) hX d_M_terms_39 rfl ?_
    refine g_icmpN_ne hX d_M_terms_40 (by omega) (by omega) (fun h => absurd rfl h) (fun c2 => ?_)
    refine g_iload2 hX d_M_terms_43 ?_
    refine g_i2l hX d_M_terms_44 ?_
    refine g_lconst (v := lN 0) hX d_M_terms_45 rfl ?_
    refine g_ldc2 (v := lN 9) hX d_M_terms_46 k_M_238 rfl ?_
    refine g_callS (As := [_, _, _]) hX hF.1 d_M_terms_49 ml_M_190 cf_M_in cs_M_in rfl (c_M_in) (by omega) (by omega) (by omega) (Nat.le_of_ble_eq_true rfl) ?_
    refine ret_k ?_
    refine g_ifB_eq hX d_M_terms_52 (fun d62 => ?_) (fun d62 => ?_)
    · skip
      refine g_iconst (v := nI 0) hX d_M_terms_59 rfl ?_
      refine g_istore3 hX d_M_terms_60 rfl (by decide) ?_
      refine g_iload3 hX d_M_terms_61 ?_
      refine g_if_ne hX d_M_terms_62 (fun h => absurd (by decide) h) (fun c4 => ?_)
      refine g_aload0 hX d_M_terms_65 ?_
      refine g_iconst (v := -1) hX d_M_terms_66 rfl ?_
      refine g_callV (As := [_]) hX hF.1 d_M_terms_67 ml_M_179 cf_M_tell cv_M_tell rfl rfl (c_M_tellN (k := 1) (by decide) (by decide)) (rcv_obj hX (lv_89 _) rfl rfl) (by omega) (by omega) (by omega) (Nat.le_of_ble_eq_true rfl) ?_
      refine ret_k ?_
      refine g_iret hX hF d_M_terms_70 (by omega) (by omega) ?_
      rw [opTerms_no (by rintro (⟨e, q⟩ | ⟨e, q⟩ | ⟨e, q⟩) <;> first | exact absurd e (by decide) | exact d62 ((in_le (by decide)).mpr q))]
      exact ⟨rfl, (h.thr (x := nI 0)).no (k := 1) (by decide), (by repeat (first | exact FrM.rf _ | refine FrM.I (by decide) ?_ | refine FrM.A (by decide) ?_ | refine FrM.J9 ?_ | refine FrM.J (by decide) ?_))⟩
    · obtain ⟨x, hx, rfl, htx⟩ := inN_of ((in_le (by decide)).mp d62) (by decide)
      refine g_iconst (v := nI 1) hX d_M_terms_55 rfl ?_
      refine g_goto hX d_M_terms_56 ?_
      refine g_istore3 hX d_M_terms_60 rfl (by decide) ?_
      refine g_iload3 hX d_M_terms_61 ?_
      refine g_if_ne hX d_M_terms_62 (fun c5 => ?_) (fun h => absurd h (by decide))
      refine g_aload0 hX d_M_terms_71 ?_
      refine g_iconst (v := nI 0) hX d_M_terms_72 rfl ?_
      refine g_putI hX d_M_terms_73 fl_M_176 (lv_89 _) ?_
      refine g_aload0 hX d_M_terms_76 ?_
      refine g_bipush (v := nI 6) hX d_M_terms_77 rfl ?_
      refine g_iload1 hX d_M_terms_79 ?_
      refine g_iaddN hX d_M_terms_80 ?_
      refine g_iload2 hX d_M_terms_81 ?_
      refine g_callV (As := [_, _]) hX hF.1 d_M_terms_82 ml_M_240 cf_M_change cv_M_change rfl rfl (c_M_change (by omega)) (rcv_obj hX (lv_89 _) rfl rfl) (by omega) (by omega) (by omega) (Nat.le_of_ble_eq_true rfl) ?_
      refine ret_k ?_
      refine g_iret hX hF d_M_terms_85 (by omega) (by omega) ?_
      rw [opTerms_ok (j := 2) (by decide) (by omega) (by first | exact Or.inl ⟨rfl, inN_nI (by omega) (by decide)⟩ | exact Or.inr (Or.inl ⟨rfl, inN_nI (by omega) (by decide)⟩) | exact Or.inr (Or.inr ⟨rfl, inN_nI (by omega) (by decide)⟩))]
      refine ⟨congrArg (fun x => some (Value.int x)) (show rI w 91 8 = nI (gT (sG s) 2) from hR.t 2 (by decide)), ⟨⟨hR.term hW (by decide), hL.congr (fun i hi => show upd (rI w 91) _ _ i = rI w 91 i by rw [upd_eq, if_neg (by omega)]), hW.term (by omega)⟩, MUndo.nil, hT, hI, hRf, rfl, hFa, hSm, hSp, hDr, hOr⟩, (by repeat (first | exact FrM.rf _ | refine FrM.I (by decide) ?_ | refine FrM.A (by decide) ?_ | refine FrM.J9 ?_ | refine FrM.J (by decide) ?_))⟩
  refine g_aload0 hX d_M_terms_0 ?_
  refine g_iconst (v := nI 0) hX d_M_terms_1 rfl ?_
  refine g_putI hX d_M_terms_2 fl_M_170 (lv_89 _) ?_
  refine g_iload1 hX d_M_terms_5 ?_
  refine g_if_ne hX d_M_terms_6 (fun c0 => ?_) (fun h => absurd h h0)
  refine g_iload1 hX d_M_terms_21 ?_
  refine g_iconst (v := nI 1) hX d_M_terms_22 rfl ?_
  refine g_icmp_ne hX d_M_terms_23 (fun c1 => ?_) (fun h => absurd h h1)
  refine g_iload1 hX d_M_terms_38 ?_
  refine g_iconst (v := nI 2) hX d_M_terms_39 rfl ?_
  refine g_icmp_ne hX d_M_terms_40 (fun c2 => ?_) (fun h => absurd h h2)
  refine g_iconst (v := nI 0) hX d_M_terms_59 rfl ?_
  refine g_istore3 hX d_M_terms_60 rfl (by decide) ?_
  refine g_iload3 hX d_M_terms_61 ?_
  refine g_if_ne hX d_M_terms_62 (fun h => absurd (by decide) h) (fun c3 => ?_)
  refine g_aload0 hX d_M_terms_65 ?_
  refine g_iconst (v := -1) hX d_M_terms_66 rfl ?_
  refine g_callV (As := [_]) hX hF.1 d_M_terms_67 ml_M_179 cf_M_tell cv_M_tell rfl rfl (c_M_tellN (k := 1) (by decide) (by decide)) (rcv_obj hX (lv_89 _) rfl rfl) (by omega) (by omega) (by omega) (Nat.le_of_ble_eq_true rfl) ?_
  refine ret_k ?_
  refine g_iret hX hF d_M_terms_70 (by omega) (by omega) ?_
  rw [opTerms_no (by rintro (⟨e, q⟩ | ⟨e, q⟩ | ⟨e, q⟩); exact h0 e; exact h1 e; exact h2 e)]
  exact ⟨rfl, (h.thr (x := nI 0)).no (k := 1) (by decide), (by repeat (first | exact FrM.rf _ | refine FrM.I (by decide) ?_ | refine FrM.A (by decide) ?_ | refine FrM.J9 ?_ | refine FrM.J (by decide) ?_))⟩
