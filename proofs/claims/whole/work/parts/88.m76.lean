def m_Bo_restoreEdge : MR := (⟨"SubgraphDesk$Board", "restoreEdge", "(III)V"⟩, prog_3_method_18_code, 4, none)
theorem cf_Bo_restoreEdge : CF m_Bo_restoreEdge 3 := ⟨gd 1161 (by decide +kernel) rfl, gd 140 (by decide +kernel) rfl, by decide +kernel, by decide, by decide +kernel⟩
theorem cv_Bo_restoreEdge : CV m_Bo_restoreEdge := ⟨gd 1159 (by decide +kernel) rfl, gd 1160 (by decide +kernel) rfl⟩
theorem d_Bo_restoreEdge_0 : Dc prog_3_method_18_code 0 (.aload_n 0) 1 1 := ⟨by decide +kernel, rfl⟩
theorem d_Bo_restoreEdge_1 : Dc prog_3_method_18_code 1 (.getfield 15) 3 4 := ⟨by decide +kernel, rfl⟩
theorem d_Bo_restoreEdge_4 : Dc prog_3_method_18_code 4 (.iload_n 1) 1 5 := ⟨by decide +kernel, rfl⟩
theorem d_Bo_restoreEdge_5 : Dc prog_3_method_18_code 5 (.dup2) 1 6 := ⟨by decide +kernel, rfl⟩
theorem d_Bo_restoreEdge_6 : Dc prog_3_method_18_code 6 (.iaload) 1 7 := ⟨by decide +kernel, rfl⟩
theorem d_Bo_restoreEdge_7 : Dc prog_3_method_18_code 7 (.iconst 1) 1 8 := ⟨by decide +kernel, rfl⟩
theorem d_Bo_restoreEdge_8 : Dc prog_3_method_18_code 8 (.iload_n 2) 1 9 := ⟨by decide +kernel, rfl⟩
theorem d_Bo_restoreEdge_9 : Dc prog_3_method_18_code 9 (.ishl) 1 10 := ⟨by decide +kernel, rfl⟩
theorem d_Bo_restoreEdge_10 : Dc prog_3_method_18_code 10 (.ior) 1 11 := ⟨by decide +kernel, rfl⟩
theorem d_Bo_restoreEdge_11 : Dc prog_3_method_18_code 11 (.iastore) 1 12 := ⟨by decide +kernel, rfl⟩
theorem d_Bo_restoreEdge_12 : Dc prog_3_method_18_code 12 (.aload_n 0) 1 13 := ⟨by decide +kernel, rfl⟩
theorem d_Bo_restoreEdge_13 : Dc prog_3_method_18_code 13 (.getfield 15) 3 16 := ⟨by decide +kernel, rfl⟩
theorem d_Bo_restoreEdge_16 : Dc prog_3_method_18_code 16 (.iload_n 2) 1 17 := ⟨by decide +kernel, rfl⟩
theorem d_Bo_restoreEdge_17 : Dc prog_3_method_18_code 17 (.dup2) 1 18 := ⟨by decide +kernel, rfl⟩
theorem d_Bo_restoreEdge_18 : Dc prog_3_method_18_code 18 (.iaload) 1 19 := ⟨by decide +kernel, rfl⟩
theorem d_Bo_restoreEdge_19 : Dc prog_3_method_18_code 19 (.iconst 1) 1 20 := ⟨by decide +kernel, rfl⟩
theorem d_Bo_restoreEdge_20 : Dc prog_3_method_18_code 20 (.iload_n 1) 1 21 := ⟨by decide +kernel, rfl⟩
theorem d_Bo_restoreEdge_21 : Dc prog_3_method_18_code 21 (.ishl) 1 22 := ⟨by decide +kernel, rfl⟩
theorem d_Bo_restoreEdge_22 : Dc prog_3_method_18_code 22 (.ior) 1 23 := ⟨by decide +kernel, rfl⟩
theorem d_Bo_restoreEdge_23 : Dc prog_3_method_18_code 23 (.iastore) 1 24 := ⟨by decide +kernel, rfl⟩
theorem d_Bo_restoreEdge_24 : Dc prog_3_method_18_code 24 (.aload_n 0) 1 25 := ⟨by decide +kernel, rfl⟩
theorem d_Bo_restoreEdge_25 : Dc prog_3_method_18_code 25 (.iload_n 3) 1 26 := ⟨by decide +kernel, rfl⟩
theorem d_Bo_restoreEdge_26 : Dc prog_3_method_18_code 26 (.iload_n 1) 1 27 := ⟨by decide +kernel, rfl⟩
theorem d_Bo_restoreEdge_27 : Dc prog_3_method_18_code 27 (.iload_n 2) 1 28 := ⟨by decide +kernel, rfl⟩
theorem d_Bo_restoreEdge_28 : Dc prog_3_method_18_code 28 (.invokestatic 87) 3 31 := ⟨by decide +kernel, rfl⟩
theorem d_Bo_restoreEdge_31 : Dc prog_3_method_18_code 31 (.bipush 12) 2 33 := ⟨by decide +kernel, rfl⟩
theorem d_Bo_restoreEdge_33 : Dc prog_3_method_18_code 33 (.imul) 1 34 := ⟨by decide +kernel, rfl⟩
theorem d_Bo_restoreEdge_34 : Dc prog_3_method_18_code 34 (.iload_n 1) 1 35 := ⟨by decide +kernel, rfl⟩
theorem d_Bo_restoreEdge_35 : Dc prog_3_method_18_code 35 (.iload_n 2) 1 36 := ⟨by decide +kernel, rfl⟩
theorem d_Bo_restoreEdge_36 : Dc prog_3_method_18_code 36 (.invokestatic 93) 3 39 := ⟨by decide +kernel, rfl⟩
theorem d_Bo_restoreEdge_39 : Dc prog_3_method_18_code 39 (.iadd) 1 40 := ⟨by decide +kernel, rfl⟩
theorem d_Bo_restoreEdge_40 : Dc prog_3_method_18_code 40 (.invokevirtual 96) 3 43 := ⟨by decide +kernel, rfl⟩
theorem d_Bo_restoreEdge_43 : Dc prog_3_method_18_code 43 (.return_) 1 44 := ⟨by decide +kernel, rfl⟩
theorem ins_er {c : Nat} : ∀ (es : List Nat) (ix : Nat), ix < es.length → gA es ix = c → (es.eraseIdx ix).insertIdx ix c = es
  | [], _, h, _ => absurd h (Nat.not_lt_zero _)
  | x :: t, 0, _, h => by
    have h2 : x = c := h
    rw [← h2]
    rfl
  | x :: t, ix + 1, hl, h => by
    have h2 : gA t ix = c := h
    rw [List.eraseIdx_cons_succ, List.insertIdx_succ_cons, ins_er t ix (by simpa using hl) h2]
theorem tog_tog {es : List Nat} {c : Nat} (h : c ∉ es) : tog (tog es c) c = es := by
  have h1 : tog es c = es ++ [c] := by unfold tog; rw [if_neg h]
  rw [h1]
  unfold tog
  rw [if_pos (List.mem_append_right _ (List.mem_singleton.mpr rfl)), List.erase_append_right _ h]
  simp
theorem snap_un {g : GC} {s : Snap} (h : snapOf g = s) : unsnap g s = g := by rw [← h]; rfl
theorem un_join {g : GC} {s : Snap} {a c : Nat} (h : snapOf g = sJoin s a c) (hno : codeOf a c ∉ s.1) : gJoin g a c = unsnap g s := by
  have h1 : gE g = tog s.1 (codeOf a c) := congrArg (fun z : Snap => z.1) h
  have h2 : gC g = s.2.1 := congrArg (fun z : Snap => z.2.1) h
  have h3 : gY g = s.2.2.1 := congrArg (fun z : Snap => z.2.2.1) h
  have h4 : gK g = s.2.2.2.1 := congrArg (fun z : Snap => z.2.2.2.1) h
  have h5 : gT g = s.2.2.2.2 := congrArg (fun z : Snap => z.2.2.2.2) h
  unfold gJoin unsnap
  rw [h1, h2, h3, h4, h5, tog_tog hno]
theorem un_ins {g : GC} {s : Snap} {a c ix : Nat} (h : snapOf g = sJoin s a c) (hd : s.1.Nodup) (hix : ix < s.1.length) (hgx : gA s.1 ix = codeOf a c) : codeOf a c ∉ gE g ∧ (gE g).length + 1 = s.1.length ∧ gSetE g ((gE g).insertIdx ix (codeOf a c)) = unsnap g s := by
  have h1 : gE g = tog s.1 (codeOf a c) := congrArg (fun z : Snap => z.1) h
  have h2 : gC g = s.2.1 := congrArg (fun z : Snap => z.2.1) h
  have h3 : gY g = s.2.2.1 := congrArg (fun z : Snap => z.2.2.1) h
  have h4 : gK g = s.2.2.2.1 := congrArg (fun z : Snap => z.2.2.2.1) h
  have h5 : gT g = s.2.2.2.2 := congrArg (fun z : Snap => z.2.2.2.2) h
  have hin : codeOf a c ∈ s.1 := by rw [← hgx]; exact gA_mem hix
  have h6 : tog s.1 (codeOf a c) = s.1.eraseIdx ix := by unfold tog; rw [if_pos hin]; exact erase_eq _ _ hd hix hgx
  refine ⟨?_, ?_, ?_⟩
  · rw [h1, mem_tog hd, if_pos rfl]; exact not_not_intro hin
  · rw [h1, h6, List.length_eraseIdx, if_pos hix]; omega
  · unfold gSetE unsnap
    rw [h1, h6, ins_er _ _ hix hgx, h2, h3, h4, h5]
theorem xx (a c : Nat) : a ^^^ c ^^^ c = a := by rw [Nat.xor_assoc, Nat.xor_self, Nat.xor_zero]
theorem un_link {g : GC} {s : Snap} {a c : Nat} (h : snapOf g = sLink s a c) (hac : a ≠ c) : gLink g a c = unsnap g s := by
  have h1 : gE g = s.1 := congrArg (fun z : Snap => z.1) h
  have h2 : gC g = s.2.1 := congrArg (fun z : Snap => z.2.1) h
  have h3 : gY g = s.2.2.1 := congrArg (fun z : Snap => z.2.2.1) h
  have h4 : ∀ v, gK g v = if v = a then s.2.2.2.1 a ^^^ 1 <<< c else if v = c then s.2.2.2.1 c ^^^ 1 <<< a else s.2.2.2.1 v := fun v => congrFun (congrArg (fun z : Snap => z.2.2.2.1) h) v
  have h5 : gT g = s.2.2.2.2 := congrArg (fun z : Snap => z.2.2.2.2) h
  have hk : (fun v => if v = a then gK g a ^^^ 1 <<< c else if v = c then gK g c ^^^ 1 <<< a else gK g v) = s.2.2.2.1 := by
    funext v
    by_cases e : v = a
    · rw [if_pos e, h4, if_pos rfl, xx, e]
    · rw [if_neg e]
      by_cases e2 : v = c
      · rw [if_pos e2, h4, if_neg (Ne.symm hac), if_pos rfl, xx, e2]
      · rw [if_neg e2, h4, if_neg e, if_neg e2]
  unfold gLink unsnap
  rw [hk, h1, h2, h3, h5]
theorem un_paint {g : GC} {s : Snap} {k c : Nat} (h : snapOf g = sPnt s k c) : gPaint g k (s.2.1 k) = unsnap g s := by
  have h1 : gE g = s.1 := congrArg (fun z : Snap => z.1) h
  have h2 : ∀ i, gC g i = if i = k then c else s.2.1 i := fun i => congrFun (congrArg (fun z : Snap => z.2.1) h) i
  have h3 : gY g = s.2.2.1 := congrArg (fun z : Snap => z.2.2.1) h
  have h4 : gK g = s.2.2.2.1 := congrArg (fun z : Snap => z.2.2.2.1) h
  have h5 : gT g = s.2.2.2.2 := congrArg (fun z : Snap => z.2.2.2.2) h
  have hk : (fun i => if i = k then s.2.1 k else gC g i) = s.2.1 := by
    funext v
    by_cases e : v = k
    · rw [if_pos e, e]
    · rw [if_neg e, h2, if_neg e]
  unfold gPaint unsnap
  rw [hk, h1, h3, h4, h5]
theorem un_dye {g : GC} {s : Snap} {k c : Nat} (h : snapOf g = sDy s k c) : gDye g k (s.2.2.1 k) = unsnap g s := by
  have h1 : gE g = s.1 := congrArg (fun z : Snap => z.1) h
  have h2 : gC g = s.2.1 := congrArg (fun z : Snap => z.2.1) h
  have h3 : ∀ i, gY g i = if i = k then c else s.2.2.1 i := fun i => congrFun (congrArg (fun z : Snap => z.2.2.1) h) i
  have h4 : gK g = s.2.2.2.1 := congrArg (fun z : Snap => z.2.2.2.1) h
  have h5 : gT g = s.2.2.2.2 := congrArg (fun z : Snap => z.2.2.2.2) h
  have hk : (fun i => if i = k then s.2.2.1 k else gY g i) = s.2.2.1 := by
    funext v
    by_cases e : v = k
    · rw [if_pos e, e]
    · rw [if_neg e, h3, if_neg e]
  unfold gDye unsnap
  rw [hk, h1, h2, h4, h5]
theorem ActP.pop {w w2 : Mem} {g : GC} {u : List (Nat × Snap)} {q : Nat × Snap} {l : Nat} (h : ActP w 20 g u) (hl : u.length = l + 1) (hq : u[l]? = some q) (e0 : rI w2 20 0 = nI l) (e : ∀ o, 20 < o → o ≤ 24 → rI w2 o = rI w o) : ActP w2 20 (unsnap g q.2) u.dropLast := by
  obtain ⟨h1, h2, h3⟩ := h
  have hdl : u.dropLast.length = l := by rw [List.length_dropLast]; omega
  unfold ActP
  rw [hdl, e 21 (by decide) (by decide), e 22 (by decide) (by decide), e 23 (by decide) (by decide), e 24 (by decide) (by decide)]
  refine ⟨by omega, e0, fun k z hz => ?_⟩
  have hk := (List.getElem?_eq_some_iff.mp hz).1
  rw [hdl] at hk
  rw [List.getElem?_dropLast, if_pos (by omega)] at hz
  obtain ⟨g1, g2, g3, g4⟩ := h3 k z hz
  have hn : nxS (unsnap g q.2) u.dropLast k = nxS g u k := by
    unfold nxS
    rw [List.getElem?_dropLast]
    by_cases e2 : k + 1 < l
    · rw [if_pos (by omega), List.getElem?_eq_getElem (show k + 1 < u.length by omega)]
    · have e3 : k + 1 = l := by omega
      rw [if_neg (by omega), e3, hq]
      rfl
  rw [hn]
  exact ⟨g1, g2, g3, g4⟩
theorem Rs_ok {w : Mem} {b a c p : Nat} {g : GC} (hR : BRow w b g) (hW : WG g) (ha : a < gN g) (hc : c < gN g) (hac : a ≠ c) (hp : p ≤ (gE g).length) : BRow (sI (sI (sA (sI (sI w (b + 2) a (nI (nearB (gE g) a ||| 1 <<< c))) (b + 2) c (nI (nearB (gE g) c ||| 1 <<< a))) (b + 3) (mvU (rI (sI (sI w (b + 2) a (nI (nearB (gE g) a ||| 1 <<< c))) (b + 2) c (nI (nearB (gE g) c ||| 1 <<< a))) (b + 3)) p (gE g).length)) (b + 3) p (nI (codeOf a c))) b 3 (nI ((gE g).length + 1))) b (gSetE g ((gE g).insertIdx p (codeOf a c))) := by
  have hl : ((gE g).insertIdx p (codeOf a c)).length = (gE g).length + 1 := by rw [List.length_insertIdx, if_pos hp]
  have eo : ∀ o, o ≠ b + 2 → rI (sI (sI w (b + 2) a (nI (nearB (gE g) a ||| 1 <<< c))) (b + 2) c (nI (nearB (gE g) c ||| 1 <<< a))) o = rI w o := fun o ho => by rw [rI_sI_ne _ _ _ ho, rI_sI_ne _ _ _ ho]
  refine BRow.setE hR (fun k hk => ?_) ?_ (fun k hk => ?_) (fun i hi => ?_) (fun o h1 h2 h3 h4 => ?_)
  · rw [rI_sI, upd_eq, if_neg hk, rI_sI_ne _ _ _ (by omega), rI_sA_ne _ _ (by omega), eo _ (by omega)]
  · rw [rI_sI, upd_eq, if_pos rfl, hl]
  · rw [hl] at hk
    rw [rI_sI_ne _ _ _ (by omega), rI_sI, upd_eq, rI_sA, eo _ (by omega), gA_ins hp]
    by_cases e1 : k = p
    · rw [if_pos e1, if_neg (by omega), if_pos e1]
    · rw [if_neg e1]
      unfold mvU
      by_cases e2 : k < p
      · rw [if_neg (by omega), if_pos e2]; exact hR.e k (by omega)
      · rw [if_pos (by omega), if_neg e2, if_neg e1]; exact hR.e (k - 1) (by omega)
  · rw [rI_sI_ne _ _ _ (by omega), rI_sI_ne _ _ _ (by omega), rI_sA_ne _ _ (by omega), rI_sI, rI_sI, near_ins hW ha hc hi hac hp, upd_eq, upd_eq]
    by_cases h2 : i = c
    · rw [if_pos h2, if_neg (by omega), if_pos h2]
    · rw [if_neg h2]
      by_cases h1 : i = a
      · rw [if_pos h1, if_pos h1]
      · rw [if_neg h1, if_neg h1, if_neg h2]; exact hR.nr i hi
  · rw [rI_sI_ne _ _ _ (by omega), rI_sI_ne _ _ _ h4, rI_sA_ne _ _ h4, eo _ h3]
theorem c_Bo_restoreEdge {E : EV} {w : Mem} {a c p : Nat} {b : Nat} {g : GC} (hb : IsBo b) (hR : BRow w b g) (hW : WG g) (ha : a < gN g) (hc : c < gN g) (hac : a ≠ c) (hp : p ≤ (gE g).length) (h66 : (gE g).length < 66) : T E m_Bo_restoreEdge 1 0 0 [.ref b, .int (nI a), .int (nI c), .int (nI p)] w (fun r w2 => r = none ∧ BRow w2 b (gSetE g ((gE g).insertIdx p (codeOf a c))) ∧ FrBo b w w2) := by
  refine T_of (L := [.ref b, .int (nI a), .int (nI c), .int (nI p)]) cf_Bo_restoreEdge rfl (Nat.le_of_ble_eq_true rfl) (fun X hX hF => ?_)
  have hn := hW.n
  have hv := hW.v
  have he := hW.el
  have hll := hW.ll
  have hsl := hW.sl
  refine g_aload0 hX d_Bo_restoreEdge_0 ?_
  refine g_getF hX d_Bo_restoreEdge_1 fl_Bo_15 (lvBo_0 hb _) ?_
  refine g_iload1 hX d_Bo_restoreEdge_4 ?_
  refine g_dup2 hX d_Bo_restoreEdge_5 rfl rfl ?_
  refine g_iald hX d_Bo_restoreEdge_6 (lvBo_2 hb _) rfl (by omega) ?_
  refine g_topi (hR.nr a ha) ?_
  refine g_iconst (v := nI 1) hX d_Bo_restoreEdge_7 rfl ?_
  refine g_iload2 hX d_Bo_restoreEdge_8 ?_
  refine g_ishlN hX d_Bo_restoreEdge_9 (by omega) ?_
  refine g_iorN hX d_Bo_restoreEdge_10 ?_
  refine g_iast hX d_Bo_restoreEdge_11 (lvBo_2 hb _) rfl (by omega) ?_
  refine g_aload0 hX d_Bo_restoreEdge_12 ?_
  refine g_getF hX d_Bo_restoreEdge_13 fl_Bo_15 (lvBo_0 hb _) ?_
  refine g_iload2 hX d_Bo_restoreEdge_16 ?_
  refine g_dup2 hX d_Bo_restoreEdge_17 rfl rfl ?_
  refine g_iald hX d_Bo_restoreEdge_18 (lvBo_2 hb _) rfl (by omega) ?_
  refine g_topi (show rI (sI w (b + 2) a (nI (nearB (gE g) a ||| 1 <<< c))) (b + 2) c = nI (nearB (gE g) c) by rw [rI_sI, upd_eq, if_neg (by omega)]; exact hR.nr c hc) ?_
  refine g_iconst (v := nI 1) hX d_Bo_restoreEdge_19 rfl ?_
  refine g_iload1 hX d_Bo_restoreEdge_20 ?_
  refine g_ishlN hX d_Bo_restoreEdge_21 (by omega) ?_
  refine g_iorN hX d_Bo_restoreEdge_22 ?_
  refine g_iast hX d_Bo_restoreEdge_23 (lvBo_2 hb _) rfl (by omega) ?_
  refine g_aload0 hX d_Bo_restoreEdge_24 ?_
  refine g_iload3 hX d_Bo_restoreEdge_25 ?_
  refine g_iload1 hX d_Bo_restoreEdge_26 ?_
  refine g_iload2 hX d_Bo_restoreEdge_27 ?_
  refine g_Math_min hX hF.1 d_Bo_restoreEdge_28 ml_Bo_87 (by omega) (by omega) (by omega) (Nat.le_of_ble_eq_true rfl) ?_
  refine g_topi (minI_n (by omega) (by omega)) ?_
  refine g_bipush (v := nI 12) hX d_Bo_restoreEdge_31 rfl ?_
  refine g_imulN hX d_Bo_restoreEdge_33 ?_
  refine g_iload1 hX d_Bo_restoreEdge_34 ?_
  refine g_iload2 hX d_Bo_restoreEdge_35 ?_
  refine g_Math_max hX hF.1 d_Bo_restoreEdge_36 ml_Bo_93 (by omega) (by omega) (by omega) (Nat.le_of_ble_eq_true rfl) ?_
  refine g_topi (maxI_n (by omega) (by omega)) ?_
  refine g_iaddN hX d_Bo_restoreEdge_39 ?_
  refine g_topi (show nI (min a c * 12 + max a c) = nI (codeOf a c) by rw [code_mm]) ?_
  refine g_callV (As := [_, _]) hX hF.1 d_Bo_restoreEdge_40 ml_Bo_96 cf_Bo_insertEdge cv_Bo_insertEdge rfl rfl (c_Bo_insertEdge (w := (sI (sI w (b + 2) a (nI (nearB (gE g) a ||| 1 <<< c))) (b + 2) c (nI (nearB (gE g) c ||| 1 <<< a)))) (p := p) (l := (gE g).length) (x := nI (codeOf a c)) hb (by rw [rI_sI_ne _ _ _ (by omega), rI_sI_ne _ _ _ (by omega)]; exact hR.el) h66 hp) (rcv_obj hX (lvBo_0 hb _) rfl rfl) (by omega) (by omega) (by omega) (Nat.le_of_ble_eq_true rfl) ?_
  refine ret_k ?_
  refine g_vret hX hF d_Bo_restoreEdge_43 (by omega) (by omega) ?_
  exact ⟨rfl, Rs_ok hR hW ha hc hac hp, ((((FrBo.rf b w).I (by omega)).I (by omega)).A (by omega) |>.I (by omega)).I (by omega)⟩
