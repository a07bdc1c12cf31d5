def m_M_readPlain : MR := (⟨"SubgraphDeskModel", "readPlain", "()I"⟩, prog_14_method_56_code, 1, (some .int))
theorem cf_M_readPlain : CF m_M_readPlain 0 := ⟨gd 1878 (by decide +kernel) rfl, gd 151 (by decide +kernel) rfl, by decide +kernel, by decide, by decide +kernel⟩
theorem cv_M_readPlain : CV m_M_readPlain := ⟨gd 1877 (by decide +kernel) rfl, gd 82 (by decide +kernel) rfl⟩
theorem d_M_readPlain_0 : Dc prog_14_method_56_code 0 (.aload_n 0) 1 1 := ⟨by decide +kernel, rfl⟩
theorem d_M_readPlain_1 : Dc prog_14_method_56_code 1 (.ldc2_w 357) 3 4 := ⟨by decide +kernel, rfl⟩
theorem d_M_readPlain_4 : Dc prog_14_method_56_code 4 (.invokevirtual 316) 3 7 := ⟨by decide +kernel, rfl⟩
theorem d_M_readPlain_7 : Dj prog_14_method_56_code 7 (.ifCond .eq 16) 10 16 23 := ⟨by decide +kernel, rfl, rfl⟩
theorem d_M_readPlain_10 : Dc prog_14_method_56_code 10 (.aload_n 0) 1 11 := ⟨by decide +kernel, rfl⟩
theorem d_M_readPlain_11 : Dc prog_14_method_56_code 11 (.bipush 28) 2 13 := ⟨by decide +kernel, rfl⟩
theorem d_M_readPlain_13 : Dc prog_14_method_56_code 13 (.iconst 0) 1 14 := ⟨by decide +kernel, rfl⟩
theorem d_M_readPlain_14 : Dc prog_14_method_56_code 14 (.invokevirtual 323) 3 17 := ⟨by decide +kernel, rfl⟩
theorem d_M_readPlain_17 : Dc prog_14_method_56_code 17 (.aload_n 0) 1 18 := ⟨by decide +kernel, rfl⟩
theorem d_M_readPlain_18 : Dc prog_14_method_56_code 18 (.invokevirtual 262) 3 21 := ⟨by decide +kernel, rfl⟩
theorem d_M_readPlain_21 : Dc prog_14_method_56_code 21 (.iconst 0) 1 22 := ⟨by decide +kernel, rfl⟩
theorem d_M_readPlain_22 : Dc prog_14_method_56_code 22 (.ireturn) 1 23 := ⟨by decide +kernel, rfl⟩
theorem d_M_readPlain_23 : Dc prog_14_method_56_code 23 (.aload_n 0) 1 24 := ⟨by decide +kernel, rfl⟩
theorem d_M_readPlain_24 : Dc prog_14_method_56_code 24 (.bipush 40) 2 26 := ⟨by decide +kernel, rfl⟩
theorem d_M_readPlain_26 : Dc prog_14_method_56_code 26 (.invokevirtual 329) 3 29 := ⟨by decide +kernel, rfl⟩
theorem d_M_readPlain_29 : Dj prog_14_method_56_code 29 (.ifCond .eq 11) 32 11 40 := ⟨by decide +kernel, rfl, rfl⟩
theorem d_M_readPlain_32 : Dc prog_14_method_56_code 32 (.aload_n 0) 1 33 := ⟨by decide +kernel, rfl⟩
theorem d_M_readPlain_33 : Dc prog_14_method_56_code 33 (.bipush 31) 2 35 := ⟨by decide +kernel, rfl⟩
theorem d_M_readPlain_35 : Dc prog_14_method_56_code 35 (.invokevirtual 332) 3 38 := ⟨by decide +kernel, rfl⟩
theorem d_M_readPlain_38 : Dc prog_14_method_56_code 38 (.iconst 0) 1 39 := ⟨by decide +kernel, rfl⟩
theorem d_M_readPlain_39 : Dc prog_14_method_56_code 39 (.ireturn) 1 40 := ⟨by decide +kernel, rfl⟩
theorem d_M_readPlain_40 : Dc prog_14_method_56_code 40 (.aload_n 0) 1 41 := ⟨by decide +kernel, rfl⟩
theorem d_M_readPlain_41 : Dc prog_14_method_56_code 41 (.invokevirtual 359) 3 44 := ⟨by decide +kernel, rfl⟩
theorem d_M_readPlain_44 : Dc prog_14_method_56_code 44 (.ireturn) 1 45 := ⟨by decide +kernel, rfl⟩
theorem ml_M_359 : Cond.methodLink "SubgraphDeskModel" 359 m_M_readPart.1 ∈ lw_gd := gd 1892 (by decide +kernel) rfl
theorem k_M_357 : Cond.constantLong "SubgraphDeskModel" 357 (14836) ∈ lw_gd := gd 1879 (by decide +kernel) rfl
def LeafQ (t : List Nat) (o : Bool) (f p : Nat) (c s : List (Nat × Nat)) (od : Nat) (w2 : Mem) : Prop := match rdLeaf t o f p with
  | .inl e => BadP w2 t e
  | .inr (f1, p1, d) => ∃ q, RdP w2 t f1 p1 (c ++ [q]) s od ∧ RdW o (c ++ [q]) s f1 p1 od ∧ SegL (c ++ [q]) c.length (c.length + 1) d
theorem leaf_full {t : List Nat} {o : Bool} {f p : Nat} (h : 50 ≤ p) : rdLeaf t o f p = .inl f := by unfold rdLeaf; rw [if_pos h]
theorem leaf_num {t : List Nat} {o : Bool} {f p : Nat} (h : ¬ 50 ≤ p) (h2 : isN t f 0 1000) : rdLeaf t o f p = .inr (nxT t f, p + 1, fun _ => some (numC t f : Int)) := by unfold rdLeaf; rw [if_neg h, if_pos h2]
theorem leaf_none {t : List Nat} {o : Bool} {f p : Nat} (h : ¬ 50 ≤ p) (h2 : ¬ isN t f 0 1000) (h3 : ∀ k, k < (partsL o).length → ¬ isW t f (gA2 (partsL o) k)) : rdLeaf t o f p = .inl f := by
  unfold rdLeaf
  rw [if_neg h, if_neg h2]
  have e : (List.range (partsL o).length).find? (fun k => decide (isW t f (gA2 (partsL o) k))) = none := by
    rw [List.find?_eq_none]
    intro k hk z
    exact h3 k (List.mem_range.mp hk) (of_decide_eq_true z)
  rw [e]
theorem find_at {t : List Nat} {o : Bool} {f k : Nat} (hk : k < (partsL o).length) (hw : isW t f (gA2 (partsL o) k)) : (List.range (partsL o).length).find? (fun k => decide (isW t f (gA2 (partsL o) k))) = some k := by
  cases e : (List.range (partsL o).length).find? (fun k => decide (isW t f (gA2 (partsL o) k))) with
  | none => exact absurd (decide_eq_true hw) (List.find?_eq_none.mp e k (List.mem_range.mpr hk))
  | some x =>
    have h0 := List.find?_some e
    have h1 : isW t f (gA2 (partsL o) x) := of_decide_eq_true h0
    have h2 := List.mem_range.mp (List.mem_of_find?_eq_some e)
    rw [parts_inj o x h2 k hk (isW_un h1 hw)]
theorem leaf_word {t : List Nat} {o : Bool} {f p k : Nat} (h : ¬ 50 ≤ p) (h2 : ¬ isN t f 0 1000) (hk : k < (partsL o).length) (hw : isW t f (gA2 (partsL o) k)) (h5 : ¬ (o = true ∧ k = 5)) : rdLeaf t o f p = .inr (nxT t f, p + 1, fun env => some (env (if k = 5 then 20 else k + 1))) := by
  unfold rdLeaf
  rw [if_neg h, if_neg h2, find_at hk hw]
  exact if_neg h5
theorem leaf_deg {t : List Nat} {o : Bool} {f p k : Nat} (h : ¬ 50 ≤ p) (h2 : ¬ isN t f 0 1000) (hk : k < (partsL o).length) (hw : isW t f (gA2 (partsL o) k)) (h5 : o = true ∧ k = 5) : rdLeaf t o f p = if isN t (nxT t f) 0 11 then .inr (nxT t (nxT t f), p + 1, fun env => some (env (20 + numC t (nxT t f)))) else .inl (nxT t f) := by
  unfold rdLeaf
  rw [if_neg h, if_neg h2, find_at hk hw]
  show (if o = true ∧ k = 5 then _ else _) = _
  rw [if_pos h5]
theorem RdW.emit {o : Bool} {c s : List (Nat × Nat)} {f f1 p p1 od : Nat} {q : Nat × Nat} (h : RdW o c s f p od) (h1 : f + 1 ≤ f1) (h2 : f1 ≤ 400) (h3 : p1 ≤ 50) (hq : OkE o q) (hj : q.1 < 29) : RdW o (c ++ [q]) s f1 p1 od := by
  obtain ⟨a1, a2, a3, a4, a5, a6⟩ := h
  have hl : (c ++ [q]).length = c.length + 1 := by rw [List.length_append]; rfl
  refine ⟨⟨by omega, fun x hx => ⟨(a1.2 x hx).1, fun z => by have := (a1.2 x hx).2 z; omega⟩⟩, by omega, h3, a4, fun x hx => ?_, fun k hk hk2 => ?_⟩
  · rw [List.mem_append, List.mem_singleton] at hx
    rcases hx with hx | hx
    · exact a5 x hx
    · rw [hx]; exact hq
  · by_cases e : k = c.length
    · rw [e, cO_last.1] at hk2; omega
    · rw [(cO_app (by omega)).1] at hk2
      rw [(cO_app (by omega)).2]
      rcases a6 k (by omega) hk2 with z | z
      · exact Or.inl ⟨z.1, by omega⟩
      · exact Or.inr z
theorem partsL_le (o : Bool) : (partsL o).length ≤ 7 := by cases o <;> decide
theorem c_M_readPart_leaf {E : EV} {w : Mem} {t : List Nat} {o : Bool} {f p : Nat} {c s : List (Nat × Nat)} {od : Nat} (h : RdP w t f p c s od) (hW : RdW o c s f p od) (hC : RdC w o) (hns : ¬ isS t f 91) : T E m_M_readPart 4 0 0 [.ref 89] w (fun r w2 => r = some (.int (nI 3)) ∧ FrR w w2 ∧ LeafQ t o f p c s od w2) := by
  have hf := h.1.2.2.2.2.2.1
  have htl := h.1.1.1
  have hP := hW.1
  have hcs := hW.2.1
  have hp50 := hW.2.2.1
  have h7 := partsL_le o
  by_cases hn : isN t f 0 1000
  · have hfl := srt_lt (isN_0 hn)
    by_cases hp : 50 ≤ p
    · cases o
      · exact T.mono (c_M_readPart_numFL h hP hC hns hp (by omega) hn) (fun r w2 ⟨h1, h2, h3⟩ => ⟨h1, h2, by unfold LeafQ; rw [leaf_full hp]; exact h3⟩)
      · exact T.mono (c_M_readPart_numFO h hP hC hns hp (by omega) hn) (fun r w2 ⟨h1, h2, h3⟩ => ⟨h1, h2, by unfold LeafQ; rw [leaf_full hp]; exact h3⟩)
    · have key : ∀ (r : Option Value) (w2 : Mem), (r = some (.int (nI 3)) ∧ FrR w w2 ∧ RdP w2 t (nxT t f) (p + 1) (c ++ [(0, numC t f)]) s od) → r = some (.int (nI 3)) ∧ FrR w w2 ∧ LeafQ t o f p c s od w2 := fun r w2 ⟨h1, h2, h3⟩ => by
        refine ⟨h1, h2, ?_⟩
        unfold LeafQ
        rw [leaf_num hp hn]
        refine ⟨(0, numC t f), h3, hW.emit (nxT_gt (isN_0 hn)) (Nat.le_trans (nxT_le hf) htl) (by omega) ⟨by have := hn.2.2; show numC t f < 1001; omega, Or.inl (Nat.zero_le _)⟩ (by show 0 < 29; decide), ?_⟩
        have e := seg_num (op := cO (c ++ [(0, numC t f)])) (arg := cA (c ++ [(0, numC t f)])) (a := c.length) cO_last.1
        rw [cO_last.2] at e
        exact e
      cases o
      · exact T.mono (c_M_readPart_numL h hP hC hns (by omega) (by omega) hn) key
      · exact T.mono (c_M_readPart_numO h hP hC hns (by omega) (by omega) hn) key
  by_cases hw : ∃ k, k < (partsL o).length ∧ isW t f (gA2 (partsL o) k)
  · obtain ⟨k, hk, hw⟩ := hw
    have hfl := srt_lt (isW_0 hw)
    by_cases hp : 50 ≤ p
    · cases o
      · exact T.mono (c_M_readPart_wordFL h hP hC hns hp (by omega) hk hw) (fun r w2 ⟨h1, h2, h3⟩ => ⟨h1, h2, by unfold LeafQ; rw [leaf_full hp]; exact h3⟩)
      · exact T.mono (c_M_readPart_wordFO h hP hC hns hp (by omega) hk hw) (fun r w2 ⟨h1, h2, h3⟩ => ⟨h1, h2, by unfold LeafQ; rw [leaf_full hp]; exact h3⟩)
    · by_cases h5 : o = true ∧ k = 5
      · obtain ⟨rfl, h5⟩ := h5
        by_cases hd : isN t (nxT t f) 0 11
        · refine T.mono (c_M_readPart_deg h hP hC hns (by omega) (by omega) h5 hk hw hd) (fun r w2 ⟨h1, h2, h3⟩ => ⟨h1, h2, ?_⟩)
          unfold LeafQ
          rw [leaf_deg hp hn hk hw ⟨rfl, h5⟩, if_pos hd]
          have g1 := nxT_gt (isW_0 hw)
          have g2 := nxT_gt (isN_0 hd)
          refine ⟨(6, numC t (nxT t f)), h3, hW.emit (by omega) (Nat.le_trans (nxT_le (nxT_le hf)) htl) (by omega) ⟨by have := hd.2.2; show numC t (nxT t f) < 1001; omega, Or.inl (by show 6 ≤ 6; decide)⟩ (by show 6 < 29; decide), ?_⟩
          have e := seg_word (op := cO (c ++ [(6, numC t (nxT t f))])) (arg := cA (c ++ [(6, numC t (nxT t f))])) (a := c.length) (by rw [cO_last.1]; show 6 ≠ 0; decide) (by rw [cO_last.1]; show 6 < 20; decide)
          rw [cO_last.1, cO_last.2] at e
          exact e
        · refine T.mono (c_M_readPart_degN h hP hC hns (by omega) (by omega) h5 hk hw hd) (fun r w2 ⟨h1, h2, h3⟩ => ⟨h1, h2, ?_⟩)
          unfold LeafQ
          rw [leaf_deg hp hn hk hw ⟨rfl, h5⟩, if_neg hd]
          exact h3
      · have key : ∀ (r : Option Value) (w2 : Mem), (r = some (.int (nI 3)) ∧ FrR w w2 ∧ RdP w2 t (nxT t f) (p + 1) (c ++ [(k + 1, 0)]) s od) → r = some (.int (nI 3)) ∧ FrR w w2 ∧ LeafQ t o f p c s od w2 := fun r w2 ⟨h1, h2, h3⟩ => by
          refine ⟨h1, h2, ?_⟩
          unfold LeafQ
          rw [leaf_word hp hn hk hw h5]
          refine ⟨(k + 1, 0), h3, hW.emit (nxT_gt (isW_0 hw)) (Nat.le_trans (nxT_le hf) htl) (by omega) ⟨by show 0 < 1001; decide, Or.inl (by show k + 1 ≤ _; omega)⟩ (by show k + 1 < 29; omega), ?_⟩
          have e := seg_word (op := cO (c ++ [(k + 1, 0)])) (arg := cA (c ++ [(k + 1, 0)])) (a := c.length) (by rw [cO_last.1]; show k + 1 ≠ 0; omega) (by rw [cO_last.1]; show k + 1 < 20; omega)
          rw [cO_last.1, cO_last.2] at e
          have e2 : (if k + 1 = 6 then 20 + 0 else k + 1) = (if k = 5 then 20 else k + 1) := by
            by_cases z : k = 5
            · rw [if_pos z, if_pos (by omega)]
            · rw [if_neg z, if_neg (by omega)]
          have e3 : (fun env : Nat → Int => some (env (if (k + 1, 0).fst = 6 then 20 + (k + 1, 0).snd else (k + 1, 0).fst))) = (fun env => some (env (if k = 5 then 20 else k + 1))) := by
            funext env
            exact congrArg (fun z => some (env z)) e2
          rw [e3] at e
          exact e
        cases o
        · exact T.mono (c_M_readPart_wordL h hP hC hns (by omega) (by omega) hk hw) key
        · exact T.mono (c_M_readPart_wordO h hP hC hns (by omega) (by omega) hk hw (fun z => h5 ⟨rfl, z⟩)) key
  · have hno : ∀ k, k < (partsL o).length → ¬ isW t f (gA2 (partsL o) k) := fun k hk z => hw ⟨k, hk, z⟩
    have key : ∀ (r : Option Value) (w2 : Mem), (r = some (.int (nI 3)) ∧ FrR w w2 ∧ BadP w2 t f) → r = some (.int (nI 3)) ∧ FrR w w2 ∧ LeafQ t o f p c s od w2 := fun r w2 ⟨h1, h2, h3⟩ => by
      refine ⟨h1, h2, ?_⟩
      unfold LeafQ
      by_cases hp : 50 ≤ p
      · rw [leaf_full hp]; exact h3
      · rw [leaf_none hp hn hno]; exact h3
    cases o
    · exact T.mono (c_M_readPart_noL h hP hC hns hn hno) key
    · exact T.mono (c_M_readPart_noO h hP hC hns hn hno) key
theorem c_M_readPlain_not {E : EV} {w : Mem} {t : List Nat} {f p : Nat} {c s : List (Nat × Nat)} {od : Nat} (h : RdP w t f p c s od) (hP : PileW c s) (hs : isW t f wNot) (hlt : s.length < 400) : T E m_M_readPlain 5 0 0 [.ref 89] w (fun r w2 => r = some (.int (nI 0)) ∧ FrR w w2 ∧ RdP w2 t (nxT t f) p c (s ++ [(28, 0)]) od) := by
  refine T_of (L := [.ref 89]) cf_M_readPlain rfl (Nat.le_of_ble_eq_true rfl) (fun X hX hF => ?_)
  refine g_aload0 hX d_M_readPlain_0 ?_
  refine g_ldc2 (v := lN 14836) hX d_M_readPlain_1 k_M_357 rfl ?_
  refine g_callV (As := [_]) hX hF.1 d_M_readPlain_4 ml_M_316 cf_M_isWord cv_M_isWord rfl rfl (c_M_isWord (wd := wNot) h.1 rfl (by decide) (by decide)) (rcv_obj hX (lv_89 _) rfl rfl) (by omega) (by omega) (by omega) (Nat.le_of_ble_eq_true rfl) ?_
  refine ret_k ?_
  refine g_ifB_eq hX d_M_readPlain_7 (fun h => absurd hs h) (fun c0 => ?_)
  refine g_aload0 hX d_M_readPlain_10 ?_
  refine g_bipush (v := nI 28) hX d_M_readPlain_11 rfl ?_
  refine g_iconst (v := nI 0) hX d_M_readPlain_13 rfl ?_
  refine g_callV (As := [_, _]) hX hF.1 d_M_readPlain_14 ml_M_323 cf_M_push cv_M_push rfl rfl (c_M_push (m := s.length) h.2.2.2.1.1 hlt) (rcv_obj hX (lv_89 _) rfl rfl) (by omega) (by omega) (by omega) (Nat.le_of_ble_eq_true rfl) ?_
  refine ret_k ?_
  refine g_aload0 hX d_M_readPlain_17 ?_
  have h1 := RdP.push (q := (28, 0)) h
  refine g_callV (As := []) hX hF.1 d_M_readPlain_18 ml_M_262 cf_M_next cv_M_next rfl rfl (c_M_next h1.1) (rcv_obj hX (lv_89 _) rfl rfl) (by omega) (by omega) (by omega) (Nat.le_of_ble_eq_true rfl) ?_
  rintro _ w2 ⟨rfl, hf, hT2⟩
  show G0 _ _ _ _ _ _ _ _
  refine g_iconst (v := nI 0) hX d_M_readPlain_21 rfl ?_
  refine g_iret hX hF d_M_readPlain_22 (by omega) (by omega) ?_
  exact ⟨rfl, (((((FrR.rf w).I (by omega)).I (by omega)).I (by omega)).tr hf.R), h1.tok hf hT2⟩
theorem c_M_readPlain_bY {E : EV} {w : Mem} {t : List Nat} {f p : Nat} {c s : List (Nat × Nat)} {od : Nat} (h : RdP w t f p c s od) (hP : PileW c s) (hnw : ¬ isW t f wNot) (hs : isS t f 40) (hlt : s.length < 400) (hod : od < 8) : T E m_M_readPlain 5 0 0 [.ref 89] w (fun r w2 => r = some (.int (nI 0)) ∧ FrR w w2 ∧ RdP w2 t (nxT t f) p c (s ++ [(31, 0)]) (od + 1)) := by
  refine T_of (L := [.ref 89]) cf_M_readPlain rfl (Nat.le_of_ble_eq_true rfl) (fun X hX hF => ?_)
  refine g_aload0 hX d_M_readPlain_0 ?_
  refine g_ldc2 (v := lN 14836) hX d_M_readPlain_1 k_M_357 rfl ?_
  refine g_callV (As := [_]) hX hF.1 d_M_readPlain_4 ml_M_316 cf_M_isWord cv_M_isWord rfl rfl (c_M_isWord (wd := wNot) h.1 rfl (by decide) (by decide)) (rcv_obj hX (lv_89 _) rfl rfl) (by omega) (by omega) (by omega) (Nat.le_of_ble_eq_true rfl) ?_
  refine ret_k ?_
  refine g_ifB_eq hX d_M_readPlain_7 (fun c0 => ?_) (fun h => absurd h hnw)
  refine g_aload0 hX d_M_readPlain_23 ?_
  refine g_bipush (v := nI 40) hX d_M_readPlain_24 rfl ?_
  refine g_callV (As := [_]) hX hF.1 d_M_readPlain_26 ml_M_329 cf_M_isSign cv_M_isSign rfl rfl (c_M_isSign h.1 (by decide)) (rcv_obj hX (lv_89 _) rfl rfl) (by omega) (by omega) (by omega) (Nat.le_of_ble_eq_true rfl) ?_
  refine ret_k ?_
  refine g_ifB_eq hX d_M_readPlain_29 (fun h => absurd hs h) (fun c1 => ?_)
  refine g_aload0 hX d_M_readPlain_32 ?_
  refine g_bipush (v := nI 31) hX d_M_readPlain_33 rfl ?_
  refine g_callV (As := [_]) hX hF.1 d_M_readPlain_35 ml_M_332 cf_M_openBracket cv_M_openBracket rfl rfl (c_M_openBracketY (q := 31) h hP hlt hod) (rcv_obj hX (lv_89 _) rfl rfl) (by omega) (by omega) (by omega) (Nat.le_of_ble_eq_true rfl) ?_
  rintro _ w2 ⟨rfl, hf, h2⟩
  show G0 _ _ _ _ _ _ _ _
  refine g_iconst (v := nI 0) hX d_M_readPlain_38 rfl ?_
  refine g_iret hX hF d_M_readPlain_39 (by omega) (by omega) ?_
  exact ⟨rfl, hf, h2⟩
theorem c_M_readPlain_bN {E : EV} {w : Mem} {t : List Nat} {f p : Nat} {c s : List (Nat × Nat)} {od : Nat} (h : RdP w t f p c s od) (hP : PileW c s) (hnw : ¬ isW t f wNot) (hs : isS t f 40) (hod : 8 ≤ od) (ho8 : od < 100) : T E m_M_readPlain 5 0 0 [.ref 89] w (fun r w2 => r = some (.int (nI 0)) ∧ FrR w w2 ∧ BadP w2 t f) := by
  refine T_of (L := [.ref 89]) cf_M_readPlain rfl (Nat.le_of_ble_eq_true rfl) (fun X hX hF => ?_)
  refine g_aload0 hX d_M_readPlain_0 ?_
  refine g_ldc2 (v := lN 14836) hX d_M_readPlain_1 k_M_357 rfl ?_
  refine g_callV (As := [_]) hX hF.1 d_M_readPlain_4 ml_M_316 cf_M_isWord cv_M_isWord rfl rfl (c_M_isWord (wd := wNot) h.1 rfl (by decide) (by decide)) (rcv_obj hX (lv_89 _) rfl rfl) (by omega) (by omega) (by omega) (Nat.le_of_ble_eq_true rfl) ?_
  refine ret_k ?_
  refine g_ifB_eq hX d_M_readPlain_7 (fun c0 => ?_) (fun h => absurd h hnw)
  refine g_aload0 hX d_M_readPlain_23 ?_
  refine g_bipush (v := nI 40) hX d_M_readPlain_24 rfl ?_
  refine g_callV (As := [_]) hX hF.1 d_M_readPlain_26 ml_M_329 cf_M_isSign cv_M_isSign rfl rfl (c_M_isSign h.1 (by decide)) (rcv_obj hX (lv_89 _) rfl rfl) (by omega) (by omega) (by omega) (Nat.le_of_ble_eq_true rfl) ?_
  refine ret_k ?_
  refine g_ifB_eq hX d_M_readPlain_29 (fun h => absurd hs h) (fun c1 => ?_)
  refine g_aload0 hX d_M_readPlain_32 ?_
  refine g_bipush (v := nI 31) hX d_M_readPlain_33 rfl ?_
  refine g_callV (As := [_]) hX hF.1 d_M_readPlain_35 ml_M_332 cf_M_openBracket cv_M_openBracket rfl rfl (c_M_openBracketN h hP hod ho8) (rcv_obj hX (lv_89 _) rfl rfl) (by omega) (by omega) (by omega) (Nat.le_of_ble_eq_true rfl) ?_
  refine ret_k ?_
  refine g_iconst (v := nI 0) hX d_M_readPlain_38 rfl ?_
  refine g_iret hX hF d_M_readPlain_39 (by omega) (by omega) ?_
  exact ⟨rfl, (FrR.rf w).bad, h.bad hP⟩
theorem c_M_readPlain_part {E : EV} {w : Mem} {t : List Nat} {f p : Nat} {c s : List (Nat × Nat)} {od : Nat} (h : RdP w t f p c s od) (hP : PileW c s) {Q : Option Value → Mem → Prop} (hnw : ¬ isW t f wNot) (hnb : ¬ isS t f 40) (hr : T E m_M_readPart 4 0 0 [.ref 89] w Q) (hi : ∀ r w2, Q r w2 → ∃ x, r = some (.int x)) : T E m_M_readPlain 5 0 0 [.ref 89] w (Q) := by
  refine T_of (L := [.ref 89]) cf_M_readPlain rfl (Nat.le_of_ble_eq_true rfl) (fun X hX hF => ?_)
  refine g_aload0 hX d_M_readPlain_0 ?_
  refine g_ldc2 (v := lN 14836) hX d_M_readPlain_1 k_M_357 rfl ?_
  refine g_callV (As := [_]) hX hF.1 d_M_readPlain_4 ml_M_316 cf_M_isWord cv_M_isWord rfl rfl (c_M_isWord (wd := wNot) h.1 rfl (by decide) (by decide)) (rcv_obj hX (lv_89 _) rfl rfl) (by omega) (by omega) (by omega) (Nat.le_of_ble_eq_true rfl) ?_
  refine ret_k ?_
  refine g_ifB_eq hX d_M_readPlain_7 (fun c0 => ?_) (fun h => absurd h hnw)
  refine g_aload0 hX d_M_readPlain_23 ?_
  refine g_bipush (v := nI 40) hX d_M_readPlain_24 rfl ?_
  refine g_callV (As := [_]) hX hF.1 d_M_readPlain_26 ml_M_329 cf_M_isSign cv_M_isSign rfl rfl (c_M_isSign h.1 (by decide)) (rcv_obj hX (lv_89 _) rfl rfl) (by omega) (by omega) (by omega) (Nat.le_of_ble_eq_true rfl) ?_
  refine ret_k ?_
  refine g_ifB_eq hX d_M_readPlain_29 (fun c1 => ?_) (fun h => absurd h hnb)
  refine g_aload0 hX d_M_readPlain_40 ?_
  refine g_callV (As := []) hX hF.1 d_M_readPlain_41 ml_M_359 cf_M_readPart cv_M_readPart rfl rfl (hr) (rcv_obj hX (lv_89 _) rfl rfl) (by omega) (by omega) (by omega) (Nat.le_of_ble_eq_true rfl) ?_
  intro r w2 hq
  obtain ⟨x, rfl⟩ := hi r w2 hq
  show G0 _ _ _ _ _ _ _ _
  refine g_iret hX hF d_M_readPlain_44 (by omega) (by omega) ?_
  exact hq
