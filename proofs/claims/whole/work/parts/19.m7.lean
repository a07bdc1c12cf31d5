def m_M_feed : MR := (⟨"SubgraphDeskModel", "feed", "(IIIII)I"⟩, prog_14_method_34_code, 6, (some .int))
theorem cf_M_feed : CF m_M_feed 5 := ⟨gd 1820 (by decide +kernel) rfl, gd 151 (by decide +kernel) rfl, by decide +kernel, by decide, by decide +kernel⟩
theorem cv_M_feed : CV m_M_feed := ⟨gd 1818 (by decide +kernel) rfl, gd 1819 (by decide +kernel) rfl⟩
def m_M_four : MR := (⟨"SubgraphDeskModel", "four", "(I)V"⟩, prog_14_method_33_code, 3, none)
theorem cf_M_four : CF m_M_four 1 := ⟨gd 1824 (by decide +kernel) rfl, gd 151 (by decide +kernel) rfl, by decide +kernel, by decide, by decide +kernel⟩
theorem cv_M_four : CV m_M_four := ⟨gd 1823 (by decide +kernel) rfl, gd 74 (by decide +kernel) rfl⟩
theorem d_M_feed_0 : Dc prog_14_method_34_code 0 (.aload_n 0) 1 1 := ⟨by decide +kernel, rfl⟩
theorem d_M_feed_1 : Dc prog_14_method_34_code 1 (.iconst 0) 1 2 := ⟨by decide +kernel, rfl⟩
theorem d_M_feed_2 : Dc prog_14_method_34_code 2 (.putfield 170) 3 5 := ⟨by decide +kernel, rfl⟩
theorem d_M_feed_5 : Dc prog_14_method_34_code 5 (.aload_n 0) 1 6 := ⟨by decide +kernel, rfl⟩
theorem d_M_feed_6 : Dc prog_14_method_34_code 6 (.getfield 243) 3 9 := ⟨by decide +kernel, rfl⟩
theorem d_M_feed_9 : Dc prog_14_method_34_code 9 (.bipush 20) 2 11 := ⟨by decide +kernel, rfl⟩
theorem d_M_feed_11 : Dc prog_14_method_34_code 11 (.iadd) 1 12 := ⟨by decide +kernel, rfl⟩
theorem d_M_feed_12 : Dc prog_14_method_34_code 12 (.sipush 400) 3 15 := ⟨by decide +kernel, rfl⟩
theorem d_M_feed_15 : Dj prog_14_method_34_code 15 (.if_icmp .le 5) 18 5 20 := ⟨by decide +kernel, rfl, rfl⟩
theorem d_M_feed_18 : Dc prog_14_method_34_code 18 (.iconst (-1)) 1 19 := ⟨by decide +kernel, rfl⟩
theorem d_M_feed_19 : Dc prog_14_method_34_code 19 (.ireturn) 1 20 := ⟨by decide +kernel, rfl⟩
theorem d_M_feed_20 : Dc prog_14_method_34_code 20 (.aload_n 0) 1 21 := ⟨by decide +kernel, rfl⟩
theorem d_M_feed_21 : Dc prog_14_method_34_code 21 (.iload_n 1) 1 22 := ⟨by decide +kernel, rfl⟩
theorem d_M_feed_22 : Dc prog_14_method_34_code 22 (.invokevirtual 252) 3 25 := ⟨by decide +kernel, rfl⟩
theorem d_M_feed_25 : Dc prog_14_method_34_code 25 (.aload_n 0) 1 26 := ⟨by decide +kernel, rfl⟩
theorem d_M_feed_26 : Dc prog_14_method_34_code 26 (.iload_n 2) 1 27 := ⟨by decide +kernel, rfl⟩
theorem d_M_feed_27 : Dc prog_14_method_34_code 27 (.invokevirtual 252) 3 30 := ⟨by decide +kernel, rfl⟩
theorem d_M_feed_30 : Dc prog_14_method_34_code 30 (.aload_n 0) 1 31 := ⟨by decide +kernel, rfl⟩
theorem d_M_feed_31 : Dc prog_14_method_34_code 31 (.iload_n 3) 1 32 := ⟨by decide +kernel, rfl⟩
theorem d_M_feed_32 : Dc prog_14_method_34_code 32 (.invokevirtual 252) 3 35 := ⟨by decide +kernel, rfl⟩
theorem d_M_feed_35 : Dc prog_14_method_34_code 35 (.aload_n 0) 1 36 := ⟨by decide +kernel, rfl⟩
theorem d_M_feed_36 : Dc prog_14_method_34_code 36 (.iload 4) 2 38 := ⟨by decide +kernel, rfl⟩
theorem d_M_feed_38 : Dc prog_14_method_34_code 38 (.invokevirtual 252) 3 41 := ⟨by decide +kernel, rfl⟩
theorem d_M_feed_41 : Dc prog_14_method_34_code 41 (.aload_n 0) 1 42 := ⟨by decide +kernel, rfl⟩
theorem d_M_feed_42 : Dc prog_14_method_34_code 42 (.iload 5) 2 44 := ⟨by decide +kernel, rfl⟩
theorem d_M_feed_44 : Dc prog_14_method_34_code 44 (.invokevirtual 252) 3 47 := ⟨by decide +kernel, rfl⟩
theorem d_M_feed_47 : Dc prog_14_method_34_code 47 (.aload_n 0) 1 48 := ⟨by decide +kernel, rfl⟩
theorem d_M_feed_48 : Dc prog_14_method_34_code 48 (.getfield 243) 3 51 := ⟨by decide +kernel, rfl⟩
theorem d_M_feed_51 : Dc prog_14_method_34_code 51 (.ireturn) 1 52 := ⟨by decide +kernel, rfl⟩
theorem d_M_four_0 : Dc prog_14_method_33_code 0 (.bipush 24) 2 2 := ⟨by decide +kernel, rfl⟩
theorem d_M_four_2 : Dc prog_14_method_33_code 2 (.istore_n 2) 1 3 := ⟨by decide +kernel, rfl⟩
theorem d_M_four_3 : Dc prog_14_method_33_code 3 (.iload_n 2) 1 4 := ⟨by decide +kernel, rfl⟩
theorem d_M_four_4 : Dj prog_14_method_33_code 4 (.ifCond .lt 35) 7 35 39 := ⟨by decide +kernel, rfl, rfl⟩
theorem d_M_four_7 : Dc prog_14_method_33_code 7 (.aload_n 0) 1 8 := ⟨by decide +kernel, rfl⟩
theorem d_M_four_8 : Dc prog_14_method_33_code 8 (.getfield 35) 3 11 := ⟨by decide +kernel, rfl⟩
theorem d_M_four_11 : Dc prog_14_method_33_code 11 (.aload_n 0) 1 12 := ⟨by decide +kernel, rfl⟩
theorem d_M_four_12 : Dc prog_14_method_33_code 12 (.getfield 243) 3 15 := ⟨by decide +kernel, rfl⟩
theorem d_M_four_15 : Dc prog_14_method_33_code 15 (.iload_n 1) 1 16 := ⟨by decide +kernel, rfl⟩
theorem d_M_four_16 : Dc prog_14_method_33_code 16 (.iload_n 2) 1 17 := ⟨by decide +kernel, rfl⟩
theorem d_M_four_17 : Dc prog_14_method_33_code 17 (.ishr) 1 18 := ⟨by decide +kernel, rfl⟩
theorem d_M_four_18 : Dc prog_14_method_33_code 18 (.sipush 255) 3 21 := ⟨by decide +kernel, rfl⟩
theorem d_M_four_21 : Dc prog_14_method_33_code 21 (.iand) 1 22 := ⟨by decide +kernel, rfl⟩
theorem d_M_four_22 : Dc prog_14_method_33_code 22 (.iastore) 1 23 := ⟨by decide +kernel, rfl⟩
theorem d_M_four_23 : Dc prog_14_method_33_code 23 (.aload_n 0) 1 24 := ⟨by decide +kernel, rfl⟩
theorem d_M_four_24 : Dc prog_14_method_33_code 24 (.dup) 1 25 := ⟨by decide +kernel, rfl⟩
theorem d_M_four_25 : Dc prog_14_method_33_code 25 (.getfield 243) 3 28 := ⟨by decide +kernel, rfl⟩
theorem d_M_four_28 : Dc prog_14_method_33_code 28 (.iconst 1) 1 29 := ⟨by decide +kernel, rfl⟩
theorem d_M_four_29 : Dc prog_14_method_33_code 29 (.iadd) 1 30 := ⟨by decide +kernel, rfl⟩
theorem d_M_four_30 : Dc prog_14_method_33_code 30 (.putfield 243) 3 33 := ⟨by decide +kernel, rfl⟩
theorem d_M_four_33 : Dc prog_14_method_33_code 33 (.iinc 2 (-8)) 3 36 := ⟨by decide +kernel, rfl⟩
theorem d_M_four_36 : Dj prog_14_method_33_code 36 (.goto (-33)) 39 (-33) 3 := ⟨by decide +kernel, rfl, rfl⟩
theorem d_M_four_39 : Dc prog_14_method_33_code 39 (.return_) 1 40 := ⟨by decide +kernel, rfl⟩
theorem fl_M_35 : FL "SubgraphDeskModel" 35 12 12 true (.array .int) (3, 9) := ⟨R_M, F_M, 69, ty_M, rfl, rfl, in_M, tyok_M, nm_M, by decide, gd 1484 (by decide +kernel) rfl, rfl, rfl, rfl⟩
theorem ml_M_252 : Cond.methodLink "SubgraphDeskModel" 252 m_M_four.1 ∈ lw_gd := gd 1821 (by decide +kernel) rfl
/-- the tape behind four more bytes -/
def W4 (w : Mem) (n : Nat) (v : Int32) : Mem := sI (sI (sI (sI (sI (sI (sI (sI w 98 n (nI (v.toBitVec.toNat / 2 ^ 24 % 256))) 89 13 (nI (n + 1))) 98 (n + 1) (nI (v.toBitVec.toNat / 2 ^ 16 % 256))) 89 13 (nI (n + 1 + 1))) 98 (n + 1 + 1) (nI (v.toBitVec.toNat / 2 ^ 8 % 256))) 89 13 (nI (n + 1 + 1 + 1))) 98 (n + 1 + 1 + 1) (nI (v.toBitVec.toNat / 2 ^ 0 % 256))) 89 13 (nI (n + 1 + 1 + 1 + 1))
theorem c_M_four {E : EV} {w : Mem} {v : Int32} {n : Nat} (hn0 : rI w 89 13 = nI n) (hn : n + 4 ≤ 400) : T E m_M_four 0 0 0 [.ref 89, .int v] w (Ret none (W4 w n v)) := by
  refine T_of (L := [.ref 89, .int v, un]) cf_M_four rfl (Nat.le_of_ble_eq_true rfl) (fun X hX hF => ?_)
  refine g_bipush (v := nI 24) hX d_M_four_0 rfl ?_
  refine g_istore2 hX d_M_four_2 rfl (by decide) ?_
  refine g_iload2 hX d_M_four_3 ?_
  refine g_if_lt hX d_M_four_4 (fun h => absurd h (by decide)) (fun c0 => ?_)
  refine g_aload0 hX d_M_four_7 ?_
  refine g_getF hX d_M_four_8 fl_M_35 (lv_89 _) ?_
  refine g_aload0 hX d_M_four_11 ?_
  refine g_getI hX d_M_four_12 fl_M_243 (lv_89 _) ?_
  refine g_topi hn0 ?_
  refine g_iload1 hX d_M_four_15 ?_
  refine g_iload2 hX d_M_four_16 ?_
  refine g_ishr hX d_M_four_17 ?_
  refine g_sipush (v := nI 255) hX d_M_four_18 rfl ?_
  refine g_iand hX d_M_four_21 ?_
  refine g_topi (byte_of (s := 24) (by decide)) ?_
  refine g_iast hX d_M_four_22 (lv_98 _) rfl (by omega) ?_
  refine g_aload0 hX d_M_four_23 ?_
  refine g_dup hX d_M_four_24 rfl ?_
  refine g_getI hX d_M_four_25 fl_M_243 (lv_89 _) ?_
  refine g_topi (show rI (sI w 98 n _) 89 13 = nI n from hn0) ?_
  refine g_iconst (v := nI 1) hX d_M_four_28 rfl ?_
  refine g_iaddN hX d_M_four_29 ?_
  refine g_putI hX d_M_four_30 fl_M_243 (lv_89 _) ?_
  refine g_iinc2 (v := nI 16) hX d_M_four_33 (by decide) rfl (by decide) ?_
  refine g_goto hX d_M_four_36 ?_
  refine g_iload2 hX d_M_four_3 ?_
  refine g_if_lt hX d_M_four_4 (fun h => absurd h (by decide)) (fun c0 => ?_)
  refine g_aload0 hX d_M_four_7 ?_
  refine g_getF hX d_M_four_8 fl_M_35 (lv_89 _) ?_
  refine g_aload0 hX d_M_four_11 ?_
  refine g_getI hX d_M_four_12 fl_M_243 (lv_89 _) ?_
  refine g_topi rfl ?_
  refine g_iload1 hX d_M_four_15 ?_
  refine g_iload2 hX d_M_four_16 ?_
  refine g_ishr hX d_M_four_17 ?_
  refine g_sipush (v := nI 255) hX d_M_four_18 rfl ?_
  refine g_iand hX d_M_four_21 ?_
  refine g_topi (byte_of (s := 16) (by decide)) ?_
  refine g_iast hX d_M_four_22 (lv_98 _) rfl (by omega) ?_
  refine g_aload0 hX d_M_four_23 ?_
  refine g_dup hX d_M_four_24 rfl ?_
  refine g_getI hX d_M_four_25 fl_M_243 (lv_89 _) ?_
  refine g_topi (show rI (sI _ 98 _ _) 89 13 = nI (n + 1) from rfl) ?_
  refine g_iconst (v := nI 1) hX d_M_four_28 rfl ?_
  refine g_iaddN hX d_M_four_29 ?_
  refine g_putI hX d_M_four_30 fl_M_243 (lv_89 _) ?_
  refine g_iinc2 (v := nI 8) hX d_M_four_33 (by decide) rfl (by decide) ?_
  refine g_goto hX d_M_four_36 ?_
  refine g_iload2 hX d_M_four_3 ?_
  refine g_if_lt hX d_M_four_4 (fun h => absurd h (by decide)) (fun c0 => ?_)
  refine g_aload0 hX d_M_four_7 ?_
  refine g_getF hX d_M_four_8 fl_M_35 (lv_89 _) ?_
  refine g_aload0 hX d_M_four_11 ?_
  refine g_getI hX d_M_four_12 fl_M_243 (lv_89 _) ?_
  refine g_topi rfl ?_
  refine g_iload1 hX d_M_four_15 ?_
  refine g_iload2 hX d_M_four_16 ?_
  refine g_ishr hX d_M_four_17 ?_
  refine g_sipush (v := nI 255) hX d_M_four_18 rfl ?_
  refine g_iand hX d_M_four_21 ?_
  refine g_topi (byte_of (s := 8) (by decide)) ?_
  refine g_iast hX d_M_four_22 (lv_98 _) rfl (by omega) ?_
  refine g_aload0 hX d_M_four_23 ?_
  refine g_dup hX d_M_four_24 rfl ?_
  refine g_getI hX d_M_four_25 fl_M_243 (lv_89 _) ?_
  refine g_topi (show rI (sI _ 98 _ _) 89 13 = nI (n + 1 + 1) from rfl) ?_
  refine g_iconst (v := nI 1) hX d_M_four_28 rfl ?_
  refine g_iaddN hX d_M_four_29 ?_
  refine g_putI hX d_M_four_30 fl_M_243 (lv_89 _) ?_
  refine g_iinc2 (v := nI 0) hX d_M_four_33 (by decide) rfl (by decide) ?_
  refine g_goto hX d_M_four_36 ?_
  refine g_iload2 hX d_M_four_3 ?_
  refine g_if_lt hX d_M_four_4 (fun h => absurd h (by decide)) (fun c0 => ?_)
  refine g_aload0 hX d_M_four_7 ?_
  refine g_getF hX d_M_four_8 fl_M_35 (lv_89 _) ?_
  refine g_aload0 hX d_M_four_11 ?_
  refine g_getI hX d_M_four_12 fl_M_243 (lv_89 _) ?_
  refine g_topi rfl ?_
  refine g_iload1 hX d_M_four_15 ?_
  refine g_iload2 hX d_M_four_16 ?_
  refine g_ishr hX d_M_four_17 ?_
  refine g_sipush (v := nI 255) hX d_M_four_18 rfl ?_
  refine g_iand hX d_M_four_21 ?_
  refine g_topi (byte_of (s := 0) (by decide)) ?_
  refine g_iast hX d_M_four_22 (lv_98 _) rfl (by omega) ?_
  refine g_aload0 hX d_M_four_23 ?_
  refine g_dup hX d_M_four_24 rfl ?_
  refine g_getI hX d_M_four_25 fl_M_243 (lv_89 _) ?_
  refine g_topi (show rI (sI _ 98 _ _) 89 13 = nI (n + 1 + 1 + 1) from rfl) ?_
  refine g_iconst (v := nI 1) hX d_M_four_28 rfl ?_
  refine g_iaddN hX d_M_four_29 ?_
  refine g_putI hX d_M_four_30 fl_M_243 (lv_89 _) ?_
  refine g_iinc2 (v := (-8)) hX d_M_four_33 (by decide) rfl (by decide) ?_
  refine g_goto hX d_M_four_36 ?_
  refine g_iload2 hX d_M_four_3 ?_
  refine g_if_lt hX d_M_four_4 (fun c0 => ?_) (fun h => absurd (by decide) h)
  refine g_vret hX hF d_M_four_39 (by omega) (by omega) ?_
  exact ⟨rfl, rfl⟩
theorem W4_tape {w : Mem} {n : Nat} {v : Int32} {t : List Nat} (h : MTape (rI w 98) (rI w 89 13) t) (hn : n = t.length) (h4 : n + 4 ≤ 400) : MTape (rI (W4 w n v) 98) (rI (W4 w n v) 89 13) (t ++ bytes4 v) := by
  subst hn
  obtain ⟨h1, h2, h3⟩ := h
  have hl : (t ++ bytes4 v).length = t.length + 4 := by rw [List.length_append]; rfl
  refine ⟨by omega, by rw [hl]; rfl, fun k hk => ?_⟩
  rw [hl] at hk
  have hb : ∀ j, j < 4 → gA (t ++ bytes4 v) (t.length + j) = gA (bytes4 v) j := fun j hj => by
    unfold gA
    rw [List.getD_eq_getElem?_getD, List.getElem?_append_right (by omega), List.getD_eq_getElem?_getD]
    congr 2
    omega
  have hf : rI (W4 w t.length v) 98 k = upd (upd (upd (upd (rI w 98) t.length (nI (gA (bytes4 v) 0))) (t.length + 1) (nI (gA (bytes4 v) 1))) (t.length + 1 + 1) (nI (gA (bytes4 v) 2))) (t.length + 1 + 1 + 1) (nI (gA (bytes4 v) 3)) k := by
    show upd (upd (upd (upd (rI w 98) _ _) _ _) _ _) _ (nI (v.toBitVec.toNat / 2 ^ 0 % 256)) k = _
    rw [Nat.pow_zero, Nat.div_one]
    rfl
  rw [hf, upd_eq, upd_eq, upd_eq, upd_eq]
  have hm : ∀ j, j < 4 → gA (bytes4 v) j < 256 := by
    intro j hj
    rcases (show j = 0 ∨ j = 1 ∨ j = 2 ∨ j = 3 by omega) with rfl | rfl | rfl | rfl <;> exact Nat.mod_lt _ (by decide)
  by_cases hk4 : k < t.length
  · rw [if_neg (by omega), if_neg (by omega), if_neg (by omega), if_neg (by omega)]
    have e : gA (t ++ bytes4 v) k = gA t k := by
      unfold gA
      rw [List.getD_eq_getElem?_getD, List.getElem?_append_left hk4, List.getD_eq_getElem?_getD]
    rw [e]
    exact h3 k hk4
  · obtain ⟨j, hj, rfl⟩ : ∃ j, j < 4 ∧ k = t.length + j := ⟨k - t.length, by omega, by omega⟩
    rw [hb j hj]
    refine ⟨?_, hm j hj⟩
    rcases (show j = 0 ∨ j = 1 ∨ j = 2 ∨ j = 3 by omega) with rfl | rfl | rfl | rfl
    · rw [if_neg (by omega), if_neg (by omega), if_neg (by omega), if_pos (by omega)]
    · rw [if_neg (by omega), if_neg (by omega), if_pos (by omega)]
    · rw [if_neg (by omega), if_pos (by omega)]
    · rw [if_pos (by omega)]
theorem W4_fr {w w2 : Mem} {n : Nat} {v : Int32} (h : FrM w w2) : FrM w (W4 w2 n v) := by
  unfold W4
  repeat (first | exact h | refine FrM.I (by decide) ?_)
theorem W4_inv {w : Mem} {n : Nat} {v : Int32} {s : SG} (h : MInv w s) (hn : n = (sTp s).length) (h4 : n + 4 ≤ 400) : MInv (W4 w n v) (wTp s (sTp s ++ bytes4 v)) := by
  obtain ⟨h1, h2, h3, h4', h5, h6, h7, h8, h9, h10, h11⟩ := h
  exact ⟨h1, h2, W4_tape h3 hn h4, h4', h5, h6, h7, h8, h9, h10, h11⟩
theorem c_M_feed {E : EV} {w : Mem} {a b c d e : Int32} {s : SG} (h : MInv w s) : T E m_M_feed 1 0 0 [.ref 89, .int a, .int b, .int c, .int d, .int e] w (fun r w2 => r = some (.int (opFeed a b c d e s).1) ∧ MInv w2 (opFeed a b c d e s).2 ∧ FrM w w2) := by
  refine T_of (L := [.ref 89, .int a, .int b, .int c, .int d, .int e]) cf_M_feed rfl (Nat.le_of_ble_eq_true rfl) (fun X hX hF => ?_)
  obtain ⟨⟨hR, hL, hW⟩, hU, hT, hI, hRf, hSt, hFa, hSm, hSp, hDr, hOr⟩ := id h
  have hn := hW.n
  have hv := hW.v
  have he := hW.el
  have ht := hT.1
  have h0 := h.thr (x := nI 0)
  refine g_aload0 hX d_M_feed_0 ?_
  refine g_iconst (v := nI 0) hX d_M_feed_1 rfl ?_
  refine g_putI hX d_M_feed_2 fl_M_170 (lv_89 _) ?_
  refine g_aload0 hX d_M_feed_5 ?_
  refine g_getI hX d_M_feed_6 fl_M_243 (lv_89 _) ?_
  refine g_topi hT.2.1 ?_
  refine g_bipush (v := nI 20) hX d_M_feed_9 rfl ?_
  refine g_iaddN hX d_M_feed_11 ?_
  refine g_sipush (v := nI 400) hX d_M_feed_12 rfl ?_
  refine g_icmpN_le hX d_M_feed_15 (by omega) (by omega) (fun e15 => ?_) (fun e15 => ?_)
  · refine g_aload0 hX d_M_feed_20 ?_
    refine g_iload1 hX d_M_feed_21 ?_
    refine g_callV (As := [_]) hX hF.1 d_M_feed_22 ml_M_252 cf_M_four cv_M_four rfl rfl (c_M_four (n := (sTp s).length + 0) hT.2.1 (by omega)) (rcv_obj hX (lv_89 _) rfl rfl) (by omega) (by omega) (by omega) (Nat.le_of_ble_eq_true rfl) ?_
    refine ret_k ?_
    refine g_aload0 hX d_M_feed_25 ?_
    refine g_iload2 hX d_M_feed_26 ?_
    refine g_callV (As := [_]) hX hF.1 d_M_feed_27 ml_M_252 cf_M_four cv_M_four rfl rfl (c_M_four (n := (sTp s).length + 4) rfl (by omega)) (rcv_obj hX (lv_89 _) rfl rfl) (by omega) (by omega) (by omega) (Nat.le_of_ble_eq_true rfl) ?_
    refine ret_k ?_
    refine g_aload0 hX d_M_feed_30 ?_
    refine g_iload3 hX d_M_feed_31 ?_
    refine g_callV (As := [_]) hX hF.1 d_M_feed_32 ml_M_252 cf_M_four cv_M_four rfl rfl (c_M_four (n := (sTp s).length + 8) rfl (by omega)) (rcv_obj hX (lv_89 _) rfl rfl) (by omega) (by omega) (by omega) (Nat.le_of_ble_eq_true rfl) ?_
    refine ret_k ?_
    refine g_aload0 hX d_M_feed_35 ?_
    refine g_iload4 hX d_M_feed_36 ?_
    refine g_callV (As := [_]) hX hF.1 d_M_feed_38 ml_M_252 cf_M_four cv_M_four rfl rfl (c_M_four (n := (sTp s).length + 12) rfl (by omega)) (rcv_obj hX (lv_89 _) rfl rfl) (by omega) (by omega) (by omega) (Nat.le_of_ble_eq_true rfl) ?_
    refine ret_k ?_
    refine g_aload0 hX d_M_feed_41 ?_
    refine g_iload5 hX d_M_feed_42 ?_
    refine g_callV (As := [_]) hX hF.1 d_M_feed_44 ml_M_252 cf_M_four cv_M_four rfl rfl (c_M_four (n := (sTp s).length + 16) rfl (by omega)) (rcv_obj hX (lv_89 _) rfl rfl) (by omega) (by omega) (by omega) (Nat.le_of_ble_eq_true rfl) ?_
    refine ret_k ?_
    refine g_aload0 hX d_M_feed_47 ?_
    refine g_getI hX d_M_feed_48 fl_M_243 (lv_89 _) ?_
    refine g_topi rfl ?_
    refine g_iret hX hF d_M_feed_51 (by omega) (by omega) ?_
    unfold opFeed
    rw [if_neg (by omega)]
    have k1 := W4_inv (v := a) (n := (sTp s).length + 0) h0 rfl (by omega)
    have k2 := W4_inv (v := b) (n := (sTp s).length + 4) k1 (by simp [sTp, wTp, bytes4]) (by omega)
    have k3 := W4_inv (v := c) (n := (sTp s).length + 8) k2 (by simp [sTp, wTp, bytes4]) (by omega)
    have k4 := W4_inv (v := d) (n := (sTp s).length + 12) k3 (by simp [sTp, wTp, bytes4]) (by omega)
    have k5 := W4_inv (v := e) (n := (sTp s).length + 16) k4 (by simp [sTp, wTp, bytes4]) (by omega)
    refine ⟨rfl, ?_, W4_fr (W4_fr (W4_fr (W4_fr (W4_fr (by repeat (first | exact FrM.rf _ | refine FrM.I (by decide) ?_ | refine FrM.A (by decide) ?_ | refine FrM.J9 ?_ | refine FrM.J (by decide) ?_))))))⟩
    have e : sTp s ++ (bytes4 a ++ bytes4 b ++ bytes4 c ++ bytes4 d ++ bytes4 e) = sTp s ++ bytes4 a ++ bytes4 b ++ bytes4 c ++ bytes4 d ++ bytes4 e := by simp [List.append_assoc]
    rw [e]
    exact k5
  · refine g_iconst (v := -1) hX d_M_feed_18 rfl ?_
    refine g_iret hX hF d_M_feed_19 (by omega) (by omega) ?_
    unfold opFeed
    rw [if_pos (by omega)]
    exact ⟨rfl, h.keep (by repeat (first | exact Scr.rf _ | refine Scr.I9 (by decide) ?_ | refine Scr.I (by decide) ?_ | refine Scr.A (by decide) ?_ | refine Scr.J9 ?_ | refine Scr.J (by decide) ?_ | refine Scr.B (by decide) ?_)), (by repeat (first | exact FrM.rf _ | refine FrM.I (by decide) ?_ | refine FrM.A (by decide) ?_ | refine FrM.J9 ?_ | refine FrM.J (by decide) ?_))⟩
