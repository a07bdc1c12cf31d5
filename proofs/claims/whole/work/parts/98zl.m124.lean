def m_D_orders : MR := (⟨"SubgraphDesk", "orders", "()I"⟩, prog_1_method_18_code, 1, (some .int))
theorem cf_D_orders : CF m_D_orders 0 := ⟨gd 998 (by decide +kernel) rfl, gd 139 (by decide +kernel) rfl, by decide +kernel, by decide, by decide +kernel⟩
theorem cv_D_orders : CV m_D_orders := ⟨gd 996 (by decide +kernel) rfl, gd 997 (by decide +kernel) rfl⟩
def m_Ru_start : MR := (⟨"SubgraphDesk$Runner", "start", "(LSubgraphDesk$Board;LSubgraphDesk$Acts;LSubgraphDesk$Ledger;LSubgraphDesk$Walker;)V"⟩, prog_9_method_2_code, 5, none)
theorem cf_Ru_start : CF m_Ru_start 4 := ⟨gd 1002 (by decide +kernel) rfl, gd 150 (by decide +kernel) rfl, by decide +kernel, by decide, by decide +kernel⟩
theorem cv_Ru_start : CV m_Ru_start := ⟨gd 1000 (by decide +kernel) rfl, gd 1001 (by decide +kernel) rfl⟩
theorem d_D_orders_0 : Dc prog_1_method_18_code 0 (.aload_n 0) 1 1 := ⟨by decide +kernel, rfl⟩
theorem d_D_orders_1 : Dc prog_1_method_18_code 1 (.getfield 75) 3 4 := ⟨by decide +kernel, rfl⟩
theorem d_D_orders_4 : Dc prog_1_method_18_code 4 (.iconst (-1)) 1 5 := ⟨by decide +kernel, rfl⟩
theorem d_D_orders_5 : Dc prog_1_method_18_code 5 (.putfield 215) 3 8 := ⟨by decide +kernel, rfl⟩
theorem d_D_orders_8 : Dc prog_1_method_18_code 8 (.aload_n 0) 1 9 := ⟨by decide +kernel, rfl⟩
theorem d_D_orders_9 : Dc prog_1_method_18_code 9 (.getfield 33) 3 12 := ⟨by decide +kernel, rfl⟩
theorem d_D_orders_12 : Dc prog_1_method_18_code 12 (.iconst 1) 1 13 := ⟨by decide +kernel, rfl⟩
theorem d_D_orders_13 : Dc prog_1_method_18_code 13 (.invokevirtual 198) 3 16 := ⟨by decide +kernel, rfl⟩
theorem d_D_orders_16 : Dj prog_1_method_18_code 16 (.ifCond .ne 10) 19 10 26 := ⟨by decide +kernel, rfl, rfl⟩
theorem d_D_orders_19 : Dc prog_1_method_18_code 19 (.aload_n 0) 1 20 := ⟨by decide +kernel, rfl⟩
theorem d_D_orders_20 : Dc prog_1_method_18_code 20 (.bipush (-6)) 2 22 := ⟨by decide +kernel, rfl⟩
theorem d_D_orders_22 : Dc prog_1_method_18_code 22 (.invokevirtual 91) 3 25 := ⟨by decide +kernel, rfl⟩
theorem d_D_orders_25 : Dc prog_1_method_18_code 25 (.ireturn) 1 26 := ⟨by decide +kernel, rfl⟩
theorem d_D_orders_26 : Dc prog_1_method_18_code 26 (.aload_n 0) 1 27 := ⟨by decide +kernel, rfl⟩
theorem d_D_orders_27 : Dc prog_1_method_18_code 27 (.getfield 75) 3 30 := ⟨by decide +kernel, rfl⟩
theorem d_D_orders_30 : Dc prog_1_method_18_code 30 (.aload_n 0) 1 31 := ⟨by decide +kernel, rfl⟩
theorem d_D_orders_31 : Dc prog_1_method_18_code 31 (.getfield 10) 3 34 := ⟨by decide +kernel, rfl⟩
theorem d_D_orders_34 : Dc prog_1_method_18_code 34 (.aload_n 0) 1 35 := ⟨by decide +kernel, rfl⟩
theorem d_D_orders_35 : Dc prog_1_method_18_code 35 (.getfield 26) 3 38 := ⟨by decide +kernel, rfl⟩
theorem d_D_orders_38 : Dc prog_1_method_18_code 38 (.aload_n 0) 1 39 := ⟨by decide +kernel, rfl⟩
theorem d_D_orders_39 : Dc prog_1_method_18_code 39 (.getfield 40) 3 42 := ⟨by decide +kernel, rfl⟩
theorem d_D_orders_42 : Dc prog_1_method_18_code 42 (.aload_n 0) 1 43 := ⟨by decide +kernel, rfl⟩
theorem d_D_orders_43 : Dc prog_1_method_18_code 43 (.getfield 47) 3 46 := ⟨by decide +kernel, rfl⟩
theorem d_D_orders_46 : Dc prog_1_method_18_code 46 (.invokevirtual 218) 3 49 := ⟨by decide +kernel, rfl⟩
theorem d_D_orders_49 : Dc prog_1_method_18_code 49 (.aload_n 0) 1 50 := ⟨by decide +kernel, rfl⟩
theorem d_D_orders_50 : Dc prog_1_method_18_code 50 (.getfield 75) 3 53 := ⟨by decide +kernel, rfl⟩
theorem d_D_orders_53 : Dc prog_1_method_18_code 53 (.aload_n 0) 1 54 := ⟨by decide +kernel, rfl⟩
theorem d_D_orders_54 : Dc prog_1_method_18_code 54 (.getfield 33) 3 57 := ⟨by decide +kernel, rfl⟩
theorem d_D_orders_57 : Dc prog_1_method_18_code 57 (.getfield 202) 3 60 := ⟨by decide +kernel, rfl⟩
theorem d_D_orders_60 : Dc prog_1_method_18_code 60 (.invokevirtual 222) 3 63 := ⟨by decide +kernel, rfl⟩
theorem d_D_orders_63 : Dj prog_1_method_18_code 63 (.ifCond .ne 10) 66 10 73 := ⟨by decide +kernel, rfl, rfl⟩
theorem d_D_orders_66 : Dc prog_1_method_18_code 66 (.aload_n 0) 1 67 := ⟨by decide +kernel, rfl⟩
theorem d_D_orders_67 : Dc prog_1_method_18_code 67 (.bipush (-3)) 2 69 := ⟨by decide +kernel, rfl⟩
theorem d_D_orders_69 : Dc prog_1_method_18_code 69 (.invokevirtual 91) 3 72 := ⟨by decide +kernel, rfl⟩
theorem d_D_orders_72 : Dc prog_1_method_18_code 72 (.ireturn) 1 73 := ⟨by decide +kernel, rfl⟩
theorem d_D_orders_73 : Dc prog_1_method_18_code 73 (.aload_n 0) 1 74 := ⟨by decide +kernel, rfl⟩
theorem d_D_orders_74 : Dc prog_1_method_18_code 74 (.aload_n 0) 1 75 := ⟨by decide +kernel, rfl⟩
theorem d_D_orders_75 : Dc prog_1_method_18_code 75 (.getfield 75) 3 78 := ⟨by decide +kernel, rfl⟩
theorem d_D_orders_78 : Dc prog_1_method_18_code 78 (.getfield 226) 3 81 := ⟨by decide +kernel, rfl⟩
theorem d_D_orders_81 : Dc prog_1_method_18_code 81 (.invokevirtual 95) 3 84 := ⟨by decide +kernel, rfl⟩
theorem d_D_orders_84 : Dc prog_1_method_18_code 84 (.ireturn) 1 85 := ⟨by decide +kernel, rfl⟩
theorem d_Ru_start_0 : Dc prog_9_method_2_code 0 (.aload_n 0) 1 1 := ⟨by decide +kernel, rfl⟩
theorem d_Ru_start_1 : Dc prog_9_method_2_code 1 (.aload_n 1) 1 2 := ⟨by decide +kernel, rfl⟩
theorem d_Ru_start_2 : Dc prog_9_method_2_code 2 (.putfield 33) 3 5 := ⟨by decide +kernel, rfl⟩
theorem d_Ru_start_5 : Dc prog_9_method_2_code 5 (.aload_n 0) 1 6 := ⟨by decide +kernel, rfl⟩
theorem d_Ru_start_6 : Dc prog_9_method_2_code 6 (.aload_n 2) 1 7 := ⟨by decide +kernel, rfl⟩
theorem d_Ru_start_7 : Dc prog_9_method_2_code 7 (.putfield 36) 3 10 := ⟨by decide +kernel, rfl⟩
theorem d_Ru_start_10 : Dc prog_9_method_2_code 10 (.aload_n 0) 1 11 := ⟨by decide +kernel, rfl⟩
theorem d_Ru_start_11 : Dc prog_9_method_2_code 11 (.aload_n 3) 1 12 := ⟨by decide +kernel, rfl⟩
theorem d_Ru_start_12 : Dc prog_9_method_2_code 12 (.putfield 39) 3 15 := ⟨by decide +kernel, rfl⟩
theorem d_Ru_start_15 : Dc prog_9_method_2_code 15 (.aload_n 0) 1 16 := ⟨by decide +kernel, rfl⟩
theorem d_Ru_start_16 : Dc prog_9_method_2_code 16 (.aload 4) 2 18 := ⟨by decide +kernel, rfl⟩
theorem d_Ru_start_18 : Dc prog_9_method_2_code 18 (.putfield 43) 3 21 := ⟨by decide +kernel, rfl⟩
theorem d_Ru_start_21 : Dc prog_9_method_2_code 21 (.aload_n 0) 1 22 := ⟨by decide +kernel, rfl⟩
theorem d_Ru_start_22 : Dc prog_9_method_2_code 22 (.iconst 0) 1 23 := ⟨by decide +kernel, rfl⟩
theorem d_Ru_start_23 : Dc prog_9_method_2_code 23 (.putfield 47) 3 26 := ⟨by decide +kernel, rfl⟩
theorem d_Ru_start_26 : Dc prog_9_method_2_code 26 (.aload_n 0) 1 27 := ⟨by decide +kernel, rfl⟩
theorem d_Ru_start_27 : Dc prog_9_method_2_code 27 (.iconst (-1)) 1 28 := ⟨by decide +kernel, rfl⟩
theorem d_Ru_start_28 : Dc prog_9_method_2_code 28 (.putfield 50) 3 31 := ⟨by decide +kernel, rfl⟩
theorem d_Ru_start_31 : Dc prog_9_method_2_code 31 (.return_) 1 32 := ⟨by decide +kernel, rfl⟩
theorem fl_D_202 : FL "SubgraphDesk" 202 7 1 true (.object "SubgraphDesk$Program") (3, 3) := ⟨R_Re, F_Re, 5, ty_Re, rfl, rfl, in_Re, tyok_Re, nm_Re, by decide, gd 352 (by decide +kernel) rfl, rfl, rfl, rfl⟩
theorem fl_D_226 : FL "SubgraphDesk" 226 8 7 false .int (0, 0) := ⟨R_Ru, F_Ru, 10, ty_Ru, rfl, rfl, in_Ru, tyok_Ru, nm_Ru, by decide, gd 529 (by decide +kernel) rfl, rfl, rfl, rfl⟩
theorem ml_D_198 : Cond.methodLink "SubgraphDesk" 198 m_Re_readText.1 ∈ lw_gd := gd 772 (by decide +kernel) rfl
theorem ml_D_218 : Cond.methodLink "SubgraphDesk" 218 m_Ru_start.1 ∈ lw_gd := gd 999 (by decide +kernel) rfl
theorem ml_D_222 : Cond.methodLink "SubgraphDesk" 222 m_Ru_runAll.1 ∈ lw_gd := gd 1003 (by decide +kernel) rfl
/-- a text was read: the tape is empty, the fault is told -/
theorem DInv.txt {w w2 : Mem} {s : SG} {x : Int32} (h : DInv w s) (e : ∀ a, a ≠ 25 → a ≠ 26 → a ≠ 28 → a ≠ 29 → a ≠ 30 → rI w2 a = rI w a) (e26 : rI w2 26 1 = nI 0) (e2 : w2.2 = w.2) (e4 : rI w2 25 4 = x) : DInv w2 (wFa (wTp s []) x) := by
  have kk := KpR.of2 e2
  have ee : ∀ a, (a < 25 ∨ 30 < a) → rI w2 a = rI w a := fun a ha => e a (by omega) (by omega) (by omega) (by omega) (by omega)
  obtain ⟨h1, h2, h3, h4, h5, h6, h7, h8⟩ := h
  refine ⟨h1.fr (fun a ha => ee a (by omega)), h2.fr isBo1 (fun a ha => ee a (by omega)) kk, ⟨Nat.zero_le _, e26, fun k hk => absurd hk (Nat.not_lt_zero _)⟩, h4.fr (fun a h1 h2 => ee a (by omega)) kk, h5.fr (ee 70 (by decide)) (by rw [ee 0 (by decide)]), ?_, h7.fr (fun a h1 h2 => ee a (by omega)), h8.fr kk⟩
  rw [ee 0 (by decide), ee 53 (by decide)]
  exact ⟨h6.1, e4, h6.2.2⟩
theorem OtQ.rv {w w2 : Mem} {t : List Nat} {r : Option Value} (h : OtQ w w2 t r) : r = some (.int (b2i (okZ (ordT t) = true))) := by
  obtain ⟨-, -, -, h⟩ := h
  cases hx : ordT t with
  | inl e => rw [hx] at h; rw [h.1, b2i_f (show ¬ (okZ (.inl e : Nat ⊕ List OcT) = true) from fun z => by cases z)]; rfl
  | inr y => rw [hx] at h; rw [h.1, b2i_t (show okZ (.inr y : Nat ⊕ List OcT) = true from rfl)]; rfl
theorem RaQ.rv {w w2 : Mem} {s : SG} {x : Nat ⊕ RSt} {r : Option Value} (h : RaQ w w2 s x r) : r = some (.int (b2i (okZ x = true))) := by
  obtain ⟨-, h⟩ := h
  cases x with
  | inl e => rw [h.1, b2i_f (show ¬ (okZ (.inl e : Nat ⊕ RSt) = true) from fun z => by cases z)]; rfl
  | inr y => rw [h.1, b2i_t (show okZ (.inr y : Nat ⊕ RSt) = true from rfl)]; rfl
def FrGo (w w2 : Mem) : Prop := (∀ a, a ≠ 53 → rI w2 a = rI w a) ∧ rI w2 53 9 = rI w 53 9 ∧ w2.2.1 = w.2.1 ∧ (∀ a, a ≠ 53 → rR w2 a = rR w a) ∧ w2.2.2.2 = w.2.2.2
theorem DInv.go {w w2 : Mem} {s : SG} (h : DInv w s) (f : FrGo w w2) : DInv w2 s := by
  have kk : KpR w w2 := ⟨fun a _ _ h3 => f.2.2.2.1 a h3, f.2.2.2.2⟩
  have e := f.1
  obtain ⟨h1, h2, h3, h4, h5, h6, h7, h8⟩ := h
  refine ⟨h1.fr (fun a ha => e a (by omega)), h2.fr isBo1 (fun a ha => e a (by omega)) kk, h3.fr (by rw [e 26 (by decide)]) (e 27 (by decide)), h4.fr (fun a h1 h2 => e a (by omega)) kk, h5.fr (e 70 (by decide)) (by rw [e 0 (by decide)]), ?_, h7.fr (fun a h1 h2 => e a (by omega)), h8.fr kk⟩
  rw [e 0 (by decide), e 25 (by decide), f.2.1]
  exact h6
theorem c_Ru_start {E : EV} {w : Mem}  : T E m_Ru_start 0 0 0 [.ref 53, .ref 1, .ref 20, .ref 31, .ref 36] w (fun r w2 => r = none ∧ RuE w2 ∧ rI w2 53 7 = nI 0 ∧ rI w2 53 8 = -1 ∧ FrGo w w2) := by
  refine T_of (L := [.ref 53, .ref 1, .ref 20, .ref 31, .ref 36]) cf_Ru_start rfl (Nat.le_of_ble_eq_true rfl) (fun X hX hF => ?_)
  refine g_aload0 hX d_Ru_start_0 ?_
  refine g_aload1 hX d_Ru_start_1 ?_
  refine g_putR (by first | exact Or.inl ⟨_, rfl⟩ | exact Or.inr ⟨_, rfl⟩) hX d_Ru_start_2 fl_Ru_33 (lv_53 _) ?_
  refine g_aload0 hX d_Ru_start_5 ?_
  refine g_aload2 hX d_Ru_start_6 ?_
  refine g_putR (by first | exact Or.inl ⟨_, rfl⟩ | exact Or.inr ⟨_, rfl⟩) hX d_Ru_start_7 fl_Ru_36 (lv_53 _) ?_
  refine g_aload0 hX d_Ru_start_10 ?_
  refine g_aload3 hX d_Ru_start_11 ?_
  refine g_putR (by first | exact Or.inl ⟨_, rfl⟩ | exact Or.inr ⟨_, rfl⟩) hX d_Ru_start_12 fl_Ru_39 (lv_53 _) ?_
  refine g_aload0 hX d_Ru_start_15 ?_
  refine g_aload4 hX d_Ru_start_16 ?_
  refine g_putR (by first | exact Or.inl ⟨_, rfl⟩ | exact Or.inr ⟨_, rfl⟩) hX d_Ru_start_18 fl_Ru_43 (lv_53 _) ?_
  refine g_aload0 hX d_Ru_start_21 ?_
  refine g_iconst (v := nI 0) hX d_Ru_start_22 rfl ?_
  refine g_putI hX d_Ru_start_23 fl_Ru_47 (lv_53 _) ?_
  refine g_aload0 hX d_Ru_start_26 ?_
  refine g_iconst (v := -1) hX d_Ru_start_27 rfl ?_
  refine g_putI hX d_Ru_start_28 fl_Ru_50 (lv_53 _) ?_
  refine g_vret hX hF d_Ru_start_31 (by omega) (by omega) ?_
  refine ⟨rfl, ⟨?_, ?_, ?_, ?_⟩, ?_, ?_, ⟨fun a ha => ?_, ?_, rfl, fun a ha => ?_, rfl⟩⟩
  · show rR (sR (sR (sR (sR w 53 0 (some 1)) 53 1 (some 20)) 53 2 (some 31)) 53 3 (some 36)) 53 0 = some 1
    rw [rR_sR, rR_sR, rR_sR, rR_sR]; rfl
  · show rR (sR (sR (sR (sR w 53 0 (some 1)) 53 1 (some 20)) 53 2 (some 31)) 53 3 (some 36)) 53 1 = some 20
    rw [rR_sR, rR_sR, rR_sR]; rfl
  · show rR (sR (sR (sR (sR w 53 0 (some 1)) 53 1 (some 20)) 53 2 (some 31)) 53 3 (some 36)) 53 2 = some 31
    rw [rR_sR, rR_sR]; rfl
  · show rR (sR (sR (sR (sR w 53 0 (some 1)) 53 1 (some 20)) 53 2 (some 31)) 53 3 (some 36)) 53 3 = some 36
    rw [rR_sR]; rfl
  · rw [rI_sI, upd_eq, if_neg (by decide), rI_sI, upd_eq, if_pos rfl]
  · rw [rI_sI, upd_eq, if_pos rfl]
  · rw [rI_sI_ne _ _ _ ha, rI_sI_ne _ _ _ ha]; rfl
  · rw [rI_sI, upd_eq, if_neg (by decide), rI_sI, upd_eq, if_neg (by decide)]; rfl
  · show rR (sR (sR (sR (sR w 53 0 (some 1)) 53 1 (some 20)) 53 2 (some 31)) 53 3 (some 36)) a = _
    rw [rR_sR_ne _ _ _ ha, rR_sR_ne _ _ _ ha, rR_sR_ne _ _ _ ha, rR_sR_ne _ _ _ ha]
theorem c_D_orders {E : EV} {w : Mem} {s : SG} (h : DInv w s) : T E m_D_orders 90 0 0 [.ref 0] w (fun r w2 => r = some (.int (opOrders s).1) ∧ DInv w2 (opOrders s).2 ∧ DkD w w2) := by
  refine T_of (L := [.ref 0]) cf_D_orders rfl (Nat.le_of_ble_eq_true rfl) (fun X hX hF => ?_)
  refine g_aload0 hX d_D_orders_0 ?_
  refine g_getF hX d_D_orders_1 fl_D_75 (lv_0 _) ?_
  refine g_iconst (v := -1) hX d_D_orders_4 rfl ?_
  refine g_putI hX d_D_orders_5 fl_D_215 (lv_53 _) ?_
  refine g_aload0 hX d_D_orders_8 ?_
  have h1 : DInv (sI w 53 9 (-1)) (wSp s (-1)) := h.spw
  refine g_getF hX d_D_orders_9 fl_D_33 (lv_0 _) ?_
  refine g_iconst (v := nI 1) hX d_D_orders_12 rfl ?_
  refine g_callV (As := [_]) hX hF.1 d_D_orders_13 ml_D_198 cf_Re_readText cv_Re_readText rfl rfl (c_Re_readText1 h1.t h1.2.2.2.2.2.2.2.1) (rcv_obj hX (lv_25 _) rfl rfl) (by omega) (by omega) (by omega) (Nat.le_of_ble_eq_true rfl) ?_
  rintro r2 w2 hQ
  obtain rfl := hQ.rv
  obtain ⟨q1, q2, q3, q4⟩ := id hQ
  obtain ⟨x, hx⟩ : ∃ x, ordT (sTp s) = x := ⟨_, rfl⟩
  replace hx : ordT (sTp (wSp s (-1))) = x := hx
  have hD2 : DkD w w2 := DkD.tr (b := sI w 53 9 (-1)) ⟨fun a h1 h2 => rI_sI_ne _ _ _ (by omega), fun _ _ _ => rfl⟩ ⟨fun a h1 h2 => q1 a (by omega) (by omega) (by omega) (by omega) (by omega), fun a h1 h2 => by unfold rJ; rw [q3]⟩
  rw [hx] at q4 ⊢
  show G0 _ _ _ _ _ _ _ _
  refine g_ifB_ne hX d_D_orders_16 (fun e16 => ?_) (fun e16 => ?_)
  · obtain ⟨cls, rfl⟩ := okZ_t e16
    obtain ⟨-, q5, q6, c, q7, q8, q9, q10, q11⟩ := q4
    have h2 := h1.txt q1 q2 q3 q5
    have hO2 : OdP w2 c cls := ⟨q7, q8, q9, q10, q6, q11⟩
    refine g_aload0 hX d_D_orders_26 ?_
    refine g_getF hX d_D_orders_27 fl_D_75 (lv_0 _) ?_
    refine g_aload0 hX d_D_orders_30 ?_
    refine g_getF hX d_D_orders_31 fl_D_10 (lv_0 _) ?_
    refine g_aload0 hX d_D_orders_34 ?_
    refine g_getF hX d_D_orders_35 fl_D_26 (lv_0 _) ?_
    refine g_aload0 hX d_D_orders_38 ?_
    refine g_getF hX d_D_orders_39 fl_D_40 (lv_0 _) ?_
    refine g_aload0 hX d_D_orders_42 ?_
    refine g_getF hX d_D_orders_43 fl_D_47 (lv_0 _) ?_
    refine g_callV (As := [_, _, _, _]) hX hF.1 d_D_orders_46 ml_D_218 cf_Ru_start cv_Ru_start rfl rfl (c_Ru_start) (rcv_obj hX (lv_53 _) rfl rfl) (by omega) (by omega) (by omega) (Nat.le_of_ble_eq_true rfl) ?_
    rintro _ w3 ⟨rfl, hE3, hd3, hl3, hg3⟩
    have h3 := h2.go hg3
    have hO3 := hO2.rn (fun a ha => hg3.1 a (by omega)) (hg3.2.2.2.1 28 (by decide))
    have hD3 : DkD w w3 := hD2.tr ⟨fun a h1 h2 => hg3.1 a (by omega), fun a h1 h2 => by unfold rJ; rw [hg3.2.2.1]⟩
    obtain ⟨R, hR9⟩ : ∃ R, runsR cls 0 (sG s, sU s, 0, -1) = R := ⟨_, rfl⟩
    show G0 _ _ _ _ _ _ _ _
    refine g_aload0 hX d_D_orders_49 ?_
    refine g_getF hX d_D_orders_50 fl_D_75 (lv_0 _) ?_
    refine g_aload0 hX d_D_orders_53 ?_
    refine g_getF hX d_D_orders_54 fl_D_33 (lv_0 _) ?_
    refine g_getF hX d_D_orders_57 fl_D_202 (lv_25 _) ?_
    refine g_callV (As := [_]) hX hF.1 d_D_orders_60 ml_D_222 cf_Ru_runAll cv_Ru_runAll rfl rfl (c_Ru_runAll h3 hE3 hO3 hd3 hl3 hR9) (rcv_obj hX (lv_53 _) rfl rfl) (by omega) (by omega) (by omega) (Nat.le_of_ble_eq_true rfl) ?_
    rintro r4 w4 hQ4
    obtain rfl := hQ4.rv
    show G0 _ _ _ _ _ _ _ _
    refine g_ifB_ne hX d_D_orders_63 (fun e63 => ?_) (fun e63 => ?_)
    · obtain ⟨z, rfl⟩ := okZ_t e63
      obtain ⟨d4, -, h4, h7⟩ := hQ4
      have hop : opOrders s = sOk (nI z.2.2.1) (wU (wG (wFa (wTp (wSp s (-1)) []) (-1)) z.1) z.2.1) := by
        unfold opOrders ordersA
        rw [hx]
        dsimp only
        rw [show runsR cls 0 (sG (wSp s (-1)), sU (wSp s (-1)), 0, -1) = .inr z from hR9]
      refine g_aload0 hX d_D_orders_73 ?_
      refine g_aload0 hX d_D_orders_74 ?_
      refine g_getF hX d_D_orders_75 fl_D_75 (lv_0 _) ?_
      refine g_getI hX d_D_orders_78 fl_D_226 (lv_53 _) ?_
      refine g_topi h7 ?_
      refine g_callV (As := [_]) hX hF.1 d_D_orders_81 ml_D_95 cf_D_grant cv_D_grant rfl rfl (c_D_grant (y := nI z.2.2.1) h4.2.2.2.2.1) (rcv_obj hX (lv_0 _) rfl rfl) (by omega) (by omega) (by omega) (Nat.le_of_ble_eq_true rfl) ?_
      rintro _ w9 ⟨rfl, hF9, hf9⟩
      show G0 _ _ _ _ _ _ _ _
      refine g_iret hX hF d_D_orders_84 (by omega) (by omega) ?_
      rw [hop]
      exact ⟨rfl, h4.n (h4.g.fr (fun a ha => hf9.1 a (by omega) (by omega))) rfl hf9.N hF9, (hD3.tr d4).tr hf9.N.D⟩
    · obtain ⟨k, rfl⟩ := okZ_f e63
      obtain ⟨d4, -, h4⟩ := hQ4
      have hop : opOrders s = sNo 3 (wSp (wFa (wTp (wSp s (-1)) []) (-1)) (nI k)) := by
        unfold opOrders ordersA
        rw [hx]
        dsimp only
        rw [show runsR cls 0 (sG (wSp s (-1)), sU (wSp s (-1)), 0, -1) = .inl k from hR9]
      refine g_aload0 hX d_D_orders_66 ?_
      refine g_bipush (v := -3) hX d_D_orders_67 rfl ?_
      refine g_callV (As := [_]) hX hF.1 d_D_orders_69 ml_D_91 cf_D_refuse cv_D_refuse rfl rfl (c_D_refuse3 h4.2.2.2.2.1) (rcv_obj hX (lv_0 _) rfl rfl) (by omega) (by omega) (by omega) (Nat.le_of_ble_eq_true rfl) ?_
      rintro _ w9 ⟨rfl, hF9, hf9⟩
      show G0 _ _ _ _ _ _ _ _
      refine g_iret hX hF d_D_orders_72 (by omega) (by omega) ?_
      rw [hop]
      exact ⟨rfl, h4.no hf9 hF9, (hD3.tr d4).tr hf9.N.D⟩
  · obtain ⟨e, rfl⟩ := okZ_f e16
    have h2 := h1.txt q1 q2 q3 q4.2
    have hop : opOrders s = sNo 6 (wFa (wTp (wSp s (-1)) []) (nI e)) := by
      unfold opOrders ordersA
      rw [hx]
    refine g_aload0 hX d_D_orders_19 ?_
    refine g_bipush (v := -6) hX d_D_orders_20 rfl ?_
    refine g_callV (As := [_]) hX hF.1 d_D_orders_22 ml_D_91 cf_D_refuse cv_D_refuse rfl rfl (c_D_refuse6 h2.2.2.2.2.1) (rcv_obj hX (lv_0 _) rfl rfl) (by omega) (by omega) (by omega) (Nat.le_of_ble_eq_true rfl) ?_
    rintro _ w9 ⟨rfl, hF9, hf9⟩
    show G0 _ _ _ _ _ _ _ _
    refine g_iret hX hF d_D_orders_25 (by omega) (by omega) ?_
    rw [hop]
    exact ⟨rfl, h2.no hf9 hF9, hD2.tr hf9.N.D⟩
