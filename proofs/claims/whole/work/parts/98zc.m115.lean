def m_Re_readRule : MR := (⟨"SubgraphDesk$Reader", "readRule", "()Z"⟩, prog_8_method_4_code, 2, (some .boolean))
theorem cf_Re_readRule : CF m_Re_readRule 0 := ⟨gd 942 (by decide +kernel) rfl, gd 142 (by decide +kernel) rfl, by decide +kernel, by decide, by decide +kernel⟩
theorem cv_Re_readRule : CV m_Re_readRule := ⟨gd 941 (by decide +kernel) rfl, gd 14 (by decide +kernel) rfl⟩
theorem d_Re_readRule_0 : Dc prog_8_method_4_code 0 (.aload_n 0) 1 1 := ⟨by decide +kernel, rfl⟩
theorem d_Re_readRule_1 : Dc prog_8_method_4_code 1 (.getfield 12) 3 4 := ⟨by decide +kernel, rfl⟩
theorem d_Re_readRule_4 : Dc prog_8_method_4_code 4 (.ldc 70) 2 6 := ⟨by decide +kernel, rfl⟩
theorem d_Re_readRule_6 : Dc prog_8_method_4_code 6 (.invokevirtual 72) 3 9 := ⟨by decide +kernel, rfl⟩
theorem d_Re_readRule_9 : Dc prog_8_method_4_code 9 (.istore_n 1) 1 10 := ⟨by decide +kernel, rfl⟩
theorem d_Re_readRule_10 : Dc prog_8_method_4_code 10 (.iload_n 1) 1 11 := ⟨by decide +kernel, rfl⟩
theorem d_Re_readRule_11 : Dj prog_8_method_4_code 11 (.ifCond .ne 20) 14 20 31 := ⟨by decide +kernel, rfl, rfl⟩
theorem d_Re_readRule_14 : Dc prog_8_method_4_code 14 (.aload_n 0) 1 15 := ⟨by decide +kernel, rfl⟩
theorem d_Re_readRule_15 : Dc prog_8_method_4_code 15 (.getfield 12) 3 18 := ⟨by decide +kernel, rfl⟩
theorem d_Re_readRule_18 : Dc prog_8_method_4_code 18 (.ldc 76) 2 20 := ⟨by decide +kernel, rfl⟩
theorem d_Re_readRule_20 : Dc prog_8_method_4_code 20 (.invokevirtual 72) 3 23 := ⟨by decide +kernel, rfl⟩
theorem d_Re_readRule_23 : Dj prog_8_method_4_code 23 (.ifCond .ne 8) 26 8 31 := ⟨by decide +kernel, rfl, rfl⟩
theorem d_Re_readRule_26 : Dc prog_8_method_4_code 26 (.aload_n 0) 1 27 := ⟨by decide +kernel, rfl⟩
theorem d_Re_readRule_27 : Dc prog_8_method_4_code 27 (.invokevirtual 64) 3 30 := ⟨by decide +kernel, rfl⟩
theorem d_Re_readRule_30 : Dc prog_8_method_4_code 30 (.ireturn) 1 31 := ⟨by decide +kernel, rfl⟩
theorem d_Re_readRule_31 : Dc prog_8_method_4_code 31 (.aload_n 0) 1 32 := ⟨by decide +kernel, rfl⟩
theorem d_Re_readRule_32 : Dc prog_8_method_4_code 32 (.getfield 23) 3 35 := ⟨by decide +kernel, rfl⟩
theorem d_Re_readRule_35 : Dc prog_8_method_4_code 35 (.iload_n 1) 1 36 := ⟨by decide +kernel, rfl⟩
theorem d_Re_readRule_36 : Dj prog_8_method_4_code 36 (.ifCond .eq 7) 39 7 43 := ⟨by decide +kernel, rfl, rfl⟩
theorem d_Re_readRule_39 : Dc prog_8_method_4_code 39 (.iconst 4) 1 40 := ⟨by decide +kernel, rfl⟩
theorem d_Re_readRule_40 : Dj prog_8_method_4_code 40 (.goto 4) 43 4 44 := ⟨by decide +kernel, rfl, rfl⟩
theorem d_Re_readRule_43 : Dc prog_8_method_4_code 43 (.iconst 5) 1 44 := ⟨by decide +kernel, rfl⟩
theorem d_Re_readRule_44 : Dc prog_8_method_4_code 44 (.invokevirtual 78) 3 47 := ⟨by decide +kernel, rfl⟩
theorem d_Re_readRule_47 : Dc prog_8_method_4_code 47 (.aload_n 0) 1 48 := ⟨by decide +kernel, rfl⟩
theorem d_Re_readRule_48 : Dc prog_8_method_4_code 48 (.getfield 12) 3 51 := ⟨by decide +kernel, rfl⟩
theorem d_Re_readRule_51 : Dc prog_8_method_4_code 51 (.invokevirtual 67) 3 54 := ⟨by decide +kernel, rfl⟩
theorem d_Re_readRule_54 : Dc prog_8_method_4_code 54 (.iload_n 1) 1 55 := ⟨by decide +kernel, rfl⟩
theorem d_Re_readRule_55 : Dj prog_8_method_4_code 55 (.ifCond .eq 11) 58 11 66 := ⟨by decide +kernel, rfl, rfl⟩
theorem d_Re_readRule_58 : Dc prog_8_method_4_code 58 (.aload_n 0) 1 59 := ⟨by decide +kernel, rfl⟩
theorem d_Re_readRule_59 : Dc prog_8_method_4_code 59 (.iconst 1) 1 60 := ⟨by decide +kernel, rfl⟩
theorem d_Re_readRule_60 : Dc prog_8_method_4_code 60 (.invokevirtual 82) 3 63 := ⟨by decide +kernel, rfl⟩
theorem d_Re_readRule_63 : Dj prog_8_method_4_code 63 (.ifCond .eq 7) 66 7 70 := ⟨by decide +kernel, rfl, rfl⟩
theorem d_Re_readRule_66 : Dc prog_8_method_4_code 66 (.iconst 1) 1 67 := ⟨by decide +kernel, rfl⟩
theorem d_Re_readRule_67 : Dj prog_8_method_4_code 67 (.goto 4) 70 4 71 := ⟨by decide +kernel, rfl, rfl⟩
theorem d_Re_readRule_70 : Dc prog_8_method_4_code 70 (.iconst 0) 1 71 := ⟨by decide +kernel, rfl⟩
theorem d_Re_readRule_71 : Dc prog_8_method_4_code 71 (.ireturn) 1 72 := ⟨by decide +kernel, rfl⟩
theorem ml_Re_78 : Cond.methodLink "SubgraphDesk$Reader" 78 m_Pr_addClause.1 ∈ lw_gd := gd 860 (by decide +kernel) rfl
theorem ml_Re_82 : Cond.methodLink "SubgraphDesk$Reader" 82 m_Re_readWholeSum.1 ∈ lw_gd := gd 871 (by decide +kernel) rfl
/-! ===== a law's text ===== -/
theorem clW_o {w : Mem} {m s a : Nat} (h1 : a ≠ 28) (h2 : a ≠ 29) : rI (clW w m s) a = rI w a := by
  unfold clW
  rw [rI_sI_ne _ _ _ h1, rI_sI_ne _ _ _ h2, rI_sI_ne _ _ _ h2, rI_sA_ne _ _ h2]
theorem clW_0 (w : Mem) (m s : Nat) : rI (clW w m s) 28 0 = nI (m + 1) := by unfold clW; rw [rI_sI, upd_eq, if_pos rfl]
theorem clW_1 (w : Mem) (m s : Nat) : rI (clW w m s) 28 1 = rI w 28 1 := by
  unfold clW
  rw [rI_sI, upd_eq, if_neg (by decide), rI_sI_ne _ _ _ (by decide), rI_sI_ne _ _ _ (by decide), rI_sA_ne _ _ (by decide)]
theorem clW_29 (w : Mem) (m s j : Nat) : rI (clW w m s) 29 j = if j = 8 * m + 7 then nI 1 else if j = 8 * m then nI s else if 8 * m ≤ j ∧ j < 8 * m + 8 then nI 0 else rI w 29 j := by
  unfold clW
  rw [rI_sI_ne _ _ _ (by decide), rI_sI, upd_eq, rI_sI, upd_eq, rI_sA]
  rfl
theorem clW_2 (w : Mem) (m s : Nat) : (clW w m s).2 = w.2 := rfl
section
variable {w w2 : Mem} {t : List Nat} {o : Bool} {f p m s : Nat} {c c2 : List (Nat × Nat)}
theorem RdI.cl (h : RdI w t o f p c) : RdI (clW w m s) t o f p c := by
  obtain ⟨h1, h2, h3, h4, h5⟩ := h
  exact ⟨h1.o (clW_o (by decide) (by decide)) (clW_o (by decide) (by decide)), by rw [clW_o (by decide) (by decide)]; exact h2, by rw [clW_o (by decide) (by decide)]; exact h3, h4.fr (by rw [clW_2]) (clW_1 _ _ _) (clW_o (by decide) (by decide)), h5⟩
theorem FrRt.cl (h : FrRt w w2) : FrRt w (clW w2 m s) := ⟨fun a h1 h2 h3 h4 h5 => by rw [clW_o h3 h4]; exact h.1 a h1 h2 h3 h4 h5, by rw [clW_o (by decide) (by decide)]; exact h.2.1, fun q hq => by rw [clW_o (by decide) (by decide)]; exact h.2.2.1 q hq, by rw [clW_2]; exact h.2.2.2⟩
theorem DCl.keep {h h2 : Nat → Int32} {k : Nat} {x : Bool × Den × Option Den} (hd : DCl h c k x) (hs : ∃ s, c2 = c ++ s) (e : ∀ j, j < 8 * k + 8 → h2 j = h j) : DCl h2 c2 k x := by
  obtain ⟨s, rfl⟩ := hs
  obtain ⟨h0, a, b, u, v, h1, h3, h4, h5, g1, g2, g3, g4, g5, g6⟩ := hd
  have hl : c.length ≤ (c ++ s).length := by rw [List.length_append]; omega
  refine ⟨by rw [e _ (by omega)]; exact h0, a, b, u, v, by rw [e _ (by omega)]; exact h1, by rw [e _ (by omega)]; exact h3, by rw [e _ (by omega)]; exact h4, by rw [e _ (by omega)]; exact h5, by omega, by omega, by omega, by omega, fun z => (g5 z).app g2, ?_⟩
  obtain ⟨x1, x2, x3⟩ := x
  cases x3 with
  | none => exact g6
  | some f => exact ⟨g6.1.app g4, g6.2⟩
end
abbrev RuR : Type := Nat ⊕ (Nat × Nat × Bool × Den)
noncomputable def ruT (t : List Nat) (f p : Nat) : RuR := if isW t f wCosts then (match rdE t false 3 (nxT t f) p with
  | .inl e => .inl e
  | .inr y => .inr (y.1, y.2.1, true, y.2.2)) else if isW t f wBars then .inr (nxT t f, p, false, fun _ => none) else .inl f
theorem lawCl_ru {t : List Nat} {k f p : Nat} (h : k < 12) : lawCl t k f p = match ruT t f p with
  | .inl e => .inl e
  | .inr y => match ifT t false y.1 y.2.1 with
    | .inl e => .inl e
    | .inr z => .inr (z.1, z.2.1, (y.2.2.1, y.2.2.2, z.2.2)) := by
  unfold lawCl ruT
  rw [if_neg (by omega)]
  by_cases h1 : isW t f wCosts
  · rw [if_pos h1, if_pos h1]
    unfold clT
    cases rdE t false 3 (nxT t f) p with
    | inl e => rfl
    | inr y =>
      obtain ⟨f1, p1, d⟩ := y
      dsimp only
      cases ifT t false f1 p1 with
      | inl e => rfl
      | inr z => rfl
  · rw [if_neg h1, if_neg h1]
    by_cases h2 : isW t f wBars
    · rw [if_pos h2, if_pos h2]
      unfold clT
      dsimp only
      cases ifT t false (nxT t f) p with
      | inl e => rfl
      | inr z => rfl
    · rw [if_neg h2, if_neg h2]
/-- a rule without its test -/
def RuQ (w w2 : Mem) (t : List Nat) (c : List (Nat × Nat)) (m : Nat) (x : RuR) (r : Option Value) : Prop := FrRt w w2 ∧ match x with
  | .inl e => r = some (.int (nI 0)) ∧ rI w2 25 4 = nI e
  | .inr y => r = some (.int (nI 1)) ∧ rI w2 25 4 = rI w 25 4 ∧ rI w2 28 0 = nI (m + 1) ∧ ∃ (c2 : List (Nat × Nat)) (a b : Nat), (∃ s, c2 = c ++ s) ∧ RdI w2 t false y.1 y.2.1 c2 ∧ OkX false c2 c.length ∧ rI w2 29 (8 * m) = nI (if y.2.2.1 then 4 else 5) ∧ rI w2 29 (8 * m + 1) = nI a ∧ rI w2 29 (8 * m + (1 + 1)) = nI b ∧ a ≤ c2.length ∧ b ≤ c2.length ∧ (y.2.2.1 = true → SegL c2 a b y.2.2.2) ∧ rI w2 29 (8 * m + 5) = nI 0 ∧ rI w2 29 (8 * m + (5 + 1)) = nI 0 ∧ ∀ j, j < 8 * m → rI w2 29 j = rI w 29 j
theorem RuQ.rv {w w2 : Mem} {t : List Nat} {c : List (Nat × Nat)} {m : Nat} {x : RuR} {r : Option Value} (h : RuQ w w2 t c m x r) : r = some (.int (b2i (okZ x = true))) := by
  obtain ⟨-, h⟩ := h
  cases x with
  | inl e => rw [h.1, b2i_f (show ¬ (okZ (.inl e : RuR) = true) from fun z => by cases z)]; rfl
  | inr y => rw [h.1, b2i_t (show okZ (.inr y : RuR) = true from rfl)]; rfl
theorem c_Re_readRule {E : EV} {w : Mem} {t : List Nat} {f p m : Nat} {c : List (Nat × Nat)} (h : RdI w t false f p c) (hl : rI w 28 0 = nI m) (hm : m < 12) : T E m_Re_readRule 50 0 0 [.ref 25] w (fun r w2 => RuQ w w2 t c m (ruT t f p) r) := by
  refine T_of (L := [.ref 25, un]) cf_Re_readRule rfl (Nat.le_of_ble_eq_true rfl) (fun X hX hF => ?_)
  refine g_aload0 hX d_Re_readRule_0 ?_
  refine g_getF hX d_Re_readRule_1 fl_Re_12 (lv_25 _) ?_
  refine g_ldcS (i := 18) (tx := "costs") hX d_Re_readRule_4 (by decide) ?_
  refine g_callV (As := [_]) hX hF.1 d_Re_readRule_6 ml_Re_72 cf_Ta_isWord cv_Ta_isWord rfl rfl (c_Ta_isWord (i := 18) (wd := wCosts) (by decide) (strW_all.2.2.2.2.2.2.2.2.2.2.2.2.2.2.2.2.2.2.1) h.1) (rcv_obj hX (lv_26 _) rfl rfl) (by first | decide | omega) (by omega) (by omega) (Nat.le_of_ble_eq_true rfl) ?_
  refine ret_k ?_
  refine g_istore1 hX d_Re_readRule_9 rfl (by decide) ?_
  refine g_iload1 hX d_Re_readRule_10 ?_
  refine g_ifB_ne hX d_Re_readRule_11 (fun e11 => ?_) (fun e11 => ?_)
  · refine g_aload0 hX d_Re_readRule_31 ?_
    refine g_getF hX d_Re_readRule_32 fl_Re_23 (lv_25 _) ?_
    refine g_iload1 hX d_Re_readRule_35 ?_
    refine g_ifB_eq hX d_Re_readRule_36 (fun h => absurd e11 h) (fun c1 => ?_)
    refine g_iconst (v := nI 4) hX d_Re_readRule_39 rfl ?_
    refine g_goto hX d_Re_readRule_40 ?_
    refine g_callV (As := [_]) hX hF.1 d_Re_readRule_44 ml_Re_78 cf_Pr_addClause cv_Pr_addClause rfl rfl (c_Pr_addClause (m := m) (s := 4) h.2.2.2.1.1 hl hm) (rcv_obj hX (lv_28 _) rfl rfl) (by first | decide | omega) (by omega) (by omega) (Nat.le_of_ble_eq_true rfl) ?_
    refine ret_k ?_
    have h1 : RdI (clW w m 4) t false f p c := h.cl
    refine g_aload0 hX d_Re_readRule_47 ?_
    refine g_getF hX d_Re_readRule_48 fl_Re_12 (lv_25 _) ?_
    refine g_callV (As := []) hX hF.1 d_Re_readRule_51 ml_Re_67 cf_Ta_step cv_Ta_step rfl rfl (c_Ta_step h1.1.1 h1.1.2.2.1 (enT_le h1.fl.1)) (rcv_obj hX (lv_26 _) rfl rfl) (by first | decide | omega) (by omega) (by omega) (Nat.le_of_ble_eq_true rfl) ?_
    rintro _ w3 ⟨rfl, ft_w3, tk_w3⟩
    have h3 := h1.step ft_w3 tk_w3
    show G0 _ _ _ _ _ _ _ _
    refine g_iload1 hX d_Re_readRule_54 ?_
    refine g_ifB_eq hX d_Re_readRule_55 (fun h => absurd e11 h) (fun c2 => ?_)
    refine g_aload0 hX d_Re_readRule_58 ?_
    refine g_iconst (v := nI 1) hX d_Re_readRule_59 rfl ?_
    refine g_callV (As := [_]) hX hF.1 d_Re_readRule_60 ml_Re_82 cf_Re_readWholeSum cv_Re_readWholeSum rfl rfl (c_Re_readWholeSum h3 (show rI w3 28 0 = nI (m + 1) by rw [ft_w3.1 28 (by decide)]; exact clW_0 _ _ _) hm (by decide)) (rcv_obj hX (lv_25 _) rfl rfl) (by first | decide | omega) (by omega) (by omega) (Nat.le_of_ble_eq_true rfl) ?_
    rintro r5 w5 hQ
    obtain rfl := hQ.rv
    have hfr : FrRt w w5 := (((FrRt.rf w).cl (m := m) (s := 4)).tr ft_w3.R.T).tr hQ.1
    obtain ⟨x, hx⟩ : ∃ x, rdE t false 3 (nxT t f) p = x := ⟨_, rfl⟩
    rw [hx] at hQ ⊢
    show G0 _ _ _ _ _ _ _ _
    refine g_ifB_eq hX d_Re_readRule_63 (fun e63 => ?_) (fun e63 => ?_)
    · obtain ⟨e, rfl⟩ := okZ_f e63
      have hru : ruT t f p = .inl e := by unfold ruT; rw [if_pos e11, hx]
      refine g_iconst (v := nI 0) hX d_Re_readRule_70 rfl ?_
      refine g_zret hX hF d_Re_readRule_71 (Or.inl rfl) (by omega) (by omega) ?_
      rw [hru]
      exact ⟨hfr, rfl, hQ.2.2⟩
    · obtain ⟨y, rfl⟩ := okZ_t e63
      have hru : ruT t f p = .inr (y.1, y.2.1, true, y.2.2) := by unfold ruT; rw [if_pos e11, hx]
      refine g_iconst (v := nI 1) hX d_Re_readRule_66 rfl ?_
      refine g_goto hX d_Re_readRule_67 ?_
      refine g_zret hX hF d_Re_readRule_71 (Or.inr rfl) (by omega) (by omega) ?_
      rw [hru]
      obtain ⟨-, -, g1, g2, c2, ⟨g3, g4, g5, g6⟩, g7⟩ := hQ
      have hl2 : c.length ≤ c2.length := by
        obtain ⟨s, rfl⟩ := g3
        rw [List.length_append]; omega
      refine ⟨hfr, rfl, ?_, ?_, c2, c.length, c2.length, g3, g4, g6, ?_, ?_, ?_, hl2, Nat.le_refl _, fun _ => g5, ?_, ?_, fun j hj => ?_⟩
      · rw [g1, ft_w3.1 25 (by decide), clW_o (by decide) (by decide)]
      · rw [g2, ft_w3.1 28 (by decide)]; exact clW_0 _ _ _
      · rw [g7, if_neg (by omega), if_neg (by omega), ft_w3.1 29 (by decide), clW_29, if_neg (by omega), if_pos rfl]; rfl
      · rw [g7, if_pos rfl]
      · rw [g7, if_neg (by omega), if_pos rfl]
      · rw [g7, if_neg (by omega), if_neg (by omega), ft_w3.1 29 (by decide), clW_29, if_neg (by omega), if_neg (by omega), if_pos (by omega)]
      · rw [g7, if_neg (by omega), if_neg (by omega), ft_w3.1 29 (by decide), clW_29, if_neg (by omega), if_neg (by omega), if_pos (by omega)]
      · rw [g7, if_neg (by omega), if_neg (by omega), ft_w3.1 29 (by decide), clW_29, if_neg (by omega), if_neg (by omega), if_neg (by omega)]
  · refine g_aload0 hX d_Re_readRule_14 ?_
    refine g_getF hX d_Re_readRule_15 fl_Re_12 (lv_25 _) ?_
    refine g_ldcS (i := 19) (tx := "bars") hX d_Re_readRule_18 (by decide) ?_
    refine g_callV (As := [_]) hX hF.1 d_Re_readRule_20 ml_Re_72 cf_Ta_isWord cv_Ta_isWord rfl rfl (c_Ta_isWord (i := 19) (wd := wBars) (by decide) (strW_all.2.2.2.2.2.2.2.2.2.2.2.2.2.2.2.2.2.2.2.1) h.1) (rcv_obj hX (lv_26 _) rfl rfl) (by first | decide | omega) (by omega) (by omega) (Nat.le_of_ble_eq_true rfl) ?_
    refine ret_k ?_
    refine g_ifB_ne hX d_Re_readRule_23 (fun e23 => ?_) (fun e23 => ?_)
    · refine g_aload0 hX d_Re_readRule_31 ?_
      refine g_getF hX d_Re_readRule_32 fl_Re_23 (lv_25 _) ?_
      refine g_iload1 hX d_Re_readRule_35 ?_
      refine g_ifB_eq hX d_Re_readRule_36 (fun c5 => ?_) (fun h => absurd h e11)
      refine g_iconst (v := nI 5) hX d_Re_readRule_43 rfl ?_
      refine g_callV (As := [_]) hX hF.1 d_Re_readRule_44 ml_Re_78 cf_Pr_addClause cv_Pr_addClause rfl rfl (c_Pr_addClause (m := m) (s := 5) h.2.2.2.1.1 hl hm) (rcv_obj hX (lv_28 _) rfl rfl) (by first | decide | omega) (by omega) (by omega) (Nat.le_of_ble_eq_true rfl) ?_
      refine ret_k ?_
      have h1 : RdI (clW w m 5) t false f p c := h.cl
      refine g_aload0 hX d_Re_readRule_47 ?_
      refine g_getF hX d_Re_readRule_48 fl_Re_12 (lv_25 _) ?_
      refine g_callV (As := []) hX hF.1 d_Re_readRule_51 ml_Re_67 cf_Ta_step cv_Ta_step rfl rfl (c_Ta_step h1.1.1 h1.1.2.2.1 (enT_le h1.fl.1)) (rcv_obj hX (lv_26 _) rfl rfl) (by first | decide | omega) (by omega) (by omega) (Nat.le_of_ble_eq_true rfl) ?_
      rintro _ w3 ⟨rfl, ft_w3, tk_w3⟩
      have h3 := h1.step ft_w3 tk_w3
      show G0 _ _ _ _ _ _ _ _
      refine g_iload1 hX d_Re_readRule_54 ?_
      refine g_ifB_eq hX d_Re_readRule_55 (fun c6 => ?_) (fun h => absurd h e11)
      refine g_iconst (v := nI 1) hX d_Re_readRule_66 rfl ?_
      refine g_goto hX d_Re_readRule_67 ?_
      refine g_zret hX hF d_Re_readRule_71 (Or.inr rfl) (by omega) (by omega) ?_
      rw [show ruT t f p = .inr (nxT t f, p, false, fun _ => none) by unfold ruT; rw [if_neg e11, if_pos e23]]
      refine ⟨((FrRt.rf w).cl).tr ft_w3.R.T, rfl, ?_, ?_, c, 0, 0, ⟨[], (List.append_nil c).symm⟩, h3, fun j h1 h2 => absurd h2 (by omega), ?_, ?_, ?_, Nat.zero_le _, Nat.zero_le _, (fun z => by cases z), ?_, ?_, fun j hj => ?_⟩
      · rw [ft_w3.1 25 (by decide), clW_o (by decide) (by decide)]
      · rw [ft_w3.1 28 (by decide)]; exact clW_0 _ _ _
      · rw [ft_w3.1 29 (by decide), clW_29, if_neg (by omega), if_pos rfl]; rfl
      · rw [ft_w3.1 29 (by decide), clW_29, if_neg (by omega), if_neg (by omega), if_pos (by omega)]
      · rw [ft_w3.1 29 (by decide), clW_29, if_neg (by omega), if_neg (by omega), if_pos (by omega)]
      · rw [ft_w3.1 29 (by decide), clW_29, if_neg (by omega), if_neg (by omega), if_pos (by omega)]
      · rw [ft_w3.1 29 (by decide), clW_29, if_neg (by omega), if_neg (by omega), if_pos (by omega)]
      · rw [ft_w3.1 29 (by decide), clW_29, if_neg (by omega), if_neg (by omega), if_neg (by omega)]
    · refine g_aload0 hX d_Re_readRule_26 ?_
      refine g_callV (As := []) hX hF.1 d_Re_readRule_27 ml_Re_64 cf_Re_fail cv_Re_fail rfl rfl (c_Re_fail h.1) (rcv_obj hX (lv_25 _) rfl rfl) (by first | decide | omega) (by omega) (by omega) (Nat.le_of_ble_eq_true rfl) ?_
      refine ret_k ?_
      refine g_zret hX hF d_Re_readRule_30 (Or.inl rfl) (by omega) (by omega) ?_
      rw [show ruT t f p = .inl f by unfold ruT; rw [if_neg e11, if_neg e23]]
      exact ⟨((FrRd.rf w).pt (by decide)).T, rfl, by rw [rI_sI, upd_eq, if_pos rfl]⟩
