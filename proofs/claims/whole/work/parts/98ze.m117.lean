def m_Re_readOrder : MR := (⟨"SubgraphDesk$Reader", "readOrder", "()Z"⟩, prog_8_method_5_code, 2, (some .boolean))
theorem cf_Re_readOrder : CF m_Re_readOrder 0 := ⟨gd 795 (by decide +kernel) rfl, gd 142 (by decide +kernel) rfl, by decide +kernel, by decide, by decide +kernel⟩
theorem cv_Re_readOrder : CV m_Re_readOrder := ⟨gd 794 (by decide +kernel) rfl, gd 4 (by decide +kernel) rfl⟩
theorem d_Re_readOrder_0 : Dc prog_8_method_5_code 0 (.aload_n 0) 1 1 := ⟨by decide +kernel, rfl⟩
theorem d_Re_readOrder_1 : Dc prog_8_method_5_code 1 (.invokevirtual 86) 3 4 := ⟨by decide +kernel, rfl⟩
theorem d_Re_readOrder_4 : Dc prog_8_method_5_code 4 (.istore_n 1) 1 5 := ⟨by decide +kernel, rfl⟩
theorem d_Re_readOrder_5 : Dc prog_8_method_5_code 5 (.iload_n 1) 1 6 := ⟨by decide +kernel, rfl⟩
theorem d_Re_readOrder_6 : Dc prog_8_method_5_code 6 (.iconst (-1)) 1 7 := ⟨by decide +kernel, rfl⟩
theorem d_Re_readOrder_7 : Dj prog_8_method_5_code 7 (.if_icmp .ne 8) 10 8 15 := ⟨by decide +kernel, rfl, rfl⟩
theorem d_Re_readOrder_10 : Dc prog_8_method_5_code 10 (.aload_n 0) 1 11 := ⟨by decide +kernel, rfl⟩
theorem d_Re_readOrder_11 : Dc prog_8_method_5_code 11 (.invokevirtual 64) 3 14 := ⟨by decide +kernel, rfl⟩
theorem d_Re_readOrder_14 : Dc prog_8_method_5_code 14 (.ireturn) 1 15 := ⟨by decide +kernel, rfl⟩
theorem d_Re_readOrder_15 : Dc prog_8_method_5_code 15 (.aload_n 0) 1 16 := ⟨by decide +kernel, rfl⟩
theorem d_Re_readOrder_16 : Dc prog_8_method_5_code 16 (.getfield 23) 3 19 := ⟨by decide +kernel, rfl⟩
theorem d_Re_readOrder_19 : Dc prog_8_method_5_code 19 (.iload_n 1) 1 20 := ⟨by decide +kernel, rfl⟩
theorem d_Re_readOrder_20 : Dc prog_8_method_5_code 20 (.invokevirtual 78) 3 23 := ⟨by decide +kernel, rfl⟩
theorem d_Re_readOrder_23 : Dc prog_8_method_5_code 23 (.aload_n 0) 1 24 := ⟨by decide +kernel, rfl⟩
theorem d_Re_readOrder_24 : Dc prog_8_method_5_code 24 (.getfield 12) 3 27 := ⟨by decide +kernel, rfl⟩
theorem d_Re_readOrder_27 : Dc prog_8_method_5_code 27 (.invokevirtual 67) 3 30 := ⟨by decide +kernel, rfl⟩
theorem d_Re_readOrder_30 : Dc prog_8_method_5_code 30 (.aload_n 0) 1 31 := ⟨by decide +kernel, rfl⟩
theorem d_Re_readOrder_31 : Dc prog_8_method_5_code 31 (.iconst 1) 1 32 := ⟨by decide +kernel, rfl⟩
theorem d_Re_readOrder_32 : Dc prog_8_method_5_code 32 (.invokevirtual 82) 3 35 := ⟨by decide +kernel, rfl⟩
theorem d_Re_readOrder_35 : Dj prog_8_method_5_code 35 (.ifCond .ne 5) 38 5 40 := ⟨by decide +kernel, rfl, rfl⟩
theorem d_Re_readOrder_38 : Dc prog_8_method_5_code 38 (.iconst 0) 1 39 := ⟨by decide +kernel, rfl⟩
theorem d_Re_readOrder_39 : Dc prog_8_method_5_code 39 (.ireturn) 1 40 := ⟨by decide +kernel, rfl⟩
theorem d_Re_readOrder_40 : Dc prog_8_method_5_code 40 (.aload_n 0) 1 41 := ⟨by decide +kernel, rfl⟩
theorem d_Re_readOrder_41 : Dc prog_8_method_5_code 41 (.getfield 12) 3 44 := ⟨by decide +kernel, rfl⟩
theorem d_Re_readOrder_44 : Dc prog_8_method_5_code 44 (.iload_n 1) 1 45 := ⟨by decide +kernel, rfl⟩
theorem d_Re_readOrder_45 : Dj prog_8_method_5_code 45 (.ifCond .eq 8) 48 8 53 := ⟨by decide +kernel, rfl, rfl⟩
theorem d_Re_readOrder_48 : Dc prog_8_method_5_code 48 (.iload_n 1) 1 49 := ⟨by decide +kernel, rfl⟩
theorem d_Re_readOrder_49 : Dc prog_8_method_5_code 49 (.iconst 1) 1 50 := ⟨by decide +kernel, rfl⟩
theorem d_Re_readOrder_50 : Dj prog_8_method_5_code 50 (.if_icmp .ne 8) 53 8 58 := ⟨by decide +kernel, rfl, rfl⟩
theorem d_Re_readOrder_53 : Dc prog_8_method_5_code 53 (.ldc 92) 2 55 := ⟨by decide +kernel, rfl⟩
theorem d_Re_readOrder_55 : Dj prog_8_method_5_code 55 (.goto 5) 58 5 60 := ⟨by decide +kernel, rfl, rfl⟩
theorem d_Re_readOrder_58 : Dc prog_8_method_5_code 58 (.ldc 94) 2 60 := ⟨by decide +kernel, rfl⟩
theorem d_Re_readOrder_60 : Dc prog_8_method_5_code 60 (.invokevirtual 72) 3 63 := ⟨by decide +kernel, rfl⟩
theorem d_Re_readOrder_63 : Dj prog_8_method_5_code 63 (.ifCond .ne 8) 66 8 71 := ⟨by decide +kernel, rfl, rfl⟩
theorem d_Re_readOrder_66 : Dc prog_8_method_5_code 66 (.aload_n 0) 1 67 := ⟨by decide +kernel, rfl⟩
theorem d_Re_readOrder_67 : Dc prog_8_method_5_code 67 (.invokevirtual 64) 3 70 := ⟨by decide +kernel, rfl⟩
theorem d_Re_readOrder_70 : Dc prog_8_method_5_code 70 (.ireturn) 1 71 := ⟨by decide +kernel, rfl⟩
theorem d_Re_readOrder_71 : Dc prog_8_method_5_code 71 (.aload_n 0) 1 72 := ⟨by decide +kernel, rfl⟩
theorem d_Re_readOrder_72 : Dc prog_8_method_5_code 72 (.getfield 12) 3 75 := ⟨by decide +kernel, rfl⟩
theorem d_Re_readOrder_75 : Dc prog_8_method_5_code 75 (.invokevirtual 67) 3 78 := ⟨by decide +kernel, rfl⟩
theorem d_Re_readOrder_78 : Dc prog_8_method_5_code 78 (.aload_n 0) 1 79 := ⟨by decide +kernel, rfl⟩
theorem d_Re_readOrder_79 : Dc prog_8_method_5_code 79 (.iconst 3) 1 80 := ⟨by decide +kernel, rfl⟩
theorem d_Re_readOrder_80 : Dc prog_8_method_5_code 80 (.invokevirtual 82) 3 83 := ⟨by decide +kernel, rfl⟩
theorem d_Re_readOrder_83 : Dj prog_8_method_5_code 83 (.ifCond .eq 14) 86 14 97 := ⟨by decide +kernel, rfl, rfl⟩
theorem d_Re_readOrder_86 : Dc prog_8_method_5_code 86 (.aload_n 0) 1 87 := ⟨by decide +kernel, rfl⟩
theorem d_Re_readOrder_87 : Dc prog_8_method_5_code 87 (.invokevirtual 96) 3 90 := ⟨by decide +kernel, rfl⟩
theorem d_Re_readOrder_90 : Dj prog_8_method_5_code 90 (.ifCond .eq 7) 93 7 97 := ⟨by decide +kernel, rfl, rfl⟩
theorem d_Re_readOrder_93 : Dc prog_8_method_5_code 93 (.iconst 1) 1 94 := ⟨by decide +kernel, rfl⟩
theorem d_Re_readOrder_94 : Dj prog_8_method_5_code 94 (.goto 4) 97 4 98 := ⟨by decide +kernel, rfl, rfl⟩
theorem d_Re_readOrder_97 : Dc prog_8_method_5_code 97 (.iconst 0) 1 98 := ⟨by decide +kernel, rfl⟩
theorem d_Re_readOrder_98 : Dc prog_8_method_5_code 98 (.ireturn) 1 99 := ⟨by decide +kernel, rfl⟩
theorem ml_Re_86 : Cond.methodLink "SubgraphDesk$Reader" 86 m_Re_orderSort.1 ∈ lw_gd := gd 796 (by decide +kernel) rfl
theorem ml_Re_96 : Cond.methodLink "SubgraphDesk$Reader" 96 m_Re_readTimes.1 ∈ lw_gd := gd 934 (by decide +kernel) rfl
/-! ===== an order's text ===== -/
def DOr (h : Nat → Int32) (c : List (Nat × Nat)) (k : Nat) (q : OcT) : Prop := h (8 * k) = nI q.1 ∧ q.1 < 4 ∧ h (8 * k + 7) = nI q.2.2.2.1 ∧ q.2.2.2.1 ≤ 20 ∧ ∃ a b a2 b2 u v : Nat, h (8 * k + 1) = nI a ∧ h (8 * k + (1 + 1)) = nI b ∧ h (8 * k + 3) = nI a2 ∧ h (8 * k + (3 + 1)) = nI b2 ∧ h (8 * k + 5) = nI u ∧ h (8 * k + (5 + 1)) = nI v ∧ a ≤ c.length ∧ b ≤ c.length ∧ a2 ≤ c.length ∧ b2 ≤ c.length ∧ u ≤ c.length ∧ v ≤ c.length ∧ SegL c a b q.2.1 ∧ SegL c a2 b2 q.2.2.1 ∧ (match q.2.2.2.2 with | none => u = v | some f => SegL c u v f ∧ Bit f)
theorem DOr.keep {h h2 : Nat → Int32} {c c2 : List (Nat × Nat)} {k : Nat} {x : OcT} (hd : DOr h c k x) (hs : ∃ s, c2 = c ++ s) (e : ∀ j, j < 8 * k + 8 → h2 j = h j) : DOr h2 c2 k x := by
  obtain ⟨s, rfl⟩ := hs
  obtain ⟨h0, h00, h7, h77, a, b, a2, b2, u, v, h1, h3, h4, h5, h6, h8, g1, g2, g3, g4, g5, g6, g7, g8, g9⟩ := hd
  have hl : c.length ≤ (c ++ s).length := by rw [List.length_append]; omega
  refine ⟨by rw [e _ (by omega)]; exact h0, h00, by rw [e _ (by omega)]; exact h7, h77, a, b, a2, b2, u, v, by rw [e _ (by omega)]; exact h1, by rw [e _ (by omega)]; exact h3, by rw [e _ (by omega)]; exact h4, by rw [e _ (by omega)]; exact h5, by rw [e _ (by omega)]; exact h6, by rw [e _ (by omega)]; exact h8, by omega, by omega, by omega, by omega, by omega, by omega, g7.app g2, g8.app g4, ?_⟩
  obtain ⟨x1, x2, x3, x4, x5⟩ := x
  cases x5 with
  | none => exact g9
  | some f => exact ⟨g9.1.app g6, g9.2⟩
abbrev OrR : Type := Nat ⊕ (Nat × Nat × Nat × Den × Den × Nat)
noncomputable def orT (t : List Nat) (f p : Nat) : OrR := match actK t f 4 with
  | none => .inl f
  | some a => match rdE t true 3 (nxT t f) p with
    | .inl e => .inl e
    | .inr y1 => if isW t y1.1 (toW a) then (match rdE t true 3 (nxT t y1.1) y1.2.1 with
      | .inl e => .inl e
      | .inr y2 => match timesT t y2.1 with
        | .inl e => .inl e
        | .inr m => .inr (m.1, y2.2.1, a, y1.2.2, y2.2.2, m.2)) else .inl y1.1
theorem ordCl_or {t : List Nat} {k f p : Nat} (h : k < 12) : ordCl t k f p = match orT t f p with
  | .inl e => .inl e
  | .inr y => match ifT t true y.1 y.2.1 with
    | .inl e => .inl e
    | .inr z => .inr (z.1, z.2.1, (y.2.2.1, y.2.2.2.1, y.2.2.2.2.1, y.2.2.2.2.2, z.2.2)) := by
  unfold ordCl orT
  rw [if_neg (by omega)]
  cases actK t f 4 with
  | none => rfl
  | some a =>
    dsimp only
    unfold oS1
    cases rdE t true 3 (nxT t f) p with
    | inl e => rfl
    | inr y1 =>
      obtain ⟨f1, p1, d1⟩ := y1
      dsimp only
      by_cases h1 : isW t f1 (toW a)
      · rw [if_pos h1, if_pos h1]
        unfold oS2
        cases rdE t true 3 (nxT t f1) p1 with
        | inl e => rfl
        | inr y2 =>
          obtain ⟨f2, p2, d2⟩ := y2
          dsimp only
          unfold oS3
          cases timesT t f2 with
          | inl e => rfl
          | inr m =>
            obtain ⟨f3, m⟩ := m
            dsimp only
            unfold oS4
            cases ifT t true f3 p2 with
            | inl e => rfl
            | inr z => rfl
      · rw [if_neg h1, if_neg h1]
def OrC (w2 : Mem) (t : List Nat) (c : List (Nat × Nat)) (m : Nat) (y : Nat × Nat × Nat × Den × Den × Nat) (c2 : List (Nat × Nat)) : Prop := (∃ s, c2 = c ++ s) ∧ RdI w2 t true y.1 y.2.1 c2 ∧ OkX true c2 c.length ∧ rI w2 29 (8 * m) = nI y.2.2.1 ∧ y.2.2.1 < 4 ∧ rI w2 29 (8 * m + 7) = nI y.2.2.2.2.2 ∧ y.2.2.2.2.2 ≤ 20 ∧ ∃ a b a2 b2 : Nat, rI w2 29 (8 * m + 1) = nI a ∧ rI w2 29 (8 * m + (1 + 1)) = nI b ∧ rI w2 29 (8 * m + 3) = nI a2 ∧ rI w2 29 (8 * m + (3 + 1)) = nI b2 ∧ a ≤ c2.length ∧ b ≤ c2.length ∧ a2 ≤ c2.length ∧ b2 ≤ c2.length ∧ SegL c2 a b y.2.2.2.1 ∧ SegL c2 a2 b2 y.2.2.2.2.1 ∧ rI w2 29 (8 * m + 5) = nI 0 ∧ rI w2 29 (8 * m + (5 + 1)) = nI 0
/-- an order without its test -/
def OrQ (w w2 : Mem) (t : List Nat) (c : List (Nat × Nat)) (m : Nat) (x : OrR) (r : Option Value) : Prop := FrRt w w2 ∧ match x with
  | .inl e => r = some (.int (nI 0)) ∧ rI w2 25 4 = nI e
  | .inr y => r = some (.int (nI 1)) ∧ rI w2 25 4 = rI w 25 4 ∧ rI w2 28 0 = nI (m + 1) ∧ (∀ j, j < 8 * m → rI w2 29 j = rI w 29 j) ∧ ∃ c2, OrC w2 t c m y c2
theorem OrQ.rv {w w2 : Mem} {t : List Nat} {c : List (Nat × Nat)} {m : Nat} {x : OrR} {r : Option Value} (h : OrQ w w2 t c m x r) : r = some (.int (b2i (okZ x = true))) := by
  obtain ⟨-, h⟩ := h
  cases x with
  | inl e => rw [h.1, b2i_f (show ¬ (okZ (.inl e : OrR) = true) from fun z => by cases z)]; rfl
  | inr y => rw [h.1, b2i_t (show okZ (.inr y : OrR) = true from rfl)]; rfl
theorem c_Re_readOrder {E : EV} {w : Mem} {t : List Nat} {f p m : Nat} {c : List (Nat × Nat)} (h : RdI w t true f p c) (hl : rI w 28 0 = nI m) (hm : m < 12) : T E m_Re_readOrder 50 0 0 [.ref 25] w (fun r w2 => OrQ w w2 t c m (orT t f p) r) := by
  refine T_of (L := [.ref 25, un]) cf_Re_readOrder rfl (Nat.le_of_ble_eq_true rfl) (fun X hX hF => ?_)
  refine g_aload0 hX d_Re_readOrder_0 ?_
  refine g_callV (As := []) hX hF.1 d_Re_readOrder_1 ml_Re_86 cf_Re_orderSort cv_Re_orderSort rfl rfl (c_Re_orderSort h.1) (rcv_obj hX (lv_25 _) rfl rfl) (by first | decide | omega) (by omega) (by omega) (Nat.le_of_ble_eq_true rfl) ?_
  rintro r2 w2 ⟨hs0, hw2⟩
  have hw6 := hw2.symm
  subst hw6
  obtain ⟨v, rfl, hv⟩ : ∃ v : Int32, r2 = some (.int v) ∧ ((∃ k, k < 4 ∧ actK t f 4 = some k ∧ v = nI k) ∨ (v = -1 ∧ actK t f 4 = none)) := by
    rcases hs0 with ⟨k, z1, z2, z3⟩ | ⟨z1, z2⟩
    · exact ⟨nI k, z3, Or.inl ⟨k, z1, z2, rfl⟩⟩
    · exact ⟨-1, z1, Or.inr ⟨rfl, z2⟩⟩
  show G0 _ _ _ _ _ _ _ _
  refine g_istore1 hX d_Re_readOrder_4 rfl (by decide) ?_
  refine g_iload1 hX d_Re_readOrder_5 ?_
  refine g_iconst (v := -1) hX d_Re_readOrder_6 rfl ?_
  refine g_icmp_ne hX d_Re_readOrder_7 (fun e7 => ?_) (fun e7 => ?_)
  · obtain ⟨k, hk4, hk, rfl⟩ := hv.resolve_right (fun z => e7 z.1)
    refine g_aload0 hX d_Re_readOrder_15 ?_
    refine g_getF hX d_Re_readOrder_16 fl_Re_23 (lv_25 _) ?_
    refine g_iload1 hX d_Re_readOrder_19 ?_
    refine g_callV (As := [_]) hX hF.1 d_Re_readOrder_20 ml_Re_78 cf_Pr_addClause cv_Pr_addClause rfl rfl (c_Pr_addClause (m := m) (s := k) h.2.2.2.1.1 hl hm) (rcv_obj hX (lv_28 _) rfl rfl) (by first | decide | omega) (by omega) (by omega) (Nat.le_of_ble_eq_true rfl) ?_
    refine ret_k ?_
    have h1 : RdI (clW w m k) t true f p c := h.cl
    refine g_aload0 hX d_Re_readOrder_23 ?_
    refine g_getF hX d_Re_readOrder_24 fl_Re_12 (lv_25 _) ?_
    refine g_callV (As := []) hX hF.1 d_Re_readOrder_27 ml_Re_67 cf_Ta_step cv_Ta_step rfl rfl (c_Ta_step h1.1.1 h1.1.2.2.1 (enT_le h1.fl.1)) (rcv_obj hX (lv_26 _) rfl rfl) (by first | decide | omega) (by omega) (by omega) (Nat.le_of_ble_eq_true rfl) ?_
    rintro _ w3 ⟨rfl, ft_w3, tk_w3⟩
    have h3 := h1.step ft_w3 tk_w3
    show G0 _ _ _ _ _ _ _ _
    refine g_aload0 hX d_Re_readOrder_30 ?_
    refine g_iconst (v := nI 1) hX d_Re_readOrder_31 rfl ?_
    refine g_callV (As := [_]) hX hF.1 d_Re_readOrder_32 ml_Re_82 cf_Re_readWholeSum cv_Re_readWholeSum rfl rfl (c_Re_readWholeSum h3 (show rI w3 28 0 = nI (m + 1) by rw [ft_w3.1 28 (by decide)]; exact clW_0 _ _ _) hm (by decide)) (rcv_obj hX (lv_25 _) rfl rfl) (by first | decide | omega) (by omega) (by omega) (Nat.le_of_ble_eq_true rfl) ?_
    rintro r5 w5 hQ1
    obtain rfl := hQ1.rv
    have hfr1 : FrRt w w5 := (((FrRt.rf w).cl (m := m) (s := k)).tr ft_w3.R.T).tr hQ1.1
    obtain ⟨x1, hx1⟩ : ∃ x, rdE t true 3 (nxT t f) p = x := ⟨_, rfl⟩
    rw [hx1] at hQ1 ⊢
    show G0 _ _ _ _ _ _ _ _
    refine g_ifB_ne hX d_Re_readOrder_35 (fun e35 => ?_) (fun e35 => ?_)
    · obtain ⟨y1, rfl⟩ := okZ_t e35
      obtain ⟨-, -, a4, a0, c1, ⟨a1, a5, a6, a7⟩, a29⟩ := id hQ1
      have hR5 := a5.1
      refine g_aload0 hX d_Re_readOrder_40 ?_
      refine g_getF hX d_Re_readOrder_41 fl_Re_12 (lv_25 _) ?_
      refine g_iload1 hX d_Re_readOrder_44 ?_
      refine g_if_eq hX d_Re_readOrder_45 (fun e45 => ?_) (fun e45 => ?_)
      · obtain rfl : k = 0 := nI_inj (by omega) (by decide) e45
        have htw : toW 0 = wTo := rfl
        refine g_ldcS (i := 15) (tx := "to") hX d_Re_readOrder_53 (by decide) ?_
        refine g_goto hX d_Re_readOrder_55 ?_
        refine g_callV (As := [_]) hX hF.1 d_Re_readOrder_60 ml_Re_72 cf_Ta_isWord cv_Ta_isWord rfl rfl (c_Ta_isWord (i := 15) (wd := wTo) (by decide) (strW_all.2.2.2.2.2.2.2.2.2.2.2.2.2.2.2.1) hR5) (rcv_obj hX (lv_26 _) rfl rfl) (by first | decide | omega) (by omega) (by omega) (Nat.le_of_ble_eq_true rfl) ?_
        refine ret_k ?_
        refine g_ifB_ne hX d_Re_readOrder_63 (fun e63 => ?_) (fun e63 => ?_)
        · rw [← htw] at e63
          refine g_aload0 hX d_Re_readOrder_71 ?_
          refine g_getF hX d_Re_readOrder_72 fl_Re_12 (lv_25 _) ?_
          refine g_callV (As := []) hX hF.1 d_Re_readOrder_75 ml_Re_67 cf_Ta_step cv_Ta_step rfl rfl (c_Ta_step a5.1.1 a5.1.2.2.1 (enT_le a5.fl.1)) (rcv_obj hX (lv_26 _) rfl rfl) (by first | decide | omega) (by omega) (by omega) (Nat.le_of_ble_eq_true rfl) ?_
          rintro _ w6 ⟨rfl, ft_w6, tk_w6⟩
          have h6 := a5.step ft_w6 tk_w6
          show G0 _ _ _ _ _ _ _ _
          refine g_aload0 hX d_Re_readOrder_78 ?_
          refine g_iconst (v := nI 3) hX d_Re_readOrder_79 rfl ?_
          refine g_callV (As := [_]) hX hF.1 d_Re_readOrder_80 ml_Re_82 cf_Re_readWholeSum cv_Re_readWholeSum rfl rfl (c_Re_readWholeSum h6 (show rI w6 28 0 = nI (m + 1) by rw [ft_w6.1 28 (by decide), a0, ft_w3.1 28 (by decide)]; exact clW_0 _ _ _) hm (by decide)) (rcv_obj hX (lv_25 _) rfl rfl) (by first | decide | omega) (by omega) (by omega) (Nat.le_of_ble_eq_true rfl) ?_
          rintro r8 w8 hQ2
          obtain rfl := hQ2.rv
          have hfr2 : FrRt w w8 := (hfr1.tr ft_w6.R.T).tr hQ2.1
          obtain ⟨x2, hx2⟩ : ∃ x, rdE t true 3 (nxT t y1.1) y1.2.1 = x := ⟨_, rfl⟩
          rw [hx2] at hQ2 ⊢
          show G0 _ _ _ _ _ _ _ _
          refine g_ifB_eq hX d_Re_readOrder_83 (fun e83 => ?_) (fun e83 => ?_)
          · obtain ⟨e, rfl⟩ := okZ_f e83
            refine g_iconst (v := nI 0) hX d_Re_readOrder_97 rfl ?_
            refine g_zret hX hF d_Re_readOrder_98 (Or.inl rfl) (by omega) (by omega) ?_
            rw [show orT t f p = .inl e by unfold orT; rw [hk]; dsimp only; rw [hx1]; dsimp only; rw [if_pos e63, hx2]]
            exact ⟨hfr2, rfl, hQ2.2.2⟩
          · obtain ⟨y2, rfl⟩ := okZ_t e83
            obtain ⟨-, -, b4, b0, c2, ⟨b1, b5, b6, b7⟩, b29⟩ := id hQ2
            have h29 : ∀ j, rI w8 29 j = if j = 8 * m + 3 then nI c1.length else if j = 8 * m + (3 + 1) then nI c2.length else if j = 8 * m + 1 then nI c.length else if j = 8 * m + (1 + 1) then nI c1.length else if j = 8 * m + 7 then nI 1 else if j = 8 * m then nI 0 else if 8 * m ≤ j ∧ j < 8 * m + 8 then nI 0 else rI w 29 j := fun j => by
              rw [b29, ft_w6.1 29 (by decide), a29, ft_w3.1 29 (by decide), clW_29]
            have hl8 : rI w8 28 0 = nI (m + 1) := by rw [b0, ft_w6.1 28 (by decide), a0, ft_w3.1 28 (by decide)]; exact clW_0 _ _ _
            refine g_aload0 hX d_Re_readOrder_86 ?_
            refine g_callV (As := []) hX hF.1 d_Re_readOrder_87 ml_Re_96 cf_Re_readTimes cv_Re_readTimes rfl rfl (c_Re_readTimes b5 hl8 hm (by rw [h29, if_neg (by omega), if_neg (by omega), if_neg (by omega), if_neg (by omega), if_pos rfl])) (rcv_obj hX (lv_25 _) rfl rfl) (by first | decide | omega) (by omega) (by omega) (Nat.le_of_ble_eq_true rfl) ?_
            rintro r9 w9 hQ3
            obtain rfl := hQ3.rv
            have hfr3 := hfr2.tr hQ3.1
            obtain ⟨x3, hx3⟩ : ∃ x, timesT t y2.1 = x := ⟨_, rfl⟩
            rw [hx3] at hQ3 ⊢
            show G0 _ _ _ _ _ _ _ _
            refine g_ifB_eq hX d_Re_readOrder_90 (fun e90 => ?_) (fun e90 => ?_)
            · obtain ⟨e, rfl⟩ := okZ_f e90
              refine g_iconst (v := nI 0) hX d_Re_readOrder_97 rfl ?_
              refine g_zret hX hF d_Re_readOrder_98 (Or.inl rfl) (by omega) (by omega) ?_
              rw [show orT t f p = .inl e by unfold orT; rw [hk]; dsimp only; rw [hx1]; dsimp only; rw [if_pos e63, hx2]; dsimp only; rw [hx3]]
              exact ⟨hfr3, rfl, hQ3.2.2⟩
            · obtain ⟨tm, rfl⟩ := okZ_t e90
              obtain ⟨-, -, d4, d0, d5, d7, d20, d29⟩ := id hQ3
              refine g_iconst (v := nI 1) hX d_Re_readOrder_93 rfl ?_
              refine g_goto hX d_Re_readOrder_94 ?_
              refine g_zret hX hF d_Re_readOrder_98 (Or.inr rfl) (by omega) (by omega) ?_
              rw [show orT t f p = .inr (tm.1, y2.2.1, 0, y1.2.2, y2.2.2, tm.2) by unfold orT; rw [hk]; dsimp only; rw [hx1]; dsimp only; rw [if_pos e63, hx2]; dsimp only; rw [hx3]]
              have hc1 : c.length ≤ c1.length := by
                obtain ⟨s, rfl⟩ := a1
                rw [List.length_append]; omega
              have hc2 : c1.length ≤ c2.length := by
                obtain ⟨s, rfl⟩ := b1
                rw [List.length_append]; omega
              refine ⟨hfr3, rfl, ?_, by rw [d0]; exact hl8, fun j hj => ?_, c2, ?_, d5, ?_, ?_, hk4, d7, d20, c.length, c1.length, c1.length, c2.length, ?_, ?_, ?_, ?_, by omega, hc2, hc2, Nat.le_refl _, ?_, b6, ?_, ?_⟩
              · rw [d4, b4, ft_w6.1 25 (by decide), a4, ft_w3.1 25 (by decide), clW_o (by decide) (by decide)]
              · rw [d29 j (by omega), h29, if_neg (by omega), if_neg (by omega), if_neg (by omega), if_neg (by omega), if_neg (by omega), if_neg (by omega), if_neg (by omega)]
              · obtain ⟨s, hs⟩ := a1
                obtain ⟨s2, hs2⟩ := b1
                exact ⟨s ++ s2, by rw [hs2, hs, List.append_assoc]⟩
              · obtain ⟨s2, rfl⟩ := b1
                exact a7.app b7
              · rw [d29 _ (by omega), h29, if_neg (by omega), if_neg (by omega), if_neg (by omega), if_neg (by omega), if_neg (by omega), if_pos rfl]
              · rw [d29 _ (by omega), h29, if_neg (by omega), if_neg (by omega), if_pos rfl]
              · rw [d29 _ (by omega), h29, if_neg (by omega), if_neg (by omega), if_neg (by omega), if_pos rfl]
              · rw [d29 _ (by omega), h29, if_pos rfl]
              · rw [d29 _ (by omega), h29, if_neg (by omega), if_pos rfl]
              · obtain ⟨s2, rfl⟩ := b1
                exact a6.app (Nat.le_refl _)
              · rw [d29 _ (by omega), h29, if_neg (by omega), if_neg (by omega), if_neg (by omega), if_neg (by omega), if_neg (by omega), if_neg (by omega), if_pos (by omega)]
              · rw [d29 _ (by omega), h29, if_neg (by omega), if_neg (by omega), if_neg (by omega), if_neg (by omega), if_neg (by omega), if_neg (by omega), if_pos (by omega)]
        · rw [← htw] at e63
          refine g_aload0 hX d_Re_readOrder_66 ?_
          refine g_callV (As := []) hX hF.1 d_Re_readOrder_67 ml_Re_64 cf_Re_fail cv_Re_fail rfl rfl (c_Re_fail hR5) (rcv_obj hX (lv_25 _) rfl rfl) (by first | decide | omega) (by omega) (by omega) (Nat.le_of_ble_eq_true rfl) ?_
          refine ret_k ?_
          refine g_zret hX hF d_Re_readOrder_70 (Or.inl rfl) (by omega) (by omega) ?_
          rw [show orT t f p = .inl y1.1 by unfold orT; rw [hk]; dsimp only; rw [hx1]; dsimp only; rw [if_neg e63]]
          exact ⟨⟨fun a h1 h2 h3 h4 h5 => by rw [rI_sI_ne _ _ _ h1]; exact hfr1.1 a h1 h2 h3 h4 h5, by rw [rI_sI, upd_eq, if_neg (by decide)]; exact hfr1.2.1, fun q hq => by rw [rI_sI_ne _ _ _ (by decide)]; exact hfr1.2.2.1 q hq, hfr1.2.2.2⟩, rfl, by rw [rI_sI, upd_eq, if_pos rfl]⟩
      · refine g_iload1 hX d_Re_readOrder_48 ?_
        refine g_iconst (v := nI 1) hX d_Re_readOrder_49 rfl ?_
        refine g_icmpN_ne hX d_Re_readOrder_50 (by omega) (by omega) (fun e50 => ?_) (fun e50 => ?_)
        · have htw : toW k = wAs := by
            unfold toW
            rw [if_neg (fun z => by
              have : k ≠ 0 := fun y0 => e45 (by rw [y0]; rfl)
              omega)]
          refine g_ldcS (i := 16) (tx := "as") hX d_Re_readOrder_58 (by decide) ?_
          refine g_callV (As := [_]) hX hF.1 d_Re_readOrder_60 ml_Re_72 cf_Ta_isWord cv_Ta_isWord rfl rfl (c_Ta_isWord (i := 16) (wd := wAs) (by decide) (strW_all.2.2.2.2.2.2.2.2.2.2.2.2.2.2.2.2.1) hR5) (rcv_obj hX (lv_26 _) rfl rfl) (by first | decide | omega) (by omega) (by omega) (Nat.le_of_ble_eq_true rfl) ?_
          refine ret_k ?_
          refine g_ifB_ne hX d_Re_readOrder_63 (fun e63 => ?_) (fun e63 => ?_)
          · rw [← htw] at e63
            refine g_aload0 hX d_Re_readOrder_71 ?_
            refine g_getF hX d_Re_readOrder_72 fl_Re_12 (lv_25 _) ?_
            refine g_callV (As := []) hX hF.1 d_Re_readOrder_75 ml_Re_67 cf_Ta_step cv_Ta_step rfl rfl (c_Ta_step a5.1.1 a5.1.2.2.1 (enT_le a5.fl.1)) (rcv_obj hX (lv_26 _) rfl rfl) (by first | decide | omega) (by omega) (by omega) (Nat.le_of_ble_eq_true rfl) ?_
            rintro _ w6 ⟨rfl, ft_w6, tk_w6⟩
            have h6 := a5.step ft_w6 tk_w6
            show G0 _ _ _ _ _ _ _ _
            refine g_aload0 hX d_Re_readOrder_78 ?_
            refine g_iconst (v := nI 3) hX d_Re_readOrder_79 rfl ?_
            refine g_callV (As := [_]) hX hF.1 d_Re_readOrder_80 ml_Re_82 cf_Re_readWholeSum cv_Re_readWholeSum rfl rfl (c_Re_readWholeSum h6 (show rI w6 28 0 = nI (m + 1) by rw [ft_w6.1 28 (by decide), a0, ft_w3.1 28 (by decide)]; exact clW_0 _ _ _) hm (by decide)) (rcv_obj hX (lv_25 _) rfl rfl) (by first | decide | omega) (by omega) (by omega) (Nat.le_of_ble_eq_true rfl) ?_
            rintro r8 w8 hQ2
            obtain rfl := hQ2.rv
            have hfr2 : FrRt w w8 := (hfr1.tr ft_w6.R.T).tr hQ2.1
            obtain ⟨x2, hx2⟩ : ∃ x, rdE t true 3 (nxT t y1.1) y1.2.1 = x := ⟨_, rfl⟩
            rw [hx2] at hQ2 ⊢
            show G0 _ _ _ _ _ _ _ _
            refine g_ifB_eq hX d_Re_readOrder_83 (fun e83 => ?_) (fun e83 => ?_)
            · obtain ⟨e, rfl⟩ := okZ_f e83
              refine g_iconst (v := nI 0) hX d_Re_readOrder_97 rfl ?_
              refine g_zret hX hF d_Re_readOrder_98 (Or.inl rfl) (by omega) (by omega) ?_
              rw [show orT t f p = .inl e by unfold orT; rw [hk]; dsimp only; rw [hx1]; dsimp only; rw [if_pos e63, hx2]]
              exact ⟨hfr2, rfl, hQ2.2.2⟩
            · obtain ⟨y2, rfl⟩ := okZ_t e83
              obtain ⟨-, -, b4, b0, c2, ⟨b1, b5, b6, b7⟩, b29⟩ := id hQ2
              have h29 : ∀ j, rI w8 29 j = if j = 8 * m + 3 then nI c1.length else if j = 8 * m + (3 + 1) then nI c2.length else if j = 8 * m + 1 then nI c.length else if j = 8 * m + (1 + 1) then nI c1.length else if j = 8 * m + 7 then nI 1 else if j = 8 * m then nI k else if 8 * m ≤ j ∧ j < 8 * m + 8 then nI 0 else rI w 29 j := fun j => by
                rw [b29, ft_w6.1 29 (by decide), a29, ft_w3.1 29 (by decide), clW_29]
              have hl8 : rI w8 28 0 = nI (m + 1) := by rw [b0, ft_w6.1 28 (by decide), a0, ft_w3.1 28 (by decide)]; exact clW_0 _ _ _
              refine g_aload0 hX d_Re_readOrder_86 ?_
              refine g_callV (As := []) hX hF.1 d_Re_readOrder_87 ml_Re_96 cf_Re_readTimes cv_Re_readTimes rfl rfl (c_Re_readTimes b5 hl8 hm (by rw [h29, if_neg (by omega), if_neg (by omega), if_neg (by omega), if_neg (by omega), if_pos rfl])) (rcv_obj hX (lv_25 _) rfl rfl) (by first | decide | omega) (by omega) (by omega) (Nat.le_of_ble_eq_true rfl) ?_
              rintro r9 w9 hQ3
              obtain rfl := hQ3.rv
              have hfr3 := hfr2.tr hQ3.1
              obtain ⟨x3, hx3⟩ : ∃ x, timesT t y2.1 = x := ⟨_, rfl⟩
              rw [hx3] at hQ3 ⊢
              show G0 _ _ _ _ _ _ _ _
              refine g_ifB_eq hX d_Re_readOrder_90 (fun e90 => ?_) (fun e90 => ?_)
              · obtain ⟨e, rfl⟩ := okZ_f e90
                refine g_iconst (v := nI 0) hX d_Re_readOrder_97 rfl ?_
                refine g_zret hX hF d_Re_readOrder_98 (Or.inl rfl) (by omega) (by omega) ?_
                rw [show orT t f p = .inl e by unfold orT; rw [hk]; dsimp only; rw [hx1]; dsimp only; rw [if_pos e63, hx2]; dsimp only; rw [hx3]]
                exact ⟨hfr3, rfl, hQ3.2.2⟩
              · obtain ⟨tm, rfl⟩ := okZ_t e90
                obtain ⟨-, -, d4, d0, d5, d7, d20, d29⟩ := id hQ3
                refine g_iconst (v := nI 1) hX d_Re_readOrder_93 rfl ?_
                refine g_goto hX d_Re_readOrder_94 ?_
                refine g_zret hX hF d_Re_readOrder_98 (Or.inr rfl) (by omega) (by omega) ?_
                rw [show orT t f p = .inr (tm.1, y2.2.1, k, y1.2.2, y2.2.2, tm.2) by unfold orT; rw [hk]; dsimp only; rw [hx1]; dsimp only; rw [if_pos e63, hx2]; dsimp only; rw [hx3]]
                have hc1 : c.length ≤ c1.length := by
                  obtain ⟨s, rfl⟩ := a1
                  rw [List.length_append]; omega
                have hc2 : c1.length ≤ c2.length := by
                  obtain ⟨s, rfl⟩ := b1
                  rw [List.length_append]; omega
                refine ⟨hfr3, rfl, ?_, by rw [d0]; exact hl8, fun j hj => ?_, c2, ?_, d5, ?_, ?_, hk4, d7, d20, c.length, c1.length, c1.length, c2.length, ?_, ?_, ?_, ?_, by omega, hc2, hc2, Nat.le_refl _, ?_, b6, ?_, ?_⟩
                · rw [d4, b4, ft_w6.1 25 (by decide), a4, ft_w3.1 25 (by decide), clW_o (by decide) (by decide)]
                · rw [d29 j (by omega), h29, if_neg (by omega), if_neg (by omega), if_neg (by omega), if_neg (by omega), if_neg (by omega), if_neg (by omega), if_neg (by omega)]
                · obtain ⟨s, hs⟩ := a1
                  obtain ⟨s2, hs2⟩ := b1
                  exact ⟨s ++ s2, by rw [hs2, hs, List.append_assoc]⟩
                · obtain ⟨s2, rfl⟩ := b1
                  exact a7.app b7
                · rw [d29 _ (by omega), h29, if_neg (by omega), if_neg (by omega), if_neg (by omega), if_neg (by omega), if_neg (by omega), if_pos rfl]
                · rw [d29 _ (by omega), h29, if_neg (by omega), if_neg (by omega), if_pos rfl]
                · rw [d29 _ (by omega), h29, if_neg (by omega), if_neg (by omega), if_neg (by omega), if_pos rfl]
                · rw [d29 _ (by omega), h29, if_pos rfl]
                · rw [d29 _ (by omega), h29, if_neg (by omega), if_pos rfl]
                · obtain ⟨s2, rfl⟩ := b1
                  exact a6.app (Nat.le_refl _)
                · rw [d29 _ (by omega), h29, if_neg (by omega), if_neg (by omega), if_neg (by omega), if_neg (by omega), if_neg (by omega), if_neg (by omega), if_pos (by omega)]
                · rw [d29 _ (by omega), h29, if_neg (by omega), if_neg (by omega), if_neg (by omega), if_neg (by omega), if_neg (by omega), if_neg (by omega), if_pos (by omega)]
          · rw [← htw] at e63
            refine g_aload0 hX d_Re_readOrder_66 ?_
            refine g_callV (As := []) hX hF.1 d_Re_readOrder_67 ml_Re_64 cf_Re_fail cv_Re_fail rfl rfl (c_Re_fail hR5) (rcv_obj hX (lv_25 _) rfl rfl) (by first | decide | omega) (by omega) (by omega) (Nat.le_of_ble_eq_true rfl) ?_
            refine ret_k ?_
            refine g_zret hX hF d_Re_readOrder_70 (Or.inl rfl) (by omega) (by omega) ?_
            rw [show orT t f p = .inl y1.1 by unfold orT; rw [hk]; dsimp only; rw [hx1]; dsimp only; rw [if_neg e63]]
            exact ⟨⟨fun a h1 h2 h3 h4 h5 => by rw [rI_sI_ne _ _ _ h1]; exact hfr1.1 a h1 h2 h3 h4 h5, by rw [rI_sI, upd_eq, if_neg (by decide)]; exact hfr1.2.1, fun q hq => by rw [rI_sI_ne _ _ _ (by decide)]; exact hfr1.2.2.1 q hq, hfr1.2.2.2⟩, rfl, by rw [rI_sI, upd_eq, if_pos rfl]⟩
        · have htw : toW k = wTo := by unfold toW; rw [if_pos (by omega)]
          refine g_ldcS (i := 15) (tx := "to") hX d_Re_readOrder_53 (by decide) ?_
          refine g_goto hX d_Re_readOrder_55 ?_
          refine g_callV (As := [_]) hX hF.1 d_Re_readOrder_60 ml_Re_72 cf_Ta_isWord cv_Ta_isWord rfl rfl (c_Ta_isWord (i := 15) (wd := wTo) (by decide) (strW_all.2.2.2.2.2.2.2.2.2.2.2.2.2.2.2.1) hR5) (rcv_obj hX (lv_26 _) rfl rfl) (by first | decide | omega) (by omega) (by omega) (Nat.le_of_ble_eq_true rfl) ?_
          refine ret_k ?_
          refine g_ifB_ne hX d_Re_readOrder_63 (fun e63 => ?_) (fun e63 => ?_)
          · rw [← htw] at e63
            refine g_aload0 hX d_Re_readOrder_71 ?_
            refine g_getF hX d_Re_readOrder_72 fl_Re_12 (lv_25 _) ?_
            refine g_callV (As := []) hX hF.1 d_Re_readOrder_75 ml_Re_67 cf_Ta_step cv_Ta_step rfl rfl (c_Ta_step a5.1.1 a5.1.2.2.1 (enT_le a5.fl.1)) (rcv_obj hX (lv_26 _) rfl rfl) (by first | decide | omega) (by omega) (by omega) (Nat.le_of_ble_eq_true rfl) ?_
            rintro _ w6 ⟨rfl, ft_w6, tk_w6⟩
            have h6 := a5.step ft_w6 tk_w6
            show G0 _ _ _ _ _ _ _ _
            refine g_aload0 hX d_Re_readOrder_78 ?_
            refine g_iconst (v := nI 3) hX d_Re_readOrder_79 rfl ?_
            refine g_callV (As := [_]) hX hF.1 d_Re_readOrder_80 ml_Re_82 cf_Re_readWholeSum cv_Re_readWholeSum rfl rfl (c_Re_readWholeSum h6 (show rI w6 28 0 = nI (m + 1) by rw [ft_w6.1 28 (by decide), a0, ft_w3.1 28 (by decide)]; exact clW_0 _ _ _) hm (by decide)) (rcv_obj hX (lv_25 _) rfl rfl) (by first | decide | omega) (by omega) (by omega) (Nat.le_of_ble_eq_true rfl) ?_
            rintro r8 w8 hQ2
            obtain rfl := hQ2.rv
            have hfr2 : FrRt w w8 := (hfr1.tr ft_w6.R.T).tr hQ2.1
            obtain ⟨x2, hx2⟩ : ∃ x, rdE t true 3 (nxT t y1.1) y1.2.1 = x := ⟨_, rfl⟩
            rw [hx2] at hQ2 ⊢
            show G0 _ _ _ _ _ _ _ _
            refine g_ifB_eq hX d_Re_readOrder_83 (fun e83 => ?_) (fun e83 => ?_)
            · obtain ⟨e, rfl⟩ := okZ_f e83
              refine g_iconst (v := nI 0) hX d_Re_readOrder_97 rfl ?_
              refine g_zret hX hF d_Re_readOrder_98 (Or.inl rfl) (by omega) (by omega) ?_
              rw [show orT t f p = .inl e by unfold orT; rw [hk]; dsimp only; rw [hx1]; dsimp only; rw [if_pos e63, hx2]]
              exact ⟨hfr2, rfl, hQ2.2.2⟩
            · obtain ⟨y2, rfl⟩ := okZ_t e83
              obtain ⟨-, -, b4, b0, c2, ⟨b1, b5, b6, b7⟩, b29⟩ := id hQ2
              have h29 : ∀ j, rI w8 29 j = if j = 8 * m + 3 then nI c1.length else if j = 8 * m + (3 + 1) then nI c2.length else if j = 8 * m + 1 then nI c.length else if j = 8 * m + (1 + 1) then nI c1.length else if j = 8 * m + 7 then nI 1 else if j = 8 * m then nI k else if 8 * m ≤ j ∧ j < 8 * m + 8 then nI 0 else rI w 29 j := fun j => by
                rw [b29, ft_w6.1 29 (by decide), a29, ft_w3.1 29 (by decide), clW_29]
              have hl8 : rI w8 28 0 = nI (m + 1) := by rw [b0, ft_w6.1 28 (by decide), a0, ft_w3.1 28 (by decide)]; exact clW_0 _ _ _
              refine g_aload0 hX d_Re_readOrder_86 ?_
              refine g_callV (As := []) hX hF.1 d_Re_readOrder_87 ml_Re_96 cf_Re_readTimes cv_Re_readTimes rfl rfl (c_Re_readTimes b5 hl8 hm (by rw [h29, if_neg (by omega), if_neg (by omega), if_neg (by omega), if_neg (by omega), if_pos rfl])) (rcv_obj hX (lv_25 _) rfl rfl) (by first | decide | omega) (by omega) (by omega) (Nat.le_of_ble_eq_true rfl) ?_
              rintro r9 w9 hQ3
              obtain rfl := hQ3.rv
              have hfr3 := hfr2.tr hQ3.1
              obtain ⟨x3, hx3⟩ : ∃ x, timesT t y2.1 = x := ⟨_, rfl⟩
              rw [hx3] at hQ3 ⊢
              show G0 _ _ _ _ _ _ _ _
              refine g_ifB_eq hX d_Re_readOrder_90 (fun e90 => ?_) (fun e90 => ?_)
              · obtain ⟨e, rfl⟩ := okZ_f e90
                refine g_iconst (v := nI 0) hX d_Re_readOrder_97 rfl ?_
                refine g_zret hX hF d_Re_readOrder_98 (Or.inl rfl) (by omega) (by omega) ?_
                rw [show orT t f p = .inl e by unfold orT; rw [hk]; dsimp only; rw [hx1]; dsimp only; rw [if_pos e63, hx2]; dsimp only; rw [hx3]]
                exact ⟨hfr3, rfl, hQ3.2.2⟩
              · obtain ⟨tm, rfl⟩ := okZ_t e90
                obtain ⟨-, -, d4, d0, d5, d7, d20, d29⟩ := id hQ3
                refine g_iconst (v := nI 1) hX d_Re_readOrder_93 rfl ?_
                refine g_goto hX d_Re_readOrder_94 ?_
                refine g_zret hX hF d_Re_readOrder_98 (Or.inr rfl) (by omega) (by omega) ?_
                rw [show orT t f p = .inr (tm.1, y2.2.1, k, y1.2.2, y2.2.2, tm.2) by unfold orT; rw [hk]; dsimp only; rw [hx1]; dsimp only; rw [if_pos e63, hx2]; dsimp only; rw [hx3]]
                have hc1 : c.length ≤ c1.length := by
                  obtain ⟨s, rfl⟩ := a1
                  rw [List.length_append]; omega
                have hc2 : c1.length ≤ c2.length := by
                  obtain ⟨s, rfl⟩ := b1
                  rw [List.length_append]; omega
                refine ⟨hfr3, rfl, ?_, by rw [d0]; exact hl8, fun j hj => ?_, c2, ?_, d5, ?_, ?_, hk4, d7, d20, c.length, c1.length, c1.length, c2.length, ?_, ?_, ?_, ?_, by omega, hc2, hc2, Nat.le_refl _, ?_, b6, ?_, ?_⟩
                · rw [d4, b4, ft_w6.1 25 (by decide), a4, ft_w3.1 25 (by decide), clW_o (by decide) (by decide)]
                · rw [d29 j (by omega), h29, if_neg (by omega), if_neg (by omega), if_neg (by omega), if_neg (by omega), if_neg (by omega), if_neg (by omega), if_neg (by omega)]
                · obtain ⟨s, hs⟩ := a1
                  obtain ⟨s2, hs2⟩ := b1
                  exact ⟨s ++ s2, by rw [hs2, hs, List.append_assoc]⟩
                · obtain ⟨s2, rfl⟩ := b1
                  exact a7.app b7
                · rw [d29 _ (by omega), h29, if_neg (by omega), if_neg (by omega), if_neg (by omega), if_neg (by omega), if_neg (by omega), if_pos rfl]
                · rw [d29 _ (by omega), h29, if_neg (by omega), if_neg (by omega), if_pos rfl]
                · rw [d29 _ (by omega), h29, if_neg (by omega), if_neg (by omega), if_neg (by omega), if_pos rfl]
                · rw [d29 _ (by omega), h29, if_pos rfl]
                · rw [d29 _ (by omega), h29, if_neg (by omega), if_pos rfl]
                · obtain ⟨s2, rfl⟩ := b1
                  exact a6.app (Nat.le_refl _)
                · rw [d29 _ (by omega), h29, if_neg (by omega), if_neg (by omega), if_neg (by omega), if_neg (by omega), if_neg (by omega), if_neg (by omega), if_pos (by omega)]
                · rw [d29 _ (by omega), h29, if_neg (by omega), if_neg (by omega), if_neg (by omega), if_neg (by omega), if_neg (by omega), if_neg (by omega), if_pos (by omega)]
          · rw [← htw] at e63
            refine g_aload0 hX d_Re_readOrder_66 ?_
            refine g_callV (As := []) hX hF.1 d_Re_readOrder_67 ml_Re_64 cf_Re_fail cv_Re_fail rfl rfl (c_Re_fail hR5) (rcv_obj hX (lv_25 _) rfl rfl) (by first | decide | omega) (by omega) (by omega) (Nat.le_of_ble_eq_true rfl) ?_
            refine ret_k ?_
            refine g_zret hX hF d_Re_readOrder_70 (Or.inl rfl) (by omega) (by omega) ?_
            rw [show orT t f p = .inl y1.1 by unfold orT; rw [hk]; dsimp only; rw [hx1]; dsimp only; rw [if_neg e63]]
            exact ⟨⟨fun a h1 h2 h3 h4 h5 => by rw [rI_sI_ne _ _ _ h1]; exact hfr1.1 a h1 h2 h3 h4 h5, by rw [rI_sI, upd_eq, if_neg (by decide)]; exact hfr1.2.1, fun q hq => by rw [rI_sI_ne _ _ _ (by decide)]; exact hfr1.2.2.1 q hq, hfr1.2.2.2⟩, rfl, by rw [rI_sI, upd_eq, if_pos rfl]⟩
    · obtain ⟨e, rfl⟩ := okZ_f e35
      refine g_iconst (v := nI 0) hX d_Re_readOrder_38 rfl ?_
      refine g_zret hX hF d_Re_readOrder_39 (Or.inl rfl) (by omega) (by omega) ?_
      rw [show orT t f p = .inl e by unfold orT; rw [hk]; dsimp only; rw [hx1]]
      exact ⟨hfr1, rfl, hQ1.2.2⟩
  · have hk : actK t f 4 = none := by
      rcases hv with ⟨k, z1, z2, z3⟩ | z
      · rw [z3] at e7
        exact absurd e7 (nI_m1 (by omega))
      · exact z.2
    refine g_aload0 hX d_Re_readOrder_10 ?_
    refine g_callV (As := []) hX hF.1 d_Re_readOrder_11 ml_Re_64 cf_Re_fail cv_Re_fail rfl rfl (c_Re_fail h.1) (rcv_obj hX (lv_25 _) rfl rfl) (by first | decide | omega) (by omega) (by omega) (Nat.le_of_ble_eq_true rfl) ?_
    refine ret_k ?_
    refine g_zret hX hF d_Re_readOrder_14 (Or.inl rfl) (by omega) (by omega) ?_
    rw [show orT t f p = .inl f by unfold orT; rw [hk]]
    exact ⟨((FrRd.rf w).pt (by decide)).T, rfl, by rw [rI_sI, upd_eq, if_pos rfl]⟩
