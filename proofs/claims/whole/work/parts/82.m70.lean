def m_Bo_degreeOf : MR := (⟨"SubgraphDesk$Board", "degreeOf", "(I)I"⟩, prog_3_method_12_code, 2, (some .int))
theorem cf_Bo_degreeOf : CF m_Bo_degreeOf 1 := ⟨gd 639 (by decide +kernel) rfl, gd 140 (by decide +kernel) rfl, by decide +kernel, by decide, by decide +kernel⟩
theorem cv_Bo_degreeOf : CV m_Bo_degreeOf := ⟨gd 637 (by decide +kernel) rfl, gd 638 (by decide +kernel) rfl⟩
def m_Bo_hasLaw : MR := (⟨"SubgraphDesk$Board", "hasLaw", "(I)Z"⟩, prog_3_method_5_code, 2, (some .boolean))
theorem cf_Bo_hasLaw : CF m_Bo_hasLaw 1 := ⟨gd 679 (by decide +kernel) rfl, gd 140 (by decide +kernel) rfl, by decide +kernel, by decide, by decide +kernel⟩
theorem cv_Bo_hasLaw : CV m_Bo_hasLaw := ⟨gd 677 (by decide +kernel) rfl, gd 678 (by decide +kernel) rfl⟩
def m_Bo_hasNode : MR := (⟨"SubgraphDesk$Board", "hasNode", "(I)Z"⟩, prog_3_method_3_code, 2, (some .boolean))
theorem cf_Bo_hasNode : CF m_Bo_hasNode 1 := ⟨gd 635 (by decide +kernel) rfl, gd 140 (by decide +kernel) rfl, by decide +kernel, by decide, by decide +kernel⟩
theorem cv_Bo_hasNode : CV m_Bo_hasNode := ⟨gd 633 (by decide +kernel) rfl, gd 634 (by decide +kernel) rfl⟩
def m_Bo_hasVertex : MR := (⟨"SubgraphDesk$Board", "hasVertex", "(I)Z"⟩, prog_3_method_4_code, 2, (some .boolean))
theorem cf_Bo_hasVertex : CF m_Bo_hasVertex 1 := ⟨gd 654 (by decide +kernel) rfl, gd 140 (by decide +kernel) rfl, by decide +kernel, by decide, by decide +kernel⟩
theorem cv_Bo_hasVertex : CV m_Bo_hasVertex := ⟨gd 652 (by decide +kernel) rfl, gd 653 (by decide +kernel) rfl⟩
def m_Bo_linksOf : MR := (⟨"SubgraphDesk$Board", "linksOf", "(I)I"⟩, prog_3_method_13_code, 2, (some .int))
theorem cf_Bo_linksOf : CF m_Bo_linksOf 1 := ⟨gd 658 (by decide +kernel) rfl, gd 140 (by decide +kernel) rfl, by decide +kernel, by decide, by decide +kernel⟩
theorem cv_Bo_linksOf : CV m_Bo_linksOf := ⟨gd 656 (by decide +kernel) rfl, gd 657 (by decide +kernel) rfl⟩
theorem d_Bo_degreeOf_0 : Dc prog_3_method_12_code 0 (.aload_n 0) 1 1 := ⟨by decide +kernel, rfl⟩
theorem d_Bo_degreeOf_1 : Dc prog_3_method_12_code 1 (.iload_n 1) 1 2 := ⟨by decide +kernel, rfl⟩
theorem d_Bo_degreeOf_2 : Dc prog_3_method_12_code 2 (.invokevirtual 72) 3 5 := ⟨by decide +kernel, rfl⟩
theorem d_Bo_degreeOf_5 : Dj prog_3_method_12_code 5 (.ifCond .eq 15) 8 15 20 := ⟨by decide +kernel, rfl, rfl⟩
theorem d_Bo_degreeOf_8 : Dc prog_3_method_12_code 8 (.aload_n 0) 1 9 := ⟨by decide +kernel, rfl⟩
theorem d_Bo_degreeOf_9 : Dc prog_3_method_12_code 9 (.getfield 15) 3 12 := ⟨by decide +kernel, rfl⟩
theorem d_Bo_degreeOf_12 : Dc prog_3_method_12_code 12 (.iload_n 1) 1 13 := ⟨by decide +kernel, rfl⟩
theorem d_Bo_degreeOf_13 : Dc prog_3_method_12_code 13 (.iaload) 1 14 := ⟨by decide +kernel, rfl⟩
theorem d_Bo_degreeOf_14 : Dc prog_3_method_12_code 14 (.invokestatic 75) 3 17 := ⟨by decide +kernel, rfl⟩
theorem d_Bo_degreeOf_17 : Dj prog_3_method_12_code 17 (.goto 4) 20 4 21 := ⟨by decide +kernel, rfl, rfl⟩
theorem d_Bo_degreeOf_20 : Dc prog_3_method_12_code 20 (.iconst (-1)) 1 21 := ⟨by decide +kernel, rfl⟩
theorem d_Bo_degreeOf_21 : Dc prog_3_method_12_code 21 (.ireturn) 1 22 := ⟨by decide +kernel, rfl⟩
theorem d_Bo_hasLaw_0 : Dc prog_3_method_5_code 0 (.iload_n 1) 1 1 := ⟨by decide +kernel, rfl⟩
theorem d_Bo_hasLaw_1 : Dj prog_3_method_5_code 1 (.ifCond .lt 15) 4 15 16 := ⟨by decide +kernel, rfl, rfl⟩
theorem d_Bo_hasLaw_4 : Dc prog_3_method_5_code 4 (.iload_n 1) 1 5 := ⟨by decide +kernel, rfl⟩
theorem d_Bo_hasLaw_5 : Dc prog_3_method_5_code 5 (.aload_n 0) 1 6 := ⟨by decide +kernel, rfl⟩
theorem d_Bo_hasLaw_6 : Dc prog_3_method_5_code 6 (.getfield 55) 3 9 := ⟨by decide +kernel, rfl⟩
theorem d_Bo_hasLaw_9 : Dj prog_3_method_5_code 9 (.if_icmp .ge 7) 12 7 16 := ⟨by decide +kernel, rfl, rfl⟩
theorem d_Bo_hasLaw_12 : Dc prog_3_method_5_code 12 (.iconst 1) 1 13 := ⟨by decide +kernel, rfl⟩
theorem d_Bo_hasLaw_13 : Dj prog_3_method_5_code 13 (.goto 4) 16 4 17 := ⟨by decide +kernel, rfl, rfl⟩
theorem d_Bo_hasLaw_16 : Dc prog_3_method_5_code 16 (.iconst 0) 1 17 := ⟨by decide +kernel, rfl⟩
theorem d_Bo_hasLaw_17 : Dc prog_3_method_5_code 17 (.ireturn) 1 18 := ⟨by decide +kernel, rfl⟩
theorem d_Bo_hasNode_0 : Dc prog_3_method_3_code 0 (.iload_n 1) 1 1 := ⟨by decide +kernel, rfl⟩
theorem d_Bo_hasNode_1 : Dj prog_3_method_3_code 1 (.ifCond .lt 15) 4 15 16 := ⟨by decide +kernel, rfl, rfl⟩
theorem d_Bo_hasNode_4 : Dc prog_3_method_3_code 4 (.iload_n 1) 1 5 := ⟨by decide +kernel, rfl⟩
theorem d_Bo_hasNode_5 : Dc prog_3_method_3_code 5 (.aload_n 0) 1 6 := ⟨by decide +kernel, rfl⟩
theorem d_Bo_hasNode_6 : Dc prog_3_method_3_code 6 (.getfield 43) 3 9 := ⟨by decide +kernel, rfl⟩
theorem d_Bo_hasNode_9 : Dj prog_3_method_3_code 9 (.if_icmp .ge 7) 12 7 16 := ⟨by decide +kernel, rfl, rfl⟩
theorem d_Bo_hasNode_12 : Dc prog_3_method_3_code 12 (.iconst 1) 1 13 := ⟨by decide +kernel, rfl⟩
theorem d_Bo_hasNode_13 : Dj prog_3_method_3_code 13 (.goto 4) 16 4 17 := ⟨by decide +kernel, rfl, rfl⟩
theorem d_Bo_hasNode_16 : Dc prog_3_method_3_code 16 (.iconst 0) 1 17 := ⟨by decide +kernel, rfl⟩
theorem d_Bo_hasNode_17 : Dc prog_3_method_3_code 17 (.ireturn) 1 18 := ⟨by decide +kernel, rfl⟩
theorem d_Bo_hasVertex_0 : Dc prog_3_method_4_code 0 (.iload_n 1) 1 1 := ⟨by decide +kernel, rfl⟩
theorem d_Bo_hasVertex_1 : Dj prog_3_method_4_code 1 (.ifCond .lt 15) 4 15 16 := ⟨by decide +kernel, rfl, rfl⟩
theorem d_Bo_hasVertex_4 : Dc prog_3_method_4_code 4 (.iload_n 1) 1 5 := ⟨by decide +kernel, rfl⟩
theorem d_Bo_hasVertex_5 : Dc prog_3_method_4_code 5 (.aload_n 0) 1 6 := ⟨by decide +kernel, rfl⟩
theorem d_Bo_hasVertex_6 : Dc prog_3_method_4_code 6 (.getfield 49) 3 9 := ⟨by decide +kernel, rfl⟩
theorem d_Bo_hasVertex_9 : Dj prog_3_method_4_code 9 (.if_icmp .ge 7) 12 7 16 := ⟨by decide +kernel, rfl, rfl⟩
theorem d_Bo_hasVertex_12 : Dc prog_3_method_4_code 12 (.iconst 1) 1 13 := ⟨by decide +kernel, rfl⟩
theorem d_Bo_hasVertex_13 : Dj prog_3_method_4_code 13 (.goto 4) 16 4 17 := ⟨by decide +kernel, rfl, rfl⟩
theorem d_Bo_hasVertex_16 : Dc prog_3_method_4_code 16 (.iconst 0) 1 17 := ⟨by decide +kernel, rfl⟩
theorem d_Bo_hasVertex_17 : Dc prog_3_method_4_code 17 (.ireturn) 1 18 := ⟨by decide +kernel, rfl⟩
theorem d_Bo_linksOf_0 : Dc prog_3_method_13_code 0 (.aload_n 0) 1 1 := ⟨by decide +kernel, rfl⟩
theorem d_Bo_linksOf_1 : Dc prog_3_method_13_code 1 (.iload_n 1) 1 2 := ⟨by decide +kernel, rfl⟩
theorem d_Bo_linksOf_2 : Dc prog_3_method_13_code 2 (.invokevirtual 81) 3 5 := ⟨by decide +kernel, rfl⟩
theorem d_Bo_linksOf_5 : Dj prog_3_method_13_code 5 (.ifCond .eq 15) 8 15 20 := ⟨by decide +kernel, rfl, rfl⟩
theorem d_Bo_linksOf_8 : Dc prog_3_method_13_code 8 (.aload_n 0) 1 9 := ⟨by decide +kernel, rfl⟩
theorem d_Bo_linksOf_9 : Dc prog_3_method_13_code 9 (.getfield 24) 3 12 := ⟨by decide +kernel, rfl⟩
theorem d_Bo_linksOf_12 : Dc prog_3_method_13_code 12 (.iload_n 1) 1 13 := ⟨by decide +kernel, rfl⟩
theorem d_Bo_linksOf_13 : Dc prog_3_method_13_code 13 (.iaload) 1 14 := ⟨by decide +kernel, rfl⟩
theorem d_Bo_linksOf_14 : Dc prog_3_method_13_code 14 (.invokestatic 75) 3 17 := ⟨by decide +kernel, rfl⟩
theorem d_Bo_linksOf_17 : Dj prog_3_method_13_code 17 (.goto 4) 20 4 21 := ⟨by decide +kernel, rfl, rfl⟩
theorem d_Bo_linksOf_20 : Dc prog_3_method_13_code 20 (.iconst 0) 1 21 := ⟨by decide +kernel, rfl⟩
theorem d_Bo_linksOf_21 : Dc prog_3_method_13_code 21 (.ireturn) 1 22 := ⟨by decide +kernel, rfl⟩
theorem fl_Bo_15 : FL "SubgraphDesk$Board" 15 2 2 true (.array .int) (3, 2) := ⟨R_Bo, F_Bo, 15, ty_Bo, rfl, rfl, in_Bo, tyok_Bo, nm_Bo, by decide, gd 187 (by decide +kernel) rfl, rfl, rfl, rfl⟩
theorem fl_Bo_24 : FL "SubgraphDesk$Board" 24 2 7 true (.array .int) (3, 5) := ⟨R_Bo, F_Bo, 15, ty_Bo, rfl, rfl, in_Bo, tyok_Bo, nm_Bo, by decide, gd 210 (by decide +kernel) rfl, rfl, rfl, rfl⟩
theorem fl_Bo_43 : FL "SubgraphDesk$Board" 43 2 0 false .int (0, 0) := ⟨R_Bo, F_Bo, 15, ty_Bo, rfl, rfl, in_Bo, tyok_Bo, nm_Bo, by decide, gd 176 (by decide +kernel) rfl, rfl, rfl, rfl⟩
theorem fl_Bo_49 : FL "SubgraphDesk$Board" 49 2 5 false .int (0, 0) := ⟨R_Bo, F_Bo, 15, ty_Bo, rfl, rfl, in_Bo, tyok_Bo, nm_Bo, by decide, gd 200 (by decide +kernel) rfl, rfl, rfl, rfl⟩
theorem fl_Bo_55 : FL "SubgraphDesk$Board" 55 2 11 false .int (0, 0) := ⟨R_Bo, F_Bo, 15, ty_Bo, rfl, rfl, in_Bo, tyok_Bo, nm_Bo, by decide, gd 226 (by decide +kernel) rfl, rfl, rfl, rfl⟩
theorem ml_Bo_72 : Cond.methodLink "SubgraphDesk$Board" 72 m_Bo_hasNode.1 ∈ lw_gd := gd 640 (by decide +kernel) rfl
theorem ml_Bo_75 : Cond.methodLink "SubgraphDesk$Board" 75 m_JInteger_bitCount.1 ∈ lw_gd := gd 641 (by decide +kernel) rfl
theorem ml_Bo_81 : Cond.methodLink "SubgraphDesk$Board" 81 m_Bo_hasVertex.1 ∈ lw_gd := gd 659 (by decide +kernel) rfl
/-! ===== the desk's boards ===== -/
/-- a board holds the plain state, but for the laws' texts -/
def BRow (w : Mem) (b : Nat) (g : GC) : Prop := rI w b 0 = nI (gN g) ∧ rI w b 3 = nI (gE g).length ∧ rI w b 5 = nI (gV g) ∧ rI w b 8 = nI (gS g).length ∧ rI w b 11 = nI (gL g).length ∧ rI w b 12 = fInt (gF g) ∧ (∀ i, i < gN g → rI w (b + 1) i = nI (gC g i)) ∧ (∀ i, i < gN g → rI w (b + 2) i = nI (nearB (gE g) i)) ∧ (∀ k, k < (gE g).length → rI w (b + 3) k = nI (gA (gE g) k)) ∧ (∀ v, v < gV g → rI w (b + 4) v = nI (gY g v)) ∧ (∀ v, v < gV g → rI w (b + 5) v = nI (gK g v)) ∧ (∀ (k : Nat) (q : Nat × Nat), (gS g)[k]? = some q → rI w (b + 6) k = nI (q.1 * 12 + q.2)) ∧ ∀ i, i < 3 → rI w (b + 7) i = nI (gT g i)
section
variable {w : Mem} {b : Nat} {g : GC}
theorem BRow.n (h : BRow w b g) : rI w b 0 = nI (gN g) := h.1
theorem BRow.el (h : BRow w b g) : rI w b 3 = nI (gE g).length := h.2.1
theorem BRow.v (h : BRow w b g) : rI w b 5 = nI (gV g) := h.2.2.1
theorem BRow.sl (h : BRow w b g) : rI w b 8 = nI (gS g).length := h.2.2.2.1
theorem BRow.ll (h : BRow w b g) : rI w b 11 = nI (gL g).length := h.2.2.2.2.1
theorem BRow.fo (h : BRow w b g) : rI w b 12 = fInt (gF g) := h.2.2.2.2.2.1
theorem BRow.c (h : BRow w b g) : ∀ i, i < gN g → rI w (b + 1) i = nI (gC g i) := h.2.2.2.2.2.2.1
theorem BRow.nr (h : BRow w b g) : ∀ i, i < gN g → rI w (b + 2) i = nI (nearB (gE g) i) := h.2.2.2.2.2.2.2.1
theorem BRow.e (h : BRow w b g) : ∀ k, k < (gE g).length → rI w (b + 3) k = nI (gA (gE g) k) := h.2.2.2.2.2.2.2.2.1
theorem BRow.y (h : BRow w b g) : ∀ v, v < gV g → rI w (b + 4) v = nI (gY g v) := h.2.2.2.2.2.2.2.2.2.1
theorem BRow.k (h : BRow w b g) : ∀ v, v < gV g → rI w (b + 5) v = nI (gK g v) := h.2.2.2.2.2.2.2.2.2.2.1
theorem BRow.sn (h : BRow w b g) : ∀ (k : Nat) (q : Nat × Nat), (gS g)[k]? = some q → rI w (b + 6) k = nI (q.1 * 12 + q.2) := h.2.2.2.2.2.2.2.2.2.2.2.1
theorem BRow.t (h : BRow w b g) : ∀ i, i < 3 → rI w (b + 7) i = nI (gT g i) := h.2.2.2.2.2.2.2.2.2.2.2.2
end
theorem BRow.fr {w w2 : Mem} {b : Nat} {g : GC} (h : BRow w b g) (e : ∀ a, b ≤ a → a ≤ b + 7 → rI w2 a = rI w a) : BRow w2 b g := by
  unfold BRow
  rw [e b (by omega) (by omega), e (b + 1) (by omega) (by omega), e (b + 2) (by omega) (by omega), e (b + 3) (by omega) (by omega), e (b + 4) (by omega) (by omega), e (b + 5) (by omega) (by omega), e (b + 6) (by omega) (by omega), e (b + 7) (by omega) (by omega)]
  exact h
/-- only a board's ints changed -/
def FrBo (b : Nat) (w w2 : Mem) : Prop := (∀ a, a < b ∨ b + 7 < a → rI w2 a = rI w a) ∧ w2.2 = w.2
theorem FrBo.rf (b : Nat) (w : Mem) : FrBo b w w := ⟨fun _ _ => rfl, rfl⟩
theorem FrBo.tr {b : Nat} {x y z : Mem} (h : FrBo b x y) (h2 : FrBo b y z) : FrBo b x z := ⟨fun a ha => (h2.1 a ha).trans (h.1 a ha), h2.2.trans h.2⟩
theorem FrBo.I {b : Nat} {w w2 : Mem} {o k : Nat} {x : Int32} (ho : b ≤ o ∧ o ≤ b + 7) (h : FrBo b w w2) : FrBo b w (sI w2 o k x) := ⟨fun a ha => by rw [rI_sI_ne _ _ _ (by omega)]; exact h.1 a ha, h.2⟩
theorem FrBo.A {b : Nat} {w w2 : Mem} {o : Nat} {f : Nat → Int32} (ho : b ≤ o ∧ o ≤ b + 7) (h : FrBo b w w2) : FrBo b w (sA w2 o f) := ⟨fun a ha => by rw [rI_sA_ne _ _ (by omega)]; exact h.1 a ha, h.2⟩
theorem near12 {g : GC} (hW : WG g) (n : Nat) : nearB (gE g) n < 4096 := near_lt (fun c hc => hW.e144 hc)
theorem c_Bo_hasNode {E : EV} {w : Mem} {x : Int32} {b : Nat} {g : GC} (hb : IsBo b) (hR : BRow w b g) (hW : WG g) : T E m_Bo_hasNode 0 0 0 [.ref b, .int x] w (Ret (some (.int (b2i (inN x (gN g))))) w) := by
  refine T_of (L := [.ref b, .int x]) cf_Bo_hasNode rfl (Nat.le_of_ble_eq_true rfl) (fun X hX hF => ?_)
  have hn := hW.n
  have hv := hW.v
  have he := hW.el
  have hll := hW.ll
  have hsl := hW.sl
  refine g_iload1 hX d_Bo_hasNode_0 ?_
  refine g_if_lt hX d_Bo_hasNode_1 (fun e1 => ?_) (fun e1 => ?_)
  · refine g_iconst (v := nI 0) hX d_Bo_hasNode_16 rfl ?_
    refine g_zret hX hF d_Bo_hasNode_17 (Or.inl rfl) (by omega) (by omega) ?_
    first | exact ret_f (fun h => absurd e1 (Int32.not_lt.mpr h.1)) | exact ret_f (fun h => absurd h.2 (Int32.not_lt.mpr e9)) | exact ret_t ⟨Int32.not_lt.mp e1, Int32.not_le.mp e9⟩
  · refine g_iload1 hX d_Bo_hasNode_4 ?_
    refine g_aload0 hX d_Bo_hasNode_5 ?_
    refine g_getI hX d_Bo_hasNode_6 fl_Bo_43 (lvBo_0 hb _) ?_
    refine g_topi hR.n ?_
    refine g_icmp_ge hX d_Bo_hasNode_9 (fun e9 => ?_) (fun e9 => ?_)
    · refine g_iconst (v := nI 0) hX d_Bo_hasNode_16 rfl ?_
      refine g_zret hX hF d_Bo_hasNode_17 (Or.inl rfl) (by omega) (by omega) ?_
      first | exact ret_f (fun h => absurd e1 (Int32.not_lt.mpr h.1)) | exact ret_f (fun h => absurd h.2 (Int32.not_lt.mpr e9)) | exact ret_t ⟨Int32.not_lt.mp e1, Int32.not_le.mp e9⟩
    · refine g_iconst (v := nI 1) hX d_Bo_hasNode_12 rfl ?_
      refine g_goto hX d_Bo_hasNode_13 ?_
      refine g_zret hX hF d_Bo_hasNode_17 (Or.inr rfl) (by omega) (by omega) ?_
      first | exact ret_f (fun h => absurd e1 (Int32.not_lt.mpr h.1)) | exact ret_f (fun h => absurd h.2 (Int32.not_lt.mpr e9)) | exact ret_t ⟨Int32.not_lt.mp e1, Int32.not_le.mp e9⟩
theorem c_Bo_hasVertex {E : EV} {w : Mem} {x : Int32} {b : Nat} {g : GC} (hb : IsBo b) (hR : BRow w b g) (hW : WG g) : T E m_Bo_hasVertex 0 0 0 [.ref b, .int x] w (Ret (some (.int (b2i (inN x (gV g))))) w) := by
  refine T_of (L := [.ref b, .int x]) cf_Bo_hasVertex rfl (Nat.le_of_ble_eq_true rfl) (fun X hX hF => ?_)
  have hn := hW.n
  have hv := hW.v
  have he := hW.el
  have hll := hW.ll
  have hsl := hW.sl
  refine g_iload1 hX d_Bo_hasVertex_0 ?_
  refine g_if_lt hX d_Bo_hasVertex_1 (fun e1 => ?_) (fun e1 => ?_)
  · refine g_iconst (v := nI 0) hX d_Bo_hasVertex_16 rfl ?_
    refine g_zret hX hF d_Bo_hasVertex_17 (Or.inl rfl) (by omega) (by omega) ?_
    first | exact ret_f (fun h => absurd e1 (Int32.not_lt.mpr h.1)) | exact ret_f (fun h => absurd h.2 (Int32.not_lt.mpr e9)) | exact ret_t ⟨Int32.not_lt.mp e1, Int32.not_le.mp e9⟩
  · refine g_iload1 hX d_Bo_hasVertex_4 ?_
    refine g_aload0 hX d_Bo_hasVertex_5 ?_
    refine g_getI hX d_Bo_hasVertex_6 fl_Bo_49 (lvBo_0 hb _) ?_
    refine g_topi hR.v ?_
    refine g_icmp_ge hX d_Bo_hasVertex_9 (fun e9 => ?_) (fun e9 => ?_)
    · refine g_iconst (v := nI 0) hX d_Bo_hasVertex_16 rfl ?_
      refine g_zret hX hF d_Bo_hasVertex_17 (Or.inl rfl) (by omega) (by omega) ?_
      first | exact ret_f (fun h => absurd e1 (Int32.not_lt.mpr h.1)) | exact ret_f (fun h => absurd h.2 (Int32.not_lt.mpr e9)) | exact ret_t ⟨Int32.not_lt.mp e1, Int32.not_le.mp e9⟩
    · refine g_iconst (v := nI 1) hX d_Bo_hasVertex_12 rfl ?_
      refine g_goto hX d_Bo_hasVertex_13 ?_
      refine g_zret hX hF d_Bo_hasVertex_17 (Or.inr rfl) (by omega) (by omega) ?_
      first | exact ret_f (fun h => absurd e1 (Int32.not_lt.mpr h.1)) | exact ret_f (fun h => absurd h.2 (Int32.not_lt.mpr e9)) | exact ret_t ⟨Int32.not_lt.mp e1, Int32.not_le.mp e9⟩
theorem c_Bo_hasLaw {E : EV} {w : Mem} {x : Int32} {b : Nat} {g : GC} (hb : IsBo b) (hR : BRow w b g) (hW : WG g) : T E m_Bo_hasLaw 0 0 0 [.ref b, .int x] w (Ret (some (.int (b2i (inN x ((gL g).length))))) w) := by
  refine T_of (L := [.ref b, .int x]) cf_Bo_hasLaw rfl (Nat.le_of_ble_eq_true rfl) (fun X hX hF => ?_)
  have hn := hW.n
  have hv := hW.v
  have he := hW.el
  have hll := hW.ll
  have hsl := hW.sl
  refine g_iload1 hX d_Bo_hasLaw_0 ?_
  refine g_if_lt hX d_Bo_hasLaw_1 (fun e1 => ?_) (fun e1 => ?_)
  · refine g_iconst (v := nI 0) hX d_Bo_hasLaw_16 rfl ?_
    refine g_zret hX hF d_Bo_hasLaw_17 (Or.inl rfl) (by omega) (by omega) ?_
    first | exact ret_f (fun h => absurd e1 (Int32.not_lt.mpr h.1)) | exact ret_f (fun h => absurd h.2 (Int32.not_lt.mpr e9)) | exact ret_t ⟨Int32.not_lt.mp e1, Int32.not_le.mp e9⟩
  · refine g_iload1 hX d_Bo_hasLaw_4 ?_
    refine g_aload0 hX d_Bo_hasLaw_5 ?_
    refine g_getI hX d_Bo_hasLaw_6 fl_Bo_55 (lvBo_0 hb _) ?_
    refine g_topi hR.ll ?_
    refine g_icmp_ge hX d_Bo_hasLaw_9 (fun e9 => ?_) (fun e9 => ?_)
    · refine g_iconst (v := nI 0) hX d_Bo_hasLaw_16 rfl ?_
      refine g_zret hX hF d_Bo_hasLaw_17 (Or.inl rfl) (by omega) (by omega) ?_
      first | exact ret_f (fun h => absurd e1 (Int32.not_lt.mpr h.1)) | exact ret_f (fun h => absurd h.2 (Int32.not_lt.mpr e9)) | exact ret_t ⟨Int32.not_lt.mp e1, Int32.not_le.mp e9⟩
    · refine g_iconst (v := nI 1) hX d_Bo_hasLaw_12 rfl ?_
      refine g_goto hX d_Bo_hasLaw_13 ?_
      refine g_zret hX hF d_Bo_hasLaw_17 (Or.inr rfl) (by omega) (by omega) ?_
      first | exact ret_f (fun h => absurd e1 (Int32.not_lt.mpr h.1)) | exact ret_f (fun h => absurd h.2 (Int32.not_lt.mpr e9)) | exact ret_t ⟨Int32.not_lt.mp e1, Int32.not_le.mp e9⟩
/-- an edge's ends, told for any number -/
noncomputable def degI (g : GC) (x : Int32) : Int32 := if inN x (gN g) then nI (pop (nearB (gE g) (tn x))) else -1
noncomputable def lnkI (g : GC) (x : Int32) : Int32 := if inN x (gV g) then nI (pop (gK g (tn x))) else nI 0
theorem degI_n {g : GC} {x : Nat} (h : x < gN g) (hN : gN g < 2 ^ 31) : degI g (nI x) = nI (pop (nearB (gE g) x)) := by
  unfold degI
  rw [if_pos (inN_nI h hN), tn_nI (by omega)]
theorem lnkI_n {g : GC} {x : Nat} (h : x < gV g) (hN : gV g < 2 ^ 31) : lnkI g (nI x) = nI (pop (gK g x)) := by
  unfold lnkI
  rw [if_pos (inN_nI h hN), tn_nI (by omega)]
theorem c_Bo_degreeOf {E : EV} {w : Mem} {x : Int32} {b : Nat} {g : GC} (hb : IsBo b) (hR : BRow w b g) (hW : WG g) : T E m_Bo_degreeOf 1 0 0 [.ref b, .int x] w (Ret (some (.int (degI g x))) w) := by
  refine T_of (L := [.ref b, .int x]) cf_Bo_degreeOf rfl (Nat.le_of_ble_eq_true rfl) (fun X hX hF => ?_)
  have hn := hW.n
  have hv := hW.v
  have he := hW.el
  have hll := hW.ll
  have hsl := hW.sl
  refine g_aload0 hX d_Bo_degreeOf_0 ?_
  refine g_iload1 hX d_Bo_degreeOf_1 ?_
  refine g_callV (As := [_]) hX hF.1 d_Bo_degreeOf_2 ml_Bo_72 cf_Bo_hasNode cv_Bo_hasNode rfl rfl (c_Bo_hasNode hb hR hW) (rcv_obj hX (lvBo_0 hb _) rfl rfl) (by omega) (by omega) (by omega) (Nat.le_of_ble_eq_true rfl) ?_
  refine ret_k ?_
  refine g_ifB_eq hX d_Bo_degreeOf_5 (fun e5 => ?_) (fun e5 => ?_)
  · refine g_iconst (v := -1) hX d_Bo_degreeOf_20 rfl ?_
    refine g_iret hX hF d_Bo_degreeOf_21 (by omega) (by omega) ?_
    first | exact ⟨by rw [degI_n ha (by omega)], rfl⟩ | exact ⟨by unfold degI; rw [if_neg e5], rfl⟩
  · obtain ⟨a, ha, rfl, hta⟩ := inN_of e5 (by omega)
    have h12 := near12 hW a
    refine g_aload0 hX d_Bo_degreeOf_8 ?_
    refine g_getF hX d_Bo_degreeOf_9 fl_Bo_15 (lvBo_0 hb _) ?_
    refine g_iload1 hX d_Bo_degreeOf_12 ?_
    refine g_iald hX d_Bo_degreeOf_13 (lvBo_2 hb _) rfl (by omega) ?_
    refine g_topi (hR.nr a ha) ?_
    refine g_callS (As := [_]) hX hF.1 d_Bo_degreeOf_14 ml_Bo_75 cf_JInteger_bitCount cs_JInteger_bitCount rfl (c_JInteger_bitCount (by omega)) (by omega) (by omega) (by omega) (Nat.le_of_ble_eq_true rfl) ?_
    refine ret_k ?_
    refine g_goto hX d_Bo_degreeOf_17 ?_
    refine g_iret hX hF d_Bo_degreeOf_21 (by omega) (by omega) ?_
    first | exact ⟨by rw [degI_n ha (by omega)], rfl⟩ | exact ⟨by unfold degI; rw [if_neg e5], rfl⟩
theorem c_Bo_linksOf {E : EV} {w : Mem} {x : Int32} {b : Nat} {g : GC} (hb : IsBo b) (hR : BRow w b g) (hW : WG g) : T E m_Bo_linksOf 1 0 0 [.ref b, .int x] w (Ret (some (.int (lnkI g x))) w) := by
  refine T_of (L := [.ref b, .int x]) cf_Bo_linksOf rfl (Nat.le_of_ble_eq_true rfl) (fun X hX hF => ?_)
  have hn := hW.n
  have hv := hW.v
  have he := hW.el
  have hll := hW.ll
  have hsl := hW.sl
  refine g_aload0 hX d_Bo_linksOf_0 ?_
  refine g_iload1 hX d_Bo_linksOf_1 ?_
  refine g_callV (As := [_]) hX hF.1 d_Bo_linksOf_2 ml_Bo_81 cf_Bo_hasVertex cv_Bo_hasVertex rfl rfl (c_Bo_hasVertex hb hR hW) (rcv_obj hX (lvBo_0 hb _) rfl rfl) (by omega) (by omega) (by omega) (Nat.le_of_ble_eq_true rfl) ?_
  refine ret_k ?_
  refine g_ifB_eq hX d_Bo_linksOf_5 (fun e5 => ?_) (fun e5 => ?_)
  · refine g_iconst (v := nI 0) hX d_Bo_linksOf_20 rfl ?_
    refine g_iret hX hF d_Bo_linksOf_21 (by omega) (by omega) ?_
    first | exact ⟨by rw [lnkI_n ha (by omega)], rfl⟩ | exact ⟨by unfold lnkI; rw [if_neg e5], rfl⟩
  · obtain ⟨a, ha, rfl, hta⟩ := inN_of e5 (by omega)
    have h12 := hW.k32 ha
    refine g_aload0 hX d_Bo_linksOf_8 ?_
    refine g_getF hX d_Bo_linksOf_9 fl_Bo_24 (lvBo_0 hb _) ?_
    refine g_iload1 hX d_Bo_linksOf_12 ?_
    refine g_iald hX d_Bo_linksOf_13 (lvBo_5 hb _) rfl (by omega) ?_
    refine g_topi (hR.k a ha) ?_
    refine g_callS (As := [_]) hX hF.1 d_Bo_linksOf_14 ml_Bo_75 cf_JInteger_bitCount cs_JInteger_bitCount rfl (c_JInteger_bitCount (by omega)) (by omega) (by omega) (by omega) (Nat.le_of_ble_eq_true rfl) ?_
    refine ret_k ?_
    refine g_goto hX d_Bo_linksOf_17 ?_
    refine g_iret hX hF d_Bo_linksOf_21 (by omega) (by omega) ?_
    first | exact ⟨by rw [lnkI_n ha (by omega)], rfl⟩ | exact ⟨by unfold lnkI; rw [if_neg e5], rfl⟩
