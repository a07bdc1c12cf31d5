def m_M_bounded : MR := (⟨"SubgraphDeskModel", "bounded", "(JII)I"⟩, prog_14_method_5_code, 4, (some .int))
theorem cf_M_bounded : CF m_M_bounded 3 := ⟨gd 1778 (by decide +kernel) rfl, gd 151 (by decide +kernel) rfl, by decide +kernel, by decide, by decide +kernel⟩
theorem cs_M_bounded : CS m_M_bounded := gd 1777 (by decide +kernel) rfl
def m_M_costsOf : MR := (⟨"SubgraphDeskModel", "costsOf", "(II)I"⟩, prog_14_method_70_code, 3, (some .int))
theorem cf_M_costsOf : CF m_M_costsOf 2 := ⟨gd 1756 (by decide +kernel) rfl, gd 151 (by decide +kernel) rfl, by decide +kernel, by decide, by decide +kernel⟩
theorem cv_M_costsOf : CV m_M_costsOf := ⟨gd 1755 (by decide +kernel) rfl, gd 65 (by decide +kernel) rfl⟩
def m_M_lay : MR := (⟨"SubgraphDeskModel", "lay", "(III)I"⟩, prog_14_method_28_code, 4, (some .int))
theorem cf_M_lay : CF m_M_lay 3 := ⟨gd 1752 (by decide +kernel) rfl, gd 151 (by decide +kernel) rfl, by decide +kernel, by decide, by decide +kernel⟩
theorem cv_M_lay : CV m_M_lay := ⟨gd 1750 (by decide +kernel) rfl, gd 1751 (by decide +kernel) rfl⟩
def m_M_mayLie : MR := (⟨"SubgraphDeskModel", "mayLie", "(II)Z"⟩, prog_14_method_71_code, 3, (some .boolean))
theorem cf_M_mayLie : CF m_M_mayLie 2 := ⟨gd 1782 (by decide +kernel) rfl, gd 151 (by decide +kernel) rfl, by decide +kernel, by decide, by decide +kernel⟩
theorem cv_M_mayLie : CV m_M_mayLie := ⟨gd 1781 (by decide +kernel) rfl, gd 70 (by decide +kernel) rfl⟩
theorem d_M_bounded_0 : Dc prog_14_method_5_code 0 (.lload_n 0) 1 1 := ⟨by decide +kernel, rfl⟩
theorem d_M_bounded_1 : Dc prog_14_method_5_code 1 (.iload_n 2) 1 2 := ⟨by decide +kernel, rfl⟩
theorem d_M_bounded_2 : Dc prog_14_method_5_code 2 (.i2l) 1 3 := ⟨by decide +kernel, rfl⟩
theorem d_M_bounded_3 : Dc prog_14_method_5_code 3 (.lcmp) 1 4 := ⟨by decide +kernel, rfl⟩
theorem d_M_bounded_4 : Dj prog_14_method_5_code 4 (.ifCond .ge 7) 7 7 11 := ⟨by decide +kernel, rfl, rfl⟩
theorem d_M_bounded_7 : Dc prog_14_method_5_code 7 (.iload_n 2) 1 8 := ⟨by decide +kernel, rfl⟩
theorem d_M_bounded_8 : Dj prog_14_method_5_code 8 (.goto 16) 11 16 24 := ⟨by decide +kernel, rfl, rfl⟩
theorem d_M_bounded_11 : Dc prog_14_method_5_code 11 (.lload_n 0) 1 12 := ⟨by decide +kernel, rfl⟩
theorem d_M_bounded_12 : Dc prog_14_method_5_code 12 (.iload_n 3) 1 13 := ⟨by decide +kernel, rfl⟩
theorem d_M_bounded_13 : Dc prog_14_method_5_code 13 (.i2l) 1 14 := ⟨by decide +kernel, rfl⟩
theorem d_M_bounded_14 : Dc prog_14_method_5_code 14 (.lcmp) 1 15 := ⟨by decide +kernel, rfl⟩
theorem d_M_bounded_15 : Dj prog_14_method_5_code 15 (.ifCond .le 7) 18 7 22 := ⟨by decide +kernel, rfl, rfl⟩
theorem d_M_bounded_18 : Dc prog_14_method_5_code 18 (.iload_n 3) 1 19 := ⟨by decide +kernel, rfl⟩
theorem d_M_bounded_19 : Dj prog_14_method_5_code 19 (.goto 5) 22 5 24 := ⟨by decide +kernel, rfl, rfl⟩
theorem d_M_bounded_22 : Dc prog_14_method_5_code 22 (.lload_n 0) 1 23 := ⟨by decide +kernel, rfl⟩
theorem d_M_bounded_23 : Dc prog_14_method_5_code 23 (.l2i) 1 24 := ⟨by decide +kernel, rfl⟩
theorem d_M_bounded_24 : Dc prog_14_method_5_code 24 (.ireturn) 1 25 := ⟨by decide +kernel, rfl⟩
theorem d_M_costsOf_0 : Dc prog_14_method_70_code 0 (.aload_n 0) 1 1 := ⟨by decide +kernel, rfl⟩
theorem d_M_costsOf_1 : Dc prog_14_method_70_code 1 (.iconst 0) 1 2 := ⟨by decide +kernel, rfl⟩
theorem d_M_costsOf_2 : Dc prog_14_method_70_code 2 (.iload_n 1) 1 3 := ⟨by decide +kernel, rfl⟩
theorem d_M_costsOf_3 : Dc prog_14_method_70_code 3 (.iload_n 2) 1 4 := ⟨by decide +kernel, rfl⟩
theorem d_M_costsOf_4 : Dc prog_14_method_70_code 4 (.lconst 1) 1 5 := ⟨by decide +kernel, rfl⟩
theorem d_M_costsOf_5 : Dc prog_14_method_70_code 5 (.invokevirtual 435) 3 8 := ⟨by decide +kernel, rfl⟩
theorem d_M_costsOf_8 : Dc prog_14_method_70_code 8 (.iconst 0) 1 9 := ⟨by decide +kernel, rfl⟩
theorem d_M_costsOf_9 : Dc prog_14_method_70_code 9 (.bipush 99) 2 11 := ⟨by decide +kernel, rfl⟩
theorem d_M_costsOf_11 : Dc prog_14_method_70_code 11 (.invokestatic 439) 3 14 := ⟨by decide +kernel, rfl⟩
theorem d_M_costsOf_14 : Dc prog_14_method_70_code 14 (.ireturn) 1 15 := ⟨by decide +kernel, rfl⟩
theorem d_M_lay_0 : Dc prog_14_method_28_code 0 (.aload_n 0) 1 1 := ⟨by decide +kernel, rfl⟩
theorem d_M_lay_1 : Dc prog_14_method_28_code 1 (.iconst 0) 1 2 := ⟨by decide +kernel, rfl⟩
theorem d_M_lay_2 : Dc prog_14_method_28_code 2 (.putfield 170) 3 5 := ⟨by decide +kernel, rfl⟩
theorem d_M_lay_5 : Dc prog_14_method_28_code 5 (.aload_n 0) 1 6 := ⟨by decide +kernel, rfl⟩
theorem d_M_lay_6 : Dc prog_14_method_28_code 6 (.iload_n 1) 1 7 := ⟨by decide +kernel, rfl⟩
theorem d_M_lay_7 : Dc prog_14_method_28_code 7 (.invokevirtual 221) 3 10 := ⟨by decide +kernel, rfl⟩
theorem d_M_lay_10 : Dj prog_14_method_28_code 10 (.ifCond .eq 11) 13 11 21 := ⟨by decide +kernel, rfl, rfl⟩
theorem d_M_lay_13 : Dc prog_14_method_28_code 13 (.aload_n 0) 1 14 := ⟨by decide +kernel, rfl⟩
theorem d_M_lay_14 : Dc prog_14_method_28_code 14 (.iload_n 2) 1 15 := ⟨by decide +kernel, rfl⟩
theorem d_M_lay_15 : Dc prog_14_method_28_code 15 (.invokevirtual 214) 3 18 := ⟨by decide +kernel, rfl⟩
theorem d_M_lay_18 : Dj prog_14_method_28_code 18 (.ifCond .ne 5) 21 5 23 := ⟨by decide +kernel, rfl, rfl⟩
theorem d_M_lay_21 : Dc prog_14_method_28_code 21 (.iconst (-1)) 1 22 := ⟨by decide +kernel, rfl⟩
theorem d_M_lay_22 : Dc prog_14_method_28_code 22 (.ireturn) 1 23 := ⟨by decide +kernel, rfl⟩
theorem d_M_lay_23 : Dc prog_14_method_28_code 23 (.iload_n 3) 1 24 := ⟨by decide +kernel, rfl⟩
theorem d_M_lay_24 : Dj prog_14_method_28_code 24 (.ifCond .ne 12) 27 12 36 := ⟨by decide +kernel, rfl, rfl⟩
theorem d_M_lay_27 : Dc prog_14_method_28_code 27 (.aload_n 0) 1 28 := ⟨by decide +kernel, rfl⟩
theorem d_M_lay_28 : Dc prog_14_method_28_code 28 (.iload_n 1) 1 29 := ⟨by decide +kernel, rfl⟩
theorem d_M_lay_29 : Dc prog_14_method_28_code 29 (.iload_n 2) 1 30 := ⟨by decide +kernel, rfl⟩
theorem d_M_lay_30 : Dc prog_14_method_28_code 30 (.invokevirtual 227) 3 33 := ⟨by decide +kernel, rfl⟩
theorem d_M_lay_33 : Dj prog_14_method_28_code 33 (.goto 26) 36 26 59 := ⟨by decide +kernel, rfl, rfl⟩
theorem d_M_lay_36 : Dc prog_14_method_28_code 36 (.iload_n 3) 1 37 := ⟨by decide +kernel, rfl⟩
theorem d_M_lay_37 : Dc prog_14_method_28_code 37 (.iconst 1) 1 38 := ⟨by decide +kernel, rfl⟩
theorem d_M_lay_38 : Dj prog_14_method_28_code 38 (.if_icmp .ne 20) 41 20 58 := ⟨by decide +kernel, rfl, rfl⟩
theorem d_M_lay_41 : Dc prog_14_method_28_code 41 (.aload_n 0) 1 42 := ⟨by decide +kernel, rfl⟩
theorem d_M_lay_42 : Dc prog_14_method_28_code 42 (.iload_n 1) 1 43 := ⟨by decide +kernel, rfl⟩
theorem d_M_lay_43 : Dc prog_14_method_28_code 43 (.iload_n 2) 1 44 := ⟨by decide +kernel, rfl⟩
theorem d_M_lay_44 : Dc prog_14_method_28_code 44 (.invokevirtual 230) 3 47 := ⟨by decide +kernel, rfl⟩
theorem d_M_lay_47 : Dj prog_14_method_28_code 47 (.ifCond .eq 7) 50 7 54 := ⟨by decide +kernel, rfl, rfl⟩
theorem d_M_lay_50 : Dc prog_14_method_28_code 50 (.iconst 1) 1 51 := ⟨by decide +kernel, rfl⟩
theorem d_M_lay_51 : Dj prog_14_method_28_code 51 (.goto 8) 54 8 59 := ⟨by decide +kernel, rfl, rfl⟩
theorem d_M_lay_54 : Dc prog_14_method_28_code 54 (.iconst 0) 1 55 := ⟨by decide +kernel, rfl⟩
theorem d_M_lay_55 : Dj prog_14_method_28_code 55 (.goto 4) 58 4 59 := ⟨by decide +kernel, rfl, rfl⟩
theorem d_M_lay_58 : Dc prog_14_method_28_code 58 (.iconst (-1)) 1 59 := ⟨by decide +kernel, rfl⟩
theorem d_M_lay_59 : Dc prog_14_method_28_code 59 (.ireturn) 1 60 := ⟨by decide +kernel, rfl⟩
theorem d_M_mayLie_0 : Dc prog_14_method_71_code 0 (.aload_n 0) 1 1 := ⟨by decide +kernel, rfl⟩
theorem d_M_mayLie_1 : Dc prog_14_method_71_code 1 (.getfield 13) 3 4 := ⟨by decide +kernel, rfl⟩
theorem d_M_mayLie_4 : Dc prog_14_method_71_code 4 (.bipush 21) 2 6 := ⟨by decide +kernel, rfl⟩
theorem d_M_mayLie_6 : Dc prog_14_method_71_code 6 (.iload_n 1) 1 7 := ⟨by decide +kernel, rfl⟩
theorem d_M_mayLie_7 : Dc prog_14_method_71_code 7 (.iadd) 1 8 := ⟨by decide +kernel, rfl⟩
theorem d_M_mayLie_8 : Dc prog_14_method_71_code 8 (.iaload) 1 9 := ⟨by decide +kernel, rfl⟩
theorem d_M_mayLie_9 : Dc prog_14_method_71_code 9 (.bipush 6) 2 11 := ⟨by decide +kernel, rfl⟩
theorem d_M_mayLie_11 : Dj prog_14_method_71_code 11 (.if_icmp .eq 24) 14 24 35 := ⟨by decide +kernel, rfl, rfl⟩
theorem d_M_mayLie_14 : Dc prog_14_method_71_code 14 (.aload_n 0) 1 15 := ⟨by decide +kernel, rfl⟩
theorem d_M_mayLie_15 : Dc prog_14_method_71_code 15 (.getfield 13) 3 18 := ⟨by decide +kernel, rfl⟩
theorem d_M_mayLie_18 : Dc prog_14_method_71_code 18 (.bipush 21) 2 20 := ⟨by decide +kernel, rfl⟩
theorem d_M_mayLie_20 : Dc prog_14_method_71_code 20 (.iload_n 1) 1 21 := ⟨by decide +kernel, rfl⟩
theorem d_M_mayLie_21 : Dc prog_14_method_71_code 21 (.iadd) 1 22 := ⟨by decide +kernel, rfl⟩
theorem d_M_mayLie_22 : Dc prog_14_method_71_code 22 (.iaload) 1 23 := ⟨by decide +kernel, rfl⟩
theorem d_M_mayLie_23 : Dc prog_14_method_71_code 23 (.aload_n 0) 1 24 := ⟨by decide +kernel, rfl⟩
theorem d_M_mayLie_24 : Dc prog_14_method_71_code 24 (.getfield 13) 3 27 := ⟨by decide +kernel, rfl⟩
theorem d_M_mayLie_27 : Dc prog_14_method_71_code 27 (.bipush 9) 2 29 := ⟨by decide +kernel, rfl⟩
theorem d_M_mayLie_29 : Dc prog_14_method_71_code 29 (.iload_n 2) 1 30 := ⟨by decide +kernel, rfl⟩
theorem d_M_mayLie_30 : Dc prog_14_method_71_code 30 (.iadd) 1 31 := ⟨by decide +kernel, rfl⟩
theorem d_M_mayLie_31 : Dc prog_14_method_71_code 31 (.iaload) 1 32 := ⟨by decide +kernel, rfl⟩
theorem d_M_mayLie_32 : Dj prog_14_method_71_code 32 (.if_icmp .ne 20) 35 20 52 := ⟨by decide +kernel, rfl, rfl⟩
theorem d_M_mayLie_35 : Dc prog_14_method_71_code 35 (.aload_n 0) 1 36 := ⟨by decide +kernel, rfl⟩
theorem d_M_mayLie_36 : Dc prog_14_method_71_code 36 (.iconst 1) 1 37 := ⟨by decide +kernel, rfl⟩
theorem d_M_mayLie_37 : Dc prog_14_method_71_code 37 (.iload_n 1) 1 38 := ⟨by decide +kernel, rfl⟩
theorem d_M_mayLie_38 : Dc prog_14_method_71_code 38 (.iload_n 2) 1 39 := ⟨by decide +kernel, rfl⟩
theorem d_M_mayLie_39 : Dc prog_14_method_71_code 39 (.lconst 0) 1 40 := ⟨by decide +kernel, rfl⟩
theorem d_M_mayLie_40 : Dc prog_14_method_71_code 40 (.invokevirtual 435) 3 43 := ⟨by decide +kernel, rfl⟩
theorem d_M_mayLie_43 : Dc prog_14_method_71_code 43 (.lconst 0) 1 44 := ⟨by decide +kernel, rfl⟩
theorem d_M_mayLie_44 : Dc prog_14_method_71_code 44 (.lcmp) 1 45 := ⟨by decide +kernel, rfl⟩
theorem d_M_mayLie_45 : Dj prog_14_method_71_code 45 (.ifCond .ne 7) 48 7 52 := ⟨by decide +kernel, rfl, rfl⟩
theorem d_M_mayLie_48 : Dc prog_14_method_71_code 48 (.iconst 1) 1 49 := ⟨by decide +kernel, rfl⟩
theorem d_M_mayLie_49 : Dj prog_14_method_71_code 49 (.goto 4) 52 4 53 := ⟨by decide +kernel, rfl, rfl⟩
theorem d_M_mayLie_52 : Dc prog_14_method_71_code 52 (.iconst 0) 1 53 := ⟨by decide +kernel, rfl⟩
theorem d_M_mayLie_53 : Dc prog_14_method_71_code 53 (.ireturn) 1 54 := ⟨by decide +kernel, rfl⟩
theorem ml_M_227 : Cond.methodLink "SubgraphDeskModel" 227 m_M_costsOf.1 ∈ lw_gd := gd 1753 (by decide +kernel) rfl
theorem ml_M_230 : Cond.methodLink "SubgraphDeskModel" 230 m_M_mayLie.1 ∈ lw_gd := gd 1779 (by decide +kernel) rfl
theorem ml_M_435 : Cond.methodLink "SubgraphDeskModel" 435 m_M_tells.1 ∈ lw_gd := gd 1757 (by decide +kernel) rfl
theorem ml_M_439 : Cond.methodLink "SubgraphDeskModel" 439 m_M_bounded.1 ∈ lw_gd := gd 1776 (by decide +kernel) rfl
def clampN (z : Int) (b : Nat) : Nat := if z < 0 then 0 else if (b : Int) < z then b else z.toNat
/-- what a vertex costs at a node, and whether it may lie there -/
def gCost (g : GC) (v n : Nat) : Nat := clampN (gTell g 0 v n 1) 99
def gMay (g : GC) (v n : Nat) : Bool := (decide (gY g v = 6) || decide (gY g v = gC g n)) && decide (gTell g 1 v n 0 = 0)
theorem clampN_le (z : Int) (b : Nat) : clampN z b ≤ b := by
  unfold clampN
  split
  · omega
  · split <;> omega
theorem gCost_le (g : GC) (v n : Nat) : gCost g v n ≤ 99 := clampN_le _ _
theorem may_iff {g : GC} {v n : Nat} : gMay g v n = true ↔ (gY g v = 6 ∨ gY g v = gC g n) ∧ gTell g 1 v n 0 = 0 := by
  unfold gMay
  rw [Bool.and_eq_true, Bool.or_eq_true, decide_eq_true_iff, decide_eq_true_iff, decide_eq_true_iff]
noncomputable def opLay (v n what : Int32) (g : GC) : Int32 := by
  classical
  exact if ¬ (inN v (gV g) ∧ inN n (gN g)) then -1 else if what = 0 then nI (gCost g (tn v) (tn n)) else if what = 1 then b2i (gMay g (tn v) (tn n) = true) else -1
theorem lay_no {v n what : Int32} {g : GC} (h : ¬ (inN v (gV g) ∧ inN n (gN g))) : opLay v n what g = -1 := by unfold opLay; exact if_pos h
theorem lay_0 {v n : Nat} {what : Int32} {g : GC} (h : inN (nI v) (gV g) ∧ inN (nI n) (gN g)) (hv : tn (nI v) = v) (hn : tn (nI n) = n) (h0 : what = 0) : opLay (nI v) (nI n) what g = nI (gCost g v n) := by
  unfold opLay
  refine (if_neg (not_not_intro h)).trans ((if_pos h0).trans ?_)
  rw [hv, hn]
theorem lay_1 {v n : Nat} {what : Int32} {g : GC} (h : inN (nI v) (gV g) ∧ inN (nI n) (gN g)) (hv : tn (nI v) = v) (hn : tn (nI n) = n) (h0 : ¬ what = 0) (h1 : what = 1) : opLay (nI v) (nI n) what g = b2i (gMay g v n = true) := by
  unfold opLay
  refine (if_neg (not_not_intro h)).trans ((if_neg h0).trans ((if_pos h1).trans ?_))
  rw [hv, hn]
theorem lay_2 {v n : Nat} {what : Int32} {g : GC} (h : inN (nI v) (gV g) ∧ inN (nI n) (gN g)) (h0 : ¬ what = 0) (h1 : ¬ what = 1) : opLay (nI v) (nI n) what g = -1 := by
  unfold opLay
  exact (if_neg (not_not_intro h)).trans ((if_neg h0).trans (if_neg h1))
theorem c_M_bounded {E : EV} {w : Mem} {z : Int} {b : Nat} (hz : bd z) (hb : b < 1000) : T E m_M_bounded 0 0 0 [.long (lI z), .int (nI 0), .int (nI b)] w (Ret (some (.int (nI (clampN z b)))) w) := by
  refine T_of (L := [.long (lI z), un, .int (nI 0), .int (nI b)]) cf_M_bounded rfl (Nat.le_of_ble_eq_true rfl) (fun X hX hF => ?_)
  refine g_lload0 hX d_M_bounded_0 ?_
  refine g_iload2 hX d_M_bounded_1 ?_
  refine g_i2l hX d_M_bounded_2 ?_
  refine g_topl (nI_l (by decide)) ?_
  refine g_lcmp_ge hX d_M_bounded_3 d_M_bounded_4 (fun e4 => ?_) (fun e4 => ?_)
  · have e4 : ¬ z < 0 := fun y => by
      rw [show lN 0 = lI 0 from rfl, lI_le (by omega) (by omega)] at e4
      omega
    refine g_lload0 hX d_M_bounded_11 ?_
    refine g_iload3 hX d_M_bounded_12 ?_
    refine g_i2l hX d_M_bounded_13 ?_
    refine g_topl ((nI_l (by omega)).trans (lI_nat b)) ?_
    refine g_lcmp_le hX d_M_bounded_14 d_M_bounded_15 (fun e15 => ?_) (fun e15 => ?_)
    · have e15 : ¬ (b : Int) < z := by
        rw [lI_le (by omega) (by omega)] at e15
        omega
      refine g_lload0 hX d_M_bounded_22 ?_
      refine g_l2i hX d_M_bounded_23 ?_
      refine g_topi (y := nI z.toNat) (by rw [show lI z = lN z.toNat from congrArg lI (Int.toNat_of_nonneg (by omega)).symm]; exact lN_i _) ?_
      refine g_iret hX hF d_M_bounded_24 (by omega) (by omega) ?_
      first
        | exact ⟨by unfold clampN; rw [if_pos e4], rfl⟩
        | exact ⟨by unfold clampN; rw [if_neg e4, if_pos e15], rfl⟩
        | exact ⟨by unfold clampN; rw [if_neg e4, if_neg e15], rfl⟩
    · have e15 : (b : Int) < z := by
        rw [lI_le (by omega) (by omega)] at e15
        omega
      refine g_iload3 hX d_M_bounded_18 ?_
      refine g_goto hX d_M_bounded_19 ?_
      refine g_iret hX hF d_M_bounded_24 (by omega) (by omega) ?_
      first
        | exact ⟨by unfold clampN; rw [if_pos e4], rfl⟩
        | exact ⟨by unfold clampN; rw [if_neg e4, if_pos e15], rfl⟩
        | exact ⟨by unfold clampN; rw [if_neg e4, if_neg e15], rfl⟩
  · have e4 : z < 0 := by
      rw [show lN 0 = lI 0 from rfl, lI_le (by omega) (by omega)] at e4
      omega
    refine g_iload2 hX d_M_bounded_7 ?_
    refine g_goto hX d_M_bounded_8 ?_
    refine g_iret hX hF d_M_bounded_24 (by omega) (by omega) ?_
    first
      | exact ⟨by unfold clampN; rw [if_pos e4], rfl⟩
      | exact ⟨by unfold clampN; rw [if_neg e4, if_pos e15], rfl⟩
      | exact ⟨by unfold clampN; rw [if_neg e4, if_neg e15], rfl⟩
theorem c_M_costsOf {E : EV} {w : Mem} {g : GC} (hR : MRow (rI w 91) g) (hL : MLaws (rI w 91) (gL g)) (hW : WG g) (hOr : rI w 89 20 = nI 0) {v n : Nat} (hv : v < gV g) (hn : n < gN g) : T E m_M_costsOf 4 0 0 [.ref 89, .int (nI v), .int (nI n)] w (fun r w2 => r = some (.int (nI (gCost g v n))) ∧ FrT w w2) := by
  refine T_of (L := [.ref 89, .int (nI v), .int (nI n)]) cf_M_costsOf rfl (Nat.le_of_ble_eq_true rfl) (fun X hX hF => ?_)
  have hgn := hW.n
  have hgv := hW.v
  have hgc := hW.c n hn
  have hgy := hW.y v hv
  refine g_aload0 hX d_M_costsOf_0 ?_
  refine g_iconst (v := nI 0) hX d_M_costsOf_1 rfl ?_
  refine g_iload1 hX d_M_costsOf_2 ?_
  refine g_iload2 hX d_M_costsOf_3 ?_
  refine g_lconst (v := lN 1) hX d_M_costsOf_4 rfl ?_
  refine g_callV (As := [_, _, _, _]) hX hF.1 d_M_costsOf_5 ml_M_435 cf_M_tells cv_M_tells rfl rfl (c_M_tells (kd := 0) (d := 1) hR hL hW hOr hv hn (by decide) (by omega)) (rcv_obj hX (lv_89 _) rfl rfl) (by omega) (by omega) (by omega) (Nat.le_of_ble_eq_true rfl) ?_
  rintro _ w2 ⟨rfl, hbd, hT⟩
  show G0 _ _ _ _ _ _ _ _
  refine g_iconst (v := nI 0) hX d_M_costsOf_8 rfl ?_
  refine g_bipush (v := nI 99) hX d_M_costsOf_9 rfl ?_
  refine g_callS (As := [_, _, _]) hX hF.1 d_M_costsOf_11 ml_M_439 cf_M_bounded cs_M_bounded rfl (c_M_bounded hbd (by decide)) (by omega) (by omega) (by omega) (Nat.le_of_ble_eq_true rfl) ?_
  refine ret_k ?_
  refine g_iret hX hF d_M_costsOf_14 (by omega) (by omega) ?_
  exact ⟨rfl, hT⟩
theorem c_M_mayLie {E : EV} {w : Mem} {g : GC} (hR : MRow (rI w 91) g) (hL : MLaws (rI w 91) (gL g)) (hW : WG g) (hOr : rI w 89 20 = nI 0) {v n : Nat} (hv : v < gV g) (hn : n < gN g) : T E m_M_mayLie 4 0 0 [.ref 89, .int (nI v), .int (nI n)] w (fun r w2 => r = some (.int (b2i (gMay g v n = true))) ∧ FrT w w2) := by
  refine T_of (L := [.ref 89, .int (nI v), .int (nI n)]) cf_M_mayLie rfl (Nat.le_of_ble_eq_true rfl) (fun X hX hF => ?_)
  have hgn := hW.n
  have hgv := hW.v
  have hgc := hW.c n hn
  have hgy := hW.y v hv
  refine g_aload0 hX d_M_mayLie_0 ?_
  refine g_getF hX d_M_mayLie_1 fl_M_13 (lv_89 _) ?_
  refine g_bipush (v := nI 21) hX d_M_mayLie_4 rfl ?_
  refine g_iload1 hX d_M_mayLie_6 ?_
  refine g_iaddN hX d_M_mayLie_7 ?_
  refine g_iald hX d_M_mayLie_8 (lv_91 _) rfl (by omega) ?_
  refine g_topi (hR.y v hv) ?_
  refine g_bipush (v := nI 6) hX d_M_mayLie_9 rfl ?_
  refine g_icmpN_eq hX d_M_mayLie_11 (by omega) (by omega) (fun e11 => ?_) (fun e11 => ?_)
  · refine g_aload0 hX d_M_mayLie_35 ?_
    refine g_iconst (v := nI 1) hX d_M_mayLie_36 rfl ?_
    refine g_iload1 hX d_M_mayLie_37 ?_
    refine g_iload2 hX d_M_mayLie_38 ?_
    refine g_lconst (v := lN 0) hX d_M_mayLie_39 rfl ?_
    refine g_callV (As := [_, _, _, _]) hX hF.1 d_M_mayLie_40 ml_M_435 cf_M_tells cv_M_tells rfl rfl (c_M_tells (kd := 1) (d := 0) hR hL hW hOr hv hn (by decide) (by omega)) (rcv_obj hX (lv_89 _) rfl rfl) (by omega) (by omega) (by omega) (Nat.le_of_ble_eq_true rfl) ?_
    rintro _ w2 ⟨rfl, hbd, hT⟩
    show G0 _ _ _ _ _ _ _ _
    refine g_lconst (v := lN 0) hX d_M_mayLie_43 rfl ?_
    refine g_lcmp_ne hX d_M_mayLie_44 d_M_mayLie_45 (fun e45 => ?_) (fun e45 => ?_)
    · have e45 : ¬ gTell g 1 v n 0 = 0 := fun z => e45 (by rw [z]; rfl)
      refine g_iconst (v := nI 0) hX d_M_mayLie_52 rfl ?_
      refine g_zret hX hF d_M_mayLie_53 (Or.inl rfl) (by omega) (by omega) ?_
      first
        | exact ⟨by rw [b2i_t (may_iff.mpr ⟨by first | exact Or.inl e11 | exact Or.inr e32, e45⟩)]; rfl, hT⟩
        | exact ⟨by rw [b2i_f (fun z => e45 (may_iff.mp z).2)]; rfl, hT⟩
        | exact ⟨by rw [b2i_f (fun z => by have := (may_iff.mp z).1; omega)]; rfl, FrT.rf _⟩
    · have e45 : gTell g 1 v n 0 = 0 := (lI_eq (b := 0) (by omega) (by omega)).mp e45
      refine g_iconst (v := nI 1) hX d_M_mayLie_48 rfl ?_
      refine g_goto hX d_M_mayLie_49 ?_
      refine g_zret hX hF d_M_mayLie_53 (Or.inr rfl) (by omega) (by omega) ?_
      first
        | exact ⟨by rw [b2i_t (may_iff.mpr ⟨by first | exact Or.inl e11 | exact Or.inr e32, e45⟩)]; rfl, hT⟩
        | exact ⟨by rw [b2i_f (fun z => e45 (may_iff.mp z).2)]; rfl, hT⟩
        | exact ⟨by rw [b2i_f (fun z => by have := (may_iff.mp z).1; omega)]; rfl, FrT.rf _⟩
  · refine g_aload0 hX d_M_mayLie_14 ?_
    refine g_getF hX d_M_mayLie_15 fl_M_13 (lv_89 _) ?_
    refine g_bipush (v := nI 21) hX d_M_mayLie_18 rfl ?_
    refine g_iload1 hX d_M_mayLie_20 ?_
    refine g_iaddN hX d_M_mayLie_21 ?_
    refine g_iald hX d_M_mayLie_22 (lv_91 _) rfl (by omega) ?_
    refine g_topi (hR.y v hv) ?_
    refine g_aload0 hX d_M_mayLie_23 ?_
    refine g_getF hX d_M_mayLie_24 fl_M_13 (lv_89 _) ?_
    refine g_bipush (v := nI 9) hX d_M_mayLie_27 rfl ?_
    refine g_iload2 hX d_M_mayLie_29 ?_
    refine g_iaddN hX d_M_mayLie_30 ?_
    refine g_iald hX d_M_mayLie_31 (lv_91 _) rfl (by omega) ?_
    refine g_topi (hR.c n hn) ?_
    refine g_icmpN_ne hX d_M_mayLie_32 (by omega) (by omega) (fun e32 => ?_) (fun e32 => ?_)
    · refine g_iconst (v := nI 0) hX d_M_mayLie_52 rfl ?_
      refine g_zret hX hF d_M_mayLie_53 (Or.inl rfl) (by omega) (by omega) ?_
      first
        | exact ⟨by rw [b2i_t (may_iff.mpr ⟨by first | exact Or.inl e11 | exact Or.inr e32, e45⟩)]; rfl, hT⟩
        | exact ⟨by rw [b2i_f (fun z => e45 (may_iff.mp z).2)]; rfl, hT⟩
        | exact ⟨by rw [b2i_f (fun z => by have := (may_iff.mp z).1; omega)]; rfl, FrT.rf _⟩
    · refine g_aload0 hX d_M_mayLie_35 ?_
      refine g_iconst (v := nI 1) hX d_M_mayLie_36 rfl ?_
      refine g_iload1 hX d_M_mayLie_37 ?_
      refine g_iload2 hX d_M_mayLie_38 ?_
      refine g_lconst (v := lN 0) hX d_M_mayLie_39 rfl ?_
      refine g_callV (As := [_, _, _, _]) hX hF.1 d_M_mayLie_40 ml_M_435 cf_M_tells cv_M_tells rfl rfl (c_M_tells (kd := 1) (d := 0) hR hL hW hOr hv hn (by decide) (by omega)) (rcv_obj hX (lv_89 _) rfl rfl) (by omega) (by omega) (by omega) (Nat.le_of_ble_eq_true rfl) ?_
      rintro _ w2 ⟨rfl, hbd, hT⟩
      show G0 _ _ _ _ _ _ _ _
      refine g_lconst (v := lN 0) hX d_M_mayLie_43 rfl ?_
      refine g_lcmp_ne hX d_M_mayLie_44 d_M_mayLie_45 (fun e45 => ?_) (fun e45 => ?_)
      · have e45 : ¬ gTell g 1 v n 0 = 0 := fun z => e45 (by rw [z]; rfl)
        refine g_iconst (v := nI 0) hX d_M_mayLie_52 rfl ?_
        refine g_zret hX hF d_M_mayLie_53 (Or.inl rfl) (by omega) (by omega) ?_
        first
          | exact ⟨by rw [b2i_t (may_iff.mpr ⟨by first | exact Or.inl e11 | exact Or.inr e32, e45⟩)]; rfl, hT⟩
          | exact ⟨by rw [b2i_f (fun z => e45 (may_iff.mp z).2)]; rfl, hT⟩
          | exact ⟨by rw [b2i_f (fun z => by have := (may_iff.mp z).1; omega)]; rfl, FrT.rf _⟩
      · have e45 : gTell g 1 v n 0 = 0 := (lI_eq (b := 0) (by omega) (by omega)).mp e45
        refine g_iconst (v := nI 1) hX d_M_mayLie_48 rfl ?_
        refine g_goto hX d_M_mayLie_49 ?_
        refine g_zret hX hF d_M_mayLie_53 (Or.inr rfl) (by omega) (by omega) ?_
        first
          | exact ⟨by rw [b2i_t (may_iff.mpr ⟨by first | exact Or.inl e11 | exact Or.inr e32, e45⟩)]; rfl, hT⟩
          | exact ⟨by rw [b2i_f (fun z => e45 (may_iff.mp z).2)]; rfl, hT⟩
          | exact ⟨by rw [b2i_f (fun z => by have := (may_iff.mp z).1; omega)]; rfl, FrT.rf _⟩
theorem c_M_lay {E : EV} {w : Mem} {v n what : Int32} {s : SG} (h : MInv w s) : T E m_M_lay 5 0 0 [.ref 89, .int v, .int n, .int what] w (fun r w2 => r = some (.int (opLay v n what (sG s))) ∧ MInv w2 s ∧ FrM w w2) := by
  refine T_of (L := [.ref 89, .int v, .int n, .int what]) cf_M_lay rfl (Nat.le_of_ble_eq_true rfl) (fun X hX hF => ?_)
  obtain ⟨⟨hR, hL, hW⟩, hU, hT, hI, hRf, hSt, hFa, hSm, hSp, hDr, hOr⟩ := id h
  have hn := hW.n
  have hv := hW.v
  have he := hW.el
  refine g_aload0 hX d_M_lay_0 ?_
  refine g_iconst (v := nI 0) hX d_M_lay_1 rfl ?_
  refine g_putI hX d_M_lay_2 fl_M_170 (lv_89 _) ?_
  refine g_aload0 hX d_M_lay_5 ?_
  refine g_iload1 hX d_M_lay_6 ?_
  refine g_callV (As := [_]) hX hF.1 d_M_lay_7 ml_M_221 cf_M_isVertex cv_M_isVertex rfl rfl (c_M_isVertex hR hW) (rcv_obj hX (lv_89 _) rfl rfl) (by omega) (by omega) (by omega) (Nat.le_of_ble_eq_true rfl) ?_
  refine ret_k ?_
  refine g_ifB_eq hX d_M_lay_10 (fun e10 => ?_) (fun e10 => ?_)
  · refine g_iconst (v := -1) hX d_M_lay_21 rfl ?_
    refine g_iret hX hF d_M_lay_22 (by omega) (by omega) ?_
    refine ⟨?_, h.keep (by repeat (first | exact Scr.rf _ | refine Scr.I9 (by decide) ?_ | refine Scr.I (by decide) ?_ | refine Scr.A (by decide) ?_ | refine Scr.J9 ?_ | refine Scr.J (by decide) ?_ | refine Scr.B (by decide) ?_)), (by repeat (first | exact FrM.rf _ | refine FrM.I (by decide) ?_ | refine FrM.A (by decide) ?_ | refine FrM.B (by decide) ?_ | refine FrM.J9 ?_ | refine FrM.J (by decide) ?_))⟩
    rw [lay_no (by first | exact fun z => e10 z.1 | exact fun z => e18 z.2)]
  · obtain ⟨jv, hjv, rfl, htv⟩ := inN_of e10 (by omega)
    refine g_aload0 hX d_M_lay_13 ?_
    refine g_iload2 hX d_M_lay_14 ?_
    refine g_callV (As := [_]) hX hF.1 d_M_lay_15 ml_M_214 cf_M_isNode cv_M_isNode rfl rfl (c_M_isNode hR hW) (rcv_obj hX (lv_89 _) rfl rfl) (by omega) (by omega) (by omega) (Nat.le_of_ble_eq_true rfl) ?_
    refine ret_k ?_
    refine g_ifB_ne hX d_M_lay_18 (fun e18 => ?_) (fun e18 => ?_)
    · obtain ⟨jn, hjn, rfl, htn⟩ := inN_of e18 (by omega)
      have hR2 : MRow (rI (sI w 89 0 (nI 0)) 91) (sG s) := hR
      have hL2 : MLaws (rI (sI w 89 0 (nI 0)) 91) (gL (sG s)) := hL
      have hOr2 : rI (sI w 89 0 (nI 0)) 89 20 = nI 0 := hOr
      refine g_iload3 hX d_M_lay_23 ?_
      refine g_if_ne hX d_M_lay_24 (fun e24 => ?_) (fun e24 => ?_)
      · refine g_iload3 hX d_M_lay_36 ?_
        refine g_iconst (v := nI 1) hX d_M_lay_37 rfl ?_
        refine g_icmp_ne hX d_M_lay_38 (fun e38 => ?_) (fun e38 => ?_)
        · refine g_iconst (v := -1) hX d_M_lay_58 rfl ?_
          refine g_iret hX hF d_M_lay_59 (by omega) (by omega) ?_
          refine ⟨?_, h.keep (by repeat (first | exact Scr.rf _ | refine Scr.I9 (by decide) ?_ | refine Scr.I (by decide) ?_ | refine Scr.A (by decide) ?_ | refine Scr.J9 ?_ | refine Scr.J (by decide) ?_ | refine Scr.B (by decide) ?_)), (by repeat (first | exact FrM.rf _ | refine FrM.I (by decide) ?_ | refine FrM.A (by decide) ?_ | refine FrM.B (by decide) ?_ | refine FrM.J9 ?_ | refine FrM.J (by decide) ?_))⟩
          exact congrArg (fun z => some (Value.int z)) (lay_2 ⟨e10, e18⟩ e24 e38).symm
        · refine g_aload0 hX d_M_lay_41 ?_
          refine g_iload1 hX d_M_lay_42 ?_
          refine g_iload2 hX d_M_lay_43 ?_
          refine g_callV (As := [_, _]) hX hF.1 d_M_lay_44 ml_M_230 cf_M_mayLie cv_M_mayLie rfl rfl (c_M_mayLie (w := sI w 89 0 (nI 0)) (g := sG s) hR2 hL2 hW hOr2 hjv hjn) (rcv_obj hX (lv_89 _) rfl rfl) (by omega) (by omega) (by omega) (Nat.le_of_ble_eq_true rfl) ?_
          rintro _ w2 ⟨rfl, hT⟩
          show G0 _ _ _ _ _ _ _ _
          refine g_ifB_eq hX d_M_lay_47 (fun e47 => ?_) (fun e47 => ?_)
          · refine g_iconst (v := nI 0) hX d_M_lay_54 rfl ?_
            refine g_goto hX d_M_lay_55 ?_
            refine g_iret hX hF d_M_lay_59 (by omega) (by omega) ?_
            first
              | (refine ⟨?_, h.keep (Scr.tr (Scr.I9 (by decide) (Scr.rf w)) hT.S), FrM.tr (by repeat (first | exact FrM.rf _ | refine FrM.I (by decide) ?_ | refine FrM.A (by decide) ?_ | refine FrM.B (by decide) ?_ | refine FrM.J9 ?_ | refine FrM.J (by decide) ?_)) hT.M⟩
                 exact congrArg (fun z => some (Value.int z)) ((lay_1 ⟨e10, e18⟩ htv htn e24 e38).trans (b2i_t e47)).symm)
              | (refine ⟨?_, h.keep (Scr.tr (Scr.I9 (by decide) (Scr.rf w)) hT.S), FrM.tr (by repeat (first | exact FrM.rf _ | refine FrM.I (by decide) ?_ | refine FrM.A (by decide) ?_ | refine FrM.B (by decide) ?_ | refine FrM.J9 ?_ | refine FrM.J (by decide) ?_)) hT.M⟩
                 exact congrArg (fun z => some (Value.int z)) ((lay_1 ⟨e10, e18⟩ htv htn e24 e38).trans (b2i_f e47)).symm)
          · refine g_iconst (v := nI 1) hX d_M_lay_50 rfl ?_
            refine g_goto hX d_M_lay_51 ?_
            refine g_iret hX hF d_M_lay_59 (by omega) (by omega) ?_
            first
              | (refine ⟨?_, h.keep (Scr.tr (Scr.I9 (by decide) (Scr.rf w)) hT.S), FrM.tr (by repeat (first | exact FrM.rf _ | refine FrM.I (by decide) ?_ | refine FrM.A (by decide) ?_ | refine FrM.B (by decide) ?_ | refine FrM.J9 ?_ | refine FrM.J (by decide) ?_)) hT.M⟩
                 exact congrArg (fun z => some (Value.int z)) ((lay_1 ⟨e10, e18⟩ htv htn e24 e38).trans (b2i_t e47)).symm)
              | (refine ⟨?_, h.keep (Scr.tr (Scr.I9 (by decide) (Scr.rf w)) hT.S), FrM.tr (by repeat (first | exact FrM.rf _ | refine FrM.I (by decide) ?_ | refine FrM.A (by decide) ?_ | refine FrM.B (by decide) ?_ | refine FrM.J9 ?_ | refine FrM.J (by decide) ?_)) hT.M⟩
                 exact congrArg (fun z => some (Value.int z)) ((lay_1 ⟨e10, e18⟩ htv htn e24 e38).trans (b2i_f e47)).symm)
      · refine g_aload0 hX d_M_lay_27 ?_
        refine g_iload1 hX d_M_lay_28 ?_
        refine g_iload2 hX d_M_lay_29 ?_
        refine g_callV (As := [_, _]) hX hF.1 d_M_lay_30 ml_M_227 cf_M_costsOf cv_M_costsOf rfl rfl (c_M_costsOf (w := sI w 89 0 (nI 0)) (g := sG s) hR2 hL2 hW hOr2 hjv hjn) (rcv_obj hX (lv_89 _) rfl rfl) (by omega) (by omega) (by omega) (Nat.le_of_ble_eq_true rfl) ?_
        rintro _ w2 ⟨rfl, hT⟩
        show G0 _ _ _ _ _ _ _ _
        refine g_goto hX d_M_lay_33 ?_
        refine g_iret hX hF d_M_lay_59 (by omega) (by omega) ?_
        refine ⟨?_, h.keep (Scr.tr (Scr.I9 (by decide) (Scr.rf w)) hT.S), FrM.tr (by repeat (first | exact FrM.rf _ | refine FrM.I (by decide) ?_ | refine FrM.A (by decide) ?_ | refine FrM.B (by decide) ?_ | refine FrM.J9 ?_ | refine FrM.J (by decide) ?_)) hT.M⟩
        exact congrArg (fun z => some (Value.int z)) (lay_0 ⟨e10, e18⟩ htv htn e24).symm
    · refine g_iconst (v := -1) hX d_M_lay_21 rfl ?_
      refine g_iret hX hF d_M_lay_22 (by omega) (by omega) ?_
      refine ⟨?_, h.keep (by repeat (first | exact Scr.rf _ | refine Scr.I9 (by decide) ?_ | refine Scr.I (by decide) ?_ | refine Scr.A (by decide) ?_ | refine Scr.J9 ?_ | refine Scr.J (by decide) ?_ | refine Scr.B (by decide) ?_)), (by repeat (first | exact FrM.rf _ | refine FrM.I (by decide) ?_ | refine FrM.A (by decide) ?_ | refine FrM.B (by decide) ?_ | refine FrM.J9 ?_ | refine FrM.J (by decide) ?_))⟩
      rw [lay_no (by first | exact fun z => e10 z.1 | exact fun z => e18 z.2)]
