def m_M_change : MR := (⟨"SubgraphDeskModel", "change", "(II)I"⟩, prog_14_method_8_code, 4, (some .int))
theorem cf_M_change : CF m_M_change 2 := ⟨gd 1797 (by decide +kernel) rfl, gd 151 (by decide +kernel) rfl, by decide +kernel, by decide, by decide +kernel⟩
theorem cv_M_change : CV m_M_change := ⟨gd 1796 (by decide +kernel) rfl, gd 71 (by decide +kernel) rfl⟩
def m_M_keepAll : MR := (⟨"SubgraphDeskModel", "keepAll", "(I)V"⟩, prog_14_method_10_code, 3, none)
theorem cf_M_keepAll : CF m_M_keepAll 1 := ⟨gd 1975 (by decide +kernel) rfl, gd 151 (by decide +kernel) rfl, by decide +kernel, by decide, by decide +kernel⟩
theorem cv_M_keepAll : CV m_M_keepAll := ⟨gd 1974 (by decide +kernel) rfl, gd 101 (by decide +kernel) rfl⟩
def m_M_lasting : MR := (⟨"SubgraphDeskModel", "lasting", "(I)I"⟩, prog_14_method_9_code, 2, (some .int))
theorem cf_M_lasting : CF m_M_lasting 1 := ⟨gd 1707 (by decide +kernel) rfl, gd 151 (by decide +kernel) rfl, by decide +kernel, by decide, by decide +kernel⟩
theorem cv_M_lasting : CV m_M_lasting := ⟨gd 1706 (by decide +kernel) rfl, gd 59 (by decide +kernel) rfl⟩
def m_M_putBack : MR := (⟨"SubgraphDeskModel", "putBack", "(I)V"⟩, prog_14_method_11_code, 3, none)
theorem cf_M_putBack : CF m_M_putBack 1 := ⟨gd 1692 (by decide +kernel) rfl, gd 151 (by decide +kernel) rfl, by decide +kernel, by decide, by decide +kernel⟩
theorem cv_M_putBack : CV m_M_putBack := ⟨gd 1691 (by decide +kernel) rfl, gd 58 (by decide +kernel) rfl⟩
def m_M_tell : MR := (⟨"SubgraphDeskModel", "tell", "(I)I"⟩, prog_14_method_7_code, 2, (some .int))
theorem cf_M_tell : CF m_M_tell 1 := ⟨gd 1688 (by decide +kernel) rfl, gd 151 (by decide +kernel) rfl, by decide +kernel, by decide, by decide +kernel⟩
theorem cv_M_tell : CV m_M_tell := ⟨gd 1687 (by decide +kernel) rfl, gd 57 (by decide +kernel) rfl⟩
theorem d_M_change_0 : Dc prog_14_method_8_code 0 (.aload_n 0) 1 1 := ⟨by decide +kernel, rfl⟩
theorem d_M_change_1 : Dc prog_14_method_8_code 1 (.getfield 13) 3 4 := ⟨by decide +kernel, rfl⟩
theorem d_M_change_4 : Dc prog_14_method_8_code 4 (.iload_n 1) 1 5 := ⟨by decide +kernel, rfl⟩
theorem d_M_change_5 : Dc prog_14_method_8_code 5 (.iaload) 1 6 := ⟨by decide +kernel, rfl⟩
theorem d_M_change_6 : Dc prog_14_method_8_code 6 (.istore_n 3) 1 7 := ⟨by decide +kernel, rfl⟩
theorem d_M_change_7 : Dc prog_14_method_8_code 7 (.aload_n 0) 1 8 := ⟨by decide +kernel, rfl⟩
theorem d_M_change_8 : Dc prog_14_method_8_code 8 (.getfield 13) 3 11 := ⟨by decide +kernel, rfl⟩
theorem d_M_change_11 : Dc prog_14_method_8_code 11 (.iload_n 1) 1 12 := ⟨by decide +kernel, rfl⟩
theorem d_M_change_12 : Dc prog_14_method_8_code 12 (.iload_n 2) 1 13 := ⟨by decide +kernel, rfl⟩
theorem d_M_change_13 : Dc prog_14_method_8_code 13 (.iastore) 1 14 := ⟨by decide +kernel, rfl⟩
theorem d_M_change_14 : Dc prog_14_method_8_code 14 (.aload_n 0) 1 15 := ⟨by decide +kernel, rfl⟩
theorem d_M_change_15 : Dc prog_14_method_8_code 15 (.iconst 0) 1 16 := ⟨by decide +kernel, rfl⟩
theorem d_M_change_16 : Dc prog_14_method_8_code 16 (.putfield 173) 3 19 := ⟨by decide +kernel, rfl⟩
theorem d_M_change_19 : Dc prog_14_method_8_code 19 (.iload_n 3) 1 20 := ⟨by decide +kernel, rfl⟩
theorem d_M_change_20 : Dc prog_14_method_8_code 20 (.ireturn) 1 21 := ⟨by decide +kernel, rfl⟩
theorem d_M_keepAll_0 : Dc prog_14_method_10_code 0 (.iconst 0) 1 1 := ⟨by decide +kernel, rfl⟩
theorem d_M_keepAll_1 : Dc prog_14_method_10_code 1 (.istore_n 2) 1 2 := ⟨by decide +kernel, rfl⟩
theorem d_M_keepAll_2 : Dc prog_14_method_10_code 2 (.iload_n 2) 1 3 := ⟨by decide +kernel, rfl⟩
theorem d_M_keepAll_3 : Dc prog_14_method_10_code 3 (.bipush 92) 2 5 := ⟨by decide +kernel, rfl⟩
theorem d_M_keepAll_5 : Dj prog_14_method_10_code 5 (.if_icmp .ge 29) 8 29 34 := ⟨by decide +kernel, rfl, rfl⟩
theorem d_M_keepAll_8 : Dc prog_14_method_10_code 8 (.aload_n 0) 1 9 := ⟨by decide +kernel, rfl⟩
theorem d_M_keepAll_9 : Dc prog_14_method_10_code 9 (.getfield 23) 3 12 := ⟨by decide +kernel, rfl⟩
theorem d_M_keepAll_12 : Dc prog_14_method_10_code 12 (.bipush 92) 2 14 := ⟨by decide +kernel, rfl⟩
theorem d_M_keepAll_14 : Dc prog_14_method_10_code 14 (.iload_n 1) 1 15 := ⟨by decide +kernel, rfl⟩
theorem d_M_keepAll_15 : Dc prog_14_method_10_code 15 (.imul) 1 16 := ⟨by decide +kernel, rfl⟩
theorem d_M_keepAll_16 : Dc prog_14_method_10_code 16 (.iload_n 2) 1 17 := ⟨by decide +kernel, rfl⟩
theorem d_M_keepAll_17 : Dc prog_14_method_10_code 17 (.iadd) 1 18 := ⟨by decide +kernel, rfl⟩
theorem d_M_keepAll_18 : Dc prog_14_method_10_code 18 (.aload_n 0) 1 19 := ⟨by decide +kernel, rfl⟩
theorem d_M_keepAll_19 : Dc prog_14_method_10_code 19 (.getfield 13) 3 22 := ⟨by decide +kernel, rfl⟩
theorem d_M_keepAll_22 : Dc prog_14_method_10_code 22 (.bipush 6) 2 24 := ⟨by decide +kernel, rfl⟩
theorem d_M_keepAll_24 : Dc prog_14_method_10_code 24 (.iload_n 2) 1 25 := ⟨by decide +kernel, rfl⟩
theorem d_M_keepAll_25 : Dc prog_14_method_10_code 25 (.iadd) 1 26 := ⟨by decide +kernel, rfl⟩
theorem d_M_keepAll_26 : Dc prog_14_method_10_code 26 (.iaload) 1 27 := ⟨by decide +kernel, rfl⟩
theorem d_M_keepAll_27 : Dc prog_14_method_10_code 27 (.iastore) 1 28 := ⟨by decide +kernel, rfl⟩
theorem d_M_keepAll_28 : Dc prog_14_method_10_code 28 (.iinc 2 1) 3 31 := ⟨by decide +kernel, rfl⟩
theorem d_M_keepAll_31 : Dj prog_14_method_10_code 31 (.goto (-29)) 34 (-29) 2 := ⟨by decide +kernel, rfl, rfl⟩
theorem d_M_keepAll_34 : Dc prog_14_method_10_code 34 (.return_) 1 35 := ⟨by decide +kernel, rfl⟩
theorem d_M_lasting_0 : Dc prog_14_method_9_code 0 (.aload_n 0) 1 1 := ⟨by decide +kernel, rfl⟩
theorem d_M_lasting_1 : Dc prog_14_method_9_code 1 (.iload_n 1) 1 2 := ⟨by decide +kernel, rfl⟩
theorem d_M_lasting_2 : Dj prog_14_method_9_code 2 (.ifCond .ge 10) 5 10 12 := ⟨by decide +kernel, rfl, rfl⟩
theorem d_M_lasting_12 : Dc prog_14_method_9_code 12 (.iconst 0) 1 13 := ⟨by decide +kernel, rfl⟩
theorem d_M_lasting_13 : Dc prog_14_method_9_code 13 (.putfield 176) 3 16 := ⟨by decide +kernel, rfl⟩
theorem d_M_lasting_16 : Dc prog_14_method_9_code 16 (.aload_n 0) 1 17 := ⟨by decide +kernel, rfl⟩
theorem d_M_lasting_17 : Dc prog_14_method_9_code 17 (.iload_n 1) 1 18 := ⟨by decide +kernel, rfl⟩
theorem d_M_lasting_18 : Dc prog_14_method_9_code 18 (.invokevirtual 179) 3 21 := ⟨by decide +kernel, rfl⟩
theorem d_M_lasting_21 : Dc prog_14_method_9_code 21 (.ireturn) 1 22 := ⟨by decide +kernel, rfl⟩
theorem d_M_putBack_0 : Dc prog_14_method_11_code 0 (.iconst 0) 1 1 := ⟨by decide +kernel, rfl⟩
theorem d_M_putBack_1 : Dc prog_14_method_11_code 1 (.istore_n 2) 1 2 := ⟨by decide +kernel, rfl⟩
theorem d_M_putBack_2 : Dc prog_14_method_11_code 2 (.iload_n 2) 1 3 := ⟨by decide +kernel, rfl⟩
theorem d_M_putBack_3 : Dc prog_14_method_11_code 3 (.bipush 92) 2 5 := ⟨by decide +kernel, rfl⟩
theorem d_M_putBack_5 : Dj prog_14_method_11_code 5 (.if_icmp .ge 29) 8 29 34 := ⟨by decide +kernel, rfl, rfl⟩
theorem d_M_putBack_8 : Dc prog_14_method_11_code 8 (.aload_n 0) 1 9 := ⟨by decide +kernel, rfl⟩
theorem d_M_putBack_9 : Dc prog_14_method_11_code 9 (.getfield 13) 3 12 := ⟨by decide +kernel, rfl⟩
theorem d_M_putBack_12 : Dc prog_14_method_11_code 12 (.bipush 6) 2 14 := ⟨by decide +kernel, rfl⟩
theorem d_M_putBack_14 : Dc prog_14_method_11_code 14 (.iload_n 2) 1 15 := ⟨by decide +kernel, rfl⟩
theorem d_M_putBack_15 : Dc prog_14_method_11_code 15 (.iadd) 1 16 := ⟨by decide +kernel, rfl⟩
theorem d_M_putBack_16 : Dc prog_14_method_11_code 16 (.aload_n 0) 1 17 := ⟨by decide +kernel, rfl⟩
theorem d_M_putBack_17 : Dc prog_14_method_11_code 17 (.getfield 23) 3 20 := ⟨by decide +kernel, rfl⟩
theorem d_M_putBack_20 : Dc prog_14_method_11_code 20 (.bipush 92) 2 22 := ⟨by decide +kernel, rfl⟩
theorem d_M_putBack_22 : Dc prog_14_method_11_code 22 (.iload_n 1) 1 23 := ⟨by decide +kernel, rfl⟩
theorem d_M_putBack_23 : Dc prog_14_method_11_code 23 (.imul) 1 24 := ⟨by decide +kernel, rfl⟩
theorem d_M_putBack_24 : Dc prog_14_method_11_code 24 (.iload_n 2) 1 25 := ⟨by decide +kernel, rfl⟩
theorem d_M_putBack_25 : Dc prog_14_method_11_code 25 (.iadd) 1 26 := ⟨by decide +kernel, rfl⟩
theorem d_M_putBack_26 : Dc prog_14_method_11_code 26 (.iaload) 1 27 := ⟨by decide +kernel, rfl⟩
theorem d_M_putBack_27 : Dc prog_14_method_11_code 27 (.iastore) 1 28 := ⟨by decide +kernel, rfl⟩
theorem d_M_putBack_28 : Dc prog_14_method_11_code 28 (.iinc 2 1) 3 31 := ⟨by decide +kernel, rfl⟩
theorem d_M_putBack_31 : Dj prog_14_method_11_code 31 (.goto (-29)) 34 (-29) 2 := ⟨by decide +kernel, rfl, rfl⟩
theorem d_M_putBack_34 : Dc prog_14_method_11_code 34 (.return_) 1 35 := ⟨by decide +kernel, rfl⟩
theorem d_M_tell_0 : Dc prog_14_method_7_code 0 (.aload_n 0) 1 1 := ⟨by decide +kernel, rfl⟩
theorem d_M_tell_1 : Dc prog_14_method_7_code 1 (.iload_n 1) 1 2 := ⟨by decide +kernel, rfl⟩
theorem d_M_tell_2 : Dj prog_14_method_7_code 2 (.ifCond .ge 7) 5 7 9 := ⟨by decide +kernel, rfl, rfl⟩
theorem d_M_tell_5 : Dc prog_14_method_7_code 5 (.iload_n 1) 1 6 := ⟨by decide +kernel, rfl⟩
theorem d_M_tell_6 : Dj prog_14_method_7_code 6 (.goto 4) 9 4 10 := ⟨by decide +kernel, rfl, rfl⟩
theorem d_M_tell_9 : Dc prog_14_method_7_code 9 (.iconst 0) 1 10 := ⟨by decide +kernel, rfl⟩
theorem d_M_tell_10 : Dc prog_14_method_7_code 10 (.putfield 173) 3 13 := ⟨by decide +kernel, rfl⟩
theorem d_M_tell_13 : Dc prog_14_method_7_code 13 (.iload_n 1) 1 14 := ⟨by decide +kernel, rfl⟩
theorem d_M_tell_14 : Dj prog_14_method_7_code 14 (.ifCond .ge 14) 17 14 28 := ⟨by decide +kernel, rfl, rfl⟩
theorem d_M_tell_17 : Dc prog_14_method_7_code 17 (.aload_n 0) 1 18 := ⟨by decide +kernel, rfl⟩
theorem d_M_tell_18 : Dc prog_14_method_7_code 18 (.getfield 7) 3 21 := ⟨by decide +kernel, rfl⟩
theorem d_M_tell_21 : Dc prog_14_method_7_code 21 (.iload_n 1) 1 22 := ⟨by decide +kernel, rfl⟩
theorem d_M_tell_22 : Dc prog_14_method_7_code 22 (.ineg) 1 23 := ⟨by decide +kernel, rfl⟩
theorem d_M_tell_23 : Dc prog_14_method_7_code 23 (.dup2) 1 24 := ⟨by decide +kernel, rfl⟩
theorem d_M_tell_24 : Dc prog_14_method_7_code 24 (.iaload) 1 25 := ⟨by decide +kernel, rfl⟩
theorem d_M_tell_25 : Dc prog_14_method_7_code 25 (.iconst 1) 1 26 := ⟨by decide +kernel, rfl⟩
theorem d_M_tell_26 : Dc prog_14_method_7_code 26 (.iadd) 1 27 := ⟨by decide +kernel, rfl⟩
theorem d_M_tell_27 : Dc prog_14_method_7_code 27 (.iastore) 1 28 := ⟨by decide +kernel, rfl⟩
theorem d_M_tell_28 : Dc prog_14_method_7_code 28 (.iload_n 1) 1 29 := ⟨by decide +kernel, rfl⟩
theorem d_M_tell_29 : Dc prog_14_method_7_code 29 (.ireturn) 1 30 := ⟨by decide +kernel, rfl⟩
theorem fl_M_7 : FL "SubgraphDeskModel" 7 12 2 true (.array .int) (3, 1) := ⟨R_M, F_M, 69, ty_M, rfl, rfl, in_M, tyok_M, nm_M, by decide, gd 1474 (by decide +kernel) rfl, rfl, rfl, rfl⟩
theorem fl_M_23 : FL "SubgraphDeskModel" 23 12 6 true (.array .int) (3, 5) := ⟨R_M, F_M, 69, ty_M, rfl, rfl, in_M, tyok_M, nm_M, by decide, gd 1478 (by decide +kernel) rfl, rfl, rfl, rfl⟩
theorem fl_M_173 : FL "SubgraphDeskModel" 173 12 1 false .int (0, 0) := ⟨R_M, F_M, 69, ty_M, rfl, rfl, in_M, tyok_M, nm_M, by decide, gd 1473 (by decide +kernel) rfl, rfl, rfl, rfl⟩
theorem fl_M_176 : FL "SubgraphDeskModel" 176 12 8 false .int (0, 0) := ⟨R_M, F_M, 69, ty_M, rfl, rfl, in_M, tyok_M, nm_M, by decide, gd 1480 (by decide +kernel) rfl, rfl, rfl, rfl⟩
theorem ml_M_179 : Cond.methodLink "SubgraphDeskModel" 179 m_M_tell.1 ∈ lw_gd := gd 1685 (by decide +kernel) rfl
theorem tell_lt {k : Nat} (hk : 0 < k) (h7 : k < 7) : (-(nI k)) < 0 ∧ -(-(nI k)) = nI k := by
  have : ∀ k, k < 7 → 0 < k → ((-(nI k)) < 0 ∧ -(-(nI k)) = nI k) := by decide
  exact this k h7 hk
theorem c_M_tell {E : EV} {w : Mem} {v : Nat} (hv : v < 2 ^ 31) : T E m_M_tell 0 0 0 [.ref 89, .int (nI v)] w (Ret (some (.int (nI v))) (sI w 89 1 (nI 0))) := by
  refine T_of (L := [.ref 89, .int (nI v)]) cf_M_tell rfl (Nat.le_of_ble_eq_true rfl) (fun X hX hF => ?_)
  refine g_aload0 hX d_M_tell_0 ?_
  refine g_iload1 hX d_M_tell_1 ?_
  refine g_if_ge hX d_M_tell_2 (fun c0 => ?_) (fun h => absurd (nI_pos' hv) h)
  refine g_iconst (v := nI 0) hX d_M_tell_9 rfl ?_
  refine g_putI hX d_M_tell_10 fl_M_173 (lv_89 _) ?_
  refine g_iload1 hX d_M_tell_13 ?_
  refine g_if_ge hX d_M_tell_14 (fun c1 => ?_) (fun h => absurd (nI_pos' hv) h)
  refine g_iload1 hX d_M_tell_28 ?_
  refine g_iret hX hF d_M_tell_29 (by omega) (by omega) ?_
  exact ⟨rfl, rfl⟩
theorem c_M_tellN {E : EV} {w : Mem} {k : Nat} (hk : 0 < k) (h7 : k < 7) : T E m_M_tell 0 0 0 [.ref 89, .int (-(nI k))] w (Ret (some (.int (-(nI k)))) (sI (sI w 89 1 (-(nI k))) 90 k (rI w 90 k + 1))) := by
  refine T_of (L := [.ref 89, .int (-(nI k))]) cf_M_tell rfl (Nat.le_of_ble_eq_true rfl) (fun X hX hF => ?_)
  have ht := tell_lt hk h7
  refine g_aload0 hX d_M_tell_0 ?_
  refine g_iload1 hX d_M_tell_1 ?_
  refine g_if_ge hX d_M_tell_2 (fun h => absurd h (fun h => absurd ht.1 (Int32.not_lt.mpr h))) (fun c0 => ?_)
  refine g_iload1 hX d_M_tell_5 ?_
  refine g_goto hX d_M_tell_6 ?_
  refine g_putI hX d_M_tell_10 fl_M_173 (lv_89 _) ?_
  refine g_iload1 hX d_M_tell_13 ?_
  refine g_if_ge hX d_M_tell_14 (fun h => absurd h (fun h => absurd ht.1 (Int32.not_lt.mpr h))) (fun c1 => ?_)
  refine g_aload0 hX d_M_tell_17 ?_
  refine g_getF hX d_M_tell_18 fl_M_7 (lv_89 _) ?_
  refine g_iload1 hX d_M_tell_21 ?_
  refine g_ineg hX d_M_tell_22 ?_
  refine g_dup2 hX d_M_tell_23 rfl rfl ?_
  refine g_iald hX d_M_tell_24 (lv_90 _) ht.2 (by omega) ?_
  refine g_iconst (v := nI 1) hX d_M_tell_25 rfl ?_
  refine g_iadd hX d_M_tell_26 ?_
  refine g_iast hX d_M_tell_27 (lv_90 _) ht.2 (by omega) ?_
  refine g_iload1 hX d_M_tell_28 ?_
  refine g_iret hX hF d_M_tell_29 (by omega) (by omega) ?_
  exact ⟨rfl, rfl⟩
theorem c_M_change {E : EV} {w : Mem} {a : Nat} {v : Int32} (ha : a < 5510) : T E m_M_change 0 0 0 [.ref 89, .int (nI a), .int v] w (Ret (some (.int (rI w 91 a))) (sI (sI w 91 a v) 89 1 (nI 0))) := by
  refine T_of (L := [.ref 89, .int (nI a), .int v, un]) cf_M_change rfl (Nat.le_of_ble_eq_true rfl) (fun X hX hF => ?_)
  refine g_aload0 hX d_M_change_0 ?_
  refine g_getF hX d_M_change_1 fl_M_13 (lv_89 _) ?_
  refine g_iload1 hX d_M_change_4 ?_
  refine g_iald hX d_M_change_5 (lv_91 _) rfl ha ?_
  refine g_istore3 hX d_M_change_6 rfl (by decide) ?_
  refine g_aload0 hX d_M_change_7 ?_
  refine g_getF hX d_M_change_8 fl_M_13 (lv_89 _) ?_
  refine g_iload1 hX d_M_change_11 ?_
  refine g_iload2 hX d_M_change_12 ?_
  refine g_iast hX d_M_change_13 (lv_91 _) rfl ha ?_
  refine g_aload0 hX d_M_change_14 ?_
  refine g_iconst (v := nI 0) hX d_M_change_15 rfl ?_
  refine g_putI hX d_M_change_16 fl_M_173 (lv_89 _) ?_
  refine g_iload3 hX d_M_change_19 ?_
  refine g_iret hX hF d_M_change_20 (by omega) (by omega) ?_
  exact ⟨rfl, rfl⟩
theorem c_M_lasting {E : EV} {w : Mem} {v : Nat} (hv : v < 2 ^ 31) : T E m_M_lasting 1 0 0 [.ref 89, .int (nI v)] w (Ret (some (.int (nI v))) (sI (sI w 89 8 (nI 0)) 89 1 (nI 0))) := by
  refine T_of (L := [.ref 89, .int (nI v)]) cf_M_lasting rfl (Nat.le_of_ble_eq_true rfl) (fun X hX hF => ?_)
  refine g_aload0 hX d_M_lasting_0 ?_
  refine g_iload1 hX d_M_lasting_1 ?_
  refine g_if_ge hX d_M_lasting_2 (fun c0 => ?_) (fun h => absurd (nI_pos' hv) h)
  refine g_iconst (v := nI 0) hX d_M_lasting_12 rfl ?_
  refine g_putI hX d_M_lasting_13 fl_M_176 (lv_89 _) ?_
  refine g_aload0 hX d_M_lasting_16 ?_
  refine g_iload1 hX d_M_lasting_17 ?_
  refine g_callV (As := [_]) hX hF.1 d_M_lasting_18 ml_M_179 cf_M_tell cv_M_tell rfl rfl (c_M_tell (by omega)) (rcv_obj hX (lv_89 _) rfl rfl) (by omega) (by omega) (by omega) (Nat.le_of_ble_eq_true rfl) ?_
  refine ret_k ?_
  refine g_iret hX hF d_M_lasting_21 (by omega) (by omega) ?_
  exact ⟨rfl, rfl⟩
theorem c_M_keepAll {E : EV} {w : Mem} {k : Nat} (hk : k < 18) : T E m_M_keepAll 0 0 0 [.ref 89, .int (nI k)] w (Ret none (sA w 94 (va_cpy (rI w 91) (rI w 94) 6 (92 * k) 92))) := by
  refine T_of (L := [.ref 89, .int (nI k), un]) cf_M_keepAll rfl (Nat.le_of_ble_eq_true rfl) (fun X hX hF => ?_)
  have lp : ∀ (fuel : Nat) (i : Nat), 92 - i < fuel → (i ≤ 92) → G0 E X 0 0 2 [.ref 89, .int (nI k), .int (nI i)] [] (sA w 94 (va_cpy (rI w 91) (rI w 94) (6) (92 * k) i)) := by
    intro fuel
    induction fuel with
    | zero => intro i q0; exact absurd q0 (Nat.not_lt_zero _)
    | succ fuel ih =>
      intro i q0 q1
      refine g_iload2 hX d_M_keepAll_2 ?_
      refine g_bipush (v := nI 92) hX d_M_keepAll_3 rfl ?_
      refine g_icmpN_ge hX d_M_keepAll_5 (by omega) (by omega) (fun c0 => ?_) (fun c0 => ?_)
      · refine g_vret hX hF d_M_keepAll_34 (by omega) (by omega) ?_
        exact ⟨rfl, by rw [show i = 92 by omega]⟩
      · refine g_aload0 hX d_M_keepAll_8 ?_
        refine g_getF hX d_M_keepAll_9 fl_M_23 (lv_89 _) ?_
        refine g_bipush (v := nI 92) hX d_M_keepAll_12 rfl ?_
        refine g_iload1 hX d_M_keepAll_14 ?_
        refine g_imulN hX d_M_keepAll_15 ?_
        refine g_iload2 hX d_M_keepAll_16 ?_
        refine g_iaddN hX d_M_keepAll_17 ?_
        refine g_aload0 hX d_M_keepAll_18 ?_
        refine g_getF hX d_M_keepAll_19 fl_M_13 (lv_89 _) ?_
        refine g_bipush (v := nI 6) hX d_M_keepAll_22 rfl ?_
        refine g_iload2 hX d_M_keepAll_24 ?_
        refine g_iaddN hX d_M_keepAll_25 ?_
        refine g_iald hX d_M_keepAll_26 (lv_91 _) rfl (by omega) ?_
        refine g_topi (show rI (sA w 94 (va_cpy (rI w 91) (rI w 94) (6) (92 * k) i)) 91 (6 + i) = rI w 91 (6 + i) from rfl) ?_
        refine g_iast hX d_M_keepAll_27 (lv_94 _) rfl (by omega) ?_
        refine g_iincN2 hX d_M_keepAll_28 rfl (by decide) ?_
        refine g_goto hX d_M_keepAll_31 ?_
        refine g_mem (sI_sA _ _ _ _ _) ?_
        refine g_mem (by rw [cpy_s]) ?_
        exact ih (i + 1) (by omega) (by omega)
  refine g_iconst (v := nI 0) hX d_M_keepAll_0 rfl ?_
  refine g_istore2 hX d_M_keepAll_1 rfl (by decide) ?_
  refine g_mem (show w = sA w 94 (va_cpy (rI w 91) (rI w 94) 6 (92 * k) 0) by rw [cpy_0, sA_self]) ?_
  exact lp 93 0 (by omega) (by omega)
theorem c_M_putBack {E : EV} {w : Mem} {k : Nat} (hk : k < 18) : T E m_M_putBack 0 0 0 [.ref 89, .int (nI k)] w (Ret none (sA w 91 (va_cpy (rI w 94) (rI w 91) (92 * k) 6 92))) := by
  refine T_of (L := [.ref 89, .int (nI k), un]) cf_M_putBack rfl (Nat.le_of_ble_eq_true rfl) (fun X hX hF => ?_)
  have lp : ∀ (fuel : Nat) (i : Nat), 92 - i < fuel → (i ≤ 92) → G0 E X 0 0 2 [.ref 89, .int (nI k), .int (nI i)] [] (sA w 91 (va_cpy (rI w 94) (rI w 91) (92 * k) (6) i)) := by
    intro fuel
    induction fuel with
    | zero => intro i q0; exact absurd q0 (Nat.not_lt_zero _)
    | succ fuel ih =>
      intro i q0 q1
      refine g_iload2 hX d_M_putBack_2 ?_
      refine g_bipush (v := nI 92) hX d_M_putBack_3 rfl ?_
      refine g_icmpN_ge hX d_M_putBack_5 (by omega) (by omega) (fun c0 => ?_) (fun c0 => ?_)
      · refine g_vret hX hF d_M_putBack_34 (by omega) (by omega) ?_
        exact ⟨rfl, by rw [show i = 92 by omega]⟩
      · refine g_aload0 hX d_M_putBack_8 ?_
        refine g_getF hX d_M_putBack_9 fl_M_13 (lv_89 _) ?_
        refine g_bipush (v := nI 6) hX d_M_putBack_12 rfl ?_
        refine g_iload2 hX d_M_putBack_14 ?_
        refine g_iaddN hX d_M_putBack_15 ?_
        refine g_aload0 hX d_M_putBack_16 ?_
        refine g_getF hX d_M_putBack_17 fl_M_23 (lv_89 _) ?_
        refine g_bipush (v := nI 92) hX d_M_putBack_20 rfl ?_
        refine g_iload1 hX d_M_putBack_22 ?_
        refine g_imulN hX d_M_putBack_23 ?_
        refine g_iload2 hX d_M_putBack_24 ?_
        refine g_iaddN hX d_M_putBack_25 ?_
        refine g_iald hX d_M_putBack_26 (lv_94 _) rfl (by omega) ?_
        refine g_topi (show rI (sA w 91 (va_cpy (rI w 94) (rI w 91) (92 * k) (6) i)) 94 (92 * k + i) = rI w 94 (92 * k + i) from rfl) ?_
        refine g_iast hX d_M_putBack_27 (lv_91 _) rfl (by omega) ?_
        refine g_iincN2 hX d_M_putBack_28 rfl (by decide) ?_
        refine g_goto hX d_M_putBack_31 ?_
        refine g_mem (sI_sA _ _ _ _ _) ?_
        refine g_mem (by rw [cpy_s]) ?_
        exact ih (i + 1) (by omega) (by omega)
  refine g_iconst (v := nI 0) hX d_M_putBack_0 rfl ?_
  refine g_istore2 hX d_M_putBack_1 rfl (by decide) ?_
  refine g_mem (show w = sA w 91 (va_cpy (rI w 94) (rI w 91) (92 * k) 6 0) by rw [cpy_0, sA_self]) ?_
  exact lp 93 0 (by omega) (by omega)
