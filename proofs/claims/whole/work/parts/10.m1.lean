def m_M_in : MR := (⟨"SubgraphDeskModel", "in", "(JJJ)Z"⟩, prog_14_method_3_code, 6, (some .boolean))
theorem cf_M_in : CF m_M_in 3 := ⟨gd 1699 (by decide +kernel) rfl, gd 151 (by decide +kernel) rfl, by decide +kernel, by decide, by decide +kernel⟩
theorem cs_M_in : CS m_M_in := gd 1698 (by decide +kernel) rfl
def m_M_is : MR := (⟨"SubgraphDeskModel", "is", "(II)Z"⟩, prog_14_method_4_code, 2, (some .boolean))
theorem cf_M_is : CF m_M_is 2 := ⟨gd 2026 (by decide +kernel) rfl, gd 151 (by decide +kernel) rfl, by decide +kernel, by decide, by decide +kernel⟩
theorem cs_M_is : CS m_M_is := gd 2025 (by decide +kernel) rfl
def m_M_many : MR := (⟨"SubgraphDeskModel", "many", "(I)I"⟩, prog_14_method_6_code, 3, (some .int))
theorem cf_M_many : CF m_M_many 1 := ⟨gd 1736 (by decide +kernel) rfl, gd 151 (by decide +kernel) rfl, by decide +kernel, by decide, by decide +kernel⟩
theorem cs_M_many : CS m_M_many := gd 1735 (by decide +kernel) rfl
theorem d_M_in_0 : Dc prog_14_method_3_code 0 (.lload_n 0) 1 1 := ⟨by decide +kernel, rfl⟩
theorem d_M_in_1 : Dc prog_14_method_3_code 1 (.lload_n 2) 1 2 := ⟨by decide +kernel, rfl⟩
theorem d_M_in_2 : Dc prog_14_method_3_code 2 (.lcmp) 1 3 := ⟨by decide +kernel, rfl⟩
theorem d_M_in_3 : Dj prog_14_method_3_code 3 (.ifCond .lt 14) 6 14 17 := ⟨by decide +kernel, rfl, rfl⟩
theorem d_M_in_6 : Dc prog_14_method_3_code 6 (.lload_n 0) 1 7 := ⟨by decide +kernel, rfl⟩
theorem d_M_in_7 : Dc prog_14_method_3_code 7 (.lload 4) 2 9 := ⟨by decide +kernel, rfl⟩
theorem d_M_in_9 : Dc prog_14_method_3_code 9 (.lcmp) 1 10 := ⟨by decide +kernel, rfl⟩
theorem d_M_in_10 : Dj prog_14_method_3_code 10 (.ifCond .gt 7) 13 7 17 := ⟨by decide +kernel, rfl, rfl⟩
theorem d_M_in_13 : Dc prog_14_method_3_code 13 (.iconst 1) 1 14 := ⟨by decide +kernel, rfl⟩
theorem d_M_in_14 : Dj prog_14_method_3_code 14 (.goto 4) 17 4 18 := ⟨by decide +kernel, rfl, rfl⟩
theorem d_M_in_17 : Dc prog_14_method_3_code 17 (.iconst 0) 1 18 := ⟨by decide +kernel, rfl⟩
theorem d_M_in_18 : Dc prog_14_method_3_code 18 (.ireturn) 1 19 := ⟨by decide +kernel, rfl⟩
theorem d_M_is_0 : Dc prog_14_method_4_code 0 (.iload_n 0) 1 1 := ⟨by decide +kernel, rfl⟩
theorem d_M_is_1 : Dc prog_14_method_4_code 1 (.iload_n 1) 1 2 := ⟨by decide +kernel, rfl⟩
theorem d_M_is_2 : Dc prog_14_method_4_code 2 (.ishr) 1 3 := ⟨by decide +kernel, rfl⟩
theorem d_M_is_3 : Dc prog_14_method_4_code 3 (.iconst 1) 1 4 := ⟨by decide +kernel, rfl⟩
theorem d_M_is_4 : Dc prog_14_method_4_code 4 (.iand) 1 5 := ⟨by decide +kernel, rfl⟩
theorem d_M_is_5 : Dc prog_14_method_4_code 5 (.iconst 1) 1 6 := ⟨by decide +kernel, rfl⟩
theorem d_M_is_6 : Dj prog_14_method_4_code 6 (.if_icmp .ne 7) 9 7 13 := ⟨by decide +kernel, rfl, rfl⟩
theorem d_M_is_9 : Dc prog_14_method_4_code 9 (.iconst 1) 1 10 := ⟨by decide +kernel, rfl⟩
theorem d_M_is_10 : Dj prog_14_method_4_code 10 (.goto 4) 13 4 14 := ⟨by decide +kernel, rfl, rfl⟩
theorem d_M_is_13 : Dc prog_14_method_4_code 13 (.iconst 0) 1 14 := ⟨by decide +kernel, rfl⟩
theorem d_M_is_14 : Dc prog_14_method_4_code 14 (.ireturn) 1 15 := ⟨by decide +kernel, rfl⟩
theorem d_M_many_0 : Dc prog_14_method_6_code 0 (.iconst 0) 1 1 := ⟨by decide +kernel, rfl⟩
theorem d_M_many_1 : Dc prog_14_method_6_code 1 (.istore_n 1) 1 2 := ⟨by decide +kernel, rfl⟩
theorem d_M_many_2 : Dc prog_14_method_6_code 2 (.iconst 0) 1 3 := ⟨by decide +kernel, rfl⟩
theorem d_M_many_3 : Dc prog_14_method_6_code 3 (.istore_n 2) 1 4 := ⟨by decide +kernel, rfl⟩
theorem d_M_many_4 : Dc prog_14_method_6_code 4 (.iload_n 2) 1 5 := ⟨by decide +kernel, rfl⟩
theorem d_M_many_5 : Dc prog_14_method_6_code 5 (.bipush 12) 2 7 := ⟨by decide +kernel, rfl⟩
theorem d_M_many_7 : Dj prog_14_method_6_code 7 (.if_icmp .ge 17) 10 17 24 := ⟨by decide +kernel, rfl, rfl⟩
theorem d_M_many_10 : Dc prog_14_method_6_code 10 (.iload_n 1) 1 11 := ⟨by decide +kernel, rfl⟩
theorem d_M_many_11 : Dc prog_14_method_6_code 11 (.iload_n 0) 1 12 := ⟨by decide +kernel, rfl⟩
theorem d_M_many_12 : Dc prog_14_method_6_code 12 (.iload_n 2) 1 13 := ⟨by decide +kernel, rfl⟩
theorem d_M_many_13 : Dc prog_14_method_6_code 13 (.ishr) 1 14 := ⟨by decide +kernel, rfl⟩
theorem d_M_many_14 : Dc prog_14_method_6_code 14 (.iconst 1) 1 15 := ⟨by decide +kernel, rfl⟩
theorem d_M_many_15 : Dc prog_14_method_6_code 15 (.iand) 1 16 := ⟨by decide +kernel, rfl⟩
theorem d_M_many_16 : Dc prog_14_method_6_code 16 (.iadd) 1 17 := ⟨by decide +kernel, rfl⟩
theorem d_M_many_17 : Dc prog_14_method_6_code 17 (.istore_n 1) 1 18 := ⟨by decide +kernel, rfl⟩
theorem d_M_many_18 : Dc prog_14_method_6_code 18 (.iinc 2 1) 3 21 := ⟨by decide +kernel, rfl⟩
theorem d_M_many_21 : Dj prog_14_method_6_code 21 (.goto (-17)) 24 (-17) 4 := ⟨by decide +kernel, rfl, rfl⟩
theorem d_M_many_24 : Dc prog_14_method_6_code 24 (.iload_n 1) 1 25 := ⟨by decide +kernel, rfl⟩
theorem d_M_many_25 : Dc prog_14_method_6_code 25 (.ireturn) 1 26 := ⟨by decide +kernel, rfl⟩
theorem in_isN {n : Int32} {N : Nat} (hN : N < 2 ^ 31) : (lN 0 ≤ n.toInt64 ∧ n.toInt64 ≤ (nI N).toInt64 - lN 1) ↔ (0 ≤ n ∧ n < nI N) := by
  have e1 : (lN 0).toInt = 0 := rfl
  have hn1 := Int32.minValue_le_toInt n
  have hn2 := Int32.toInt_le n
  have e3 : ((nI N).toInt64 - lN 1).toInt = (N : Int) - 1 := by
    rw [nI_l hN, Int64.toInt_sub, lN_toInt hN, show (lN 1).toInt = 1 from rfl, Int.bmod_eq_of_le] <;> omega
  rw [Int64.le_iff_toInt_le, Int64.le_iff_toInt_le, e1, e3, Int32.toInt_toInt64, Int32.le_iff_toInt_le, Int32.lt_iff_toInt_lt, nI_toInt hN]
  show _ ↔ (0 : Int) ≤ _ ∧ _
  omega
theorem in_isC {n : Int32} {a b : Nat} (ha : a < 2 ^ 31) (hb : b < 2 ^ 31) : (lN a ≤ n.toInt64 ∧ n.toInt64 ≤ lN b) ↔ (nI a ≤ n ∧ n ≤ nI b) := by
  rw [Int64.le_iff_toInt_le, Int64.le_iff_toInt_le, lN_toInt ha, lN_toInt hb, Int32.toInt_toInt64, Int32.le_iff_toInt_le, Int32.le_iff_toInt_le, nI_toInt ha, nI_toInt hb]
theorem c_M_in {E : EV} {w : Mem} {a b c : Int64} : T E m_M_in 0 0 0 [.long a, .long b, .long c] w (Ret (some (.int (b2i (b ≤ a ∧ a ≤ c)))) w) := by
  refine T_of (L := [.long a, un, .long b, un, .long c, un]) cf_M_in rfl (Nat.le_of_ble_eq_true rfl) (fun X hX hF => ?_)
  refine g_lload0 hX d_M_in_0 ?_
  refine g_lload2 hX d_M_in_1 ?_
  refine g_lcmp_lt hX d_M_in_2 d_M_in_3 (fun c0 => ?_) (fun c0 => ?_)
  · refine g_iconst (v := nI 0) hX d_M_in_17 rfl ?_
    refine g_zret hX hF d_M_in_18 (Or.inl rfl) (by omega) (by omega) ?_
    first | exact ret_f (fun h => absurd c0 (Int64.not_lt.mpr h.1)) | exact ret_f (fun h => absurd c1 (Int64.not_lt.mpr h.2)) | exact ret_t ⟨Int64.not_lt.mp c0, Int64.not_lt.mp c1⟩
  · refine g_lload0 hX d_M_in_6 ?_
    refine g_lload4 hX d_M_in_7 ?_
    refine g_lcmp_gt hX d_M_in_9 d_M_in_10 (fun c1 => ?_) (fun c1 => ?_)
    · refine g_iconst (v := nI 0) hX d_M_in_17 rfl ?_
      refine g_zret hX hF d_M_in_18 (Or.inl rfl) (by omega) (by omega) ?_
      first | exact ret_f (fun h => absurd c0 (Int64.not_lt.mpr h.1)) | exact ret_f (fun h => absurd c1 (Int64.not_lt.mpr h.2)) | exact ret_t ⟨Int64.not_lt.mp c0, Int64.not_lt.mp c1⟩
    · refine g_iconst (v := nI 1) hX d_M_in_13 rfl ?_
      refine g_goto hX d_M_in_14 ?_
      refine g_zret hX hF d_M_in_18 (Or.inr rfl) (by omega) (by omega) ?_
      first | exact ret_f (fun h => absurd c0 (Int64.not_lt.mpr h.1)) | exact ret_f (fun h => absurd c1 (Int64.not_lt.mpr h.2)) | exact ret_t ⟨Int64.not_lt.mp c0, Int64.not_lt.mp c1⟩
theorem c_M_is {E : EV} {w : Mem} {x k : Nat} (hx : x < 2 ^ 31) (hk : k < 32) : T E m_M_is 0 0 0 [.int (nI x), .int (nI k)] w (Ret (some (.int (b2i (x.testBit k = true)))) w) := by
  refine T_of (L := [.int (nI x), .int (nI k)]) cf_M_is rfl (Nat.le_of_ble_eq_true rfl) (fun X hX hF => ?_)
  refine g_iload0 hX d_M_is_0 ?_
  refine g_iload1 hX d_M_is_1 ?_
  refine g_ishrN hX d_M_is_2 (by omega) (by omega) ?_
  refine g_iconst (v := nI 1) hX d_M_is_3 rfl ?_
  refine g_iandC hX d_M_is_4 (fun hm0 => ?_)
  refine g_iconst (v := nI 1) hX d_M_is_5 rfl ?_
  refine g_icmpN_ne hX d_M_is_6 (by omega) (by omega) (fun c1 => ?_) (fun c1 => ?_)
  · refine g_iconst (v := nI 0) hX d_M_is_13 rfl ?_
    refine g_zret hX hF d_M_is_14 (Or.inl rfl) (by omega) (by omega) ?_
    first | exact ret_f (by rw [← tb1]; omega) | exact ret_t (by rw [← tb1]; omega)
  · refine g_iconst (v := nI 1) hX d_M_is_9 rfl ?_
    refine g_goto hX d_M_is_10 ?_
    refine g_zret hX hF d_M_is_14 (Or.inr rfl) (by omega) (by omega) ?_
    first | exact ret_f (by rw [← tb1]; omega) | exact ret_t (by rw [← tb1]; omega)
theorem c_M_many {E : EV} {w : Mem} {x : Nat} (hx : x < 2 ^ 31) : T E m_M_many 0 0 0 [.int (nI x)] w (Ret (some (.int (nI (pop x)))) w) := by
  refine T_of (L := [.int (nI x), un, un]) cf_M_many rfl (Nat.le_of_ble_eq_true rfl) (fun X hX hF => ?_)
  have lp : ∀ (fuel : Nat) (k : Nat), 12 - k < fuel → (k ≤ 12) → G0 E X 0 0 4 [.int (nI x), .int (nI (popk x k)), .int (nI k)] [] w := by
    intro fuel
    induction fuel with
    | zero => intro k q0; exact absurd q0 (Nat.not_lt_zero _)
    | succ fuel ih =>
      intro k q0 q1
      refine g_iload2 hX d_M_many_4 ?_
      refine g_bipush (v := nI 12) hX d_M_many_5 rfl ?_
      refine g_icmpN_ge hX d_M_many_7 (by omega) (by omega) (fun c0 => ?_) (fun c0 => ?_)
      · refine g_iload1 hX d_M_many_24 ?_
        refine g_iret hX hF d_M_many_25 (by omega) (by omega) ?_
        exact ⟨by rw [show k = 12 by omega]; rfl, rfl⟩
      · refine g_iload1 hX d_M_many_10 ?_
        refine g_iload0 hX d_M_many_11 ?_
        refine g_iload2 hX d_M_many_12 ?_
        refine g_ishrN hX d_M_many_13 (by omega) (by omega) ?_
        refine g_iconst (v := nI 1) hX d_M_many_14 rfl ?_
        refine g_iandC hX d_M_many_15 (fun hm1 => ?_)
        refine g_iaddN hX d_M_many_16 ?_
        refine g_istore1 hX d_M_many_17 rfl (by decide) ?_
        refine g_iincN2 hX d_M_many_18 rfl (by decide) ?_
        refine g_goto hX d_M_many_21 ?_
        exact ih (k + 1) (by omega) (by omega)
  refine g_iconst (v := nI 0) hX d_M_many_0 rfl ?_
  refine g_istore1 hX d_M_many_1 rfl (by decide) ?_
  refine g_iconst (v := nI 0) hX d_M_many_2 rfl ?_
  refine g_istore2 hX d_M_many_3 rfl (by decide) ?_
  exact lp 13 0 (by omega) (by omega)
