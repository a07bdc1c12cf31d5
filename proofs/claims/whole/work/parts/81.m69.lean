def m_JArrays_fill : MR := (⟨"java/util/Arrays", "fill", "([JJ)V"⟩, prog_21_method_101_code, 5, none)
theorem cf_JArrays_fill : CF m_JArrays_fill 2 := ⟨gd 1404 (by decide +kernel) rfl, gd 158 (by decide +kernel) rfl, by decide +kernel, by decide, by decide +kernel⟩
theorem cs_JArrays_fill : CS m_JArrays_fill := gd 1403 (by decide +kernel) rfl
def m_JArrays_fill_IIIIV : MR := (⟨"java/util/Arrays", "fill", "([IIII)V"⟩, prog_21_method_104_code, 5, none)
theorem cf_JArrays_fill_IIIIV : CF m_JArrays_fill_IIIIV 4 := ⟨gd 866 (by decide +kernel) rfl, gd 158 (by decide +kernel) rfl, by decide +kernel, by decide, by decide +kernel⟩
theorem cs_JArrays_fill_IIIIV : CS m_JArrays_fill_IIIIV := gd 865 (by decide +kernel) rfl
def m_JArrays_fill_IIV : MR := (⟨"java/util/Arrays", "fill", "([II)V"⟩, prog_21_method_103_code, 4, none)
theorem cf_JArrays_fill_IIV : CF m_JArrays_fill_IIV 2 := ⟨gd 1345 (by decide +kernel) rfl, gd 158 (by decide +kernel) rfl, by decide +kernel, by decide, by decide +kernel⟩
theorem cs_JArrays_fill_IIV : CS m_JArrays_fill_IIV := gd 1344 (by decide +kernel) rfl
def m_JArrays_rangeCheck : MR := (⟨"java/util/Arrays", "rangeCheck", "(III)V"⟩, prog_21_method_30_code, 3, none)
theorem cf_JArrays_rangeCheck : CF m_JArrays_rangeCheck 3 := ⟨gd 869 (by decide +kernel) rfl, gd 158 (by decide +kernel) rfl, by decide +kernel, by decide, by decide +kernel⟩
theorem cs_JArrays_rangeCheck : CS m_JArrays_rangeCheck := gd 868 (by decide +kernel) rfl
def m_JInteger_numberOfTrailingZeros : MR := (⟨"java/lang/Integer", "numberOfTrailingZeros", "(I)I"⟩, prog_15_method_48_code, 2, (some .int))
theorem cf_JInteger_numberOfTrailingZeros : CF m_JInteger_numberOfTrailingZeros 1 := ⟨gd 1052 (by decide +kernel) rfl, gd 152 (by decide +kernel) rfl, by decide +kernel, by decide, by decide +kernel⟩
theorem cs_JInteger_numberOfTrailingZeros : CS m_JInteger_numberOfTrailingZeros := gd 1051 (by decide +kernel) rfl
theorem d_JArrays_fill_0 : Dc prog_21_method_101_code 0 (.iconst 0) 1 1 := ⟨by decide +kernel, rfl⟩
theorem d_JArrays_fill_1 : Dc prog_21_method_101_code 1 (.istore_n 3) 1 2 := ⟨by decide +kernel, rfl⟩
theorem d_JArrays_fill_2 : Dc prog_21_method_101_code 2 (.aload_n 0) 1 3 := ⟨by decide +kernel, rfl⟩
theorem d_JArrays_fill_3 : Dc prog_21_method_101_code 3 (.arraylength) 1 4 := ⟨by decide +kernel, rfl⟩
theorem d_JArrays_fill_4 : Dc prog_21_method_101_code 4 (.istore 4) 2 6 := ⟨by decide +kernel, rfl⟩
theorem d_JArrays_fill_6 : Dc prog_21_method_101_code 6 (.iload_n 3) 1 7 := ⟨by decide +kernel, rfl⟩
theorem d_JArrays_fill_7 : Dc prog_21_method_101_code 7 (.iload 4) 2 9 := ⟨by decide +kernel, rfl⟩
theorem d_JArrays_fill_9 : Dj prog_21_method_101_code 9 (.if_icmp .ge 13) 12 13 22 := ⟨by decide +kernel, rfl, rfl⟩
theorem d_JArrays_fill_12 : Dc prog_21_method_101_code 12 (.aload_n 0) 1 13 := ⟨by decide +kernel, rfl⟩
theorem d_JArrays_fill_13 : Dc prog_21_method_101_code 13 (.iload_n 3) 1 14 := ⟨by decide +kernel, rfl⟩
theorem d_JArrays_fill_14 : Dc prog_21_method_101_code 14 (.lload_n 1) 1 15 := ⟨by decide +kernel, rfl⟩
theorem d_JArrays_fill_15 : Dc prog_21_method_101_code 15 (.lastore) 1 16 := ⟨by decide +kernel, rfl⟩
theorem d_JArrays_fill_16 : Dc prog_21_method_101_code 16 (.iinc 3 1) 3 19 := ⟨by decide +kernel, rfl⟩
theorem d_JArrays_fill_19 : Dj prog_21_method_101_code 19 (.goto (-13)) 22 (-13) 6 := ⟨by decide +kernel, rfl, rfl⟩
theorem d_JArrays_fill_22 : Dc prog_21_method_101_code 22 (.return_) 1 23 := ⟨by decide +kernel, rfl⟩
theorem d_JArrays_fill_IIIIV_0 : Dc prog_21_method_104_code 0 (.aload_n 0) 1 1 := ⟨by decide +kernel, rfl⟩
theorem d_JArrays_fill_IIIIV_1 : Dc prog_21_method_104_code 1 (.arraylength) 1 2 := ⟨by decide +kernel, rfl⟩
theorem d_JArrays_fill_IIIIV_2 : Dc prog_21_method_104_code 2 (.iload_n 1) 1 3 := ⟨by decide +kernel, rfl⟩
theorem d_JArrays_fill_IIIIV_3 : Dc prog_21_method_104_code 3 (.iload_n 2) 1 4 := ⟨by decide +kernel, rfl⟩
theorem d_JArrays_fill_IIIIV_4 : Dc prog_21_method_104_code 4 (.invokestatic 13) 3 7 := ⟨by decide +kernel, rfl⟩
theorem d_JArrays_fill_IIIIV_7 : Dc prog_21_method_104_code 7 (.iload_n 1) 1 8 := ⟨by decide +kernel, rfl⟩
theorem d_JArrays_fill_IIIIV_8 : Dc prog_21_method_104_code 8 (.istore 4) 2 10 := ⟨by decide +kernel, rfl⟩
theorem d_JArrays_fill_IIIIV_10 : Dc prog_21_method_104_code 10 (.iload 4) 2 12 := ⟨by decide +kernel, rfl⟩
theorem d_JArrays_fill_IIIIV_12 : Dc prog_21_method_104_code 12 (.iload_n 2) 1 13 := ⟨by decide +kernel, rfl⟩
theorem d_JArrays_fill_IIIIV_13 : Dj prog_21_method_104_code 13 (.if_icmp .ge 14) 16 14 27 := ⟨by decide +kernel, rfl, rfl⟩
theorem d_JArrays_fill_IIIIV_16 : Dc prog_21_method_104_code 16 (.aload_n 0) 1 17 := ⟨by decide +kernel, rfl⟩
theorem d_JArrays_fill_IIIIV_17 : Dc prog_21_method_104_code 17 (.iload 4) 2 19 := ⟨by decide +kernel, rfl⟩
theorem d_JArrays_fill_IIIIV_19 : Dc prog_21_method_104_code 19 (.iload_n 3) 1 20 := ⟨by decide +kernel, rfl⟩
theorem d_JArrays_fill_IIIIV_20 : Dc prog_21_method_104_code 20 (.iastore) 1 21 := ⟨by decide +kernel, rfl⟩
theorem d_JArrays_fill_IIIIV_21 : Dc prog_21_method_104_code 21 (.iinc 4 1) 3 24 := ⟨by decide +kernel, rfl⟩
theorem d_JArrays_fill_IIIIV_24 : Dj prog_21_method_104_code 24 (.goto (-14)) 27 (-14) 10 := ⟨by decide +kernel, rfl, rfl⟩
theorem d_JArrays_fill_IIIIV_27 : Dc prog_21_method_104_code 27 (.return_) 1 28 := ⟨by decide +kernel, rfl⟩
theorem d_JArrays_fill_IIV_0 : Dc prog_21_method_103_code 0 (.iconst 0) 1 1 := ⟨by decide +kernel, rfl⟩
theorem d_JArrays_fill_IIV_1 : Dc prog_21_method_103_code 1 (.istore_n 2) 1 2 := ⟨by decide +kernel, rfl⟩
theorem d_JArrays_fill_IIV_2 : Dc prog_21_method_103_code 2 (.aload_n 0) 1 3 := ⟨by decide +kernel, rfl⟩
theorem d_JArrays_fill_IIV_3 : Dc prog_21_method_103_code 3 (.arraylength) 1 4 := ⟨by decide +kernel, rfl⟩
theorem d_JArrays_fill_IIV_4 : Dc prog_21_method_103_code 4 (.istore_n 3) 1 5 := ⟨by decide +kernel, rfl⟩
theorem d_JArrays_fill_IIV_5 : Dc prog_21_method_103_code 5 (.iload_n 2) 1 6 := ⟨by decide +kernel, rfl⟩
theorem d_JArrays_fill_IIV_6 : Dc prog_21_method_103_code 6 (.iload_n 3) 1 7 := ⟨by decide +kernel, rfl⟩
theorem d_JArrays_fill_IIV_7 : Dj prog_21_method_103_code 7 (.if_icmp .ge 13) 10 13 20 := ⟨by decide +kernel, rfl, rfl⟩
theorem d_JArrays_fill_IIV_10 : Dc prog_21_method_103_code 10 (.aload_n 0) 1 11 := ⟨by decide +kernel, rfl⟩
theorem d_JArrays_fill_IIV_11 : Dc prog_21_method_103_code 11 (.iload_n 2) 1 12 := ⟨by decide +kernel, rfl⟩
theorem d_JArrays_fill_IIV_12 : Dc prog_21_method_103_code 12 (.iload_n 1) 1 13 := ⟨by decide +kernel, rfl⟩
theorem d_JArrays_fill_IIV_13 : Dc prog_21_method_103_code 13 (.iastore) 1 14 := ⟨by decide +kernel, rfl⟩
theorem d_JArrays_fill_IIV_14 : Dc prog_21_method_103_code 14 (.iinc 2 1) 3 17 := ⟨by decide +kernel, rfl⟩
theorem d_JArrays_fill_IIV_17 : Dj prog_21_method_103_code 17 (.goto (-12)) 20 (-12) 5 := ⟨by decide +kernel, rfl, rfl⟩
theorem d_JArrays_fill_IIV_20 : Dc prog_21_method_103_code 20 (.return_) 1 21 := ⟨by decide +kernel, rfl⟩
theorem d_JArrays_rangeCheck_0 : Dc prog_21_method_30_code 0 (.iload_n 1) 1 1 := ⟨by decide +kernel, rfl⟩
theorem d_JArrays_rangeCheck_1 : Dc prog_21_method_30_code 1 (.iload_n 2) 1 2 := ⟨by decide +kernel, rfl⟩
theorem d_JArrays_rangeCheck_2 : Dj prog_21_method_30_code 2 (.if_icmp .le 44) 5 44 46 := ⟨by decide +kernel, rfl, rfl⟩
theorem d_JArrays_rangeCheck_46 : Dc prog_21_method_30_code 46 (.iload_n 1) 1 47 := ⟨by decide +kernel, rfl⟩
theorem d_JArrays_rangeCheck_47 : Dj prog_21_method_30_code 47 (.ifCond .ge 12) 50 12 59 := ⟨by decide +kernel, rfl, rfl⟩
theorem d_JArrays_rangeCheck_59 : Dc prog_21_method_30_code 59 (.iload_n 2) 1 60 := ⟨by decide +kernel, rfl⟩
theorem d_JArrays_rangeCheck_60 : Dc prog_21_method_30_code 60 (.iload_n 0) 1 61 := ⟨by decide +kernel, rfl⟩
theorem d_JArrays_rangeCheck_61 : Dj prog_21_method_30_code 61 (.if_icmp .le 12) 64 12 73 := ⟨by decide +kernel, rfl, rfl⟩
theorem d_JArrays_rangeCheck_73 : Dc prog_21_method_30_code 73 (.return_) 1 74 := ⟨by decide +kernel, rfl⟩
theorem d_JInteger_numberOfTrailingZeros_0 : Dc prog_15_method_48_code 0 (.iload_n 0) 1 1 := ⟨by decide +kernel, rfl⟩
theorem d_JInteger_numberOfTrailingZeros_1 : Dc prog_15_method_48_code 1 (.iconst (-1)) 1 2 := ⟨by decide +kernel, rfl⟩
theorem d_JInteger_numberOfTrailingZeros_2 : Dc prog_15_method_48_code 2 (.ixor) 1 3 := ⟨by decide +kernel, rfl⟩
theorem d_JInteger_numberOfTrailingZeros_3 : Dc prog_15_method_48_code 3 (.iload_n 0) 1 4 := ⟨by decide +kernel, rfl⟩
theorem d_JInteger_numberOfTrailingZeros_4 : Dc prog_15_method_48_code 4 (.iconst 1) 1 5 := ⟨by decide +kernel, rfl⟩
theorem d_JInteger_numberOfTrailingZeros_5 : Dc prog_15_method_48_code 5 (.isub) 1 6 := ⟨by decide +kernel, rfl⟩
theorem d_JInteger_numberOfTrailingZeros_6 : Dc prog_15_method_48_code 6 (.iand) 1 7 := ⟨by decide +kernel, rfl⟩
theorem d_JInteger_numberOfTrailingZeros_7 : Dc prog_15_method_48_code 7 (.istore_n 0) 1 8 := ⟨by decide +kernel, rfl⟩
theorem d_JInteger_numberOfTrailingZeros_8 : Dc prog_15_method_48_code 8 (.iload_n 0) 1 9 := ⟨by decide +kernel, rfl⟩
theorem d_JInteger_numberOfTrailingZeros_9 : Dj prog_15_method_48_code 9 (.ifCond .gt 8) 12 8 17 := ⟨by decide +kernel, rfl, rfl⟩
theorem d_JInteger_numberOfTrailingZeros_12 : Dc prog_15_method_48_code 12 (.iload_n 0) 1 13 := ⟨by decide +kernel, rfl⟩
theorem d_JInteger_numberOfTrailingZeros_13 : Dc prog_15_method_48_code 13 (.bipush 32) 2 15 := ⟨by decide +kernel, rfl⟩
theorem d_JInteger_numberOfTrailingZeros_15 : Dc prog_15_method_48_code 15 (.iand) 1 16 := ⟨by decide +kernel, rfl⟩
theorem d_JInteger_numberOfTrailingZeros_16 : Dc prog_15_method_48_code 16 (.ireturn) 1 17 := ⟨by decide +kernel, rfl⟩
theorem d_JInteger_numberOfTrailingZeros_17 : Dc prog_15_method_48_code 17 (.iconst 1) 1 18 := ⟨by decide +kernel, rfl⟩
theorem d_JInteger_numberOfTrailingZeros_18 : Dc prog_15_method_48_code 18 (.istore_n 1) 1 19 := ⟨by decide +kernel, rfl⟩
theorem d_JInteger_numberOfTrailingZeros_19 : Dc prog_15_method_48_code 19 (.iload_n 0) 1 20 := ⟨by decide +kernel, rfl⟩
theorem d_JInteger_numberOfTrailingZeros_20 : Dc prog_15_method_48_code 20 (.ldc_w 264) 3 23 := ⟨by decide +kernel, rfl⟩
theorem d_JInteger_numberOfTrailingZeros_23 : Dj prog_15_method_48_code 23 (.if_icmp .le 11) 26 11 34 := ⟨by decide +kernel, rfl, rfl⟩
theorem d_JInteger_numberOfTrailingZeros_34 : Dc prog_15_method_48_code 34 (.iload_n 0) 1 35 := ⟨by decide +kernel, rfl⟩
theorem d_JInteger_numberOfTrailingZeros_35 : Dc prog_15_method_48_code 35 (.sipush 256) 3 38 := ⟨by decide +kernel, rfl⟩
theorem d_JInteger_numberOfTrailingZeros_38 : Dj prog_15_method_48_code 38 (.if_icmp .le 11) 41 11 49 := ⟨by decide +kernel, rfl, rfl⟩
theorem d_JInteger_numberOfTrailingZeros_41 : Dc prog_15_method_48_code 41 (.iinc 1 8) 3 44 := ⟨by decide +kernel, rfl⟩
theorem d_JInteger_numberOfTrailingZeros_44 : Dc prog_15_method_48_code 44 (.iload_n 0) 1 45 := ⟨by decide +kernel, rfl⟩
theorem d_JInteger_numberOfTrailingZeros_45 : Dc prog_15_method_48_code 45 (.bipush 8) 2 47 := ⟨by decide +kernel, rfl⟩
theorem d_JInteger_numberOfTrailingZeros_47 : Dc prog_15_method_48_code 47 (.iushr) 1 48 := ⟨by decide +kernel, rfl⟩
theorem d_JInteger_numberOfTrailingZeros_48 : Dc prog_15_method_48_code 48 (.istore_n 0) 1 49 := ⟨by decide +kernel, rfl⟩
theorem d_JInteger_numberOfTrailingZeros_49 : Dc prog_15_method_48_code 49 (.iload_n 0) 1 50 := ⟨by decide +kernel, rfl⟩
theorem d_JInteger_numberOfTrailingZeros_50 : Dc prog_15_method_48_code 50 (.bipush 16) 2 52 := ⟨by decide +kernel, rfl⟩
theorem d_JInteger_numberOfTrailingZeros_52 : Dj prog_15_method_48_code 52 (.if_icmp .le 10) 55 10 62 := ⟨by decide +kernel, rfl, rfl⟩
theorem d_JInteger_numberOfTrailingZeros_55 : Dc prog_15_method_48_code 55 (.iinc 1 4) 3 58 := ⟨by decide +kernel, rfl⟩
theorem d_JInteger_numberOfTrailingZeros_58 : Dc prog_15_method_48_code 58 (.iload_n 0) 1 59 := ⟨by decide +kernel, rfl⟩
theorem d_JInteger_numberOfTrailingZeros_59 : Dc prog_15_method_48_code 59 (.iconst 4) 1 60 := ⟨by decide +kernel, rfl⟩
theorem d_JInteger_numberOfTrailingZeros_60 : Dc prog_15_method_48_code 60 (.iushr) 1 61 := ⟨by decide +kernel, rfl⟩
theorem d_JInteger_numberOfTrailingZeros_61 : Dc prog_15_method_48_code 61 (.istore_n 0) 1 62 := ⟨by decide +kernel, rfl⟩
theorem d_JInteger_numberOfTrailingZeros_62 : Dc prog_15_method_48_code 62 (.iload_n 0) 1 63 := ⟨by decide +kernel, rfl⟩
theorem d_JInteger_numberOfTrailingZeros_63 : Dc prog_15_method_48_code 63 (.iconst 4) 1 64 := ⟨by decide +kernel, rfl⟩
theorem d_JInteger_numberOfTrailingZeros_64 : Dj prog_15_method_48_code 64 (.if_icmp .le 10) 67 10 74 := ⟨by decide +kernel, rfl, rfl⟩
theorem d_JInteger_numberOfTrailingZeros_67 : Dc prog_15_method_48_code 67 (.iinc 1 2) 3 70 := ⟨by decide +kernel, rfl⟩
theorem d_JInteger_numberOfTrailingZeros_70 : Dc prog_15_method_48_code 70 (.iload_n 0) 1 71 := ⟨by decide +kernel, rfl⟩
theorem d_JInteger_numberOfTrailingZeros_71 : Dc prog_15_method_48_code 71 (.iconst 2) 1 72 := ⟨by decide +kernel, rfl⟩
theorem d_JInteger_numberOfTrailingZeros_72 : Dc prog_15_method_48_code 72 (.iushr) 1 73 := ⟨by decide +kernel, rfl⟩
theorem d_JInteger_numberOfTrailingZeros_73 : Dc prog_15_method_48_code 73 (.istore_n 0) 1 74 := ⟨by decide +kernel, rfl⟩
theorem d_JInteger_numberOfTrailingZeros_74 : Dc prog_15_method_48_code 74 (.iload_n 1) 1 75 := ⟨by decide +kernel, rfl⟩
theorem d_JInteger_numberOfTrailingZeros_75 : Dc prog_15_method_48_code 75 (.iload_n 0) 1 76 := ⟨by decide +kernel, rfl⟩
theorem d_JInteger_numberOfTrailingZeros_76 : Dc prog_15_method_48_code 76 (.iconst 1) 1 77 := ⟨by decide +kernel, rfl⟩
theorem d_JInteger_numberOfTrailingZeros_77 : Dc prog_15_method_48_code 77 (.iushr) 1 78 := ⟨by decide +kernel, rfl⟩
theorem d_JInteger_numberOfTrailingZeros_78 : Dc prog_15_method_48_code 78 (.iadd) 1 79 := ⟨by decide +kernel, rfl⟩
theorem d_JInteger_numberOfTrailingZeros_79 : Dc prog_15_method_48_code 79 (.ireturn) 1 80 := ⟨by decide +kernel, rfl⟩
theorem ml_JArrays_13 : Cond.methodLink "java/util/Arrays" 13 m_JArrays_rangeCheck.1 ∈ lw_gd := gd 867 (by decide +kernel) rfl
theorem k_JInteger_264 : Cond.constant "java/lang/Integer" 264 (65536) ∈ lw_gd := gd 1053 (by decide +kernel) rfl
/-- x from place a on, up to i -/
def fil (f : Nat → Int32) (a : Nat) (x : Int32) (i : Nat) : Nat → Int32 := fun k => if a ≤ k ∧ k < i then x else f k
theorem fil_0 (f : Nat → Int32) (a : Nat) (x : Int32) : fil f a x a = f := by
  funext k
  unfold fil
  rw [if_neg (by omega)]
theorem fil_s {f : Nat → Int32} {a i : Nat} {x : Int32} (h : a ≤ i) : upd (fil f a x i) i x = fil f a x (i + 1) := by
  funext k
  rw [upd_eq]
  unfold fil
  by_cases e : k = i
  · rw [if_pos e, if_pos (by omega)]
  · rw [if_neg e]
    by_cases e2 : a ≤ k ∧ k < i
    · rw [if_pos e2, if_pos (by omega)]
    · rw [if_neg e2, if_neg (by omega)]
def filL (f : Nat → Int64) (x : Int64) (i : Nat) : Nat → Int64 := fun k => if k < i then x else f k
theorem filL_0 (f : Nat → Int64) (x : Int64) : filL f x 0 = f := by
  funext k
  unfold filL
  rw [if_neg (by omega)]
theorem filL_s {f : Nat → Int64} {i : Nat} {x : Int64} : vp_updL (filL f x i) i x = filL f x (i + 1) := by
  funext k
  rw [updL_eq]
  unfold filL
  by_cases e : k = i
  · rw [if_pos e, if_pos (by omega)]
  · rw [if_neg e]
    by_cases e2 : k < i
    · rw [if_pos e2, if_pos (by omega)]
    · rw [if_neg e2, if_neg (by omega)]
def tzk (x : Nat) : Nat → Nat
  | 0 => 0
  | k + 1 => if x.testBit (11 - k) then 11 - k else tzk x k
/-- the lowest bit -/
def tz (x : Nat) : Nat := tzk x 12
theorem c_JArrays_fillI {E : EV} {w : Mem} {o m : Nat} {x : Int32} (ho : Lv w o (2, m)) : T E m_JArrays_fill_IIV 0 0 0 [.ref o, .int x] w (Ret none (sA w o (fil (rI w o) 0 x m))) := by
  refine T_of (L := [.ref o, .int x, un, un]) cf_JArrays_fill_IIV rfl (Nat.le_of_ble_eq_true rfl) (fun X hX hF => ?_)
  have hm := ho.2.2
  have lp : ∀ (fuel : Nat) (i : Nat), m - i < fuel → (i ≤ m) → G0 E X 0 0 5 [.ref o, .int x, .int (nI i), .int (nI m)] [] (sA w o (fil (rI w o) 0 x i)) := by
    intro fuel
    induction fuel with
    | zero => intro i q0; exact absurd q0 (Nat.not_lt_zero _)
    | succ fuel ih =>
      intro i q0 q1
      refine g_iload2 hX d_JArrays_fill_IIV_5 ?_
      refine g_iload3 hX d_JArrays_fill_IIV_6 ?_
      refine g_icmpN_ge hX d_JArrays_fill_IIV_7 (by omega) (by omega) (fun c0 => ?_) (fun c0 => ?_)
      · refine g_vret hX hF d_JArrays_fill_IIV_20 (by omega) (by omega) ?_
        obtain rfl : i = m := by omega
        exact ⟨rfl, rfl⟩
      · refine g_aload0 hX d_JArrays_fill_IIV_10 ?_
        refine g_iload2 hX d_JArrays_fill_IIV_11 ?_
        refine g_iload1 hX d_JArrays_fill_IIV_12 ?_
        refine g_iast hX d_JArrays_fill_IIV_13 (show Lv (sA w o (fil (rI w o) 0 x i)) o (2, m) from ho) rfl (by omega) ?_
        refine g_iincN2 hX d_JArrays_fill_IIV_14 rfl (by decide) ?_
        refine g_goto hX d_JArrays_fill_IIV_17 ?_
        refine g_mem (by rw [sI_sA, fil_s (Nat.zero_le _)]) ?_
        exact ih (i + 1) (by omega) (by omega)
  refine g_iconst (v := nI 0) hX d_JArrays_fill_IIV_0 rfl ?_
  refine g_istore2 hX d_JArrays_fill_IIV_1 rfl (by decide) ?_
  refine g_aload0 hX d_JArrays_fill_IIV_2 ?_
  refine g_alenI hX d_JArrays_fill_IIV_3 ho ?_
  refine g_istore3 hX d_JArrays_fill_IIV_4 rfl (by decide) ?_
  refine g_mem (show w = sA w o (fil (rI w o) 0 x 0) by rw [fil_0, sA_self]) ?_
  exact lp (m + 1) 0 (by omega) (by omega)
theorem c_JArrays_rangeCheck {E : EV} {w : Mem} {l a z : Nat} (h1 : a ≤ z) (h2 : z ≤ l) (h3 : l < 100000) : T E m_JArrays_rangeCheck 0 0 0 [.int (nI l), .int (nI a), .int (nI z)] w (Ret none w) := by
  refine T_of (L := [.int (nI l), .int (nI a), .int (nI z)]) cf_JArrays_rangeCheck rfl (Nat.le_of_ble_eq_true rfl) (fun X hX hF => ?_)
  refine g_iload1 hX d_JArrays_rangeCheck_0 ?_
  refine g_iload2 hX d_JArrays_rangeCheck_1 ?_
  refine g_icmpN_le hX d_JArrays_rangeCheck_2 (by omega) (by omega) (fun c0 => ?_) (fun h => absurd h (by omega))
  refine g_iload1 hX d_JArrays_rangeCheck_46 ?_
  refine g_if_ge hX d_JArrays_rangeCheck_47 (fun c1 => ?_) (fun h => absurd (Int32.not_lt.mp (nI_pos (show a < 2 ^ 31 by omega))) h)
  refine g_iload2 hX d_JArrays_rangeCheck_59 ?_
  refine g_iload0 hX d_JArrays_rangeCheck_60 ?_
  refine g_icmpN_le hX d_JArrays_rangeCheck_61 (by omega) (by omega) (fun c2 => ?_) (fun h => absurd h (by omega))
  refine g_vret hX hF d_JArrays_rangeCheck_73 (by omega) (by omega) ?_
  exact ⟨rfl, rfl⟩
theorem c_JArrays_fillR {E : EV} {w : Mem} {o m a z : Nat} {x : Int32} (ho : Lv w o (2, m)) (h1 : a ≤ z) (h2 : z ≤ m) : T E m_JArrays_fill_IIIIV 1 0 0 [.ref o, .int (nI a), .int (nI z), .int x] w (Ret none (sA w o (fil (rI w o) a x z))) := by
  refine T_of (L := [.ref o, .int (nI a), .int (nI z), .int x, un]) cf_JArrays_fill_IIIIV rfl (Nat.le_of_ble_eq_true rfl) (fun X hX hF => ?_)
  have hm := ho.2.2
  have lp : ∀ (fuel : Nat) (i : Nat), z - i < fuel → (a ≤ i) → (i ≤ z) → G0 E X 0 0 10 [.ref o, .int (nI a), .int (nI z), .int x, .int (nI i)] [] (sA w o (fil (rI w o) a x i)) := by
    intro fuel
    induction fuel with
    | zero => intro i q0; exact absurd q0 (Nat.not_lt_zero _)
    | succ fuel ih =>
      intro i q0 q1 q2
      refine g_iload4 hX d_JArrays_fill_IIIIV_10 ?_
      refine g_iload2 hX d_JArrays_fill_IIIIV_12 ?_
      refine g_icmpN_ge hX d_JArrays_fill_IIIIV_13 (by omega) (by omega) (fun c0 => ?_) (fun c0 => ?_)
      · refine g_vret hX hF d_JArrays_fill_IIIIV_27 (by omega) (by omega) ?_
        obtain rfl : i = z := by omega
        exact ⟨rfl, rfl⟩
      · refine g_aload0 hX d_JArrays_fill_IIIIV_16 ?_
        refine g_iload4 hX d_JArrays_fill_IIIIV_17 ?_
        refine g_iload3 hX d_JArrays_fill_IIIIV_19 ?_
        refine g_iast hX d_JArrays_fill_IIIIV_20 (show Lv (sA w o (fil (rI w o) a x i)) o (2, m) from ho) rfl (by omega) ?_
        refine g_iincN4 hX d_JArrays_fill_IIIIV_21 rfl (by decide) ?_
        refine g_goto hX d_JArrays_fill_IIIIV_24 ?_
        refine g_mem (by rw [sI_sA, fil_s q1]) ?_
        exact ih (i + 1) (by omega) (by omega) (by omega)
  refine g_aload0 hX d_JArrays_fill_IIIIV_0 ?_
  refine g_alenI hX d_JArrays_fill_IIIIV_1 ho ?_
  refine g_iload1 hX d_JArrays_fill_IIIIV_2 ?_
  refine g_iload2 hX d_JArrays_fill_IIIIV_3 ?_
  refine g_callS (As := [_, _, _]) hX hF.1 d_JArrays_fill_IIIIV_4 ml_JArrays_13 cf_JArrays_rangeCheck cs_JArrays_rangeCheck rfl (c_JArrays_rangeCheck h1 h2 (by omega)) (by omega) (by omega) (by omega) (Nat.le_of_ble_eq_true rfl) ?_
  refine ret_k ?_
  refine g_iload1 hX d_JArrays_fill_IIIIV_7 ?_
  refine g_istore4 hX d_JArrays_fill_IIIIV_8 rfl (by decide) ?_
  refine g_mem (show w = sA w o (fil (rI w o) a x a) by rw [fil_0, sA_self]) ?_
  exact lp (z + 1) a (by omega) (Nat.le_refl _) h1
theorem c_JArrays_fillL {E : EV} {w : Mem} {o m : Nat} {x : Int64} (ho : Lv w o (3, m)) : T E m_JArrays_fill 0 0 0 [.ref o, .long x] w (Ret none (sB w o (filL (rJ w o) x m))) := by
  refine T_of (L := [.ref o, .long x, un, un, un]) cf_JArrays_fill rfl (Nat.le_of_ble_eq_true rfl) (fun X hX hF => ?_)
  have hm := ho.2.2
  have lp : ∀ (fuel : Nat) (i : Nat), m - i < fuel → (i ≤ m) → G0 E X 0 0 6 [.ref o, .long x, un, .int (nI i), .int (nI m)] [] (sB w o (filL (rJ w o) x i)) := by
    intro fuel
    induction fuel with
    | zero => intro i q0; exact absurd q0 (Nat.not_lt_zero _)
    | succ fuel ih =>
      intro i q0 q1
      refine g_iload3 hX d_JArrays_fill_6 ?_
      refine g_iload4 hX d_JArrays_fill_7 ?_
      refine g_icmpN_ge hX d_JArrays_fill_9 (by omega) (by omega) (fun c0 => ?_) (fun c0 => ?_)
      · refine g_vret hX hF d_JArrays_fill_22 (by omega) (by omega) ?_
        obtain rfl : i = m := by omega
        exact ⟨rfl, rfl⟩
      · refine g_aload0 hX d_JArrays_fill_12 ?_
        refine g_iload3 hX d_JArrays_fill_13 ?_
        refine g_lload1 hX d_JArrays_fill_14 ?_
        refine g_last hX d_JArrays_fill_15 (show Lv (sB w o (filL (rJ w o) x i)) o (3, m) from ho) rfl (by omega) ?_
        refine g_iincN3 hX d_JArrays_fill_16 rfl (by decide) ?_
        refine g_goto hX d_JArrays_fill_19 ?_
        refine g_mem (by rw [sJ_sB, filL_s]) ?_
        exact ih (i + 1) (by omega) (by omega)
  refine g_iconst (v := nI 0) hX d_JArrays_fill_0 rfl ?_
  refine g_istore3 hX d_JArrays_fill_1 rfl (by decide) ?_
  refine g_aload0 hX d_JArrays_fill_2 ?_
  refine g_alenJ hX d_JArrays_fill_3 ho ?_
  refine g_istore4 hX d_JArrays_fill_4 rfl (by decide) ?_
  refine g_mem (show w = sB w o (filL (rJ w o) x 0) by rw [filL_0, sB_self]) ?_
  exact lp (m + 1) 0 (by omega) (by omega)
def tzI (x : Int32) : Int32 := (x ^^^ (-1)) &&& (x - nI 1)
theorem tzI_all : ∀ a, a < 64 → ∀ c, c < 64 → 0 < 64 * a + c → tz (64 * a + c) < 12 ∧ tzI (nI (64 * a + c)) = nI (2 ^ tz (64 * a + c) - 1) := by decide +kernel
theorem tzI_n {x : Nat} (h0 : 0 < x) (h : x < 4096) : tz x < 12 ∧ tzI (nI x) = nI (2 ^ tz x - 1) := by
  have := tzI_all (x / 64) (by omega) (x % 64) (by omega)
  rw [show 64 * (x / 64) + x % 64 = x by omega] at this
  exact this h0
theorem c_JInteger_ntz {E : EV} {w : Mem} {x : Nat} (h0 : 0 < x) (hx : x < 4096) : T E m_JInteger_numberOfTrailingZeros 0 0 0 [.int (nI x)] w (Ret (some (.int (nI (tz x)))) w) := by
  refine T_of (L := [.int (nI x), un]) cf_JInteger_numberOfTrailingZeros rfl (Nat.le_of_ble_eq_true rfl) (fun X hX hF => ?_)
  obtain ⟨h12, hy⟩ := tzI_n h0 hx
  refine g_iload0 hX d_JInteger_numberOfTrailingZeros_0 ?_
  refine g_iconst (v := -1) hX d_JInteger_numberOfTrailingZeros_1 rfl ?_
  refine g_ixor hX d_JInteger_numberOfTrailingZeros_2 ?_
  refine g_iload0 hX d_JInteger_numberOfTrailingZeros_3 ?_
  refine g_iconst (v := nI 1) hX d_JInteger_numberOfTrailingZeros_4 rfl ?_
  refine g_isub hX d_JInteger_numberOfTrailingZeros_5 ?_
  refine g_iand hX d_JInteger_numberOfTrailingZeros_6 ?_
  refine g_istore0 hX d_JInteger_numberOfTrailingZeros_7 (by decide) ?_
  show G0 _ _ _ _ _ [Value.int (tzI (nI x)), un] [] _
  have e0 : tz x = 0 ∨ tz x = 1 ∨ tz x = 2 ∨ tz x = 3 ∨ tz x = 4 ∨ tz x = 5 ∨ tz x = 6 ∨ tz x = 7 ∨ tz x = 8 ∨ tz x = 9 ∨ tz x = 10 ∨ tz x = 11 := by omega
  rcases e0 with e | e | e | e | e | e | e | e | e | e | e | e
  · have ht : tz x = 0 := e
    rw [ht] at hy
    refine g_loc (show [Value.int (tzI (nI x)), un] = [.int (nI 0), un] by rw [hy]) ?_
    refine g_iload0 hX d_JInteger_numberOfTrailingZeros_8 ?_
    refine g_if_gt hX d_JInteger_numberOfTrailingZeros_9 (fun h => absurd h (by decide)) (fun c0 => ?_)
    refine g_iload0 hX d_JInteger_numberOfTrailingZeros_12 ?_
    refine g_bipush (v := nI 32) hX d_JInteger_numberOfTrailingZeros_13 rfl ?_
    refine g_iand hX d_JInteger_numberOfTrailingZeros_15 ?_
    refine g_iret hX hF d_JInteger_numberOfTrailingZeros_16 (by omega) (by omega) ?_
    exact ⟨by rw [ht]; rfl, rfl⟩
  · have ht : tz x = 1 := e
    rw [ht] at hy
    refine g_loc (show [Value.int (tzI (nI x)), un] = [.int (nI 1), un] by rw [hy]) ?_
    refine g_iload0 hX d_JInteger_numberOfTrailingZeros_8 ?_
    refine g_if_gt hX d_JInteger_numberOfTrailingZeros_9 (fun c0 => ?_) (fun h => absurd (by decide) h)
    refine g_iconst (v := nI 1) hX d_JInteger_numberOfTrailingZeros_17 rfl ?_
    refine g_istore1 hX d_JInteger_numberOfTrailingZeros_18 rfl (by decide) ?_
    refine g_iload0 hX d_JInteger_numberOfTrailingZeros_19 ?_
    refine g_ldc_w (v := nI 65536) hX d_JInteger_numberOfTrailingZeros_20 k_JInteger_264 rfl ?_
    refine g_icmp_le hX d_JInteger_numberOfTrailingZeros_23 (fun c1 => ?_) (fun h => absurd (by decide) h)
    refine g_iload0 hX d_JInteger_numberOfTrailingZeros_34 ?_
    refine g_sipush (v := nI 256) hX d_JInteger_numberOfTrailingZeros_35 rfl ?_
    refine g_icmp_le hX d_JInteger_numberOfTrailingZeros_38 (fun c2 => ?_) (fun h => absurd (by decide) h)
    refine g_iload0 hX d_JInteger_numberOfTrailingZeros_49 ?_
    refine g_bipush (v := nI 16) hX d_JInteger_numberOfTrailingZeros_50 rfl ?_
    refine g_icmp_le hX d_JInteger_numberOfTrailingZeros_52 (fun c3 => ?_) (fun h => absurd (by decide) h)
    refine g_iload0 hX d_JInteger_numberOfTrailingZeros_62 ?_
    refine g_iconst (v := nI 4) hX d_JInteger_numberOfTrailingZeros_63 rfl ?_
    refine g_icmp_le hX d_JInteger_numberOfTrailingZeros_64 (fun c4 => ?_) (fun h => absurd (by decide) h)
    refine g_iload1 hX d_JInteger_numberOfTrailingZeros_74 ?_
    refine g_iload0 hX d_JInteger_numberOfTrailingZeros_75 ?_
    refine g_iconst (v := nI 1) hX d_JInteger_numberOfTrailingZeros_76 rfl ?_
    refine g_iushr hX d_JInteger_numberOfTrailingZeros_77 ?_
    refine g_iadd hX d_JInteger_numberOfTrailingZeros_78 ?_
    refine g_iret hX hF d_JInteger_numberOfTrailingZeros_79 (by omega) (by omega) ?_
    exact ⟨by rw [ht]; rfl, rfl⟩
  · have ht : tz x = 2 := e
    rw [ht] at hy
    refine g_loc (show [Value.int (tzI (nI x)), un] = [.int (nI 3), un] by rw [hy]) ?_
    refine g_iload0 hX d_JInteger_numberOfTrailingZeros_8 ?_
    refine g_if_gt hX d_JInteger_numberOfTrailingZeros_9 (fun c0 => ?_) (fun h => absurd (by decide) h)
    refine g_iconst (v := nI 1) hX d_JInteger_numberOfTrailingZeros_17 rfl ?_
    refine g_istore1 hX d_JInteger_numberOfTrailingZeros_18 rfl (by decide) ?_
    refine g_iload0 hX d_JInteger_numberOfTrailingZeros_19 ?_
    refine g_ldc_w (v := nI 65536) hX d_JInteger_numberOfTrailingZeros_20 k_JInteger_264 rfl ?_
    refine g_icmp_le hX d_JInteger_numberOfTrailingZeros_23 (fun c1 => ?_) (fun h => absurd (by decide) h)
    refine g_iload0 hX d_JInteger_numberOfTrailingZeros_34 ?_
    refine g_sipush (v := nI 256) hX d_JInteger_numberOfTrailingZeros_35 rfl ?_
    refine g_icmp_le hX d_JInteger_numberOfTrailingZeros_38 (fun c2 => ?_) (fun h => absurd (by decide) h)
    refine g_iload0 hX d_JInteger_numberOfTrailingZeros_49 ?_
    refine g_bipush (v := nI 16) hX d_JInteger_numberOfTrailingZeros_50 rfl ?_
    refine g_icmp_le hX d_JInteger_numberOfTrailingZeros_52 (fun c3 => ?_) (fun h => absurd (by decide) h)
    refine g_iload0 hX d_JInteger_numberOfTrailingZeros_62 ?_
    refine g_iconst (v := nI 4) hX d_JInteger_numberOfTrailingZeros_63 rfl ?_
    refine g_icmp_le hX d_JInteger_numberOfTrailingZeros_64 (fun c4 => ?_) (fun h => absurd (by decide) h)
    refine g_iload1 hX d_JInteger_numberOfTrailingZeros_74 ?_
    refine g_iload0 hX d_JInteger_numberOfTrailingZeros_75 ?_
    refine g_iconst (v := nI 1) hX d_JInteger_numberOfTrailingZeros_76 rfl ?_
    refine g_iushr hX d_JInteger_numberOfTrailingZeros_77 ?_
    refine g_iadd hX d_JInteger_numberOfTrailingZeros_78 ?_
    refine g_iret hX hF d_JInteger_numberOfTrailingZeros_79 (by omega) (by omega) ?_
    exact ⟨by rw [ht]; rfl, rfl⟩
  · have ht : tz x = 3 := e
    rw [ht] at hy
    refine g_loc (show [Value.int (tzI (nI x)), un] = [.int (nI 7), un] by rw [hy]) ?_
    refine g_iload0 hX d_JInteger_numberOfTrailingZeros_8 ?_
    refine g_if_gt hX d_JInteger_numberOfTrailingZeros_9 (fun c0 => ?_) (fun h => absurd (by decide) h)
    refine g_iconst (v := nI 1) hX d_JInteger_numberOfTrailingZeros_17 rfl ?_
    refine g_istore1 hX d_JInteger_numberOfTrailingZeros_18 rfl (by decide) ?_
    refine g_iload0 hX d_JInteger_numberOfTrailingZeros_19 ?_
    refine g_ldc_w (v := nI 65536) hX d_JInteger_numberOfTrailingZeros_20 k_JInteger_264 rfl ?_
    refine g_icmp_le hX d_JInteger_numberOfTrailingZeros_23 (fun c1 => ?_) (fun h => absurd (by decide) h)
    refine g_iload0 hX d_JInteger_numberOfTrailingZeros_34 ?_
    refine g_sipush (v := nI 256) hX d_JInteger_numberOfTrailingZeros_35 rfl ?_
    refine g_icmp_le hX d_JInteger_numberOfTrailingZeros_38 (fun c2 => ?_) (fun h => absurd (by decide) h)
    refine g_iload0 hX d_JInteger_numberOfTrailingZeros_49 ?_
    refine g_bipush (v := nI 16) hX d_JInteger_numberOfTrailingZeros_50 rfl ?_
    refine g_icmp_le hX d_JInteger_numberOfTrailingZeros_52 (fun c3 => ?_) (fun h => absurd (by decide) h)
    refine g_iload0 hX d_JInteger_numberOfTrailingZeros_62 ?_
    refine g_iconst (v := nI 4) hX d_JInteger_numberOfTrailingZeros_63 rfl ?_
    refine g_icmp_le hX d_JInteger_numberOfTrailingZeros_64 (fun h => absurd h (by decide)) (fun c4 => ?_)
    refine g_iincM1 (m := 2) hX d_JInteger_numberOfTrailingZeros_67 rfl rfl (by decide) ?_
    refine g_iload0 hX d_JInteger_numberOfTrailingZeros_70 ?_
    refine g_iconst (v := nI 2) hX d_JInteger_numberOfTrailingZeros_71 rfl ?_
    refine g_iushr hX d_JInteger_numberOfTrailingZeros_72 ?_
    refine g_istore0 hX d_JInteger_numberOfTrailingZeros_73 (by decide) ?_
    refine g_iload1 hX d_JInteger_numberOfTrailingZeros_74 ?_
    refine g_iload0 hX d_JInteger_numberOfTrailingZeros_75 ?_
    refine g_iconst (v := nI 1) hX d_JInteger_numberOfTrailingZeros_76 rfl ?_
    refine g_iushr hX d_JInteger_numberOfTrailingZeros_77 ?_
    refine g_iadd hX d_JInteger_numberOfTrailingZeros_78 ?_
    refine g_iret hX hF d_JInteger_numberOfTrailingZeros_79 (by omega) (by omega) ?_
    exact ⟨by rw [ht]; rfl, rfl⟩
  · have ht : tz x = 4 := e
    rw [ht] at hy
    refine g_loc (show [Value.int (tzI (nI x)), un] = [.int (nI 15), un] by rw [hy]) ?_
    refine g_iload0 hX d_JInteger_numberOfTrailingZeros_8 ?_
    refine g_if_gt hX d_JInteger_numberOfTrailingZeros_9 (fun c0 => ?_) (fun h => absurd (by decide) h)
    refine g_iconst (v := nI 1) hX d_JInteger_numberOfTrailingZeros_17 rfl ?_
    refine g_istore1 hX d_JInteger_numberOfTrailingZeros_18 rfl (by decide) ?_
    refine g_iload0 hX d_JInteger_numberOfTrailingZeros_19 ?_
    refine g_ldc_w (v := nI 65536) hX d_JInteger_numberOfTrailingZeros_20 k_JInteger_264 rfl ?_
    refine g_icmp_le hX d_JInteger_numberOfTrailingZeros_23 (fun c1 => ?_) (fun h => absurd (by decide) h)
    refine g_iload0 hX d_JInteger_numberOfTrailingZeros_34 ?_
    refine g_sipush (v := nI 256) hX d_JInteger_numberOfTrailingZeros_35 rfl ?_
    refine g_icmp_le hX d_JInteger_numberOfTrailingZeros_38 (fun c2 => ?_) (fun h => absurd (by decide) h)
    refine g_iload0 hX d_JInteger_numberOfTrailingZeros_49 ?_
    refine g_bipush (v := nI 16) hX d_JInteger_numberOfTrailingZeros_50 rfl ?_
    refine g_icmp_le hX d_JInteger_numberOfTrailingZeros_52 (fun c3 => ?_) (fun h => absurd (by decide) h)
    refine g_iload0 hX d_JInteger_numberOfTrailingZeros_62 ?_
    refine g_iconst (v := nI 4) hX d_JInteger_numberOfTrailingZeros_63 rfl ?_
    refine g_icmp_le hX d_JInteger_numberOfTrailingZeros_64 (fun h => absurd h (by decide)) (fun c4 => ?_)
    refine g_iincM1 (m := 2) hX d_JInteger_numberOfTrailingZeros_67 rfl rfl (by decide) ?_
    refine g_iload0 hX d_JInteger_numberOfTrailingZeros_70 ?_
    refine g_iconst (v := nI 2) hX d_JInteger_numberOfTrailingZeros_71 rfl ?_
    refine g_iushr hX d_JInteger_numberOfTrailingZeros_72 ?_
    refine g_istore0 hX d_JInteger_numberOfTrailingZeros_73 (by decide) ?_
    refine g_iload1 hX d_JInteger_numberOfTrailingZeros_74 ?_
    refine g_iload0 hX d_JInteger_numberOfTrailingZeros_75 ?_
    refine g_iconst (v := nI 1) hX d_JInteger_numberOfTrailingZeros_76 rfl ?_
    refine g_iushr hX d_JInteger_numberOfTrailingZeros_77 ?_
    refine g_iadd hX d_JInteger_numberOfTrailingZeros_78 ?_
    refine g_iret hX hF d_JInteger_numberOfTrailingZeros_79 (by omega) (by omega) ?_
    exact ⟨by rw [ht]; rfl, rfl⟩
  · have ht : tz x = 5 := e
    rw [ht] at hy
    refine g_loc (show [Value.int (tzI (nI x)), un] = [.int (nI 31), un] by rw [hy]) ?_
    refine g_iload0 hX d_JInteger_numberOfTrailingZeros_8 ?_
    refine g_if_gt hX d_JInteger_numberOfTrailingZeros_9 (fun c0 => ?_) (fun h => absurd (by decide) h)
    refine g_iconst (v := nI 1) hX d_JInteger_numberOfTrailingZeros_17 rfl ?_
    refine g_istore1 hX d_JInteger_numberOfTrailingZeros_18 rfl (by decide) ?_
    refine g_iload0 hX d_JInteger_numberOfTrailingZeros_19 ?_
    refine g_ldc_w (v := nI 65536) hX d_JInteger_numberOfTrailingZeros_20 k_JInteger_264 rfl ?_
    refine g_icmp_le hX d_JInteger_numberOfTrailingZeros_23 (fun c1 => ?_) (fun h => absurd (by decide) h)
    refine g_iload0 hX d_JInteger_numberOfTrailingZeros_34 ?_
    refine g_sipush (v := nI 256) hX d_JInteger_numberOfTrailingZeros_35 rfl ?_
    refine g_icmp_le hX d_JInteger_numberOfTrailingZeros_38 (fun c2 => ?_) (fun h => absurd (by decide) h)
    refine g_iload0 hX d_JInteger_numberOfTrailingZeros_49 ?_
    refine g_bipush (v := nI 16) hX d_JInteger_numberOfTrailingZeros_50 rfl ?_
    refine g_icmp_le hX d_JInteger_numberOfTrailingZeros_52 (fun h => absurd h (by decide)) (fun c3 => ?_)
    refine g_iincM1 (m := 4) hX d_JInteger_numberOfTrailingZeros_55 rfl rfl (by decide) ?_
    refine g_iload0 hX d_JInteger_numberOfTrailingZeros_58 ?_
    refine g_iconst (v := nI 4) hX d_JInteger_numberOfTrailingZeros_59 rfl ?_
    refine g_iushr hX d_JInteger_numberOfTrailingZeros_60 ?_
    refine g_istore0 hX d_JInteger_numberOfTrailingZeros_61 (by decide) ?_
    refine g_iload0 hX d_JInteger_numberOfTrailingZeros_62 ?_
    refine g_iconst (v := nI 4) hX d_JInteger_numberOfTrailingZeros_63 rfl ?_
    refine g_icmp_le hX d_JInteger_numberOfTrailingZeros_64 (fun c4 => ?_) (fun h => absurd (by decide) h)
    refine g_iload1 hX d_JInteger_numberOfTrailingZeros_74 ?_
    refine g_iload0 hX d_JInteger_numberOfTrailingZeros_75 ?_
    refine g_iconst (v := nI 1) hX d_JInteger_numberOfTrailingZeros_76 rfl ?_
    refine g_iushr hX d_JInteger_numberOfTrailingZeros_77 ?_
    refine g_iadd hX d_JInteger_numberOfTrailingZeros_78 ?_
    refine g_iret hX hF d_JInteger_numberOfTrailingZeros_79 (by omega) (by omega) ?_
    exact ⟨by rw [ht]; rfl, rfl⟩
  · have ht : tz x = 6 := e
    rw [ht] at hy
    refine g_loc (show [Value.int (tzI (nI x)), un] = [.int (nI 63), un] by rw [hy]) ?_
    refine g_iload0 hX d_JInteger_numberOfTrailingZeros_8 ?_
    refine g_if_gt hX d_JInteger_numberOfTrailingZeros_9 (fun c0 => ?_) (fun h => absurd (by decide) h)
    refine g_iconst (v := nI 1) hX d_JInteger_numberOfTrailingZeros_17 rfl ?_
    refine g_istore1 hX d_JInteger_numberOfTrailingZeros_18 rfl (by decide) ?_
    refine g_iload0 hX d_JInteger_numberOfTrailingZeros_19 ?_
    refine g_ldc_w (v := nI 65536) hX d_JInteger_numberOfTrailingZeros_20 k_JInteger_264 rfl ?_
    refine g_icmp_le hX d_JInteger_numberOfTrailingZeros_23 (fun c1 => ?_) (fun h => absurd (by decide) h)
    refine g_iload0 hX d_JInteger_numberOfTrailingZeros_34 ?_
    refine g_sipush (v := nI 256) hX d_JInteger_numberOfTrailingZeros_35 rfl ?_
    refine g_icmp_le hX d_JInteger_numberOfTrailingZeros_38 (fun c2 => ?_) (fun h => absurd (by decide) h)
    refine g_iload0 hX d_JInteger_numberOfTrailingZeros_49 ?_
    refine g_bipush (v := nI 16) hX d_JInteger_numberOfTrailingZeros_50 rfl ?_
    refine g_icmp_le hX d_JInteger_numberOfTrailingZeros_52 (fun h => absurd h (by decide)) (fun c3 => ?_)
    refine g_iincM1 (m := 4) hX d_JInteger_numberOfTrailingZeros_55 rfl rfl (by decide) ?_
    refine g_iload0 hX d_JInteger_numberOfTrailingZeros_58 ?_
    refine g_iconst (v := nI 4) hX d_JInteger_numberOfTrailingZeros_59 rfl ?_
    refine g_iushr hX d_JInteger_numberOfTrailingZeros_60 ?_
    refine g_istore0 hX d_JInteger_numberOfTrailingZeros_61 (by decide) ?_
    refine g_iload0 hX d_JInteger_numberOfTrailingZeros_62 ?_
    refine g_iconst (v := nI 4) hX d_JInteger_numberOfTrailingZeros_63 rfl ?_
    refine g_icmp_le hX d_JInteger_numberOfTrailingZeros_64 (fun c4 => ?_) (fun h => absurd (by decide) h)
    refine g_iload1 hX d_JInteger_numberOfTrailingZeros_74 ?_
    refine g_iload0 hX d_JInteger_numberOfTrailingZeros_75 ?_
    refine g_iconst (v := nI 1) hX d_JInteger_numberOfTrailingZeros_76 rfl ?_
    refine g_iushr hX d_JInteger_numberOfTrailingZeros_77 ?_
    refine g_iadd hX d_JInteger_numberOfTrailingZeros_78 ?_
    refine g_iret hX hF d_JInteger_numberOfTrailingZeros_79 (by omega) (by omega) ?_
    exact ⟨by rw [ht]; rfl, rfl⟩
  · have ht : tz x = 7 := e
    rw [ht] at hy
    refine g_loc (show [Value.int (tzI (nI x)), un] = [.int (nI 127), un] by rw [hy]) ?_
    refine g_iload0 hX d_JInteger_numberOfTrailingZeros_8 ?_
    refine g_if_gt hX d_JInteger_numberOfTrailingZeros_9 (fun c0 => ?_) (fun h => absurd (by decide) h)
    refine g_iconst (v := nI 1) hX d_JInteger_numberOfTrailingZeros_17 rfl ?_
    refine g_istore1 hX d_JInteger_numberOfTrailingZeros_18 rfl (by decide) ?_
    refine g_iload0 hX d_JInteger_numberOfTrailingZeros_19 ?_
    refine g_ldc_w (v := nI 65536) hX d_JInteger_numberOfTrailingZeros_20 k_JInteger_264 rfl ?_
    refine g_icmp_le hX d_JInteger_numberOfTrailingZeros_23 (fun c1 => ?_) (fun h => absurd (by decide) h)
    refine g_iload0 hX d_JInteger_numberOfTrailingZeros_34 ?_
    refine g_sipush (v := nI 256) hX d_JInteger_numberOfTrailingZeros_35 rfl ?_
    refine g_icmp_le hX d_JInteger_numberOfTrailingZeros_38 (fun c2 => ?_) (fun h => absurd (by decide) h)
    refine g_iload0 hX d_JInteger_numberOfTrailingZeros_49 ?_
    refine g_bipush (v := nI 16) hX d_JInteger_numberOfTrailingZeros_50 rfl ?_
    refine g_icmp_le hX d_JInteger_numberOfTrailingZeros_52 (fun h => absurd h (by decide)) (fun c3 => ?_)
    refine g_iincM1 (m := 4) hX d_JInteger_numberOfTrailingZeros_55 rfl rfl (by decide) ?_
    refine g_iload0 hX d_JInteger_numberOfTrailingZeros_58 ?_
    refine g_iconst (v := nI 4) hX d_JInteger_numberOfTrailingZeros_59 rfl ?_
    refine g_iushr hX d_JInteger_numberOfTrailingZeros_60 ?_
    refine g_istore0 hX d_JInteger_numberOfTrailingZeros_61 (by decide) ?_
    refine g_iload0 hX d_JInteger_numberOfTrailingZeros_62 ?_
    refine g_iconst (v := nI 4) hX d_JInteger_numberOfTrailingZeros_63 rfl ?_
    refine g_icmp_le hX d_JInteger_numberOfTrailingZeros_64 (fun h => absurd h (by decide)) (fun c4 => ?_)
    refine g_iincM1 (m := 2) hX d_JInteger_numberOfTrailingZeros_67 rfl rfl (by decide) ?_
    refine g_iload0 hX d_JInteger_numberOfTrailingZeros_70 ?_
    refine g_iconst (v := nI 2) hX d_JInteger_numberOfTrailingZeros_71 rfl ?_
    refine g_iushr hX d_JInteger_numberOfTrailingZeros_72 ?_
    refine g_istore0 hX d_JInteger_numberOfTrailingZeros_73 (by decide) ?_
    refine g_iload1 hX d_JInteger_numberOfTrailingZeros_74 ?_
    refine g_iload0 hX d_JInteger_numberOfTrailingZeros_75 ?_
    refine g_iconst (v := nI 1) hX d_JInteger_numberOfTrailingZeros_76 rfl ?_
    refine g_iushr hX d_JInteger_numberOfTrailingZeros_77 ?_
    refine g_iadd hX d_JInteger_numberOfTrailingZeros_78 ?_
    refine g_iret hX hF d_JInteger_numberOfTrailingZeros_79 (by omega) (by omega) ?_
    exact ⟨by rw [ht]; rfl, rfl⟩
  · have ht : tz x = 8 := e
    rw [ht] at hy
    refine g_loc (show [Value.int (tzI (nI x)), un] = [.int (nI 255), un] by rw [hy]) ?_
    refine g_iload0 hX d_JInteger_numberOfTrailingZeros_8 ?_
    refine g_if_gt hX d_JInteger_numberOfTrailingZeros_9 (fun c0 => ?_) (fun h => absurd (by decide) h)
    refine g_iconst (v := nI 1) hX d_JInteger_numberOfTrailingZeros_17 rfl ?_
    refine g_istore1 hX d_JInteger_numberOfTrailingZeros_18 rfl (by decide) ?_
    refine g_iload0 hX d_JInteger_numberOfTrailingZeros_19 ?_
    refine g_ldc_w (v := nI 65536) hX d_JInteger_numberOfTrailingZeros_20 k_JInteger_264 rfl ?_
    refine g_icmp_le hX d_JInteger_numberOfTrailingZeros_23 (fun c1 => ?_) (fun h => absurd (by decide) h)
    refine g_iload0 hX d_JInteger_numberOfTrailingZeros_34 ?_
    refine g_sipush (v := nI 256) hX d_JInteger_numberOfTrailingZeros_35 rfl ?_
    refine g_icmp_le hX d_JInteger_numberOfTrailingZeros_38 (fun c2 => ?_) (fun h => absurd (by decide) h)
    refine g_iload0 hX d_JInteger_numberOfTrailingZeros_49 ?_
    refine g_bipush (v := nI 16) hX d_JInteger_numberOfTrailingZeros_50 rfl ?_
    refine g_icmp_le hX d_JInteger_numberOfTrailingZeros_52 (fun h => absurd h (by decide)) (fun c3 => ?_)
    refine g_iincM1 (m := 4) hX d_JInteger_numberOfTrailingZeros_55 rfl rfl (by decide) ?_
    refine g_iload0 hX d_JInteger_numberOfTrailingZeros_58 ?_
    refine g_iconst (v := nI 4) hX d_JInteger_numberOfTrailingZeros_59 rfl ?_
    refine g_iushr hX d_JInteger_numberOfTrailingZeros_60 ?_
    refine g_istore0 hX d_JInteger_numberOfTrailingZeros_61 (by decide) ?_
    refine g_iload0 hX d_JInteger_numberOfTrailingZeros_62 ?_
    refine g_iconst (v := nI 4) hX d_JInteger_numberOfTrailingZeros_63 rfl ?_
    refine g_icmp_le hX d_JInteger_numberOfTrailingZeros_64 (fun h => absurd h (by decide)) (fun c4 => ?_)
    refine g_iincM1 (m := 2) hX d_JInteger_numberOfTrailingZeros_67 rfl rfl (by decide) ?_
    refine g_iload0 hX d_JInteger_numberOfTrailingZeros_70 ?_
    refine g_iconst (v := nI 2) hX d_JInteger_numberOfTrailingZeros_71 rfl ?_
    refine g_iushr hX d_JInteger_numberOfTrailingZeros_72 ?_
    refine g_istore0 hX d_JInteger_numberOfTrailingZeros_73 (by decide) ?_
    refine g_iload1 hX d_JInteger_numberOfTrailingZeros_74 ?_
    refine g_iload0 hX d_JInteger_numberOfTrailingZeros_75 ?_
    refine g_iconst (v := nI 1) hX d_JInteger_numberOfTrailingZeros_76 rfl ?_
    refine g_iushr hX d_JInteger_numberOfTrailingZeros_77 ?_
    refine g_iadd hX d_JInteger_numberOfTrailingZeros_78 ?_
    refine g_iret hX hF d_JInteger_numberOfTrailingZeros_79 (by omega) (by omega) ?_
    exact ⟨by rw [ht]; rfl, rfl⟩
  · have ht : tz x = 9 := e
    rw [ht] at hy
    refine g_loc (show [Value.int (tzI (nI x)), un] = [.int (nI 511), un] by rw [hy]) ?_
    refine g_iload0 hX d_JInteger_numberOfTrailingZeros_8 ?_
    refine g_if_gt hX d_JInteger_numberOfTrailingZeros_9 (fun c0 => ?_) (fun h => absurd (by decide) h)
    refine g_iconst (v := nI 1) hX d_JInteger_numberOfTrailingZeros_17 rfl ?_
    refine g_istore1 hX d_JInteger_numberOfTrailingZeros_18 rfl (by decide) ?_
    refine g_iload0 hX d_JInteger_numberOfTrailingZeros_19 ?_
    refine g_ldc_w (v := nI 65536) hX d_JInteger_numberOfTrailingZeros_20 k_JInteger_264 rfl ?_
    refine g_icmp_le hX d_JInteger_numberOfTrailingZeros_23 (fun c1 => ?_) (fun h => absurd (by decide) h)
    refine g_iload0 hX d_JInteger_numberOfTrailingZeros_34 ?_
    refine g_sipush (v := nI 256) hX d_JInteger_numberOfTrailingZeros_35 rfl ?_
    refine g_icmp_le hX d_JInteger_numberOfTrailingZeros_38 (fun h => absurd h (by decide)) (fun c2 => ?_)
    refine g_iincM1 (m := 8) hX d_JInteger_numberOfTrailingZeros_41 rfl rfl (by decide) ?_
    refine g_iload0 hX d_JInteger_numberOfTrailingZeros_44 ?_
    refine g_bipush (v := nI 8) hX d_JInteger_numberOfTrailingZeros_45 rfl ?_
    refine g_iushr hX d_JInteger_numberOfTrailingZeros_47 ?_
    refine g_istore0 hX d_JInteger_numberOfTrailingZeros_48 (by decide) ?_
    refine g_iload0 hX d_JInteger_numberOfTrailingZeros_49 ?_
    refine g_bipush (v := nI 16) hX d_JInteger_numberOfTrailingZeros_50 rfl ?_
    refine g_icmp_le hX d_JInteger_numberOfTrailingZeros_52 (fun c3 => ?_) (fun h => absurd (by decide) h)
    refine g_iload0 hX d_JInteger_numberOfTrailingZeros_62 ?_
    refine g_iconst (v := nI 4) hX d_JInteger_numberOfTrailingZeros_63 rfl ?_
    refine g_icmp_le hX d_JInteger_numberOfTrailingZeros_64 (fun c4 => ?_) (fun h => absurd (by decide) h)
    refine g_iload1 hX d_JInteger_numberOfTrailingZeros_74 ?_
    refine g_iload0 hX d_JInteger_numberOfTrailingZeros_75 ?_
    refine g_iconst (v := nI 1) hX d_JInteger_numberOfTrailingZeros_76 rfl ?_
    refine g_iushr hX d_JInteger_numberOfTrailingZeros_77 ?_
    refine g_iadd hX d_JInteger_numberOfTrailingZeros_78 ?_
    refine g_iret hX hF d_JInteger_numberOfTrailingZeros_79 (by omega) (by omega) ?_
    exact ⟨by rw [ht]; rfl, rfl⟩
  · have ht : tz x = 10 := e
    rw [ht] at hy
    refine g_loc (show [Value.int (tzI (nI x)), un] = [.int (nI 1023), un] by rw [hy]) ?_
    refine g_iload0 hX d_JInteger_numberOfTrailingZeros_8 ?_
    refine g_if_gt hX d_JInteger_numberOfTrailingZeros_9 (fun c0 => ?_) (fun h => absurd (by decide) h)
    refine g_iconst (v := nI 1) hX d_JInteger_numberOfTrailingZeros_17 rfl ?_
    refine g_istore1 hX d_JInteger_numberOfTrailingZeros_18 rfl (by decide) ?_
    refine g_iload0 hX d_JInteger_numberOfTrailingZeros_19 ?_
    refine g_ldc_w (v := nI 65536) hX d_JInteger_numberOfTrailingZeros_20 k_JInteger_264 rfl ?_
    refine g_icmp_le hX d_JInteger_numberOfTrailingZeros_23 (fun c1 => ?_) (fun h => absurd (by decide) h)
    refine g_iload0 hX d_JInteger_numberOfTrailingZeros_34 ?_
    refine g_sipush (v := nI 256) hX d_JInteger_numberOfTrailingZeros_35 rfl ?_
    refine g_icmp_le hX d_JInteger_numberOfTrailingZeros_38 (fun h => absurd h (by decide)) (fun c2 => ?_)
    refine g_iincM1 (m := 8) hX d_JInteger_numberOfTrailingZeros_41 rfl rfl (by decide) ?_
    refine g_iload0 hX d_JInteger_numberOfTrailingZeros_44 ?_
    refine g_bipush (v := nI 8) hX d_JInteger_numberOfTrailingZeros_45 rfl ?_
    refine g_iushr hX d_JInteger_numberOfTrailingZeros_47 ?_
    refine g_istore0 hX d_JInteger_numberOfTrailingZeros_48 (by decide) ?_
    refine g_iload0 hX d_JInteger_numberOfTrailingZeros_49 ?_
    refine g_bipush (v := nI 16) hX d_JInteger_numberOfTrailingZeros_50 rfl ?_
    refine g_icmp_le hX d_JInteger_numberOfTrailingZeros_52 (fun c3 => ?_) (fun h => absurd (by decide) h)
    refine g_iload0 hX d_JInteger_numberOfTrailingZeros_62 ?_
    refine g_iconst (v := nI 4) hX d_JInteger_numberOfTrailingZeros_63 rfl ?_
    refine g_icmp_le hX d_JInteger_numberOfTrailingZeros_64 (fun c4 => ?_) (fun h => absurd (by decide) h)
    refine g_iload1 hX d_JInteger_numberOfTrailingZeros_74 ?_
    refine g_iload0 hX d_JInteger_numberOfTrailingZeros_75 ?_
    refine g_iconst (v := nI 1) hX d_JInteger_numberOfTrailingZeros_76 rfl ?_
    refine g_iushr hX d_JInteger_numberOfTrailingZeros_77 ?_
    refine g_iadd hX d_JInteger_numberOfTrailingZeros_78 ?_
    refine g_iret hX hF d_JInteger_numberOfTrailingZeros_79 (by omega) (by omega) ?_
    exact ⟨by rw [ht]; rfl, rfl⟩
  · have ht : tz x = 11 := e
    rw [ht] at hy
    refine g_loc (show [Value.int (tzI (nI x)), un] = [.int (nI 2047), un] by rw [hy]) ?_
    refine g_iload0 hX d_JInteger_numberOfTrailingZeros_8 ?_
    refine g_if_gt hX d_JInteger_numberOfTrailingZeros_9 (fun c0 => ?_) (fun h => absurd (by decide) h)
    refine g_iconst (v := nI 1) hX d_JInteger_numberOfTrailingZeros_17 rfl ?_
    refine g_istore1 hX d_JInteger_numberOfTrailingZeros_18 rfl (by decide) ?_
    refine g_iload0 hX d_JInteger_numberOfTrailingZeros_19 ?_
    refine g_ldc_w (v := nI 65536) hX d_JInteger_numberOfTrailingZeros_20 k_JInteger_264 rfl ?_
    refine g_icmp_le hX d_JInteger_numberOfTrailingZeros_23 (fun c1 => ?_) (fun h => absurd (by decide) h)
    refine g_iload0 hX d_JInteger_numberOfTrailingZeros_34 ?_
    refine g_sipush (v := nI 256) hX d_JInteger_numberOfTrailingZeros_35 rfl ?_
    refine g_icmp_le hX d_JInteger_numberOfTrailingZeros_38 (fun h => absurd h (by decide)) (fun c2 => ?_)
    refine g_iincM1 (m := 8) hX d_JInteger_numberOfTrailingZeros_41 rfl rfl (by decide) ?_
    refine g_iload0 hX d_JInteger_numberOfTrailingZeros_44 ?_
    refine g_bipush (v := nI 8) hX d_JInteger_numberOfTrailingZeros_45 rfl ?_
    refine g_iushr hX d_JInteger_numberOfTrailingZeros_47 ?_
    refine g_istore0 hX d_JInteger_numberOfTrailingZeros_48 (by decide) ?_
    refine g_iload0 hX d_JInteger_numberOfTrailingZeros_49 ?_
    refine g_bipush (v := nI 16) hX d_JInteger_numberOfTrailingZeros_50 rfl ?_
    refine g_icmp_le hX d_JInteger_numberOfTrailingZeros_52 (fun c3 => ?_) (fun h => absurd (by decide) h)
    refine g_iload0 hX d_JInteger_numberOfTrailingZeros_62 ?_
    refine g_iconst (v := nI 4) hX d_JInteger_numberOfTrailingZeros_63 rfl ?_
    refine g_icmp_le hX d_JInteger_numberOfTrailingZeros_64 (fun h => absurd h (by decide)) (fun c4 => ?_)
    refine g_iincM1 (m := 2) hX d_JInteger_numberOfTrailingZeros_67 rfl rfl (by decide) ?_
    refine g_iload0 hX d_JInteger_numberOfTrailingZeros_70 ?_
    refine g_iconst (v := nI 2) hX d_JInteger_numberOfTrailingZeros_71 rfl ?_
    refine g_iushr hX d_JInteger_numberOfTrailingZeros_72 ?_
    refine g_istore0 hX d_JInteger_numberOfTrailingZeros_73 (by decide) ?_
    refine g_iload1 hX d_JInteger_numberOfTrailingZeros_74 ?_
    refine g_iload0 hX d_JInteger_numberOfTrailingZeros_75 ?_
    refine g_iconst (v := nI 1) hX d_JInteger_numberOfTrailingZeros_76 rfl ?_
    refine g_iushr hX d_JInteger_numberOfTrailingZeros_77 ?_
    refine g_iadd hX d_JInteger_numberOfTrailingZeros_78 ?_
    refine g_iret hX hF d_JInteger_numberOfTrailingZeros_79 (by omega) (by omega) ?_
    exact ⟨by rw [ht]; rfl, rfl⟩
