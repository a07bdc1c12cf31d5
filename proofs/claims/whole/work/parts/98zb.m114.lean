def m_Re_orderSort : MR := (⟨"SubgraphDesk$Reader", "orderSort", "()I"⟩, prog_8_method_6_code, 1, (some .int))
theorem cf_Re_orderSort : CF m_Re_orderSort 0 := ⟨gd 799 (by decide +kernel) rfl, gd 142 (by decide +kernel) rfl, by decide +kernel, by decide, by decide +kernel⟩
theorem cv_Re_orderSort : CV m_Re_orderSort := ⟨gd 798 (by decide +kernel) rfl, gd 5 (by decide +kernel) rfl⟩
def m_Re_readCondition : MR := (⟨"SubgraphDesk$Reader", "readCondition", "()Z"⟩, prog_8_method_9_code, 1, (some .boolean))
theorem cf_Re_readCondition : CF m_Re_readCondition 0 := ⟨gd 948 (by decide +kernel) rfl, gd 142 (by decide +kernel) rfl, by decide +kernel, by decide, by decide +kernel⟩
theorem cv_Re_readCondition : CV m_Re_readCondition := ⟨gd 947 (by decide +kernel) rfl, gd 15 (by decide +kernel) rfl⟩
def m_Re_readTimes : MR := (⟨"SubgraphDesk$Reader", "readTimes", "()Z"⟩, prog_8_method_7_code, 1, (some .boolean))
theorem cf_Re_readTimes : CF m_Re_readTimes 0 := ⟨gd 937 (by decide +kernel) rfl, gd 142 (by decide +kernel) rfl, by decide +kernel, by decide, by decide +kernel⟩
theorem cv_Re_readTimes : CV m_Re_readTimes := ⟨gd 936 (by decide +kernel) rfl, gd 13 (by decide +kernel) rfl⟩
def m_Re_readWholeSum : MR := (⟨"SubgraphDesk$Reader", "readWholeSum", "(I)Z"⟩, prog_8_method_8_code, 2, (some .boolean))
theorem cf_Re_readWholeSum : CF m_Re_readWholeSum 1 := ⟨gd 874 (by decide +kernel) rfl, gd 142 (by decide +kernel) rfl, by decide +kernel, by decide, by decide +kernel⟩
theorem cv_Re_readWholeSum : CV m_Re_readWholeSum := ⟨gd 873 (by decide +kernel) rfl, gd 7 (by decide +kernel) rfl⟩
theorem d_Re_orderSort_0 : Dc prog_8_method_6_code 0 (.aload_n 0) 1 1 := ⟨by decide +kernel, rfl⟩
theorem d_Re_orderSort_1 : Dc prog_8_method_6_code 1 (.getfield 12) 3 4 := ⟨by decide +kernel, rfl⟩
theorem d_Re_orderSort_4 : Dc prog_8_method_6_code 4 (.ldc 99) 2 6 := ⟨by decide +kernel, rfl⟩
theorem d_Re_orderSort_6 : Dc prog_8_method_6_code 6 (.invokevirtual 72) 3 9 := ⟨by decide +kernel, rfl⟩
theorem d_Re_orderSort_9 : Dj prog_8_method_6_code 9 (.ifCond .eq 5) 12 5 14 := ⟨by decide +kernel, rfl, rfl⟩
theorem d_Re_orderSort_12 : Dc prog_8_method_6_code 12 (.iconst 0) 1 13 := ⟨by decide +kernel, rfl⟩
theorem d_Re_orderSort_13 : Dc prog_8_method_6_code 13 (.ireturn) 1 14 := ⟨by decide +kernel, rfl⟩
theorem d_Re_orderSort_14 : Dc prog_8_method_6_code 14 (.aload_n 0) 1 15 := ⟨by decide +kernel, rfl⟩
theorem d_Re_orderSort_15 : Dc prog_8_method_6_code 15 (.getfield 12) 3 18 := ⟨by decide +kernel, rfl⟩
theorem d_Re_orderSort_18 : Dc prog_8_method_6_code 18 (.ldc 101) 2 20 := ⟨by decide +kernel, rfl⟩
theorem d_Re_orderSort_20 : Dc prog_8_method_6_code 20 (.invokevirtual 72) 3 23 := ⟨by decide +kernel, rfl⟩
theorem d_Re_orderSort_23 : Dj prog_8_method_6_code 23 (.ifCond .eq 5) 26 5 28 := ⟨by decide +kernel, rfl, rfl⟩
theorem d_Re_orderSort_26 : Dc prog_8_method_6_code 26 (.iconst 1) 1 27 := ⟨by decide +kernel, rfl⟩
theorem d_Re_orderSort_27 : Dc prog_8_method_6_code 27 (.ireturn) 1 28 := ⟨by decide +kernel, rfl⟩
theorem d_Re_orderSort_28 : Dc prog_8_method_6_code 28 (.aload_n 0) 1 29 := ⟨by decide +kernel, rfl⟩
theorem d_Re_orderSort_29 : Dc prog_8_method_6_code 29 (.getfield 12) 3 32 := ⟨by decide +kernel, rfl⟩
theorem d_Re_orderSort_32 : Dc prog_8_method_6_code 32 (.ldc 103) 2 34 := ⟨by decide +kernel, rfl⟩
theorem d_Re_orderSort_34 : Dc prog_8_method_6_code 34 (.invokevirtual 72) 3 37 := ⟨by decide +kernel, rfl⟩
theorem d_Re_orderSort_37 : Dj prog_8_method_6_code 37 (.ifCond .eq 5) 40 5 42 := ⟨by decide +kernel, rfl, rfl⟩
theorem d_Re_orderSort_40 : Dc prog_8_method_6_code 40 (.iconst 2) 1 41 := ⟨by decide +kernel, rfl⟩
theorem d_Re_orderSort_41 : Dc prog_8_method_6_code 41 (.ireturn) 1 42 := ⟨by decide +kernel, rfl⟩
theorem d_Re_orderSort_42 : Dc prog_8_method_6_code 42 (.aload_n 0) 1 43 := ⟨by decide +kernel, rfl⟩
theorem d_Re_orderSort_43 : Dc prog_8_method_6_code 43 (.getfield 12) 3 46 := ⟨by decide +kernel, rfl⟩
theorem d_Re_orderSort_46 : Dc prog_8_method_6_code 46 (.ldc 105) 2 48 := ⟨by decide +kernel, rfl⟩
theorem d_Re_orderSort_48 : Dc prog_8_method_6_code 48 (.invokevirtual 72) 3 51 := ⟨by decide +kernel, rfl⟩
theorem d_Re_orderSort_51 : Dj prog_8_method_6_code 51 (.ifCond .eq 7) 54 7 58 := ⟨by decide +kernel, rfl, rfl⟩
theorem d_Re_orderSort_54 : Dc prog_8_method_6_code 54 (.iconst 3) 1 55 := ⟨by decide +kernel, rfl⟩
theorem d_Re_orderSort_55 : Dj prog_8_method_6_code 55 (.goto 4) 58 4 59 := ⟨by decide +kernel, rfl, rfl⟩
theorem d_Re_orderSort_58 : Dc prog_8_method_6_code 58 (.iconst (-1)) 1 59 := ⟨by decide +kernel, rfl⟩
theorem d_Re_orderSort_59 : Dc prog_8_method_6_code 59 (.ireturn) 1 60 := ⟨by decide +kernel, rfl⟩
theorem d_Re_readCondition_0 : Dc prog_8_method_9_code 0 (.aload_n 0) 1 1 := ⟨by decide +kernel, rfl⟩
theorem d_Re_readCondition_1 : Dc prog_8_method_9_code 1 (.getfield 12) 3 4 := ⟨by decide +kernel, rfl⟩
theorem d_Re_readCondition_4 : Dc prog_8_method_9_code 4 (.ldc 125) 2 6 := ⟨by decide +kernel, rfl⟩
theorem d_Re_readCondition_6 : Dc prog_8_method_9_code 6 (.invokevirtual 72) 3 9 := ⟨by decide +kernel, rfl⟩
theorem d_Re_readCondition_9 : Dj prog_8_method_9_code 9 (.ifCond .ne 5) 12 5 14 := ⟨by decide +kernel, rfl, rfl⟩
theorem d_Re_readCondition_12 : Dc prog_8_method_9_code 12 (.iconst 1) 1 13 := ⟨by decide +kernel, rfl⟩
theorem d_Re_readCondition_13 : Dc prog_8_method_9_code 13 (.ireturn) 1 14 := ⟨by decide +kernel, rfl⟩
theorem d_Re_readCondition_14 : Dc prog_8_method_9_code 14 (.aload_n 0) 1 15 := ⟨by decide +kernel, rfl⟩
theorem d_Re_readCondition_15 : Dc prog_8_method_9_code 15 (.getfield 12) 3 18 := ⟨by decide +kernel, rfl⟩
theorem d_Re_readCondition_18 : Dc prog_8_method_9_code 18 (.invokevirtual 67) 3 21 := ⟨by decide +kernel, rfl⟩
theorem d_Re_readCondition_21 : Dc prog_8_method_9_code 21 (.aload_n 0) 1 22 := ⟨by decide +kernel, rfl⟩
theorem d_Re_readCondition_22 : Dc prog_8_method_9_code 22 (.getfield 23) 3 25 := ⟨by decide +kernel, rfl⟩
theorem d_Re_readCondition_25 : Dc prog_8_method_9_code 25 (.iconst 5) 1 26 := ⟨by decide +kernel, rfl⟩
theorem d_Re_readCondition_26 : Dc prog_8_method_9_code 26 (.aload_n 0) 1 27 := ⟨by decide +kernel, rfl⟩
theorem d_Re_readCondition_27 : Dc prog_8_method_9_code 27 (.getfield 23) 3 30 := ⟨by decide +kernel, rfl⟩
theorem d_Re_readCondition_30 : Dc prog_8_method_9_code 30 (.getfield 119) 3 33 := ⟨by decide +kernel, rfl⟩
theorem d_Re_readCondition_33 : Dc prog_8_method_9_code 33 (.invokevirtual 116) 3 36 := ⟨by decide +kernel, rfl⟩
theorem d_Re_readCondition_36 : Dc prog_8_method_9_code 36 (.aload_n 0) 1 37 := ⟨by decide +kernel, rfl⟩
theorem d_Re_readCondition_37 : Dc prog_8_method_9_code 37 (.iconst 0) 1 38 := ⟨by decide +kernel, rfl⟩
theorem d_Re_readCondition_38 : Dc prog_8_method_9_code 38 (.invokevirtual 127) 3 41 := ⟨by decide +kernel, rfl⟩
theorem d_Re_readCondition_41 : Dj prog_8_method_9_code 41 (.ifCond .ne 5) 44 5 46 := ⟨by decide +kernel, rfl, rfl⟩
theorem d_Re_readCondition_44 : Dc prog_8_method_9_code 44 (.iconst 0) 1 45 := ⟨by decide +kernel, rfl⟩
theorem d_Re_readCondition_45 : Dc prog_8_method_9_code 45 (.ireturn) 1 46 := ⟨by decide +kernel, rfl⟩
theorem d_Re_readCondition_46 : Dc prog_8_method_9_code 46 (.aload_n 0) 1 47 := ⟨by decide +kernel, rfl⟩
theorem d_Re_readCondition_47 : Dc prog_8_method_9_code 47 (.getfield 23) 3 50 := ⟨by decide +kernel, rfl⟩
theorem d_Re_readCondition_50 : Dc prog_8_method_9_code 50 (.bipush 6) 2 52 := ⟨by decide +kernel, rfl⟩
theorem d_Re_readCondition_52 : Dc prog_8_method_9_code 52 (.aload_n 0) 1 53 := ⟨by decide +kernel, rfl⟩
theorem d_Re_readCondition_53 : Dc prog_8_method_9_code 53 (.getfield 23) 3 56 := ⟨by decide +kernel, rfl⟩
theorem d_Re_readCondition_56 : Dc prog_8_method_9_code 56 (.getfield 119) 3 59 := ⟨by decide +kernel, rfl⟩
theorem d_Re_readCondition_59 : Dc prog_8_method_9_code 59 (.invokevirtual 116) 3 62 := ⟨by decide +kernel, rfl⟩
theorem d_Re_readCondition_62 : Dc prog_8_method_9_code 62 (.iconst 1) 1 63 := ⟨by decide +kernel, rfl⟩
theorem d_Re_readCondition_63 : Dc prog_8_method_9_code 63 (.ireturn) 1 64 := ⟨by decide +kernel, rfl⟩
theorem d_Re_readTimes_0 : Dc prog_8_method_7_code 0 (.aload_n 0) 1 1 := ⟨by decide +kernel, rfl⟩
theorem d_Re_readTimes_1 : Dc prog_8_method_7_code 1 (.getfield 12) 3 4 := ⟨by decide +kernel, rfl⟩
theorem d_Re_readTimes_4 : Dc prog_8_method_7_code 4 (.ldc 107) 2 6 := ⟨by decide +kernel, rfl⟩
theorem d_Re_readTimes_6 : Dc prog_8_method_7_code 6 (.invokevirtual 72) 3 9 := ⟨by decide +kernel, rfl⟩
theorem d_Re_readTimes_9 : Dj prog_8_method_7_code 9 (.ifCond .ne 5) 12 5 14 := ⟨by decide +kernel, rfl, rfl⟩
theorem d_Re_readTimes_12 : Dc prog_8_method_7_code 12 (.iconst 1) 1 13 := ⟨by decide +kernel, rfl⟩
theorem d_Re_readTimes_13 : Dc prog_8_method_7_code 13 (.ireturn) 1 14 := ⟨by decide +kernel, rfl⟩
theorem d_Re_readTimes_14 : Dc prog_8_method_7_code 14 (.aload_n 0) 1 15 := ⟨by decide +kernel, rfl⟩
theorem d_Re_readTimes_15 : Dc prog_8_method_7_code 15 (.getfield 12) 3 18 := ⟨by decide +kernel, rfl⟩
theorem d_Re_readTimes_18 : Dc prog_8_method_7_code 18 (.invokevirtual 67) 3 21 := ⟨by decide +kernel, rfl⟩
theorem d_Re_readTimes_21 : Dc prog_8_method_7_code 21 (.aload_n 0) 1 22 := ⟨by decide +kernel, rfl⟩
theorem d_Re_readTimes_22 : Dc prog_8_method_7_code 22 (.getfield 12) 3 25 := ⟨by decide +kernel, rfl⟩
theorem d_Re_readTimes_25 : Dc prog_8_method_7_code 25 (.iconst 1) 1 26 := ⟨by decide +kernel, rfl⟩
theorem d_Re_readTimes_26 : Dc prog_8_method_7_code 26 (.bipush 20) 2 28 := ⟨by decide +kernel, rfl⟩
theorem d_Re_readTimes_28 : Dc prog_8_method_7_code 28 (.invokevirtual 109) 3 31 := ⟨by decide +kernel, rfl⟩
theorem d_Re_readTimes_31 : Dj prog_8_method_7_code 31 (.ifCond .ne 8) 34 8 39 := ⟨by decide +kernel, rfl, rfl⟩
theorem d_Re_readTimes_34 : Dc prog_8_method_7_code 34 (.aload_n 0) 1 35 := ⟨by decide +kernel, rfl⟩
theorem d_Re_readTimes_35 : Dc prog_8_method_7_code 35 (.invokevirtual 64) 3 38 := ⟨by decide +kernel, rfl⟩
theorem d_Re_readTimes_38 : Dc prog_8_method_7_code 38 (.ireturn) 1 39 := ⟨by decide +kernel, rfl⟩
theorem d_Re_readTimes_39 : Dc prog_8_method_7_code 39 (.aload_n 0) 1 40 := ⟨by decide +kernel, rfl⟩
theorem d_Re_readTimes_40 : Dc prog_8_method_7_code 40 (.getfield 23) 3 43 := ⟨by decide +kernel, rfl⟩
theorem d_Re_readTimes_43 : Dc prog_8_method_7_code 43 (.bipush 7) 2 45 := ⟨by decide +kernel, rfl⟩
theorem d_Re_readTimes_45 : Dc prog_8_method_7_code 45 (.aload_n 0) 1 46 := ⟨by decide +kernel, rfl⟩
theorem d_Re_readTimes_46 : Dc prog_8_method_7_code 46 (.getfield 12) 3 49 := ⟨by decide +kernel, rfl⟩
theorem d_Re_readTimes_49 : Dc prog_8_method_7_code 49 (.getfield 113) 3 52 := ⟨by decide +kernel, rfl⟩
theorem d_Re_readTimes_52 : Dc prog_8_method_7_code 52 (.invokevirtual 116) 3 55 := ⟨by decide +kernel, rfl⟩
theorem d_Re_readTimes_55 : Dc prog_8_method_7_code 55 (.aload_n 0) 1 56 := ⟨by decide +kernel, rfl⟩
theorem d_Re_readTimes_56 : Dc prog_8_method_7_code 56 (.getfield 12) 3 59 := ⟨by decide +kernel, rfl⟩
theorem d_Re_readTimes_59 : Dc prog_8_method_7_code 59 (.invokevirtual 67) 3 62 := ⟨by decide +kernel, rfl⟩
theorem d_Re_readTimes_62 : Dc prog_8_method_7_code 62 (.iconst 1) 1 63 := ⟨by decide +kernel, rfl⟩
theorem d_Re_readTimes_63 : Dc prog_8_method_7_code 63 (.ireturn) 1 64 := ⟨by decide +kernel, rfl⟩
theorem d_Re_readWholeSum_0 : Dc prog_8_method_8_code 0 (.aload_n 0) 1 1 := ⟨by decide +kernel, rfl⟩
theorem d_Re_readWholeSum_1 : Dc prog_8_method_8_code 1 (.getfield 23) 3 4 := ⟨by decide +kernel, rfl⟩
theorem d_Re_readWholeSum_4 : Dc prog_8_method_8_code 4 (.iload_n 1) 1 5 := ⟨by decide +kernel, rfl⟩
theorem d_Re_readWholeSum_5 : Dc prog_8_method_8_code 5 (.aload_n 0) 1 6 := ⟨by decide +kernel, rfl⟩
theorem d_Re_readWholeSum_6 : Dc prog_8_method_8_code 6 (.getfield 23) 3 9 := ⟨by decide +kernel, rfl⟩
theorem d_Re_readWholeSum_9 : Dc prog_8_method_8_code 9 (.getfield 119) 3 12 := ⟨by decide +kernel, rfl⟩
theorem d_Re_readWholeSum_12 : Dc prog_8_method_8_code 12 (.invokevirtual 116) 3 15 := ⟨by decide +kernel, rfl⟩
theorem d_Re_readWholeSum_15 : Dc prog_8_method_8_code 15 (.aload_n 0) 1 16 := ⟨by decide +kernel, rfl⟩
theorem d_Re_readWholeSum_16 : Dc prog_8_method_8_code 16 (.iconst 0) 1 17 := ⟨by decide +kernel, rfl⟩
theorem d_Re_readWholeSum_17 : Dc prog_8_method_8_code 17 (.invokevirtual 122) 3 20 := ⟨by decide +kernel, rfl⟩
theorem d_Re_readWholeSum_20 : Dj prog_8_method_8_code 20 (.ifCond .ne 5) 23 5 25 := ⟨by decide +kernel, rfl, rfl⟩
theorem d_Re_readWholeSum_23 : Dc prog_8_method_8_code 23 (.iconst 0) 1 24 := ⟨by decide +kernel, rfl⟩
theorem d_Re_readWholeSum_24 : Dc prog_8_method_8_code 24 (.ireturn) 1 25 := ⟨by decide +kernel, rfl⟩
theorem d_Re_readWholeSum_25 : Dc prog_8_method_8_code 25 (.aload_n 0) 1 26 := ⟨by decide +kernel, rfl⟩
theorem d_Re_readWholeSum_26 : Dc prog_8_method_8_code 26 (.getfield 23) 3 29 := ⟨by decide +kernel, rfl⟩
theorem d_Re_readWholeSum_29 : Dc prog_8_method_8_code 29 (.iload_n 1) 1 30 := ⟨by decide +kernel, rfl⟩
theorem d_Re_readWholeSum_30 : Dc prog_8_method_8_code 30 (.iconst 1) 1 31 := ⟨by decide +kernel, rfl⟩
theorem d_Re_readWholeSum_31 : Dc prog_8_method_8_code 31 (.iadd) 1 32 := ⟨by decide +kernel, rfl⟩
theorem d_Re_readWholeSum_32 : Dc prog_8_method_8_code 32 (.aload_n 0) 1 33 := ⟨by decide +kernel, rfl⟩
theorem d_Re_readWholeSum_33 : Dc prog_8_method_8_code 33 (.getfield 23) 3 36 := ⟨by decide +kernel, rfl⟩
theorem d_Re_readWholeSum_36 : Dc prog_8_method_8_code 36 (.getfield 119) 3 39 := ⟨by decide +kernel, rfl⟩
theorem d_Re_readWholeSum_39 : Dc prog_8_method_8_code 39 (.invokevirtual 116) 3 42 := ⟨by decide +kernel, rfl⟩
theorem d_Re_readWholeSum_42 : Dc prog_8_method_8_code 42 (.iconst 1) 1 43 := ⟨by decide +kernel, rfl⟩
theorem d_Re_readWholeSum_43 : Dc prog_8_method_8_code 43 (.ireturn) 1 44 := ⟨by decide +kernel, rfl⟩
theorem fl_Re_119 : FL "SubgraphDesk$Reader" 119 6 1 false .int (0, 0) := ⟨R_Pr, F_Pr, 4, ty_Pr, rfl, rfl, in_Pr, tyok_Pr, nm_Pr, by decide, gd 337 (by decide +kernel) rfl, rfl, rfl, rfl⟩
theorem ml_Re_116 : Cond.methodLink "SubgraphDesk$Reader" 116 m_Pr_set.1 ∈ lw_gd := gd 875 (by decide +kernel) rfl
def okZ {α : Type} (x : Nat ⊕ α) : Bool := match x with
  | .inl _ => false
  | .inr _ => true
theorem okZ_t {α : Type} {x : Nat ⊕ α} (h : okZ x = true) : ∃ y, x = .inr y := by
  cases x with
  | inl e => cases h
  | inr y => exact ⟨y, rfl⟩
theorem okZ_f {α : Type} {x : Nat ⊕ α} (h : ¬ okZ x = true) : ∃ e, x = .inl e := by
  cases x with
  | inl e => exact ⟨e, rfl⟩
  | inr y => exact absurd rfl h
/-- the reader reads, its table too -/
def FrRt (w w2 : Mem) : Prop := (∀ a, a ≠ 25 → a ≠ 26 → a ≠ 28 → a ≠ 29 → a ≠ 30 → rI w2 a = rI w a) ∧ rI w2 25 2 = rI w 25 2 ∧ (∀ k, k < 3 → rI w2 26 k = rI w 26 k) ∧ w2.2 = w.2
theorem FrRt.rf (w : Mem) : FrRt w w := ⟨fun _ _ _ _ _ _ => rfl, rfl, fun _ _ => rfl, rfl⟩
theorem FrRt.tr {a b c : Mem} (h : FrRt a b) (h2 : FrRt b c) : FrRt a c := ⟨fun x h3 h4 h5 h6 h7 => (h2.1 x h3 h4 h5 h6 h7).trans (h.1 x h3 h4 h5 h6 h7), h2.2.1.trans h.2.1, fun k hk => (h2.2.2.1 k hk).trans (h.2.2.1 k hk), h2.2.2.2.trans h.2.2.2⟩
theorem FrRd.T {w w2 : Mem} (h : FrRd w w2) : FrRt w w2 := ⟨fun a h1 h2 h3 _ h5 => h.1 a h1 h2 h3 h5, h.2.1, h.2.2.2.1, h.2.2.2.2⟩
theorem FrRt.S {w w2 : Mem} {k : Nat} {x : Int32} (h : FrRt w w2) : FrRt w (sI w2 29 k x) := ⟨fun a h1 h2 h3 h4 h5 => by rw [rI_sI_ne _ _ _ h4]; exact h.1 a h1 h2 h3 h4 h5, by rw [rI_sI_ne _ _ _ (by decide)]; exact h.2.1, fun q hq => by rw [rI_sI_ne _ _ _ (by decide)]; exact h.2.2.1 q hq, h.2.2.2⟩
theorem RdI.o {w w2 : Mem} {t : List Nat} {o : Bool} {f p : Nat} {c : List (Nat × Nat)} (h : RdI w t o f p c) (e : ∀ a, a ≠ 29 → rI w2 a = rI w a) (e2 : w2.2 = w.2) : RdI w2 t o f p c := by
  obtain ⟨h1, h2, h3, h4, h5⟩ := h
  exact ⟨h1.o (e 26 (by decide)) (e 27 (by decide)), by rw [e 25 (by decide)]; exact h2, by rw [e 25 (by decide)]; exact h3, h4.fr (by rw [e2]) (by rw [e 28 (by decide)]) (e 30 (by decide)), h5⟩
theorem RdI.s {w : Mem} {t : List Nat} {o : Bool} {f p k : Nat} {x : Int32} {c : List (Nat × Nat)} (h : RdI w t o f p c) : RdI (sI w 29 k x) t o f p c := h.o (fun a ha => rI_sI_ne _ _ _ ha) rfl
def AcR (w2 : Mem) (t : List Nat) (o : Bool) (c : List (Nat × Nat)) (f2 p2 : Nat) (d : Den) (c2 : List (Nat × Nat)) : Prop := (∃ s, c2 = c ++ s) ∧ RdI w2 t o f2 p2 c2 ∧ SegL c2 c.length c2.length d ∧ OkX o c2 c.length
/-- a sum is read, where it lies is noted -/
def WsQ (w w2 : Mem) (t : List Nat) (o : Bool) (c : List (Nat × Nat)) (m kk : Nat) (x : ResT) (r : Option Value) : Prop := FrRt w w2 ∧ match x with
  | .inl e => r = some (.int (nI 0)) ∧ rI w2 25 4 = nI e
  | .inr y => r = some (.int (nI 1)) ∧ rI w2 25 4 = rI w 25 4 ∧ rI w2 28 0 = rI w 28 0 ∧ ∃ c2, AcR w2 t o c y.1 y.2.1 y.2.2 c2 ∧ ∀ j, rI w2 29 j = if j = 8 * m + kk then nI c.length else if j = 8 * m + (kk + 1) then nI c2.length else rI w 29 j
theorem WsQ.rv {w w2 : Mem} {t : List Nat} {o : Bool} {c : List (Nat × Nat)} {m kk : Nat} {x : ResT} {r : Option Value} (h : WsQ w w2 t o c m kk x r) : r = some (.int (b2i (okZ x = true))) := by
  obtain ⟨-, h⟩ := h
  cases x with
  | inl e => rw [h.1, b2i_f (show ¬ (okZ (.inl e : ResT) = true) from fun z => by cases z)]; rfl
  | inr y => rw [h.1, b2i_t (show okZ (.inr y : ResT) = true from rfl)]; rfl
abbrev IfR : Type := Nat ⊕ (Nat × Nat × Option Den)
/-- a test is read, if there is one -/
def CoQ (w w2 : Mem) (t : List Nat) (o : Bool) (c : List (Nat × Nat)) (m : Nat) (x : IfR) (r : Option Value) : Prop := FrRt w w2 ∧ match x with
  | .inl e => r = some (.int (nI 0)) ∧ rI w2 25 4 = nI e
  | .inr y => r = some (.int (nI 1)) ∧ rI w2 25 4 = rI w 25 4 ∧ rI w2 28 0 = rI w 28 0 ∧ match y.2.2 with
    | none => RdI w2 t o y.1 y.2.1 c ∧ ∀ j, rI w2 29 j = rI w 29 j
    | some d => ∃ c2, AcR w2 t o c y.1 y.2.1 d c2 ∧ Bit d ∧ ∀ j, rI w2 29 j = if j = 8 * m + 5 then nI c.length else if j = 8 * m + (5 + 1) then nI c2.length else rI w 29 j
theorem CoQ.rv {w w2 : Mem} {t : List Nat} {o : Bool} {c : List (Nat × Nat)} {m : Nat} {x : IfR} {r : Option Value} (h : CoQ w w2 t o c m x r) : r = some (.int (b2i (okZ x = true))) := by
  obtain ⟨-, h⟩ := h
  cases x with
  | inl e => rw [h.1, b2i_f (show ¬ (okZ (.inl e : IfR) = true) from fun z => by cases z)]; rfl
  | inr y => rw [h.1, b2i_t (show okZ (.inr y : IfR) = true from rfl)]; rfl
theorem RdI.rdE {w : Mem} {t : List Nat} {o : Bool} {f p m : Nat} {c : List (Nat × Nat)} (h : RdI w t o f p c) : rd t o 5000 m 0 f p (fun _ => none) = some (rdE t o m f p) := rdE_eq h.fl.2 h.1.2.2.2.2.2 h.2.2.2.2.1
theorem c_Re_readWholeSum {E : EV} {w : Mem} {t : List Nat} {o : Bool} {f p m kk : Nat} {c : List (Nat × Nat)} (h : RdI w t o f p c) (hl : rI w 28 0 = nI (m + 1)) (hm : m < 12) (hkk : kk < 7) : T E m_Re_readWholeSum 44 0 0 [.ref 25, .int (nI kk)] w (fun r w2 => WsQ w w2 t o c m kk (rdE t o 3 f p) r) := by
  refine T_of (L := [.ref 25, .int (nI kk)]) cf_Re_readWholeSum rfl (Nat.le_of_ble_eq_true rfl) (fun X hX hF => ?_)
  refine g_aload0 hX d_Re_readWholeSum_0 ?_
  refine g_getF hX d_Re_readWholeSum_1 fl_Re_23 (lv_25 _) ?_
  refine g_iload1 hX d_Re_readWholeSum_4 ?_
  refine g_aload0 hX d_Re_readWholeSum_5 ?_
  refine g_getF hX d_Re_readWholeSum_6 fl_Re_23 (lv_25 _) ?_
  refine g_getI hX d_Re_readWholeSum_9 fl_Re_119 (lv_28 _) ?_
  refine g_topi h.2.2.2.1.2.1 ?_
  refine g_callV (As := [_, _]) hX hF.1 d_Re_readWholeSum_12 ml_Re_116 cf_Pr_set cv_Pr_set rfl rfl (c_Pr_set (k := kk) (m := m) h.2.2.2.1.1 hl (by omega) (by omega)) (rcv_obj hX (lv_28 _) rfl rfl) (by first | decide | omega) (by omega) (by omega) (Nat.le_of_ble_eq_true rfl) ?_
  refine ret_k ?_
  refine g_aload0 hX d_Re_readWholeSum_15 ?_
  refine g_iconst (v := nI 0) hX d_Re_readWholeSum_16 rfl ?_
  have h1 : RdI (sI w 29 (8 * m + kk) (nI c.length)) t o f p c := h.s
  obtain ⟨x, hx⟩ : ∃ x, rdE t o 3 f p = x := ⟨_, rfl⟩
  have hrd := h1.rdE (m := 3)
  rw [hx] at hrd
  refine g_callV (As := [_]) hX hF.1 d_Re_readWholeSum_17 ml_Re_122 cf_Re_readSum cv_Re_readSum rfl rfl ((c_reader 5000).2.2.1 0 f p (fun _ => none) c _ x (by decide) hrd h1) (rcv_obj hX (lv_25 _) rfl rfl) (by first | decide | omega) (by omega) (by omega) (Nat.le_of_ble_eq_true rfl) ?_
  rintro r5 w5 hQ
  obtain rfl := hQ.rv
  show G0 _ _ _ _ _ _ _ _
  refine g_ifB_ne hX d_Re_readWholeSum_20 (fun e20 => ?_) (fun e20 => ?_)
  · obtain ⟨y, rfl⟩ := okR_t e20
    obtain ⟨c2, hA⟩ := hQ.acc
    have hA4 := hA.2.2.2.1
    have hl5 : rI w5 28 0 = nI (m + 1) := by rw [hA.1.2.2.1, rI_sI_ne _ _ _ (by decide)]; exact hl
    refine g_aload0 hX d_Re_readWholeSum_25 ?_
    refine g_getF hX d_Re_readWholeSum_26 fl_Re_23 (lv_25 _) ?_
    refine g_iload1 hX d_Re_readWholeSum_29 ?_
    refine g_iconst (v := nI 1) hX d_Re_readWholeSum_30 rfl ?_
    refine g_iaddN hX d_Re_readWholeSum_31 ?_
    refine g_aload0 hX d_Re_readWholeSum_32 ?_
    refine g_getF hX d_Re_readWholeSum_33 fl_Re_23 (lv_25 _) ?_
    refine g_getI hX d_Re_readWholeSum_36 fl_Re_119 (lv_28 _) ?_
    refine g_topi hA4.2.2.2.1.2.1 ?_
    refine g_callV (As := [_, _]) hX hF.1 d_Re_readWholeSum_39 ml_Re_116 cf_Pr_set cv_Pr_set rfl rfl (c_Pr_set (k := (kk + 1)) (m := m) hA4.2.2.2.1.1 hl5 (by omega) (by omega)) (rcv_obj hX (lv_28 _) rfl rfl) (by first | decide | omega) (by omega) (by omega) (Nat.le_of_ble_eq_true rfl) ?_
    refine ret_k ?_
    refine g_iconst (v := nI 1) hX d_Re_readWholeSum_42 rfl ?_
    refine g_zret hX hF d_Re_readWholeSum_43 (Or.inr rfl) (by omega) (by omega) ?_
    rw [hx]
    refine ⟨(((FrRt.rf w).S).tr hA.1.T).S, rfl, ?_, ?_, c2, ⟨hA.2.2.1, hA4.s, hA.2.2.2.2.1, hA.2.2.2.2.2.1⟩, fun j => ?_⟩
    · rw [rI_sI_ne _ _ _ (by decide), hA.2.1, rI_sI_ne _ _ _ (by decide)]
    · rw [rI_sI_ne _ _ _ (by decide), hA.1.2.2.1, rI_sI_ne _ _ _ (by decide)]
    · rw [rI_sI, upd_eq, hA.1.1 29 (by decide) (by decide) (by decide) (by decide), rI_sI, upd_eq]
      by_cases e1 : j = 8 * m + kk
      · rw [if_neg (by omega), if_pos e1, if_pos e1]
      · rw [if_neg e1, if_neg e1]
  · obtain ⟨e, rfl⟩ := okR_f e20
    refine g_iconst (v := nI 0) hX d_Re_readWholeSum_23 rfl ?_
    refine g_zret hX hF d_Re_readWholeSum_24 (Or.inl rfl) (by omega) (by omega) ?_
    rw [hx]
    exact ⟨((FrRt.rf w).S).tr hQ.1.T, rfl, hQ.2.2⟩
theorem c_Re_readCondition {E : EV} {w : Mem} {t : List Nat} {o : Bool} {f p m : Nat} {c : List (Nat × Nat)} (h : RdI w t o f p c) (hl : rI w 28 0 = nI (m + 1)) (hm : m < 12) : T E m_Re_readCondition 75 0 0 [.ref 25] w (fun r w2 => CoQ w w2 t o c m (ifT t o f p) r) := by
  refine T_of (L := [.ref 25]) cf_Re_readCondition rfl (Nat.le_of_ble_eq_true rfl) (fun X hX hF => ?_)
  refine g_aload0 hX d_Re_readCondition_0 ?_
  refine g_getF hX d_Re_readCondition_1 fl_Re_12 (lv_25 _) ?_
  refine g_ldcS (i := 20) (tx := "if") hX d_Re_readCondition_4 (by decide) ?_
  refine g_callV (As := [_]) hX hF.1 d_Re_readCondition_6 ml_Re_72 cf_Ta_isWord cv_Ta_isWord rfl rfl (c_Ta_isWord (i := 20) (wd := wIf) (by decide) (strW_all.2.2.2.2.2.2.2.2.2.2.2.2.2.2.2.2.2.2.2.2.1) h.1) (rcv_obj hX (lv_26 _) rfl rfl) (by first | decide | omega) (by omega) (by omega) (Nat.le_of_ble_eq_true rfl) ?_
  refine ret_k ?_
  refine g_ifB_ne hX d_Re_readCondition_9 (fun e9 => ?_) (fun e9 => ?_)
  · refine g_aload0 hX d_Re_readCondition_14 ?_
    refine g_getF hX d_Re_readCondition_15 fl_Re_12 (lv_25 _) ?_
    refine g_callV (As := []) hX hF.1 d_Re_readCondition_18 ml_Re_67 cf_Ta_step cv_Ta_step rfl rfl (c_Ta_step h.1.1 h.1.2.2.1 (enT_le h.fl.1)) (rcv_obj hX (lv_26 _) rfl rfl) (by first | decide | omega) (by omega) (by omega) (Nat.le_of_ble_eq_true rfl) ?_
    rintro _ w3 ⟨rfl, ft_w3, tk_w3⟩
    have h3 := h.step ft_w3 tk_w3
    show G0 _ _ _ _ _ _ _ _
    refine g_aload0 hX d_Re_readCondition_21 ?_
    refine g_getF hX d_Re_readCondition_22 fl_Re_23 (lv_25 _) ?_
    refine g_iconst (v := nI 5) hX d_Re_readCondition_25 rfl ?_
    refine g_aload0 hX d_Re_readCondition_26 ?_
    refine g_getF hX d_Re_readCondition_27 fl_Re_23 (lv_25 _) ?_
    refine g_getI hX d_Re_readCondition_30 fl_Re_119 (lv_28 _) ?_
    refine g_topi h3.2.2.2.1.2.1 ?_
    refine g_callV (As := [_, _]) hX hF.1 d_Re_readCondition_33 ml_Re_116 cf_Pr_set cv_Pr_set rfl rfl (c_Pr_set (k := 5) (m := m) h3.2.2.2.1.1 (show rI w3 28 0 = nI (m + 1) by rw [ft_w3.1 28 (by decide)]; exact hl) (by omega) (by omega)) (rcv_obj hX (lv_28 _) rfl rfl) (by first | decide | omega) (by omega) (by omega) (Nat.le_of_ble_eq_true rfl) ?_
    refine ret_k ?_
    refine g_aload0 hX d_Re_readCondition_36 ?_
    refine g_iconst (v := nI 0) hX d_Re_readCondition_37 rfl ?_
    have h1 : RdI (sI w3 29 (8 * m + 5) (nI c.length)) t o (nxT t f) p c := h3.s
    have hrd := h1.rdE (m := 8)
    obtain ⟨x, hx⟩ : ∃ x, rdE t o 8 (nxT t f) p = x := ⟨_, rfl⟩
    rw [hx] at hrd
    have hfr1 : FrRt w (sI w3 29 (8 * m + 5) (nI c.length)) := (ft_w3.R.T).S
    refine g_callV (As := [_]) hX hF.1 d_Re_readCondition_38 ml_Re_127 cf_Re_readTest cv_Re_readTest rfl rfl ((c_reader 5000).2.2.2.2.2 0 (nxT t f) p (fun _ => none) c _ x (by decide) hrd h1) (rcv_obj hX (lv_25 _) rfl rfl) (by first | decide | omega) (by omega) (by omega) (Nat.le_of_ble_eq_true rfl) ?_
    rintro r5 w5 hQ
    obtain rfl := hQ.rv
    show G0 _ _ _ _ _ _ _ _
    refine g_ifB_ne hX d_Re_readCondition_41 (fun e41 => ?_) (fun e41 => ?_)
    · obtain ⟨y, rfl⟩ := okR_t e41
      obtain ⟨c2, hA⟩ := hQ.acc
      have hA4 := hA.2.2.2.1
      have hl5 : rI w5 28 0 = nI (m + 1) := by rw [hA.1.2.2.1, rI_sI_ne _ _ _ (by decide), ft_w3.1 28 (by decide)]; exact hl
      have hxi : ifT t o f p = .inr (y.1, y.2.1, some y.2.2) := by unfold ifT; rw [if_pos e9, hx]
      have hbit : Bit y.2.2 := rd_bit 5000 8 0 (nxT t f) p (fun _ => none) y.1 y.2.1 y.2.2 (by decide) (fun z => by omega) hrd
      refine g_aload0 hX d_Re_readCondition_46 ?_
      refine g_getF hX d_Re_readCondition_47 fl_Re_23 (lv_25 _) ?_
      refine g_bipush (v := nI 6) hX d_Re_readCondition_50 rfl ?_
      refine g_aload0 hX d_Re_readCondition_52 ?_
      refine g_getF hX d_Re_readCondition_53 fl_Re_23 (lv_25 _) ?_
      refine g_getI hX d_Re_readCondition_56 fl_Re_119 (lv_28 _) ?_
      refine g_topi hA4.2.2.2.1.2.1 ?_
      refine g_callV (As := [_, _]) hX hF.1 d_Re_readCondition_59 ml_Re_116 cf_Pr_set cv_Pr_set rfl rfl (c_Pr_set (k := 6) (m := m) hA4.2.2.2.1.1 hl5 (by omega) (by omega)) (rcv_obj hX (lv_28 _) rfl rfl) (by first | decide | omega) (by omega) (by omega) (Nat.le_of_ble_eq_true rfl) ?_
      refine ret_k ?_
      refine g_iconst (v := nI 1) hX d_Re_readCondition_62 rfl ?_
      refine g_zret hX hF d_Re_readCondition_63 (Or.inr rfl) (by omega) (by omega) ?_
      rw [hxi]
      refine ⟨(hfr1.tr hA.1.T).S, rfl, ?_, ?_, c2, ⟨hA.2.2.1, hA4.s, hA.2.2.2.2.1, hA.2.2.2.2.2.1⟩, hbit, fun j => ?_⟩
      · rw [rI_sI_ne _ _ _ (by decide), hA.2.1, rI_sI_ne _ _ _ (by decide), ft_w3.1 25 (by decide)]
      · rw [rI_sI_ne _ _ _ (by decide), hA.1.2.2.1, rI_sI_ne _ _ _ (by decide), ft_w3.1 28 (by decide)]
      · rw [rI_sI, upd_eq, hA.1.1 29 (by decide) (by decide) (by decide) (by decide), rI_sI, upd_eq, ft_w3.1 29 (by decide)]
        by_cases e1 : j = 8 * m + 5
        · rw [if_neg (by omega), if_pos e1, if_pos e1]
        · rw [if_neg e1, if_neg e1]
    · obtain ⟨e, rfl⟩ := okR_f e41
      have hxi : ifT t o f p = .inl e := by unfold ifT; rw [if_pos e9, hx]
      refine g_iconst (v := nI 0) hX d_Re_readCondition_44 rfl ?_
      refine g_zret hX hF d_Re_readCondition_45 (Or.inl rfl) (by omega) (by omega) ?_
      rw [hxi]
      exact ⟨hfr1.tr hQ.1.T, rfl, hQ.2.2⟩
  · have hx : ifT t o f p = .inr (f, p, none) := by unfold ifT; rw [if_neg e9]
    refine g_iconst (v := nI 1) hX d_Re_readCondition_12 rfl ?_
    refine g_zret hX hF d_Re_readCondition_13 (Or.inr rfl) (by omega) (by omega) ?_
    rw [hx]
    exact ⟨FrRt.rf w, rfl, rfl, rfl, h, fun _ => rfl⟩
abbrev TmR : Type := Nat ⊕ (Nat × Nat)
def TmQ (w w2 : Mem) (t : List Nat) (o : Bool) (c : List (Nat × Nat)) (p m : Nat) (x : TmR) (r : Option Value) : Prop := FrRt w w2 ∧ match x with
  | .inl e => r = some (.int (nI 0)) ∧ rI w2 25 4 = nI e
  | .inr y => r = some (.int (nI 1)) ∧ rI w2 25 4 = rI w 25 4 ∧ rI w2 28 0 = rI w 28 0 ∧ RdI w2 t o y.1 p c ∧ rI w2 29 (8 * m + 7) = nI y.2 ∧ y.2 ≤ 20 ∧ ∀ j, j ≠ 8 * m + 7 → rI w2 29 j = rI w 29 j
theorem TmQ.rv {w w2 : Mem} {t : List Nat} {o : Bool} {c : List (Nat × Nat)} {p m : Nat} {x : TmR} {r : Option Value} (h : TmQ w w2 t o c p m x r) : r = some (.int (b2i (okZ x = true))) := by
  obtain ⟨-, h⟩ := h
  cases x with
  | inl e => rw [h.1, b2i_f (show ¬ (okZ (.inl e : TmR) = true) from fun z => by cases z)]; rfl
  | inr y => rw [h.1, b2i_t (show okZ (.inr y : TmR) = true from rfl)]; rfl
theorem c_Re_readTimes {E : EV} {w : Mem} {t : List Nat} {o : Bool} {f p m : Nat} {c : List (Nat × Nat)} (h : RdI w t o f p c) (hl : rI w 28 0 = nI (m + 1)) (hm : m < 12) (h7 : rI w 29 (8 * m + 7) = nI 1) : T E m_Re_readTimes 8 0 0 [.ref 25] w (fun r w2 => TmQ w w2 t o c p m (timesT t f) r) := by
  refine T_of (L := [.ref 25]) cf_Re_readTimes rfl (Nat.le_of_ble_eq_true rfl) (fun X hX hF => ?_)
  refine g_aload0 hX d_Re_readTimes_0 ?_
  refine g_getF hX d_Re_readTimes_1 fl_Re_12 (lv_25 _) ?_
  refine g_ldcS (i := 17) (tx := "times") hX d_Re_readTimes_4 (by decide) ?_
  refine g_callV (As := [_]) hX hF.1 d_Re_readTimes_6 ml_Re_72 cf_Ta_isWord cv_Ta_isWord rfl rfl (c_Ta_isWord (i := 17) (wd := wTimes) (by decide) (strW_all.2.2.2.2.2.2.2.2.2.2.2.2.2.2.2.2.2.1) h.1) (rcv_obj hX (lv_26 _) rfl rfl) (by first | decide | omega) (by omega) (by omega) (Nat.le_of_ble_eq_true rfl) ?_
  refine ret_k ?_
  refine g_ifB_ne hX d_Re_readTimes_9 (fun e9 => ?_) (fun e9 => ?_)
  · refine g_aload0 hX d_Re_readTimes_14 ?_
    refine g_getF hX d_Re_readTimes_15 fl_Re_12 (lv_25 _) ?_
    refine g_callV (As := []) hX hF.1 d_Re_readTimes_18 ml_Re_67 cf_Ta_step cv_Ta_step rfl rfl (c_Ta_step h.1.1 h.1.2.2.1 (enT_le h.fl.1)) (rcv_obj hX (lv_26 _) rfl rfl) (by first | decide | omega) (by omega) (by omega) (Nat.le_of_ble_eq_true rfl) ?_
    rintro _ w3 ⟨rfl, ft_w3, tk_w3⟩
    have h3 := h.step ft_w3 tk_w3
    show G0 _ _ _ _ _ _ _ _
    refine g_aload0 hX d_Re_readTimes_21 ?_
    refine g_getF hX d_Re_readTimes_22 fl_Re_12 (lv_25 _) ?_
    refine g_iconst (v := nI 1) hX d_Re_readTimes_25 rfl ?_
    refine g_bipush (v := nI 20) hX d_Re_readTimes_26 rfl ?_
    refine g_callV (As := [_, _]) hX hF.1 d_Re_readTimes_28 ml_Re_109 cf_Ta_isNumber cv_Ta_isNumber rfl rfl (c_Ta_isNumber (by decide) (by decide) h3.1) (rcv_obj hX (lv_26 _) rfl rfl) (by first | decide | omega) (by omega) (by omega) (Nat.le_of_ble_eq_true rfl) ?_
    refine ret_k ?_
    refine g_ifB_ne hX d_Re_readTimes_31 (fun e31 => ?_) (fun e31 => ?_)
    · refine g_aload0 hX d_Re_readTimes_39 ?_
      refine g_getF hX d_Re_readTimes_40 fl_Re_23 (lv_25 _) ?_
      refine g_bipush (v := nI 7) hX d_Re_readTimes_43 rfl ?_
      refine g_aload0 hX d_Re_readTimes_45 ?_
      refine g_getF hX d_Re_readTimes_46 fl_Re_12 (lv_25 _) ?_
      refine g_getI hX d_Re_readTimes_49 fl_Re_113 (lv_26 _) ?_
      refine g_topi (h3.1.2.2.2.2.1 (by rw [e31.1]; decide)) ?_
      refine g_callV (As := [_, _]) hX hF.1 d_Re_readTimes_52 ml_Re_116 cf_Pr_set cv_Pr_set rfl rfl (c_Pr_set (k := 7) (m := m) h3.2.2.2.1.1 (show rI w3 28 0 = nI (m + 1) by rw [ft_w3.1 28 (by decide)]; exact hl) (by omega) (by omega)) (rcv_obj hX (lv_28 _) rfl rfl) (by first | decide | omega) (by omega) (by omega) (Nat.le_of_ble_eq_true rfl) ?_
      refine ret_k ?_
      refine g_aload0 hX d_Re_readTimes_55 ?_
      refine g_getF hX d_Re_readTimes_56 fl_Re_12 (lv_25 _) ?_
      have h4 : RdI (sI w3 29 (8 * m + 7) (nI (numC t (nxT t f)))) t o (nxT t f) p c := h3.s
      refine g_callV (As := []) hX hF.1 d_Re_readTimes_59 ml_Re_67 cf_Ta_step cv_Ta_step rfl rfl (c_Ta_step h4.1.1 h4.1.2.2.1 (enT_le h4.fl.1)) (rcv_obj hX (lv_26 _) rfl rfl) (by first | decide | omega) (by omega) (by omega) (Nat.le_of_ble_eq_true rfl) ?_
      rintro _ w5 ⟨rfl, ft_w5, tk_w5⟩
      have h5 := h4.step ft_w5 tk_w5
      show G0 _ _ _ _ _ _ _ _
      refine g_iconst (v := nI 1) hX d_Re_readTimes_62 rfl ?_
      refine g_zret hX hF d_Re_readTimes_63 (Or.inr rfl) (by omega) (by omega) ?_
      rw [show timesT t f = .inr (nxT t (nxT t f), numC t (nxT t f)) by unfold timesT; rw [if_pos e9, if_pos e31]]
      refine ⟨((ft_w3.R.T).S).tr ft_w5.R.T, rfl, ?_, ?_, h5, ?_, e31.2.2, fun j hj => ?_⟩
      · rw [ft_w5.1 25 (by decide), rI_sI_ne _ _ _ (by decide), ft_w3.1 25 (by decide)]
      · rw [ft_w5.1 28 (by decide), rI_sI_ne _ _ _ (by decide), ft_w3.1 28 (by decide)]
      · rw [ft_w5.1 29 (by decide), rI_sI, upd_eq, if_pos rfl]
      · rw [ft_w5.1 29 (by decide), rI_sI, upd_eq, if_neg hj, ft_w3.1 29 (by decide)]
    · refine g_aload0 hX d_Re_readTimes_34 ?_
      refine g_callV (As := []) hX hF.1 d_Re_readTimes_35 ml_Re_64 cf_Re_fail cv_Re_fail rfl rfl (c_Re_fail h3.1) (rcv_obj hX (lv_25 _) rfl rfl) (by first | decide | omega) (by omega) (by omega) (Nat.le_of_ble_eq_true rfl) ?_
      refine ret_k ?_
      refine g_zret hX hF d_Re_readTimes_38 (Or.inl rfl) (by omega) (by omega) ?_
      rw [show timesT t f = .inl (nxT t f) by unfold timesT; rw [if_pos e9, if_neg e31]]
      exact ⟨(ft_w3.R.pt (by decide)).T, rfl, by rw [rI_sI, upd_eq, if_pos rfl]⟩
  · refine g_iconst (v := nI 1) hX d_Re_readTimes_12 rfl ?_
    refine g_zret hX hF d_Re_readTimes_13 (Or.inr rfl) (by omega) (by omega) ?_
    rw [show timesT t f = .inr (f, 1) by unfold timesT; rw [if_neg e9]]
    exact ⟨FrRt.rf w, rfl, rfl, rfl, h, h7, (show 1 ≤ 20 by decide), fun _ _ => rfl⟩
theorem actK_0 {t : List Nat} {f : Nat} (h : isW t f wJoin) : actK t f 4 = some 0 := by
  show (if isW t f wDye then some 3 else if isW t f wPaint then some 2 else if isW t f wTie then some 1 else if isW t f wJoin then some 0 else none) = _
  rw [if_neg (fun z => absurd (isW_un h z) (by decide)), if_neg (fun z => absurd (isW_un h z) (by decide)), if_neg (fun z => absurd (isW_un h z) (by decide)), if_pos h]
theorem actK_1 {t : List Nat} {f : Nat} (h : isW t f wTie) : actK t f 4 = some 1 := by
  show (if isW t f wDye then some 3 else if isW t f wPaint then some 2 else if isW t f wTie then some 1 else if isW t f wJoin then some 0 else none) = _
  rw [if_neg (fun z => absurd (isW_un h z) (by decide)), if_neg (fun z => absurd (isW_un h z) (by decide)), if_pos h]
theorem actK_2 {t : List Nat} {f : Nat} (h : isW t f wPaint) : actK t f 4 = some 2 := by
  show (if isW t f wDye then some 3 else if isW t f wPaint then some 2 else if isW t f wTie then some 1 else if isW t f wJoin then some 0 else none) = _
  rw [if_neg (fun z => absurd (isW_un h z) (by decide)), if_pos h]
theorem actK_3 {t : List Nat} {f : Nat} (h : isW t f wDye) : actK t f 4 = some 3 := by
  show (if isW t f wDye then some 3 else if isW t f wPaint then some 2 else if isW t f wTie then some 1 else if isW t f wJoin then some 0 else none) = _
  rw [if_pos h]
theorem actK_n {t : List Nat} {f : Nat} (h0 : ¬ isW t f wJoin) (h1 : ¬ isW t f wTie) (h2 : ¬ isW t f wPaint) (h3 : ¬ isW t f wDye) : actK t f 4 = none := by
  show (if isW t f wDye then some 3 else if isW t f wPaint then some 2 else if isW t f wTie then some 1 else if isW t f wJoin then some 0 else none) = _
  rw [if_neg h3, if_neg h2, if_neg h1, if_neg h0]
theorem c_Re_orderSort {E : EV} {w : Mem} {t : List Nat} {f : Nat} (hT : TkD w t f) : T E m_Re_orderSort 6 0 0 [.ref 25] w (fun r w2 => ((∃ k, k < 4 ∧ actK t f 4 = some k ∧ r = some (.int (nI k))) ∨ (r = some (.int (-1)) ∧ actK t f 4 = none)) ∧ w2 = w) := by
  refine T_of (L := [.ref 25]) cf_Re_orderSort rfl (Nat.le_of_ble_eq_true rfl) (fun X hX hF => ?_)
  refine g_aload0 hX d_Re_orderSort_0 ?_
  refine g_getF hX d_Re_orderSort_1 fl_Re_12 (lv_25 _) ?_
  refine g_ldcS (i := 0) (tx := "join") hX d_Re_orderSort_4 (by decide) ?_
  refine g_callV (As := [_]) hX hF.1 d_Re_orderSort_6 ml_Re_72 cf_Ta_isWord cv_Ta_isWord rfl rfl (c_Ta_isWord (i := 0) (wd := wJoin) (by decide) (strW_all.1) hT) (rcv_obj hX (lv_26 _) rfl rfl) (by first | decide | omega) (by omega) (by omega) (Nat.le_of_ble_eq_true rfl) ?_
  refine ret_k ?_
  refine g_ifB_eq hX d_Re_orderSort_9 (fun e0 => ?_) (fun e0 => ?_)
  · refine g_aload0 hX d_Re_orderSort_14 ?_
    refine g_getF hX d_Re_orderSort_15 fl_Re_12 (lv_25 _) ?_
    refine g_ldcS (i := 1) (tx := "tie") hX d_Re_orderSort_18 (by decide) ?_
    refine g_callV (As := [_]) hX hF.1 d_Re_orderSort_20 ml_Re_72 cf_Ta_isWord cv_Ta_isWord rfl rfl (c_Ta_isWord (i := 1) (wd := wTie) (by decide) (strW_all.2.1) hT) (rcv_obj hX (lv_26 _) rfl rfl) (by first | decide | omega) (by omega) (by omega) (Nat.le_of_ble_eq_true rfl) ?_
    refine ret_k ?_
    refine g_ifB_eq hX d_Re_orderSort_23 (fun e1 => ?_) (fun e1 => ?_)
    · refine g_aload0 hX d_Re_orderSort_28 ?_
      refine g_getF hX d_Re_orderSort_29 fl_Re_12 (lv_25 _) ?_
      refine g_ldcS (i := 2) (tx := "paint") hX d_Re_orderSort_32 (by decide) ?_
      refine g_callV (As := [_]) hX hF.1 d_Re_orderSort_34 ml_Re_72 cf_Ta_isWord cv_Ta_isWord rfl rfl (c_Ta_isWord (i := 2) (wd := wPaint) (by decide) (strW_all.2.2.1) hT) (rcv_obj hX (lv_26 _) rfl rfl) (by first | decide | omega) (by omega) (by omega) (Nat.le_of_ble_eq_true rfl) ?_
      refine ret_k ?_
      refine g_ifB_eq hX d_Re_orderSort_37 (fun e2 => ?_) (fun e2 => ?_)
      · refine g_aload0 hX d_Re_orderSort_42 ?_
        refine g_getF hX d_Re_orderSort_43 fl_Re_12 (lv_25 _) ?_
        refine g_ldcS (i := 3) (tx := "dye") hX d_Re_orderSort_46 (by decide) ?_
        refine g_callV (As := [_]) hX hF.1 d_Re_orderSort_48 ml_Re_72 cf_Ta_isWord cv_Ta_isWord rfl rfl (c_Ta_isWord (i := 3) (wd := wDye) (by decide) (strW_all.2.2.2.1) hT) (rcv_obj hX (lv_26 _) rfl rfl) (by first | decide | omega) (by omega) (by omega) (Nat.le_of_ble_eq_true rfl) ?_
        refine ret_k ?_
        refine g_ifB_eq hX d_Re_orderSort_51 (fun e3 => ?_) (fun e3 => ?_)
        · refine g_iconst (v := -1) hX d_Re_orderSort_58 rfl ?_
          refine g_iret hX hF d_Re_orderSort_59 (by omega) (by omega) ?_
          first
          | exact ⟨Or.inl ⟨3, by decide, actK_3 e3, rfl⟩, rfl⟩
          | exact ⟨Or.inr ⟨rfl, actK_n e0 e1 e2 e3⟩, rfl⟩
        · refine g_iconst (v := nI 3) hX d_Re_orderSort_54 rfl ?_
          refine g_goto hX d_Re_orderSort_55 ?_
          refine g_iret hX hF d_Re_orderSort_59 (by omega) (by omega) ?_
          first
          | exact ⟨Or.inl ⟨3, by decide, actK_3 e3, rfl⟩, rfl⟩
          | exact ⟨Or.inr ⟨rfl, actK_n e0 e1 e2 e3⟩, rfl⟩
      · refine g_iconst (v := nI 2) hX d_Re_orderSort_40 rfl ?_
        refine g_iret hX hF d_Re_orderSort_41 (by omega) (by omega) ?_
        exact ⟨Or.inl ⟨2, by decide, actK_2 e2, rfl⟩, rfl⟩
    · refine g_iconst (v := nI 1) hX d_Re_orderSort_26 rfl ?_
      refine g_iret hX hF d_Re_orderSort_27 (by omega) (by omega) ?_
      exact ⟨Or.inl ⟨1, by decide, actK_1 e1, rfl⟩, rfl⟩
  · refine g_iconst (v := nI 0) hX d_Re_orderSort_12 rfl ?_
    refine g_iret hX hF d_Re_orderSort_13 (by omega) (by omega) ?_
    exact ⟨Or.inl ⟨0, by decide, actK_0 e0, rfl⟩, rfl⟩
