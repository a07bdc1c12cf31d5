def m_Pr_addClause : MR := (⟨"SubgraphDesk$Program", "addClause", "(I)V"⟩, prog_7_method_4_code, 3, none)
theorem cf_Pr_addClause : CF m_Pr_addClause 1 := ⟨gd 863 (by decide +kernel) rfl, gd 144 (by decide +kernel) rfl, by decide +kernel, by decide, by decide +kernel⟩
theorem cv_Pr_addClause : CV m_Pr_addClause := ⟨gd 861 (by decide +kernel) rfl, gd 862 (by decide +kernel) rfl⟩
def m_Pr_aim : MR := (⟨"SubgraphDesk$Program", "aim", "(I)V"⟩, prog_7_method_8_code, 2, none)
theorem cf_Pr_aim : CF m_Pr_aim 1 := ⟨gd 979 (by decide +kernel) rfl, gd 144 (by decide +kernel) rfl, by decide +kernel, by decide, by decide +kernel⟩
theorem cv_Pr_aim : CV m_Pr_aim := ⟨gd 977 (by decide +kernel) rfl, gd 978 (by decide +kernel) rfl⟩
def m_Pr_emit : MR := (⟨"SubgraphDesk$Program", "emit", "(II)I"⟩, prog_7_method_7_code, 3, (some .int))
theorem cf_Pr_emit : CF m_Pr_emit 2 := ⟨gd 906 (by decide +kernel) rfl, gd 144 (by decide +kernel) rfl, by decide +kernel, by decide, by decide +kernel⟩
theorem cv_Pr_emit : CV m_Pr_emit := ⟨gd 904 (by decide +kernel) rfl, gd 905 (by decide +kernel) rfl⟩
def m_Pr_mentions : MR := (⟨"SubgraphDesk$Program", "mentions", "(I)Z"⟩, prog_7_method_9_code, 3, (some .boolean))
theorem cf_Pr_mentions : CF m_Pr_mentions 1 := ⟨gd 1020 (by decide +kernel) rfl, gd 144 (by decide +kernel) rfl, by decide +kernel, by decide, by decide +kernel⟩
theorem cv_Pr_mentions : CV m_Pr_mentions := ⟨gd 1018 (by decide +kernel) rfl, gd 1019 (by decide +kernel) rfl⟩
def m_Pr_set : MR := (⟨"SubgraphDesk$Program", "set", "(II)V"⟩, prog_7_method_6_code, 4, none)
theorem cf_Pr_set : CF m_Pr_set 2 := ⟨gd 878 (by decide +kernel) rfl, gd 144 (by decide +kernel) rfl, by decide +kernel, by decide, by decide +kernel⟩
theorem cv_Pr_set : CV m_Pr_set := ⟨gd 876 (by decide +kernel) rfl, gd 877 (by decide +kernel) rfl⟩
theorem d_Pr_addClause_0 : Dc prog_7_method_4_code 0 (.aload_n 0) 1 1 := ⟨by decide +kernel, rfl⟩
theorem d_Pr_addClause_1 : Dc prog_7_method_4_code 1 (.getfield 18) 3 4 := ⟨by decide +kernel, rfl⟩
theorem d_Pr_addClause_4 : Dc prog_7_method_4_code 4 (.bipush 8) 2 6 := ⟨by decide +kernel, rfl⟩
theorem d_Pr_addClause_6 : Dc prog_7_method_4_code 6 (.imul) 1 7 := ⟨by decide +kernel, rfl⟩
theorem d_Pr_addClause_7 : Dc prog_7_method_4_code 7 (.istore_n 2) 1 8 := ⟨by decide +kernel, rfl⟩
theorem d_Pr_addClause_8 : Dc prog_7_method_4_code 8 (.iload_n 2) 1 9 := ⟨by decide +kernel, rfl⟩
theorem d_Pr_addClause_9 : Dc prog_7_method_4_code 9 (.bipush 8) 2 11 := ⟨by decide +kernel, rfl⟩
theorem d_Pr_addClause_11 : Dc prog_7_method_4_code 11 (.iadd) 1 12 := ⟨by decide +kernel, rfl⟩
theorem d_Pr_addClause_12 : Dc prog_7_method_4_code 12 (.aload_n 0) 1 13 := ⟨by decide +kernel, rfl⟩
theorem d_Pr_addClause_13 : Dc prog_7_method_4_code 13 (.getfield 11) 3 16 := ⟨by decide +kernel, rfl⟩
theorem d_Pr_addClause_16 : Dc prog_7_method_4_code 16 (.arraylength) 1 17 := ⟨by decide +kernel, rfl⟩
theorem d_Pr_addClause_17 : Dj prog_7_method_4_code 17 (.if_icmp .le 4) 20 4 21 := ⟨by decide +kernel, rfl, rfl⟩
theorem d_Pr_addClause_21 : Dc prog_7_method_4_code 21 (.aload_n 0) 1 22 := ⟨by decide +kernel, rfl⟩
theorem d_Pr_addClause_22 : Dc prog_7_method_4_code 22 (.getfield 11) 3 25 := ⟨by decide +kernel, rfl⟩
theorem d_Pr_addClause_25 : Dc prog_7_method_4_code 25 (.iload_n 2) 1 26 := ⟨by decide +kernel, rfl⟩
theorem d_Pr_addClause_26 : Dc prog_7_method_4_code 26 (.iload_n 2) 1 27 := ⟨by decide +kernel, rfl⟩
theorem d_Pr_addClause_27 : Dc prog_7_method_4_code 27 (.bipush 8) 2 29 := ⟨by decide +kernel, rfl⟩
theorem d_Pr_addClause_29 : Dc prog_7_method_4_code 29 (.iadd) 1 30 := ⟨by decide +kernel, rfl⟩
theorem d_Pr_addClause_30 : Dc prog_7_method_4_code 30 (.iconst 0) 1 31 := ⟨by decide +kernel, rfl⟩
theorem d_Pr_addClause_31 : Dc prog_7_method_4_code 31 (.invokestatic 34) 3 34 := ⟨by decide +kernel, rfl⟩
theorem d_Pr_addClause_34 : Dc prog_7_method_4_code 34 (.aload_n 0) 1 35 := ⟨by decide +kernel, rfl⟩
theorem d_Pr_addClause_35 : Dc prog_7_method_4_code 35 (.getfield 11) 3 38 := ⟨by decide +kernel, rfl⟩
theorem d_Pr_addClause_38 : Dc prog_7_method_4_code 38 (.iload_n 2) 1 39 := ⟨by decide +kernel, rfl⟩
theorem d_Pr_addClause_39 : Dc prog_7_method_4_code 39 (.iconst 0) 1 40 := ⟨by decide +kernel, rfl⟩
theorem d_Pr_addClause_40 : Dc prog_7_method_4_code 40 (.iadd) 1 41 := ⟨by decide +kernel, rfl⟩
theorem d_Pr_addClause_41 : Dc prog_7_method_4_code 41 (.iload_n 1) 1 42 := ⟨by decide +kernel, rfl⟩
theorem d_Pr_addClause_42 : Dc prog_7_method_4_code 42 (.iastore) 1 43 := ⟨by decide +kernel, rfl⟩
theorem d_Pr_addClause_43 : Dc prog_7_method_4_code 43 (.aload_n 0) 1 44 := ⟨by decide +kernel, rfl⟩
theorem d_Pr_addClause_44 : Dc prog_7_method_4_code 44 (.getfield 11) 3 47 := ⟨by decide +kernel, rfl⟩
theorem d_Pr_addClause_47 : Dc prog_7_method_4_code 47 (.iload_n 2) 1 48 := ⟨by decide +kernel, rfl⟩
theorem d_Pr_addClause_48 : Dc prog_7_method_4_code 48 (.bipush 7) 2 50 := ⟨by decide +kernel, rfl⟩
theorem d_Pr_addClause_50 : Dc prog_7_method_4_code 50 (.iadd) 1 51 := ⟨by decide +kernel, rfl⟩
theorem d_Pr_addClause_51 : Dc prog_7_method_4_code 51 (.iconst 1) 1 52 := ⟨by decide +kernel, rfl⟩
theorem d_Pr_addClause_52 : Dc prog_7_method_4_code 52 (.iastore) 1 53 := ⟨by decide +kernel, rfl⟩
theorem d_Pr_addClause_53 : Dc prog_7_method_4_code 53 (.aload_n 0) 1 54 := ⟨by decide +kernel, rfl⟩
theorem d_Pr_addClause_54 : Dc prog_7_method_4_code 54 (.dup) 1 55 := ⟨by decide +kernel, rfl⟩
theorem d_Pr_addClause_55 : Dc prog_7_method_4_code 55 (.getfield 18) 3 58 := ⟨by decide +kernel, rfl⟩
theorem d_Pr_addClause_58 : Dc prog_7_method_4_code 58 (.iconst 1) 1 59 := ⟨by decide +kernel, rfl⟩
theorem d_Pr_addClause_59 : Dc prog_7_method_4_code 59 (.iadd) 1 60 := ⟨by decide +kernel, rfl⟩
theorem d_Pr_addClause_60 : Dc prog_7_method_4_code 60 (.putfield 18) 3 63 := ⟨by decide +kernel, rfl⟩
theorem d_Pr_addClause_63 : Dc prog_7_method_4_code 63 (.return_) 1 64 := ⟨by decide +kernel, rfl⟩
theorem d_Pr_aim_0 : Dc prog_7_method_8_code 0 (.iload_n 1) 1 1 := ⟨by decide +kernel, rfl⟩
theorem d_Pr_aim_1 : Dj prog_7_method_8_code 1 (.ifCond .lt 24) 4 24 25 := ⟨by decide +kernel, rfl, rfl⟩
theorem d_Pr_aim_4 : Dc prog_7_method_8_code 4 (.iload_n 1) 1 5 := ⟨by decide +kernel, rfl⟩
theorem d_Pr_aim_5 : Dc prog_7_method_8_code 5 (.aload_n 0) 1 6 := ⟨by decide +kernel, rfl⟩
theorem d_Pr_aim_6 : Dc prog_7_method_8_code 6 (.getfield 22) 3 9 := ⟨by decide +kernel, rfl⟩
theorem d_Pr_aim_9 : Dj prog_7_method_8_code 9 (.if_icmp .ge 16) 12 16 25 := ⟨by decide +kernel, rfl, rfl⟩
theorem d_Pr_aim_12 : Dc prog_7_method_8_code 12 (.aload_n 0) 1 13 := ⟨by decide +kernel, rfl⟩
theorem d_Pr_aim_13 : Dc prog_7_method_8_code 13 (.getfield 15) 3 16 := ⟨by decide +kernel, rfl⟩
theorem d_Pr_aim_16 : Dc prog_7_method_8_code 16 (.iload_n 1) 1 17 := ⟨by decide +kernel, rfl⟩
theorem d_Pr_aim_17 : Dc prog_7_method_8_code 17 (.dup2) 1 18 := ⟨by decide +kernel, rfl⟩
theorem d_Pr_aim_18 : Dc prog_7_method_8_code 18 (.iaload) 1 19 := ⟨by decide +kernel, rfl⟩
theorem d_Pr_aim_19 : Dc prog_7_method_8_code 19 (.aload_n 0) 1 20 := ⟨by decide +kernel, rfl⟩
theorem d_Pr_aim_20 : Dc prog_7_method_8_code 20 (.getfield 22) 3 23 := ⟨by decide +kernel, rfl⟩
theorem d_Pr_aim_23 : Dc prog_7_method_8_code 23 (.ior) 1 24 := ⟨by decide +kernel, rfl⟩
theorem d_Pr_aim_24 : Dc prog_7_method_8_code 24 (.iastore) 1 25 := ⟨by decide +kernel, rfl⟩
theorem d_Pr_aim_25 : Dc prog_7_method_8_code 25 (.return_) 1 26 := ⟨by decide +kernel, rfl⟩
theorem d_Pr_emit_0 : Dc prog_7_method_7_code 0 (.aload_n 0) 1 1 := ⟨by decide +kernel, rfl⟩
theorem d_Pr_emit_1 : Dc prog_7_method_7_code 1 (.getfield 22) 3 4 := ⟨by decide +kernel, rfl⟩
theorem d_Pr_emit_4 : Dc prog_7_method_7_code 4 (.aload_n 0) 1 5 := ⟨by decide +kernel, rfl⟩
theorem d_Pr_emit_5 : Dc prog_7_method_7_code 5 (.getfield 15) 3 8 := ⟨by decide +kernel, rfl⟩
theorem d_Pr_emit_8 : Dc prog_7_method_7_code 8 (.arraylength) 1 9 := ⟨by decide +kernel, rfl⟩
theorem d_Pr_emit_9 : Dj prog_7_method_7_code 9 (.if_icmp .lt 5) 12 5 14 := ⟨by decide +kernel, rfl, rfl⟩
theorem d_Pr_emit_14 : Dc prog_7_method_7_code 14 (.aload_n 0) 1 15 := ⟨by decide +kernel, rfl⟩
theorem d_Pr_emit_15 : Dc prog_7_method_7_code 15 (.getfield 15) 3 18 := ⟨by decide +kernel, rfl⟩
theorem d_Pr_emit_18 : Dc prog_7_method_7_code 18 (.aload_n 0) 1 19 := ⟨by decide +kernel, rfl⟩
theorem d_Pr_emit_19 : Dc prog_7_method_7_code 19 (.getfield 22) 3 22 := ⟨by decide +kernel, rfl⟩
theorem d_Pr_emit_22 : Dc prog_7_method_7_code 22 (.iload_n 1) 1 23 := ⟨by decide +kernel, rfl⟩
theorem d_Pr_emit_23 : Dc prog_7_method_7_code 23 (.bipush 12) 2 25 := ⟨by decide +kernel, rfl⟩
theorem d_Pr_emit_25 : Dc prog_7_method_7_code 25 (.ishl) 1 26 := ⟨by decide +kernel, rfl⟩
theorem d_Pr_emit_26 : Dc prog_7_method_7_code 26 (.iload_n 2) 1 27 := ⟨by decide +kernel, rfl⟩
theorem d_Pr_emit_27 : Dc prog_7_method_7_code 27 (.ior) 1 28 := ⟨by decide +kernel, rfl⟩
theorem d_Pr_emit_28 : Dc prog_7_method_7_code 28 (.iastore) 1 29 := ⟨by decide +kernel, rfl⟩
theorem d_Pr_emit_29 : Dc prog_7_method_7_code 29 (.aload_n 0) 1 30 := ⟨by decide +kernel, rfl⟩
theorem d_Pr_emit_30 : Dc prog_7_method_7_code 30 (.dup) 1 31 := ⟨by decide +kernel, rfl⟩
theorem d_Pr_emit_31 : Dc prog_7_method_7_code 31 (.getfield 22) 3 34 := ⟨by decide +kernel, rfl⟩
theorem d_Pr_emit_34 : Dc prog_7_method_7_code 34 (.dup_x1) 1 35 := ⟨by decide +kernel, rfl⟩
theorem d_Pr_emit_35 : Dc prog_7_method_7_code 35 (.iconst 1) 1 36 := ⟨by decide +kernel, rfl⟩
theorem d_Pr_emit_36 : Dc prog_7_method_7_code 36 (.iadd) 1 37 := ⟨by decide +kernel, rfl⟩
theorem d_Pr_emit_37 : Dc prog_7_method_7_code 37 (.putfield 22) 3 40 := ⟨by decide +kernel, rfl⟩
theorem d_Pr_emit_40 : Dc prog_7_method_7_code 40 (.ireturn) 1 41 := ⟨by decide +kernel, rfl⟩
theorem d_Pr_mentions_0 : Dc prog_7_method_9_code 0 (.iconst 0) 1 1 := ⟨by decide +kernel, rfl⟩
theorem d_Pr_mentions_1 : Dc prog_7_method_9_code 1 (.istore_n 2) 1 2 := ⟨by decide +kernel, rfl⟩
theorem d_Pr_mentions_2 : Dc prog_7_method_9_code 2 (.iload_n 2) 1 3 := ⟨by decide +kernel, rfl⟩
theorem d_Pr_mentions_3 : Dc prog_7_method_9_code 3 (.aload_n 0) 1 4 := ⟨by decide +kernel, rfl⟩
theorem d_Pr_mentions_4 : Dc prog_7_method_9_code 4 (.getfield 22) 3 7 := ⟨by decide +kernel, rfl⟩
theorem d_Pr_mentions_7 : Dj prog_7_method_9_code 7 (.if_icmp .ge 25) 10 25 32 := ⟨by decide +kernel, rfl, rfl⟩
theorem d_Pr_mentions_10 : Dc prog_7_method_9_code 10 (.aload_n 0) 1 11 := ⟨by decide +kernel, rfl⟩
theorem d_Pr_mentions_11 : Dc prog_7_method_9_code 11 (.getfield 15) 3 14 := ⟨by decide +kernel, rfl⟩
theorem d_Pr_mentions_14 : Dc prog_7_method_9_code 14 (.iload_n 2) 1 15 := ⟨by decide +kernel, rfl⟩
theorem d_Pr_mentions_15 : Dc prog_7_method_9_code 15 (.iaload) 1 16 := ⟨by decide +kernel, rfl⟩
theorem d_Pr_mentions_16 : Dc prog_7_method_9_code 16 (.sipush 4096) 3 19 := ⟨by decide +kernel, rfl⟩
theorem d_Pr_mentions_19 : Dc prog_7_method_9_code 19 (.iload_n 1) 1 20 := ⟨by decide +kernel, rfl⟩
theorem d_Pr_mentions_20 : Dc prog_7_method_9_code 20 (.ior) 1 21 := ⟨by decide +kernel, rfl⟩
theorem d_Pr_mentions_21 : Dj prog_7_method_9_code 21 (.if_icmp .ne 5) 24 5 26 := ⟨by decide +kernel, rfl, rfl⟩
theorem d_Pr_mentions_24 : Dc prog_7_method_9_code 24 (.iconst 1) 1 25 := ⟨by decide +kernel, rfl⟩
theorem d_Pr_mentions_25 : Dc prog_7_method_9_code 25 (.ireturn) 1 26 := ⟨by decide +kernel, rfl⟩
theorem d_Pr_mentions_26 : Dc prog_7_method_9_code 26 (.iinc 2 1) 3 29 := ⟨by decide +kernel, rfl⟩
theorem d_Pr_mentions_29 : Dj prog_7_method_9_code 29 (.goto (-27)) 32 (-27) 2 := ⟨by decide +kernel, rfl, rfl⟩
theorem d_Pr_mentions_32 : Dc prog_7_method_9_code 32 (.iconst 0) 1 33 := ⟨by decide +kernel, rfl⟩
theorem d_Pr_mentions_33 : Dc prog_7_method_9_code 33 (.ireturn) 1 34 := ⟨by decide +kernel, rfl⟩
theorem d_Pr_set_0 : Dc prog_7_method_6_code 0 (.aload_n 0) 1 1 := ⟨by decide +kernel, rfl⟩
theorem d_Pr_set_1 : Dc prog_7_method_6_code 1 (.getfield 18) 3 4 := ⟨by decide +kernel, rfl⟩
theorem d_Pr_set_4 : Dc prog_7_method_6_code 4 (.iconst 1) 1 5 := ⟨by decide +kernel, rfl⟩
theorem d_Pr_set_5 : Dc prog_7_method_6_code 5 (.isub) 1 6 := ⟨by decide +kernel, rfl⟩
theorem d_Pr_set_6 : Dc prog_7_method_6_code 6 (.bipush 8) 2 8 := ⟨by decide +kernel, rfl⟩
theorem d_Pr_set_8 : Dc prog_7_method_6_code 8 (.imul) 1 9 := ⟨by decide +kernel, rfl⟩
theorem d_Pr_set_9 : Dc prog_7_method_6_code 9 (.iload_n 1) 1 10 := ⟨by decide +kernel, rfl⟩
theorem d_Pr_set_10 : Dc prog_7_method_6_code 10 (.iadd) 1 11 := ⟨by decide +kernel, rfl⟩
theorem d_Pr_set_11 : Dc prog_7_method_6_code 11 (.istore_n 3) 1 12 := ⟨by decide +kernel, rfl⟩
theorem d_Pr_set_12 : Dc prog_7_method_6_code 12 (.iload_n 3) 1 13 := ⟨by decide +kernel, rfl⟩
theorem d_Pr_set_13 : Dj prog_7_method_6_code 13 (.ifCond .lt 19) 16 19 32 := ⟨by decide +kernel, rfl, rfl⟩
theorem d_Pr_set_16 : Dc prog_7_method_6_code 16 (.iload_n 3) 1 17 := ⟨by decide +kernel, rfl⟩
theorem d_Pr_set_17 : Dc prog_7_method_6_code 17 (.aload_n 0) 1 18 := ⟨by decide +kernel, rfl⟩
theorem d_Pr_set_18 : Dc prog_7_method_6_code 18 (.getfield 11) 3 21 := ⟨by decide +kernel, rfl⟩
theorem d_Pr_set_21 : Dc prog_7_method_6_code 21 (.arraylength) 1 22 := ⟨by decide +kernel, rfl⟩
theorem d_Pr_set_22 : Dj prog_7_method_6_code 22 (.if_icmp .ge 10) 25 10 32 := ⟨by decide +kernel, rfl, rfl⟩
theorem d_Pr_set_25 : Dc prog_7_method_6_code 25 (.aload_n 0) 1 26 := ⟨by decide +kernel, rfl⟩
theorem d_Pr_set_26 : Dc prog_7_method_6_code 26 (.getfield 11) 3 29 := ⟨by decide +kernel, rfl⟩
theorem d_Pr_set_29 : Dc prog_7_method_6_code 29 (.iload_n 3) 1 30 := ⟨by decide +kernel, rfl⟩
theorem d_Pr_set_30 : Dc prog_7_method_6_code 30 (.iload_n 2) 1 31 := ⟨by decide +kernel, rfl⟩
theorem d_Pr_set_31 : Dc prog_7_method_6_code 31 (.iastore) 1 32 := ⟨by decide +kernel, rfl⟩
theorem d_Pr_set_32 : Dc prog_7_method_6_code 32 (.return_) 1 33 := ⟨by decide +kernel, rfl⟩
theorem ml_Pr_34 : Cond.methodLink "SubgraphDesk$Program" 34 m_JArrays_fill_IIIIV.1 ∈ lw_gd := gd 864 (by decide +kernel) rfl
/-- the draft's rows lie where they were made -/
def Dra (w : Mem) : Prop := rR w 28 2 = some 29 ∧ rR w 28 3 = some 30
theorem Dra.P {w : Mem} (h : Dra w) : PrO w 28 29 30 96 256 := ⟨lv_28 _, h.1, h.2, lv_29 _, lv_30 _⟩
theorem Dra.fr {w w2 : Mem} (h : Dra w) (e : w2.2.2 = w.2.2) : Dra w2 := by
  unfold Dra rR
  rw [e]
  exact h
/-- the draft's code -/
def DrC (w : Mem) (c : List (Nat × Nat)) : Prop := Dra w ∧ c.length ≤ 256 ∧ rI w 28 1 = nI c.length ∧ (∀ j, j < c.length → rI w 30 j = nI (cwd (cO c j) (cA c j))) ∧ okOp (cO c) (cA c) c.length ∧ ∀ j, j < c.length → cO c j = 0 ∨ 20 ≤ cO c j ∨ (1 ≤ cO c j ∧ cO c j ≤ 7)
theorem DrC.fr {w w2 : Mem} {c : List (Nat × Nat)} (h : DrC w c) (e : w2.2.2 = w.2.2) (e1 : rI w2 28 1 = rI w 28 1) (e2 : rI w2 30 = rI w 30) : DrC w2 c := ⟨h.1.fr e, h.2.1, by rw [e1]; exact h.2.2.1, by rw [e2]; exact h.2.2.2.1, h.2.2.2.2⟩
theorem sh_or {a b : Nat} (h : b < 4096) : a <<< 12 ||| b = a * 4096 + b := by
  rw [← Nat.shiftLeft_add_eq_or_of_lt (show b < 2 ^ 12 from h), Nat.shiftLeft_eq]
theorem c_Pr_emit {E : EV} {w : Mem} {o a len : Nat} (hD : Dra w) (hl : rI w 28 1 = nI len) (hlt : len < 256) (ho : o < 13) (ha : a < 4096) : T E m_Pr_emit 0 0 0 [.ref 28, .int (nI o), .int (nI a)] w (Ret (some (.int (nI len))) (sI (sI w 30 len (nI (o * 4096 + a))) 28 1 (nI (len + 1)))) := by
  refine T_of (L := [.ref 28, .int (nI o), .int (nI a)]) cf_Pr_emit rfl (Nat.le_of_ble_eq_true rfl) (fun X hX hF => ?_)
  refine g_aload0 hX d_Pr_emit_0 ?_
  refine g_getI hX d_Pr_emit_1 fl_Pr_22 (lv_28 _) ?_
  refine g_topi hl ?_
  refine g_aload0 hX d_Pr_emit_4 ?_
  refine g_getR hX d_Pr_emit_5 fl_Pr_15 (lv_28 _) hD.2 ?_
  refine g_alenI hX d_Pr_emit_8 (lv_30 _) ?_
  refine g_icmpN_lt hX d_Pr_emit_9 (by omega) (by omega) (fun c0 => ?_) (fun h => absurd h (by omega))
  refine g_aload0 hX d_Pr_emit_14 ?_
  refine g_getR hX d_Pr_emit_15 fl_Pr_15 (lv_28 _) hD.2 ?_
  refine g_aload0 hX d_Pr_emit_18 ?_
  refine g_getI hX d_Pr_emit_19 fl_Pr_22 (lv_28 _) ?_
  refine g_topi hl ?_
  refine g_iload1 hX d_Pr_emit_22 ?_
  refine g_bipush (v := nI 12) hX d_Pr_emit_23 rfl ?_
  refine g_ishlN hX d_Pr_emit_25 (by decide) ?_
  refine g_iload2 hX d_Pr_emit_26 ?_
  refine g_iorN hX d_Pr_emit_27 ?_
  refine g_topi (show nI (o <<< 12 ||| a) = nI (o * 4096 + a) by rw [sh_or ha]) ?_
  refine g_iast hX d_Pr_emit_28 (lv_30 _) rfl (by omega) ?_
  refine g_aload0 hX d_Pr_emit_29 ?_
  refine g_dup hX d_Pr_emit_30 rfl ?_
  refine g_getI hX d_Pr_emit_31 fl_Pr_22 (lv_28 _) ?_
  refine g_topi (show rI (sI w 30 len _) 28 1 = nI len by rw [rI_sI_ne _ _ _ (by decide)]; exact hl) ?_
  refine g_dup_x1 hX d_Pr_emit_34 rfl rfl ?_
  refine g_iconst (v := nI 1) hX d_Pr_emit_35 rfl ?_
  refine g_iaddN hX d_Pr_emit_36 ?_
  refine g_putI hX d_Pr_emit_37 fl_Pr_22 (lv_28 _) ?_
  refine g_iret hX hF d_Pr_emit_40 (by omega) (by omega) ?_
  exact ⟨rfl, rfl⟩
theorem c_Pr_aim {E : EV} {w : Mem} {k o len : Nat} (hD : Dra w) (hl : rI w 28 1 = nI len) (hk : k < len) (hlt : len ≤ 256) (ho : o < 13) (hx : rI w 30 k = nI (o * 4096)) : T E m_Pr_aim 0 0 0 [.ref 28, .int (nI k)] w (Ret none (sI w 30 k (nI (o * 4096 + len)))) := by
  refine T_of (L := [.ref 28, .int (nI k)]) cf_Pr_aim rfl (Nat.le_of_ble_eq_true rfl) (fun X hX hF => ?_)
  refine g_iload1 hX d_Pr_aim_0 ?_
  refine g_if_lt hX d_Pr_aim_1 (fun h => absurd h (nI_pos (by omega))) (fun c0 => ?_)
  refine g_iload1 hX d_Pr_aim_4 ?_
  refine g_aload0 hX d_Pr_aim_5 ?_
  refine g_getI hX d_Pr_aim_6 fl_Pr_22 (lv_28 _) ?_
  refine g_topi hl ?_
  refine g_icmpN_ge hX d_Pr_aim_9 (by omega) (by omega) (fun h => absurd h (by omega)) (fun c1 => ?_)
  refine g_aload0 hX d_Pr_aim_12 ?_
  refine g_getR hX d_Pr_aim_13 fl_Pr_15 (lv_28 _) hD.2 ?_
  refine g_iload1 hX d_Pr_aim_16 ?_
  refine g_dup2 hX d_Pr_aim_17 rfl rfl ?_
  refine g_iald hX d_Pr_aim_18 (lv_30 _) rfl (by omega) ?_
  refine g_topi hx ?_
  refine g_aload0 hX d_Pr_aim_19 ?_
  refine g_getI hX d_Pr_aim_20 fl_Pr_22 (lv_28 _) ?_
  refine g_topi hl ?_
  refine g_iorN hX d_Pr_aim_23 ?_
  refine g_topi (show nI (o * 4096 ||| len) = nI (o * 4096 + len) by rw [← sh_or (show len < 4096 by omega), Nat.shiftLeft_eq]) ?_
  refine g_iast hX d_Pr_aim_24 (lv_30 _) rfl (by omega) ?_
  refine g_vret hX hF d_Pr_aim_25 (by omega) (by omega) ?_
  exact ⟨rfl, rfl⟩
theorem c_Pr_set {E : EV} {w : Mem} {k m : Nat} {x : Int32} (hD : Dra w) (hl : rI w 28 0 = nI (m + 1)) (hm : 8 * m + k < 96) (hk : k < 8) : T E m_Pr_set 0 0 0 [.ref 28, .int (nI k), .int x] w (Ret none (sI w 29 (8 * m + k) x)) := by
  refine T_of (L := [.ref 28, .int (nI k), .int x, un]) cf_Pr_set rfl (Nat.le_of_ble_eq_true rfl) (fun X hX hF => ?_)
  refine g_aload0 hX d_Pr_set_0 ?_
  refine g_getI hX d_Pr_set_1 fl_Pr_18 (lv_28 _) ?_
  refine g_topi hl ?_
  refine g_iconst (v := nI 1) hX d_Pr_set_4 rfl ?_
  refine g_isubN hX d_Pr_set_5 (by omega) ?_
  refine g_bipush (v := nI 8) hX d_Pr_set_6 rfl ?_
  refine g_imulN hX d_Pr_set_8 ?_
  refine g_iload1 hX d_Pr_set_9 ?_
  refine g_iaddN hX d_Pr_set_10 ?_
  refine g_topi (show nI ((m + 1 - 1) * 8 + k) = nI (8 * m + k) by rw [Nat.add_sub_cancel, Nat.mul_comm]) ?_
  refine g_istore3 hX d_Pr_set_11 rfl (by decide) ?_
  refine g_iload3 hX d_Pr_set_12 ?_
  refine g_if_lt hX d_Pr_set_13 (fun h => absurd h (nI_pos (by omega))) (fun c0 => ?_)
  refine g_iload3 hX d_Pr_set_16 ?_
  refine g_aload0 hX d_Pr_set_17 ?_
  refine g_getR hX d_Pr_set_18 fl_Pr_11 (lv_28 _) hD.1 ?_
  refine g_alenI hX d_Pr_set_21 (lv_29 _) ?_
  refine g_icmpN_ge hX d_Pr_set_22 (by omega) (by omega) (fun h => absurd h (by omega)) (fun c1 => ?_)
  refine g_aload0 hX d_Pr_set_25 ?_
  refine g_getR hX d_Pr_set_26 fl_Pr_11 (lv_28 _) hD.1 ?_
  refine g_iload3 hX d_Pr_set_29 ?_
  refine g_iload2 hX d_Pr_set_30 ?_
  refine g_iast hX d_Pr_set_31 (lv_29 _) rfl (by omega) ?_
  refine g_vret hX hF d_Pr_set_32 (by omega) (by omega) ?_
  exact ⟨rfl, rfl⟩
theorem cwd_5 {o a : Nat} (h : o < 31) (ha : a < 1001) (hr : o = 0 ∨ 20 ≤ o ∨ (1 ≤ o ∧ o ≤ 7)) (he : cwd o a = 4100) : o = 5 := by
  have h1 := dA_lt h ha
  unfold cwd at he
  have hd : dO o = 1 := by omega
  have h3 : dA o a = 4 := by omega
  obtain ⟨h4, h5⟩ := dO_1.mp hd
  unfold dA at h3
  rw [if_neg h4] at h3
  split at h3
  · omega
  · first | omega | (rw [if_pos h5] at h3; omega)
theorem c_Pr_mentions {E : EV} {w : Mem} {c : List (Nat × Nat)} (hC : DrC w c) : T E m_Pr_mentions 0 0 0 [.ref 28, .int (nI 4)] w (Ret (some (.int (b2i (∃ j, j < c.length ∧ cO c j = 5)))) w) := by
  refine T_of (L := [.ref 28, .int (nI 4), un]) cf_Pr_mentions rfl (Nat.le_of_ble_eq_true rfl) (fun X hX hF => ?_)
  have hD := hC.1
  have hcl := hC.2.1
  have lm : ∀ (fuel : Nat) (k : Nat), c.length - k < fuel → (k ≤ c.length) → (∀ j, j < k → cO c j ≠ 5) → G0 E X 0 0 2 [.ref 28, .int (nI 4), .int (nI k)] [] w := by
    intro fuel
    induction fuel with
    | zero => intro k q0; exact absurd q0 (Nat.not_lt_zero _)
    | succ fuel ih =>
      intro k q0 q1 q2
      refine g_iload2 hX d_Pr_mentions_2 ?_
      refine g_aload0 hX d_Pr_mentions_3 ?_
      refine g_getI hX d_Pr_mentions_4 fl_Pr_22 (lv_28 _) ?_
      refine g_topi hC.2.2.1 ?_
      refine g_icmpN_ge hX d_Pr_mentions_7 (by omega) (by omega) (fun e7 => ?_) (fun e7 => ?_)
      · refine g_iconst (v := nI 0) hX d_Pr_mentions_32 rfl ?_
        refine g_zret hX hF d_Pr_mentions_33 (Or.inl rfl) (by omega) (by omega) ?_
        exact ret_f (fun ⟨j, h1, h2⟩ => q2 j (by omega) h2)
      · obtain ⟨ho, ha, -⟩ := hC.2.2.2.2.1 k e7
        have hcw := cwd_lt ho ha
        have hrg := hC.2.2.2.2.2 k e7
        refine g_aload0 hX d_Pr_mentions_10 ?_
        refine g_getR hX d_Pr_mentions_11 fl_Pr_15 (lv_28 _) hD.2 ?_
        refine g_iload2 hX d_Pr_mentions_14 ?_
        refine g_iald hX d_Pr_mentions_15 (lv_30 _) rfl (by omega) ?_
        refine g_topi (hC.2.2.2.1 k e7) ?_
        refine g_sipush (v := nI 4096) hX d_Pr_mentions_16 rfl ?_
        refine g_iload1 hX d_Pr_mentions_19 ?_
        refine g_iorN hX d_Pr_mentions_20 ?_
        refine g_topi (show nI (4096 ||| 4) = nI 4100 from rfl) ?_
        refine g_icmpN_ne hX d_Pr_mentions_21 (by omega) (by omega) (fun e21 => ?_) (fun e21 => ?_)
        · have e21 : ¬ cwd (cO c k) (cA c k) = 4100 := e21
          refine g_iincN2 hX d_Pr_mentions_26 rfl (by decide) ?_
          refine g_goto hX d_Pr_mentions_29 ?_
          exact ih (k + 1) (by omega) (by omega) (fun j hj => by
            by_cases e : j = k
            · rw [e]; exact fun z => e21 (by rw [z]; rfl)
            · exact q2 j (by omega))
        · have e21 : cwd (cO c k) (cA c k) = 4100 := e21
          refine g_iconst (v := nI 1) hX d_Pr_mentions_24 rfl ?_
          refine g_zret hX hF d_Pr_mentions_25 (Or.inr rfl) (by omega) (by omega) ?_
          exact ret_t ⟨k, e7, cwd_5 ho ha hrg e21⟩
  refine g_iconst (v := nI 0) hX d_Pr_mentions_0 rfl ?_
  refine g_istore2 hX d_Pr_mentions_1 rfl (by decide) ?_
  exact lm (c.length + 1) 0 (by omega) (Nat.zero_le _) (fun j hj => absurd hj (Nat.not_lt_zero _))
/-- a new clause's row -/
def clW (w : Mem) (m s : Nat) : Mem := sI (sI (sI (sA w 29 (fil (rI w 29) (8 * m) (nI 0) (8 * m + 8))) 29 (8 * m) (nI s)) 29 (8 * m + 7) (nI 1)) 28 0 (nI (m + 1))
theorem c_Pr_addClause {E : EV} {w : Mem} {m s : Nat} (hD : Dra w) (hl : rI w 28 0 = nI m) (hm : m < 12) : T E m_Pr_addClause 3 0 0 [.ref 28, .int (nI s)] w (Ret none (clW w m s)) := by
  refine T_of (L := [.ref 28, .int (nI s), un]) cf_Pr_addClause rfl (Nat.le_of_ble_eq_true rfl) (fun X hX hF => ?_)
  refine g_aload0 hX d_Pr_addClause_0 ?_
  refine g_getI hX d_Pr_addClause_1 fl_Pr_18 (lv_28 _) ?_
  refine g_topi hl ?_
  refine g_bipush (v := nI 8) hX d_Pr_addClause_4 rfl ?_
  refine g_imulN hX d_Pr_addClause_6 ?_
  refine g_topi (show nI (m * 8) = nI (8 * m) by rw [Nat.mul_comm]) ?_
  refine g_istore2 hX d_Pr_addClause_7 rfl (by decide) ?_
  refine g_iload2 hX d_Pr_addClause_8 ?_
  refine g_bipush (v := nI 8) hX d_Pr_addClause_9 rfl ?_
  refine g_iaddN hX d_Pr_addClause_11 ?_
  refine g_aload0 hX d_Pr_addClause_12 ?_
  refine g_getR hX d_Pr_addClause_13 fl_Pr_11 (lv_28 _) hD.1 ?_
  refine g_alenI hX d_Pr_addClause_16 (lv_29 _) ?_
  refine g_icmpN_le hX d_Pr_addClause_17 (by omega) (by omega) (fun c0 => ?_) (fun h => absurd h (by omega))
  refine g_aload0 hX d_Pr_addClause_21 ?_
  refine g_getR hX d_Pr_addClause_22 fl_Pr_11 (lv_28 _) hD.1 ?_
  refine g_iload2 hX d_Pr_addClause_25 ?_
  refine g_iload2 hX d_Pr_addClause_26 ?_
  refine g_bipush (v := nI 8) hX d_Pr_addClause_27 rfl ?_
  refine g_iaddN hX d_Pr_addClause_29 ?_
  refine g_iconst (v := nI 0) hX d_Pr_addClause_30 rfl ?_
  refine g_callS (As := [_, _, _, _]) hX hF.1 d_Pr_addClause_31 ml_Pr_34 cf_JArrays_fill_IIIIV cs_JArrays_fill_IIIIV rfl (c_JArrays_fillR (m := 96) (a := 8 * m) (z := 8 * m + 8) (lv_29 _) (by omega) (by omega)) (by omega) (by omega) (by omega) (Nat.le_of_ble_eq_true rfl) ?_
  refine ret_k ?_
  refine g_aload0 hX d_Pr_addClause_34 ?_
  refine g_getR hX d_Pr_addClause_35 fl_Pr_11 (lv_28 _) hD.1 ?_
  refine g_iload2 hX d_Pr_addClause_38 ?_
  refine g_iconst (v := nI 0) hX d_Pr_addClause_39 rfl ?_
  refine g_iaddN hX d_Pr_addClause_40 ?_
  refine g_iload1 hX d_Pr_addClause_41 ?_
  refine g_iast hX d_Pr_addClause_42 (lv_29 _) rfl (by omega) ?_
  refine g_aload0 hX d_Pr_addClause_43 ?_
  refine g_getR hX d_Pr_addClause_44 fl_Pr_11 (lv_28 _) hD.1 ?_
  refine g_iload2 hX d_Pr_addClause_47 ?_
  refine g_bipush (v := nI 7) hX d_Pr_addClause_48 rfl ?_
  refine g_iaddN hX d_Pr_addClause_50 ?_
  refine g_iconst (v := nI 1) hX d_Pr_addClause_51 rfl ?_
  refine g_iast hX d_Pr_addClause_52 (lv_29 _) rfl (by omega) ?_
  refine g_aload0 hX d_Pr_addClause_53 ?_
  refine g_dup hX d_Pr_addClause_54 rfl ?_
  refine g_getI hX d_Pr_addClause_55 fl_Pr_18 (lv_28 _) ?_
  refine g_topi (show rI (sI (sI (sA w 29 _) 29 _ _) 29 _ _) 28 0 = nI m by rw [rI_sI_ne _ _ _ (by decide), rI_sI_ne _ _ _ (by decide), rI_sA_ne _ _ (by decide)]; exact hl) ?_
  refine g_iconst (v := nI 1) hX d_Pr_addClause_58 rfl ?_
  refine g_iaddN hX d_Pr_addClause_59 ?_
  refine g_putI hX d_Pr_addClause_60 fl_Pr_18 (lv_28 _) ?_
  refine g_vret hX hF d_Pr_addClause_63 (by omega) (by omega) ?_
  exact ⟨rfl, rfl⟩
