def m_M_canTurn : MR := (⟨"SubgraphDeskModel", "canTurn", "(II)Z"⟩, prog_14_method_88_code, 5, (some .boolean))
theorem cf_M_canTurn : CF m_M_canTurn 2 := ⟨gd 2046 (by decide +kernel) rfl, gd 151 (by decide +kernel) rfl, by decide +kernel, by decide, by decide +kernel⟩
theorem cv_M_canTurn : CV m_M_canTurn := ⟨gd 2045 (by decide +kernel) rfl, gd 112 (by decide +kernel) rfl⟩
theorem d_M_canTurn_0 : Dc prog_14_method_88_code 0 (.aload_n 0) 1 1 := ⟨by decide +kernel, rfl⟩
theorem d_M_canTurn_1 : Dc prog_14_method_88_code 1 (.getfield 13) 3 4 := ⟨by decide +kernel, rfl⟩
theorem d_M_canTurn_4 : Dc prog_14_method_88_code 4 (.bipush 21) 2 6 := ⟨by decide +kernel, rfl⟩
theorem d_M_canTurn_6 : Dc prog_14_method_88_code 6 (.iload_n 1) 1 7 := ⟨by decide +kernel, rfl⟩
theorem d_M_canTurn_7 : Dc prog_14_method_88_code 7 (.iadd) 1 8 := ⟨by decide +kernel, rfl⟩
theorem d_M_canTurn_8 : Dc prog_14_method_88_code 8 (.iaload) 1 9 := ⟨by decide +kernel, rfl⟩
theorem d_M_canTurn_9 : Dc prog_14_method_88_code 9 (.aload_n 0) 1 10 := ⟨by decide +kernel, rfl⟩
theorem d_M_canTurn_10 : Dc prog_14_method_88_code 10 (.getfield 13) 3 13 := ⟨by decide +kernel, rfl⟩
theorem d_M_canTurn_13 : Dc prog_14_method_88_code 13 (.bipush 21) 2 15 := ⟨by decide +kernel, rfl⟩
theorem d_M_canTurn_15 : Dc prog_14_method_88_code 15 (.iload_n 2) 1 16 := ⟨by decide +kernel, rfl⟩
theorem d_M_canTurn_16 : Dc prog_14_method_88_code 16 (.iadd) 1 17 := ⟨by decide +kernel, rfl⟩
theorem d_M_canTurn_17 : Dc prog_14_method_88_code 17 (.iaload) 1 18 := ⟨by decide +kernel, rfl⟩
theorem d_M_canTurn_18 : Dj prog_14_method_88_code 18 (.if_icmp .ne 7) 21 7 25 := ⟨by decide +kernel, rfl, rfl⟩
theorem d_M_canTurn_21 : Dc prog_14_method_88_code 21 (.iconst 1) 1 22 := ⟨by decide +kernel, rfl⟩
theorem d_M_canTurn_22 : Dj prog_14_method_88_code 22 (.goto 4) 25 4 26 := ⟨by decide +kernel, rfl, rfl⟩
theorem d_M_canTurn_25 : Dc prog_14_method_88_code 25 (.iconst 0) 1 26 := ⟨by decide +kernel, rfl⟩
theorem d_M_canTurn_26 : Dc prog_14_method_88_code 26 (.istore_n 3) 1 27 := ⟨by decide +kernel, rfl⟩
theorem d_M_canTurn_27 : Dc prog_14_method_88_code 27 (.iconst 0) 1 28 := ⟨by decide +kernel, rfl⟩
theorem d_M_canTurn_28 : Dc prog_14_method_88_code 28 (.istore 4) 2 30 := ⟨by decide +kernel, rfl⟩
theorem d_M_canTurn_30 : Dc prog_14_method_88_code 30 (.iload 4) 2 32 := ⟨by decide +kernel, rfl⟩
theorem d_M_canTurn_32 : Dc prog_14_method_88_code 32 (.iload_n 1) 1 33 := ⟨by decide +kernel, rfl⟩
theorem d_M_canTurn_33 : Dj prog_14_method_88_code 33 (.if_icmp .ge 66) 36 66 99 := ⟨by decide +kernel, rfl, rfl⟩
theorem d_M_canTurn_36 : Dc prog_14_method_88_code 36 (.iload_n 3) 1 37 := ⟨by decide +kernel, rfl⟩
theorem d_M_canTurn_37 : Dj prog_14_method_88_code 37 (.ifCond .eq 62) 40 62 99 := ⟨by decide +kernel, rfl, rfl⟩
theorem d_M_canTurn_40 : Dc prog_14_method_88_code 40 (.aload_n 0) 1 41 := ⟨by decide +kernel, rfl⟩
theorem d_M_canTurn_41 : Dc prog_14_method_88_code 41 (.getfield 117) 3 44 := ⟨by decide +kernel, rfl⟩
theorem d_M_canTurn_44 : Dc prog_14_method_88_code 44 (.iload 4) 2 46 := ⟨by decide +kernel, rfl⟩
theorem d_M_canTurn_46 : Dc prog_14_method_88_code 46 (.iaload) 1 47 := ⟨by decide +kernel, rfl⟩
theorem d_M_canTurn_47 : Dc prog_14_method_88_code 47 (.iload_n 2) 1 48 := ⟨by decide +kernel, rfl⟩
theorem d_M_canTurn_48 : Dj prog_14_method_88_code 48 (.if_icmp .eq 43) 51 43 91 := ⟨by decide +kernel, rfl, rfl⟩
theorem d_M_canTurn_51 : Dc prog_14_method_88_code 51 (.aload_n 0) 1 52 := ⟨by decide +kernel, rfl⟩
theorem d_M_canTurn_52 : Dc prog_14_method_88_code 52 (.getfield 13) 3 55 := ⟨by decide +kernel, rfl⟩
theorem d_M_canTurn_55 : Dc prog_14_method_88_code 55 (.bipush 26) 2 57 := ⟨by decide +kernel, rfl⟩
theorem d_M_canTurn_57 : Dc prog_14_method_88_code 57 (.iload_n 1) 1 58 := ⟨by decide +kernel, rfl⟩
theorem d_M_canTurn_58 : Dc prog_14_method_88_code 58 (.iadd) 1 59 := ⟨by decide +kernel, rfl⟩
theorem d_M_canTurn_59 : Dc prog_14_method_88_code 59 (.iaload) 1 60 := ⟨by decide +kernel, rfl⟩
theorem d_M_canTurn_60 : Dc prog_14_method_88_code 60 (.iload 4) 2 62 := ⟨by decide +kernel, rfl⟩
theorem d_M_canTurn_62 : Dc prog_14_method_88_code 62 (.invokestatic 468) 3 65 := ⟨by decide +kernel, rfl⟩
theorem d_M_canTurn_65 : Dc prog_14_method_88_code 65 (.aload_n 0) 1 66 := ⟨by decide +kernel, rfl⟩
theorem d_M_canTurn_66 : Dc prog_14_method_88_code 66 (.getfield 13) 3 69 := ⟨by decide +kernel, rfl⟩
theorem d_M_canTurn_69 : Dc prog_14_method_88_code 69 (.bipush 26) 2 71 := ⟨by decide +kernel, rfl⟩
theorem d_M_canTurn_71 : Dc prog_14_method_88_code 71 (.iload_n 2) 1 72 := ⟨by decide +kernel, rfl⟩
theorem d_M_canTurn_72 : Dc prog_14_method_88_code 72 (.iadd) 1 73 := ⟨by decide +kernel, rfl⟩
theorem d_M_canTurn_73 : Dc prog_14_method_88_code 73 (.iaload) 1 74 := ⟨by decide +kernel, rfl⟩
theorem d_M_canTurn_74 : Dc prog_14_method_88_code 74 (.aload_n 0) 1 75 := ⟨by decide +kernel, rfl⟩
theorem d_M_canTurn_75 : Dc prog_14_method_88_code 75 (.getfield 117) 3 78 := ⟨by decide +kernel, rfl⟩
theorem d_M_canTurn_78 : Dc prog_14_method_88_code 78 (.iload 4) 2 80 := ⟨by decide +kernel, rfl⟩
theorem d_M_canTurn_80 : Dc prog_14_method_88_code 80 (.iaload) 1 81 := ⟨by decide +kernel, rfl⟩
theorem d_M_canTurn_81 : Dc prog_14_method_88_code 81 (.invokestatic 468) 3 84 := ⟨by decide +kernel, rfl⟩
theorem d_M_canTurn_84 : Dj prog_14_method_88_code 84 (.if_icmp .ne 7) 87 7 91 := ⟨by decide +kernel, rfl, rfl⟩
theorem d_M_canTurn_87 : Dc prog_14_method_88_code 87 (.iconst 1) 1 88 := ⟨by decide +kernel, rfl⟩
theorem d_M_canTurn_88 : Dj prog_14_method_88_code 88 (.goto 4) 91 4 92 := ⟨by decide +kernel, rfl, rfl⟩
theorem d_M_canTurn_91 : Dc prog_14_method_88_code 91 (.iconst 0) 1 92 := ⟨by decide +kernel, rfl⟩
theorem d_M_canTurn_92 : Dc prog_14_method_88_code 92 (.istore_n 3) 1 93 := ⟨by decide +kernel, rfl⟩
theorem d_M_canTurn_93 : Dc prog_14_method_88_code 93 (.iinc 4 1) 3 96 := ⟨by decide +kernel, rfl⟩
theorem d_M_canTurn_96 : Dj prog_14_method_88_code 96 (.goto (-66)) 99 (-66) 30 := ⟨by decide +kernel, rfl, rfl⟩
theorem d_M_canTurn_99 : Dc prog_14_method_88_code 99 (.iload_n 3) 1 100 := ⟨by decide +kernel, rfl⟩
theorem d_M_canTurn_100 : Dc prog_14_method_88_code 100 (.ireturn) 1 101 := ⟨by decide +kernel, rfl⟩
theorem fl_M_117 : FL "SubgraphDeskModel" 117 12 48 true (.array .int) (3, 26) := ⟨R_M, F_M, 69, ty_M, rfl, rfl, in_M, tyok_M, nm_M, by decide, gd 1520 (by decide +kernel) rfl, rfl, rfl, rfl⟩
/-- a turn takes the next vertex to o -/
def turnN (g : GC) (q : List Nat) (v o : Nat) : Nat → Bool
  | 0 => decide (gY g v = gY g o)
  | u + 1 => turnN g q v o u && (!decide (gA q u = o) && ((gK g v).testBit u == (gK g o).testBit (gA q u)))
theorem turnN_no {g : GC} {q : List Nat} {v o u : Nat} (h : turnN g q v o u = false) : ∀ m, u ≤ m → turnN g q v o m = false
  | 0, hm => by rw [← h]; congr 1; omega
  | m + 1, hm => by
    by_cases e : u = m + 1
    · rw [← e]; exact h
    · unfold turnN
      rw [turnN_no h m (by omega), Bool.false_and]
theorem turn_a {g : GC} {q : List Nat} {v o u : Nat} (h : gA q u = o) : turnN g q v o (u + 1) = false := by unfold turnN; simp [h]
theorem turn_b {g : GC} {q : List Nat} {v o u : Nat} (h : ¬ (gK g v).testBit u = (gK g o).testBit (gA q u)) : turnN g q v o (u + 1) = false := by unfold turnN; simp [h]
theorem turn_c {g : GC} {q : List Nat} {v o u : Nat} (h0 : turnN g q v o u = true) (h : ¬ gA q u = o) (h2 : (gK g v).testBit u = (gK g o).testBit (gA q u)) : turnN g q v o (u + 1) = true := by unfold turnN; simp [h0, h, h2]
theorem b2i_eq {a b : Bool} : b2i (a = true) = b2i (b = true) ↔ a = b := by
  cases a <;> cases b <;> decide
theorem c_M_canTurn {E : EV} {w : Mem} {g : GC} (hR : MRow (rI w 91) g) (hW : WG g) {v o : Nat} {q : List Nat} (hv : v < gV g) (ho : o < gV g) (hl : ∀ u, u < v → rI w 115 u = nI (gA q u) ∧ gA q u < 5) : T E m_M_canTurn 2 0 0 [.ref 89, .int (nI v), .int (nI o)] w (Ret (some (.int (b2i (turnN g q v o v = true)))) w) := by
  refine T_of (L := [.ref 89, .int (nI v), .int (nI o), un, un]) cf_M_canTurn rfl (Nat.le_of_ble_eq_true rfl) (fun X hX hF => ?_)
  have hgv := hW.v
  have hy1 := hW.y v hv
  have hy2 := hW.y o ho
  have k0 : ∀ u, u ≤ v → turnN g q v o u = false → G0 E X 0 0 30 [.ref 89, .int (nI v), .int (nI o), .int (nI 0), .int (nI u)] [] w := by
    intro u hu hf
    refine g_iload4 hX d_M_canTurn_30 ?_
    refine g_iload1 hX d_M_canTurn_32 ?_
    refine g_icmpN_ge hX d_M_canTurn_33 (by omega) (by omega) (fun c0 => ?_) (fun c0 => ?_)
    · refine g_iload3 hX d_M_canTurn_99 ?_
      refine g_zret hX hF d_M_canTurn_100 (Or.inl rfl) (by omega) (by omega) ?_
      exact ⟨by rw [b2i_f (by rw [turnN_no hf v hu]; decide)]; rfl, rfl⟩
    · refine g_iload3 hX d_M_canTurn_36 ?_
      refine g_if_eq hX d_M_canTurn_37 (fun c1 => ?_) (fun h => absurd rfl h)
      refine g_iload3 hX d_M_canTurn_99 ?_
      refine g_zret hX hF d_M_canTurn_100 (Or.inl rfl) (by omega) (by omega) ?_
      exact ⟨by rw [b2i_f (by rw [turnN_no hf v hu]; decide)]; rfl, rfl⟩
  have lp : ∀ (fuel : Nat) (u : Nat), v - u < fuel → (u ≤ v) → (turnN g q v o u = true) → G0 E X 0 0 30 [.ref 89, .int (nI v), .int (nI o), .int (nI 1), .int (nI u)] [] w := by
    intro fuel
    induction fuel with
    | zero => intro u q0; exact absurd q0 (Nat.not_lt_zero _)
    | succ fuel ih =>
      intro u q0 q1 q2
      refine g_iload4 hX d_M_canTurn_30 ?_
      refine g_iload1 hX d_M_canTurn_32 ?_
      refine g_icmpN_ge hX d_M_canTurn_33 (by omega) (by omega) (fun c0 => ?_) (fun c0 => ?_)
      · refine g_iload3 hX d_M_canTurn_99 ?_
        refine g_zret hX hF d_M_canTurn_100 (Or.inr rfl) (by omega) (by omega) ?_
        exact ⟨by rw [b2i_t (by rw [← q2]; congr 1; omega)]; rfl, rfl⟩
      · have hlu := hl u (by omega)
        have hk := hW.k32 hv
        have hk2 := hW.k32 ho
        refine g_iload3 hX d_M_canTurn_36 ?_
        refine g_if_eq hX d_M_canTurn_37 (fun h => absurd h (by decide)) (fun c1 => ?_)
        refine g_aload0 hX d_M_canTurn_40 ?_
        refine g_getF hX d_M_canTurn_41 fl_M_117 (lv_89 _) ?_
        refine g_iload4 hX d_M_canTurn_44 ?_
        refine g_iald hX d_M_canTurn_46 (lv_115 _) rfl (by omega) ?_
        refine g_topi (show rI w 115 u = nI (gA q u) from (hl u (by omega)).1) ?_
        refine g_iload2 hX d_M_canTurn_47 ?_
        refine g_icmpN_eq hX d_M_canTurn_48 (by omega) (by omega) (fun e23 => ?_) (fun e23 => ?_)
        · refine g_iconst (v := nI 0) hX d_M_canTurn_91 rfl ?_
          refine g_istore3 hX d_M_canTurn_92 rfl (by decide) ?_
          refine g_iincN4 hX d_M_canTurn_93 rfl (by decide) ?_
          refine g_goto hX d_M_canTurn_96 ?_
          exact k0 (u + 1) (by omega) (turn_a e23)
        · refine g_aload0 hX d_M_canTurn_51 ?_
          refine g_getF hX d_M_canTurn_52 fl_M_13 (lv_89 _) ?_
          refine g_bipush (v := nI 26) hX d_M_canTurn_55 rfl ?_
          refine g_iload1 hX d_M_canTurn_57 ?_
          refine g_iaddN hX d_M_canTurn_58 ?_
          refine g_iald hX d_M_canTurn_59 (lv_91 _) rfl (by omega) ?_
          refine g_topi (hR.k v hv) ?_
          refine g_iload4 hX d_M_canTurn_60 ?_
          refine g_callS (As := [_, _]) hX hF.1 d_M_canTurn_62 ml_M_468 cf_M_is cs_M_is rfl (c_M_is (by omega) (by omega)) (by omega) (by omega) (by omega) (Nat.le_of_ble_eq_true rfl) ?_
          refine ret_k ?_
          refine g_aload0 hX d_M_canTurn_65 ?_
          refine g_getF hX d_M_canTurn_66 fl_M_13 (lv_89 _) ?_
          refine g_bipush (v := nI 26) hX d_M_canTurn_69 rfl ?_
          refine g_iload2 hX d_M_canTurn_71 ?_
          refine g_iaddN hX d_M_canTurn_72 ?_
          refine g_iald hX d_M_canTurn_73 (lv_91 _) rfl (by omega) ?_
          refine g_topi (hR.k o ho) ?_
          refine g_aload0 hX d_M_canTurn_74 ?_
          refine g_getF hX d_M_canTurn_75 fl_M_117 (lv_89 _) ?_
          refine g_iload4 hX d_M_canTurn_78 ?_
          refine g_iald hX d_M_canTurn_80 (lv_115 _) rfl (by omega) ?_
          refine g_topi (show rI w 115 u = nI (gA q u) from (hl u (by omega)).1) ?_
          refine g_callS (As := [_, _]) hX hF.1 d_M_canTurn_81 ml_M_468 cf_M_is cs_M_is rfl (c_M_is (by omega) (by omega)) (by omega) (by omega) (by omega) (Nat.le_of_ble_eq_true rfl) ?_
          refine ret_k ?_
          refine g_icmp_ne hX d_M_canTurn_84 (fun e84 => ?_) (fun e84 => ?_)
          · refine g_iconst (v := nI 0) hX d_M_canTurn_91 rfl ?_
            refine g_istore3 hX d_M_canTurn_92 rfl (by decide) ?_
            refine g_iincN4 hX d_M_canTurn_93 rfl (by decide) ?_
            refine g_goto hX d_M_canTurn_96 ?_
            exact k0 (u + 1) (by omega) (turn_b (fun z => e84 (b2i_eq.mpr z)))
          · refine g_iconst (v := nI 1) hX d_M_canTurn_87 rfl ?_
            refine g_goto hX d_M_canTurn_88 ?_
            refine g_istore3 hX d_M_canTurn_92 rfl (by decide) ?_
            refine g_iincN4 hX d_M_canTurn_93 rfl (by decide) ?_
            refine g_goto hX d_M_canTurn_96 ?_
            exact ih (u + 1) (by omega) (by omega) (turn_c q2 e23 (b2i_eq.mp e84))
  refine g_aload0 hX d_M_canTurn_0 ?_
  refine g_getF hX d_M_canTurn_1 fl_M_13 (lv_89 _) ?_
  refine g_bipush (v := nI 21) hX d_M_canTurn_4 rfl ?_
  refine g_iload1 hX d_M_canTurn_6 ?_
  refine g_iaddN hX d_M_canTurn_7 ?_
  refine g_iald hX d_M_canTurn_8 (lv_91 _) rfl (by omega) ?_
  refine g_topi (hR.y v hv) ?_
  refine g_aload0 hX d_M_canTurn_9 ?_
  refine g_getF hX d_M_canTurn_10 fl_M_13 (lv_89 _) ?_
  refine g_bipush (v := nI 21) hX d_M_canTurn_13 rfl ?_
  refine g_iload2 hX d_M_canTurn_15 ?_
  refine g_iaddN hX d_M_canTurn_16 ?_
  refine g_iald hX d_M_canTurn_17 (lv_91 _) rfl (by omega) ?_
  refine g_topi (hR.y o ho) ?_
  refine g_icmpN_ne hX d_M_canTurn_18 (by omega) (by omega) (fun e18 => ?_) (fun e18 => ?_)
  · refine g_iconst (v := nI 0) hX d_M_canTurn_25 rfl ?_
    refine g_istore3 hX d_M_canTurn_26 rfl (by decide) ?_
    refine g_iconst (v := nI 0) hX d_M_canTurn_27 rfl ?_
    refine g_istore4 hX d_M_canTurn_28 rfl (by decide) ?_
    exact k0 0 (by omega) (by unfold turnN; exact decide_eq_false e18)
  · refine g_iconst (v := nI 1) hX d_M_canTurn_21 rfl ?_
    refine g_goto hX d_M_canTurn_22 ?_
    refine g_istore3 hX d_M_canTurn_26 rfl (by decide) ?_
    refine g_iconst (v := nI 0) hX d_M_canTurn_27 rfl ?_
    refine g_istore4 hX d_M_canTurn_28 rfl (by decide) ?_
    exact lp (v + 1) 0 (by omega) (by omega) (by unfold turnN; exact decide_eq_true e18)
