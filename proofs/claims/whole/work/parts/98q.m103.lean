def m_Si_atFirst : MR := (⟨"SubgraphDesk$Sieve", "atFirst", "(LSubgraphDesk$Board;II)I"⟩, prog_10_method_3_code, 5, (some .int))
theorem cf_Si_atFirst : CF m_Si_atFirst 3 := ⟨gd 1283 (by decide +kernel) rfl, gd 147 (by decide +kernel) rfl, by decide +kernel, by decide, by decide +kernel⟩
theorem cs_Si_atFirst : CS m_Si_atFirst := gd 1282 (by decide +kernel) rfl
def m_Si_fewestOutside : MR := (⟨"SubgraphDesk$Sieve", "fewestOutside", "(LSubgraphDesk$Board;I)I"⟩, prog_10_method_5_code, 6, (some .int))
theorem cf_Si_fewestOutside : CF m_Si_fewestOutside 2 := ⟨gd 1293 (by decide +kernel) rfl, gd 147 (by decide +kernel) rfl, by decide +kernel, by decide, by decide +kernel⟩
theorem cv_Si_fewestOutside : CV m_Si_fewestOutside := ⟨gd 1292 (by decide +kernel) rfl, gd 46 (by decide +kernel) rfl⟩
theorem d_Si_atFirst_0 : Dc prog_10_method_3_code 0 (.iconst 0) 1 1 := ⟨by decide +kernel, rfl⟩
theorem d_Si_atFirst_1 : Dc prog_10_method_3_code 1 (.istore_n 3) 1 2 := ⟨by decide +kernel, rfl⟩
theorem d_Si_atFirst_2 : Dc prog_10_method_3_code 2 (.iconst 0) 1 3 := ⟨by decide +kernel, rfl⟩
theorem d_Si_atFirst_3 : Dc prog_10_method_3_code 3 (.istore 4) 2 5 := ⟨by decide +kernel, rfl⟩
theorem d_Si_atFirst_5 : Dc prog_10_method_3_code 5 (.iload 4) 2 7 := ⟨by decide +kernel, rfl⟩
theorem d_Si_atFirst_7 : Dc prog_10_method_3_code 7 (.aload_n 0) 1 8 := ⟨by decide +kernel, rfl⟩
theorem d_Si_atFirst_8 : Dc prog_10_method_3_code 8 (.getfield 36) 3 11 := ⟨by decide +kernel, rfl⟩
theorem d_Si_atFirst_11 : Dj prog_10_method_3_code 11 (.if_icmp .ge 30) 14 30 41 := ⟨by decide +kernel, rfl, rfl⟩
theorem d_Si_atFirst_14 : Dc prog_10_method_3_code 14 (.aload_n 0) 1 15 := ⟨by decide +kernel, rfl⟩
theorem d_Si_atFirst_15 : Dc prog_10_method_3_code 15 (.iload 4) 2 17 := ⟨by decide +kernel, rfl⟩
theorem d_Si_atFirst_17 : Dc prog_10_method_3_code 17 (.invokevirtual 39) 3 20 := ⟨by decide +kernel, rfl⟩
theorem d_Si_atFirst_20 : Dc prog_10_method_3_code 20 (.aload_n 0) 1 21 := ⟨by decide +kernel, rfl⟩
theorem d_Si_atFirst_21 : Dc prog_10_method_3_code 21 (.iload_n 1) 1 22 := ⟨by decide +kernel, rfl⟩
theorem d_Si_atFirst_22 : Dc prog_10_method_3_code 22 (.invokevirtual 43) 3 25 := ⟨by decide +kernel, rfl⟩
theorem d_Si_atFirst_25 : Dj prog_10_method_3_code 25 (.if_icmp .lt 10) 28 10 35 := ⟨by decide +kernel, rfl, rfl⟩
theorem d_Si_atFirst_28 : Dc prog_10_method_3_code 28 (.iload_n 3) 1 29 := ⟨by decide +kernel, rfl⟩
theorem d_Si_atFirst_29 : Dc prog_10_method_3_code 29 (.iconst 1) 1 30 := ⟨by decide +kernel, rfl⟩
theorem d_Si_atFirst_30 : Dc prog_10_method_3_code 30 (.iload 4) 2 32 := ⟨by decide +kernel, rfl⟩
theorem d_Si_atFirst_32 : Dc prog_10_method_3_code 32 (.ishl) 1 33 := ⟨by decide +kernel, rfl⟩
theorem d_Si_atFirst_33 : Dc prog_10_method_3_code 33 (.ior) 1 34 := ⟨by decide +kernel, rfl⟩
theorem d_Si_atFirst_34 : Dc prog_10_method_3_code 34 (.istore_n 3) 1 35 := ⟨by decide +kernel, rfl⟩
theorem d_Si_atFirst_35 : Dc prog_10_method_3_code 35 (.iinc 4 1) 3 38 := ⟨by decide +kernel, rfl⟩
theorem d_Si_atFirst_38 : Dj prog_10_method_3_code 38 (.goto (-33)) 41 (-33) 5 := ⟨by decide +kernel, rfl, rfl⟩
theorem d_Si_atFirst_41 : Dc prog_10_method_3_code 41 (.iload_n 3) 1 42 := ⟨by decide +kernel, rfl⟩
theorem d_Si_atFirst_42 : Dc prog_10_method_3_code 42 (.iload_n 2) 1 43 := ⟨by decide +kernel, rfl⟩
theorem d_Si_atFirst_43 : Dc prog_10_method_3_code 43 (.iand) 1 44 := ⟨by decide +kernel, rfl⟩
theorem d_Si_atFirst_44 : Dc prog_10_method_3_code 44 (.ireturn) 1 45 := ⟨by decide +kernel, rfl⟩
theorem d_Si_fewestOutside_0 : Dc prog_10_method_5_code 0 (.iconst (-1)) 1 1 := ⟨by decide +kernel, rfl⟩
theorem d_Si_fewestOutside_1 : Dc prog_10_method_5_code 1 (.istore_n 3) 1 2 := ⟨by decide +kernel, rfl⟩
theorem d_Si_fewestOutside_2 : Dc prog_10_method_5_code 2 (.iconst 0) 1 3 := ⟨by decide +kernel, rfl⟩
theorem d_Si_fewestOutside_3 : Dc prog_10_method_5_code 3 (.istore 4) 2 5 := ⟨by decide +kernel, rfl⟩
theorem d_Si_fewestOutside_5 : Dc prog_10_method_5_code 5 (.iload 4) 2 7 := ⟨by decide +kernel, rfl⟩
theorem d_Si_fewestOutside_7 : Dc prog_10_method_5_code 7 (.aload_n 1) 1 8 := ⟨by decide +kernel, rfl⟩
theorem d_Si_fewestOutside_8 : Dc prog_10_method_5_code 8 (.getfield 18) 3 11 := ⟨by decide +kernel, rfl⟩
theorem d_Si_fewestOutside_11 : Dj prog_10_method_5_code 11 (.if_icmp .ge 60) 14 60 71 := ⟨by decide +kernel, rfl, rfl⟩
theorem d_Si_fewestOutside_14 : Dc prog_10_method_5_code 14 (.iload_n 3) 1 15 := ⟨by decide +kernel, rfl⟩
theorem d_Si_fewestOutside_15 : Dc prog_10_method_5_code 15 (.iconst (-1)) 1 16 := ⟨by decide +kernel, rfl⟩
theorem d_Si_fewestOutside_16 : Dj prog_10_method_5_code 16 (.if_icmp .eq 25) 19 25 41 := ⟨by decide +kernel, rfl, rfl⟩
theorem d_Si_fewestOutside_19 : Dc prog_10_method_5_code 19 (.aload_n 0) 1 20 := ⟨by decide +kernel, rfl⟩
theorem d_Si_fewestOutside_20 : Dc prog_10_method_5_code 20 (.getfield 9) 3 23 := ⟨by decide +kernel, rfl⟩
theorem d_Si_fewestOutside_23 : Dc prog_10_method_5_code 23 (.iload 4) 2 25 := ⟨by decide +kernel, rfl⟩
theorem d_Si_fewestOutside_25 : Dc prog_10_method_5_code 25 (.iaload) 1 26 := ⟨by decide +kernel, rfl⟩
theorem d_Si_fewestOutside_26 : Dc prog_10_method_5_code 26 (.invokestatic 53) 3 29 := ⟨by decide +kernel, rfl⟩
theorem d_Si_fewestOutside_29 : Dc prog_10_method_5_code 29 (.aload_n 0) 1 30 := ⟨by decide +kernel, rfl⟩
theorem d_Si_fewestOutside_30 : Dc prog_10_method_5_code 30 (.getfield 9) 3 33 := ⟨by decide +kernel, rfl⟩
theorem d_Si_fewestOutside_33 : Dc prog_10_method_5_code 33 (.iload_n 3) 1 34 := ⟨by decide +kernel, rfl⟩
theorem d_Si_fewestOutside_34 : Dc prog_10_method_5_code 34 (.iaload) 1 35 := ⟨by decide +kernel, rfl⟩
theorem d_Si_fewestOutside_35 : Dc prog_10_method_5_code 35 (.invokestatic 53) 3 38 := ⟨by decide +kernel, rfl⟩
theorem d_Si_fewestOutside_38 : Dj prog_10_method_5_code 38 (.if_icmp .ge 7) 41 7 45 := ⟨by decide +kernel, rfl, rfl⟩
theorem d_Si_fewestOutside_41 : Dc prog_10_method_5_code 41 (.iconst 1) 1 42 := ⟨by decide +kernel, rfl⟩
theorem d_Si_fewestOutside_42 : Dj prog_10_method_5_code 42 (.goto 4) 45 4 46 := ⟨by decide +kernel, rfl, rfl⟩
theorem d_Si_fewestOutside_45 : Dc prog_10_method_5_code 45 (.iconst 0) 1 46 := ⟨by decide +kernel, rfl⟩
theorem d_Si_fewestOutside_46 : Dc prog_10_method_5_code 46 (.istore 5) 2 48 := ⟨by decide +kernel, rfl⟩
theorem d_Si_fewestOutside_48 : Dc prog_10_method_5_code 48 (.iload_n 2) 1 49 := ⟨by decide +kernel, rfl⟩
theorem d_Si_fewestOutside_49 : Dc prog_10_method_5_code 49 (.iload 4) 2 51 := ⟨by decide +kernel, rfl⟩
theorem d_Si_fewestOutside_51 : Dc prog_10_method_5_code 51 (.ishr) 1 52 := ⟨by decide +kernel, rfl⟩
theorem d_Si_fewestOutside_52 : Dc prog_10_method_5_code 52 (.iconst 1) 1 53 := ⟨by decide +kernel, rfl⟩
theorem d_Si_fewestOutside_53 : Dc prog_10_method_5_code 53 (.iand) 1 54 := ⟨by decide +kernel, rfl⟩
theorem d_Si_fewestOutside_54 : Dj prog_10_method_5_code 54 (.ifCond .ne 11) 57 11 65 := ⟨by decide +kernel, rfl, rfl⟩
theorem d_Si_fewestOutside_57 : Dc prog_10_method_5_code 57 (.iload 5) 2 59 := ⟨by decide +kernel, rfl⟩
theorem d_Si_fewestOutside_59 : Dj prog_10_method_5_code 59 (.ifCond .eq 6) 62 6 65 := ⟨by decide +kernel, rfl, rfl⟩
theorem d_Si_fewestOutside_62 : Dc prog_10_method_5_code 62 (.iload 4) 2 64 := ⟨by decide +kernel, rfl⟩
theorem d_Si_fewestOutside_64 : Dc prog_10_method_5_code 64 (.istore_n 3) 1 65 := ⟨by decide +kernel, rfl⟩
theorem d_Si_fewestOutside_65 : Dc prog_10_method_5_code 65 (.iinc 4 1) 3 68 := ⟨by decide +kernel, rfl⟩
theorem d_Si_fewestOutside_68 : Dj prog_10_method_5_code 68 (.goto (-63)) 71 (-63) 5 := ⟨by decide +kernel, rfl, rfl⟩
theorem d_Si_fewestOutside_71 : Dc prog_10_method_5_code 71 (.iload_n 3) 1 72 := ⟨by decide +kernel, rfl⟩
theorem d_Si_fewestOutside_72 : Dc prog_10_method_5_code 72 (.iconst 0) 1 73 := ⟨by decide +kernel, rfl⟩
theorem d_Si_fewestOutside_73 : Dc prog_10_method_5_code 73 (.invokestatic 58) 3 76 := ⟨by decide +kernel, rfl⟩
theorem d_Si_fewestOutside_76 : Dc prog_10_method_5_code 76 (.ireturn) 1 77 := ⟨by decide +kernel, rfl⟩
theorem fl_Si_9 : FL "SubgraphDesk$Sieve" 9 9 0 true (.array .int) (3, 1) := ⟨R_Si, F_Si, 2, ty_Si, rfl, rfl, in_Si, tyok_Si, nm_Si, by decide, gd 440 (by decide +kernel) rfl, rfl, rfl, rfl⟩
theorem fl_Si_18 : FL "SubgraphDesk$Sieve" 18 2 5 false .int (0, 0) := ⟨R_Bo, F_Bo, 15, ty_Bo, rfl, rfl, in_Bo, tyok_Bo, nm_Bo, by decide, gd 198 (by decide +kernel) rfl, rfl, rfl, rfl⟩
theorem fl_Si_36 : FL "SubgraphDesk$Sieve" 36 2 0 false .int (0, 0) := ⟨R_Bo, F_Bo, 15, ty_Bo, rfl, rfl, in_Bo, tyok_Bo, nm_Bo, by decide, gd 177 (by decide +kernel) rfl, rfl, rfl, rfl⟩
theorem ml_Si_39 : Cond.methodLink "SubgraphDesk$Sieve" 39 m_Bo_degreeOf.1 ∈ lw_gd := gd 1284 (by decide +kernel) rfl
theorem ml_Si_43 : Cond.methodLink "SubgraphDesk$Sieve" 43 m_Bo_linksOf.1 ∈ lw_gd := gd 1285 (by decide +kernel) rfl
theorem ml_Si_53 : Cond.methodLink "SubgraphDesk$Sieve" 53 m_JInteger_bitCount.1 ∈ lw_gd := gd 1294 (by decide +kernel) rfl
theorem ml_Si_58 : Cond.methodLink "SubgraphDesk$Sieve" 58 m_JMath_max.1 ∈ lw_gd := gd 1295 (by decide +kernel) rfl
/-! ===== the sieve ===== -/
def CdP (w : Mem) (g : GC) (c : Nat → Nat) : Prop := ∀ v, v < gV g → rI w 43 v = nI (c v)
def FrSi (w w2 : Mem) : Prop := (∀ a, a ≠ 43 → a ≠ 44 → rI w2 a = rI w a) ∧ w2.2 = w.2
theorem FrSi.rf (w : Mem) : FrSi w w := ⟨fun _ _ _ => rfl, rfl⟩
theorem FrSi.tr {a b c : Mem} (h : FrSi a b) (h2 : FrSi b c) : FrSi a c := ⟨fun x h1 h3 => (h2.1 x h1 h3).trans (h.1 x h1 h3), h2.2.trans h.2⟩
theorem FrSi.I {w w2 : Mem} {o k : Nat} {x : Int32} (ho : o = 43 ∨ o = 44) (h : FrSi w w2) : FrSi w (sI w2 o k x) := ⟨fun a h1 h2 => by rw [rI_sI_ne _ _ _ (by omega)]; exact h.1 a h1 h2, h.2⟩
theorem FrSi.Q {w w2 : Mem} (h : FrSi w w2) : DkQ w w2 := ⟨fun a ha => h.1 a (by omega) (by omega), fun a _ => by unfold rJ; rw [h.2], KpR.of2 h.2⟩
theorem BRow.si {w w2 : Mem} {g : GC} (h : BRow w 1 g) (f : FrSi w w2) : BRow w2 1 g := h.fr (fun a h1 h2 => f.1 a (by omega) (by omega))
/-- nodes with as many edges as v has links -/
def deN (g : GC) (v : Nat) : Nat → Nat
  | 0 => 0
  | n + 1 => if pop (gK g v) ≤ pop (nearB (gE g) n) then deN g v n ||| 1 <<< n else deN g v n
theorem deN_tb (g : GC) (v m : Nat) : ∀ n, (deN g v n).testBit m = (decide (m < n) && decide (pop (gK g v) ≤ pop (nearB (gE g) m)))
  | 0 => by unfold deN; rw [Nat.zero_testBit, decide_eq_false (Nat.not_lt_zero _)]; rfl
  | n + 1 => by
    unfold deN
    by_cases h : pop (gK g v) ≤ pop (nearB (gE g) n)
    · rw [if_pos h, Nat.testBit_or, deN_tb g v m n, tb_one]
      by_cases e : n = m
      · subst e
        rw [decide_eq_true rfl, decide_eq_true (Nat.lt_succ_self n), decide_eq_true h, Bool.or_true]; rfl
      · rw [decide_eq_false e, Bool.or_false]
        congr 1
        exact decide_eq_decide.mpr ⟨fun _ => by omega, fun _ => by omega⟩
    · rw [if_neg h, deN_tb g v m n]
      by_cases e : n = m
      · subst e
        rw [decide_eq_false h, Bool.and_false, Bool.and_false]
      · congr 1
        exact decide_eq_decide.mpr ⟨fun _ => by omega, fun _ => by omega⟩
theorem c0B_tb (g : GC) (v m : Nat) : ∀ n, (c0B g v n).testBit m = (decide (m < n) && (gMay g v m && decide (pop (gK g v) ≤ pop (nearB (gE g) m))))
  | 0 => by unfold c0B; rw [Nat.zero_testBit, decide_eq_false (Nat.not_lt_zero _)]; rfl
  | n + 1 => by
    unfold c0B
    rw [Nat.testBit_or, c0B_tb g v m n]
    by_cases e : n = m
    · subst e
      rw [decide_eq_false (Nat.lt_irrefl n), decide_eq_true (Nat.lt_succ_self n), Bool.false_and, Bool.false_or, Bool.true_and]
      by_cases h : gMay g v n = true ∧ pop (gK g v) ≤ pop (nearB (gE g) n)
      · rw [if_pos h, tb_one, decide_eq_true rfl, h.1, decide_eq_true h.2]; rfl
      · rw [if_neg h, Nat.zero_testBit]
        symm
        rw [Bool.and_eq_false_imp]
        intro h1
        exact decide_eq_false (fun z => h ⟨h1, z⟩)
    · have : (if gMay g v n = true ∧ pop (gK g v) ≤ pop (nearB (gE g) n) then 1 <<< n else 0).testBit m = false := by
        split
        · rw [tb_one, decide_eq_false e]
        · exact Nat.zero_testBit _
      rw [this, Bool.or_false]
      congr 1
      exact decide_eq_decide.mpr ⟨fun _ => by omega, fun _ => by omega⟩
theorem cFst_and (g : GC) (v : Nat) : deN g v (gN g) &&& mayG g v = cFst g v := by
  apply Nat.eq_of_testBit_eq
  intro m
  unfold cFst mayG
  rw [Nat.testBit_and, deN_tb, mayN_tb, c0B_tb]
  cases decide (m < gN g) <;> cases gMay g v m <;> cases decide (pop (gK g v) ≤ pop (nearB (gE g) m)) <;> rfl
theorem cFst_ltN (g : GC) (v : Nat) : cFst g v < 2 ^ gN g := by
  rw [← cFst_and]
  exact Nat.lt_of_le_of_lt Nat.and_le_right (mayN_ltN g v _)
theorem candN_ltN (g : GC) (v : Nat) : ∀ p, candN g p v < 2 ^ gN g
  | 0 => cFst_ltN g v
  | p + 1 => by
    unfold candN
    exact Nat.lt_of_le_of_lt (pasK_le g p _ v _) (candN_ltN g v p)
theorem deN_lt (g : GC) (v : Nat) : ∀ n, n ≤ 12 → deN g v n < 2 ^ 12
  | 0, _ => by unfold deN; decide
  | n + 1, h => by
    unfold deN
    split
    · exact or_lt (deN_lt g v n (by omega)) (shl_lt (by omega))
    · exact deN_lt g v n (by omega)
theorem c_Si_atFirst {E : EV} {w : Mem} {g : GC} {v : Nat} (hR : BRow w 1 g) (hW : WG g) (hvv : v < gV g) : T E m_Si_atFirst 2 0 0 [.ref 1, .int (nI v), .int (nI (mayG g v))] w (Ret (some (.int (nI (cFst g v)))) w) := by
  refine T_of (L := [.ref 1, .int (nI v), .int (nI (mayG g v)), un, un]) cf_Si_atFirst rfl (Nat.le_of_ble_eq_true rfl) (fun X hX hF => ?_)
  have hn := hW.n
  have hv := hW.v
  have lp : ∀ (fuel : Nat) (m : Nat), gN g - m < fuel → (m ≤ gN g) → G0 E X 0 0 5 [.ref 1, .int (nI v), .int (nI (mayG g v)), .int (nI (deN g v m)), .int (nI m)] [] w := by
    intro fuel
    induction fuel with
    | zero => intro m q0; exact absurd q0 (Nat.not_lt_zero _)
    | succ fuel ih =>
      intro m q0 q1
      refine g_iload4 hX d_Si_atFirst_5 ?_
      refine g_aload0 hX d_Si_atFirst_7 ?_
      refine g_getI hX d_Si_atFirst_8 fl_Si_36 (lv_1 _) ?_
      refine g_topi hR.n ?_
      refine g_icmpN_ge hX d_Si_atFirst_11 (by omega) (by omega) (fun e11 => ?_) (fun e11 => ?_)
      · refine g_iload3 hX d_Si_atFirst_41 ?_
        refine g_iload2 hX d_Si_atFirst_42 ?_
        refine g_iandN hX d_Si_atFirst_43 ?_
        refine g_iret hX hF d_Si_atFirst_44 (by omega) (by omega) ?_
        obtain rfl : m = gN g := by omega
        rw [cFst_and]
        exact ⟨rfl, rfl⟩
      · have hp1 := pop_le (nearB (gE g) m)
        have hp2 := pop_le (gK g v)
        refine g_aload0 hX d_Si_atFirst_14 ?_
        refine g_iload4 hX d_Si_atFirst_15 ?_
        refine g_callV (As := [_]) hX hF.1 d_Si_atFirst_17 ml_Si_39 cf_Bo_degreeOf cv_Bo_degreeOf rfl rfl (c_Bo_degreeOf isBo1 hR hW) (rcv_obj hX (lv_1 _) rfl rfl) (by omega) (by omega) (by omega) (Nat.le_of_ble_eq_true rfl) ?_
        refine ret_k ?_
        refine g_aload0 hX d_Si_atFirst_20 ?_
        refine g_iload1 hX d_Si_atFirst_21 ?_
        refine g_callV (As := [_]) hX hF.1 d_Si_atFirst_22 ml_Si_43 cf_Bo_linksOf cv_Bo_linksOf rfl rfl (c_Bo_linksOf isBo1 hR hW) (rcv_obj hX (lv_1 _) rfl rfl) (by omega) (by omega) (by omega) (Nat.le_of_ble_eq_true rfl) ?_
        refine ret_k ?_
        refine g_icmp_lt hX d_Si_atFirst_25 (fun e25 => ?_) (fun e25 => ?_)
        · rw [degI_n e11 (by omega), lnkI_n hvv (by omega)] at e25
          have e25 := (nI_ltI (by omega) (by omega)).mp e25
          refine g_iincN4 hX d_Si_atFirst_35 rfl (by decide) ?_
          refine g_goto hX d_Si_atFirst_38 ?_
          rw [show deN g v m = deN g v (m + 1) by rw [deN, if_neg (by omega)]]
          exact ih (m + 1) (by omega) (by omega)
        · rw [degI_n e11 (by omega), lnkI_n hvv (by omega)] at e25
          have e25 : pop (gK g v) ≤ pop (nearB (gE g) m) := Nat.le_of_not_lt (fun z => e25 (nI_lt z (by omega)))
          refine g_iload3 hX d_Si_atFirst_28 ?_
          refine g_iconst (v := nI 1) hX d_Si_atFirst_29 rfl ?_
          refine g_iload4 hX d_Si_atFirst_30 ?_
          refine g_ishlN hX d_Si_atFirst_32 (by omega) ?_
          refine g_iorN hX d_Si_atFirst_33 ?_
          refine g_istore3 hX d_Si_atFirst_34 rfl (by decide) ?_
          refine g_iincN4 hX d_Si_atFirst_35 rfl (by decide) ?_
          refine g_goto hX d_Si_atFirst_38 ?_
          rw [show deN g v m ||| 1 <<< m = deN g v (m + 1) by rw [deN, if_pos e25]]
          exact ih (m + 1) (by omega) (by omega)
  refine g_iconst (v := nI 0) hX d_Si_atFirst_0 rfl ?_
  refine g_istore3 hX d_Si_atFirst_1 rfl (by decide) ?_
  refine g_iconst (v := nI 0) hX d_Si_atFirst_2 rfl ?_
  refine g_istore4 hX d_Si_atFirst_3 rfl (by decide) ?_
  exact lp (gN g + 1) 0 (by omega) (Nat.zero_le _)
theorem c_Si_fewestOutside {E : EV} {w : Mem} {g : GC} {c : Nat → Nat} {o : List Nat} (hR : BRow w 1 g) (hW : WG g) (hC : CdP w g c) (hcl : ∀ v, c v < 4096) (htl : takB o < 4096) (hso : ∃ u, fewO c o (gV g) = some u) : T E m_Si_fewestOutside 1 0 0 [.ref 42, .ref 1, .int (nI (takB o))] w (fun r w2 => ∃ u, fewO c o (gV g) = some u ∧ r = some (.int (nI u)) ∧ w2 = w) := by
  refine T_of (L := [.ref 42, .ref 1, .int (nI (takB o)), un, un, un]) cf_Si_fewestOutside rfl (Nat.le_of_ble_eq_true rfl) (fun X hX hF => ?_)
  have hv := hW.v
  have lp : ∀ (fuel : Nat) (v : Nat), gV g - v < fuel → (v ≤ gV g) → G0 E X 0 0 5 [.ref 42, .ref 1, .int (nI (takB o)), .int (fInt (fewO c o v)), .int (nI v), un] [] w := by
    intro fuel
    induction fuel with
    | zero => intro v q0; exact absurd q0 (Nat.not_lt_zero _)
    | succ fuel ih =>
      intro v q0 q1
      refine g_iload4 hX d_Si_fewestOutside_5 ?_
      refine g_aload1 hX d_Si_fewestOutside_7 ?_
      refine g_getI hX d_Si_fewestOutside_8 fl_Si_18 (lv_1 _) ?_
      refine g_topi hR.v ?_
      refine g_icmpN_ge hX d_Si_fewestOutside_11 (by omega) (by omega) (fun e11 => ?_) (fun e11 => ?_)
      · obtain rfl : v = gV g := by omega
        obtain ⟨u, hu⟩ := hso
        obtain ⟨hu1, -⟩ := fewO_lt _ hu
        refine g_loc (show [Value.ref 42, Value.ref 1, Value.int (nI (takB o)), Value.int (fInt (fewO c o (gV g))), Value.int (nI (gV g)), un] = [Value.ref 42, Value.ref 1, Value.int (nI (takB o)), Value.int (nI u), Value.int (nI (gV g)), un] by rw [hu]; rfl) ?_
        refine g_iload3 hX d_Si_fewestOutside_71 ?_
        refine g_iconst (v := nI 0) hX d_Si_fewestOutside_72 rfl ?_
        refine g_Math_max hX hF.1 d_Si_fewestOutside_73 ml_Si_58 (by omega) (by omega) (by omega) (Nat.le_of_ble_eq_true rfl) ?_
        refine g_topi (maxI_n (by omega) (by omega)) ?_
        refine g_iret hX hF d_Si_fewestOutside_76 (by omega) (by omega) ?_
        rw [Nat.max_eq_left (Nat.zero_le _)]
        exact ⟨u, hu, rfl, rfl⟩
      · have hp1 := pop_le (c v)
        refine g_iload3 hX d_Si_fewestOutside_14 ?_
        refine g_iconst (v := -1) hX d_Si_fewestOutside_15 rfl ?_
        refine g_icmp_eq hX d_Si_fewestOutside_16 (fun e16 => ?_) (fun e16 => ?_)
        · have hu := fInt_m1 (fun u hu => by have := fewO_lt v hu; omega) e16
          refine g_iconst (v := nI 1) hX d_Si_fewestOutside_41 rfl ?_
          refine g_goto hX d_Si_fewestOutside_42 ?_
          refine g_istore5 hX d_Si_fewestOutside_46 rfl (by decide) ?_
          refine g_iload2 hX d_Si_fewestOutside_48 ?_
          refine g_iload4 hX d_Si_fewestOutside_49 ?_
          refine g_ishrN hX d_Si_fewestOutside_51 (by omega) (by omega) ?_
          refine g_iconst (v := nI 1) hX d_Si_fewestOutside_52 rfl ?_
          refine g_iandC hX d_Si_fewestOutside_53 (fun hm2 => ?_)
          refine g_if_ne hX d_Si_fewestOutside_54 (fun e54 => ?_) (fun e54 => ?_)
          · have e54 : v ∈ o := by
              have : (takB o).testBit v = true := by
                cases hb : (takB o).testBit v with
                | true => rfl
                | false => exact absurd (by rw [(tb0 _ _).mpr hb]; rfl) e54
              rw [takB_tb] at this
              exact of_decide_eq_true this
            refine g_iincN4 hX d_Si_fewestOutside_65 rfl (by decide) ?_
            refine g_goto hX d_Si_fewestOutside_68 ?_
            refine g_fget 5 ?_
            rw [(fewO_in e54).symm]
            exact ih (v + 1) (by omega) (by omega)
          · have e54 : v ∉ o := fun z => by
              have : (takB o).testBit v = true := by rw [takB_tb]; exact decide_eq_true z
              rw [(tb1 _ _).mpr this] at e54
              exact absurd e54 (by decide)
            refine g_iload5 hX d_Si_fewestOutside_57 ?_
            refine g_if_eq hX d_Si_fewestOutside_59 (fun h => absurd h (by decide)) (fun c4 => ?_)
            refine g_iload4 hX d_Si_fewestOutside_62 ?_
            refine g_istore3 hX d_Si_fewestOutside_64 rfl (by decide) ?_
            refine g_iincN4 hX d_Si_fewestOutside_65 rfl (by decide) ?_
            refine g_goto hX d_Si_fewestOutside_68 ?_
            refine g_fget 5 ?_
            refine g_loc (show [Value.ref 42, Value.ref 1, Value.int (nI (takB o)), Value.int (nI v), Value.int (nI (v + 1)), un] = [Value.ref 42, Value.ref 1, Value.int (nI (takB o)), Value.int (fInt (fewO c o (v + 1))), Value.int (nI (v + 1)), un] by rw [fewO_n e54 hu]; rfl) ?_
            exact ih (v + 1) (by omega) (by omega)
        · obtain ⟨u, hu⟩ := fInt_ne e16
          obtain ⟨hu1, -⟩ := fewO_lt v hu
          have hp2 := pop_le (c u)
          refine g_loc (show [Value.ref 42, Value.ref 1, Value.int (nI (takB o)), Value.int (fInt (fewO c o v)), Value.int (nI v), un] = [Value.ref 42, Value.ref 1, Value.int (nI (takB o)), Value.int (nI u), Value.int (nI v), un] by rw [hu]; rfl) ?_
          refine g_aload0 hX d_Si_fewestOutside_19 ?_
          refine g_getF hX d_Si_fewestOutside_20 fl_Si_9 (lv_42 _) ?_
          refine g_iload4 hX d_Si_fewestOutside_23 ?_
          refine g_iald hX d_Si_fewestOutside_25 (lv_43 _) rfl (by omega) ?_
          refine g_topi (hC v e11) ?_
          refine g_callS (As := [_]) hX hF.1 d_Si_fewestOutside_26 ml_Si_53 cf_JInteger_bitCount cs_JInteger_bitCount rfl (c_JInteger_bitCount (hcl v)) (by omega) (by omega) (by omega) (Nat.le_of_ble_eq_true rfl) ?_
          refine ret_k ?_
          refine g_aload0 hX d_Si_fewestOutside_29 ?_
          refine g_getF hX d_Si_fewestOutside_30 fl_Si_9 (lv_42 _) ?_
          refine g_iload3 hX d_Si_fewestOutside_33 ?_
          refine g_iald hX d_Si_fewestOutside_34 (lv_43 _) rfl (by omega) ?_
          refine g_topi (hC u (by omega)) ?_
          refine g_callS (As := [_]) hX hF.1 d_Si_fewestOutside_35 ml_Si_53 cf_JInteger_bitCount cs_JInteger_bitCount rfl (c_JInteger_bitCount (hcl u)) (by omega) (by omega) (by omega) (Nat.le_of_ble_eq_true rfl) ?_
          refine ret_k ?_
          refine g_icmpN_ge hX d_Si_fewestOutside_38 (by omega) (by omega) (fun e38 => ?_) (fun e38 => ?_)
          · refine g_iconst (v := nI 0) hX d_Si_fewestOutside_45 rfl ?_
            refine g_istore5 hX d_Si_fewestOutside_46 rfl (by decide) ?_
            refine g_iload2 hX d_Si_fewestOutside_48 ?_
            refine g_iload4 hX d_Si_fewestOutside_49 ?_
            refine g_ishrN hX d_Si_fewestOutside_51 (by omega) (by omega) ?_
            refine g_iconst (v := nI 1) hX d_Si_fewestOutside_52 rfl ?_
            refine g_iandC hX d_Si_fewestOutside_53 (fun hm6 => ?_)
            refine g_if_ne hX d_Si_fewestOutside_54 (fun e54 => ?_) (fun e54 => ?_)
            · have e54 : v ∈ o := by
                have : (takB o).testBit v = true := by
                  cases hb : (takB o).testBit v with
                  | true => rfl
                  | false => exact absurd (by rw [(tb0 _ _).mpr hb]; rfl) e54
                rw [takB_tb] at this
                exact of_decide_eq_true this
              refine g_iincN4 hX d_Si_fewestOutside_65 rfl (by decide) ?_
              refine g_goto hX d_Si_fewestOutside_68 ?_
              refine g_fget 5 ?_
              refine g_loc (show [Value.ref 42, Value.ref 1, Value.int (nI (takB o)), Value.int (nI u), Value.int (nI (v + 1)), un] = [Value.ref 42, Value.ref 1, Value.int (nI (takB o)), Value.int (fInt (fewO c o (v + 1))), Value.int (nI (v + 1)), un] by rw [fewO_in e54, hu]; rfl) ?_
              exact ih (v + 1) (by omega) (by omega)
            · have e54 : v ∉ o := fun z => by
                have : (takB o).testBit v = true := by rw [takB_tb]; exact decide_eq_true z
                rw [(tb1 _ _).mpr this] at e54
                exact absurd e54 (by decide)
              refine g_iload5 hX d_Si_fewestOutside_57 ?_
              refine g_if_eq hX d_Si_fewestOutside_59 (fun c8 => ?_) (fun h => absurd (by decide) h)
              refine g_iincN4 hX d_Si_fewestOutside_65 rfl (by decide) ?_
              refine g_goto hX d_Si_fewestOutside_68 ?_
              refine g_fget 5 ?_
              refine g_loc (show [Value.ref 42, Value.ref 1, Value.int (nI (takB o)), Value.int (nI u), Value.int (nI (v + 1)), un] = [Value.ref 42, Value.ref 1, Value.int (nI (takB o)), Value.int (fInt (fewO c o (v + 1))), Value.int (nI (v + 1)), un] by rw [fewO_b e54 hu (by omega)]; rfl) ?_
              exact ih (v + 1) (by omega) (by omega)
          · refine g_iconst (v := nI 1) hX d_Si_fewestOutside_41 rfl ?_
            refine g_goto hX d_Si_fewestOutside_42 ?_
            refine g_istore5 hX d_Si_fewestOutside_46 rfl (by decide) ?_
            refine g_iload2 hX d_Si_fewestOutside_48 ?_
            refine g_iload4 hX d_Si_fewestOutside_49 ?_
            refine g_ishrN hX d_Si_fewestOutside_51 (by omega) (by omega) ?_
            refine g_iconst (v := nI 1) hX d_Si_fewestOutside_52 rfl ?_
            refine g_iandC hX d_Si_fewestOutside_53 (fun hm9 => ?_)
            refine g_if_ne hX d_Si_fewestOutside_54 (fun e54 => ?_) (fun e54 => ?_)
            · have e54 : v ∈ o := by
                have : (takB o).testBit v = true := by
                  cases hb : (takB o).testBit v with
                  | true => rfl
                  | false => exact absurd (by rw [(tb0 _ _).mpr hb]; rfl) e54
                rw [takB_tb] at this
                exact of_decide_eq_true this
              refine g_iincN4 hX d_Si_fewestOutside_65 rfl (by decide) ?_
              refine g_goto hX d_Si_fewestOutside_68 ?_
              refine g_fget 5 ?_
              refine g_loc (show [Value.ref 42, Value.ref 1, Value.int (nI (takB o)), Value.int (nI u), Value.int (nI (v + 1)), un] = [Value.ref 42, Value.ref 1, Value.int (nI (takB o)), Value.int (fInt (fewO c o (v + 1))), Value.int (nI (v + 1)), un] by rw [fewO_in e54, hu]; rfl) ?_
              exact ih (v + 1) (by omega) (by omega)
            · have e54 : v ∉ o := fun z => by
                have : (takB o).testBit v = true := by rw [takB_tb]; exact decide_eq_true z
                rw [(tb1 _ _).mpr this] at e54
                exact absurd e54 (by decide)
              refine g_iload5 hX d_Si_fewestOutside_57 ?_
              refine g_if_eq hX d_Si_fewestOutside_59 (fun h => absurd h (by decide)) (fun c11 => ?_)
              refine g_iload4 hX d_Si_fewestOutside_62 ?_
              refine g_istore3 hX d_Si_fewestOutside_64 rfl (by decide) ?_
              refine g_iincN4 hX d_Si_fewestOutside_65 rfl (by decide) ?_
              refine g_goto hX d_Si_fewestOutside_68 ?_
              refine g_fget 5 ?_
              refine g_loc (show [Value.ref 42, Value.ref 1, Value.int (nI (takB o)), Value.int (nI v), Value.int (nI (v + 1)), un] = [Value.ref 42, Value.ref 1, Value.int (nI (takB o)), Value.int (fInt (fewO c o (v + 1))), Value.int (nI (v + 1)), un] by rw [fewO_a e54 hu (by omega)]; rfl) ?_
              exact ih (v + 1) (by omega) (by omega)
  refine g_iconst (v := -1) hX d_Si_fewestOutside_0 rfl ?_
  refine g_istore3 hX d_Si_fewestOutside_1 rfl (by decide) ?_
  refine g_iconst (v := nI 0) hX d_Si_fewestOutside_2 rfl ?_
  refine g_istore4 hX d_Si_fewestOutside_3 rfl (by decide) ?_
  exact lp (gV g + 1) 0 (by omega) (Nat.zero_le _)
