def m_M_leaf : MR := (⟨"SubgraphDeskModel", "leaf", "(ZII)V"⟩, prog_14_method_54_code, 4, none)
theorem cf_M_leaf : CF m_M_leaf 3 := ⟨gd 1908 (by decide +kernel) rfl, gd 151 (by decide +kernel) rfl, by decide +kernel, by decide, by decide +kernel⟩
theorem cv_M_leaf : CV m_M_leaf := ⟨gd 1907 (by decide +kernel) rfl, gd 89 (by decide +kernel) rfl⟩
def m_M_openBracket : MR := (⟨"SubgraphDeskModel", "openBracket", "(I)V"⟩, prog_14_method_53_code, 2, none)
theorem cf_M_openBracket : CF m_M_openBracket 1 := ⟨gd 1891 (by decide +kernel) rfl, gd 151 (by decide +kernel) rfl, by decide +kernel, by decide, by decide +kernel⟩
theorem cv_M_openBracket : CV m_M_openBracket := ⟨gd 1890 (by decide +kernel) rfl, gd 85 (by decide +kernel) rfl⟩
def m_M_orderPartAt : MR := (⟨"SubgraphDeskModel", "orderPartAt", "()I"⟩, prog_14_method_52_code, 3, (some .int))
theorem cf_M_orderPartAt : CF m_M_orderPartAt 0 := ⟨gd 1899 (by decide +kernel) rfl, gd 151 (by decide +kernel) rfl, by decide +kernel, by decide, by decide +kernel⟩
theorem cv_M_orderPartAt : CV m_M_orderPartAt := ⟨gd 1898 (by decide +kernel) rfl, gd 87 (by decide +kernel) rfl⟩
def m_M_partAt : MR := (⟨"SubgraphDeskModel", "partAt", "()I"⟩, prog_14_method_51_code, 3, (some .int))
theorem cf_M_partAt : CF m_M_partAt 0 := ⟨gd 1903 (by decide +kernel) rfl, gd 151 (by decide +kernel) rfl, by decide +kernel, by decide, by decide +kernel⟩
theorem cv_M_partAt : CV m_M_partAt := ⟨gd 1902 (by decide +kernel) rfl, gd 88 (by decide +kernel) rfl⟩
theorem d_M_leaf_0 : Dc prog_14_method_54_code 0 (.aload_n 0) 1 1 := ⟨by decide +kernel, rfl⟩
theorem d_M_leaf_1 : Dc prog_14_method_54_code 1 (.iload_n 1) 1 2 := ⟨by decide +kernel, rfl⟩
theorem d_M_leaf_2 : Dj prog_14_method_54_code 2 (.ifCond .eq 16) 5 16 18 := ⟨by decide +kernel, rfl, rfl⟩
theorem d_M_leaf_5 : Dc prog_14_method_54_code 5 (.aload_n 0) 1 6 := ⟨by decide +kernel, rfl⟩
theorem d_M_leaf_6 : Dc prog_14_method_54_code 6 (.getfield 326) 3 9 := ⟨by decide +kernel, rfl⟩
theorem d_M_leaf_9 : Dc prog_14_method_54_code 9 (.bipush 50) 2 11 := ⟨by decide +kernel, rfl⟩
theorem d_M_leaf_11 : Dj prog_14_method_54_code 11 (.if_icmp .ge 7) 14 7 18 := ⟨by decide +kernel, rfl, rfl⟩
theorem d_M_leaf_14 : Dc prog_14_method_54_code 14 (.iconst 1) 1 15 := ⟨by decide +kernel, rfl⟩
theorem d_M_leaf_15 : Dj prog_14_method_54_code 15 (.goto 4) 18 4 19 := ⟨by decide +kernel, rfl, rfl⟩
theorem d_M_leaf_18 : Dc prog_14_method_54_code 18 (.iconst 0) 1 19 := ⟨by decide +kernel, rfl⟩
theorem d_M_leaf_19 : Dc prog_14_method_54_code 19 (.invokevirtual 291) 3 22 := ⟨by decide +kernel, rfl⟩
theorem d_M_leaf_22 : Dc prog_14_method_54_code 22 (.aload_n 0) 1 23 := ⟨by decide +kernel, rfl⟩
theorem d_M_leaf_23 : Dc prog_14_method_54_code 23 (.getfield 258) 3 26 := ⟨by decide +kernel, rfl⟩
theorem d_M_leaf_26 : Dj prog_14_method_54_code 26 (.ifCond .ne 19) 29 19 45 := ⟨by decide +kernel, rfl, rfl⟩
theorem d_M_leaf_29 : Dc prog_14_method_54_code 29 (.aload_n 0) 1 30 := ⟨by decide +kernel, rfl⟩
theorem d_M_leaf_30 : Dc prog_14_method_54_code 30 (.iload_n 2) 1 31 := ⟨by decide +kernel, rfl⟩
theorem d_M_leaf_31 : Dc prog_14_method_54_code 31 (.iload_n 3) 1 32 := ⟨by decide +kernel, rfl⟩
theorem d_M_leaf_32 : Dc prog_14_method_54_code 32 (.invokevirtual 304) 3 35 := ⟨by decide +kernel, rfl⟩
theorem d_M_leaf_35 : Dc prog_14_method_54_code 35 (.aload_n 0) 1 36 := ⟨by decide +kernel, rfl⟩
theorem d_M_leaf_36 : Dc prog_14_method_54_code 36 (.dup) 1 37 := ⟨by decide +kernel, rfl⟩
theorem d_M_leaf_37 : Dc prog_14_method_54_code 37 (.getfield 326) 3 40 := ⟨by decide +kernel, rfl⟩
theorem d_M_leaf_40 : Dc prog_14_method_54_code 40 (.iconst 1) 1 41 := ⟨by decide +kernel, rfl⟩
theorem d_M_leaf_41 : Dc prog_14_method_54_code 41 (.iadd) 1 42 := ⟨by decide +kernel, rfl⟩
theorem d_M_leaf_42 : Dc prog_14_method_54_code 42 (.putfield 326) 3 45 := ⟨by decide +kernel, rfl⟩
theorem d_M_leaf_45 : Dc prog_14_method_54_code 45 (.return_) 1 46 := ⟨by decide +kernel, rfl⟩
theorem d_M_openBracket_0 : Dc prog_14_method_53_code 0 (.aload_n 0) 1 1 := ⟨by decide +kernel, rfl⟩
theorem d_M_openBracket_1 : Dc prog_14_method_53_code 1 (.aload_n 0) 1 2 := ⟨by decide +kernel, rfl⟩
theorem d_M_openBracket_2 : Dc prog_14_method_53_code 2 (.getfield 320) 3 5 := ⟨by decide +kernel, rfl⟩
theorem d_M_openBracket_5 : Dc prog_14_method_53_code 5 (.bipush 8) 2 7 := ⟨by decide +kernel, rfl⟩
theorem d_M_openBracket_7 : Dj prog_14_method_53_code 7 (.if_icmp .ge 7) 10 7 14 := ⟨by decide +kernel, rfl, rfl⟩
theorem d_M_openBracket_10 : Dc prog_14_method_53_code 10 (.iconst 1) 1 11 := ⟨by decide +kernel, rfl⟩
theorem d_M_openBracket_11 : Dj prog_14_method_53_code 11 (.goto 4) 14 4 15 := ⟨by decide +kernel, rfl, rfl⟩
theorem d_M_openBracket_14 : Dc prog_14_method_53_code 14 (.iconst 0) 1 15 := ⟨by decide +kernel, rfl⟩
theorem d_M_openBracket_15 : Dc prog_14_method_53_code 15 (.invokevirtual 291) 3 18 := ⟨by decide +kernel, rfl⟩
theorem d_M_openBracket_18 : Dc prog_14_method_53_code 18 (.aload_n 0) 1 19 := ⟨by decide +kernel, rfl⟩
theorem d_M_openBracket_19 : Dc prog_14_method_53_code 19 (.getfield 258) 3 22 := ⟨by decide +kernel, rfl⟩
theorem d_M_openBracket_22 : Dj prog_14_method_53_code 22 (.ifCond .ne 19) 25 19 41 := ⟨by decide +kernel, rfl, rfl⟩
theorem d_M_openBracket_25 : Dc prog_14_method_53_code 25 (.aload_n 0) 1 26 := ⟨by decide +kernel, rfl⟩
theorem d_M_openBracket_26 : Dc prog_14_method_53_code 26 (.dup) 1 27 := ⟨by decide +kernel, rfl⟩
theorem d_M_openBracket_27 : Dc prog_14_method_53_code 27 (.getfield 320) 3 30 := ⟨by decide +kernel, rfl⟩
theorem d_M_openBracket_30 : Dc prog_14_method_53_code 30 (.iconst 1) 1 31 := ⟨by decide +kernel, rfl⟩
theorem d_M_openBracket_31 : Dc prog_14_method_53_code 31 (.iadd) 1 32 := ⟨by decide +kernel, rfl⟩
theorem d_M_openBracket_32 : Dc prog_14_method_53_code 32 (.putfield 320) 3 35 := ⟨by decide +kernel, rfl⟩
theorem d_M_openBracket_35 : Dc prog_14_method_53_code 35 (.aload_n 0) 1 36 := ⟨by decide +kernel, rfl⟩
theorem d_M_openBracket_36 : Dc prog_14_method_53_code 36 (.iload_n 1) 1 37 := ⟨by decide +kernel, rfl⟩
theorem d_M_openBracket_37 : Dc prog_14_method_53_code 37 (.iconst 0) 1 38 := ⟨by decide +kernel, rfl⟩
theorem d_M_openBracket_38 : Dc prog_14_method_53_code 38 (.invokevirtual 323) 3 41 := ⟨by decide +kernel, rfl⟩
theorem d_M_openBracket_41 : Dc prog_14_method_53_code 41 (.return_) 1 42 := ⟨by decide +kernel, rfl⟩
theorem d_M_orderPartAt_0 : Dc prog_14_method_52_code 0 (.iconst (-1)) 1 1 := ⟨by decide +kernel, rfl⟩
theorem d_M_orderPartAt_1 : Dc prog_14_method_52_code 1 (.istore_n 1) 1 2 := ⟨by decide +kernel, rfl⟩
theorem d_M_orderPartAt_2 : Dc prog_14_method_52_code 2 (.iconst 0) 1 3 := ⟨by decide +kernel, rfl⟩
theorem d_M_orderPartAt_3 : Dc prog_14_method_52_code 3 (.istore_n 2) 1 4 := ⟨by decide +kernel, rfl⟩
theorem d_M_orderPartAt_4 : Dc prog_14_method_52_code 4 (.iload_n 2) 1 5 := ⟨by decide +kernel, rfl⟩
theorem d_M_orderPartAt_5 : Dc prog_14_method_52_code 5 (.bipush 6) 2 7 := ⟨by decide +kernel, rfl⟩
theorem d_M_orderPartAt_7 : Dj prog_14_method_52_code 7 (.if_icmp .ge 30) 10 30 37 := ⟨by decide +kernel, rfl, rfl⟩
theorem d_M_orderPartAt_10 : Dc prog_14_method_52_code 10 (.aload_n 0) 1 11 := ⟨by decide +kernel, rfl⟩
theorem d_M_orderPartAt_11 : Dc prog_14_method_52_code 11 (.aload_n 0) 1 12 := ⟨by decide +kernel, rfl⟩
theorem d_M_orderPartAt_12 : Dc prog_14_method_52_code 12 (.getfield 83) 3 15 := ⟨by decide +kernel, rfl⟩
theorem d_M_orderPartAt_15 : Dc prog_14_method_52_code 15 (.iload_n 2) 1 16 := ⟨by decide +kernel, rfl⟩
theorem d_M_orderPartAt_16 : Dc prog_14_method_52_code 16 (.laload) 1 17 := ⟨by decide +kernel, rfl⟩
theorem d_M_orderPartAt_17 : Dc prog_14_method_52_code 17 (.invokevirtual 316) 3 20 := ⟨by decide +kernel, rfl⟩
theorem d_M_orderPartAt_20 : Dj prog_14_method_52_code 20 (.ifCond .eq 9) 23 9 29 := ⟨by decide +kernel, rfl, rfl⟩
theorem d_M_orderPartAt_23 : Dc prog_14_method_52_code 23 (.iload_n 2) 1 24 := ⟨by decide +kernel, rfl⟩
theorem d_M_orderPartAt_24 : Dc prog_14_method_52_code 24 (.iconst 1) 1 25 := ⟨by decide +kernel, rfl⟩
theorem d_M_orderPartAt_25 : Dc prog_14_method_52_code 25 (.iadd) 1 26 := ⟨by decide +kernel, rfl⟩
theorem d_M_orderPartAt_26 : Dj prog_14_method_52_code 26 (.goto 4) 29 4 30 := ⟨by decide +kernel, rfl, rfl⟩
theorem d_M_orderPartAt_29 : Dc prog_14_method_52_code 29 (.iload_n 1) 1 30 := ⟨by decide +kernel, rfl⟩
theorem d_M_orderPartAt_30 : Dc prog_14_method_52_code 30 (.istore_n 1) 1 31 := ⟨by decide +kernel, rfl⟩
theorem d_M_orderPartAt_31 : Dc prog_14_method_52_code 31 (.iinc 2 1) 3 34 := ⟨by decide +kernel, rfl⟩
theorem d_M_orderPartAt_34 : Dj prog_14_method_52_code 34 (.goto (-30)) 37 (-30) 4 := ⟨by decide +kernel, rfl, rfl⟩
theorem d_M_orderPartAt_37 : Dc prog_14_method_52_code 37 (.iload_n 1) 1 38 := ⟨by decide +kernel, rfl⟩
theorem d_M_orderPartAt_38 : Dc prog_14_method_52_code 38 (.ireturn) 1 39 := ⟨by decide +kernel, rfl⟩
theorem d_M_partAt_0 : Dc prog_14_method_51_code 0 (.iconst (-1)) 1 1 := ⟨by decide +kernel, rfl⟩
theorem d_M_partAt_1 : Dc prog_14_method_51_code 1 (.istore_n 1) 1 2 := ⟨by decide +kernel, rfl⟩
theorem d_M_partAt_2 : Dc prog_14_method_51_code 2 (.iconst 0) 1 3 := ⟨by decide +kernel, rfl⟩
theorem d_M_partAt_3 : Dc prog_14_method_51_code 3 (.istore_n 2) 1 4 := ⟨by decide +kernel, rfl⟩
theorem d_M_partAt_4 : Dc prog_14_method_51_code 4 (.iload_n 2) 1 5 := ⟨by decide +kernel, rfl⟩
theorem d_M_partAt_5 : Dc prog_14_method_51_code 5 (.bipush 7) 2 7 := ⟨by decide +kernel, rfl⟩
theorem d_M_partAt_7 : Dj prog_14_method_51_code 7 (.if_icmp .ge 30) 10 30 37 := ⟨by decide +kernel, rfl, rfl⟩
theorem d_M_partAt_10 : Dc prog_14_method_51_code 10 (.aload_n 0) 1 11 := ⟨by decide +kernel, rfl⟩
theorem d_M_partAt_11 : Dc prog_14_method_51_code 11 (.aload_n 0) 1 12 := ⟨by decide +kernel, rfl⟩
theorem d_M_partAt_12 : Dc prog_14_method_51_code 12 (.getfield 71) 3 15 := ⟨by decide +kernel, rfl⟩
theorem d_M_partAt_15 : Dc prog_14_method_51_code 15 (.iload_n 2) 1 16 := ⟨by decide +kernel, rfl⟩
theorem d_M_partAt_16 : Dc prog_14_method_51_code 16 (.laload) 1 17 := ⟨by decide +kernel, rfl⟩
theorem d_M_partAt_17 : Dc prog_14_method_51_code 17 (.invokevirtual 316) 3 20 := ⟨by decide +kernel, rfl⟩
theorem d_M_partAt_20 : Dj prog_14_method_51_code 20 (.ifCond .eq 9) 23 9 29 := ⟨by decide +kernel, rfl, rfl⟩
theorem d_M_partAt_23 : Dc prog_14_method_51_code 23 (.iload_n 2) 1 24 := ⟨by decide +kernel, rfl⟩
theorem d_M_partAt_24 : Dc prog_14_method_51_code 24 (.iconst 1) 1 25 := ⟨by decide +kernel, rfl⟩
theorem d_M_partAt_25 : Dc prog_14_method_51_code 25 (.iadd) 1 26 := ⟨by decide +kernel, rfl⟩
theorem d_M_partAt_26 : Dj prog_14_method_51_code 26 (.goto 4) 29 4 30 := ⟨by decide +kernel, rfl, rfl⟩
theorem d_M_partAt_29 : Dc prog_14_method_51_code 29 (.iload_n 1) 1 30 := ⟨by decide +kernel, rfl⟩
theorem d_M_partAt_30 : Dc prog_14_method_51_code 30 (.istore_n 1) 1 31 := ⟨by decide +kernel, rfl⟩
theorem d_M_partAt_31 : Dc prog_14_method_51_code 31 (.iinc 2 1) 3 34 := ⟨by decide +kernel, rfl⟩
theorem d_M_partAt_34 : Dj prog_14_method_51_code 34 (.goto (-30)) 37 (-30) 4 := ⟨by decide +kernel, rfl, rfl⟩
theorem d_M_partAt_37 : Dc prog_14_method_51_code 37 (.iload_n 1) 1 38 := ⟨by decide +kernel, rfl⟩
theorem d_M_partAt_38 : Dc prog_14_method_51_code 38 (.ireturn) 1 39 := ⟨by decide +kernel, rfl⟩
theorem fl_M_71 : FL "SubgraphDeskModel" 71 12 31 true (.array .long) (3, 15) := ⟨R_M, F_M, 69, ty_M, rfl, rfl, in_M, tyok_M, nm_M, by decide, gd 1503 (by decide +kernel) rfl, rfl, rfl, rfl⟩
theorem fl_M_83 : FL "SubgraphDeskModel" 83 12 32 true (.array .long) (3, 16) := ⟨R_M, F_M, 69, ty_M, rfl, rfl, in_M, tyok_M, nm_M, by decide, gd 1504 (by decide +kernel) rfl, rfl, rfl, rfl⟩
theorem fl_M_320 : FL "SubgraphDeskModel" 320 12 30 false .int (0, 0) := ⟨R_M, F_M, 69, ty_M, rfl, rfl, in_M, tyok_M, nm_M, by decide, gd 1502 (by decide +kernel) rfl, rfl, rfl, rfl⟩
theorem fl_M_326 : FL "SubgraphDeskModel" 326 12 26 false .int (0, 0) := ⟨R_M, F_M, 69, ty_M, rfl, rfl, in_M, tyok_M, nm_M, by decide, gd 1498 (by decide +kernel) rfl, rfl, rfl, rfl⟩
theorem ml_M_316 : Cond.methodLink "SubgraphDeskModel" 316 m_M_isWord.1 ∈ lw_gd := gd 1863 (by decide +kernel) rfl
theorem ml_M_323 : Cond.methodLink "SubgraphDeskModel" 323 m_M_push.1 ∈ lw_gd := gd 1880 (by decide +kernel) rfl
theorem pK_no {t : List Nat} {f : Nat} {ws : List (List Nat)} : ∀ n, (∀ k, k < n → ¬ isW t f (gA2 ws k)) → pK t f ws n = -1
  | 0, _ => rfl
  | n + 1, h => by
    unfold pK
    rw [if_neg (h n (by omega))]
    exact pK_no n (fun k hk => h k (by omega))
theorem pK_at {t : List Nat} {f : Nat} {ws : List (List Nat)} {k : Nat} (hk : isW t f (gA2 ws k)) : ∀ n, k < n → (∀ j, j < n → isW t f (gA2 ws j) → j = k) → pK t f ws n = nI (k + 1)
  | 0, h, _ => absurd h (Nat.not_lt_zero _)
  | n + 1, h, hu => by
    unfold pK
    by_cases e : isW t f (gA2 ws n)
    · rw [if_pos e, hu n (by omega) e]
    · rw [if_neg e]
      have : k ≠ n := fun z => e (z ▸ hk)
      exact pK_at hk n (by omega) (fun j hj => hu j (by omega))
theorem parts_inj (o : Bool) : ∀ i, i < (partsL o).length → ∀ j, j < (partsL o).length → gA2 (partsL o) i = gA2 (partsL o) j → i = j := by
  cases o <;> decide
theorem parts_at {t : List Nat} {f : Nat} {o : Bool} {k : Nat} (hk : k < (partsL o).length) (h : isW t f (gA2 (partsL o) k)) : pK t f (partsL o) (partsL o).length = nI (k + 1) :=
  pK_at h _ hk (fun j hj hw => parts_inj o j hj k hk (isW_un hw h))
theorem parts_srt {t : List Nat} {f : Nat} {o : Bool} (h : srt t f ≠ 1) : pK t f (partsL o) (partsL o).length = -1 := pK_no _ (fun k _ z => h z.1)
/-- words of letters, ten at most, as the reference has them -/
theorem parts_w (o : Bool) : ∀ k, k < (partsL o).length → (gA2 (partsL o) k).length ≤ 10 ∧ (∀ i, i < (gA2 (partsL o) k).length → 97 ≤ gA (gA2 (partsL o) k) i ∧ gA (gA2 (partsL o) k) i ≤ 122) ∧ (gA (if o then mOrd else mWords) k : Int) = wcN (gA2 (partsL o) k) (gA2 (partsL o) k).length := by
  cases o <;> decide
theorem num0 {t : List Nat} {f : Nat} (h : srt t f = 2) : isN t f 0 1000 ↔ worI t f ≤ 1000 := by
  rw [num_iff (by decide)]
  have e : worI t f = digW t f (enT t f - f) := by unfold worI; rw [if_neg (by omega), if_pos h]
  have := digW_b (t := t) (f := f) _ (dig_in h)
  constructor
  · rintro ⟨-, -, h3⟩; exact h3
  · intro h3
    exact ⟨h, by show (0 : Int) ≤ _; omega, h3⟩
theorem c_M_partAt {E : EV} {w : Mem} {t : List Nat} {f : Nat} (h : TokP w t f) (hM : ∀ k, k < 7 → rJ w 104 k = lN (gA mWords k)) : T E m_M_partAt 1 0 0 [.ref 89] w (Ret (some (.int (pK t f (partsL false) 7))) w) := by
  refine T_of (L := [.ref 89, un, un]) cf_M_partAt rfl (Nat.le_of_ble_eq_true rfl) (fun X hX hF => ?_)
  have lp : ∀ (fuel : Nat) (k : Nat), 7 - k < fuel → (k ≤ 7) → G0 E X 0 0 4 [.ref 89, .int (pK t f (partsL false) k), .int (nI k)] [] w := by
    intro fuel
    induction fuel with
    | zero => intro k q0; exact absurd q0 (Nat.not_lt_zero _)
    | succ fuel ih =>
      intro k q0 q1
      refine g_iload2 hX d_M_partAt_4 ?_
      refine g_bipush (v := nI 7) hX d_M_partAt_5 rfl ?_
      refine g_icmpN_ge hX d_M_partAt_7 (by omega) (by omega) (fun c0 => ?_) (fun c0 => ?_)
      · refine g_iload1 hX d_M_partAt_37 ?_
        refine g_iret hX hF d_M_partAt_38 (by omega) (by omega) ?_
        exact ⟨by rw [show k = 7 by omega], rfl⟩
      · obtain ⟨w1, w2, w3⟩ := parts_w false k (by show k < 7; omega)
        refine g_aload0 hX d_M_partAt_10 ?_
        refine g_aload0 hX d_M_partAt_11 ?_
        refine g_getF hX d_M_partAt_12 fl_M_71 (lv_89 _) ?_
        refine g_iload2 hX d_M_partAt_15 ?_
        refine g_lald hX d_M_partAt_16 (lv_104 _) rfl (by omega) ?_
        refine g_topl (hM k (by omega)) ?_
        refine g_callV (As := [_]) hX hF.1 d_M_partAt_17 ml_M_316 cf_M_isWord cv_M_isWord rfl rfl (c_M_isWord h (show lN _ = _ by rw [lI_nat]; exact congrArg lI w3) w1 w2) (rcv_obj hX (lv_89 _) rfl rfl) (by omega) (by omega) (by omega) (Nat.le_of_ble_eq_true rfl) ?_
        refine ret_k ?_
        refine g_ifB_eq hX d_M_partAt_20 (fun e20 => ?_) (fun e20 => ?_)
        · refine g_iload1 hX d_M_partAt_29 ?_
          refine g_istore1 hX d_M_partAt_30 rfl (by decide) ?_
          refine g_iincN2 hX d_M_partAt_31 rfl (by decide) ?_
          refine g_goto hX d_M_partAt_34 ?_
          refine g_loc (show _ = [.ref 89, .int (pK t f (partsL false) (k + 1)), .int (nI (k + 1))] by rw [pK, if_neg e20]) ?_
          exact ih (k + 1) (by omega) (by omega)
        · refine g_iload2 hX d_M_partAt_23 ?_
          refine g_iconst (v := nI 1) hX d_M_partAt_24 rfl ?_
          refine g_iaddN hX d_M_partAt_25 ?_
          refine g_goto hX d_M_partAt_26 ?_
          refine g_istore1 hX d_M_partAt_30 rfl (by decide) ?_
          refine g_iincN2 hX d_M_partAt_31 rfl (by decide) ?_
          refine g_goto hX d_M_partAt_34 ?_
          refine g_loc (show _ = [.ref 89, .int (pK t f (partsL false) (k + 1)), .int (nI (k + 1))] by rw [pK, if_pos e20]) ?_
          exact ih (k + 1) (by omega) (by omega)
  refine g_iconst (v := -1) hX d_M_partAt_0 rfl ?_
  refine g_istore1 hX d_M_partAt_1 rfl (by decide) ?_
  refine g_iconst (v := nI 0) hX d_M_partAt_2 rfl ?_
  refine g_istore2 hX d_M_partAt_3 rfl (by decide) ?_
  exact lp 8 0 (by omega) (Nat.zero_le _)
theorem c_M_orderPartAt {E : EV} {w : Mem} {t : List Nat} {f : Nat} (h : TokP w t f) (hM : ∀ k, k < 6 → rJ w 105 k = lN (gA mOrd k)) : T E m_M_orderPartAt 1 0 0 [.ref 89] w (Ret (some (.int (pK t f (partsL true) 6))) w) := by
  refine T_of (L := [.ref 89, un, un]) cf_M_orderPartAt rfl (Nat.le_of_ble_eq_true rfl) (fun X hX hF => ?_)
  have lp : ∀ (fuel : Nat) (k : Nat), 6 - k < fuel → (k ≤ 6) → G0 E X 0 0 4 [.ref 89, .int (pK t f (partsL true) k), .int (nI k)] [] w := by
    intro fuel
    induction fuel with
    | zero => intro k q0; exact absurd q0 (Nat.not_lt_zero _)
    | succ fuel ih =>
      intro k q0 q1
      refine g_iload2 hX d_M_orderPartAt_4 ?_
      refine g_bipush (v := nI 6) hX d_M_orderPartAt_5 rfl ?_
      refine g_icmpN_ge hX d_M_orderPartAt_7 (by omega) (by omega) (fun c0 => ?_) (fun c0 => ?_)
      · refine g_iload1 hX d_M_orderPartAt_37 ?_
        refine g_iret hX hF d_M_orderPartAt_38 (by omega) (by omega) ?_
        exact ⟨by rw [show k = 6 by omega], rfl⟩
      · obtain ⟨w1, w2, w3⟩ := parts_w true k (by show k < 6; omega)
        refine g_aload0 hX d_M_orderPartAt_10 ?_
        refine g_aload0 hX d_M_orderPartAt_11 ?_
        refine g_getF hX d_M_orderPartAt_12 fl_M_83 (lv_89 _) ?_
        refine g_iload2 hX d_M_orderPartAt_15 ?_
        refine g_lald hX d_M_orderPartAt_16 (lv_105 _) rfl (by omega) ?_
        refine g_topl (hM k (by omega)) ?_
        refine g_callV (As := [_]) hX hF.1 d_M_orderPartAt_17 ml_M_316 cf_M_isWord cv_M_isWord rfl rfl (c_M_isWord h (show lN _ = _ by rw [lI_nat]; exact congrArg lI w3) w1 w2) (rcv_obj hX (lv_89 _) rfl rfl) (by omega) (by omega) (by omega) (Nat.le_of_ble_eq_true rfl) ?_
        refine ret_k ?_
        refine g_ifB_eq hX d_M_orderPartAt_20 (fun e20 => ?_) (fun e20 => ?_)
        · refine g_iload1 hX d_M_orderPartAt_29 ?_
          refine g_istore1 hX d_M_orderPartAt_30 rfl (by decide) ?_
          refine g_iincN2 hX d_M_orderPartAt_31 rfl (by decide) ?_
          refine g_goto hX d_M_orderPartAt_34 ?_
          refine g_loc (show _ = [.ref 89, .int (pK t f (partsL true) (k + 1)), .int (nI (k + 1))] by rw [pK, if_neg e20]) ?_
          exact ih (k + 1) (by omega) (by omega)
        · refine g_iload2 hX d_M_orderPartAt_23 ?_
          refine g_iconst (v := nI 1) hX d_M_orderPartAt_24 rfl ?_
          refine g_iaddN hX d_M_orderPartAt_25 ?_
          refine g_goto hX d_M_orderPartAt_26 ?_
          refine g_istore1 hX d_M_orderPartAt_30 rfl (by decide) ?_
          refine g_iincN2 hX d_M_orderPartAt_31 rfl (by decide) ?_
          refine g_goto hX d_M_orderPartAt_34 ?_
          refine g_loc (show _ = [.ref 89, .int (pK t f (partsL true) (k + 1)), .int (nI (k + 1))] by rw [pK, if_pos e20]) ?_
          exact ih (k + 1) (by omega) (by omega)
  refine g_iconst (v := -1) hX d_M_orderPartAt_0 rfl ?_
  refine g_istore1 hX d_M_orderPartAt_1 rfl (by decide) ?_
  refine g_iconst (v := nI 0) hX d_M_orderPartAt_2 rfl ?_
  refine g_istore2 hX d_M_orderPartAt_3 rfl (by decide) ?_
  exact lp 7 0 (by omega) (Nat.zero_le _)
theorem RdP.bad {w : Mem} {t : List Nat} {f p : Nat} {c s : List (Nat × Nat)} {od : Nat} (h : RdP w t f p c s od) (hW : PileW c s) : BadP (sI (sI w 89 19 (nI 1)) 89 18 (nI f)) t f := by
  refine ⟨?_, by rw [rI_sI, upd_eq, if_neg (by decide), rI_sI, upd_eq, if_pos rfl], by rw [rI_sI, upd_eq, if_pos rfl], h.1.2.2.2.2.2.1, c, s, (h.2.2.1.o (by decide) (by decide) (Or.inr (by decide))).o (by decide) (by decide) (Or.inr (by decide)), (h.2.2.2.1.o (by decide) (by decide) (Or.inr (by decide))).o (by decide) (by decide) (Or.inr (by decide)), hW⟩
  rw [rI_sI_ne _ _ _ (by decide), rI_sI_ne _ _ _ (by decide), rI_sI, upd_eq, if_neg (by decide), rI_sI, upd_eq, if_neg (by decide)]
  exact h.1.1
theorem RdP.tok {w w2 : Mem} {t : List Nat} {f f2 p : Nat} {c s : List (Nat × Nat)} {od : Nat} (h : RdP w t f p c s od) (hf : FrN w w2) (h2 : TokP w2 t f2) : RdP w2 t f2 p c s od :=
  ⟨h2, by rw [hf.2.1 26 (by decide) (by decide) (by decide)]; exact h.2.1, h.2.2.1.n hf, h.2.2.2.1.n hf, by rw [hf.2.1 30 (by decide) (by decide) (by decide)]; exact h.2.2.2.2.1, by rw [hf.2.1 19 (by decide) (by decide) (by decide)]; exact h.2.2.2.2.2.1, by rw [hf.2.1 18 (by decide) (by decide) (by decide)]; exact h.2.2.2.2.2.2⟩
theorem RdP.emit {w : Mem} {t : List Nat} {f p : Nat} {c s : List (Nat × Nat)} {od : Nat} {q : Nat × Nat} (h : RdP w t f p c s od) : RdP (sI (sI (sI w 100 c.length (nI q.1)) 101 c.length (nI q.2)) 89 23 (nI (c.length + 1))) t f p (c ++ [q]) s od := by
  obtain ⟨h1, h2, h3, h4, h5, h6, h7⟩ := h
  refine ⟨((h1.o (by decide) (Or.inl (by decide))).o (by decide) (Or.inl (by decide))).o (by decide) (Or.inr (by decide)), ?_, h3.app, ((h4.o (by decide) (by decide) (Or.inl (by decide))).o (by decide) (by decide) (Or.inl (by decide))).o (by decide) (by decide) (Or.inr (by decide)), ?_, ?_, ?_⟩
  all_goals rw [rI_sI, upd_eq, if_neg (by decide), rI_sI_ne _ _ _ (by decide), rI_sI_ne _ _ _ (by decide)]
  · exact h2
  · exact h5
  · exact h6
  · exact h7
theorem RdP.push {w : Mem} {t : List Nat} {f p : Nat} {c s : List (Nat × Nat)} {od : Nat} {q : Nat × Nat} (h : RdP w t f p c s od) : RdP (sI (sI (sI w 102 s.length (nI q.1)) 103 s.length (nI q.2)) 89 29 (nI (s.length + 1))) t f p c (s ++ [q]) od := by
  obtain ⟨h1, h2, h3, h4, h5, h6, h7⟩ := h
  refine ⟨((h1.o (by decide) (Or.inl (by decide))).o (by decide) (Or.inl (by decide))).o (by decide) (Or.inr (by decide)), ?_, ((h3.o (by decide) (by decide) (Or.inl (by decide))).o (by decide) (by decide) (Or.inl (by decide))).o (by decide) (by decide) (Or.inr (by decide)), h4.app, ?_, ?_, ?_⟩
  all_goals rw [rI_sI, upd_eq, if_neg (by decide), rI_sI_ne _ _ _ (by decide), rI_sI_ne _ _ _ (by decide)]
  · exact h2
  · exact h5
  · exact h6
  · exact h7
theorem RdP.pts {w : Mem} {t : List Nat} {f p p2 : Nat} {c s : List (Nat × Nat)} {od : Nat} (h : RdP w t f p c s od) : RdP (sI w 89 26 (nI p2)) t f p2 c s od := by
  obtain ⟨h1, h2, h3, h4, h5, h6, h7⟩ := h
  refine ⟨h1.o (by decide) (Or.inr (by decide)), by rw [rI_sI, upd_eq, if_pos rfl], h3.o (by decide) (by decide) (Or.inr (by decide)), h4.o (by decide) (by decide) (Or.inr (by decide)), ?_, ?_, ?_⟩
  all_goals rw [rI_sI, upd_eq, if_neg (by decide)]
  · exact h5
  · exact h6
  · exact h7
theorem RdP.opd {w : Mem} {t : List Nat} {f p : Nat} {c s : List (Nat × Nat)} {od od2 : Nat} (h : RdP w t f p c s od) : RdP (sI w 89 30 (nI od2)) t f p c s od2 := by
  obtain ⟨h1, h2, h3, h4, h5, h6, h7⟩ := h
  refine ⟨h1.o (by decide) (Or.inr (by decide)), ?_, h3.o (by decide) (by decide) (Or.inr (by decide)), h4.o (by decide) (by decide) (Or.inr (by decide)), by rw [rI_sI, upd_eq, if_pos rfl], ?_, ?_⟩
  all_goals rw [rI_sI, upd_eq, if_neg (by decide)]
  · exact h2
  · exact h6
  · exact h7
theorem RdP.less {w : Mem} {t : List Nat} {f p : Nat} {c s x : List (Nat × Nat)} {od : Nat} (h : RdP w t f p c (s ++ x) od) : RdP (sI w 89 29 (nI s.length)) t f p c s od := by
  obtain ⟨h1, h2, h3, h4, h5, h6, h7⟩ := h
  refine ⟨h1.o (by decide) (Or.inr (by decide)), ?_, h3.o (by decide) (by decide) (Or.inr (by decide)), h4.less, ?_, ?_, ?_⟩
  all_goals rw [rI_sI, upd_eq, if_neg (by decide)]
  · exact h2
  · exact h5
  · exact h6
  · exact h7
theorem RdP.set {w w2 : Mem} {t : List Nat} {f p : Nat} {c c2 s s2 : List (Nat × Nat)} {od : Nat} (h : RdP w t f p c s od) (hf : FrQ w w2) (hc : CodeP w2 c2) (hs : PileP w2 s2) : RdP w2 t f p c2 s2 od := by
  obtain ⟨h1, h2, h3, h4, h5, h6, h7⟩ := h
  refine ⟨h1.q hf, by rw [hf.2.1 26 (by decide) (by decide)]; exact h2, hc, hs, by rw [hf.2.1 30 (by decide) (by decide)]; exact h5, by rw [hf.2.1 19 (by decide) (by decide)]; exact h6, by rw [hf.2.1 18 (by decide) (by decide)]; exact h7⟩
theorem FrR.bad {w w2 : Mem} {x y : Int32} (h : FrR w w2) : FrR w (sI (sI w2 89 19 x) 89 18 y) := (h.I (by decide)).I (by decide)
theorem c_M_openBracketY {E : EV} {w : Mem} {t : List Nat} {f p : Nat} {c s : List (Nat × Nat)} {od : Nat} (h : RdP w t f p c s od) (hP : PileW c s) {q : Nat} (hlt : s.length < 400) (hod : od < 8) : T E m_M_openBracket 3 0 0 [.ref 89, .int (nI q)] w (fun r w2 => r = none ∧ FrR w w2 ∧ RdP w2 t (nxT t f) p c (s ++ [(q, 0)]) (od + 1)) := by
  refine T_of (L := [.ref 89, .int (nI q)]) cf_M_openBracket rfl (Nat.le_of_ble_eq_true rfl) (fun X hX hF => ?_)
  refine g_aload0 hX d_M_openBracket_0 ?_
  refine g_aload0 hX d_M_openBracket_1 ?_
  refine g_getI hX d_M_openBracket_2 fl_M_320 (lv_89 _) ?_
  refine g_topi h.2.2.2.2.1 ?_
  refine g_bipush (v := nI 8) hX d_M_openBracket_5 rfl ?_
  refine g_icmpN_ge hX d_M_openBracket_7 (by omega) (by omega) (fun h => absurd h (by omega)) (fun c0 => ?_)
  refine g_iconst (v := nI 1) hX d_M_openBracket_10 rfl ?_
  refine g_goto hX d_M_openBracket_11 ?_
  refine g_callV (As := [_]) hX hF.1 d_M_openBracket_15 ml_M_291 cf_M_must cv_M_must rfl rfl (c_M_mustY h.1 h.2.2.2.2.2.1 rfl) (rcv_obj hX (lv_89 _) rfl rfl) (by omega) (by omega) (by omega) (Nat.le_of_ble_eq_true rfl) ?_
  rintro _ w2 ⟨rfl, hf, hT2⟩
  have h2 := h.tok hf hT2
  show G0 _ _ _ _ _ _ _ _
  refine g_aload0 hX d_M_openBracket_18 ?_
  refine g_getZ hX d_M_openBracket_19 fl_M_258 (lv_89 _) ?_
  refine g_topi h2.2.2.2.2.2.1 ?_
  refine g_if_ne hX d_M_openBracket_22 (fun h => absurd (by decide) h) (fun c1 => ?_)
  refine g_aload0 hX d_M_openBracket_25 ?_
  refine g_dup hX d_M_openBracket_26 rfl ?_
  refine g_getI hX d_M_openBracket_27 fl_M_320 (lv_89 _) ?_
  refine g_topi h2.2.2.2.2.1 ?_
  refine g_iconst (v := nI 1) hX d_M_openBracket_30 rfl ?_
  refine g_iaddN hX d_M_openBracket_31 ?_
  refine g_putI hX d_M_openBracket_32 fl_M_320 (lv_89 _) ?_
  refine g_aload0 hX d_M_openBracket_35 ?_
  refine g_iload1 hX d_M_openBracket_36 ?_
  refine g_iconst (v := nI 0) hX d_M_openBracket_37 rfl ?_
  refine g_callV (As := [_, _]) hX hF.1 d_M_openBracket_38 ml_M_323 cf_M_push cv_M_push rfl rfl (c_M_push (m := s.length) (show rI (sI w2 89 30 (nI (od + 1))) 89 29 = _ by rw [rI_sI, upd_eq, if_neg (by decide)]; exact h2.2.2.2.1.1) hlt) (rcv_obj hX (lv_89 _) rfl rfl) (by omega) (by omega) (by omega) (Nat.le_of_ble_eq_true rfl) ?_
  refine ret_k ?_
  refine g_vret hX hF d_M_openBracket_41 (by omega) (by omega) ?_
  exact ⟨rfl, ((((hf.R.I (by omega)).I (by omega)).I (by omega)).I (by omega)), (h2.opd (od2 := od + 1)).push (q := (q, 0))⟩
theorem c_M_openBracketN {E : EV} {w : Mem} {t : List Nat} {f p : Nat} {c s : List (Nat × Nat)} {od : Nat} (h : RdP w t f p c s od) (hP : PileW c s) {x : Int32} (hod : 8 ≤ od) (ho8 : od < 100) : T E m_M_openBracket 3 0 0 [.ref 89, .int x] w (Ret none (sI (sI w 89 19 (nI 1)) 89 18 (nI f))) := by
  refine T_of (L := [.ref 89, .int x]) cf_M_openBracket rfl (Nat.le_of_ble_eq_true rfl) (fun X hX hF => ?_)
  refine g_aload0 hX d_M_openBracket_0 ?_
  refine g_aload0 hX d_M_openBracket_1 ?_
  refine g_getI hX d_M_openBracket_2 fl_M_320 (lv_89 _) ?_
  refine g_topi h.2.2.2.2.1 ?_
  refine g_bipush (v := nI 8) hX d_M_openBracket_5 rfl ?_
  refine g_icmpN_ge hX d_M_openBracket_7 (by omega) (by omega) (fun c0 => ?_) (fun h => absurd h (by omega))
  refine g_iconst (v := nI 0) hX d_M_openBracket_14 rfl ?_
  refine g_callV (As := [_]) hX hF.1 d_M_openBracket_15 ml_M_291 cf_M_must cv_M_must rfl rfl (c_M_mustN h.1.2.1 h.2.2.2.2.2.1 rfl) (rcv_obj hX (lv_89 _) rfl rfl) (by omega) (by omega) (by omega) (Nat.le_of_ble_eq_true rfl) ?_
  refine ret_k ?_
  refine g_aload0 hX d_M_openBracket_18 ?_
  refine g_getZ hX d_M_openBracket_19 fl_M_258 (lv_89 _) ?_
  refine g_topi (show rI (sI (sI w 89 19 (nI 1)) 89 18 (nI f)) 89 19 = nI 1 by rw [rI_sI, upd_eq, if_neg (by decide), rI_sI, upd_eq, if_pos rfl]) ?_
  refine g_if_ne hX d_M_openBracket_22 (fun c1 => ?_) (fun h => absurd h (by decide))
  refine g_vret hX hF d_M_openBracket_41 (by omega) (by omega) ?_
  exact ⟨rfl, rfl⟩
theorem c_M_leafY {E : EV} {w : Mem} {t : List Nat} {f p : Nat} {c s : List (Nat × Nat)} {od : Nat} (h : RdP w t f p c s od) (hP : PileW c s) {a b : Nat} (hlt : c.length < 400) (hp : p < 50) : T E m_M_leaf 3 0 0 [.ref 89, .int (nI 1), .int (nI a), .int (nI b)] w (fun r w2 => r = none ∧ FrR w w2 ∧ RdP w2 t (nxT t f) (p + 1) (c ++ [(a, b)]) s od) := by
  refine T_of (L := [.ref 89, .int (nI 1), .int (nI a), .int (nI b)]) cf_M_leaf rfl (Nat.le_of_ble_eq_true rfl) (fun X hX hF => ?_)
  refine g_aload0 hX d_M_leaf_0 ?_
  refine g_iload1 hX d_M_leaf_1 ?_
  refine g_if_eq hX d_M_leaf_2 (fun h => absurd h (by decide)) (fun c0 => ?_)
  refine g_aload0 hX d_M_leaf_5 ?_
  refine g_getI hX d_M_leaf_6 fl_M_326 (lv_89 _) ?_
  refine g_topi h.2.1 ?_
  refine g_bipush (v := nI 50) hX d_M_leaf_9 rfl ?_
  refine g_icmpN_ge hX d_M_leaf_11 (by omega) (by omega) (fun h => absurd h (by omega)) (fun c1 => ?_)
  refine g_iconst (v := nI 1) hX d_M_leaf_14 rfl ?_
  refine g_goto hX d_M_leaf_15 ?_
  refine g_callV (As := [_]) hX hF.1 d_M_leaf_19 ml_M_291 cf_M_must cv_M_must rfl rfl (c_M_mustY h.1 h.2.2.2.2.2.1 rfl) (rcv_obj hX (lv_89 _) rfl rfl) (by omega) (by omega) (by omega) (Nat.le_of_ble_eq_true rfl) ?_
  rintro _ w2 ⟨rfl, hf, hT2⟩
  have h2 := h.tok hf hT2
  show G0 _ _ _ _ _ _ _ _
  refine g_aload0 hX d_M_leaf_22 ?_
  refine g_getZ hX d_M_leaf_23 fl_M_258 (lv_89 _) ?_
  refine g_topi h2.2.2.2.2.2.1 ?_
  refine g_if_ne hX d_M_leaf_26 (fun h => absurd (by decide) h) (fun c2 => ?_)
  refine g_aload0 hX d_M_leaf_29 ?_
  refine g_iload2 hX d_M_leaf_30 ?_
  refine g_iload3 hX d_M_leaf_31 ?_
  refine g_callV (As := [_, _]) hX hF.1 d_M_leaf_32 ml_M_304 cf_M_emit cv_M_emit rfl rfl (c_M_emit (m := c.length) h2.2.2.1.1 hlt) (rcv_obj hX (lv_89 _) rfl rfl) (by omega) (by omega) (by omega) (Nat.le_of_ble_eq_true rfl) ?_
  refine ret_k ?_
  refine g_aload0 hX d_M_leaf_35 ?_
  refine g_dup hX d_M_leaf_36 rfl ?_
  refine g_getI hX d_M_leaf_37 fl_M_326 (lv_89 _) ?_
  refine g_topi (RdP.emit (q := (a, b)) h2).2.1 ?_
  refine g_iconst (v := nI 1) hX d_M_leaf_40 rfl ?_
  refine g_iaddN hX d_M_leaf_41 ?_
  refine g_putI hX d_M_leaf_42 fl_M_326 (lv_89 _) ?_
  refine g_vret hX hF d_M_leaf_45 (by omega) (by omega) ?_
  exact ⟨rfl, ((((hf.R.I (by omega)).I (by omega)).I (by omega)).I (by omega)), (RdP.emit (q := (a, b)) h2).pts⟩
theorem c_M_leafN0 {E : EV} {w : Mem} {t : List Nat} {f p : Nat} {c s : List (Nat × Nat)} {od : Nat} (h : RdP w t f p c s od) (hP : PileW c s) {a b : Int32} : T E m_M_leaf 3 0 0 [.ref 89, .int (nI 0), .int a, .int b] w (Ret none (sI (sI w 89 19 (nI 1)) 89 18 (nI f))) := by
  refine T_of (L := [.ref 89, .int (nI 0), .int a, .int b]) cf_M_leaf rfl (Nat.le_of_ble_eq_true rfl) (fun X hX hF => ?_)
  refine g_aload0 hX d_M_leaf_0 ?_
  refine g_iload1 hX d_M_leaf_1 ?_
  refine g_if_eq hX d_M_leaf_2 (fun c0 => ?_) (fun h => absurd rfl h)
  refine g_iconst (v := nI 0) hX d_M_leaf_18 rfl ?_
  refine g_callV (As := [_]) hX hF.1 d_M_leaf_19 ml_M_291 cf_M_must cv_M_must rfl rfl (c_M_mustN h.1.2.1 h.2.2.2.2.2.1 rfl) (rcv_obj hX (lv_89 _) rfl rfl) (by omega) (by omega) (by omega) (Nat.le_of_ble_eq_true rfl) ?_
  refine ret_k ?_
  refine g_aload0 hX d_M_leaf_22 ?_
  refine g_getZ hX d_M_leaf_23 fl_M_258 (lv_89 _) ?_
  refine g_topi (show rI (sI (sI w 89 19 (nI 1)) 89 18 (nI f)) 89 19 = nI 1 by rw [rI_sI, upd_eq, if_neg (by decide), rI_sI, upd_eq, if_pos rfl]) ?_
  refine g_if_ne hX d_M_leaf_26 (fun c1 => ?_) (fun h => absurd h (by decide))
  refine g_vret hX hF d_M_leaf_45 (by omega) (by omega) ?_
  exact ⟨rfl, rfl⟩
theorem c_M_leafN1 {E : EV} {w : Mem} {t : List Nat} {f p : Nat} {c s : List (Nat × Nat)} {od : Nat} (h : RdP w t f p c s od) (hP : PileW c s) (hp : 50 ≤ p) (hp2 : p < 100) {a b : Int32} : T E m_M_leaf 3 0 0 [.ref 89, .int (nI 1), .int a, .int b] w (Ret none (sI (sI w 89 19 (nI 1)) 89 18 (nI f))) := by
  refine T_of (L := [.ref 89, .int (nI 1), .int a, .int b]) cf_M_leaf rfl (Nat.le_of_ble_eq_true rfl) (fun X hX hF => ?_)
  refine g_aload0 hX d_M_leaf_0 ?_
  refine g_iload1 hX d_M_leaf_1 ?_
  refine g_if_eq hX d_M_leaf_2 (fun h => absurd h (by decide)) (fun c0 => ?_)
  refine g_aload0 hX d_M_leaf_5 ?_
  refine g_getI hX d_M_leaf_6 fl_M_326 (lv_89 _) ?_
  refine g_topi h.2.1 ?_
  refine g_bipush (v := nI 50) hX d_M_leaf_9 rfl ?_
  refine g_icmpN_ge hX d_M_leaf_11 (by omega) (by omega) (fun c1 => ?_) (fun h => absurd h (by omega))
  refine g_iconst (v := nI 0) hX d_M_leaf_18 rfl ?_
  refine g_callV (As := [_]) hX hF.1 d_M_leaf_19 ml_M_291 cf_M_must cv_M_must rfl rfl (c_M_mustN h.1.2.1 h.2.2.2.2.2.1 rfl) (rcv_obj hX (lv_89 _) rfl rfl) (by omega) (by omega) (by omega) (Nat.le_of_ble_eq_true rfl) ?_
  refine ret_k ?_
  refine g_aload0 hX d_M_leaf_22 ?_
  refine g_getZ hX d_M_leaf_23 fl_M_258 (lv_89 _) ?_
  refine g_topi (show rI (sI (sI w 89 19 (nI 1)) 89 18 (nI f)) 89 19 = nI 1 by rw [rI_sI, upd_eq, if_neg (by decide), rI_sI, upd_eq, if_pos rfl]) ?_
  refine g_if_ne hX d_M_leaf_26 (fun c2 => ?_) (fun h => absurd h (by decide))
  refine g_vret hX hF d_M_leaf_45 (by omega) (by omega) ?_
  exact ⟨rfl, rfl⟩
