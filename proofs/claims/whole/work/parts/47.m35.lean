def m_M_setOfWay : MR := (⟨"SubgraphDeskModel", "setOfWay", "()I"⟩, prog_14_method_113_code, 3, (some .int))
theorem cf_M_setOfWay : CF m_M_setOfWay 0 := ⟨gd 2147 (by decide +kernel) rfl, gd 151 (by decide +kernel) rfl, by decide +kernel, by decide, by decide +kernel⟩
theorem cv_M_setOfWay : CV m_M_setOfWay := ⟨gd 2146 (by decide +kernel) rfl, gd 127 (by decide +kernel) rfl⟩
def m_M_sets : MR := (⟨"SubgraphDeskModel", "sets", "(I)I"⟩, prog_14_method_114_code, 7, (some .int))
theorem cf_M_sets : CF m_M_sets 1 := ⟨gd 2142 (by decide +kernel) rfl, gd 151 (by decide +kernel) rfl, by decide +kernel, by decide, by decide +kernel⟩
theorem cv_M_sets : CV m_M_sets := ⟨gd 2140 (by decide +kernel) rfl, gd 2141 (by decide +kernel) rfl⟩
def m_M_touched : MR := (⟨"SubgraphDeskModel", "touched", "()I"⟩, prog_14_method_115_code, 2, (some .int))
theorem cf_M_touched : CF m_M_touched 0 := ⟨gd 2151 (by decide +kernel) rfl, gd 151 (by decide +kernel) rfl, by decide +kernel, by decide, by decide +kernel⟩
theorem cv_M_touched : CV m_M_touched := ⟨gd 2149 (by decide +kernel) rfl, gd 2150 (by decide +kernel) rfl⟩
theorem d_M_setOfWay_0 : Dc prog_14_method_113_code 0 (.iconst 0) 1 1 := ⟨by decide +kernel, rfl⟩
theorem d_M_setOfWay_1 : Dc prog_14_method_113_code 1 (.istore_n 1) 1 2 := ⟨by decide +kernel, rfl⟩
theorem d_M_setOfWay_2 : Dc prog_14_method_113_code 2 (.iconst 0) 1 3 := ⟨by decide +kernel, rfl⟩
theorem d_M_setOfWay_3 : Dc prog_14_method_113_code 3 (.istore_n 2) 1 4 := ⟨by decide +kernel, rfl⟩
theorem d_M_setOfWay_4 : Dc prog_14_method_113_code 4 (.iload_n 2) 1 5 := ⟨by decide +kernel, rfl⟩
theorem d_M_setOfWay_5 : Dc prog_14_method_113_code 5 (.aload_n 0) 1 6 := ⟨by decide +kernel, rfl⟩
theorem d_M_setOfWay_6 : Dc prog_14_method_113_code 6 (.getfield 13) 3 9 := ⟨by decide +kernel, rfl⟩
theorem d_M_setOfWay_9 : Dc prog_14_method_113_code 9 (.iconst 1) 1 10 := ⟨by decide +kernel, rfl⟩
theorem d_M_setOfWay_10 : Dc prog_14_method_113_code 10 (.iaload) 1 11 := ⟨by decide +kernel, rfl⟩
theorem d_M_setOfWay_11 : Dj prog_14_method_113_code 11 (.if_icmp .ge 20) 14 20 31 := ⟨by decide +kernel, rfl, rfl⟩
theorem d_M_setOfWay_14 : Dc prog_14_method_113_code 14 (.iload_n 1) 1 15 := ⟨by decide +kernel, rfl⟩
theorem d_M_setOfWay_15 : Dc prog_14_method_113_code 15 (.iconst 1) 1 16 := ⟨by decide +kernel, rfl⟩
theorem d_M_setOfWay_16 : Dc prog_14_method_113_code 16 (.aload_n 0) 1 17 := ⟨by decide +kernel, rfl⟩
theorem d_M_setOfWay_17 : Dc prog_14_method_113_code 17 (.getfield 111) 3 20 := ⟨by decide +kernel, rfl⟩
theorem d_M_setOfWay_20 : Dc prog_14_method_113_code 20 (.iload_n 2) 1 21 := ⟨by decide +kernel, rfl⟩
theorem d_M_setOfWay_21 : Dc prog_14_method_113_code 21 (.iaload) 1 22 := ⟨by decide +kernel, rfl⟩
theorem d_M_setOfWay_22 : Dc prog_14_method_113_code 22 (.ishl) 1 23 := ⟨by decide +kernel, rfl⟩
theorem d_M_setOfWay_23 : Dc prog_14_method_113_code 23 (.ior) 1 24 := ⟨by decide +kernel, rfl⟩
theorem d_M_setOfWay_24 : Dc prog_14_method_113_code 24 (.istore_n 1) 1 25 := ⟨by decide +kernel, rfl⟩
theorem d_M_setOfWay_25 : Dc prog_14_method_113_code 25 (.iinc 2 1) 3 28 := ⟨by decide +kernel, rfl⟩
theorem d_M_setOfWay_28 : Dj prog_14_method_113_code 28 (.goto (-24)) 31 (-24) 4 := ⟨by decide +kernel, rfl, rfl⟩
theorem d_M_setOfWay_31 : Dc prog_14_method_113_code 31 (.iload_n 1) 1 32 := ⟨by decide +kernel, rfl⟩
theorem d_M_setOfWay_32 : Dc prog_14_method_113_code 32 (.ireturn) 1 33 := ⟨by decide +kernel, rfl⟩
theorem d_M_sets_0 : Dc prog_14_method_114_code 0 (.aload_n 0) 1 1 := ⟨by decide +kernel, rfl⟩
theorem d_M_sets_1 : Dc prog_14_method_114_code 1 (.iconst 0) 1 2 := ⟨by decide +kernel, rfl⟩
theorem d_M_sets_2 : Dc prog_14_method_114_code 2 (.putfield 170) 3 5 := ⟨by decide +kernel, rfl⟩
theorem d_M_sets_5 : Dc prog_14_method_114_code 5 (.iload_n 1) 1 6 := ⟨by decide +kernel, rfl⟩
theorem d_M_sets_6 : Dc prog_14_method_114_code 6 (.i2l) 1 7 := ⟨by decide +kernel, rfl⟩
theorem d_M_sets_7 : Dc prog_14_method_114_code 7 (.lconst 0) 1 8 := ⟨by decide +kernel, rfl⟩
theorem d_M_sets_8 : Dc prog_14_method_114_code 8 (.ldc2_w 547) 3 11 := ⟨by decide +kernel, rfl⟩
theorem d_M_sets_11 : Dc prog_14_method_114_code 11 (.invokestatic 190) 3 14 := ⟨by decide +kernel, rfl⟩
theorem d_M_sets_14 : Dj prog_14_method_114_code 14 (.ifCond .ne 5) 17 5 19 := ⟨by decide +kernel, rfl, rfl⟩
theorem d_M_sets_17 : Dc prog_14_method_114_code 17 (.iconst (-1)) 1 18 := ⟨by decide +kernel, rfl⟩
theorem d_M_sets_18 : Dc prog_14_method_114_code 18 (.ireturn) 1 19 := ⟨by decide +kernel, rfl⟩
theorem d_M_sets_19 : Dc prog_14_method_114_code 19 (.aload_n 0) 1 20 := ⟨by decide +kernel, rfl⟩
theorem d_M_sets_20 : Dc prog_14_method_114_code 20 (.invokevirtual 474) 3 23 := ⟨by decide +kernel, rfl⟩
theorem d_M_sets_23 : Dc prog_14_method_114_code 23 (.iconst 0) 1 24 := ⟨by decide +kernel, rfl⟩
theorem d_M_sets_24 : Dc prog_14_method_114_code 24 (.istore_n 2) 1 25 := ⟨by decide +kernel, rfl⟩
theorem d_M_sets_25 : Dc prog_14_method_114_code 25 (.iconst 0) 1 26 := ⟨by decide +kernel, rfl⟩
theorem d_M_sets_26 : Dc prog_14_method_114_code 26 (.istore_n 3) 1 27 := ⟨by decide +kernel, rfl⟩
theorem d_M_sets_27 : Dc prog_14_method_114_code 27 (.iload_n 3) 1 28 := ⟨by decide +kernel, rfl⟩
theorem d_M_sets_28 : Dc prog_14_method_114_code 28 (.iload_n 1) 1 29 := ⟨by decide +kernel, rfl⟩
theorem d_M_sets_29 : Dj prog_14_method_114_code 29 (.if_icmp .ge 80) 32 80 109 := ⟨by decide +kernel, rfl, rfl⟩
theorem d_M_sets_32 : Dc prog_14_method_114_code 32 (.aload_n 0) 1 33 := ⟨by decide +kernel, rfl⟩
theorem d_M_sets_33 : Dc prog_14_method_114_code 33 (.invokevirtual 477) 3 36 := ⟨by decide +kernel, rfl⟩
theorem d_M_sets_36 : Dj prog_14_method_114_code 36 (.ifCond .eq 73) 39 73 109 := ⟨by decide +kernel, rfl, rfl⟩
theorem d_M_sets_39 : Dc prog_14_method_114_code 39 (.aload_n 0) 1 40 := ⟨by decide +kernel, rfl⟩
theorem d_M_sets_40 : Dc prog_14_method_114_code 40 (.invokevirtual 549) 3 43 := ⟨by decide +kernel, rfl⟩
theorem d_M_sets_43 : Dc prog_14_method_114_code 43 (.istore 4) 2 45 := ⟨by decide +kernel, rfl⟩
theorem d_M_sets_45 : Dc prog_14_method_114_code 45 (.iconst 0) 1 46 := ⟨by decide +kernel, rfl⟩
theorem d_M_sets_46 : Dc prog_14_method_114_code 46 (.istore 5) 2 48 := ⟨by decide +kernel, rfl⟩
theorem d_M_sets_48 : Dc prog_14_method_114_code 48 (.iconst 0) 1 49 := ⟨by decide +kernel, rfl⟩
theorem d_M_sets_49 : Dc prog_14_method_114_code 49 (.istore 6) 2 51 := ⟨by decide +kernel, rfl⟩
theorem d_M_sets_51 : Dc prog_14_method_114_code 51 (.iload 6) 2 53 := ⟨by decide +kernel, rfl⟩
theorem d_M_sets_53 : Dc prog_14_method_114_code 53 (.iload_n 2) 1 54 := ⟨by decide +kernel, rfl⟩
theorem d_M_sets_54 : Dj prog_14_method_114_code 54 (.if_icmp .ge 33) 57 33 87 := ⟨by decide +kernel, rfl, rfl⟩
theorem d_M_sets_57 : Dc prog_14_method_114_code 57 (.iload 5) 2 59 := ⟨by decide +kernel, rfl⟩
theorem d_M_sets_59 : Dj prog_14_method_114_code 59 (.ifCond .ne 15) 62 15 74 := ⟨by decide +kernel, rfl, rfl⟩
theorem d_M_sets_62 : Dc prog_14_method_114_code 62 (.aload_n 0) 1 63 := ⟨by decide +kernel, rfl⟩
theorem d_M_sets_63 : Dc prog_14_method_114_code 63 (.getfield 138) 3 66 := ⟨by decide +kernel, rfl⟩
theorem d_M_sets_66 : Dc prog_14_method_114_code 66 (.iload 6) 2 68 := ⟨by decide +kernel, rfl⟩
theorem d_M_sets_68 : Dc prog_14_method_114_code 68 (.iaload) 1 69 := ⟨by decide +kernel, rfl⟩
theorem d_M_sets_69 : Dc prog_14_method_114_code 69 (.iload 4) 2 71 := ⟨by decide +kernel, rfl⟩
theorem d_M_sets_71 : Dj prog_14_method_114_code 71 (.if_icmp .ne 7) 74 7 78 := ⟨by decide +kernel, rfl, rfl⟩
theorem d_M_sets_74 : Dc prog_14_method_114_code 74 (.iconst 1) 1 75 := ⟨by decide +kernel, rfl⟩
theorem d_M_sets_75 : Dj prog_14_method_114_code 75 (.goto 4) 78 4 79 := ⟨by decide +kernel, rfl, rfl⟩
theorem d_M_sets_78 : Dc prog_14_method_114_code 78 (.iconst 0) 1 79 := ⟨by decide +kernel, rfl⟩
theorem d_M_sets_79 : Dc prog_14_method_114_code 79 (.istore 5) 2 81 := ⟨by decide +kernel, rfl⟩
theorem d_M_sets_81 : Dc prog_14_method_114_code 81 (.iinc 6 1) 3 84 := ⟨by decide +kernel, rfl⟩
theorem d_M_sets_84 : Dj prog_14_method_114_code 84 (.goto (-33)) 87 (-33) 51 := ⟨by decide +kernel, rfl, rfl⟩
theorem d_M_sets_87 : Dc prog_14_method_114_code 87 (.iload 5) 2 89 := ⟨by decide +kernel, rfl⟩
theorem d_M_sets_89 : Dj prog_14_method_114_code 89 (.ifCond .ne 14) 92 14 103 := ⟨by decide +kernel, rfl, rfl⟩
theorem d_M_sets_92 : Dc prog_14_method_114_code 92 (.aload_n 0) 1 93 := ⟨by decide +kernel, rfl⟩
theorem d_M_sets_93 : Dc prog_14_method_114_code 93 (.getfield 138) 3 96 := ⟨by decide +kernel, rfl⟩
theorem d_M_sets_96 : Dc prog_14_method_114_code 96 (.iload_n 2) 1 97 := ⟨by decide +kernel, rfl⟩
theorem d_M_sets_97 : Dc prog_14_method_114_code 97 (.iload 4) 2 99 := ⟨by decide +kernel, rfl⟩
theorem d_M_sets_99 : Dc prog_14_method_114_code 99 (.iastore) 1 100 := ⟨by decide +kernel, rfl⟩
theorem d_M_sets_100 : Dc prog_14_method_114_code 100 (.iinc 2 1) 3 103 := ⟨by decide +kernel, rfl⟩
theorem d_M_sets_103 : Dc prog_14_method_114_code 103 (.iinc 3 1) 3 106 := ⟨by decide +kernel, rfl⟩
theorem d_M_sets_106 : Dj prog_14_method_114_code 106 (.goto (-79)) 109 (-79) 27 := ⟨by decide +kernel, rfl, rfl⟩
theorem d_M_sets_109 : Dc prog_14_method_114_code 109 (.iload_n 2) 1 110 := ⟨by decide +kernel, rfl⟩
theorem d_M_sets_110 : Dc prog_14_method_114_code 110 (.ireturn) 1 111 := ⟨by decide +kernel, rfl⟩
theorem d_M_touched_0 : Dc prog_14_method_115_code 0 (.aload_n 0) 1 1 := ⟨by decide +kernel, rfl⟩
theorem d_M_touched_1 : Dc prog_14_method_115_code 1 (.iconst 0) 1 2 := ⟨by decide +kernel, rfl⟩
theorem d_M_touched_2 : Dc prog_14_method_115_code 2 (.putfield 170) 3 5 := ⟨by decide +kernel, rfl⟩
theorem d_M_touched_5 : Dc prog_14_method_115_code 5 (.iconst 0) 1 6 := ⟨by decide +kernel, rfl⟩
theorem d_M_touched_6 : Dc prog_14_method_115_code 6 (.istore_n 1) 1 7 := ⟨by decide +kernel, rfl⟩
theorem d_M_touched_7 : Dc prog_14_method_115_code 7 (.aload_n 0) 1 8 := ⟨by decide +kernel, rfl⟩
theorem d_M_touched_8 : Dc prog_14_method_115_code 8 (.invokevirtual 474) 3 11 := ⟨by decide +kernel, rfl⟩
theorem d_M_touched_11 : Dc prog_14_method_115_code 11 (.aload_n 0) 1 12 := ⟨by decide +kernel, rfl⟩
theorem d_M_touched_12 : Dc prog_14_method_115_code 12 (.invokevirtual 477) 3 15 := ⟨by decide +kernel, rfl⟩
theorem d_M_touched_15 : Dj prog_14_method_115_code 15 (.ifCond .eq 13) 18 13 28 := ⟨by decide +kernel, rfl, rfl⟩
theorem d_M_touched_18 : Dc prog_14_method_115_code 18 (.iload_n 1) 1 19 := ⟨by decide +kernel, rfl⟩
theorem d_M_touched_19 : Dc prog_14_method_115_code 19 (.aload_n 0) 1 20 := ⟨by decide +kernel, rfl⟩
theorem d_M_touched_20 : Dc prog_14_method_115_code 20 (.invokevirtual 549) 3 23 := ⟨by decide +kernel, rfl⟩
theorem d_M_touched_23 : Dc prog_14_method_115_code 23 (.ior) 1 24 := ⟨by decide +kernel, rfl⟩
theorem d_M_touched_24 : Dc prog_14_method_115_code 24 (.istore_n 1) 1 25 := ⟨by decide +kernel, rfl⟩
theorem d_M_touched_25 : Dj prog_14_method_115_code 25 (.goto (-14)) 28 (-14) 11 := ⟨by decide +kernel, rfl, rfl⟩
theorem d_M_touched_28 : Dc prog_14_method_115_code 28 (.iload_n 1) 1 29 := ⟨by decide +kernel, rfl⟩
theorem d_M_touched_29 : Dc prog_14_method_115_code 29 (.ireturn) 1 30 := ⟨by decide +kernel, rfl⟩
theorem fl_M_138 : FL "SubgraphDeskModel" 138 12 57 true (.array .int) (3, 33) := ⟨R_M, F_M, 69, ty_M, rfl, rfl, in_M, tyok_M, nm_M, by decide, gd 1529 (by decide +kernel) rfl, rfl, rfl, rfl⟩
theorem ml_M_549 : Cond.methodLink "SubgraphDeskModel" 549 m_M_setOfWay.1 ∈ lw_gd := gd 2144 (by decide +kernel) rfl
/-- the nodes on which a way lies, as bits -/
def setN (q : List Nat) : Nat → Nat
  | 0 => 0
  | v + 1 => setN q v ||| 1 <<< (gA q v)
def touchedB (g : GC) : Nat := (waysL g).foldl (fun s q => s ||| setN q (gV g)) 0
def addS (l : List Nat) (x : Nat) : List Nat := if x ∈ l then l else l ++ [x]
def setsG (g : GC) (n : Nat) : List Nat := ((waysL g).take n).foldl (fun l q => addS l (setN q (gV g))) []
def opTouched (g : GC) : Int32 := nI (touchedB g)
noncomputable def opSets (n : Int32) (g : GC) : Int32 := by
  classical
  exact if inN n 61 then nI (setsG g (tn n)).length else -1
def metN (l : List Nat) (x : Nat) : Nat → Bool
  | 0 => false
  | i + 1 => metN l x i || decide (gA l i = x)
theorem met_a {l : List Nat} {x i : Nat} (h : metN l x i = true) : nI 1 = b2i (metN l x (i + 1) = true) := by
  rw [b2i_t (by unfold metN; rw [h]; rfl)]; rfl
theorem met_b {l : List Nat} {x i : Nat} (h : gA l i = x) : nI 1 = b2i (metN l x (i + 1) = true) := by
  rw [b2i_t (by unfold metN; simp [h])]; rfl
theorem met_c {l : List Nat} {x i : Nat} (h : ¬ metN l x i = true) (h2 : ¬ gA l i = x) : nI 0 = b2i (metN l x (i + 1) = true) := by
  rw [b2i_f (by unfold metN; simp [h, h2])]; rfl
theorem met_iff {l : List Nat} {x : Nat} : ∀ i, i ≤ l.length → (metN l x i = true ↔ ∃ j, j < i ∧ gA l j = x)
  | 0, _ => by unfold metN; simp
  | i + 1, h => by
    unfold metN
    rw [Bool.or_eq_true, met_iff i (by omega), decide_eq_true_iff]
    constructor
    · rintro (⟨j, h1, h2⟩ | h2)
      · exact ⟨j, by omega, h2⟩
      · exact ⟨i, by omega, h2⟩
    · rintro ⟨j, h1, h2⟩
      by_cases e : j = i
      · exact Or.inr (e ▸ h2)
      · exact Or.inl ⟨j, by omega, h2⟩
theorem met_mem {l : List Nat} {x : Nat} : metN l x l.length = true ↔ x ∈ l := by
  rw [met_iff _ (Nat.le_refl _)]
  constructor
  · rintro ⟨j, h1, h2⟩
    rw [← h2]; exact gA_mem h1
  · intro h
    obtain ⟨j, h1, h2⟩ := mem_gA h
    exact ⟨j, h1, h2⟩
theorem setN_lt {q : List Nat} {N : Nat} (hN : N ≤ 12) (hq : ∀ n ∈ q, n < N) : ∀ v, v ≤ q.length → setN q v < 2 ^ 12
  | 0, _ => by unfold setN; decide
  | v + 1, h => by
    unfold setN
    exact or_lt (setN_lt hN hq v (by omega)) (shl_lt (by have := hq _ (gA_mem (show v < q.length by omega)); omega))
theorem foldl_take {α β : Type} (f : β → α → β) (b : β) {l : List α} {k : Nat} {x : α} {t : List α} (h : l.drop k = x :: t) : (l.take (k + 1)).foldl f b = f ((l.take k).foldl f b) x := by
  have hx : l[k]? = some x := by rw [← List.head?_drop, h]; rfl
  rw [List.take_add_one, hx, List.foldl_append]
  rfl
theorem met_l {k n x i m : Nat} {a b : Int32} (h : a = b) : ([.ref 89, .int (nI n), .int (nI m), .int (nI k), .int (nI x), .int a, .int (nI (i + 1))] : List Value) = [.ref 89, .int (nI n), .int (nI m), .int (nI k), .int (nI x), .int b, .int (nI (i + 1))] := by rw [h]
theorem c_M_setOfWay {E : EV} {w : Mem} {g : GC} {q : List Nat} (hR : MRow (rI w 91) g) (hW : WG g) (hLie : LieP w q) (hql : q.length = gV g) (hqn : ∀ n ∈ q, n < gN g) : T E m_M_setOfWay 0 0 0 [.ref 89] w (Ret (some (.int (nI (setN q (gV g))))) w) := by
  refine T_of (L := [.ref 89, un, un]) cf_M_setOfWay rfl (Nat.le_of_ble_eq_true rfl) (fun X hX hF => ?_)
  have hgn := hW.n
  have hgv := hW.v
  have lp : ∀ (fuel : Nat) (v : Nat), gV g - v < fuel → (v ≤ gV g) → G0 E X 0 0 4 [.ref 89, .int (nI (setN q v)), .int (nI v)] [] w := by
    intro fuel
    induction fuel with
    | zero => intro v q0; exact absurd q0 (Nat.not_lt_zero _)
    | succ fuel ih =>
      intro v q0 q1
      refine g_iload2 hX d_M_setOfWay_4 ?_
      refine g_aload0 hX d_M_setOfWay_5 ?_
      refine g_getF hX d_M_setOfWay_6 fl_M_13 (lv_89 _) ?_
      refine g_iconst (v := nI 1) hX d_M_setOfWay_9 rfl ?_
      refine g_iald hX d_M_setOfWay_10 (lv_91 _) rfl (by decide) ?_
      refine g_topi hR.v ?_
      refine g_icmpN_ge hX d_M_setOfWay_11 (by omega) (by omega) (fun c0 => ?_) (fun c0 => ?_)
      · refine g_iload1 hX d_M_setOfWay_31 ?_
        refine g_iret hX hF d_M_setOfWay_32 (by omega) (by omega) ?_
        exact ⟨by rw [show v = gV g by omega], rfl⟩
      · have hqv : gA q v < gN g := hqn _ (gA_mem (by omega))
        refine g_iload1 hX d_M_setOfWay_14 ?_
        refine g_iconst (v := nI 1) hX d_M_setOfWay_15 rfl ?_
        refine g_aload0 hX d_M_setOfWay_16 ?_
        refine g_getF hX d_M_setOfWay_17 fl_M_111 (lv_89 _) ?_
        refine g_iload2 hX d_M_setOfWay_20 ?_
        refine g_iald hX d_M_setOfWay_21 (lv_113 _) rfl (by omega) ?_
        refine g_topi (hLie v (by omega)) ?_
        refine g_ishlN hX d_M_setOfWay_22 (by omega) ?_
        refine g_iorN hX d_M_setOfWay_23 ?_
        refine g_istore1 hX d_M_setOfWay_24 rfl (by decide) ?_
        refine g_iincN2 hX d_M_setOfWay_25 rfl (by decide) ?_
        refine g_goto hX d_M_setOfWay_28 ?_
        exact ih (v + 1) (by omega) (by omega)
  refine g_iconst (v := nI 0) hX d_M_setOfWay_0 rfl ?_
  refine g_istore1 hX d_M_setOfWay_1 rfl (by decide) ?_
  refine g_iconst (v := nI 0) hX d_M_setOfWay_2 rfl ?_
  refine g_istore2 hX d_M_setOfWay_3 rfl (by decide) ?_
  exact lp (gV g + 1) 0 (by omega) (Nat.zero_le _)
theorem c_M_touched {E : EV} {w : Mem} {s : SG} (h : MInv w s) : T E m_M_touched 8 0 0 [.ref 89] w (fun r w2 => r = some (.int (opTouched (sG s))) ∧ MInv w2 s ∧ FrM w w2) := by
  refine T_of (L := [.ref 89, un]) cf_M_touched rfl (Nat.le_of_ble_eq_true rfl) (fun X hX hF => ?_)
  obtain ⟨⟨hR, hL, hW⟩, hU, hT, hI, hRf, hSt, hFa, hSm, hSp, hDr, hOr⟩ := id h
  have hn := hW.n
  have hv := hW.v
  have he := hW.el
  have hMG0 : MG w (sG s) := ⟨hR, hL, hOr⟩
  have lp : ∀ (fuel : Nat) (ws : List (List Nat)) (b : Nat) (wk : Mem), ws.length < fuel → (Scr w wk) → (Laid wk (sG s)) → (ItW wk (sG s) ws) → (ws.foldl (fun s0 q => s0 ||| setN q (gV (sG s))) b = touchedB (sG s)) → G0 E X 0 0 11 [.ref 89, .int (nI b)] [] wk := by
    intro fuel
    induction fuel with
    | zero => intro ws b wk q0; exact absurd q0 (Nat.not_lt_zero _)
    | succ fuel ih =>
      intro ws b wk q0 q1 q2 q3 q4
      refine g_aload0 hX d_M_touched_11 ?_
      refine g_callV (As := []) hX hF.1 d_M_touched_12 ml_M_477 cf_M_isWay cv_M_isWay rfl rfl (c_M_isWay (hMG0.scr q1) hW q2 q3) (rcv_obj hX (lv_89 _) rfl rfl) (by omega) (by omega) (by omega) (Nat.le_of_ble_eq_true rfl) ?_
      rintro _ w2 ⟨hf, hp⟩
      obtain ⟨x, rfl, hx⟩ := hp.c
      show G0 _ _ _ _ _ _ _ _
      refine g_if_eq hX d_M_touched_15 (fun e15 => ?_) (fun e15 => ?_)
      · have e_ : ws = [] := by
          rcases hx with hx | hx
          · exact hx.2
          · exact absurd (hx.1.symm.trans e15) (by decide)
        refine g_iload1 hX d_M_touched_28 ?_
        refine g_iret hX hF d_M_touched_29 (by omega) (by omega) ?_
        have hb : b = touchedB (sG s) := by rw [← q4, e_]; rfl
        exact ⟨by rw [hb]; rfl, h.keep (q1.tr hf.S), (q1.tr hf.S).1⟩
      · obtain ⟨q, t, hqt, ql, qn, qL, qI⟩ : ∃ q t, ws = q :: t ∧ q.length = gV (sG s) ∧ (∀ n ∈ q, n < gN (sG s)) ∧ LieP w2 q ∧ ItW w2 (sG s) t := by
          rcases hx with hx | hx
          · exact absurd hx.1 e15
          · exact hx.2
        have hl : ws.length = t.length + 1 := by rw [hqt]; rfl
        refine g_iload1 hX d_M_touched_18 ?_
        refine g_aload0 hX d_M_touched_19 ?_
        refine g_callV (As := []) hX hF.1 d_M_touched_20 ml_M_549 cf_M_setOfWay cv_M_setOfWay rfl rfl (c_M_setOfWay (g := sG s) (q := q) (hMG0.scr (q1.tr hf.S)).1 hW qL ql qn) (rcv_obj hX (lv_89 _) rfl rfl) (by omega) (by omega) (by omega) (Nat.le_of_ble_eq_true rfl) ?_
        refine ret_k ?_
        refine g_iorN hX d_M_touched_23 ?_
        refine g_istore1 hX d_M_touched_24 rfl (by decide) ?_
        refine g_goto hX d_M_touched_25 ?_
        refine ih t _ w2 (by omega) (q1.tr hf.S) (q2.I hf) qI ?_
        rw [← q4, hqt, List.foldl_cons]
  refine g_aload0 hX d_M_touched_0 ?_
  refine g_iconst (v := nI 0) hX d_M_touched_1 rfl ?_
  refine g_putI hX d_M_touched_2 fl_M_170 (lv_89 _) ?_
  refine g_iconst (v := nI 0) hX d_M_touched_5 rfl ?_
  refine g_istore1 hX d_M_touched_6 rfl (by decide) ?_
  have hMG : MG (sI w 89 0 (nI 0)) (sG s) := ⟨hR, hL, hOr⟩
  have hS0 : Scr w (sI w 89 0 (nI 0)) := (by repeat (first | exact Scr.rf _ | refine Scr.I9 (by decide) ?_ | refine Scr.I (by decide) ?_ | refine Scr.A (by decide) ?_ | refine Scr.J9 ?_ | refine Scr.J (by decide) ?_ | refine Scr.B (by decide) ?_))
  refine g_aload0 hX d_M_touched_7 ?_
  refine g_callV (As := []) hX hF.1 d_M_touched_8 ml_M_474 cf_M_beginWays cv_M_beginWays rfl rfl (c_M_beginWays (w := sI w 89 0 (nI 0)) hMG hW) (rcv_obj hX (lv_89 _) rfl rfl) (by omega) (by omega) (by omega) (Nat.le_of_ble_eq_true rfl) ?_
  rintro _ w1 ⟨rfl, hS, hLd, hIt⟩
  show G0 _ _ _ _ _ _ _ _
  exact lp _ (waysL (sG s)) 0 w1 (Nat.lt_succ_self _) (hS0.tr hS) hLd hIt rfl
theorem sets_ok {n : Nat} {g : GC} (h : n < 61) : opSets (nI n) g = nI (setsG g n).length := by
  unfold opSets
  refine (if_pos (inN_nI h (by decide))).trans ?_
  rw [tn_nI (by omega)]
theorem sets_no {n : Int32} {g : GC} (h : ¬ inN n 61) : opSets n g = -1 := by unfold opSets; exact if_neg h
theorem Laid.o {w : Mem} {g : GC} {o k : Nat} {x : Int32} (h1 : o ≠ 110) (h2 : o ≠ 111) (h3 : o ≠ 112) (h : Laid w g) : Laid (sI w o k x) g := by
  unfold Laid NearP MayP CostP
  rw [rI_sI_ne _ _ _ (Ne.symm h1), rI_sI_ne _ _ _ (Ne.symm h2), rI_sI_ne _ _ _ (Ne.symm h3)]
  exact h
theorem ItW.o {w : Mem} {g : GC} {ws : List (List Nat)} {o k : Nat} {x : Int32} (h1 : o ≠ 89) (h2 : o ≠ 113) (h : ItW w g ws) : ItW (sI w o k x) g ws := by
  unfold ItW LieP
  rw [rI_sI_ne _ _ _ (Ne.symm h1), rI_sI_ne _ _ _ (Ne.symm h2)]
  exact h
theorem c_M_sets {E : EV} {w : Mem} {n : Int32} {s : SG} (h : MInv w s) : T E m_M_sets 8 0 0 [.ref 89, .int n] w (fun r w2 => r = some (.int (opSets n (sG s))) ∧ MInv w2 s ∧ FrM w w2) := by
  refine T_of (L := [.ref 89, .int n, un, un, un, un, un]) cf_M_sets rfl (Nat.le_of_ble_eq_true rfl) (fun X hX hF => ?_)
  obtain ⟨⟨hR, hL, hW⟩, hU, hT, hI, hRf, hSt, hFa, hSm, hSp, hDr, hOr⟩ := id h
  have hn := hW.n
  have hv := hW.v
  have he := hW.el
  have hMG0 : MG w (sG s) := ⟨hR, hL, hOr⟩
  
  refine g_aload0 hX d_M_sets_0 ?_
  refine g_iconst (v := nI 0) hX d_M_sets_1 rfl ?_
  refine g_putI hX d_M_sets_2 fl_M_170 (lv_89 _) ?_
  refine g_iload1 hX d_M_sets_5 ?_
  refine g_i2l hX d_M_sets_6 ?_
  refine g_lconst (v := lN 0) hX d_M_sets_7 rfl ?_
  refine g_ldc2 (v := lN 60) hX d_M_sets_8 k_M_547 rfl ?_
  refine g_callS (As := [_, _, _]) hX hF.1 d_M_sets_11 ml_M_190 cf_M_in cs_M_in rfl (c_M_in) (by omega) (by omega) (by omega) (Nat.le_of_ble_eq_true rfl) ?_
  refine ret_k ?_
  refine g_ifB_ne hX d_M_sets_14 (fun e14 => ?_) (fun e14 => ?_)
  · obtain ⟨n, hn61, rfl, htn⟩ := inN_of ((in_le (by decide)).mp e14) (by decide)
    have hMG : MG (sI w 89 0 (nI 0)) (sG s) := ⟨hR, hL, hOr⟩
    have hS0 : Scr w (sI w 89 0 (nI 0)) := (by repeat (first | exact Scr.rf _ | refine Scr.I9 (by decide) ?_ | refine Scr.I (by decide) ?_ | refine Scr.A (by decide) ?_ | refine Scr.J9 ?_ | refine Scr.J (by decide) ?_ | refine Scr.B (by decide) ?_))
    have lpW : ∀ (fuel : Nat) (k : Nat) (ws : List (List Nat)) (l : List Nat) (wk : Mem), n - k < fuel → (Scr w wk) → (Laid wk (sG s)) → (ItW wk (sG s) ws) → ((waysL (sG s)).drop k = ws) → (l = ((waysL (sG s)).take k).foldl (fun l q => addS l (setN q (gV (sG s)))) []) → (∀ j, j < l.length → rI wk 122 j = nI (gA l j)) → (l.length ≤ k) → (k ≤ n) → (∀ x ∈ l, x < 2 ^ 12) → G0 E X 0 0 27 [.ref 89, .int (nI n), .int (nI l.length), .int (nI k), un, un, un] [] wk := by
      intro fuel
      induction fuel with
      | zero => intro k ws l wk q0; exact absurd q0 (Nat.not_lt_zero _)
      | succ fuel ih =>
        intro k ws l wk q0 q1 q2 q3 q4 q5 q6 q7 q8 q9
        refine g_iload3 hX d_M_sets_27 ?_
        refine g_iload1 hX d_M_sets_28 ?_
        refine g_icmpN_ge hX d_M_sets_29 (by omega) (by omega) (fun e29 => ?_) (fun e29 => ?_)
        · refine g_iload2 hX d_M_sets_109 ?_
          refine g_iret hX hF d_M_sets_110 (by omega) (by omega) ?_
          exact ⟨by rw [sets_ok hn61, setsG, show n = k by omega, ← q5], h.keep q1, q1.1⟩
        · refine g_aload0 hX d_M_sets_32 ?_
          refine g_callV (As := []) hX hF.1 d_M_sets_33 ml_M_477 cf_M_isWay cv_M_isWay rfl rfl (c_M_isWay (hMG0.scr q1) hW q2 q3) (rcv_obj hX (lv_89 _) rfl rfl) (by omega) (by omega) (by omega) (Nat.le_of_ble_eq_true rfl) ?_
          rintro _ w2 ⟨hf, hp⟩
          obtain ⟨x, rfl, hx⟩ := hp.c
          show G0 _ _ _ _ _ _ _ _
          refine g_if_eq hX d_M_sets_36 (fun e36 => ?_) (fun e36 => ?_)
          · have e_ : ws = [] := by
              rcases hx with hx | hx
              · exact hx.2
              · exact absurd (hx.1.symm.trans e36) (by decide)
            refine g_iload2 hX d_M_sets_109 ?_
            refine g_iret hX hF d_M_sets_110 (by omega) (by omega) ?_
            have hwl : (waysL (sG s)).length ≤ k := by
              have := congrArg List.length (q4.trans e_)
              rw [List.length_drop] at this
              have h0 : ([] : List (List Nat)).length = 0 := rfl
              omega
            exact ⟨by rw [sets_ok hn61, setsG, List.take_of_length_le (show (waysL (sG s)).length ≤ n by omega), q5, List.take_of_length_le hwl], h.keep (q1.tr hf.S), (q1.tr hf.S).1⟩
          · obtain ⟨q, t, hqt, ql, qn, qL, qI⟩ : ∃ q t, ws = q :: t ∧ q.length = gV (sG s) ∧ (∀ n ∈ q, n < gN (sG s)) ∧ LieP w2 q ∧ ItW w2 (sG s) t := by
              rcases hx with hx | hx
              · exact absurd hx.1 e36
              · exact hx.2
            have hl : ws.length = t.length + 1 := by rw [hqt]; rfl
            have hS2 := q1.tr hf.S
            have q2' := q2
            have q4' := q4
            have q5' := q5
            have ihW := ih
            have hP : ∀ j, j < l.length → rI w2 122 j = nI (gA l j) := fun j hj => by rw [hf.1 122 (by decide) (by decide)]; exact q6 j hj
            have hsx := setN_lt hn qn _ (Nat.le_of_eq ql.symm)
            have lpI : ∀ (fuel : Nat) (i : Nat), l.length - i < fuel → (i ≤ l.length) → G0 E X 0 0 51 [.ref 89, .int (nI n), .int (nI l.length), .int (nI k), .int (nI (setN q (gV (sG s)))), .int (b2i (metN l (setN q (gV (sG s))) i = true)), .int (nI i)] [] w2 := by
              intro fuel
              induction fuel with
              | zero => intro i q0; exact absurd q0 (Nat.not_lt_zero _)
              | succ fuel ih =>
                intro i q0 q1
                refine g_iload6 hX d_M_sets_51 ?_
                refine g_iload2 hX d_M_sets_53 ?_
                refine g_icmpN_ge hX d_M_sets_54 (by omega) (by omega) (fun c0 => ?_) (fun c0 => ?_)
                · refine g_iload5 hX d_M_sets_87 ?_
                  have hil : i = l.length := by omega
                  rw [hil]
                  refine g_ifB_ne hX d_M_sets_89 (fun e89 => ?_) (fun e89 => ?_)
                  · refine g_iincN3 hX d_M_sets_103 rfl (by decide) ?_
                    refine g_goto hX d_M_sets_106 ?_
                    refine g_fget 4 ?_
                    refine g_fget 5 ?_
                    refine g_fget 6 ?_
                    refine ihW (k + 1) t l w2 (by omega) hS2 (q2'.I hf) qI (by rw [← List.drop_drop, q4', hqt]; rfl) ?_ hP (by omega) (by omega) q9
                    rw [foldl_take _ _ (q4'.trans hqt), ← q5']
                    exact (if_pos (met_mem.mp e89)).symm
                  · refine g_aload0 hX d_M_sets_92 ?_
                    refine g_getF hX d_M_sets_93 fl_M_138 (lv_89 _) ?_
                    refine g_iload2 hX d_M_sets_96 ?_
                    refine g_iload4 hX d_M_sets_97 ?_
                    refine g_iast hX d_M_sets_99 (lv_122 _) rfl (by omega) ?_
                    refine g_iincN2 hX d_M_sets_100 rfl (by decide) ?_
                    refine g_iincN3 hX d_M_sets_103 rfl (by decide) ?_
                    refine g_goto hX d_M_sets_106 ?_
                    refine g_fget 4 ?_
                    refine g_fget 5 ?_
                    refine g_fget 6 ?_
                    have hnm : setN q (gV (sG s)) ∉ l := fun z => e89 (met_mem.mpr z)
                    refine g_loc (show _ = [.ref 89, .int (nI n), .int (nI (l ++ [setN q (gV (sG s))]).length), .int (nI (k + 1)), un, un, un] by rw [List.length_append]; rfl) ?_
                    refine ihW (k + 1) t (l ++ [setN q (gV (sG s))]) _ (by omega) (hS2.I (by decide)) ?_ (qI.o (by decide) (by decide)) (by rw [← List.drop_drop, q4', hqt]; rfl) ?_ ?_ ?_ (by omega) ?_
                    · exact ((q2'.I hf).o (by decide) (by decide) (by decide))
                    · rw [foldl_take _ _ (q4'.trans hqt), ← q5']
                      exact (if_neg hnm).symm
                    · intro j hj
                      rw [List.length_append, List.length_singleton] at hj
                      rw [rI_sI, upd_eq]
                      by_cases e : j = l.length
                      · rw [if_pos e, e, gA_snoc]
                      · rw [if_neg e, gA_snoc_l (by omega)]; exact hP j (by omega)
                    · rw [List.length_append, List.length_singleton]; omega
                    · intro x hx
                      rw [List.mem_append, List.mem_singleton] at hx
                      rcases hx with hx | hx
                      · exact q9 x hx
                      · rw [hx]; exact hsx
                · have hxi : gA l i < 2 ^ 12 := q9 _ (gA_mem (by omega))
                  refine g_iload5 hX d_M_sets_57 ?_
                  refine g_ifB_ne hX d_M_sets_59 (fun e59 => ?_) (fun e59 => ?_)
                  · refine g_iconst (v := nI 1) hX d_M_sets_74 rfl ?_
                    refine g_goto hX d_M_sets_75 ?_
                    refine g_istore5 hX d_M_sets_79 rfl (by decide) ?_
                    refine g_iincN6 hX d_M_sets_81 rfl (by decide) ?_
                    refine g_goto hX d_M_sets_84 ?_
                    refine g_loc (met_l (met_a e59)) ?_
                    exact ih (i + 1) (by omega) (by omega)
                  · refine g_aload0 hX d_M_sets_62 ?_
                    refine g_getF hX d_M_sets_63 fl_M_138 (lv_89 _) ?_
                    refine g_iload6 hX d_M_sets_66 ?_
                    refine g_iald hX d_M_sets_68 (lv_122 _) rfl (by omega) ?_
                    refine g_topi (hP i (by omega)) ?_
                    refine g_iload4 hX d_M_sets_69 ?_
                    refine g_icmpN_ne hX d_M_sets_71 (by omega) (by omega) (fun e71 => ?_) (fun e71 => ?_)
                    · refine g_iconst (v := nI 0) hX d_M_sets_78 rfl ?_
                      refine g_istore5 hX d_M_sets_79 rfl (by decide) ?_
                      refine g_iincN6 hX d_M_sets_81 rfl (by decide) ?_
                      refine g_goto hX d_M_sets_84 ?_
                      refine g_loc (met_l (met_c e59 e71)) ?_
                      exact ih (i + 1) (by omega) (by omega)
                    · refine g_iconst (v := nI 1) hX d_M_sets_74 rfl ?_
                      refine g_goto hX d_M_sets_75 ?_
                      refine g_istore5 hX d_M_sets_79 rfl (by decide) ?_
                      refine g_iincN6 hX d_M_sets_81 rfl (by decide) ?_
                      refine g_goto hX d_M_sets_84 ?_
                      refine g_loc (met_l (met_b e71)) ?_
                      exact ih (i + 1) (by omega) (by omega)
            refine g_aload0 hX d_M_sets_39 ?_
            refine g_callV (As := []) hX hF.1 d_M_sets_40 ml_M_549 cf_M_setOfWay cv_M_setOfWay rfl rfl (c_M_setOfWay (g := sG s) (q := q) (hMG0.scr (q1.tr hf.S)).1 hW qL ql qn) (rcv_obj hX (lv_89 _) rfl rfl) (by omega) (by omega) (by omega) (Nat.le_of_ble_eq_true rfl) ?_
            refine ret_k ?_
            refine g_istore4 hX d_M_sets_43 rfl (by decide) ?_
            refine g_iconst (v := nI 0) hX d_M_sets_45 rfl ?_
            refine g_istore5 hX d_M_sets_46 rfl (by decide) ?_
            refine g_iconst (v := nI 0) hX d_M_sets_48 rfl ?_
            refine g_istore6 hX d_M_sets_49 rfl (by decide) ?_
            refine lpI (l.length + 1) 0 (by omega) (Nat.zero_le _)
    refine g_aload0 hX d_M_sets_19 ?_
    refine g_callV (As := []) hX hF.1 d_M_sets_20 ml_M_474 cf_M_beginWays cv_M_beginWays rfl rfl (c_M_beginWays (w := sI w 89 0 (nI 0)) hMG hW) (rcv_obj hX (lv_89 _) rfl rfl) (by omega) (by omega) (by omega) (Nat.le_of_ble_eq_true rfl) ?_
    rintro _ w1 ⟨rfl, hS, hLd, hIt⟩
    show G0 _ _ _ _ _ _ _ _
    refine g_iconst (v := nI 0) hX d_M_sets_23 rfl ?_
    refine g_istore2 hX d_M_sets_24 rfl (by decide) ?_
    refine g_iconst (v := nI 0) hX d_M_sets_25 rfl ?_
    refine g_istore3 hX d_M_sets_26 rfl (by decide) ?_
    exact lpW (n + 1) 0 (waysL (sG s)) [] w1 (by omega) (hS0.tr hS) hLd hIt rfl rfl (by simp) (Nat.le_refl _) (Nat.zero_le _) (by simp)
  · refine g_iconst (v := -1) hX d_M_sets_17 rfl ?_
    refine g_iret hX hF d_M_sets_18 (by omega) (by omega) ?_
    refine ⟨?_, h.keep (by repeat (first | exact Scr.rf _ | refine Scr.I9 (by decide) ?_ | refine Scr.I (by decide) ?_ | refine Scr.A (by decide) ?_ | refine Scr.J9 ?_ | refine Scr.J (by decide) ?_ | refine Scr.B (by decide) ?_)), (by repeat (first | exact FrM.rf _ | refine FrM.I (by decide) ?_ | refine FrM.A (by decide) ?_ | refine FrM.B (by decide) ?_ | refine FrM.J9 ?_ | refine FrM.J (by decide) ?_))⟩
    rw [sets_no (mt (in_le (by decide)).mpr e14)]
