def m_M_layAll : MR := (⟨"SubgraphDeskModel", "layAll", "()V"⟩, prog_14_method_81_code, 3, none)
theorem cf_M_layAll : CF m_M_layAll 0 := ⟨gd 2019 (by decide +kernel) rfl, gd 151 (by decide +kernel) rfl, by decide +kernel, by decide, by decide +kernel⟩
theorem cv_M_layAll : CV m_M_layAll := ⟨gd 2018 (by decide +kernel) rfl, gd 108 (by decide +kernel) rfl⟩
theorem d_M_layAll_0 : Dc prog_14_method_81_code 0 (.iconst 0) 1 1 := ⟨by decide +kernel, rfl⟩
theorem d_M_layAll_1 : Dc prog_14_method_81_code 1 (.istore_n 1) 1 2 := ⟨by decide +kernel, rfl⟩
theorem d_M_layAll_2 : Dc prog_14_method_81_code 2 (.iload_n 1) 1 3 := ⟨by decide +kernel, rfl⟩
theorem d_M_layAll_3 : Dc prog_14_method_81_code 3 (.aload_n 0) 1 4 := ⟨by decide +kernel, rfl⟩
theorem d_M_layAll_4 : Dc prog_14_method_81_code 4 (.getfield 13) 3 7 := ⟨by decide +kernel, rfl⟩
theorem d_M_layAll_7 : Dc prog_14_method_81_code 7 (.iconst 0) 1 8 := ⟨by decide +kernel, rfl⟩
theorem d_M_layAll_8 : Dc prog_14_method_81_code 8 (.iaload) 1 9 := ⟨by decide +kernel, rfl⟩
theorem d_M_layAll_9 : Dj prog_14_method_81_code 9 (.if_icmp .ge 20) 12 20 29 := ⟨by decide +kernel, rfl, rfl⟩
theorem d_M_layAll_12 : Dc prog_14_method_81_code 12 (.aload_n 0) 1 13 := ⟨by decide +kernel, rfl⟩
theorem d_M_layAll_13 : Dc prog_14_method_81_code 13 (.getfield 102) 3 16 := ⟨by decide +kernel, rfl⟩
theorem d_M_layAll_16 : Dc prog_14_method_81_code 16 (.iload_n 1) 1 17 := ⟨by decide +kernel, rfl⟩
theorem d_M_layAll_17 : Dc prog_14_method_81_code 17 (.aload_n 0) 1 18 := ⟨by decide +kernel, rfl⟩
theorem d_M_layAll_18 : Dc prog_14_method_81_code 18 (.iload_n 1) 1 19 := ⟨by decide +kernel, rfl⟩
theorem d_M_layAll_19 : Dc prog_14_method_81_code 19 (.invokevirtual 201) 3 22 := ⟨by decide +kernel, rfl⟩
theorem d_M_layAll_22 : Dc prog_14_method_81_code 22 (.iastore) 1 23 := ⟨by decide +kernel, rfl⟩
theorem d_M_layAll_23 : Dc prog_14_method_81_code 23 (.iinc 1 1) 3 26 := ⟨by decide +kernel, rfl⟩
theorem d_M_layAll_26 : Dj prog_14_method_81_code 26 (.goto (-24)) 29 (-24) 2 := ⟨by decide +kernel, rfl, rfl⟩
theorem d_M_layAll_29 : Dc prog_14_method_81_code 29 (.iconst 0) 1 30 := ⟨by decide +kernel, rfl⟩
theorem d_M_layAll_30 : Dc prog_14_method_81_code 30 (.istore_n 1) 1 31 := ⟨by decide +kernel, rfl⟩
theorem d_M_layAll_31 : Dc prog_14_method_81_code 31 (.iload_n 1) 1 32 := ⟨by decide +kernel, rfl⟩
theorem d_M_layAll_32 : Dc prog_14_method_81_code 32 (.aload_n 0) 1 33 := ⟨by decide +kernel, rfl⟩
theorem d_M_layAll_33 : Dc prog_14_method_81_code 33 (.getfield 13) 3 36 := ⟨by decide +kernel, rfl⟩
theorem d_M_layAll_36 : Dc prog_14_method_81_code 36 (.iconst 1) 1 37 := ⟨by decide +kernel, rfl⟩
theorem d_M_layAll_37 : Dc prog_14_method_81_code 37 (.iaload) 1 38 := ⟨by decide +kernel, rfl⟩
theorem d_M_layAll_38 : Dj prog_14_method_81_code 38 (.if_icmp .ge 76) 41 76 114 := ⟨by decide +kernel, rfl, rfl⟩
theorem d_M_layAll_41 : Dc prog_14_method_81_code 41 (.aload_n 0) 1 42 := ⟨by decide +kernel, rfl⟩
theorem d_M_layAll_42 : Dc prog_14_method_81_code 42 (.getfield 105) 3 45 := ⟨by decide +kernel, rfl⟩
theorem d_M_layAll_45 : Dc prog_14_method_81_code 45 (.iload_n 1) 1 46 := ⟨by decide +kernel, rfl⟩
theorem d_M_layAll_46 : Dc prog_14_method_81_code 46 (.iconst 0) 1 47 := ⟨by decide +kernel, rfl⟩
theorem d_M_layAll_47 : Dc prog_14_method_81_code 47 (.iastore) 1 48 := ⟨by decide +kernel, rfl⟩
theorem d_M_layAll_48 : Dc prog_14_method_81_code 48 (.iconst 0) 1 49 := ⟨by decide +kernel, rfl⟩
theorem d_M_layAll_49 : Dc prog_14_method_81_code 49 (.istore_n 2) 1 50 := ⟨by decide +kernel, rfl⟩
theorem d_M_layAll_50 : Dc prog_14_method_81_code 50 (.iload_n 2) 1 51 := ⟨by decide +kernel, rfl⟩
theorem d_M_layAll_51 : Dc prog_14_method_81_code 51 (.aload_n 0) 1 52 := ⟨by decide +kernel, rfl⟩
theorem d_M_layAll_52 : Dc prog_14_method_81_code 52 (.getfield 13) 3 55 := ⟨by decide +kernel, rfl⟩
theorem d_M_layAll_55 : Dc prog_14_method_81_code 55 (.iconst 0) 1 56 := ⟨by decide +kernel, rfl⟩
theorem d_M_layAll_56 : Dc prog_14_method_81_code 56 (.iaload) 1 57 := ⟨by decide +kernel, rfl⟩
theorem d_M_layAll_57 : Dj prog_14_method_81_code 57 (.if_icmp .ge 51) 60 51 108 := ⟨by decide +kernel, rfl, rfl⟩
theorem d_M_layAll_60 : Dc prog_14_method_81_code 60 (.aload_n 0) 1 61 := ⟨by decide +kernel, rfl⟩
theorem d_M_layAll_61 : Dc prog_14_method_81_code 61 (.getfield 105) 3 64 := ⟨by decide +kernel, rfl⟩
theorem d_M_layAll_64 : Dc prog_14_method_81_code 64 (.iload_n 1) 1 65 := ⟨by decide +kernel, rfl⟩
theorem d_M_layAll_65 : Dc prog_14_method_81_code 65 (.dup2) 1 66 := ⟨by decide +kernel, rfl⟩
theorem d_M_layAll_66 : Dc prog_14_method_81_code 66 (.iaload) 1 67 := ⟨by decide +kernel, rfl⟩
theorem d_M_layAll_67 : Dc prog_14_method_81_code 67 (.aload_n 0) 1 68 := ⟨by decide +kernel, rfl⟩
theorem d_M_layAll_68 : Dc prog_14_method_81_code 68 (.iload_n 1) 1 69 := ⟨by decide +kernel, rfl⟩
theorem d_M_layAll_69 : Dc prog_14_method_81_code 69 (.iload_n 2) 1 70 := ⟨by decide +kernel, rfl⟩
theorem d_M_layAll_70 : Dc prog_14_method_81_code 70 (.invokevirtual 230) 3 73 := ⟨by decide +kernel, rfl⟩
theorem d_M_layAll_73 : Dj prog_14_method_81_code 73 (.ifCond .eq 9) 76 9 82 := ⟨by decide +kernel, rfl, rfl⟩
theorem d_M_layAll_76 : Dc prog_14_method_81_code 76 (.iconst 1) 1 77 := ⟨by decide +kernel, rfl⟩
theorem d_M_layAll_77 : Dc prog_14_method_81_code 77 (.iload_n 2) 1 78 := ⟨by decide +kernel, rfl⟩
theorem d_M_layAll_78 : Dc prog_14_method_81_code 78 (.ishl) 1 79 := ⟨by decide +kernel, rfl⟩
theorem d_M_layAll_79 : Dj prog_14_method_81_code 79 (.goto 4) 82 4 83 := ⟨by decide +kernel, rfl, rfl⟩
theorem d_M_layAll_82 : Dc prog_14_method_81_code 82 (.iconst 0) 1 83 := ⟨by decide +kernel, rfl⟩
theorem d_M_layAll_83 : Dc prog_14_method_81_code 83 (.ior) 1 84 := ⟨by decide +kernel, rfl⟩
theorem d_M_layAll_84 : Dc prog_14_method_81_code 84 (.iastore) 1 85 := ⟨by decide +kernel, rfl⟩
theorem d_M_layAll_85 : Dc prog_14_method_81_code 85 (.aload_n 0) 1 86 := ⟨by decide +kernel, rfl⟩
theorem d_M_layAll_86 : Dc prog_14_method_81_code 86 (.getfield 108) 3 89 := ⟨by decide +kernel, rfl⟩
theorem d_M_layAll_89 : Dc prog_14_method_81_code 89 (.bipush 12) 2 91 := ⟨by decide +kernel, rfl⟩
theorem d_M_layAll_91 : Dc prog_14_method_81_code 91 (.iload_n 1) 1 92 := ⟨by decide +kernel, rfl⟩
theorem d_M_layAll_92 : Dc prog_14_method_81_code 92 (.imul) 1 93 := ⟨by decide +kernel, rfl⟩
theorem d_M_layAll_93 : Dc prog_14_method_81_code 93 (.iload_n 2) 1 94 := ⟨by decide +kernel, rfl⟩
theorem d_M_layAll_94 : Dc prog_14_method_81_code 94 (.iadd) 1 95 := ⟨by decide +kernel, rfl⟩
theorem d_M_layAll_95 : Dc prog_14_method_81_code 95 (.aload_n 0) 1 96 := ⟨by decide +kernel, rfl⟩
theorem d_M_layAll_96 : Dc prog_14_method_81_code 96 (.iload_n 1) 1 97 := ⟨by decide +kernel, rfl⟩
theorem d_M_layAll_97 : Dc prog_14_method_81_code 97 (.iload_n 2) 1 98 := ⟨by decide +kernel, rfl⟩
theorem d_M_layAll_98 : Dc prog_14_method_81_code 98 (.invokevirtual 227) 3 101 := ⟨by decide +kernel, rfl⟩
theorem d_M_layAll_101 : Dc prog_14_method_81_code 101 (.iastore) 1 102 := ⟨by decide +kernel, rfl⟩
theorem d_M_layAll_102 : Dc prog_14_method_81_code 102 (.iinc 2 1) 3 105 := ⟨by decide +kernel, rfl⟩
theorem d_M_layAll_105 : Dj prog_14_method_81_code 105 (.goto (-55)) 108 (-55) 50 := ⟨by decide +kernel, rfl, rfl⟩
theorem d_M_layAll_108 : Dc prog_14_method_81_code 108 (.iinc 1 1) 3 111 := ⟨by decide +kernel, rfl⟩
theorem d_M_layAll_111 : Dj prog_14_method_81_code 111 (.goto (-80)) 114 (-80) 31 := ⟨by decide +kernel, rfl, rfl⟩
theorem d_M_layAll_114 : Dc prog_14_method_81_code 114 (.return_) 1 115 := ⟨by decide +kernel, rfl⟩
theorem fl_M_102 : FL "SubgraphDeskModel" 102 12 41 true (.array .int) (3, 21) := ⟨R_M, F_M, 69, ty_M, rfl, rfl, in_M, tyok_M, nm_M, by decide, gd 1513 (by decide +kernel) rfl, rfl, rfl, rfl⟩
theorem fl_M_105 : FL "SubgraphDeskModel" 105 12 42 true (.array .int) (3, 22) := ⟨R_M, F_M, 69, ty_M, rfl, rfl, in_M, tyok_M, nm_M, by decide, gd 1514 (by decide +kernel) rfl, rfl, rfl, rfl⟩
theorem fl_M_108 : FL "SubgraphDeskModel" 108 12 43 true (.array .int) (3, 23) := ⟨R_M, F_M, 69, ty_M, rfl, rfl, in_M, tyok_M, nm_M, by decide, gd 1515 (by decide +kernel) rfl, rfl, rfl, rfl⟩
/-- what the graph's part of the reference needs while it is only read -/
def MG (w : Mem) (g : GC) : Prop := MRow (rI w 91) g ∧ MLaws (rI w 91) (gL g) ∧ rI w 89 20 = nI 0
theorem MG.scr {w w2 : Mem} {g : GC} (h : MG w g) (hS : Scr w w2) : MG w2 g := by
  unfold MG
  rw [hS.2.1 91 (by decide), hS.2.2 20 (by decide)]
  exact h
theorem MG.tell {w w2 : Mem} {g : GC} (h : MG w g) (hS : FrT w w2) : MG w2 g := h.scr hS.S
/-- while near, may, costs and the depth are laid -/
def FrY (w w2 : Mem) : Prop := (∀ a, a ≠ 89 → a ≠ 110 → a ≠ 111 → a ≠ 112 → rI w2 a = rI w a) ∧ (∀ k, k ≠ 38 → k ≠ 34 → k ≠ 45 → rI w2 89 k = rI w 89 k) ∧ (∀ a, a ≠ 89 → a ≠ 109 → a ≠ 107 → rJ w2 a = rJ w a) ∧ (∀ k, k ≠ 39 → k ≠ 40 → rJ w2 89 k = rJ w 89 k) ∧ w2.2.2 = w.2.2
theorem FrY.rf (w : Mem) : FrY w w := ⟨fun _ _ _ _ _ => rfl, fun _ _ _ _ => rfl, fun _ _ _ _ => rfl, fun _ _ _ => rfl, rfl⟩
theorem FrY.tr {a b c : Mem} (h : FrY a b) (h2 : FrY b c) : FrY a c := ⟨fun x h1 h3 h4 h5 => (h2.1 x h1 h3 h4 h5).trans (h.1 x h1 h3 h4 h5), fun x hx hy hz => (h2.2.1 x hx hy hz).trans (h.2.1 x hx hy hz), fun x hx hy hz => (h2.2.2.1 x hx hy hz).trans (h.2.2.1 x hx hy hz), fun x hx hy => (h2.2.2.2.1 x hx hy).trans (h.2.2.2.1 x hx hy), h2.2.2.2.2.trans h.2.2.2.2⟩
theorem FrT.Y {w w2 : Mem} (h : FrT w w2) : FrY w w2 := ⟨fun a h1 _ _ _ => h.1 a h1, fun k h1 h2 _ => h.2.1 k h1 h2, h.2.2.1, h.2.2.2.1, h.2.2.2.2⟩
theorem FrY.I {w w2 : Mem} {o k : Nat} {x : Int32} (ho : o = 110 ∨ o = 111 ∨ o = 112) (h : FrY w w2) : FrY w (sI w2 o k x) := ⟨fun a h1 h2 h3 h4 => by rw [rI_sI_ne _ _ _ (by omega)]; exact h.1 a h1 h2 h3 h4, fun k h1 h2 h3 => by rw [rI_sI_ne _ _ _ (by omega)]; exact h.2.1 k h1 h2 h3, h.2.2⟩
theorem FrY.A {w w2 : Mem} {o : Nat} {f : Nat → Int32} (ho : o = 110 ∨ o = 111 ∨ o = 112) (h : FrY w w2) : FrY w (sA w2 o f) := ⟨fun a h1 h2 h3 h4 => by rw [rI_sA_ne _ _ (by omega)]; exact h.1 a h1 h2 h3 h4, fun k h1 h2 h3 => by rw [rI_sA_ne _ _ (by omega)]; exact h.2.1 k h1 h2 h3, h.2.2⟩
theorem FrY.D {w w2 : Mem} {x : Int32} (h : FrY w w2) : FrY w (sI w2 89 45 x) := ⟨fun a h1 h2 h3 h4 => by rw [rI_sI_ne _ _ _ h1]; exact h.1 a h1 h2 h3 h4, fun k h1 h2 h3 => by rw [rI_sI, upd_eq, if_neg h3]; exact h.2.1 k h1 h2 h3, h.2.2⟩
theorem FrY.S {w w2 : Mem} (h : FrY w w2) : Scr w w2 := ⟨⟨fun a ha => h.1 a (by omega) (by omega) (by omega) (by omega), fun a ha => h.2.2.1 a (by omega) (by omega) (by omega), h.2.2.2.2⟩, fun a ha => h.1 a (by rintro rfl; exact absurd ha (by decide)) (by rintro rfl; exact absurd ha (by decide)) (by rintro rfl; exact absurd ha (by decide)) (by rintro rfl; exact absurd ha (by decide)), fun k hk => h.2.1 k (by rintro rfl; exact absurd hk (by decide)) (by rintro rfl; exact absurd hk (by decide)) (by rintro rfl; exact absurd hk (by decide))⟩
def mayN (g : GC) (v : Nat) : Nat → Nat
  | 0 => 0
  | n + 1 => mayN g v n ||| (if gMay g v n = true then 1 <<< n else 0)
theorem mayN_lt (g : GC) (v : Nat) : ∀ n, n ≤ 12 → mayN g v n < 2 ^ 12
  | 0, _ => by unfold mayN; decide
  | n + 1, h => by
    unfold mayN
    refine or_lt (mayN_lt g v n (by omega)) ?_
    split
    · exact shl_lt (by omega)
    · decide
theorem mayN_tb (g : GC) (v m : Nat) : ∀ n, (mayN g v n).testBit m = (decide (m < n) && gMay g v m)
  | 0 => by unfold mayN; rw [Nat.zero_testBit]; simp
  | n + 1 => by
    unfold mayN
    rw [Nat.testBit_or, mayN_tb g v m n]
    by_cases hm : gMay g v n = true
    · rw [if_pos hm, tb_one]
      by_cases e : n = m
      · subst e; simp [hm]
      · have : (m < n + 1) ↔ (m < n) := by omega
        simp [e, this]
    · rw [if_neg hm, Nat.zero_testBit, Bool.or_false]
      by_cases e : m = n
      · subst e; simp [hm]
      · have : (m < n + 1) ↔ (m < n) := by omega
        simp [this]
def NearP (w : Mem) (g : GC) : Prop := ∀ i, i < gN g → rI w 110 i = nI (nearB (gE g) i)
def MayP (w : Mem) (g : GC) (v : Nat) : Prop := ∀ u, u < v → rI w 111 u = nI (mayN g u (gN g))
def CostP (w : Mem) (g : GC) (v : Nat) : Prop := ∀ u, u < v → ∀ n, n < gN g → rI w 112 (12 * u + n) = nI (gCost g u n)
/-- near, may and costs are laid -/
def Laid (w : Mem) (g : GC) : Prop := NearP w g ∧ MayP w g (gV g) ∧ CostP w g (gV g)
theorem c_M_layAll {E : EV} {w : Mem} {g : GC} (hG : MG w g) (hW : WG g) : T E m_M_layAll 5 0 0 [.ref 89] w (fun r w2 => r = none ∧ FrY w w2 ∧ Laid w2 g) := by
  refine T_of (L := [.ref 89, un, un]) cf_M_layAll rfl (Nat.le_of_ble_eq_true rfl) (fun X hX hF => ?_)
  have hgn := hW.n
  have hgv := hW.v
  have lpV : ∀ (fuel : Nat) (v : Nat) (wk : Mem), gV g - v < fuel → (v ≤ gV g) → (FrY w wk) → (NearP wk g) → (MayP wk g v) → (CostP wk g v) → G0 E X 0 0 31 [.ref 89, .int (nI v), un] [] wk := by
    intro fuel
    induction fuel with
    | zero => intro v wk q0; exact absurd q0 (Nat.not_lt_zero _)
    | succ fuel ih =>
      intro v wk q0 q1 q2 q3 q4 q5
      refine g_iload1 hX d_M_layAll_31 ?_
      refine g_aload0 hX d_M_layAll_32 ?_
      refine g_getF hX d_M_layAll_33 fl_M_13 (lv_89 _) ?_
      refine g_iconst (v := nI 1) hX d_M_layAll_36 rfl ?_
      refine g_iald hX d_M_layAll_37 (lv_91 _) rfl (by decide) ?_
      refine g_topi (show rI wk 91 1 = nI (gV g) from (hG.scr q2.S).1.v) ?_
      refine g_icmpN_ge hX d_M_layAll_38 (by omega) (by omega) (fun c0 => ?_) (fun c0 => ?_)
      · refine g_vret hX hF d_M_layAll_114 (by omega) (by omega) ?_
        have hv2 : v = gV g := by omega
        rw [hv2] at q4 q5
        exact ⟨rfl, q2, q3, q4, q5⟩
      · have kV : ∀ (n : Nat) (wk : Mem), FrY w wk → NearP wk g → n = gN g → MayP wk g v → CostP wk g v → rI wk 111 v = nI (mayN g v n) → (∀ j, j < n → rI wk 112 (12 * v + j) = nI (gCost g v j)) → G0 E X 0 0 108 [.ref 89, .int (nI v), .int (nI n)] [] wk := by
          intro n wk r1 r2 r3 r4 r5 r6 r7
          refine g_iincN1 hX d_M_layAll_108 rfl (by decide) ?_
          refine g_goto hX d_M_layAll_111 ?_
          refine g_fget 2 ?_
          refine ih (v + 1) _ (by omega) (by omega) r1 r2 (fun u hu => ?_) (fun u hu i hi => ?_)
          · by_cases e : u = v
            · rw [e, r6, r3]
            · exact r4 u (by omega)
          · by_cases e : u = v
            · rw [e]; exact r7 i (by omega)
            · exact r5 u (by omega) i hi
        have lpN : ∀ (fuel : Nat) (n : Nat) (wk : Mem), gN g - n < fuel → (n ≤ gN g) → (FrY w wk) → (NearP wk g) → (MayP wk g v) → (CostP wk g v) → (rI wk 111 v = nI (mayN g v n)) → (∀ j, j < n → rI wk 112 (12 * v + j) = nI (gCost g v j)) → G0 E X 0 0 50 [.ref 89, .int (nI v), .int (nI n)] [] wk := by
          intro fuel
          induction fuel with
          | zero => intro n wk q0; exact absurd q0 (Nat.not_lt_zero _)
          | succ fuel ih =>
            intro n wk q0 q1 q2 q3 q4 q5 q6 q7
            refine g_iload2 hX d_M_layAll_50 ?_
            refine g_aload0 hX d_M_layAll_51 ?_
            refine g_getF hX d_M_layAll_52 fl_M_13 (lv_89 _) ?_
            refine g_iconst (v := nI 0) hX d_M_layAll_55 rfl ?_
            refine g_iald hX d_M_layAll_56 (lv_91 _) rfl (by decide) ?_
            refine g_topi (show rI wk 91 0 = nI (gN g) from (hG.scr q2.S).1.n) ?_
            refine g_icmpN_ge hX d_M_layAll_57 (by omega) (by omega) (fun c0 => ?_) (fun c0 => ?_)
            · exact kV n wk q2 q3 (by omega) q4 q5 q6 q7
            · obtain ⟨k1, k2, k3⟩ := hG.scr q2.S
              have hml := mayN_lt g v n (by omega)
              refine g_aload0 hX d_M_layAll_60 ?_
              refine g_getF hX d_M_layAll_61 fl_M_105 (lv_89 _) ?_
              refine g_iload1 hX d_M_layAll_64 ?_
              refine g_dup2 hX d_M_layAll_65 rfl rfl ?_
              refine g_iald hX d_M_layAll_66 (lv_111 _) rfl (by omega) ?_
              refine g_topi q6 ?_
              refine g_aload0 hX d_M_layAll_67 ?_
              refine g_iload1 hX d_M_layAll_68 ?_
              refine g_iload2 hX d_M_layAll_69 ?_
              refine g_callV (As := [_, _]) hX hF.1 d_M_layAll_70 ml_M_230 cf_M_mayLie cv_M_mayLie rfl rfl (c_M_mayLie (w := wk) (g := g) k1 k2 hW k3 (by omega) (by omega)) (rcv_obj hX (lv_89 _) rfl rfl) (by omega) (by omega) (by omega) (Nat.le_of_ble_eq_true rfl) ?_
              rintro _ w2 ⟨rfl, hT2⟩
              show G0 _ _ _ _ _ _ _ _
              refine g_ifB_eq hX d_M_layAll_73 (fun e73 => ?_) (fun e73 => ?_)
              · have hbit : mayN g v n ||| 0 = mayN g v (n + 1) := by rw [mayN, if_neg e73]
                refine g_iconst (v := nI 0) hX d_M_layAll_82 rfl ?_
                refine g_iorN hX d_M_layAll_83 ?_
                refine g_topi (congrArg nI hbit) ?_
                refine g_iast hX d_M_layAll_84 (lv_111 _) rfl (by omega) ?_
                obtain ⟨w3, hw3⟩ : ∃ w3, sI w2 111 v (nI (mayN g v (n + 1))) = w3 := ⟨_, rfl⟩
                refine g_mem hw3 ?_
                have hS3 : FrY w w3 := by
                  rw [← hw3]; exact (q2.tr hT2.Y).I (by decide)
                obtain ⟨m1, m2, m3⟩ := hG.scr hS3.S
                have e3 : rI w3 111 = upd (rI wk 111) v (nI (mayN g v (n + 1))) := by rw [← hw3, rI_sI, hT2.1 111 (by decide)]
                have f3 : ∀ a, a ≠ 89 → a ≠ 111 → rI w3 a = rI wk a := fun a h1 h2 => by rw [← hw3, rI_sI_ne _ _ _ h2, hT2.1 a h1]
                refine g_aload0 hX d_M_layAll_85 ?_
                refine g_getF hX d_M_layAll_86 fl_M_108 (lv_89 _) ?_
                refine g_bipush (v := nI 12) hX d_M_layAll_89 rfl ?_
                refine g_iload1 hX d_M_layAll_91 ?_
                refine g_imulN hX d_M_layAll_92 ?_
                refine g_iload2 hX d_M_layAll_93 ?_
                refine g_iaddN hX d_M_layAll_94 ?_
                refine g_aload0 hX d_M_layAll_95 ?_
                refine g_iload1 hX d_M_layAll_96 ?_
                refine g_iload2 hX d_M_layAll_97 ?_
                refine g_callV (As := [_, _]) hX hF.1 d_M_layAll_98 ml_M_227 cf_M_costsOf cv_M_costsOf rfl rfl (c_M_costsOf (w := w3) (g := g) m1 m2 hW m3 (by omega) (by omega)) (rcv_obj hX (lv_89 _) rfl rfl) (by omega) (by omega) (by omega) (Nat.le_of_ble_eq_true rfl) ?_
                rintro _ w4 ⟨rfl, hT4⟩
                show G0 _ _ _ _ _ _ _ _
                refine g_iast hX d_M_layAll_101 (lv_112 _) rfl (by omega) ?_
                refine g_iincN2 hX d_M_layAll_102 rfl (by decide) ?_
                refine g_goto hX d_M_layAll_105 ?_
                refine ih (n + 1) _ (by omega) (by omega) ((hS3.tr hT4.Y).I (by decide)) ?_ ?_ ?_ ?_ ?_
                · intro i hi
                  rw [rI_sI_ne _ _ _ (by decide), hT4.1 110 (by decide), f3 110 (by decide) (by decide)]
                  exact q3 i hi
                · intro u hu
                  rw [rI_sI_ne _ _ _ (by decide), hT4.1 111 (by decide), e3, upd_eq, if_neg (by omega)]
                  exact q4 u hu
                · intro u hu i hi
                  rw [rI_sI, hT4.1 112 (by decide), f3 112 (by decide) (by decide), upd_eq, if_neg (by omega)]
                  exact q5 u hu i hi
                · rw [rI_sI_ne _ _ _ (by decide), hT4.1 111 (by decide), e3, upd_eq, if_pos rfl]
                · intro j hj
                  rw [rI_sI, hT4.1 112 (by decide), f3 112 (by decide) (by decide), upd_eq]
                  by_cases e : j = n
                  · rw [if_pos (by omega), e]
                  · rw [if_neg (by omega)]
                    exact q7 j (by omega)
              · have hbit : mayN g v n ||| 1 <<< n = mayN g v (n + 1) := by rw [mayN, if_pos e73]
                refine g_iconst (v := nI 1) hX d_M_layAll_76 rfl ?_
                refine g_iload2 hX d_M_layAll_77 ?_
                refine g_ishlN hX d_M_layAll_78 (by omega) ?_
                refine g_goto hX d_M_layAll_79 ?_
                refine g_iorN hX d_M_layAll_83 ?_
                refine g_topi (congrArg nI hbit) ?_
                refine g_iast hX d_M_layAll_84 (lv_111 _) rfl (by omega) ?_
                obtain ⟨w3, hw3⟩ : ∃ w3, sI w2 111 v (nI (mayN g v (n + 1))) = w3 := ⟨_, rfl⟩
                refine g_mem hw3 ?_
                have hS3 : FrY w w3 := by
                  rw [← hw3]; exact (q2.tr hT2.Y).I (by decide)
                obtain ⟨m1, m2, m3⟩ := hG.scr hS3.S
                have e3 : rI w3 111 = upd (rI wk 111) v (nI (mayN g v (n + 1))) := by rw [← hw3, rI_sI, hT2.1 111 (by decide)]
                have f3 : ∀ a, a ≠ 89 → a ≠ 111 → rI w3 a = rI wk a := fun a h1 h2 => by rw [← hw3, rI_sI_ne _ _ _ h2, hT2.1 a h1]
                refine g_aload0 hX d_M_layAll_85 ?_
                refine g_getF hX d_M_layAll_86 fl_M_108 (lv_89 _) ?_
                refine g_bipush (v := nI 12) hX d_M_layAll_89 rfl ?_
                refine g_iload1 hX d_M_layAll_91 ?_
                refine g_imulN hX d_M_layAll_92 ?_
                refine g_iload2 hX d_M_layAll_93 ?_
                refine g_iaddN hX d_M_layAll_94 ?_
                refine g_aload0 hX d_M_layAll_95 ?_
                refine g_iload1 hX d_M_layAll_96 ?_
                refine g_iload2 hX d_M_layAll_97 ?_
                refine g_callV (As := [_, _]) hX hF.1 d_M_layAll_98 ml_M_227 cf_M_costsOf cv_M_costsOf rfl rfl (c_M_costsOf (w := w3) (g := g) m1 m2 hW m3 (by omega) (by omega)) (rcv_obj hX (lv_89 _) rfl rfl) (by omega) (by omega) (by omega) (Nat.le_of_ble_eq_true rfl) ?_
                rintro _ w4 ⟨rfl, hT4⟩
                show G0 _ _ _ _ _ _ _ _
                refine g_iast hX d_M_layAll_101 (lv_112 _) rfl (by omega) ?_
                refine g_iincN2 hX d_M_layAll_102 rfl (by decide) ?_
                refine g_goto hX d_M_layAll_105 ?_
                refine ih (n + 1) _ (by omega) (by omega) ((hS3.tr hT4.Y).I (by decide)) ?_ ?_ ?_ ?_ ?_
                · intro i hi
                  rw [rI_sI_ne _ _ _ (by decide), hT4.1 110 (by decide), f3 110 (by decide) (by decide)]
                  exact q3 i hi
                · intro u hu
                  rw [rI_sI_ne _ _ _ (by decide), hT4.1 111 (by decide), e3, upd_eq, if_neg (by omega)]
                  exact q4 u hu
                · intro u hu i hi
                  rw [rI_sI, hT4.1 112 (by decide), f3 112 (by decide) (by decide), upd_eq, if_neg (by omega)]
                  exact q5 u hu i hi
                · rw [rI_sI_ne _ _ _ (by decide), hT4.1 111 (by decide), e3, upd_eq, if_pos rfl]
                · intro j hj
                  rw [rI_sI, hT4.1 112 (by decide), f3 112 (by decide) (by decide), upd_eq]
                  by_cases e : j = n
                  · rw [if_pos (by omega), e]
                  · rw [if_neg (by omega)]
                    exact q7 j (by omega)
        refine g_aload0 hX d_M_layAll_41 ?_
        refine g_getF hX d_M_layAll_42 fl_M_105 (lv_89 _) ?_
        refine g_iload1 hX d_M_layAll_45 ?_
        refine g_iconst (v := nI 0) hX d_M_layAll_46 rfl ?_
        refine g_iast hX d_M_layAll_47 (lv_111 _) rfl (by omega) ?_
        refine g_iconst (v := nI 0) hX d_M_layAll_48 rfl ?_
        refine g_istore2 hX d_M_layAll_49 rfl (by decide) ?_
        refine lpN (gN g + 1) 0 _ (by omega) (Nat.zero_le _) (q2.I (by decide)) (fun i hi => ?_) (fun u hu => ?_) (fun u hu i hi => ?_) ?_ (fun j hj => absurd hj (Nat.not_lt_zero _))
        · rw [rI_sI_ne _ _ _ (by decide)]; exact q3 i hi
        · rw [rI_sI, upd_eq, if_neg (by omega)]; exact q4 u hu
        · rw [rI_sI_ne _ _ _ (by decide)]; exact q5 u hu i hi
        · rw [rI_sI, upd_eq, if_pos rfl]; rfl
  have lpI : ∀ (fuel : Nat) (i : Nat) (f : Nat → Int32), gN g - i < fuel → (i ≤ gN g) → (∀ j, j < i → f j = nI (nearB (gE g) j)) → G0 E X 0 0 2 [.ref 89, .int (nI i), un] [] (sA w 110 f) := by
    intro fuel
    induction fuel with
    | zero => intro i f q0; exact absurd q0 (Nat.not_lt_zero _)
    | succ fuel ih =>
      intro i f q0 q1 q2
      refine g_iload1 hX d_M_layAll_2 ?_
      refine g_aload0 hX d_M_layAll_3 ?_
      refine g_getF hX d_M_layAll_4 fl_M_13 (lv_89 _) ?_
      refine g_iconst (v := nI 0) hX d_M_layAll_7 rfl ?_
      refine g_iald hX d_M_layAll_8 (lv_91 _) rfl (by decide) ?_
      refine g_topi (show rI w 91 0 = nI (gN g) from hG.1.n) ?_
      refine g_icmpN_ge hX d_M_layAll_9 (by omega) (by omega) (fun c0 => ?_) (fun c0 => ?_)
      · refine g_iconst (v := nI 0) hX d_M_layAll_29 rfl ?_
        refine g_istore1 hX d_M_layAll_30 rfl (by decide) ?_
        refine lpV (gV g + 1) 0 _ (by omega) (Nat.zero_le _) ((FrY.rf w).A (by decide)) (fun j hj => ?_) (fun u hu => absurd hu (Nat.not_lt_zero _)) (fun u hu => absurd hu (Nat.not_lt_zero _))
        rw [rI_sA]; exact q2 j (by omega)
      · have hRf : MRow (rI (sA w 110 f) 91) g := hG.1
        refine g_aload0 hX d_M_layAll_12 ?_
        refine g_getF hX d_M_layAll_13 fl_M_102 (lv_89 _) ?_
        refine g_iload1 hX d_M_layAll_16 ?_
        refine g_aload0 hX d_M_layAll_17 ?_
        refine g_iload1 hX d_M_layAll_18 ?_
        refine g_callV (As := [_]) hX hF.1 d_M_layAll_19 ml_M_201 cf_M_bitsOf cv_M_bitsOf rfl rfl (c_M_bitsOf (w := sA w 110 f) (g := g) hRf hW (by omega)) (rcv_obj hX (lv_89 _) rfl rfl) (by omega) (by omega) (by omega) (Nat.le_of_ble_eq_true rfl) ?_
        refine ret_k ?_
        refine g_iast hX d_M_layAll_22 (lv_110 _) rfl (by omega) ?_
        refine g_iincN1 hX d_M_layAll_23 rfl (by decide) ?_
        refine g_goto hX d_M_layAll_26 ?_
        rw [sI_sA]
        refine ih (i + 1) _ (by omega) (by omega) (fun j hj => ?_)
        rw [upd_eq]
        by_cases e : j = i
        · rw [if_pos e, e]
        · rw [if_neg e]; exact q2 j (by omega)
  refine g_iconst (v := nI 0) hX d_M_layAll_0 rfl ?_
  refine g_istore1 hX d_M_layAll_1 rfl (by decide) ?_
  refine g_mem (show w = sA w 110 (rI w 110) from (sA_self _ _).symm) ?_
  exact lpI (gN g + 1) 0 _ (by omega) (by omega) (fun j hj => absurd hj (Nat.not_lt_zero _))
