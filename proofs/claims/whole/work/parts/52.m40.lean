def m_M_stepsRising : MR := (⟨"SubgraphDeskModel", "stepsRising", "()I"⟩, prog_14_method_103_code, 4, (some .int))
theorem cf_M_stepsRising : CF m_M_stepsRising 0 := ⟨gd 2104 (by decide +kernel) rfl, gd 151 (by decide +kernel) rfl, by decide +kernel, by decide, by decide +kernel⟩
theorem cv_M_stepsRising : CV m_M_stepsRising := ⟨gd 2103 (by decide +kernel) rfl, gd 120 (by decide +kernel) rfl⟩
theorem d_M_stepsRising_0 : Dc prog_14_method_103_code 0 (.aload_n 0) 1 1 := ⟨by decide +kernel, rfl⟩
theorem d_M_stepsRising_1 : Dc prog_14_method_103_code 1 (.getfield 13) 3 4 := ⟨by decide +kernel, rfl⟩
theorem d_M_stepsRising_4 : Dc prog_14_method_103_code 4 (.iconst 1) 1 5 := ⟨by decide +kernel, rfl⟩
theorem d_M_stepsRising_5 : Dc prog_14_method_103_code 5 (.iaload) 1 6 := ⟨by decide +kernel, rfl⟩
theorem d_M_stepsRising_6 : Dc prog_14_method_103_code 6 (.istore_n 1) 1 7 := ⟨by decide +kernel, rfl⟩
theorem d_M_stepsRising_7 : Dc prog_14_method_103_code 7 (.iconst 0) 1 8 := ⟨by decide +kernel, rfl⟩
theorem d_M_stepsRising_8 : Dc prog_14_method_103_code 8 (.istore_n 2) 1 9 := ⟨by decide +kernel, rfl⟩
theorem d_M_stepsRising_9 : Dc prog_14_method_103_code 9 (.iconst 0) 1 10 := ⟨by decide +kernel, rfl⟩
theorem d_M_stepsRising_10 : Dc prog_14_method_103_code 10 (.istore_n 3) 1 11 := ⟨by decide +kernel, rfl⟩
theorem d_M_stepsRising_11 : Dc prog_14_method_103_code 11 (.aload_n 0) 1 12 := ⟨by decide +kernel, rfl⟩
theorem d_M_stepsRising_12 : Dc prog_14_method_103_code 12 (.getfield 111) 3 15 := ⟨by decide +kernel, rfl⟩
theorem d_M_stepsRising_15 : Dc prog_14_method_103_code 15 (.iconst 0) 1 16 := ⟨by decide +kernel, rfl⟩
theorem d_M_stepsRising_16 : Dc prog_14_method_103_code 16 (.iconst (-1)) 1 17 := ⟨by decide +kernel, rfl⟩
theorem d_M_stepsRising_17 : Dc prog_14_method_103_code 17 (.iastore) 1 18 := ⟨by decide +kernel, rfl⟩
theorem d_M_stepsRising_18 : Dc prog_14_method_103_code 18 (.iload_n 3) 1 19 := ⟨by decide +kernel, rfl⟩
theorem d_M_stepsRising_19 : Dj prog_14_method_103_code 19 (.ifCond .lt 121) 22 121 140 := ⟨by decide +kernel, rfl, rfl⟩
theorem d_M_stepsRising_22 : Dc prog_14_method_103_code 22 (.iload_n 1) 1 23 := ⟨by decide +kernel, rfl⟩
theorem d_M_stepsRising_23 : Dj prog_14_method_103_code 23 (.ifCond .le 117) 26 117 140 := ⟨by decide +kernel, rfl, rfl⟩
theorem d_M_stepsRising_26 : Dc prog_14_method_103_code 26 (.aload_n 0) 1 27 := ⟨by decide +kernel, rfl⟩
theorem d_M_stepsRising_27 : Dc prog_14_method_103_code 27 (.getfield 111) 3 30 := ⟨by decide +kernel, rfl⟩
theorem d_M_stepsRising_30 : Dc prog_14_method_103_code 30 (.iload_n 3) 1 31 := ⟨by decide +kernel, rfl⟩
theorem d_M_stepsRising_31 : Dc prog_14_method_103_code 31 (.dup2) 1 32 := ⟨by decide +kernel, rfl⟩
theorem d_M_stepsRising_32 : Dc prog_14_method_103_code 32 (.iaload) 1 33 := ⟨by decide +kernel, rfl⟩
theorem d_M_stepsRising_33 : Dc prog_14_method_103_code 33 (.iconst 1) 1 34 := ⟨by decide +kernel, rfl⟩
theorem d_M_stepsRising_34 : Dc prog_14_method_103_code 34 (.iadd) 1 35 := ⟨by decide +kernel, rfl⟩
theorem d_M_stepsRising_35 : Dc prog_14_method_103_code 35 (.iastore) 1 36 := ⟨by decide +kernel, rfl⟩
theorem d_M_stepsRising_36 : Dc prog_14_method_103_code 36 (.aload_n 0) 1 37 := ⟨by decide +kernel, rfl⟩
theorem d_M_stepsRising_37 : Dc prog_14_method_103_code 37 (.getfield 111) 3 40 := ⟨by decide +kernel, rfl⟩
theorem d_M_stepsRising_40 : Dc prog_14_method_103_code 40 (.iload_n 3) 1 41 := ⟨by decide +kernel, rfl⟩
theorem d_M_stepsRising_41 : Dc prog_14_method_103_code 41 (.iaload) 1 42 := ⟨by decide +kernel, rfl⟩
theorem d_M_stepsRising_42 : Dc prog_14_method_103_code 42 (.aload_n 0) 1 43 := ⟨by decide +kernel, rfl⟩
theorem d_M_stepsRising_43 : Dc prog_14_method_103_code 43 (.getfield 13) 3 46 := ⟨by decide +kernel, rfl⟩
theorem d_M_stepsRising_46 : Dc prog_14_method_103_code 46 (.iconst 0) 1 47 := ⟨by decide +kernel, rfl⟩
theorem d_M_stepsRising_47 : Dc prog_14_method_103_code 47 (.iaload) 1 48 := ⟨by decide +kernel, rfl⟩
theorem d_M_stepsRising_48 : Dj prog_14_method_103_code 48 (.if_icmp .ge 48) 51 48 96 := ⟨by decide +kernel, rfl, rfl⟩
theorem d_M_stepsRising_51 : Dc prog_14_method_103_code 51 (.aload_n 0) 1 52 := ⟨by decide +kernel, rfl⟩
theorem d_M_stepsRising_52 : Dc prog_14_method_103_code 52 (.getfield 123) 3 55 := ⟨by decide +kernel, rfl⟩
theorem d_M_stepsRising_55 : Dc prog_14_method_103_code 55 (.iload_n 3) 1 56 := ⟨by decide +kernel, rfl⟩
theorem d_M_stepsRising_56 : Dc prog_14_method_103_code 56 (.iaload) 1 57 := ⟨by decide +kernel, rfl⟩
theorem d_M_stepsRising_57 : Dc prog_14_method_103_code 57 (.aload_n 0) 1 58 := ⟨by decide +kernel, rfl⟩
theorem d_M_stepsRising_58 : Dc prog_14_method_103_code 58 (.getfield 111) 3 61 := ⟨by decide +kernel, rfl⟩
theorem d_M_stepsRising_61 : Dc prog_14_method_103_code 61 (.iload_n 3) 1 62 := ⟨by decide +kernel, rfl⟩
theorem d_M_stepsRising_62 : Dc prog_14_method_103_code 62 (.iaload) 1 63 := ⟨by decide +kernel, rfl⟩
theorem d_M_stepsRising_63 : Dc prog_14_method_103_code 63 (.invokestatic 468) 3 66 := ⟨by decide +kernel, rfl⟩
theorem d_M_stepsRising_66 : Dj prog_14_method_103_code 66 (.ifCond .eq 17) 69 17 83 := ⟨by decide +kernel, rfl, rfl⟩
theorem d_M_stepsRising_69 : Dc prog_14_method_103_code 69 (.aload_n 0) 1 70 := ⟨by decide +kernel, rfl⟩
theorem d_M_stepsRising_70 : Dc prog_14_method_103_code 70 (.iload_n 3) 1 71 := ⟨by decide +kernel, rfl⟩
theorem d_M_stepsRising_71 : Dc prog_14_method_103_code 71 (.aload_n 0) 1 72 := ⟨by decide +kernel, rfl⟩
theorem d_M_stepsRising_72 : Dc prog_14_method_103_code 72 (.getfield 111) 3 75 := ⟨by decide +kernel, rfl⟩
theorem d_M_stepsRising_75 : Dc prog_14_method_103_code 75 (.iload_n 3) 1 76 := ⟨by decide +kernel, rfl⟩
theorem d_M_stepsRising_76 : Dc prog_14_method_103_code 76 (.iaload) 1 77 := ⟨by decide +kernel, rfl⟩
theorem d_M_stepsRising_77 : Dc prog_14_method_103_code 77 (.invokevirtual 471) 3 80 := ⟨by decide +kernel, rfl⟩
theorem d_M_stepsRising_80 : Dj prog_14_method_103_code 80 (.ifCond .ne 16) 83 16 96 := ⟨by decide +kernel, rfl, rfl⟩
theorem d_M_stepsRising_83 : Dc prog_14_method_103_code 83 (.aload_n 0) 1 84 := ⟨by decide +kernel, rfl⟩
theorem d_M_stepsRising_84 : Dc prog_14_method_103_code 84 (.getfield 111) 3 87 := ⟨by decide +kernel, rfl⟩
theorem d_M_stepsRising_87 : Dc prog_14_method_103_code 87 (.iload_n 3) 1 88 := ⟨by decide +kernel, rfl⟩
theorem d_M_stepsRising_88 : Dc prog_14_method_103_code 88 (.dup2) 1 89 := ⟨by decide +kernel, rfl⟩
theorem d_M_stepsRising_89 : Dc prog_14_method_103_code 89 (.iaload) 1 90 := ⟨by decide +kernel, rfl⟩
theorem d_M_stepsRising_90 : Dc prog_14_method_103_code 90 (.iconst 1) 1 91 := ⟨by decide +kernel, rfl⟩
theorem d_M_stepsRising_91 : Dc prog_14_method_103_code 91 (.iadd) 1 92 := ⟨by decide +kernel, rfl⟩
theorem d_M_stepsRising_92 : Dc prog_14_method_103_code 92 (.iastore) 1 93 := ⟨by decide +kernel, rfl⟩
theorem d_M_stepsRising_93 : Dj prog_14_method_103_code 93 (.goto (-57)) 96 (-57) 36 := ⟨by decide +kernel, rfl, rfl⟩
theorem d_M_stepsRising_96 : Dc prog_14_method_103_code 96 (.aload_n 0) 1 97 := ⟨by decide +kernel, rfl⟩
theorem d_M_stepsRising_97 : Dc prog_14_method_103_code 97 (.getfield 111) 3 100 := ⟨by decide +kernel, rfl⟩
theorem d_M_stepsRising_100 : Dc prog_14_method_103_code 100 (.iload_n 3) 1 101 := ⟨by decide +kernel, rfl⟩
theorem d_M_stepsRising_101 : Dc prog_14_method_103_code 101 (.iaload) 1 102 := ⟨by decide +kernel, rfl⟩
theorem d_M_stepsRising_102 : Dc prog_14_method_103_code 102 (.aload_n 0) 1 103 := ⟨by decide +kernel, rfl⟩
theorem d_M_stepsRising_103 : Dc prog_14_method_103_code 103 (.getfield 13) 3 106 := ⟨by decide +kernel, rfl⟩
theorem d_M_stepsRising_106 : Dc prog_14_method_103_code 106 (.iconst 0) 1 107 := ⟨by decide +kernel, rfl⟩
theorem d_M_stepsRising_107 : Dc prog_14_method_103_code 107 (.iaload) 1 108 := ⟨by decide +kernel, rfl⟩
theorem d_M_stepsRising_108 : Dj prog_14_method_103_code 108 (.if_icmp .ne 9) 111 9 117 := ⟨by decide +kernel, rfl, rfl⟩
theorem d_M_stepsRising_111 : Dc prog_14_method_103_code 111 (.iinc 3 (-1)) 3 114 := ⟨by decide +kernel, rfl⟩
theorem d_M_stepsRising_114 : Dj prog_14_method_103_code 114 (.goto (-96)) 117 (-96) 18 := ⟨by decide +kernel, rfl, rfl⟩
theorem d_M_stepsRising_117 : Dc prog_14_method_103_code 117 (.iinc 2 1) 3 120 := ⟨by decide +kernel, rfl⟩
theorem d_M_stepsRising_120 : Dc prog_14_method_103_code 120 (.iload_n 3) 1 121 := ⟨by decide +kernel, rfl⟩
theorem d_M_stepsRising_121 : Dc prog_14_method_103_code 121 (.iload_n 1) 1 122 := ⟨by decide +kernel, rfl⟩
theorem d_M_stepsRising_122 : Dc prog_14_method_103_code 122 (.iconst 1) 1 123 := ⟨by decide +kernel, rfl⟩
theorem d_M_stepsRising_123 : Dc prog_14_method_103_code 123 (.isub) 1 124 := ⟨by decide +kernel, rfl⟩
theorem d_M_stepsRising_124 : Dj prog_14_method_103_code 124 (.if_icmp .ge (-106)) 127 (-106) 18 := ⟨by decide +kernel, rfl, rfl⟩
theorem d_M_stepsRising_127 : Dc prog_14_method_103_code 127 (.iinc 3 1) 3 130 := ⟨by decide +kernel, rfl⟩
theorem d_M_stepsRising_130 : Dc prog_14_method_103_code 130 (.aload_n 0) 1 131 := ⟨by decide +kernel, rfl⟩
theorem d_M_stepsRising_131 : Dc prog_14_method_103_code 131 (.getfield 111) 3 134 := ⟨by decide +kernel, rfl⟩
theorem d_M_stepsRising_134 : Dc prog_14_method_103_code 134 (.iload_n 3) 1 135 := ⟨by decide +kernel, rfl⟩
theorem d_M_stepsRising_135 : Dc prog_14_method_103_code 135 (.iconst (-1)) 1 136 := ⟨by decide +kernel, rfl⟩
theorem d_M_stepsRising_136 : Dc prog_14_method_103_code 136 (.iastore) 1 137 := ⟨by decide +kernel, rfl⟩
theorem d_M_stepsRising_137 : Dj prog_14_method_103_code 137 (.goto (-119)) 140 (-119) 18 := ⟨by decide +kernel, rfl, rfl⟩
theorem d_M_stepsRising_140 : Dc prog_14_method_103_code 140 (.iload_n 2) 1 141 := ⟨by decide +kernel, rfl⟩
theorem d_M_stepsRising_141 : Dc prog_14_method_103_code 141 (.ireturn) 1 142 := ⟨by decide +kernel, rfl⟩
/-- the next vertex may be tried at n, by the candidates c -/
def okC (g : GC) (c : Nat → Nat) (q : List Nat) (n : Nat) : Bool := (c q.length).testBit n && fitN g q q.length n q.length
/-- how many steps a search with rising vertices takes behind q, r vertices more -/
def stepsC (g : GC) (c : Nat → Nat) : Nat → List Nat → Nat
  | 0, _ => 0
  | r + 1, q => ((List.range (gN g)).map (fun n => if okC g c q n then 1 + stepsC g c r (q ++ [n]) else 0)).sum
def remS (g : GC) (c : Nat → Nat) (r : Nat) (q : List Nat) (k : Nat) : Nat := (((List.range (gN g)).drop k).map (fun n => if okC g c q n then 1 + stepsC g c r (q ++ [n]) else 0)).sum
theorem remS_0 (g : GC) (c : Nat → Nat) (r : Nat) (q : List Nat) : stepsC g c (r + 1) q = remS g c r q 0 := rfl
theorem remS_N {g : GC} {c : Nat → Nat} {r k : Nat} {q : List Nat} (h : gN g ≤ k) : remS g c r q k = 0 := by
  unfold remS
  rw [List.drop_of_length_le (by rw [List.length_range]; exact h)]
  rfl
theorem remS_s {g : GC} {c : Nat → Nat} {r k : Nat} {q : List Nat} (h : k < gN g) : remS g c r q k = (if okC g c q k then 1 + stepsC g c r (q ++ [k]) else 0) + remS g c r q (k + 1) := by
  unfold remS
  have e : (List.range (gN g)).drop k = k :: (List.range (gN g)).drop (k + 1) := by
    rw [List.drop_eq_getElem_cons (by rw [List.length_range]; exact h), List.getElem_range]
  rw [e, List.map_cons, List.sum_cons]
theorem remS_no {g : GC} {c : Nat → Nat} {r k : Nat} {q : List Nat} (h : k < gN g) (h2 : okC g c q k = false) : remS g c r q k = remS g c r q (k + 1) := by
  rw [remS_s h, h2]
  exact Nat.zero_add _
theorem remS_yes {g : GC} {c : Nat → Nat} {r k : Nat} {q : List Nat} (h : k < gN g) (h2 : okC g c q k = true) : remS g c r q k = 1 + stepsC g c r (q ++ [k]) + remS g c r q (k + 1) := by
  rw [remS_s h, h2]
  rfl
def StS (w wk : Mem) (q : List Nat) (x : Int32) : Prop := FrI w wk ∧ LieP wk q ∧ rI wk 113 q.length = x
theorem c_M_stepsRising {E : EV} {w : Mem} {g : GC} {cd : Nat → Nat} (hR : MRow (rI w 91) g) (hW : WG g) (hNr : NearP w g) (hC : CandP w g cd) (hcd : ∀ v, v < gV g → cd v < 2 ^ 12) : T E m_M_stepsRising 3 0 0 [.ref 89] w (fun r w2 => r = some (.int (nI (stepsC g cd (gV g) []))) ∧ FrI w w2) := by
  refine T_of (L := [.ref 89, un, un, un]) cf_M_stepsRising rfl (Nat.le_of_ble_eq_true rfl) (fun X hX hF => ?_)
  have hgv := hW.v
  have hgn := hW.n
  have go18 : ∀ (q : List Nat) (k m : Nat) (wk : Mem), q.length < gV g → StS w wk q (nI k - nI 1) → (∀ w2, StS w w2 q (nI k) → G0 E X 0 0 36 [.ref 89, .int (nI (gV g)), .int (nI (m)), .int (nI q.length)] [] w2) → G0 E X 0 0 18 [.ref 89, .int (nI (gV g)), .int (nI (m)), .int (nI q.length)] [] wk := by
    rintro q k m wk hql ⟨h1, h3, h4⟩ hk
    refine g_iload3 hX d_M_stepsRising_18 ?_
    refine g_if_lt hX d_M_stepsRising_19 (fun h => absurd h (nI_pos (by omega))) (fun c0 => ?_)
    refine g_iload1 hX d_M_stepsRising_22 ?_
    refine g_if_le hX d_M_stepsRising_23 (fun h => absurd h (nI_nle0 (by omega) (by omega))) (fun c1 => ?_)
    refine g_aload0 hX d_M_stepsRising_26 ?_
    refine g_getF hX d_M_stepsRising_27 fl_M_111 (lv_89 _) ?_
    refine g_iload3 hX d_M_stepsRising_30 ?_
    refine g_dup2 hX d_M_stepsRising_31 rfl rfl ?_
    refine g_iald hX d_M_stepsRising_32 (lv_113 _) rfl (by omega) ?_
    refine g_topi h4 ?_
    refine g_iconst (v := nI 1) hX d_M_stepsRising_33 rfl ?_
    refine g_iadd hX d_M_stepsRising_34 ?_
    refine g_topi (nI_sa k) ?_
    refine g_iast hX d_M_stepsRising_35 (lv_113 _) rfl (by omega) ?_
    exact hk _ ⟨h1.L, h3.L (Nat.le_refl _), by rw [rI_sI, upd_eq, if_pos rfl]⟩
  have lev : ∀ (r : Nat) (d : Nat) (q : List Nat) (k m : Nat) (wk : Mem), k + d = gN g → q.length + r + 1 = gV g → (∀ n ∈ q, n < gN g) → StS w wk q (nI k) → (∀ w2 : Mem, FrI w w2 → LieP w2 q → G0 E X 0 0 18 [.ref 89, .int (nI (gV g)), .int (nI (m + remS g cd r q k)), .int (nI q.length - nI 1)] [] w2) → G0 E X 0 0 36 [.ref 89, .int (nI (gV g)), .int (nI (m)), .int (nI q.length)] [] wk := by
    intro r
    induction r with
    | zero =>
      intro d
      induction d with
      | zero =>
        intro q k m wk hcd2 hr hq hs hb
        obtain ⟨h1, h3, h4⟩ := hs
        have hql : q.length < gV g := by omega
        have hRk : MRow (rI wk 91) g := by rw [h1.1 91 (by decide) (by decide)]; exact hR
        have hCk : CandP wk g cd := fun u hu => by rw [h1.1 117 (by decide) (by decide)]; exact hC u hu
        have hNk : NearP wk g := fun u hu => by rw [h1.1 110 (by decide) (by decide)]; exact hNr u hu
        have hcq := hcd q.length hql
        refine g_aload0 hX d_M_stepsRising_36 ?_
        refine g_getF hX d_M_stepsRising_37 fl_M_111 (lv_89 _) ?_
        refine g_iload3 hX d_M_stepsRising_40 ?_
        refine g_iald hX d_M_stepsRising_41 (lv_113 _) rfl (by omega) ?_
        refine g_topi h4 ?_
        refine g_aload0 hX d_M_stepsRising_42 ?_
        refine g_getF hX d_M_stepsRising_43 fl_M_13 (lv_89 _) ?_
        refine g_iconst (v := nI 0) hX d_M_stepsRising_46 rfl ?_
        refine g_iald hX d_M_stepsRising_47 (lv_91 _) rfl (by decide) ?_
        refine g_topi hRk.n ?_
        refine g_icmpN_ge hX d_M_stepsRising_48 (by omega) (by omega) (fun c0 => ?_) (fun h => absurd h (by omega))
        refine g_aload0 hX d_M_stepsRising_96 ?_
        refine g_getF hX d_M_stepsRising_97 fl_M_111 (lv_89 _) ?_
        refine g_iload3 hX d_M_stepsRising_100 ?_
        refine g_iald hX d_M_stepsRising_101 (lv_113 _) rfl (by omega) ?_
        refine g_topi h4 ?_
        refine g_aload0 hX d_M_stepsRising_102 ?_
        refine g_getF hX d_M_stepsRising_103 fl_M_13 (lv_89 _) ?_
        refine g_iconst (v := nI 0) hX d_M_stepsRising_106 rfl ?_
        refine g_iald hX d_M_stepsRising_107 (lv_91 _) rfl (by decide) ?_
        refine g_topi hRk.n ?_
        refine g_icmpN_ne hX d_M_stepsRising_108 (by omega) (by omega) (fun h => absurd (by omega) h) (fun c1 => ?_)
        refine g_iinc3 hX d_M_stepsRising_111 (m1_add _) rfl (by decide) ?_
        refine g_goto hX d_M_stepsRising_114 ?_
        rw [remS_N (by omega)] at hb
        exact hb wk h1 h3
      | succ d ihd =>
        intro q k m wk hcd2 hr hq hs hb
        have ihc := ihd q
        obtain ⟨h1, h3, h4⟩ := hs
        have hql : q.length < gV g := by omega
        have hRk : MRow (rI wk 91) g := by rw [h1.1 91 (by decide) (by decide)]; exact hR
        have hCk : CandP wk g cd := fun u hu => by rw [h1.1 117 (by decide) (by decide)]; exact hC u hu
        have hNk : NearP wk g := fun u hu => by rw [h1.1 110 (by decide) (by decide)]; exact hNr u hu
        have hcq := hcd q.length hql
        refine g_aload0 hX d_M_stepsRising_36 ?_
        refine g_getF hX d_M_stepsRising_37 fl_M_111 (lv_89 _) ?_
        refine g_iload3 hX d_M_stepsRising_40 ?_
        refine g_iald hX d_M_stepsRising_41 (lv_113 _) rfl (by omega) ?_
        refine g_topi h4 ?_
        refine g_aload0 hX d_M_stepsRising_42 ?_
        refine g_getF hX d_M_stepsRising_43 fl_M_13 (lv_89 _) ?_
        refine g_iconst (v := nI 0) hX d_M_stepsRising_46 rfl ?_
        refine g_iald hX d_M_stepsRising_47 (lv_91 _) rfl (by decide) ?_
        refine g_topi hRk.n ?_
        refine g_icmpN_ge hX d_M_stepsRising_48 (by omega) (by omega) (fun h => absurd h (by omega)) (fun c0 => ?_)
        refine g_aload0 hX d_M_stepsRising_51 ?_
        refine g_getF hX d_M_stepsRising_52 fl_M_123 (lv_89 _) ?_
        refine g_iload3 hX d_M_stepsRising_55 ?_
        refine g_iald hX d_M_stepsRising_56 (lv_117 _) rfl (by omega) ?_
        refine g_topi (hCk q.length hql) ?_
        refine g_aload0 hX d_M_stepsRising_57 ?_
        refine g_getF hX d_M_stepsRising_58 fl_M_111 (lv_89 _) ?_
        refine g_iload3 hX d_M_stepsRising_61 ?_
        refine g_iald hX d_M_stepsRising_62 (lv_113 _) rfl (by omega) ?_
        refine g_topi h4 ?_
        refine g_callS (As := [_, _]) hX hF.1 d_M_stepsRising_63 ml_M_468 cf_M_is cs_M_is rfl (c_M_is (by omega) (by omega)) (by omega) (by omega) (by omega) (Nat.le_of_ble_eq_true rfl) ?_
        refine ret_k ?_
        refine g_ifB_eq hX d_M_stepsRising_66 (fun e66 => ?_) (fun e66 => ?_)
        · refine g_aload0 hX d_M_stepsRising_83 ?_
          refine g_getF hX d_M_stepsRising_84 fl_M_111 (lv_89 _) ?_
          refine g_iload3 hX d_M_stepsRising_87 ?_
          refine g_dup2 hX d_M_stepsRising_88 rfl rfl ?_
          refine g_iald hX d_M_stepsRising_89 (lv_113 _) rfl (by omega) ?_
          refine g_topi h4 ?_
          refine g_iconst (v := nI 1) hX d_M_stepsRising_90 rfl ?_
          refine g_iaddN hX d_M_stepsRising_91 ?_
          refine g_iast hX d_M_stepsRising_92 (lv_113 _) rfl (by omega) ?_
          refine g_goto hX d_M_stepsRising_93 ?_
          exact ihc (k + 1) m _ (by omega) hr hq ⟨h1.L, h3.L (Nat.le_refl _), by rw [rI_sI, upd_eq, if_pos rfl]⟩ (by rw [remS_no (by omega) (by unfold okC; rw [Bool.eq_false_iff.mpr e66, Bool.false_and])] at hb; exact hb)
        · refine g_aload0 hX d_M_stepsRising_69 ?_
          refine g_iload3 hX d_M_stepsRising_70 ?_
          refine g_aload0 hX d_M_stepsRising_71 ?_
          refine g_getF hX d_M_stepsRising_72 fl_M_111 (lv_89 _) ?_
          refine g_iload3 hX d_M_stepsRising_75 ?_
          refine g_iald hX d_M_stepsRising_76 (lv_113 _) rfl (by omega) ?_
          refine g_topi h4 ?_
          refine g_callV (As := [_, _]) hX hF.1 d_M_stepsRising_77 ml_M_471 cf_M_fits cv_M_fits rfl rfl (c_M_fits (w := wk) (g := g) (q := q) hRk hW hNk hql (by omega) (fun u hu => ⟨h3 u hu, by have := hq _ (gA_mem hu); omega⟩)) (rcv_obj hX (lv_89 _) rfl rfl) (by omega) (by omega) (by omega) (Nat.le_of_ble_eq_true rfl) ?_
          refine ret_k ?_
          refine g_ifB_ne hX d_M_stepsRising_80 (fun e80 => ?_) (fun e80 => ?_)
          · have hok : okC g cd q k = true := by unfold okC; rw [e66, e80]; rfl
            refine g_aload0 hX d_M_stepsRising_96 ?_
            refine g_getF hX d_M_stepsRising_97 fl_M_111 (lv_89 _) ?_
            refine g_iload3 hX d_M_stepsRising_100 ?_
            refine g_iald hX d_M_stepsRising_101 (lv_113 _) rfl (by omega) ?_
            refine g_topi h4 ?_
            refine g_aload0 hX d_M_stepsRising_102 ?_
            refine g_getF hX d_M_stepsRising_103 fl_M_13 (lv_89 _) ?_
            refine g_iconst (v := nI 0) hX d_M_stepsRising_106 rfl ?_
            refine g_iald hX d_M_stepsRising_107 (lv_91 _) rfl (by decide) ?_
            refine g_topi hRk.n ?_
            refine g_icmpN_ne hX d_M_stepsRising_108 (by omega) (by omega) (fun c3 => ?_) (fun h => absurd h (by omega))
            refine g_iincN2 hX d_M_stepsRising_117 rfl (by decide) ?_
            refine g_iload3 hX d_M_stepsRising_120 ?_
            refine g_iload1 hX d_M_stepsRising_121 ?_
            refine g_iconst (v := nI 1) hX d_M_stepsRising_122 rfl ?_
            refine g_isubN hX d_M_stepsRising_123 (by omega) ?_
            refine g_icmpN_ge hX d_M_stepsRising_124 (by omega) (by omega) (fun c4 => ?_) (fun h => absurd h (by omega))
            refine go18 q (k + 1) (m + 1) wk hql ⟨h1, h3, by rw [h4, m1_nI]⟩ (fun w2 hw2 => ihc (k + 1) (m + 1) w2 (by omega) hr hq hw2 ?_)
            rw [remS_yes (by omega) hok, show stepsC g cd 0 (q ++ [k]) = 0 from rfl, ← Nat.add_assoc] at hb
            exact hb
          · refine g_aload0 hX d_M_stepsRising_83 ?_
            refine g_getF hX d_M_stepsRising_84 fl_M_111 (lv_89 _) ?_
            refine g_iload3 hX d_M_stepsRising_87 ?_
            refine g_dup2 hX d_M_stepsRising_88 rfl rfl ?_
            refine g_iald hX d_M_stepsRising_89 (lv_113 _) rfl (by omega) ?_
            refine g_topi h4 ?_
            refine g_iconst (v := nI 1) hX d_M_stepsRising_90 rfl ?_
            refine g_iaddN hX d_M_stepsRising_91 ?_
            refine g_iast hX d_M_stepsRising_92 (lv_113 _) rfl (by omega) ?_
            refine g_goto hX d_M_stepsRising_93 ?_
            exact ihc (k + 1) m _ (by omega) hr hq ⟨h1.L, h3.L (Nat.le_refl _), by rw [rI_sI, upd_eq, if_pos rfl]⟩ (by rw [remS_no (by omega) (by unfold okC; rw [show fitN g q q.length k q.length = false from Bool.eq_false_iff.mpr e80, Bool.and_false])] at hb; exact hb)
    | succ r ihr =>
      intro d
      induction d with
      | zero =>
        intro q k m wk hcd2 hr hq hs hb
        obtain ⟨h1, h3, h4⟩ := hs
        have hql : q.length < gV g := by omega
        have hRk : MRow (rI wk 91) g := by rw [h1.1 91 (by decide) (by decide)]; exact hR
        have hCk : CandP wk g cd := fun u hu => by rw [h1.1 117 (by decide) (by decide)]; exact hC u hu
        have hNk : NearP wk g := fun u hu => by rw [h1.1 110 (by decide) (by decide)]; exact hNr u hu
        have hcq := hcd q.length hql
        refine g_aload0 hX d_M_stepsRising_36 ?_
        refine g_getF hX d_M_stepsRising_37 fl_M_111 (lv_89 _) ?_
        refine g_iload3 hX d_M_stepsRising_40 ?_
        refine g_iald hX d_M_stepsRising_41 (lv_113 _) rfl (by omega) ?_
        refine g_topi h4 ?_
        refine g_aload0 hX d_M_stepsRising_42 ?_
        refine g_getF hX d_M_stepsRising_43 fl_M_13 (lv_89 _) ?_
        refine g_iconst (v := nI 0) hX d_M_stepsRising_46 rfl ?_
        refine g_iald hX d_M_stepsRising_47 (lv_91 _) rfl (by decide) ?_
        refine g_topi hRk.n ?_
        refine g_icmpN_ge hX d_M_stepsRising_48 (by omega) (by omega) (fun c0 => ?_) (fun h => absurd h (by omega))
        refine g_aload0 hX d_M_stepsRising_96 ?_
        refine g_getF hX d_M_stepsRising_97 fl_M_111 (lv_89 _) ?_
        refine g_iload3 hX d_M_stepsRising_100 ?_
        refine g_iald hX d_M_stepsRising_101 (lv_113 _) rfl (by omega) ?_
        refine g_topi h4 ?_
        refine g_aload0 hX d_M_stepsRising_102 ?_
        refine g_getF hX d_M_stepsRising_103 fl_M_13 (lv_89 _) ?_
        refine g_iconst (v := nI 0) hX d_M_stepsRising_106 rfl ?_
        refine g_iald hX d_M_stepsRising_107 (lv_91 _) rfl (by decide) ?_
        refine g_topi hRk.n ?_
        refine g_icmpN_ne hX d_M_stepsRising_108 (by omega) (by omega) (fun h => absurd (by omega) h) (fun c1 => ?_)
        refine g_iinc3 hX d_M_stepsRising_111 (m1_add _) rfl (by decide) ?_
        refine g_goto hX d_M_stepsRising_114 ?_
        rw [remS_N (by omega)] at hb
        exact hb wk h1 h3
      | succ d ihd =>
        intro q k m wk hcd2 hr hq hs hb
        have ihc := ihd q
        obtain ⟨h1, h3, h4⟩ := hs
        have hql : q.length < gV g := by omega
        have hRk : MRow (rI wk 91) g := by rw [h1.1 91 (by decide) (by decide)]; exact hR
        have hCk : CandP wk g cd := fun u hu => by rw [h1.1 117 (by decide) (by decide)]; exact hC u hu
        have hNk : NearP wk g := fun u hu => by rw [h1.1 110 (by decide) (by decide)]; exact hNr u hu
        have hcq := hcd q.length hql
        refine g_aload0 hX d_M_stepsRising_36 ?_
        refine g_getF hX d_M_stepsRising_37 fl_M_111 (lv_89 _) ?_
        refine g_iload3 hX d_M_stepsRising_40 ?_
        refine g_iald hX d_M_stepsRising_41 (lv_113 _) rfl (by omega) ?_
        refine g_topi h4 ?_
        refine g_aload0 hX d_M_stepsRising_42 ?_
        refine g_getF hX d_M_stepsRising_43 fl_M_13 (lv_89 _) ?_
        refine g_iconst (v := nI 0) hX d_M_stepsRising_46 rfl ?_
        refine g_iald hX d_M_stepsRising_47 (lv_91 _) rfl (by decide) ?_
        refine g_topi hRk.n ?_
        refine g_icmpN_ge hX d_M_stepsRising_48 (by omega) (by omega) (fun h => absurd h (by omega)) (fun c0 => ?_)
        refine g_aload0 hX d_M_stepsRising_51 ?_
        refine g_getF hX d_M_stepsRising_52 fl_M_123 (lv_89 _) ?_
        refine g_iload3 hX d_M_stepsRising_55 ?_
        refine g_iald hX d_M_stepsRising_56 (lv_117 _) rfl (by omega) ?_
        refine g_topi (hCk q.length hql) ?_
        refine g_aload0 hX d_M_stepsRising_57 ?_
        refine g_getF hX d_M_stepsRising_58 fl_M_111 (lv_89 _) ?_
        refine g_iload3 hX d_M_stepsRising_61 ?_
        refine g_iald hX d_M_stepsRising_62 (lv_113 _) rfl (by omega) ?_
        refine g_topi h4 ?_
        refine g_callS (As := [_, _]) hX hF.1 d_M_stepsRising_63 ml_M_468 cf_M_is cs_M_is rfl (c_M_is (by omega) (by omega)) (by omega) (by omega) (by omega) (Nat.le_of_ble_eq_true rfl) ?_
        refine ret_k ?_
        refine g_ifB_eq hX d_M_stepsRising_66 (fun e66 => ?_) (fun e66 => ?_)
        · refine g_aload0 hX d_M_stepsRising_83 ?_
          refine g_getF hX d_M_stepsRising_84 fl_M_111 (lv_89 _) ?_
          refine g_iload3 hX d_M_stepsRising_87 ?_
          refine g_dup2 hX d_M_stepsRising_88 rfl rfl ?_
          refine g_iald hX d_M_stepsRising_89 (lv_113 _) rfl (by omega) ?_
          refine g_topi h4 ?_
          refine g_iconst (v := nI 1) hX d_M_stepsRising_90 rfl ?_
          refine g_iaddN hX d_M_stepsRising_91 ?_
          refine g_iast hX d_M_stepsRising_92 (lv_113 _) rfl (by omega) ?_
          refine g_goto hX d_M_stepsRising_93 ?_
          exact ihc (k + 1) m _ (by omega) hr hq ⟨h1.L, h3.L (Nat.le_refl _), by rw [rI_sI, upd_eq, if_pos rfl]⟩ (by rw [remS_no (by omega) (by unfold okC; rw [Bool.eq_false_iff.mpr e66, Bool.false_and])] at hb; exact hb)
        · refine g_aload0 hX d_M_stepsRising_69 ?_
          refine g_iload3 hX d_M_stepsRising_70 ?_
          refine g_aload0 hX d_M_stepsRising_71 ?_
          refine g_getF hX d_M_stepsRising_72 fl_M_111 (lv_89 _) ?_
          refine g_iload3 hX d_M_stepsRising_75 ?_
          refine g_iald hX d_M_stepsRising_76 (lv_113 _) rfl (by omega) ?_
          refine g_topi h4 ?_
          refine g_callV (As := [_, _]) hX hF.1 d_M_stepsRising_77 ml_M_471 cf_M_fits cv_M_fits rfl rfl (c_M_fits (w := wk) (g := g) (q := q) hRk hW hNk hql (by omega) (fun u hu => ⟨h3 u hu, by have := hq _ (gA_mem hu); omega⟩)) (rcv_obj hX (lv_89 _) rfl rfl) (by omega) (by omega) (by omega) (Nat.le_of_ble_eq_true rfl) ?_
          refine ret_k ?_
          refine g_ifB_ne hX d_M_stepsRising_80 (fun e80 => ?_) (fun e80 => ?_)
          · have hok : okC g cd q k = true := by unfold okC; rw [e66, e80]; rfl
            refine g_aload0 hX d_M_stepsRising_96 ?_
            refine g_getF hX d_M_stepsRising_97 fl_M_111 (lv_89 _) ?_
            refine g_iload3 hX d_M_stepsRising_100 ?_
            refine g_iald hX d_M_stepsRising_101 (lv_113 _) rfl (by omega) ?_
            refine g_topi h4 ?_
            refine g_aload0 hX d_M_stepsRising_102 ?_
            refine g_getF hX d_M_stepsRising_103 fl_M_13 (lv_89 _) ?_
            refine g_iconst (v := nI 0) hX d_M_stepsRising_106 rfl ?_
            refine g_iald hX d_M_stepsRising_107 (lv_91 _) rfl (by decide) ?_
            refine g_topi hRk.n ?_
            refine g_icmpN_ne hX d_M_stepsRising_108 (by omega) (by omega) (fun c3 => ?_) (fun h => absurd h (by omega))
            refine g_iincN2 hX d_M_stepsRising_117 rfl (by decide) ?_
            refine g_iload3 hX d_M_stepsRising_120 ?_
            refine g_iload1 hX d_M_stepsRising_121 ?_
            refine g_iconst (v := nI 1) hX d_M_stepsRising_122 rfl ?_
            refine g_isubN hX d_M_stepsRising_123 (by omega) ?_
            refine g_icmpN_ge hX d_M_stepsRising_124 (by omega) (by omega) (fun h => absurd h (by omega)) (fun c4 => ?_)
            refine g_iincN3 hX d_M_stepsRising_127 rfl (by decide) ?_
            refine g_aload0 hX d_M_stepsRising_130 ?_
            refine g_getF hX d_M_stepsRising_131 fl_M_111 (lv_89 _) ?_
            refine g_iload3 hX d_M_stepsRising_134 ?_
            refine g_iconst (v := -1) hX d_M_stepsRising_135 rfl ?_
            refine g_iast hX d_M_stepsRising_136 (lv_113 _) rfl (by omega) ?_
            refine g_goto hX d_M_stepsRising_137 ?_
            refine g_loc (show _ = [.ref 89, .int (nI (gV g)), .int (nI (m + 1)), .int (nI (q ++ [k]).length)] by rw [List.length_append]; rfl) ?_
            refine go18 (q ++ [k]) 0 (m + 1) _ (by rw [List.length_append, List.length_singleton]; omega) ⟨h1.L, (h3.snoc h4).L (by rw [List.length_append, List.length_singleton]; exact Nat.le_refl _), by rw [List.length_append, List.length_singleton, rI_sI, upd_eq, if_pos rfl]; decide⟩ (fun w2 hw2 => ihr (gN g) (q ++ [k]) 0 (m + 1) w2 (by omega) (by rw [List.length_append, List.length_singleton]; omega) (mem_snoc hq (by omega)) hw2 (fun w3 z1 z3 => ?_))
            obtain ⟨y1, y2⟩ := z3.init
            rw [← remS_0]
            refine g_loc (show _ = [.ref 89, .int (nI (gV g)), .int (nI (m + 1 + stepsC g cd (r + 1) (q ++ [k]))), .int (nI q.length)] by rw [List.length_append, List.length_singleton, m1_nI]) ?_
            refine go18 q (k + 1) _ w3 hql ⟨z1, y1, by rw [y2, m1_nI]⟩ (fun w4 hw4 => ihc (k + 1) _ w4 (by omega) hr hq hw4 ?_)
            rw [remS_yes (by omega) hok, ← Nat.add_assoc, ← Nat.add_assoc] at hb
            exact hb
          · refine g_aload0 hX d_M_stepsRising_83 ?_
            refine g_getF hX d_M_stepsRising_84 fl_M_111 (lv_89 _) ?_
            refine g_iload3 hX d_M_stepsRising_87 ?_
            refine g_dup2 hX d_M_stepsRising_88 rfl rfl ?_
            refine g_iald hX d_M_stepsRising_89 (lv_113 _) rfl (by omega) ?_
            refine g_topi h4 ?_
            refine g_iconst (v := nI 1) hX d_M_stepsRising_90 rfl ?_
            refine g_iaddN hX d_M_stepsRising_91 ?_
            refine g_iast hX d_M_stepsRising_92 (lv_113 _) rfl (by omega) ?_
            refine g_goto hX d_M_stepsRising_93 ?_
            exact ihc (k + 1) m _ (by omega) hr hq ⟨h1.L, h3.L (Nat.le_refl _), by rw [rI_sI, upd_eq, if_pos rfl]⟩ (by rw [remS_no (by omega) (by unfold okC; rw [show fitN g q q.length k q.length = false from Bool.eq_false_iff.mpr e80, Bool.and_false])] at hb; exact hb)
  refine g_aload0 hX d_M_stepsRising_0 ?_
  refine g_getF hX d_M_stepsRising_1 fl_M_13 (lv_89 _) ?_
  refine g_iconst (v := nI 1) hX d_M_stepsRising_4 rfl ?_
  refine g_iald hX d_M_stepsRising_5 (lv_91 _) rfl (by decide) ?_
  refine g_topi hR.v ?_
  refine g_istore1 hX d_M_stepsRising_6 rfl (by decide) ?_
  refine g_iconst (v := nI 0) hX d_M_stepsRising_7 rfl ?_
  refine g_istore2 hX d_M_stepsRising_8 rfl (by decide) ?_
  refine g_iconst (v := nI 0) hX d_M_stepsRising_9 rfl ?_
  refine g_istore3 hX d_M_stepsRising_10 rfl (by decide) ?_
  refine g_aload0 hX d_M_stepsRising_11 ?_
  refine g_getF hX d_M_stepsRising_12 fl_M_111 (lv_89 _) ?_
  refine g_iconst (v := nI 0) hX d_M_stepsRising_15 rfl ?_
  refine g_iconst (v := -1) hX d_M_stepsRising_16 rfl ?_
  refine g_iast hX d_M_stepsRising_17 (lv_113 _) rfl (by decide) ?_
  have hfr : FrI w (sI w 113 0 (-1)) := (FrI.rf w).L
  by_cases hv0 : gV g = 0
  · rw [hv0]
    refine g_iload3 hX d_M_stepsRising_18 ?_
    refine g_if_lt hX d_M_stepsRising_19 (fun h => absurd h (by decide)) (fun c0 => ?_)
    refine g_iload1 hX d_M_stepsRising_22 ?_
    refine g_if_le hX d_M_stepsRising_23 (fun c1 => ?_) (fun h => absurd (by decide) h)
    refine g_iload2 hX d_M_stepsRising_140 ?_
    refine g_iret hX hF d_M_stepsRising_141 (by omega) (by omega) ?_
    exact ⟨by rw [hv0]; rfl, hfr⟩
  have e0 : stepsC g cd (gV g) [] = remS g cd (gV g - 1) [] 0 := by
    rw [← remS_0, show gV g - 1 + 1 = gV g by omega]
  refine go18 [] 0 0 _ (by show 0 < gV g; omega) ⟨hfr, fun u hu => absurd hu (Nat.not_lt_zero _), by show rI (sI _ 113 0 _) 113 0 = _; rw [rI_sI, upd_eq, if_pos rfl]; decide⟩ (fun w2 hw2 => ?_)
  refine lev (gV g - 1) (gN g) [] 0 0 w2 (by omega) (by show 0 + (gV g - 1) + 1 = gV g; omega) (by simp) hw2 (fun w3 z1 z3 => ?_)
  refine g_iload3 hX d_M_stepsRising_18 ?_
  refine g_if_lt hX d_M_stepsRising_19 (fun c0 => ?_) (fun h => absurd (by decide) h)
  refine g_iload2 hX d_M_stepsRising_140 ?_
  refine g_iret hX hF d_M_stepsRising_141 (by omega) (by omega) ?_
  exact ⟨by rw [e0, Nat.zero_add], z1⟩
