def m_M_isSo : MR := (⟨"SubgraphDeskModel", "isSo", "(I)Z"⟩, prog_14_method_68_code, 2, (some .boolean))
theorem cf_M_isSo : CF m_M_isSo 1 := ⟨gd 1764 (by decide +kernel) rfl, gd 151 (by decide +kernel) rfl, by decide +kernel, by decide, by decide +kernel⟩
theorem cv_M_isSo : CV m_M_isSo := ⟨gd 1763 (by decide +kernel) rfl, gd 67 (by decide +kernel) rfl⟩
theorem d_M_isSo_0 : Dc prog_14_method_68_code 0 (.aload_n 0) 1 1 := ⟨by decide +kernel, rfl⟩
theorem d_M_isSo_1 : Dc prog_14_method_68_code 1 (.getfield 13) 3 4 := ⟨by decide +kernel, rfl⟩
theorem d_M_isSo_4 : Dc prog_14_method_68_code 4 (.iload_n 1) 1 5 := ⟨by decide +kernel, rfl⟩
theorem d_M_isSo_5 : Dc prog_14_method_68_code 5 (.iconst 5) 1 6 := ⟨by decide +kernel, rfl⟩
theorem d_M_isSo_6 : Dc prog_14_method_68_code 6 (.iadd) 1 7 := ⟨by decide +kernel, rfl⟩
theorem d_M_isSo_7 : Dc prog_14_method_68_code 7 (.iaload) 1 8 := ⟨by decide +kernel, rfl⟩
theorem d_M_isSo_8 : Dc prog_14_method_68_code 8 (.aload_n 0) 1 9 := ⟨by decide +kernel, rfl⟩
theorem d_M_isSo_9 : Dc prog_14_method_68_code 9 (.getfield 13) 3 12 := ⟨by decide +kernel, rfl⟩
theorem d_M_isSo_12 : Dc prog_14_method_68_code 12 (.iload_n 1) 1 13 := ⟨by decide +kernel, rfl⟩
theorem d_M_isSo_13 : Dc prog_14_method_68_code 13 (.bipush 6) 2 15 := ⟨by decide +kernel, rfl⟩
theorem d_M_isSo_15 : Dc prog_14_method_68_code 15 (.iadd) 1 16 := ⟨by decide +kernel, rfl⟩
theorem d_M_isSo_16 : Dc prog_14_method_68_code 16 (.iaload) 1 17 := ⟨by decide +kernel, rfl⟩
theorem d_M_isSo_17 : Dj prog_14_method_68_code 17 (.if_icmp .ge 42) 20 42 59 := ⟨by decide +kernel, rfl, rfl⟩
theorem d_M_isSo_20 : Dc prog_14_method_68_code 20 (.aload_n 0) 1 21 := ⟨by decide +kernel, rfl⟩
theorem d_M_isSo_21 : Dc prog_14_method_68_code 21 (.aload_n 0) 1 22 := ⟨by decide +kernel, rfl⟩
theorem d_M_isSo_22 : Dc prog_14_method_68_code 22 (.getfield 13) 3 25 := ⟨by decide +kernel, rfl⟩
theorem d_M_isSo_25 : Dc prog_14_method_68_code 25 (.iload_n 1) 1 26 := ⟨by decide +kernel, rfl⟩
theorem d_M_isSo_26 : Dc prog_14_method_68_code 26 (.iconst 5) 1 27 := ⟨by decide +kernel, rfl⟩
theorem d_M_isSo_27 : Dc prog_14_method_68_code 27 (.iadd) 1 28 := ⟨by decide +kernel, rfl⟩
theorem d_M_isSo_28 : Dc prog_14_method_68_code 28 (.iaload) 1 29 := ⟨by decide +kernel, rfl⟩
theorem d_M_isSo_29 : Dc prog_14_method_68_code 29 (.aload_n 0) 1 30 := ⟨by decide +kernel, rfl⟩
theorem d_M_isSo_30 : Dc prog_14_method_68_code 30 (.getfield 13) 3 33 := ⟨by decide +kernel, rfl⟩
theorem d_M_isSo_33 : Dc prog_14_method_68_code 33 (.iload_n 1) 1 34 := ⟨by decide +kernel, rfl⟩
theorem d_M_isSo_34 : Dc prog_14_method_68_code 34 (.bipush 6) 2 36 := ⟨by decide +kernel, rfl⟩
theorem d_M_isSo_36 : Dc prog_14_method_68_code 36 (.iadd) 1 37 := ⟨by decide +kernel, rfl⟩
theorem d_M_isSo_37 : Dc prog_14_method_68_code 37 (.iaload) 1 38 := ⟨by decide +kernel, rfl⟩
theorem d_M_isSo_38 : Dc prog_14_method_68_code 38 (.invokevirtual 426) 3 41 := ⟨by decide +kernel, rfl⟩
theorem d_M_isSo_41 : Dc prog_14_method_68_code 41 (.aload_n 0) 1 42 := ⟨by decide +kernel, rfl⟩
theorem d_M_isSo_42 : Dc prog_14_method_68_code 42 (.getfield 409) 3 45 := ⟨by decide +kernel, rfl⟩
theorem d_M_isSo_45 : Dj prog_14_method_68_code 45 (.ifCond .ne 12) 48 12 57 := ⟨by decide +kernel, rfl, rfl⟩
theorem d_M_isSo_48 : Dc prog_14_method_68_code 48 (.aload_n 0) 1 49 := ⟨by decide +kernel, rfl⟩
theorem d_M_isSo_49 : Dc prog_14_method_68_code 49 (.getfield 423) 3 52 := ⟨by decide +kernel, rfl⟩
theorem d_M_isSo_52 : Dc prog_14_method_68_code 52 (.lconst 0) 1 53 := ⟨by decide +kernel, rfl⟩
theorem d_M_isSo_53 : Dc prog_14_method_68_code 53 (.lcmp) 1 54 := ⟨by decide +kernel, rfl⟩
theorem d_M_isSo_54 : Dj prog_14_method_68_code 54 (.ifCond .ne 5) 57 5 59 := ⟨by decide +kernel, rfl, rfl⟩
theorem d_M_isSo_57 : Dc prog_14_method_68_code 57 (.iconst 0) 1 58 := ⟨by decide +kernel, rfl⟩
theorem d_M_isSo_58 : Dc prog_14_method_68_code 58 (.ireturn) 1 59 := ⟨by decide +kernel, rfl⟩
theorem d_M_isSo_59 : Dc prog_14_method_68_code 59 (.aload_n 0) 1 60 := ⟨by decide +kernel, rfl⟩
theorem d_M_isSo_60 : Dc prog_14_method_68_code 60 (.getfield 13) 3 63 := ⟨by decide +kernel, rfl⟩
theorem d_M_isSo_63 : Dc prog_14_method_68_code 63 (.iload_n 1) 1 64 := ⟨by decide +kernel, rfl⟩
theorem d_M_isSo_64 : Dc prog_14_method_68_code 64 (.iaload) 1 65 := ⟨by decide +kernel, rfl⟩
theorem d_M_isSo_65 : Dj prog_14_method_68_code 65 (.ifCond .ne 44) 68 44 109 := ⟨by decide +kernel, rfl, rfl⟩
theorem d_M_isSo_68 : Dc prog_14_method_68_code 68 (.aload_n 0) 1 69 := ⟨by decide +kernel, rfl⟩
theorem d_M_isSo_69 : Dc prog_14_method_68_code 69 (.aload_n 0) 1 70 := ⟨by decide +kernel, rfl⟩
theorem d_M_isSo_70 : Dc prog_14_method_68_code 70 (.getfield 13) 3 73 := ⟨by decide +kernel, rfl⟩
theorem d_M_isSo_73 : Dc prog_14_method_68_code 73 (.iload_n 1) 1 74 := ⟨by decide +kernel, rfl⟩
theorem d_M_isSo_74 : Dc prog_14_method_68_code 74 (.iconst 3) 1 75 := ⟨by decide +kernel, rfl⟩
theorem d_M_isSo_75 : Dc prog_14_method_68_code 75 (.iadd) 1 76 := ⟨by decide +kernel, rfl⟩
theorem d_M_isSo_76 : Dc prog_14_method_68_code 76 (.iaload) 1 77 := ⟨by decide +kernel, rfl⟩
theorem d_M_isSo_77 : Dc prog_14_method_68_code 77 (.aload_n 0) 1 78 := ⟨by decide +kernel, rfl⟩
theorem d_M_isSo_78 : Dc prog_14_method_68_code 78 (.getfield 13) 3 81 := ⟨by decide +kernel, rfl⟩
theorem d_M_isSo_81 : Dc prog_14_method_68_code 81 (.iload_n 1) 1 82 := ⟨by decide +kernel, rfl⟩
theorem d_M_isSo_82 : Dc prog_14_method_68_code 82 (.iconst 4) 1 83 := ⟨by decide +kernel, rfl⟩
theorem d_M_isSo_83 : Dc prog_14_method_68_code 83 (.iadd) 1 84 := ⟨by decide +kernel, rfl⟩
theorem d_M_isSo_84 : Dc prog_14_method_68_code 84 (.iaload) 1 85 := ⟨by decide +kernel, rfl⟩
theorem d_M_isSo_85 : Dc prog_14_method_68_code 85 (.invokevirtual 426) 3 88 := ⟨by decide +kernel, rfl⟩
theorem d_M_isSo_88 : Dc prog_14_method_68_code 88 (.aload_n 0) 1 89 := ⟨by decide +kernel, rfl⟩
theorem d_M_isSo_89 : Dc prog_14_method_68_code 89 (.aload_n 0) 1 90 := ⟨by decide +kernel, rfl⟩
theorem d_M_isSo_90 : Dc prog_14_method_68_code 90 (.getfield 423) 3 93 := ⟨by decide +kernel, rfl⟩
theorem d_M_isSo_93 : Dc prog_14_method_68_code 93 (.putfield 429) 3 96 := ⟨by decide +kernel, rfl⟩
theorem d_M_isSo_96 : Dc prog_14_method_68_code 96 (.aload_n 0) 1 97 := ⟨by decide +kernel, rfl⟩
theorem d_M_isSo_97 : Dc prog_14_method_68_code 97 (.getfield 409) 3 100 := ⟨by decide +kernel, rfl⟩
theorem d_M_isSo_100 : Dj prog_14_method_68_code 100 (.ifCond .ne 7) 103 7 107 := ⟨by decide +kernel, rfl, rfl⟩
theorem d_M_isSo_103 : Dc prog_14_method_68_code 103 (.iconst 1) 1 104 := ⟨by decide +kernel, rfl⟩
theorem d_M_isSo_104 : Dj prog_14_method_68_code 104 (.goto 4) 107 4 108 := ⟨by decide +kernel, rfl, rfl⟩
theorem d_M_isSo_107 : Dc prog_14_method_68_code 107 (.iconst 0) 1 108 := ⟨by decide +kernel, rfl⟩
theorem d_M_isSo_108 : Dc prog_14_method_68_code 108 (.ireturn) 1 109 := ⟨by decide +kernel, rfl⟩
theorem d_M_isSo_109 : Dc prog_14_method_68_code 109 (.iconst 1) 1 110 := ⟨by decide +kernel, rfl⟩
theorem d_M_isSo_110 : Dc prog_14_method_68_code 110 (.ireturn) 1 111 := ⟨by decide +kernel, rfl⟩
theorem fl_M_429 : FL "SubgraphDeskModel" 429 12 40 false .long (2, 0) := ⟨R_M, F_M, 69, ty_M, rfl, rfl, in_M, tyok_M, nm_M, by decide, gd 1512 (by decide +kernel) rfl, rfl, rfl, rfl⟩
theorem ml_M_426 : Cond.methodLink "SubgraphDeskModel" 426 m_M_reckonAll.1 ∈ lw_gd := gd 1765 (by decide +kernel) rfl
/-- a law's text stands where it is reckoned -/
def LawAt (w : Mem) (law : Nat) (op arg : Nat → Nat) (len : Nat) (env : Nat → Int) : Prop := rI w 89 34 = nI law ∧ law + 98 + 2 * len ≤ 5510 ∧ len ≤ 400 ∧ okOp op arg len ∧ (∀ j, j < len → rI w 91 (law + 98 + 2 * j) = nI (op j) ∧ rI w 91 (law + 98 + 2 * j + 1) = nI (arg j)) ∧ rI w 89 20 = nI 0 ∧ (∀ j, j < len → 0 < op j → op j < 20 → op j < 13 ∧ rJ w 107 (op j) = lI (env (if op j = 6 then 20 + arg j else op j)) ∧ bd (env (if op j = 6 then 20 + arg j else op j)))
theorem LawAt.fr {w w2 : Mem} {law len : Nat} {op arg : Nat → Nat} {env : Nat → Int} (h : LawAt w law op arg len env) (hf : FrE w w2) : LawAt w2 law op arg len env := by
  obtain ⟨h1, h2, h3, h4, h5, h6, h7⟩ := h
  refine ⟨by rw [hf.2.1 34 (by decide)]; exact h1, h2, h3, h4, by rw [hf.1 91 (by decide)]; exact h5, by rw [hf.2.1 20 (by decide)]; exact h6, by rw [hf.2.2.1 107 (by decide) (by decide)]; exact h7⟩
theorem c_law {E : EV} {w : Mem} {law len a b : Nat} {op arg : Nat → Nat} {env : Nat → Int} {f : Den} (h : LawAt w law op arg len env) (hs : SegM op arg a b f) (hb : b ≤ len) : T E m_M_reckonAll 1 0 0 [.ref 89, .int (nI a), .int (nI b)] w (fun r w2 => r = none ∧ FrE w w2 ∧ EvP (f env) w2) := by
  obtain ⟨h1, h2, h3, h4, h5, h6, h7⟩ := h
  exact c_M_reckonAllL (len := 0) hs (fun j hj => by have := h4 j (by omega); exact ⟨this.1, this.2.1, fun z => (this.2.2 z).1⟩) (by omega) h1 (by omega) (fun j hj => h5 j (by omega)) h6 (fun j hj => h7 j (by omega))
/-- whether a clause tells, and what -/
def clSo (env : Nat → Int) (q : Bool × Den × Option Den) : Option Int :=
  match q.2.2 with
  | none => if q.1 then q.2.1 env else some 1
  | some t => match t env with
    | none => none
    | some z => if z = 0 then none else if q.1 then q.2.1 env else some 1
def SoP (q : Bool × Den × Option Den) (c : Option Int) (r : Option Value) (w2 : Mem) : Prop := match c with
  | none => r = some (.int (nI 0))
  | some z => r = some (.int (nI 1)) ∧ (q.1 = true → rJ w2 89 40 = lI z ∧ bd z)
theorem ev_n {w2 : Mem} {r : Option Int} (h : EvP r w2) (hb : ¬ rI w2 89 38 = 0) : r = none := by
  cases r with
  | none => rfl
  | some v => exact absurd h.1 hb
theorem ev_s {w2 : Mem} {r : Option Int} (h : EvP r w2) (hb : rI w2 89 38 = 0) : ∃ v, r = some v ∧ rJ w2 89 39 = lI v ∧ bd v := by
  cases r with
  | none =>
    have h2 : rI w2 89 38 = nI 1 := h
    rw [h2] at hb
    exact absurd hb (by decide)
  | some v => exact ⟨v, rfl, h.2⟩
theorem SoP_n {q : Bool × Den × Option Den} {env : Nat → Int} {w2 : Mem} (hq : q.1 = true) (h : q.2.1 env = none) : SoP q (if q.1 then q.2.1 env else some 1) (some (.int (nI 0))) w2 := by
  rw [if_pos hq, h]
  exact rfl
theorem SoP_y {q : Bool × Den × Option Den} {env : Nat → Int} {w2 : Mem} {v : Int} (hq : q.1 = true) (h : q.2.1 env = some v) (h2 : rJ w2 89 40 = lI v) (h3 : bd v) : SoP q (if q.1 then q.2.1 env else some 1) (some (.int (nI 1))) w2 := by
  rw [if_pos hq, h]
  exact ⟨rfl, fun _ => ⟨h2, h3⟩⟩
theorem SoP_b {q : Bool × Den × Option Den} {env : Nat → Int} {w2 : Mem} (hq : ¬ q.1 = true) : SoP q (if q.1 then q.2.1 env else some 1) (some (.int (nI 1))) w2 := by
  rw [if_neg hq]
  exact ⟨rfl, fun z => absurd z hq⟩
theorem c_M_isSo {E : EV} {w : Mem} {law len k : Nat} {op arg : Nat → Nat} {env : Nat → Int} {q : Bool × Den × Option Den} (hA : LawAt w law op arg len env) (hc : MClause (fun j => rI w 91 (law + j)) op arg len k q) (hkl : k + 7 ≤ 98) : T E m_M_isSo 2 0 0 [.ref 89, .int (nI (law + k))] w (fun r w2 => FrE w w2 ∧ SoP q (clSo env q) r w2) := by
  refine T_of (L := [.ref 89, .int (nI (law + k))]) cf_M_isSo rfl (Nat.le_of_ble_eq_true rfl) (fun X hX hF => ?_)
  obtain ⟨hk, a, b, t, e, ha, hb, ht, he, hbl, hel, htl, hsg, htt⟩ := hc
  have hl2 := hA.2.1
  have hl3 := hA.2.2.1
  have kH : ∀ (wk : Mem), FrE w wk → (∀ r w2, FrE w w2 → SoP q (if q.1 then q.2.1 env else some 1) r w2 → FrE w w2 ∧ SoP q (clSo env q) r w2) → G0 E X 0 0 59 [.ref 89, .int (nI (law + k))] [] wk := by
    intro wk hwk hfin
    by_cases hq : q.1 = true
    · refine g_aload0 hX d_M_isSo_59 ?_
      refine g_getF hX d_M_isSo_60 fl_M_13 (lv_89 _) ?_
      refine g_iload1 hX d_M_isSo_63 ?_
      refine g_iald hX d_M_isSo_64 (lv_91 _) rfl (by omega) ?_
      refine g_topi (show rI wk 91 (law + k) = nI 0 by rw [hwk.1 91 (by decide)]; exact (hk.trans (if_pos hq))) ?_
      refine g_if_ne hX d_M_isSo_65 (fun h => absurd rfl h) (fun c0 => ?_)
      refine g_aload0 hX d_M_isSo_68 ?_
      refine g_aload0 hX d_M_isSo_69 ?_
      refine g_getF hX d_M_isSo_70 fl_M_13 (lv_89 _) ?_
      refine g_iload1 hX d_M_isSo_73 ?_
      refine g_iconst (v := nI 3) hX d_M_isSo_74 rfl ?_
      refine g_iaddN hX d_M_isSo_75 ?_
      refine g_iald hX d_M_isSo_76 (lv_91 _) rfl (by omega) ?_
      refine g_topi (show rI wk 91 (law + k + 3) = nI a by rw [hwk.1 91 (by decide)]; rw [Nat.add_assoc]; exact ha) ?_
      refine g_aload0 hX d_M_isSo_77 ?_
      refine g_getF hX d_M_isSo_78 fl_M_13 (lv_89 _) ?_
      refine g_iload1 hX d_M_isSo_81 ?_
      refine g_iconst (v := nI 4) hX d_M_isSo_82 rfl ?_
      refine g_iaddN hX d_M_isSo_83 ?_
      refine g_iald hX d_M_isSo_84 (lv_91 _) rfl (by omega) ?_
      refine g_topi (show rI wk 91 (law + k + 4) = nI b by rw [hwk.1 91 (by decide)]; rw [Nat.add_assoc]; exact hb) ?_
      refine g_callV (As := [_, _]) hX hF.1 d_M_isSo_85 ml_M_426 cf_M_reckonAll cv_M_reckonAll rfl rfl (c_law (hA.fr hwk) (hsg hq) hbl) (rcv_obj hX (lv_89 _) rfl rfl) (by omega) (by omega) (by omega) (Nat.le_of_ble_eq_true rfl) ?_
      rintro _ w2 ⟨rfl, hw2, he⟩
      show G0 _ _ _ _ _ _ _ _
      refine g_aload0 hX d_M_isSo_88 ?_
      refine g_aload0 hX d_M_isSo_89 ?_
      refine g_getJ hX d_M_isSo_90 fl_M_423 (lv_89 _) ?_
      refine g_putJ hX d_M_isSo_93 fl_M_429 (lv_89 _) ?_
      refine g_aload0 hX d_M_isSo_96 ?_
      refine g_getZ hX d_M_isSo_97 fl_M_409 (lv_89 _) ?_
      refine g_if_ne hX d_M_isSo_100 (fun e100 => ?_) (fun e100 => ?_)
      · refine g_iconst (v := nI 0) hX d_M_isSo_107 rfl ?_
        refine g_zret hX hF d_M_isSo_108 (Or.inl rfl) (by omega) (by omega) ?_
        refine hfin _ _ (hwk.tr (FrE.J9 (by decide) hw2)) ?_
        first
          | exact SoP_n hq (ev_n he e100)
          | (obtain ⟨v, g1, g2, g3⟩ := ev_s he e100
             exact SoP_y hq g1 (by rw [rJ_sJ, updL_eq, if_pos rfl]; exact g2) g3)
      · refine g_iconst (v := nI 1) hX d_M_isSo_103 rfl ?_
        refine g_goto hX d_M_isSo_104 ?_
        refine g_zret hX hF d_M_isSo_108 (Or.inr rfl) (by omega) (by omega) ?_
        refine hfin _ _ (hwk.tr (FrE.J9 (by decide) hw2)) ?_
        first
          | exact SoP_n hq (ev_n he e100)
          | (obtain ⟨v, g1, g2, g3⟩ := ev_s he e100
             exact SoP_y hq g1 (by rw [rJ_sJ, updL_eq, if_pos rfl]; exact g2) g3)
    · refine g_aload0 hX d_M_isSo_59 ?_
      refine g_getF hX d_M_isSo_60 fl_M_13 (lv_89 _) ?_
      refine g_iload1 hX d_M_isSo_63 ?_
      refine g_iald hX d_M_isSo_64 (lv_91 _) rfl (by omega) ?_
      refine g_topi (show rI wk 91 (law + k) = nI 1 by rw [hwk.1 91 (by decide)]; exact (hk.trans (if_neg hq))) ?_
      refine g_if_ne hX d_M_isSo_65 (fun c0 => ?_) (fun h => absurd h (by decide))
      refine g_iconst (v := nI 1) hX d_M_isSo_109 rfl ?_
      refine g_zret hX hF d_M_isSo_110 (Or.inr rfl) (by omega) (by omega) ?_
      exact hfin _ _ hwk (SoP_b hq)
  by_cases hte : t < e
  · obtain ⟨t0, hqt⟩ : ∃ t0, q.2.2 = some t0 := by
      cases hq2 : q.2.2 with
      | none =>
        rw [hq2] at htt
        have : t = e := htt
        omega
      | some f => exact ⟨f, rfl⟩
    rw [hqt] at htt
    have htx : SegM op arg t e t0 := htt
    refine g_aload0 hX d_M_isSo_0 ?_
    refine g_getF hX d_M_isSo_1 fl_M_13 (lv_89 _) ?_
    refine g_iload1 hX d_M_isSo_4 ?_
    refine g_iconst (v := nI 5) hX d_M_isSo_5 rfl ?_
    refine g_iaddN hX d_M_isSo_6 ?_
    refine g_iald hX d_M_isSo_7 (lv_91 _) rfl (by omega) ?_
    refine g_topi (show rI w 91 (law + k + 5) = nI t by rw [Nat.add_assoc]; exact ht) ?_
    refine g_aload0 hX d_M_isSo_8 ?_
    refine g_getF hX d_M_isSo_9 fl_M_13 (lv_89 _) ?_
    refine g_iload1 hX d_M_isSo_12 ?_
    refine g_bipush (v := nI 6) hX d_M_isSo_13 rfl ?_
    refine g_iaddN hX d_M_isSo_15 ?_
    refine g_iald hX d_M_isSo_16 (lv_91 _) rfl (by omega) ?_
    refine g_topi (show rI w 91 (law + k + 6) = nI e by rw [Nat.add_assoc]; exact he) ?_
    refine g_icmpN_ge hX d_M_isSo_17 (by omega) (by omega) (fun h => absurd h (by omega)) (fun e17 => ?_)
    refine g_aload0 hX d_M_isSo_20 ?_
    refine g_aload0 hX d_M_isSo_21 ?_
    refine g_getF hX d_M_isSo_22 fl_M_13 (lv_89 _) ?_
    refine g_iload1 hX d_M_isSo_25 ?_
    refine g_iconst (v := nI 5) hX d_M_isSo_26 rfl ?_
    refine g_iaddN hX d_M_isSo_27 ?_
    refine g_iald hX d_M_isSo_28 (lv_91 _) rfl (by omega) ?_
    refine g_topi (show rI w 91 (law + k + 5) = nI t by rw [Nat.add_assoc]; exact ht) ?_
    refine g_aload0 hX d_M_isSo_29 ?_
    refine g_getF hX d_M_isSo_30 fl_M_13 (lv_89 _) ?_
    refine g_iload1 hX d_M_isSo_33 ?_
    refine g_bipush (v := nI 6) hX d_M_isSo_34 rfl ?_
    refine g_iaddN hX d_M_isSo_36 ?_
    refine g_iald hX d_M_isSo_37 (lv_91 _) rfl (by omega) ?_
    refine g_topi (show rI w 91 (law + k + 6) = nI e by rw [Nat.add_assoc]; exact he) ?_
    refine g_callV (As := [_, _]) hX hF.1 d_M_isSo_38 ml_M_426 cf_M_reckonAll cv_M_reckonAll rfl rfl (c_law hA htx hel) (rcv_obj hX (lv_89 _) rfl rfl) (by omega) (by omega) (by omega) (Nat.le_of_ble_eq_true rfl) ?_
    rintro _ w1 ⟨rfl, hw1, he1⟩
    show G0 _ _ _ _ _ _ _ _
    refine g_aload0 hX d_M_isSo_41 ?_
    refine g_getZ hX d_M_isSo_42 fl_M_409 (lv_89 _) ?_
    refine g_if_ne hX d_M_isSo_45 (fun e45 => ?_) (fun e45 => ?_)
    · refine g_iconst (v := nI 0) hX d_M_isSo_57 rfl ?_
      refine g_zret hX hF d_M_isSo_58 (Or.inl rfl) (by omega) (by omega) ?_
      refine ⟨hw1, ?_⟩
      unfold clSo
      rw [hqt]
      show SoP q (match t0 env with | none => none | some z => if z = 0 then none else if q.1 then q.2.1 env else some 1) _ _
      first
        | (rw [ev_n he1 e45]; exact rfl)
        | (rw [g1]; show SoP q (if v = 0 then none else _) _ _; rw [if_pos e54]; exact rfl)
    · obtain ⟨v, g1, g2, g3⟩ := ev_s he1 e45
      refine g_aload0 hX d_M_isSo_48 ?_
      refine g_getJ hX d_M_isSo_49 fl_M_423 (lv_89 _) ?_
      refine g_topl g2 ?_
      refine g_lconst (v := lN 0) hX d_M_isSo_52 rfl ?_
      refine g_lcmp_ne hX d_M_isSo_53 d_M_isSo_54 (fun e54 => ?_) (fun e54 => ?_)
      · have e54 : ¬ v = 0 := fun z => e54 (by rw [z]; rfl)
        refine kH w1 hw1 (fun r w2 z1 z2 => ⟨z1, ?_⟩)
        unfold clSo
        rw [hqt]
        show SoP q (match t0 env with | none => none | some z => if z = 0 then none else if q.1 then q.2.1 env else some 1) _ _
        rw [g1]
        show SoP q (if v = 0 then none else _) _ _
        rw [if_neg e54]
        exact z2
      · have e54 : v = 0 := (lI_eq (b := 0) (by omega) (by omega)).mp e54
        refine g_iconst (v := nI 0) hX d_M_isSo_57 rfl ?_
        refine g_zret hX hF d_M_isSo_58 (Or.inl rfl) (by omega) (by omega) ?_
        refine ⟨hw1, ?_⟩
        unfold clSo
        rw [hqt]
        show SoP q (match t0 env with | none => none | some z => if z = 0 then none else if q.1 then q.2.1 env else some 1) _ _
        first
          | (rw [ev_n he1 e45]; exact rfl)
          | (rw [g1]; show SoP q (if v = 0 then none else _) _ _; rw [if_pos e54]; exact rfl)
  · have hqt : q.2.2 = none := by
      cases hq2 : q.2.2 with
      | none => rfl
      | some f =>
        rw [hq2] at htt
        exact absurd htt.1 hte
    refine g_aload0 hX d_M_isSo_0 ?_
    refine g_getF hX d_M_isSo_1 fl_M_13 (lv_89 _) ?_
    refine g_iload1 hX d_M_isSo_4 ?_
    refine g_iconst (v := nI 5) hX d_M_isSo_5 rfl ?_
    refine g_iaddN hX d_M_isSo_6 ?_
    refine g_iald hX d_M_isSo_7 (lv_91 _) rfl (by omega) ?_
    refine g_topi (show rI w 91 (law + k + 5) = nI t by rw [Nat.add_assoc]; exact ht) ?_
    refine g_aload0 hX d_M_isSo_8 ?_
    refine g_getF hX d_M_isSo_9 fl_M_13 (lv_89 _) ?_
    refine g_iload1 hX d_M_isSo_12 ?_
    refine g_bipush (v := nI 6) hX d_M_isSo_13 rfl ?_
    refine g_iaddN hX d_M_isSo_15 ?_
    refine g_iald hX d_M_isSo_16 (lv_91 _) rfl (by omega) ?_
    refine g_topi (show rI w 91 (law + k + 6) = nI e by rw [Nat.add_assoc]; exact he) ?_
    refine g_icmpN_ge hX d_M_isSo_17 (by omega) (by omega) (fun e17 => ?_) (fun h => absurd h (by omega))
    refine kH w (FrE.rf w) (fun r w2 g1 g2 => ⟨g1, ?_⟩)
    unfold clSo
    rw [hqt]
    exact g2
