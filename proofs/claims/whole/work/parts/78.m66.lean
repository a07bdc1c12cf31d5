def m_M_giveBack : MR := (⟨"SubgraphDeskModel", "giveBack", "(I)V"⟩, prog_14_method_129_code, 3, none)
theorem cf_M_giveBack : CF m_M_giveBack 1 := ⟨gd 2212 (by decide +kernel) rfl, gd 151 (by decide +kernel) rfl, by decide +kernel, by decide, by decide +kernel⟩
theorem cv_M_giveBack : CV m_M_giveBack := ⟨gd 2211 (by decide +kernel) rfl, gd 135 (by decide +kernel) rfl⟩
theorem d_M_giveBack_0 : Dc prog_14_method_129_code 0 (.aload_n 0) 1 1 := ⟨by decide +kernel, rfl⟩
theorem d_M_giveBack_1 : Dc prog_14_method_129_code 1 (.bipush 17) 2 3 := ⟨by decide +kernel, rfl⟩
theorem d_M_giveBack_3 : Dc prog_14_method_129_code 3 (.invokevirtual 187) 3 6 := ⟨by decide +kernel, rfl⟩
theorem d_M_giveBack_6 : Dc prog_14_method_129_code 6 (.iconst 0) 1 7 := ⟨by decide +kernel, rfl⟩
theorem d_M_giveBack_7 : Dc prog_14_method_129_code 7 (.istore_n 2) 1 8 := ⟨by decide +kernel, rfl⟩
theorem d_M_giveBack_8 : Dc prog_14_method_129_code 8 (.iload_n 2) 1 9 := ⟨by decide +kernel, rfl⟩
theorem d_M_giveBack_9 : Dc prog_14_method_129_code 9 (.sipush 1472) 3 12 := ⟨by decide +kernel, rfl⟩
theorem d_M_giveBack_12 : Dj prog_14_method_129_code 12 (.if_icmp .ge 21) 15 21 33 := ⟨by decide +kernel, rfl, rfl⟩
theorem d_M_giveBack_15 : Dc prog_14_method_129_code 15 (.aload_n 0) 1 16 := ⟨by decide +kernel, rfl⟩
theorem d_M_giveBack_16 : Dc prog_14_method_129_code 16 (.getfield 23) 3 19 := ⟨by decide +kernel, rfl⟩
theorem d_M_giveBack_19 : Dc prog_14_method_129_code 19 (.iload_n 2) 1 20 := ⟨by decide +kernel, rfl⟩
theorem d_M_giveBack_20 : Dc prog_14_method_129_code 20 (.aload_n 0) 1 21 := ⟨by decide +kernel, rfl⟩
theorem d_M_giveBack_21 : Dc prog_14_method_129_code 21 (.getfield 29) 3 24 := ⟨by decide +kernel, rfl⟩
theorem d_M_giveBack_24 : Dc prog_14_method_129_code 24 (.iload_n 2) 1 25 := ⟨by decide +kernel, rfl⟩
theorem d_M_giveBack_25 : Dc prog_14_method_129_code 25 (.iaload) 1 26 := ⟨by decide +kernel, rfl⟩
theorem d_M_giveBack_26 : Dc prog_14_method_129_code 26 (.iastore) 1 27 := ⟨by decide +kernel, rfl⟩
theorem d_M_giveBack_27 : Dc prog_14_method_129_code 27 (.iinc 2 1) 3 30 := ⟨by decide +kernel, rfl⟩
theorem d_M_giveBack_30 : Dj prog_14_method_129_code 30 (.goto (-22)) 33 (-22) 8 := ⟨by decide +kernel, rfl, rfl⟩
theorem d_M_giveBack_33 : Dc prog_14_method_129_code 33 (.iconst 0) 1 34 := ⟨by decide +kernel, rfl⟩
theorem d_M_giveBack_34 : Dc prog_14_method_129_code 34 (.istore_n 2) 1 35 := ⟨by decide +kernel, rfl⟩
theorem d_M_giveBack_35 : Dc prog_14_method_129_code 35 (.iload_n 2) 1 36 := ⟨by decide +kernel, rfl⟩
theorem d_M_giveBack_36 : Dc prog_14_method_129_code 36 (.bipush 16) 2 38 := ⟨by decide +kernel, rfl⟩
theorem d_M_giveBack_38 : Dj prog_14_method_129_code 38 (.if_icmp .ge 21) 41 21 59 := ⟨by decide +kernel, rfl, rfl⟩
theorem d_M_giveBack_41 : Dc prog_14_method_129_code 41 (.aload_n 0) 1 42 := ⟨by decide +kernel, rfl⟩
theorem d_M_giveBack_42 : Dc prog_14_method_129_code 42 (.getfield 26) 3 45 := ⟨by decide +kernel, rfl⟩
theorem d_M_giveBack_45 : Dc prog_14_method_129_code 45 (.iload_n 2) 1 46 := ⟨by decide +kernel, rfl⟩
theorem d_M_giveBack_46 : Dc prog_14_method_129_code 46 (.aload_n 0) 1 47 := ⟨by decide +kernel, rfl⟩
theorem d_M_giveBack_47 : Dc prog_14_method_129_code 47 (.getfield 32) 3 50 := ⟨by decide +kernel, rfl⟩
theorem d_M_giveBack_50 : Dc prog_14_method_129_code 50 (.iload_n 2) 1 51 := ⟨by decide +kernel, rfl⟩
theorem d_M_giveBack_51 : Dc prog_14_method_129_code 51 (.iaload) 1 52 := ⟨by decide +kernel, rfl⟩
theorem d_M_giveBack_52 : Dc prog_14_method_129_code 52 (.iastore) 1 53 := ⟨by decide +kernel, rfl⟩
theorem d_M_giveBack_53 : Dc prog_14_method_129_code 53 (.iinc 2 1) 3 56 := ⟨by decide +kernel, rfl⟩
theorem d_M_giveBack_56 : Dj prog_14_method_129_code 56 (.goto (-21)) 59 (-21) 35 := ⟨by decide +kernel, rfl, rfl⟩
theorem d_M_giveBack_59 : Dc prog_14_method_129_code 59 (.aload_n 0) 1 60 := ⟨by decide +kernel, rfl⟩
theorem d_M_giveBack_60 : Dc prog_14_method_129_code 60 (.iload_n 1) 1 61 := ⟨by decide +kernel, rfl⟩
theorem d_M_giveBack_61 : Dc prog_14_method_129_code 61 (.putfield 176) 3 64 := ⟨by decide +kernel, rfl⟩
theorem d_M_giveBack_64 : Dc prog_14_method_129_code 64 (.return_) 1 65 := ⟨by decide +kernel, rfl⟩
theorem fl_M_29 : FL "SubgraphDeskModel" 29 12 9 true (.array .int) (3, 7) := ⟨R_M, F_M, 69, ty_M, rfl, rfl, in_M, tyok_M, nm_M, by decide, gd 1481 (by decide +kernel) rfl, rfl, rfl, rfl⟩
theorem fl_M_32 : FL "SubgraphDeskModel" 32 12 10 true (.array .int) (3, 8) := ⟨R_M, F_M, 69, ty_M, rfl, rfl, in_M, tyok_M, nm_M, by decide, gd 1482 (by decide +kernel) rfl, rfl, rfl, rfl⟩
theorem MUndo.congO {f so f2 so2 : Nat → Int32} {x : Int32} {g : GC} {u : List (Nat × Snap)} (h : MUndo f so x g u) (hn : gN g ≤ 12) (hv : gV g ≤ 5) (e1 : ∀ i, i < 1472 → f2 i = f i) (e2 : ∀ i, i < 16 → so2 i = so i) : MUndo f2 so2 x g u := by
  obtain ⟨h1, h2, h3⟩ := h
  refine ⟨h1, h2, fun k q hq => ?_⟩
  have hk := (List.getElem?_eq_some_iff.mp hq).1
  obtain ⟨g1, g2, ⟨s1, s2, s3, s4, s5, s6⟩, g4⟩ := h3 k q hq
  have el := WG.el g4
  refine ⟨g1, by rw [e2 k (by omega)]; exact g2, ⟨fun i hi => ?_, fun i hi => ?_, fun v hv2 => ?_, fun v hv2 => ?_, ?_, fun m hm => ?_⟩, g4⟩
  · show f2 _ = _; rw [e1 _ (by omega)]; exact s1 i hi
  · show f2 _ = _; rw [e1 _ (by omega)]; exact s2 i hi
  · show f2 _ = _; rw [e1 _ (by omega)]; exact s3 v hv2
  · show f2 _ = _; rw [e1 _ (by omega)]; exact s4 v hv2
  · show f2 _ = _; rw [e1 _ (by omega)]; exact s5
  · have hm2 : m < (gE (unsnap g q.2)).length := hm
    show f2 _ = _; rw [e1 _ (by omega)]; exact s6 m hm
/-- what acts never change -/
def SameK (g g2 : GC) : Prop := gN g2 = gN g ∧ gV g2 = gV g ∧ gS g2 = gS g ∧ gL g2 = gL g ∧ gF g2 = gF g
theorem SameK.rf (g : GC) : SameK g g := ⟨rfl, rfl, rfl, rfl, rfl⟩
theorem SameK.tr {a b c : GC} (h : SameK a b) (h2 : SameK b c) : SameK a c := ⟨h2.1.trans h.1, h2.2.1.trans h.2.1, h2.2.2.1.trans h.2.2.1, h2.2.2.2.1.trans h.2.2.2.1, h2.2.2.2.2.trans h.2.2.2.2⟩
theorem SameK.un {g g2 : GC} (h : SameK g g2) : unsnap g2 (snapOf g) = g := by
  unfold unsnap
  rw [h.1, h.2.1, h.2.2.1, h.2.2.2.1, h.2.2.2.2]
  rfl
theorem aAct_same (g : GC) (a : Nat) (x y : Int32) (u : List (Nat × Snap)) : SameK g (aAct a x y g u).2.1 := by
  unfold aAct
  split
  · by_cases h1 : x = y
    · rw [aEdge_1 h1]; exact SameK.rf g
    · by_cases h2 : inN x (gN g) ∧ inN y (gN g)
      · rw [aEdge_ok h1 h2]; exact ⟨rfl, rfl, rfl, rfl, rfl⟩
      · rw [aEdge_2 h1 h2]; exact SameK.rf g
  · split
    · by_cases h1 : x = y
      · rw [aLink_1 h1]; exact SameK.rf g
      · by_cases h2 : inN x (gV g) ∧ inN y (gV g)
        · rw [aLink_ok h1 h2]; exact ⟨rfl, rfl, rfl, rfl, rfl⟩
        · rw [aLink_2 h1 h2]; exact SameK.rf g
    · split
      · by_cases h1 : inN y 6
        · by_cases h2 : inN x (gN g)
          · by_cases h3 : gC g (tn x) = tn y
            · rw [aPaint_3 h1 h2 h3]; exact SameK.rf g
            · rw [aPaint_ok h1 h2 h3]; exact ⟨rfl, rfl, rfl, rfl, rfl⟩
          · rw [aPaint_2 h1 h2]; exact SameK.rf g
        · rw [aPaint_1 h1]; exact SameK.rf g
      · by_cases h1 : inN y 7
        · by_cases h2 : inN x (gV g)
          · by_cases h3 : gY g (tn x) = tn y
            · rw [aDye_3 h1 h2 h3]; exact SameK.rf g
            · rw [aDye_ok h1 h2 h3]; exact ⟨rfl, rfl, rfl, rfl, rfl⟩
          · rw [aDye_2 h1 h2]; exact SameK.rf g
        · rw [aDye_1 h1]; exact SameK.rf g
theorem ordDo_sm {q : OcT} {s s2 : RSt} (hW : WG s.1) (h : ordDo q s = some s2) : tlS s2.2.2.2 ∧ s2.2.2.1 ≤ s.2.2.1 + 1 ∧ SameK s.1 s2.1 := by
  unfold ordDo at h
  split at h
  · cases h
  · split at h
    · cases h
    · split at h
      · cases h
      · rename_i hn
        injection h with h
        rw [← h]
        refine ⟨?_, Nat.le_refl _, aAct_same _ _ _ _ _⟩
        rcases aAct_ok hW q.1 (Int32.ofInt _) (Int32.ofInt _) s.2.1 with z | z
        · exact absurd z hn
        · exact z
theorem ordOne_sm {q : OcT} {s s2 : RSt} (hW : WG s.1) (hl : tlS s.2.2.2) (h : ordOne q s = some s2) : tlS s2.2.2.2 ∧ s2.2.2.1 ≤ s.2.2.1 + 1 ∧ SameK s.1 s2.1 := by
  unfold ordOne at h
  have same : some s = some s2 → tlS s2.2.2.2 ∧ s2.2.2.1 ≤ s.2.2.1 + 1 ∧ SameK s.1 s2.1 := fun z => by
    injection z with z
    rw [← z]
    exact ⟨hl, Nat.le_succ _, SameK.rf _⟩
  split at h
  · exact ordDo_sm hW h
  · split at h
    · exact same h
    · split at h
      · exact same h
      · exact ordDo_sm hW h
noncomputable def timesR (q : OcT) : Nat → RSt → Option RSt
  | 0, s => some s
  | m + 1, s => match ordOne q s with
    | none => none
    | some s2 => timesR q m s2
noncomputable def runsR : List OcT → Nat → RSt → Nat ⊕ RSt
  | [], _, s => .inr s
  | q :: l, k, s => match timesR q q.2.2.2.1 s with
    | none => .inl k
    | some s2 => runsR l (k + 1) s2
theorem timesR_no {q : OcT} {m : Nat} {s : RSt} (h : ordOne q s = none) : timesR q (m + 1) s = none := by rw [timesR, h]
theorem timesR_ok {q : OcT} {m : Nat} {s s2 : RSt} (h : ordOne q s = some s2) : timesR q (m + 1) s = timesR q m s2 := by rw [timesR, h]
theorem runsR_no {q : OcT} {l : List OcT} {k : Nat} {s : RSt} (h : timesR q q.2.2.2.1 s = none) : runsR (q :: l) k s = .inl k := by rw [runsR, h]
theorem runsR_ok {q : OcT} {l : List OcT} {k : Nat} {s s2 : RSt} (h : timesR q q.2.2.2.1 s = some s2) : runsR (q :: l) k s = runsR l (k + 1) s2 := by rw [runsR, h]
/-- the orders from the k-th on, m of them at most -/
noncomputable def ordGo (t : List Nat) : Nat → Nat → Nat → Nat → Nat ⊕ List OcT
  | 0, _, f, _ => .inl f
  | m + 1, k, f, p => match ordCl t k f p with
    | .inl e => .inl e
    | .inr (f2, p2, q) => if isS t f2 59 then (match ordGo t m (k + 1) (nxT t f2) p2 with
        | .inl e => .inl e
        | .inr l => .inr (q :: l)) else if srt t f2 = 0 then .inr [q] else .inl f2
noncomputable def ordT (t : List Nat) : Nat ⊕ List OcT := ordGo t 13 0 (runE t 0 0) 0
/-- behind an order -/
noncomputable def ordRest (t : List Nat) (m k f p : Nat) : Nat ⊕ List OcT := if isS t f 59 then ordGo t m k (nxT t f) p else if srt t f = 0 then .inr [] else .inl f
def ordAll (cls : List OcT) (r : Nat ⊕ List OcT) : Nat ⊕ List OcT := match r with
  | .inl e => .inl e
  | .inr l => .inr (cls ++ l)
theorem ordGo_bad {t : List Nat} {m k f p e : Nat} {cls : List OcT} (h : ordCl t k f p = .inl e) : ordAll cls (ordGo t (m + 1) k f p) = .inl e := by
  rw [ordGo, h]; rfl
theorem ordGo_ok {t : List Nat} {m k f p f2 p2 : Nat} {q : OcT} {cls : List OcT} (h : ordCl t k f p = .inr (f2, p2, q)) : ordAll cls (ordGo t (m + 1) k f p) = ordAll (cls ++ [q]) (ordRest t m (k + 1) f2 p2) := by
  rw [ordGo, h]
  unfold ordRest
  show ordAll cls (if isS t f2 59 then _ else _) = _
  by_cases h1 : isS t f2 59
  · rw [if_pos h1, if_pos h1]
    cases ordGo t m (k + 1) (nxT t f2) p2 with
    | inl e => rfl
    | inr l => show Sum.inr (cls ++ (q :: l)) = Sum.inr ((cls ++ [q]) ++ l); rw [List.append_assoc]; rfl
  · rw [if_neg h1, if_neg h1]
    by_cases h2 : srt t f2 = 0
    · rw [if_pos h2, if_pos h2]
      show Sum.inr (cls ++ [q]) = Sum.inr ((cls ++ [q]) ++ [])
      rw [List.append_nil]
    · rw [if_neg h2, if_neg h2]; rfl
theorem ordCl_12 {t : List Nat} {k f p : Nat} {z : Nat × Nat × OcT} (h : ordCl t k f p = .inr z) : k < 12 := by
  by_cases e : 12 ≤ k
  · unfold ordCl at h; rw [if_pos e] at h; cases h
  · omega
noncomputable def ordersA (s : SG) : An := match ordT (sTp s) with
  | .inl e => sNo 6 (wFa (wTp s []) (nI e))
  | .inr cls => match runsR cls 0 (sG s, sU s, 0, -1) with
    | .inl k => sNo 3 (wSp (wFa (wTp s []) (-1)) (nI k))
    | .inr z => sOk (nI z.2.2.1) (wU (wG (wFa (wTp s []) (-1)) z.1) z.2.1)
noncomputable def opOrders (s : SG) : An := ordersA (wSp s (-1))
/-- graph and undos as kept before the orders are run -/
def KeepP (w w2 : Mem) : Prop := (∀ i, i < 92 → rI w2 94 (1564 + i) = rI w 91 (6 + i)) ∧ (∀ i, i < 1472 → rI w2 96 i = rI w 94 i) ∧ (∀ i, i < 16 → rI w2 97 i = rI w 95 i)
theorem KeepP.X {w w2 w3 : Mem} (h : KeepP w w2) (f : FrX w2 w3) : KeepP w w3 := ⟨fun i hi => by rw [f.2.2.2.2 _ (by omega)]; exact h.1 i hi, fun i hi => by rw [f.1 96 (by decide) (by decide) (by decide) (by decide) (Or.inl (by decide))]; exact h.2.1 i hi, fun i hi => by rw [f.1 97 (by decide) (by decide) (by decide) (by decide) (Or.inl (by decide))]; exact h.2.2 i hi⟩
/-- the world given back -/
def GvB (w : Mem) (k : Nat) : Mem := sI (sA (sA (sA w 91 (va_cpy (rI w 94) (rI w 91) 1564 6 92)) 94 (va_cpy (rI w 96) (rI w 94) 0 0 1472)) 95 (va_cpy (rI w 97) (rI w 95) 0 0 16)) 89 8 (nI k)
theorem MInv.runs {w w2 : Mem} {s : SG} {g : GC} {u : List (Nat × Snap)} (h : MInv w s) (hf : FrX w w2) (hg : MGU w2 g u) (z : rI w2 89 20 = nI 0) : MInv w2 (wU (wG s g) u) := by
  obtain ⟨h1, h2, h3, h4, h5, h6, h7, h8, h9, h10, h11⟩ := h
  have e : ∀ a, a < 110 → a ≠ 89 → a ≠ 91 → a ≠ 94 → a ≠ 95 → rI w2 a = rI w a := fun a a0 a1 a2 a3 a4 => hf.1 a a1 a2 a3 a4 (Or.inl a0)
  refine ⟨⟨hg.1, hg.2.1, hg.2.2.1⟩, hg.2.2.2, ?_, ?_, ?_, ?_, ?_, ?_, ?_, ?_, z⟩
  · rw [e 98 (by decide) (by decide) (by decide) (by decide) (by decide), hf.2.1 13 (by decide)]; exact h3
  · rw [e 92 (by decide) (by decide) (by decide) (by decide) (by decide), e 93 (by decide) (by decide) (by decide) (by decide) (by decide)]; exact h4
  · rw [e 90 (by decide) (by decide) (by decide) (by decide) (by decide)]; exact h5
  · rw [hf.2.1 1 (by decide)]; exact h6
  · rw [hf.2.1 18 (by decide)]; exact h7
  · rw [hf.2.1 11 (by decide)]; exact h8
  · rw [hf.2.1 64 (by decide)]; exact h9
  · rw [hf.1 127 (by decide) (by decide) (by decide) (by decide) (Or.inr (by decide)), hf.2.1 68 (by decide)]; exact h10
theorem MInv.giveB {w w1 w2 : Mem} {s : SG} {g2 : GC} {u2 : List (Nat × Snap)} (h : MInv w s) (h1 : MInv w1 s) (hk : KeepP w w2) (hf : FrX w1 w2) (hg : MGU w2 g2 u2) (hs : SameK (sG s) g2) (z : rI w2 89 20 = nI 0) : MInv (GvB w2 (sU s).length) s := by
  obtain ⟨⟨hR, hL, hW⟩, hU, -⟩ := h
  have hI := h1.runs hf hg z
  obtain ⟨-, -, i3, i4, i5, i6, i7, i8, i9, i10, i11⟩ := hI
  have e91 : rI (GvB w2 (sU s).length) 91 = va_cpy (rI w2 94) (rI w2 91) 1564 6 92 := rfl
  have e94 : rI (GvB w2 (sU s).length) 94 = va_cpy (rI w2 96) (rI w2 94) 0 0 1472 := rfl
  have e95 : rI (GvB w2 (sU s).length) 95 = va_cpy (rI w2 97) (rI w2 95) 0 0 16 := rfl
  have ea : ∀ a, a ≠ 89 → a ≠ 91 → a ≠ 94 → a ≠ 95 → rI (GvB w2 (sU s).length) a = rI w2 a := fun a a1 a2 a3 a4 => by
    unfold GvB
    rw [rI_sI_ne _ _ _ a1, rI_sA_ne _ _ a4, rI_sA_ne _ _ a3, rI_sA_ne _ _ a2]
  have e9 : ∀ k, k ≠ 8 → rI (GvB w2 (sU s).length) 89 k = rI w2 89 k := fun k hk2 => by
    unfold GvB
    rw [rI_sI, upd_eq, if_neg hk2]
    rfl
  have e8 : rI (GvB w2 (sU s).length) 89 8 = nI (sU s).length := by
    unfold GvB
    rw [rI_sI, upd_eq, if_pos rfl]
  unfold MInv
  rw [e91, e94, e95, e8, ea 98 (by decide) (by decide) (by decide) (by decide), ea 92 (by decide) (by decide) (by decide) (by decide), ea 93 (by decide) (by decide) (by decide) (by decide), ea 90 (by decide) (by decide) (by decide) (by decide), ea 127 (by decide) (by decide) (by decide) (by decide), e9 13 (by decide), e9 1 (by decide), e9 18 (by decide), e9 11 (by decide), e9 64 (by decide), e9 68 (by decide), e9 20 (by decide)]
  refine ⟨⟨?_, ?_, hW⟩, ?_, i3, i4, i5, i6, i7, i8, i9, i10, i11⟩
  · have hS := hR.snap (h := fun i => rI w2 94 (1564 + i)) hW hk.1
    have hr := MSnap.row (f := rI w2 91) (g := g2) (q := snapOf (sG s)) hg.1 hg.2.2.1 (by rw [hs.un]; exact hW) (by rw [hs.1, hs.2.1]; exact hS)
    rw [hs.un] at hr
    have ef : va_cpy (rI w2 94) (rI w2 91) 1564 6 92 = va_cpy (fun i => rI w2 94 (1564 + i)) (rI w2 91) 0 6 92 := by
      funext i
      unfold va_cpy
      split
      · rw [Nat.zero_add]
      · rfl
    rw [ef]
    exact hr
  · have hl2 := hg.2.1
    rw [hs.2.2.2.1] at hl2
    exact hl2.congr (fun i hi => by unfold va_cpy; rw [if_neg (by omega)])
  · have hu := hU
    rw [hU.n] at hu
    refine hu.congO hW.n hW.v (fun i hi => ?_) (fun i hi => ?_)
    · unfold va_cpy
      rw [if_pos (by omega), Nat.zero_add, Nat.sub_zero]
      exact hk.2.1 i hi
    · unfold va_cpy
      rw [if_pos (by omega), Nat.zero_add, Nat.sub_zero]
      exact hk.2.2 i hi
theorem c_M_giveBack {E : EV} {w : Mem} {k : Nat} : T E m_M_giveBack 1 0 0 [.ref 89, .int (nI k)] w (Ret none (GvB w k)) := by
  refine T_of (L := [.ref 89, .int (nI k), un]) cf_M_giveBack rfl (Nat.le_of_ble_eq_true rfl) (fun X hX hF => ?_)
  have kC : G0 E X 0 0 59 [.ref 89, .int (nI k), .int (nI 16)] [] (sA (sA (sA w 91 (va_cpy (rI w 94) (rI w 91) 1564 6 92)) 94 (va_cpy (rI w 96) (rI w 94) 0 0 1472)) 95 (va_cpy (rI w 97) (rI w 95) 0 0 16)) := by
    refine g_aload0 hX d_M_giveBack_59 ?_
    refine g_iload1 hX d_M_giveBack_60 ?_
    refine g_putI hX d_M_giveBack_61 fl_M_176 (lv_89 _) ?_
    refine g_vret hX hF d_M_giveBack_64 (by omega) (by omega) ?_
    exact ⟨rfl, rfl⟩
  have lpB : ∀ (fuel : Nat) (i : Nat), 16 - i < fuel → (i ≤ 16) → G0 E X 0 0 35 [.ref 89, .int (nI k), .int (nI i)] [] (sA (sA (sA w 91 (va_cpy (rI w 94) (rI w 91) 1564 6 92)) 94 (va_cpy (rI w 96) (rI w 94) 0 0 1472)) 95 (va_cpy (rI w 97) (rI w 95) 0 0 i)) := by
    intro fuel
    induction fuel with
    | zero => intro i q0; exact absurd q0 (Nat.not_lt_zero _)
    | succ fuel ih =>
      intro i q0 q1
      refine g_iload2 hX d_M_giveBack_35 ?_
      refine g_bipush (v := nI 16) hX d_M_giveBack_36 rfl ?_
      refine g_icmpN_ge hX d_M_giveBack_38 (by omega) (by omega) (fun c0 => ?_) (fun c0 => ?_)
      · obtain rfl : i = 16 := by omega
        exact kC
      · refine g_aload0 hX d_M_giveBack_41 ?_
        refine g_getF hX d_M_giveBack_42 fl_M_26 (lv_89 _) ?_
        refine g_iload2 hX d_M_giveBack_45 ?_
        refine g_aload0 hX d_M_giveBack_46 ?_
        refine g_getF hX d_M_giveBack_47 fl_M_32 (lv_89 _) ?_
        refine g_iload2 hX d_M_giveBack_50 ?_
        refine g_iald hX d_M_giveBack_51 (lv_97 _) rfl (by omega) ?_
        refine g_topi (show rI (sA (sA (sA w 91 (va_cpy (rI w 94) (rI w 91) 1564 6 92)) 94 (va_cpy (rI w 96) (rI w 94) 0 0 1472)) 95 (va_cpy (rI w 97) (rI w 95) 0 0 i)) 97 i = rI w 97 (0 + i) by rw [rI_sA_ne _ _ (by decide), Nat.zero_add]; rfl) ?_
        refine g_iast hX d_M_giveBack_52 (lv_95 _) rfl (by omega) ?_
        refine g_iincN2 hX d_M_giveBack_53 rfl (by decide) ?_
        refine g_goto hX d_M_giveBack_56 ?_
        refine g_mem (sI_sA _ _ _ _ _) ?_
        refine g_mem (by rw [show upd (va_cpy (rI w 97) (rI w 95) 0 0 i) i (rI w 97 (0 + i)) = va_cpy (rI w 97) (rI w 95) 0 0 (i + 1) by have := cpy_s (rI w 97) (rI w 95) 0 0 i; rw [Nat.zero_add i] at this ⊢; exact this]) ?_
        exact ih (i + 1) (by omega) (by omega)
  have kB : G0 E X 0 0 33 [.ref 89, .int (nI k), .int (nI 1472)] [] (sA (sA w 91 (va_cpy (rI w 94) (rI w 91) 1564 6 92)) 94 (va_cpy (rI w 96) (rI w 94) 0 0 1472)) := by
    refine g_iconst (v := nI 0) hX d_M_giveBack_33 rfl ?_
    refine g_istore2 hX d_M_giveBack_34 rfl (by decide) ?_
    refine g_mem (show (sA (sA w 91 (va_cpy (rI w 94) (rI w 91) 1564 6 92)) 94 (va_cpy (rI w 96) (rI w 94) 0 0 1472)) = (sA (sA (sA w 91 (va_cpy (rI w 94) (rI w 91) 1564 6 92)) 94 (va_cpy (rI w 96) (rI w 94) 0 0 1472)) 95 (va_cpy (rI w 97) (rI w 95) 0 0 0)) by rw [cpy_0]; exact (sA_self (sA (sA w 91 (va_cpy (rI w 94) (rI w 91) 1564 6 92)) 94 (va_cpy (rI w 96) (rI w 94) 0 0 1472)) 95).symm) ?_
    exact lpB 17 0 (by omega) (by omega)
  have lpA : ∀ (fuel : Nat) (i : Nat), 1472 - i < fuel → (i ≤ 1472) → G0 E X 0 0 8 [.ref 89, .int (nI k), .int (nI i)] [] (sA (sA w 91 (va_cpy (rI w 94) (rI w 91) 1564 6 92)) 94 (va_cpy (rI w 96) (rI w 94) 0 0 i)) := by
    intro fuel
    induction fuel with
    | zero => intro i q0; exact absurd q0 (Nat.not_lt_zero _)
    | succ fuel ih =>
      intro i q0 q1
      refine g_iload2 hX d_M_giveBack_8 ?_
      refine g_sipush (v := nI 1472) hX d_M_giveBack_9 rfl ?_
      refine g_icmpN_ge hX d_M_giveBack_12 (by omega) (by omega) (fun c0 => ?_) (fun c0 => ?_)
      · obtain rfl : i = 1472 := by omega
        exact kB
      · refine g_aload0 hX d_M_giveBack_15 ?_
        refine g_getF hX d_M_giveBack_16 fl_M_23 (lv_89 _) ?_
        refine g_iload2 hX d_M_giveBack_19 ?_
        refine g_aload0 hX d_M_giveBack_20 ?_
        refine g_getF hX d_M_giveBack_21 fl_M_29 (lv_89 _) ?_
        refine g_iload2 hX d_M_giveBack_24 ?_
        refine g_iald hX d_M_giveBack_25 (lv_96 _) rfl (by omega) ?_
        refine g_topi (show rI (sA (sA w 91 (va_cpy (rI w 94) (rI w 91) 1564 6 92)) 94 (va_cpy (rI w 96) (rI w 94) 0 0 i)) 96 i = rI w 96 (0 + i) by rw [rI_sA_ne _ _ (by decide), Nat.zero_add]; rfl) ?_
        refine g_iast hX d_M_giveBack_26 (lv_94 _) rfl (by omega) ?_
        refine g_iincN2 hX d_M_giveBack_27 rfl (by decide) ?_
        refine g_goto hX d_M_giveBack_30 ?_
        refine g_mem (sI_sA _ _ _ _ _) ?_
        refine g_mem (by rw [show upd (va_cpy (rI w 96) (rI w 94) 0 0 i) i (rI w 96 (0 + i)) = va_cpy (rI w 96) (rI w 94) 0 0 (i + 1) by have := cpy_s (rI w 96) (rI w 94) 0 0 i; rw [Nat.zero_add i] at this ⊢; exact this]) ?_
        exact ih (i + 1) (by omega) (by omega)
  refine g_aload0 hX d_M_giveBack_0 ?_
  refine g_bipush (v := nI 17) hX d_M_giveBack_1 rfl ?_
  refine g_callV (As := [_]) hX hF.1 d_M_giveBack_3 ml_M_187 cf_M_putBack cv_M_putBack rfl rfl (c_M_putBack (k := 17) (by decide)) (rcv_obj hX (lv_89 _) rfl rfl) (by omega) (by omega) (by omega) (Nat.le_of_ble_eq_true rfl) ?_
  refine ret_k ?_
  refine g_iconst (v := nI 0) hX d_M_giveBack_6 rfl ?_
  refine g_istore2 hX d_M_giveBack_7 rfl (by decide) ?_
  refine g_mem (show (sA w 91 (va_cpy (rI w 94) (rI w 91) 1564 6 92)) = (sA (sA w 91 (va_cpy (rI w 94) (rI w 91) 1564 6 92)) 94 (va_cpy (rI w 96) (rI w 94) 0 0 0)) by rw [cpy_0]; exact (sA_self (sA w 91 (va_cpy (rI w 94) (rI w 91) 1564 6 92)) 94).symm) ?_
  exact lpA 1473 0 (by omega) (by omega)
