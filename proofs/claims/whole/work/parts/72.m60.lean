def m_M_begin : MR := (⟨"SubgraphDeskModel", "begin", "()V"⟩, prog_14_method_38_code, 1, none)
theorem cf_M_begin : CF m_M_begin 0 := ⟨gd 1844 (by decide +kernel) rfl, gd 151 (by decide +kernel) rfl, by decide +kernel, by decide, by decide +kernel⟩
theorem cv_M_begin : CV m_M_begin := ⟨gd 1843 (by decide +kernel) rfl, gd 76 (by decide +kernel) rfl⟩
def m_M_beginText : MR := (⟨"SubgraphDeskModel", "beginText", "(Z)V"⟩, prog_14_method_60_code, 2, none)
theorem cf_M_beginText : CF m_M_beginText 1 := ⟨gd 1840 (by decide +kernel) rfl, gd 151 (by decide +kernel) rfl, by decide +kernel, by decide, by decide +kernel⟩
theorem cv_M_beginText : CV m_M_beginText := ⟨gd 1839 (by decide +kernel) rfl, gd 75 (by decide +kernel) rfl⟩
def m_M_endText : MR := (⟨"SubgraphDeskModel", "endText", "()V"⟩, prog_14_method_61_code, 1, none)
theorem cf_M_endText : CF m_M_endText 0 := ⟨gd 1951 (by decide +kernel) rfl, gd 151 (by decide +kernel) rfl, by decide +kernel, by decide, by decide +kernel⟩
theorem cv_M_endText : CV m_M_endText := ⟨gd 1950 (by decide +kernel) rfl, gd 97 (by decide +kernel) rfl⟩
theorem d_M_begin_0 : Dc prog_14_method_38_code 0 (.aload_n 0) 1 1 := ⟨by decide +kernel, rfl⟩
theorem d_M_begin_1 : Dc prog_14_method_38_code 1 (.iconst 0) 1 2 := ⟨by decide +kernel, rfl⟩
theorem d_M_begin_2 : Dc prog_14_method_38_code 2 (.putfield 255) 3 5 := ⟨by decide +kernel, rfl⟩
theorem d_M_begin_5 : Dc prog_14_method_38_code 5 (.aload_n 0) 1 6 := ⟨by decide +kernel, rfl⟩
theorem d_M_begin_6 : Dc prog_14_method_38_code 6 (.iconst 0) 1 7 := ⟨by decide +kernel, rfl⟩
theorem d_M_begin_7 : Dc prog_14_method_38_code 7 (.putfield 258) 3 10 := ⟨by decide +kernel, rfl⟩
theorem d_M_begin_10 : Dc prog_14_method_38_code 10 (.aload_n 0) 1 11 := ⟨by decide +kernel, rfl⟩
theorem d_M_begin_11 : Dc prog_14_method_38_code 11 (.iconst (-1)) 1 12 := ⟨by decide +kernel, rfl⟩
theorem d_M_begin_12 : Dc prog_14_method_38_code 12 (.putfield 38) 3 15 := ⟨by decide +kernel, rfl⟩
theorem d_M_begin_15 : Dc prog_14_method_38_code 15 (.aload_n 0) 1 16 := ⟨by decide +kernel, rfl⟩
theorem d_M_begin_16 : Dc prog_14_method_38_code 16 (.invokevirtual 262) 3 19 := ⟨by decide +kernel, rfl⟩
theorem d_M_begin_19 : Dc prog_14_method_38_code 19 (.return_) 1 20 := ⟨by decide +kernel, rfl⟩
theorem d_M_beginText_0 : Dc prog_14_method_60_code 0 (.aload_n 0) 1 1 := ⟨by decide +kernel, rfl⟩
theorem d_M_beginText_1 : Dc prog_14_method_60_code 1 (.iload_n 1) 1 2 := ⟨by decide +kernel, rfl⟩
theorem d_M_beginText_2 : Dc prog_14_method_60_code 2 (.putfield 335) 3 5 := ⟨by decide +kernel, rfl⟩
theorem d_M_beginText_5 : Dc prog_14_method_60_code 5 (.aload_n 0) 1 6 := ⟨by decide +kernel, rfl⟩
theorem d_M_beginText_6 : Dc prog_14_method_60_code 6 (.invokevirtual 386) 3 9 := ⟨by decide +kernel, rfl⟩
theorem d_M_beginText_9 : Dc prog_14_method_60_code 9 (.aload_n 0) 1 10 := ⟨by decide +kernel, rfl⟩
theorem d_M_beginText_10 : Dc prog_14_method_60_code 10 (.iconst 0) 1 11 := ⟨by decide +kernel, rfl⟩
theorem d_M_beginText_11 : Dc prog_14_method_60_code 11 (.putfield 389) 3 14 := ⟨by decide +kernel, rfl⟩
theorem d_M_beginText_14 : Dc prog_14_method_60_code 14 (.aload_n 0) 1 15 := ⟨by decide +kernel, rfl⟩
theorem d_M_beginText_15 : Dc prog_14_method_60_code 15 (.iconst 0) 1 16 := ⟨by decide +kernel, rfl⟩
theorem d_M_beginText_16 : Dc prog_14_method_60_code 16 (.putfield 295) 3 19 := ⟨by decide +kernel, rfl⟩
theorem d_M_beginText_19 : Dc prog_14_method_60_code 19 (.aload_n 0) 1 20 := ⟨by decide +kernel, rfl⟩
theorem d_M_beginText_20 : Dc prog_14_method_60_code 20 (.iconst 0) 1 21 := ⟨by decide +kernel, rfl⟩
theorem d_M_beginText_21 : Dc prog_14_method_60_code 21 (.putfield 326) 3 24 := ⟨by decide +kernel, rfl⟩
theorem d_M_beginText_24 : Dc prog_14_method_60_code 24 (.return_) 1 25 := ⟨by decide +kernel, rfl⟩
theorem d_M_endText_0 : Dc prog_14_method_61_code 0 (.aload_n 0) 1 1 := ⟨by decide +kernel, rfl⟩
theorem d_M_endText_1 : Dc prog_14_method_61_code 1 (.getfield 258) 3 4 := ⟨by decide +kernel, rfl⟩
theorem d_M_endText_4 : Dj prog_14_method_61_code 4 (.ifCond .ne 15) 7 15 19 := ⟨by decide +kernel, rfl, rfl⟩
theorem d_M_endText_7 : Dc prog_14_method_61_code 7 (.aload_n 0) 1 8 := ⟨by decide +kernel, rfl⟩
theorem d_M_endText_8 : Dc prog_14_method_61_code 8 (.getfield 278) 3 11 := ⟨by decide +kernel, rfl⟩
theorem d_M_endText_11 : Dj prog_14_method_61_code 11 (.ifCond .eq 8) 14 8 19 := ⟨by decide +kernel, rfl, rfl⟩
theorem d_M_endText_14 : Dc prog_14_method_61_code 14 (.aload_n 0) 1 15 := ⟨by decide +kernel, rfl⟩
theorem d_M_endText_15 : Dc prog_14_method_61_code 15 (.iconst 0) 1 16 := ⟨by decide +kernel, rfl⟩
theorem d_M_endText_16 : Dc prog_14_method_61_code 16 (.invokevirtual 291) 3 19 := ⟨by decide +kernel, rfl⟩
theorem d_M_endText_19 : Dc prog_14_method_61_code 19 (.aload_n 0) 1 20 := ⟨by decide +kernel, rfl⟩
theorem d_M_endText_20 : Dc prog_14_method_61_code 20 (.iconst 0) 1 21 := ⟨by decide +kernel, rfl⟩
theorem d_M_endText_21 : Dc prog_14_method_61_code 21 (.putfield 335) 3 24 := ⟨by decide +kernel, rfl⟩
theorem d_M_endText_24 : Dc prog_14_method_61_code 24 (.aload_n 0) 1 25 := ⟨by decide +kernel, rfl⟩
theorem d_M_endText_25 : Dc prog_14_method_61_code 25 (.iconst 0) 1 26 := ⟨by decide +kernel, rfl⟩
theorem d_M_endText_26 : Dc prog_14_method_61_code 26 (.putfield 243) 3 29 := ⟨by decide +kernel, rfl⟩
theorem d_M_endText_29 : Dc prog_14_method_61_code 29 (.return_) 1 30 := ⟨by decide +kernel, rfl⟩
theorem ml_M_386 : Cond.methodLink "SubgraphDeskModel" 386 m_M_begin.1 ∈ lw_gd := gd 1841 (by decide +kernel) rfl
theorem ifT_no {t : List Nat} {o : Bool} {f p : Nat} (h : ¬ isW t f wIf) : ifT t o f p = .inr (f, p, none) := by unfold ifT; rw [if_neg h]
theorem ifT_bad {t : List Nat} {o : Bool} {f p e : Nat} (h : isW t f wIf) (ht : rdE t o 8 (nxT t f) p = .inl e) : ifT t o f p = .inl e := by unfold ifT; rw [if_pos h, ht]
theorem ifT_ok {t : List Nat} {o : Bool} {f p f2 p2 : Nat} {d : Den} (h : isW t f wIf) (ht : rdE t o 8 (nxT t f) p = .inr (f2, p2, d)) : ifT t o f p = .inr (f2, p2, some d) := by unfold ifT; rw [if_pos h, ht]
theorem clT_bad {t : List Nat} {b : Bool} {f p e : Nat} {d : Den} (h : ifT t false f p = .inl e) : clT t b (.inr (f, p, d)) = .inl e := by
  show (match ifT t false f p with | .inl e => _ | .inr (f2, p2, q) => _) = _
  rw [h]
theorem clT_ok {t : List Nat} {b : Bool} {f p f2 p2 : Nat} {d : Den} {q : Option Den} (h : ifT t false f p = .inr (f2, p2, q)) : clT t b (.inr (f, p, d)) = .inr (f2, p2, (b, d, q)) := by
  show (match ifT t false f p with | .inl e => _ | .inr (f2, p2, q) => _) = _
  rw [h]
theorem c_M_readLaw {E : EV} {w : Mem} {t : List Nat} {f p : Nat} {c : List (Nat × Nat)} {cls : List ClT} (h : RdB w t f p c) (hX0 : RdX false c [] f p 0) (hC : RdC w false) (hcl : ClsP w c cls) (hc12 : cls.length ≤ 12) : T E m_M_readLaw 7 0 0 [.ref 89] w (fun r w2 => r = none ∧ FrW w w2 ∧ lawQ t cls (lawCl t cls.length f p) w2) := by
  by_cases h1 : isW t f wCosts
  · by_cases hk : cls.length < 12
    · have e1 : lawCl t cls.length f p = clT t true (rdE t false 3 (nxT t f) p) := by unfold lawCl; rw [if_neg (by omega), if_pos h1]
      rw [e1]
      cases hs : rdE t false 3 (nxT t f) p with
      | inl e => exact c_M_readLaw_costs_bad_no h hX0 hC hcl hc12 h1 hk hs
      | inr y =>
        obtain ⟨f1, p1, d⟩ := y
        by_cases hi : isW t f1 wIf
        · cases ht : rdE t false 8 (nxT t f1) p1 with
          | inl e =>
            have e2 : clT t true (.inr (f1, p1, d)) = .inl e := clT_bad (ifT_bad hi ht)
            rw [e2]
            exact c_M_readLaw_costs_ok_bad h hX0 hC hcl hc12 h1 hk hs hi ht
          | inr z =>
            obtain ⟨f2, p2, d2⟩ := z
            have e2 : clT t true (.inr (f1, p1, d)) = .inr (f2, p2, (true, d, some d2)) := clT_ok (ifT_ok hi ht)
            rw [e2]
            exact c_M_readLaw_costs_ok_ok h hX0 hC hcl hc12 h1 hk hs hi ht
        · have e2 : clT t true (.inr (f1, p1, d)) = .inr (f1, p1, (true, d, none)) := clT_ok (ifT_no hi)
          rw [e2]
          exact c_M_readLaw_costs_ok_no h hX0 hC hcl hc12 h1 hk hs hi
    · have e1 : lawCl t cls.length f p = .inl f := by unfold lawCl; rw [if_pos (by omega)]
      rw [e1]
      exact c_M_readLaw_cF h hX0 hC hcl hc12 h1 (by omega)
  · by_cases h2 : isW t f wBars
    · by_cases hk : cls.length < 12
      · have e1 : lawCl t cls.length f p = clT t false (.inr (nxT t f, p, fun _ => none)) := by unfold lawCl; rw [if_neg (by omega), if_neg h1, if_pos h2]
        rw [e1]
        by_cases hi : isW t (nxT t f) wIf
        · cases ht : rdE t false 8 (nxT t (nxT t f)) p with
          | inl e =>
            have e2 : clT t false (.inr (nxT t f, p, fun _ => none)) = .inl e := clT_bad (ifT_bad hi ht)
            rw [e2]
            exact c_M_readLaw_bars_ok_bad h hX0 hC hcl hc12 h2 hk hi ht
          | inr z =>
            obtain ⟨f2, p2, d2⟩ := z
            have e2 : clT t false (.inr (nxT t f, p, fun _ => none)) = .inr (f2, p2, (false, (fun _ => none), some d2)) := clT_ok (ifT_ok hi ht)
            rw [e2]
            exact c_M_readLaw_bars_ok_ok h hX0 hC hcl hc12 h2 hk hi ht
        · have e2 : clT t false (.inr (nxT t f, p, fun _ => none)) = .inr (nxT t f, p, (false, (fun _ => none), none)) := clT_ok (ifT_no hi)
          rw [e2]
          exact c_M_readLaw_bars_ok_no h hX0 hC hcl hc12 h2 hk hi
      · have e1 : lawCl t cls.length f p = .inl f := by unfold lawCl; rw [if_pos (by omega)]
        rw [e1]
        exact c_M_readLaw_bF h hX0 hC hcl hc12 h2 (by omega)
    · have e1 : lawCl t cls.length f p = .inl f := by
        unfold lawCl
        by_cases hk : 12 ≤ cls.length
        · rw [if_pos hk]
        · rw [if_neg hk, if_neg h1, if_neg h2]
      rw [e1]
      exact c_M_readLaw_n h hX0 hC hcl hc12 h1 h2
/-- the clauses of a law from the k-th on, n of them at most -/
noncomputable def lawGo (t : List Nat) : Nat → Nat → Nat → Nat → Nat ⊕ List ClT
  | 0, _, f, _ => .inl f
  | n + 1, k, f, p => match lawCl t k f p with
    | .inl e => .inl e
    | .inr (f2, p2, q) => if isS t f2 59 then (match lawGo t n (k + 1) (nxT t f2) p2 with
        | .inl e => .inl e
        | .inr l => .inr (q :: l)) else if srt t f2 = 0 then .inr [q] else .inl f2
noncomputable def lawT (t : List Nat) : Nat ⊕ List ClT := lawGo t 13 0 (runE t 0 0) 0
/-- behind a clause -/
noncomputable def lawRest (t : List Nat) (n k f p : Nat) : Nat ⊕ List ClT := if isS t f 59 then lawGo t n k (nxT t f) p else if srt t f = 0 then .inr [] else .inl f
def lawAll (cls : List ClT) (r : Nat ⊕ List ClT) : Nat ⊕ List ClT := match r with
  | .inl e => .inl e
  | .inr l => .inr (cls ++ l)
theorem lawGo_bad {t : List Nat} {n k f p e : Nat} {cls : List ClT} (h : lawCl t k f p = .inl e) : lawAll cls (lawGo t (n + 1) k f p) = .inl e := by
  rw [lawGo, h]; rfl
theorem lawGo_ok {t : List Nat} {n k f p f2 p2 : Nat} {q : ClT} {cls : List ClT} (h : lawCl t k f p = .inr (f2, p2, q)) : lawAll cls (lawGo t (n + 1) k f p) = lawAll (cls ++ [q]) (lawRest t n (k + 1) f2 p2) := by
  rw [lawGo, h]
  unfold lawRest
  show lawAll cls (if isS t f2 59 then _ else _) = _
  by_cases h1 : isS t f2 59
  · rw [if_pos h1, if_pos h1]
    cases lawGo t n (k + 1) (nxT t f2) p2 with
    | inl e => rfl
    | inr l => show Sum.inr (cls ++ (q :: l)) = Sum.inr ((cls ++ [q]) ++ l); rw [List.append_assoc]; rfl
  · rw [if_neg h1, if_neg h1]
    by_cases h2 : srt t f2 = 0
    · rw [if_pos h2, if_pos h2]
      show Sum.inr (cls ++ [q]) = Sum.inr ((cls ++ [q]) ++ [])
      rw [List.append_nil]
    · rw [if_neg h2, if_neg h2]; rfl
theorem lawCl_12 {t : List Nat} {k f p : Nat} {z : Nat × Nat × ClT} (h : lawCl t k f p = .inr z) : k < 12 := by
  by_cases e : 12 ≤ k
  · unfold lawCl at h; rw [if_pos e] at h; cases h
  · omega
/-- a text is read: all else stands as it was -/
def FrZ (w w2 : Mem) : Prop := (∀ a, a ≠ 89 → (a < 99 ∨ 103 < a) → a ≠ 126 → rI w2 a = rI w a) ∧ (∀ k, k ∈ [1, 8, 11, 64, 68] → rI w2 89 k = rI w 89 k) ∧ (∀ a, a ≠ 89 → rJ w2 a = rJ w a) ∧ w2.2.2 = w.2.2
theorem FrZ.rf (w : Mem) : FrZ w w := ⟨fun _ _ _ _ => rfl, fun _ _ => rfl, fun _ _ => rfl, rfl⟩
theorem FrZ.tr {a b c : Mem} (h : FrZ a b) (h2 : FrZ b c) : FrZ a c := ⟨fun x h1 h3 h4 => (h2.1 x h1 h3 h4).trans (h.1 x h1 h3 h4), fun k hk => (h2.2.1 k hk).trans (h.2.1 k hk), fun x hx => (h2.2.2.1 x hx).trans (h.2.2.1 x hx), h2.2.2.2.trans h.2.2.2⟩
theorem FrW.Z {w w2 : Mem} (h : FrW w w2) : FrZ w w2 := ⟨h.1, fun k hk => h.2.1 k (by simp at hk ⊢; omega), h.2.2⟩
theorem FrZ.I {w w2 : Mem} {k : Nat} {x : Int32} (hk : k ∉ [1, 8, 11, 64, 68]) (h : FrZ w w2) : FrZ w (sI w2 89 k x) := ⟨fun a h1 h2 h3 => by rw [rI_sI_ne _ _ _ h1]; exact h.1 a h1 h2 h3, fun j hj => by rw [rI_sI, upd_eq, if_neg (by rintro rfl; exact hk hj)]; exact h.2.1 j hj, h.2.2⟩
theorem FrZ.M {w w2 : Mem} (h : FrZ w w2) : FrM w w2 := ⟨fun a ha => h.1 a (by omega) (by omega) (by omega), fun a ha => h.2.2.1 a (by omega), h.2.2.2⟩
theorem MInv.txt {w w2 : Mem} {s : SG} {x : Int32} (h : MInv w s) (hf : FrZ w w2) (hx : rI w2 89 18 = x) : MInv (sI (sI w2 89 20 (nI 0)) 89 13 (nI 0)) (wFa (wTp s []) x) := by
  obtain ⟨h1, h2, h3, h4, h5, h6, h7, h8, h9, h10, h11⟩ := h
  have e : ∀ a, a ≠ 89 → rI (sI (sI w2 89 20 (nI 0)) 89 13 (nI 0)) a = rI w2 a := fun a ha => by rw [rI_sI_ne _ _ _ ha, rI_sI_ne _ _ _ ha]
  have e9 : ∀ k, k ≠ 20 → k ≠ 13 → rI (sI (sI w2 89 20 (nI 0)) 89 13 (nI 0)) 89 k = rI w2 89 k := fun k a b => by rw [rI_sI, upd_eq, if_neg b, rI_sI, upd_eq, if_neg a]
  unfold MInv
  rw [e 91 (by decide), e 94 (by decide), e 95 (by decide), e 98 (by decide), e 92 (by decide), e 93 (by decide), e 90 (by decide), e 127 (by decide), e9 8 (by decide) (by decide), e9 1 (by decide) (by decide), e9 18 (by decide) (by decide), e9 11 (by decide) (by decide), e9 64 (by decide) (by decide), e9 68 (by decide) (by decide)]
  rw [hf.1 91 (by decide) (by decide) (by decide), hf.1 94 (by decide) (by decide) (by decide), hf.1 95 (by decide) (by decide) (by decide), hf.1 92 (by decide) (by decide) (by decide), hf.1 93 (by decide) (by decide) (by decide), hf.1 90 (by decide) (by decide) (by decide), hf.1 127 (by decide) (by decide) (by decide), hf.2.1 8 (by decide), hf.2.1 1 (by decide), hf.2.1 11 (by decide), hf.2.1 64 (by decide), hf.2.1 68 (by decide)]
  exact ⟨h1, h2, ⟨Nat.zero_le _, by rw [rI_sI, upd_eq, if_pos rfl]; rfl, fun k hk => absurd hk (Nat.not_lt_zero _)⟩, h4, h5, h6, hx, h8, h9, h10, by rw [rI_sI, upd_eq, if_neg (by decide), rI_sI, upd_eq, if_pos rfl]⟩
theorem c_M_begin {E : EV} {w : Mem} {t : List Nat} (hT : MTape (rI w 98) (rI w 89 13) t) : T E m_M_begin 2 0 0 [.ref 89] w (fun r w2 => r = none ∧ FrN (sI (sI (sI w 89 15 (nI 0)) 89 19 (nI 0)) 89 18 (-1)) w2 ∧ TokP w2 t (runE t 0 0)) := by
  refine T_of (L := [.ref 89]) cf_M_begin rfl (Nat.le_of_ble_eq_true rfl) (fun X hX hF => ?_)
  refine g_aload0 hX d_M_begin_0 ?_
  refine g_iconst (v := nI 0) hX d_M_begin_1 rfl ?_
  refine g_putI hX d_M_begin_2 fl_M_255 (lv_89 _) ?_
  refine g_aload0 hX d_M_begin_5 ?_
  refine g_iconst (v := nI 0) hX d_M_begin_6 rfl ?_
  refine g_putZ hX d_M_begin_7 fl_M_258 (lv_89 _) (by first | exact Or.inl rfl | exact Or.inr rfl) ?_
  refine g_aload0 hX d_M_begin_10 ?_
  refine g_iconst (v := -1) hX d_M_begin_11 rfl ?_
  refine g_putI hX d_M_begin_12 fl_M_38 (lv_89 _) ?_
  refine g_aload0 hX d_M_begin_15 ?_
  refine g_callV (As := []) hX hF.1 d_M_begin_16 ml_M_262 cf_M_next cv_M_next rfl rfl (c_M_next0 (t := t) (e := 0) (F := runE t 0 0) (show MTape (rI w 98) (rI w 89 13) t from hT) (by rw [rI_sI, upd_eq, if_neg (by decide), rI_sI, upd_eq, if_neg (by decide), rI_sI, upd_eq, if_pos rfl]) (Nat.zero_le _) rfl) (rcv_obj hX (lv_89 _) rfl rfl) (by omega) (by omega) (by omega) (Nat.le_of_ble_eq_true rfl) ?_
  rintro _ w2 ⟨rfl, hf, hT2⟩
  show G0 _ _ _ _ _ _ _ _
  refine g_vret hX hF d_M_begin_19 (by omega) (by omega) ?_
  exact ⟨rfl, hf, hT2⟩
theorem c_M_beginTextL {E : EV} {w : Mem} {t : List Nat} (hT : MTape (rI w 98) (rI w 89 13) t) : T E m_M_beginText 3 0 0 [.ref 89, .int (nI 0)] w (fun r w2 => r = none ∧ FrZ w w2 ∧ RdB w2 t (runE t 0 0) 0 [] ∧ rI w2 89 20 = nI 0 ∧ rI w2 89 21 = nI 0) := by
  refine T_of (L := [.ref 89, .int (nI 0)]) cf_M_beginText rfl (Nat.le_of_ble_eq_true rfl) (fun X hX hF => ?_)
  refine g_aload0 hX d_M_beginText_0 ?_
  refine g_iload1 hX d_M_beginText_1 ?_
  refine g_putZ hX d_M_beginText_2 fl_M_335 (lv_89 _) (Or.inl rfl) ?_
  refine g_aload0 hX d_M_beginText_5 ?_
  refine g_callV (As := []) hX hF.1 d_M_beginText_6 ml_M_386 cf_M_begin cv_M_begin rfl rfl (c_M_begin (t := t) (w := sI w 89 20 (nI 0)) hT) (rcv_obj hX (lv_89 _) rfl rfl) (by omega) (by omega) (by omega) (Nat.le_of_ble_eq_true rfl) ?_
  rintro _ w2 ⟨rfl, hf, hT2⟩
  show G0 _ _ _ _ _ _ _ _
  refine g_aload0 hX d_M_beginText_9 ?_
  refine g_iconst (v := nI 0) hX d_M_beginText_10 rfl ?_
  refine g_putI hX d_M_beginText_11 fl_M_389 (lv_89 _) ?_
  refine g_aload0 hX d_M_beginText_14 ?_
  refine g_iconst (v := nI 0) hX d_M_beginText_15 rfl ?_
  refine g_putI hX d_M_beginText_16 fl_M_295 (lv_89 _) ?_
  refine g_aload0 hX d_M_beginText_19 ?_
  refine g_iconst (v := nI 0) hX d_M_beginText_20 rfl ?_
  refine g_putI hX d_M_beginText_21 fl_M_326 (lv_89 _) ?_
  refine g_vret hX hF d_M_beginText_24 (by omega) (by omega) ?_
  have hz : FrZ w (sI (sI (sI (sI w 89 20 (nI 0)) 89 15 (nI 0)) 89 19 (nI 0)) 89 18 (-1)) := ((((FrZ.rf w).I (by decide)).I (by decide)).I (by decide)).I (by decide)
  refine ⟨rfl, (((hz.tr hf.R.W.Z).I (by decide)).I (by decide)).I (by decide), ⟨((hT2.o (by decide) (Or.inr (by decide))).o (by decide) (Or.inr (by decide))).o (by decide) (Or.inr (by decide)), by rw [rI_sI, upd_eq, if_pos rfl], ⟨by rw [rI_sI, upd_eq, if_neg (by decide), rI_sI, upd_eq, if_pos rfl]; rfl, fun k hk => absurd hk (Nat.not_lt_zero _)⟩, ?_, ?_⟩, ?_, ?_⟩
  · rw [rI_sI, upd_eq, if_neg (by decide), rI_sI, upd_eq, if_neg (by decide), rI_sI, upd_eq, if_neg (by decide), hf.2.1 19 (by decide) (by decide) (by decide), rI_sI, upd_eq, if_neg (by decide), rI_sI, upd_eq, if_pos rfl]
  · rw [rI_sI, upd_eq, if_neg (by decide), rI_sI, upd_eq, if_neg (by decide), rI_sI, upd_eq, if_neg (by decide), hf.2.1 18 (by decide) (by decide) (by decide), rI_sI, upd_eq, if_pos rfl]
  · rw [rI_sI, upd_eq, if_neg (by decide), rI_sI, upd_eq, if_neg (by decide), rI_sI, upd_eq, if_neg (by decide), hf.2.1 20 (by decide) (by decide) (by decide), rI_sI, upd_eq, if_neg (by decide), rI_sI, upd_eq, if_neg (by decide), rI_sI, upd_eq, if_neg (by decide), rI_sI, upd_eq, if_pos rfl]
  · rw [rI_sI, upd_eq, if_neg (by decide), rI_sI, upd_eq, if_neg (by decide), rI_sI, upd_eq, if_pos rfl]
theorem c_M_beginTextO {E : EV} {w : Mem} {t : List Nat} (hT : MTape (rI w 98) (rI w 89 13) t) : T E m_M_beginText 3 0 0 [.ref 89, .int (nI 1)] w (fun r w2 => r = none ∧ FrZ w w2 ∧ RdB w2 t (runE t 0 0) 0 [] ∧ rI w2 89 20 = nI 1 ∧ rI w2 89 21 = nI 0) := by
  refine T_of (L := [.ref 89, .int (nI 1)]) cf_M_beginText rfl (Nat.le_of_ble_eq_true rfl) (fun X hX hF => ?_)
  refine g_aload0 hX d_M_beginText_0 ?_
  refine g_iload1 hX d_M_beginText_1 ?_
  refine g_putZ hX d_M_beginText_2 fl_M_335 (lv_89 _) (Or.inr rfl) ?_
  refine g_aload0 hX d_M_beginText_5 ?_
  refine g_callV (As := []) hX hF.1 d_M_beginText_6 ml_M_386 cf_M_begin cv_M_begin rfl rfl (c_M_begin (t := t) (w := sI w 89 20 (nI 1)) hT) (rcv_obj hX (lv_89 _) rfl rfl) (by omega) (by omega) (by omega) (Nat.le_of_ble_eq_true rfl) ?_
  rintro _ w2 ⟨rfl, hf, hT2⟩
  show G0 _ _ _ _ _ _ _ _
  refine g_aload0 hX d_M_beginText_9 ?_
  refine g_iconst (v := nI 0) hX d_M_beginText_10 rfl ?_
  refine g_putI hX d_M_beginText_11 fl_M_389 (lv_89 _) ?_
  refine g_aload0 hX d_M_beginText_14 ?_
  refine g_iconst (v := nI 0) hX d_M_beginText_15 rfl ?_
  refine g_putI hX d_M_beginText_16 fl_M_295 (lv_89 _) ?_
  refine g_aload0 hX d_M_beginText_19 ?_
  refine g_iconst (v := nI 0) hX d_M_beginText_20 rfl ?_
  refine g_putI hX d_M_beginText_21 fl_M_326 (lv_89 _) ?_
  refine g_vret hX hF d_M_beginText_24 (by omega) (by omega) ?_
  have hz : FrZ w (sI (sI (sI (sI w 89 20 (nI 1)) 89 15 (nI 0)) 89 19 (nI 0)) 89 18 (-1)) := ((((FrZ.rf w).I (by decide)).I (by decide)).I (by decide)).I (by decide)
  refine ⟨rfl, (((hz.tr hf.R.W.Z).I (by decide)).I (by decide)).I (by decide), ⟨((hT2.o (by decide) (Or.inr (by decide))).o (by decide) (Or.inr (by decide))).o (by decide) (Or.inr (by decide)), by rw [rI_sI, upd_eq, if_pos rfl], ⟨by rw [rI_sI, upd_eq, if_neg (by decide), rI_sI, upd_eq, if_pos rfl]; rfl, fun k hk => absurd hk (Nat.not_lt_zero _)⟩, ?_, ?_⟩, ?_, ?_⟩
  · rw [rI_sI, upd_eq, if_neg (by decide), rI_sI, upd_eq, if_neg (by decide), rI_sI, upd_eq, if_neg (by decide), hf.2.1 19 (by decide) (by decide) (by decide), rI_sI, upd_eq, if_neg (by decide), rI_sI, upd_eq, if_pos rfl]
  · rw [rI_sI, upd_eq, if_neg (by decide), rI_sI, upd_eq, if_neg (by decide), rI_sI, upd_eq, if_neg (by decide), hf.2.1 18 (by decide) (by decide) (by decide), rI_sI, upd_eq, if_pos rfl]
  · rw [rI_sI, upd_eq, if_neg (by decide), rI_sI, upd_eq, if_neg (by decide), rI_sI, upd_eq, if_neg (by decide), hf.2.1 20 (by decide) (by decide) (by decide), rI_sI, upd_eq, if_neg (by decide), rI_sI, upd_eq, if_neg (by decide), rI_sI, upd_eq, if_neg (by decide), rI_sI, upd_eq, if_pos rfl]
  · rw [rI_sI, upd_eq, if_neg (by decide), rI_sI, upd_eq, if_neg (by decide), rI_sI, upd_eq, if_pos rfl]
theorem c_M_endTextB {E : EV} {w : Mem} (hb : rI w 89 19 = nI 1) : T E m_M_endText 3 0 0 [.ref 89] w (Ret none (sI (sI w 89 20 (nI 0)) 89 13 (nI 0))) := by
  refine T_of (L := [.ref 89]) cf_M_endText rfl (Nat.le_of_ble_eq_true rfl) (fun X hX hF => ?_)
  refine g_aload0 hX d_M_endText_0 ?_
  refine g_getZ hX d_M_endText_1 fl_M_258 (lv_89 _) ?_
  refine g_topi hb ?_
  refine g_if_ne hX d_M_endText_4 (fun c0 => ?_) (fun h => absurd h (by decide))
  refine g_aload0 hX d_M_endText_19 ?_
  refine g_iconst (v := nI 0) hX d_M_endText_20 rfl ?_
  refine g_putZ hX d_M_endText_21 fl_M_335 (lv_89 _) (by first | exact Or.inl rfl | exact Or.inr rfl) ?_
  refine g_aload0 hX d_M_endText_24 ?_
  refine g_iconst (v := nI 0) hX d_M_endText_25 rfl ?_
  refine g_putI hX d_M_endText_26 fl_M_243 (lv_89 _) ?_
  refine g_vret hX hF d_M_endText_29 (by omega) (by omega) ?_
  exact ⟨rfl, rfl⟩
theorem c_M_endTextY {E : EV} {w : Mem} (hb : rI w 89 19 = nI 0) (hs : rI w 89 16 = nI 0) : T E m_M_endText 3 0 0 [.ref 89] w (Ret none (sI (sI w 89 20 (nI 0)) 89 13 (nI 0))) := by
  refine T_of (L := [.ref 89]) cf_M_endText rfl (Nat.le_of_ble_eq_true rfl) (fun X hX hF => ?_)
  refine g_aload0 hX d_M_endText_0 ?_
  refine g_getZ hX d_M_endText_1 fl_M_258 (lv_89 _) ?_
  refine g_topi hb ?_
  refine g_if_ne hX d_M_endText_4 (fun h => absurd (by decide) h) (fun c0 => ?_)
  refine g_aload0 hX d_M_endText_7 ?_
  refine g_getI hX d_M_endText_8 fl_M_278 (lv_89 _) ?_
  refine g_topi hs ?_
  refine g_if_eq hX d_M_endText_11 (fun c1 => ?_) (fun h => absurd (by decide) h)
  refine g_aload0 hX d_M_endText_19 ?_
  refine g_iconst (v := nI 0) hX d_M_endText_20 rfl ?_
  refine g_putZ hX d_M_endText_21 fl_M_335 (lv_89 _) (by first | exact Or.inl rfl | exact Or.inr rfl) ?_
  refine g_aload0 hX d_M_endText_24 ?_
  refine g_iconst (v := nI 0) hX d_M_endText_25 rfl ?_
  refine g_putI hX d_M_endText_26 fl_M_243 (lv_89 _) ?_
  refine g_vret hX hF d_M_endText_29 (by omega) (by omega) ?_
  exact ⟨rfl, rfl⟩
theorem c_M_endTextN {E : EV} {w : Mem} {f m : Nat} (hb : rI w 89 19 = nI 0) (hs : rI w 89 16 = nI m) (hm : m ≠ 0) (hm3 : m ≤ 3) (h : rI w 89 14 = nI f) : T E m_M_endText 3 0 0 [.ref 89] w (Ret none (sI (sI (sI (sI w 89 19 (nI 1)) 89 18 (nI f)) 89 20 (nI 0)) 89 13 (nI 0))) := by
  refine T_of (L := [.ref 89]) cf_M_endText rfl (Nat.le_of_ble_eq_true rfl) (fun X hX hF => ?_)
  refine g_aload0 hX d_M_endText_0 ?_
  refine g_getZ hX d_M_endText_1 fl_M_258 (lv_89 _) ?_
  refine g_topi hb ?_
  refine g_if_ne hX d_M_endText_4 (fun h => absurd (by decide) h) (fun c0 => ?_)
  refine g_aload0 hX d_M_endText_7 ?_
  refine g_getI hX d_M_endText_8 fl_M_278 (lv_89 _) ?_
  refine g_topi hs ?_
  refine g_if_eq hX d_M_endText_11 (fun h => absurd h (fun z => hm (nI_inj (by omega) (by decide) z))) (fun c1 => ?_)
  refine g_aload0 hX d_M_endText_14 ?_
  refine g_iconst (v := nI 0) hX d_M_endText_15 rfl ?_
  refine g_callV (As := [_]) hX hF.1 d_M_endText_16 ml_M_291 cf_M_must cv_M_must rfl rfl (c_M_mustN h hb rfl) (rcv_obj hX (lv_89 _) rfl rfl) (by omega) (by omega) (by omega) (Nat.le_of_ble_eq_true rfl) ?_
  refine ret_k ?_
  refine g_aload0 hX d_M_endText_19 ?_
  refine g_iconst (v := nI 0) hX d_M_endText_20 rfl ?_
  refine g_putZ hX d_M_endText_21 fl_M_335 (lv_89 _) (by first | exact Or.inl rfl | exact Or.inr rfl) ?_
  refine g_aload0 hX d_M_endText_24 ?_
  refine g_iconst (v := nI 0) hX d_M_endText_25 rfl ?_
  refine g_putI hX d_M_endText_26 fl_M_243 (lv_89 _) ?_
  refine g_vret hX hF d_M_endText_29 (by omega) (by omega) ?_
  exact ⟨rfl, rfl⟩
