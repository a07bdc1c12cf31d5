def m_M_readExpression : MR := (⟨"SubgraphDeskModel", "readExpression", "(Z)V"⟩, prog_14_method_59_code, 3, none)
theorem cf_M_readExpression : CF m_M_readExpression 1 := ⟨gd 1874 (by decide +kernel) rfl, gd 151 (by decide +kernel) rfl, by decide +kernel, by decide, by decide +kernel⟩
theorem cv_M_readExpression : CV m_M_readExpression := ⟨gd 1873 (by decide +kernel) rfl, gd 81 (by decide +kernel) rfl⟩
theorem d_M_readExpression_0 : Dc prog_14_method_59_code 0 (.aload_n 0) 1 1 := ⟨by decide +kernel, rfl⟩
theorem d_M_readExpression_1 : Dc prog_14_method_59_code 1 (.iconst 0) 1 2 := ⟨by decide +kernel, rfl⟩
theorem d_M_readExpression_2 : Dc prog_14_method_59_code 2 (.putfield 298) 3 5 := ⟨by decide +kernel, rfl⟩
theorem d_M_readExpression_5 : Dc prog_14_method_59_code 5 (.aload_n 0) 1 6 := ⟨by decide +kernel, rfl⟩
theorem d_M_readExpression_6 : Dc prog_14_method_59_code 6 (.iconst 0) 1 7 := ⟨by decide +kernel, rfl⟩
theorem d_M_readExpression_7 : Dc prog_14_method_59_code 7 (.putfield 320) 3 10 := ⟨by decide +kernel, rfl⟩
theorem d_M_readExpression_10 : Dc prog_14_method_59_code 10 (.iload_n 1) 1 11 := ⟨by decide +kernel, rfl⟩
theorem d_M_readExpression_11 : Dj prog_14_method_59_code 11 (.ifCond .eq 7) 14 7 18 := ⟨by decide +kernel, rfl, rfl⟩
theorem d_M_readExpression_14 : Dc prog_14_method_59_code 14 (.iconst 0) 1 15 := ⟨by decide +kernel, rfl⟩
theorem d_M_readExpression_15 : Dj prog_14_method_59_code 15 (.goto 4) 18 4 19 := ⟨by decide +kernel, rfl, rfl⟩
theorem d_M_readExpression_18 : Dc prog_14_method_59_code 18 (.iconst 1) 1 19 := ⟨by decide +kernel, rfl⟩
theorem d_M_readExpression_19 : Dc prog_14_method_59_code 19 (.istore_n 2) 1 20 := ⟨by decide +kernel, rfl⟩
theorem d_M_readExpression_20 : Dc prog_14_method_59_code 20 (.aload_n 0) 1 21 := ⟨by decide +kernel, rfl⟩
theorem d_M_readExpression_21 : Dc prog_14_method_59_code 21 (.getfield 258) 3 24 := ⟨by decide +kernel, rfl⟩
theorem d_M_readExpression_24 : Dj prog_14_method_59_code 24 (.ifCond .ne 52) 27 52 76 := ⟨by decide +kernel, rfl, rfl⟩
theorem d_M_readExpression_27 : Dc prog_14_method_59_code 27 (.iload_n 2) 1 28 := ⟨by decide +kernel, rfl⟩
theorem d_M_readExpression_28 : Dc prog_14_method_59_code 28 (.iconst 4) 1 29 := ⟨by decide +kernel, rfl⟩
theorem d_M_readExpression_29 : Dj prog_14_method_59_code 29 (.if_icmp .eq 47) 32 47 76 := ⟨by decide +kernel, rfl, rfl⟩
theorem d_M_readExpression_32 : Dc prog_14_method_59_code 32 (.iload_n 2) 1 33 := ⟨by decide +kernel, rfl⟩
theorem d_M_readExpression_33 : Dj prog_14_method_59_code 33 (.ifCond .ne 10) 36 10 43 := ⟨by decide +kernel, rfl, rfl⟩
theorem d_M_readExpression_36 : Dc prog_14_method_59_code 36 (.aload_n 0) 1 37 := ⟨by decide +kernel, rfl⟩
theorem d_M_readExpression_37 : Dc prog_14_method_59_code 37 (.invokevirtual 376) 3 40 := ⟨by decide +kernel, rfl⟩
theorem d_M_readExpression_40 : Dj prog_14_method_59_code 40 (.goto 32) 43 32 72 := ⟨by decide +kernel, rfl, rfl⟩
theorem d_M_readExpression_43 : Dc prog_14_method_59_code 43 (.iload_n 2) 1 44 := ⟨by decide +kernel, rfl⟩
theorem d_M_readExpression_44 : Dc prog_14_method_59_code 44 (.iconst 1) 1 45 := ⟨by decide +kernel, rfl⟩
theorem d_M_readExpression_45 : Dj prog_14_method_59_code 45 (.if_icmp .ne 10) 48 10 55 := ⟨by decide +kernel, rfl, rfl⟩
theorem d_M_readExpression_48 : Dc prog_14_method_59_code 48 (.aload_n 0) 1 49 := ⟨by decide +kernel, rfl⟩
theorem d_M_readExpression_49 : Dc prog_14_method_59_code 49 (.invokevirtual 359) 3 52 := ⟨by decide +kernel, rfl⟩
theorem d_M_readExpression_52 : Dj prog_14_method_59_code 52 (.goto 20) 55 20 72 := ⟨by decide +kernel, rfl, rfl⟩
theorem d_M_readExpression_55 : Dc prog_14_method_59_code 55 (.iload_n 2) 1 56 := ⟨by decide +kernel, rfl⟩
theorem d_M_readExpression_56 : Dc prog_14_method_59_code 56 (.iconst 3) 1 57 := ⟨by decide +kernel, rfl⟩
theorem d_M_readExpression_57 : Dj prog_14_method_59_code 57 (.if_icmp .ne 11) 60 11 68 := ⟨by decide +kernel, rfl, rfl⟩
theorem d_M_readExpression_60 : Dc prog_14_method_59_code 60 (.aload_n 0) 1 61 := ⟨by decide +kernel, rfl⟩
theorem d_M_readExpression_61 : Dc prog_14_method_59_code 61 (.iload_n 1) 1 62 := ⟨by decide +kernel, rfl⟩
theorem d_M_readExpression_62 : Dc prog_14_method_59_code 62 (.invokevirtual 379) 3 65 := ⟨by decide +kernel, rfl⟩
theorem d_M_readExpression_65 : Dj prog_14_method_59_code 65 (.goto 7) 68 7 72 := ⟨by decide +kernel, rfl, rfl⟩
theorem d_M_readExpression_68 : Dc prog_14_method_59_code 68 (.aload_n 0) 1 69 := ⟨by decide +kernel, rfl⟩
theorem d_M_readExpression_69 : Dc prog_14_method_59_code 69 (.invokevirtual 383) 3 72 := ⟨by decide +kernel, rfl⟩
theorem d_M_readExpression_72 : Dc prog_14_method_59_code 72 (.istore_n 2) 1 73 := ⟨by decide +kernel, rfl⟩
theorem d_M_readExpression_73 : Dj prog_14_method_59_code 73 (.goto (-53)) 76 (-53) 20 := ⟨by decide +kernel, rfl, rfl⟩
theorem d_M_readExpression_76 : Dc prog_14_method_59_code 76 (.aload_n 0) 1 77 := ⟨by decide +kernel, rfl⟩
theorem d_M_readExpression_77 : Dc prog_14_method_59_code 77 (.iconst 1) 1 78 := ⟨by decide +kernel, rfl⟩
theorem d_M_readExpression_78 : Dc prog_14_method_59_code 78 (.invokevirtual 362) 3 81 := ⟨by decide +kernel, rfl⟩
theorem d_M_readExpression_81 : Dc prog_14_method_59_code 81 (.return_) 1 82 := ⟨by decide +kernel, rfl⟩
theorem ml_M_376 : Cond.methodLink "SubgraphDeskModel" 376 m_M_readPlain.1 ∈ lw_gd := gd 1875 (by decide +kernel) rfl
theorem ml_M_379 : Cond.methodLink "SubgraphDeskModel" 379 m_M_behindSum.1 ∈ lw_gd := gd 1918 (by decide +kernel) rfl
theorem ml_M_383 : Cond.methodLink "SubgraphDeskModel" 383 m_M_behindTest.1 ∈ lw_gd := gd 1941 (by decide +kernel) rfl
/-- the reader where no expression stands open -/
def RdB (w : Mem) (t : List Nat) (f p : Nat) (c : List (Nat × Nat)) : Prop := TokP w t f ∧ rI w 89 26 = nI p ∧ CodeP w c ∧ rI w 89 19 = nI 0 ∧ rI w 89 18 = -1
def BadB (w : Mem) (t : List Nat) (e : Nat) : Prop := MTape (rI w 98) (rI w 89 13) t ∧ rI w 89 19 = nI 1 ∧ rI w 89 18 = nI e ∧ e ≤ t.length ∧ ∃ c, CodeP w c
theorem RdP.B {w : Mem} {t : List Nat} {f p : Nat} {c s : List (Nat × Nat)} {od : Nat} (h : RdP w t f p c s od) : RdB w t f p c := ⟨h.1, h.2.1, h.2.2.1, h.2.2.2.2.2.1, h.2.2.2.2.2.2⟩
theorem BadP.B {w : Mem} {t : List Nat} {e : Nat} (h : BadP w t e) : BadB w t e := by
  obtain ⟨h1, h2, h3, h4, c, s, h5, h6, h7⟩ := h
  exact ⟨h1, h2, h3, h4, c, h5⟩
theorem RdB.fresh {w : Mem} {t : List Nat} {f p : Nat} {c : List (Nat × Nat)} (h : RdB w t f p c) : RdP (sI (sI w 89 29 (nI 0)) 89 30 (nI 0)) t f p c [] 0 := by
  obtain ⟨h1, h2, h3, h6, h7⟩ := h
  refine ⟨(h1.o (by decide) (Or.inr (by decide))).o (by decide) (Or.inr (by decide)), ?_, (h3.o (by decide) (by decide) (Or.inr (by decide))).o (by decide) (by decide) (Or.inr (by decide)), ⟨by rw [rI_sI, upd_eq, if_neg (by decide), rI_sI, upd_eq, if_pos rfl]; rfl, fun k hk => absurd hk (Nat.not_lt_zero _)⟩, by rw [rI_sI, upd_eq, if_pos rfl], ?_, ?_⟩
  all_goals rw [rI_sI, upd_eq, if_neg (by decide), rI_sI, upd_eq, if_neg (by decide)]
  · exact h2
  · exact h6
  · exact h7
theorem RdB.bad {w : Mem} {t : List Nat} {f p : Nat} {c : List (Nat × Nat)} (h : RdB w t f p c) : BadB (sI (sI w 89 19 (nI 1)) 89 18 (nI f)) t f := by
  refine ⟨?_, by rw [rI_sI, upd_eq, if_neg (by decide), rI_sI, upd_eq, if_pos rfl], by rw [rI_sI, upd_eq, if_pos rfl], h.1.2.2.2.2.2.1, c, (h.2.2.1.o (by decide) (by decide) (Or.inr (by decide))).o (by decide) (by decide) (Or.inr (by decide))⟩
  rw [rI_sI_ne _ _ _ (by decide), rI_sI_ne _ _ _ (by decide), rI_sI, upd_eq, if_neg (by decide), rI_sI, upd_eq, if_neg (by decide)]
  exact h.1.1
theorem RdB.tok {w w2 : Mem} {t : List Nat} {f f2 p : Nat} {c : List (Nat × Nat)} (h : RdB w t f p c) (hf : FrN w w2) (h2 : TokP w2 t f2) : RdB w2 t f2 p c :=
  ⟨h2, by rw [hf.2.1 26 (by decide) (by decide) (by decide)]; exact h.2.1, h.2.2.1.n hf, by rw [hf.2.1 19 (by decide) (by decide) (by decide)]; exact h.2.2.2.1, by rw [hf.2.1 18 (by decide) (by decide) (by decide)]; exact h.2.2.2.2⟩
theorem split_b : ∀ (n : Nat) (s : List (Nat × Nat)), s.length = n → ∃ P Q, s = P ++ Q ∧ SetW P Q 1 := by
  intro n
  induction n with
  | zero =>
    intro s hl
    obtain rfl := List.eq_nil_of_length_eq_zero hl
    exact ⟨[], [], rfl, ⟨fun q hq => (by cases hq), fun x h _ => absurd h (Nat.lt_irrefl _)⟩⟩
  | succ n ih =>
    intro s hl
    have hne : s ≠ [] := fun z => by rw [z] at hl; simp at hl
    obtain ⟨s2, q, rfl⟩ : ∃ s2 q, s = s2 ++ [q] := ⟨s.dropLast, s.getLast hne, (List.dropLast_concat_getLast hne).symm⟩
    rw [List.length_append, List.length_singleton] at hl
    by_cases h : 1 ≤ bindsN q.1
    · obtain ⟨P, Q, rfl, h1, h2⟩ := ih s2 (by omega)
      refine ⟨P, Q ++ [q], by rw [List.append_assoc], fun x hx => ?_, h2⟩
      rw [List.mem_append, List.mem_singleton] at hx
      rcases hx with hx | hx
      · exact h1 x hx
      · rw [hx]; exact h
    · exact ⟨s2 ++ [q], [], by rw [List.append_nil], ⟨fun x hx => (by cases hx), LB.snoc (by omega)⟩⟩
theorem PileW.settle {P : List (Nat × Nat)} : ∀ (n : Nat) (Q c : List (Nat × Nat)), Q.length = n → PileW c (P ++ Q) → PileW (setC Q c) P := by
  intro n
  induction n with
  | zero =>
    intro Q c hl h
    obtain rfl := List.eq_nil_of_length_eq_zero hl
    rw [List.append_nil] at h
    exact h
  | succ n ih =>
    intro Q c hl h
    have hne : Q ≠ [] := fun z => by rw [z] at hl; simp at hl
    obtain ⟨Q2, q, rfl⟩ : ∃ Q2 q, Q = Q2 ++ [q] := ⟨Q.dropLast, Q.getLast hne, (List.dropLast_concat_getLast hne).symm⟩
    rw [List.length_append, List.length_singleton] at hl
    rw [← List.append_assoc] at h
    rw [setC_snoc]
    exact ih Q2 _ (by omega) h.pop
/-- behind an expression -/
def expQ (t : List Nat) (o : Bool) (c : List (Nat × Nat)) (x : ResT) (w2 : Mem) : Prop := match x with
  | .inl e => BadP w2 t e
  | .inr (f2, p2, d) => ∃ c2, RdP w2 t f2 p2 c2 [] 0 ∧ RdX o c2 [] f2 p2 0 ∧ SegL c2 c.length c2.length d ∧ SameC c.length c c2
theorem c_M_readExpression {E : EV} {w : Mem} {t : List Nat} {o : Bool} {f p tb m : Nat} {c : List (Nat × Nat)} {a : Den} {x : ResT} (h : RdB w t f p c) (hX0 : RdX o c [] f p 0) (hC : RdC w o) (htb : tb < 2) (hrd : rd t o m (if tb = 1 then 8 else 3) 0 f p a = some x) : T E m_M_readExpression 6 0 0 [.ref 89, .int (nI tb)] w (fun r w2 => r = none ∧ FrR w w2 ∧ expQ t o c x w2) := by
  refine T_of (L := [.ref 89, .int (nI tb), un]) cf_M_readExpression rfl (Nat.le_of_ble_eq_true rfl) (fun X hX hF => ?_)
  have hS : StepR E tb (fun k wk => G0 E X 0 0 20 [.ref 89, .int (nI tb), .int (nI k)] [] wk) := by
    refine ⟨?_, ?_, ?_, ?_⟩
    · intro wk Q hb hT hq
      refine g_aload0 hX d_M_readExpression_20 ?_
      refine g_getZ hX d_M_readExpression_21 fl_M_258 (lv_89 _) ?_
      refine g_topi hb ?_
      refine g_if_ne hX d_M_readExpression_24 (fun h => absurd (by decide) h) (fun c0 => ?_)
      refine g_iload2 hX d_M_readExpression_27 ?_
      refine g_iconst (v := nI 4) hX d_M_readExpression_28 rfl ?_
      refine g_icmpN_eq hX d_M_readExpression_29 (by omega) (by omega) (fun h => absurd h (by decide)) (fun c1 => ?_)
      refine g_iload2 hX d_M_readExpression_32 ?_
      refine g_if_ne hX d_M_readExpression_33 (fun c2 => ?_) (fun h => absurd h (by decide))
      refine g_iload2 hX d_M_readExpression_43 ?_
      refine g_iconst (v := nI 1) hX d_M_readExpression_44 rfl ?_
      refine g_icmpN_ne hX d_M_readExpression_45 (by omega) (by omega) (fun h => absurd (by decide) h) (fun c3 => ?_)
      refine g_aload0 hX d_M_readExpression_48 ?_
      refine g_callV (As := []) hX hF.1 d_M_readExpression_49 ml_M_359 cf_M_readPart cv_M_readPart rfl rfl (hT) (rcv_obj hX (lv_89 _) rfl rfl) (by omega) (by omega) (by omega) (Nat.le_of_ble_eq_true rfl) ?_
      intro r w2 hr
      obtain ⟨x, rfl, hx, hg⟩ := hq r w2 hr
      show G0 _ _ _ _ _ _ _ _
      refine g_goto hX d_M_readExpression_52 ?_
      refine g_istore2 hX d_M_readExpression_72 rfl (by decide) ?_
      refine g_goto hX d_M_readExpression_73 ?_
      exact hg
    · intro wk Q hb hT hq
      refine g_aload0 hX d_M_readExpression_20 ?_
      refine g_getZ hX d_M_readExpression_21 fl_M_258 (lv_89 _) ?_
      refine g_topi hb ?_
      refine g_if_ne hX d_M_readExpression_24 (fun h => absurd (by decide) h) (fun c0 => ?_)
      refine g_iload2 hX d_M_readExpression_27 ?_
      refine g_iconst (v := nI 4) hX d_M_readExpression_28 rfl ?_
      refine g_icmpN_eq hX d_M_readExpression_29 (by omega) (by omega) (fun h => absurd h (by decide)) (fun c1 => ?_)
      refine g_iload2 hX d_M_readExpression_32 ?_
      refine g_if_ne hX d_M_readExpression_33 (fun h => absurd (by decide) h) (fun c2 => ?_)
      refine g_aload0 hX d_M_readExpression_36 ?_
      refine g_callV (As := []) hX hF.1 d_M_readExpression_37 ml_M_376 cf_M_readPlain cv_M_readPlain rfl rfl (hT) (rcv_obj hX (lv_89 _) rfl rfl) (by omega) (by omega) (by omega) (Nat.le_of_ble_eq_true rfl) ?_
      intro r w2 hr
      obtain ⟨x, rfl, hx, hg⟩ := hq r w2 hr
      show G0 _ _ _ _ _ _ _ _
      refine g_goto hX d_M_readExpression_40 ?_
      refine g_istore2 hX d_M_readExpression_72 rfl (by decide) ?_
      refine g_goto hX d_M_readExpression_73 ?_
      exact hg
    · intro wk Q hb hT hq
      refine g_aload0 hX d_M_readExpression_20 ?_
      refine g_getZ hX d_M_readExpression_21 fl_M_258 (lv_89 _) ?_
      refine g_topi hb ?_
      refine g_if_ne hX d_M_readExpression_24 (fun h => absurd (by decide) h) (fun c0 => ?_)
      refine g_iload2 hX d_M_readExpression_27 ?_
      refine g_iconst (v := nI 4) hX d_M_readExpression_28 rfl ?_
      refine g_icmpN_eq hX d_M_readExpression_29 (by omega) (by omega) (fun h => absurd h (by decide)) (fun c1 => ?_)
      refine g_iload2 hX d_M_readExpression_32 ?_
      refine g_if_ne hX d_M_readExpression_33 (fun c2 => ?_) (fun h => absurd h (by decide))
      refine g_iload2 hX d_M_readExpression_43 ?_
      refine g_iconst (v := nI 1) hX d_M_readExpression_44 rfl ?_
      refine g_icmpN_ne hX d_M_readExpression_45 (by omega) (by omega) (fun c3 => ?_) (fun h => absurd h (by decide))
      refine g_iload2 hX d_M_readExpression_55 ?_
      refine g_iconst (v := nI 3) hX d_M_readExpression_56 rfl ?_
      refine g_icmpN_ne hX d_M_readExpression_57 (by omega) (by omega) (fun h => absurd (by decide) h) (fun c4 => ?_)
      refine g_aload0 hX d_M_readExpression_60 ?_
      refine g_iload1 hX d_M_readExpression_61 ?_
      refine g_callV (As := [_]) hX hF.1 d_M_readExpression_62 ml_M_379 cf_M_behindSum cv_M_behindSum rfl rfl (hT) (rcv_obj hX (lv_89 _) rfl rfl) (by omega) (by omega) (by omega) (Nat.le_of_ble_eq_true rfl) ?_
      intro r w2 hr
      obtain ⟨x, rfl, hx, hg⟩ := hq r w2 hr
      show G0 _ _ _ _ _ _ _ _
      refine g_goto hX d_M_readExpression_65 ?_
      refine g_istore2 hX d_M_readExpression_72 rfl (by decide) ?_
      refine g_goto hX d_M_readExpression_73 ?_
      exact hg
    · intro wk Q hb hT hq
      refine g_aload0 hX d_M_readExpression_20 ?_
      refine g_getZ hX d_M_readExpression_21 fl_M_258 (lv_89 _) ?_
      refine g_topi hb ?_
      refine g_if_ne hX d_M_readExpression_24 (fun h => absurd (by decide) h) (fun c0 => ?_)
      refine g_iload2 hX d_M_readExpression_27 ?_
      refine g_iconst (v := nI 4) hX d_M_readExpression_28 rfl ?_
      refine g_icmpN_eq hX d_M_readExpression_29 (by omega) (by omega) (fun h => absurd h (by decide)) (fun c1 => ?_)
      refine g_iload2 hX d_M_readExpression_32 ?_
      refine g_if_ne hX d_M_readExpression_33 (fun c2 => ?_) (fun h => absurd h (by decide))
      refine g_iload2 hX d_M_readExpression_43 ?_
      refine g_iconst (v := nI 1) hX d_M_readExpression_44 rfl ?_
      refine g_icmpN_ne hX d_M_readExpression_45 (by omega) (by omega) (fun c3 => ?_) (fun h => absurd h (by decide))
      refine g_iload2 hX d_M_readExpression_55 ?_
      refine g_iconst (v := nI 3) hX d_M_readExpression_56 rfl ?_
      refine g_icmpN_ne hX d_M_readExpression_57 (by omega) (by omega) (fun c4 => ?_) (fun h => absurd h (by decide))
      refine g_aload0 hX d_M_readExpression_68 ?_
      refine g_callV (As := []) hX hF.1 d_M_readExpression_69 ml_M_383 cf_M_behindTest cv_M_behindTest rfl rfl (hT) (rcv_obj hX (lv_89 _) rfl rfl) (by omega) (by omega) (by omega) (Nat.le_of_ble_eq_true rfl) ?_
      intro r w2 hr
      obtain ⟨x, rfl, hx, hg⟩ := hq r w2 hr
      show G0 _ _ _ _ _ _ _ _
      refine g_istore2 hX d_M_readExpression_72 rfl (by decide) ?_
      refine g_goto hX d_M_readExpression_73 ?_
      exact hg
  have hover : ∀ (w2 : Mem) (c2 Q : List (Nat × Nat)) (f2 p2 : Nat) (d : Den), x = .inr (f2, p2, d) → FrR w w2 → RdP w2 t f2 p2 c2 Q 0 → RdX o c2 Q f2 p2 0 → (∀ q ∈ Q, 1 ≤ bindsN q.1) → Pnd c2 Q c.length c2.length d → SameC c.length c c2 → G0 E X 0 0 20 [.ref 89, .int (nI tb), .int (nI 4)] [] w2 := by
    intro w2 c2 Q f2 p2 d e1 e2 e3 e4 e5 e6 e7
    refine g_aload0 hX d_M_readExpression_20 ?_
    refine g_getZ hX d_M_readExpression_21 fl_M_258 (lv_89 _) ?_
    refine g_topi e3.2.2.2.2.2.1 ?_
    refine g_if_ne hX d_M_readExpression_24 (fun h => absurd (by decide) h) (fun c0 => ?_)
    refine g_iload2 hX d_M_readExpression_27 ?_
    refine g_iconst (v := nI 4) hX d_M_readExpression_28 rfl ?_
    refine g_icmpN_eq hX d_M_readExpression_29 (by omega) (by omega) (fun c1 => ?_) (fun h => absurd (by decide) h)
    refine g_aload0 hX d_M_readExpression_76 ?_
    refine g_iconst (v := nI 1) hX d_M_readExpression_77 rfl ?_
    refine g_callV (As := [_]) hX hF.1 d_M_readExpression_78 ml_M_362 cf_M_settle cv_M_settle rfl rfl (c_M_settle (least := 1) (P := []) (Q := Q) (by decide) (by decide) e3.2.2.1 e3.2.2.2.1 e4.1.1 e5 (LB.nil 1)) (rcv_obj hX (lv_89 _) rfl rfl) (by omega) (by omega) (by omega) (Nat.le_of_ble_eq_true rfl) ?_
    rintro _ w3 ⟨rfl, hf3, hc3, hp3⟩
    show G0 _ _ _ _ _ _ _ _
    refine g_vret hX hF d_M_readExpression_81 (by omega) (by omega) ?_
    have hq31 : ∀ q ∈ Q, q.1 < 31 := fun q hq => bind_31 (l := 1) (by decide) (e5 q hq)
    obtain ⟨k1, k2⟩ := pnd_set e6
    refine ⟨rfl, e2.tr hf3.R, ?_⟩
    rw [e1]
    exact ⟨setC Q c2, e3.set hf3 hc3 hp3, e4.settle (P := []) Q.length Q c2 rfl hq31, k1, e7.tr k2 (Nat.le_refl _)⟩
  have hbad : ∀ (w2 : Mem) (e k : Nat), x = .inl e → FrR w w2 → BadP w2 t e → k < 5 → G0 E X 0 0 20 [.ref 89, .int (nI tb), .int (nI k)] [] w2 := by
    intro w2 e k e1 e2 e3 hk
    obtain ⟨b1, b2, b3, b4, cb, sb, b5, b6, b7⟩ := e3
    obtain ⟨P, Q, rfl, hsw⟩ := split_b _ sb rfl
    refine g_aload0 hX d_M_readExpression_20 ?_
    refine g_getZ hX d_M_readExpression_21 fl_M_258 (lv_89 _) ?_
    refine g_topi b2 ?_
    refine g_if_ne hX d_M_readExpression_24 (fun c0 => ?_) (fun h => absurd h (by decide))
    refine g_aload0 hX d_M_readExpression_76 ?_
    refine g_iconst (v := nI 1) hX d_M_readExpression_77 rfl ?_
    refine g_callV (As := [_]) hX hF.1 d_M_readExpression_78 ml_M_362 cf_M_settle cv_M_settle rfl rfl (c_M_settle (least := 1) (P := P) (Q := Q) (by decide) (by decide) b5 b6 b7 hsw.1 hsw.2) (rcv_obj hX (lv_89 _) rfl rfl) (by omega) (by omega) (by omega) (Nat.le_of_ble_eq_true rfl) ?_
    rintro _ w3 ⟨rfl, hf3, hc3, hp3⟩
    show G0 _ _ _ _ _ _ _ _
    refine g_vret hX hF d_M_readExpression_81 (by omega) (by omega) ?_
    refine ⟨rfl, e2.tr hf3.R, ?_⟩
    rw [e1]
    exact ⟨by rw [hf3.1 98 (by decide) (by decide) (by decide), hf3.2.1 13 (by decide) (by decide)]; exact b1, by rw [hf3.2.1 19 (by decide) (by decide)]; exact b2, by rw [hf3.2.1 18 (by decide) (by decide)]; exact b3, b4, _, _, hc3, hp3, b7.settle Q.length Q cb rfl⟩
  refine g_aload0 hX d_M_readExpression_0 ?_
  refine g_iconst (v := nI 0) hX d_M_readExpression_1 rfl ?_
  refine g_putI hX d_M_readExpression_2 fl_M_298 (lv_89 _) ?_
  refine g_aload0 hX d_M_readExpression_5 ?_
  refine g_iconst (v := nI 0) hX d_M_readExpression_6 rfl ?_
  refine g_putI hX d_M_readExpression_7 fl_M_320 (lv_89 _) ?_
  refine g_iload1 hX d_M_readExpression_10 ?_
  refine g_if_eq hX d_M_readExpression_11 (fun c11 => ?_) (fun c11 => ?_)
  · have e11 : tb = 0 := nI_inj (by omega) (by decide) c11
    refine g_iconst (v := nI 1) hX d_M_readExpression_18 rfl ?_
    refine g_istore2 hX d_M_readExpression_19 rfl (by decide) ?_
    have hR1 : RdP (sI (sI w 89 29 (nI 0)) 89 30 (nI 0)) t f p c [] 0 := h.fresh
    have hf1 : FrR w (sI (sI w 89 29 (nI 0)) 89 30 (nI 0)) := ((FrR.rf w).I (by omega)).I (by omega)
    have hC1 := hC.fr hf1
    rw [e11, if_neg (by decide)] at hrd
    have hG1 : Start1 E (fun k wk => G0 E X 0 0 20 [.ref 89, .int (nI tb), .int (nI k)] [] wk) (sI (sI w 89 29 (nI 0)) 89 30 (nI 0)) (G0 E X 0 0 20 [.ref 89, .int (nI tb), .int (nI 1)] [] (sI (sI w 89 29 (nI 0)) 89 30 (nI 0))) := fun Q hT hq => hS.1 _ Q hR1.2.2.2.2.2.1 hT hq
    refine (rd_mach (o := o) (t := t) hS m 3 0 f p a x hrd (by decide) (by decide) (fun z => absurd z (by decide))).1 (by decide) _ c [] _ hG1 hC1 hR1 hX0 (LB.nil _) (fun e w2 k e1 e2 e3 hk => hbad w2 e k e1 (hf1.tr e2) e3 hk) (fun w2 c2 Q f2 p2 d e1 e2 e3 e4 e5 e6 e7 e8 => ?_)
    have hq31 : ∀ q ∈ Q, q.1 < 31 := fun q hq => bind_31 (l := 5) (by decide) (e5 q hq)
    have hno := no5 (e8.1 (by decide)) (e8.2.1 (by decide))
    have hin : innK ([] ++ Q) ([] ++ Q).length = -1 := by rw [innK_q hq31]; rfl
    have hS' := hS.2.2.1
    rw [e11] at hS' hover ⊢
    exact hS' w2 _ e3.2.2.2.2.2.1 (c_M_behindSum_over e3 e4.1.1 hno hin) (fun r w3 ⟨z1, z2⟩ => ⟨4, z1, by decide, by rw [z2]; exact hover w2 c2 Q f2 p2 d e1 (hf1.tr e2) e3 e4 (fun q hq => by have := e5 q hq; have h5 : loM 3 = 5 := rfl; omega) e6 e7⟩)
  · have e11 : tb = 1 := by
      by_cases z : tb = 0
      · exact absurd (by rw [z]; rfl) c11
      · omega
    refine g_iconst (v := nI 0) hX d_M_readExpression_14 rfl ?_
    refine g_goto hX d_M_readExpression_15 ?_
    refine g_istore2 hX d_M_readExpression_19 rfl (by decide) ?_
    have hR1 : RdP (sI (sI w 89 29 (nI 0)) 89 30 (nI 0)) t f p c [] 0 := h.fresh
    have hf1 : FrR w (sI (sI w 89 29 (nI 0)) 89 30 (nI 0)) := ((FrR.rf w).I (by omega)).I (by omega)
    have hC1 := hC.fr hf1
    rw [if_pos e11] at hrd
    refine (rd_mach (o := o) (t := t) hS m 8 0 f p a x hrd (by decide) (by decide) (fun z => e11)).2.1 (by decide) _ c [] hC1 hR1 hX0 (LB.nil _) (Or.inl rfl) (fun e w2 k e1 e2 e3 hk => hbad w2 e k e1 (hf1.tr e2) e3 hk) (fun w2 c2 Q f2 p2 d e1 e2 e3 e4 e5 e6 e7 e8 => ?_)
    have hq31 : ∀ q ∈ Q, q.1 < 31 := fun q hq => bind_31 (l := 1) (by decide) (e5 q hq)
    have hin : innK ([] ++ Q) ([] ++ Q).length = -1 := by rw [innK_q hq31]; rfl
    exact hS.2.2.2 w2 _ e3.2.2.2.2.2.1 (c_M_behindTest_over e3 e4.1.1 (e8.2.2.1 (by decide)) (e8.2.2.2 (by decide)) hin) (fun r w3 ⟨z1, z2⟩ => ⟨4, z1, by decide, by rw [z2]; exact hover w2 c2 Q f2 p2 d e1 (hf1.tr e2) e3 e4 e5 e6 e7⟩)
