def m_M_readSum : MR := (⟨"SubgraphDeskModel", "readSum", "(I)V"⟩, prog_14_method_123_code, 2, none)
theorem cf_M_readSum : CF m_M_readSum 1 := ⟨gd 2193 (by decide +kernel) rfl, gd 151 (by decide +kernel) rfl, by decide +kernel, by decide, by decide +kernel⟩
theorem cv_M_readSum : CV m_M_readSum := ⟨gd 2192 (by decide +kernel) rfl, gd 131 (by decide +kernel) rfl⟩
theorem d_M_readSum_0 : Dc prog_14_method_123_code 0 (.aload_n 0) 1 1 := ⟨by decide +kernel, rfl⟩
theorem d_M_readSum_1 : Dc prog_14_method_123_code 1 (.getfield 158) 3 4 := ⟨by decide +kernel, rfl⟩
theorem d_M_readSum_4 : Dc prog_14_method_123_code 4 (.iload_n 1) 1 5 := ⟨by decide +kernel, rfl⟩
theorem d_M_readSum_5 : Dc prog_14_method_123_code 5 (.aload_n 0) 1 6 := ⟨by decide +kernel, rfl⟩
theorem d_M_readSum_6 : Dc prog_14_method_123_code 6 (.getfield 295) 3 9 := ⟨by decide +kernel, rfl⟩
theorem d_M_readSum_9 : Dc prog_14_method_123_code 9 (.iastore) 1 10 := ⟨by decide +kernel, rfl⟩
theorem d_M_readSum_10 : Dc prog_14_method_123_code 10 (.aload_n 0) 1 11 := ⟨by decide +kernel, rfl⟩
theorem d_M_readSum_11 : Dc prog_14_method_123_code 11 (.getfield 258) 3 14 := ⟨by decide +kernel, rfl⟩
theorem d_M_readSum_14 : Dj prog_14_method_123_code 14 (.ifCond .ne 8) 17 8 22 := ⟨by decide +kernel, rfl, rfl⟩
theorem d_M_readSum_17 : Dc prog_14_method_123_code 17 (.aload_n 0) 1 18 := ⟨by decide +kernel, rfl⟩
theorem d_M_readSum_18 : Dc prog_14_method_123_code 18 (.iconst 0) 1 19 := ⟨by decide +kernel, rfl⟩
theorem d_M_readSum_19 : Dc prog_14_method_123_code 19 (.invokevirtual 392) 3 22 := ⟨by decide +kernel, rfl⟩
theorem d_M_readSum_22 : Dc prog_14_method_123_code 22 (.aload_n 0) 1 23 := ⟨by decide +kernel, rfl⟩
theorem d_M_readSum_23 : Dc prog_14_method_123_code 23 (.getfield 158) 3 26 := ⟨by decide +kernel, rfl⟩
theorem d_M_readSum_26 : Dc prog_14_method_123_code 26 (.iload_n 1) 1 27 := ⟨by decide +kernel, rfl⟩
theorem d_M_readSum_27 : Dc prog_14_method_123_code 27 (.iconst 1) 1 28 := ⟨by decide +kernel, rfl⟩
theorem d_M_readSum_28 : Dc prog_14_method_123_code 28 (.iadd) 1 29 := ⟨by decide +kernel, rfl⟩
theorem d_M_readSum_29 : Dc prog_14_method_123_code 29 (.aload_n 0) 1 30 := ⟨by decide +kernel, rfl⟩
theorem d_M_readSum_30 : Dc prog_14_method_123_code 30 (.getfield 295) 3 33 := ⟨by decide +kernel, rfl⟩
theorem d_M_readSum_33 : Dc prog_14_method_123_code 33 (.iastore) 1 34 := ⟨by decide +kernel, rfl⟩
theorem d_M_readSum_34 : Dc prog_14_method_123_code 34 (.return_) 1 35 := ⟨by decide +kernel, rfl⟩
theorem fl_M_158 : FL "SubgraphDeskModel" 158 12 61 true (.array .int) (3, 37) := ⟨R_M, F_M, 69, ty_M, rfl, rfl, in_M, tyok_M, nm_M, by decide, gd 1533 (by decide +kernel) rfl, rfl, rfl, rfl⟩
/-! ===== orders ===== -/
abbrev OcT : Type := Nat × Den × Den × Nat × Option Den
def actW : List (List Nat) := [wJoin, wTie, wPaint, wDye]
def actK (t : List Nat) (f : Nat) : Nat → Option Nat
  | 0 => none
  | k + 1 => if isW t f (gA2 actW k) then some k else actK t f k
def toW (a : Nat) : List Nat := if a < 2 then wTo else wAs
/-- how often -/
def timesT (t : List Nat) (f : Nat) : Nat ⊕ (Nat × Nat) := if isW t f wTimes then (if isN t (nxT t f) 1 20 then .inr (nxT t (nxT t f), numC t (nxT t f)) else .inl (nxT t f)) else .inr (f, 1)
noncomputable def oS4 (a : Nat) (d1 d2 : Den) (m : Nat) (r : Nat ⊕ (Nat × Nat × Option Den)) : Nat ⊕ (Nat × Nat × OcT) := match r with
  | .inl e => .inl e
  | .inr (f4, p4, q) => .inr (f4, p4, (a, d1, d2, m, q))
noncomputable def oS3 (t : List Nat) (a : Nat) (d1 d2 : Den) (p : Nat) (r : Nat ⊕ (Nat × Nat)) : Nat ⊕ (Nat × Nat × OcT) := match r with
  | .inl e => .inl e
  | .inr (f3, m) => oS4 a d1 d2 m (ifT t true f3 p)
noncomputable def oS2 (t : List Nat) (a : Nat) (d1 : Den) (r : ResT) : Nat ⊕ (Nat × Nat × OcT) := match r with
  | .inl e => .inl e
  | .inr (f2, p2, d2) => oS3 t a d1 d2 p2 (timesT t f2)
noncomputable def oS1 (t : List Nat) (a : Nat) (r : ResT) : Nat ⊕ (Nat × Nat × OcT) := match r with
  | .inl e => .inl e
  | .inr (f1, p1, d1) => if isW t f1 (toW a) then oS2 t a d1 (rdE t true 3 (nxT t f1) p1) else .inl f1
/-- an order, behind k of them -/
noncomputable def ordCl (t : List Nat) (k f p : Nat) : Nat ⊕ (Nat × Nat × OcT) := if 12 ≤ k then .inl f else match actK t f 4 with
  | none => .inl f
  | some a => oS1 t a (rdE t true 3 (nxT t f) p)
theorem acts_w : ∀ k, k < 4 → (gA2 actW k).length ≤ 10 ∧ (∀ i, i < (gA2 actW k).length → 97 ≤ gA (gA2 actW k) i ∧ gA (gA2 actW k) i ≤ 122) ∧ (gA mActs k : Int) = wcN (gA2 actW k) (gA2 actW k).length := by decide
theorem actK_lt {t : List Nat} {f a : Nat} : ∀ k, actK t f k = some a → a < k ∧ isW t f (gA2 actW a)
  | 0, h => by cases h
  | k + 1, h => by
    unfold actK at h
    split at h
    · rename_i h2
      injection h with h
      rw [← h]
      exact ⟨by omega, h2⟩
    · have := actK_lt k h
      exact ⟨by omega, this.2⟩
/-- an order in the reference's table -/
def OcE (h : Nat → Int32) (c : List (Nat × Nat)) (k : Nat) (q : OcT) : Prop := h k = nI q.1 ∧ q.1 < 4 ∧ h (k + 7) = nI q.2.2.2.1 ∧ q.2.2.2.1 ≤ 20 ∧ ∃ a b a2 b2 x e : Nat, h (k + 1) = nI a ∧ h (k + 2) = nI b ∧ h (k + 3) = nI a2 ∧ h (k + 4) = nI b2 ∧ h (k + 5) = nI x ∧ h (k + 6) = nI e ∧ b ≤ c.length ∧ b2 ≤ c.length ∧ x ≤ c.length ∧ e ≤ c.length ∧ SegL c a b q.2.1 ∧ SegL c a2 b2 q.2.2.1 ∧ (match q.2.2.2.2 with | none => x = e | some f => SegL c x e f)
def OcsP (w : Mem) (c : List (Nat × Nat)) (cls : List OcT) : Prop := rI w 89 21 = nI cls.length ∧ ∀ (j : Nat) (q : OcT), cls[j]? = some q → OcE (rI w 126) c (8 * j) q
theorem OcE.same {h h2 : Nat → Int32} {c c2 : List (Nat × Nat)} {k : Nat} {q : OcT} (hc : OcE h c k q) (hs : SameC c.length c c2) (e : ∀ j, j < 8 → h2 (k + j) = h (k + j)) : OcE h2 c2 k q := by
  obtain ⟨h0, h00, h7, h77, a, b, a2, b2, x, y, h1, h2', h3, h4, h5, h6, g1, g2, g3, g4, s1, s2, s3⟩ := hc
  have hl := hs.1
  refine ⟨by rw [← h0]; exact e 0 (by decide), h00, by rw [← h7]; exact e 7 (by decide), h77, a, b, a2, b2, x, y, by rw [← h1]; exact e 1 (by decide), by rw [← h2']; exact e 2 (by decide), by rw [← h3]; exact e 3 (by decide), by rw [← h4]; exact e 4 (by decide), by rw [← h5]; exact e 5 (by decide), by rw [← h6]; exact e 6 (by decide), by omega, by omega, by omega, by omega, SegS.same s1 hs g1, SegS.same s2 hs g2, ?_⟩
  obtain ⟨q1, q2, q3, q4, q5⟩ := q
  cases q5 with
  | none => exact s3
  | some f => exact SegS.same (show SegL c x y f from s3) hs g4
def ordQ (t : List Nat) (cls : List OcT) (r : Nat ⊕ (Nat × Nat × OcT)) (w2 : Mem) : Prop := match r with
  | .inl e => BadB w2 t e
  | .inr (f2, p2, q) => ∃ c2, RdB w2 t f2 p2 c2 ∧ RdX true c2 [] f2 p2 0 ∧ OcsP w2 c2 (cls ++ [q])
/-- behind a sum of an order -/
def sumQ (t : List Nat) (at_ : Nat) (c : List (Nat × Nat)) (x : ResT) (w2 : Mem) : Prop := match x with
  | .inl e => BadB w2 t e
  | .inr (f2, p2, d) => ∃ c2, RdB w2 t f2 p2 c2 ∧ RdX true c2 [] f2 p2 0 ∧ rI w2 126 at_ = nI c.length ∧ rI w2 126 (at_ + 1) = nI c2.length ∧ SegL c2 c.length c2.length d ∧ SameC c.length c c2
def FrS1 (at_ : Nat) (w w2 : Mem) : Prop := FrW w w2 ∧ (∀ j, j ≠ at_ → j ≠ at_ + 1 → rI w2 126 j = rI w 126 j) ∧ rI w2 89 21 = rI w 89 21
theorem c_M_readSum {E : EV} {w : Mem} {t : List Nat} {f p at_ : Nat} {c : List (Nat × Nat)} (h : RdB w t f p c) (hX0 : RdX true c [] f p 0) (hC : RdC w true) (hat : at_ + 1 < 96) : T E m_M_readSum 7 0 0 [.ref 89, .int (nI at_)] w (fun r w2 => r = none ∧ FrS1 at_ w w2 ∧ sumQ t at_ c (rdE t true 3 f p) w2) := by
  refine T_of (L := [.ref 89, .int (nI at_)]) cf_M_readSum rfl (Nat.le_of_ble_eq_true rfl) (fun X hX hF => ?_)
  have htl := h.1.1.1
  have hv1 : FrV w (sI w 126 at_ (nI c.length)) := (FrV.rf w).I (Or.inr (Or.inl rfl))
  have h1 := h.v hv1
  have hC1 := hC.W hv1.W
  refine g_aload0 hX d_M_readSum_0 ?_
  refine g_getF hX d_M_readSum_1 fl_M_158 (lv_89 _) ?_
  refine g_iload1 hX d_M_readSum_4 ?_
  refine g_aload0 hX d_M_readSum_5 ?_
  refine g_getI hX d_M_readSum_6 fl_M_295 (lv_89 _) ?_
  refine g_topi h.2.2.1.1 ?_
  refine g_iast hX d_M_readSum_9 (lv_126 _) rfl (by omega) ?_
  refine g_aload0 hX d_M_readSum_10 ?_
  refine g_getZ hX d_M_readSum_11 fl_M_258 (lv_89 _) ?_
  refine g_topi h1.2.2.2.1 ?_
  refine g_if_ne hX d_M_readSum_14 (fun h => absurd (by decide) h) (fun c0 => ?_)
  refine g_aload0 hX d_M_readSum_17 ?_
  refine g_iconst (v := nI 0) hX d_M_readSum_18 rfl ?_
  refine g_callV (As := [_]) hX hF.1 d_M_readSum_19 ml_M_392 cf_M_readExpression cv_M_readExpression rfl rfl (c_M_readExpression (tb := 0) h1 hX0 hC1 (by decide) (rdE_eq (m := 3) htl h.1.2.2.2.2.2 hX0.1.2.2.1)) (rcv_obj hX (lv_89 _) rfl rfl) (by omega) (by omega) (by omega) (Nat.le_of_ble_eq_true rfl) ?_
  rintro _ w2 ⟨rfl, hf2, he⟩
  have hcode : ∃ m, rI w2 89 23 = nI m := by
    cases hx : rdE t true 3 f p with
    | inl e => rw [hx] at he; exact (BadP.B he).code
    | inr z => rw [hx] at he; obtain ⟨f2, p2, d⟩ := z; obtain ⟨kd2, hR, -⟩ := he; exact ⟨_, hR.2.2.1.1⟩
  obtain ⟨mc, hmc⟩ := hcode
  show G0 _ _ _ _ _ _ _ _
  refine g_aload0 hX d_M_readSum_22 ?_
  refine g_getF hX d_M_readSum_23 fl_M_158 (lv_89 _) ?_
  refine g_iload1 hX d_M_readSum_26 ?_
  refine g_iconst (v := nI 1) hX d_M_readSum_27 rfl ?_
  refine g_iaddN hX d_M_readSum_28 ?_
  refine g_aload0 hX d_M_readSum_29 ?_
  refine g_getI hX d_M_readSum_30 fl_M_295 (lv_89 _) ?_
  refine g_topi hmc ?_
  refine g_iast hX d_M_readSum_33 (lv_126 _) rfl (by omega) ?_
  refine g_vret hX hF d_M_readSum_34 (by omega) (by omega) ?_
  have hv2 : FrV w2 (sI w2 126 (at_ + 1) (nI mc)) := (FrV.rf w2).I (Or.inr (Or.inl rfl))
  have e126 : rI w2 126 = upd (rI w 126) at_ (nI c.length) := by rw [hf2.1 126 (by decide) (by decide), rI_sI]
  refine ⟨rfl, ⟨(hv1.W.tr hf2.W).tr hv2.W, fun j h1 h2 => ?_, ?_⟩, ?_⟩
  · rw [rI_sI, upd_eq, if_neg h2, e126, upd_eq, if_neg h1]
  · rw [rI_sI_ne _ _ _ (by decide), hf2.2.1 21 (by decide) (by decide) (by decide) (by decide) (by decide) (by decide) (by decide) (by decide) (by decide), rI_sI_ne _ _ _ (by decide)]
  cases hx : rdE t true 3 f p with
  | inl e => rw [hx] at he; exact BadB.v (BadP.B he) hv2
  | inr z =>
    rw [hx] at he
    obtain ⟨f2, p2, d⟩ := z
    obtain ⟨kd2, hR, hX2, hseg, hsame⟩ := he
    have hmc2 : nI mc = nI kd2.length := hmc.symm.trans hR.2.2.1.1
    refine ⟨kd2, RdB.v hR.B hv2, hX2, ?_, ?_, hseg, hsame⟩
    · rw [rI_sI, upd_eq, if_neg (by omega), e126, upd_eq, if_pos rfl]
    · rw [rI_sI, upd_eq, if_pos rfl, hmc2]
theorem c_M_readSumB {E : EV} {w : Mem} {t : List Nat} {e at_ : Nat} (h : BadB w t e) (hat : at_ + 1 < 96) : T E m_M_readSum 7 0 0 [.ref 89, .int (nI at_)] w (fun r w2 => r = none ∧ FrW w w2 ∧ BadB w2 t e) := by
  refine T_of (L := [.ref 89, .int (nI at_)]) cf_M_readSum rfl (Nat.le_of_ble_eq_true rfl) (fun X hX hF => ?_)
  obtain ⟨mc, hmc⟩ := h.code
  have hv1 : FrV w (sI (sI w 126 at_ (nI mc)) 126 (at_ + 1) (nI mc)) := ((FrV.rf w).I (Or.inr (Or.inl rfl))).I (Or.inr (Or.inl rfl))
  refine g_aload0 hX d_M_readSum_0 ?_
  refine g_getF hX d_M_readSum_1 fl_M_158 (lv_89 _) ?_
  refine g_iload1 hX d_M_readSum_4 ?_
  refine g_aload0 hX d_M_readSum_5 ?_
  refine g_getI hX d_M_readSum_6 fl_M_295 (lv_89 _) ?_
  refine g_topi hmc ?_
  refine g_iast hX d_M_readSum_9 (lv_126 _) rfl (by omega) ?_
  refine g_aload0 hX d_M_readSum_10 ?_
  refine g_getZ hX d_M_readSum_11 fl_M_258 (lv_89 _) ?_
  refine g_topi (show rI (sI w 126 at_ (nI mc)) 89 19 = nI 1 from h.2.1) ?_
  refine g_if_ne hX d_M_readSum_14 (fun c0 => ?_) (fun h => absurd h (by decide))
  refine g_aload0 hX d_M_readSum_22 ?_
  refine g_getF hX d_M_readSum_23 fl_M_158 (lv_89 _) ?_
  refine g_iload1 hX d_M_readSum_26 ?_
  refine g_iconst (v := nI 1) hX d_M_readSum_27 rfl ?_
  refine g_iaddN hX d_M_readSum_28 ?_
  refine g_aload0 hX d_M_readSum_29 ?_
  refine g_getI hX d_M_readSum_30 fl_M_295 (lv_89 _) ?_
  refine g_topi (show rI (sI w 126 at_ (nI mc)) 89 23 = nI mc from hmc) ?_
  refine g_iast hX d_M_readSum_33 (lv_126 _) rfl (by omega) ?_
  refine g_vret hX hF d_M_readSum_34 (by omega) (by omega) ?_
  exact ⟨rfl, hv1.W, h.v hv1⟩
