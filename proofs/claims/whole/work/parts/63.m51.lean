def m_M_isSign : MR := (⟨"SubgraphDeskModel", "isSign", "(I)Z"⟩, prog_14_method_41_code, 2, (some .boolean))
theorem cf_M_isSign : CF m_M_isSign 1 := ⟨gd 1887 (by decide +kernel) rfl, gd 151 (by decide +kernel) rfl, by decide +kernel, by decide, by decide +kernel⟩
theorem cv_M_isSign : CV m_M_isSign := ⟨gd 1886 (by decide +kernel) rfl, gd 84 (by decide +kernel) rfl⟩
def m_M_isWord : MR := (⟨"SubgraphDeskModel", "isWord", "(J)Z"⟩, prog_14_method_40_code, 3, (some .boolean))
theorem cf_M_isWord : CF m_M_isWord 1 := ⟨gd 1866 (by decide +kernel) rfl, gd 151 (by decide +kernel) rfl, by decide +kernel, by decide, by decide +kernel⟩
theorem cv_M_isWord : CV m_M_isWord := ⟨gd 1865 (by decide +kernel) rfl, gd 79 (by decide +kernel) rfl⟩
def m_M_must : MR := (⟨"SubgraphDeskModel", "must", "(Z)V"⟩, prog_14_method_42_code, 2, none)
theorem cf_M_must : CF m_M_must 1 := ⟨gd 1870 (by decide +kernel) rfl, gd 151 (by decide +kernel) rfl, by decide +kernel, by decide, by decide +kernel⟩
theorem cv_M_must : CV m_M_must := ⟨gd 1869 (by decide +kernel) rfl, gd 80 (by decide +kernel) rfl⟩
def m_M_number : MR := (⟨"SubgraphDeskModel", "number", "(JJ)I"⟩, prog_14_method_43_code, 6, (some .int))
theorem cf_M_number : CF m_M_number 2 := ⟨gd 1917 (by decide +kernel) rfl, gd 151 (by decide +kernel) rfl, by decide +kernel, by decide, by decide +kernel⟩
theorem cv_M_number : CV m_M_number := ⟨gd 1916 (by decide +kernel) rfl, gd 91 (by decide +kernel) rfl⟩
theorem d_M_isSign_0 : Dc prog_14_method_41_code 0 (.aload_n 0) 1 1 := ⟨by decide +kernel, rfl⟩
theorem d_M_isSign_1 : Dc prog_14_method_41_code 1 (.getfield 278) 3 4 := ⟨by decide +kernel, rfl⟩
theorem d_M_isSign_4 : Dc prog_14_method_41_code 4 (.iconst 3) 1 5 := ⟨by decide +kernel, rfl⟩
theorem d_M_isSign_5 : Dj prog_14_method_41_code 5 (.if_icmp .ne 17) 8 17 22 := ⟨by decide +kernel, rfl, rfl⟩
theorem d_M_isSign_8 : Dc prog_14_method_41_code 8 (.aload_n 0) 1 9 := ⟨by decide +kernel, rfl⟩
theorem d_M_isSign_9 : Dc prog_14_method_41_code 9 (.getfield 268) 3 12 := ⟨by decide +kernel, rfl⟩
theorem d_M_isSign_12 : Dc prog_14_method_41_code 12 (.iload_n 1) 1 13 := ⟨by decide +kernel, rfl⟩
theorem d_M_isSign_13 : Dc prog_14_method_41_code 13 (.i2l) 1 14 := ⟨by decide +kernel, rfl⟩
theorem d_M_isSign_14 : Dc prog_14_method_41_code 14 (.lcmp) 1 15 := ⟨by decide +kernel, rfl⟩
theorem d_M_isSign_15 : Dj prog_14_method_41_code 15 (.ifCond .ne 7) 18 7 22 := ⟨by decide +kernel, rfl, rfl⟩
theorem d_M_isSign_18 : Dc prog_14_method_41_code 18 (.iconst 1) 1 19 := ⟨by decide +kernel, rfl⟩
theorem d_M_isSign_19 : Dj prog_14_method_41_code 19 (.goto 4) 22 4 23 := ⟨by decide +kernel, rfl, rfl⟩
theorem d_M_isSign_22 : Dc prog_14_method_41_code 22 (.iconst 0) 1 23 := ⟨by decide +kernel, rfl⟩
theorem d_M_isSign_23 : Dc prog_14_method_41_code 23 (.ireturn) 1 24 := ⟨by decide +kernel, rfl⟩
theorem d_M_isWord_0 : Dc prog_14_method_40_code 0 (.aload_n 0) 1 1 := ⟨by decide +kernel, rfl⟩
theorem d_M_isWord_1 : Dc prog_14_method_40_code 1 (.getfield 278) 3 4 := ⟨by decide +kernel, rfl⟩
theorem d_M_isWord_4 : Dc prog_14_method_40_code 4 (.iconst 1) 1 5 := ⟨by decide +kernel, rfl⟩
theorem d_M_isWord_5 : Dj prog_14_method_40_code 5 (.if_icmp .ne 16) 8 16 21 := ⟨by decide +kernel, rfl, rfl⟩
theorem d_M_isWord_8 : Dc prog_14_method_40_code 8 (.aload_n 0) 1 9 := ⟨by decide +kernel, rfl⟩
theorem d_M_isWord_9 : Dc prog_14_method_40_code 9 (.getfield 268) 3 12 := ⟨by decide +kernel, rfl⟩
theorem d_M_isWord_12 : Dc prog_14_method_40_code 12 (.lload_n 1) 1 13 := ⟨by decide +kernel, rfl⟩
theorem d_M_isWord_13 : Dc prog_14_method_40_code 13 (.lcmp) 1 14 := ⟨by decide +kernel, rfl⟩
theorem d_M_isWord_14 : Dj prog_14_method_40_code 14 (.ifCond .ne 7) 17 7 21 := ⟨by decide +kernel, rfl, rfl⟩
theorem d_M_isWord_17 : Dc prog_14_method_40_code 17 (.iconst 1) 1 18 := ⟨by decide +kernel, rfl⟩
theorem d_M_isWord_18 : Dj prog_14_method_40_code 18 (.goto 4) 21 4 22 := ⟨by decide +kernel, rfl, rfl⟩
theorem d_M_isWord_21 : Dc prog_14_method_40_code 21 (.iconst 0) 1 22 := ⟨by decide +kernel, rfl⟩
theorem d_M_isWord_22 : Dc prog_14_method_40_code 22 (.ireturn) 1 23 := ⟨by decide +kernel, rfl⟩
theorem d_M_must_0 : Dc prog_14_method_42_code 0 (.aload_n 0) 1 1 := ⟨by decide +kernel, rfl⟩
theorem d_M_must_1 : Dc prog_14_method_42_code 1 (.getfield 258) 3 4 := ⟨by decide +kernel, rfl⟩
theorem d_M_must_4 : Dj prog_14_method_42_code 4 (.ifCond .ne 20) 7 20 24 := ⟨by decide +kernel, rfl, rfl⟩
theorem d_M_must_7 : Dc prog_14_method_42_code 7 (.iload_n 1) 1 8 := ⟨by decide +kernel, rfl⟩
theorem d_M_must_8 : Dj prog_14_method_42_code 8 (.ifCond .ne 16) 11 16 24 := ⟨by decide +kernel, rfl, rfl⟩
theorem d_M_must_11 : Dc prog_14_method_42_code 11 (.aload_n 0) 1 12 := ⟨by decide +kernel, rfl⟩
theorem d_M_must_12 : Dc prog_14_method_42_code 12 (.iconst 1) 1 13 := ⟨by decide +kernel, rfl⟩
theorem d_M_must_13 : Dc prog_14_method_42_code 13 (.putfield 258) 3 16 := ⟨by decide +kernel, rfl⟩
theorem d_M_must_16 : Dc prog_14_method_42_code 16 (.aload_n 0) 1 17 := ⟨by decide +kernel, rfl⟩
theorem d_M_must_17 : Dc prog_14_method_42_code 17 (.aload_n 0) 1 18 := ⟨by decide +kernel, rfl⟩
theorem d_M_must_18 : Dc prog_14_method_42_code 18 (.getfield 265) 3 21 := ⟨by decide +kernel, rfl⟩
theorem d_M_must_21 : Dc prog_14_method_42_code 21 (.putfield 38) 3 24 := ⟨by decide +kernel, rfl⟩
theorem d_M_must_24 : Dc prog_14_method_42_code 24 (.aload_n 0) 1 25 := ⟨by decide +kernel, rfl⟩
theorem d_M_must_25 : Dc prog_14_method_42_code 25 (.getfield 258) 3 28 := ⟨by decide +kernel, rfl⟩
theorem d_M_must_28 : Dj prog_14_method_42_code 28 (.ifCond .ne 7) 31 7 35 := ⟨by decide +kernel, rfl, rfl⟩
theorem d_M_must_31 : Dc prog_14_method_42_code 31 (.aload_n 0) 1 32 := ⟨by decide +kernel, rfl⟩
theorem d_M_must_32 : Dc prog_14_method_42_code 32 (.invokevirtual 262) 3 35 := ⟨by decide +kernel, rfl⟩
theorem d_M_must_35 : Dc prog_14_method_42_code 35 (.return_) 1 36 := ⟨by decide +kernel, rfl⟩
theorem d_M_number_0 : Dc prog_14_method_43_code 0 (.aload_n 0) 1 1 := ⟨by decide +kernel, rfl⟩
theorem d_M_number_1 : Dc prog_14_method_43_code 1 (.getfield 268) 3 4 := ⟨by decide +kernel, rfl⟩
theorem d_M_number_4 : Dc prog_14_method_43_code 4 (.l2i) 1 5 := ⟨by decide +kernel, rfl⟩
theorem d_M_number_5 : Dc prog_14_method_43_code 5 (.istore 5) 2 7 := ⟨by decide +kernel, rfl⟩
theorem d_M_number_7 : Dc prog_14_method_43_code 7 (.aload_n 0) 1 8 := ⟨by decide +kernel, rfl⟩
theorem d_M_number_8 : Dc prog_14_method_43_code 8 (.aload_n 0) 1 9 := ⟨by decide +kernel, rfl⟩
theorem d_M_number_9 : Dc prog_14_method_43_code 9 (.getfield 278) 3 12 := ⟨by decide +kernel, rfl⟩
theorem d_M_number_12 : Dc prog_14_method_43_code 12 (.iconst 2) 1 13 := ⟨by decide +kernel, rfl⟩
theorem d_M_number_13 : Dj prog_14_method_43_code 13 (.if_icmp .ne 19) 16 19 32 := ⟨by decide +kernel, rfl, rfl⟩
theorem d_M_number_16 : Dc prog_14_method_43_code 16 (.aload_n 0) 1 17 := ⟨by decide +kernel, rfl⟩
theorem d_M_number_17 : Dc prog_14_method_43_code 17 (.getfield 268) 3 20 := ⟨by decide +kernel, rfl⟩
theorem d_M_number_20 : Dc prog_14_method_43_code 20 (.lload_n 1) 1 21 := ⟨by decide +kernel, rfl⟩
theorem d_M_number_21 : Dc prog_14_method_43_code 21 (.lload_n 3) 1 22 := ⟨by decide +kernel, rfl⟩
theorem d_M_number_22 : Dc prog_14_method_43_code 22 (.invokestatic 190) 3 25 := ⟨by decide +kernel, rfl⟩
theorem d_M_number_25 : Dj prog_14_method_43_code 25 (.ifCond .eq 7) 28 7 32 := ⟨by decide +kernel, rfl, rfl⟩
theorem d_M_number_28 : Dc prog_14_method_43_code 28 (.iconst 1) 1 29 := ⟨by decide +kernel, rfl⟩
theorem d_M_number_29 : Dj prog_14_method_43_code 29 (.goto 4) 32 4 33 := ⟨by decide +kernel, rfl, rfl⟩
theorem d_M_number_32 : Dc prog_14_method_43_code 32 (.iconst 0) 1 33 := ⟨by decide +kernel, rfl⟩
theorem d_M_number_33 : Dc prog_14_method_43_code 33 (.invokevirtual 291) 3 36 := ⟨by decide +kernel, rfl⟩
theorem d_M_number_36 : Dc prog_14_method_43_code 36 (.iload 5) 2 38 := ⟨by decide +kernel, rfl⟩
theorem d_M_number_38 : Dc prog_14_method_43_code 38 (.ireturn) 1 39 := ⟨by decide +kernel, rfl⟩
theorem fl_M_258 : FL "SubgraphDeskModel" 258 12 19 false .boolean (1, 0) := ⟨R_M, F_M, 69, ty_M, rfl, rfl, in_M, tyok_M, nm_M, by decide, gd 1491 (by decide +kernel) rfl, rfl, rfl, rfl⟩
theorem ml_M_262 : Cond.methodLink "SubgraphDeskModel" 262 m_M_next.1 ∈ lw_gd := gd 1845 (by decide +kernel) rfl
theorem ml_M_291 : Cond.methodLink "SubgraphDeskModel" 291 m_M_must.1 ∈ lw_gd := gd 1867 (by decide +kernel) rfl
theorem wcN_ge {l : List Nat} : ∀ m, (∀ i, i < m → 97 ≤ gA l i ∧ gA l i ≤ 122) → 0 ≤ wcN l m
  | 0, _ => by unfold wcN; omega
  | m + 1, h => by
    have := wcN_ge (l := l) m (fun i hi => h i (by omega))
    have := h m (by omega)
    unfold wcN
    omega
theorem word_inj {t l : List Nat} {f : Nat} : ∀ k m, (∀ i, i < k → 97 ≤ gA t (f + i) ∧ gA t (f + i) ≤ 122) → (∀ i, i < m → 97 ≤ gA l i ∧ gA l i ≤ 122) → k ≤ 10 → wordW t f k = wcN l m → k = m ∧ ∀ i, i < m → gA t (f + i) = gA l i
  | 0, 0, _, _, _, _ => ⟨rfl, fun i hi => absurd hi (Nat.not_lt_zero _)⟩
  | 0, m + 1, _, hm, _, h => by
    have := wcN_ge (l := l) m (fun i hi => hm i (by omega))
    have := hm m (by omega)
    unfold wordW wcN at h
    omega
  | k + 1, 0, hk, _, h10, h => by
    have := ((wordW_b (t := t) (f := f) k (fun i hi => hk i (by omega))).2.2 (by omega)).1
    have := hk k (by omega)
    unfold wordW wcN at h
    rw [if_pos (by omega)] at h
    omega
  | k + 1, m + 1, hk, hm, h10, h => by
    have h1 := hk k (by omega)
    have h2 := hm m (by omega)
    unfold wordW wcN at h
    rw [if_pos (by omega)] at h
    obtain ⟨i1, i2⟩ := word_inj k m (fun i hi => hk i (by omega)) (fun i hi => hm i (by omega)) (by omega) (by omega)
    refine ⟨by omega, fun i hi => ?_⟩
    by_cases e : i = m
    · subst e
      have : gA t (f + k) = gA l i := by omega
      rw [← i1]
      rw [i1] at this ⊢
      exact this
    · exact i2 i (by omega)
theorem word_eq {t l : List Nat} {f : Nat} : ∀ k, k ≤ 10 → (∀ i, i < k → gA t (f + i) = gA l i) → wordW t f k = wcN l k
  | 0, _, _ => rfl
  | k + 1, h10, h => by
    unfold wordW wcN
    rw [if_pos (by omega), word_eq k (by omega) (fun i hi => h i (by omega)), h k (by omega)]
theorem wor_in {t : List Nat} {f : Nat} (h : srt t f = 1) : ∀ i, i < enT t f - f → 97 ≤ gA t (f + i) ∧ gA t (f + i) ≤ 122 := fun i hi => by
  have he : enT t f = runE t 1 f := by unfold enT; rw [h]; rfl
  have := (runE_in (t := t) (q := 1) (p := f) (j := f + i) (by omega) (by omega)).2
  omega
theorem dig_in {t : List Nat} {f : Nat} (h : srt t f = 2) : ∀ i, i < enT t f - f → 48 ≤ gA t (f + i) ∧ gA t (f + i) ≤ 57 := fun i hi => by
  have he : enT t f = runE t 2 f := by unfold enT; rw [h]; rfl
  have := (runE_in (t := t) (q := 2) (p := f) (j := f + i) (by omega) (by omega)).2
  omega
theorem word_iff {t l : List Nat} {f : Nat} (h : srt t f = 1) (hl : l.length ≤ 10) (hw : ∀ i, i < l.length → 97 ≤ gA l i ∧ gA l i ≤ 122) : worI t f = wcN l l.length ↔ isW t f l := by
  have hwi : worI t f = wordW t f (enT t f - f) := by unfold worI; rw [if_pos h]
  rw [hwi]
  constructor
  · intro e
    by_cases hk : enT t f - f ≤ 10
    · obtain ⟨e1, e2⟩ := word_inj _ _ (wor_in h) hw hk e
      exact ⟨h, e1, e2⟩
    · obtain ⟨m, hm⟩ : ∃ m, enT t f - f = m + 1 := ⟨enT t f - f - 1, by omega⟩
      rw [hm] at e
      unfold wordW at e
      rw [if_neg (by omega)] at e
      have := wcN_ge _ hw
      omega
  · rintro ⟨-, e1, e2⟩
    rw [e1]
    exact word_eq _ hl e2
theorem worI_b {t : List Nat} {f : Nat} (h8 : ∀ k, k < t.length → gA t k < 256) : -1 ≤ worI t f ∧ worI t f < 1125899906842624 := by
  unfold worI
  by_cases h1 : srt t f = 1
  · rw [if_pos h1]
    have := wordW_b (t := t) (f := f) _ (wor_in h1)
    exact ⟨this.1, this.2.1⟩
  · rw [if_neg h1]
    by_cases h2 : srt t f = 2
    · rw [if_pos h2]
      have := digW_b (t := t) (f := f) _ (dig_in h2)
      omega
    · rw [if_neg h2]
      by_cases h3 : srt t f = 3
      · rw [if_pos h3]
        have := h8 f (srt_lt (by omega))
        omega
      · rw [if_neg h3]; omega
theorem num_iff {t : List Nat} {f lo hi : Nat} (hh : hi ≤ 1000) : isN t f lo hi ↔ srt t f = 2 ∧ (lo : Int) ≤ worI t f ∧ worI t f ≤ (hi : Int) := by
  constructor
  · rintro ⟨h1, h2, h3⟩
    obtain ⟨d1, d2, d3⟩ := digW_C (t := t) (f := f) _ (dig_in h1)
    have e : worI t f = digW t f (enT t f - f) := by unfold worI; rw [if_neg (by omega), if_pos h1]
    have h4 : digW t f (enT t f - f) ≤ 1000 := d1.mpr (show numC t f ≤ 1000 by omega)
    have h5 : digW t f (enT t f - f) = (numC t f : Int) := d2 h4
    exact ⟨h1, by omega, by omega⟩
  · rintro ⟨h1, h2, h3⟩
    obtain ⟨d1, d2, d3⟩ := digW_C (t := t) (f := f) _ (dig_in h1)
    have e : worI t f = digW t f (enT t f - f) := by unfold worI; rw [if_neg (by omega), if_pos h1]
    have h5 : digW t f (enT t f - f) = (numC t f : Int) := d2 (by omega)
    exact ⟨h1, by omega, by omega⟩
theorem num_wor {t : List Nat} {f lo hi : Nat} (hh : hi ≤ 1000) (h : isN t f lo hi) : worI t f = (numC t f : Int) := by
  obtain ⟨d1, d2, d3⟩ := digW_C (t := t) (f := f) _ (dig_in h.1)
  have e : worI t f = digW t f (enT t f - f) := by unfold worI; rw [if_neg (by have := h.1; omega), if_pos h.1]
  rw [e]
  exact d2 (d1.mpr (show numC t f ≤ 1000 by have := h.2.2; omega))
theorem TokP.b {w : Mem} {t : List Nat} {f : Nat} (h : TokP w t f) : -1 ≤ worI t f ∧ worI t f < 1125899906842624 := worI_b (fun k hk => (h.1.2.2 k hk).2)
theorem TokP.o {w : Mem} {t : List Nat} {f o k : Nat} {x : Int32} (h : TokP w t f) (h1 : o ≠ 98) (h2 : o ≠ 89 ∨ (k ≠ 13 ∧ k ≠ 14 ∧ k ≠ 15 ∧ k ≠ 16)) : TokP (sI w o k x) t f := by
  have e : ∀ j, (j = 13 ∨ j = 14 ∨ j = 15 ∨ j = 16) → rI (sI w o k x) 89 j = rI w 89 j := fun j hj => by
    by_cases z : o = 89
    · subst z; rw [rI_sI, upd_eq, if_neg (by omega)]
    · rw [rI_sI_ne _ _ _ (Ne.symm z)]
  unfold TokP
  rw [rI_sI_ne _ _ _ (Ne.symm h1), e 13 (by decide), e 14 (by decide), e 15 (by decide), e 16 (by decide)]
  exact h
theorem TokP.q {w w2 : Mem} {t : List Nat} {f : Nat} (h : TokP w t f) (hf : FrQ w w2) : TokP w2 t f := by
  unfold TokP
  rw [hf.1 98 (by decide) (by decide) (by decide), hf.2.1 13 (by decide) (by decide), hf.2.1 14 (by decide) (by decide), hf.2.1 15 (by decide) (by decide), hf.2.1 16 (by decide) (by decide)]
  refine ⟨h.1, h.2.1, h.2.2.1, h.2.2.2.1, ?_, h.2.2.2.2.2⟩
  show rJ w2 89 17 = _
  unfold rJ
  rw [hf.2.2]
  exact h.2.2.2.2.1
theorem CodeP.n {w w2 : Mem} {c : List (Nat × Nat)} (h : CodeP w c) (hf : FrN w w2) : CodeP w2 c := by
  unfold CodeP
  rw [hf.1 100 (by decide), hf.1 101 (by decide), hf.2.1 23 (by decide) (by decide) (by decide)]
  exact h
theorem PileP.n {w w2 : Mem} {c : List (Nat × Nat)} (h : PileP w c) (hf : FrN w w2) : PileP w2 c := by
  unfold PileP
  rw [hf.1 102 (by decide), hf.1 103 (by decide), hf.2.1 29 (by decide) (by decide) (by decide)]
  exact h
/-- while a text is read -/
def FrR (w w2 : Mem) : Prop := (∀ a, a ≠ 89 → (a < 100 ∨ 103 < a) → rI w2 a = rI w a) ∧ (∀ k, k ≠ 14 → k ≠ 15 → k ≠ 16 → k ≠ 18 → k ≠ 19 → k ≠ 23 → k ≠ 26 → k ≠ 29 → k ≠ 30 → rI w2 89 k = rI w 89 k) ∧ (∀ a, a ≠ 89 → rJ w2 a = rJ w a) ∧ (∀ k, k ≠ 17 → rJ w2 89 k = rJ w 89 k) ∧ w2.2.2 = w.2.2
theorem FrR.rf (w : Mem) : FrR w w := ⟨fun _ _ _ => rfl, fun _ _ _ _ _ _ _ _ _ _ => rfl, fun _ _ => rfl, fun _ _ => rfl, rfl⟩
theorem FrR.tr {a b c : Mem} (h : FrR a b) (h2 : FrR b c) : FrR a c := ⟨fun x h1 h3 => (h2.1 x h1 h3).trans (h.1 x h1 h3), fun k a1 a2 a3 a4 a5 a6 a7 a8 a9 => (h2.2.1 k a1 a2 a3 a4 a5 a6 a7 a8 a9).trans (h.2.1 k a1 a2 a3 a4 a5 a6 a7 a8 a9), fun x hx => (h2.2.2.1 x hx).trans (h.2.2.1 x hx), fun k hk => (h2.2.2.2.1 k hk).trans (h.2.2.2.1 k hk), h2.2.2.2.2.trans h.2.2.2.2⟩
theorem FrN.R {w w2 : Mem} (h : FrN w w2) : FrR w w2 := ⟨fun a h1 _ => h.1 a h1, fun k a1 a2 a3 _ _ _ _ _ _ => h.2.1 k a1 a2 a3, h.2.2.1, h.2.2.2.1, h.2.2.2.2⟩
theorem FrQ.R {w w2 : Mem} (h : FrQ w w2) : FrR w w2 := ⟨fun a h1 h2 => h.1 a h1 (by omega) (by omega), fun k _ _ _ _ _ a1 _ a2 _ => h.2.1 k a1 a2, fun a _ => by unfold rJ; rw [h.2.2], fun k _ => by unfold rJ; rw [h.2.2], by rw [h.2.2]⟩
theorem FrR.I {w w2 : Mem} {o k : Nat} {x : Int32} (ho : (100 ≤ o ∧ o ≤ 103) ∨ (o = 89 ∧ (k = 18 ∨ k = 19 ∨ k = 23 ∨ k = 26 ∨ k = 29 ∨ k = 30))) (h : FrR w w2) : FrR w (sI w2 o k x) := by
  refine ⟨fun a h1 h2 => by rw [rI_sI_ne _ _ _ (by omega)]; exact h.1 a h1 h2, fun j a1 a2 a3 a4 a5 a6 a7 a8 a9 => ?_, h.2.2⟩
  by_cases e : o = 89
  · subst e; rw [rI_sI, upd_eq, if_neg (by omega)]; exact h.2.1 j a1 a2 a3 a4 a5 a6 a7 a8 a9
  · rw [rI_sI_ne _ _ _ (Ne.symm e)]; exact h.2.1 j a1 a2 a3 a4 a5 a6 a7 a8 a9
/-- the reader at f: words so far, code, pile, brackets -/
def RdP (w : Mem) (t : List Nat) (f p : Nat) (c s : List (Nat × Nat)) (od : Nat) : Prop := TokP w t f ∧ rI w 89 26 = nI p ∧ CodeP w c ∧ PileP w s ∧ rI w 89 30 = nI od ∧ rI w 89 19 = nI 0 ∧ rI w 89 18 = -1
def BadP (w : Mem) (t : List Nat) (e : Nat) : Prop := MTape (rI w 98) (rI w 89 13) t ∧ rI w 89 19 = nI 1 ∧ rI w 89 18 = nI e ∧ e ≤ t.length ∧ ∃ c s, CodeP w c ∧ PileP w s ∧ PileW c s
/-- what an entry of the code is -/
def OkE (o : Bool) (q : Nat × Nat) : Prop := q.2 < 1001 ∧ (q.1 ≤ (partsL o).length ∨ (20 ≤ q.1 ∧ q.1 < 31))
def RdW (o : Bool) (c s : List (Nat × Nat)) (f p od : Nat) : Prop := PileW c s ∧ c.length + s.length ≤ f ∧ p ≤ 50 ∧ od ≤ 8 ∧ (∀ q ∈ c, OkE o q) ∧ ∀ k, k < c.length → 29 ≤ cO c k → (k < cA c k ∧ cA c k ≤ c.length) ∨ ∃ q ∈ s, q.2 = k ∧ (q.1 = 29 ∨ q.1 = 30)
def pK (t : List Nat) (f : Nat) (ws : List (List Nat)) : Nat → Int32
  | 0 => -1
  | k + 1 => if isW t f (gA2 ws k) then nI (k + 1) else pK t f ws k
theorem c_M_isWord {E : EV} {w : Mem} {t wd : List Nat} {f : Nat} {x : Int64} (h : TokP w t f) (hx : x = lI (wcN wd wd.length)) (hl : wd.length ≤ 10) (hw : ∀ i, i < wd.length → 97 ≤ gA wd i ∧ gA wd i ≤ 122) : T E m_M_isWord 0 0 0 [.ref 89, .long x] w (Ret (some (.int (b2i (isW t f wd)))) w) := by
  refine T_of (L := [.ref 89, .long x, un]) cf_M_isWord rfl (Nat.le_of_ble_eq_true rfl) (fun X hX hF => ?_)
  have hb := h.b
  have hs := srt_le t f
  have hg := wcN_ge _ hw
  have hg2 : wcN wd wd.length < 1125899906842624 := by
    have := (wordW_b (t := wd) (f := 0) wd.length (fun i hi => by rw [Nat.zero_add]; exact hw i hi)).2.1
    rw [word_eq (l := wd) wd.length hl (fun i hi => by rw [Nat.zero_add])] at this
    exact this
  subst hx
  refine g_aload0 hX d_M_isWord_0 ?_
  refine g_getI hX d_M_isWord_1 fl_M_278 (lv_89 _) ?_
  refine g_topi h.2.2.2.1 ?_
  refine g_iconst (v := nI 1) hX d_M_isWord_4 rfl ?_
  refine g_icmpN_ne hX d_M_isWord_5 (by omega) (by omega) (fun e5 => ?_) (fun e5 => ?_)
  · refine g_iconst (v := nI 0) hX d_M_isWord_21 rfl ?_
    refine g_zret hX hF d_M_isWord_22 (Or.inl rfl) (by omega) (by omega) ?_
    first
      | exact ret_f (fun z => e5 z.1)
      | exact ret_f (fun z => e14 (congrArg lI ((word_iff e5 hl hw).mpr z)))
      | exact ret_t ((word_iff e5 hl hw).mp ((lI_eq (by omega) (by omega)).mp e14))
  · refine g_aload0 hX d_M_isWord_8 ?_
    refine g_getJ hX d_M_isWord_9 fl_M_268 (lv_89 _) ?_
    refine g_topl h.2.2.2.2.1 ?_
    refine g_lload1 hX d_M_isWord_12 ?_
    refine g_lcmp_ne hX d_M_isWord_13 d_M_isWord_14 (fun e14 => ?_) (fun e14 => ?_)
    · refine g_iconst (v := nI 0) hX d_M_isWord_21 rfl ?_
      refine g_zret hX hF d_M_isWord_22 (Or.inl rfl) (by omega) (by omega) ?_
      first
        | exact ret_f (fun z => e5 z.1)
        | exact ret_f (fun z => e14 (congrArg lI ((word_iff e5 hl hw).mpr z)))
        | exact ret_t ((word_iff e5 hl hw).mp ((lI_eq (by omega) (by omega)).mp e14))
    · refine g_iconst (v := nI 1) hX d_M_isWord_17 rfl ?_
      refine g_goto hX d_M_isWord_18 ?_
      refine g_zret hX hF d_M_isWord_22 (Or.inr rfl) (by omega) (by omega) ?_
      first
        | exact ret_f (fun z => e5 z.1)
        | exact ret_f (fun z => e14 (congrArg lI ((word_iff e5 hl hw).mpr z)))
        | exact ret_t ((word_iff e5 hl hw).mp ((lI_eq (by omega) (by omega)).mp e14))
theorem c_M_isSign {E : EV} {w : Mem} {t : List Nat} {f c : Nat} (h : TokP w t f) (hc : c < 256) : T E m_M_isSign 0 0 0 [.ref 89, .int (nI c)] w (Ret (some (.int (b2i (isS t f c)))) w) := by
  refine T_of (L := [.ref 89, .int (nI c)]) cf_M_isSign rfl (Nat.le_of_ble_eq_true rfl) (fun X hX hF => ?_)
  have hb := h.b
  have hs := srt_le t f
  refine g_aload0 hX d_M_isSign_0 ?_
  refine g_getI hX d_M_isSign_1 fl_M_278 (lv_89 _) ?_
  refine g_topi h.2.2.2.1 ?_
  refine g_iconst (v := nI 3) hX d_M_isSign_4 rfl ?_
  refine g_icmpN_ne hX d_M_isSign_5 (by omega) (by omega) (fun e5 => ?_) (fun e5 => ?_)
  · refine g_iconst (v := nI 0) hX d_M_isSign_22 rfl ?_
    refine g_zret hX hF d_M_isSign_23 (Or.inl rfl) (by omega) (by omega) ?_
    first
      | exact ret_f (fun z => e5 z.1)
      | exact ret_f (fun z => e15 (by rw [hwo, z.2]))
      | exact ret_t ⟨e5, by
          have := (lI_eq (by omega) (by omega)).mp e15
          omega⟩
  · have hwo : worI t f = (gA t f : Int) := by unfold worI; rw [if_neg (by omega), if_neg (by omega), if_pos e5]
    refine g_aload0 hX d_M_isSign_8 ?_
    refine g_getJ hX d_M_isSign_9 fl_M_268 (lv_89 _) ?_
    refine g_topl h.2.2.2.2.1 ?_
    refine g_iload1 hX d_M_isSign_12 ?_
    refine g_i2l hX d_M_isSign_13 ?_
    refine g_topl ((nI_l (by omega)).trans (lI_nat c)) ?_
    refine g_lcmp_ne hX d_M_isSign_14 d_M_isSign_15 (fun e15 => ?_) (fun e15 => ?_)
    · refine g_iconst (v := nI 0) hX d_M_isSign_22 rfl ?_
      refine g_zret hX hF d_M_isSign_23 (Or.inl rfl) (by omega) (by omega) ?_
      first
        | exact ret_f (fun z => e5 z.1)
        | exact ret_f (fun z => e15 (by rw [hwo, z.2]))
        | exact ret_t ⟨e5, by
            have := (lI_eq (by omega) (by omega)).mp e15
            omega⟩
    · refine g_iconst (v := nI 1) hX d_M_isSign_18 rfl ?_
      refine g_goto hX d_M_isSign_19 ?_
      refine g_zret hX hF d_M_isSign_23 (Or.inr rfl) (by omega) (by omega) ?_
      first
        | exact ret_f (fun z => e5 z.1)
        | exact ret_f (fun z => e15 (by rw [hwo, z.2]))
        | exact ret_t ⟨e5, by
            have := (lI_eq (by omega) (by omega)).mp e15
            omega⟩
theorem c_M_mustY {E : EV} {w : Mem} {t : List Nat} {f : Nat} {x : Int32} (h : TokP w t f) (hb : rI w 89 19 = nI 0) (hx : x = nI 1) : T E m_M_must 2 0 0 [.ref 89, .int x] w (fun r w2 => r = none ∧ FrN w w2 ∧ TokP w2 t (nxT t f)) := by
  refine T_of (L := [.ref 89, .int x]) cf_M_must rfl (Nat.le_of_ble_eq_true rfl) (fun X hX hF => ?_)
  subst hx
  refine g_aload0 hX d_M_must_0 ?_
  refine g_getZ hX d_M_must_1 fl_M_258 (lv_89 _) ?_
  refine g_topi hb ?_
  refine g_if_ne hX d_M_must_4 (fun h => absurd (by decide) h) (fun c0 => ?_)
  refine g_iload1 hX d_M_must_7 ?_
  refine g_if_ne hX d_M_must_8 (fun c1 => ?_) (fun h => absurd h (by decide))
  refine g_aload0 hX d_M_must_24 ?_
  refine g_getZ hX d_M_must_25 fl_M_258 (lv_89 _) ?_
  refine g_topi hb ?_
  refine g_if_ne hX d_M_must_28 (fun h => absurd (by decide) h) (fun c2 => ?_)
  refine g_aload0 hX d_M_must_31 ?_
  refine g_callV (As := []) hX hF.1 d_M_must_32 ml_M_262 cf_M_next cv_M_next rfl rfl (c_M_next h) (rcv_obj hX (lv_89 _) rfl rfl) (by omega) (by omega) (by omega) (Nat.le_of_ble_eq_true rfl) ?_
  rintro _ w2 ⟨rfl, hf, hT2⟩
  show G0 _ _ _ _ _ _ _ _
  refine g_vret hX hF d_M_must_35 (by omega) (by omega) ?_
  exact ⟨rfl, hf, hT2⟩
theorem c_M_mustN {E : EV} {w : Mem} {f : Nat} {x : Int32} (h : rI w 89 14 = nI f) (hb : rI w 89 19 = nI 0) (hx : x = nI 0) : T E m_M_must 2 0 0 [.ref 89, .int x] w (Ret none (sI (sI w 89 19 (nI 1)) 89 18 (nI f))) := by
  refine T_of (L := [.ref 89, .int x]) cf_M_must rfl (Nat.le_of_ble_eq_true rfl) (fun X hX hF => ?_)
  subst hx
  refine g_aload0 hX d_M_must_0 ?_
  refine g_getZ hX d_M_must_1 fl_M_258 (lv_89 _) ?_
  refine g_topi hb ?_
  refine g_if_ne hX d_M_must_4 (fun h => absurd (by decide) h) (fun c0 => ?_)
  refine g_iload1 hX d_M_must_7 ?_
  refine g_if_ne hX d_M_must_8 (fun h => absurd (by decide) h) (fun c1 => ?_)
  refine g_aload0 hX d_M_must_11 ?_
  refine g_iconst (v := nI 1) hX d_M_must_12 rfl ?_
  refine g_putZ hX d_M_must_13 fl_M_258 (lv_89 _) (by first | exact Or.inl rfl | exact Or.inr rfl) ?_
  refine g_aload0 hX d_M_must_16 ?_
  refine g_aload0 hX d_M_must_17 ?_
  refine g_getI hX d_M_must_18 fl_M_265 (lv_89 _) ?_
  refine g_topi (show rI (sI w 89 19 (nI 1)) 89 14 = nI f from h) ?_
  refine g_putI hX d_M_must_21 fl_M_38 (lv_89 _) ?_
  refine g_aload0 hX d_M_must_24 ?_
  refine g_getZ hX d_M_must_25 fl_M_258 (lv_89 _) ?_
  refine g_topi (show rI (sI (sI w 89 19 (nI 1)) 89 18 (nI f)) 89 19 = nI 1 by rw [rI_sI, upd_eq, if_neg (by decide), rI_sI, upd_eq, if_pos rfl]) ?_
  refine g_if_ne hX d_M_must_28 (fun c2 => ?_) (fun h => absurd h (by decide))
  refine g_vret hX hF d_M_must_35 (by omega) (by omega) ?_
  exact ⟨rfl, rfl⟩
theorem c_M_mustB {E : EV} {w : Mem} {x : Int32} (hb : rI w 89 19 = nI 1) : T E m_M_must 2 0 0 [.ref 89, .int x] w (Ret none w) := by
  refine T_of (L := [.ref 89, .int x]) cf_M_must rfl (Nat.le_of_ble_eq_true rfl) (fun X hX hF => ?_)
  refine g_aload0 hX d_M_must_0 ?_
  refine g_getZ hX d_M_must_1 fl_M_258 (lv_89 _) ?_
  refine g_topi hb ?_
  refine g_if_ne hX d_M_must_4 (fun c0 => ?_) (fun h => absurd h (by decide))
  refine g_aload0 hX d_M_must_24 ?_
  refine g_getZ hX d_M_must_25 fl_M_258 (lv_89 _) ?_
  refine g_topi hb ?_
  refine g_if_ne hX d_M_must_28 (fun c1 => ?_) (fun h => absurd h (by decide))
  refine g_vret hX hF d_M_must_35 (by omega) (by omega) ?_
  exact ⟨rfl, rfl⟩
theorem c_M_numberY {E : EV} {w : Mem} {t : List Nat} {f lo hi : Nat} (h : TokP w t f) (hb : rI w 89 19 = nI 0) (hh : hi ≤ 1000) (hlo : lo ≤ 1000) (hn : isN t f lo hi) : T E m_M_number 3 0 0 [.ref 89, .long (lN lo), .long (lN hi)] w (fun r w2 => r = some (.int (nI (numC t f))) ∧ FrN w w2 ∧ TokP w2 t (nxT t f)) := by
  refine T_of (L := [.ref 89, .long (lN lo), un, .long (lN hi), un, un]) cf_M_number rfl (Nat.le_of_ble_eq_true rfl) (fun X hX hF => ?_)
  have hbw := h.b
  have hin : (lN lo ≤ lI (worI t f) ∧ lI (worI t f) ≤ lN hi) ↔ ((lo : Int) ≤ worI t f ∧ worI t f ≤ (hi : Int)) := by
    rw [lI_nat, lI_nat, lI_le (by omega) (by omega), lI_le (by omega) (by omega)]
  have hn2 := (num_iff hh).mp hn
  have hwn := num_wor hh hn
  refine g_aload0 hX d_M_number_0 ?_
  refine g_getJ hX d_M_number_1 fl_M_268 (lv_89 _) ?_
  refine g_topl h.2.2.2.2.1 ?_
  refine g_l2i hX d_M_number_4 ?_
  refine g_topi (y := nI (numC t f)) (by rw [hwn]; exact lN_i _) ?_
  refine g_istore5 hX d_M_number_5 rfl (by decide) ?_
  refine g_aload0 hX d_M_number_7 ?_
  refine g_aload0 hX d_M_number_8 ?_
  refine g_getI hX d_M_number_9 fl_M_278 (lv_89 _) ?_
  refine g_topi h.2.2.2.1 ?_
  refine g_iconst (v := nI 2) hX d_M_number_12 rfl ?_
  refine g_icmpN_ne hX d_M_number_13 (by omega) (by omega) (fun h => absurd (by omega) h) (fun c0 => ?_)
  refine g_aload0 hX d_M_number_16 ?_
  refine g_getJ hX d_M_number_17 fl_M_268 (lv_89 _) ?_
  refine g_topl h.2.2.2.2.1 ?_
  refine g_lload1 hX d_M_number_20 ?_
  refine g_lload3 hX d_M_number_21 ?_
  refine g_callS (As := [_, _, _]) hX hF.1 d_M_number_22 ml_M_190 cf_M_in cs_M_in rfl (c_M_in) (by omega) (by omega) (by omega) (Nat.le_of_ble_eq_true rfl) ?_
  refine ret_k ?_
  refine g_ifB_eq hX d_M_number_25 (fun h => absurd (hin.mpr hn2.2) h) (fun c1 => ?_)
  refine g_iconst (v := nI 1) hX d_M_number_28 rfl ?_
  refine g_goto hX d_M_number_29 ?_
  refine g_callV (As := [_]) hX hF.1 d_M_number_33 ml_M_291 cf_M_must cv_M_must rfl rfl (c_M_mustY h hb rfl) (rcv_obj hX (lv_89 _) rfl rfl) (by omega) (by omega) (by omega) (Nat.le_of_ble_eq_true rfl) ?_
  rintro _ w2 ⟨rfl, hf, hT2⟩
  show G0 _ _ _ _ _ _ _ _
  refine g_iload5 hX d_M_number_36 ?_
  refine g_iret hX hF d_M_number_38 (by omega) (by omega) ?_
  exact ⟨rfl, hf, hT2⟩
theorem c_M_numberN {E : EV} {w : Mem} {t : List Nat} {f lo hi : Nat} (h : TokP w t f) (hb : rI w 89 19 = nI 0) (hh : hi ≤ 1000) (hlo : lo ≤ 1000) (hn : ¬ isN t f lo hi) : T E m_M_number 3 0 0 [.ref 89, .long (lN lo), .long (lN hi)] w (fun r w2 => (∃ x, r = some (.int x)) ∧ w2 = sI (sI w 89 19 (nI 1)) 89 18 (nI f)) := by
  refine T_of (L := [.ref 89, .long (lN lo), un, .long (lN hi), un, un]) cf_M_number rfl (Nat.le_of_ble_eq_true rfl) (fun X hX hF => ?_)
  have hbw := h.b
  have hin : (lN lo ≤ lI (worI t f) ∧ lI (worI t f) ≤ lN hi) ↔ ((lo : Int) ≤ worI t f ∧ worI t f ≤ (hi : Int)) := by
    rw [lI_nat, lI_nat, lI_le (by omega) (by omega), lI_le (by omega) (by omega)]
  have hs := srt_le t f
  refine g_aload0 hX d_M_number_0 ?_
  refine g_getJ hX d_M_number_1 fl_M_268 (lv_89 _) ?_
  refine g_topl h.2.2.2.2.1 ?_
  refine g_l2i hX d_M_number_4 ?_
  refine g_istore5 hX d_M_number_5 rfl (by decide) ?_
  refine g_aload0 hX d_M_number_7 ?_
  refine g_aload0 hX d_M_number_8 ?_
  refine g_getI hX d_M_number_9 fl_M_278 (lv_89 _) ?_
  refine g_topi h.2.2.2.1 ?_
  refine g_iconst (v := nI 2) hX d_M_number_12 rfl ?_
  refine g_icmpN_ne hX d_M_number_13 (by omega) (by omega) (fun e13 => ?_) (fun e13 => ?_)
  · refine g_iconst (v := nI 0) hX d_M_number_32 rfl ?_
    refine g_callV (As := [_]) hX hF.1 d_M_number_33 ml_M_291 cf_M_must cv_M_must rfl rfl (c_M_mustN h.2.1 hb rfl) (rcv_obj hX (lv_89 _) rfl rfl) (by omega) (by omega) (by omega) (Nat.le_of_ble_eq_true rfl) ?_
    refine ret_k ?_
    refine g_iload5 hX d_M_number_36 ?_
    refine g_iret hX hF d_M_number_38 (by omega) (by omega) ?_
    exact ⟨⟨_, rfl⟩, rfl⟩
  · refine g_aload0 hX d_M_number_16 ?_
    refine g_getJ hX d_M_number_17 fl_M_268 (lv_89 _) ?_
    refine g_topl h.2.2.2.2.1 ?_
    refine g_lload1 hX d_M_number_20 ?_
    refine g_lload3 hX d_M_number_21 ?_
    refine g_callS (As := [_, _, _]) hX hF.1 d_M_number_22 ml_M_190 cf_M_in cs_M_in rfl (c_M_in) (by omega) (by omega) (by omega) (Nat.le_of_ble_eq_true rfl) ?_
    refine ret_k ?_
    refine g_ifB_eq hX d_M_number_25 (fun c1 => ?_) (fun h => absurd h (fun z => hn ((num_iff hh).mpr ⟨e13, hin.mp z⟩)))
    refine g_iconst (v := nI 0) hX d_M_number_32 rfl ?_
    refine g_callV (As := [_]) hX hF.1 d_M_number_33 ml_M_291 cf_M_must cv_M_must rfl rfl (c_M_mustN h.2.1 hb rfl) (rcv_obj hX (lv_89 _) rfl rfl) (by omega) (by omega) (by omega) (Nat.le_of_ble_eq_true rfl) ?_
    refine ret_k ?_
    refine g_iload5 hX d_M_number_36 ?_
    refine g_iret hX hF d_M_number_38 (by omega) (by omega) ?_
    exact ⟨⟨_, rfl⟩, rfl⟩
