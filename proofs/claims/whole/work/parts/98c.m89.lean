
/-! ===== the walk through all ways, by masks ===== -/
/-- all ways that begin so, r vertices more, by the candidates c -/
def extsC (g : GC) (c : Nat → Nat) : Nat → List Nat → List (List Nat)
  | 0, q => [q]
  | r + 1, q => (List.range (gN g)).flatMap (fun n => if okC g c q n then extsC g c r (q ++ [n]) else [])
def waysC (g : GC) (c : Nat → Nat) : List (List Nat) := extsC g c (gV g) []
/-- the nodes of a mask, rising -/
def bitsL (N m : Nat) : List Nat := (List.range N).filter (fun n => m.testBit n)
/-- what comes with a mask of nodes at a depth -/
def remM (g : GC) (c : Nat → Nat) (m r : Nat) (q : List Nat) : List (List Nat) := (bitsL (gN g) m).flatMap (fun n => extsC g c r (q ++ [n]))
def stpM (g : GC) (c : Nat → Nat) (m r : Nat) (q : List Nat) : Nat := ((bitsL (gN g) m).map (fun n => stepsC g c r (q ++ [n]))).sum
/-- what comes with the masks of all depths up to u, the deepest first -/
def remW (g : GC) (c lf : Nat → Nat) (q : List Nat) : Nat → List (List Nat)
  | 0 => []
  | u + 1 => remM g c (lf u) (gV g - 1 - u) (q.take u) ++ remW g c lf q u
def stpW (g : GC) (c lf : Nat → Nat) (q : List Nat) : Nat → Nat
  | 0 => 0
  | u + 1 => stpM g c (lf u) (gV g - 1 - u) (q.take u) + stpW g c lf q u
theorem flatMap_filter {α β : Type} (l : List α) (p : α → Bool) (f : α → List β) : (l.filter p).flatMap f = l.flatMap (fun x => if p x then f x else []) := by
  induction l with
  | nil => rfl
  | cons a t ih =>
    rw [List.flatMap_cons]
    by_cases h : p a = true
    · rw [List.filter_cons_of_pos h, List.flatMap_cons, ih, if_pos h]
    · rw [List.filter_cons_of_neg h, ih, if_neg h]; rfl
theorem sum_filter {α : Type} (l : List α) (p : α → Bool) (f : α → Nat) : ((l.filter p).map f).sum = (l.map (fun x => if p x then f x else 0)).sum := by
  induction l with
  | nil => rfl
  | cons a t ih =>
    rw [List.map_cons, List.sum_cons]
    by_cases h : p a = true
    · rw [List.filter_cons_of_pos h, List.map_cons, List.sum_cons, ih, if_pos h]
    · rw [List.filter_cons_of_neg h, ih, if_neg h, Nat.zero_add]
/-- a mask that says who goes -/
def MaskP (g : GC) (c : Nat → Nat) (q : List Nat) (m : Nat) : Prop := ∀ n, n < gN g → (m.testBit n = true ↔ okC g c q n = true)
theorem bits_ok {g : GC} {c : Nat → Nat} {q : List Nat} {m : Nat} (h : MaskP g c q m) : bitsL (gN g) m = (List.range (gN g)).filter (fun n => okC g c q n) := by
  unfold bitsL
  apply List.filter_congr
  intro n hn
  have h1 := h n (List.mem_range.mp hn)
  cases h2 : m.testBit n <;> cases h3 : okC g c q n <;> simp_all
theorem remM_ok {g : GC} {c : Nat → Nat} {q : List Nat} {m r : Nat} (h : MaskP g c q m) : remM g c m r q = extsC g c (r + 1) q := by
  unfold remM
  rw [bits_ok h, flatMap_filter, extsC]
theorem sum_plus {α : Type} (l : List α) (f : α → Nat) (p : α → Bool) : (l.map (fun x => if p x then 1 + f x else 0)).sum = (l.filter p).length + (l.map (fun x => if p x then f x else 0)).sum := by
  induction l with
  | nil => rfl
  | cons a t ih =>
    rw [List.map_cons, List.sum_cons, List.map_cons, List.sum_cons, ih]
    by_cases h : p a = true
    · rw [List.filter_cons_of_pos h, List.length_cons, if_pos h, if_pos h]; omega
    · rw [List.filter_cons_of_neg h, if_neg h, if_neg h]; omega
theorem stpM_ok {g : GC} {c : Nat → Nat} {q : List Nat} {m r : Nat} (h : MaskP g c q m) : (bitsL (gN g) m).length + stpM g c m r q = stepsC g c (r + 1) q := by
  unfold stpM
  rw [bits_ok h, sum_filter, stepsC, sum_plus]
/-- the lowest of a mask -/
theorem tz_all : ∀ a, a < 64 → ∀ b, b < 64 → 0 < 64 * a + b → (64 * a + b).testBit (tz (64 * a + b)) = true ∧ tz (64 * a + b) < 12 ∧ (∀ k, k < 12 → ((64 * a + b) &&& (64 * a + b - 1)).testBit k = ((64 * a + b).testBit k && !decide (k = tz (64 * a + b)))) ∧ (∀ k, k < tz (64 * a + b) → (64 * a + b).testBit k = false) ∧ pop ((64 * a + b) &&& (64 * a + b - 1)) + 1 = pop (64 * a + b) := by decide +kernel
theorem tz_n {m : Nat} (h0 : 0 < m) (h : m < 4096) : m.testBit (tz m) = true ∧ tz m < 12 ∧ (∀ k, k < 12 → (m &&& (m - 1)).testBit k = (m.testBit k && !decide (k = tz m))) ∧ (∀ k, k < tz m → m.testBit k = false) ∧ pop (m &&& (m - 1)) + 1 = pop m := by
  have := tz_all (m / 64) (by omega) (m % 64) (by omega)
  rw [show 64 * (m / 64) + m % 64 = m by omega] at this
  exact this h0
theorem bits_pop {N m : Nat} (hN : N ≤ 12) (h0 : 0 < m) (h : m < 2 ^ N) : bitsL N m = tz m :: bitsL N (m &&& (m - 1)) := by
  have hm : m < 4096 := Nat.lt_of_lt_of_le h (Nat.pow_le_pow_right (by decide) hN)
  obtain ⟨h1, h2, h3, h4, -⟩ := tz_n h0 hm
  have htN : tz m < N := by
    rcases Nat.lt_or_ge (tz m) N with z | z
    · exact z
    · have := Nat.testBit_lt_two_pow (x := m) (i := tz m) (Nat.lt_of_lt_of_le h (Nat.pow_le_pow_right (by decide) z))
      rw [this] at h1
      cases h1
  have e : List.range N = List.range (tz m) ++ tz m :: (List.range (N - tz m - 1)).map (fun k => tz m + 1 + k) := by
    rw [show N = tz m + ((N - tz m - 1) + 1) by omega, List.range_add, List.range_succ_eq_map]
    rw [List.map_cons, List.map_map, Nat.add_zero, show tz m + (N - tz m - 1 + 1) - tz m - 1 = N - tz m - 1 by omega]
    congr 2
    apply List.map_congr_left
    intro k _
    show tz m + (k + 1) = tz m + 1 + k
    omega
  unfold bitsL
  rw [e, List.filter_append, List.filter_append]
  have e1 : (List.range (tz m)).filter (fun n => m.testBit n) = [] := List.filter_eq_nil_iff.mpr (fun k hk => by rw [h4 k (List.mem_range.mp hk)]; decide)
  have e2 : (List.range (tz m)).filter (fun n => (m &&& (m - 1)).testBit n) = [] := List.filter_eq_nil_iff.mpr (fun k hk => by rw [h3 k (by have := List.mem_range.mp hk; omega), h4 k (List.mem_range.mp hk)]; simp)
  rw [e1, e2, List.nil_append, List.nil_append, List.filter_cons_of_pos h1, List.filter_cons_of_neg (by rw [h3 _ h2]; simp)]
  congr 1
  apply List.filter_congr
  intro k hk
  obtain ⟨z, hz, rfl⟩ := List.mem_map.mp hk
  have hz2 := List.mem_range.mp hz
  have hne : ¬ tz m + 1 + z = tz m := by omega
  rw [h3 _ (by omega)]
  simp [hne]
theorem bits_0 (N : Nat) : bitsL N 0 = [] := List.filter_eq_nil_iff.mpr (fun k _ => by rw [Nat.zero_testBit]; decide)
theorem bits_len {N : Nat} (hN : N ≤ 12) : ∀ (k m : Nat), pop m ≤ k → m < 2 ^ N → (bitsL N m).length = pop m := by
  intro k
  induction k with
  | zero =>
    intro m hk hm
    by_cases h0 : m = 0
    · rw [h0, bits_0]; rfl
    · have := (tz_n (m := m) (by omega) (Nat.lt_of_lt_of_le hm (Nat.pow_le_pow_right (by decide) hN))).2.2.2.2
      omega
  | succ k ih =>
    intro m hk hm
    by_cases h0 : m = 0
    · rw [h0, bits_0]; rfl
    · have h5 := (tz_n (m := m) (by omega) (Nat.lt_of_lt_of_le hm (Nat.pow_le_pow_right (by decide) hN))).2.2.2.2
      rw [bits_pop hN (by omega) hm, List.length_cons, ih _ (by omega) (Nat.lt_of_le_of_lt Nat.and_le_left hm)]
      exact h5
theorem bits_pl {N m : Nat} (hN : N ≤ 12) (h : m < 2 ^ N) : (bitsL N m).length = pop m := bits_len hN (pop m) m (Nat.le_refl _) h
theorem bits_mem {N m n : Nat} : n ∈ bitsL N m ↔ n < N ∧ m.testBit n = true := by
  unfold bitsL
  rw [List.mem_filter, List.mem_range]
/-- the bits of what lies -/
def takB (q : List Nat) : Nat := q.foldl (fun s n => s ||| 1 <<< n) 0
theorem takB_s (q : List Nat) (n : Nat) : takB (q ++ [n]) = takB q ||| 1 <<< n := by
  unfold takB
  rw [List.foldl_append]
  rfl
theorem tak_fold (n : Nat) : ∀ (q : List Nat) (s : Nat), (q.foldl (fun s n => s ||| 1 <<< n) s).testBit n = (s.testBit n || decide (n ∈ q))
  | [], s => by simp
  | a :: t, s => by
    rw [List.foldl_cons, tak_fold n t, Nat.testBit_or, tb_one]
    by_cases h : a = n
    · simp [h]
    · have h2 : ¬ n = a := fun z => h z.symm
      simp [h, h2]
theorem takB_tb (q : List Nat) (n : Nat) : (takB q).testBit n = decide (n ∈ q) := by
  unfold takB
  rw [tak_fold, Nat.zero_testBit, Bool.false_or]
theorem takB_lt {q : List Nat} (h : ∀ n ∈ q, n < 12) : takB q < 2 ^ 12 := by
  have go : ∀ (q : List Nat) (s : Nat), s < 2 ^ 12 → (∀ n ∈ q, n < 12) → q.foldl (fun s n => s ||| 1 <<< n) s < 2 ^ 12 := by
    intro q
    induction q with
    | nil => intro s hs _; exact hs
    | cons a t ih => intro s hs hq; exact ih _ (or_lt hs (shl_lt (hq a List.mem_cons_self))) (fun n hn => hq n (List.mem_cons_of_mem _ hn))
  exact go q 0 (by decide) h
theorem takB_sd {q : List Nat} {n : Nat} (h : n ∉ q) : sd (takB (q ++ [n])) (1 <<< n) = takB q := by
  apply Nat.eq_of_testBit_eq
  intro k
  rw [sd_tb, takB_tb, takB_tb, tb_one]
  by_cases e : n = k
  · subst e
    simp [h]
  · have e2 : ¬ k = n := fun z => e z.symm
    simp [e, e2]
/-- who goes, as the desk asks it -/
theorem near_sym {g : GC} (hW : WG g) {a b : Nat} (ha : a < gN g) (hb : b < gN g) : (nearB (gE g) a).testBit b = (nearB (gE g) b).testBit a := by
  have hn := hW.n
  have h1 := near_tb (n := a) (m := b) (by omega) (by omega) hW.n hW.eo
  have h2 := near_tb (n := b) (m := a) (by omega) (by omega) hW.n hW.eo
  have hc : codeOf a b = codeOf b a := by unfold codeOf; split <;> split <;> omega
  rw [Bool.eq_iff_iff, h1, h2, hc]
  constructor <;> rintro ⟨h3, h4⟩ <;> exact ⟨Ne.symm h3, h4⟩
/-- the mask of a vertex, as far as its links to the first u are asked -/
def opnN (g : GC) (c : Nat → Nat) (q : List Nat) : Nat → Nat
  | 0 => sd (c q.length) (takB q)
  | u + 1 => if (gK g q.length).testBit u = true then opnN g c q u &&& nearB (gE g) (gA q u) else opnN g c q u
theorem opnN_lt {g : GC} {c : Nat → Nat} {q : List Nat} {N : Nat} (h : c q.length < 2 ^ N) : ∀ u, opnN g c q u < 2 ^ N
  | 0 => Nat.lt_of_le_of_lt (sd_le _ _) h
  | u + 1 => by
    unfold opnN
    split
    · exact Nat.lt_of_le_of_lt Nat.and_le_left (opnN_lt h u)
    · exact opnN_lt h u
theorem opnN_tb {g : GC} {c : Nat → Nat} {q : List Nat} (hW : WG g) (hq : ∀ x ∈ q, x < gN g) {n : Nat} (hn : n < gN g) : ∀ u, u ≤ q.length → ((opnN g c q u).testBit n = true ↔ ((c q.length).testBit n = true ∧ n ∉ q ∧ ∀ k, k < u → (gK g q.length).testBit k = true → (nearB (gE g) n).testBit (gA q k) = true))
  | 0, _ => by
    unfold opnN
    rw [sd_tb, takB_tb, Bool.and_eq_true]
    constructor
    · rintro ⟨h1, h2⟩
      exact ⟨h1, by simpa using h2, fun k hk => absurd hk (Nat.not_lt_zero _)⟩
    · rintro ⟨h1, h2, -⟩
      exact ⟨h1, by simpa using h2⟩
  | u + 1, hu => by
    have ih := opnN_tb (c := c) hW hq hn u (by omega)
    have hx : gA q u < gN g := hq _ (gA_mem (by omega))
    unfold opnN
    by_cases hk : (gK g q.length).testBit u = true
    · rw [if_pos hk, Nat.testBit_and, Bool.and_eq_true, ih, near_sym hW hx hn]
      constructor
      · rintro ⟨⟨h1, h2, h3⟩, h4⟩
        refine ⟨h1, h2, fun k hk2 hk3 => ?_⟩
        by_cases e : k = u
        · rw [e]; exact h4
        · exact h3 k (by omega) hk3
      · rintro ⟨h1, h2, h3⟩
        exact ⟨⟨h1, h2, fun k hk2 => h3 k (by omega)⟩, h3 u (by omega) hk⟩
    · rw [if_neg hk, ih]
      constructor
      · rintro ⟨h1, h2, h3⟩
        refine ⟨h1, h2, fun k hk2 hk3 => ?_⟩
        by_cases e : k = u
        · rw [e] at hk3; exact absurd hk3 hk
        · exact h3 k (by omega) hk3
      · rintro ⟨h1, h2, h3⟩
        exact ⟨h1, h2, fun k hk2 => h3 k (by omega)⟩
theorem fitN_iff {g : GC} {q : List Nat} {v n : Nat} : ∀ u, fitN g q v n u = true ↔ ∀ k, k < u → gA q k ≠ n ∧ ((gK g v).testBit k = true → (nearB (gE g) n).testBit (gA q k) = true)
  | 0 => by
    unfold fitN
    exact ⟨fun _ k hk => absurd hk (Nat.not_lt_zero _), fun _ => rfl⟩
  | u + 1 => by
    unfold fitN
    rw [Bool.and_eq_true, fitN_iff u]
    constructor
    · rintro ⟨h1, h2⟩ k hk
      by_cases e : k = u
      · rw [e]
        rw [Bool.and_eq_true, Bool.or_eq_true] at h2
        refine ⟨by simpa using h2.1, fun h3 => ?_⟩
        rcases h2.2 with h4 | h4
        · rw [h3] at h4; cases h4
        · exact h4
      · exact h1 k (by omega)
    · intro h
      refine ⟨fun k hk => h k (by omega), ?_⟩
      obtain ⟨h1, h2⟩ := h u (Nat.lt_succ_self u)
      rw [Bool.and_eq_true, Bool.or_eq_true]
      refine ⟨by simpa using h1, ?_⟩
      cases h3 : (gK g v).testBit u with
      | false => exact Or.inl rfl
      | true => exact Or.inr (h2 h3)
theorem opn_mask {g : GC} {c : Nat → Nat} {q : List Nat} (hW : WG g) (hq : ∀ x ∈ q, x < gN g) : MaskP g c q (opnN g c q q.length) := fun n hn => by
  rw [opnN_tb hW hq hn q.length (Nat.le_refl _)]
  unfold okC
  rw [Bool.and_eq_true, fitN_iff]
  constructor
  · rintro ⟨h1, h2, h3⟩
    exact ⟨h1, fun k hk => ⟨fun e => h2 (by rw [← e]; exact gA_mem hk), h3 k hk⟩⟩
  · rintro ⟨h1, h2⟩
    refine ⟨h1, fun hm => ?_, fun k hk => (h2 k hk).2⟩
    obtain ⟨k, hk, e⟩ := mem_gA hm
    exact (h2 k hk).1 e
/-- the ways by candidates are the ways -/
theorem exts_C {g : GC} : ∀ (r : Nat) (q : List Nat), q.length + r = gV g → extsC g (fun v => mayN g v (gN g)) r q = exts g r q
  | 0, q, _ => rfl
  | r + 1, q, h => by
    rw [extsC, exts]
    unfold List.flatMap
    congr 1
    apply List.map_congr_left
    intro n hn
    have hn2 := List.mem_range.mp hn
    have e : okC g (fun v => mayN g v (gN g)) q n = okN g q n := by
      unfold okC okN
      show ((mayN g q.length (gN g)).testBit n && _) = _
      rw [mayN_tb]
      simp [hn2]
    rw [e, exts_C r (q ++ [n]) (by rw [List.length_append, List.length_singleton]; omega)]
theorem ways_C (g : GC) : waysC g (fun v => mayN g v (gN g)) = waysL g := exts_C (gV g) [] (by rw [List.length_nil, Nat.zero_add])
theorem extsC_len {g : GC} {c : Nat → Nat} (hN : gN g ≤ 12) : ∀ (r : Nat) (q : List Nat), (extsC g c r q).length ≤ 12 ^ r
  | 0, q => Nat.le_refl _
  | r + 1, q => by
    have go : ∀ l : List Nat, (l.flatMap (fun n => if okC g c q n then extsC g c r (q ++ [n]) else [])).length ≤ l.length * 12 ^ r := by
      intro l
      induction l with
      | nil => exact Nat.zero_le _
      | cons a t ih =>
        rw [List.flatMap_cons, List.length_append, List.length_cons, Nat.add_mul, Nat.one_mul, Nat.add_comm]
        refine Nat.add_le_add ih ?_
        split
        · exact extsC_len hN r _
        · exact Nat.zero_le _
    rw [extsC]
    refine Nat.le_trans (go _) ?_
    rw [List.length_range, Nat.pow_succ, Nat.mul_comm (12 ^ r)]
    exact Nat.mul_le_mul_right _ hN
theorem waysC_len {g : GC} {c : Nat → Nat} (hW : WG g) : (waysC g c).length ≤ 248832 := by
  refine Nat.le_trans (extsC_len hW.n _ _) ?_
  exact Nat.pow_le_pow_right (by decide) hW.v
