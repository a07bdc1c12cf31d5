/-! ===== the plain state: graph, pattern, what was seen, terms, laws ===== -/
abbrev Den : Type := (Nat → Int) → Option Int
/-- a clause: costs or bars; its sum; its test -/
abbrev LawT : Type := List (Bool × Den × Option Den)
abbrev GC : Type := Nat × (Nat → Nat) × List Nat × Nat × (Nat → Nat) × (Nat → Nat) × List (Nat × Nat) × (Nat → Nat) × List LawT × Option Nat
def gN (g : GC) : Nat := g.1
def gC (g : GC) : Nat → Nat := g.2.1
def gE (g : GC) : List Nat := g.2.2.1
def gV (g : GC) : Nat := g.2.2.2.1
def gY (g : GC) : Nat → Nat := g.2.2.2.2.1
def gK (g : GC) : Nat → Nat := g.2.2.2.2.2.1
def gS (g : GC) : List (Nat × Nat) := g.2.2.2.2.2.2.1
def gT (g : GC) : Nat → Nat := g.2.2.2.2.2.2.2.1
def gL (g : GC) : List LawT := g.2.2.2.2.2.2.2.2.1
def gF (g : GC) : Option Nat := g.2.2.2.2.2.2.2.2.2
/-- an edge's code is of two nodes, the lower first -/
def okE (N c : Nat) : Prop := c / 12 < c % 12 ∧ c % 12 < N
/-- what always holds of the plain state -/
def WG (g : GC) : Prop := gN g ≤ 12 ∧ (∀ i, i < gN g → gC g i < 6) ∧ (gE g).Nodup ∧ (∀ c ∈ gE g, okE (gN g) c) ∧ gV g ≤ 5 ∧ (∀ v, v < gV g → gY g v ≤ 6) ∧ (∀ v, v < gV g → gK g v < 2 ^ gV g) ∧ (∀ v u, v < gV g → u < gV g → (gK g v).testBit u = (gK g u).testBit v) ∧ (∀ v, v < gV g → (gK g v).testBit v = false) ∧ (gS g).length ≤ 6 ∧ (∀ q ∈ gS g, q.1 < gV g ∧ q.2 < gN g) ∧ (gT g 0 ≤ 999 ∧ gT g 1 ≤ 10 ∧ gT g 2 ≤ 9) ∧ (gL g).length ≤ 6 ∧ (∀ i, gF g = some i → i < (gL g).length)
def codeOf (a b : Nat) : Nat := if a < b then 12 * a + b else 12 * b + a
/-- the nodes to which n has an edge, as bits -/
def nearS (n s c : Nat) : Nat := s ||| (if c / 12 = n then 1 <<< (c % 12) else if c % 12 = n then 1 <<< (c / 12) else 0)
def nearB (es : List Nat) (n : Nat) : Nat := es.foldl (nearS n) 0
theorem okE_lt {N c : Nat} (hN : N ≤ 12) (h : okE N c) : c < 144 := by
  obtain ⟨h1, h2⟩ := h
  omega
theorem nearS_lt {n s c : Nat} (hs : s < 2 ^ 12) (hc : c < 144) : nearS n s c < 2 ^ 12 := by
  unfold nearS
  refine or_lt hs ?_
  split
  · exact shl_lt (by omega)
  · split
    · exact shl_lt (by omega)
    · decide
theorem near_lt_aux (n : Nat) : ∀ (es : List Nat) (s : Nat), s < 2 ^ 12 → (∀ c ∈ es, c < 144) → es.foldl (nearS n) s < 2 ^ 12
  | [], s, h, _ => h
  | c :: t, s, h, hc => near_lt_aux n t _ (nearS_lt h (hc c List.mem_cons_self)) (fun c h => hc c (List.mem_cons_of_mem _ h))
theorem near_lt {es : List Nat} {n : Nat} (h : ∀ c ∈ es, c < 144) : nearB es n < 2 ^ 12 := near_lt_aux n es 0 (by decide) h
theorem tb_one (k m : Nat) : (1 <<< k).testBit m = decide (k = m) := by
  rw [Nat.shiftLeft_eq, Nat.one_mul, Nat.testBit_two_pow]
theorem near_tb_aux (n m : Nat) : ∀ (es : List Nat) (s : Nat), (es.foldl (nearS n) s).testBit m = (s.testBit m || es.any (fun c => (decide (c / 12 = n) && decide (c % 12 = m)) || (!decide (c / 12 = n) && decide (c % 12 = n) && decide (c / 12 = m))))
  | [], s => by simp
  | c :: t, s => by
    rw [List.foldl_cons, near_tb_aux n m t, List.any_cons]
    have e : (nearS n s c).testBit m = (s.testBit m || ((decide (c / 12 = n) && decide (c % 12 = m)) || (!decide (c / 12 = n) && decide (c % 12 = n) && decide (c / 12 = m)))) := by
      unfold nearS
      rw [Nat.testBit_or]
      by_cases h1 : c / 12 = n
      · rw [if_pos h1, tb_one]; simp [h1]
      · rw [if_neg h1]
        by_cases h2 : c % 12 = n
        · rw [if_pos h2, tb_one]; simp [h1, h2]
        · rw [if_neg h2]; simp [h1, h2]
    rw [e, Bool.or_assoc]
theorem near_tb {es : List Nat} {n m N : Nat} (hn : n < 12) (hm : m < 12) (hN : N ≤ 12) (h : ∀ c ∈ es, okE N c) : (nearB es n).testBit m = true ↔ (n ≠ m ∧ codeOf n m ∈ es) := by
  unfold nearB
  rw [near_tb_aux, Nat.zero_testBit, Bool.false_or, List.any_eq_true]
  constructor
  · rintro ⟨c, hc, hb⟩
    obtain ⟨h1, h2⟩ := h c hc
    simp only [Bool.or_eq_true, Bool.and_eq_true, decide_eq_true_eq, Bool.not_eq_true', decide_eq_false_iff_not] at hb
    rcases hb with ⟨e1, e2⟩ | ⟨⟨e0, e1⟩, e2⟩
    · refine ⟨by omega, ?_⟩
      have : codeOf n m = c := by unfold codeOf; rw [if_pos (by omega)]; omega
      rw [this]; exact hc
    · refine ⟨by omega, ?_⟩
      have : codeOf n m = c := by unfold codeOf; rw [if_neg (by omega)]; omega
      rw [this]; exact hc
  · rintro ⟨hne, hc⟩
    refine ⟨_, hc, ?_⟩
    obtain ⟨h1, h2⟩ := h _ hc
    have hlt := okE_lt hN ⟨h1, h2⟩
    simp only [Bool.or_eq_true, Bool.and_eq_true, decide_eq_true_eq, Bool.not_eq_true', decide_eq_false_iff_not]
    unfold codeOf at h1 h2 hlt ⊢
    by_cases hnm : n < m
    · rw [if_pos hnm] at h1 h2 hlt ⊢
      left
      omega
    · rw [if_neg hnm] at h1 h2 hlt ⊢
      right
      omega
/-- at most 66 edges -/
def allE : List Nat := (List.range 144).filter (fun c => decide (c / 12 < c % 12))
theorem nodup_len : ∀ (l m : List Nat), l.Nodup → (∀ x ∈ l, x ∈ m) → l.length ≤ m.length
  | [], m, _, _ => Nat.zero_le _
  | x :: t, m, h, hs => by
    have hx := hs x List.mem_cons_self
    have h2 := List.nodup_cons.mp h
    have ih := nodup_len t (m.erase x) h2.2 (fun y hy => by
      have hne : y ≠ x := fun e => h2.1 (e ▸ hy)
      exact (List.mem_erase_of_ne hne).mpr (hs y (List.mem_cons_of_mem _ hy)))
    rw [List.length_erase_of_mem hx] at ih
    have := List.length_pos_of_mem hx
    rw [List.length_cons]
    omega
theorem allE_len : allE.length = 66 := by decide +kernel
theorem edges_le {es : List Nat} {N : Nat} (hN : N ≤ 12) (hd : es.Nodup) (h : ∀ c ∈ es, okE N c) : es.length ≤ 66 := by
  rw [← allE_len]
  refine nodup_len es allE hd (fun c hc => ?_)
  have := h c hc
  exact List.mem_filter.mpr ⟨List.mem_range.mpr (okE_lt hN this), by simpa using this.1⟩
theorem edges_lt {es : List Nat} {N c : Nat} (hN : N ≤ 12) (hd : es.Nodup) (h : ∀ c ∈ es, okE N c) (hc : okE N c) (hn : c ∉ es) : es.length < 66 := by
  have := edges_le (es := c :: es) hN (List.nodup_cons.mpr ⟨hn, hd⟩) (fun x hx => by
    rcases List.mem_cons.mp hx with rfl | hx
    · exact hc
    · exact h x hx)
  rw [List.length_cons] at this
  omega
theorem code_ok {a b N : Nat} (hN : N ≤ 12) (ha : a < N) (hb : b < N) (hne : a ≠ b) : okE N (codeOf a b) := by
  unfold codeOf okE
  split <;> omega
def gA (es : List Nat) (k : Nat) : Nat := es.getD k 0
theorem gA_get {es : List Nat} {k : Nat} (h : k < es.length) : es[k]? = some (gA es k) := by
  unfold gA
  rw [List.getElem?_eq_getElem h, List.getD_eq_getElem?_getD, List.getElem?_eq_getElem h]
  rfl
theorem gA_mem {es : List Nat} {k : Nat} (h : k < es.length) : gA es k ∈ es := List.mem_of_getElem? (gA_get h)
theorem take_succ_foldl {α : Type} (f : α → Nat → α) (es : List Nat) (k : Nat) (a : α) (h : k < es.length) : (es.take (k + 1)).foldl f a = f ((es.take k).foldl f a) (gA es k) := by
  rw [List.take_add_one, gA_get h, List.foldl_append]
  rfl
