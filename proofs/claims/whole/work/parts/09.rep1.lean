theorem sI_sA (w : Mem) (o k : Nat) (f : Nat → Int32) (x : Int32) : sI (sA w o f) o k x = sA w o (upd f k x) := by
  unfold sI sA
  congr 1
  funext a
  by_cases h : a = o
  · simp [h]
  · simp [h]
theorem sI_eq (w : Mem) (o k : Nat) (x : Int32) : sI w o k x = sA w o (upd (rI w o) k x) := rfl
theorem sJ_sB (w : Mem) (o k : Nat) (f : Nat → Int64) (x : Int64) : sJ (sB w o f) o k x = sB w o (vp_updL f k x) := by
  unfold sJ sB
  congr 2
  funext a
  by_cases h : a = o
  · simp [h]
  · simp [h]
theorem sA_sA (w : Mem) (o : Nat) (f f2 : Nat → Int32) : sA (sA w o f) o f2 = sA w o f2 := by
  unfold sA
  congr 1
  funext a
  by_cases h : a = o
  · simp [h]
  · simp [h]
theorem sA_self (w : Mem) (o : Nat) : sA w o (rI w o) = w := by
  unfold sA rI
  have : (fun a => if a = o then w.1 o else w.1 a) = w.1 := by
    funext a
    by_cases h : a = o
    · simp [h]
    · simp [h]
  rw [this]
theorem sB_self (w : Mem) (o : Nat) : sB w o (rJ w o) = w := by
  unfold sB rJ
  have : (fun a => if a = o then w.2.1 o else w.2.1 a) = w.2.1 := by
    funext a
    by_cases h : a = o
    · simp [h]
    · simp [h]
  rw [this]
theorem upd_eq (f : Nat → Int32) (k : Nat) (x : Int32) (j : Nat) : upd f k x j = if j = k then x else f j := rfl
theorem updL_eq (f : Nat → Int64) (k : Nat) (x : Int64) (j : Nat) : vp_updL f k x j = if j = k then x else f j := rfl
def fInt (o : Option Nat) : Int32 := match o with
  | some i => nI i
  | none => -1
/-- a row of the reference holds the edges es -/
def MEs (f : Nat → Int32) (es : List Nat) : Prop := f 31 = nI es.length ∧ ∀ k, k < es.length → f (32 + k) = nI (gA es k)
/-- a row of the reference holds the plain state, but for the laws' texts -/
def MRow (f : Nat → Int32) (g : GC) : Prop := f 0 = nI (gN g) ∧ f 1 = nI (gV g) ∧ f 2 = nI (gS g).length ∧ f 3 = nI (gL g).length ∧ f 4 = fInt (gF g) ∧ (∀ i, i < 3 → f (6 + i) = nI (gT g i)) ∧ (∀ i, i < gN g → f (9 + i) = nI (gC g i)) ∧ (∀ v, v < gV g → f (21 + v) = nI (gY g v)) ∧ (∀ v, v < gV g → f (26 + v) = nI (gK g v)) ∧ MEs f (gE g) ∧ (∀ k q, (gS g)[k]? = some q → f (98 + 2 * k) = nI q.1 ∧ f (98 + 2 * k + 1) = nI q.2)
section
variable {f : Nat → Int32} {g : GC}
theorem MRow.n (h : MRow f g) : f 0 = nI (gN g) := h.1
theorem MRow.v (h : MRow f g) : f 1 = nI (gV g) := h.2.1
theorem MRow.s (h : MRow f g) : f 2 = nI (gS g).length := h.2.2.1
theorem MRow.l (h : MRow f g) : f 3 = nI (gL g).length := h.2.2.2.1
theorem MRow.fo (h : MRow f g) : f 4 = fInt (gF g) := h.2.2.2.2.1
theorem MRow.t (h : MRow f g) : ∀ i, i < 3 → f (6 + i) = nI (gT g i) := h.2.2.2.2.2.1
theorem MRow.c (h : MRow f g) : ∀ i, i < gN g → f (9 + i) = nI (gC g i) := h.2.2.2.2.2.2.1
theorem MRow.y (h : MRow f g) : ∀ v, v < gV g → f (21 + v) = nI (gY g v) := h.2.2.2.2.2.2.2.1
theorem MRow.k (h : MRow f g) : ∀ v, v < gV g → f (26 + v) = nI (gK g v) := h.2.2.2.2.2.2.2.2.1
theorem MRow.e (h : MRow f g) : MEs f (gE g) := h.2.2.2.2.2.2.2.2.2.1
theorem MRow.sn (h : MRow f g) : ∀ k q, (gS g)[k]? = some q → f (98 + 2 * k) = nI q.1 ∧ f (98 + 2 * k + 1) = nI q.2 := h.2.2.2.2.2.2.2.2.2.2
theorem WG.n (h : WG g) : gN g ≤ 12 := h.1
theorem WG.c (h : WG g) : ∀ i, i < gN g → gC g i < 6 := h.2.1
theorem WG.ed (h : WG g) : (gE g).Nodup := h.2.2.1
theorem WG.eo (h : WG g) : ∀ c ∈ gE g, okE (gN g) c := h.2.2.2.1
theorem WG.v (h : WG g) : gV g ≤ 5 := h.2.2.2.2.1
theorem WG.y (h : WG g) : ∀ v, v < gV g → gY g v ≤ 6 := h.2.2.2.2.2.1
theorem WG.k (h : WG g) : ∀ v, v < gV g → gK g v < 2 ^ gV g := h.2.2.2.2.2.2.1
theorem WG.ks (h : WG g) : ∀ v u, v < gV g → u < gV g → (gK g v).testBit u = (gK g u).testBit v := h.2.2.2.2.2.2.2.1
theorem WG.ki (h : WG g) : ∀ v, v < gV g → (gK g v).testBit v = false := h.2.2.2.2.2.2.2.2.1
theorem WG.sl (h : WG g) : (gS g).length ≤ 6 := h.2.2.2.2.2.2.2.2.2.1
theorem WG.so (h : WG g) : ∀ q ∈ gS g, q.1 < gV g ∧ q.2 < gN g := h.2.2.2.2.2.2.2.2.2.2.1
theorem WG.t (h : WG g) : gT g 0 ≤ 999 ∧ gT g 1 ≤ 10 ∧ gT g 2 ≤ 9 := h.2.2.2.2.2.2.2.2.2.2.2.1
theorem WG.ll (h : WG g) : (gL g).length ≤ 6 := h.2.2.2.2.2.2.2.2.2.2.2.2.1
theorem WG.fo (h : WG g) : ∀ i, gF g = some i → i < (gL g).length := h.2.2.2.2.2.2.2.2.2.2.2.2.2
theorem WG.el (h : WG g) : (gE g).length ≤ 66 := edges_le h.n h.ed h.eo
theorem WG.k32 (h : WG g) {v : Nat} (hv : v < gV g) : gK g v < 32 := Nat.lt_of_lt_of_le (h.k v hv) (Nat.pow_le_pow_right (by decide) h.v)
theorem WG.e144 (h : WG g) {c : Nat} (hc : c ∈ gE g) : c < 144 := okE_lt h.n (h.eo c hc)
end
/-- where a code stands, looked for in the first k edges; none: -1 -/
def eAt (es : List Nat) (c : Nat) : Nat → Int32
  | 0 => -1
  | k + 1 => if gA es k = c then nI k else eAt es c k
theorem eAt_none {es : List Nat} {c : Nat} : ∀ k, k ≤ es.length → c ∉ es → eAt es c k = -1
  | 0, _, _ => rfl
  | k + 1, h, hn => by
    unfold eAt
    have hne : ¬ gA es k = c := fun e => hn (by rw [← e]; exact gA_mem (by omega))
    rw [if_neg hne, eAt_none k (by omega) hn]
theorem nodup_gA {es : List Nat} (hd : es.Nodup) {i j : Nat} (hi : i < es.length) (hj : j < es.length) (h : gA es i = gA es j) : i = j := by
  have h1 := gA_get hi
  rw [h] at h1
  have h2 := gA_get hj
  exact (List.getElem?_inj hi hd).mp (h1.trans h2.symm)
theorem eAt_at {es : List Nat} {c i : Nat} (hd : es.Nodup) (hi : i < es.length) (hc : gA es i = c) : ∀ k, k ≤ es.length → i < k → eAt es c k = nI i
  | 0, _, h => absurd h (Nat.not_lt_zero _)
  | k + 1, h, hk => by
    unfold eAt
    by_cases e : gA es k = c
    · rw [if_pos e, nodup_gA hd hi (by omega) (hc.trans e.symm)]
    · rw [if_neg e]
      have : i ≠ k := fun q => e (q ▸ hc)
      exact eAt_at hd hi hc k (by omega) (by omega)
theorem mem_gA {es : List Nat} {c : Nat} (h : c ∈ es) : ∃ i, i < es.length ∧ gA es i = c := by
  obtain ⟨i, hi⟩ := List.getElem?_of_mem h
  have hl := (List.getElem?_eq_some_iff.mp hi).1
  exact ⟨i, hl, by rw [gA_get hl] at hi; exact Option.some.inj hi⟩
theorem gA_erase (es : List Nat) (i j : Nat) : gA (es.eraseIdx i) j = if j < i then gA es j else gA es (j + 1) := by
  unfold gA
  rw [List.getD_eq_getElem?_getD, List.getElem?_eraseIdx]
  split <;> rw [List.getD_eq_getElem?_getD]
theorem gA_app (es : List Nat) (c j : Nat) : gA (es ++ [c]) j = if j = es.length then c else gA es j := by
  unfold gA
  rw [List.getD_eq_getElem?_getD, List.getD_eq_getElem?_getD, List.getElem?_append]
  by_cases h : j < es.length
  · rw [if_pos h, if_neg (by omega)]
  · rw [if_neg h]
    by_cases h2 : j = es.length
    · subst h2; simp
    · rw [if_neg h2, List.getElem?_eq_none (by simp; omega), List.getElem?_eq_none (by omega)]
/-- joined, or no more -/
def tog (es : List Nat) (c : Nat) : List Nat := if c ∈ es then es.erase c else es ++ [c]
theorem erase_eq {c : Nat} : ∀ (es : List Nat) (i : Nat), es.Nodup → i < es.length → gA es i = c → es.erase c = es.eraseIdx i
  | [], _, _, h, _ => absurd h (Nat.not_lt_zero _)
  | x :: t, 0, _, _, h => by
    have : x = c := h
    rw [this, List.erase_cons_head]
    rfl
  | x :: t, i + 1, hd, hl, h => by
    have h2 := List.nodup_cons.mp hd
    have hm : c ∈ t := by
      have h3 : gA t i = c := h
      rw [← h3]
      exact gA_mem (by simpa using hl)
    have hne : ¬ (x == c) = true := by
      intro e
      rw [beq_iff_eq] at e
      exact h2.1 (e ▸ hm)
    rw [List.erase_cons_tail hne, erase_eq t i h2.2 (by simpa using hl) h]
    rfl
theorem tog_nodup {es : List Nat} {c : Nat} (h : es.Nodup) : (tog es c).Nodup := by
  unfold tog
  split
  · exact h.erase c
  · rename_i hn
    rw [List.nodup_append]
    exact ⟨h, (by simp), fun a ha b hb e => hn (by rw [List.mem_singleton] at hb; rw [← hb, ← e]; exact ha)⟩
theorem tog_ok {es : List Nat} {c N : Nat} (h : ∀ x ∈ es, okE N x) (hc : okE N c) : ∀ x ∈ tog es c, okE N x := by
  intro x hx
  unfold tog at hx
  split at hx
  · exact h x (List.mem_of_mem_erase hx)
  · rcases List.mem_append.mp hx with h1 | h1
    · exact h x h1
    · rw [List.mem_singleton.mp h1]; exact hc

