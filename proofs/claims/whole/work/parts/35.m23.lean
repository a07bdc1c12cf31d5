
/-- the next vertex may lie at n -/
def okN (g : GC) (q : List Nat) (n : Nat) : Bool := gMay g q.length n && fitN g q q.length n q.length
/-- all ways that begin so, r vertices more -/
def exts (g : GC) : Nat → List Nat → List (List Nat)
  | 0, q => [q]
  | r + 1, q => (List.range (gN g)).flatMap (fun n => if okN g q n then exts g r (q ++ [n]) else [])
/-- the ways, the first vertex's node before all -/
def waysL (g : GC) : List (List Nat) := exts g (gV g) []
/-- what is still to come at a depth from the node c on -/
def remAt (g : GC) (r : Nat) (q : List Nat) (c : Nat) : List (List Nat) := ((List.range (gN g)).drop c).flatMap (fun n => if okN g q n then exts g r (q ++ [n]) else [])
/-- what is still to come behind what lies, the deepest first -/
def remUp (g : GC) : Nat → List Nat → List (List Nat)
  | _, [] => []
  | r, m :: t => remAt g r t.reverse (m + 1) ++ remUp g (r + 1) t
theorem remAt_0 (g : GC) (r : Nat) (q : List Nat) : exts g (r + 1) q = remAt g r q 0 := rfl
theorem remAt_N {g : GC} {r c : Nat} {q : List Nat} (h : gN g ≤ c) : remAt g r q c = [] := by
  unfold remAt
  rw [List.drop_of_length_le (by rw [List.length_range]; exact h)]
  rfl
theorem remAt_s {g : GC} {r c : Nat} {q : List Nat} (h : c < gN g) : remAt g r q c = (if okN g q c then exts g r (q ++ [c]) else []) ++ remAt g r q (c + 1) := by
  unfold remAt
  have e : (List.range (gN g)).drop c = c :: (List.range (gN g)).drop (c + 1) := by
    rw [List.drop_eq_getElem_cons (by rw [List.length_range]; exact h), List.getElem_range]
  rw [e, List.flatMap_cons]
theorem remAt_no {g : GC} {r c : Nat} {q : List Nat} (h : c < gN g) (h2 : okN g q c = false) : remAt g r q c = remAt g r q (c + 1) := by
  rw [remAt_s h, h2]
  rfl
theorem remAt_yes {g : GC} {r c : Nat} {q : List Nat} (h : c < gN g) (h2 : okN g q c = true) : remAt g r q c = exts g r (q ++ [c]) ++ remAt g r q (c + 1) := by
  rw [remAt_s h, h2]
  rfl
theorem remUp_app (g : GC) (r : Nat) (q : List Nat) (m : Nat) : remUp g r (q ++ [m]).reverse = remAt g r q (m + 1) ++ remUp g (r + 1) q.reverse := by
  rw [List.reverse_append, List.reverse_singleton, List.singleton_append, remUp, List.reverse_reverse]
theorem exts_len {g : GC} : ∀ (r : Nat) (q : List Nat) (x : List Nat), x ∈ exts g r q → x.length = q.length + r
  | 0, q, x, h => by
    rw [exts, List.mem_singleton] at h
    rw [h]; rfl
  | r + 1, q, x, h => by
    rw [exts, List.mem_flatMap] at h
    obtain ⟨n, hn, hx⟩ := h
    split at hx
    · have := exts_len r _ x hx
      rw [List.length_append, List.length_singleton] at this
      omega
    · simp at hx
theorem exts_lt {g : GC} : ∀ (r : Nat) (q : List Nat) (x : List Nat), (∀ n ∈ q, n < gN g) → x ∈ exts g r q → ∀ n ∈ x, n < gN g
  | 0, q, x, hq, h => by
    rw [exts, List.mem_singleton] at h
    rw [h]; exact hq
  | r + 1, q, x, hq, h => by
    rw [exts, List.mem_flatMap] at h
    obtain ⟨n, hn, hx⟩ := h
    rw [List.mem_range] at hn
    split at hx
    · refine exts_lt r _ x (fun m hm => ?_) hx
      rw [List.mem_append, List.mem_singleton] at hm
      rcases hm with hm | hm
      · exact hq m hm
      · rw [hm]; exact hn
    · simp at hx
/-- while ways are looked for: the depth and what lies -/
def FrI (w w2 : Mem) : Prop := (∀ a, a ≠ 89 → a ≠ 113 → rI w2 a = rI w a) ∧ (∀ k, k ≠ 45 → rI w2 89 k = rI w 89 k) ∧ w2.2 = w.2
theorem FrI.rf (w : Mem) : FrI w w := ⟨fun _ _ _ => rfl, fun _ _ => rfl, rfl⟩
theorem FrI.tr {a b c : Mem} (h : FrI a b) (h2 : FrI b c) : FrI a c := ⟨fun x h1 h3 => (h2.1 x h1 h3).trans (h.1 x h1 h3), fun k hk => (h2.2.1 k hk).trans (h.2.1 k hk), h2.2.2.trans h.2.2⟩
theorem FrI.D {w w2 : Mem} {x : Int32} (h : FrI w w2) : FrI w (sI w2 89 45 x) := ⟨fun a h1 h2 => by rw [rI_sI_ne _ _ _ h1]; exact h.1 a h1 h2, fun k hk => by rw [rI_sI, upd_eq, if_neg hk]; exact h.2.1 k hk, h.2.2⟩
theorem FrI.L {w w2 : Mem} {k : Nat} {x : Int32} (h : FrI w w2) : FrI w (sI w2 113 k x) := ⟨fun a h1 h2 => by rw [rI_sI_ne _ _ _ h2]; exact h.1 a h1 h2, fun k hk => by rw [rI_sI_ne _ _ _ (by decide)]; exact h.2.1 k hk, h.2.2⟩
theorem FrI.S {w w2 : Mem} (h : FrI w w2) : Scr w w2 := ⟨⟨fun a ha => h.1 a (by omega) (by omega), fun a ha => by unfold rJ; rw [h.2.2], by rw [h.2.2]⟩, fun a ha => h.1 a (by rintro rfl; exact absurd ha (by decide)) (by rintro rfl; exact absurd ha (by decide)), fun k hk => h.2.1 k (by rintro rfl; exact absurd hk (by decide))⟩
theorem Laid.I {w w2 : Mem} {g : GC} (h : Laid w g) (hf : FrI w w2) : Laid w2 g := by
  unfold Laid NearP MayP CostP
  rw [hf.1 110 (by decide) (by decide), hf.1 111 (by decide) (by decide), hf.1 112 (by decide) (by decide)]
  exact h
/-- what lies, and how deep -/
def LieP (w : Mem) (q : List Nat) : Prop := ∀ u, u < q.length → rI w 113 u = nI (gA q u)
