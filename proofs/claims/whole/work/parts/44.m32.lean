
/-- the turns of the pattern that begin so, r vertices more -/
def extT (g : GC) : Nat → List Nat → List (List Nat)
  | 0, q => [q]
  | r + 1, q => (List.range (gV g)).flatMap (fun n => if turnN g q q.length n q.length then extT g r (q ++ [n]) else [])
def turnsL (g : GC) : List (List Nat) := extT g (gV g) []
def remT (g : GC) (r : Nat) (q : List Nat) (c : Nat) : List (List Nat) := ((List.range (gV g)).drop c).flatMap (fun n => if turnN g q q.length n q.length then extT g r (q ++ [n]) else [])
theorem remT_0 (g : GC) (r : Nat) (q : List Nat) : extT g (r + 1) q = remT g r q 0 := rfl
theorem remT_N {g : GC} {r c : Nat} {q : List Nat} (h : gV g ≤ c) : remT g r q c = [] := by
  unfold remT
  rw [List.drop_of_length_le (by rw [List.length_range]; exact h)]
  rfl
theorem remT_s {g : GC} {r c : Nat} {q : List Nat} (h : c < gV g) : remT g r q c = (if turnN g q q.length c q.length then extT g r (q ++ [c]) else []) ++ remT g r q (c + 1) := by
  unfold remT
  have e : (List.range (gV g)).drop c = c :: (List.range (gV g)).drop (c + 1) := by
    rw [List.drop_eq_getElem_cons (by rw [List.length_range]; exact h), List.getElem_range]
  rw [e, List.flatMap_cons]
theorem remT_no {g : GC} {r c : Nat} {q : List Nat} (h : c < gV g) (h2 : turnN g q q.length c q.length = false) : remT g r q c = remT g r q (c + 1) := by
  rw [remT_s h, h2]
  rfl
theorem remT_yes {g : GC} {r c : Nat} {q : List Nat} (h : c < gV g) (h2 : turnN g q q.length c q.length = true) : remT g r q c = extT g r (q ++ [c]) ++ remT g r q (c + 1) := by
  rw [remT_s h, h2]
  rfl
/-- the turns that are laid so far -/
def TurnsP (w : Mem) (ts : List (List Nat)) : Prop := rI w 89 47 = nI ts.length ∧ ∀ (k : Nat) (q : List Nat), ts[k]? = some q → ∀ u, u < q.length → rI w 114 (5 * k + u) = nI (gA q u)
/-- while turns are laid -/
def FrU (w w2 : Mem) : Prop := (∀ a, a ≠ 89 → a ≠ 114 → a ≠ 115 → rI w2 a = rI w a) ∧ (∀ k, k ≠ 47 → rI w2 89 k = rI w 89 k) ∧ w2.2 = w.2
theorem FrU.rf (w : Mem) : FrU w w := ⟨fun _ _ _ _ => rfl, fun _ _ => rfl, rfl⟩
theorem FrU.D {w w2 : Mem} {x : Int32} (h : FrU w w2) : FrU w (sI w2 89 47 x) := ⟨fun a h1 h2 h3 => by rw [rI_sI_ne _ _ _ h1]; exact h.1 a h1 h2 h3, fun k hk => by rw [rI_sI, upd_eq, if_neg hk]; exact h.2.1 k hk, h.2.2⟩
theorem FrU.L {w w2 : Mem} {o k : Nat} {x : Int32} (ho : o = 114 ∨ o = 115) (h : FrU w w2) : FrU w (sI w2 o k x) := ⟨fun a h1 h2 h3 => by rw [rI_sI_ne _ _ _ (by omega)]; exact h.1 a h1 h2 h3, fun k hk => by rw [rI_sI_ne _ _ _ (by omega)]; exact h.2.1 k hk, h.2.2⟩
theorem FrU.S {w w2 : Mem} (h : FrU w w2) : Scr w w2 := ⟨⟨fun a ha => h.1 a (by omega) (by omega) (by omega), fun a ha => by unfold rJ; rw [h.2.2], by rw [h.2.2]⟩, fun a ha => h.1 a (by rintro rfl; exact absurd ha (by decide)) (by rintro rfl; exact absurd ha (by decide)) (by rintro rfl; exact absurd ha (by decide)), fun k hk => h.2.1 k (by rintro rfl; exact absurd hk (by decide))⟩
