
def RdX (o : Bool) (c s : List (Nat × Nat)) (f p od : Nat) : Prop := RdW o c s f p od ∧ ∀ q ∈ s, 20 ≤ q.1
/-- what stands on top of the pile binds less -/
def LB (P : List (Nat × Nat)) (l : Nat) : Prop := ∀ x, 0 < P.length → cO P (P.length - 1) = x → bindsN x < l
theorem LB.nil (l : Nat) : LB [] l := fun x h _ => absurd h (Nat.lt_irrefl _)
theorem LB.snoc {P : List (Nat × Nat)} {q : Nat × Nat} {l : Nat} (h : bindsN q.1 < l) : LB (P ++ [q]) l := fun x _ hx => by
  rw [List.length_append, List.length_singleton, Nat.add_sub_cancel, cO_last.1] at hx
  rw [← hx]; exact h
theorem LB.mono {P : List (Nat × Nat)} {l l2 : Nat} (h : LB P l) (hl : l ≤ l2) : LB P l2 := fun x h1 h2 => Nat.lt_of_lt_of_le (h x h1 h2) hl
theorem LB.seven (P : List (Nat × Nat)) : LB P 7 := fun x _ _ => by have := bindsN_le x; omega
theorem RdX.mono {o : Bool} {c s : List (Nat × Nat)} {f f2 p od : Nat} (h : RdX o c s f p od) (hf : f ≤ f2) : RdX o c s f2 p od := ⟨⟨h.1.1, by have := h.1.2.1; omega, h.1.2.2⟩, h.2⟩
theorem RdX.push {o : Bool} {c s : List (Nat × Nat)} {f f2 p od od2 : Nat} {q : Nat × Nat} (h : RdX o c s f p od) (h1 : f + 1 ≤ f2) (h2 : f2 ≤ 400) (hq : 20 ≤ q.1 ∧ q.1 < 33) (hj : q.1 = 29 ∨ q.1 = 30 → q.2 < c.length) (ho : od2 ≤ 8) : RdX o c (s ++ [q]) f2 p od2 := by
  obtain ⟨⟨a1, a2, a3, a4, a5, a6⟩, a7⟩ := h
  have hl : (s ++ [q]).length = s.length + 1 := by rw [List.length_append]; rfl
  refine ⟨⟨⟨by omega, fun x hx => ?_⟩, by omega, a3, ho, a5, fun k hk hk2 => ?_⟩, fun x hx => ?_⟩
  · rw [List.mem_append, List.mem_singleton] at hx
    rcases hx with hx | hx
    · exact a1.2 x hx
    · rw [hx]; exact ⟨hq.2, hj⟩
  · rcases a6 k hk hk2 with z | ⟨x, hx, z⟩
    · exact Or.inl z
    · exact Or.inr ⟨x, List.mem_append_left _ hx, z⟩
  · rw [List.mem_append, List.mem_singleton] at hx
    rcases hx with hx | hx
    · exact a7 x hx
    · rw [hx]; exact hq.1
/-- a jump is laid: an operation of two sides that is settled later -/
theorem RdX.jump {o : Bool} {c s : List (Nat × Nat)} {f f2 p od q : Nat} (h : RdX o c s f p od) (h1 : f + 2 ≤ f2) (h2 : f2 ≤ 400) (hq : q = 29 ∨ q = 30) : RdX o (c ++ [(q, 0)]) (s ++ [(q, c.length)]) f2 p od := by
  obtain ⟨⟨a1, a2, a3, a4, a5, a6⟩, a7⟩ := h
  have hl : (s ++ [(q, c.length)]).length = s.length + 1 := by rw [List.length_append]; rfl
  have hl2 : (c ++ [(q, 0)]).length = c.length + 1 := by rw [List.length_append]; rfl
  refine ⟨⟨⟨by omega, fun x hx => ?_⟩, by omega, a3, a4, fun x hx => ?_, fun k hk hk2 => ?_⟩, fun x hx => ?_⟩
  · rw [List.mem_append, List.mem_singleton] at hx
    rcases hx with hx | hx
    · exact ⟨(a1.2 x hx).1, fun z => by have := (a1.2 x hx).2 z; omega⟩
    · rw [hx]; exact ⟨by show q < 33; omega, fun _ => by show c.length < _; omega⟩
  · rw [List.mem_append, List.mem_singleton] at hx
    rcases hx with hx | hx
    · exact a5 x hx
    · rw [hx]; exact ⟨by show 0 < 1001; decide, Or.inr ⟨by show 20 ≤ q; omega, by show q < 31; omega⟩⟩
  · by_cases e : k = c.length
    · exact Or.inr ⟨(q, c.length), by simp, e.symm, hq⟩
    · rw [(cO_app (by omega)).1] at hk2
      rw [(cO_app (by omega)).2]
      rcases a6 k (by omega) hk2 with z | ⟨x, hx, z⟩
      · exact Or.inl ⟨z.1, by omega⟩
      · exact Or.inr ⟨x, List.mem_append_left _ hx, z⟩
  · rw [List.mem_append, List.mem_singleton] at hx
    rcases hx with hx | hx
    · exact a7 x hx
    · rw [hx]; show 20 ≤ q; omega
theorem RdX.pop {o : Bool} {c s : List (Nat × Nat)} {f p od : Nat} {q : Nat × Nat} (h : RdX o c (s ++ [q]) f p od) (hq : q.1 < 31) : RdX o (popC q c) s f p od := by
  obtain ⟨⟨a1, a2, a3, a4, a5, a6⟩, a7⟩ := h
  have b1 := a1.pop
  have hq20 := a7 q (by simp)
  have hl : (s ++ [q]).length = s.length + 1 := by rw [List.length_append]; rfl
  have hs : ∀ x ∈ s, 20 ≤ x.1 := fun x hx => a7 x (List.mem_append_left _ hx)
  unfold popC at b1 ⊢
  by_cases hj : q.1 = 29 ∨ q.1 = 30
  · rw [if_pos hj] at b1 ⊢
    have hq2 := (a1.2 q (by simp)).2 hj
    refine ⟨⟨b1, by rw [List.length_set]; omega, a3, a4, fun x hx => ?_, fun k hk hk2 => ?_⟩, hs⟩
    · rcases List.mem_or_eq_of_mem_set hx with hx | hx
      · exact a5 x hx
      · have := a5 _ (cO_mem hq2)
        rw [hx]
        have a0 := a1.1
        refine ⟨by show c.length < 1001; omega, ?_⟩
        rcases this.2 with z | z
        · exact Or.inl z
        · exact Or.inr z
    · rw [List.length_set] at hk ⊢
      by_cases e : k = q.2
      · rw [e, (cO_at hq2).2]
        exact Or.inl ⟨hq2, Nat.le_refl _⟩
      · rw [(cO_set e).1] at hk2
        rw [(cO_set e).2]
        rcases a6 k hk hk2 with z | ⟨x, hx, z⟩
        · exact Or.inl z
        · rw [List.mem_append, List.mem_singleton] at hx
          rcases hx with hx | hx
          · exact Or.inr ⟨x, hx, z⟩
          · rw [hx] at z; exact absurd z.1.symm e
  · rw [if_neg hj] at b1 ⊢
    have hl2 : (c ++ [(q.1, 0)]).length = c.length + 1 := by rw [List.length_append]; rfl
    refine ⟨⟨b1, by omega, a3, a4, fun x hx => ?_, fun k hk hk2 => ?_⟩, hs⟩
    · rw [List.mem_append, List.mem_singleton] at hx
      rcases hx with hx | hx
      · exact a5 x hx
      · rw [hx]; exact ⟨by show 0 < 1001; decide, Or.inr ⟨hq20, hq⟩⟩
    · by_cases e : k = c.length
      · rw [e, cO_last.1] at hk2
        have h3 : 29 ≤ q.1 := hk2
        omega
      · rw [(cO_app (by omega)).1] at hk2
        rw [(cO_app (by omega)).2]
        rcases a6 k (by omega) hk2 with z | ⟨x, hx, z⟩
        · exact Or.inl ⟨z.1, by omega⟩
        · rw [List.mem_append, List.mem_singleton] at hx
          rcases hx with hx | hx
          · exact Or.inr ⟨x, hx, z⟩
          · rw [hx] at z; exact absurd z.2 hj
theorem RdX.settle {o : Bool} {P : List (Nat × Nat)} {f p od : Nat} : ∀ (n : Nat) (Q c : List (Nat × Nat)), Q.length = n → RdX o c (P ++ Q) f p od → (∀ q ∈ Q, q.1 < 31) → RdX o (setC Q c) P f p od := by
  intro n
  induction n with
  | zero =>
    intro Q c hl h _
    obtain rfl := List.eq_nil_of_length_eq_zero hl
    rw [List.append_nil] at h
    exact h
  | succ n ih =>
    intro Q c hl h hq
    have hne : Q ≠ [] := fun z => by rw [z] at hl; simp at hl
    obtain ⟨Q2, q, rfl⟩ : ∃ Q2 q, Q = Q2 ++ [q] := ⟨Q.dropLast, Q.getLast hne, (List.dropLast_concat_getLast hne).symm⟩
    rw [List.length_append, List.length_singleton] at hl
    rw [← List.append_assoc] at h
    rw [setC_snoc]
    exact ih Q2 _ (by omega) (h.pop (hq q (by simp))) (fun x hx => hq x (List.mem_append_left _ hx))
theorem RdX.brack {o : Bool} {c P : List (Nat × Nat)} {f p od od2 : Nat} {b : Nat} (hb : b ≠ 29 ∧ b ≠ 30) (h : RdX o c (P ++ [(b, 0)]) f p od) (ho : od2 ≤ 8) : RdX o c P f p od2 := by
  obtain ⟨⟨a1, a2, a3, a4, a5, a6⟩, a7⟩ := h
  have hl : (P ++ [(b, 0)]).length = P.length + 1 := by rw [List.length_append]; rfl
  refine ⟨⟨⟨by have := a1.1; omega, fun x hx => a1.2 x (List.mem_append_left _ hx)⟩, by omega, a3, ho, a5, fun k hk hk2 => ?_⟩, fun x hx => a7 x (List.mem_append_left _ hx)⟩
  rcases a6 k hk hk2 with z | ⟨x, hx, z⟩
  · exact Or.inl z
  · rw [List.mem_append, List.mem_singleton] at hx
    rcases hx with hx | hx
    · exact Or.inr ⟨x, hx, z⟩
    · rw [hx] at z
      have h2 : b = 29 ∨ b = 30 := z.2
      omega
theorem innK_cong {s s2 : List (Nat × Nat)} : ∀ k, (∀ j, j < k → cO s2 j = cO s j) → innK s2 k = innK s k
  | 0, _ => rfl
  | k + 1, h => by
    unfold innK
    rw [h k (by omega), innK_cong k (fun j hj => h j (by omega))]
theorem innK_app {P : List (Nat × Nat)} : ∀ (Q : List (Nat × Nat)) (m : Nat), m ≤ Q.length → (∀ q ∈ Q, q.1 < 31) → innK (P ++ Q) (P.length + m) = innK P P.length
  | Q, 0, _, _ => innK_cong _ (fun j hj => (cO_app hj).1)
  | Q, m + 1, hm, hq => by
    have h1 : cO (P ++ Q) (P.length + m) < 31 := by
      have h2 := cO_mem (s := P ++ Q) (k := P.length + m) (by rw [List.length_append]; omega)
      have h3 : cO (P ++ Q) (P.length + m) = cO Q m := by
        unfold cO
        rw [List.getD_eq_getElem?_getD, List.getElem?_append_right (by omega), Nat.add_sub_cancel_left, List.getD_eq_getElem?_getD]
      rw [h3]
      exact hq _ (cO_mem (s := Q) (k := m) (by omega))
    show (if 31 ≤ cO (P ++ Q) (P.length + m) then _ else innK (P ++ Q) (P.length + m)) = _
    rw [if_neg (by omega)]
    exact innK_app Q m (by omega) hq
theorem innK_q {P Q : List (Nat × Nat)} (hq : ∀ q ∈ Q, q.1 < 31) : innK (P ++ Q) (P ++ Q).length = innK P P.length := by
  rw [List.length_append]
  exact innK_app Q Q.length (Nat.le_refl _) hq
theorem innK_b {P : List (Nat × Nat)} {b : Nat} (hb : 31 ≤ b) : innK (P ++ [(b, 0)]) (P ++ [(b, 0)]).length = nI b := by
  rw [List.length_append, List.length_singleton, innK, cO_last.1]
  exact if_pos hb
theorem cmpK_cong {s s2 : List (Nat × Nat)} : ∀ k, (∀ j, j < k → cO s2 j = cO s j) → cmpK s2 k = cmpK s k
  | 0, _ => rfl
  | k + 1, h => by
    unfold cmpK
    rw [h k (by omega), cmpK_cong k (fun j hj => h j (by omega))]
theorem cmpK_app {P : List (Nat × Nat)} : ∀ (Q : List (Nat × Nat)) (m : Nat), m ≤ Q.length → (∀ q ∈ Q, 20 ≤ q.1 ∧ q.1 ≤ 24) → cmpK (P ++ Q) (P.length + m) = cmpK P P.length
  | Q, 0, _, _ => cmpK_cong _ (fun j hj => (cO_app hj).1)
  | Q, m + 1, hm, hq => by
    have h1 : 20 ≤ cO (P ++ Q) (P.length + m) ∧ cO (P ++ Q) (P.length + m) ≤ 24 := by
      have h3 : cO (P ++ Q) (P.length + m) = cO Q m := by
        unfold cO
        rw [List.getD_eq_getElem?_getD, List.getElem?_append_right (by omega), Nat.add_sub_cancel_left, List.getD_eq_getElem?_getD]
      rw [h3]
      exact hq _ (cO_mem (s := Q) (k := m) (by omega))
    show (if 20 ≤ cO (P ++ Q) (P.length + m) ∧ cO (P ++ Q) (P.length + m) ≤ 24 then cmpK (P ++ Q) (P.length + m) else _) = _
    rw [if_pos h1]
    exact cmpK_app Q m (by omega) hq
theorem cmpK_q {P Q : List (Nat × Nat)} (hq : ∀ q ∈ Q, 20 ≤ q.1 ∧ q.1 ≤ 24) : cmpK (P ++ Q) (P ++ Q).length = cmpK P P.length := by
  rw [List.length_append]
  exact cmpK_app Q Q.length (Nat.le_refl _) hq
theorem cmpK_y {P : List (Nat × Nat)} {b : Nat} (hb : 25 ≤ b ∧ b ≤ 27) : cmpK (P ++ [(b, 0)]) (P ++ [(b, 0)]).length = true := by
  rw [List.length_append, List.length_singleton, cmpK, cO_last.1, if_neg (by show ¬ (20 ≤ b ∧ b ≤ 24); omega)]
  exact decide_eq_true hb
theorem cmpK_n {P : List (Nat × Nat)} (h : LB P 4) : ¬ cmpK P P.length = true := by
  cases hP : P.length with
  | zero => unfold cmpK; decide
  | succ k =>
    have h1 := h (cO P k) (by omega) (by rw [hP]; rfl)
    unfold cmpK
    have h2 : ¬ (20 ≤ cO P k ∧ cO P k ≤ 27) := fun z => by
      unfold bindsN at h1
      rw [if_neg (by omega), if_neg (by omega), if_neg (by omega), if_neg (by omega)] at h1
      split at h1
      · omega
      · split at h1 <;> omega
    rw [if_neg (by omega)]
    simp
    omega
theorem bind5 {a : Nat} (h : 20 ≤ a) (h5 : 5 ≤ bindsN a) : 20 ≤ a ∧ a ≤ 24 := by
  unfold bindsN at h5
  split at h5
  · omega
  · split at h5
    · omega
    · split at h5
      · omega
      · split at h5
        · omega
        · split at h5 <;> omega
theorem bind_31 {a l : Nat} (h1 : 1 ≤ l) (h : l ≤ bindsN a) : a < 31 := by
  unfold bindsN at h
  split at h
  · omega
  · omega
/-- the code of old is as it was -/
def SameC (a : Nat) (c c2 : List (Nat × Nat)) : Prop := a ≤ c2.length ∧ ∀ j, j < a → cO c2 j = cO c j ∧ cA c2 j = cA c j
theorem SameC.tr {a b : Nat} {c c2 c3 : List (Nat × Nat)} (h : SameC a c c2) (h2 : SameC b c2 c3) (hab : a ≤ b) : SameC a c c3 := ⟨by have := h2.1; omega, fun j hj => ⟨(h2.2 j (by omega)).1.trans (h.2 j hj).1, (h2.2 j (by omega)).2.trans (h.2 j hj).2⟩⟩
theorem SegS.same {a m b : Nat} {c c2 : List (Nat × Nat)} {d : Den} (h : SegL c a m d) (hs : SameC b c c2) (hm : m ≤ b) : SegL c2 a m d := SegS.cong h (fun j _ h2 => hs.2 j (by omega))
theorem pnd_set {c Q : List (Nat × Nat)} {a : Nat} {d : Den} (h : Pnd c Q a c.length d) : SegL (setC Q c) a (setC Q c).length d ∧ SameC a c (setC Q c) := by
  obtain ⟨h1, h2, h3⟩ := pnd_all a d _ Q c rfl h
  have := pnd_len Q h (Nat.le_refl _)
  exact ⟨h1, by omega, h3⟩
