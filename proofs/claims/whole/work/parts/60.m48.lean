
/-! ===== code as a list; a segment of it computes a word ===== -/
def cO (c : List (Nat × Nat)) (j : Nat) : Nat := (c.getD j (0, 0)).1
def cA (c : List (Nat × Nat)) (j : Nat) : Nat := (c.getD j (0, 0)).2
/-- n steps, all of them within a .. b -/
def stI (op arg : Nat → Nat) (env : Nat → Int) (a b : Nat) : Nat → Nat × List Int → Option (Option (Nat × List Int))
  | 0, x => some (some x)
  | n + 1, x => if a ≤ x.1 ∧ x.1 < b then (match mstep op arg env x with
    | none => some none
    | some y => stI op arg env a b n y) else none
def SegS (op arg : Nat → Nat) (a b : Nat) (f : Den) : Prop := a < b ∧ ∀ (env : Nat → Int) (s : List Int), ∃ n, stI op arg env a b n (a, s) = some ((f env).map (fun v => (b, v :: s)))
section
variable {op arg : Nat → Nat} {env : Nat → Int} {a b : Nat}
theorem stI_y {n : Nat} {x y : Nat × List Int} (h : a ≤ x.1 ∧ x.1 < b) (h2 : mstep op arg env x = some y) : stI op arg env a b (n + 1) x = stI op arg env a b n y := by
  rw [stI, if_pos h, h2]
theorem stI_n {n : Nat} {x : Nat × List Int} (h : a ≤ x.1 ∧ x.1 < b) (h2 : mstep op arg env x = none) : stI op arg env a b (n + 1) x = some none := by
  rw [stI, if_pos h, h2]
theorem stI_app : ∀ (n m : Nat) (x y : Nat × List Int) (r : Option (Nat × List Int)), stI op arg env a b n x = some (some y) → stI op arg env a b m y = some r → stI op arg env a b (n + m) x = some r
  | 0, m, x, y, r, h, h2 => by
    rw [stI] at h
    injection h with h
    injection h with h
    rw [Nat.zero_add, h]; exact h2
  | n + 1, m, x, y, r, h, h2 => by
    by_cases hx : a ≤ x.1 ∧ x.1 < b
    · cases hm : mstep op arg env x with
      | none => rw [stI_n hx hm] at h; cases h
      | some z =>
        rw [stI_y hx hm] at h
        rw [show n + 1 + m = (n + m) + 1 by omega, stI_y hx hm]
        exact stI_app n m z y r h h2
    · rw [stI, if_neg hx] at h; cases h
theorem stI_wide {a2 b2 : Nat} (ha : a2 ≤ a) (hb : b ≤ b2) : ∀ (n : Nat) (x : Nat × List Int) (r : Option (Nat × List Int)), stI op arg env a b n x = some r → stI op arg env a2 b2 n x = some r
  | 0, x, r, h => h
  | n + 1, x, r, h => by
    by_cases hx : a ≤ x.1 ∧ x.1 < b
    · have hx2 : a2 ≤ x.1 ∧ x.1 < b2 := ⟨by omega, by omega⟩
      cases hm : mstep op arg env x with
      | none => rw [stI_n hx hm] at h; rw [stI_n hx2 hm]; exact h
      | some z =>
        rw [stI_y hx hm] at h
        rw [stI_y hx2 hm]
        exact stI_wide ha hb n z r h
    · rw [stI, if_neg hx] at h; cases h
theorem mstep_c {op2 arg2 : Nat → Nat} {x : Nat × List Int} (h1 : op2 x.1 = op x.1) (h2 : arg2 x.1 = arg x.1) : mstep op2 arg2 env x = mstep op arg env x := by
  unfold mstep
  rw [h1, h2]
theorem stI_cong {op2 arg2 : Nat → Nat} (hc : ∀ j, a ≤ j → j < b → op2 j = op j ∧ arg2 j = arg j) : ∀ (n : Nat) (x : Nat × List Int), stI op2 arg2 env a b n x = stI op arg env a b n x
  | 0, x => rfl
  | n + 1, x => by
    by_cases hx : a ≤ x.1 ∧ x.1 < b
    · obtain ⟨e1, e2⟩ := hc x.1 hx.1 hx.2
      have em : mstep op2 arg2 env x = mstep op arg env x := mstep_c e1 e2
      cases hm : mstep op arg env x with
      | none => rw [stI_n hx hm, stI_n hx (em.trans hm)]
      | some z => rw [stI_y hx hm, stI_y hx (em.trans hm)]; exact stI_cong hc n z
    · rw [stI, if_neg hx, stI, if_neg hx]
theorem stI_mit {last : Nat} (hl : b ≤ last) : ∀ (n : Nat) (x : Nat × List Int) (r : Option (Nat × List Int)), stI op arg env a b n x = some r → mit op arg env last n x = r
  | 0, x, r, h => by
    rw [stI] at h
    injection h with h
  | n + 1, x, r, h => by
    by_cases hx : a ≤ x.1 ∧ x.1 < b
    · have hml : mit op arg env last (n + 1) x = (mstep op arg env x).bind (mit op arg env last n) := if_neg (by omega)
      cases hm : mstep op arg env x with
      | none => rw [stI_n hx hm] at h; rw [hml, hm]; injection h
      | some z =>
        rw [stI_y hx hm] at h
        rw [hml, hm]
        exact stI_mit hl n z r h
    · rw [stI, if_neg hx] at h; cases h
end
theorem SegS.M {op arg : Nat → Nat} {a b : Nat} {f : Den} (h : SegS op arg a b f) : SegM op arg a b f := ⟨h.1, fun last hl env s => by
  obtain ⟨n, hn⟩ := h.2 env s
  exact ⟨n, stI_mit hl n _ _ hn⟩⟩
theorem SegS.cong {op arg op2 arg2 : Nat → Nat} {a b : Nat} {f : Den} (h : SegS op arg a b f) (hc : ∀ j, a ≤ j → j < b → op2 j = op j ∧ arg2 j = arg j) : SegS op2 arg2 a b f := ⟨h.1, fun env s => by
  obtain ⟨n, hn⟩ := h.2 env s
  exact ⟨n, by rw [stI_cong hc]; exact hn⟩⟩
section
variable {op arg : Nat → Nat} {a m b : Nat} {f g : Den}
theorem seg_num (h : op a = 0) : SegS op arg a (a + 1) (fun _ => some (arg a : Int)) := ⟨Nat.lt_succ_self _, fun env s => ⟨1, by
  rw [stI_y ⟨Nat.le_refl _, Nat.lt_succ_self _⟩ (ms_lit h)]; rfl⟩⟩
theorem seg_word (h : op a ≠ 0) (h2 : op a < 20) : SegS op arg a (a + 1) (fun env => some (env (if op a = 6 then 20 + arg a else op a))) := ⟨Nat.lt_succ_self _, fun env s => ⟨1, by
  rw [stI_y ⟨Nat.le_refl _, Nat.lt_succ_self _⟩ (ms_word h h2)]; rfl⟩⟩
theorem seg_bin (h : SegS op arg a m f) (h2 : SegS op arg m b g) (hq : 20 ≤ op b) (hq2 : op b < 28) : SegS op arg a (b + 1) (dBin (op b) f g) := ⟨by have := h.1; have := h2.1; omega, fun env s => by
  have l1 := h.1
  have l2 := h2.1
  obtain ⟨n1, e1⟩ := h.2 env s
  have w1 := stI_wide (a2 := a) (b2 := b + 1) (Nat.le_refl _) (by omega) _ _ _ e1
  unfold dBin
  cases hf : f env with
  | none => rw [hf] at w1; exact ⟨n1, w1⟩
  | some u =>
    rw [hf] at w1
    obtain ⟨n2, e2⟩ := h2.2 env (u :: s)
    have w2 := stI_wide (a2 := a) (b2 := b + 1) (by omega) (by omega) _ _ _ e2
    cases hg : g env with
    | none => rw [hg] at w2; exact ⟨n1 + n2, stI_app n1 n2 _ _ _ w1 w2⟩
    | some v =>
      rw [hg] at w2
      refine ⟨n1 + (n2 + 1), stI_app n1 (n2 + 1) _ _ _ w1 (stI_app n2 1 _ _ _ w2 ?_)⟩
      have e := ms_two (op := op) (arg := arg) (env := env) (k := b) (v := v) (u := u) (s := s) hq hq2
      show stI op arg env a (b + 1) 1 (b, v :: u :: s) = some ((comb (op b) u v).map (fun v => (b + 1, v :: s)))
      cases hc : comb (op b) u v with
      | none => rw [hc] at e; rw [stI_n ⟨by show a ≤ b; omega, by show b < b + 1; omega⟩ e]; rfl
      | some z => rw [hc] at e; rw [stI_y ⟨by show a ≤ b; omega, by show b < b + 1; omega⟩ e]; rfl⟩
theorem seg_not (h : SegS op arg a b f) (hq : op b = 28) : SegS op arg a (b + 1) (dNot f) := ⟨by have := h.1; omega, fun env s => by
  have l1 := h.1
  obtain ⟨n1, e1⟩ := h.2 env s
  have w1 := stI_wide (a2 := a) (b2 := b + 1) (Nat.le_refl _) (by omega) _ _ _ e1
  unfold dNot
  cases hf : f env with
  | none => rw [hf] at w1; exact ⟨n1, w1⟩
  | some u =>
    rw [hf] at w1
    refine ⟨n1 + 1, stI_app n1 1 _ _ _ w1 ?_⟩
    rw [stI_y ⟨by show a ≤ b; omega, by show b < b + 1; omega⟩ (ms_not hq)]
    rfl⟩
theorem seg_and (h : SegS op arg a m f) (h2 : SegS op arg (m + 1) b g) (hq : 28 < op m) (hj : arg m = b) : SegS op arg a b (dAnd (op m) f g) := ⟨by have := h.1; have := h2.1; omega, fun env s => by
  have l1 := h.1
  have l2 := h2.1
  obtain ⟨n1, e1⟩ := h.2 env s
  have w1 := stI_wide (a2 := a) (b2 := b) (Nat.le_refl _) (by omega) _ _ _ e1
  unfold dAnd
  cases hf : f env with
  | none => rw [hf] at w1; exact ⟨n1, w1⟩
  | some u =>
    rw [hf] at w1
    have e := ms_jump (op := op) (arg := arg) (env := env) (k := m) (v := u) (s := s) hq
    show ∃ n, stI op arg env a b n (a, s) = some ((if u = (if op m = 29 then 0 else 1) then some u else g env).map (fun v => (b, v :: s)))
    by_cases hu : u = (if op m = 29 then 0 else 1)
    · rw [if_pos hu] at e ⊢
      refine ⟨n1 + 1, stI_app n1 1 _ _ _ w1 ?_⟩
      rw [stI_y ⟨by show a ≤ m; omega, by show m < b; omega⟩ e, hj]
      rfl
    · rw [if_neg hu] at e ⊢
      obtain ⟨n2, e2⟩ := h2.2 env s
      have w2 := stI_wide (a2 := a) (b2 := b) (by omega) (Nat.le_refl _) _ _ _ e2
      refine ⟨n1 + (n2 + 1), stI_app n1 (n2 + 1) _ _ _ w1 ?_⟩
      rw [stI_y ⟨by show a ≤ m; omega, by show m < b; omega⟩ e]
      exact w2⟩
end
abbrev SegL (c : List (Nat × Nat)) (a b : Nat) (f : Den) : Prop := SegS (cO c) (cA c) a b f
theorem cO_app {c x : List (Nat × Nat)} {j : Nat} (h : j < c.length) : cO (c ++ x) j = cO c j ∧ cA (c ++ x) j = cA c j := by
  unfold cO cA
  rw [List.getD_eq_getElem?_getD, List.getElem?_append_left h, List.getD_eq_getElem?_getD]
  exact ⟨rfl, rfl⟩
theorem cO_last {c : List (Nat × Nat)} {q : Nat × Nat} : cO (c ++ [q]) c.length = q.1 ∧ cA (c ++ [q]) c.length = q.2 := by
  unfold cO cA
  rw [List.getD_eq_getElem?_getD, List.getElem?_append_right (Nat.le_refl _), Nat.sub_self]
  exact ⟨rfl, rfl⟩
theorem cO_set {c : List (Nat × Nat)} {k : Nat} {q : Nat × Nat} {j : Nat} (h : j ≠ k) : cO (c.set k q) j = cO c j ∧ cA (c.set k q) j = cA c j := by
  unfold cO cA
  rw [List.getD_eq_getElem?_getD, List.getElem?_set_ne (Ne.symm h), List.getD_eq_getElem?_getD]
  exact ⟨rfl, rfl⟩
theorem cO_at {c : List (Nat × Nat)} {k : Nat} {q : Nat × Nat} (h : k < c.length) : cO (c.set k q) k = q.1 ∧ cA (c.set k q) k = q.2 := by
  unfold cO cA
  rw [List.getD_eq_getElem?_getD, List.getElem?_set_self h]
  exact ⟨rfl, rfl⟩
theorem SegS.app {c x : List (Nat × Nat)} {a b : Nat} {f : Den} (h : SegL c a b f) (hb : b ≤ c.length) : SegL (c ++ x) a b f := SegS.cong h (fun _ _ h2 => cO_app (by omega))
theorem SegS.set {c : List (Nat × Nat)} {a b k : Nat} {q : Nat × Nat} {f : Den} (h : SegL c a b f) (hk : k < a ∨ b ≤ k) : SegL (c.set k q) a b f := SegS.cong h (fun j h1 h2 => cO_set (by omega))
/-- what is pending on the pile, the lowest first: from a on the code comes to d when all of it is settled -/
def Pnd (c : List (Nat × Nat)) : List (Nat × Nat) → Nat → Nat → Den → Prop
  | [], a, b, d => SegL c a b d
  | q :: s, a, b, d => (q.1 = 28 ∧ ∃ x, Pnd c s a b x ∧ d = dNot x) ∨ ((q.1 = 29 ∨ q.1 = 30) ∧ ∃ x y, SegL c a q.2 x ∧ q.2 < c.length ∧ cO c q.2 = q.1 ∧ Pnd c s (q.2 + 1) b y ∧ d = dAnd q.1 x y) ∨ (20 ≤ q.1 ∧ q.1 < 28 ∧ ∃ m x y, SegL c a m x ∧ m ≤ c.length ∧ Pnd c s m b y ∧ d = dBin q.1 x y)
/-- one is settled -/
def popC (q : Nat × Nat) (c : List (Nat × Nat)) : List (Nat × Nat) := if q.1 = 29 ∨ q.1 = 30 then c.set q.2 (cO c q.2, c.length) else c ++ [(q.1, 0)]
/-- all of them, the topmost first -/
def setC (s : List (Nat × Nat)) (c : List (Nat × Nat)) : List (Nat × Nat) := s.foldr popC c
theorem pnd_ge {c : List (Nat × Nat)} {q : Nat × Nat} (hq : q.1 = 29 ∨ q.1 = 30) : ∀ (s : List (Nat × Nat)) (a b : Nat) (d : Den), Pnd c (s ++ [q]) a b d → a < q.2 ∧ q.2 < c.length
  | [], a, b, d, h => by
    rcases h with ⟨h, -⟩ | ⟨-, x, y, h1, h2, -⟩ | ⟨h, h2, -⟩
    · omega
    · exact ⟨h1.1, h2⟩
    · omega
  | z :: s, a, b, d, h => by
    rcases h with ⟨-, x, h, -⟩ | ⟨-, x, y, h1, h2, -, h, -⟩ | ⟨-, -, m, x, y, h1, -, h, -⟩
    · exact pnd_ge hq s a b x h
    · have := pnd_ge hq s _ b y h
      have := h1.1
      exact ⟨by omega, by omega⟩
    · have := pnd_ge hq s _ b y h
      have := h1.1
      exact ⟨by omega, by omega⟩
theorem pnd_pop {c : List (Nat × Nat)} {q : Nat × Nat} : ∀ (s : List (Nat × Nat)) (a : Nat) (d : Den), Pnd c (s ++ [q]) a c.length d → Pnd (popC q c) s a (popC q c).length d := by
  intro s
  by_cases hq : q.1 = 29 ∨ q.1 = 30
  · have hp : popC q c = c.set q.2 (cO c q.2, c.length) := if_pos hq
    rw [hp, List.length_set]
    induction s with
    | nil =>
      intro a d h
      rcases h with ⟨h, -⟩ | ⟨-, x, y, h1, h2, h3, h4, rfl⟩ | ⟨h, h2, -⟩
      · omega
      · have e := cO_at (c := c) (k := q.2) (q := (cO c q.2, c.length)) h2
        have k1 := SegS.set (k := q.2) (q := (cO c q.2, c.length)) h1 (Or.inr (Nat.le_refl _))
        have k2 := SegS.set (k := q.2) (q := (cO c q.2, c.length)) (show SegL c (q.2 + 1) c.length y from h4) (Or.inl (Nat.lt_succ_self _))
        have k3 := seg_and k1 k2 (by rw [e.1]; show 28 < cO c q.2; omega) e.2
        rw [e.1] at k3
        show SegL _ a c.length _
        rw [← h3]
        exact k3
      · omega
    | cons z s ih =>
      intro a d h
      have hge := pnd_ge hq (z :: s) a _ d h
      rcases h with ⟨h0, x, h, rfl⟩ | ⟨h0, x, y, h1, h2, h3, h, rfl⟩ | ⟨h0, h0', m, x, y, h1, h2, h, rfl⟩
      · exact Or.inl ⟨h0, x, ih a x h, rfl⟩
      · have hg2 := pnd_ge hq s _ _ y h
        refine Or.inr (Or.inl ⟨h0, x, y, SegS.set h1 (Or.inr (by omega)), by rw [List.length_set]; exact h2, by rw [(cO_set (by omega)).1]; exact h3, ih _ y h, rfl⟩)
      · have hg2 := pnd_ge hq s _ _ y h
        exact Or.inr (Or.inr ⟨h0, h0', m, x, y, SegS.set h1 (Or.inr (by omega)), by rw [List.length_set]; exact h2, ih _ y h, rfl⟩)
  · have hp : popC q c = c ++ [(q.1, 0)] := if_neg hq
    have e := cO_last (c := c) (q := (q.1, 0))
    rw [hp, List.length_append, List.length_singleton]
    induction s with
    | nil =>
      intro a d h
      rcases h with ⟨h, x, h1, rfl⟩ | ⟨h, -⟩ | ⟨h, h2, m, x, y, h3, h4, h5, rfl⟩
      · exact seg_not (SegS.app (show SegL c a c.length x from h1) (Nat.le_refl _)) (by rw [e.1]; exact h)
      · exact absurd h hq
      · have k := seg_bin (SegS.app (x := [(q.1, 0)]) h3 h4) (SegS.app (x := [(q.1, 0)]) (show SegL c m c.length y from h5) (Nat.le_refl _)) (by rw [e.1]; exact h) (by rw [e.1]; exact h2)
        rw [e.1] at k
        exact k
    | cons z s ih =>
      intro a d h
      rcases h with ⟨h0, x, h, rfl⟩ | ⟨h0, x, y, h1, h2, h3, h, rfl⟩ | ⟨h0, h0', m, x, y, h1, h2, h, rfl⟩
      · exact Or.inl ⟨h0, x, ih a x h, rfl⟩
      · exact Or.inr (Or.inl ⟨h0, x, y, SegS.app h1 (by omega), by rw [List.length_append]; omega, by rw [(cO_app h2).1]; exact h3, ih _ y h, rfl⟩)
      · exact Or.inr (Or.inr ⟨h0, h0', m, x, y, SegS.app h1 h2, by rw [List.length_append]; omega, ih _ y h, rfl⟩)
theorem setC_snoc (s : List (Nat × Nat)) (q : Nat × Nat) (c : List (Nat × Nat)) : setC (s ++ [q]) c = setC s (popC q c) := by
  unfold setC
  rw [List.foldr_append]
  rfl
theorem pnd_len : ∀ (s : List (Nat × Nat)) {c : List (Nat × Nat)} {a b : Nat} {d : Den}, Pnd c s a b d → b ≤ c.length → a < b
  | [], c, a, b, d, h, _ => h.1
  | q :: s, c, a, b, d, h, hb => by
    rcases h with ⟨-, x, h, -⟩ | ⟨-, x, y, h1, h2, -, h, -⟩ | ⟨-, -, m, x, y, h1, -, h, -⟩
    · exact pnd_len s h hb
    · have := pnd_len s h hb; have := h1.1; omega
    · have := pnd_len s h hb; have := h1.1; omega
/-- what is settled stands in the code; what stands below is as it was -/
theorem pnd_all (a : Nat) (d : Den) : ∀ (n : Nat) (s c : List (Nat × Nat)), s.length = n → Pnd c s a c.length d → SegL (setC s c) a (setC s c).length d ∧ c.length ≤ (setC s c).length + 0 ∧ ∀ j, j < a → cO (setC s c) j = cO c j ∧ cA (setC s c) j = cA c j := by
  intro n
  induction n with
  | zero =>
    intro s c hl h
    obtain rfl := List.eq_nil_of_length_eq_zero hl
    exact ⟨h, Nat.le_refl _, fun _ _ => ⟨rfl, rfl⟩⟩
  | succ n ih =>
    intro s c hl h
    have hne : s ≠ [] := fun z => by rw [z] at hl; simp at hl
    obtain ⟨s2, q, rfl⟩ : ∃ s2 q, s = s2 ++ [q] := ⟨s.dropLast, s.getLast hne, (List.dropLast_concat_getLast hne).symm⟩
    rw [List.length_append, List.length_singleton] at hl
    have hp := pnd_pop s2 a d h
    obtain ⟨i1, i2, i3⟩ := ih s2 (popC q c) (by omega) hp
    have hal := pnd_len _ h (Nat.le_refl _)
    rw [setC_snoc]
    have hlen : c.length ≤ (popC q c).length := by
      unfold popC
      split
      · rw [List.length_set]; exact Nat.le_refl _
      · rw [List.length_append]; omega
    refine ⟨i1, by omega, fun j hj => ?_⟩
    obtain ⟨k1, k2⟩ := i3 j hj
    rw [k1, k2]
    unfold popC
    by_cases hq : q.1 = 29 ∨ q.1 = 30
    · rw [if_pos hq]
      have := pnd_ge hq s2 a _ d h
      exact cO_set (by omega)
    · rw [if_neg hq]
      exact cO_app (by omega)
