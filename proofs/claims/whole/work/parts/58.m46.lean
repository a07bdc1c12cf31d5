
noncomputable def cmpR (t : List Nat) (o : Bool) (n dp : Nat) (a : Den) (f1 p1 : Nat) (d : Den) : Option ResT := match sgn t f1 sgC with
        | none => some (.inl f1)
        | some q => bindR (rd t o n 3 dp (nxT t f1) p1 a) (fun f2 p2 d2 => some (.inr (f2, p2, dBin q d d2)))
theorem rd_0a {t : List Nat} {o : Bool} {n dp f p : Nat} {a : Den} (h : isS t f 91) (h2 : 8 ≤ dp) : rd t o (n + 1) 0 dp f p a = some (.inl f) := by
  rw [rd, if_pos rfl, if_pos h, if_pos h2]
theorem rd_0b {t : List Nat} {o : Bool} {n dp f p : Nat} {a : Den} (h : isS t f 91) (h2 : ¬ 8 ≤ dp) : rd t o (n + 1) 0 dp f p a = bindR (rd t o n 3 (dp + 1) (nxT t f) p a) (closeR t 93) := by
  rw [rd, if_pos rfl, if_pos h, if_neg h2]
theorem rd_0c {t : List Nat} {o : Bool} {n dp f p : Nat} {a : Den} (h : ¬ isS t f 91) : rd t o (n + 1) 0 dp f p a = some (rdLeaf t o f p) := by
  rw [rd, if_pos rfl, if_neg h]
theorem rd_1 {t : List Nat} {o : Bool} {n dp f p : Nat} {a : Den} : rd t o (n + 1) 1 dp f p a = bindR (rd t o n 0 dp f p a) (fun f1 p1 d => rd t o n 2 dp f1 p1 d) := by
  rw [rd, if_neg (by decide), if_pos rfl]
theorem rd_2n {t : List Nat} {o : Bool} {n dp f p : Nat} {a : Den} (h : sgn t f sgT = none) : rd t o (n + 1) 2 dp f p a = some (.inr (f, p, a)) := by
  rw [rd, if_neg (by decide), if_neg (by decide), if_pos rfl, h]
theorem rd_2s {t : List Nat} {o : Bool} {n dp f p : Nat} {a : Den} {q : Nat} (h : sgn t f sgT = some q) : rd t o (n + 1) 2 dp f p a = bindR (rd t o n 0 dp (nxT t f) p a) (fun f1 p1 d => rd t o n 2 dp f1 p1 (dBin q a d)) := by
  rw [rd, if_neg (by decide), if_neg (by decide), if_pos rfl, h]
theorem rd_3 {t : List Nat} {o : Bool} {n dp f p : Nat} {a : Den} : rd t o (n + 1) 3 dp f p a = bindR (rd t o n 1 dp f p a) (fun f1 p1 d => rd t o n 4 dp f1 p1 d) := by
  rw [rd, if_neg (by decide), if_neg (by decide), if_neg (by decide), if_pos rfl]
theorem rd_4n {t : List Nat} {o : Bool} {n dp f p : Nat} {a : Den} (h : sgn t f sgA = none) : rd t o (n + 1) 4 dp f p a = some (.inr (f, p, a)) := by
  rw [rd, if_neg (by decide), if_neg (by decide), if_neg (by decide), if_neg (by decide), if_pos rfl, h]
theorem rd_4s {t : List Nat} {o : Bool} {n dp f p : Nat} {a : Den} {q : Nat} (h : sgn t f sgA = some q) : rd t o (n + 1) 4 dp f p a = bindR (rd t o n 1 dp (nxT t f) p a) (fun f1 p1 d => rd t o n 4 dp f1 p1 (dBin q a d)) := by
  rw [rd, if_neg (by decide), if_neg (by decide), if_neg (by decide), if_neg (by decide), if_pos rfl, h]
theorem rd_5a {t : List Nat} {o : Bool} {n dp f p : Nat} {a : Den} (h : isW t f wNot) : rd t o (n + 1) 5 dp f p a = bindR (rd t o n 5 dp (nxT t f) p a) (fun f1 p1 d => some (.inr (f1, p1, dNot d))) := by
  rw [rd, if_neg (by decide), if_neg (by decide), if_neg (by decide), if_neg (by decide), if_neg (by decide), if_pos rfl, if_pos h]
theorem rd_5b {t : List Nat} {o : Bool} {n dp f p : Nat} {a : Den} (h : ¬ isW t f wNot) (h1 : isS t f 40) (h2 : 8 ≤ dp) : rd t o (n + 1) 5 dp f p a = some (.inl f) := by
  rw [rd, if_neg (by decide), if_neg (by decide), if_neg (by decide), if_neg (by decide), if_neg (by decide), if_pos rfl, if_neg h, if_pos h1, if_pos h2]
theorem rd_5c {t : List Nat} {o : Bool} {n dp f p : Nat} {a : Den} (h : ¬ isW t f wNot) (h1 : isS t f 40) (h2 : ¬ 8 ≤ dp) : rd t o (n + 1) 5 dp f p a = bindR (rd t o n 8 (dp + 1) (nxT t f) p a) (closeR t 41) := by
  rw [rd, if_neg (by decide), if_neg (by decide), if_neg (by decide), if_neg (by decide), if_neg (by decide), if_pos rfl, if_neg h, if_pos h1, if_neg h2]
theorem rd_5d {t : List Nat} {o : Bool} {n dp f p : Nat} {a : Den} (h : ¬ isW t f wNot) (h1 : ¬ isS t f 40) : rd t o (n + 1) 5 dp f p a = bindR (rd t o n 3 dp f p a) (cmpR t o n dp a) := by
  rw [rd, if_neg (by decide), if_neg (by decide), if_neg (by decide), if_neg (by decide), if_neg (by decide), if_pos rfl, if_neg h, if_neg h1]
  rfl
theorem rd_6 {t : List Nat} {o : Bool} {n dp f p : Nat} {a : Den} : rd t o (n + 1) 6 dp f p a = bindR (rd t o n 5 dp f p a) (fun f1 p1 d => rd t o n 7 dp f1 p1 d) := by
  rw [rd, if_neg (by decide), if_neg (by decide), if_neg (by decide), if_neg (by decide), if_neg (by decide), if_neg (by decide), if_pos rfl]
theorem rd_7y {t : List Nat} {o : Bool} {n dp f p : Nat} {a : Den} (h : isW t f wAnd) : rd t o (n + 1) 7 dp f p a = bindR (rd t o n 5 dp (nxT t f) p a) (fun f1 p1 d => rd t o n 7 dp f1 p1 (dAnd 29 a d)) := by
  rw [rd, if_neg (by decide), if_neg (by decide), if_neg (by decide), if_neg (by decide), if_neg (by decide), if_neg (by decide), if_neg (by decide), if_pos rfl, if_pos h]
theorem rd_7n {t : List Nat} {o : Bool} {n dp f p : Nat} {a : Den} (h : ¬ isW t f wAnd) : rd t o (n + 1) 7 dp f p a = some (.inr (f, p, a)) := by
  rw [rd, if_neg (by decide), if_neg (by decide), if_neg (by decide), if_neg (by decide), if_neg (by decide), if_neg (by decide), if_neg (by decide), if_pos rfl, if_neg h]
theorem rd_8 {t : List Nat} {o : Bool} {n dp f p : Nat} {a : Den} : rd t o (n + 1) 8 dp f p a = bindR (rd t o n 6 dp f p a) (fun f1 p1 d => rd t o n 9 dp f1 p1 d) := by
  rw [rd, if_neg (by decide), if_neg (by decide), if_neg (by decide), if_neg (by decide), if_neg (by decide), if_neg (by decide), if_neg (by decide), if_neg (by decide), if_pos rfl]
theorem rd_9y {t : List Nat} {o : Bool} {n dp f p : Nat} {a : Den} (h : isW t f wOr) : rd t o (n + 1) 9 dp f p a = bindR (rd t o n 6 dp (nxT t f) p a) (fun f1 p1 d => rd t o n 9 dp f1 p1 (dAnd 30 a d)) := by
  rw [rd, if_neg (by decide), if_neg (by decide), if_neg (by decide), if_neg (by decide), if_neg (by decide), if_neg (by decide), if_neg (by decide), if_neg (by decide), if_neg (by decide), if_pos h]
theorem rd_9n {t : List Nat} {o : Bool} {n dp f p : Nat} {a : Den} (h : ¬ isW t f wOr) : rd t o (n + 1) 9 dp f p a = some (.inr (f, p, a)) := by
  rw [rd, if_neg (by decide), if_neg (by decide), if_neg (by decide), if_neg (by decide), if_neg (by decide), if_neg (by decide), if_neg (by decide), if_neg (by decide), if_neg (by decide), if_neg h]
theorem bind_inv {r : Option ResT} {k : Nat → Nat → Den → Option ResT} {x : ResT} (h : bindR r k = some x) : (∃ e, r = some (.inl e) ∧ x = .inl e) ∨ ∃ f p d, r = some (.inr (f, p, d)) ∧ k f p d = some x := by
  unfold bindR at h
  match r, h with
  | some (.inl e), h => exact Or.inl ⟨e, rfl, (Option.some.inj h).symm⟩
  | some (.inr (f, p, d)), h => exact Or.inr ⟨f, p, d, rfl, h⟩
theorem bind_ne {r : Option ResT} {k : Nat → Nat → Den → Option ResT} (h : r ≠ none) (h2 : ∀ f p d, r = some (.inr (f, p, d)) → k f p d ≠ none) : bindR r k ≠ none := by
  unfold bindR
  match r, h, h2 with
  | some (.inl e), _, _ => exact fun z => by cases z
  | some (.inr (f, p, d)), _, h2 => exact h2 f p d rfl
theorem close_inv {t : List Nat} {c f p : Nat} {d : Den} {x : ResT} (h : closeR t c f p d = some x) : (isS t f c ∧ x = .inr (nxT t f, p, d)) ∨ (¬ isS t f c ∧ x = .inl f) := by
  unfold closeR at h
  by_cases e : isS t f c
  · rw [if_pos e] at h; exact Or.inl ⟨e, (Option.some.inj h).symm⟩
  · rw [if_neg e] at h; exact Or.inr ⟨e, (Option.some.inj h).symm⟩
theorem close_ne {t : List Nat} {c f p : Nat} {d : Den} : closeR t c f p d ≠ none := by
  unfold closeR
  split <;> exact fun z => by cases z
theorem sgn_some {t : List Nat} {f q : Nat} {l : List (Nat × Nat)} (h : sgn t f l = some q) : ∃ c, (c, q) ∈ l ∧ isS t f c := by
  unfold sgn at h
  rw [Option.map_eq_some_iff] at h
  obtain ⟨x, h1, h2⟩ := h
  have h3 := List.find?_some h1
  have h4 := List.mem_of_find?_eq_some h1
  exact ⟨x.1, by rw [← h2]; exact h4, of_decide_eq_true h3⟩
theorem sgn_none {t : List Nat} {f : Nat} {l : List (Nat × Nat)} (h : sgn t f l = none) : ∀ q ∈ l, ¬ isS t f q.1 := by
  unfold sgn at h
  rw [Option.map_eq_none_iff] at h
  intro q hq z
  have := List.find?_eq_none.mp h q hq
  exact this (decide_eq_true z)
theorem sgn_0 {t : List Nat} {f q : Nat} {l : List (Nat × Nat)} (h : sgn t f l = some q) : srt t f ≠ 0 := by
  obtain ⟨c, -, h2⟩ := sgn_some h
  exact isS_0 h2
/-- what a leaf comes to -/
theorem leaf_inv {t : List Nat} {o : Bool} {f p : Nat} {f1 p1 : Nat} {d : Den} (h : rdLeaf t o f p = .inr (f1, p1, d)) : p < 50 ∧ p1 = p + 1 ∧ srt t f ≠ 0 ∧ ((isN t f 0 1000 ∧ f1 = nxT t f ∧ d = fun _ => some (numC t f : Int)) ∨ (¬ isN t f 0 1000 ∧ ∃ k, k < (partsL o).length ∧ isW t f (gA2 (partsL o) k) ∧ ((o = true ∧ k = 5 ∧ isN t (nxT t f) 0 11 ∧ f1 = nxT t (nxT t f) ∧ d = fun env => some (env (20 + numC t (nxT t f)))) ∨ (¬ (o = true ∧ k = 5) ∧ f1 = nxT t f ∧ d = fun env => some (env (if k = 5 then 20 else k + 1)))))) := by
  unfold rdLeaf at h
  by_cases h1 : 50 ≤ p
  · rw [if_pos h1] at h; cases h
  rw [if_neg h1] at h
  by_cases h2 : isN t f 0 1000
  · rw [if_pos h2] at h
    injection h with h
    injection h with e1 h
    injection h with e2 e3
    exact ⟨by omega, e2.symm, isN_0 h2, Or.inl ⟨h2, e1.symm, e3.symm⟩⟩
  rw [if_neg h2] at h
  cases hf : (List.range (partsL o).length).find? (fun k => decide (isW t f (gA2 (partsL o) k))) with
  | none => rw [hf] at h; cases h
  | some k =>
    rw [hf] at h
    have h3 := List.find?_some hf
    have h4 := List.mem_of_find?_eq_some hf
    rw [List.mem_range] at h4
    have h5 : isW t f (gA2 (partsL o) k) := of_decide_eq_true h3
    by_cases h6 : o = true ∧ k = 5
    · have h := h
      simp only [if_pos h6] at h
      by_cases h7 : isN t (nxT t f) 0 11
      · rw [if_pos h7] at h
        injection h with h
        injection h with e1 h
        injection h with e2 e3
        exact ⟨by omega, e2.symm, isW_0 h5, Or.inr ⟨h2, k, h4, h5, Or.inl ⟨h6.1, h6.2, h7, e1.symm, e3.symm⟩⟩⟩
      · rw [if_neg h7] at h; cases h
    · simp only [if_neg h6] at h
      injection h with h
      injection h with e1 h
      injection h with e2 e3
      exact ⟨by omega, e2.symm, isW_0 h5, Or.inr ⟨h2, k, h4, h5, Or.inr ⟨h6, e1.symm, e3.symm⟩⟩⟩
/-- a text is read on, or not at all -/
def adv (m : Nat) : Nat := if m = 2 ∨ m = 4 ∨ m = 7 ∨ 9 ≤ m then 0 else 1
theorem leaf_adv {t : List Nat} {o : Bool} {f p f1 p1 : Nat} {d : Den} (hf : f ≤ t.length) (h : rdLeaf t o f p = .inr (f1, p1, d)) : f + 1 ≤ f1 ∧ f1 ≤ t.length ∧ okF t f1 ∧ p1 ≤ 50 := by
  obtain ⟨h0, rfl, h1, h2⟩ := leaf_inv h
  have g1 := nxT_gt h1
  have g2 := nxT_le hf
  rcases h2 with ⟨-, rfl, -⟩ | ⟨-, k, -, -, ⟨-, -, h3, rfl, -⟩ | ⟨-, rfl, -⟩⟩
  · exact ⟨g1, g2, nxT_ok hf, by omega⟩
  · have := nxT_gt (isN_0 h3)
    exact ⟨by omega, nxT_le g2, nxT_ok g2, by omega⟩
  · exact ⟨g1, g2, nxT_ok hf, by omega⟩
theorem rd_adv {t : List Nat} {o : Bool} : ∀ (n m dp f p : Nat) (a : Den) (f1 p1 : Nat) (d : Den), okF t f → p ≤ 50 → rd t o n m dp f p a = some (.inr (f1, p1, d)) → f + adv m ≤ f1 ∧ okF t f1 ∧ p1 ≤ 50 := by
  intro n
  induction n with
  | zero => intro m dp f p a f1 p1 d _ _ h; rw [rd] at h; cases h
  | succ n ih =>
    intro m dp f p a f1 p1 d hf hp h
    have two : ∀ (m1 dp1 g m2 : Nat) (b : Den) (k : Den → Den) (r : ResT), okF t g → f ≤ g → r = .inr (f1, p1, d) → bindR (rd t o n m1 dp1 g p b) (fun f1 p1 d => rd t o n m2 dp f1 p1 (k d)) = some r → g + adv m1 + adv m2 ≤ f1 ∧ okF t f1 ∧ p1 ≤ 50 := by
      intro m1 dp1 g m2 b k r hg hfg hr hb
      rcases bind_inv hb with ⟨e, -, he⟩ | ⟨x, y, z, h1, h2⟩
      · rw [hr] at he; cases he
      · obtain ⟨i1, i2, i3⟩ := ih m1 dp1 g p b x y z hg hp h1
        rw [hr] at h2
        obtain ⟨j1, j2, j3⟩ := ih m2 dp x y _ f1 p1 d i2 i3 h2
        exact ⟨by omega, j2, j3⟩
    have cl : ∀ (m1 c : Nat), srt t f ≠ 0 → bindR (rd t o n m1 (dp + 1) (nxT t f) p a) (closeR t c) = some (.inr (f1, p1, d)) → f + 1 ≤ f1 ∧ okF t f1 ∧ p1 ≤ 50 := by
      intro m1 c hs hb
      rcases bind_inv hb with ⟨e, -, he⟩ | ⟨x, y, z, h1, h2⟩
      · cases he
      · obtain ⟨i1, i2, i3⟩ := ih m1 (dp + 1) _ p a x y z (nxT_ok hf.1) hp h1
        rcases close_inv h2 with ⟨h3, h4⟩ | ⟨h3, h4⟩
        · injection h4 with h4
          injection h4 with e1 h4
          injection h4 with e2 e3
          have g1 := nxT_gt hs
          have g2 := nxT_gt (isS_0 h3)
          rw [e1, e2]
          exact ⟨by omega, nxT_ok i2.1, i3⟩
        · cases h4
    have end_ : some (Sum.inr (f, p, a) : ResT) = some (.inr (f1, p1, d)) → f ≤ f1 ∧ okF t f1 ∧ p1 ≤ 50 := by
      intro h
      injection h with h
      injection h with h
      injection h with e1 h
      injection h with e2 e3
      rw [← e1, ← e2]
      exact ⟨Nat.le_refl _, hf, hp⟩
    by_cases m0 : m = 0
    · subst m0
      by_cases h1 : isS t f 91
      · by_cases h2 : 8 ≤ dp
        · rw [rd_0a h1 h2] at h; cases h
        · rw [rd_0b h1 h2] at h; exact cl _ _ (isS_0 h1) h
      · rw [rd_0c h1] at h
        have := leaf_adv hf.1 (Option.some.inj h)
        exact ⟨this.1, this.2.2⟩
    by_cases m1 : m = 1
    · subst m1; rw [rd_1] at h; exact two _ _ _ _ _ id _ hf (Nat.le_refl _) rfl h
    by_cases m2 : m = 2
    · subst m2
      cases hs : sgn t f sgT with
      | none => rw [rd_2n hs] at h; exact end_ h
      | some q =>
        rw [rd_2s hs] at h
        have g1 := nxT_gt (sgn_0 hs)
        have := two _ _ _ _ _ (dBin q a) _ (nxT_ok hf.1) (by omega) rfl h
        exact ⟨by omega, this.2⟩
    by_cases m3 : m = 3
    · subst m3; rw [rd_3] at h; exact two _ _ _ _ _ id _ hf (Nat.le_refl _) rfl h
    by_cases m4 : m = 4
    · subst m4
      cases hs : sgn t f sgA with
      | none => rw [rd_4n hs] at h; exact end_ h
      | some q =>
        rw [rd_4s hs] at h
        have g1 := nxT_gt (sgn_0 hs)
        have := two _ _ _ _ _ (dBin q a) _ (nxT_ok hf.1) (by omega) rfl h
        exact ⟨by omega, this.2⟩
    by_cases m5 : m = 5
    · subst m5
      by_cases h1 : isW t f wNot
      · rw [rd_5a h1] at h
        rcases bind_inv h with ⟨e, -, he⟩ | ⟨x, y, z, h2, h3⟩
        · cases he
        · obtain ⟨i1, i2, i3⟩ := ih 5 dp _ p a x y z (nxT_ok hf.1) hp h2
          injection h3 with h3
          injection h3 with h3
          injection h3 with e1 h3
          injection h3 with e2 e3
          have g1 := nxT_gt (isW_0 h1)
          rw [← e1, ← e2]
          exact ⟨by have : adv 5 = 1 := rfl; omega, i2, i3⟩
      · by_cases h2 : isS t f 40
        · by_cases h3 : 8 ≤ dp
          · rw [rd_5b h1 h2 h3] at h; cases h
          · rw [rd_5c h1 h2 h3] at h; exact cl _ _ (isS_0 h2) h
        · rw [rd_5d h1 h2] at h
          rcases bind_inv h with ⟨e, -, he⟩ | ⟨x, y, z, h3, h4⟩
          · cases he
          · obtain ⟨i1, i2, i3⟩ := ih 3 dp _ p a x y z hf hp h3
            unfold cmpR at h4
            cases hs : sgn t x sgC with
            | none => rw [hs] at h4; cases h4
            | some q =>
              rw [hs] at h4
              rcases bind_inv h4 with ⟨e, -, he⟩ | ⟨x2, y2, z2, h5, h6⟩
              · cases he
              · obtain ⟨j1, j2, j3⟩ := ih 3 dp _ y a x2 y2 z2 (nxT_ok i2.1) i3 h5
                injection h6 with h6
                injection h6 with h6
                injection h6 with e1 h6
                injection h6 with e2 e3
                have g1 := nxT_gt (sgn_0 hs)
                rw [← e1, ← e2]
                exact ⟨by have : adv 5 = 1 := rfl; have : adv 3 = 1 := rfl; omega, j2, j3⟩
    by_cases m6 : m = 6
    · subst m6; rw [rd_6] at h; exact two _ _ _ _ _ id _ hf (Nat.le_refl _) rfl h
    by_cases m7 : m = 7
    · subst m7
      by_cases h1 : isW t f wAnd
      · rw [rd_7y h1] at h
        have g1 := nxT_gt (isW_0 h1)
        have := two _ _ _ _ _ (dAnd 29 a) _ (nxT_ok hf.1) (by omega) rfl h
        exact ⟨by omega, this.2⟩
      · rw [rd_7n h1] at h; exact end_ h
    by_cases m8 : m = 8
    · subst m8; rw [rd_8] at h; exact two _ _ _ _ _ id _ hf (Nat.le_refl _) rfl h
    · have e9 : rd t o (n + 1) m dp f p a = rd t o (n + 1) 9 dp f p a := by
        rw [rd, if_neg m0, if_neg m1, if_neg m2, if_neg m3, if_neg m4, if_neg m5, if_neg m6, if_neg m7, if_neg m8]
        rw [rd, if_neg (show ¬ (9 : Nat) = 0 by decide), if_neg (show ¬ (9 : Nat) = 1 by decide), if_neg (show ¬ (9 : Nat) = 2 by decide), if_neg (show ¬ (9 : Nat) = 3 by decide), if_neg (show ¬ (9 : Nat) = 4 by decide), if_neg (show ¬ (9 : Nat) = 5 by decide), if_neg (show ¬ (9 : Nat) = 6 by decide), if_neg (show ¬ (9 : Nat) = 7 by decide), if_neg (show ¬ (9 : Nat) = 8 by decide)]
      have ea : adv m = 0 := if_pos (by omega)
      rw [ea]
      rw [e9] at h
      by_cases h1 : isW t f wOr
      · rw [rd_9y h1] at h
        have g1 := nxT_gt (isW_0 h1)
        have := two _ _ _ _ _ (dAnd 30 a) _ (nxT_ok hf.1) (by omega) rfl h
        exact ⟨by omega, this.2⟩
      · rw [rd_9n h1] at h; exact end_ h
