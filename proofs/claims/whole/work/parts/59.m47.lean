
def rkM (m : Nat) : Nat := if m = 1 then 2 else if m = 3 then 3 else if m = 5 then 4 else if m = 6 then 5 else if m = 8 then 6 else 1
theorem rkM_le (m : Nat) : 1 ≤ rkM m ∧ rkM m ≤ 6 := by
  unfold rkM
  repeat (first | omega | split)
theorem rd_9 {t : List Nat} {o : Bool} {n m dp f p : Nat} {a : Den} (h : 9 ≤ m) : rd t o (n + 1) m dp f p a = rd t o (n + 1) 9 dp f p a := by
  rw [rd, if_neg (by omega), if_neg (by omega), if_neg (by omega), if_neg (by omega), if_neg (by omega), if_neg (by omega), if_neg (by omega), if_neg (by omega), if_neg (by omega)]
  rw [rd, if_neg (show ¬ (9 : Nat) = 0 by decide), if_neg (show ¬ (9 : Nat) = 1 by decide), if_neg (show ¬ (9 : Nat) = 2 by decide), if_neg (show ¬ (9 : Nat) = 3 by decide), if_neg (show ¬ (9 : Nat) = 4 by decide), if_neg (show ¬ (9 : Nat) = 5 by decide), if_neg (show ¬ (9 : Nat) = 6 by decide), if_neg (show ¬ (9 : Nat) = 7 by decide), if_neg (show ¬ (9 : Nat) = 8 by decide)]
theorem rd_tot {t : List Nat} {o : Bool} : ∀ (n m dp f p : Nat) (a : Den), okF t f → p ≤ 50 → 12 * (t.length - f) + rkM m ≤ n → rd t o n m dp f p a ≠ none := by
  intro n
  induction n with
  | zero => intro m dp f p a _ _ h; have := rkM_le m; omega
  | succ n ih =>
    intro m dp f p a hf hp hn
    have hfl := hf.1
    have two : ∀ (m1 dp1 g m2 : Nat) (b : Den) (k : Den → Den), okF t g → adv m1 = 1 → 12 * (t.length - g) + rkM m1 ≤ n → f ≤ g → bindR (rd t o n m1 dp1 g p b) (fun f1 p1 d => rd t o n m2 dp f1 p1 (k d)) ≠ none := by
      intro m1 dp1 g m2 b k hg ha h1 hfg
      refine bind_ne (ih m1 dp1 g p b hg hp h1) (fun x y z hz => ?_)
      obtain ⟨i1, i2, i3⟩ := rd_adv n m1 dp1 g p b x y z hg hp hz
      have := i2.1
      have := rkM_le m2
      have := (rkM_le m).1
      exact ih m2 dp x y _ i2 i3 (by omega)
    have nx : ∀ k, srt t f ≠ 0 → 12 * (t.length - nxT t f) + rkM k ≤ n := fun k hs => by
      have := nxT_gt hs
      have := nxT_le hfl
      have := rkM_le k
      have := (rkM_le m).1
      omega
    by_cases m0 : m = 0
    · subst m0
      by_cases h1 : isS t f 91
      · by_cases h2 : 8 ≤ dp
        · rw [rd_0a h1 h2]; exact fun z => by cases z
        · rw [rd_0b h1 h2]
          exact bind_ne (ih 3 _ _ p a (nxT_ok hfl) hp (nx 3 (isS_0 h1))) (fun x y z _ => close_ne)
      · rw [rd_0c h1]; exact fun z => by cases z
    by_cases m1 : m = 1
    · subst m1; rw [rd_1]; exact two _ _ _ _ _ id hf rfl (by show _ + 1 ≤ n; have : rkM 1 = 2 := rfl; omega) (Nat.le_refl _)
    by_cases m2 : m = 2
    · subst m2
      cases hs : sgn t f sgT with
      | none => rw [rd_2n hs]; exact fun z => by cases z
      | some q => rw [rd_2s hs]; exact two _ _ _ _ _ (dBin q a) (nxT_ok hfl) rfl (nx 0 (sgn_0 hs)) (nxT_ge t f hfl)
    by_cases m3 : m = 3
    · subst m3; rw [rd_3]; exact two _ _ _ _ _ id hf rfl (by show _ + 2 ≤ n; have : rkM 3 = 3 := rfl; omega) (Nat.le_refl _)
    by_cases m4 : m = 4
    · subst m4
      cases hs : sgn t f sgA with
      | none => rw [rd_4n hs]; exact fun z => by cases z
      | some q => rw [rd_4s hs]; exact two _ _ _ _ _ (dBin q a) (nxT_ok hfl) rfl (nx 1 (sgn_0 hs)) (nxT_ge t f hfl)
    by_cases m5 : m = 5
    · subst m5
      by_cases h1 : isW t f wNot
      · rw [rd_5a h1]
        exact bind_ne (ih 5 _ _ p a (nxT_ok hfl) hp (nx 5 (isW_0 h1))) (fun x y z _ => fun z => by cases z)
      · by_cases h2 : isS t f 40
        · by_cases h3 : 8 ≤ dp
          · rw [rd_5b h1 h2 h3]; exact fun z => by cases z
          · rw [rd_5c h1 h2 h3]
            exact bind_ne (ih 8 _ _ p a (nxT_ok hfl) hp (nx 8 (isS_0 h2))) (fun x y z _ => close_ne)
        · rw [rd_5d h1 h2]
          have e5 : rkM 5 = 4 := rfl
          refine bind_ne (ih 3 dp f p a hf hp (by have : rkM 3 = 3 := rfl; omega)) (fun x y z hz => ?_)
          obtain ⟨i1, i2, i3⟩ := rd_adv n 3 dp f p a x y z hf hp hz
          unfold cmpR
          cases hs : sgn t x sgC with
          | none => exact fun z => by cases z
          | some q =>
            have g1 := nxT_gt (sgn_0 hs)
            have g2 := nxT_le i2.1
            have e3 : rkM 3 = 3 := rfl
            exact bind_ne (ih 3 dp _ y a (nxT_ok i2.1) i3 (by omega)) (fun _ _ _ _ => fun z => by cases z)
    by_cases m6 : m = 6
    · subst m6; rw [rd_6]; exact two _ _ _ _ _ id hf rfl (by show _ + 4 ≤ n; have : rkM 6 = 5 := rfl; omega) (Nat.le_refl _)
    by_cases m7 : m = 7
    · subst m7
      by_cases h1 : isW t f wAnd
      · rw [rd_7y h1]; exact two _ _ _ _ _ (dAnd 29 a) (nxT_ok hfl) rfl (nx 5 (isW_0 h1)) (nxT_ge t f hfl)
      · rw [rd_7n h1]; exact fun z => by cases z
    by_cases m8 : m = 8
    · subst m8; rw [rd_8]; exact two _ _ _ _ _ id hf rfl (by show _ + 5 ≤ n; have : rkM 8 = 6 := rfl; omega) (Nat.le_refl _)
    · rw [rd_9 (by omega)]
      by_cases h1 : isW t f wOr
      · rw [rd_9y h1]; exact two _ _ _ _ _ (dAnd 30 a) (nxT_ok hfl) rfl (nx 6 (isW_0 h1)) (nxT_ge t f hfl)
      · rw [rd_9n h1]; exact fun z => by cases z
/-- so or not -/
def Bit (d : Den) : Prop := ∀ env v, d env = some v → v = 0 ∨ v = 1
theorem bit_not {d : Den} (h : Bit d) : Bit (dNot d) := fun env v hv => by
  unfold dNot at hv
  rw [Option.map_eq_some_iff] at hv
  obtain ⟨u, h1, h2⟩ := hv
  rcases h env u h1 with e | e <;> omega
theorem bit_and {q : Nat} {a b : Den} (h : Bit a) (h2 : Bit b) : Bit (dAnd q a b) := fun env v hv => by
  unfold dAnd at hv
  rw [Option.bind_eq_some_iff] at hv
  obtain ⟨u, h3, h4⟩ := hv
  by_cases e : u = (if q = 29 then 0 else 1)
  · have h4 : (if u = (if q = 29 then 0 else 1) then some u else b env) = some v := h4
    rw [if_pos e] at h4
    injection h4 with h4
    rw [← h4]; exact h env u h3
  · have h4 : (if u = (if q = 29 then 0 else 1) then some u else b env) = some v := h4
    rw [if_neg e] at h4
    exact h2 env v h4
theorem bit_cmp {q : Nat} {a b : Den} (h : 25 ≤ q) : Bit (dBin q a b) := fun env v hv => by
  unfold dBin at hv
  rw [Option.bind_eq_some_iff] at hv
  obtain ⟨u, h3, h4⟩ := hv
  rw [Option.bind_eq_some_iff] at h4
  obtain ⟨x, h5, h6⟩ := h4
  unfold comb at h6
  rw [if_neg (by omega), if_neg (by omega), if_neg (by omega), if_neg (by omega), if_neg (by omega)] at h6
  split at h6
  · injection h6 with h6; rw [← h6]; split <;> simp
  · split at h6
    · injection h6 with h6; rw [← h6]; split <;> simp
    · injection h6 with h6; rw [← h6]; split <;> simp
theorem sgC_q {c q : Nat} (h : (c, q) ∈ sgC) : 25 ≤ q ∧ q < 28 := by
  simp [sgC] at h
  omega
theorem rd_bit {t : List Nat} {o : Bool} : ∀ (n m dp f p : Nat) (a : Den) (f1 p1 : Nat) (d : Den), 5 ≤ m → ((m = 7 ∨ 9 ≤ m) → Bit a) → rd t o n m dp f p a = some (.inr (f1, p1, d)) → Bit d := by
  intro n
  induction n with
  | zero => intro m dp f p a f1 p1 d _ _ h; rw [rd] at h; cases h
  | succ n ih =>
    intro m dp f p a f1 p1 d hm ha h
    have two : ∀ (m1 dp1 g m2 : Nat) (b : Den) (k : Den → Den) (r : ResT), 5 ≤ m1 → ¬ (m1 = 7 ∨ 9 ≤ m1) → 5 ≤ m2 → (∀ z, Bit z → Bit (k z)) → r = .inr (f1, p1, d) → bindR (rd t o n m1 dp1 g p b) (fun f1 p1 d => rd t o n m2 dp f1 p1 (k d)) = some r → Bit d := by
      intro m1 dp1 g m2 b k r h1 h2 h3 hk hr hb
      rcases bind_inv hb with ⟨e, -, he⟩ | ⟨x, y, z, h4, h5⟩
      · rw [hr] at he; cases he
      · rw [hr] at h5
        exact ih m2 dp x y _ f1 p1 d h3 (fun _ => hk z (ih m1 dp1 g p b x y z h1 (fun w => absurd w h2) h4)) h5
    have end_ : Bit a → some (Sum.inr (f, p, a) : ResT) = some (.inr (f1, p1, d)) → Bit d := by
      intro hb h
      injection h with h
      injection h with h
      injection h with e1 h
      injection h with e2 e3
      rw [← e3]; exact hb
    by_cases m5 : m = 5
    · subst m5
      by_cases h1 : isW t f wNot
      · rw [rd_5a h1] at h
        rcases bind_inv h with ⟨e, -, he⟩ | ⟨x, y, z, h2, h3⟩
        · cases he
        · injection h3 with h3
          injection h3 with h3
          injection h3 with e1 h3
          injection h3 with e2 e3
          rw [← e3]
          exact bit_not (ih 5 dp _ p a x y z (by decide) (fun w => absurd w (by decide)) h2)
      · by_cases h2 : isS t f 40
        · by_cases h3 : 8 ≤ dp
          · rw [rd_5b h1 h2 h3] at h; cases h
          · rw [rd_5c h1 h2 h3] at h
            rcases bind_inv h with ⟨e, -, he⟩ | ⟨x, y, z, h4, h5⟩
            · cases he
            · rcases close_inv h5 with ⟨-, h6⟩ | ⟨-, h6⟩
              · injection h6 with h6
                injection h6 with e1 h6
                injection h6 with e2 e3
                rw [e3]
                exact ih 8 _ _ p a x y z (by decide) (fun w => absurd w (by decide)) h4
              · cases h6
        · rw [rd_5d h1 h2] at h
          rcases bind_inv h with ⟨e, -, he⟩ | ⟨x, y, z, h3, h4⟩
          · cases he
          · unfold cmpR at h4
            cases hs : sgn t x sgC with
            | none => rw [hs] at h4; cases h4
            | some q =>
              rw [hs] at h4
              rcases bind_inv h4 with ⟨e, -, he⟩ | ⟨x2, y2, z2, h5, h6⟩
              · cases he
              · injection h6 with h6
                injection h6 with h6
                injection h6 with e1 h6
                injection h6 with e2 e3
                rw [← e3]
                obtain ⟨c, hc, -⟩ := sgn_some hs
                exact bit_cmp (sgC_q hc).1
    by_cases m6 : m = 6
    · subst m6; rw [rd_6] at h; exact two 5 _ _ 7 _ id _ (by decide) (by decide) (by decide) (fun _ z => z) rfl h
    by_cases m7 : m = 7
    · subst m7
      by_cases h1 : isW t f wAnd
      · rw [rd_7y h1] at h; exact two 5 _ _ 7 _ (dAnd 29 a) _ (by decide) (by decide) (by decide) (fun _ z => bit_and (ha (Or.inl rfl)) z) rfl h
      · rw [rd_7n h1] at h; exact end_ (ha (Or.inl rfl)) h
    by_cases m8 : m = 8
    · subst m8; rw [rd_8] at h; exact two 6 _ _ 9 _ id _ (by decide) (by decide) (by decide) (fun _ z => z) rfl h
    · rw [rd_9 (by omega)] at h
      by_cases h1 : isW t f wOr
      · rw [rd_9y h1] at h; exact two 6 _ _ 9 _ (dAnd 30 a) _ (by decide) (by decide) (by decide) (fun _ z => bit_and (ha (Or.inr (by omega))) z) rfl h
      · rw [rd_9n h1] at h; exact end_ (ha (Or.inr (by omega))) h
theorem not_not {d : Den} (h : True) : dNot (dNot d) = d := by
  funext env
  unfold dNot
  cases d env with
  | none => rfl
  | some v => show some (1 - (1 - v)) = some v; congr 1; omega
