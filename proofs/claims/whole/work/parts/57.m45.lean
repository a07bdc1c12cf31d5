
/-! ===== the words of a text ===== -/
def isSm (c : Nat) : Prop := 97 ≤ c ∧ c ≤ 122
def isDg (c : Nat) : Prop := 48 ≤ c ∧ c ≤ 57
/-- the first place from p on where what pr says holds no more; n places at most -/
def runB (t : List Nat) (q : Nat) : Nat → Nat → Nat
  | 0, p => p
  | n + 1, p => if p < t.length ∧ ((q = 0 ∧ gA t p = 32) ∨ (q = 1 ∧ 97 ≤ gA t p ∧ gA t p ≤ 122) ∨ (q = 2 ∧ 48 ≤ gA t p ∧ gA t p ≤ 57)) then runB t q n (p + 1) else p
abbrev runC (t : List Nat) (q p : Nat) : Prop := p < t.length ∧ ((q = 0 ∧ gA t p = 32) ∨ (q = 1 ∧ 97 ≤ gA t p ∧ gA t p ≤ 122) ∨ (q = 2 ∧ 48 ≤ gA t p ∧ gA t p ≤ 57))
def runE (t : List Nat) (q p : Nat) : Nat := runB t q (t.length - p) p
theorem runE_y {t : List Nat} {q p : Nat} (h : runC t q p) : runE t q p = runE t q (p + 1) := by
  have hp := h.1
  unfold runE
  rw [show t.length - p = (t.length - (p + 1)) + 1 by omega, runB, if_pos h]
theorem runE_n {t : List Nat} {q p : Nat} (h : ¬ runC t q p) : runE t q p = p := by
  unfold runE
  cases t.length - p with
  | zero => rfl
  | succ n => rw [runB, if_neg h]
theorem runB_ge {t : List Nat} {q : Nat} : ∀ (n p : Nat), p ≤ runB t q n p
  | 0, p => Nat.le_refl _
  | n + 1, p => by
    unfold runB
    split
    · have := runB_ge (t := t) (q := q) n (p + 1); omega
    · exact Nat.le_refl _
theorem runB_le {t : List Nat} {q : Nat} : ∀ (n p : Nat), p ≤ t.length → runB t q n p ≤ t.length
  | 0, p, h => h
  | n + 1, p, h => by
    unfold runB
    split
    · rename_i h2
      exact runB_le n (p + 1) h2.1
    · exact h
theorem runE_ge (t : List Nat) (q p : Nat) : p ≤ runE t q p := runB_ge _ _
theorem runE_le {t : List Nat} {q p : Nat} (h : p ≤ t.length) : runE t q p ≤ t.length := runB_le _ _ h
theorem runB_stop {t : List Nat} {q : Nat} : ∀ (n p : Nat), t.length ≤ n + p → ¬ runC t q (runB t q n p)
  | 0, p, h => fun z => by
    have := z.1
    rw [show runB t q 0 p = p from rfl] at this
    omega
  | n + 1, p, h => by
    unfold runB
    split
    · exact runB_stop n (p + 1) (by omega)
    · rename_i h2; exact h2
theorem runE_stop (t : List Nat) (q p : Nat) : ¬ runC t q (runE t q p) := runB_stop _ _ (by omega)
theorem runB_in {t : List Nat} {q : Nat} : ∀ (n p j : Nat), p ≤ j → j < runB t q n p → runC t q j
  | 0, p, j, h1, h2 => by
    rw [show runB t q 0 p = p from rfl] at h2
    omega
  | n + 1, p, j, h1, h2 => by
    unfold runB at h2
    split at h2
    · rename_i h3
      by_cases e : j = p
      · rw [e]; exact h3
      · exact runB_in n (p + 1) j (by omega) h2
    · omega
theorem runE_in {t : List Nat} {q p j : Nat} (h1 : p ≤ j) (h2 : j < runE t q p) : runC t q j := runB_in _ _ _ h1 h2
/-- sorts of a word that begins at f: 0 end, 1 letters, 2 digits, 3 a sign -/
def srt (t : List Nat) (f : Nat) : Nat := if t.length ≤ f then 0 else if 97 ≤ gA t f ∧ gA t f ≤ 122 then 1 else if 48 ≤ gA t f ∧ gA t f ≤ 57 then 2 else 3
/-- where it ends -/
def enT (t : List Nat) (f : Nat) : Nat := if srt t f = 0 then f else if srt t f = 3 then f + 1 else runE t (srt t f) f
/-- where the next one begins -/
def nxT (t : List Nat) (f : Nat) : Nat := runE t 0 (enT t f)
/-- a place where a word can begin -/
def okF (t : List Nat) (f : Nat) : Prop := f ≤ t.length ∧ ¬ runC t 0 f
theorem srt_lt {t : List Nat} {f : Nat} (h : srt t f ≠ 0) : f < t.length := by
  unfold srt at h
  by_cases e : t.length ≤ f
  · rw [if_pos e] at h; exact absurd rfl h
  · omega
theorem srt_le (t : List Nat) (f : Nat) : srt t f ≤ 3 := by
  unfold srt
  split
  · omega
  · split
    · omega
    · split <;> omega
theorem enT_gt {t : List Nat} {f : Nat} (h : srt t f ≠ 0) : f < enT t f := by
  unfold enT
  rw [if_neg h]
  have hf := srt_lt h
  split
  · omega
  · rename_i h3
    have : runC t (srt t f) f := by
      refine ⟨hf, ?_⟩
      unfold srt at h h3 ⊢
      rw [if_neg (show ¬ t.length ≤ f by omega)] at h h3 ⊢
      split
      · rename_i h4; exact Or.inr (Or.inl ⟨rfl, h4⟩)
      · rename_i h4
        rw [if_neg h4] at h3
        split
        · rename_i h5; exact Or.inr (Or.inr ⟨rfl, h5⟩)
        · rename_i h5; rw [if_neg h5] at h3; exact absurd rfl h3
    rw [runE_y this]
    have := runE_ge t (srt t f) (f + 1)
    omega
theorem enT_le {t : List Nat} {f : Nat} (h : f ≤ t.length) : enT t f ≤ t.length := by
  unfold enT
  split
  · exact h
  · rename_i h0
    split
    · have := srt_lt h0; omega
    · exact runE_le h
theorem nxT_le {t : List Nat} {f : Nat} (h : f ≤ t.length) : nxT t f ≤ t.length := runE_le (enT_le h)
theorem nxT_gt {t : List Nat} {f : Nat} (h : srt t f ≠ 0) : f < nxT t f := Nat.lt_of_lt_of_le (enT_gt h) (runE_ge _ _ _)
theorem nxT_ok {t : List Nat} {f : Nat} (h : f ≤ t.length) : okF t (nxT t f) := ⟨nxT_le h, runE_stop _ _ _⟩
theorem nxT_ge (t : List Nat) (f : Nat) (h : f ≤ t.length) : f ≤ nxT t f := by
  by_cases e : srt t f = 0
  · unfold nxT enT
    rw [if_pos e]
    exact runE_ge _ _ _
  · exact Nat.le_of_lt (nxT_gt e)
/-- the word at f is w -/
abbrev isW (t : List Nat) (f : Nat) (w : List Nat) : Prop := srt t f = 1 ∧ enT t f - f = w.length ∧ ∀ i, i < w.length → gA t (f + i) = gA w i
/-- the sign at f is c -/
abbrev isS (t : List Nat) (f c : Nat) : Prop := srt t f = 3 ∧ gA t f = c
/-- what the first k digits from f on come to, 1001 at most -/
def digC (t : List Nat) (f : Nat) : Nat → Nat
  | 0 => 0
  | k + 1 => min 1001 (digC t f k * 10 + (gA t (f + k) - 48))
def numC (t : List Nat) (f : Nat) : Nat := digC t f (enT t f - f)
/-- the word at f is a number within -/
abbrev isN (t : List Nat) (f lo hi : Nat) : Prop := srt t f = 2 ∧ lo ≤ numC t f ∧ numC t f ≤ hi
theorem isW_0 {t : List Nat} {f : Nat} {w : List Nat} (h : isW t f w) : srt t f ≠ 0 := by rw [h.1]; decide
theorem isS_0 {t : List Nat} {f c : Nat} (h : isS t f c) : srt t f ≠ 0 := by rw [h.1]; decide
theorem isN_0 {t : List Nat} {f a b : Nat} (h : isN t f a b) : srt t f ≠ 0 := by rw [h.1]; decide
def gA2 (l : List (List Nat)) (k : Nat) : List Nat := l.getD k []
def wNot : List Nat := [110, 111, 116]
def wAnd : List Nat := [97, 110, 100]
def wOr : List Nat := [111, 114]
def wIf : List Nat := [105, 102]
def wTo : List Nat := [116, 111]
def wAs : List Nat := [97, 115]
def wTimes : List Nat := [116, 105, 109, 101, 115]
def wVertex : List Nat := [118, 101, 114, 116, 101, 120]
def wNode : List Nat := [110, 111, 100, 101]
def wColour : List Nat := [99, 111, 108, 111, 117, 114]
def wDegree : List Nat := [100, 101, 103, 114, 101, 101]
def wLinks : List Nat := [108, 105, 110, 107, 115]
def wTime : List Nat := [116, 105, 109, 101]
def wMood : List Nat := [109, 111, 111, 100]
def wDone : List Nat := [100, 111, 110, 101]
def wLatest : List Nat := [108, 97, 116, 101, 115, 116]
def wEdges : List Nat := [101, 100, 103, 101, 115]
def wWays : List Nat := [119, 97, 121, 115]
def wCosts : List Nat := [99, 111, 115, 116, 115]
def wBars : List Nat := [98, 97, 114, 115]
def wJoin : List Nat := [106, 111, 105, 110]
def wTie : List Nat := [116, 105, 101]
def wPaint : List Nat := [112, 97, 105, 110, 116]
def wDye : List Nat := [100, 121, 101]
/-- the parts of laws, of orders, in their order -/
def partsL (o : Bool) : List (List Nat) := if o then [wTime, wDone, wLatest, wEdges, wWays, wDegree] else [wVertex, wNode, wColour, wDegree, wLinks, wTime, wMood]
theorem isW_un {t : List Nat} {f : Nat} {a b : List Nat} (h : isW t f a) (h2 : isW t f b) : a = b := by
  have hl : a.length = b.length := h.2.1.symm.trans h2.2.1
  apply List.ext_getElem?
  intro i
  by_cases e : i < a.length
  · rw [gA_get e, gA_get (hl ▸ e), ← h.2.2 i e, ← h2.2.2 i (hl ▸ e)]
  · rw [List.getElem?_eq_none (by omega), List.getElem?_eq_none (by omega)]
/-! ===== what a text means ===== -/
def dBin (q : Nat) (a b : Den) : Den := fun env => (a env).bind (fun u => (b env).bind (fun v => comb q u v))
def dNot (a : Den) : Den := fun env => (a env).map (fun v => 1 - v)
def dAnd (q : Nat) (a b : Den) : Den := fun env => (a env).bind (fun v => if v = (if q = 29 then 0 else 1) then some v else b env)
abbrev ResT : Type := Nat ⊕ (Nat × Nat × Den)
/-- a number or a word at f -/
noncomputable def rdLeaf (t : List Nat) (o : Bool) (f pts : Nat) : ResT := by
  classical
  exact if 50 ≤ pts then .inl f else if isN t f 0 1000 then .inr (nxT t f, pts + 1, fun _ => some (numC t f : Int))
    else match (List.range (partsL o).length).find? (fun k => decide (isW t f (gA2 (partsL o) k))) with
      | none => .inl f
      | some k => if o = true ∧ k = 5 then (if isN t (nxT t f) 0 11 then .inr (nxT t (nxT t f), pts + 1, fun env => some (env (20 + numC t (nxT t f)))) else .inl (nxT t f))
          else .inr (nxT t f, pts + 1, fun env => some (env (if k = 5 then 20 else k + 1)))
def bindR (r : Option ResT) (k : Nat → Nat → Den → Option ResT) : Option ResT := match r with
  | none => none
  | some (.inl e) => some (.inl e)
  | some (.inr (f, p, d)) => k f p d
noncomputable def sgn (t : List Nat) (f : Nat) (l : List (Nat × Nat)) : Option Nat := by
  classical
  exact (l.find? (fun q => decide (isS t f q.1))).map (fun q => q.2)
def sgT : List (Nat × Nat) := [(42, 22), (47, 23), (37, 24)]
def sgA : List (Nat × Nat) := [(43, 20), (45, 21)]
def sgC : List (Nat × Nat) := [(60, 25), (62, 26), (61, 27)]
noncomputable def closeR (t : List Nat) (c f p : Nat) (d : Den) : Option ResT := by
  classical
  exact if isS t f c then some (.inr (nxT t f, p, d)) else some (.inl f)
/-- modes: 0 part, 1 term, 2 what follows a term, 3 sum, 4 what follows a sum, 5 plain, 6 both, 7 what follows, 8 test, 9 what follows -/
noncomputable def rd (t : List Nat) (o : Bool) : Nat → Nat → Nat → Nat → Nat → Den → Option ResT
  | 0, _, _, _, _, _ => none
  | n + 1, m, dp, f, p, a => by
    classical
    exact
    if m = 0 then (if isS t f 91 then (if 8 ≤ dp then some (.inl f) else bindR (rd t o n 3 (dp + 1) (nxT t f) p a) (closeR t 93)) else some (rdLeaf t o f p))
    else if m = 1 then bindR (rd t o n 0 dp f p a) (fun f1 p1 d => rd t o n 2 dp f1 p1 d)
    else if m = 2 then (match sgn t f sgT with
      | none => some (.inr (f, p, a))
      | some q => bindR (rd t o n 0 dp (nxT t f) p a) (fun f1 p1 d => rd t o n 2 dp f1 p1 (dBin q a d)))
    else if m = 3 then bindR (rd t o n 1 dp f p a) (fun f1 p1 d => rd t o n 4 dp f1 p1 d)
    else if m = 4 then (match sgn t f sgA with
      | none => some (.inr (f, p, a))
      | some q => bindR (rd t o n 1 dp (nxT t f) p a) (fun f1 p1 d => rd t o n 4 dp f1 p1 (dBin q a d)))
    else if m = 5 then (if isW t f wNot then bindR (rd t o n 5 dp (nxT t f) p a) (fun f1 p1 d => some (.inr (f1, p1, dNot d)))
      else if isS t f 40 then (if 8 ≤ dp then some (.inl f) else bindR (rd t o n 8 (dp + 1) (nxT t f) p a) (closeR t 41))
      else bindR (rd t o n 3 dp f p a) (fun f1 p1 d => match sgn t f1 sgC with
        | none => some (.inl f1)
        | some q => bindR (rd t o n 3 dp (nxT t f1) p1 a) (fun f2 p2 d2 => some (.inr (f2, p2, dBin q d d2)))))
    else if m = 6 then bindR (rd t o n 5 dp f p a) (fun f1 p1 d => rd t o n 7 dp f1 p1 d)
    else if m = 7 then (if isW t f wAnd then bindR (rd t o n 5 dp (nxT t f) p a) (fun f1 p1 d => rd t o n 7 dp f1 p1 (dAnd 29 a d)) else some (.inr (f, p, a)))
    else if m = 8 then bindR (rd t o n 6 dp f p a) (fun f1 p1 d => rd t o n 9 dp f1 p1 d)
    else (if isW t f wOr then bindR (rd t o n 6 dp (nxT t f) p a) (fun f1 p1 d => rd t o n 9 dp f1 p1 (dAnd 30 a d)) else some (.inr (f, p, a)))
