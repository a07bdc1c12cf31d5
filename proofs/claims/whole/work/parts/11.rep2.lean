theorem cpy_0 (f g : Nat → Int32) (sp dp : Nat) : va_cpy f g sp dp 0 = g := by
  funext k
  unfold va_cpy
  rw [if_neg (by omega)]
theorem cpy_s (f g : Nat → Int32) (sp dp n : Nat) : upd (va_cpy f g sp dp n) (dp + n) (f (sp + n)) = va_cpy f g sp dp (n + 1) := by
  funext k
  rw [upd_eq]
  unfold va_cpy
  by_cases h : k = dp + n
  · rw [if_pos h, if_pos (by omega), h, show dp + n - dp = n by omega]
  · rw [if_neg h]
    by_cases h2 : dp ≤ k ∧ k < dp + n
    · rw [if_pos h2, if_pos (by omega)]
    · rw [if_neg h2, if_neg (by omega)]
/-! ===== the reference's code of a text: what a step does, what a segment computes ===== -/
def big : Int := 1000000000
def chk (v : Int) : Option Int := if -big ≤ v ∧ v ≤ big then some v else none
/-- 20 plus, minus, times, by, rest, less, more, same (27) -/
def comb (op : Nat) (a b : Int) : Option Int :=
  if op = 20 then chk (a + b) else if op = 21 then chk (a - b) else if op = 22 then chk (a * b)
  else if op = 23 then (if b = 0 then none else chk (a.tdiv b)) else if op = 24 then (if b = 0 then none else chk (a.tmod b))
  else if op = 25 then some (if a < b then 1 else 0) else if op = 26 then some (if b < a then 1 else 0) else some (if a = b then 1 else 0)
/-- one step: op, arg at k; words by env -/
def mstep (op arg : Nat → Nat) (env : Nat → Int) (x : Nat × List Int) : Option (Nat × List Int) :=
  if op x.1 = 0 then some (x.1 + 1, (arg x.1 : Int) :: x.2)
  else if op x.1 < 20 then some (x.1 + 1, env (if op x.1 = 6 then 20 + arg x.1 else op x.1) :: x.2)
  else match x.2 with
    | [] => some x
    | v :: s =>
      if op x.1 < 28 then (match s with | [] => some x | u :: s2 => (comb (op x.1) u v).map (fun z => (x.1 + 1, z :: s2)))
      else if op x.1 = 28 then some (x.1 + 1, (1 - v) :: s)
      else if v = (if op x.1 = 29 then 0 else 1) then some (arg x.1, v :: s) else some (x.1 + 1, s)
def mit (op arg : Nat → Nat) (env : Nat → Int) (last : Nat) : Nat → Nat × List Int → Option (Nat × List Int)
  | 0, x => some x
  | n + 1, x => if last ≤ x.1 then some x else (mstep op arg env x).bind (mit op arg env last n)
/-- the code from a to b computes f -/
def SegM (op arg : Nat → Nat) (a b : Nat) (f : Den) : Prop := a < b ∧ ∀ last, b ≤ last → ∀ (env : Nat → Int) (s : List Int), ∃ n, mit op arg env last n (a, s) = (f env).map (fun v => (b, v :: s))
/-- a clause of a law at the place k of the text h -/
def MClause (h : Nat → Int32) (op arg : Nat → Nat) (len k : Nat) (q : Bool × Den × Option Den) : Prop :=
  h k = (if q.1 then nI 0 else nI 1) ∧ ∃ a b t e : Nat, h (k + 3) = nI a ∧ h (k + 4) = nI b ∧ h (k + 5) = nI t ∧ h (k + 6) = nI e ∧ b ≤ len ∧ e ≤ len ∧ t ≤ len ∧ (q.1 = true → SegM op arg a b q.2.1) ∧ (match q.2.2 with | none => t = e | some f => SegM op arg t e f)
def okOp (op arg : Nat → Nat) (len : Nat) : Prop := ∀ j, j < len → op j < 31 ∧ arg j < 1001 ∧ (29 ≤ op j → j < arg j ∧ arg j ≤ len)
def MLaw (h : Nat → Int32) (q : LawT) : Prop := q.length ≤ 12 ∧ h 1 = nI q.length ∧ ∃ (op arg : Nat → Nat) (len : Nat), len ≤ 400 ∧ okOp op arg len ∧ (∀ j, j < len → op j = 0 ∨ 20 ≤ op j ∨ (1 ≤ op j ∧ op j ≤ 7)) ∧ (∀ j, j < len → h (98 + 2 * j) = nI (op j) ∧ h (98 + 2 * j + 1) = nI (arg j)) ∧ ∀ (c : Nat) (x : Bool × Den × Option Den), q[c]? = some x → MClause h op arg len (2 + 8 * c) x
def MLaws (f : Nat → Int32) (ls : List LawT) : Prop := ∀ (i : Nat) (q : LawT), ls[i]? = some q → MLaw (fun j => f (110 + 900 * i + j)) q
/-! ===== the whole plain state ===== -/
/-- what an act's undoing brings back: edges, colours, colours of vertices, links, terms -/
abbrev Snap : Type := List Nat × (Nat → Nat) × (Nat → Nat) × (Nat → Nat) × (Nat → Nat)
def snapOf (g : GC) : Snap := (gE g, gC g, gY g, gK g, gT g)
def unsnap (g : GC) (s : Snap) : GC := (gN g, s.2.1, s.1, gV g, s.2.2.1, s.2.2.2.1, gS g, s.2.2.2.2, gL g, gF g)
/-- graph and the like; tape; what can be undone; images; refusals; status; fault; smudges; stopped; the latest days -/
abbrev SG : Type := GC × List Nat × List (Nat × Snap) × (Nat → Option GC) × (Nat → Int32) × Int32 × Int32 × Int32 × Int32 × Option (Nat × (Nat → Nat) × (Nat → Nat))
def sG (s : SG) : GC := s.1
def sTp (s : SG) : List Nat := s.2.1
def sU (s : SG) : List (Nat × Snap) := s.2.2.1
def sIm (s : SG) : Nat → Option GC := s.2.2.2.1
def sRf (s : SG) : Nat → Int32 := s.2.2.2.2.1
def sSt (s : SG) : Int32 := s.2.2.2.2.2.1
def sFa (s : SG) : Int32 := s.2.2.2.2.2.2.1
def sSm (s : SG) : Int32 := s.2.2.2.2.2.2.2.1
def sSp (s : SG) : Int32 := s.2.2.2.2.2.2.2.2.1
def sDr (s : SG) : Option (Nat × (Nat → Nat) × (Nat → Nat)) := s.2.2.2.2.2.2.2.2.2
def MSnap (f : Nat → Int32) (N V : Nat) (s : Snap) : Prop := (∀ i, i < 3 → f i = nI (s.2.2.2.2 i)) ∧ (∀ i, i < N → f (3 + i) = nI (s.2.1 i)) ∧ (∀ v, v < V → f (15 + v) = nI (s.2.2.1 v)) ∧ (∀ v, v < V → f (20 + v) = nI (s.2.2.2.1 v)) ∧ f 25 = nI s.1.length ∧ (∀ k, k < s.1.length → f (26 + k) = nI (gA s.1 k))
def MUndo (f so : Nat → Int32) (n : Int32) (g : GC) (u : List (Nat × Snap)) : Prop := u.length ≤ 16 ∧ n = nI u.length ∧ ∀ (k : Nat) (q : Nat × Snap), u[k]? = some q → q.1 < 4 ∧ so k = nI q.1 ∧ MSnap (fun i => f (92 * k + i)) (gN g) (gV g) q.2 ∧ WG (unsnap g q.2)
def MTape (f : Nat → Int32) (n : Int32) (t : List Nat) : Prop := t.length ≤ 400 ∧ n = nI t.length ∧ ∀ k, k < t.length → f k = nI (gA t k) ∧ gA t k < 256
def MImg (f kp : Nat → Int32) (im : Nat → Option GC) : Prop := ∀ k, k < 2 → kp k = b2i ((im k).isSome = true) ∧ ∀ g, im k = some g → MRow (fun i => f (5510 * k + i)) g ∧ MLaws (fun i => f (5510 * k + i)) (gL g) ∧ WG g
def MDr (f : Nat → Int32) (n : Int32) (d : Option (Nat × (Nat → Nat) × (Nat → Nat))) : Prop := match d with
  | none => n = -1
  | some q => q.1 ≤ 12 ∧ n = nI q.1 ∧ ∀ k, k < q.1 → f (2 * k) = nI (q.2.1 k) ∧ f (2 * k + 1) = nI (q.2.2 k)
/-- the reference holds the plain state -/
def MInv (w : Mem) (s : SG) : Prop := (MRow (rI w 91) (sG s) ∧ MLaws (rI w 91) (gL (sG s)) ∧ WG (sG s)) ∧ MUndo (rI w 94) (rI w 95) (rI w 89 8) (sG s) (sU s) ∧ MTape (rI w 98) (rI w 89 13) (sTp s) ∧ MImg (rI w 92) (rI w 93) (sIm s) ∧ (∀ k, k < 7 → rI w 90 k = sRf s k) ∧ rI w 89 1 = sSt s ∧ rI w 89 18 = sFa s ∧ rI w 89 11 = sSm s ∧ rI w 89 64 = sSp s ∧ MDr (rI w 127) (rI w 89 68) (sDr s) ∧ rI w 89 20 = nI 0
/-- the reference's own constants: the words as numbers -/
def wcode : List Nat → Nat := fun l => l.foldl (fun x c => x * 32 + (c - 96)) 0
def mWords : List Nat := [744050872, 474245, 116801202, 139708581, 12892531, 664997, 441828]
def mOrd : List Nat := [664997, 146885, 404362868, 5381299, 755507, 139708581]
def mHeads : List Nat := [3657363, 67155]
def mActs : List Nat := [343342, 20773, 16819668, 4901]
def MConst (w : Mem) : Prop := (∀ k, k < 7 → rJ w 104 k = lN (gA mWords k)) ∧ (∀ k, k < 6 → rJ w 105 k = lN (gA mOrd k)) ∧ (∀ k, k < 2 → rJ w 106 k = lN (gA mHeads k)) ∧ (∀ k, k < 4 → rJ w 125 k = lN (gA mActs k))
