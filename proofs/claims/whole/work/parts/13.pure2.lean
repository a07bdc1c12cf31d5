/-! ===== what each call answers and does, over the plain state ===== -/
def tn (x : Int32) : Nat := x.toNatClampNeg
theorem tn_nI {n : Nat} (h : n < 2 ^ 31) : tn (nI n) = n := nI_clamp h
def wG (s : SG) (x : GC) : SG := (x, s.2)
def wTp (s : SG) (x : List Nat) : SG := (s.1, x, s.2.2)
def wU (s : SG) (x : List (Nat × Snap)) : SG := (s.1, s.2.1, x, s.2.2.2)
def wIm (s : SG) (x : Nat → Option GC) : SG := (s.1, s.2.1, s.2.2.1, x, s.2.2.2.2)
def wRf (s : SG) (x : Nat → Int32) : SG := (s.1, s.2.1, s.2.2.1, s.2.2.2.1, x, s.2.2.2.2.2)
def wSt (s : SG) (x : Int32) : SG := (s.1, s.2.1, s.2.2.1, s.2.2.2.1, s.2.2.2.2.1, x, s.2.2.2.2.2.2)
def wFa (s : SG) (x : Int32) : SG := (s.1, s.2.1, s.2.2.1, s.2.2.2.1, s.2.2.2.2.1, s.2.2.2.2.2.1, x, s.2.2.2.2.2.2.2)
def wSm (s : SG) (x : Int32) : SG := (s.1, s.2.1, s.2.2.1, s.2.2.2.1, s.2.2.2.2.1, s.2.2.2.2.2.1, s.2.2.2.2.2.2.1, x, s.2.2.2.2.2.2.2.2)
def wSp (s : SG) (x : Int32) : SG := (s.1, s.2.1, s.2.2.1, s.2.2.2.1, s.2.2.2.2.1, s.2.2.2.2.2.1, s.2.2.2.2.2.2.1, s.2.2.2.2.2.2.2.1, x, s.2.2.2.2.2.2.2.2.2)
def wDr (s : SG) (x : Option (Nat × (Nat → Nat) × (Nat → Nat))) : SG := (s.1, s.2.1, s.2.2.1, s.2.2.2.1, s.2.2.2.2.1, s.2.2.2.2.2.1, s.2.2.2.2.2.2.1, s.2.2.2.2.2.2.2.1, s.2.2.2.2.2.2.2.2.1, x)
abbrev An : Type := Int32 × SG
/-- refused by -k -/
def sNo (k : Nat) (s : SG) : An := (-(nI k), wSt (wRf s (upd (sRf s) k (sRf s k + 1))) (-(nI k)))
def sOk (a : Int32) (s : SG) : An := (a, wSt s (nI 0))
/-- answered by a call that what was told stays: refused if it is negative -/
def sTell (k : Nat) (s : SG) : An := sNo k s
abbrev inN (x : Int32) (n : Nat) : Prop := 0 ≤ x ∧ x < nI n

def gAddN (g : GC) (c : Nat) : GC := (gN g + 1, fun i => if i = gN g then c else gC g i, gE g, gV g, gY g, gK g, gS g, gT g, gL g, gF g)
def gAddV (g : GC) (c : Nat) : GC := (gN g, gC g, gE g, gV g + 1, fun i => if i = gV g then c else gY g i, fun i => if i = gV g then 0 else gK g i, gS g, gT g, gL g, gF g)
def gJoin (g : GC) (a b : Nat) : GC := (gN g, gC g, tog (gE g) (codeOf a b), gV g, gY g, gK g, gS g, gT g, gL g, gF g)
def gLink (g : GC) (a b : Nat) : GC := (gN g, gC g, gE g, gV g, gY g, fun v => if v = a then gK g a ^^^ 1 <<< b else if v = b then gK g b ^^^ 1 <<< a else gK g v, gS g, gT g, gL g, gF g)
def gPaint (g : GC) (n c : Nat) : GC := (gN g, fun i => if i = n then c else gC g i, gE g, gV g, gY g, gK g, gS g, gT g, gL g, gF g)
def gDye (g : GC) (v c : Nat) : GC := (gN g, gC g, gE g, gV g, fun i => if i = v then c else gY g i, gK g, gS g, gT g, gL g, gF g)
def gTerm (g : GC) (i x : Nat) : GC := (gN g, gC g, gE g, gV g, gY g, gK g, gS g, fun j => if j = i then x else gT g j, gL g, gF g)
def gForce (g : GC) (x : Option Nat) : GC := (gN g, gC g, gE g, gV g, gY g, gK g, gS g, gT g, gL g, x)
def gSee (g : GC) (q : List (Nat × Nat)) : GC := (gN g, gC g, gE g, gV g, gY g, gK g, q, gT g, gL g, gF g)
def gAddL (g : GC) (q : LawT) : GC := (gN g, gC g, gE g, gV g, gY g, gK g, gS g, gT g, gL g ++ [q], gF g)
def pushU (u : List (Nat × Snap)) (q : Nat × Snap) : List (Nat × Snap) := (if u.length = 16 then u.tail else u) ++ [q]
/-- an act: what it tells, the graph and what can be undone behind it -/
abbrev Act : Type := Int32 × GC × List (Nat × Snap)
noncomputable def aEdge (x y : Int32) (g : GC) (u : List (Nat × Snap)) : Act := by
  classical
  exact if x = y then (-(nI 1), g, u) else if ¬ (inN x (gN g) ∧ inN y (gN g)) then (-(nI 2), g, u) else (b2i (codeOf (tn x) (tn y) ∉ gE g), gJoin g (tn x) (tn y), pushU u (0, snapOf g))
noncomputable def aLink (x y : Int32) (g : GC) (u : List (Nat × Snap)) : Act := by
  classical
  exact if x = y then (-(nI 1), g, u) else if ¬ (inN x (gV g) ∧ inN y (gV g)) then (-(nI 2), g, u) else (b2i ((gK (gLink g (tn x) (tn y)) (tn x)).testBit (tn y) = true), gLink g (tn x) (tn y), pushU u (1, snapOf g))
noncomputable def aPaint (x y : Int32) (g : GC) (u : List (Nat × Snap)) : Act := by
  classical
  exact if ¬ inN y 6 then (-(nI 1), g, u) else if ¬ inN x (gN g) then (-(nI 2), g, u) else if gC g (tn x) = tn y then (-(nI 3), g, u) else (nI (gC g (tn x)), gPaint g (tn x) (tn y), pushU u (2, snapOf g))
noncomputable def aDye (x y : Int32) (g : GC) (u : List (Nat × Snap)) : Act := by
  classical
  exact if ¬ inN y 7 then (-(nI 1), g, u) else if ¬ inN x (gV g) then (-(nI 2), g, u) else if gY g (tn x) = tn y then (-(nI 3), g, u) else (nI (gY g (tn x)), gDye g (tn x) (tn y), pushU u (3, snapOf g))
/-- an act by a call -/
noncomputable def byAct (r : Act) (s : SG) : An := if r.1 < 0 then sNo (tn (-r.1)) s else sOk r.1 (wU (wG s r.2.1) r.2.2)
section
noncomputable def opNode (c : Int32) (s : SG) : An := by
  classical
  exact if ¬ inN c 6 then sNo 1 s else if gN (sG s) = 12 then sNo 5 s else sOk (nI (gN (sG s))) (wU (wG s (gAddN (sG s) (tn c))) [])
noncomputable def opVertex (c : Int32) (s : SG) : An := by
  classical
  exact if ¬ inN c 7 then sNo 1 s else if gV (sG s) = 5 then sNo 5 s else sOk (nI (gV (sG s))) (wU (wG s (gAddV (sG s) (tn c))) [])
noncomputable def opOf (n what : Int32) (g : GC) : Int32 := by
  classical
  exact if ¬ inN n (gN g) then -1 else if what = 0 then nI (gC g (tn n)) else if what = 1 then nI (pop (nearB (gE g) (tn n))) else if what = 2 then nI (nearB (gE g) (tn n)) else -1
/-- twins: the others of its colour that have its links, both aside -/
def twinS (g : GC) (v : Nat) (s o : Nat) : Nat := s ||| (if o ≠ v ∧ gY g o = gY g v ∧ sd (gK g o) (1 <<< v ||| 1 <<< o) = sd (gK g v) (1 <<< v ||| 1 <<< o) then 1 <<< o else 0)
def twins (g : GC) (v : Nat) : Nat := (List.range (gV g)).foldl (twinS g v) 0
noncomputable def opAt (v what : Int32) (g : GC) : Int32 := by
  classical
  exact if ¬ inN v (gV g) then -1 else if what = 0 then nI (gY g (tn v)) else if what = 1 then nI (pop (gK g (tn v))) else if what = 2 then nI (gK g (tn v)) else if what = 3 then nI (twins g (tn v)) else -1
noncomputable def opCame (i : Int32) (g : GC) : Int32 := by
  classical
  exact if inN i (gE g).length then nI (gA (gE g) (tn i)) else -1
noncomputable def opTerms (what v : Int32) (s : SG) : An := by
  classical
  exact if (what = 0 ∧ inN v 1000) ∨ (what = 1 ∧ inN v 11) ∨ (what = 2 ∧ inN v 10) then sOk (nI (gT (sG s) (tn what))) (wU (wG s (gTerm (sG s) (tn what) (tn v))) []) else sNo 1 s
/-- the four bytes of a number, the highest first -/
def bytes4 (x : Int32) : List Nat := [x.toBitVec.toNat / 2 ^ 24 % 256, x.toBitVec.toNat / 2 ^ 16 % 256, x.toBitVec.toNat / 2 ^ 8 % 256, x.toBitVec.toNat % 256]
def opFeed (a b c d e : Int32) (s : SG) : Int32 × SG := if 380 < (sTp s).length then (-1, s) else (nI ((sTp s).length + 20), wTp s (sTp s ++ (bytes4 a ++ bytes4 b ++ bytes4 c ++ bytes4 d ++ bytes4 e)))
noncomputable def opEnd (n : Int32) (s : SG) : Int32 × SG := by
  classical
  exact if n < 0 ∨ nI (sTp s).length < n then (-1, s) else (n, wTp s ((sTp s).take (tn n)))
noncomputable def opForce (x : Int32) (s : SG) : An := by
  classical
  exact if x = -1 then sOk (fInt (gF (sG s))) (wG s (gForce (sG s) none)) else if inN x (gL (sG s)).length then sOk (fInt (gF (sG s))) (wG s (gForce (sG s) (some (tn x)))) else sNo 2 s
/-- the last of those that can be undone -/
def opUndo (s : SG) : An := match (sU s).getLast? with
  | none => sNo 3 s
  | some q => sOk (nI q.1) (wU (wG s (unsnap (sG s) q.2)) (sU s).dropLast)
noncomputable def opImage (k : Int32) (s : SG) : An := by
  classical
  exact if inN k 2 then sOk (nI 0) (wIm s (fun j => if j = tn k then some (sG s) else sIm s j)) else sNo 1 s
noncomputable def opBack (k : Int32) (s : SG) : An := by
  classical
  exact if ¬ inN k 2 then sNo 1 s else match sIm s (tn k) with
    | none => sNo 2 s
    | some g => sOk (nI 0) (wU (wG s g) [])
noncomputable def opSeen (v n : Int32) (s : SG) : An := by
  classical
  exact if ¬ (inN v (gV (sG s)) ∧ inN n (gN (sG s))) then sNo 2 s else if (gS (sG s)).length = 6 then sNo 5 s else sOk (nI ((gS (sG s)).length + 1)) (wG s (gSee (sG s) (gS (sG s) ++ [(tn v, tn n)])))
def opForget (s : SG) : An := (nI (gS (sG s)).length, wG s (gSee (sG s) []))
def linkN (g : GC) : Nat := ((List.range (gV g)).foldl (fun s v => s + pop (gK g v)) 0) / 2
noncomputable def opCount (what : Int32) (s : SG) : Int32 := by
  classical
  exact if what = 0 then nI (gN (sG s)) else if what = 1 then nI (gV (sG s)) else if what = 2 then nI (gE (sG s)).length else if what = 3 then nI (linkN (sG s)) else if what = 4 then nI (gS (sG s)).length else if what = 5 then nI (gL (sG s)).length else if what = 6 then nI (sU s).length else if what = 7 then nI (sTp s).length else if what = 8 then sRf s 1 else if what = 9 then sRf s 2 else if what = 10 then sRf s 3 else if what = 11 then sRf s 5 else if what = 12 then sRf s 6 else if what = 13 then fInt (gF (sG s)) else if what = 14 then nI (gT (sG s) 0) else if what = 15 then nI (gT (sG s) 1) else if what = 16 then nI (gT (sG s) 2) else -1
/-- a row of bytes by twos: edges, how many came, how many smudges -/
def rowGo (N : Nat) : List Nat → List Nat × Nat × Nat → List Nat × Nat × Nat
  | a :: b :: t, (es, c, m) => rowGo N t (if a < N ∧ b < N ∧ a ≠ b ∧ codeOf a b ∉ es then (es ++ [codeOf a b], c + 1, m) else (es, c, m + 1))
  | [_], (es, c, m) => (es, c, m + 1)
  | [], x => x
def gEs (g : GC) (es : List Nat) : GC := (gN g, gC g, es, gV g, gY g, gK g, gS g, gT g, gL g, gF g)
def opRow (s : SG) : An := if sTp s = [] then sNo 6 s else
  let r := rowGo (gN (sG s)) (sTp s) (gE (sG s), 0, 0)
  sOk (nI r.2.1) (wSm (wU (wTp (wG s (gEs (sG s) r.1)) []) []) (nI r.2.2))
/-! ===== days on paper ===== -/
def nextS (x : Nat) : Nat := (x * 1103 + 12345) % 1000003
/-- a day: from the state of the draws, the colours and the edges -/
def dayOne (N : Nat) (x : Nat × (Nat → Nat) × List Nat) : Nat × (Nat → Nat) × List Nat :=
  let a := nextS x.1; let b := nextS a; let c := nextS b; let h := nextS c
  (h, (if h % 4 = 2 then (fun i => if i = a % N then c % 6 else x.2.1 i) else x.2.1), (if h % 4 < 2 ∧ a % N ≠ b % N then tog x.2.2 (codeOf (a % N) (b % N)) else x.2.2))
def dayN (N : Nat) : Nat → Nat × (Nat → Nat) × List Nat → Nat × (Nat → Nat) × List Nat
  | 0, x => x
  | k + 1, x => dayN N k (dayOne N x)
noncomputable def opDays (seed n : Int32) (s : SG) : An := by
  classical
  exact if ¬ (inN seed 1000001 ∧ nI 1 ≤ n ∧ n ≤ nI 60) then sNo 1 s else if gN (sG s) = 0 then sNo 3 s else
    let r := dayN (gN (sG s)) (min (tn n) (999 - gT (sG s) 0)) (tn seed, gC (sG s), gE (sG s))
    sOk (nI r.2.2.length) (wDr s (some (gN (sG s), r.2.1, fun k => nearB r.2.2 k)))
noncomputable def opDrawn (n what : Int32) (s : SG) : Int32 := by
  classical
  exact match sDr s with
    | none => -1
    | some q => if inN n q.1 ∧ what = 0 then nI (q.2.1 (tn n)) else if inN n q.1 ∧ what = 1 then nI (q.2.2 (tn n)) else -1
end
