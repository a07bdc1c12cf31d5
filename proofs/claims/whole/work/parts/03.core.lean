/-! ===== THE WORLD: static cells have names 0 .. 127; a made Program at the address q is 1000 + 2 q, a made row of ints 1001 + 2 q; String constants are 900 on ===== -/
abbrev Mem : Type := (Nat → Nat → Int32) × (Nat → Nat → Int64) × (Nat → Nat → Option Nat) × List Nat × (Nat → Nat)
def rI (w : Mem) : Nat → Nat → Int32 := w.1
def rJ (w : Mem) : Nat → Nat → Int64 := w.2.1
def rR (w : Mem) : Nat → Nat → Option Nat := w.2.2.1
def rD (w : Mem) : List Nat := w.2.2.2.1
def rL (w : Mem) : Nat → Nat := w.2.2.2.2
def updJ (f : Nat → Int64) (k : Nat) (x : Int64) : Nat → Int64 := vp_updL f k x
def sI (w : Mem) (o k : Nat) (x : Int32) : Mem := (fun a => if a = o then upd (w.1 o) k x else w.1 a, w.2)
def sJ (w : Mem) (o k : Nat) (x : Int64) : Mem := (w.1, fun a => if a = o then vp_updL (w.2.1 o) k x else w.2.1 a, w.2.2)
def sR (w : Mem) (o k : Nat) (x : Option Nat) : Mem := (w.1, w.2.1, fun a => if a = o then va_up (w.2.2.1 o) k x else w.2.2.1 a, w.2.2.2)
/-- a whole row of ints, of longs anew -/
def sA (w : Mem) (o : Nat) (f : Nat → Int32) : Mem := (fun a => if a = o then f else w.1 a, w.2)
def sB (w : Mem) (o : Nat) (f : Nat → Int64) : Mem := (w.1, fun a => if a = o then f else w.2.1 a, w.2.2)
def alP (w : Mem) (q : Nat) : Mem := (fun a => if a = 1000 + 2 * q then (fun _ => 0) else w.1 a, w.2.1, fun a => if a = 1000 + 2 * q then (fun _ => none) else w.2.2.1 a, w.2.2.2.1 ++ [1000 + 2 * q], w.2.2.2.2)
def alA (w : Mem) (q n : Nat) : Mem := (fun a => if a = 1001 + 2 * q then (fun _ => 0) else w.1 a, w.2.1, w.2.2.1, w.2.2.2.1 ++ [1001 + 2 * q], fun a => if a = 1001 + 2 * q then n else w.2.2.2.2 a)
def shpL : List (Nat × Nat) := [(1, 0), (1, 2), (2, 12), (2, 12), (2, 66), (2, 5), (2, 5), (2, 6), (2, 3), (5, 6), (6, 2), (1, 2), (2, 12), (2, 12), (2, 66), (2, 5), (2, 5), (2, 6), (2, 3), (5, 6), (1, 1), (2, 16), (2, 16), (2, 16), (2, 16), (1, 7), (1, 10), (2, 400), (1, 6), (2, 96), (2, 256), (1, 4), (2, 5), (2, 60), (2, 7), (3, 64), (1, 11), (2, 5), (2, 5), (2, 5), (2, 60), (2, 60), (1, 9), (2, 5), (2, 5), (1, 3), (2, 5), (1, 5), (2, 600), (2, 5), (2, 12), (2, 12), (2, 144), (1, 8), (1, 2), (2, 12), (2, 12), (2, 66), (2, 5), (2, 5), (2, 6), (2, 3), (5, 6), (1, 1), (2, 16), (2, 16), (2, 16), (2, 16), (2, 17), (3, 20), (2, 5), (1, 2), (2, 12), (2, 12), (2, 66), (2, 5), (2, 5), (2, 6), (2, 3), (5, 6), (1, 2), (2, 12), (2, 12), (2, 66), (2, 5), (2, 5), (2, 6), (2, 3), (5, 6), (1, 12), (2, 7), (2, 5510), (2, 11020), (4, 2), (2, 1656), (2, 16), (2, 1472), (2, 16), (2, 400), (2, 96), (2, 400), (2, 400), (2, 400), (2, 400), (3, 7), (3, 6), (3, 2), (3, 13), (3, 13), (3, 400), (2, 12), (2, 5), (2, 60), (2, 5), (2, 600), (2, 5), (2, 5), (2, 5), (2, 5), (2, 5), (2, 12), (2, 12), (2, 60), (2, 60), (3, 21), (3, 4), (2, 96), (2, 24)]
def sh (w : Mem) (a : Nat) : Nat × Nat := if a < 900 then shpL.getD a (0, 0) else if a % 2 = 0 then (1, 6) else (2, rL w a)
/-- the kind of a field: 0 int, 1 boolean, 2 long, 3 a row or object at a fixed place behind its own, 4 a reference -/
def fkL : List (List (Nat × Nat)) := [[(3, 1), (3, 10), (3, 11), (3, 20), (3, 25), (3, 31), (3, 36), (3, 42), (3, 45), (3, 47), (3, 53), (3, 69), (3, 70), (0, 0), (0, 0)], [(0, 0), (3, 1), (3, 2), (3, 3), (3, 4)], [(0, 0), (3, 1), (3, 2), (0, 0), (3, 3), (0, 0), (3, 4), (3, 5), (0, 0), (3, 6), (3, 7), (0, 0), (0, 0), (3, 8), (1, 0)], [(3, 1), (4, 0), (4, 0), (0, 0), (0, 0), (0, 0), (0, 0), (0, 0)], [(3, 1), (3, 2), (3, 3), (3, 4)], [(3, 1), (3, 2), (0, 0), (0, 0), (3, 3), (3, 4), (3, 5)], [(0, 0), (0, 0), (4, 0), (4, 0)], [(3, 1), (3, 3), (1, 0), (0, 0), (0, 0)], [(4, 0), (4, 0), (4, 0), (4, 0), (3, 1), (3, 10), (3, 15), (0, 0), (0, 0), (0, 0)], [(3, 1), (3, 2)], [(3, 1), (0, 0), (0, 0), (0, 0), (0, 0), (0, 0), (0, 0)], [(3, 1), (3, 2), (3, 3), (3, 4), (3, 5), (4, 0), (4, 0), (0, 0), (0, 0), (0, 0), (1, 0)], [(0, 0), (0, 0), (3, 1), (3, 2), (3, 3), (3, 4), (3, 5), (3, 6), (0, 0), (3, 7), (3, 8), (0, 0), (3, 9), (0, 0), (0, 0), (0, 0), (0, 0), (2, 0), (0, 0), (1, 0), (1, 0), (0, 0), (3, 10), (0, 0), (3, 11), (3, 12), (0, 0), (3, 13), (3, 14), (0, 0), (0, 0), (3, 15), (3, 16), (3, 17), (0, 0), (3, 18), (3, 19), (3, 20), (1, 0), (2, 0), (2, 0), (3, 21), (3, 22), (3, 23), (3, 24), (0, 0), (3, 25), (0, 0), (3, 26), (3, 27), (3, 28), (3, 29), (3, 30), (0, 0), (0, 0), (3, 31), (3, 32), (3, 33), (3, 34), (3, 35), (3, 36), (3, 37), (0, 0), (0, 0), (0, 0), (1, 0), (2, 0), (3, 38), (0, 0)]]
def fk (ci k : Nat) : Nat × Nat := (fkL.getD ci []).getD k (0, 0)
def fN (ci : Nat) : Nat := (fkL.getD ci []).length
abbrev EV : Type := Launch × va_G × (Nat → Nat) × (Nat → ClassId) × (Nat → Prop) × (Nat → Nat)
abbrev eL (E : EV) : Launch := E.1
abbrev eD (E : EV) : va_G := E.2.1
abbrev eR (E : EV) : Nat → Nat := E.2.2.1
abbrev eC (E : EV) : Nat → ClassId := E.2.2.2.1
abbrev eA (E : EV) : Nat → Prop := E.2.2.2.2.1
abbrev eV (E : EV) : Nat → Nat := E.2.2.2.2.2
def fval (E : EV) (ci o : Nat) (f : Nat → Int32) (g : Nat → Int64) (r : Nat → Option Nat) (k : Nat) : Value :=
  if (fk ci k).1 ≤ 1 then .int (f k) else if (fk ci k).1 = 2 then .long (g k) else if (fk ci k).1 = 3 then .ref (eR E (o + (fk ci k).2)) else va_rf ((r k).map (eR E))
def mkCell (E : EV) (s : Nat × Nat) (o : Nat) (f : Nat → Int32) (g : Nat → Int64) (r : Nat → Option Nat) : va_E :=
  if s.1 = 1 then .inr (s.2, (List.range (fN s.2)).map (fval E s.2 o f g r))
  else if s.1 = 2 then .inl (eC E 0, s.2, .inl f)
  else if s.1 = 3 then .inl (eC E 1, s.2, .inr (.inl g))
  else if s.1 = 4 then .inl (eC E 2, s.2, .inl f)
  else if s.1 = 5 then .inl (eC E 3, s.2, .inr (.inr (.inr (.inr (fun i => (r i).map (eR E))))))
  else if s.1 = 6 then .inl (eC E 4, s.2, .inr (.inr (.inr (.inr (fun i => (r i).map (eR E))))))
  else .inr (0, [])
def cellOf (E : EV) (w : Mem) (o : Nat) : va_E := mkCell E (sh w o) o (rI w o) (rJ w o) (rR w o)
def nms (w : Mem) : List Nat := List.range 128 ++ rD w
def wsOf (E : EV) (w : Mem) : va_W := (nms w).map (fun k => (eR E k, cellOf E w k))
abbrev tys (E : EV) : List (ClassId × FieldType) := [(eC E 0, .int), (eC E 1, .long), (eC E 2, .boolean), (eC E 3, .object "SubgraphDesk$Program"), (eC E 4, .object "SubgraphDesk$Board")]
/-- the String constants: whose pool, where, the text, its number -/
def strT : List (String × Nat × String × Nat) := [("SubgraphDesk$Reader", 99, "join", 0), ("SubgraphDesk$Reader", 101, "tie", 1), ("SubgraphDesk$Reader", 103, "paint", 2), ("SubgraphDesk$Reader", 105, "dye", 3), ("SubgraphDesk$Runner", 53, "time", 4), ("SubgraphDesk$Runner", 61, "done", 5), ("SubgraphDesk$Runner", 62, "latest", 6), ("SubgraphDesk$Runner", 63, "edges", 7), ("SubgraphDesk$Runner", 65, "ways", 8), ("SubgraphDesk$Runner", 67, "degree", 9), ("SubgraphDesk$Ledger", 25, "vertex", 10), ("SubgraphDesk$Ledger", 33, "node", 11), ("SubgraphDesk$Ledger", 35, "colour", 12), ("SubgraphDesk$Ledger", 37, "degree", 9), ("SubgraphDesk$Ledger", 39, "links", 13), ("SubgraphDesk$Ledger", 41, "time", 4), ("SubgraphDesk$Ledger", 43, "mood", 14), ("SubgraphDesk$Reader", 92, "to", 15), ("SubgraphDesk$Reader", 94, "as", 16), ("SubgraphDesk$Reader", 107, "times", 17), ("SubgraphDesk$Reader", 70, "costs", 18), ("SubgraphDesk$Reader", 76, "bars", 19), ("SubgraphDesk$Reader", 125, "if", 20), ("SubgraphDesk$Reader", 156, "not", 21), ("SubgraphDesk$Reader", 145, "and", 22), ("SubgraphDesk$Reader", 133, "or", 23)]
def strLen : List Nat := [4, 3, 5, 3, 4, 4, 6, 5, 4, 6, 6, 4, 6, 5, 4, 2, 2, 5, 5, 4, 2, 3, 3, 2]
def strByt : List (List Int32) := [[106, 111, 105, 110], [116, 105, 101], [112, 97, 105, 110, 116], [100, 121, 101], [116, 105, 109, 101], [100, 111, 110, 101], [108, 97, 116, 101, 115, 116], [101, 100, 103, 101, 115], [119, 97, 121, 115], [100, 101, 103, 114, 101, 101], [118, 101, 114, 116, 101, 120], [110, 111, 100, 101], [99, 111, 108, 111, 117, 114], [108, 105, 110, 107, 115], [109, 111, 111, 100], [116, 111], [97, 115], [116, 105, 109, 101, 115], [99, 111, 115, 116, 115], [98, 97, 114, 115], [105, 102], [110, 111, 116], [97, 110, 100], [111, 114]]
/-- statics of the library's that the String methods read -/
def StaOK (E : EV) (U : State) : Prop := va_Z "java/lang/String" "COMPACT_STRINGS" "Z" (.int 1) (eA E) U U.heap ∧ ∃ v : Value, (v = .null ∨ ∃ q, v = .ref q) ∧ va_Z "jdk/internal/util/Preconditions" "SIOOBE_FORMATTER" "Ljava/util/function/BiFunction;" v (eA E) U U.heap
def StrOK (E : EV) (U : State) : Prop := vk_S 24 strLen strByt (fun i => eR E (900 + i)) (eV E) (eA E) U U.heap ∧ (∀ q ∈ strT, vk_R q.1 q.2.1 q.2.2.1 (eR E (900 + q.2.2.2)) U) ∧ StaOK E U
def tr (r : Nat → Nat) (v : Value) : Value := match v with
  | .ref k => .ref (r k)
  | v => v
theorem tr_cat (r : Nat → Nat) (v : Value) : (tr r v).category = v.category := by cases v <;> rfl
/-- a local that isn't known -/
abbrev un : Value := .float 0
def lvl (r : Nat → Nat) : Nat → List Value → List (Nat × Value)
  | _, [] => []
  | i, .float _ :: t => lvl r (i + 1) t
  | i, v :: t => (i, tr r v) :: lvl r (i + 1) t
abbrev XT : Type := Program × Env × Room × State × MethodId × Array Value × List Frame × Method × Code × (State → Prop)
abbrev xp (X : XT) : Program := X.1
abbrev xe (X : XT) : Env := X.2.1
abbrev xR (X : XT) : Room := X.2.2.1
abbrev xs (X : XT) : State := X.2.2.2.1
abbrev xm (X : XT) : MethodId := X.2.2.2.2.1
abbrev xa (X : XT) : Array Value := X.2.2.2.2.2.1
abbrev xb (X : XT) : List Frame := X.2.2.2.2.2.2.1
abbrev xh (X : XT) : Method := X.2.2.2.2.2.2.2.1
abbrev xc (X : XT) : Code := X.2.2.2.2.2.2.2.2.1
abbrev xZ (X : XT) : State → Prop := X.2.2.2.2.2.2.2.2.2
abbrev WX (E : EV) (X : XT) (H : Heap) (locs : List Loc) (ca sa : Nat) (g : JFrame) : Prop := W (xp X) (eL E) (xe X) (xR X) (xs X) (xm X) (xa X) (xb X) (xh X) (xc X) H locs ca sa (xZ X) g
def G0 (E : EV) (X : XT) (ca sa pc : Nat) (L st : List Value) (w : Mem) : Prop :=
  ∀ (H : Heap) (locs : List Loc) (ls : Array Slot), va_P (eD E) classes (wsOf E w) H → va_D (eA E) (wsOf E w) → va_S (eA E) (xs X).heap H locs → lv_has ls (xc X).maxLocals (lvl (eR E) 0 L) →
    WX E X H locs ca sa (F0 (xm X) pc ls (st.map (tr (eR E))))
/-- what holds of a method's walk: its bytes b, its class -/
def CX (E : EV) (X : XT) (b : ByteArray) (own : String) (nL : Nat) : Prop :=
  (xp X).tables.exec = Jvm.exec ∧ (xc X).code = b ∧ (xs X).vm.findClass own = some (xm X).cls ∧ (∀ q ∈ lw_gd, q.before (xa X) (xs X) = true) ∧ va_K (eD E) classes (tys E) (xs X) ∧ (∀ q, (xs X).heap.size ≤ q → eA E q) ∧ StrOK E (xs X) ∧ (xc X).maxLocals = nL ∧ (∀ q, eR E (1000 + 2 * q) = q ∧ eR E (1001 + 2 * q) = q)
/-- an instruction at pc, of k bytes; the next one at pc2 -/
def Dc (b : ByteArray) (pc : Nat) (i : Instr) (k pc2 : Nat) : Prop := decode b pc = .ok (i, k) ∧ pc + k = pc2
/-- a jump by off, to tgt -/
def Dj (b : ByteArray) (pc : Nat) (i : Instr) (pc2 : Nat) (off : Int) (tgt : Nat) : Prop := decode b pc = .ok (i, 3) ∧ pc + 3 = pc2 ∧ (pc : Int) + off = (tgt : Int)
section G1
variable {E : EV} {X : XT} {b : ByteArray} {own : String} {nL : Nat} {ca sa pc pc2 tgt : Nat} {L st : List Value} {w : Mem}
theorem g_iconst {n : Int} {v : Int32} (hX : CX E X b own nL) (hd : Dc b pc (.iconst n) 1 pc2) (hv : Int32.ofInt n = v) (k : G0 E X ca sa pc2 L (.int v :: st) w) : G0 E X ca sa pc L (st) w := by
  obtain ⟨hd, rfl⟩ := hd
  intro H locs ls hP hD hS hl
  exact lv_iconst (rest := st.map (tr (eR E))) hX.1 hX.2.1 hd hv (k H locs ls hP hD hS hl)
theorem g_bipush {n : Int} {v : Int32} (hX : CX E X b own nL) (hd : Dc b pc (.bipush n) 2 pc2) (hv : (Int8.ofInt n).toInt32 = v) (k : G0 E X ca sa pc2 L (.int v :: st) w) : G0 E X ca sa pc L (st) w := by
  obtain ⟨hd, rfl⟩ := hd
  intro H locs ls hP hD hS hl
  exact lv_bipush (rest := st.map (tr (eR E))) hX.1 hX.2.1 hd hv (k H locs ls hP hD hS hl)
theorem g_sipush {n : Int} {v : Int32} (hX : CX E X b own nL) (hd : Dc b pc (.sipush n) 3 pc2) (hv : (Int16.ofInt n).toInt32 = v) (k : G0 E X ca sa pc2 L (.int v :: st) w) : G0 E X ca sa pc L (st) w := by
  obtain ⟨hd, rfl⟩ := hd
  intro H locs ls hP hD hS hl
  exact lv_sipush (rest := st.map (tr (eR E))) hX.1 hX.2.1 hd hv (k H locs ls hP hD hS hl)
theorem g_lconst {n : Fin 2} {v : Int64} (hX : CX E X b own nL) (hd : Dc b pc (.lconst n) 1 pc2) (hv : Int64.ofNat (n : Nat) = v) (k : G0 E X ca sa pc2 L (.long v :: st) w) : G0 E X ca sa pc L (st) w := by
  obtain ⟨hd, rfl⟩ := hd
  intro H locs ls hP hD hS hl
  exact lv_lconst (rest := st.map (tr (eR E))) hX.1 hX.2.1 hd hv (k H locs ls hP hD hS hl)
theorem g_iadd {x y : Int32} (hX : CX E X b own nL) (hd : Dc b pc (.iadd) 1 pc2) (k : G0 E X ca sa pc2 L (.int (x + y) :: st) w) : G0 E X ca sa pc L (.int y :: .int x :: st) w := by
  obtain ⟨hd, rfl⟩ := hd
  intro H locs ls hP hD hS hl
  exact lv_iadd (rest := st.map (tr (eR E))) hX.1 hX.2.1 hd (k H locs ls hP hD hS hl)
theorem g_isub {x y : Int32} (hX : CX E X b own nL) (hd : Dc b pc (.isub) 1 pc2) (k : G0 E X ca sa pc2 L (.int (x - y) :: st) w) : G0 E X ca sa pc L (.int y :: .int x :: st) w := by
  obtain ⟨hd, rfl⟩ := hd
  intro H locs ls hP hD hS hl
  exact lv_isub (rest := st.map (tr (eR E))) hX.1 hX.2.1 hd (k H locs ls hP hD hS hl)
theorem g_imul {x y : Int32} (hX : CX E X b own nL) (hd : Dc b pc (.imul) 1 pc2) (k : G0 E X ca sa pc2 L (.int (x * y) :: st) w) : G0 E X ca sa pc L (.int y :: .int x :: st) w := by
  obtain ⟨hd, rfl⟩ := hd
  intro H locs ls hP hD hS hl
  exact lv_imul (rest := st.map (tr (eR E))) hX.1 hX.2.1 hd (k H locs ls hP hD hS hl)
theorem g_iand {x y : Int32} (hX : CX E X b own nL) (hd : Dc b pc (.iand) 1 pc2) (k : G0 E X ca sa pc2 L (.int (x &&& y) :: st) w) : G0 E X ca sa pc L (.int y :: .int x :: st) w := by
  obtain ⟨hd, rfl⟩ := hd
  intro H locs ls hP hD hS hl
  exact lv_iand (rest := st.map (tr (eR E))) hX.1 hX.2.1 hd (k H locs ls hP hD hS hl)
theorem g_ior {x y : Int32} (hX : CX E X b own nL) (hd : Dc b pc (.ior) 1 pc2) (k : G0 E X ca sa pc2 L (.int (x ||| y) :: st) w) : G0 E X ca sa pc L (.int y :: .int x :: st) w := by
  obtain ⟨hd, rfl⟩ := hd
  intro H locs ls hP hD hS hl
  exact lv_ior (rest := st.map (tr (eR E))) hX.1 hX.2.1 hd (k H locs ls hP hD hS hl)
theorem g_ixor {x y : Int32} (hX : CX E X b own nL) (hd : Dc b pc (.ixor) 1 pc2) (k : G0 E X ca sa pc2 L (.int (x ^^^ y) :: st) w) : G0 E X ca sa pc L (.int y :: .int x :: st) w := by
  obtain ⟨hd, rfl⟩ := hd
  intro H locs ls hP hD hS hl
  exact lv_ixor (rest := st.map (tr (eR E))) hX.1 hX.2.1 hd (k H locs ls hP hD hS hl)
theorem g_ishl {x y : Int32} (hX : CX E X b own nL) (hd : Dc b pc (.ishl) 1 pc2) (k : G0 E X ca sa pc2 L (.int (x <<< (y &&& 31)) :: st) w) : G0 E X ca sa pc L (.int y :: .int x :: st) w := by
  obtain ⟨hd, rfl⟩ := hd
  intro H locs ls hP hD hS hl
  exact lv_ishl (rest := st.map (tr (eR E))) hX.1 hX.2.1 hd (k H locs ls hP hD hS hl)
theorem g_ishr {x y : Int32} (hX : CX E X b own nL) (hd : Dc b pc (.ishr) 1 pc2) (k : G0 E X ca sa pc2 L (.int (x >>> (y &&& 31)) :: st) w) : G0 E X ca sa pc L (.int y :: .int x :: st) w := by
  obtain ⟨hd, rfl⟩ := hd
  intro H locs ls hP hD hS hl
  exact lv_ishr (rest := st.map (tr (eR E))) hX.1 hX.2.1 hd (k H locs ls hP hD hS hl)
theorem g_iushr {x y : Int32} (hX : CX E X b own nL) (hd : Dc b pc (.iushr) 1 pc2) (k : G0 E X ca sa pc2 L (.int ((x.toUInt32 >>> (y.toUInt32 &&& Int32.toUInt32 31)).toInt32) :: st) w) : G0 E X ca sa pc L (.int y :: .int x :: st) w := by
  obtain ⟨hd, rfl⟩ := hd
  intro H locs ls hP hD hS hl
  exact lv_iushr (rest := st.map (tr (eR E))) hX.1 hX.2.1 hd rfl (k H locs ls hP hD hS hl)
theorem g_idiv {x y : Int32} (hX : CX E X b own nL) (hd : Dc b pc (.idiv) 1 pc2) (hne : ¬ y = 0) (k : G0 E X ca sa pc2 L (.int (x / y) :: st) w) : G0 E X ca sa pc L (.int y :: .int x :: st) w := by
  obtain ⟨hd, rfl⟩ := hd
  intro H locs ls hP hD hS hl
  exact lv_idiv (rest := st.map (tr (eR E))) hX.1 hX.2.1 hd hne (k H locs ls hP hD hS hl)
theorem g_irem {x y : Int32} (hX : CX E X b own nL) (hd : Dc b pc (.irem) 1 pc2) (hne : ¬ y = 0) (k : G0 E X ca sa pc2 L (.int (x - x / y * y) :: st) w) : G0 E X ca sa pc L (.int y :: .int x :: st) w := by
  obtain ⟨hd, rfl⟩ := hd
  intro H locs ls hP hD hS hl
  exact lv_irem (rest := st.map (tr (eR E))) hX.1 hX.2.1 hd hne (k H locs ls hP hD hS hl)
theorem g_ineg {x : Int32} (hX : CX E X b own nL) (hd : Dc b pc (.ineg) 1 pc2) (k : G0 E X ca sa pc2 L (.int (-x) :: st) w) : G0 E X ca sa pc L (.int x :: st) w := by
  obtain ⟨hd, rfl⟩ := hd
  intro H locs ls hP hD hS hl
  exact lv_ineg (rest := st.map (tr (eR E))) hX.1 hX.2.1 hd (k H locs ls hP hD hS hl)
theorem g_ladd {x y : Int64} (hX : CX E X b own nL) (hd : Dc b pc (.ladd) 1 pc2) (k : G0 E X ca sa pc2 L (.long (x + y) :: st) w) : G0 E X ca sa pc L (.long y :: .long x :: st) w := by
  obtain ⟨hd, rfl⟩ := hd
  intro H locs ls hP hD hS hl
  exact lv_ladd (rest := st.map (tr (eR E))) hX.1 hX.2.1 hd (k H locs ls hP hD hS hl)
theorem g_lsub {x y : Int64} (hX : CX E X b own nL) (hd : Dc b pc (.lsub) 1 pc2) (k : G0 E X ca sa pc2 L (.long (x - y) :: st) w) : G0 E X ca sa pc L (.long y :: .long x :: st) w := by
  obtain ⟨hd, rfl⟩ := hd
  intro H locs ls hP hD hS hl
  exact lv_lsub (rest := st.map (tr (eR E))) hX.1 hX.2.1 hd (k H locs ls hP hD hS hl)
theorem g_lmul {x y : Int64} (hX : CX E X b own nL) (hd : Dc b pc (.lmul) 1 pc2) (k : G0 E X ca sa pc2 L (.long (x * y) :: st) w) : G0 E X ca sa pc L (.long y :: .long x :: st) w := by
  obtain ⟨hd, rfl⟩ := hd
  intro H locs ls hP hD hS hl
  exact lv_lmul (rest := st.map (tr (eR E))) hX.1 hX.2.1 hd (k H locs ls hP hD hS hl)
theorem g_ldiv {x y : Int64} (hX : CX E X b own nL) (hd : Dc b pc (.ldiv) 1 pc2) (hne : ¬ y = 0) (k : G0 E X ca sa pc2 L (.long (x / y) :: st) w) : G0 E X ca sa pc L (.long y :: .long x :: st) w := by
  obtain ⟨hd, rfl⟩ := hd
  intro H locs ls hP hD hS hl
  exact lv_ldiv (rest := st.map (tr (eR E))) hX.1 hX.2.1 hd hne (k H locs ls hP hD hS hl)
theorem g_lrem {x y : Int64} (hX : CX E X b own nL) (hd : Dc b pc (.lrem) 1 pc2) (hne : ¬ y = 0) (k : G0 E X ca sa pc2 L (.long (x - x / y * y) :: st) w) : G0 E X ca sa pc L (.long y :: .long x :: st) w := by
  obtain ⟨hd, rfl⟩ := hd
  intro H locs ls hP hD hS hl
  exact lv_lrem (rest := st.map (tr (eR E))) hX.1 hX.2.1 hd hne (k H locs ls hP hD hS hl)
theorem g_i2l {x : Int32} (hX : CX E X b own nL) (hd : Dc b pc (.i2l) 1 pc2) (k : G0 E X ca sa pc2 L (.long x.toInt64 :: st) w) : G0 E X ca sa pc L (.int x :: st) w := by
  obtain ⟨hd, rfl⟩ := hd
  intro H locs ls hP hD hS hl
  exact lv_i2l (rest := st.map (tr (eR E))) hX.1 hX.2.1 hd rfl (k H locs ls hP hD hS hl)
theorem g_l2i {x : Int64} (hX : CX E X b own nL) (hd : Dc b pc (.l2i) 1 pc2) (k : G0 E X ca sa pc2 L (.int x.toInt32 :: st) w) : G0 E X ca sa pc L (.long x :: st) w := by
  obtain ⟨hd, rfl⟩ := hd
  intro H locs ls hP hD hS hl
  exact lv_l2i (rest := st.map (tr (eR E))) hX.1 hX.2.1 hd rfl (k H locs ls hP hD hS hl)
theorem g_dup {v : Value} (hX : CX E X b own nL) (hd : Dc b pc (.dup) 1 pc2) (hc : v.category = 1) (k : G0 E X ca sa pc2 L (v :: v :: st) w) : G0 E X ca sa pc L (v :: st) w := by
  obtain ⟨hd, rfl⟩ := hd
  intro H locs ls hP hD hS hl
  exact lv_dup (rest := st.map (tr (eR E))) hX.1 hX.2.1 hd ((tr_cat _ _).trans hc) (k H locs ls hP hD hS hl)
theorem g_pop {v : Value} (hX : CX E X b own nL) (hd : Dc b pc (.pop) 1 pc2) (hc : v.category = 1) (k : G0 E X ca sa pc2 L (st) w) : G0 E X ca sa pc L (v :: st) w := by
  obtain ⟨hd, rfl⟩ := hd
  intro H locs ls hP hD hS hl
  exact lv_pop (rest := st.map (tr (eR E))) hX.1 hX.2.1 hd ((tr_cat _ _).trans hc) (k H locs ls hP hD hS hl)
theorem g_dup_x1 {u v : Value} (hX : CX E X b own nL) (hd : Dc b pc (.dup_x1) 1 pc2) (hu : u.category = 1) (hv : v.category = 1) (k : G0 E X ca sa pc2 L (u :: v :: u :: st) w) : G0 E X ca sa pc L (u :: v :: st) w := by
  obtain ⟨hd, rfl⟩ := hd
  intro H locs ls hP hD hS hl
  exact lv_dup_x1 (rest := st.map (tr (eR E))) hX.1 hX.2.1 hd ((tr_cat _ _).trans hu) ((tr_cat _ _).trans hv) (k H locs ls hP hD hS hl)
theorem g_dup2 {u v : Value} (hX : CX E X b own nL) (hd : Dc b pc (.dup2) 1 pc2) (hu : u.category = 1) (hv : v.category = 1) (k : G0 E X ca sa pc2 L (u :: v :: u :: v :: st) w) : G0 E X ca sa pc L (u :: v :: st) w := by
  obtain ⟨hd, rfl⟩ := hd
  intro H locs ls hP hD hS hl
  exact lv_dup2_11 (rest := st.map (tr (eR E))) hX.1 hX.2.1 hd ((tr_cat _ _).trans hu) ((tr_cat _ _).trans hv) (k H locs ls hP hD hS hl)
theorem g_dup2L {v : Value} (hX : CX E X b own nL) (hd : Dc b pc (.dup2) 1 pc2) (hc : v.category = 2) (k : G0 E X ca sa pc2 L (v :: v :: st) w) : G0 E X ca sa pc L (v :: st) w := by
  obtain ⟨hd, rfl⟩ := hd
  intro H locs ls hP hD hS hl
  exact lv_dup2_2 (rest := st.map (tr (eR E))) hX.1 hX.2.1 hd ((tr_cat _ _).trans hc) (k H locs ls hP hD hS hl)
theorem g_null (hX : CX E X b own nL) (hd : Dc b pc (.aconst_null) 1 pc2) (k : G0 E X ca sa pc2 L (.null :: st) w) : G0 E X ca sa pc L (st) w := by
  obtain ⟨hd, rfl⟩ := hd
  intro H locs ls hP hD hS hl
  exact lv_null (rest := st.map (tr (eR E))) hX.1 hX.2.1 hd (k H locs ls hP hD hS hl)
theorem g_lcmp {x y : Int64} (hX : CX E X b own nL) (hd : Dc b pc .lcmp 1 pc2) (k : G0 E X ca sa pc2 L (.int (lg_cmp x y) :: st) w) : G0 E X ca sa pc L (.long y :: .long x :: st) w := by
  obtain ⟨hd, rfl⟩ := hd
  intro H locs ls hP hD hS hl
  exact W.lcmp (rest := st.map (tr (eR E))) hX.1 hX.2.1 hd (k H locs ls hP hD hS hl)
theorem nn_of {x y : Int32} (h : ¬ ¬ x = y) : x = y := Decidable.of_not_not h
theorem g_if_eq {x : Int32} {off : Int} (hX : CX E X b own nL) (hd : Dj b pc (.ifCond .eq off) pc2 off tgt) (kt : x = 0 → G0 E X ca sa tgt L st w) (kf : ¬ (x = 0) → G0 E X ca sa pc2 L st w) : G0 E X ca sa pc L (.int x :: st) w := by
  obtain ⟨hd, rfl, ht⟩ := hd
  intro H locs ls hP hD hS hl
  exact lv_if_eq (rest := st.map (tr (eR E))) hX.1 hX.2.1 hd ht (fun h => kt (by first | exact h | exact (by simpa using h)) H locs ls hP hD hS hl) (fun h => kf (by first | exact h | exact nn_of h | exact (by simpa using h)) H locs ls hP hD hS hl)
theorem g_if_ne {x : Int32} {off : Int} (hX : CX E X b own nL) (hd : Dj b pc (.ifCond .ne off) pc2 off tgt) (kt : ¬ x = 0 → G0 E X ca sa tgt L st w) (kf : x = 0 → G0 E X ca sa pc2 L st w) : G0 E X ca sa pc L (.int x :: st) w := by
  obtain ⟨hd, rfl, ht⟩ := hd
  intro H locs ls hP hD hS hl
  exact lv_if_ne (rest := st.map (tr (eR E))) hX.1 hX.2.1 hd ht (fun h => kt (by first | exact h | exact (by simpa using h)) H locs ls hP hD hS hl) (fun h => kf (by first | exact h | exact nn_of h | exact (by simpa using h)) H locs ls hP hD hS hl)
theorem g_if_lt {x : Int32} {off : Int} (hX : CX E X b own nL) (hd : Dj b pc (.ifCond .lt off) pc2 off tgt) (kt : x < 0 → G0 E X ca sa tgt L st w) (kf : ¬ (x < 0) → G0 E X ca sa pc2 L st w) : G0 E X ca sa pc L (.int x :: st) w := by
  obtain ⟨hd, rfl, ht⟩ := hd
  intro H locs ls hP hD hS hl
  exact lv_if_lt (rest := st.map (tr (eR E))) hX.1 hX.2.1 hd ht (fun h => kt (by first | exact h | exact (by simpa using h)) H locs ls hP hD hS hl) (fun h => kf (by first | exact h | exact nn_of h | exact (by simpa using h)) H locs ls hP hD hS hl)
theorem g_if_ge {x : Int32} {off : Int} (hX : CX E X b own nL) (hd : Dj b pc (.ifCond .ge off) pc2 off tgt) (kt : 0 ≤ x → G0 E X ca sa tgt L st w) (kf : ¬ (0 ≤ x) → G0 E X ca sa pc2 L st w) : G0 E X ca sa pc L (.int x :: st) w := by
  obtain ⟨hd, rfl, ht⟩ := hd
  intro H locs ls hP hD hS hl
  exact lv_if_ge (rest := st.map (tr (eR E))) hX.1 hX.2.1 hd ht (fun h => kt (by first | exact h | exact (by simpa using h)) H locs ls hP hD hS hl) (fun h => kf (by first | exact h | exact nn_of h | exact (by simpa using h)) H locs ls hP hD hS hl)
theorem g_if_gt {x : Int32} {off : Int} (hX : CX E X b own nL) (hd : Dj b pc (.ifCond .gt off) pc2 off tgt) (kt : 0 < x → G0 E X ca sa tgt L st w) (kf : ¬ (0 < x) → G0 E X ca sa pc2 L st w) : G0 E X ca sa pc L (.int x :: st) w := by
  obtain ⟨hd, rfl, ht⟩ := hd
  intro H locs ls hP hD hS hl
  exact lv_if_gt (rest := st.map (tr (eR E))) hX.1 hX.2.1 hd ht (fun h => kt (by first | exact h | exact (by simpa using h)) H locs ls hP hD hS hl) (fun h => kf (by first | exact h | exact nn_of h | exact (by simpa using h)) H locs ls hP hD hS hl)
theorem g_if_le {x : Int32} {off : Int} (hX : CX E X b own nL) (hd : Dj b pc (.ifCond .le off) pc2 off tgt) (kt : x ≤ 0 → G0 E X ca sa tgt L st w) (kf : ¬ (x ≤ 0) → G0 E X ca sa pc2 L st w) : G0 E X ca sa pc L (.int x :: st) w := by
  obtain ⟨hd, rfl, ht⟩ := hd
  intro H locs ls hP hD hS hl
  exact lv_if_le (rest := st.map (tr (eR E))) hX.1 hX.2.1 hd ht (fun h => kt (by first | exact h | exact (by simpa using h)) H locs ls hP hD hS hl) (fun h => kf (by first | exact h | exact nn_of h | exact (by simpa using h)) H locs ls hP hD hS hl)
theorem g_icmp_eq {x y : Int32} {off : Int} (hX : CX E X b own nL) (hd : Dj b pc (.if_icmp .eq off) pc2 off tgt) (kt : x = y → G0 E X ca sa tgt L st w) (kf : ¬ (x = y) → G0 E X ca sa pc2 L st w) : G0 E X ca sa pc L (.int y :: .int x :: st) w := by
  obtain ⟨hd, rfl, ht⟩ := hd
  intro H locs ls hP hD hS hl
  exact lv_icmp_eq (rest := st.map (tr (eR E))) hX.1 hX.2.1 hd ht (fun h => kt (by first | exact h | exact (by simpa using h)) H locs ls hP hD hS hl) (fun h => kf (by first | exact h | exact nn_of h | exact (by simpa using h)) H locs ls hP hD hS hl)
theorem g_icmp_ne {x y : Int32} {off : Int} (hX : CX E X b own nL) (hd : Dj b pc (.if_icmp .ne off) pc2 off tgt) (kt : ¬ x = y → G0 E X ca sa tgt L st w) (kf : x = y → G0 E X ca sa pc2 L st w) : G0 E X ca sa pc L (.int y :: .int x :: st) w := by
  obtain ⟨hd, rfl, ht⟩ := hd
  intro H locs ls hP hD hS hl
  exact lv_icmp_ne (rest := st.map (tr (eR E))) hX.1 hX.2.1 hd ht (fun h => kt (by first | exact h | exact (by simpa using h)) H locs ls hP hD hS hl) (fun h => kf (by first | exact h | exact nn_of h | exact (by simpa using h)) H locs ls hP hD hS hl)
theorem g_icmp_lt {x y : Int32} {off : Int} (hX : CX E X b own nL) (hd : Dj b pc (.if_icmp .lt off) pc2 off tgt) (kt : x < y → G0 E X ca sa tgt L st w) (kf : ¬ (x < y) → G0 E X ca sa pc2 L st w) : G0 E X ca sa pc L (.int y :: .int x :: st) w := by
  obtain ⟨hd, rfl, ht⟩ := hd
  intro H locs ls hP hD hS hl
  exact lv_icmp_lt (rest := st.map (tr (eR E))) hX.1 hX.2.1 hd ht (fun h => kt (by first | exact h | exact (by simpa using h)) H locs ls hP hD hS hl) (fun h => kf (by first | exact h | exact nn_of h | exact (by simpa using h)) H locs ls hP hD hS hl)
theorem g_icmp_ge {x y : Int32} {off : Int} (hX : CX E X b own nL) (hd : Dj b pc (.if_icmp .ge off) pc2 off tgt) (kt : y ≤ x → G0 E X ca sa tgt L st w) (kf : ¬ (y ≤ x) → G0 E X ca sa pc2 L st w) : G0 E X ca sa pc L (.int y :: .int x :: st) w := by
  obtain ⟨hd, rfl, ht⟩ := hd
  intro H locs ls hP hD hS hl
  exact lv_icmp_ge (rest := st.map (tr (eR E))) hX.1 hX.2.1 hd ht (fun h => kt (by first | exact h | exact (by simpa using h)) H locs ls hP hD hS hl) (fun h => kf (by first | exact h | exact nn_of h | exact (by simpa using h)) H locs ls hP hD hS hl)
theorem g_icmp_gt {x y : Int32} {off : Int} (hX : CX E X b own nL) (hd : Dj b pc (.if_icmp .gt off) pc2 off tgt) (kt : y < x → G0 E X ca sa tgt L st w) (kf : ¬ (y < x) → G0 E X ca sa pc2 L st w) : G0 E X ca sa pc L (.int y :: .int x :: st) w := by
  obtain ⟨hd, rfl, ht⟩ := hd
  intro H locs ls hP hD hS hl
  exact lv_icmp_gt (rest := st.map (tr (eR E))) hX.1 hX.2.1 hd ht (fun h => kt (by first | exact h | exact (by simpa using h)) H locs ls hP hD hS hl) (fun h => kf (by first | exact h | exact nn_of h | exact (by simpa using h)) H locs ls hP hD hS hl)
theorem g_icmp_le {x y : Int32} {off : Int} (hX : CX E X b own nL) (hd : Dj b pc (.if_icmp .le off) pc2 off tgt) (kt : x ≤ y → G0 E X ca sa tgt L st w) (kf : ¬ (x ≤ y) → G0 E X ca sa pc2 L st w) : G0 E X ca sa pc L (.int y :: .int x :: st) w := by
  obtain ⟨hd, rfl, ht⟩ := hd
  intro H locs ls hP hD hS hl
  exact lv_icmp_le (rest := st.map (tr (eR E))) hX.1 hX.2.1 hd ht (fun h => kt (by first | exact h | exact (by simpa using h)) H locs ls hP hD hS hl) (fun h => kf (by first | exact h | exact nn_of h | exact (by simpa using h)) H locs ls hP hD hS hl)
theorem g_goto {off : Int} (hX : CX E X b own nL) (hd : Dj b pc (.goto off) pc2 off tgt) (k : G0 E X ca sa tgt L st w) : G0 E X ca sa pc L st w := by
  obtain ⟨hd, -, ht⟩ := hd
  intro H locs ls hP hD hS hl
  exact lv_goto hX.1 hX.2.1 hd ht (k H locs ls hP hD hS hl)
theorem g_ifnullN {off : Int} (hX : CX E X b own nL) (hd : Dj b pc (.ifnull off) pc2 off tgt) (k : G0 E X ca sa tgt L st w) : G0 E X ca sa pc L (.null :: st) w := by
  obtain ⟨hd, -, ht⟩ := hd
  intro H locs ls hP hD hS hl
  exact lv_ifnullN (rest := st.map (tr (eR E))) hX.1 hX.2.1 hd ht (k H locs ls hP hD hS hl)
theorem g_ifnull {off : Int} {o : Nat} (hX : CX E X b own nL) (hd : Dj b pc (.ifnull off) pc2 off tgt) (k : G0 E X ca sa pc2 L st w) : G0 E X ca sa pc L (.ref o :: st) w := by
  obtain ⟨hd, rfl, ht⟩ := hd
  intro H locs ls hP hD hS hl
  exact lv_ifnull (rest := st.map (tr (eR E))) (x := eR E o) hX.1 hX.2.1 hd (k H locs ls hP hD hS hl)
/-- a switch: the place that x goes to -/
theorem g_tableIn {dflt lo hi : Int} {offs : Array Int} {len : Nat} {x : Int32} {off : Int} (hX : CX E X b own nL) (hd : Dc b pc (.tableswitch dflt lo hi offs) len pc2) (h1 : ¬ x.toInt < lo) (h2 : ¬ hi < x.toInt) (ho : offs[(x.toInt - lo).toNat]? = some off) (ht : (pc : Int) + off = (tgt : Int)) (k : G0 E X ca sa tgt L st w) : G0 E X ca sa pc L (.int x :: st) w := by
  intro H locs ls hP hD hS hl
  exact lv_tableIn (rest := st.map (tr (eR E))) hX.1 hX.2.1 hd.1 h1 h2 ho ht (k H locs ls hP hD hS hl)
theorem g_tableOut {dflt lo hi : Int} {offs : Array Int} {len : Nat} {x : Int32} (hX : CX E X b own nL) (hd : Dc b pc (.tableswitch dflt lo hi offs) len pc2) (h : x.toInt < lo ∨ hi < x.toInt) (ht : (pc : Int) + dflt = (tgt : Int)) (k : G0 E X ca sa tgt L st w) : G0 E X ca sa pc L (.int x :: st) w := by
  intro H locs ls hP hD hS hl
  exact lv_tableOut (rest := st.map (tr (eR E))) hX.1 hX.2.1 hd.1 h ht (k H locs ls hP hD hS hl)
theorem g_lookup {dflt : Int} {ps : Array (Int × Int)} {len : Nat} {x : Int32} {off : Int} (hX : CX E X b own nL) (hd : Dc b pc (.lookupswitch dflt ps) len pc2) (hp : (ps.toList.zip (ps.toList.drop 1)).all (fun (a, next) => a.1 < next.1) = true) (ho : Op.lookupswitch.offset ps.toList dflt x.toInt = off) (ht : (pc : Int) + off = (tgt : Int)) (k : G0 E X ca sa tgt L st w) : G0 E X ca sa pc L (.int x :: st) w := by
  intro H locs ls hP hD hS hl
  exact lv_lookup (rest := st.map (tr (eR E))) hX.1 hX.2.1 hd.1 hp ho ht (k H locs ls hP hD hS hl)
/-- another value on top, that is the same -/
theorem g_eq {pc2 : Nat} {L2 st2 : List Value} {w2 : Mem} (hp : pc = pc2) (hL : L = L2) (hs : st = st2) (hw : w = w2) (k : G0 E X ca sa pc2 L2 st2 w2) : G0 E X ca sa pc L st w := by
  subst hp; subst hL; subst hs; subst hw; exact k
theorem g_st {st2 : List Value} (hs : st = st2) (k : G0 E X ca sa pc L st2 w) : G0 E X ca sa pc L st w := by
  subst hs; exact k
theorem g_top {v u : Value} (hs : v = u) (k : G0 E X ca sa pc L (u :: st) w) : G0 E X ca sa pc L (v :: st) w := by
  subst hs; exact k
theorem g_topi {x y : Int32} (hs : x = y) (k : G0 E X ca sa pc L (.int y :: st) w) : G0 E X ca sa pc L (.int x :: st) w := by
  subst hs; exact k
theorem g_topl {x y : Int64} (hs : x = y) (k : G0 E X ca sa pc L (.long y :: st) w) : G0 E X ca sa pc L (.long x :: st) w := by
  subst hs; exact k
theorem g_mem {w2 : Mem} (hs : w = w2) (k : G0 E X ca sa pc L st w2) : G0 E X ca sa pc L st w := by
  subst hs; exact k
theorem g_loc {L2 : List Value} (hs : L = L2) (k : G0 E X ca sa pc L2 st w) : G0 E X ca sa pc L st w := by
  subst hs; exact k
theorem lvl_mem {r : Nat → Nat} {v : Value} (hv : ∀ x, v ≠ .float x) : ∀ (L : List Value) (i k : Nat), L[k]? = some v → (i + k, tr r v) ∈ lvl r i L
  | [], _, k, h => by simp at h
  | u :: t, i, 0, h => by
    simp only [List.getElem?_cons_zero, Option.some.injEq] at h
    subst h
    cases u <;> first | (exact absurd rfl (hv _)) | exact List.mem_cons_self
  | u :: t, i, k + 1, h => by
    have h2 := lvl_mem (r := r) hv t (i + 1) k (by simpa using h)
    rw [show i + 1 + k = i + (k + 1) by omega] at h2
    cases u <;> first | exact h2 | exact List.mem_cons_of_mem _ h2
theorem lv_of {ls : Array Slot} {n : Nat} {r : Nat → Nat} {L : List Value} {v : Value} (hl : lv_has ls n (lvl r 0 L)) (k : Nat) (h : L[k]? = some v) (hv : ∀ x, v ≠ .float x) : ls[k]? = some (.val (tr r v)) := by
  have h2 := lvl_mem (r := r) hv L 0 k h
  rw [Nat.zero_add] at h2
  exact hl.2.2 _ h2
/-- what a list of locals says, another one says too, if each known one of it stands in the other -/
theorem lvl_inv {r : Nat → Nat} : ∀ (L : List Value) (i : Nat) (q : Nat × Value), q ∈ lvl r i L → ∃ (k : Nat) (v : Value), L[k]? = some v ∧ (∀ x, v ≠ .float x) ∧ q = (i + k, tr r v)
  | [], _, _, h => by simp [lvl] at h
  | u :: t, i, q, h => by
    have go : q ∈ lvl r (i + 1) t → ∃ (k : Nat) (v : Value), (u :: t)[k]? = some v ∧ (∀ x, v ≠ .float x) ∧ q = (i + k, tr r v) := fun h2 => by
      obtain ⟨k, v, h3, h4, h5⟩ := lvl_inv t (i + 1) q h2
      exact ⟨k + 1, v, by simpa using h3, h4, by rw [h5, show i + 1 + k = i + (k + 1) by omega]⟩
    cases u with
    | float x => exact go h
    | _ =>
      rcases List.mem_cons.mp h with h2 | h2
      · exact ⟨0, _, rfl, (by intro x hx; cases hx), h2⟩
      · exact go h2
theorem lv_mono {ls : Array Slot} {n : Nat} {r : Nat → Nat} {L L2 : List Value} (hl : lv_has ls n (lvl r 0 L)) (h : ∀ (k : Nat) (v : Value), (∀ x, v ≠ .float x) → L2[k]? = some v → L[k]? = some v) : lv_has ls n (lvl r 0 L2) := by
  refine ⟨hl.1, hl.2.1, fun q hq => ?_⟩
  obtain ⟨k, v, h1, h2, rfl⟩ := lvl_inv L2 0 q hq
  rw [Nat.zero_add]
  exact lv_of hl k (h k v h2 h1) h2
/-- a local forgotten -/
theorem g_fget (i : Nat) (k : G0 E X ca sa pc (L.set i un) st w) : G0 E X ca sa pc L st w := by
  intro H locs ls hP hD hS hl
  refine k H locs ls hP hD hS (lv_mono hl fun j v hv hj => ?_)
  rw [List.getElem?_set] at hj
  by_cases hij : i = j
  · subst hij
    rw [if_pos rfl] at hj
    by_cases hlt : i < L.length
    · rw [if_pos hlt] at hj
      exact absurd (Option.some.inj hj).symm (hv 0)
    · rw [if_neg hlt] at hj
      cases hj
  · rw [if_neg hij] at hj
    exact hj
/-- a store of a value of one unit -/
theorem lv_put1 {n : Nat} {r : Nat → Nat} {L : List Value} {i : Nat} {v : Value} (hprev : ∀ j u, i = j + 1 → L[j]? = some u → u.category = 1) {ls2 : Array Slot} (h : lv_has ls2 n ((i, tr r v) :: (lvl r 0 L).filter (fun q => !(q.1 == i) && !(q.1 + 1 == i && q.2.category == 2)))) : lv_has ls2 n (lvl r 0 (L.set i v)) := by
  refine ⟨h.1, h.2.1, fun q hq => ?_⟩
  obtain ⟨k, u, h1, h2, rfl⟩ := lvl_inv _ 0 q hq
  rw [Nat.zero_add]
  rw [List.getElem?_set] at h1
  by_cases hik : i = k
  · subst hik
    rw [if_pos rfl] at h1
    by_cases hlt : i < L.length
    · rw [if_pos hlt] at h1
      obtain rfl := Option.some.inj h1
      exact h.2.2 _ List.mem_cons_self
    · rw [if_neg hlt] at h1
      cases h1
  · rw [if_neg hik] at h1
    refine h.2.2 (k, tr r u) (List.mem_cons_of_mem _ (List.mem_filter.mpr ⟨by have := lvl_mem (r := r) h2 L 0 k h1; rwa [Nat.zero_add] at this, ?_⟩))
    have e1 : (k == i) = false := by simpa using (Ne.symm hik)
    simp only [e1, Bool.not_false, Bool.true_and]
    by_cases e2 : i = k + 1
    · have := hprev k u e2 h1
      rw [tr_cat, this]
      simp
    · have e3 : (k + 1 == i) = false := by simpa using (Ne.symm e2)
      simp [e3]
theorem lv_put2 {n : Nat} {r : Nat → Nat} {L : List Value} {i : Nat} {v : Value} (hprev : ∀ j u, i = j + 1 → L[j]? = some u → u.category = 1) {ls2 : Array Slot} (h : lv_has ls2 n ((i, tr r v) :: (lvl r 0 L).filter (fun q => !(q.1 == i) && (!(q.1 == i + 1) && !(q.1 + 1 == i && q.2.category == 2))))) : lv_has ls2 n (lvl r 0 ((L.set i v).set (i + 1) un)) := by
  refine ⟨h.1, h.2.1, fun q hq => ?_⟩
  obtain ⟨k, u, h1, h2, rfl⟩ := lvl_inv _ 0 q hq
  rw [Nat.zero_add]
  rw [List.getElem?_set] at h1
  by_cases hik : i + 1 = k
  · subst hik
    rw [if_pos rfl] at h1
    by_cases hlt : i + 1 < (L.set i v).length
    · rw [if_pos hlt] at h1
      exact absurd (Option.some.inj h1).symm (h2 0)
    · rw [if_neg hlt] at h1
      cases h1
  · rw [if_neg hik, List.getElem?_set] at h1
    by_cases hik2 : i = k
    · subst hik2
      rw [if_pos rfl] at h1
      by_cases hlt : i < L.length
      · rw [if_pos hlt] at h1
        obtain rfl := Option.some.inj h1
        exact h.2.2 _ List.mem_cons_self
      · rw [if_neg hlt] at h1
        cases h1
    · rw [if_neg hik2] at h1
      refine h.2.2 (k, tr r u) (List.mem_cons_of_mem _ (List.mem_filter.mpr ⟨by have := lvl_mem (r := r) h2 L 0 k h1; rwa [Nat.zero_add] at this, ?_⟩))
      have e1 : (k == i) = false := by simpa using (Ne.symm hik2)
      have e0 : (k == i + 1) = false := by simpa using (Ne.symm hik)
      simp only [e1, e0, Bool.not_false, Bool.true_and]
      by_cases e2 : i = k + 1
      · have := hprev k u e2 h1
        rw [tr_cat, this]
        simp
      · have e3 : (k + 1 == i) = false := by simpa using (Ne.symm e2)
        simp [e3]
theorem g_iload0 {t : List Value} {x : Int32} (hX : CX E X b own nL) (hd : Dc b pc (.iload_n 0) 1 pc2) (k : G0 E X ca sa pc2 (.int x :: t) (.int x :: st) w) : G0 E X ca sa pc (.int x :: t) st w := by
  obtain ⟨hd, rfl⟩ := hd
  intro H locs ls hP hD hS hl
  exact lv_iload_n (rest := st.map (tr (eR E))) hX.1 hX.2.1 hd rfl (lv_of hl 0 rfl (by intro z hz; cases hz)) (k H locs ls hP hD hS hl)
theorem g_lload0 {t : List Value} {x : Int64} (hX : CX E X b own nL) (hd : Dc b pc (.lload_n 0) 1 pc2) (k : G0 E X ca sa pc2 (.long x :: t) (.long x :: st) w) : G0 E X ca sa pc (.long x :: t) st w := by
  obtain ⟨hd, rfl⟩ := hd
  intro H locs ls hP hD hS hl
  exact lv_lload_n (rest := st.map (tr (eR E))) hX.1 hX.2.1 hd rfl (lv_of hl 0 rfl (by intro z hz; cases hz)) (k H locs ls hP hD hS hl)
theorem g_aload0 {t : List Value} {x : Nat} (hX : CX E X b own nL) (hd : Dc b pc (.aload_n 0) 1 pc2) (k : G0 E X ca sa pc2 (.ref x :: t) (.ref x :: st) w) : G0 E X ca sa pc (.ref x :: t) st w := by
  obtain ⟨hd, rfl⟩ := hd
  intro H locs ls hP hD hS hl
  exact lv_aload_n (rest := st.map (tr (eR E))) hX.1 hX.2.1 hd rfl (lv_of hl 0 rfl (by intro z hz; cases hz)) (k H locs ls hP hD hS hl)
theorem g_aloadN0 {t : List Value}  (hX : CX E X b own nL) (hd : Dc b pc (.aload_n 0) 1 pc2) (k : G0 E X ca sa pc2 (.null :: t) (.null :: st) w) : G0 E X ca sa pc (.null :: t) st w := by
  obtain ⟨hd, rfl⟩ := hd
  intro H locs ls hP hD hS hl
  exact lv_aload_nN (rest := st.map (tr (eR E))) hX.1 hX.2.1 hd rfl (lv_of hl 0 rfl (by intro z hz; cases hz)) (k H locs ls hP hD hS hl)
theorem g_istore0 {v : Value} {t : List Value} {x : Int32} (hX : CX E X b own nL) (hd : Dc b pc (.istore_n 0) 1 pc2) (hn : 0 < nL) (k : G0 E X ca sa pc2 (.int x :: t) st w) : G0 E X ca sa pc (v :: t) (.int x :: st) w := by
  obtain ⟨hd, rfl⟩ := hd
  intro H locs ls hP hD hS hl
  exact lv_istore_n (rest := st.map (tr (eR E))) hX.1 hX.2.1 hd rfl hl (by rw [hX.2.2.2.2.2.2.2.1]; exact hn) rfl (fun ls2 hl2 => k H locs ls2 hP hD hS (lv_put1 (r := eR E) (v := .int x) (L := v :: t) (by intro j u h1; cases h1) hl2))
theorem g_astore0 {v : Value} {t : List Value} {x : Nat} (hX : CX E X b own nL) (hd : Dc b pc (.astore_n 0) 1 pc2) (hn : 0 < nL) (k : G0 E X ca sa pc2 (.ref x :: t) st w) : G0 E X ca sa pc (v :: t) (.ref x :: st) w := by
  obtain ⟨hd, rfl⟩ := hd
  intro H locs ls hP hD hS hl
  exact lv_astore_n (rest := st.map (tr (eR E))) hX.1 hX.2.1 hd rfl hl (by rw [hX.2.2.2.2.2.2.2.1]; exact hn) rfl (fun ls2 hl2 => k H locs ls2 hP hD hS (lv_put1 (r := eR E) (v := .ref x) (L := v :: t) (by intro j u h1; cases h1) hl2))
theorem g_astoreN0 {v : Value} {t : List Value}  (hX : CX E X b own nL) (hd : Dc b pc (.astore_n 0) 1 pc2) (hn : 0 < nL) (k : G0 E X ca sa pc2 (.null :: t) st w) : G0 E X ca sa pc (v :: t) (.null :: st) w := by
  obtain ⟨hd, rfl⟩ := hd
  intro H locs ls hP hD hS hl
  exact lv_astore_nN (rest := st.map (tr (eR E))) hX.1 hX.2.1 hd rfl hl (by rw [hX.2.2.2.2.2.2.2.1]; exact hn) rfl (fun ls2 hl2 => k H locs ls2 hP hD hS (lv_put1 (r := eR E) (v := .null) (L := v :: t) (by intro j u h1; cases h1) hl2))
theorem g_lstore0 {v v2 : Value} {t : List Value} {x : Int64} (hX : CX E X b own nL) (hd : Dc b pc (.lstore_n 0) 1 pc2) (hn : 1 < nL) (k : G0 E X ca sa pc2 (.long x :: un :: t) st w) : G0 E X ca sa pc (v :: v2 :: t) (.long x :: st) w := by
  obtain ⟨hd, rfl⟩ := hd
  intro H locs ls hP hD hS hl
  exact lv_lstore_n (rest := st.map (tr (eR E))) hX.1 hX.2.1 hd rfl hl (by rw [hX.2.2.2.2.2.2.2.1]; exact hn) rfl (fun ls2 hl2 => k H locs ls2 hP hD hS (lv_put2 (r := eR E) (v := .long x) (L := v :: v2 :: t) (by intro j u h1; cases h1) hl2))
theorem g_iinc0 {t : List Value} {x v : Int32} {n : Int} (hX : CX E X b own nL) (hd : Dc b pc (.iinc 0 n) 3 pc2) (hv : x + Int32.ofInt n = v) (hn : 0 < nL) (k : G0 E X ca sa pc2 (.int v :: t) st w) : G0 E X ca sa pc (.int x :: t) st w := by
  obtain ⟨hd, rfl⟩ := hd
  intro H locs ls hP hD hS hl
  have hm := lvl_mem (r := eR E) (v := .int x) (by intro z hz; cases hz) (.int x :: t) 0 0 rfl
  rw [Nat.zero_add] at hm
  obtain ⟨k9, hk9⟩ := List.getElem?_of_mem hm
  exact lv_iinc (rest := st.map (tr (eR E))) hX.1 hX.2.1 hd hl hk9 hv (by rw [hX.2.2.2.2.2.2.2.1]; exact hn) rfl (fun ls2 hl2 => k H locs ls2 hP hD hS (lv_put1 (r := eR E) (v := .int v) (L := .int x :: t) (by intro j u h1; cases h1) hl2))
theorem g_iload1 {a0 : Value} {t : List Value} {x : Int32} (hX : CX E X b own nL) (hd : Dc b pc (.iload_n 1) 1 pc2) (k : G0 E X ca sa pc2 (a0 :: .int x :: t) (.int x :: st) w) : G0 E X ca sa pc (a0 :: .int x :: t) st w := by
  obtain ⟨hd, rfl⟩ := hd
  intro H locs ls hP hD hS hl
  exact lv_iload_n (rest := st.map (tr (eR E))) hX.1 hX.2.1 hd rfl (lv_of hl 1 rfl (by intro z hz; cases hz)) (k H locs ls hP hD hS hl)
theorem g_lload1 {a0 : Value} {t : List Value} {x : Int64} (hX : CX E X b own nL) (hd : Dc b pc (.lload_n 1) 1 pc2) (k : G0 E X ca sa pc2 (a0 :: .long x :: t) (.long x :: st) w) : G0 E X ca sa pc (a0 :: .long x :: t) st w := by
  obtain ⟨hd, rfl⟩ := hd
  intro H locs ls hP hD hS hl
  exact lv_lload_n (rest := st.map (tr (eR E))) hX.1 hX.2.1 hd rfl (lv_of hl 1 rfl (by intro z hz; cases hz)) (k H locs ls hP hD hS hl)
theorem g_aload1 {a0 : Value} {t : List Value} {x : Nat} (hX : CX E X b own nL) (hd : Dc b pc (.aload_n 1) 1 pc2) (k : G0 E X ca sa pc2 (a0 :: .ref x :: t) (.ref x :: st) w) : G0 E X ca sa pc (a0 :: .ref x :: t) st w := by
  obtain ⟨hd, rfl⟩ := hd
  intro H locs ls hP hD hS hl
  exact lv_aload_n (rest := st.map (tr (eR E))) hX.1 hX.2.1 hd rfl (lv_of hl 1 rfl (by intro z hz; cases hz)) (k H locs ls hP hD hS hl)
theorem g_aloadN1 {a0 : Value} {t : List Value}  (hX : CX E X b own nL) (hd : Dc b pc (.aload_n 1) 1 pc2) (k : G0 E X ca sa pc2 (a0 :: .null :: t) (.null :: st) w) : G0 E X ca sa pc (a0 :: .null :: t) st w := by
  obtain ⟨hd, rfl⟩ := hd
  intro H locs ls hP hD hS hl
  exact lv_aload_nN (rest := st.map (tr (eR E))) hX.1 hX.2.1 hd rfl (lv_of hl 1 rfl (by intro z hz; cases hz)) (k H locs ls hP hD hS hl)
theorem g_istore1 {a0 : Value} {v : Value} {t : List Value} {x : Int32} (hX : CX E X b own nL) (hd : Dc b pc (.istore_n 1) 1 pc2) (hp : a0.category = 1) (hn : 1 < nL) (k : G0 E X ca sa pc2 (a0 :: .int x :: t) st w) : G0 E X ca sa pc (a0 :: v :: t) (.int x :: st) w := by
  obtain ⟨hd, rfl⟩ := hd
  intro H locs ls hP hD hS hl
  exact lv_istore_n (rest := st.map (tr (eR E))) hX.1 hX.2.1 hd rfl hl (by rw [hX.2.2.2.2.2.2.2.1]; exact hn) rfl (fun ls2 hl2 => k H locs ls2 hP hD hS (lv_put1 (r := eR E) (v := .int x) (L := a0 :: v :: t) (by intro j u h1 h2; cases h1; cases h2; exact hp) hl2))
theorem g_astore1 {a0 : Value} {v : Value} {t : List Value} {x : Nat} (hX : CX E X b own nL) (hd : Dc b pc (.astore_n 1) 1 pc2) (hp : a0.category = 1) (hn : 1 < nL) (k : G0 E X ca sa pc2 (a0 :: .ref x :: t) st w) : G0 E X ca sa pc (a0 :: v :: t) (.ref x :: st) w := by
  obtain ⟨hd, rfl⟩ := hd
  intro H locs ls hP hD hS hl
  exact lv_astore_n (rest := st.map (tr (eR E))) hX.1 hX.2.1 hd rfl hl (by rw [hX.2.2.2.2.2.2.2.1]; exact hn) rfl (fun ls2 hl2 => k H locs ls2 hP hD hS (lv_put1 (r := eR E) (v := .ref x) (L := a0 :: v :: t) (by intro j u h1 h2; cases h1; cases h2; exact hp) hl2))
theorem g_astoreN1 {a0 : Value} {v : Value} {t : List Value}  (hX : CX E X b own nL) (hd : Dc b pc (.astore_n 1) 1 pc2) (hp : a0.category = 1) (hn : 1 < nL) (k : G0 E X ca sa pc2 (a0 :: .null :: t) st w) : G0 E X ca sa pc (a0 :: v :: t) (.null :: st) w := by
  obtain ⟨hd, rfl⟩ := hd
  intro H locs ls hP hD hS hl
  exact lv_astore_nN (rest := st.map (tr (eR E))) hX.1 hX.2.1 hd rfl hl (by rw [hX.2.2.2.2.2.2.2.1]; exact hn) rfl (fun ls2 hl2 => k H locs ls2 hP hD hS (lv_put1 (r := eR E) (v := .null) (L := a0 :: v :: t) (by intro j u h1 h2; cases h1; cases h2; exact hp) hl2))
theorem g_lstore1 {a0 : Value} {v v2 : Value} {t : List Value} {x : Int64} (hX : CX E X b own nL) (hd : Dc b pc (.lstore_n 1) 1 pc2) (hp : a0.category = 1) (hn : 2 < nL) (k : G0 E X ca sa pc2 (a0 :: .long x :: un :: t) st w) : G0 E X ca sa pc (a0 :: v :: v2 :: t) (.long x :: st) w := by
  obtain ⟨hd, rfl⟩ := hd
  intro H locs ls hP hD hS hl
  exact lv_lstore_n (rest := st.map (tr (eR E))) hX.1 hX.2.1 hd rfl hl (by rw [hX.2.2.2.2.2.2.2.1]; exact hn) rfl (fun ls2 hl2 => k H locs ls2 hP hD hS (lv_put2 (r := eR E) (v := .long x) (L := a0 :: v :: v2 :: t) (by intro j u h1 h2; cases h1; cases h2; exact hp) hl2))
theorem g_iinc1 {a0 : Value} {t : List Value} {x v : Int32} {n : Int} (hX : CX E X b own nL) (hd : Dc b pc (.iinc 1 n) 3 pc2) (hv : x + Int32.ofInt n = v) (hp : a0.category = 1) (hn : 1 < nL) (k : G0 E X ca sa pc2 (a0 :: .int v :: t) st w) : G0 E X ca sa pc (a0 :: .int x :: t) st w := by
  obtain ⟨hd, rfl⟩ := hd
  intro H locs ls hP hD hS hl
  have hm := lvl_mem (r := eR E) (v := .int x) (by intro z hz; cases hz) (a0 :: .int x :: t) 0 1 rfl
  rw [Nat.zero_add] at hm
  obtain ⟨k9, hk9⟩ := List.getElem?_of_mem hm
  exact lv_iinc (rest := st.map (tr (eR E))) hX.1 hX.2.1 hd hl hk9 hv (by rw [hX.2.2.2.2.2.2.2.1]; exact hn) rfl (fun ls2 hl2 => k H locs ls2 hP hD hS (lv_put1 (r := eR E) (v := .int v) (L := a0 :: .int x :: t) (by intro j u h1 h2; cases h1; cases h2; exact hp) hl2))
theorem g_iload2 {a0 a1 : Value} {t : List Value} {x : Int32} (hX : CX E X b own nL) (hd : Dc b pc (.iload_n 2) 1 pc2) (k : G0 E X ca sa pc2 (a0 :: a1 :: .int x :: t) (.int x :: st) w) : G0 E X ca sa pc (a0 :: a1 :: .int x :: t) st w := by
  obtain ⟨hd, rfl⟩ := hd
  intro H locs ls hP hD hS hl
  exact lv_iload_n (rest := st.map (tr (eR E))) hX.1 hX.2.1 hd rfl (lv_of hl 2 rfl (by intro z hz; cases hz)) (k H locs ls hP hD hS hl)
theorem g_lload2 {a0 a1 : Value} {t : List Value} {x : Int64} (hX : CX E X b own nL) (hd : Dc b pc (.lload_n 2) 1 pc2) (k : G0 E X ca sa pc2 (a0 :: a1 :: .long x :: t) (.long x :: st) w) : G0 E X ca sa pc (a0 :: a1 :: .long x :: t) st w := by
  obtain ⟨hd, rfl⟩ := hd
  intro H locs ls hP hD hS hl
  exact lv_lload_n (rest := st.map (tr (eR E))) hX.1 hX.2.1 hd rfl (lv_of hl 2 rfl (by intro z hz; cases hz)) (k H locs ls hP hD hS hl)
theorem g_aload2 {a0 a1 : Value} {t : List Value} {x : Nat} (hX : CX E X b own nL) (hd : Dc b pc (.aload_n 2) 1 pc2) (k : G0 E X ca sa pc2 (a0 :: a1 :: .ref x :: t) (.ref x :: st) w) : G0 E X ca sa pc (a0 :: a1 :: .ref x :: t) st w := by
  obtain ⟨hd, rfl⟩ := hd
  intro H locs ls hP hD hS hl
  exact lv_aload_n (rest := st.map (tr (eR E))) hX.1 hX.2.1 hd rfl (lv_of hl 2 rfl (by intro z hz; cases hz)) (k H locs ls hP hD hS hl)
theorem g_aloadN2 {a0 a1 : Value} {t : List Value}  (hX : CX E X b own nL) (hd : Dc b pc (.aload_n 2) 1 pc2) (k : G0 E X ca sa pc2 (a0 :: a1 :: .null :: t) (.null :: st) w) : G0 E X ca sa pc (a0 :: a1 :: .null :: t) st w := by
  obtain ⟨hd, rfl⟩ := hd
  intro H locs ls hP hD hS hl
  exact lv_aload_nN (rest := st.map (tr (eR E))) hX.1 hX.2.1 hd rfl (lv_of hl 2 rfl (by intro z hz; cases hz)) (k H locs ls hP hD hS hl)
theorem g_istore2 {a0 a1 : Value} {v : Value} {t : List Value} {x : Int32} (hX : CX E X b own nL) (hd : Dc b pc (.istore_n 2) 1 pc2) (hp : a1.category = 1) (hn : 2 < nL) (k : G0 E X ca sa pc2 (a0 :: a1 :: .int x :: t) st w) : G0 E X ca sa pc (a0 :: a1 :: v :: t) (.int x :: st) w := by
  obtain ⟨hd, rfl⟩ := hd
  intro H locs ls hP hD hS hl
  exact lv_istore_n (rest := st.map (tr (eR E))) hX.1 hX.2.1 hd rfl hl (by rw [hX.2.2.2.2.2.2.2.1]; exact hn) rfl (fun ls2 hl2 => k H locs ls2 hP hD hS (lv_put1 (r := eR E) (v := .int x) (L := a0 :: a1 :: v :: t) (by intro j u h1 h2; cases h1; cases h2; exact hp) hl2))
theorem g_astore2 {a0 a1 : Value} {v : Value} {t : List Value} {x : Nat} (hX : CX E X b own nL) (hd : Dc b pc (.astore_n 2) 1 pc2) (hp : a1.category = 1) (hn : 2 < nL) (k : G0 E X ca sa pc2 (a0 :: a1 :: .ref x :: t) st w) : G0 E X ca sa pc (a0 :: a1 :: v :: t) (.ref x :: st) w := by
  obtain ⟨hd, rfl⟩ := hd
  intro H locs ls hP hD hS hl
  exact lv_astore_n (rest := st.map (tr (eR E))) hX.1 hX.2.1 hd rfl hl (by rw [hX.2.2.2.2.2.2.2.1]; exact hn) rfl (fun ls2 hl2 => k H locs ls2 hP hD hS (lv_put1 (r := eR E) (v := .ref x) (L := a0 :: a1 :: v :: t) (by intro j u h1 h2; cases h1; cases h2; exact hp) hl2))
theorem g_astoreN2 {a0 a1 : Value} {v : Value} {t : List Value}  (hX : CX E X b own nL) (hd : Dc b pc (.astore_n 2) 1 pc2) (hp : a1.category = 1) (hn : 2 < nL) (k : G0 E X ca sa pc2 (a0 :: a1 :: .null :: t) st w) : G0 E X ca sa pc (a0 :: a1 :: v :: t) (.null :: st) w := by
  obtain ⟨hd, rfl⟩ := hd
  intro H locs ls hP hD hS hl
  exact lv_astore_nN (rest := st.map (tr (eR E))) hX.1 hX.2.1 hd rfl hl (by rw [hX.2.2.2.2.2.2.2.1]; exact hn) rfl (fun ls2 hl2 => k H locs ls2 hP hD hS (lv_put1 (r := eR E) (v := .null) (L := a0 :: a1 :: v :: t) (by intro j u h1 h2; cases h1; cases h2; exact hp) hl2))
theorem g_lstore2 {a0 a1 : Value} {v v2 : Value} {t : List Value} {x : Int64} (hX : CX E X b own nL) (hd : Dc b pc (.lstore_n 2) 1 pc2) (hp : a1.category = 1) (hn : 3 < nL) (k : G0 E X ca sa pc2 (a0 :: a1 :: .long x :: un :: t) st w) : G0 E X ca sa pc (a0 :: a1 :: v :: v2 :: t) (.long x :: st) w := by
  obtain ⟨hd, rfl⟩ := hd
  intro H locs ls hP hD hS hl
  exact lv_lstore_n (rest := st.map (tr (eR E))) hX.1 hX.2.1 hd rfl hl (by rw [hX.2.2.2.2.2.2.2.1]; exact hn) rfl (fun ls2 hl2 => k H locs ls2 hP hD hS (lv_put2 (r := eR E) (v := .long x) (L := a0 :: a1 :: v :: v2 :: t) (by intro j u h1 h2; cases h1; cases h2; exact hp) hl2))
theorem g_iinc2 {a0 a1 : Value} {t : List Value} {x v : Int32} {n : Int} (hX : CX E X b own nL) (hd : Dc b pc (.iinc 2 n) 3 pc2) (hv : x + Int32.ofInt n = v) (hp : a1.category = 1) (hn : 2 < nL) (k : G0 E X ca sa pc2 (a0 :: a1 :: .int v :: t) st w) : G0 E X ca sa pc (a0 :: a1 :: .int x :: t) st w := by
  obtain ⟨hd, rfl⟩ := hd
  intro H locs ls hP hD hS hl
  have hm := lvl_mem (r := eR E) (v := .int x) (by intro z hz; cases hz) (a0 :: a1 :: .int x :: t) 0 2 rfl
  rw [Nat.zero_add] at hm
  obtain ⟨k9, hk9⟩ := List.getElem?_of_mem hm
  exact lv_iinc (rest := st.map (tr (eR E))) hX.1 hX.2.1 hd hl hk9 hv (by rw [hX.2.2.2.2.2.2.2.1]; exact hn) rfl (fun ls2 hl2 => k H locs ls2 hP hD hS (lv_put1 (r := eR E) (v := .int v) (L := a0 :: a1 :: .int x :: t) (by intro j u h1 h2; cases h1; cases h2; exact hp) hl2))
theorem g_iload3 {a0 a1 a2 : Value} {t : List Value} {x : Int32} (hX : CX E X b own nL) (hd : Dc b pc (.iload_n 3) 1 pc2) (k : G0 E X ca sa pc2 (a0 :: a1 :: a2 :: .int x :: t) (.int x :: st) w) : G0 E X ca sa pc (a0 :: a1 :: a2 :: .int x :: t) st w := by
  obtain ⟨hd, rfl⟩ := hd
  intro H locs ls hP hD hS hl
  exact lv_iload_n (rest := st.map (tr (eR E))) hX.1 hX.2.1 hd rfl (lv_of hl 3 rfl (by intro z hz; cases hz)) (k H locs ls hP hD hS hl)
theorem g_lload3 {a0 a1 a2 : Value} {t : List Value} {x : Int64} (hX : CX E X b own nL) (hd : Dc b pc (.lload_n 3) 1 pc2) (k : G0 E X ca sa pc2 (a0 :: a1 :: a2 :: .long x :: t) (.long x :: st) w) : G0 E X ca sa pc (a0 :: a1 :: a2 :: .long x :: t) st w := by
  obtain ⟨hd, rfl⟩ := hd
  intro H locs ls hP hD hS hl
  exact lv_lload_n (rest := st.map (tr (eR E))) hX.1 hX.2.1 hd rfl (lv_of hl 3 rfl (by intro z hz; cases hz)) (k H locs ls hP hD hS hl)
theorem g_aload3 {a0 a1 a2 : Value} {t : List Value} {x : Nat} (hX : CX E X b own nL) (hd : Dc b pc (.aload_n 3) 1 pc2) (k : G0 E X ca sa pc2 (a0 :: a1 :: a2 :: .ref x :: t) (.ref x :: st) w) : G0 E X ca sa pc (a0 :: a1 :: a2 :: .ref x :: t) st w := by
  obtain ⟨hd, rfl⟩ := hd
  intro H locs ls hP hD hS hl
  exact lv_aload_n (rest := st.map (tr (eR E))) hX.1 hX.2.1 hd rfl (lv_of hl 3 rfl (by intro z hz; cases hz)) (k H locs ls hP hD hS hl)
theorem g_aloadN3 {a0 a1 a2 : Value} {t : List Value}  (hX : CX E X b own nL) (hd : Dc b pc (.aload_n 3) 1 pc2) (k : G0 E X ca sa pc2 (a0 :: a1 :: a2 :: .null :: t) (.null :: st) w) : G0 E X ca sa pc (a0 :: a1 :: a2 :: .null :: t) st w := by
  obtain ⟨hd, rfl⟩ := hd
  intro H locs ls hP hD hS hl
  exact lv_aload_nN (rest := st.map (tr (eR E))) hX.1 hX.2.1 hd rfl (lv_of hl 3 rfl (by intro z hz; cases hz)) (k H locs ls hP hD hS hl)
theorem g_istore3 {a0 a1 a2 : Value} {v : Value} {t : List Value} {x : Int32} (hX : CX E X b own nL) (hd : Dc b pc (.istore_n 3) 1 pc2) (hp : a2.category = 1) (hn : 3 < nL) (k : G0 E X ca sa pc2 (a0 :: a1 :: a2 :: .int x :: t) st w) : G0 E X ca sa pc (a0 :: a1 :: a2 :: v :: t) (.int x :: st) w := by
  obtain ⟨hd, rfl⟩ := hd
  intro H locs ls hP hD hS hl
  exact lv_istore_n (rest := st.map (tr (eR E))) hX.1 hX.2.1 hd rfl hl (by rw [hX.2.2.2.2.2.2.2.1]; exact hn) rfl (fun ls2 hl2 => k H locs ls2 hP hD hS (lv_put1 (r := eR E) (v := .int x) (L := a0 :: a1 :: a2 :: v :: t) (by intro j u h1 h2; cases h1; cases h2; exact hp) hl2))
theorem g_astore3 {a0 a1 a2 : Value} {v : Value} {t : List Value} {x : Nat} (hX : CX E X b own nL) (hd : Dc b pc (.astore_n 3) 1 pc2) (hp : a2.category = 1) (hn : 3 < nL) (k : G0 E X ca sa pc2 (a0 :: a1 :: a2 :: .ref x :: t) st w) : G0 E X ca sa pc (a0 :: a1 :: a2 :: v :: t) (.ref x :: st) w := by
  obtain ⟨hd, rfl⟩ := hd
  intro H locs ls hP hD hS hl
  exact lv_astore_n (rest := st.map (tr (eR E))) hX.1 hX.2.1 hd rfl hl (by rw [hX.2.2.2.2.2.2.2.1]; exact hn) rfl (fun ls2 hl2 => k H locs ls2 hP hD hS (lv_put1 (r := eR E) (v := .ref x) (L := a0 :: a1 :: a2 :: v :: t) (by intro j u h1 h2; cases h1; cases h2; exact hp) hl2))
theorem g_astoreN3 {a0 a1 a2 : Value} {v : Value} {t : List Value}  (hX : CX E X b own nL) (hd : Dc b pc (.astore_n 3) 1 pc2) (hp : a2.category = 1) (hn : 3 < nL) (k : G0 E X ca sa pc2 (a0 :: a1 :: a2 :: .null :: t) st w) : G0 E X ca sa pc (a0 :: a1 :: a2 :: v :: t) (.null :: st) w := by
  obtain ⟨hd, rfl⟩ := hd
  intro H locs ls hP hD hS hl
  exact lv_astore_nN (rest := st.map (tr (eR E))) hX.1 hX.2.1 hd rfl hl (by rw [hX.2.2.2.2.2.2.2.1]; exact hn) rfl (fun ls2 hl2 => k H locs ls2 hP hD hS (lv_put1 (r := eR E) (v := .null) (L := a0 :: a1 :: a2 :: v :: t) (by intro j u h1 h2; cases h1; cases h2; exact hp) hl2))
theorem g_lstore3 {a0 a1 a2 : Value} {v v2 : Value} {t : List Value} {x : Int64} (hX : CX E X b own nL) (hd : Dc b pc (.lstore_n 3) 1 pc2) (hp : a2.category = 1) (hn : 4 < nL) (k : G0 E X ca sa pc2 (a0 :: a1 :: a2 :: .long x :: un :: t) st w) : G0 E X ca sa pc (a0 :: a1 :: a2 :: v :: v2 :: t) (.long x :: st) w := by
  obtain ⟨hd, rfl⟩ := hd
  intro H locs ls hP hD hS hl
  exact lv_lstore_n (rest := st.map (tr (eR E))) hX.1 hX.2.1 hd rfl hl (by rw [hX.2.2.2.2.2.2.2.1]; exact hn) rfl (fun ls2 hl2 => k H locs ls2 hP hD hS (lv_put2 (r := eR E) (v := .long x) (L := a0 :: a1 :: a2 :: v :: v2 :: t) (by intro j u h1 h2; cases h1; cases h2; exact hp) hl2))
theorem g_iinc3 {a0 a1 a2 : Value} {t : List Value} {x v : Int32} {n : Int} (hX : CX E X b own nL) (hd : Dc b pc (.iinc 3 n) 3 pc2) (hv : x + Int32.ofInt n = v) (hp : a2.category = 1) (hn : 3 < nL) (k : G0 E X ca sa pc2 (a0 :: a1 :: a2 :: .int v :: t) st w) : G0 E X ca sa pc (a0 :: a1 :: a2 :: .int x :: t) st w := by
  obtain ⟨hd, rfl⟩ := hd
  intro H locs ls hP hD hS hl
  have hm := lvl_mem (r := eR E) (v := .int x) (by intro z hz; cases hz) (a0 :: a1 :: a2 :: .int x :: t) 0 3 rfl
  rw [Nat.zero_add] at hm
  obtain ⟨k9, hk9⟩ := List.getElem?_of_mem hm
  exact lv_iinc (rest := st.map (tr (eR E))) hX.1 hX.2.1 hd hl hk9 hv (by rw [hX.2.2.2.2.2.2.2.1]; exact hn) rfl (fun ls2 hl2 => k H locs ls2 hP hD hS (lv_put1 (r := eR E) (v := .int v) (L := a0 :: a1 :: a2 :: .int x :: t) (by intro j u h1 h2; cases h1; cases h2; exact hp) hl2))
theorem g_iload4 {a0 a1 a2 a3 : Value} {t : List Value} {x : Int32} (hX : CX E X b own nL) (hd : Dc b pc (.iload 4) 2 pc2) (k : G0 E X ca sa pc2 (a0 :: a1 :: a2 :: a3 :: .int x :: t) (.int x :: st) w) : G0 E X ca sa pc (a0 :: a1 :: a2 :: a3 :: .int x :: t) st w := by
  obtain ⟨hd, rfl⟩ := hd
  intro H locs ls hP hD hS hl
  exact lv_iload (rest := st.map (tr (eR E))) hX.1 hX.2.1 hd (lv_of hl 4 rfl (by intro z hz; cases hz)) (k H locs ls hP hD hS hl)
theorem g_lload4 {a0 a1 a2 a3 : Value} {t : List Value} {x : Int64} (hX : CX E X b own nL) (hd : Dc b pc (.lload 4) 2 pc2) (k : G0 E X ca sa pc2 (a0 :: a1 :: a2 :: a3 :: .long x :: t) (.long x :: st) w) : G0 E X ca sa pc (a0 :: a1 :: a2 :: a3 :: .long x :: t) st w := by
  obtain ⟨hd, rfl⟩ := hd
  intro H locs ls hP hD hS hl
  exact lv_lload (rest := st.map (tr (eR E))) hX.1 hX.2.1 hd (lv_of hl 4 rfl (by intro z hz; cases hz)) (k H locs ls hP hD hS hl)
theorem g_aload4 {a0 a1 a2 a3 : Value} {t : List Value} {x : Nat} (hX : CX E X b own nL) (hd : Dc b pc (.aload 4) 2 pc2) (k : G0 E X ca sa pc2 (a0 :: a1 :: a2 :: a3 :: .ref x :: t) (.ref x :: st) w) : G0 E X ca sa pc (a0 :: a1 :: a2 :: a3 :: .ref x :: t) st w := by
  obtain ⟨hd, rfl⟩ := hd
  intro H locs ls hP hD hS hl
  exact lv_aload (rest := st.map (tr (eR E))) hX.1 hX.2.1 hd (lv_of hl 4 rfl (by intro z hz; cases hz)) (k H locs ls hP hD hS hl)
theorem g_aloadN4 {a0 a1 a2 a3 : Value} {t : List Value}  (hX : CX E X b own nL) (hd : Dc b pc (.aload 4) 2 pc2) (k : G0 E X ca sa pc2 (a0 :: a1 :: a2 :: a3 :: .null :: t) (.null :: st) w) : G0 E X ca sa pc (a0 :: a1 :: a2 :: a3 :: .null :: t) st w := by
  obtain ⟨hd, rfl⟩ := hd
  intro H locs ls hP hD hS hl
  exact lv_aloadN (rest := st.map (tr (eR E))) hX.1 hX.2.1 hd (lv_of hl 4 rfl (by intro z hz; cases hz)) (k H locs ls hP hD hS hl)
theorem g_istore4 {a0 a1 a2 a3 : Value} {v : Value} {t : List Value} {x : Int32} (hX : CX E X b own nL) (hd : Dc b pc (.istore 4) 2 pc2) (hp : a3.category = 1) (hn : 4 < nL) (k : G0 E X ca sa pc2 (a0 :: a1 :: a2 :: a3 :: .int x :: t) st w) : G0 E X ca sa pc (a0 :: a1 :: a2 :: a3 :: v :: t) (.int x :: st) w := by
  obtain ⟨hd, rfl⟩ := hd
  intro H locs ls hP hD hS hl
  exact lv_istore (rest := st.map (tr (eR E))) hX.1 hX.2.1 hd hl (by rw [hX.2.2.2.2.2.2.2.1]; exact hn) rfl (fun ls2 hl2 => k H locs ls2 hP hD hS (lv_put1 (r := eR E) (v := .int x) (L := a0 :: a1 :: a2 :: a3 :: v :: t) (by intro j u h1 h2; cases h1; cases h2; exact hp) hl2))
theorem g_astore4 {a0 a1 a2 a3 : Value} {v : Value} {t : List Value} {x : Nat} (hX : CX E X b own nL) (hd : Dc b pc (.astore 4) 2 pc2) (hp : a3.category = 1) (hn : 4 < nL) (k : G0 E X ca sa pc2 (a0 :: a1 :: a2 :: a3 :: .ref x :: t) st w) : G0 E X ca sa pc (a0 :: a1 :: a2 :: a3 :: v :: t) (.ref x :: st) w := by
  obtain ⟨hd, rfl⟩ := hd
  intro H locs ls hP hD hS hl
  exact lv_astore (rest := st.map (tr (eR E))) hX.1 hX.2.1 hd hl (by rw [hX.2.2.2.2.2.2.2.1]; exact hn) rfl (fun ls2 hl2 => k H locs ls2 hP hD hS (lv_put1 (r := eR E) (v := .ref x) (L := a0 :: a1 :: a2 :: a3 :: v :: t) (by intro j u h1 h2; cases h1; cases h2; exact hp) hl2))
theorem g_astoreN4 {a0 a1 a2 a3 : Value} {v : Value} {t : List Value}  (hX : CX E X b own nL) (hd : Dc b pc (.astore 4) 2 pc2) (hp : a3.category = 1) (hn : 4 < nL) (k : G0 E X ca sa pc2 (a0 :: a1 :: a2 :: a3 :: .null :: t) st w) : G0 E X ca sa pc (a0 :: a1 :: a2 :: a3 :: v :: t) (.null :: st) w := by
  obtain ⟨hd, rfl⟩ := hd
  intro H locs ls hP hD hS hl
  exact lv_astoreN (rest := st.map (tr (eR E))) hX.1 hX.2.1 hd hl (by rw [hX.2.2.2.2.2.2.2.1]; exact hn) rfl (fun ls2 hl2 => k H locs ls2 hP hD hS (lv_put1 (r := eR E) (v := .null) (L := a0 :: a1 :: a2 :: a3 :: v :: t) (by intro j u h1 h2; cases h1; cases h2; exact hp) hl2))
theorem g_lstore4 {a0 a1 a2 a3 : Value} {v v2 : Value} {t : List Value} {x : Int64} (hX : CX E X b own nL) (hd : Dc b pc (.lstore 4) 2 pc2) (hp : a3.category = 1) (hn : 5 < nL) (k : G0 E X ca sa pc2 (a0 :: a1 :: a2 :: a3 :: .long x :: un :: t) st w) : G0 E X ca sa pc (a0 :: a1 :: a2 :: a3 :: v :: v2 :: t) (.long x :: st) w := by
  obtain ⟨hd, rfl⟩ := hd
  intro H locs ls hP hD hS hl
  exact lv_lstore (rest := st.map (tr (eR E))) hX.1 hX.2.1 hd hl (by rw [hX.2.2.2.2.2.2.2.1]; exact hn) rfl (fun ls2 hl2 => k H locs ls2 hP hD hS (lv_put2 (r := eR E) (v := .long x) (L := a0 :: a1 :: a2 :: a3 :: v :: v2 :: t) (by intro j u h1 h2; cases h1; cases h2; exact hp) hl2))
theorem g_iinc4 {a0 a1 a2 a3 : Value} {t : List Value} {x v : Int32} {n : Int} (hX : CX E X b own nL) (hd : Dc b pc (.iinc 4 n) 3 pc2) (hv : x + Int32.ofInt n = v) (hp : a3.category = 1) (hn : 4 < nL) (k : G0 E X ca sa pc2 (a0 :: a1 :: a2 :: a3 :: .int v :: t) st w) : G0 E X ca sa pc (a0 :: a1 :: a2 :: a3 :: .int x :: t) st w := by
  obtain ⟨hd, rfl⟩ := hd
  intro H locs ls hP hD hS hl
  have hm := lvl_mem (r := eR E) (v := .int x) (by intro z hz; cases hz) (a0 :: a1 :: a2 :: a3 :: .int x :: t) 0 4 rfl
  rw [Nat.zero_add] at hm
  obtain ⟨k9, hk9⟩ := List.getElem?_of_mem hm
  exact lv_iinc (rest := st.map (tr (eR E))) hX.1 hX.2.1 hd hl hk9 hv (by rw [hX.2.2.2.2.2.2.2.1]; exact hn) rfl (fun ls2 hl2 => k H locs ls2 hP hD hS (lv_put1 (r := eR E) (v := .int v) (L := a0 :: a1 :: a2 :: a3 :: .int x :: t) (by intro j u h1 h2; cases h1; cases h2; exact hp) hl2))
theorem g_iload5 {a0 a1 a2 a3 a4 : Value} {t : List Value} {x : Int32} (hX : CX E X b own nL) (hd : Dc b pc (.iload 5) 2 pc2) (k : G0 E X ca sa pc2 (a0 :: a1 :: a2 :: a3 :: a4 :: .int x :: t) (.int x :: st) w) : G0 E X ca sa pc (a0 :: a1 :: a2 :: a3 :: a4 :: .int x :: t) st w := by
  obtain ⟨hd, rfl⟩ := hd
  intro H locs ls hP hD hS hl
  exact lv_iload (rest := st.map (tr (eR E))) hX.1 hX.2.1 hd (lv_of hl 5 rfl (by intro z hz; cases hz)) (k H locs ls hP hD hS hl)
theorem g_lload5 {a0 a1 a2 a3 a4 : Value} {t : List Value} {x : Int64} (hX : CX E X b own nL) (hd : Dc b pc (.lload 5) 2 pc2) (k : G0 E X ca sa pc2 (a0 :: a1 :: a2 :: a3 :: a4 :: .long x :: t) (.long x :: st) w) : G0 E X ca sa pc (a0 :: a1 :: a2 :: a3 :: a4 :: .long x :: t) st w := by
  obtain ⟨hd, rfl⟩ := hd
  intro H locs ls hP hD hS hl
  exact lv_lload (rest := st.map (tr (eR E))) hX.1 hX.2.1 hd (lv_of hl 5 rfl (by intro z hz; cases hz)) (k H locs ls hP hD hS hl)
theorem g_aload5 {a0 a1 a2 a3 a4 : Value} {t : List Value} {x : Nat} (hX : CX E X b own nL) (hd : Dc b pc (.aload 5) 2 pc2) (k : G0 E X ca sa pc2 (a0 :: a1 :: a2 :: a3 :: a4 :: .ref x :: t) (.ref x :: st) w) : G0 E X ca sa pc (a0 :: a1 :: a2 :: a3 :: a4 :: .ref x :: t) st w := by
  obtain ⟨hd, rfl⟩ := hd
  intro H locs ls hP hD hS hl
  exact lv_aload (rest := st.map (tr (eR E))) hX.1 hX.2.1 hd (lv_of hl 5 rfl (by intro z hz; cases hz)) (k H locs ls hP hD hS hl)
theorem g_aloadN5 {a0 a1 a2 a3 a4 : Value} {t : List Value}  (hX : CX E X b own nL) (hd : Dc b pc (.aload 5) 2 pc2) (k : G0 E X ca sa pc2 (a0 :: a1 :: a2 :: a3 :: a4 :: .null :: t) (.null :: st) w) : G0 E X ca sa pc (a0 :: a1 :: a2 :: a3 :: a4 :: .null :: t) st w := by
  obtain ⟨hd, rfl⟩ := hd
  intro H locs ls hP hD hS hl
  exact lv_aloadN (rest := st.map (tr (eR E))) hX.1 hX.2.1 hd (lv_of hl 5 rfl (by intro z hz; cases hz)) (k H locs ls hP hD hS hl)
theorem g_istore5 {a0 a1 a2 a3 a4 : Value} {v : Value} {t : List Value} {x : Int32} (hX : CX E X b own nL) (hd : Dc b pc (.istore 5) 2 pc2) (hp : a4.category = 1) (hn : 5 < nL) (k : G0 E X ca sa pc2 (a0 :: a1 :: a2 :: a3 :: a4 :: .int x :: t) st w) : G0 E X ca sa pc (a0 :: a1 :: a2 :: a3 :: a4 :: v :: t) (.int x :: st) w := by
  obtain ⟨hd, rfl⟩ := hd
  intro H locs ls hP hD hS hl
  exact lv_istore (rest := st.map (tr (eR E))) hX.1 hX.2.1 hd hl (by rw [hX.2.2.2.2.2.2.2.1]; exact hn) rfl (fun ls2 hl2 => k H locs ls2 hP hD hS (lv_put1 (r := eR E) (v := .int x) (L := a0 :: a1 :: a2 :: a3 :: a4 :: v :: t) (by intro j u h1 h2; cases h1; cases h2; exact hp) hl2))
theorem g_astore5 {a0 a1 a2 a3 a4 : Value} {v : Value} {t : List Value} {x : Nat} (hX : CX E X b own nL) (hd : Dc b pc (.astore 5) 2 pc2) (hp : a4.category = 1) (hn : 5 < nL) (k : G0 E X ca sa pc2 (a0 :: a1 :: a2 :: a3 :: a4 :: .ref x :: t) st w) : G0 E X ca sa pc (a0 :: a1 :: a2 :: a3 :: a4 :: v :: t) (.ref x :: st) w := by
  obtain ⟨hd, rfl⟩ := hd
  intro H locs ls hP hD hS hl
  exact lv_astore (rest := st.map (tr (eR E))) hX.1 hX.2.1 hd hl (by rw [hX.2.2.2.2.2.2.2.1]; exact hn) rfl (fun ls2 hl2 => k H locs ls2 hP hD hS (lv_put1 (r := eR E) (v := .ref x) (L := a0 :: a1 :: a2 :: a3 :: a4 :: v :: t) (by intro j u h1 h2; cases h1; cases h2; exact hp) hl2))
theorem g_astoreN5 {a0 a1 a2 a3 a4 : Value} {v : Value} {t : List Value}  (hX : CX E X b own nL) (hd : Dc b pc (.astore 5) 2 pc2) (hp : a4.category = 1) (hn : 5 < nL) (k : G0 E X ca sa pc2 (a0 :: a1 :: a2 :: a3 :: a4 :: .null :: t) st w) : G0 E X ca sa pc (a0 :: a1 :: a2 :: a3 :: a4 :: v :: t) (.null :: st) w := by
  obtain ⟨hd, rfl⟩ := hd
  intro H locs ls hP hD hS hl
  exact lv_astoreN (rest := st.map (tr (eR E))) hX.1 hX.2.1 hd hl (by rw [hX.2.2.2.2.2.2.2.1]; exact hn) rfl (fun ls2 hl2 => k H locs ls2 hP hD hS (lv_put1 (r := eR E) (v := .null) (L := a0 :: a1 :: a2 :: a3 :: a4 :: v :: t) (by intro j u h1 h2; cases h1; cases h2; exact hp) hl2))
theorem g_lstore5 {a0 a1 a2 a3 a4 : Value} {v v2 : Value} {t : List Value} {x : Int64} (hX : CX E X b own nL) (hd : Dc b pc (.lstore 5) 2 pc2) (hp : a4.category = 1) (hn : 6 < nL) (k : G0 E X ca sa pc2 (a0 :: a1 :: a2 :: a3 :: a4 :: .long x :: un :: t) st w) : G0 E X ca sa pc (a0 :: a1 :: a2 :: a3 :: a4 :: v :: v2 :: t) (.long x :: st) w := by
  obtain ⟨hd, rfl⟩ := hd
  intro H locs ls hP hD hS hl
  exact lv_lstore (rest := st.map (tr (eR E))) hX.1 hX.2.1 hd hl (by rw [hX.2.2.2.2.2.2.2.1]; exact hn) rfl (fun ls2 hl2 => k H locs ls2 hP hD hS (lv_put2 (r := eR E) (v := .long x) (L := a0 :: a1 :: a2 :: a3 :: a4 :: v :: v2 :: t) (by intro j u h1 h2; cases h1; cases h2; exact hp) hl2))
theorem g_iinc5 {a0 a1 a2 a3 a4 : Value} {t : List Value} {x v : Int32} {n : Int} (hX : CX E X b own nL) (hd : Dc b pc (.iinc 5 n) 3 pc2) (hv : x + Int32.ofInt n = v) (hp : a4.category = 1) (hn : 5 < nL) (k : G0 E X ca sa pc2 (a0 :: a1 :: a2 :: a3 :: a4 :: .int v :: t) st w) : G0 E X ca sa pc (a0 :: a1 :: a2 :: a3 :: a4 :: .int x :: t) st w := by
  obtain ⟨hd, rfl⟩ := hd
  intro H locs ls hP hD hS hl
  have hm := lvl_mem (r := eR E) (v := .int x) (by intro z hz; cases hz) (a0 :: a1 :: a2 :: a3 :: a4 :: .int x :: t) 0 5 rfl
  rw [Nat.zero_add] at hm
  obtain ⟨k9, hk9⟩ := List.getElem?_of_mem hm
  exact lv_iinc (rest := st.map (tr (eR E))) hX.1 hX.2.1 hd hl hk9 hv (by rw [hX.2.2.2.2.2.2.2.1]; exact hn) rfl (fun ls2 hl2 => k H locs ls2 hP hD hS (lv_put1 (r := eR E) (v := .int v) (L := a0 :: a1 :: a2 :: a3 :: a4 :: .int x :: t) (by intro j u h1 h2; cases h1; cases h2; exact hp) hl2))
theorem g_iload6 {a0 a1 a2 a3 a4 a5 : Value} {t : List Value} {x : Int32} (hX : CX E X b own nL) (hd : Dc b pc (.iload 6) 2 pc2) (k : G0 E X ca sa pc2 (a0 :: a1 :: a2 :: a3 :: a4 :: a5 :: .int x :: t) (.int x :: st) w) : G0 E X ca sa pc (a0 :: a1 :: a2 :: a3 :: a4 :: a5 :: .int x :: t) st w := by
  obtain ⟨hd, rfl⟩ := hd
  intro H locs ls hP hD hS hl
  exact lv_iload (rest := st.map (tr (eR E))) hX.1 hX.2.1 hd (lv_of hl 6 rfl (by intro z hz; cases hz)) (k H locs ls hP hD hS hl)
theorem g_lload6 {a0 a1 a2 a3 a4 a5 : Value} {t : List Value} {x : Int64} (hX : CX E X b own nL) (hd : Dc b pc (.lload 6) 2 pc2) (k : G0 E X ca sa pc2 (a0 :: a1 :: a2 :: a3 :: a4 :: a5 :: .long x :: t) (.long x :: st) w) : G0 E X ca sa pc (a0 :: a1 :: a2 :: a3 :: a4 :: a5 :: .long x :: t) st w := by
  obtain ⟨hd, rfl⟩ := hd
  intro H locs ls hP hD hS hl
  exact lv_lload (rest := st.map (tr (eR E))) hX.1 hX.2.1 hd (lv_of hl 6 rfl (by intro z hz; cases hz)) (k H locs ls hP hD hS hl)
theorem g_aload6 {a0 a1 a2 a3 a4 a5 : Value} {t : List Value} {x : Nat} (hX : CX E X b own nL) (hd : Dc b pc (.aload 6) 2 pc2) (k : G0 E X ca sa pc2 (a0 :: a1 :: a2 :: a3 :: a4 :: a5 :: .ref x :: t) (.ref x :: st) w) : G0 E X ca sa pc (a0 :: a1 :: a2 :: a3 :: a4 :: a5 :: .ref x :: t) st w := by
  obtain ⟨hd, rfl⟩ := hd
  intro H locs ls hP hD hS hl
  exact lv_aload (rest := st.map (tr (eR E))) hX.1 hX.2.1 hd (lv_of hl 6 rfl (by intro z hz; cases hz)) (k H locs ls hP hD hS hl)
theorem g_aloadN6 {a0 a1 a2 a3 a4 a5 : Value} {t : List Value}  (hX : CX E X b own nL) (hd : Dc b pc (.aload 6) 2 pc2) (k : G0 E X ca sa pc2 (a0 :: a1 :: a2 :: a3 :: a4 :: a5 :: .null :: t) (.null :: st) w) : G0 E X ca sa pc (a0 :: a1 :: a2 :: a3 :: a4 :: a5 :: .null :: t) st w := by
  obtain ⟨hd, rfl⟩ := hd
  intro H locs ls hP hD hS hl
  exact lv_aloadN (rest := st.map (tr (eR E))) hX.1 hX.2.1 hd (lv_of hl 6 rfl (by intro z hz; cases hz)) (k H locs ls hP hD hS hl)
theorem g_istore6 {a0 a1 a2 a3 a4 a5 : Value} {v : Value} {t : List Value} {x : Int32} (hX : CX E X b own nL) (hd : Dc b pc (.istore 6) 2 pc2) (hp : a5.category = 1) (hn : 6 < nL) (k : G0 E X ca sa pc2 (a0 :: a1 :: a2 :: a3 :: a4 :: a5 :: .int x :: t) st w) : G0 E X ca sa pc (a0 :: a1 :: a2 :: a3 :: a4 :: a5 :: v :: t) (.int x :: st) w := by
  obtain ⟨hd, rfl⟩ := hd
  intro H locs ls hP hD hS hl
  exact lv_istore (rest := st.map (tr (eR E))) hX.1 hX.2.1 hd hl (by rw [hX.2.2.2.2.2.2.2.1]; exact hn) rfl (fun ls2 hl2 => k H locs ls2 hP hD hS (lv_put1 (r := eR E) (v := .int x) (L := a0 :: a1 :: a2 :: a3 :: a4 :: a5 :: v :: t) (by intro j u h1 h2; cases h1; cases h2; exact hp) hl2))
theorem g_astore6 {a0 a1 a2 a3 a4 a5 : Value} {v : Value} {t : List Value} {x : Nat} (hX : CX E X b own nL) (hd : Dc b pc (.astore 6) 2 pc2) (hp : a5.category = 1) (hn : 6 < nL) (k : G0 E X ca sa pc2 (a0 :: a1 :: a2 :: a3 :: a4 :: a5 :: .ref x :: t) st w) : G0 E X ca sa pc (a0 :: a1 :: a2 :: a3 :: a4 :: a5 :: v :: t) (.ref x :: st) w := by
  obtain ⟨hd, rfl⟩ := hd
  intro H locs ls hP hD hS hl
  exact lv_astore (rest := st.map (tr (eR E))) hX.1 hX.2.1 hd hl (by rw [hX.2.2.2.2.2.2.2.1]; exact hn) rfl (fun ls2 hl2 => k H locs ls2 hP hD hS (lv_put1 (r := eR E) (v := .ref x) (L := a0 :: a1 :: a2 :: a3 :: a4 :: a5 :: v :: t) (by intro j u h1 h2; cases h1; cases h2; exact hp) hl2))
theorem g_astoreN6 {a0 a1 a2 a3 a4 a5 : Value} {v : Value} {t : List Value}  (hX : CX E X b own nL) (hd : Dc b pc (.astore 6) 2 pc2) (hp : a5.category = 1) (hn : 6 < nL) (k : G0 E X ca sa pc2 (a0 :: a1 :: a2 :: a3 :: a4 :: a5 :: .null :: t) st w) : G0 E X ca sa pc (a0 :: a1 :: a2 :: a3 :: a4 :: a5 :: v :: t) (.null :: st) w := by
  obtain ⟨hd, rfl⟩ := hd
  intro H locs ls hP hD hS hl
  exact lv_astoreN (rest := st.map (tr (eR E))) hX.1 hX.2.1 hd hl (by rw [hX.2.2.2.2.2.2.2.1]; exact hn) rfl (fun ls2 hl2 => k H locs ls2 hP hD hS (lv_put1 (r := eR E) (v := .null) (L := a0 :: a1 :: a2 :: a3 :: a4 :: a5 :: v :: t) (by intro j u h1 h2; cases h1; cases h2; exact hp) hl2))
theorem g_lstore6 {a0 a1 a2 a3 a4 a5 : Value} {v v2 : Value} {t : List Value} {x : Int64} (hX : CX E X b own nL) (hd : Dc b pc (.lstore 6) 2 pc2) (hp : a5.category = 1) (hn : 7 < nL) (k : G0 E X ca sa pc2 (a0 :: a1 :: a2 :: a3 :: a4 :: a5 :: .long x :: un :: t) st w) : G0 E X ca sa pc (a0 :: a1 :: a2 :: a3 :: a4 :: a5 :: v :: v2 :: t) (.long x :: st) w := by
  obtain ⟨hd, rfl⟩ := hd
  intro H locs ls hP hD hS hl
  exact lv_lstore (rest := st.map (tr (eR E))) hX.1 hX.2.1 hd hl (by rw [hX.2.2.2.2.2.2.2.1]; exact hn) rfl (fun ls2 hl2 => k H locs ls2 hP hD hS (lv_put2 (r := eR E) (v := .long x) (L := a0 :: a1 :: a2 :: a3 :: a4 :: a5 :: v :: v2 :: t) (by intro j u h1 h2; cases h1; cases h2; exact hp) hl2))
theorem g_iinc6 {a0 a1 a2 a3 a4 a5 : Value} {t : List Value} {x v : Int32} {n : Int} (hX : CX E X b own nL) (hd : Dc b pc (.iinc 6 n) 3 pc2) (hv : x + Int32.ofInt n = v) (hp : a5.category = 1) (hn : 6 < nL) (k : G0 E X ca sa pc2 (a0 :: a1 :: a2 :: a3 :: a4 :: a5 :: .int v :: t) st w) : G0 E X ca sa pc (a0 :: a1 :: a2 :: a3 :: a4 :: a5 :: .int x :: t) st w := by
  obtain ⟨hd, rfl⟩ := hd
  intro H locs ls hP hD hS hl
  have hm := lvl_mem (r := eR E) (v := .int x) (by intro z hz; cases hz) (a0 :: a1 :: a2 :: a3 :: a4 :: a5 :: .int x :: t) 0 6 rfl
  rw [Nat.zero_add] at hm
  obtain ⟨k9, hk9⟩ := List.getElem?_of_mem hm
  exact lv_iinc (rest := st.map (tr (eR E))) hX.1 hX.2.1 hd hl hk9 hv (by rw [hX.2.2.2.2.2.2.2.1]; exact hn) rfl (fun ls2 hl2 => k H locs ls2 hP hD hS (lv_put1 (r := eR E) (v := .int v) (L := a0 :: a1 :: a2 :: a3 :: a4 :: a5 :: .int x :: t) (by intro j u h1 h2; cases h1; cases h2; exact hp) hl2))
theorem g_iload7 {a0 a1 a2 a3 a4 a5 a6 : Value} {t : List Value} {x : Int32} (hX : CX E X b own nL) (hd : Dc b pc (.iload 7) 2 pc2) (k : G0 E X ca sa pc2 (a0 :: a1 :: a2 :: a3 :: a4 :: a5 :: a6 :: .int x :: t) (.int x :: st) w) : G0 E X ca sa pc (a0 :: a1 :: a2 :: a3 :: a4 :: a5 :: a6 :: .int x :: t) st w := by
  obtain ⟨hd, rfl⟩ := hd
  intro H locs ls hP hD hS hl
  exact lv_iload (rest := st.map (tr (eR E))) hX.1 hX.2.1 hd (lv_of hl 7 rfl (by intro z hz; cases hz)) (k H locs ls hP hD hS hl)
theorem g_lload7 {a0 a1 a2 a3 a4 a5 a6 : Value} {t : List Value} {x : Int64} (hX : CX E X b own nL) (hd : Dc b pc (.lload 7) 2 pc2) (k : G0 E X ca sa pc2 (a0 :: a1 :: a2 :: a3 :: a4 :: a5 :: a6 :: .long x :: t) (.long x :: st) w) : G0 E X ca sa pc (a0 :: a1 :: a2 :: a3 :: a4 :: a5 :: a6 :: .long x :: t) st w := by
  obtain ⟨hd, rfl⟩ := hd
  intro H locs ls hP hD hS hl
  exact lv_lload (rest := st.map (tr (eR E))) hX.1 hX.2.1 hd (lv_of hl 7 rfl (by intro z hz; cases hz)) (k H locs ls hP hD hS hl)
theorem g_aload7 {a0 a1 a2 a3 a4 a5 a6 : Value} {t : List Value} {x : Nat} (hX : CX E X b own nL) (hd : Dc b pc (.aload 7) 2 pc2) (k : G0 E X ca sa pc2 (a0 :: a1 :: a2 :: a3 :: a4 :: a5 :: a6 :: .ref x :: t) (.ref x :: st) w) : G0 E X ca sa pc (a0 :: a1 :: a2 :: a3 :: a4 :: a5 :: a6 :: .ref x :: t) st w := by
  obtain ⟨hd, rfl⟩ := hd
  intro H locs ls hP hD hS hl
  exact lv_aload (rest := st.map (tr (eR E))) hX.1 hX.2.1 hd (lv_of hl 7 rfl (by intro z hz; cases hz)) (k H locs ls hP hD hS hl)
theorem g_aloadN7 {a0 a1 a2 a3 a4 a5 a6 : Value} {t : List Value}  (hX : CX E X b own nL) (hd : Dc b pc (.aload 7) 2 pc2) (k : G0 E X ca sa pc2 (a0 :: a1 :: a2 :: a3 :: a4 :: a5 :: a6 :: .null :: t) (.null :: st) w) : G0 E X ca sa pc (a0 :: a1 :: a2 :: a3 :: a4 :: a5 :: a6 :: .null :: t) st w := by
  obtain ⟨hd, rfl⟩ := hd
  intro H locs ls hP hD hS hl
  exact lv_aloadN (rest := st.map (tr (eR E))) hX.1 hX.2.1 hd (lv_of hl 7 rfl (by intro z hz; cases hz)) (k H locs ls hP hD hS hl)
theorem g_istore7 {a0 a1 a2 a3 a4 a5 a6 : Value} {v : Value} {t : List Value} {x : Int32} (hX : CX E X b own nL) (hd : Dc b pc (.istore 7) 2 pc2) (hp : a6.category = 1) (hn : 7 < nL) (k : G0 E X ca sa pc2 (a0 :: a1 :: a2 :: a3 :: a4 :: a5 :: a6 :: .int x :: t) st w) : G0 E X ca sa pc (a0 :: a1 :: a2 :: a3 :: a4 :: a5 :: a6 :: v :: t) (.int x :: st) w := by
  obtain ⟨hd, rfl⟩ := hd
  intro H locs ls hP hD hS hl
  exact lv_istore (rest := st.map (tr (eR E))) hX.1 hX.2.1 hd hl (by rw [hX.2.2.2.2.2.2.2.1]; exact hn) rfl (fun ls2 hl2 => k H locs ls2 hP hD hS (lv_put1 (r := eR E) (v := .int x) (L := a0 :: a1 :: a2 :: a3 :: a4 :: a5 :: a6 :: v :: t) (by intro j u h1 h2; cases h1; cases h2; exact hp) hl2))
theorem g_astore7 {a0 a1 a2 a3 a4 a5 a6 : Value} {v : Value} {t : List Value} {x : Nat} (hX : CX E X b own nL) (hd : Dc b pc (.astore 7) 2 pc2) (hp : a6.category = 1) (hn : 7 < nL) (k : G0 E X ca sa pc2 (a0 :: a1 :: a2 :: a3 :: a4 :: a5 :: a6 :: .ref x :: t) st w) : G0 E X ca sa pc (a0 :: a1 :: a2 :: a3 :: a4 :: a5 :: a6 :: v :: t) (.ref x :: st) w := by
  obtain ⟨hd, rfl⟩ := hd
  intro H locs ls hP hD hS hl
  exact lv_astore (rest := st.map (tr (eR E))) hX.1 hX.2.1 hd hl (by rw [hX.2.2.2.2.2.2.2.1]; exact hn) rfl (fun ls2 hl2 => k H locs ls2 hP hD hS (lv_put1 (r := eR E) (v := .ref x) (L := a0 :: a1 :: a2 :: a3 :: a4 :: a5 :: a6 :: v :: t) (by intro j u h1 h2; cases h1; cases h2; exact hp) hl2))
theorem g_astoreN7 {a0 a1 a2 a3 a4 a5 a6 : Value} {v : Value} {t : List Value}  (hX : CX E X b own nL) (hd : Dc b pc (.astore 7) 2 pc2) (hp : a6.category = 1) (hn : 7 < nL) (k : G0 E X ca sa pc2 (a0 :: a1 :: a2 :: a3 :: a4 :: a5 :: a6 :: .null :: t) st w) : G0 E X ca sa pc (a0 :: a1 :: a2 :: a3 :: a4 :: a5 :: a6 :: v :: t) (.null :: st) w := by
  obtain ⟨hd, rfl⟩ := hd
  intro H locs ls hP hD hS hl
  exact lv_astoreN (rest := st.map (tr (eR E))) hX.1 hX.2.1 hd hl (by rw [hX.2.2.2.2.2.2.2.1]; exact hn) rfl (fun ls2 hl2 => k H locs ls2 hP hD hS (lv_put1 (r := eR E) (v := .null) (L := a0 :: a1 :: a2 :: a3 :: a4 :: a5 :: a6 :: v :: t) (by intro j u h1 h2; cases h1; cases h2; exact hp) hl2))
theorem g_lstore7 {a0 a1 a2 a3 a4 a5 a6 : Value} {v v2 : Value} {t : List Value} {x : Int64} (hX : CX E X b own nL) (hd : Dc b pc (.lstore 7) 2 pc2) (hp : a6.category = 1) (hn : 8 < nL) (k : G0 E X ca sa pc2 (a0 :: a1 :: a2 :: a3 :: a4 :: a5 :: a6 :: .long x :: un :: t) st w) : G0 E X ca sa pc (a0 :: a1 :: a2 :: a3 :: a4 :: a5 :: a6 :: v :: v2 :: t) (.long x :: st) w := by
  obtain ⟨hd, rfl⟩ := hd
  intro H locs ls hP hD hS hl
  exact lv_lstore (rest := st.map (tr (eR E))) hX.1 hX.2.1 hd hl (by rw [hX.2.2.2.2.2.2.2.1]; exact hn) rfl (fun ls2 hl2 => k H locs ls2 hP hD hS (lv_put2 (r := eR E) (v := .long x) (L := a0 :: a1 :: a2 :: a3 :: a4 :: a5 :: a6 :: v :: v2 :: t) (by intro j u h1 h2; cases h1; cases h2; exact hp) hl2))
theorem g_iinc7 {a0 a1 a2 a3 a4 a5 a6 : Value} {t : List Value} {x v : Int32} {n : Int} (hX : CX E X b own nL) (hd : Dc b pc (.iinc 7 n) 3 pc2) (hv : x + Int32.ofInt n = v) (hp : a6.category = 1) (hn : 7 < nL) (k : G0 E X ca sa pc2 (a0 :: a1 :: a2 :: a3 :: a4 :: a5 :: a6 :: .int v :: t) st w) : G0 E X ca sa pc (a0 :: a1 :: a2 :: a3 :: a4 :: a5 :: a6 :: .int x :: t) st w := by
  obtain ⟨hd, rfl⟩ := hd
  intro H locs ls hP hD hS hl
  have hm := lvl_mem (r := eR E) (v := .int x) (by intro z hz; cases hz) (a0 :: a1 :: a2 :: a3 :: a4 :: a5 :: a6 :: .int x :: t) 0 7 rfl
  rw [Nat.zero_add] at hm
  obtain ⟨k9, hk9⟩ := List.getElem?_of_mem hm
  exact lv_iinc (rest := st.map (tr (eR E))) hX.1 hX.2.1 hd hl hk9 hv (by rw [hX.2.2.2.2.2.2.2.1]; exact hn) rfl (fun ls2 hl2 => k H locs ls2 hP hD hS (lv_put1 (r := eR E) (v := .int v) (L := a0 :: a1 :: a2 :: a3 :: a4 :: a5 :: a6 :: .int x :: t) (by intro j u h1 h2; cases h1; cases h2; exact hp) hl2))
theorem g_iload8 {a0 a1 a2 a3 a4 a5 a6 a7 : Value} {t : List Value} {x : Int32} (hX : CX E X b own nL) (hd : Dc b pc (.iload 8) 2 pc2) (k : G0 E X ca sa pc2 (a0 :: a1 :: a2 :: a3 :: a4 :: a5 :: a6 :: a7 :: .int x :: t) (.int x :: st) w) : G0 E X ca sa pc (a0 :: a1 :: a2 :: a3 :: a4 :: a5 :: a6 :: a7 :: .int x :: t) st w := by
  obtain ⟨hd, rfl⟩ := hd
  intro H locs ls hP hD hS hl
  exact lv_iload (rest := st.map (tr (eR E))) hX.1 hX.2.1 hd (lv_of hl 8 rfl (by intro z hz; cases hz)) (k H locs ls hP hD hS hl)
theorem g_lload8 {a0 a1 a2 a3 a4 a5 a6 a7 : Value} {t : List Value} {x : Int64} (hX : CX E X b own nL) (hd : Dc b pc (.lload 8) 2 pc2) (k : G0 E X ca sa pc2 (a0 :: a1 :: a2 :: a3 :: a4 :: a5 :: a6 :: a7 :: .long x :: t) (.long x :: st) w) : G0 E X ca sa pc (a0 :: a1 :: a2 :: a3 :: a4 :: a5 :: a6 :: a7 :: .long x :: t) st w := by
  obtain ⟨hd, rfl⟩ := hd
  intro H locs ls hP hD hS hl
  exact lv_lload (rest := st.map (tr (eR E))) hX.1 hX.2.1 hd (lv_of hl 8 rfl (by intro z hz; cases hz)) (k H locs ls hP hD hS hl)
theorem g_aload8 {a0 a1 a2 a3 a4 a5 a6 a7 : Value} {t : List Value} {x : Nat} (hX : CX E X b own nL) (hd : Dc b pc (.aload 8) 2 pc2) (k : G0 E X ca sa pc2 (a0 :: a1 :: a2 :: a3 :: a4 :: a5 :: a6 :: a7 :: .ref x :: t) (.ref x :: st) w) : G0 E X ca sa pc (a0 :: a1 :: a2 :: a3 :: a4 :: a5 :: a6 :: a7 :: .ref x :: t) st w := by
  obtain ⟨hd, rfl⟩ := hd
  intro H locs ls hP hD hS hl
  exact lv_aload (rest := st.map (tr (eR E))) hX.1 hX.2.1 hd (lv_of hl 8 rfl (by intro z hz; cases hz)) (k H locs ls hP hD hS hl)
theorem g_aloadN8 {a0 a1 a2 a3 a4 a5 a6 a7 : Value} {t : List Value}  (hX : CX E X b own nL) (hd : Dc b pc (.aload 8) 2 pc2) (k : G0 E X ca sa pc2 (a0 :: a1 :: a2 :: a3 :: a4 :: a5 :: a6 :: a7 :: .null :: t) (.null :: st) w) : G0 E X ca sa pc (a0 :: a1 :: a2 :: a3 :: a4 :: a5 :: a6 :: a7 :: .null :: t) st w := by
  obtain ⟨hd, rfl⟩ := hd
  intro H locs ls hP hD hS hl
  exact lv_aloadN (rest := st.map (tr (eR E))) hX.1 hX.2.1 hd (lv_of hl 8 rfl (by intro z hz; cases hz)) (k H locs ls hP hD hS hl)
theorem g_istore8 {a0 a1 a2 a3 a4 a5 a6 a7 : Value} {v : Value} {t : List Value} {x : Int32} (hX : CX E X b own nL) (hd : Dc b pc (.istore 8) 2 pc2) (hp : a7.category = 1) (hn : 8 < nL) (k : G0 E X ca sa pc2 (a0 :: a1 :: a2 :: a3 :: a4 :: a5 :: a6 :: a7 :: .int x :: t) st w) : G0 E X ca sa pc (a0 :: a1 :: a2 :: a3 :: a4 :: a5 :: a6 :: a7 :: v :: t) (.int x :: st) w := by
  obtain ⟨hd, rfl⟩ := hd
  intro H locs ls hP hD hS hl
  exact lv_istore (rest := st.map (tr (eR E))) hX.1 hX.2.1 hd hl (by rw [hX.2.2.2.2.2.2.2.1]; exact hn) rfl (fun ls2 hl2 => k H locs ls2 hP hD hS (lv_put1 (r := eR E) (v := .int x) (L := a0 :: a1 :: a2 :: a3 :: a4 :: a5 :: a6 :: a7 :: v :: t) (by intro j u h1 h2; cases h1; cases h2; exact hp) hl2))
theorem g_astore8 {a0 a1 a2 a3 a4 a5 a6 a7 : Value} {v : Value} {t : List Value} {x : Nat} (hX : CX E X b own nL) (hd : Dc b pc (.astore 8) 2 pc2) (hp : a7.category = 1) (hn : 8 < nL) (k : G0 E X ca sa pc2 (a0 :: a1 :: a2 :: a3 :: a4 :: a5 :: a6 :: a7 :: .ref x :: t) st w) : G0 E X ca sa pc (a0 :: a1 :: a2 :: a3 :: a4 :: a5 :: a6 :: a7 :: v :: t) (.ref x :: st) w := by
  obtain ⟨hd, rfl⟩ := hd
  intro H locs ls hP hD hS hl
  exact lv_astore (rest := st.map (tr (eR E))) hX.1 hX.2.1 hd hl (by rw [hX.2.2.2.2.2.2.2.1]; exact hn) rfl (fun ls2 hl2 => k H locs ls2 hP hD hS (lv_put1 (r := eR E) (v := .ref x) (L := a0 :: a1 :: a2 :: a3 :: a4 :: a5 :: a6 :: a7 :: v :: t) (by intro j u h1 h2; cases h1; cases h2; exact hp) hl2))
theorem g_astoreN8 {a0 a1 a2 a3 a4 a5 a6 a7 : Value} {v : Value} {t : List Value}  (hX : CX E X b own nL) (hd : Dc b pc (.astore 8) 2 pc2) (hp : a7.category = 1) (hn : 8 < nL) (k : G0 E X ca sa pc2 (a0 :: a1 :: a2 :: a3 :: a4 :: a5 :: a6 :: a7 :: .null :: t) st w) : G0 E X ca sa pc (a0 :: a1 :: a2 :: a3 :: a4 :: a5 :: a6 :: a7 :: v :: t) (.null :: st) w := by
  obtain ⟨hd, rfl⟩ := hd
  intro H locs ls hP hD hS hl
  exact lv_astoreN (rest := st.map (tr (eR E))) hX.1 hX.2.1 hd hl (by rw [hX.2.2.2.2.2.2.2.1]; exact hn) rfl (fun ls2 hl2 => k H locs ls2 hP hD hS (lv_put1 (r := eR E) (v := .null) (L := a0 :: a1 :: a2 :: a3 :: a4 :: a5 :: a6 :: a7 :: v :: t) (by intro j u h1 h2; cases h1; cases h2; exact hp) hl2))
theorem g_lstore8 {a0 a1 a2 a3 a4 a5 a6 a7 : Value} {v v2 : Value} {t : List Value} {x : Int64} (hX : CX E X b own nL) (hd : Dc b pc (.lstore 8) 2 pc2) (hp : a7.category = 1) (hn : 9 < nL) (k : G0 E X ca sa pc2 (a0 :: a1 :: a2 :: a3 :: a4 :: a5 :: a6 :: a7 :: .long x :: un :: t) st w) : G0 E X ca sa pc (a0 :: a1 :: a2 :: a3 :: a4 :: a5 :: a6 :: a7 :: v :: v2 :: t) (.long x :: st) w := by
  obtain ⟨hd, rfl⟩ := hd
  intro H locs ls hP hD hS hl
  exact lv_lstore (rest := st.map (tr (eR E))) hX.1 hX.2.1 hd hl (by rw [hX.2.2.2.2.2.2.2.1]; exact hn) rfl (fun ls2 hl2 => k H locs ls2 hP hD hS (lv_put2 (r := eR E) (v := .long x) (L := a0 :: a1 :: a2 :: a3 :: a4 :: a5 :: a6 :: a7 :: v :: v2 :: t) (by intro j u h1 h2; cases h1; cases h2; exact hp) hl2))
theorem g_iinc8 {a0 a1 a2 a3 a4 a5 a6 a7 : Value} {t : List Value} {x v : Int32} {n : Int} (hX : CX E X b own nL) (hd : Dc b pc (.iinc 8 n) 3 pc2) (hv : x + Int32.ofInt n = v) (hp : a7.category = 1) (hn : 8 < nL) (k : G0 E X ca sa pc2 (a0 :: a1 :: a2 :: a3 :: a4 :: a5 :: a6 :: a7 :: .int v :: t) st w) : G0 E X ca sa pc (a0 :: a1 :: a2 :: a3 :: a4 :: a5 :: a6 :: a7 :: .int x :: t) st w := by
  obtain ⟨hd, rfl⟩ := hd
  intro H locs ls hP hD hS hl
  have hm := lvl_mem (r := eR E) (v := .int x) (by intro z hz; cases hz) (a0 :: a1 :: a2 :: a3 :: a4 :: a5 :: a6 :: a7 :: .int x :: t) 0 8 rfl
  rw [Nat.zero_add] at hm
  obtain ⟨k9, hk9⟩ := List.getElem?_of_mem hm
  exact lv_iinc (rest := st.map (tr (eR E))) hX.1 hX.2.1 hd hl hk9 hv (by rw [hX.2.2.2.2.2.2.2.1]; exact hn) rfl (fun ls2 hl2 => k H locs ls2 hP hD hS (lv_put1 (r := eR E) (v := .int v) (L := a0 :: a1 :: a2 :: a3 :: a4 :: a5 :: a6 :: a7 :: .int x :: t) (by intro j u h1 h2; cases h1; cases h2; exact hp) hl2))
theorem g_iload9 {a0 a1 a2 a3 a4 a5 a6 a7 a8 : Value} {t : List Value} {x : Int32} (hX : CX E X b own nL) (hd : Dc b pc (.iload 9) 2 pc2) (k : G0 E X ca sa pc2 (a0 :: a1 :: a2 :: a3 :: a4 :: a5 :: a6 :: a7 :: a8 :: .int x :: t) (.int x :: st) w) : G0 E X ca sa pc (a0 :: a1 :: a2 :: a3 :: a4 :: a5 :: a6 :: a7 :: a8 :: .int x :: t) st w := by
  obtain ⟨hd, rfl⟩ := hd
  intro H locs ls hP hD hS hl
  exact lv_iload (rest := st.map (tr (eR E))) hX.1 hX.2.1 hd (lv_of hl 9 rfl (by intro z hz; cases hz)) (k H locs ls hP hD hS hl)
theorem g_lload9 {a0 a1 a2 a3 a4 a5 a6 a7 a8 : Value} {t : List Value} {x : Int64} (hX : CX E X b own nL) (hd : Dc b pc (.lload 9) 2 pc2) (k : G0 E X ca sa pc2 (a0 :: a1 :: a2 :: a3 :: a4 :: a5 :: a6 :: a7 :: a8 :: .long x :: t) (.long x :: st) w) : G0 E X ca sa pc (a0 :: a1 :: a2 :: a3 :: a4 :: a5 :: a6 :: a7 :: a8 :: .long x :: t) st w := by
  obtain ⟨hd, rfl⟩ := hd
  intro H locs ls hP hD hS hl
  exact lv_lload (rest := st.map (tr (eR E))) hX.1 hX.2.1 hd (lv_of hl 9 rfl (by intro z hz; cases hz)) (k H locs ls hP hD hS hl)
theorem g_aload9 {a0 a1 a2 a3 a4 a5 a6 a7 a8 : Value} {t : List Value} {x : Nat} (hX : CX E X b own nL) (hd : Dc b pc (.aload 9) 2 pc2) (k : G0 E X ca sa pc2 (a0 :: a1 :: a2 :: a3 :: a4 :: a5 :: a6 :: a7 :: a8 :: .ref x :: t) (.ref x :: st) w) : G0 E X ca sa pc (a0 :: a1 :: a2 :: a3 :: a4 :: a5 :: a6 :: a7 :: a8 :: .ref x :: t) st w := by
  obtain ⟨hd, rfl⟩ := hd
  intro H locs ls hP hD hS hl
  exact lv_aload (rest := st.map (tr (eR E))) hX.1 hX.2.1 hd (lv_of hl 9 rfl (by intro z hz; cases hz)) (k H locs ls hP hD hS hl)
theorem g_aloadN9 {a0 a1 a2 a3 a4 a5 a6 a7 a8 : Value} {t : List Value}  (hX : CX E X b own nL) (hd : Dc b pc (.aload 9) 2 pc2) (k : G0 E X ca sa pc2 (a0 :: a1 :: a2 :: a3 :: a4 :: a5 :: a6 :: a7 :: a8 :: .null :: t) (.null :: st) w) : G0 E X ca sa pc (a0 :: a1 :: a2 :: a3 :: a4 :: a5 :: a6 :: a7 :: a8 :: .null :: t) st w := by
  obtain ⟨hd, rfl⟩ := hd
  intro H locs ls hP hD hS hl
  exact lv_aloadN (rest := st.map (tr (eR E))) hX.1 hX.2.1 hd (lv_of hl 9 rfl (by intro z hz; cases hz)) (k H locs ls hP hD hS hl)
theorem g_istore9 {a0 a1 a2 a3 a4 a5 a6 a7 a8 : Value} {v : Value} {t : List Value} {x : Int32} (hX : CX E X b own nL) (hd : Dc b pc (.istore 9) 2 pc2) (hp : a8.category = 1) (hn : 9 < nL) (k : G0 E X ca sa pc2 (a0 :: a1 :: a2 :: a3 :: a4 :: a5 :: a6 :: a7 :: a8 :: .int x :: t) st w) : G0 E X ca sa pc (a0 :: a1 :: a2 :: a3 :: a4 :: a5 :: a6 :: a7 :: a8 :: v :: t) (.int x :: st) w := by
  obtain ⟨hd, rfl⟩ := hd
  intro H locs ls hP hD hS hl
  exact lv_istore (rest := st.map (tr (eR E))) hX.1 hX.2.1 hd hl (by rw [hX.2.2.2.2.2.2.2.1]; exact hn) rfl (fun ls2 hl2 => k H locs ls2 hP hD hS (lv_put1 (r := eR E) (v := .int x) (L := a0 :: a1 :: a2 :: a3 :: a4 :: a5 :: a6 :: a7 :: a8 :: v :: t) (by intro j u h1 h2; cases h1; cases h2; exact hp) hl2))
theorem g_astore9 {a0 a1 a2 a3 a4 a5 a6 a7 a8 : Value} {v : Value} {t : List Value} {x : Nat} (hX : CX E X b own nL) (hd : Dc b pc (.astore 9) 2 pc2) (hp : a8.category = 1) (hn : 9 < nL) (k : G0 E X ca sa pc2 (a0 :: a1 :: a2 :: a3 :: a4 :: a5 :: a6 :: a7 :: a8 :: .ref x :: t) st w) : G0 E X ca sa pc (a0 :: a1 :: a2 :: a3 :: a4 :: a5 :: a6 :: a7 :: a8 :: v :: t) (.ref x :: st) w := by
  obtain ⟨hd, rfl⟩ := hd
  intro H locs ls hP hD hS hl
  exact lv_astore (rest := st.map (tr (eR E))) hX.1 hX.2.1 hd hl (by rw [hX.2.2.2.2.2.2.2.1]; exact hn) rfl (fun ls2 hl2 => k H locs ls2 hP hD hS (lv_put1 (r := eR E) (v := .ref x) (L := a0 :: a1 :: a2 :: a3 :: a4 :: a5 :: a6 :: a7 :: a8 :: v :: t) (by intro j u h1 h2; cases h1; cases h2; exact hp) hl2))
theorem g_astoreN9 {a0 a1 a2 a3 a4 a5 a6 a7 a8 : Value} {v : Value} {t : List Value}  (hX : CX E X b own nL) (hd : Dc b pc (.astore 9) 2 pc2) (hp : a8.category = 1) (hn : 9 < nL) (k : G0 E X ca sa pc2 (a0 :: a1 :: a2 :: a3 :: a4 :: a5 :: a6 :: a7 :: a8 :: .null :: t) st w) : G0 E X ca sa pc (a0 :: a1 :: a2 :: a3 :: a4 :: a5 :: a6 :: a7 :: a8 :: v :: t) (.null :: st) w := by
  obtain ⟨hd, rfl⟩ := hd
  intro H locs ls hP hD hS hl
  exact lv_astoreN (rest := st.map (tr (eR E))) hX.1 hX.2.1 hd hl (by rw [hX.2.2.2.2.2.2.2.1]; exact hn) rfl (fun ls2 hl2 => k H locs ls2 hP hD hS (lv_put1 (r := eR E) (v := .null) (L := a0 :: a1 :: a2 :: a3 :: a4 :: a5 :: a6 :: a7 :: a8 :: v :: t) (by intro j u h1 h2; cases h1; cases h2; exact hp) hl2))
theorem g_lstore9 {a0 a1 a2 a3 a4 a5 a6 a7 a8 : Value} {v v2 : Value} {t : List Value} {x : Int64} (hX : CX E X b own nL) (hd : Dc b pc (.lstore 9) 2 pc2) (hp : a8.category = 1) (hn : 10 < nL) (k : G0 E X ca sa pc2 (a0 :: a1 :: a2 :: a3 :: a4 :: a5 :: a6 :: a7 :: a8 :: .long x :: un :: t) st w) : G0 E X ca sa pc (a0 :: a1 :: a2 :: a3 :: a4 :: a5 :: a6 :: a7 :: a8 :: v :: v2 :: t) (.long x :: st) w := by
  obtain ⟨hd, rfl⟩ := hd
  intro H locs ls hP hD hS hl
  exact lv_lstore (rest := st.map (tr (eR E))) hX.1 hX.2.1 hd hl (by rw [hX.2.2.2.2.2.2.2.1]; exact hn) rfl (fun ls2 hl2 => k H locs ls2 hP hD hS (lv_put2 (r := eR E) (v := .long x) (L := a0 :: a1 :: a2 :: a3 :: a4 :: a5 :: a6 :: a7 :: a8 :: v :: v2 :: t) (by intro j u h1 h2; cases h1; cases h2; exact hp) hl2))
theorem g_iinc9 {a0 a1 a2 a3 a4 a5 a6 a7 a8 : Value} {t : List Value} {x v : Int32} {n : Int} (hX : CX E X b own nL) (hd : Dc b pc (.iinc 9 n) 3 pc2) (hv : x + Int32.ofInt n = v) (hp : a8.category = 1) (hn : 9 < nL) (k : G0 E X ca sa pc2 (a0 :: a1 :: a2 :: a3 :: a4 :: a5 :: a6 :: a7 :: a8 :: .int v :: t) st w) : G0 E X ca sa pc (a0 :: a1 :: a2 :: a3 :: a4 :: a5 :: a6 :: a7 :: a8 :: .int x :: t) st w := by
  obtain ⟨hd, rfl⟩ := hd
  intro H locs ls hP hD hS hl
  have hm := lvl_mem (r := eR E) (v := .int x) (by intro z hz; cases hz) (a0 :: a1 :: a2 :: a3 :: a4 :: a5 :: a6 :: a7 :: a8 :: .int x :: t) 0 9 rfl
  rw [Nat.zero_add] at hm
  obtain ⟨k9, hk9⟩ := List.getElem?_of_mem hm
  exact lv_iinc (rest := st.map (tr (eR E))) hX.1 hX.2.1 hd hl hk9 hv (by rw [hX.2.2.2.2.2.2.2.1]; exact hn) rfl (fun ls2 hl2 => k H locs ls2 hP hD hS (lv_put1 (r := eR E) (v := .int v) (L := a0 :: a1 :: a2 :: a3 :: a4 :: a5 :: a6 :: a7 :: a8 :: .int x :: t) (by intro j u h1 h2; cases h1; cases h2; exact hp) hl2))
theorem g_iload10 {a0 a1 a2 a3 a4 a5 a6 a7 a8 a9 : Value} {t : List Value} {x : Int32} (hX : CX E X b own nL) (hd : Dc b pc (.iload 10) 2 pc2) (k : G0 E X ca sa pc2 (a0 :: a1 :: a2 :: a3 :: a4 :: a5 :: a6 :: a7 :: a8 :: a9 :: .int x :: t) (.int x :: st) w) : G0 E X ca sa pc (a0 :: a1 :: a2 :: a3 :: a4 :: a5 :: a6 :: a7 :: a8 :: a9 :: .int x :: t) st w := by
  obtain ⟨hd, rfl⟩ := hd
  intro H locs ls hP hD hS hl
  exact lv_iload (rest := st.map (tr (eR E))) hX.1 hX.2.1 hd (lv_of hl 10 rfl (by intro z hz; cases hz)) (k H locs ls hP hD hS hl)
theorem g_lload10 {a0 a1 a2 a3 a4 a5 a6 a7 a8 a9 : Value} {t : List Value} {x : Int64} (hX : CX E X b own nL) (hd : Dc b pc (.lload 10) 2 pc2) (k : G0 E X ca sa pc2 (a0 :: a1 :: a2 :: a3 :: a4 :: a5 :: a6 :: a7 :: a8 :: a9 :: .long x :: t) (.long x :: st) w) : G0 E X ca sa pc (a0 :: a1 :: a2 :: a3 :: a4 :: a5 :: a6 :: a7 :: a8 :: a9 :: .long x :: t) st w := by
  obtain ⟨hd, rfl⟩ := hd
  intro H locs ls hP hD hS hl
  exact lv_lload (rest := st.map (tr (eR E))) hX.1 hX.2.1 hd (lv_of hl 10 rfl (by intro z hz; cases hz)) (k H locs ls hP hD hS hl)
theorem g_aload10 {a0 a1 a2 a3 a4 a5 a6 a7 a8 a9 : Value} {t : List Value} {x : Nat} (hX : CX E X b own nL) (hd : Dc b pc (.aload 10) 2 pc2) (k : G0 E X ca sa pc2 (a0 :: a1 :: a2 :: a3 :: a4 :: a5 :: a6 :: a7 :: a8 :: a9 :: .ref x :: t) (.ref x :: st) w) : G0 E X ca sa pc (a0 :: a1 :: a2 :: a3 :: a4 :: a5 :: a6 :: a7 :: a8 :: a9 :: .ref x :: t) st w := by
  obtain ⟨hd, rfl⟩ := hd
  intro H locs ls hP hD hS hl
  exact lv_aload (rest := st.map (tr (eR E))) hX.1 hX.2.1 hd (lv_of hl 10 rfl (by intro z hz; cases hz)) (k H locs ls hP hD hS hl)
theorem g_aloadN10 {a0 a1 a2 a3 a4 a5 a6 a7 a8 a9 : Value} {t : List Value}  (hX : CX E X b own nL) (hd : Dc b pc (.aload 10) 2 pc2) (k : G0 E X ca sa pc2 (a0 :: a1 :: a2 :: a3 :: a4 :: a5 :: a6 :: a7 :: a8 :: a9 :: .null :: t) (.null :: st) w) : G0 E X ca sa pc (a0 :: a1 :: a2 :: a3 :: a4 :: a5 :: a6 :: a7 :: a8 :: a9 :: .null :: t) st w := by
  obtain ⟨hd, rfl⟩ := hd
  intro H locs ls hP hD hS hl
  exact lv_aloadN (rest := st.map (tr (eR E))) hX.1 hX.2.1 hd (lv_of hl 10 rfl (by intro z hz; cases hz)) (k H locs ls hP hD hS hl)
theorem g_istore10 {a0 a1 a2 a3 a4 a5 a6 a7 a8 a9 : Value} {v : Value} {t : List Value} {x : Int32} (hX : CX E X b own nL) (hd : Dc b pc (.istore 10) 2 pc2) (hp : a9.category = 1) (hn : 10 < nL) (k : G0 E X ca sa pc2 (a0 :: a1 :: a2 :: a3 :: a4 :: a5 :: a6 :: a7 :: a8 :: a9 :: .int x :: t) st w) : G0 E X ca sa pc (a0 :: a1 :: a2 :: a3 :: a4 :: a5 :: a6 :: a7 :: a8 :: a9 :: v :: t) (.int x :: st) w := by
  obtain ⟨hd, rfl⟩ := hd
  intro H locs ls hP hD hS hl
  exact lv_istore (rest := st.map (tr (eR E))) hX.1 hX.2.1 hd hl (by rw [hX.2.2.2.2.2.2.2.1]; exact hn) rfl (fun ls2 hl2 => k H locs ls2 hP hD hS (lv_put1 (r := eR E) (v := .int x) (L := a0 :: a1 :: a2 :: a3 :: a4 :: a5 :: a6 :: a7 :: a8 :: a9 :: v :: t) (by intro j u h1 h2; cases h1; cases h2; exact hp) hl2))
theorem g_astore10 {a0 a1 a2 a3 a4 a5 a6 a7 a8 a9 : Value} {v : Value} {t : List Value} {x : Nat} (hX : CX E X b own nL) (hd : Dc b pc (.astore 10) 2 pc2) (hp : a9.category = 1) (hn : 10 < nL) (k : G0 E X ca sa pc2 (a0 :: a1 :: a2 :: a3 :: a4 :: a5 :: a6 :: a7 :: a8 :: a9 :: .ref x :: t) st w) : G0 E X ca sa pc (a0 :: a1 :: a2 :: a3 :: a4 :: a5 :: a6 :: a7 :: a8 :: a9 :: v :: t) (.ref x :: st) w := by
  obtain ⟨hd, rfl⟩ := hd
  intro H locs ls hP hD hS hl
  exact lv_astore (rest := st.map (tr (eR E))) hX.1 hX.2.1 hd hl (by rw [hX.2.2.2.2.2.2.2.1]; exact hn) rfl (fun ls2 hl2 => k H locs ls2 hP hD hS (lv_put1 (r := eR E) (v := .ref x) (L := a0 :: a1 :: a2 :: a3 :: a4 :: a5 :: a6 :: a7 :: a8 :: a9 :: v :: t) (by intro j u h1 h2; cases h1; cases h2; exact hp) hl2))
theorem g_astoreN10 {a0 a1 a2 a3 a4 a5 a6 a7 a8 a9 : Value} {v : Value} {t : List Value}  (hX : CX E X b own nL) (hd : Dc b pc (.astore 10) 2 pc2) (hp : a9.category = 1) (hn : 10 < nL) (k : G0 E X ca sa pc2 (a0 :: a1 :: a2 :: a3 :: a4 :: a5 :: a6 :: a7 :: a8 :: a9 :: .null :: t) st w) : G0 E X ca sa pc (a0 :: a1 :: a2 :: a3 :: a4 :: a5 :: a6 :: a7 :: a8 :: a9 :: v :: t) (.null :: st) w := by
  obtain ⟨hd, rfl⟩ := hd
  intro H locs ls hP hD hS hl
  exact lv_astoreN (rest := st.map (tr (eR E))) hX.1 hX.2.1 hd hl (by rw [hX.2.2.2.2.2.2.2.1]; exact hn) rfl (fun ls2 hl2 => k H locs ls2 hP hD hS (lv_put1 (r := eR E) (v := .null) (L := a0 :: a1 :: a2 :: a3 :: a4 :: a5 :: a6 :: a7 :: a8 :: a9 :: v :: t) (by intro j u h1 h2; cases h1; cases h2; exact hp) hl2))
theorem g_lstore10 {a0 a1 a2 a3 a4 a5 a6 a7 a8 a9 : Value} {v v2 : Value} {t : List Value} {x : Int64} (hX : CX E X b own nL) (hd : Dc b pc (.lstore 10) 2 pc2) (hp : a9.category = 1) (hn : 11 < nL) (k : G0 E X ca sa pc2 (a0 :: a1 :: a2 :: a3 :: a4 :: a5 :: a6 :: a7 :: a8 :: a9 :: .long x :: un :: t) st w) : G0 E X ca sa pc (a0 :: a1 :: a2 :: a3 :: a4 :: a5 :: a6 :: a7 :: a8 :: a9 :: v :: v2 :: t) (.long x :: st) w := by
  obtain ⟨hd, rfl⟩ := hd
  intro H locs ls hP hD hS hl
  exact lv_lstore (rest := st.map (tr (eR E))) hX.1 hX.2.1 hd hl (by rw [hX.2.2.2.2.2.2.2.1]; exact hn) rfl (fun ls2 hl2 => k H locs ls2 hP hD hS (lv_put2 (r := eR E) (v := .long x) (L := a0 :: a1 :: a2 :: a3 :: a4 :: a5 :: a6 :: a7 :: a8 :: a9 :: v :: v2 :: t) (by intro j u h1 h2; cases h1; cases h2; exact hp) hl2))
theorem g_iinc10 {a0 a1 a2 a3 a4 a5 a6 a7 a8 a9 : Value} {t : List Value} {x v : Int32} {n : Int} (hX : CX E X b own nL) (hd : Dc b pc (.iinc 10 n) 3 pc2) (hv : x + Int32.ofInt n = v) (hp : a9.category = 1) (hn : 10 < nL) (k : G0 E X ca sa pc2 (a0 :: a1 :: a2 :: a3 :: a4 :: a5 :: a6 :: a7 :: a8 :: a9 :: .int v :: t) st w) : G0 E X ca sa pc (a0 :: a1 :: a2 :: a3 :: a4 :: a5 :: a6 :: a7 :: a8 :: a9 :: .int x :: t) st w := by
  obtain ⟨hd, rfl⟩ := hd
  intro H locs ls hP hD hS hl
  have hm := lvl_mem (r := eR E) (v := .int x) (by intro z hz; cases hz) (a0 :: a1 :: a2 :: a3 :: a4 :: a5 :: a6 :: a7 :: a8 :: a9 :: .int x :: t) 0 10 rfl
  rw [Nat.zero_add] at hm
  obtain ⟨k9, hk9⟩ := List.getElem?_of_mem hm
  exact lv_iinc (rest := st.map (tr (eR E))) hX.1 hX.2.1 hd hl hk9 hv (by rw [hX.2.2.2.2.2.2.2.1]; exact hn) rfl (fun ls2 hl2 => k H locs ls2 hP hD hS (lv_put1 (r := eR E) (v := .int v) (L := a0 :: a1 :: a2 :: a3 :: a4 :: a5 :: a6 :: a7 :: a8 :: a9 :: .int x :: t) (by intro j u h1 h2; cases h1; cases h2; exact hp) hl2))
theorem g_iload11 {a0 a1 a2 a3 a4 a5 a6 a7 a8 a9 a10 : Value} {t : List Value} {x : Int32} (hX : CX E X b own nL) (hd : Dc b pc (.iload 11) 2 pc2) (k : G0 E X ca sa pc2 (a0 :: a1 :: a2 :: a3 :: a4 :: a5 :: a6 :: a7 :: a8 :: a9 :: a10 :: .int x :: t) (.int x :: st) w) : G0 E X ca sa pc (a0 :: a1 :: a2 :: a3 :: a4 :: a5 :: a6 :: a7 :: a8 :: a9 :: a10 :: .int x :: t) st w := by
  obtain ⟨hd, rfl⟩ := hd
  intro H locs ls hP hD hS hl
  exact lv_iload (rest := st.map (tr (eR E))) hX.1 hX.2.1 hd (lv_of hl 11 rfl (by intro z hz; cases hz)) (k H locs ls hP hD hS hl)
theorem g_lload11 {a0 a1 a2 a3 a4 a5 a6 a7 a8 a9 a10 : Value} {t : List Value} {x : Int64} (hX : CX E X b own nL) (hd : Dc b pc (.lload 11) 2 pc2) (k : G0 E X ca sa pc2 (a0 :: a1 :: a2 :: a3 :: a4 :: a5 :: a6 :: a7 :: a8 :: a9 :: a10 :: .long x :: t) (.long x :: st) w) : G0 E X ca sa pc (a0 :: a1 :: a2 :: a3 :: a4 :: a5 :: a6 :: a7 :: a8 :: a9 :: a10 :: .long x :: t) st w := by
  obtain ⟨hd, rfl⟩ := hd
  intro H locs ls hP hD hS hl
  exact lv_lload (rest := st.map (tr (eR E))) hX.1 hX.2.1 hd (lv_of hl 11 rfl (by intro z hz; cases hz)) (k H locs ls hP hD hS hl)
theorem g_aload11 {a0 a1 a2 a3 a4 a5 a6 a7 a8 a9 a10 : Value} {t : List Value} {x : Nat} (hX : CX E X b own nL) (hd : Dc b pc (.aload 11) 2 pc2) (k : G0 E X ca sa pc2 (a0 :: a1 :: a2 :: a3 :: a4 :: a5 :: a6 :: a7 :: a8 :: a9 :: a10 :: .ref x :: t) (.ref x :: st) w) : G0 E X ca sa pc (a0 :: a1 :: a2 :: a3 :: a4 :: a5 :: a6 :: a7 :: a8 :: a9 :: a10 :: .ref x :: t) st w := by
  obtain ⟨hd, rfl⟩ := hd
  intro H locs ls hP hD hS hl
  exact lv_aload (rest := st.map (tr (eR E))) hX.1 hX.2.1 hd (lv_of hl 11 rfl (by intro z hz; cases hz)) (k H locs ls hP hD hS hl)
theorem g_aloadN11 {a0 a1 a2 a3 a4 a5 a6 a7 a8 a9 a10 : Value} {t : List Value}  (hX : CX E X b own nL) (hd : Dc b pc (.aload 11) 2 pc2) (k : G0 E X ca sa pc2 (a0 :: a1 :: a2 :: a3 :: a4 :: a5 :: a6 :: a7 :: a8 :: a9 :: a10 :: .null :: t) (.null :: st) w) : G0 E X ca sa pc (a0 :: a1 :: a2 :: a3 :: a4 :: a5 :: a6 :: a7 :: a8 :: a9 :: a10 :: .null :: t) st w := by
  obtain ⟨hd, rfl⟩ := hd
  intro H locs ls hP hD hS hl
  exact lv_aloadN (rest := st.map (tr (eR E))) hX.1 hX.2.1 hd (lv_of hl 11 rfl (by intro z hz; cases hz)) (k H locs ls hP hD hS hl)
theorem g_istore11 {a0 a1 a2 a3 a4 a5 a6 a7 a8 a9 a10 : Value} {v : Value} {t : List Value} {x : Int32} (hX : CX E X b own nL) (hd : Dc b pc (.istore 11) 2 pc2) (hp : a10.category = 1) (hn : 11 < nL) (k : G0 E X ca sa pc2 (a0 :: a1 :: a2 :: a3 :: a4 :: a5 :: a6 :: a7 :: a8 :: a9 :: a10 :: .int x :: t) st w) : G0 E X ca sa pc (a0 :: a1 :: a2 :: a3 :: a4 :: a5 :: a6 :: a7 :: a8 :: a9 :: a10 :: v :: t) (.int x :: st) w := by
  obtain ⟨hd, rfl⟩ := hd
  intro H locs ls hP hD hS hl
  exact lv_istore (rest := st.map (tr (eR E))) hX.1 hX.2.1 hd hl (by rw [hX.2.2.2.2.2.2.2.1]; exact hn) rfl (fun ls2 hl2 => k H locs ls2 hP hD hS (lv_put1 (r := eR E) (v := .int x) (L := a0 :: a1 :: a2 :: a3 :: a4 :: a5 :: a6 :: a7 :: a8 :: a9 :: a10 :: v :: t) (by intro j u h1 h2; cases h1; cases h2; exact hp) hl2))
theorem g_astore11 {a0 a1 a2 a3 a4 a5 a6 a7 a8 a9 a10 : Value} {v : Value} {t : List Value} {x : Nat} (hX : CX E X b own nL) (hd : Dc b pc (.astore 11) 2 pc2) (hp : a10.category = 1) (hn : 11 < nL) (k : G0 E X ca sa pc2 (a0 :: a1 :: a2 :: a3 :: a4 :: a5 :: a6 :: a7 :: a8 :: a9 :: a10 :: .ref x :: t) st w) : G0 E X ca sa pc (a0 :: a1 :: a2 :: a3 :: a4 :: a5 :: a6 :: a7 :: a8 :: a9 :: a10 :: v :: t) (.ref x :: st) w := by
  obtain ⟨hd, rfl⟩ := hd
  intro H locs ls hP hD hS hl
  exact lv_astore (rest := st.map (tr (eR E))) hX.1 hX.2.1 hd hl (by rw [hX.2.2.2.2.2.2.2.1]; exact hn) rfl (fun ls2 hl2 => k H locs ls2 hP hD hS (lv_put1 (r := eR E) (v := .ref x) (L := a0 :: a1 :: a2 :: a3 :: a4 :: a5 :: a6 :: a7 :: a8 :: a9 :: a10 :: v :: t) (by intro j u h1 h2; cases h1; cases h2; exact hp) hl2))
theorem g_astoreN11 {a0 a1 a2 a3 a4 a5 a6 a7 a8 a9 a10 : Value} {v : Value} {t : List Value}  (hX : CX E X b own nL) (hd : Dc b pc (.astore 11) 2 pc2) (hp : a10.category = 1) (hn : 11 < nL) (k : G0 E X ca sa pc2 (a0 :: a1 :: a2 :: a3 :: a4 :: a5 :: a6 :: a7 :: a8 :: a9 :: a10 :: .null :: t) st w) : G0 E X ca sa pc (a0 :: a1 :: a2 :: a3 :: a4 :: a5 :: a6 :: a7 :: a8 :: a9 :: a10 :: v :: t) (.null :: st) w := by
  obtain ⟨hd, rfl⟩ := hd
  intro H locs ls hP hD hS hl
  exact lv_astoreN (rest := st.map (tr (eR E))) hX.1 hX.2.1 hd hl (by rw [hX.2.2.2.2.2.2.2.1]; exact hn) rfl (fun ls2 hl2 => k H locs ls2 hP hD hS (lv_put1 (r := eR E) (v := .null) (L := a0 :: a1 :: a2 :: a3 :: a4 :: a5 :: a6 :: a7 :: a8 :: a9 :: a10 :: v :: t) (by intro j u h1 h2; cases h1; cases h2; exact hp) hl2))
theorem g_lstore11 {a0 a1 a2 a3 a4 a5 a6 a7 a8 a9 a10 : Value} {v v2 : Value} {t : List Value} {x : Int64} (hX : CX E X b own nL) (hd : Dc b pc (.lstore 11) 2 pc2) (hp : a10.category = 1) (hn : 12 < nL) (k : G0 E X ca sa pc2 (a0 :: a1 :: a2 :: a3 :: a4 :: a5 :: a6 :: a7 :: a8 :: a9 :: a10 :: .long x :: un :: t) st w) : G0 E X ca sa pc (a0 :: a1 :: a2 :: a3 :: a4 :: a5 :: a6 :: a7 :: a8 :: a9 :: a10 :: v :: v2 :: t) (.long x :: st) w := by
  obtain ⟨hd, rfl⟩ := hd
  intro H locs ls hP hD hS hl
  exact lv_lstore (rest := st.map (tr (eR E))) hX.1 hX.2.1 hd hl (by rw [hX.2.2.2.2.2.2.2.1]; exact hn) rfl (fun ls2 hl2 => k H locs ls2 hP hD hS (lv_put2 (r := eR E) (v := .long x) (L := a0 :: a1 :: a2 :: a3 :: a4 :: a5 :: a6 :: a7 :: a8 :: a9 :: a10 :: v :: v2 :: t) (by intro j u h1 h2; cases h1; cases h2; exact hp) hl2))
theorem g_iinc11 {a0 a1 a2 a3 a4 a5 a6 a7 a8 a9 a10 : Value} {t : List Value} {x v : Int32} {n : Int} (hX : CX E X b own nL) (hd : Dc b pc (.iinc 11 n) 3 pc2) (hv : x + Int32.ofInt n = v) (hp : a10.category = 1) (hn : 11 < nL) (k : G0 E X ca sa pc2 (a0 :: a1 :: a2 :: a3 :: a4 :: a5 :: a6 :: a7 :: a8 :: a9 :: a10 :: .int v :: t) st w) : G0 E X ca sa pc (a0 :: a1 :: a2 :: a3 :: a4 :: a5 :: a6 :: a7 :: a8 :: a9 :: a10 :: .int x :: t) st w := by
  obtain ⟨hd, rfl⟩ := hd
  intro H locs ls hP hD hS hl
  have hm := lvl_mem (r := eR E) (v := .int x) (by intro z hz; cases hz) (a0 :: a1 :: a2 :: a3 :: a4 :: a5 :: a6 :: a7 :: a8 :: a9 :: a10 :: .int x :: t) 0 11 rfl
  rw [Nat.zero_add] at hm
  obtain ⟨k9, hk9⟩ := List.getElem?_of_mem hm
  exact lv_iinc (rest := st.map (tr (eR E))) hX.1 hX.2.1 hd hl hk9 hv (by rw [hX.2.2.2.2.2.2.2.1]; exact hn) rfl (fun ls2 hl2 => k H locs ls2 hP hD hS (lv_put1 (r := eR E) (v := .int v) (L := a0 :: a1 :: a2 :: a3 :: a4 :: a5 :: a6 :: a7 :: a8 :: a9 :: a10 :: .int x :: t) (by intro j u h1 h2; cases h1; cases h2; exact hp) hl2))
theorem g_iload12 {a0 a1 a2 a3 a4 a5 a6 a7 a8 a9 a10 a11 : Value} {t : List Value} {x : Int32} (hX : CX E X b own nL) (hd : Dc b pc (.iload 12) 2 pc2) (k : G0 E X ca sa pc2 (a0 :: a1 :: a2 :: a3 :: a4 :: a5 :: a6 :: a7 :: a8 :: a9 :: a10 :: a11 :: .int x :: t) (.int x :: st) w) : G0 E X ca sa pc (a0 :: a1 :: a2 :: a3 :: a4 :: a5 :: a6 :: a7 :: a8 :: a9 :: a10 :: a11 :: .int x :: t) st w := by
  obtain ⟨hd, rfl⟩ := hd
  intro H locs ls hP hD hS hl
  exact lv_iload (rest := st.map (tr (eR E))) hX.1 hX.2.1 hd (lv_of hl 12 rfl (by intro z hz; cases hz)) (k H locs ls hP hD hS hl)
theorem g_lload12 {a0 a1 a2 a3 a4 a5 a6 a7 a8 a9 a10 a11 : Value} {t : List Value} {x : Int64} (hX : CX E X b own nL) (hd : Dc b pc (.lload 12) 2 pc2) (k : G0 E X ca sa pc2 (a0 :: a1 :: a2 :: a3 :: a4 :: a5 :: a6 :: a7 :: a8 :: a9 :: a10 :: a11 :: .long x :: t) (.long x :: st) w) : G0 E X ca sa pc (a0 :: a1 :: a2 :: a3 :: a4 :: a5 :: a6 :: a7 :: a8 :: a9 :: a10 :: a11 :: .long x :: t) st w := by
  obtain ⟨hd, rfl⟩ := hd
  intro H locs ls hP hD hS hl
  exact lv_lload (rest := st.map (tr (eR E))) hX.1 hX.2.1 hd (lv_of hl 12 rfl (by intro z hz; cases hz)) (k H locs ls hP hD hS hl)
theorem g_aload12 {a0 a1 a2 a3 a4 a5 a6 a7 a8 a9 a10 a11 : Value} {t : List Value} {x : Nat} (hX : CX E X b own nL) (hd : Dc b pc (.aload 12) 2 pc2) (k : G0 E X ca sa pc2 (a0 :: a1 :: a2 :: a3 :: a4 :: a5 :: a6 :: a7 :: a8 :: a9 :: a10 :: a11 :: .ref x :: t) (.ref x :: st) w) : G0 E X ca sa pc (a0 :: a1 :: a2 :: a3 :: a4 :: a5 :: a6 :: a7 :: a8 :: a9 :: a10 :: a11 :: .ref x :: t) st w := by
  obtain ⟨hd, rfl⟩ := hd
  intro H locs ls hP hD hS hl
  exact lv_aload (rest := st.map (tr (eR E))) hX.1 hX.2.1 hd (lv_of hl 12 rfl (by intro z hz; cases hz)) (k H locs ls hP hD hS hl)
theorem g_aloadN12 {a0 a1 a2 a3 a4 a5 a6 a7 a8 a9 a10 a11 : Value} {t : List Value}  (hX : CX E X b own nL) (hd : Dc b pc (.aload 12) 2 pc2) (k : G0 E X ca sa pc2 (a0 :: a1 :: a2 :: a3 :: a4 :: a5 :: a6 :: a7 :: a8 :: a9 :: a10 :: a11 :: .null :: t) (.null :: st) w) : G0 E X ca sa pc (a0 :: a1 :: a2 :: a3 :: a4 :: a5 :: a6 :: a7 :: a8 :: a9 :: a10 :: a11 :: .null :: t) st w := by
  obtain ⟨hd, rfl⟩ := hd
  intro H locs ls hP hD hS hl
  exact lv_aloadN (rest := st.map (tr (eR E))) hX.1 hX.2.1 hd (lv_of hl 12 rfl (by intro z hz; cases hz)) (k H locs ls hP hD hS hl)
theorem g_istore12 {a0 a1 a2 a3 a4 a5 a6 a7 a8 a9 a10 a11 : Value} {v : Value} {t : List Value} {x : Int32} (hX : CX E X b own nL) (hd : Dc b pc (.istore 12) 2 pc2) (hp : a11.category = 1) (hn : 12 < nL) (k : G0 E X ca sa pc2 (a0 :: a1 :: a2 :: a3 :: a4 :: a5 :: a6 :: a7 :: a8 :: a9 :: a10 :: a11 :: .int x :: t) st w) : G0 E X ca sa pc (a0 :: a1 :: a2 :: a3 :: a4 :: a5 :: a6 :: a7 :: a8 :: a9 :: a10 :: a11 :: v :: t) (.int x :: st) w := by
  obtain ⟨hd, rfl⟩ := hd
  intro H locs ls hP hD hS hl
  exact lv_istore (rest := st.map (tr (eR E))) hX.1 hX.2.1 hd hl (by rw [hX.2.2.2.2.2.2.2.1]; exact hn) rfl (fun ls2 hl2 => k H locs ls2 hP hD hS (lv_put1 (r := eR E) (v := .int x) (L := a0 :: a1 :: a2 :: a3 :: a4 :: a5 :: a6 :: a7 :: a8 :: a9 :: a10 :: a11 :: v :: t) (by intro j u h1 h2; cases h1; cases h2; exact hp) hl2))
theorem g_astore12 {a0 a1 a2 a3 a4 a5 a6 a7 a8 a9 a10 a11 : Value} {v : Value} {t : List Value} {x : Nat} (hX : CX E X b own nL) (hd : Dc b pc (.astore 12) 2 pc2) (hp : a11.category = 1) (hn : 12 < nL) (k : G0 E X ca sa pc2 (a0 :: a1 :: a2 :: a3 :: a4 :: a5 :: a6 :: a7 :: a8 :: a9 :: a10 :: a11 :: .ref x :: t) st w) : G0 E X ca sa pc (a0 :: a1 :: a2 :: a3 :: a4 :: a5 :: a6 :: a7 :: a8 :: a9 :: a10 :: a11 :: v :: t) (.ref x :: st) w := by
  obtain ⟨hd, rfl⟩ := hd
  intro H locs ls hP hD hS hl
  exact lv_astore (rest := st.map (tr (eR E))) hX.1 hX.2.1 hd hl (by rw [hX.2.2.2.2.2.2.2.1]; exact hn) rfl (fun ls2 hl2 => k H locs ls2 hP hD hS (lv_put1 (r := eR E) (v := .ref x) (L := a0 :: a1 :: a2 :: a3 :: a4 :: a5 :: a6 :: a7 :: a8 :: a9 :: a10 :: a11 :: v :: t) (by intro j u h1 h2; cases h1; cases h2; exact hp) hl2))
theorem g_astoreN12 {a0 a1 a2 a3 a4 a5 a6 a7 a8 a9 a10 a11 : Value} {v : Value} {t : List Value}  (hX : CX E X b own nL) (hd : Dc b pc (.astore 12) 2 pc2) (hp : a11.category = 1) (hn : 12 < nL) (k : G0 E X ca sa pc2 (a0 :: a1 :: a2 :: a3 :: a4 :: a5 :: a6 :: a7 :: a8 :: a9 :: a10 :: a11 :: .null :: t) st w) : G0 E X ca sa pc (a0 :: a1 :: a2 :: a3 :: a4 :: a5 :: a6 :: a7 :: a8 :: a9 :: a10 :: a11 :: v :: t) (.null :: st) w := by
  obtain ⟨hd, rfl⟩ := hd
  intro H locs ls hP hD hS hl
  exact lv_astoreN (rest := st.map (tr (eR E))) hX.1 hX.2.1 hd hl (by rw [hX.2.2.2.2.2.2.2.1]; exact hn) rfl (fun ls2 hl2 => k H locs ls2 hP hD hS (lv_put1 (r := eR E) (v := .null) (L := a0 :: a1 :: a2 :: a3 :: a4 :: a5 :: a6 :: a7 :: a8 :: a9 :: a10 :: a11 :: v :: t) (by intro j u h1 h2; cases h1; cases h2; exact hp) hl2))
theorem g_lstore12 {a0 a1 a2 a3 a4 a5 a6 a7 a8 a9 a10 a11 : Value} {v v2 : Value} {t : List Value} {x : Int64} (hX : CX E X b own nL) (hd : Dc b pc (.lstore 12) 2 pc2) (hp : a11.category = 1) (hn : 13 < nL) (k : G0 E X ca sa pc2 (a0 :: a1 :: a2 :: a3 :: a4 :: a5 :: a6 :: a7 :: a8 :: a9 :: a10 :: a11 :: .long x :: un :: t) st w) : G0 E X ca sa pc (a0 :: a1 :: a2 :: a3 :: a4 :: a5 :: a6 :: a7 :: a8 :: a9 :: a10 :: a11 :: v :: v2 :: t) (.long x :: st) w := by
  obtain ⟨hd, rfl⟩ := hd
  intro H locs ls hP hD hS hl
  exact lv_lstore (rest := st.map (tr (eR E))) hX.1 hX.2.1 hd hl (by rw [hX.2.2.2.2.2.2.2.1]; exact hn) rfl (fun ls2 hl2 => k H locs ls2 hP hD hS (lv_put2 (r := eR E) (v := .long x) (L := a0 :: a1 :: a2 :: a3 :: a4 :: a5 :: a6 :: a7 :: a8 :: a9 :: a10 :: a11 :: v :: v2 :: t) (by intro j u h1 h2; cases h1; cases h2; exact hp) hl2))
theorem g_iinc12 {a0 a1 a2 a3 a4 a5 a6 a7 a8 a9 a10 a11 : Value} {t : List Value} {x v : Int32} {n : Int} (hX : CX E X b own nL) (hd : Dc b pc (.iinc 12 n) 3 pc2) (hv : x + Int32.ofInt n = v) (hp : a11.category = 1) (hn : 12 < nL) (k : G0 E X ca sa pc2 (a0 :: a1 :: a2 :: a3 :: a4 :: a5 :: a6 :: a7 :: a8 :: a9 :: a10 :: a11 :: .int v :: t) st w) : G0 E X ca sa pc (a0 :: a1 :: a2 :: a3 :: a4 :: a5 :: a6 :: a7 :: a8 :: a9 :: a10 :: a11 :: .int x :: t) st w := by
  obtain ⟨hd, rfl⟩ := hd
  intro H locs ls hP hD hS hl
  have hm := lvl_mem (r := eR E) (v := .int x) (by intro z hz; cases hz) (a0 :: a1 :: a2 :: a3 :: a4 :: a5 :: a6 :: a7 :: a8 :: a9 :: a10 :: a11 :: .int x :: t) 0 12 rfl
  rw [Nat.zero_add] at hm
  obtain ⟨k9, hk9⟩ := List.getElem?_of_mem hm
  exact lv_iinc (rest := st.map (tr (eR E))) hX.1 hX.2.1 hd hl hk9 hv (by rw [hX.2.2.2.2.2.2.2.1]; exact hn) rfl (fun ls2 hl2 => k H locs ls2 hP hD hS (lv_put1 (r := eR E) (v := .int v) (L := a0 :: a1 :: a2 :: a3 :: a4 :: a5 :: a6 :: a7 :: a8 :: a9 :: a10 :: a11 :: .int x :: t) (by intro j u h1 h2; cases h1; cases h2; exact hp) hl2))
theorem g_iload13 {a0 a1 a2 a3 a4 a5 a6 a7 a8 a9 a10 a11 a12 : Value} {t : List Value} {x : Int32} (hX : CX E X b own nL) (hd : Dc b pc (.iload 13) 2 pc2) (k : G0 E X ca sa pc2 (a0 :: a1 :: a2 :: a3 :: a4 :: a5 :: a6 :: a7 :: a8 :: a9 :: a10 :: a11 :: a12 :: .int x :: t) (.int x :: st) w) : G0 E X ca sa pc (a0 :: a1 :: a2 :: a3 :: a4 :: a5 :: a6 :: a7 :: a8 :: a9 :: a10 :: a11 :: a12 :: .int x :: t) st w := by
  obtain ⟨hd, rfl⟩ := hd
  intro H locs ls hP hD hS hl
  exact lv_iload (rest := st.map (tr (eR E))) hX.1 hX.2.1 hd (lv_of hl 13 rfl (by intro z hz; cases hz)) (k H locs ls hP hD hS hl)
theorem g_lload13 {a0 a1 a2 a3 a4 a5 a6 a7 a8 a9 a10 a11 a12 : Value} {t : List Value} {x : Int64} (hX : CX E X b own nL) (hd : Dc b pc (.lload 13) 2 pc2) (k : G0 E X ca sa pc2 (a0 :: a1 :: a2 :: a3 :: a4 :: a5 :: a6 :: a7 :: a8 :: a9 :: a10 :: a11 :: a12 :: .long x :: t) (.long x :: st) w) : G0 E X ca sa pc (a0 :: a1 :: a2 :: a3 :: a4 :: a5 :: a6 :: a7 :: a8 :: a9 :: a10 :: a11 :: a12 :: .long x :: t) st w := by
  obtain ⟨hd, rfl⟩ := hd
  intro H locs ls hP hD hS hl
  exact lv_lload (rest := st.map (tr (eR E))) hX.1 hX.2.1 hd (lv_of hl 13 rfl (by intro z hz; cases hz)) (k H locs ls hP hD hS hl)
theorem g_aload13 {a0 a1 a2 a3 a4 a5 a6 a7 a8 a9 a10 a11 a12 : Value} {t : List Value} {x : Nat} (hX : CX E X b own nL) (hd : Dc b pc (.aload 13) 2 pc2) (k : G0 E X ca sa pc2 (a0 :: a1 :: a2 :: a3 :: a4 :: a5 :: a6 :: a7 :: a8 :: a9 :: a10 :: a11 :: a12 :: .ref x :: t) (.ref x :: st) w) : G0 E X ca sa pc (a0 :: a1 :: a2 :: a3 :: a4 :: a5 :: a6 :: a7 :: a8 :: a9 :: a10 :: a11 :: a12 :: .ref x :: t) st w := by
  obtain ⟨hd, rfl⟩ := hd
  intro H locs ls hP hD hS hl
  exact lv_aload (rest := st.map (tr (eR E))) hX.1 hX.2.1 hd (lv_of hl 13 rfl (by intro z hz; cases hz)) (k H locs ls hP hD hS hl)
theorem g_aloadN13 {a0 a1 a2 a3 a4 a5 a6 a7 a8 a9 a10 a11 a12 : Value} {t : List Value}  (hX : CX E X b own nL) (hd : Dc b pc (.aload 13) 2 pc2) (k : G0 E X ca sa pc2 (a0 :: a1 :: a2 :: a3 :: a4 :: a5 :: a6 :: a7 :: a8 :: a9 :: a10 :: a11 :: a12 :: .null :: t) (.null :: st) w) : G0 E X ca sa pc (a0 :: a1 :: a2 :: a3 :: a4 :: a5 :: a6 :: a7 :: a8 :: a9 :: a10 :: a11 :: a12 :: .null :: t) st w := by
  obtain ⟨hd, rfl⟩ := hd
  intro H locs ls hP hD hS hl
  exact lv_aloadN (rest := st.map (tr (eR E))) hX.1 hX.2.1 hd (lv_of hl 13 rfl (by intro z hz; cases hz)) (k H locs ls hP hD hS hl)
theorem g_istore13 {a0 a1 a2 a3 a4 a5 a6 a7 a8 a9 a10 a11 a12 : Value} {v : Value} {t : List Value} {x : Int32} (hX : CX E X b own nL) (hd : Dc b pc (.istore 13) 2 pc2) (hp : a12.category = 1) (hn : 13 < nL) (k : G0 E X ca sa pc2 (a0 :: a1 :: a2 :: a3 :: a4 :: a5 :: a6 :: a7 :: a8 :: a9 :: a10 :: a11 :: a12 :: .int x :: t) st w) : G0 E X ca sa pc (a0 :: a1 :: a2 :: a3 :: a4 :: a5 :: a6 :: a7 :: a8 :: a9 :: a10 :: a11 :: a12 :: v :: t) (.int x :: st) w := by
  obtain ⟨hd, rfl⟩ := hd
  intro H locs ls hP hD hS hl
  exact lv_istore (rest := st.map (tr (eR E))) hX.1 hX.2.1 hd hl (by rw [hX.2.2.2.2.2.2.2.1]; exact hn) rfl (fun ls2 hl2 => k H locs ls2 hP hD hS (lv_put1 (r := eR E) (v := .int x) (L := a0 :: a1 :: a2 :: a3 :: a4 :: a5 :: a6 :: a7 :: a8 :: a9 :: a10 :: a11 :: a12 :: v :: t) (by intro j u h1 h2; cases h1; cases h2; exact hp) hl2))
theorem g_astore13 {a0 a1 a2 a3 a4 a5 a6 a7 a8 a9 a10 a11 a12 : Value} {v : Value} {t : List Value} {x : Nat} (hX : CX E X b own nL) (hd : Dc b pc (.astore 13) 2 pc2) (hp : a12.category = 1) (hn : 13 < nL) (k : G0 E X ca sa pc2 (a0 :: a1 :: a2 :: a3 :: a4 :: a5 :: a6 :: a7 :: a8 :: a9 :: a10 :: a11 :: a12 :: .ref x :: t) st w) : G0 E X ca sa pc (a0 :: a1 :: a2 :: a3 :: a4 :: a5 :: a6 :: a7 :: a8 :: a9 :: a10 :: a11 :: a12 :: v :: t) (.ref x :: st) w := by
  obtain ⟨hd, rfl⟩ := hd
  intro H locs ls hP hD hS hl
  exact lv_astore (rest := st.map (tr (eR E))) hX.1 hX.2.1 hd hl (by rw [hX.2.2.2.2.2.2.2.1]; exact hn) rfl (fun ls2 hl2 => k H locs ls2 hP hD hS (lv_put1 (r := eR E) (v := .ref x) (L := a0 :: a1 :: a2 :: a3 :: a4 :: a5 :: a6 :: a7 :: a8 :: a9 :: a10 :: a11 :: a12 :: v :: t) (by intro j u h1 h2; cases h1; cases h2; exact hp) hl2))
theorem g_astoreN13 {a0 a1 a2 a3 a4 a5 a6 a7 a8 a9 a10 a11 a12 : Value} {v : Value} {t : List Value}  (hX : CX E X b own nL) (hd : Dc b pc (.astore 13) 2 pc2) (hp : a12.category = 1) (hn : 13 < nL) (k : G0 E X ca sa pc2 (a0 :: a1 :: a2 :: a3 :: a4 :: a5 :: a6 :: a7 :: a8 :: a9 :: a10 :: a11 :: a12 :: .null :: t) st w) : G0 E X ca sa pc (a0 :: a1 :: a2 :: a3 :: a4 :: a5 :: a6 :: a7 :: a8 :: a9 :: a10 :: a11 :: a12 :: v :: t) (.null :: st) w := by
  obtain ⟨hd, rfl⟩ := hd
  intro H locs ls hP hD hS hl
  exact lv_astoreN (rest := st.map (tr (eR E))) hX.1 hX.2.1 hd hl (by rw [hX.2.2.2.2.2.2.2.1]; exact hn) rfl (fun ls2 hl2 => k H locs ls2 hP hD hS (lv_put1 (r := eR E) (v := .null) (L := a0 :: a1 :: a2 :: a3 :: a4 :: a5 :: a6 :: a7 :: a8 :: a9 :: a10 :: a11 :: a12 :: v :: t) (by intro j u h1 h2; cases h1; cases h2; exact hp) hl2))
theorem g_lstore13 {a0 a1 a2 a3 a4 a5 a6 a7 a8 a9 a10 a11 a12 : Value} {v v2 : Value} {t : List Value} {x : Int64} (hX : CX E X b own nL) (hd : Dc b pc (.lstore 13) 2 pc2) (hp : a12.category = 1) (hn : 14 < nL) (k : G0 E X ca sa pc2 (a0 :: a1 :: a2 :: a3 :: a4 :: a5 :: a6 :: a7 :: a8 :: a9 :: a10 :: a11 :: a12 :: .long x :: un :: t) st w) : G0 E X ca sa pc (a0 :: a1 :: a2 :: a3 :: a4 :: a5 :: a6 :: a7 :: a8 :: a9 :: a10 :: a11 :: a12 :: v :: v2 :: t) (.long x :: st) w := by
  obtain ⟨hd, rfl⟩ := hd
  intro H locs ls hP hD hS hl
  exact lv_lstore (rest := st.map (tr (eR E))) hX.1 hX.2.1 hd hl (by rw [hX.2.2.2.2.2.2.2.1]; exact hn) rfl (fun ls2 hl2 => k H locs ls2 hP hD hS (lv_put2 (r := eR E) (v := .long x) (L := a0 :: a1 :: a2 :: a3 :: a4 :: a5 :: a6 :: a7 :: a8 :: a9 :: a10 :: a11 :: a12 :: v :: v2 :: t) (by intro j u h1 h2; cases h1; cases h2; exact hp) hl2))
theorem g_iinc13 {a0 a1 a2 a3 a4 a5 a6 a7 a8 a9 a10 a11 a12 : Value} {t : List Value} {x v : Int32} {n : Int} (hX : CX E X b own nL) (hd : Dc b pc (.iinc 13 n) 3 pc2) (hv : x + Int32.ofInt n = v) (hp : a12.category = 1) (hn : 13 < nL) (k : G0 E X ca sa pc2 (a0 :: a1 :: a2 :: a3 :: a4 :: a5 :: a6 :: a7 :: a8 :: a9 :: a10 :: a11 :: a12 :: .int v :: t) st w) : G0 E X ca sa pc (a0 :: a1 :: a2 :: a3 :: a4 :: a5 :: a6 :: a7 :: a8 :: a9 :: a10 :: a11 :: a12 :: .int x :: t) st w := by
  obtain ⟨hd, rfl⟩ := hd
  intro H locs ls hP hD hS hl
  have hm := lvl_mem (r := eR E) (v := .int x) (by intro z hz; cases hz) (a0 :: a1 :: a2 :: a3 :: a4 :: a5 :: a6 :: a7 :: a8 :: a9 :: a10 :: a11 :: a12 :: .int x :: t) 0 13 rfl
  rw [Nat.zero_add] at hm
  obtain ⟨k9, hk9⟩ := List.getElem?_of_mem hm
  exact lv_iinc (rest := st.map (tr (eR E))) hX.1 hX.2.1 hd hl hk9 hv (by rw [hX.2.2.2.2.2.2.2.1]; exact hn) rfl (fun ls2 hl2 => k H locs ls2 hP hD hS (lv_put1 (r := eR E) (v := .int v) (L := a0 :: a1 :: a2 :: a3 :: a4 :: a5 :: a6 :: a7 :: a8 :: a9 :: a10 :: a11 :: a12 :: .int x :: t) (by intro j u h1 h2; cases h1; cases h2; exact hp) hl2))
end G1
