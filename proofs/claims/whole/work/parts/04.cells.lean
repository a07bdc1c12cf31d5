/-- the name a lives, and is of the kind s -/
def Lv (w : Mem) (a : Nat) (s : Nat × Nat) : Prop := a ∈ nms w ∧ sh w a = s ∧ s.2 < 100000
theorem Lv.st {a : Nat} {s : Nat × Nat} (w : Mem) (h : a < 128) (hs : shpL.getD a (0, 0) = s) (h2 : s.2 < 100000) : Lv w a s :=
  ⟨List.mem_append_left _ (List.mem_range.mpr h), by unfold sh; rw [if_pos (by omega)]; exact hs, h2⟩
theorem ws_at {w : Mem} {a : Nat} (h : a ∈ nms w) : ∃ q : Nat, (nms w)[q]? = some a := List.getElem?_of_mem h
theorem ws_get (E : EV) {w : Mem} {a q : Nat} (h : (nms w)[q]? = some a) : (wsOf E w)[q]? = some (eR E a, cellOf E w a) := by
  unfold wsOf
  rw [List.getElem?_map, h]
  rfl
theorem ws_set {E : EV} {A : Nat → Prop} {w w2 : Mem} {a q : Nat} {c : va_E} (hD : va_D A (wsOf E w)) (hq : (nms w)[q]? = some a) (hn : nms w2 = nms w) (hc : cellOf E w2 a = c) (ho : ∀ j, j ≠ a → cellOf E w2 j = cellOf E w j) : (wsOf E w).set q (eR E a, c) = wsOf E w2 := by
  subst hc
  apply List.ext_getElem?
  intro i
  rw [List.getElem?_set]
  by_cases hi : q = i
  · subst hi
    have hlt : q < (wsOf E w).length := (List.getElem?_eq_some_iff.mp (ws_get E hq)).1
    rw [if_pos rfl, if_pos hlt, ws_get E (hn ▸ hq)]
  · rw [if_neg hi]
    unfold wsOf
    rw [List.getElem?_map, List.getElem?_map, hn]
    cases hj : (nms w)[i]? with
    | none => rfl
    | some j =>
      have hja : j ≠ a := by
        intro e
        subst e
        exact hi (hD.1 q i _ _ (ws_get E hq) (ws_get E hj) rfl)
      show some (eR E j, cellOf E w j) = some (eR E j, cellOf E w2 j)
      rw [ho j hja]
theorem cell_congr {E : EV} {w w2 : Mem} {j : Nat} (h1 : sh w2 j = sh w j) (h2 : rI w2 j = rI w j) (h3 : rJ w2 j = rJ w j) (h4 : rR w2 j = rR w j) : cellOf E w2 j = cellOf E w j := by
  unfold cellOf
  rw [h1, h2, h3, h4]
theorem rI_sI (w : Mem) (o k : Nat) (x : Int32) : rI (sI w o k x) o = upd (rI w o) k x := by simp [rI, sI]
theorem rI_sI_ne (w : Mem) {o j : Nat} (k : Nat) (x : Int32) (h : j ≠ o) : rI (sI w o k x) j = rI w j := by simp [rI, sI, h]
theorem rJ_sJ (w : Mem) (o k : Nat) (x : Int64) : rJ (sJ w o k x) o = vp_updL (rJ w o) k x := by simp [rJ, sJ]
theorem rJ_sJ_ne (w : Mem) {o j : Nat} (k : Nat) (x : Int64) (h : j ≠ o) : rJ (sJ w o k x) j = rJ w j := by simp [rJ, sJ, h]
theorem rR_sR (w : Mem) (o k : Nat) (x : Option Nat) : rR (sR w o k x) o = va_up (rR w o) k x := by simp [rR, sR]
theorem rR_sR_ne (w : Mem) {o j : Nat} (k : Nat) (x : Option Nat) (h : j ≠ o) : rR (sR w o k x) j = rR w j := by simp [rR, sR, h]
theorem rI_sA (w : Mem) (o : Nat) (f : Nat → Int32) : rI (sA w o f) o = f := by simp [rI, sA]
theorem rI_sA_ne (w : Mem) {o j : Nat} (f : Nat → Int32) (h : j ≠ o) : rI (sA w o f) j = rI w j := by simp [rI, sA, h]
theorem rJ_sB (w : Mem) (o : Nat) (f : Nat → Int64) : rJ (sB w o f) o = f := by simp [rJ, sB]
theorem rJ_sB_ne (w : Mem) {o j : Nat} (f : Nat → Int64) (h : j ≠ o) : rJ (sB w o f) j = rJ w j := by simp [rJ, sB, h]
theorem cell_sI {E : EV} {w : Mem} {o j : Nat} (k : Nat) (x : Int32) (h : j ≠ o) : cellOf E (sI w o k x) j = cellOf E w j := cell_congr rfl (rI_sI_ne w k x h) rfl rfl
theorem cell_sJ {E : EV} {w : Mem} {o j : Nat} (k : Nat) (x : Int64) (h : j ≠ o) : cellOf E (sJ w o k x) j = cellOf E w j := cell_congr rfl rfl (rJ_sJ_ne w k x h) rfl
theorem cell_sR {E : EV} {w : Mem} {o j : Nat} (k : Nat) (x : Option Nat) (h : j ≠ o) : cellOf E (sR w o k x) j = cellOf E w j := cell_congr rfl rfl rfl (rR_sR_ne w k x h)
theorem cell_sA {E : EV} {w : Mem} {o j : Nat} (f : Nat → Int32) (h : j ≠ o) : cellOf E (sA w o f) j = cellOf E w j := cell_congr rfl (rI_sA_ne w f h) rfl rfl
theorem cell_sB {E : EV} {w : Mem} {o j : Nat} (f : Nat → Int64) (h : j ≠ o) : cellOf E (sB w o f) j = cellOf E w j := cell_congr rfl rfl (rJ_sB_ne w f h) rfl
theorem cell_obj {E : EV} {w : Mem} {o ci : Nat} (h : sh w o = (1, ci)) : cellOf E w o = .inr (ci, (List.range (fN ci)).map (fval E ci o (rI w o) (rJ w o) (rR w o))) := by
  unfold cellOf mkCell
  rw [h, if_pos rfl]
theorem cell_ints {E : EV} {w : Mem} {o n : Nat} (h : sh w o = (2, n)) : cellOf E w o = .inl (eC E 0, n, .inl (rI w o)) := by
  unfold cellOf mkCell
  simp [h]
theorem cell_longs {E : EV} {w : Mem} {o n : Nat} (h : sh w o = (3, n)) : cellOf E w o = .inl (eC E 1, n, .inr (.inl (rJ w o))) := by
  unfold cellOf mkCell
  simp [h]
theorem cell_bools {E : EV} {w : Mem} {o n : Nat} (h : sh w o = (4, n)) : cellOf E w o = .inl (eC E 2, n, .inl (rI w o)) := by
  unfold cellOf mkCell
  simp [h]
theorem cell_progs {E : EV} {w : Mem} {o n : Nat} (h : sh w o = (5, n)) : cellOf E w o = .inl (eC E 3, n, .inr (.inr (.inr (.inr (fun i => (rR w o i).map (eR E)))))) := by
  unfold cellOf mkCell
  simp [h]
theorem cell_boards {E : EV} {w : Mem} {o n : Nat} (h : sh w o = (6, n)) : cellOf E w o = .inl (eC E 4, n, .inr (.inr (.inr (.inr (fun i => (rR w o i).map (eR E)))))) := by
  unfold cellOf mkCell
  simp [h]
theorem fv_get {E : EV} {ci o k : Nat} {f : Nat → Int32} {g : Nat → Int64} {r : Nat → Option Nat} (h : k < fN ci) : ((List.range (fN ci)).map (fval E ci o f g r))[k]? = some (fval E ci o f g r k) := by
  rw [List.getElem?_map, List.getElem?_range h]
  rfl
theorem fv_set {E : EV} {ci o k : Nat} {v : Value} {f f2 : Nat → Int32} {g g2 : Nat → Int64} {r r2 : Nat → Option Nat} (hk : k < fN ci) (hv : fval E ci o f2 g2 r2 k = v) (ho : ∀ j, j ≠ k → fval E ci o f2 g2 r2 j = fval E ci o f g r j) : ((List.range (fN ci)).map (fval E ci o f g r)).set k v = (List.range (fN ci)).map (fval E ci o f2 g2 r2) := by
  apply List.ext_getElem?
  intro i
  rw [List.getElem?_set]
  by_cases hi : k = i
  · subst hi
    rw [if_pos rfl, if_pos (by simpa using hk), fv_get hk, hv]
  · rw [if_neg hi, List.getElem?_map, List.getElem?_map]
    by_cases hlt : i < fN ci
    · rw [List.getElem?_range hlt]
      show some _ = some _
      rw [ho i (Ne.symm hi)]
    · rw [List.getElem?_eq_none (by simpa using hlt)]
      rfl
/-- a field by its place in a class's pool: whose it is, final or not, its type, its kind -/
def FL (own : String) (idx ci k : Nat) (fin : Bool) (t : FieldType) (q : Nat × Nat) : Prop := ∃ (C : String) (F : u_T) (N : Nat) (ty : Nat → FieldType), classes[ci]? = some (C, F, N) ∧ N = fN ci ∧ (∀ x ∈ u_ws C F N, x ∈ lw_gd) ∧ (∀ j, j < N → parseFieldDescriptor (F j).2.2.1 = some (ty j)) ∧ (∀ a, a < N → ∀ b, b < N → a ≠ b → (F a).2.1 ≠ (F b).2.1) ∧ k < N ∧ Cond.fieldLink own idx (F k).1 (F k).2.1 (F k).2.2.1 ∈ lw_gd ∧ (F k).2.2.2 = fin ∧ ty k = t ∧ fk ci k = q
abbrev MR : Type := MethodName × ByteArray × Nat × Option FieldType
def wl (m : MR) : List Cond := Cond.code m.1 m.2.1 m.2.2.1 m.2.2.2 :: lw_gd
def rmm (d mc ms : Nat) : Room := { frames := d, cells := mc, slots := ms, locals := 64 * d }
def Pic (E : EV) (w : Mem) (U : State) : Prop := va_P (eD E) classes (wsOf E w) U.heap ∧ va_D (eA E) (wsOf E w) ∧ va_K (eD E) classes (tys E) U ∧ StrOK E U ∧ (∀ q, U.heap.size ≤ q → eA E q) ∧ (∀ q, eR E (1000 + 2 * q) = q ∧ eR E (1001 + 2 * q) = q)
def QcOf (E : EV) (Q : Option Value → Mem → Prop) : Array Value → State → Outcome → State → Prop := fun _ st o t => (∃ (r : Option Value) (w : Mem), o = .returned (r.map (tr (eR E))) ∧ Q r w ∧ Pic E w t) ∧ va_F (eA E) st t
/-- THE CONTRACT of a method: from the world w, with the arguments av, it ends with an answer and a world that Q allows -/
def T (E : EV) (m : MR) (d mc ms : Nat) (av : List Value) (w : Mem) (Q : Option Value → Mem → Prop) : Prop :=
  Met (eL E) m.1 (wl m) (rmm d mc ms) (va_Pc (av.map (tr (eR E))) (Pic E w)) (QcOf E Q) mc ms (eA E)
def Ret (v : Option Value) (w : Mem) : Option Value → Mem → Prop := fun r w2 => r = v ∧ w2 = w
/-- the room of a walk: d frames, cM cells and sM slots -/
def RX (X : XT) (d cM sM : Nat) : Prop := d ≤ (xR X).frames ∧ 64 * d ≤ (xR X).locals ∧ cM ≤ (xR X).cells ∧ sM ≤ (xR X).slots
/-- the end of a method's walk -/
def FX (E : EV) (X : XT) (ret : Option FieldType) (d mc ms : Nat) (Q : Option Value → Mem → Prop) : Prop := RX X d mc ms ∧ xZ X = MQ (xb X) (QcOf E Q) (xa X) (xs X) mc ms (eA E) ∧ (xh X).sig.returnType = ret ∧ (xh X).locks = false
def CF (m : MR) (n : Nat) : Prop := Cond.code m.1 m.2.1 m.2.2.1 m.2.2.2 ∈ lw_gd ∧ Cond.initialized m.1.cls ∈ lw_gd ∧ (m.1.cls ≠ "java/lang/invoke/MethodHandle" ∧ m.1.cls ≠ "java/lang/invoke/VarHandle" ∧ (parseMethodDescriptor m.1.desc).map (fun d => d.parameters.length) = some n) ∧ m.2.2.1 ≤ 40 ∧ plainName m.1.cls = true
def CV (m : MR) : Prop := Cond.instanceMethod m.1 ∈ lw_gd ∧ Cond.selects m.1.cls m.1 m.1 ∈ lw_gd
def CS (m : MR) : Prop := Cond.static m.1 ∈ lw_gd
/-- a receiver: a cell of the class C -/
def Rcv (E : EV) (X : XT) (w : Mem) (a : Nat) (C : String) : Prop := ∀ (H : Heap) (locs : List Loc), va_P (eD E) classes (wsOf E w) H → va_S (eA E) (xs X).heap H locs → ∃ cell : Cell, H[eR E a]? = some cell ∧ cell.vm.isStatics = false ∧ (xs X).vm.findClass C = some cell.cls
section G2
variable {E : EV} {X : XT} {b : ByteArray} {own : String} {nL : Nat} {ca sa pc pc2 : Nat} {L st : List Value} {w : Mem} {o : Nat} {ci k idx : Nat}
theorem CX.K (hX : CX E X b own nL) : va_K (eD E) classes (tys E) (xs X) := hX.2.2.2.2.1
theorem CX.str (hX : CX E X b own nL) : StrOK E (xs X) := hX.2.2.2.2.2.2.1
theorem CX.up (hX : CX E X b own nL) : ∀ q, (xs X).heap.size ≤ q → eA E q := hX.2.2.2.2.2.1
theorem CX.ml (hX : CX E X b own nL) : (xc X).maxLocals = nL := hX.2.2.2.2.2.2.2.1
theorem CX.rho (hX : CX E X b own nL) : ∀ q, eR E (1000 + 2 * q) = q ∧ eR E (1001 + 2 * q) = q := hX.2.2.2.2.2.2.2.2
theorem CX.word (hX : CX E X b own nL) {q : Cond} (h : q ∈ lw_gd) : q.before (xa X) (xs X) = true := hX.2.2.2.1 q h
theorem g_getfield {fin : Bool} {t : FieldType} {q : Nat × Nat} {v : Value} (hX : CX E X b own nL) (hd : Dc b pc (.getfield idx) 3 pc2) (hf : FL own idx ci k fin t q) (ho : Lv w o (1, ci)) (hv : fval E ci o (rI w o) (rJ w o) (rR w o) k = tr (eR E) v) (kk : G0 E X ca sa pc2 L (v :: st) w) : G0 E X ca sa pc L (.ref o :: st) w := by
  obtain ⟨hd, rfl⟩ := hd
  obtain ⟨C, F, N, ty, h1, h2, h3, h4, h5, h6, h7, h8, h9, h10⟩ := hf
  intro H locs ls hP hD hS hl
  obtain ⟨q0, hq⟩ := ws_at ho.1
  have hw := ws_get E hq
  rw [cell_obj ho.2.1] at hw
  exact va_get (rest := st.map (tr (eR E))) (ref := (F k).1) hX.1 hX.2.1 hX.2.2.2.1 h3 hX.2.2.1 hX.K hP q0 hw h1 k h6 (hX.word h7) (fun _ h => h) (v := tr (eR E) v) (by rw [← hv]; exact fv_get (h2 ▸ h6)) hd (kk H locs ls hP hD hS hl)
theorem g_getI (hX : CX E X b own nL) (hd : Dc b pc (.getfield idx) 3 pc2) {fin : Bool} (hf : FL own idx ci k fin .int (0, 0)) (ho : Lv w o (1, ci)) (kk : G0 E X ca sa pc2 L (.int (rI w o k) :: st) w) : G0 E X ca sa pc L (.ref o :: st) w := by
  refine g_getfield hX hd hf ho (v := .int (rI w o k)) ?_ kk
  obtain ⟨C, F, N, ty, h1, h2, h3, h4, h5, h6, h7, h8, h9, h10⟩ := hf
  unfold fval
  rw [h10]
  rfl
theorem g_getZ (hX : CX E X b own nL) (hd : Dc b pc (.getfield idx) 3 pc2) {fin : Bool} (hf : FL own idx ci k fin .boolean (1, 0)) (ho : Lv w o (1, ci)) (kk : G0 E X ca sa pc2 L (.int (rI w o k) :: st) w) : G0 E X ca sa pc L (.ref o :: st) w := by
  refine g_getfield hX hd hf ho (v := .int (rI w o k)) ?_ kk
  obtain ⟨C, F, N, ty, h1, h2, h3, h4, h5, h6, h7, h8, h9, h10⟩ := hf
  unfold fval
  rw [h10]
  rfl
theorem g_getJ (hX : CX E X b own nL) (hd : Dc b pc (.getfield idx) 3 pc2) {fin : Bool} (hf : FL own idx ci k fin .long (2, 0)) (ho : Lv w o (1, ci)) (kk : G0 E X ca sa pc2 L (.long (rJ w o k) :: st) w) : G0 E X ca sa pc L (.ref o :: st) w := by
  refine g_getfield hX hd hf ho (v := .long (rJ w o k)) ?_ kk
  obtain ⟨C, F, N, ty, h1, h2, h3, h4, h5, h6, h7, h8, h9, h10⟩ := hf
  unfold fval
  rw [h10]
  rfl
theorem g_getF {off : Nat} {t : FieldType} (hX : CX E X b own nL) (hd : Dc b pc (.getfield idx) 3 pc2) {fin : Bool} (hf : FL own idx ci k fin t (3, off)) (ho : Lv w o (1, ci)) (kk : G0 E X ca sa pc2 L (.ref (o + off) :: st) w) : G0 E X ca sa pc L (.ref o :: st) w := by
  refine g_getfield hX hd hf ho (v := .ref (o + off)) ?_ kk
  obtain ⟨C, F, N, ty, h1, h2, h3, h4, h5, h6, h7, h8, h9, h10⟩ := hf
  unfold fval
  rw [h10]
  rfl
theorem g_getR {t : FieldType} {r : Nat} (hX : CX E X b own nL) (hd : Dc b pc (.getfield idx) 3 pc2) {fin : Bool} (hf : FL own idx ci k fin t (4, 0)) (ho : Lv w o (1, ci)) (hr : rR w o k = some r) (kk : G0 E X ca sa pc2 L (.ref r :: st) w) : G0 E X ca sa pc L (.ref o :: st) w := by
  refine g_getfield hX hd hf ho (v := .ref r) ?_ kk
  obtain ⟨C, F, N, ty, h1, h2, h3, h4, h5, h6, h7, h8, h9, h10⟩ := hf
  unfold fval
  rw [h10, hr]
  rfl
theorem g_putfield {t : FieldType} {q : Nat × Nat} {v : Value} {w2 : Mem} (hX : CX E X b own nL) (hd : Dc b pc (.putfield idx) 3 pc2) (hf : FL own idx ci k false t q) (ho : Lv w o (1, ci)) (hn : narrow t (tr (eR E) v) = tr (eR E) v) (hfit : fits t (tr (eR E) v) = true)
    (hs : ∀ j, sh w2 j = sh w j) (hnm : nms w2 = nms w) (hv : fval E ci o (rI w2 o) (rJ w2 o) (rR w2 o) k = tr (eR E) v) (hoth : ∀ j, j ≠ k → fval E ci o (rI w2 o) (rJ w2 o) (rR w2 o) j = fval E ci o (rI w o) (rJ w o) (rR w o) j) (hc : ∀ j, j ≠ o → cellOf E w2 j = cellOf E w j)
    (kk : G0 E X ca sa pc2 L st w2) : G0 E X ca sa pc L (v :: .ref o :: st) w := by
  obtain ⟨hd, rfl⟩ := hd
  obtain ⟨C, F, N, ty, h1, h2, h3, h4, h5, h6, h7, h8, h9, h10⟩ := hf
  intro H locs ls hP hD hS hl
  obtain ⟨q0, hq⟩ := ws_at ho.1
  have hw := ws_get E hq
  rw [cell_obj ho.2.1] at hw
  subst h2
  refine va_put (rest := st.map (tr (eR E))) (ref := (F k).1) hX.1 hX.2.1 hX.2.2.2.1 h3 ty h4 h5 hX.2.2.1 hX.K hP hD hS q0 hw h1 k h6 (hX.word h7) (fun _ h => h) h8 (ty := t) (by rw [h4 k h6, h9]) hn hfit (by simpa using h6) hd (fun H1 locs1 hP1 hD1 hS1 => ?_)
  have e := ws_set (E := E) (w := w) (w2 := w2) hD hq hnm (c := .inr (ci, ((List.range (fN ci)).map (fval E ci o (rI w o) (rJ w o) (rR w o))).set k (tr (eR E) v))) (by
    rw [cell_obj ((hs o).trans ho.2.1), fv_set h6 hv hoth]) (fun j hj => hc j hj)
  rw [e] at hP1 hD1
  exact kk H1 locs1 ls hP1 hD1 hS1 hl
theorem fval_I {E : EV} {ci o k : Nat} {f : Nat → Int32} {g : Nat → Int64} {r : Nat → Option Nat} {x : Int32} : ∀ j, j ≠ k → fval E ci o (upd f k x) g r j = fval E ci o f g r j := fun j hj => by
  unfold fval
  rw [pk_un hj]
theorem fval_J {E : EV} {ci o k : Nat} {f : Nat → Int32} {g : Nat → Int64} {r : Nat → Option Nat} {x : Int64} : ∀ j, j ≠ k → fval E ci o f (vp_updL g k x) r j = fval E ci o f g r j := fun j hj => by
  unfold fval
  rw [pk_uLn hj]
theorem fval_R {E : EV} {ci o k : Nat} {f : Nat → Int32} {g : Nat → Int64} {r : Nat → Option Nat} {x : Option Nat} : ∀ j, j ≠ k → fval E ci o f g (va_up r k x) j = fval E ci o f g r j := fun j hj => by
  unfold fval
  simp [va_up, hj]
theorem g_putI {x : Int32} (hX : CX E X b own nL) (hd : Dc b pc (.putfield idx) 3 pc2) (hf : FL own idx ci k false .int (0, 0)) (ho : Lv w o (1, ci)) (kk : G0 E X ca sa pc2 L st (sI w o k x)) : G0 E X ca sa pc L (.int x :: .ref o :: st) w := by
  refine g_putfield (v := .int x) (w2 := sI w o k x) hX hd hf ho rfl rfl (fun _ => rfl) rfl ?_ ?_ (fun j hj => cell_sI k x hj) kk
  · rw [rI_sI]
    obtain ⟨C, F, N, ty, h1, h2, h3, h4, h5, h6, h7, h8, h9, h10⟩ := hf
    unfold fval
    rw [h10, pk_us]
    rfl
  · rw [rI_sI]
    exact fval_I
theorem g_putZ {x : Int32} (hX : CX E X b own nL) (hd : Dc b pc (.putfield idx) 3 pc2) (hf : FL own idx ci k false .boolean (1, 0)) (ho : Lv w o (1, ci)) (hx : x = 0 ∨ x = 1) (kk : G0 E X ca sa pc2 L st (sI w o k x)) : G0 E X ca sa pc L (.int x :: .ref o :: st) w := by
  refine g_putfield (v := .int x) (w2 := sI w o k x) hX hd hf ho (by rcases hx with rfl | rfl <;> rfl) (by rcases hx with rfl | rfl <;> rfl) (fun _ => rfl) rfl ?_ ?_ (fun j hj => cell_sI k x hj) kk
  · rw [rI_sI]
    obtain ⟨C, F, N, ty, h1, h2, h3, h4, h5, h6, h7, h8, h9, h10⟩ := hf
    unfold fval
    rw [h10, pk_us]
    rfl
  · rw [rI_sI]
    exact fval_I
theorem g_putJ {x : Int64} (hX : CX E X b own nL) (hd : Dc b pc (.putfield idx) 3 pc2) (hf : FL own idx ci k false .long (2, 0)) (ho : Lv w o (1, ci)) (kk : G0 E X ca sa pc2 L st (sJ w o k x)) : G0 E X ca sa pc L (.long x :: .ref o :: st) w := by
  refine g_putfield (v := .long x) (w2 := sJ w o k x) hX hd hf ho rfl rfl (fun _ => rfl) rfl ?_ ?_ (fun j hj => cell_sJ k x hj) kk
  · rw [rJ_sJ]
    obtain ⟨C, F, N, ty, h1, h2, h3, h4, h5, h6, h7, h8, h9, h10⟩ := hf
    unfold fval
    rw [h10, pk_uLs]
    rfl
  · rw [rJ_sJ]
    exact fval_J
theorem g_putR {r : Nat} {t : FieldType} (ht : (∃ c, t = .object c) ∨ ∃ c, t = .array c) (hX : CX E X b own nL) (hd : Dc b pc (.putfield idx) 3 pc2) (hf : FL own idx ci k false t (4, 0)) (ho : Lv w o (1, ci)) (kk : G0 E X ca sa pc2 L st (sR w o k (some r))) : G0 E X ca sa pc L (.ref r :: .ref o :: st) w := by
  refine g_putfield (v := .ref r) (w2 := sR w o k (some r)) hX hd hf ho (by rcases ht with ⟨c, rfl⟩ | ⟨c, rfl⟩ <;> rfl) (by rcases ht with ⟨c, rfl⟩ | ⟨c, rfl⟩ <;> rfl) (fun _ => rfl) rfl ?_ ?_ (fun j hj => cell_sR k _ hj) kk
  · rw [rR_sR]
    obtain ⟨C, F, N, ty, h1, h2, h3, h4, h5, h6, h7, h8, h9, h10⟩ := hf
    unfold fval
    rw [h10, va_up_self]
    rfl
  · rw [rR_sR]
    exact fval_R
variable {n j : Nat} {i : Int32}
theorem in_of (hv : n < 100000) (hi : i = nI j) (hj : j < n) : vp_in i n ∧ i.toNatClampNeg = j := by
  subst hi
  exact ⟨vp_in_nI hj (by omega), nI_clamp (by omega)⟩
theorem g_iald (hX : CX E X b own nL) (hd : Dc b pc .iaload 1 pc2) (hv : Lv w o (2, n)) (hi : i = nI j) (hj : j < n) (kk : G0 E X ca sa pc2 L (.int (rI w o j) :: st) w) : G0 E X ca sa pc L (.int i :: .ref o :: st) w := by
  obtain ⟨hd, rfl⟩ := hd
  intro H locs ls hP hD hS hl
  obtain ⟨q0, hq⟩ := ws_at hv.1
  have hw := ws_get E hq
  rw [cell_ints hv.2.1] at hw
  obtain ⟨h1, h2⟩ := in_of hv.2.2 hi hj
  refine va_iald (rest := st.map (tr (eR E))) hX.1 hX.2.1 hX.K hP q0 0 hw rfl h1 hd ?_
  rw [h2]
  exact kk H locs ls hP hD hS hl
theorem g_lald (hX : CX E X b own nL) (hd : Dc b pc .laload 1 pc2) (hv : Lv w o (3, n)) (hi : i = nI j) (hj : j < n) (kk : G0 E X ca sa pc2 L (.long (rJ w o j) :: st) w) : G0 E X ca sa pc L (.int i :: .ref o :: st) w := by
  obtain ⟨hd, rfl⟩ := hd
  intro H locs ls hP hD hS hl
  obtain ⟨q0, hq⟩ := ws_at hv.1
  have hw := ws_get E hq
  rw [cell_longs hv.2.1] at hw
  obtain ⟨h1, h2⟩ := in_of hv.2.2 hi hj
  refine va_lald (rest := st.map (tr (eR E))) hX.1 hX.2.1 hX.K hP q0 1 hw rfl h1 hd ?_
  rw [h2]
  exact kk H locs ls hP hD hS hl
theorem g_zald (hX : CX E X b own nL) (hd : Dc b pc .baload 1 pc2) (hv : Lv w o (4, n)) (hi : i = nI j) (hj : j < n) (kk : G0 E X ca sa pc2 L (.int (rI w o j) :: st) w) : G0 E X ca sa pc L (.int i :: .ref o :: st) w := by
  obtain ⟨hd, rfl⟩ := hd
  intro H locs ls hP hD hS hl
  obtain ⟨q0, hq⟩ := ws_at hv.1
  have hw := ws_get E hq
  rw [cell_bools hv.2.1] at hw
  obtain ⟨h1, h2⟩ := in_of hv.2.2 hi hj
  refine va_zald (rest := st.map (tr (eR E))) hX.1 hX.2.1 hX.K hP q0 2 hw rfl h1 hd ?_
  rw [h2]
  exact kk H locs ls hP hD hS hl
theorem g_aaldP {r : Nat} (hX : CX E X b own nL) (hd : Dc b pc .aaload 1 pc2) (hv : Lv w o (5, n)) (hi : i = nI j) (hj : j < n) (hr : rR w o j = some r) (kk : G0 E X ca sa pc2 L (.ref r :: st) w) : G0 E X ca sa pc L (.int i :: .ref o :: st) w := by
  obtain ⟨hd, rfl⟩ := hd
  intro H locs ls hP hD hS hl
  obtain ⟨q0, hq⟩ := ws_at hv.1
  have hw := ws_get E hq
  rw [cell_progs hv.2.1] at hw
  obtain ⟨h1, h2⟩ := in_of hv.2.2 hi hj
  refine va_aldq (rest := st.map (tr (eR E))) hX.1 hX.2.1 hX.K hP q0 3 hw rfl h1 hd ?_
  rw [h2, hr]
  exact kk H locs ls hP hD hS hl
theorem g_aaldPN (hX : CX E X b own nL) (hd : Dc b pc .aaload 1 pc2) (hv : Lv w o (5, n)) (hi : i = nI j) (hj : j < n) (hr : rR w o j = none) (kk : G0 E X ca sa pc2 L (.null :: st) w) : G0 E X ca sa pc L (.int i :: .ref o :: st) w := by
  obtain ⟨hd, rfl⟩ := hd
  intro H locs ls hP hD hS hl
  obtain ⟨q0, hq⟩ := ws_at hv.1
  have hw := ws_get E hq
  rw [cell_progs hv.2.1] at hw
  obtain ⟨h1, h2⟩ := in_of hv.2.2 hi hj
  refine va_aldq (rest := st.map (tr (eR E))) hX.1 hX.2.1 hX.K hP q0 3 hw rfl h1 hd ?_
  rw [h2, hr]
  exact kk H locs ls hP hD hS hl
theorem g_aaldB {r : Nat} (hX : CX E X b own nL) (hd : Dc b pc .aaload 1 pc2) (hv : Lv w o (6, n)) (hi : i = nI j) (hj : j < n) (hr : rR w o j = some r) (kk : G0 E X ca sa pc2 L (.ref r :: st) w) : G0 E X ca sa pc L (.int i :: .ref o :: st) w := by
  obtain ⟨hd, rfl⟩ := hd
  intro H locs ls hP hD hS hl
  obtain ⟨q0, hq⟩ := ws_at hv.1
  have hw := ws_get E hq
  rw [cell_boards hv.2.1] at hw
  obtain ⟨h1, h2⟩ := in_of hv.2.2 hi hj
  refine va_aldq (rest := st.map (tr (eR E))) hX.1 hX.2.1 hX.K hP q0 4 hw rfl h1 hd ?_
  rw [h2, hr]
  exact kk H locs ls hP hD hS hl
theorem g_iast {x : Int32} (hX : CX E X b own nL) (hd : Dc b pc .iastore 1 pc2) (hv : Lv w o (2, n)) (hi : i = nI j) (hj : j < n) (kk : G0 E X ca sa pc2 L st (sI w o j x)) : G0 E X ca sa pc L (.int x :: .int i :: .ref o :: st) w := by
  obtain ⟨hd, rfl⟩ := hd
  intro H locs ls hP hD hS hl
  obtain ⟨q0, hq⟩ := ws_at hv.1
  have hw := ws_get E hq
  rw [cell_ints hv.2.1] at hw
  obtain ⟨h1, h2⟩ := in_of hv.2.2 hi hj
  refine va_iast (rest := st.map (tr (eR E))) hX.1 hX.2.1 hX.K hP hD hS q0 0 hw rfl (x := x) h1 hd (fun H1 locs1 hP1 hD1 hS1 => ?_)
  rw [h2] at hP1 hD1
  rw [ws_set (w2 := sI w o j x) hD hq rfl (by rw [cell_ints (n := n) (show sh (sI w o j x) o = _ from hv.2.1), rI_sI]) (fun z hz => cell_sI j x hz)] at hP1 hD1
  exact kk H1 locs1 ls hP1 hD1 hS1 hl
theorem g_last {x : Int64} (hX : CX E X b own nL) (hd : Dc b pc .lastore 1 pc2) (hv : Lv w o (3, n)) (hi : i = nI j) (hj : j < n) (kk : G0 E X ca sa pc2 L st (sJ w o j x)) : G0 E X ca sa pc L (.long x :: .int i :: .ref o :: st) w := by
  obtain ⟨hd, rfl⟩ := hd
  intro H locs ls hP hD hS hl
  obtain ⟨q0, hq⟩ := ws_at hv.1
  have hw := ws_get E hq
  rw [cell_longs hv.2.1] at hw
  obtain ⟨h1, h2⟩ := in_of hv.2.2 hi hj
  refine va_last (rest := st.map (tr (eR E))) hX.1 hX.2.1 hX.K hP hD hS q0 1 hw rfl (x := x) h1 hd (fun H1 locs1 hP1 hD1 hS1 => ?_)
  rw [h2] at hP1 hD1
  rw [ws_set (w2 := sJ w o j x) hD hq rfl (by rw [cell_longs (n := n) (show sh (sJ w o j x) o = _ from hv.2.1), rJ_sJ]) (fun z hz => cell_sJ j x hz)] at hP1 hD1
  exact kk H1 locs1 ls hP1 hD1 hS1 hl
theorem g_zast {x : Int32} (hX : CX E X b own nL) (hd : Dc b pc .bastore 1 pc2) (hv : Lv w o (4, n)) (hi : i = nI j) (hj : j < n) (hx : x = 0 ∨ x = 1) (kk : G0 E X ca sa pc2 L st (sI w o j x)) : G0 E X ca sa pc L (.int x :: .int i :: .ref o :: st) w := by
  obtain ⟨hd, rfl⟩ := hd
  intro H locs ls hP hD hS hl
  obtain ⟨q0, hq⟩ := ws_at hv.1
  have hw := ws_get E hq
  rw [cell_bools hv.2.1] at hw
  obtain ⟨h1, h2⟩ := in_of hv.2.2 hi hj
  refine va_zast (rest := st.map (tr (eR E))) hX.1 hX.2.1 hX.K hP hD hS q0 2 hw rfl (x := x) h1 hd (fun H1 locs1 hP1 hD1 hS1 => ?_)
  have hnar : vp_nar .boolean x = x := by rcases hx with rfl | rfl <;> rfl
  rw [h2, hnar] at hP1 hD1
  rw [ws_set (w2 := sI w o j x) hD hq rfl (by rw [cell_bools (n := n) (show sh (sI w o j x) o = _ from hv.2.1), rI_sI]) (fun z hz => cell_sI j x hz)] at hP1 hD1
  exact kk H1 locs1 ls hP1 hD1 hS1 hl
theorem map_up {f : Nat → Nat} {r : Nat → Option Nat} {j : Nat} {x : Option Nat} : (fun i => (va_up r j x i).map f) = va_up (fun i => (r i).map f) j (x.map f) := by
  funext i
  by_cases h : i = j
  · subst h
    rw [va_up_self, va_up_self]
  · simp [va_up, h]
theorem g_aastP {r : Nat} (hX : CX E X b own nL) (hd : Dc b pc .aastore 1 pc2) (hv : Lv w o (5, n)) (hi : i = nI j) (hj : j < n) (hr : Lv w r (1, 6)) (kk : G0 E X ca sa pc2 L st (sR w o j (some r))) : G0 E X ca sa pc L (.ref r :: .int i :: .ref o :: st) w := by
  obtain ⟨hd, rfl⟩ := hd
  intro H locs ls hP hD hS hl
  obtain ⟨q0, hq⟩ := ws_at hv.1
  obtain ⟨q1, hq1⟩ := ws_at hr.1
  have hw := ws_get E hq
  have hw1 := ws_get E hq1
  rw [cell_progs hv.2.1] at hw
  rw [cell_obj hr.2.1] at hw1
  obtain ⟨h1, h2⟩ := in_of hv.2.2 hi hj
  refine va_astq (rest := st.map (tr (eR E))) (r := (R_Pr, F_Pr, 4)) hX.1 hX.2.1 hX.K hP hD hS q0 3 q1 6 hw rfl hw1 rfl h1 hd (fun H1 locs1 hP1 hD1 hS1 => ?_)
  rw [h2] at hP1 hD1
  rw [ws_set (w2 := sR w o j (some r)) hD hq rfl (by rw [cell_progs (n := n) (show sh (sR w o j (some r)) o = _ from hv.2.1), rR_sR, map_up]; rfl) (fun z hz => cell_sR j _ hz)] at hP1 hD1
  exact kk H1 locs1 ls hP1 hD1 hS1 hl
theorem g_aastPN (hX : CX E X b own nL) (hd : Dc b pc .aastore 1 pc2) (hv : Lv w o (5, n)) (hi : i = nI j) (hj : j < n) (kk : G0 E X ca sa pc2 L st (sR w o j none)) : G0 E X ca sa pc L (.null :: .int i :: .ref o :: st) w := by
  obtain ⟨hd, rfl⟩ := hd
  intro H locs ls hP hD hS hl
  obtain ⟨q0, hq⟩ := ws_at hv.1
  have hw := ws_get E hq
  rw [cell_progs hv.2.1] at hw
  obtain ⟨h1, h2⟩ := in_of hv.2.2 hi hj
  refine va_astqN (rest := st.map (tr (eR E))) hX.1 hX.2.1 hX.K hP hD hS q0 3 hw rfl h1 hd (fun H1 locs1 hP1 hD1 hS1 => ?_)
  rw [h2] at hP1 hD1
  rw [ws_set (w2 := sR w o j none) hD hq rfl (by rw [cell_progs (n := n) (show sh (sR w o j none) o = _ from hv.2.1), rR_sR, map_up]; rfl) (fun z hz => cell_sR j _ hz)] at hP1 hD1
  exact kk H1 locs1 ls hP1 hD1 hS1 hl
end G2
