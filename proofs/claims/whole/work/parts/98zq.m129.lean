
/-! ===== constructors: cells one behind another from the address b on ===== -/
def wk (b : Nat) : List va_E → va_W
  | [] => []
  | e :: t => (b, e) :: wk (b + 1) t
theorem wk_get : ∀ (cs : List va_E) (b k : Nat), (wk b cs)[k]? = (cs[k]?).map (fun e => (b + k, e))
  | [], _, _ => by simp [wk]
  | e :: t, b, 0 => by simp [wk]
  | e :: t, b, k + 1 => by
    show (wk (b + 1) t)[k]? = (t[k]?).map _
    rw [wk_get t (b + 1) k]
    cases t[k]? with
    | none => rfl
    | some x =>
      show some (b + 1 + k, x) = some (b + (k + 1), x)
      rw [show b + 1 + k = b + (k + 1) by omega]
theorem wk_at {cs : List va_E} {b k : Nat} {e : va_E} (h : cs[k]? = some e) : (wk b cs)[k]? = some (b + k, e) := by rw [wk_get, h]; rfl
theorem wk_len : ∀ (cs : List va_E) (b : Nat), (wk b cs).length = cs.length
  | [], _ => rfl
  | e :: t, b => by
    show (wk (b + 1) t).length + 1 = t.length + 1
    rw [wk_len t]
theorem wk_set {cs : List va_E} {b k : Nat} {e : va_E} : (wk b cs).set k (b + k, e) = wk b (cs.set k e) := by
  apply List.ext_getElem?
  intro i
  rw [List.getElem?_set, wk_get, wk_get, List.getElem?_set, wk_len]
  by_cases hi : k = i
  · subst hi
    rw [if_pos rfl, if_pos rfl]
    by_cases h : k < cs.length
    · rw [if_pos h, if_pos h]; rfl
    · rw [if_neg h, if_neg h]; rfl
  · rw [if_neg hi, if_neg hi]
theorem wk_app2 : ∀ (cs ds : List va_E) (b : Nat), wk b cs ++ wk (b + cs.length) ds = wk b (cs ++ ds)
  | [], ds, b => rfl
  | e :: t, ds, b => by
    show (b, e) :: (wk (b + 1) t ++ wk (b + (t.length + 1)) ds) = (b, e) :: wk (b + 1) (t ++ ds)
    rw [← wk_app2 t ds (b + 1), show b + (t.length + 1) = b + 1 + t.length by omega]
theorem wk_app {cs : List va_E} {b : Nat} {e : va_E} : wk b cs ++ [(b + cs.length, e)] = wk b (cs ++ [e]) := wk_app2 cs [e] b
theorem wk_D (b : Nat) (cs : List va_E) : va_D (fun q => b ≤ q) (wk b cs) := by
  refine ⟨fun i j p q h1 h2 h3 => ?_, fun k q h => ?_⟩
  · rw [wk_get] at h1 h2
    cases hi : cs[i]? with
    | none => rw [hi] at h1; cases h1
    | some x =>
      cases hj : cs[j]? with
      | none => rw [hj] at h2; cases h2
      | some y =>
        rw [hi] at h1
        rw [hj] at h2
        obtain rfl := Option.some.inj h1
        obtain rfl := Option.some.inj h2
        have : b + i = b + j := h3
        omega
  · rw [wk_get] at h
    cases hi : cs[k]? with
    | none => rw [hi] at h; cases h
    | some x =>
      rw [hi] at h
      obtain rfl := Option.some.inj h
      exact Nat.le_add_right b k
/-- cells one behind another, r tells their addresses; references in locals and on the stack are places -/
def GK (E : EV) (r : Nat → Nat) (X : XT) (ca sa pc : Nat) (L st : List Value) (cs : List va_E) : Prop :=
  ∀ (H : Heap) (locs : List Loc) (ls : Array Slot), H.size = r 0 + cs.length → va_P (eD E) classes (wk (r 0) cs) H → va_S (fun q => r 0 ≤ q) (xs X).heap H locs → lv_has ls (xc X).maxLocals (lvl r 0 L) →
    WX E X H locs ca sa (F0 (xm X) pc ls (st.map (tr r)))
def lw_nw : List Cond := [.methodLinkNest "SubgraphDesk" 25 ⟨"SubgraphDesk$Acts", "<init>", "()V"⟩ "SubgraphDesk", .methodLinkNest "SubgraphDesk" 32 ⟨"SubgraphDesk$Reader", "<init>", "()V"⟩ "SubgraphDesk", .methodLinkNest "SubgraphDesk$Reader" 11 ⟨"SubgraphDesk$Tape", "<init>", "()V"⟩ "SubgraphDesk", .methodLinkNest "SubgraphDesk" 39 ⟨"SubgraphDesk$Ledger", "<init>", "()V"⟩ "SubgraphDesk", .methodLinkNest "SubgraphDesk" 46 ⟨"SubgraphDesk$Walker", "<init>", "()V"⟩ "SubgraphDesk", .methodLinkNest "SubgraphDesk" 53 ⟨"SubgraphDesk$Sieve", "<init>", "()V"⟩ "SubgraphDesk", .methodLinkNest "SubgraphDesk" 60 ⟨"SubgraphDesk$Hunt", "<init>", "()V"⟩ "SubgraphDesk", .methodLinkNest "SubgraphDesk" 67 ⟨"SubgraphDesk$Likeness", "<init>", "()V"⟩ "SubgraphDesk", .methodLinkNest "SubgraphDesk" 74 ⟨"SubgraphDesk$Runner", "<init>", "()V"⟩ "SubgraphDesk", .methodLinkNest "SubgraphDesk$Runner" 20 ⟨"SubgraphDesk$Acts", "<init>", "()V"⟩ "SubgraphDesk"]
def NW (U : State) : Prop := ∀ (a : String) (i : Nat) (x : MethodName), Cond.methodLinkNest a i x "SubgraphDesk" ∈ lw_nw → va_Nw (.methodLinkNest a i x "SubgraphDesk") U
theorem NW.warm {s U : State} (hW : s.WarmedH U.vm) (h : NW s) : NW U := fun a i x hm => va_Nw.warmM hW (h a i x hm)
theorem NW.same {s U : State} (hW : s.vm = U.vm) (h : NW s) : NW U := fun a i x hm => va_Nw.same rfl hW (h a i x hm)
def CK (E : EV) (r : Nat → Nat) (X : XT) (b : ByteArray) (own : String) (nL : Nat) : Prop :=
  (xp X).tables.exec = Jvm.exec ∧ (xc X).code = b ∧ (xs X).vm.findClass own = some (xm X).cls ∧ (∀ q ∈ lw_gd, q.before (xa X) (xs X) = true) ∧ va_K (eD E) classes (tys E) (xs X) ∧ (va_AO "SubgraphDesk$Program" (xs X) ∧ va_AO "SubgraphDesk$Board" (xs X) ∧ NW (xs X)) ∧ r 0 ≤ (xs X).heap.size ∧ (∀ k, k < 200 → r k = r 0 + k) ∧ (xc X).maxLocals = nL
def PicK (E : EV) (b : Nat) (cs : List va_E) (U : State) : Prop := U.heap.size = b + cs.length ∧ va_P (eD E) classes (wk b cs) U.heap ∧ va_K (eD E) classes (tys E) U ∧ va_AO "SubgraphDesk$Program" U ∧ va_AO "SubgraphDesk$Board" U ∧ NW U
def QcK (E : EV) (b : Nat) (cs : List va_E) : Array Value → State → Outcome → State → Prop := fun _ st o t => (o = .returned none ∧ PicK E b cs t) ∧ va_F (fun q => b ≤ q) st t
/-- a constructor's contract -/
def KT (E : EV) (m : MR) (d mc ms b : Nat) (av : List Value) (cs cs2 : List va_E) : Prop :=
  Met (eL E) m.1 (wl m) (rmm d mc ms) (va_Pc (av.map (tr (fun k => b + k))) (PicK E b cs)) (QcK E b cs2) mc ms (fun q => b ≤ q)
def FK (E : EV) (X : XT) (d mc ms b : Nat) (cs : List va_E) : Prop := RX X d mc ms ∧ xZ X = MQ (xb X) (QcK E b cs) (xa X) (xs X) mc ms (fun q => b ≤ q) ∧ (xh X).sig.returnType = none ∧ (xh X).locks = false
section GKs
variable {E : EV} {r : Nat → Nat} {X : XT} {b : ByteArray} {own : String} {nL : Nat} {ca sa pc pc2 : Nat} {L st : List Value} {cs : List va_E} {d mc ms : Nat}
theorem CK.word (hX : CK E r X b own nL) {q : Cond} (h : q ∈ lw_gd) : q.before (xa X) (xs X) = true := hX.2.2.2.1 q h
theorem CK.K (hX : CK E r X b own nL) : va_K (eD E) classes (tys E) (xs X) := hX.2.2.2.2.1
theorem CK.ao (hX : CK E r X b own nL) : va_AO "SubgraphDesk$Program" (xs X) ∧ va_AO "SubgraphDesk$Board" (xs X) ∧ NW (xs X) := hX.2.2.2.2.2.1
theorem CK.le (hX : CK E r X b own nL) : r 0 ≤ (xs X).heap.size := hX.2.2.2.2.2.2.1
theorem CK.ra (hX : CK E r X b own nL) : ∀ k, k < 200 → r k = r 0 + k := hX.2.2.2.2.2.2.2.1
theorem CK.ml (hX : CK E r X b own nL) : (xc X).maxLocals = nL := hX.2.2.2.2.2.2.2.2
theorem z_eq {cs2 : List va_E} (h : cs = cs2) (k : GK E r X ca sa pc L st cs2) : GK E r X ca sa pc L st cs := by subst h; exact k
theorem z_aload0 {x : Nat} {t : List Value} (hX : CK E r X b own nL) (hd : Dc b pc (.aload_n 0) 1 pc2) (k : GK E r X ca sa pc2 (.ref x :: t) (.ref x :: st) cs) : GK E r X ca sa pc (.ref x :: t) st cs := by
  obtain ⟨hd, rfl⟩ := hd
  intro H locs ls hz hP hS hl
  exact lv_aload_n (rest := st.map (tr r)) hX.1 hX.2.1 hd rfl (lv_of hl 0 rfl (by intro z hz; cases hz)) (k H locs ls hz hP hS hl)
theorem z_iload1 {x : Int32} {a0 : Value} {t : List Value} (hX : CK E r X b own nL) (hd : Dc b pc (.iload_n 1) 1 pc2) (k : GK E r X ca sa pc2 (a0 :: .int x :: t) (.int x :: st) cs) : GK E r X ca sa pc (a0 :: .int x :: t) st cs := by
  obtain ⟨hd, rfl⟩ := hd
  intro H locs ls hz hP hS hl
  exact lv_iload_n (rest := st.map (tr r)) hX.1 hX.2.1 hd rfl (lv_of hl 1 rfl (by intro z hz; cases hz)) (k H locs ls hz hP hS hl)
theorem z_iload2 {x : Int32} {a0 a1 : Value} {t : List Value} (hX : CK E r X b own nL) (hd : Dc b pc (.iload_n 2) 1 pc2) (k : GK E r X ca sa pc2 (a0 :: a1 :: .int x :: t) (.int x :: st) cs) : GK E r X ca sa pc (a0 :: a1 :: .int x :: t) st cs := by
  obtain ⟨hd, rfl⟩ := hd
  intro H locs ls hz hP hS hl
  exact lv_iload_n (rest := st.map (tr r)) hX.1 hX.2.1 hd rfl (lv_of hl 2 rfl (by intro z hz; cases hz)) (k H locs ls hz hP hS hl)
theorem z_iconst {n : Int} {v : Int32} (hX : CK E r X b own nL) (hd : Dc b pc (.iconst n) 1 pc2) (hv : Int32.ofInt n = v) (k : GK E r X ca sa pc2 L (.int v :: st) cs) : GK E r X ca sa pc L st cs := by
  obtain ⟨hd, rfl⟩ := hd
  intro H locs ls hz hP hS hl
  exact lv_iconst (rest := st.map (tr r)) hX.1 hX.2.1 hd hv (k H locs ls hz hP hS hl)
theorem z_bipush {n : Int} {v : Int32} (hX : CK E r X b own nL) (hd : Dc b pc (.bipush n) 2 pc2) (hv : (Int8.ofInt n).toInt32 = v) (k : GK E r X ca sa pc2 L (.int v :: st) cs) : GK E r X ca sa pc L st cs := by
  obtain ⟨hd, rfl⟩ := hd
  intro H locs ls hz hP hS hl
  exact lv_bipush (rest := st.map (tr r)) hX.1 hX.2.1 hd hv (k H locs ls hz hP hS hl)
theorem z_sipush {n : Int} {v : Int32} (hX : CK E r X b own nL) (hd : Dc b pc (.sipush n) 3 pc2) (hv : (Int16.ofInt n).toInt32 = v) (k : GK E r X ca sa pc2 L (.int v :: st) cs) : GK E r X ca sa pc L st cs := by
  obtain ⟨hd, rfl⟩ := hd
  intro H locs ls hz hP hS hl
  exact lv_sipush (rest := st.map (tr r)) hX.1 hX.2.1 hd hv (k H locs ls hz hP hS hl)
theorem z_ldc2 {idx : Nat} {v0 v : Int64} (hX : CK E r X b own nL) (hd : Dc b pc (.ldc2_w idx) 3 pc2) (hk : Cond.constantLong own idx v0 ∈ lw_gd) (hv : v0 = v) (k : GK E r X ca sa pc2 L (.long v :: st) cs) : GK E r X ca sa pc L st cs := by
  obtain ⟨hd, rfl⟩ := hd
  subst hv
  intro H locs ls hz hP hS hl
  exact lv_ldc2 (rest := st.map (tr r)) hX.1 hX.2.1 hX.2.2.1 (hX.word hk) hd (k H locs ls hz hP hS hl)
theorem z_dup {v : Value} (hX : CK E r X b own nL) (hd : Dc b pc (.dup) 1 pc2) (hc : v.category = 1) (k : GK E r X ca sa pc2 L (v :: v :: st) cs) : GK E r X ca sa pc L (v :: st) cs := by
  obtain ⟨hd, rfl⟩ := hd
  intro H locs ls hz hP hS hl
  exact lv_dup (rest := st.map (tr r)) hX.1 hX.2.1 hd ((tr_cat _ _).trans hc) (k H locs ls hz hP hS hl)
theorem z_goto {off : Int} {tgt : Nat} (hX : CK E r X b own nL) (hd : Dj b pc (.goto off) pc2 off tgt) (k : GK E r X ca sa tgt L st cs) : GK E r X ca sa pc L st cs := by
  obtain ⟨hd, -, ht⟩ := hd
  intro H locs ls hz hP hS hl
  exact lv_goto hX.1 hX.2.1 hd ht (k H locs ls hz hP hS hl)
theorem z_icmp_ge {x y : Int32} {off : Int} {tgt : Nat} (hX : CK E r X b own nL) (hd : Dj b pc (.if_icmp .ge off) pc2 off tgt) (kt : y ≤ x → GK E r X ca sa tgt L st cs) (kf : ¬ y ≤ x → GK E r X ca sa pc2 L st cs) : GK E r X ca sa pc L (.int y :: .int x :: st) cs := by
  obtain ⟨hd, rfl, ht⟩ := hd
  intro H locs ls hz hP hS hl
  exact lv_icmp_ge (rest := st.map (tr r)) hX.1 hX.2.1 hd ht (fun h => kt h H locs ls hz hP hS hl) (fun h => kf h H locs ls hz hP hS hl)
theorem z_istore1 {v a0 : Value} {t : List Value} {x : Int32} (hX : CK E r X b own nL) (hd : Dc b pc (.istore_n 1) 1 pc2) (hp : a0.category = 1) (hn : 1 < nL) (k : GK E r X ca sa pc2 (a0 :: .int x :: t) st cs) : GK E r X ca sa pc (a0 :: v :: t) (.int x :: st) cs := by
  obtain ⟨hd, rfl⟩ := hd
  intro H locs ls hz hP hS hl
  exact lv_istore_n (rest := st.map (tr r)) hX.1 hX.2.1 hd rfl hl (by rw [hX.ml]; exact hn) rfl (fun ls2 hl2 => k H locs ls2 hz hP hS (lv_put1 (r := r) (v := .int x) (L := a0 :: v :: t) (by intro j u h1 h2; cases h1; cases h2; exact hp) hl2))
theorem z_iinc1 {a0 : Value} {t : List Value} {x v : Int32} {n : Int} (hX : CK E r X b own nL) (hd : Dc b pc (.iinc 1 n) 3 pc2) (hv : x + Int32.ofInt n = v) (hp : a0.category = 1) (hn : 1 < nL) (k : GK E r X ca sa pc2 (a0 :: .int v :: t) st cs) : GK E r X ca sa pc (a0 :: .int x :: t) st cs := by
  obtain ⟨hd, rfl⟩ := hd
  intro H locs ls hz hP hS hl
  have hm := lvl_mem (r := r) (v := .int x) (by intro z hz; cases hz) (a0 :: .int x :: t) 0 1 rfl
  rw [Nat.zero_add] at hm
  obtain ⟨k9, hk9⟩ := List.getElem?_of_mem hm
  exact lv_iinc (rest := st.map (tr r)) hX.1 hX.2.1 hd hl hk9 hv (by rw [hX.ml]; exact hn) rfl (fun ls2 hl2 => k H locs ls2 hz hP hS (lv_put1 (r := r) (v := .int v) (L := a0 :: .int x :: t) (by intro j u h1 h2; cases h1; cases h2; exact hp) hl2))
theorem z_astore1 {v a0 : Value} {t : List Value} {x : Nat} (hX : CK E r X b own nL) (hd : Dc b pc (.astore_n 1) 1 pc2) (hp : a0.category = 1) (hn : 1 < nL) (k : GK E r X ca sa pc2 (a0 :: .ref x :: t) st cs) : GK E r X ca sa pc (a0 :: v :: t) (.ref x :: st) cs := by
  obtain ⟨hd, rfl⟩ := hd
  intro H locs ls hz hP hS hl
  exact lv_astore_n (rest := st.map (tr r)) hX.1 hX.2.1 hd rfl hl (by rw [hX.ml]; exact hn) rfl (fun ls2 hl2 => k H locs ls2 hz hP hS (lv_put1 (r := r) (v := .ref x) (L := a0 :: v :: t) (by intro j u h1 h2; cases h1; cases h2; exact hp) hl2))
theorem z_astore2 {v a0 a1 : Value} {t : List Value} {x : Nat} (hX : CK E r X b own nL) (hd : Dc b pc (.astore_n 2) 1 pc2) (hp : a1.category = 1) (hn : 2 < nL) (k : GK E r X ca sa pc2 (a0 :: a1 :: .ref x :: t) st cs) : GK E r X ca sa pc (a0 :: a1 :: v :: t) (.ref x :: st) cs := by
  obtain ⟨hd, rfl⟩ := hd
  intro H locs ls hz hP hS hl
  exact lv_astore_n (rest := st.map (tr r)) hX.1 hX.2.1 hd rfl hl (by rw [hX.ml]; exact hn) rfl (fun ls2 hl2 => k H locs ls2 hz hP hS (lv_put1 (r := r) (v := .ref x) (L := a0 :: a1 :: v :: t) (by intro j u h1 h2; cases h1; cases h2; exact hp) hl2))
theorem z_objI {idx o dM cM sM : Nat} (hX : CK E r X b own nL) (hR : RX X dM cM sM) (hd : Dc b pc (.invokespecial idx) 3 pc2) (hml : Cond.methodLink own idx Lib.objectInit ∈ lw_gd) (hdm : 1 ≤ dM) (hcs : csum st ≤ 8) (k : GK E r X ca sa pc2 L st cs) : GK E r X ca sa pc L (.ref o :: st) cs := by
  obtain ⟨hd, rfl⟩ := hd
  intro H locs ls hz hP hS hl
  have h1 := hR.1
  have h2 := hR.2.1
  refine W.objInit (rest := st.map (tr r)) (a := r o) hX.1 hX.2.1 hX.2.2.1 (hX.word hml) (hX.word lk_oi1) (hX.word lk_oi2) rfl hl.1 rfl hd (by omega) ?_ (k H locs ls hz hP hS hl)
  show 2 * 0 + _ + 12 ≤ _
  rw [csum_tr]
  omega
/-- one cell more -/
theorem wk_grow {H H1 : Heap} {b0 : Nat} {e : va_E} (hz : H.size = b0 + cs.length) (hP : va_P (eD E) classes (wk b0 cs) H) (o1 : ∀ q, q < H.size → H1[q]? = H[q]?) (he : va_at (eD E) classes (H.size, e) H1) : va_P (eD E) classes (wk b0 (cs ++ [e])) H1 := by
  have hk : ∀ (k : Nat) (x : Nat × va_E), (wk b0 cs)[k]? = some x → H1[x.1]? = H[x.1]? := fun k x hx => o1 x.1 ((hP k x hx).lt)
  rw [← wk_app, ← hz]
  refine (hP.kept hk).app (fun k x hx => ?_)
  have h1 : k < 1 := (List.getElem?_eq_some_iff.mp hx).1
  rw [show k = 0 by omega] at hx
  cases hx
  exact he
theorem va_S.grow {A : Nat → Prop} {H0 H H1 : Heap} {locs : List Loc} (hS : va_S A H0 H locs) (z1 : H1.size = H.size + 1) (o1 : ∀ q, q < H.size → H1[q]? = H[q]?) : va_S A H0 H1 locs := ⟨Nat.le_trans hS.1 (by omega), fun x h1 h2 => (o1 x (Nat.lt_of_lt_of_le h1 hS.1)).trans (hS.2.1 x h1 h2), hS.2.2⟩
theorem len_snoc {e : va_E} : (cs ++ [e]).length = cs.length + 1 := by rw [List.length_append, List.length_singleton]
theorem z_new {idx ci N n : Nat} {C : String} {T : u_T} {ty : Nat → FieldType} {fs : List Value} (hX : CK E r X b own nL) (hd : Dc b pc (.new idx) 3 pc2) (hin : ∀ w ∈ u_ws C T N, w ∈ lw_gd) (hty : ∀ k, k < N → parseFieldDescriptor (T k).2.2.1 = some (ty k)) (hcl : Cond.classLink own idx C ∈ lw_gd) (hinst : Cond.instantiable C N ∈ lw_gd) (hini : Cond.initialized C ∈ lw_gd) (hc : classes[ci]? = some (C, T, N)) (hfs : ∀ j, j < N → defaultValue (ty j) = vp_V fs j) (hn : cs.length = n) (hn2 : n < 200) (hcells : ca + 1 ≤ (xR X).cells) (hslots : sa + N ≤ (xR X).slots) (k : GK E r X (ca + 1) (sa + N) pc2 L (.ref n :: st) (cs ++ [.inr (ci, fs)])) : GK E r X ca sa pc L st cs := by
  obtain ⟨hd, rfl⟩ := hd
  subst hn
  intro H locs ls hz hP hS hl
  have hKn := hX.K.1 ci _ hc
  refine W.newcK hX.1 hX.2.1 hX.2.2.1 (hX.word hcl) (hX.word hinst) (hX.word hini) rfl hd hcells hslots hKn.2.1 rfl fun H1 kC hkC e1 z1 o1 => ?_
  have k2 := k H1 locs ls (by rw [z1, hz, len_snoc]; omega) (wk_grow hz hP o1 ⟨_, hc, (u_born ty (fun w hw => hX.2.2.2.1 w hw) hin hKn hkC e1 hty).to hfs⟩) (hS.grow z1 o1) hl
  have e2 : (Value.ref cs.length :: st).map (tr r) = .ref H.size :: st.map (tr r) := by
    show Value.ref (r cs.length) :: _ = _
    rw [hX.ra _ hn2, hz]
  rw [e2] at k2
  exact k2
theorem z_newa {at_ : ArrayType} {ty : FieldType} {n N t0 : Nat} {a0 : vp_A} {i : Int32} (hX : CK E r X b own nL) (hd : Dc b pc (.newarray at_) 2 pc2) (harr : Cond.arrayClass (newarray.typeOf at_) ∈ lw_gd) (hty : newarray.typeOf at_ = ty) (ht0 : (tys E)[t0]? = some (eC E t0, ty)) (hra : ∀ (c1 c2 : ClassId), va_RA (xs X) c1 ty → (xs X).vm.findClass ("[" ++ ty.toString) = some c2 → c2 = c1) (ha : ∀ cA : ClassId, vp_cell cA a0 = arrV cA N (fun _ => defaultValue ty)) (hi : i = nI N) (hN : N < 100000) (hcb : componentBytes ty ≤ 8) (hn : cs.length = n) (hn2 : n < 200) (hcells : ca + 1 ≤ (xR X).cells) (hslots : sa + N ≤ (xR X).slots) (k : GK E r X (ca + 1) (sa + N) pc2 L (.ref n :: st) (cs ++ [.inl (eC E t0, a0)])) : GK E r X ca sa pc L (.int i :: st) cs := by
  obtain ⟨hd, rfl⟩ := hd
  subst hn
  subst hty
  subst hi
  intro H locs ls hz hP hS hl
  refine va_newaK hX.1 hX.2.1 (hX.word harr) rfl hd rfl (nI_pos (by omega)) (nI_clamp (by omega)) ?_ hcells hslots rfl fun H1 cA e1 z1 o1 hAr hNm => ?_
  · have := Nat.mul_le_mul (Nat.le_of_lt hN) hcb
    omega
  obtain rfl : cA = eC E t0 := hra _ _ (hX.K.2 t0 _ ht0).2 hNm
  have k2 := k H1 locs ls (by rw [z1, hz, len_snoc]; omega) (wk_grow hz hP o1 (show va_at _ _ (H.size, .inl (eC E t0, a0)) H1 from by
    show H1[H.size]? = some (vp_cell _ _)
    rw [ha]
    exact e1)) (hS.grow z1 o1) hl
  have e2 : (Value.ref cs.length :: st).map (tr r) = .ref H.size :: st.map (tr r) := by
    show Value.ref (r cs.length) :: _ = _
    rw [hX.ra _ hn2, hz]
  rw [e2] at k2
  exact k2
theorem z_newI {n N : Nat} {i : Int32} (hX : CK E r X b own nL) (hd : Dc b pc (.newarray .int) 2 pc2) (hi : i = nI N) (hN : N < 100000) (hn : cs.length = n) (hn2 : n < 200) (hcells : ca + 1 ≤ (xR X).cells) (hslots : sa + N ≤ (xR X).slots) (k : GK E r X (ca + 1) (sa + N) pc2 L (.ref n :: st) (cs ++ [.inl (eC E 0, N, .inl (fun _ => 0))])) : GK E r X ca sa pc L (.int i :: st) cs :=
  z_newa (ty := .int) (t0 := 0) hX hd lk_arI rfl rfl (fun c1 c2 h1 h2 => by have h1 : (xs X).vm.findClass ("[" ++ FieldType.int.toString) = some c1 := h1; rw [h1] at h2; exact (Option.some.inj h2).symm) (fun _ => rfl) hi hN (by decide) hn hn2 hcells hslots k
theorem lk_arJ : Cond.arrayClass .long ∈ lw_gd := gd 391 (by decide +kernel) rfl
theorem lk_arZ : Cond.arrayClass .boolean ∈ lw_gd := gd 1680 (by decide +kernel) rfl
theorem z_newJ {n N : Nat} {i : Int32} (hX : CK E r X b own nL) (hd : Dc b pc (.newarray .long) 2 pc2) (hi : i = nI N) (hN : N < 100000) (hn : cs.length = n) (hn2 : n < 200) (hcells : ca + 1 ≤ (xR X).cells) (hslots : sa + N ≤ (xR X).slots) (k : GK E r X (ca + 1) (sa + N) pc2 L (.ref n :: st) (cs ++ [.inl (eC E 1, N, .inr (.inl (fun _ => 0)))])) : GK E r X ca sa pc L (.int i :: st) cs :=
  z_newa (ty := .long) (t0 := 1) hX hd lk_arJ rfl rfl (fun c1 c2 h1 h2 => by have h1 : (xs X).vm.findClass ("[" ++ FieldType.long.toString) = some c1 := h1; rw [h1] at h2; exact (Option.some.inj h2).symm) (fun _ => rfl) hi hN (by decide) hn hn2 hcells hslots k
theorem z_newZ {n N : Nat} {i : Int32} (hX : CK E r X b own nL) (hd : Dc b pc (.newarray .boolean) 2 pc2) (hi : i = nI N) (hN : N < 100000) (hn : cs.length = n) (hn2 : n < 200) (hcells : ca + 1 ≤ (xR X).cells) (hslots : sa + N ≤ (xR X).slots) (k : GK E r X (ca + 1) (sa + N) pc2 L (.ref n :: st) (cs ++ [.inl (eC E 2, N, .inl (fun _ => 0))])) : GK E r X ca sa pc L (.int i :: st) cs :=
  z_newa (ty := .boolean) (t0 := 2) hX hd lk_arZ rfl rfl (fun c1 c2 h1 h2 => by have h1 : (xs X).vm.findClass ("[" ++ FieldType.boolean.toString) = some c1 := h1; rw [h1] at h2; exact (Option.some.inj h2).symm) (fun _ => rfl) hi hN (by decide) hn hn2 hcells hslots k
theorem z_newq {idx n N t0 : Nat} {C : String} {i : Int32} (hX : CK E r X b own nL) (hd : Dc b pc (.anewarray idx) 3 pc2) (hcl : Cond.classLink own idx C ∈ lw_gd) (hao : va_AO C (xs X)) (ht0 : (tys E)[t0]? = some (eC E t0, .object C)) (hi : i = nI N) (hN : N < 100000) (hn : cs.length = n) (hn2 : n < 200) (hcells : ca + 1 ≤ (xR X).cells) (hslots : sa + N ≤ (xR X).slots) (k : GK E r X (ca + 1) (sa + N) pc2 L (.ref n :: st) (cs ++ [.inl (eC E t0, N, .inr (.inr (.inr (.inr (fun _ => none)))))])) : GK E r X ca sa pc L (.int i :: st) cs := by
  obtain ⟨hd, rfl⟩ := hd
  subst hn
  subst hi
  intro H locs ls hz hP hS hl
  have hcl2 : (nI N).toNatClampNeg = N := nI_clamp (by omega)
  refine W.anew (n := nI N) hX.1 hX.2.1 hX.2.2.1 (hX.word hcl) (va_AO.use hao) rfl hd rfl (nI_pos (by omega)) (by rw [hcl2]; omega) hcells (by rw [hcl2]; exact hslots) fun cA kA comp f1 f2 f3 f4 => ?_
  obtain ⟨kA2, comp2, g1, g2, g3, g4⟩ := (show ∃ (kA2 : Class) (comp2 : ClassId), (xs X).vm.classes[eC E t0]? = some kA2 ∧ kA2.kind = .array comp2 (.object C) ∧ (xs X).vm.findClass C = some comp2 ∧ (xs X).vm.findClass ("[" ++ (FieldType.object C).toString) = some (eC E t0) from (hX.K.2 t0 _ ht0).2)
  obtain rfl : cA = eC E t0 := by rw [f1] at g4; exact Option.some.inj g4
  generalize hH1 : H.push ({ cls := eC E t0, slots := Array.replicate (nI N).toNatClampNeg .null, vm := .none } : Cell) = H1
  have z1 : H1.size = H.size + 1 := by rw [← hH1, Array.size_push]
  have e1 : H1[H.size]? = some (arrV (eC E t0) N (fun _ => .null)) := by rw [← hH1, hcl2, Array.getElem?_push_size, ← arrV_new]
  have o1 : ∀ q : Nat, q < H.size → H1[q]? = H[q]? := fun q hq => by rw [← hH1, Array.getElem?_push, if_neg (Nat.ne_of_lt hq)]
  have k2 := k H1 locs ls (by rw [z1, hz, len_snoc]; omega) (wk_grow hz hP o1 (show va_at _ _ (H.size, .inl (eC E t0, N, .inr (.inr (.inr (.inr (fun _ => none)))))) H1 from by
    show H1[H.size]? = some (vp_cell _ _)
    rw [vp_cell_q]
    exact e1)) (hS.grow z1 o1) hl
  have e2 : (Value.ref cs.length :: st).map (tr r) = .ref H.size :: st.map (tr r) := by
    show Value.ref (r cs.length) :: _ = _
    rw [hX.ra _ hn2, hz]
  rw [e2] at k2
  rw [hcl2]
  exact k2
end GKs
