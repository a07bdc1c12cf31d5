theorem StrOK.warm {E : EV} {s U : State} (hW : s.WarmedH U.vm) (hk : ∀ a : Nat, a < s.heap.size → ¬ eA E a → U.heap[a]? = s.heap[a]?) (h : StrOK E s) : StrOK E U :=
  ⟨(vk_S.moved hW.alike h.1).kept hk, fun q hq => vk_R.warm hW (h.2.1 q hq), (va_Z.moved hW.alike h.2.2.1).kept hk, by
    obtain ⟨v, hv, hz⟩ := h.2.2.2
    exact ⟨v, hv, (va_Z.moved hW.alike hz).kept hk⟩⟩
theorem pic_blind {E : EV} {w : Mem} {av : List Value} : FrameBlind (va_Pc av (Pic E w)) := by
  intro a U g mk h
  obtain ⟨h0, h1, h2, h3, h4, h5, h6⟩ := h
  exact ⟨h0, h1, h2, va_K.moved (u := U) (U := U.calling g mk a) (Vm.Alike.refl U.vm) h3, ⟨h4.1, fun q hq => vk_R.same (u := U) rfl (h4.2.1 q hq), va_Z.moved (u := U) (U := U.calling g mk a) (Vm.Alike.refl U.vm) h4.2.2.1, by
    obtain ⟨v, hv, hz⟩ := h4.2.2.2
    exact ⟨v, hv, va_Z.moved (u := U) (U := U.calling g mk a) (Vm.Alike.refl U.vm) hz⟩⟩, h5, h6⟩
section G3
variable {E : EV} {X : XT} {b : ByteArray} {own : String} {nL : Nat} {ca sa pc pc2 : Nat} {L st : List Value} {w : Mem} {d mc ms : Nat} {Q : Option Value → Mem → Prop}
theorem pic_of (hX : CX E X b own nL) {H : Heap} {locs : List Loc} (hP : va_P (eD E) classes (wsOf E w) H) (hD : va_D (eA E) (wsOf E w)) (hS : va_S (eA E) (xs X).heap H locs) {t : State} (ht : t.heap = H) (hW : (xs X).WarmedH t.vm) : Pic E w t :=
  ⟨by rw [ht]; exact hP, hD, va_K.moved hW.alike hX.K, hX.str.warm hW (fun a h1 h2 => by rw [ht]; exact hS.2.1 a h1 h2), fun q hq => hX.up q (Nat.le_trans hS.1 (by rw [ht] at hq; exact hq)), hX.rho⟩
theorem qc_of (hX : CX E X b own nL) {H : Heap} {locs : List Loc} (hP : va_P (eD E) classes (wsOf E w) H) (hD : va_D (eA E) (wsOf E w)) (hS : va_S (eA E) (xs X).heap H locs) {r : Option Value} (hQ : Q r w) {t : State} (ht : t.heap = H) (hW : (xs X).WarmedH t.vm) : QcOf E Q (xa X) (xs X) (.returned (r.map (tr (eR E)))) t :=
  ⟨⟨r, w, rfl, hQ, pic_of hX hP hD hS ht hW⟩, hS.F ht⟩
theorem g_iret {x : Int32} (hX : CX E X b own nL) (hF : FX E X (some .int) d mc ms Q) (hd : Dc b pc .ireturn 1 pc2) (hca : ca ≤ mc) (hsa : sa ≤ ms) (hQ : Q (some (.int x)) w) : G0 E X ca sa pc L [.int x] w := by
  obtain ⟨hd, -⟩ := hd
  obtain ⟨h1, h2, h3, h4⟩ := hF
  intro H locs ls hP hD hS hl
  refine W.widen hca hsa ?_
  rw [h2]
  exact W.iret (v := x) hX.1 hX.2.1 h3 (fun t ht hW => qc_of (r := some (.int x)) hX hP hD hS hQ ht hW) hS.2.2 hd h4
theorem g_zret {x : Int32} (hX : CX E X b own nL) (hF : FX E X (some .boolean) d mc ms Q) (hd : Dc b pc .ireturn 1 pc2) (hx : x = 0 ∨ x = 1) (hca : ca ≤ mc) (hsa : sa ≤ ms) (hQ : Q (some (.int x)) w) : G0 E X ca sa pc L [.int x] w := by
  obtain ⟨hd, -⟩ := hd
  obtain ⟨h1, h2, h3, h4⟩ := hF
  intro H locs ls hP hD hS hl
  refine W.widen hca hsa ?_
  rw [h2]
  exact W.zret (v := x) hX.1 hX.2.1 h3 (by rcases hx with rfl | rfl <;> rfl) (fun t ht hW => qc_of (r := some (.int x)) hX hP hD hS hQ ht hW) hS.2.2 hd h4
theorem g_lret {x : Int64} (hX : CX E X b own nL) (hF : FX E X (some .long) d mc ms Q) (hd : Dc b pc .lreturn 1 pc2) (hca : ca ≤ mc) (hsa : sa ≤ ms) (hQ : Q (some (.long x)) w) : G0 E X ca sa pc L [.long x] w := by
  obtain ⟨hd, -⟩ := hd
  obtain ⟨h1, h2, h3, h4⟩ := hF
  intro H locs ls hP hD hS hl
  refine W.widen hca hsa ?_
  rw [h2]
  exact W.lret (v := x) hX.1 hX.2.1 h3 (fun t ht hW => qc_of (r := some (.long x)) hX hP hD hS hQ ht hW) hS.2.2 hd h4
theorem g_vret (hX : CX E X b own nL) (hF : FX E X none d mc ms Q) (hd : Dc b pc .return_ 1 pc2) (hca : ca ≤ mc) (hsa : sa ≤ ms) (hQ : Q none w) : G0 E X ca sa pc L [] w := by
  obtain ⟨hd, -⟩ := hd
  obtain ⟨h1, h2, h3, h4⟩ := hF
  intro H locs ls hP hD hS hl
  refine W.widen hca hsa ?_
  rw [h2]
  exact W.vret hX.1 hX.2.1 h3 (fun t ht hW => qc_of (r := none) hX hP hD hS hQ ht hW) hS.2.2 hd h4
theorem g_aret {o : Nat} {c : String} (hX : CX E X b own nL) (hF : FX E X (some (.object c)) d mc ms Q) (hd : Dc b pc .areturn 1 pc2) (hca : ca ≤ mc) (hsa : sa ≤ ms) (hQ : Q (some (.ref o)) w) : G0 E X ca sa pc L [.ref o] w := by
  obtain ⟨hd, -⟩ := hd
  obtain ⟨h1, h2, h3, h4⟩ := hF
  intro H locs ls hP hD hS hl
  refine W.widen hca hsa ?_
  rw [h2]
  exact W.aret (v := .ref (eR E o)) hX.1 hX.2.1 h3 (Or.inl ⟨c, rfl⟩) (Or.inr ⟨_, rfl⟩) (fun t ht hW => qc_of (r := some (.ref o)) hX hP hD hS hQ ht hW) hS.2.2 hd h4
theorem g_aretN {c : String} (hX : CX E X b own nL) (hF : FX E X (some (.object c)) d mc ms Q) (hd : Dc b pc .areturn 1 pc2) (hca : ca ≤ mc) (hsa : sa ≤ ms) (hQ : Q (some .null) w) : G0 E X ca sa pc L [.null] w := by
  obtain ⟨hd, -⟩ := hd
  obtain ⟨h1, h2, h3, h4⟩ := hF
  intro H locs ls hP hD hS hl
  refine W.widen hca hsa ?_
  rw [h2]
  exact W.aret (v := .null) hX.1 hX.2.1 h3 (Or.inl ⟨c, rfl⟩) (Or.inl rfl) (fun t ht hW => qc_of (r := some .null) hX hP hD hS hQ ht hW) hS.2.2 hd h4
/-- the locals at a method's entry -/
def iniL : List Value → List Value
  | [] => []
  | v :: t => if v.category = 2 then v :: un :: iniL t else v :: iniL t
theorem ini_args (r : Nat → Nat) : ∀ (av : List Value) (i : Nat) (q : Nat × Value), q ∈ lvl r i (iniL av) → q ∈ lv_args i (av.map (tr r))
  | [], _, _, h => by simp [iniL, lvl] at h
  | v :: t, i, q, h => by
    have e : (tr r v).category = v.category := tr_cat r v
    by_cases hc : v.category = 2
    · have ih := ini_args r t (i + 2) q
      have h2 : q ∈ lvl r i (v :: un :: iniL t) := by rw [iniL, if_pos hc] at h; exact h
      show q ∈ (i, tr r v) :: lv_args (if (tr r v).category = 2 then i + 2 else i + 1) (t.map (tr r))
      rw [e, if_pos hc]
      cases v <;> first
        | (rcases List.mem_cons.mp h2 with h3 | h3
           · rw [h3]; exact List.mem_cons_self
           · exact List.mem_cons_of_mem _ (ih h3))
        | exact List.mem_cons_of_mem _ (ih h2)
    · have ih := ini_args r t (i + 1) q
      have h2 : q ∈ lvl r i (v :: iniL t) := by rw [iniL, if_neg hc] at h; exact h
      show q ∈ (i, tr r v) :: lv_args (if (tr r v).category = 2 then i + 2 else i + 1) (t.map (tr r))
      rw [e, if_neg hc]
      cases v <;> first
        | (rcases List.mem_cons.mp h2 with h3 | h3
           · rw [h3]; exact List.mem_cons_self
           · exact List.mem_cons_of_mem _ (ih h3))
        | exact List.mem_cons_of_mem _ (ih h2)
theorem sl_len (r : Nat → Nat) : ∀ av : List Value, (lg_sl (av.map (tr r))).length = (iniL av).length
  | [] => rfl
  | v :: t => by
    have ih := sl_len r t
    unfold lg_sl at ih ⊢
    rw [List.map_cons, List.flatMap_cons, List.length_append, ih, iniL, tr_cat]
    by_cases hc : v.category = 2
    · rw [if_pos hc, if_pos hc]; simp; omega
    · rw [if_neg hc, if_neg hc]; simp; omega
theorem T_of {m : MR} {n : Nat} {av : List Value} (hc : CF m n) {L : List Value} (hL : iniL av ++ List.replicate (m.2.2.1 - (iniL av).length) un = L) (hs : (iniL av).length ≤ m.2.2.1)
    (body : ∀ X : XT, CX E X m.2.1 m.1.cls m.2.2.1 → FX E X m.2.2.2 d mc ms Q → G0 E X 0 0 0 L [] w) : T E m d mc ms av w Q := by
  refine Met.ofW (cc := m.2.1) (maxL := m.2.2.1) (ret := m.2.2.2) hc.2.2.2.2 rfl ?_
  intro p e s mm args below meth c s₁ B hml hv
  obtain ⟨rfl, h1, h2, h3, h4, h5, h6⟩ := hv
  have hts := atoms_spec (ws := wl m) B.pre
  have hXX : CX E (p, e, (headSpec (wl m) (rmm d mc ms)).room, s, mm, (av.map (tr (eR E))).toArray, below, meth, c, MQ below (QcOf E Q) (av.map (tr (eR E))).toArray s mc ms (eA E)) m.2.1 m.1.cls m.2.2.1 :=
    ⟨B.exec, B.bytes, findClass_of_methodNamed B.named, fun q hq => hts q (List.mem_cons_of_mem _ hq), h3, h5, h4, hml, h6⟩
  have hFF : FX E (p, e, (headSpec (wl m) (rmm d mc ms)).room, s, mm, (av.map (tr (eR E))).toArray, below, meth, c, MQ below (QcOf E Q) (av.map (tr (eR E))).toArray s mc ms (eA E)) m.2.2.2 d mc ms Q :=
    ⟨⟨Nat.le_refl _, Nat.le_refl _, Nat.le_refl _, Nat.le_refl _⟩, rfl, B.returns, B.notSynchronized⟩
  have hl := lv_entry (av.map (tr (eR E))) (n := m.2.2.1) (by rw [sl_len]; exact hs)
  rw [lg_entry_eq]
  refine body _ hXX hFF s.heap [] _ h1 h2 va_S.rf ?_
  subst hL
  show lv_has _ c.maxLocals _
  rw [hml]
  refine ⟨hl.1, hl.2.1, fun q hq => hl.2.2 q ?_⟩
  apply ini_args
  obtain ⟨k, v, g1, g2, rfl⟩ := lvl_inv _ 0 q hq
  rw [Nat.zero_add]
  have g3 : (iniL av)[k]? = some v := by
    by_cases hk : k < (iniL av).length
    · rw [List.getElem?_append_left hk] at g1
      exact g1
    · rw [List.getElem?_append_right (by omega), List.getElem?_replicate] at g1
      by_cases hz : k - (iniL av).length < m.2.2.1 - (iniL av).length
      · rw [if_pos hz] at g1
        exact absurd (Option.some.inj g1).symm (g2 0)
      · rw [if_neg hz] at g1
        cases g1
  have g4 := lvl_mem (r := eR E) g2 (iniL av) 0 k g3
  rwa [Nat.zero_add] at g4
theorem T.mono {m : MR} {av : List Value} {Q2 : Option Value → Mem → Prop} (h : T E m d mc ms av w Q) (hQ : ∀ r w2, Q r w2 → Q2 r w2) : T E m d mc ms av w Q2 := by
  unfold T Met at h ⊢
  exact MetFree.mono h (fun _ _ h => h) (fun _ _ _ _ _ h => h) (fun a s o t _ h => ⟨⟨h.1.1.imp fun r h2 => h2.imp fun w2 h3 => ⟨h3.1, hQ _ _ h3.2.1, h3.2.2⟩, h.1.2⟩, h.2⟩)
variable {m : MR} {n d2 mc2 ms2 o idx ci : Nat}
theorem rcv_obj (hX : CX E X b own nL) {C : String} {q : vw_C} (ho : Lv w o (1, ci)) (hc : classes[ci]? = some q) (hC : q.1 = C) : Rcv E X w o C := by
  intro H locs hP hS
  obtain ⟨q0, hq⟩ := ws_at ho.1
  have hw := ws_get E hq
  rw [cell_obj ho.2.1] at hw
  subst hC
  exact va_recv hX.K hP hc hw
theorem rcv_str (hX : CX E X b own nL) {i : Nat} (hi : i < 24) : Rcv E X w (900 + i) "java/lang/String" := fun H locs _ hS => vk_recv (i := i) (adK := fun i => eR E (900 + i)) hX.str.1 hi hS
theorem gd_in {m : MR} {w : Cond} (h : w ∈ lw_gd) : w ∈ wl m := List.mem_cons_of_mem _ h
/-- behind a call -/
theorem g_run (hX : CX E X b own nL) {st0 : List Value} {H : Heap} {locs : List Loc} {ls : Array Slot} {args2 : Array Value} (hS : va_S (eA E) (xs X).heap H locs) (hl : lv_has ls (xc X).maxLocals (lvl (eR E) 0 L))
    (hr : va_Run (xp X) (eL E) (xe X) (xR X) (xs X) (xm X) (xa X) (xb X) (xh X) (xc X) H locs ca sa mc2 ms2 (F0 (xm X) pc ls st0) (st.map (tr (eR E))) (QcOf E Q args2) (eA E))
    (kk : ∀ (r : Option Value) (w2 : Mem), Q r w2 → G0 E X (ca + mc2) (sa + ms2) (pc + 3) L (r.toList ++ st) w2) : WX E X H locs ca sa (F0 (xm X) pc ls st0) := by
  intro U hU XU
  obtain ⟨v, st₀, t, T2, Lc, h0, X2, hLc, e1, e2, ⟨⟨r, w2, hv, hq, hpic⟩, hz, hk⟩, stp⟩ := hr U hU XU
  cases hv
  rw [h0] at hz hk
  have hS2 : va_S (eA E) (xs X).heap T2.heap (locs ++ Lc) := by
    refine ⟨Nat.le_trans hS.1 (by rw [e1]; exact hz), fun q h1 h2 => ?_, fun q hq => ?_⟩
    · rw [e1, hk q (Nat.lt_of_lt_of_le h1 hS.1) h2]
      exact hS.2.1 q h1 h2
    · rcases List.mem_append.mp hq with h | h
      · exact hS.2.2 q h
      · exact hLc q h
  have hm : (r.toList ++ st).map (tr (eR E)) = (r.map (tr (eR E))).toList ++ st.map (tr (eR E)) := by cases r <;> rfl
  have k2 := kk r w2 hq T2.heap (locs ++ Lc) ls (by rw [e1]; exact hpic.1) hpic.2.1 hS2 hl
  rw [hm] at k2
  obtain ⟨t2, a1, b1⟩ := k2 T2 rfl X2
  exact ⟨t2, stp t2 a1, b1⟩
theorem room_of {dM : Nat} {cM sM : Nat} (hR : RX X dM cM sM) (hc : CF m n) (hd : d2 + 1 ≤ dM) : (rmm d2 mc2 ms2).frames + 1 ≤ (xR X).frames ∧ 8 + (m.2.2.1 + 11) + (rmm d2 mc2 ms2).locals ≤ (xR X).locals := by
  have h1 := hR.1
  have h2 := hR.2.1
  have h3 := hc.2.2.2.1
  constructor
  · show d2 + 1 ≤ _
    omega
  · show 8 + (m.2.2.1 + 11) + 64 * d2 ≤ _
    omega
def csum (st : List Value) : Nat := (st.map fun v => v.category).sum
theorem csum_tr (r : Nat → Nat) (st : List Value) : ((st.map (tr r)).map fun v => v.category).sum = csum st := by
  unfold csum
  rw [List.map_map]
  congr 1
  apply List.map_congr_left
  intro v _
  exact tr_cat r v
theorem g_callV {dM cM sM : Nat} {As : List Value} {C : String} (hX : CX E X b own nL) (hR : RX X dM cM sM) (hd : Dc b pc (.invokevirtual idx) 3 pc2) (hml : Cond.methodLink own idx m.1 ∈ lw_gd) (hc : CF m n) (hv : CV m) (hC : m.1.cls = C) (hn : As.length = n) (hT : T E m d2 mc2 ms2 (.ref o :: As) w Q) (ho : Rcv E X w o C) (hdd : d2 + 1 ≤ dM) (hcc : ca + mc2 ≤ cM) (hss : sa + ms2 ≤ sM) (hst : csum st ≤ 8)
    (kk : ∀ (r : Option Value) (w2 : Mem), Q r w2 → G0 E X (ca + mc2) (sa + ms2) pc2 L (r.toList ++ st) w2) : G0 E X ca sa pc L (As.reverse ++ .ref o :: st) w := by
  obtain ⟨hd, rfl⟩ := hd
  intro H locs ls hP hD hS hl
  have hstk : (As.reverse ++ Value.ref o :: st).map (tr (eR E)) = (As.map (tr (eR E))).reverse ++ .ref (eR E o) :: st.map (tr (eR E)) := by simp [tr]
  rw [hstk]
  refine g_run hX hS hl (va_runV (As := As.map (tr (eR E))) (rest := st.map (tr (eR E))) (Ts := lw_gd) ⟨hX.1, hX.2.1, hX.ml, hX.2.2.1, hX.2.2.2.1⟩ hT (cwV (C := C) n hX.2.2.2.1 ?_ rfl rfl rfl ⟨hC, hc.2.2.1⟩ (room_of hR hc hdd)) ⟨pic_blind, ho H locs hP hS, fun U hU hW => ⟨rfl, pic_of hX hP hD hS hU hW⟩⟩ rfl (by simpa using hn) (by rw [← hX.ml]; exact hl.1) rfl (lv_room (by rw [csum_tr]; exact hst)) hd ⟨Nat.le_trans hcc hR.2.2.1, Nat.le_trans hss hR.2.2.2⟩) kk
  subst hC
  intro q hq
  unfold wsV wl at hq
  simp only [List.cons_append, List.nil_append, List.mem_cons] at hq
  have key : q ∈ lw_gd := by
    rcases hq with rfl | rfl | rfl | rfl | rfl | h
    · exact hml
    · exact hv.1
    · exact hv.2
    · exact hc.2.1
    · exact hc.1
    · exact h
  exact gd_all (fun _ h => h) q key
theorem g_callS {dM cM sM : Nat} {As : List Value} (hX : CX E X b own nL) (hR : RX X dM cM sM) (hd : Dc b pc (.invokestatic idx) 3 pc2) (hml : Cond.methodLink own idx m.1 ∈ lw_gd) (hc : CF m n) (hv : CS m) (hn : As.length = n) (hT : T E m d2 mc2 ms2 As w Q) (hdd : d2 + 1 ≤ dM) (hcc : ca + mc2 ≤ cM) (hss : sa + ms2 ≤ sM) (hst : csum st ≤ 8)
    (kk : ∀ (r : Option Value) (w2 : Mem), Q r w2 → G0 E X (ca + mc2) (sa + ms2) pc2 L (r.toList ++ st) w2) : G0 E X ca sa pc L (As.reverse ++ st) w := by
  obtain ⟨hd, rfl⟩ := hd
  intro H locs ls hP hD hS hl
  have hstk : (As.reverse ++ st).map (tr (eR E)) = (As.map (tr (eR E))).reverse ++ st.map (tr (eR E)) := by simp
  rw [hstk]
  have hG : GoodIn lw_gd (va_wsS own idx m.1 (wl m)) := by
    intro q hq
    unfold va_wsS wl at hq
    simp only [List.cons_append, List.nil_append, List.mem_cons] at hq
    have key : q ∈ lw_gd := by
      rcases hq with rfl | rfl | rfl | rfl | h
      · exact hml
      · exact hv
      · exact hc.2.1
      · exact hc.1
      · exact h
    exact gd_all (fun _ h => h) q key
  exact g_run hX hS hl (va_runS (As := As.map (tr (eR E))) (rest := st.map (tr (eR E))) (Ts := lw_gd) ⟨hX.1, hX.2.1, hX.ml, hX.2.2.1, hX.2.2.2.1⟩ hT (va_cwS n hX.2.2.2.1 hG rfl rfl rfl hc.2.2.1 (room_of hR hc hdd)) ⟨pic_blind, fun U hU hW => ⟨rfl, pic_of hX hP hD hS hU hW⟩⟩ rfl (by simpa using hn) (by rw [← hX.ml]; exact hl.1) rfl (lv_room (by rw [csum_tr]; exact hst)) hd ⟨Nat.le_trans hcc hR.2.2.1, Nat.le_trans hss hR.2.2.2⟩) kk
theorem g_callI {dM cM sM : Nat} {As : List Value} (hX : CX E X b own nL) (hR : RX X dM cM sM) (hd : Dc b pc (.invokespecial idx) 3 pc2) (hml : Cond.methodLink own idx m.1 ∈ lw_gd) (hc : CF m n) (hv : Cond.instanceMethod m.1 ∈ lw_gd) (hin : m.1.name = "<init>") (hret : m.2.2.2 = none) (hn : As.length = n) (hT : T E m d2 mc2 ms2 (.ref o :: As) w Q) (hdd : d2 + 1 ≤ dM) (hcc : ca + mc2 ≤ cM) (hss : sa + ms2 ≤ sM) (hst : csum st ≤ 8)
    (kk : ∀ (r : Option Value) (w2 : Mem), Q r w2 → G0 E X (ca + mc2) (sa + ms2) pc2 L (r.toList ++ st) w2) : G0 E X ca sa pc L (As.reverse ++ .ref o :: st) w := by
  obtain ⟨hd, rfl⟩ := hd
  intro H locs ls hP hD hS hl
  have hstk : (As.reverse ++ Value.ref o :: st).map (tr (eR E)) = (As.map (tr (eR E))).reverse ++ .ref (eR E o) :: st.map (tr (eR E)) := by simp [tr]
  rw [hstk]
  have hG : GoodIn lw_gd (wl m) := by
    intro q hq
    unfold wl at hq
    have key : q ∈ lw_gd := by
      rcases List.mem_cons.mp hq with rfl | h
      · exact hc.1
      · exact h
    exact gd_all (fun _ h => h) q key
  exact g_run hX hS hl (va_runI (As := As.map (tr (eR E))) (rest := st.map (tr (eR E))) (Ts := lw_gd) (maxL := m.2.2.1) (bytes := m.2.1) ⟨hX.1, hX.2.1, hX.ml, hX.2.2.1, hX.2.2.2.1⟩ hT (cwI n hX.2.2.2.1 hG (ws' := lw_gd) (by rw [← hret]; rfl) rfl rfl (hX.word hc.2.1) (hX.word hml) (hX.word hv) hin hc.2.2.1 (room_of hR hc hdd)) ⟨pic_blind, fun U hU hW => ⟨rfl, pic_of hX hP hD hS hU hW⟩⟩ rfl (by simpa using hn) (by rw [← hX.ml]; exact hl.1) rfl (lv_room (by rw [csum_tr]; exact hst)) hd ⟨Nat.le_trans hcc hR.2.2.1, Nat.le_trans hss hR.2.2.2⟩) kk
end G3
