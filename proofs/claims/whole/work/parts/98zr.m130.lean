
section GKs2
variable {E : EV} {r : Nat → Nat} {X : XT} {b : ByteArray} {own : String} {nL : Nat} {ca sa pc pc2 : Nat} {L st : List Value} {cs ch : List va_E} {d mc ms : Nat}
theorem wk_put {H H1 : Heap} {b0 n : Nat} {e e0 : va_E} (hP : va_P (eD E) classes (wk b0 cs) H) (h0 : cs[n]? = some e0) (he : va_at (eD E) classes (b0 + n, e) H1) (oq : ∀ q : Nat, q ≠ b0 + n → H1[q]? = H[q]?) : va_P (eD E) classes (wk b0 (cs.set n e)) H1 := by
  rw [← wk_set]
  exact hP.set (wk_D b0 cs) (wk_at h0) he oq
theorem z_putF {idx ci k : Nat} {t : FieldType} {q : Nat × Nat} {v v2 : Value} {fs : List Value} (hX : CK E r X b own nL) (hin2 : (xh X).name = "<init>") (hd : Dc b pc (.putfield idx) 3 pc2) (hf : FL own idx ci k true t q) (hcd : ∀ (C : String) (F : u_T) (N : Nat), classes[ci]? = some (C, F, N) → (F k).1 = own) (hv : tr r v = v2) (hn : narrow t v2 = v2) (hfit : fits t v2 = true) (hl : k < fs.length) (kk : GK E r X ca sa pc2 L st (.inr (ci, fs.set k v2) :: ch)) : GK E r X ca sa pc L (v :: .ref 0 :: st) (.inr (ci, fs) :: ch) := by
  obtain ⟨hd, rfl⟩ := hd
  obtain ⟨C, F, N, ty, h1, h2, h3, h4, h5, h6, h7, h8, h9, h10⟩ := hf
  subst hv
  intro H locs ls hz hP hS hl2
  have hts := hX.2.2.2.1
  have he : (wk (r 0) (.inr (ci, fs) :: ch))[0]? = some (r 0, .inr (ci, fs)) := rfl
  have hap := va_apart (own := own) hts h3 ty h4 h5 hX.K h1
  obtain ⟨R, g1, cell, q1, q2, q3, q4⟩ := hP 0 _ he
  have hr : R = (C, F, N) := Option.some.inj (g1.symm.trans h1)
  subst hr
  obtain ⟨hSl, hfc, kC, hkC, hkind⟩ := hX.K.1 ci _ h1
  obtain ⟨cf, kf, fi, f, hi, hsl⟩ := hSl k h6
  have hlay := hts _ (h3 _ (u_in_lay h6))
  unfold u_lay at hlay
  rw [if_pos h8] at hlay
  have hst := (u_facts hfc hkC (u_lays hts h3 h6) hi).1
  have hcf : (xm X).cls = cf := by
    obtain ⟨_, _, c', _, _, _, -, -, hf', -, -, -, hown2, -⟩ := Cond.laysFinal_spec hlay
    have e1 : c' = cf := by have := hi.symm.trans hf'; simp at this; exact this.1.symm
    rw [hcd C F N h1] at hown2
    rw [← e1]; exact Option.some.inj (hX.2.2.1.symm.trans hown2)
  have hpd : parseFieldDescriptor (F k).2.2.1 = some t := by rw [h4 k h6, h9]
  have h66 := u_fits hfc hkC hkind (Or.inr hlay) hi hpd hn hfit
  refine W.putFinK hX.1 hX.2.1 hX.2.2.1 (hX.word h7) hi hst hcf hin2 (by rw [q2]; exact h66) q1 q3 (by rw [hsl]; exact k2_hasslot (q4 k h6)) rfl (rest := st.map (tr r)) (a := r 0) (v := tr r v) rfl hd fun H1 e1 e2 e3 => ?_
  rw [hsl] at e1 ⊢
  refine kk H1 _ ls (by rw [e2, hz]; rfl) ?_ (hS.put e2 e3 (Nat.le_refl _)) hl2
  exact wk_put (n := 0) hP rfl (show va_at (eD E) classes (r 0, .inr (ci, fs.set k (tr r v))) H1 from ⟨_, h1, t_OB.to (V := updV (vp_V fs) k (tr r v)) ⟨_, e1, q2, q3, t_set q4 hap h6 _⟩ (fun j _ => vp_updV_set hl _ j)⟩) e3
theorem z_put {idx ci k : Nat} {t : FieldType} {q : Nat × Nat} {v v2 : Value} {fs : List Value} (hX : CK E r X b own nL) (hd : Dc b pc (.putfield idx) 3 pc2) (hf : FL own idx ci k false t q) (hv : tr r v = v2) (hn : narrow t v2 = v2) (hfit : fits t v2 = true) (hl : k < fs.length) (kk : GK E r X ca sa pc2 L st (.inr (ci, fs.set k v2) :: ch)) : GK E r X ca sa pc L (v :: .ref 0 :: st) (.inr (ci, fs) :: ch) := by
  obtain ⟨hd, rfl⟩ := hd
  obtain ⟨C, F, N, ty, h1, h2, h3, h4, h5, h6, h7, h8, h9, h10⟩ := hf
  subst hv
  intro H locs ls hz hP hS hl2
  have hts := hX.2.2.2.1
  have he : (wk (r 0) (.inr (ci, fs) :: ch))[0]? = some (r 0, .inr (ci, fs)) := rfl
  have hap := va_apart (own := own) hts h3 ty h4 h5 hX.K h1
  obtain ⟨R, g1, cell, q1, q2, q3, q4⟩ := hP 0 _ he
  have hr : R = (C, F, N) := Option.some.inj (g1.symm.trans h1)
  subst hr
  obtain ⟨hSl, hfc, kC, hkC, hkind⟩ := hX.K.1 ci _ h1
  obtain ⟨cf, kf, fi, f, hi, hsl⟩ := hSl k h6
  have hlay := hts _ (h3 _ (u_in_lay h6))
  unfold u_lay at hlay
  rw [if_neg (by rw [h8]; decide)] at hlay
  have hst := (u_facts hfc hkC (u_lays hts h3 h6) hi).1
  have hpd : parseFieldDescriptor (F k).2.2.1 = some t := by rw [h4 k h6, h9]
  have h66 := u_store hfc hkC hkind hlay hi hpd hn hfit
  refine W.putK hX.1 hX.2.1 (f := f) ⟨hX.2.2.1, hX.word h7, ⟨_, _, _, hi⟩, hst⟩ (by rw [q2]; exact h66) q1 q3 (by rw [hsl]; exact k2_hasslot (q4 k h6)) rfl (rest := st.map (tr r)) (a := r 0) (v := tr r v) rfl hd fun H1 e1 e2 e3 => ?_
  rw [hsl] at e1 ⊢
  refine kk H1 _ ls (by rw [e2, hz]; rfl) ?_ (hS.put e2 e3 (Nat.le_refl _)) hl2
  exact wk_put (n := 0) hP rfl (show va_at (eD E) classes (r 0, .inr (ci, fs.set k (tr r v))) H1 from ⟨_, h1, t_OB.to (V := updV (vp_V fs) k (tr r v)) ⟨_, e1, q2, q3, t_set q4 hap h6 _⟩ (fun j _ => vp_updV_set hl _ j)⟩) e3
theorem z_get {idx ci k : Nat} {fin : Bool} {t : FieldType} {q : Nat × Nat} {v : Value} {fs : List Value} (hX : CK E r X b own nL) (hd : Dc b pc (.getfield idx) 3 pc2) (hf : FL own idx ci k fin t q) (hv : fs[k]? = some (tr r v)) (kk : GK E r X ca sa pc2 L (v :: st) (.inr (ci, fs) :: ch)) : GK E r X ca sa pc L (.ref 0 :: st) (.inr (ci, fs) :: ch) := by
  obtain ⟨hd, rfl⟩ := hd
  obtain ⟨C, F, N, ty, h1, h2, h3, h4, h5, h6, h7, h8, h9, h10⟩ := hf
  intro H locs ls hz hP hS hl2
  exact va_get (rest := st.map (tr r)) (ref := (F k).1) hX.1 hX.2.1 hX.2.2.2.1 h3 hX.2.2.1 hX.K hP 0 rfl h1 k h6 (hX.word h7) (fun _ h => h) hv hd (kk H locs ls hz hP hS hl2)
theorem z_iast {n N j : Nat} {f : Nat → Int32} {x i : Int32} (hX : CK E r X b own nL) (hd : Dc b pc .iastore 1 pc2) (hr : r n = r 0 + n) (hn : cs[n]? = some (.inl (eC E 0, N, .inl f))) (hi : i = nI j) (hj : j < N) (hN : N < 100000) (kk : GK E r X ca sa pc2 L st (cs.set n (.inl (eC E 0, N, .inl (upd f j x))))) : GK E r X ca sa pc L (.int x :: .int i :: .ref n :: st) cs := by
  obtain ⟨hd, rfl⟩ := hd
  subst hi
  intro H locs ls hz hP hS hl2
  have hjc : (nI j).toNatClampNeg = j := nI_clamp (by omega)
  have hin : vp_in (nI j) N := vp_in_nI hj (by omega)
  have ha := wk_at (b := r 0) hn
  refine W.iast hX.1 hX.2.1 (a := r n) (by rw [hr]; exact hP n _ ha) ((hX.K.2 0 _ rfl).1 N (fun j => .int (f j))) (fun q => by cases q) (by show ¬ (nI j < 0 ∨ (arrV _ _ _).slots.size ≤ _); rw [arrV_size]; exact hin) rfl (rest := st.map (tr r)) rfl hd fun H1 e z oq => ?_
  rw [hr] at e oq ⊢
  refine kk H1 _ ls (by rw [z, hz, List.length_set]) (wk_put hP hn ?_ oq) (hS.put z oq (Nat.le_add_right _ _)) hl2
  show H1[r 0 + n]? = some (vp_cell _ _)
  rw [e]
  rw [vp_cell_i, arrV_store, hjc]
  congr 2
  funext q
  by_cases hq : q = j
  · subst hq
    simp [updV, upd]
  · simp [updV, upd, hq]
theorem z_last {n N j : Nat} {f : Nat → Int64} {x : Int64} {i : Int32} (hX : CK E r X b own nL) (hd : Dc b pc .lastore 1 pc2) (hr : r n = r 0 + n) (hn : cs[n]? = some (.inl (eC E 1, N, .inr (.inl f)))) (hi : i = nI j) (hj : j < N) (hN : N < 100000) (kk : GK E r X ca sa pc2 L st (cs.set n (.inl (eC E 1, N, .inr (.inl (vp_updL f j x)))))) : GK E r X ca sa pc L (.long x :: .int i :: .ref n :: st) cs := by
  obtain ⟨hd, rfl⟩ := hd
  subst hi
  intro H locs ls hz hP hS hl2
  have hjc : (nI j).toNatClampNeg = j := nI_clamp (by omega)
  have hin : vp_in (nI j) N := vp_in_nI hj (by omega)
  have ha := wk_at (b := r 0) hn
  refine W.last hX.1 hX.2.1 (a := r n) (by rw [hr]; exact hP n _ ha) ((hX.K.2 1 _ rfl).1 N (fun j => .long (f j))) (fun q => by cases q) (by show ¬ (nI j < 0 ∨ (arrV _ _ _).slots.size ≤ _); rw [arrV_size]; exact hin) rfl (rest := st.map (tr r)) rfl hd fun H1 e z oq => ?_
  rw [hr] at e oq ⊢
  refine kk H1 _ ls (by rw [z, hz, List.length_set]) (wk_put hP hn ?_ oq) (hS.put z oq (Nat.le_add_right _ _)) hl2
  show H1[r 0 + n]? = some (vp_cell _ _)
  rw [e]
  rw [vp_cell_l, arrV_store, hjc]
  congr 2
  funext q
  by_cases hq : q = j
  · subst hq
    simp [updV, vp_updL]
  · simp [updV, vp_updL, hq]
/-- a board is put into the row of images -/
theorem z_aast {n N j m : Nat} {f : Nat → Option Nat} {i : Int32} {vs : List Value} (hX : CK E r X b own nL) (hd : Dc b pc .aastore 1 pc2) (hr : r n = r 0 + n) (hr2 : r m = r 0 + m) (hn : cs[n]? = some (.inl (eC E 4, N, .inr (.inr (.inr (.inr f)))))) (hm : cs[m]? = some (.inr (2, vs))) (hi : i = nI j) (hj : j < N) (hN : N < 100000) (kk : GK E r X ca sa pc2 L st (cs.set n (.inl (eC E 4, N, .inr (.inr (.inr (.inr (va_up f j (some (r 0 + m))))))))))
    : GK E r X ca sa pc L (.ref m :: .int i :: .ref n :: st) cs := by
  obtain ⟨hd, rfl⟩ := hd
  subst hi
  intro H locs ls hz hP hS hl2
  have hjc : (nI j).toNatClampNeg = j := nI_clamp (by omega)
  have ha := wk_at (b := r 0) hn
  have hv := wk_at (b := r 0) hm
  have hc : classes[2]? = some (R_Bo, F_Bo, 15) := rfl
  obtain ⟨r', hr', cellV, g1, g2, g3, -⟩ := hP m _ hv
  have hcls := (hX.K.1 2 _ hc).2
  obtain ⟨kA, comp, k1, k2, k3, -⟩ := (show ∃ (kA : Class) (comp : ClassId), (xs X).vm.classes[eC E 4]? = some kA ∧ kA.kind = .array comp (.object "SubgraphDesk$Board") ∧ (xs X).vm.findClass "SubgraphDesk$Board" = some comp ∧ _ from (hX.K.2 4 _ rfl).2)
  have hcomp : comp = (eD E).1 2 := Option.some.inj (k3.symm.trans hcls.1)
  subst hcomp
  obtain ⟨kC, hkC, -⟩ := hcls.2
  refine W.aast hX.1 hX.2.1 (a := r n) (v := r m) (by rw [hr]; exact hP n _ ha) (fun q h => by cases h) (fun h => by cases h) k1 k2 rfl hkC ⟨nI_pos (by omega), by show _ < (arrV _ _ _).slots.size; rw [arrV_size, hjc]; exact hj⟩ (by rw [hr2]; exact g1) (fun q h => by rw [g3] at h; cases h) (by rw [g2]; exact hkC) (by rw [g2]; exact va_assign hcls) rfl (rest := st.map (tr r)) rfl hd fun H1 e z oq => ?_
  rw [hr] at e oq ⊢
  refine kk H1 _ ls (by rw [z, hz, List.length_set]) (wk_put hP hn ?_ oq) (hS.put z oq (Nat.le_add_right _ _)) hl2
  show H1[r 0 + n]? = some (vp_cell _ _)
  rw [e]
  rw [vp_cell_q, vp_cell_q, arrV_store, hjc, hr2]
  congr 2
  funext q
  by_cases hq : q = j
  · subst hq
    simp [updV, va_up, va_rf]
  · simp [updV, va_up, hq]
theorem z_vret (hX : CK E r X b own nL) (hF : FK E X d mc ms (r 0) cs) (hd : Dc b pc .return_ 1 pc2) (hca : ca ≤ mc) (hsa : sa ≤ ms) : GK E r X ca sa pc L [] cs := by
  obtain ⟨hd, -⟩ := hd
  obtain ⟨h1, h2, h3, h4⟩ := hF
  intro H locs ls hz hP hS hl
  refine W.widen hca hsa ?_
  rw [h2]
  exact W.vret hX.1 hX.2.1 h3 (fun t ht hW => ⟨⟨rfl, by rw [ht]; exact hz, by rw [ht]; exact hP, va_K.moved hW.alike hX.K, va_AO.moved hW.alike hX.ao.1, va_AO.moved hW.alike hX.ao.2.1, NW.warm hW hX.ao.2.2⟩, hS.F ht⟩) hS.2.2 hd h4
theorem pick_blind {b0 : Nat} {av : List Value} : FrameBlind (va_Pc av (PicK E b0 cs)) := by
  intro a U g mk h
  obtain ⟨h0, h1, h2, h3, h4, h5, h6⟩ := h
  exact ⟨h0, h1, h2, va_K.moved (u := U) (U := U.calling g mk a) (Vm.Alike.refl U.vm) h3, va_AO.moved (u := U) (U := U.calling g mk a) (Vm.Alike.refl U.vm) h4, va_AO.moved (u := U) (U := U.calling g mk a) (Vm.Alike.refl U.vm) h5, NW.same (s := U) (U := U.calling g mk a) rfl h6⟩
/-- the entry of a constructor -/
theorem KT_of {m : MR} {n b0 : Nat} {av : List Value} {cs2 : List va_E} (hc : CF m n) (hin : m.1.name = "<init>") (hret : m.2.2.2 = none) {L : List Value} (hL : iniL av ++ List.replicate (m.2.2.1 - (iniL av).length) un = L) (hs : (iniL av).length ≤ m.2.2.1)
    (body : ∀ X : XT, CK E (fun k => b0 + k) X m.2.1 m.1.cls m.2.2.1 → FK E X d mc ms b0 cs2 → (xh X).name = "<init>" → GK E (fun k => b0 + k) X 0 0 0 L [] cs) : KT E m d mc ms b0 av cs cs2 := by
  refine Met.ofW (cc := m.2.1) (maxL := m.2.2.1) (ret := m.2.2.2) hc.2.2.2.2 rfl ?_
  intro p e s mm args below meth c s₁ B hml hv
  obtain ⟨rfl, h1, h2, h3, h4, h5, h6⟩ := hv
  have hts := atoms_spec (ws := wl m) B.pre
  have hXX : CK E (fun k => b0 + k) (p, e, (headSpec (wl m) (rmm d mc ms)).room, s, mm, (av.map (tr (fun k => b0 + k))).toArray, below, meth, c, MQ below (QcK E b0 cs2) (av.map (tr (fun k => b0 + k))).toArray s mc ms (fun q => b0 ≤ q)) m.2.1 m.1.cls m.2.2.1 :=
    ⟨B.exec, B.bytes, findClass_of_methodNamed B.named, fun q hq => hts q (List.mem_cons_of_mem _ hq), h3, ⟨h4, h5, h6⟩, (by show b0 + 0 ≤ s.heap.size; rw [h1]; omega), fun k _ => (by show b0 + k = b0 + 0 + k; omega), hml⟩
  have hFF : FK E (p, e, (headSpec (wl m) (rmm d mc ms)).room, s, mm, (av.map (tr (fun k => b0 + k))).toArray, below, meth, c, MQ below (QcK E b0 cs2) (av.map (tr (fun k => b0 + k))).toArray s mc ms (fun q => b0 ≤ q)) d mc ms b0 cs2 :=
    ⟨⟨Nat.le_refl _, Nat.le_refl _, Nat.le_refl _, Nat.le_refl _⟩, rfl, B.returns.trans hret, B.notSynchronized⟩
  have hl := lv_entry (av.map (tr (fun k => b0 + k))) (n := m.2.2.1) (by rw [sl_len]; exact hs)
  rw [lg_entry_eq]
  refine body _ hXX hFF (((name_of_methodNamed B.named B.method).1).trans hin) s.heap [] _ h1 h2 va_S.rf ?_
  subst hL
  show lv_has _ c.maxLocals _
  rw [hml]
  refine ⟨hl.1, hl.2.1, fun q hq => hl.2.2 q ?_⟩
  apply ini_args
  obtain ⟨k, v, g1, g2, rfl⟩ := lvl_inv _ 0 q hq
  rw [Nat.zero_add]
  have g3 : (iniL av)[k]? = some v := by
    by_cases hk : k < (iniL av).length
    · rw [List.getElem?_append_left hk] at g1
      exact g1
    · rw [List.getElem?_append_right (by omega), List.getElem?_replicate] at g1
      by_cases hz : k - (iniL av).length < m.2.2.1 - (iniL av).length
      · rw [if_pos hz] at g1
        exact absurd (Option.some.inj g1).symm (g2 0)
      · rw [if_neg hz] at g1
        cases g1
  have g4 := lvl_mem (r := fun k => b0 + k) g2 (iniL av) 0 k g3
  rwa [Nat.zero_add] at g4
/-- a constructor is called on the cell that was made last -/
theorem z_call {m : MR} {n n0 idx d2 mc2 ms2 dM cM sM : Nat} {As : List Value} {e0 : va_E} {blk : List va_E} (hX : CK E r X b own nL) (hR : RX X dM cM sM) (hd : Dc b pc (.invokespecial idx) 3 pc2) (hml : Cond.methodLink own idx m.1 ∈ lw_gd) (hc : CF m n) (hv : Cond.instanceMethod m.1 ∈ lw_gd) (hin : m.1.name = "<init>") (hret : m.2.2.2 = none) (hn : As.length = n) (hcl : cs.length = n0) (hn0 : n0 < 200) (hai : ∀ f : Nat → Nat, As.map (tr f) = As)
    (hT : KT E m d2 mc2 ms2 (r 0 + n0) (.ref 0 :: As) [e0] blk) (hdd : d2 + 1 ≤ dM) (hcc : ca + mc2 ≤ cM) (hss : sa + ms2 ≤ sM) (hst : csum st ≤ 8)
    (kk : GK E r X (ca + mc2) (sa + ms2) pc2 L st (cs ++ blk)) : GK E r X ca sa pc L (As.reverse ++ .ref n0 :: st) (cs ++ [e0]) := by
  obtain ⟨hd, rfl⟩ := hd
  subst hcl
  intro H locs ls hz hP hS hl
  have hstk : (As.reverse ++ Value.ref cs.length :: st).map (tr r) = As.reverse ++ .ref (r 0 + cs.length + 0) :: st.map (tr r) := by
    rw [List.map_append, List.map_reverse, hai, List.map_cons]
    show _ ++ Value.ref (r cs.length) :: _ = _
    rw [hX.ra _ hn0]
    rfl
  rw [hstk]
  have hG : GoodIn lw_gd (wl m) := by
    intro q hq
    unfold wl at hq
    have key : q ∈ lw_gd := by
      rcases List.mem_cons.mp hq with rfl | h
      · exact hc.1
      · exact h
    exact gd_all (fun _ h => h) q key
  have hz1 : H.size = r 0 + cs.length + 1 := by rw [hz, len_snoc]; omega
  have hPc : va_P (eD E) classes (wk (r 0 + cs.length) [e0]) H := fun k q hq => by
    have h1 : k < 1 := (List.getElem?_eq_some_iff.mp hq).1
    obtain rfl : k = 0 := by omega
    refine hP (cs.length + 0) q ?_
    rw [wk_get, List.getElem?_append_right (by omega), show cs.length + 0 - cs.length = 0 by omega]
    exact hq
  have hPr : va_P (eD E) classes (wk (r 0) cs) H := fun k q hq => hP k q (by
    have h1 : k < (wk (r 0) cs).length := (List.getElem?_eq_some_iff.mp hq).1
    rw [wk_len] at h1
    rw [wk_get, List.getElem?_append_left h1, ← wk_get]
    exact hq)
  have hPn : ∀ (k : Nat) (x : Nat × va_E), (wk (r 0) cs)[k]? = some x → x.1 < r 0 + cs.length := fun k x hx => by
    have h1 : k < (wk (r 0) cs).length := (List.getElem?_eq_some_iff.mp hx).1
    rw [wk_len] at h1
    rw [wk_get] at hx
    cases hi : cs[k]? with
    | none => rw [hi] at hx; cases hx
    | some y =>
      rw [hi] at hx
      obtain rfl := Option.some.inj hx
      show r 0 + k < _
      omega
  have hrun := va_runI (l := eL E) (p := xp X) (e := xe X) (R := xR X) (s := xs X) (m := xm X) (args := xa X) (below := xb X) (meth := xh X) (c := xc X) (H := H) (locs := locs) (cells := ca) (slots := sa) (b := r 0 + cs.length + 0) (As := As) (rest := st.map (tr r)) (g := F0 (xm X) pc ls (As.reverse ++ .ref (r 0 + cs.length + 0) :: st.map (tr r))) (Ts := lw_gd) (maxL := m.2.2.1) (bytes := m.2.1) ⟨hX.1, hX.2.1, hX.ml, hX.2.2.1, hX.2.2.2.1⟩ hT (cwI n hX.2.2.2.1 hG (ws' := lw_gd) (by rw [← hret]; rfl) rfl rfl (hX.word hc.2.1) (hX.word hml) (hX.word hv) hin hc.2.2.1 (room_of hR hc hdd)) ⟨pick_blind, fun U hU hW => ⟨by rw [List.map_cons, hai]; rfl, by rw [hU]; exact hz1, by rw [hU]; exact hPc, va_K.moved hW.alike hX.K, va_AO.moved hW.alike hX.ao.1, va_AO.moved hW.alike hX.ao.2.1, NW.warm hW hX.ao.2.2⟩⟩ rfl hn (by rw [← hX.ml]; exact hl.1) rfl (lv_room (by rw [csum_tr]; exact hst)) hd ⟨Nat.le_trans hcc hR.2.2.1, Nat.le_trans hss hR.2.2.2⟩
  intro U hU XU
  obtain ⟨v, st₀, t, T2, Lc, h0, X2, hLc, e1, e2, ⟨⟨hv2, hpic⟩, hz2, hk2⟩, stp⟩ := hrun U hU XU
  cases hv2
  rw [h0] at hz2 hk2
  have hS2 : va_S (fun q => r 0 ≤ q) (xs X).heap T2.heap (locs ++ Lc) := by
    refine ⟨Nat.le_trans hS.1 (by rw [e1]; exact hz2), fun q h1 h2 => ?_, fun q hq => ?_⟩
    · rw [e1, hk2 q (Nat.lt_of_lt_of_le h1 hS.1) (fun (z : r 0 + cs.length ≤ q) => h2 (show r 0 ≤ q by omega))]
      exact hS.2.1 q h1 h2
    · rcases List.mem_append.mp hq with h | h
      · exact hS.2.2 q h
      · have z : r 0 + cs.length ≤ q.base := hLc q h
        show r 0 ≤ q.base
        omega
  have hP2 : va_P (eD E) classes (wk (r 0) (cs ++ blk)) T2.heap := by
    rw [← wk_app2]
    refine (hPr.kept (fun k x hx => ?_)).app (by rw [e1]; exact hpic.2.1)
    have h1 := hPn k x hx
    rw [e1]
    exact hk2 _ (by omega) (fun (z : r 0 + cs.length ≤ x.1) => by omega)
  obtain ⟨t2, a1, b1⟩ := kk T2.heap (locs ++ Lc) ls (by rw [e1, hpic.1, List.length_append]; omega) hP2 hS2 hl T2 rfl X2
  exact ⟨t2, stp t2 a1, b1⟩
/-- a constructor is called on the cell that was made last, by a nest mate -/
theorem z_callN {m : MR} {n n0 idx d2 mc2 ms2 dM cM sM : Nat} {As : List Value} {e0 : va_E} {blk : List va_E} (hX : CK E r X b own nL) (hR : RX X dM cM sM) (hd : Dc b pc (.invokespecial idx) 3 pc2) (hml : Cond.methodLinkNest own idx m.1 "SubgraphDesk" ∈ lw_nw) (hc : CF m n) (hv : Cond.instanceMethod m.1 ∈ lw_gd) (hin : m.1.name = "<init>") (hret : m.2.2.2 = none) (hn : As.length = n) (hcl : cs.length = n0) (hn0 : n0 < 200) (hai : ∀ f : Nat → Nat, As.map (tr f) = As)
    (hT : KT E m d2 mc2 ms2 (r 0 + n0) (.ref 0 :: As) [e0] blk) (hdd : d2 + 1 ≤ dM) (hcc : ca + mc2 ≤ cM) (hss : sa + ms2 ≤ sM) (hst : csum st ≤ 8)
    (kk : GK E r X (ca + mc2) (sa + ms2) pc2 L st (cs ++ blk)) : GK E r X ca sa pc L (As.reverse ++ .ref n0 :: st) (cs ++ [e0]) := by
  obtain ⟨hd, rfl⟩ := hd
  subst hcl
  intro H locs ls hz hP hS hl
  have hstk : (As.reverse ++ Value.ref cs.length :: st).map (tr r) = As.reverse ++ .ref (r 0 + cs.length + 0) :: st.map (tr r) := by
    rw [List.map_append, List.map_reverse, hai, List.map_cons]
    show _ ++ Value.ref (r cs.length) :: _ = _
    rw [hX.ra _ hn0]
    rfl
  rw [hstk]
  have hG : GoodIn lw_gd (wl m) := by
    intro q hq
    unfold wl at hq
    have key : q ∈ lw_gd := by
      rcases List.mem_cons.mp hq with rfl | h
      · exact hc.1
      · exact h
    exact gd_all (fun _ h => h) q key
  have hz1 : H.size = r 0 + cs.length + 1 := by rw [hz, len_snoc]; omega
  have hPc : va_P (eD E) classes (wk (r 0 + cs.length) [e0]) H := fun k q hq => by
    have h1 : k < 1 := (List.getElem?_eq_some_iff.mp hq).1
    obtain rfl : k = 0 := by omega
    refine hP (cs.length + 0) q ?_
    rw [wk_get, List.getElem?_append_right (by omega), show cs.length + 0 - cs.length = 0 by omega]
    exact hq
  have hPr : va_P (eD E) classes (wk (r 0) cs) H := fun k q hq => hP k q (by
    have h1 : k < (wk (r 0) cs).length := (List.getElem?_eq_some_iff.mp hq).1
    rw [wk_len] at h1
    rw [wk_get, List.getElem?_append_left h1, ← wk_get]
    exact hq)
  have hPn : ∀ (k : Nat) (x : Nat × va_E), (wk (r 0) cs)[k]? = some x → x.1 < r 0 + cs.length := fun k x hx => by
    have h1 : k < (wk (r 0) cs).length := (List.getElem?_eq_some_iff.mp hx).1
    rw [wk_len] at h1
    rw [wk_get] at hx
    cases hi : cs[k]? with
    | none => rw [hi] at hx; cases hx
    | some y =>
      rw [hi] at hx
      obtain rfl := Option.some.inj hx
      show r 0 + k < _
      omega
  have hrun := va_runIN (l := eL E) (p := xp X) (e := xe X) (R := xR X) (s := xs X) (m := xm X) (args := xa X) (below := xb X) (meth := xh X) (c := xc X) (H := H) (locs := locs) (cells := ca) (slots := sa) (b := r 0 + cs.length + 0) (As := As) (rest := st.map (tr r)) (g := F0 (xm X) pc ls (As.reverse ++ .ref (r 0 + cs.length + 0) :: st.map (tr r))) (Ts := lw_gd) (maxL := m.2.2.1) (bytes := m.2.1) ⟨hX.1, hX.2.1, hX.ml, hX.2.2.1, hX.2.2.2.1⟩ hT ⟨va_cnB n hX.2.2.2.1 hG (ws' := lw_gd) (by rw [← hret]; rfl) rfl rfl (hX.ao.2.2 _ _ _ hml) (hX.word hc.2.1) hc.2.2.1 (room_of hR hc hdd), hin, hX.word hv⟩ ⟨pick_blind, fun U hU hW => ⟨by rw [List.map_cons, hai]; rfl, by rw [hU]; exact hz1, by rw [hU]; exact hPc, va_K.moved hW.alike hX.K, va_AO.moved hW.alike hX.ao.1, va_AO.moved hW.alike hX.ao.2.1, NW.warm hW hX.ao.2.2⟩⟩ rfl hn (by rw [← hX.ml]; exact hl.1) rfl (lv_room (by rw [csum_tr]; exact hst)) hd ⟨Nat.le_trans hcc hR.2.2.1, Nat.le_trans hss hR.2.2.2⟩
  intro U hU XU
  obtain ⟨v, st₀, t, T2, Lc, h0, X2, hLc, e1, e2, ⟨⟨hv2, hpic⟩, hz2, hk2⟩, stp⟩ := hrun U hU XU
  cases hv2
  rw [h0] at hz2 hk2
  have hS2 : va_S (fun q => r 0 ≤ q) (xs X).heap T2.heap (locs ++ Lc) := by
    refine ⟨Nat.le_trans hS.1 (by rw [e1]; exact hz2), fun q h1 h2 => ?_, fun q hq => ?_⟩
    · rw [e1, hk2 q (Nat.lt_of_lt_of_le h1 hS.1) (fun (z : r 0 + cs.length ≤ q) => h2 (show r 0 ≤ q by omega))]
      exact hS.2.1 q h1 h2
    · rcases List.mem_append.mp hq with h | h
      · exact hS.2.2 q h
      · have z : r 0 + cs.length ≤ q.base := hLc q h
        show r 0 ≤ q.base
        omega
  have hP2 : va_P (eD E) classes (wk (r 0) (cs ++ blk)) T2.heap := by
    rw [← wk_app2]
    refine (hPr.kept (fun k x hx => ?_)).app (by rw [e1]; exact hpic.2.1)
    have h1 := hPn k x hx
    rw [e1]
    exact hk2 _ (by omega) (fun (z : r 0 + cs.length ≤ x.1) => by omega)
  obtain ⟨t2, a1, b1⟩ := kk T2.heap (locs ++ Lc) ls (by rw [e1, hpic.1, List.length_append]; omega) hP2 hS2 hl T2 rfl X2
  exact ⟨t2, stp t2 a1, b1⟩
end GKs2
