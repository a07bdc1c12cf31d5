def m_Pr_init : MR := (⟨"SubgraphDesk$Program", "<init>", "(II)V"⟩, prog_7_method_1_code, 3, none)
theorem cf_Pr_init : CF m_Pr_init 2 := ⟨gd 331 (by decide +kernel) rfl, gd 144 (by decide +kernel) rfl, by decide +kernel, by decide, by decide +kernel⟩
theorem ci_Pr_init : Cond.instanceMethod m_Pr_init.1 ∈ lw_gd := gd 330 (by decide +kernel) rfl
theorem d_Pr_init_0 : Dc prog_7_method_1_code 0 (.aload_n 0) 1 1 := ⟨by decide +kernel, rfl⟩
theorem d_Pr_init_1 : Dc prog_7_method_1_code 1 (.invokespecial 5) 3 4 := ⟨by decide +kernel, rfl⟩
theorem d_Pr_init_4 : Dc prog_7_method_1_code 4 (.aload_n 0) 1 5 := ⟨by decide +kernel, rfl⟩
theorem d_Pr_init_5 : Dc prog_7_method_1_code 5 (.iload_n 1) 1 6 := ⟨by decide +kernel, rfl⟩
theorem d_Pr_init_6 : Dc prog_7_method_1_code 6 (.newarray .int) 2 8 := ⟨by decide +kernel, rfl⟩
theorem d_Pr_init_8 : Dc prog_7_method_1_code 8 (.putfield 11) 3 11 := ⟨by decide +kernel, rfl⟩
theorem d_Pr_init_11 : Dc prog_7_method_1_code 11 (.aload_n 0) 1 12 := ⟨by decide +kernel, rfl⟩
theorem d_Pr_init_12 : Dc prog_7_method_1_code 12 (.iload_n 2) 1 13 := ⟨by decide +kernel, rfl⟩
theorem d_Pr_init_13 : Dc prog_7_method_1_code 13 (.newarray .int) 2 15 := ⟨by decide +kernel, rfl⟩
theorem d_Pr_init_15 : Dc prog_7_method_1_code 15 (.putfield 15) 3 18 := ⟨by decide +kernel, rfl⟩
theorem d_Pr_init_18 : Dc prog_7_method_1_code 18 (.return_) 1 19 := ⟨by decide +kernel, rfl⟩
theorem lk_oi1 : Cond.instanceMethod Lib.objectInit ∈ lw_gd := gd 166 (by decide +kernel) rfl
theorem lk_oi2 : Cond.code Lib.objectInit ⟨#[0xb1]⟩ 1 none ∈ lw_gd := gd 167 (by decide +kernel) rfl
theorem lk_arI : Cond.arrayClass .int ∈ lw_gd := gd 263 (by decide +kernel) rfl
theorem lk_inP : Cond.initialized R_Pr ∈ lw_gd := gd 144 (by decide +kernel) rfl
theorem lk_isP : Cond.instantiable R_Pr 4 ∈ lw_gd := gd 328 (by decide +kernel) rfl
theorem lk_clP : Cond.classLink R_Pr 1 R_Pr ∈ lw_gd := gd 985 (by decide +kernel) rfl
theorem lk_oiP : Cond.methodLink R_Pr 5 Lib.objectInit ∈ lw_gd := gd 332 (by decide +kernel) rfl
section GNew
variable {E : EV} {X : XT} {b : ByteArray} {own : String} {nL : Nat} {ca sa pc pc2 : Nat} {L st : List Value} {w : Mem}
theorem g_objI {idx o dM cM sM : Nat} (hX : CX E X b own nL) (hR : RX X dM cM sM) (hd : Dc b pc (.invokespecial idx) 3 pc2) (hml : Cond.methodLink own idx Lib.objectInit ∈ lw_gd) (hdm : 1 ≤ dM) (hcs : csum st ≤ 8) (k : G0 E X ca sa pc2 L st w) : G0 E X ca sa pc L (.ref o :: st) w := by
  obtain ⟨hd, rfl⟩ := hd
  intro H locs ls hP hD hS hl
  have h1 := hR.1
  have h2 := hR.2.1
  refine W.objInit (rest := st.map (tr (eR E))) (a := eR E o) hX.1 hX.2.1 hX.2.2.1 (hX.word hml) (hX.word lk_oi1) (hX.word lk_oi2) rfl hl.1 rfl hd (by omega) ?_ (k H locs ls hP hD hS hl)
  show 2 * 0 + _ + 12 ≤ _
  rw [csum_tr]
  omega
/-- what was made anew has a name that no cell had -/
theorem fresh_nm (hr : ∀ q, eR E (1000 + 2 * q) = q ∧ eR E (1001 + 2 * q) = q) {A : Nat → Prop} {q : Nat} {e : va_E} (hD : va_D A (wsOf E w ++ [(q, e)])) : 1000 + 2 * q ∉ nms w ∧ 1001 + 2 * q ∉ nms w := by
  have key : ∀ a, eR E a = q → a ∉ nms w := fun a ha hin => by
    obtain ⟨i, hi⟩ := ws_at hin
    have e1 := ws_get E hi
    have hlt : i < (wsOf E w).length := (List.getElem?_eq_some_iff.mp e1).1
    have e2 : (wsOf E w ++ [(q, e)])[i]? = some (eR E a, cellOf E w a) := by rw [List.getElem?_append_left hlt]; exact e1
    have e3 : (wsOf E w ++ [(q, e)])[(wsOf E w).length]? = some (q, e) := by rw [List.getElem?_append_right (Nat.le_refl _), Nat.sub_self]; rfl
    have := hD.1 i _ _ _ e2 e3 ha
    omega
  exact ⟨key _ (hr q).1, key _ (hr q).2⟩
theorem ws_new {w2 : Mem} {a : Nat} {c : va_E} (hn : nms w2 = nms w ++ [a]) (hc : cellOf E w2 a = c) (ho : ∀ j, j ∈ nms w → cellOf E w2 j = cellOf E w j) : wsOf E w ++ [(eR E a, c)] = wsOf E w2 := by
  subst hc
  unfold wsOf
  rw [hn, List.map_append]
  congr 1
  apply List.map_congr_left
  intro j hj
  rw [ho j hj]
theorem rI_alP_ne {q a : Nat} (h : a ≠ 1000 + 2 * q) : rI (alP w q) a = rI w a := if_neg h
theorem rR_alP_ne {q a : Nat} (h : a ≠ 1000 + 2 * q) : rR (alP w q) a = rR w a := if_neg h
theorem rI_alA_ne {q n a : Nat} (h : a ≠ 1001 + 2 * q) : rI (alA w q n) a = rI w a := if_neg h
theorem rL_alA_ne {q n a : Nat} (h : a ≠ 1001 + 2 * q) : rL (alA w q n) a = rL w a := if_neg h
theorem nms_alP {q : Nat} : nms (alP w q) = nms w ++ [1000 + 2 * q] := (List.append_assoc _ _ _).symm
theorem nms_alA {q n : Nat} : nms (alA w q n) = nms w ++ [1001 + 2 * q] := (List.append_assoc _ _ _).symm
theorem sh_alP {q : Nat} : sh (alP w q) (1000 + 2 * q) = (1, 6) := by
  unfold sh
  rw [if_neg (by omega), if_pos (by omega)]
theorem sh_alA {q n : Nat} : sh (alA w q n) (1001 + 2 * q) = (2, n) := by
  unfold sh
  rw [if_neg (by omega), if_neg (by omega)]
  show (2, if 1001 + 2 * q = 1001 + 2 * q then n else _) = _
  rw [if_pos rfl]
theorem sh_alP_ne {q a : Nat} : sh (alP w q) a = sh w a := rfl
theorem sh_alA_ne {q n a : Nat} (h : a ≠ 1001 + 2 * q) : sh (alA w q n) a = sh w a := by
  unfold sh
  rw [rL_alA_ne h]
theorem Lv.alP {q a : Nat} {s : Nat × Nat} (h : Lv w a s) : Lv (alP w q) a s := ⟨by rw [nms_alP]; exact List.mem_append_left _ h.1, h.2.1, h.2.2⟩
theorem Lv.alA {q n a : Nat} {s : Nat × Nat} (h : Lv w a s) (hf : 1001 + 2 * q ∉ nms w) : Lv (alA w q n) a s := ⟨by rw [nms_alA]; exact List.mem_append_left _ h.1, by rw [sh_alA_ne (fun e => hf (e ▸ h.1))]; exact h.2.1, h.2.2⟩
theorem lv_alP {q : Nat} : Lv (alP w q) (1000 + 2 * q) (1, 6) := ⟨by rw [nms_alP]; exact List.mem_append_right _ List.mem_cons_self, sh_alP, by decide⟩
theorem lv_alA {q n : Nat} (h : n < 100000) : Lv (alA w q n) (1001 + 2 * q) (2, n) := ⟨by rw [nms_alA]; exact List.mem_append_right _ List.mem_cons_self, sh_alA, h⟩
theorem g_newP {idx : Nat} (hX : CX E X b own nL) (hd : Dc b pc (.new idx) 3 pc2) (hcl : Cond.classLink own idx R_Pr ∈ lw_gd) (hc : ca + 1 ≤ (xR X).cells) (hs : sa + 4 ≤ (xR X).slots) (k : ∀ q, 1000 + 2 * q ∉ nms w → G0 E X (ca + 1) (sa + 4) pc2 L (.ref (1000 + 2 * q) :: st) (alP w q)) : G0 E X ca sa pc L st w := by
  obtain ⟨hd, rfl⟩ := hd
  intro H locs ls hP hD hS hl
  refine va_new (rest := st.map (tr (eR E))) (ci := 6) (C := R_Pr) (T := F_Pr) (N := 4) (fs := [.int 0, .int 0, .null, .null]) hX.1 hX.2.1 hX.2.2.2.1 in_Pr ty_Pr tyok_Pr hX.2.2.1 (hX.word hcl) (hX.word lk_isP) (hX.word lk_inP) hX.K hP hD hS hX.up rfl (fun j hj => ?_) hc hs hd (fun q H1 hP1 hD1 hS1 => ?_)
  · rcases (show j = 0 ∨ j = 1 ∨ j = 2 ∨ j = 3 by omega) with rfl | rfl | rfl | rfl <;> rfl
  · have hf := (fresh_nm hX.rho hD1).1
    have e : wsOf E w ++ [(q, .inr (6, [.int 0, .int 0, .null, .null]))] = wsOf E (alP w q) := by
      have h1 := ws_new (E := E) (w := w) (w2 := alP w q) (a := 1000 + 2 * q) (c := .inr (6, [.int 0, .int 0, .null, .null])) nms_alP ?_ (fun j hj => ?_)
      · rw [(hX.rho q).1] at h1
        exact h1
      · rw [cell_obj sh_alP]
        unfold fval rI rJ rR alP
        simp only [if_true]
        rfl
      · have hne : j ≠ 1000 + 2 * q := fun z => hf (z ▸ hj)
        exact cell_congr rfl (rI_alP_ne hne) rfl (rR_alP_ne hne)
    rw [e] at hP1 hD1
    have k2 := k q hf H1 locs ls hP1 hD1 hS1 hl
    have e2 : (Value.ref (1000 + 2 * q) :: st).map (tr (eR E)) = .ref q :: st.map (tr (eR E)) := by
      show Value.ref (eR E (1000 + 2 * q)) :: _ = _
      rw [(hX.rho q).1]
    rw [e2] at k2
    exact k2
theorem g_newI {n : Nat} (hX : CX E X b own nL) (hd : Dc b pc (.newarray .int) 2 pc2) (hn : n < 100000) (hc : ca + 1 ≤ (xR X).cells) (hs : sa + n ≤ (xR X).slots) (k : ∀ q, 1001 + 2 * q ∉ nms w → G0 E X (ca + 1) (sa + n) pc2 L (.ref (1001 + 2 * q) :: st) (alA w q n)) : G0 E X ca sa pc L (.int (nI n) :: st) w := by
  obtain ⟨hd, rfl⟩ := hd
  intro H locs ls hP hD hS hl
  refine va_newa (rest := st.map (tr (eR E))) (atype := .int) (ty := .int) (N' := n) (a0 := (n, .inl (fun _ => 0))) hX.1 hX.2.1 (hX.word lk_arI) rfl hX.K hP hD hS hX.up (fun _ => rfl) (nI_pos (by omega)) (nI_clamp (by omega)) ?_ hc hs hd (fun q cA H1 hK1 hP1 hD1 hS1 => ?_)
  · show n * 4 ≤ 536870912
    omega
  · have hf := (fresh_nm hX.rho hD1).2
    have hcA : cA = eC E 0 := by
      have g1 : ("[" ++ FieldType.int.toString) = ("[" ++ FieldType.int.toString) := rfl
      have a1 : (xs X).vm.findClass ("[" ++ FieldType.int.toString) = some (eC E 0) := (hX.K.2 0 _ rfl).2
      have a2 : (xs X).vm.findClass ("[" ++ FieldType.int.toString) = some cA := (hK1.2 (tys E).length (cA, .int) (by rw [List.getElem?_append_right (Nat.le_refl _), Nat.sub_self]; rfl)).2
      rw [a1] at a2
      exact (Option.some.inj a2).symm
    subst hcA
    have e : wsOf E w ++ [(q, .inl (eC E 0, n, .inl (fun _ => 0)))] = wsOf E (alA w q n) := by
      have h1 := ws_new (E := E) (w := w) (w2 := alA w q n) (a := 1001 + 2 * q) (c := .inl (eC E 0, n, .inl (fun _ => 0))) nms_alA ?_ (fun j hj => ?_)
      · rw [(hX.rho q).2] at h1
        exact h1
      · rw [cell_ints sh_alA]
        unfold rI alA
        simp only [if_true]
      · have hne : j ≠ 1001 + 2 * q := fun z => hf (z ▸ hj)
        exact cell_congr (sh_alA_ne hne) (rI_alA_ne hne) rfl rfl
    rw [e] at hP1 hD1
    have k2 := k q hf H1 locs ls hP1 hD1 hS1 hl
    have e2 : (Value.ref (1001 + 2 * q) :: st).map (tr (eR E)) = .ref q :: st.map (tr (eR E)) := by
      show Value.ref (eR E (1001 + 2 * q)) :: _ = _
      rw [(hX.rho q).2]
    rw [e2] at k2
    exact k2
theorem g_putfieldF {idx ci k o : Nat} {t : FieldType} {q : Nat × Nat} {v : Value} {w2 : Mem} (hX : CX E X b own nL) (hin2 : (xh X).name = "<init>") (hd : Dc b pc (.putfield idx) 3 pc2) (hf : FL own idx ci k true t q) (hcd : ∀ (C : String) (F : u_T) (N : Nat), classes[ci]? = some (C, F, N) → (F k).1 = own) (ho : Lv w o (1, ci)) (hn : narrow t (tr (eR E) v) = tr (eR E) v) (hfit : fits t (tr (eR E) v) = true)
    (hs : ∀ j, sh w2 j = sh w j) (hnm : nms w2 = nms w) (hv : fval E ci o (rI w2 o) (rJ w2 o) (rR w2 o) k = tr (eR E) v) (hoth : ∀ j, j ≠ k → fval E ci o (rI w2 o) (rJ w2 o) (rR w2 o) j = fval E ci o (rI w o) (rJ w o) (rR w o) j) (hc : ∀ j, j ≠ o → cellOf E w2 j = cellOf E w j)
    (kk : G0 E X ca sa pc2 L st w2) : G0 E X ca sa pc L (v :: .ref o :: st) w := by
  obtain ⟨hd, rfl⟩ := hd
  obtain ⟨C, F, N, ty, h1, h2, h3, h4, h5, h6, h7, h8, h9, h10⟩ := hf
  intro H locs ls hP hD hS hl
  obtain ⟨q0, hq⟩ := ws_at ho.1
  have hw := ws_get E hq
  rw [cell_obj ho.2.1] at hw
  subst h2
  refine va_putF (rest := st.map (tr (eR E))) (ref := (F k).1) hX.1 hX.2.1 hX.2.2.2.1 h3 ty h4 h5 hX.2.2.1 hX.K hP hD hS q0 hw h1 k h6 (hX.word h7) (fun _ h => h) h8 hin2 (hcd C F _ h1) (ty := t) (by rw [h4 k h6, h9]) hn hfit (by simpa using h6) hd (fun H1 locs1 hP1 hD1 hS1 => ?_)
  have e := ws_set (E := E) (w := w) (w2 := w2) hD hq hnm (c := .inr (ci, ((List.range (fN ci)).map (fval E ci o (rI w o) (rJ w o) (rR w o))).set k (tr (eR E) v))) (by
    rw [cell_obj ((hs o).trans ho.2.1), fv_set h6 hv hoth]) (fun j hj => hc j hj)
  rw [e] at hP1 hD1
  exact kk H1 locs1 ls hP1 hD1 hS1 hl
theorem g_putFR {idx ci k o r : Nat} {t : FieldType} (ht : (∃ c, t = .object c) ∨ ∃ c, t = .array c) (hX : CX E X b own nL) (hin2 : (xh X).name = "<init>") (hd : Dc b pc (.putfield idx) 3 pc2) (hf : FL own idx ci k true t (4, 0)) (hcd : ∀ (C : String) (F : u_T) (N : Nat), classes[ci]? = some (C, F, N) → (F k).1 = own) (ho : Lv w o (1, ci)) (kk : G0 E X ca sa pc2 L st (sR w o k (some r))) : G0 E X ca sa pc L (.ref r :: .ref o :: st) w := by
  refine g_putfieldF (v := .ref r) (w2 := sR w o k (some r)) hX hin2 hd hf hcd ho (by rcases ht with ⟨c, rfl⟩ | ⟨c, rfl⟩ <;> rfl) (by rcases ht with ⟨c, rfl⟩ | ⟨c, rfl⟩ <;> rfl) (fun _ => rfl) rfl ?_ ?_ (fun j hj => cell_sR k _ hj) kk
  · rw [rR_sR]
    obtain ⟨C, F, N, ty, h1, h2, h3, h4, h5, h6, h7, h8, h9, h10⟩ := hf
    unfold fval
    rw [h10, va_up_self]
    rfl
  · rw [rR_sR]
    exact fval_R
/-- the entry of a constructor -/
theorem T_ofI {m : MR} {n d mc ms : Nat} {av : List Value} {Q : Option Value → Mem → Prop} (hc : CF m n) (hin : m.1.name = "<init>") {L : List Value} (hL : iniL av ++ List.replicate (m.2.2.1 - (iniL av).length) un = L) (hs : (iniL av).length ≤ m.2.2.1)
    (body : ∀ X : XT, CX E X m.2.1 m.1.cls m.2.2.1 → FX E X m.2.2.2 d mc ms Q → (xh X).name = "<init>" → G0 E X 0 0 0 L [] w) : T E m d mc ms av w Q := by
  refine Met.ofW (cc := m.2.1) (maxL := m.2.2.1) (ret := m.2.2.2) hc.2.2.2.2 rfl ?_
  intro p e s mm args below meth c s₁ B hml hv
  obtain ⟨rfl, h1, h2, h3, h4, h5, h6⟩ := hv
  have hts := atoms_spec (ws := wl m) B.pre
  have hXX : CX E (p, e, (headSpec (wl m) (rmm d mc ms)).room, s, mm, (av.map (tr (eR E))).toArray, below, meth, c, MQ below (QcOf E Q) (av.map (tr (eR E))).toArray s mc ms (eA E)) m.2.1 m.1.cls m.2.2.1 :=
    ⟨B.exec, B.bytes, findClass_of_methodNamed B.named, fun q hq => hts q (List.mem_cons_of_mem _ hq), h3, h5, h4, hml, h6⟩
  have hFF : FX E (p, e, (headSpec (wl m) (rmm d mc ms)).room, s, mm, (av.map (tr (eR E))).toArray, below, meth, c, MQ below (QcOf E Q) (av.map (tr (eR E))).toArray s mc ms (eA E)) m.2.2.2 d mc ms Q :=
    ⟨⟨Nat.le_refl _, Nat.le_refl _, Nat.le_refl _, Nat.le_refl _⟩, rfl, B.returns, B.notSynchronized⟩
  have hl := lv_entry (av.map (tr (eR E))) (n := m.2.2.1) (by rw [sl_len]; exact hs)
  rw [lg_entry_eq]
  refine body _ hXX hFF (((name_of_methodNamed B.named B.method).1).trans hin) s.heap [] _ h1 h2 va_S.rf ?_
  subst hL
  show lv_has _ c.maxLocals _
  rw [hml]
  refine ⟨hl.1, hl.2.1, fun q hq => hl.2.2 q ?_⟩
  apply ini_args
  obtain ⟨k, v, g1, g2, rfl⟩ := lvl_inv _ 0 q hq
  rw [Nat.zero_add]
  have g3 : (iniL av)[k]? = some v := by
    by_cases hk : k < (iniL av).length
    · rw [List.getElem?_append_left hk] at g1
      exact g1
    · rw [List.getElem?_append_right (by omega), List.getElem?_replicate] at g1
      by_cases hz : k - (iniL av).length < m.2.2.1 - (iniL av).length
      · rw [if_pos hz] at g1
        exact absurd (Option.some.inj g1).symm (g2 0)
      · rw [if_neg hz] at g1
        cases g1
  have g4 := lvl_mem (r := eR E) g2 (iniL av) 0 k g3
  rwa [Nat.zero_add] at g4
end GNew
theorem cd_Pr {k : Nat} : ∀ (C : String) (F : u_T) (N : Nat), classes[6]? = some (C, F, N) → (F k).1 = "SubgraphDesk$Program" := by
  intro C F N h
  obtain ⟨h1, h2⟩ := Prod.mk.inj (Option.some.inj h)
  obtain ⟨h3, h4⟩ := Prod.mk.inj h2
  subst h3
  unfold F_Pr
  split <;> rfl
/-- what was there stays as it was -/
def Grw (w w2 : Mem) : Prop := (∀ a, a ∈ nms w → a ∈ nms w2 ∧ sh w2 a = sh w a ∧ rI w2 a = rI w a ∧ rR w2 a = rR w a) ∧ w2.2.1 = w.2.1
theorem Grw.rf (w : Mem) : Grw w w := ⟨fun _ h => ⟨h, rfl, rfl, rfl⟩, rfl⟩
theorem Grw.tr {a b c : Mem} (h : Grw a b) (h2 : Grw b c) : Grw a c := ⟨fun x hx => by
  obtain ⟨h3, h4, h5, h6⟩ := h.1 x hx
  obtain ⟨h7, h8, h9, h10⟩ := h2.1 x h3
  exact ⟨h7, h8.trans h4, h9.trans h5, h10.trans h6⟩, h2.2.trans h.2⟩
theorem Grw.P {w : Mem} {q : Nat} (h : 1000 + 2 * q ∉ nms w) : Grw w (alP w q) := ⟨fun a ha => by
  have hne : a ≠ 1000 + 2 * q := fun z => h (z ▸ ha)
  exact ⟨by rw [nms_alP]; exact List.mem_append_left _ ha, rfl, rI_alP_ne hne, rR_alP_ne hne⟩, rfl⟩
theorem Grw.A {w : Mem} {q n : Nat} (h : 1001 + 2 * q ∉ nms w) : Grw w (alA w q n) := ⟨fun a ha => by
  have hne : a ≠ 1001 + 2 * q := fun z => h (z ▸ ha)
  exact ⟨by rw [nms_alA]; exact List.mem_append_left _ ha, sh_alA_ne hne, rI_alA_ne hne, rfl⟩, rfl⟩
theorem Grw.I {w w2 : Mem} {o k : Nat} {x : Int32} (h : Grw w w2) (ho : o ∉ nms w) : Grw w (sI w2 o k x) := ⟨fun a ha => by
  obtain ⟨h3, h4, h5, h6⟩ := h.1 a ha
  have hne : a ≠ o := fun z => ho (z ▸ ha)
  exact ⟨h3, h4, by rw [rI_sI_ne _ _ _ hne]; exact h5, h6⟩, h.2⟩
theorem Grw.S {w w2 : Mem} {o : Nat} {f : Nat → Int32} (h : Grw w w2) (ho : o ∉ nms w) : Grw w (sA w2 o f) := ⟨fun a ha => by
  obtain ⟨h3, h4, h5, h6⟩ := h.1 a ha
  have hne : a ≠ o := fun z => ho (z ▸ ha)
  exact ⟨h3, h4, by rw [rI_sA_ne _ _ hne]; exact h5, h6⟩, h.2⟩
theorem Grw.R {w w2 : Mem} {o k : Nat} {x : Option Nat} (h : Grw w w2) (ho : o ∉ nms w) : Grw w (sR w2 o k x) := ⟨fun a ha => by
  obtain ⟨h3, h4, h5, h6⟩ := h.1 a ha
  have hne : a ≠ o := fun z => ho (z ▸ ha)
  exact ⟨h3, h4, h5, by rw [rR_sR_ne _ _ _ hne]; exact h6⟩, h.2⟩
theorem Grw.st {w w2 : Mem} (h : Grw w w2) {a : Nat} (ha : a < 128) : rI w2 a = rI w a ∧ rR w2 a = rR w a := by
  obtain ⟨-, -, h3, h4⟩ := h.1 a (List.mem_append_left _ (List.mem_range.mpr ha))
  exact ⟨h3, h4⟩
theorem Grw.lv {w w2 : Mem} (h : Grw w w2) {a : Nat} {s : Nat × Nat} (hl : Lv w a s) : Lv w2 a s := by
  obtain ⟨h1, h2, -, -⟩ := h.1 a hl.1
  exact ⟨h1, h2.trans hl.2.1, hl.2.2⟩
/-- a Program with rows of a and of b ints -/
def PnQ (w w2 : Mem) (o a b : Nat) : Prop := ∃ q1 q2 : Nat, 1001 + 2 * q1 ∉ nms w ∧ 1001 + 2 * q2 ∉ nms (alA w q1 a) ∧ w2 = sR (alA (sR (alA w q1 a) o 2 (some (1001 + 2 * q1))) q2 b) o 3 (some (1001 + 2 * q2))
theorem c_Pr_init {E : EV} {w : Mem} {o a b' : Nat} (ho : Lv w o (1, 6)) (ha : a < 1000) (hb : b' < 1000) : T E m_Pr_init 1 2 (a + b') [.ref o, .int (nI a), .int (nI b')] w (fun r w2 => r = none ∧ PnQ w w2 o a b') := by
  refine T_ofI (L := [.ref o, .int (nI a), .int (nI b')]) cf_Pr_init rfl rfl (Nat.le_of_ble_eq_true rfl) (fun X hX hF hin => ?_)
  have hcc := hF.1.2.2.1
  have hss := hF.1.2.2.2
  refine g_aload0 hX d_Pr_init_0 ?_
  refine g_objI hX hF.1 d_Pr_init_1 lk_oiP (by omega) (Nat.le_of_ble_eq_true rfl) ?_
  refine g_aload0 hX d_Pr_init_4 ?_
  refine g_iload1 hX d_Pr_init_5 ?_
  refine g_newI hX d_Pr_init_6 (by omega) (by omega) (by omega) (fun q1 hq1 => ?_)
  refine g_putFR (Or.inr ⟨_, rfl⟩) hX hin d_Pr_init_8 fl_Pr_11 cd_Pr (ho.alA hq1) ?_
  refine g_aload0 hX d_Pr_init_11 ?_
  refine g_iload2 hX d_Pr_init_12 ?_
  refine g_newI hX d_Pr_init_13 (by omega) (by omega) (by omega) (fun q2 hq2 => ?_)
  refine g_putFR (Or.inr ⟨_, rfl⟩) hX hin d_Pr_init_15 fl_Pr_15 cd_Pr (Lv.alA (w := sR (alA w q1 a) o 2 (some (1001 + 2 * q1))) (ho.alA hq1) hq2) ?_
  refine g_vret hX hF d_Pr_init_18 (by omega) (by omega) ?_
  exact ⟨rfl, q1, q2, hq1, hq2, rfl⟩
