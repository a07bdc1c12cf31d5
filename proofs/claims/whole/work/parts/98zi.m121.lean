def m_Ru_runOnce : MR := (⟨"SubgraphDesk$Runner", "runOnce", "(LSubgraphDesk$Program;I)Z"⟩, prog_9_method_7_code, 8, (some .boolean))
theorem cf_Ru_runOnce : CF m_Ru_runOnce 2 := ⟨gd 1072 (by decide +kernel) rfl, gd 150 (by decide +kernel) rfl, by decide +kernel, by decide, by decide +kernel⟩
theorem cv_Ru_runOnce : CV m_Ru_runOnce := ⟨gd 1071 (by decide +kernel) rfl, gd 28 (by decide +kernel) rfl⟩
theorem d_Ru_runOnce_0 : Dc prog_9_method_7_code 0 (.aload_n 1) 1 1 := ⟨by decide +kernel, rfl⟩
theorem d_Ru_runOnce_1 : Dc prog_9_method_7_code 1 (.iload_n 2) 1 2 := ⟨by decide +kernel, rfl⟩
theorem d_Ru_runOnce_2 : Dc prog_9_method_7_code 2 (.iconst 1) 1 3 := ⟨by decide +kernel, rfl⟩
theorem d_Ru_runOnce_3 : Dc prog_9_method_7_code 3 (.aload_n 0) 1 4 := ⟨by decide +kernel, rfl⟩
theorem d_Ru_runOnce_4 : Dc prog_9_method_7_code 4 (.getfield 25) 3 7 := ⟨by decide +kernel, rfl⟩
theorem d_Ru_runOnce_7 : Dc prog_9_method_7_code 7 (.aload_n 0) 1 8 := ⟨by decide +kernel, rfl⟩
theorem d_Ru_runOnce_8 : Dc prog_9_method_7_code 8 (.getfield 39) 3 11 := ⟨by decide +kernel, rfl⟩
theorem d_Ru_runOnce_11 : Dc prog_9_method_7_code 11 (.getfield 136) 3 14 := ⟨by decide +kernel, rfl⟩
theorem d_Ru_runOnce_14 : Dc prog_9_method_7_code 14 (.invokevirtual 140) 3 17 := ⟨by decide +kernel, rfl⟩
theorem d_Ru_runOnce_17 : Dc prog_9_method_7_code 17 (.lstore_n 3) 1 18 := ⟨by decide +kernel, rfl⟩
theorem d_Ru_runOnce_18 : Dc prog_9_method_7_code 18 (.aload_n 1) 1 19 := ⟨by decide +kernel, rfl⟩
theorem d_Ru_runOnce_19 : Dc prog_9_method_7_code 19 (.iload_n 2) 1 20 := ⟨by decide +kernel, rfl⟩
theorem d_Ru_runOnce_20 : Dc prog_9_method_7_code 20 (.iconst 3) 1 21 := ⟨by decide +kernel, rfl⟩
theorem d_Ru_runOnce_21 : Dc prog_9_method_7_code 21 (.aload_n 0) 1 22 := ⟨by decide +kernel, rfl⟩
theorem d_Ru_runOnce_22 : Dc prog_9_method_7_code 22 (.getfield 25) 3 25 := ⟨by decide +kernel, rfl⟩
theorem d_Ru_runOnce_25 : Dc prog_9_method_7_code 25 (.aload_n 0) 1 26 := ⟨by decide +kernel, rfl⟩
theorem d_Ru_runOnce_26 : Dc prog_9_method_7_code 26 (.getfield 39) 3 29 := ⟨by decide +kernel, rfl⟩
theorem d_Ru_runOnce_29 : Dc prog_9_method_7_code 29 (.getfield 136) 3 32 := ⟨by decide +kernel, rfl⟩
theorem d_Ru_runOnce_32 : Dc prog_9_method_7_code 32 (.invokevirtual 140) 3 35 := ⟨by decide +kernel, rfl⟩
theorem d_Ru_runOnce_35 : Dc prog_9_method_7_code 35 (.lstore 5) 2 37 := ⟨by decide +kernel, rfl⟩
theorem d_Ru_runOnce_37 : Dc prog_9_method_7_code 37 (.lload_n 3) 1 38 := ⟨by decide +kernel, rfl⟩
theorem d_Ru_runOnce_38 : Dc prog_9_method_7_code 38 (.ldc2_w 144) 3 41 := ⟨by decide +kernel, rfl⟩
theorem d_Ru_runOnce_41 : Dc prog_9_method_7_code 41 (.lcmp) 1 42 := ⟨by decide +kernel, rfl⟩
theorem d_Ru_runOnce_42 : Dj prog_9_method_7_code 42 (.ifCond .eq 12) 45 12 54 := ⟨by decide +kernel, rfl, rfl⟩
theorem d_Ru_runOnce_45 : Dc prog_9_method_7_code 45 (.lload 5) 2 47 := ⟨by decide +kernel, rfl⟩
theorem d_Ru_runOnce_47 : Dc prog_9_method_7_code 47 (.ldc2_w 144) 3 50 := ⟨by decide +kernel, rfl⟩
theorem d_Ru_runOnce_50 : Dc prog_9_method_7_code 50 (.lcmp) 1 51 := ⟨by decide +kernel, rfl⟩
theorem d_Ru_runOnce_51 : Dj prog_9_method_7_code 51 (.ifCond .ne 5) 54 5 56 := ⟨by decide +kernel, rfl, rfl⟩
theorem d_Ru_runOnce_54 : Dc prog_9_method_7_code 54 (.iconst 0) 1 55 := ⟨by decide +kernel, rfl⟩
theorem d_Ru_runOnce_55 : Dc prog_9_method_7_code 55 (.ireturn) 1 56 := ⟨by decide +kernel, rfl⟩
theorem d_Ru_runOnce_56 : Dc prog_9_method_7_code 56 (.aload_n 0) 1 57 := ⟨by decide +kernel, rfl⟩
theorem d_Ru_runOnce_57 : Dc prog_9_method_7_code 57 (.aload_n 1) 1 58 := ⟨by decide +kernel, rfl⟩
theorem d_Ru_runOnce_58 : Dc prog_9_method_7_code 58 (.iload_n 2) 1 59 := ⟨by decide +kernel, rfl⟩
theorem d_Ru_runOnce_59 : Dc prog_9_method_7_code 59 (.iconst 0) 1 60 := ⟨by decide +kernel, rfl⟩
theorem d_Ru_runOnce_60 : Dc prog_9_method_7_code 60 (.invokevirtual 89) 3 63 := ⟨by decide +kernel, rfl⟩
theorem d_Ru_runOnce_63 : Dc prog_9_method_7_code 63 (.lload_n 3) 1 64 := ⟨by decide +kernel, rfl⟩
theorem d_Ru_runOnce_64 : Dc prog_9_method_7_code 64 (.l2i) 1 65 := ⟨by decide +kernel, rfl⟩
theorem d_Ru_runOnce_65 : Dc prog_9_method_7_code 65 (.lload 5) 2 67 := ⟨by decide +kernel, rfl⟩
theorem d_Ru_runOnce_67 : Dc prog_9_method_7_code 67 (.l2i) 1 68 := ⟨by decide +kernel, rfl⟩
theorem d_Ru_runOnce_68 : Dc prog_9_method_7_code 68 (.invokevirtual 146) 3 71 := ⟨by decide +kernel, rfl⟩
theorem d_Ru_runOnce_71 : Dc prog_9_method_7_code 71 (.istore 7) 2 73 := ⟨by decide +kernel, rfl⟩
theorem d_Ru_runOnce_73 : Dc prog_9_method_7_code 73 (.iload 7) 2 75 := ⟨by decide +kernel, rfl⟩
theorem d_Ru_runOnce_75 : Dj prog_9_method_7_code 75 (.ifCond .ge 5) 78 5 80 := ⟨by decide +kernel, rfl, rfl⟩
theorem d_Ru_runOnce_78 : Dc prog_9_method_7_code 78 (.iconst 0) 1 79 := ⟨by decide +kernel, rfl⟩
theorem d_Ru_runOnce_79 : Dc prog_9_method_7_code 79 (.ireturn) 1 80 := ⟨by decide +kernel, rfl⟩
theorem d_Ru_runOnce_80 : Dc prog_9_method_7_code 80 (.aload_n 0) 1 81 := ⟨by decide +kernel, rfl⟩
theorem d_Ru_runOnce_81 : Dc prog_9_method_7_code 81 (.iload 7) 2 83 := ⟨by decide +kernel, rfl⟩
theorem d_Ru_runOnce_83 : Dc prog_9_method_7_code 83 (.putfield 50) 3 86 := ⟨by decide +kernel, rfl⟩
theorem d_Ru_runOnce_86 : Dc prog_9_method_7_code 86 (.aload_n 0) 1 87 := ⟨by decide +kernel, rfl⟩
theorem d_Ru_runOnce_87 : Dc prog_9_method_7_code 87 (.dup) 1 88 := ⟨by decide +kernel, rfl⟩
theorem d_Ru_runOnce_88 : Dc prog_9_method_7_code 88 (.getfield 47) 3 91 := ⟨by decide +kernel, rfl⟩
theorem d_Ru_runOnce_91 : Dc prog_9_method_7_code 91 (.iconst 1) 1 92 := ⟨by decide +kernel, rfl⟩
theorem d_Ru_runOnce_92 : Dc prog_9_method_7_code 92 (.iadd) 1 93 := ⟨by decide +kernel, rfl⟩
theorem d_Ru_runOnce_93 : Dc prog_9_method_7_code 93 (.putfield 47) 3 96 := ⟨by decide +kernel, rfl⟩
theorem d_Ru_runOnce_96 : Dc prog_9_method_7_code 96 (.iconst 1) 1 97 := ⟨by decide +kernel, rfl⟩
theorem d_Ru_runOnce_97 : Dc prog_9_method_7_code 97 (.ireturn) 1 98 := ⟨by decide +kernel, rfl⟩
theorem ml_Ru_89 : Cond.methodLink "SubgraphDesk$Runner" 89 m_Pr_tell.1 ∈ lw_gd := gd 1062 (by decide +kernel) rfl
theorem ml_Ru_146 : Cond.methodLink "SubgraphDesk$Runner" 146 m_Ru_act.1 ∈ lw_gd := gd 1074 (by decide +kernel) rfl
theorem k_Ru_144 : Cond.constantLong "SubgraphDesk$Runner" 144 (-1000000001) ∈ lw_gd := gd 1073 (by decide +kernel) rfl
/-- while orders run -/
def FrRn (w w2 : Mem) : Prop := (∀ a, a = 0 ∨ (8 < a ∧ a < 20) ∨ (24 < a ∧ a < 31) ∨ (52 < a ∧ a ≠ 53 ∧ a ≠ 68) → rI w2 a = rI w a) ∧ (∀ k, k ≠ 7 → k ≠ 8 → rI w2 53 k = rI w 53 k) ∧ (∀ a, 69 < a → rJ w2 a = rJ w a) ∧ KpS w w2
theorem FrRn.rf (w : Mem) : FrRn w w := ⟨fun _ _ => rfl, fun _ _ _ => rfl, fun _ _ => rfl, KpS.rf w⟩
theorem FrRn.tr {a b c : Mem} (h : FrRn a b) (h2 : FrRn b c) : FrRn a c := ⟨fun x hx => (h2.1 x hx).trans (h.1 x hx), fun k h3 h4 => (h2.2.1 k h3 h4).trans (h.2.1 k h3 h4), fun x hx => (h2.2.2.1 x hx).trans (h.2.2.1 x hx), h.2.2.2.tr h2.2.2.2⟩
theorem DkW.R {w w2 : Mem} (h : DkW w w2) : FrRn w w2 := ⟨fun a ha => h.1 a (by omega), h.2⟩
theorem FrAb.R {w w2 : Mem} (h : FrAb w w2) : FrRn w w2 := ⟨fun a ha => h.1 a (by omega) (by omega), fun k _ _ => by rw [h.1 53 (by decide) (by decide)], fun a _ => by unfold rJ; rw [h.2], KpS.of (by rw [h.2])⟩
theorem FrS.W {w w2 : Mem} (h : FrS w w2) : DkW w w2 := ⟨fun a _ => h.i a, fun k _ _ => by rw [h.i], fun a ha => h.2.1 a (by omega), KpS.of h.2.2⟩
theorem DkW.fld {w : Mem} {x y : Int32} : DkW w (sI (sI w 53 8 x) 53 7 y) := ⟨fun a ha => by rw [rI_sI_ne _ _ _ (by omega), rI_sI_ne _ _ _ (by omega)], fun k h1 h2 => by rw [rI_sI, upd_eq, if_neg h1, rI_sI, upd_eq, if_neg h2], fun _ _ => rfl, fun _ _ => rfl, rfl⟩
theorem OdP.s {w w2 : Mem} {c : List (Nat × Nat)} {cls : List OcT} (h : OdP w c cls) (f : FrS w w2) : OdP w2 c cls := by
  obtain ⟨h1, h2, h3, h4, h5, h6⟩ := h
  exact ⟨h1, h2, h3.fr f.2.2 (by rw [f.i]) (f.i 30), by rw [f.i]; exact h4, h5, by rw [f.i]; exact h6⟩
theorem WoP.s {w w2 : Mem} {g : GC} {dn : Nat} {lt : Int32} {b : Bool} (h : WoP w g dn lt b) (f : FrS w w2) : WoP w2 g dn lt b := by
  unfold WoP
  rw [f.i]
  exact h
theorem aAct_gL {g : GC} (hW : WG g) (a : Nat) (x y : Int32) (u : List (Nat × Snap)) : gL (aAct a x y g u).2.1 = gL g := by
  unfold aAct
  split
  · exact (aEdge_sn x y g u).2
  · split
    · exact (aLink_sn x y g u).2
    · split
      · exact (aPaint_sn hW).2
      · exact (aDye_sn hW).2
theorem DInv.act {w w2 : Mem} {s : SG} {g : GC} {u : List (Nat × Snap)} (h : DInv w s) (hG : DG w2 g u) (hl : gL g = gL (sG s)) (f : FrAb w w2) : DInv w2 (wU (wG s g) u) := h.n hG hl f.N (h.2.2.2.2.1.fr (f.1 70 (by decide) (by decide)) (by rw [f.1 0 (by decide) (by decide)]))
/-- what asking tells -/
def AsL (x : Option Int) (L : Int64) : Prop := match x with
  | none => L = -1000000001
  | some v => L = lI v ∧ ¬ L = -1000000001
theorem AskP.L {x : Option Int} {r : Option Value} (h : AskP x r) : ∃ L : Int64, r = some (.long L) ∧ AsL x L := by
  unfold AskP at h
  cases x with
  | none => exact ⟨_, h, rfl⟩
  | some v =>
    refine ⟨_, h.1, rfl, fun z => ?_⟩
    have h1 := lI_TT (v := v) (by have := h.2; unfold bd at this; omega)
    rw [z] at h1
    have h2 : (-1000000001 : Int64).toInt = -1000000001 := by decide
    rw [h2] at h1
    have := h.2
    unfold bd at this
    omega
theorem AsL.y {x : Option Int} {L : Int64} (h : AsL x L) (h2 : ¬ L = -1000000001) : ∃ v, x = some v ∧ L = lI v := by
  cases x with
  | none => exact absurd h h2
  | some v => exact ⟨v, rfl, h.1⟩
theorem AsL.n {x : Option Int} {L : Int64} (h : AsL x L) (h2 : L = -1000000001) : x = none := by
  cases x with
  | none => rfl
  | some v => exact absurd h2 h.2
theorem ordDo_1 {q : OcT} {s : RSt} (h : q.2.1 (envO s.1 s.2.2.1 s.2.2.2) = none ∨ q.2.2.1 (envO s.1 s.2.2.1 s.2.2.2) = none) : ordDo q s = none := by
  unfold ordDo
  cases h1 : q.2.1 (envO s.1 s.2.2.1 s.2.2.2) with
  | none => rfl
  | some x =>
    rcases h with h | h
    · rw [h1] at h; cases h
    · dsimp only; rw [h]
theorem ordDo_2 {q : OcT} {s : RSt} {x y : Int} (h1 : q.2.1 (envO s.1 s.2.2.1 s.2.2.2) = some x) (h2 : q.2.2.1 (envO s.1 s.2.2.1 s.2.2.2) = some y) : ordDo q s = if (aAct q.1 (Int32.ofInt x) (Int32.ofInt y) s.1 s.2.1).1 < 0 then none else some ((aAct q.1 (Int32.ofInt x) (Int32.ofInt y) s.1 s.2.1).2.1, (aAct q.1 (Int32.ofInt x) (Int32.ofInt y) s.1 s.2.1).2.2, s.2.2.1 + 1, (aAct q.1 (Int32.ofInt x) (Int32.ofInt y) s.1 s.2.1).1) := by
  unfold ordDo
  rw [h1]
  dsimp only
  rw [h2]
/-- an order was tried -/
def DoQ (w w2 : Mem) (s : SG) (x : Option RSt) (r : Option Value) : Prop := FrRn w w2 ∧ match x with
  | none => r = some (.int (nI 0))
  | some z => r = some (.int (nI 1)) ∧ DInv w2 (wU (wG s z.1) z.2.1) ∧ RuE w2 ∧ rI w2 53 7 = nI z.2.2.1 ∧ rI w2 53 8 = z.2.2.2
theorem DoQ.rv {w w2 : Mem} {s : SG} {x : Option RSt} {r : Option Value} (h : DoQ w w2 s x r) : r = some (.int (b2i (x.isSome = true))) := by
  obtain ⟨-, h⟩ := h
  cases x with
  | none => rw [h, b2i_f (show ¬ ((none : Option RSt).isSome = true) from fun z => by cases z)]; rfl
  | some z => rw [h.1, b2i_t (show (some z).isSome = true from rfl)]; rfl
theorem c_Ru_runOnce {E : EV} {w : Mem} {s : SG} {dn k : Nat} {lt : Int32} {bb : Bool} {c : List (Nat × Nat)} {cls : List OcT} {q : OcT} (h : DInv w s) (hE : RuE w) (hO : OdP w c cls) (hk : cls[k]? = some q) (hwo : WoP w (sG s) dn lt bb) (hb : (∃ j, j < c.length ∧ cO c j = 5) → bb = true) (hdn : dn ≤ 1000) (hlt : tlS lt) (hwl : (waysL (sG s)).length ≤ 300000) (hdv : rI w 53 7 = nI dn) : T E m_Ru_runOnce 8 0 0 [.ref 53, .ref 28, .int (nI k)] w (fun r w2 => DoQ w w2 s (ordDo q (sG s, sU s, dn, lt)) r) := by
  refine T_of (L := [.ref 53, .ref 28, .int (nI k), un, un, un, un, un]) cf_Ru_runOnce rfl (Nat.le_of_ble_eq_true rfl) (fun X hX hF => ?_)
  have hW := h.g.2.1
  obtain ⟨hC, hX2, hD, h28, h12, hcl⟩ := id hO
  have hk12 := (List.getElem?_eq_some_iff.mp hk).1
  obtain ⟨o1, o2, o3, o4, a, b, a2, b2, u, v, o5, o6, o7, o8, o9, o10, p1, p2, p3, p4, p5, p6, s1, s2, s3⟩ := hcl k q hk
  have hc233 := hC.1
  refine g_aload1 hX d_Ru_runOnce_0 ?_
  refine g_iload2 hX d_Ru_runOnce_1 ?_
  refine g_iconst (v := nI 1) hX d_Ru_runOnce_2 rfl ?_
  refine g_aload0 hX d_Ru_runOnce_3 ?_
  refine g_getF hX d_Ru_runOnce_4 fl_Ru_25 (lv_53 _) ?_
  refine g_aload0 hX d_Ru_runOnce_7 ?_
  refine g_getR hX d_Ru_runOnce_8 fl_Ru_39 (lv_53 _) hE.2.2.1 ?_
  refine g_getF hX d_Ru_runOnce_11 fl_Ru_136 (lv_31 _) ?_
  refine g_callV (As := [_, _, _, _]) hX hF.1 d_Ru_runOnce_14 ml_Ru_140 cf_Pr_ask cv_Pr_ask rfl rfl (c_Pr_ask (op := cO c) (arg := cA c) (env := envO (sG s) dn lt) (nw := 17) (len := c.length) hD.1.P (s1).M (fun j hj => ⟨(hC.2.1 j (by omega)).1, (hC.2.1 j (by omega)).2.1, fun z => ((hC.2.1 j (by omega)).2.2 z).1⟩) (Nat.le_trans (psh_le _ p2) (by have := hC.2.2.2; omega)) hD.2.1 p2 hC.1 (by decide) (fun j hj => hD.2.2 j (by omega)) o5 o6 (by omega) (lv_68 _) (by decide) ((hwo).env hW hX2 hb hdn hlt hwl p2)) (rcv_obj hX (lv_28 _) rfl rfl) (by omega) (by omega) (by omega) (Nat.le_of_ble_eq_true rfl) ?_
  rintro r5 w5 ⟨hA, hf5⟩
  obtain ⟨L1, rfl, hL1⟩ := hA.L
  have hE5 : RuE w5 := hE.fr hf5.W.2.2.2
  obtain ⟨-, -, hD5, -, -, hcl5⟩ := hO.s hf5
  have hwo5 := hwo.s hf5
  show G0 _ _ _ _ _ _ _ _
  refine g_lstore3 hX d_Ru_runOnce_17 rfl (by decide) ?_
  refine g_aload1 hX d_Ru_runOnce_18 ?_
  refine g_iload2 hX d_Ru_runOnce_19 ?_
  refine g_iconst (v := nI 3) hX d_Ru_runOnce_20 rfl ?_
  refine g_aload0 hX d_Ru_runOnce_21 ?_
  refine g_getF hX d_Ru_runOnce_22 fl_Ru_25 (lv_53 _) ?_
  refine g_aload0 hX d_Ru_runOnce_25 ?_
  refine g_getR hX d_Ru_runOnce_26 fl_Ru_39 (lv_53 _) hE5.2.2.1 ?_
  refine g_getF hX d_Ru_runOnce_29 fl_Ru_136 (lv_31 _) ?_
  refine g_callV (As := [_, _, _, _]) hX hF.1 d_Ru_runOnce_32 ml_Ru_140 cf_Pr_ask cv_Pr_ask rfl rfl (c_Pr_ask (op := cO c) (arg := cA c) (env := envO (sG s) dn lt) (nw := 17) (len := c.length) hD5.1.P (s2).M (fun j hj => ⟨(hC.2.1 j (by omega)).1, (hC.2.1 j (by omega)).2.1, fun z => ((hC.2.1 j (by omega)).2.2 z).1⟩) (Nat.le_trans (psh_le _ p4) (by have := hC.2.2.2; omega)) hD5.2.1 p4 hC.1 (by decide) (fun j hj => hD5.2.2 j (by omega)) (by rw [hf5.i]; exact o7) (by rw [hf5.i]; exact o8) (by omega) (lv_68 _) (by decide) ((hwo5).env hW hX2 hb hdn hlt hwl p4)) (rcv_obj hX (lv_28 _) rfl rfl) (by omega) (by omega) (by omega) (Nat.le_of_ble_eq_true rfl) ?_
  rintro r6 w6 ⟨hA2, hf6⟩
  obtain ⟨L2, rfl, hL2⟩ := hA2.L
  have hf56 := hf5.tr hf6
  have hE6 : RuE w6 := hE.fr hf56.W.2.2.2
  have hD6 := (hO.s hf56).2.2.1
  have h6 := h.w1 hf56.W
  show G0 _ _ _ _ _ _ _ _
  refine g_lstore5 hX d_Ru_runOnce_35 rfl (by decide) ?_
  refine g_lload3 hX d_Ru_runOnce_37 ?_
  refine g_ldc2 (v := -1000000001) hX d_Ru_runOnce_38 k_Ru_144 rfl ?_
  refine g_lcmp_eq hX d_Ru_runOnce_41 d_Ru_runOnce_42 (fun e42 => ?_) (fun e42 => ?_)
  · refine g_iconst (v := nI 0) hX d_Ru_runOnce_54 rfl ?_
    refine g_zret hX hF d_Ru_runOnce_55 (Or.inl rfl) (by omega) (by omega) ?_
    rw [ordDo_1 (Or.inl (hL1.n e42))]
    exact ⟨hf56.W.R, rfl⟩
  · obtain ⟨x1, hx1, rfl⟩ := hL1.y e42
    refine g_lload5 hX d_Ru_runOnce_45 ?_
    refine g_ldc2 (v := -1000000001) hX d_Ru_runOnce_47 k_Ru_144 rfl ?_
    refine g_lcmp_ne hX d_Ru_runOnce_50 d_Ru_runOnce_51 (fun e51 => ?_) (fun e51 => ?_)
    · obtain ⟨x2, hx2, rfl⟩ := hL2.y e51
      refine g_aload0 hX d_Ru_runOnce_56 ?_
      refine g_aload1 hX d_Ru_runOnce_57 ?_
      refine g_iload2 hX d_Ru_runOnce_58 ?_
      refine g_iconst (v := nI 0) hX d_Ru_runOnce_59 rfl ?_
      refine g_callV (As := [_, _]) hX hF.1 d_Ru_runOnce_60 ml_Ru_89 cf_Pr_tell cv_Pr_tell rfl rfl (c_Pr_tell hD6.1.P (c := k) (k := 0) (x := q.1) (by rw [hf56.i]; exact o1) (by omega)) (rcv_obj hX (lv_28 _) rfl rfl) (by omega) (by omega) (by omega) (Nat.le_of_ble_eq_true rfl) ?_
      refine ret_k ?_
      refine g_lload3 hX d_Ru_runOnce_63 ?_
      refine g_l2i hX d_Ru_runOnce_64 ?_
      refine g_topi (y := Int32.ofInt x1) Int64.toInt32_ofInt ?_
      refine g_lload5 hX d_Ru_runOnce_65 ?_
      refine g_l2i hX d_Ru_runOnce_67 ?_
      refine g_topi (y := Int32.ofInt x2) Int64.toInt32_ofInt ?_
      refine g_callV (As := [_, _, _]) hX hF.1 d_Ru_runOnce_68 ml_Ru_146 cf_Ru_act cv_Ru_act rfl rfl (c_Ru_act hE6 h6.g o2) (rcv_obj hX (lv_53 _) rfl rfl) (by omega) (by omega) (by omega) (Nat.le_of_ble_eq_true rfl) ?_
      rintro _ w7 ⟨rfl, hG7, hf7⟩
      have hdo := ordDo_2 (s := (sG s, sU s, dn, lt)) hx1 hx2
      have h7 := h6.act hG7 (aAct_gL hW _ _ _ _) hf7
      have hE7 : RuE w7 := hE6.fr hf7.R.2.2.2
      have hfr7 := hf56.W.R.tr hf7.R
      show G0 _ _ _ _ _ _ _ _
      refine g_istore7 hX d_Ru_runOnce_71 rfl (by decide) ?_
      refine g_iload7 hX d_Ru_runOnce_73 ?_
      refine g_if_ge hX d_Ru_runOnce_75 (fun e75 => ?_) (fun e75 => ?_)
      · refine g_aload0 hX d_Ru_runOnce_80 ?_
        refine g_iload7 hX d_Ru_runOnce_81 ?_
        refine g_putI hX d_Ru_runOnce_83 fl_Ru_50 (lv_53 _) ?_
        refine g_aload0 hX d_Ru_runOnce_86 ?_
        refine g_dup hX d_Ru_runOnce_87 rfl ?_
        refine g_getI hX d_Ru_runOnce_88 fl_Ru_47 (lv_53 _) ?_
        refine g_topi (show rI (sI w7 53 8 _) 53 7 = nI dn by rw [rI_sI, upd_eq, if_neg (by decide), hf7.1 53 (by decide) (by decide), hf56.i]; exact hdv) ?_
        refine g_iconst (v := nI 1) hX d_Ru_runOnce_91 rfl ?_
        refine g_iaddN hX d_Ru_runOnce_92 ?_
        refine g_putI hX d_Ru_runOnce_93 fl_Ru_47 (lv_53 _) ?_
        refine g_iconst (v := nI 1) hX d_Ru_runOnce_96 rfl ?_
        refine g_zret hX hF d_Ru_runOnce_97 (Or.inr rfl) (by omega) (by omega) ?_
        rw [hdo, if_neg (Int32.not_lt.mpr e75)]
        exact ⟨hfr7.tr DkW.fld.R, rfl, h7.w1 DkW.fld, hE7.fr DkW.fld.2.2.2, by rw [rI_sI, upd_eq, if_pos rfl], by rw [rI_sI, upd_eq, if_neg (by decide), rI_sI, upd_eq, if_pos rfl]⟩
      · refine g_iconst (v := nI 0) hX d_Ru_runOnce_78 rfl ?_
        refine g_zret hX hF d_Ru_runOnce_79 (Or.inl rfl) (by omega) (by omega) ?_
        rw [hdo, if_pos (Int32.not_le.mp e75)]
        exact ⟨hfr7, rfl⟩
    · refine g_iconst (v := nI 0) hX d_Ru_runOnce_54 rfl ?_
      refine g_zret hX hF d_Ru_runOnce_55 (Or.inl rfl) (by omega) (by omega) ?_
      rw [ordDo_1 (Or.inr (hL2.n e51))]
      exact ⟨hf56.W.R, rfl⟩
