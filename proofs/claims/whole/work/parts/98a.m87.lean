def m_Le_weigh : MR := (⟨"SubgraphDesk$Ledger", "weigh", "(LSubgraphDesk$Program;I)Z"⟩, prog_5_method_4_code, 7, (some .boolean))
theorem cf_Le_weigh : CF m_Le_weigh 2 := ⟨gd 689 (by decide +kernel) rfl, gd 145 (by decide +kernel) rfl, by decide +kernel, by decide, by decide +kernel⟩
theorem cv_Le_weigh : CV m_Le_weigh := ⟨gd 688 (by decide +kernel) rfl, gd 2 (by decide +kernel) rfl⟩
theorem d_Le_weigh_0 : Dc prog_5_method_4_code 0 (.iconst 0) 1 1 := ⟨by decide +kernel, rfl⟩
theorem d_Le_weigh_1 : Dc prog_5_method_4_code 1 (.istore_n 3) 1 2 := ⟨by decide +kernel, rfl⟩
theorem d_Le_weigh_2 : Dc prog_5_method_4_code 2 (.iconst 0) 1 3 := ⟨by decide +kernel, rfl⟩
theorem d_Le_weigh_3 : Dc prog_5_method_4_code 3 (.istore 4) 2 5 := ⟨by decide +kernel, rfl⟩
theorem d_Le_weigh_5 : Dc prog_5_method_4_code 5 (.iload 4) 2 7 := ⟨by decide +kernel, rfl⟩
theorem d_Le_weigh_7 : Dc prog_5_method_4_code 7 (.aload_n 1) 1 8 := ⟨by decide +kernel, rfl⟩
theorem d_Le_weigh_8 : Dc prog_5_method_4_code 8 (.getfield 73) 3 11 := ⟨by decide +kernel, rfl⟩
theorem d_Le_weigh_11 : Dj prog_5_method_4_code 11 (.if_icmp .ge 103) 14 103 114 := ⟨by decide +kernel, rfl, rfl⟩
theorem d_Le_weigh_14 : Dc prog_5_method_4_code 14 (.aload_n 1) 1 15 := ⟨by decide +kernel, rfl⟩
theorem d_Le_weigh_15 : Dc prog_5_method_4_code 15 (.iload 4) 2 17 := ⟨by decide +kernel, rfl⟩
theorem d_Le_weigh_17 : Dc prog_5_method_4_code 17 (.iconst 5) 1 18 := ⟨by decide +kernel, rfl⟩
theorem d_Le_weigh_18 : Dc prog_5_method_4_code 18 (.invokevirtual 78) 3 21 := ⟨by decide +kernel, rfl⟩
theorem d_Le_weigh_21 : Dj prog_5_method_4_code 21 (.ifCond .eq 26) 24 26 47 := ⟨by decide +kernel, rfl, rfl⟩
theorem d_Le_weigh_24 : Dc prog_5_method_4_code 24 (.aload_n 1) 1 25 := ⟨by decide +kernel, rfl⟩
theorem d_Le_weigh_25 : Dc prog_5_method_4_code 25 (.iload 4) 2 27 := ⟨by decide +kernel, rfl⟩
theorem d_Le_weigh_27 : Dc prog_5_method_4_code 27 (.iconst 5) 1 28 := ⟨by decide +kernel, rfl⟩
theorem d_Le_weigh_28 : Dc prog_5_method_4_code 28 (.aload_n 0) 1 29 := ⟨by decide +kernel, rfl⟩
theorem d_Le_weigh_29 : Dc prog_5_method_4_code 29 (.getfield 18) 3 32 := ⟨by decide +kernel, rfl⟩
theorem d_Le_weigh_32 : Dc prog_5_method_4_code 32 (.aload_n 0) 1 33 := ⟨by decide +kernel, rfl⟩
theorem d_Le_weigh_33 : Dc prog_5_method_4_code 33 (.getfield 21) 3 36 := ⟨by decide +kernel, rfl⟩
theorem d_Le_weigh_36 : Dc prog_5_method_4_code 36 (.invokevirtual 82) 3 39 := ⟨by decide +kernel, rfl⟩
theorem d_Le_weigh_39 : Dc prog_5_method_4_code 39 (.lconst 1) 1 40 := ⟨by decide +kernel, rfl⟩
theorem d_Le_weigh_40 : Dc prog_5_method_4_code 40 (.lcmp) 1 41 := ⟨by decide +kernel, rfl⟩
theorem d_Le_weigh_41 : Dj prog_5_method_4_code 41 (.ifCond .eq 6) 44 6 47 := ⟨by decide +kernel, rfl, rfl⟩
theorem d_Le_weigh_44 : Dj prog_5_method_4_code 44 (.goto 64) 47 64 108 := ⟨by decide +kernel, rfl, rfl⟩
theorem d_Le_weigh_47 : Dc prog_5_method_4_code 47 (.aload_n 1) 1 48 := ⟨by decide +kernel, rfl⟩
theorem d_Le_weigh_48 : Dc prog_5_method_4_code 48 (.iload 4) 2 50 := ⟨by decide +kernel, rfl⟩
theorem d_Le_weigh_50 : Dc prog_5_method_4_code 50 (.iconst 0) 1 51 := ⟨by decide +kernel, rfl⟩
theorem d_Le_weigh_51 : Dc prog_5_method_4_code 51 (.invokevirtual 86) 3 54 := ⟨by decide +kernel, rfl⟩
theorem d_Le_weigh_54 : Dc prog_5_method_4_code 54 (.iconst 5) 1 55 := ⟨by decide +kernel, rfl⟩
theorem d_Le_weigh_55 : Dj prog_5_method_4_code 55 (.if_icmp .ne 8) 58 8 63 := ⟨by decide +kernel, rfl, rfl⟩
theorem d_Le_weigh_58 : Dc prog_5_method_4_code 58 (.iconst 1) 1 59 := ⟨by decide +kernel, rfl⟩
theorem d_Le_weigh_59 : Dc prog_5_method_4_code 59 (.istore_n 3) 1 60 := ⟨by decide +kernel, rfl⟩
theorem d_Le_weigh_60 : Dj prog_5_method_4_code 60 (.goto 48) 63 48 108 := ⟨by decide +kernel, rfl, rfl⟩
theorem d_Le_weigh_63 : Dc prog_5_method_4_code 63 (.aload_n 1) 1 64 := ⟨by decide +kernel, rfl⟩
theorem d_Le_weigh_64 : Dc prog_5_method_4_code 64 (.iload 4) 2 66 := ⟨by decide +kernel, rfl⟩
theorem d_Le_weigh_66 : Dc prog_5_method_4_code 66 (.iconst 1) 1 67 := ⟨by decide +kernel, rfl⟩
theorem d_Le_weigh_67 : Dc prog_5_method_4_code 67 (.aload_n 0) 1 68 := ⟨by decide +kernel, rfl⟩
theorem d_Le_weigh_68 : Dc prog_5_method_4_code 68 (.getfield 18) 3 71 := ⟨by decide +kernel, rfl⟩
theorem d_Le_weigh_71 : Dc prog_5_method_4_code 71 (.aload_n 0) 1 72 := ⟨by decide +kernel, rfl⟩
theorem d_Le_weigh_72 : Dc prog_5_method_4_code 72 (.getfield 21) 3 75 := ⟨by decide +kernel, rfl⟩
theorem d_Le_weigh_75 : Dc prog_5_method_4_code 75 (.invokevirtual 82) 3 78 := ⟨by decide +kernel, rfl⟩
theorem d_Le_weigh_78 : Dc prog_5_method_4_code 78 (.lstore 5) 2 80 := ⟨by decide +kernel, rfl⟩
theorem d_Le_weigh_80 : Dc prog_5_method_4_code 80 (.lload 5) 2 82 := ⟨by decide +kernel, rfl⟩
theorem d_Le_weigh_82 : Dc prog_5_method_4_code 82 (.ldc2_w 90) 3 85 := ⟨by decide +kernel, rfl⟩
theorem d_Le_weigh_85 : Dc prog_5_method_4_code 85 (.lcmp) 1 86 := ⟨by decide +kernel, rfl⟩
theorem d_Le_weigh_86 : Dj prog_5_method_4_code 86 (.ifCond .eq 22) 89 22 108 := ⟨by decide +kernel, rfl, rfl⟩
theorem d_Le_weigh_89 : Dc prog_5_method_4_code 89 (.aload_n 0) 1 90 := ⟨by decide +kernel, rfl⟩
theorem d_Le_weigh_90 : Dc prog_5_method_4_code 90 (.getfield 15) 3 93 := ⟨by decide +kernel, rfl⟩
theorem d_Le_weigh_93 : Dc prog_5_method_4_code 93 (.iload_n 2) 1 94 := ⟨by decide +kernel, rfl⟩
theorem d_Le_weigh_94 : Dc prog_5_method_4_code 94 (.lconst 0) 1 95 := ⟨by decide +kernel, rfl⟩
theorem d_Le_weigh_95 : Dc prog_5_method_4_code 95 (.ldc2_w 92) 3 98 := ⟨by decide +kernel, rfl⟩
theorem d_Le_weigh_98 : Dc prog_5_method_4_code 98 (.lload 5) 2 100 := ⟨by decide +kernel, rfl⟩
theorem d_Le_weigh_100 : Dc prog_5_method_4_code 100 (.invokestatic 94) 3 103 := ⟨by decide +kernel, rfl⟩
theorem d_Le_weigh_103 : Dc prog_5_method_4_code 103 (.invokestatic 100) 3 106 := ⟨by decide +kernel, rfl⟩
theorem d_Le_weigh_106 : Dc prog_5_method_4_code 106 (.l2i) 1 107 := ⟨by decide +kernel, rfl⟩
theorem d_Le_weigh_107 : Dc prog_5_method_4_code 107 (.iastore) 1 108 := ⟨by decide +kernel, rfl⟩
theorem d_Le_weigh_108 : Dc prog_5_method_4_code 108 (.iinc 4 1) 3 111 := ⟨by decide +kernel, rfl⟩
theorem d_Le_weigh_111 : Dj prog_5_method_4_code 111 (.goto (-106)) 114 (-106) 5 := ⟨by decide +kernel, rfl, rfl⟩
theorem d_Le_weigh_114 : Dc prog_5_method_4_code 114 (.iload_n 3) 1 115 := ⟨by decide +kernel, rfl⟩
theorem d_Le_weigh_115 : Dc prog_5_method_4_code 115 (.ireturn) 1 116 := ⟨by decide +kernel, rfl⟩
theorem fl_Le_15 : FL "SubgraphDesk$Ledger" 15 4 1 true (.array .int) (3, 2) := ⟨R_Le, F_Le, 4, ty_Le, rfl, rfl, in_Le, tyok_Le, nm_Le, by decide, gd 377 (by decide +kernel) rfl, rfl, rfl, rfl⟩
theorem fl_Le_18 : FL "SubgraphDesk$Ledger" 18 4 2 true (.array .int) (3, 3) := ⟨R_Le, F_Le, 4, ty_Le, rfl, rfl, in_Le, tyok_Le, nm_Le, by decide, gd 379 (by decide +kernel) rfl, rfl, rfl, rfl⟩
theorem fl_Le_21 : FL "SubgraphDesk$Ledger" 21 4 3 true (.array .long) (3, 4) := ⟨R_Le, F_Le, 4, ty_Le, rfl, rfl, in_Le, tyok_Le, nm_Le, by decide, gd 380 (by decide +kernel) rfl, rfl, rfl, rfl⟩
theorem fl_Le_73 : FL "SubgraphDesk$Ledger" 73 6 0 false .int (0, 0) := ⟨R_Pr, F_Pr, 4, ty_Pr, rfl, rfl, in_Pr, tyok_Pr, nm_Pr, by decide, gd 334 (by decide +kernel) rfl, rfl, rfl, rfl⟩
theorem ml_Le_78 : Cond.methodLink "SubgraphDesk$Ledger" 78 m_Pr_has.1 ∈ lw_gd := gd 690 (by decide +kernel) rfl
theorem ml_Le_82 : Cond.methodLink "SubgraphDesk$Ledger" 82 m_Pr_ask.1 ∈ lw_gd := gd 698 (by decide +kernel) rfl
theorem ml_Le_86 : Cond.methodLink "SubgraphDesk$Ledger" 86 m_Pr_tell.1 ∈ lw_gd := gd 714 (by decide +kernel) rfl
theorem ml_Le_94 : Cond.methodLink "SubgraphDesk$Ledger" 94 m_JMath_min_JJJ.1 ∈ lw_gd := gd 717 (by decide +kernel) rfl
theorem ml_Le_100 : Cond.methodLink "SubgraphDesk$Ledger" 100 m_JMath_max_JJJ.1 ∈ lw_gd := gd 720 (by decide +kernel) rfl
theorem k_Le_90 : Cond.constantLong "SubgraphDesk$Ledger" 90 (-1000000001) ∈ lw_gd := gd 715 (by decide +kernel) rfl
theorem k_Le_92 : Cond.constantLong "SubgraphDesk$Ledger" 92 (99) ∈ lw_gd := gd 716 (by decide +kernel) rfl
/-! ===== the ledger ===== -/
theorem PrgL.lv {w : Mem} {p : Nat} {q : LawT} (h : PrgL w p q) : Lv w p (1, 6) := by
  obtain ⟨h0, h1, tt, cc, c, h2, h3, h4, -⟩ := h
  exact h4.1
theorem PrgL.cl {w : Mem} {p : Nat} {q : LawT} (h : PrgL w p q) : rI w p 0 = nI q.length := by
  obtain ⟨h0, h1, tt, cc, c, h2, h3, h4, h5, -⟩ := h
  exact h5
theorem PrgL.s {w w2 : Mem} {p : Nat} {q : LawT} (h : PrgL w p q) (f : FrS w w2) : PrgL w2 p q := h.fr2 (fun a _ => f.i a) (fun a _ => by unfold rR; rw [f.2.2]) (by rw [f.2.2])
/-- the words of a law as they stand -/
def EnvW (w : Mem) (env : Nat → Int) : Prop := ∀ o, 1 ≤ o → o ≤ 7 → rI w 34 (o - 1) = Int32.ofInt (env (if o = 6 then 20 else o)) ∧ bd (env (if o = 6 then 20 else o))
theorem EnvW.s {w w2 : Mem} {env : Nat → Int} (h : EnvW w env) (f : FrS w w2) : EnvW w2 env := fun o h1 h2 => by rw [f.i]; exact h o h1 h2
theorem envW_ask {w : Mem} {env : Nat → Int} {c : List (Nat × Nat)} (h : EnvW w env) (h1 : ∀ j, j < c.length → cO c j = 0 ∨ 20 ≤ cO c j ∨ (1 ≤ cO c j ∧ cO c j ≤ 7)) (h2 : ∀ j, j < c.length → cO c j = 6 → cA c j = 0) (j : Nat) (hj : j < c.length) (h0 : 0 < cO c j) (h20 : cO c j < 20) : dA (cO c j) (cA c j) < 7 ∧ rI w 34 (dA (cO c j) (cA c j)) = Int32.ofInt (env (if cO c j = 6 then 20 + cA c j else cO c j)) ∧ bd (env (if cO c j = 6 then 20 + cA c j else cO c j)) := by
  have hr : 1 ≤ cO c j ∧ cO c j ≤ 7 := by
    rcases h1 j hj with e | e | e
    · omega
    · omega
    · exact e
  have he := h (cO c j) hr.1 hr.2
  by_cases e6 : cO c j = 6
  · have ea := h2 j hj e6
    rw [if_pos e6] at he
    rw [if_pos e6, ea, e6]
    rw [e6] at he
    exact ⟨by decide, he⟩
  · rw [if_neg e6] at he
    have ed : dA (cO c j) (cA c j) = cO c j - 1 := by
      unfold dA
      rw [if_neg (by omega), if_neg e6, if_pos h20]
    rw [if_neg e6, ed]
    exact ⟨by omega, he⟩
section
variable {E : EV} {w : Mem} {p : Nat} {q : LawT} {k : Nat} {x : Bool × Den × Option Den} {env : Nat → Int}
theorem c_hasT (hP : PrgL w p q) (hk : q[k]? = some x) : T E m_Pr_has 1 0 0 [.ref p, .int (nI k), .int (nI 5)] w (Ret (some (.int (b2i (x.2.2.isSome = true)))) w) := by
  obtain ⟨h0, h1, tt, cc, c, h2, h3, h4, h5, h6, ⟨h7, h7b⟩, h8, h9, h10⟩ := hP
  have hkl := (List.getElem?_eq_some_iff.mp hk).1
  obtain ⟨g0, a, b, t, e, g1, g2, g3, g4, g5, g6, g7, g8, g9, g10⟩ := h10 k x hk
  have hz : (t < e) ↔ x.2.2.isSome = true := by
    obtain ⟨x1, x2, x3⟩ := x
    cases x3 with
    | none =>
      have g10 : t = e := g10
      exact ⟨fun z => by omega, fun z => by cases z⟩
    | some f => exact ⟨fun _ => rfl, fun _ => g10.1.1⟩
  refine (c_Pr_has h4 (c := k) (k := 5) (x := t) (y := e) g3 g4 (by omega) (by omega) (by omega)).mono ?_
  rintro r w2 ⟨rfl, rfl⟩
  refine ⟨?_, rfl⟩
  congr 2
  by_cases hte : t < e
  · rw [b2i_t hte, b2i_t (hz.mp hte)]
  · rw [b2i_f hte, b2i_f (mt hz.mpr hte)]
theorem c_tellS (hP : PrgL w p q) (hk : q[k]? = some x) : T E m_Pr_tell 0 0 0 [.ref p, .int (nI k), .int (nI 0)] w (Ret (some (.int (nI (if x.1 then 4 else 5)))) w) := by
  obtain ⟨h0, h1, tt, cc, c, h2, h3, h4, h5, h6, ⟨h7, h7b⟩, h8, h9, h10⟩ := hP
  have hkl := (List.getElem?_eq_some_iff.mp hk).1
  obtain ⟨g0, -⟩ := h10 k x hk
  refine c_Pr_tell h4 (c := k) (k := 0) ?_ (by omega)
  rw [Nat.add_zero, g0]
theorem c_askT {f : Den} (hP : PrgL w p q) (hk : q[k]? = some x) (hE : EnvW w env) (hx : x.2.2 = some f) : T E m_Pr_ask 1 0 0 [.ref p, .int (nI k), .int (nI 5), .ref 34, .ref 35] w (fun r w2 => AskP (f env) r ∧ FrS w w2) := by
  obtain ⟨h0, h1, tt, cc, c, h2, h3, h4, h5, h6, ⟨h7, h7b, h7c, h7d⟩, h8, h9, h10⟩ := hP
  have hkl := (List.getElem?_eq_some_iff.mp hk).1
  obtain ⟨g0, a, b, t, e, g1, g2, g3, g4, g5, g6, g7, g8, g9, g10⟩ := h10 k x hk
  rw [hx] at g10
  exact c_Pr_ask h4 (c := k) (pt := 5) (nw := 7) (SegS.M g10.1) (fun j hj => by have := h7b j (by omega); exact ⟨this.1, this.2.1, fun z => (this.2.2 z).1⟩) (by have := psh_le (cO c) g8; omega) h6 g8 (Nat.le_refl _) (by omega) (fun j hj => h9 j (by omega)) g3 g4 (by omega) (lv_34 _) (by decide) (fun j hj h0 h20 => envW_ask hE h7c h8 j (by omega) h0 h20)
theorem c_askF (hP : PrgL w p q) (hk : q[k]? = some x) (hE : EnvW w env) (hx : x.1 = true) : T E m_Pr_ask 1 0 0 [.ref p, .int (nI k), .int (nI 1), .ref 34, .ref 35] w (fun r w2 => AskP (x.2.1 env) r ∧ FrS w w2) := by
  obtain ⟨h0, h1, tt, cc, c, h2, h3, h4, h5, h6, ⟨h7, h7b, h7c, h7d⟩, h8, h9, h10⟩ := hP
  have hkl := (List.getElem?_eq_some_iff.mp hk).1
  obtain ⟨g0, a, b, t, e, g1, g2, g3, g4, g5, g6, g7, g8, g9, g10⟩ := h10 k x hk
  exact c_Pr_ask h4 (c := k) (pt := 1) (nw := 7) (SegS.M (g9 hx)) (fun j hj => by have := h7b j (by omega); exact ⟨this.1, this.2.1, fun z => (this.2.2 z).1⟩) (by have := psh_le (cO c) g6; omega) h6 g6 (Nat.le_refl _) (by omega) (fun j hj => h9 j (by omega)) g1 g2 (by omega) (lv_34 _) (by decide) (fun j hj h0 h20 => envW_ask hE h7c h8 j (by omega) h0 h20)
end
/-- what is weighed: one cost and the stack change -/
def WgF (m : Nat) (w w2 : Mem) : Prop := (∀ a, a ≠ 33 → rI w2 a = rI w a) ∧ (∀ i, i ≠ m → rI w2 33 i = rI w 33 i) ∧ (∀ a, a ≠ 35 → rJ w2 a = rJ w a) ∧ w2.2.2 = w.2.2
theorem WgF.rf (m : Nat) (w : Mem) : WgF m w w := ⟨fun _ _ => rfl, fun _ _ => rfl, fun _ _ => rfl, rfl⟩
theorem WgF.tr {m : Nat} {a b c : Mem} (h : WgF m a b) (h2 : WgF m b c) : WgF m a c := ⟨fun x hx => (h2.1 x hx).trans (h.1 x hx), fun x hx => (h2.2.1 x hx).trans (h.2.1 x hx), fun x hx => (h2.2.2.1 x hx).trans (h.2.2.1 x hx), h2.2.2.2.trans h.2.2.2⟩
theorem FrS.Wg {m : Nat} {w w2 : Mem} (h : FrS w w2) : WgF m w w2 := ⟨fun a _ => h.i a, fun i _ => by rw [h.i], h.2.1, h.2.2⟩
theorem WgF.I (m : Nat) (w : Mem) (x : Int32) : WgF m w (sI w 33 m x) := ⟨fun a ha => by rw [rI_sI_ne _ _ _ ha], fun i hi => by rw [rI_sI, upd_eq, if_neg hi], fun _ _ => rfl, rfl⟩
theorem PrgL.wg {m : Nat} {w w2 : Mem} {p : Nat} {q : LawT} (h : PrgL w p q) (f : WgF m w w2) : PrgL w2 p q := h.fr2 (fun a ha => f.1 a (by omega)) (fun a _ => by unfold rR; rw [f.2.2.2]) (by rw [f.2.2.2])
theorem EnvW.wg {m : Nat} {w w2 : Mem} {env : Nat → Int} (h : EnvW w env) (f : WgF m w w2) : EnvW w2 env := fun o h1 h2 => by rw [f.1 34 (by decide)]; exact h o h1 h2
theorem foldl_take_s {α β : Type} (f : β → α → β) (l : List α) (k : Nat) (a : β) (x : α) (h : l[k]? = some x) : (l.take (k + 1)).foldl f a = f ((l.take k).foldl f a) x := by
  rw [List.take_add_one, h, List.foldl_append]
  rfl
/-- a price within 0 .. 99 -/
theorem cl_99 {z : Int} (h : bd z) : (if (if lI z < lN 99 then lI z else lN 99) < lN 0 then lN 0 else (if lI z < lN 99 then lI z else lN 99)) = lI (clampN z 99 : Int) := by
  have e1 : lI z < lN 99 ↔ z < 99 := lI_lt (a := z) (b := 99) (by omega) (by omega)
  have e2 : lI z < lN 0 ↔ z < 0 := lI_lt (a := z) (b := 0) (by omega) (by omega)
  unfold clampN
  by_cases h1 : z < 99
  · rw [if_pos (e1.mpr h1)]
    by_cases h2 : z < 0
    · rw [if_pos (e2.mpr h2), if_pos h2]; rfl
    · rw [if_neg (mt e2.mp h2), if_neg h2, if_neg (by omega)]
      congr 1
      omega
  · rw [if_neg (mt e1.mp h1), if_neg (by decide), if_neg (by omega)]
    by_cases h3 : ((99 : Nat) : Int) < z
    · rw [if_pos h3]; rfl
    · rw [if_neg h3, show z = 99 by omega]; rfl
theorem cl_i {z : Int} : (lI (clampN z 99 : Int)).toInt32 = nI (clampN z 99) := by
  rw [← lI_nat]
  exact lN_i _
theorem PrgL.bit {w : Mem} {p : Nat} {q : LawT} {k : Nat} {x : Bool × Den × Option Den} {f : Den} (h : PrgL w p q) (hk : q[k]? = some x) (hx : x.2.2 = some f) : Bit f := by
  obtain ⟨h0, h1, tt, cc, c, h2, h3, h4, h5, h6, h7, h8, h9, h10⟩ := h
  obtain ⟨g0, a, b, t, e, g1, g2, g3, g4, g5, g6, g7, g8, g9, g10⟩ := h10 k x hk
  rw [hx] at g10
  exact g10.2
theorem c_Le_weigh {E : EV} {w : Mem} {p m : Nat} {q : LawT} {env : Nat → Int} {d : Int} (hP : PrgL w p q) (hE : EnvW w env) (hm : m < 60) (hc : rI w 33 m = nI (clampN d 99)) : T E m_Le_weigh 2 0 0 [.ref 31, .ref p, .int (nI m)] w (fun r w2 => r = some (.int (b2i (q.foldl (tellS env 1) 0 ≠ 0))) ∧ WgF m w w2 ∧ rI w2 33 m = nI (clampN (q.foldl (tellS env 0) d) 99)) := by
  refine T_of (L := [.ref 31, .ref p, .int (nI m), un, un, un, un]) cf_Le_weigh rfl (Nat.le_of_ble_eq_true rfl) (fun X hX hF => ?_)
  have lp : ∀ (fuel : Nat) (k : Nat) (r0 d0 : Int) (wk : Mem), q.length - k < fuel → (WgF m w wk) → (rI wk 33 m = nI (clampN d0 99)) → ((q.take k).foldl (tellS env 1) 0 = r0) → ((q.take k).foldl (tellS env 0) d = d0) → (k ≤ q.length) → G0 E X 0 0 5 [.ref 31, .ref p, .int (nI m), .int (b2i (r0 ≠ 0)), .int (nI k), un, un] [] wk := by
    intro fuel
    induction fuel with
    | zero => intro k r0 d0 wk q0; exact absurd q0 (Nat.not_lt_zero _)
    | succ fuel ih =>
      intro k r0 d0 wk q0 q1 q2 q3 q4 q5
      have hPk := hP.wg q1
      have hq12 := hP.2.1
      refine g_iload4 hX d_Le_weigh_5 ?_
      refine g_aload1 hX d_Le_weigh_7 ?_
      refine g_getI hX d_Le_weigh_8 fl_Le_73 hPk.lv ?_
      refine g_topi (show rI wk p 0 = nI q.length from hPk.cl) ?_
      refine g_icmpN_ge hX d_Le_weigh_11 (by omega) (by omega) (fun e11 => ?_) (fun c0 => ?_)
      · refine g_iload3 hX d_Le_weigh_114 ?_
        refine g_zret hX hF d_Le_weigh_115 (b2i_01 _) (by omega) (by omega) ?_
        obtain rfl : k = q.length := by omega
        rw [List.take_length] at q3 q4
        exact ⟨by rw [q3], q1, by rw [q4]; exact q2⟩
      · obtain ⟨x, hx⟩ : ∃ x, q[k]? = some x := ⟨_, List.getElem?_eq_getElem c0⟩
        have k108 : ∀ (r1 d1 : Int) (w2 : Mem), WgF m w w2 → rI w2 33 m = nI (clampN d1 99) → tellS env 1 r0 x = r1 → tellS env 0 d0 x = d1 → G0 E X 0 0 108 [.ref 31, .ref p, .int (nI m), .int (b2i (r1 ≠ 0)), .int (nI k), un, un] [] w2 := by
          intro r1 d1 w2 g1 g2 g3 g4
          refine g_iincN4 hX d_Le_weigh_108 rfl (by decide) ?_
          refine g_goto hX d_Le_weigh_111 ?_
          exact ih (k + 1) r1 d1 w2 (by omega) g1 g2 (by rw [foldl_take_s _ _ _ _ x hx, q3, g3]) (by rw [foldl_take_s _ _ _ _ x hx, q4, g4]) (by omega)
        have k47 : ∀ (w2 : Mem), WgF m w w2 → rI w2 33 m = nI (clampN d0 99) → clSo env x = (if x.1 then x.2.1 env else some 1) → G0 E X 0 0 47 [.ref 31, .ref p, .int (nI m), .int (b2i (r0 ≠ 0)), .int (nI k), un, un] [] w2 := by
          intro w2 g1 g2 hso
          obtain ⟨x1, x2, x3⟩ := x
          cases x1 with
          | false =>
            have hso : clSo env (false, x2, x3) = some 1 := hso
            refine g_aload1 hX d_Le_weigh_47 ?_
            refine g_iload4 hX d_Le_weigh_48 ?_
            refine g_iconst (v := nI 0) hX d_Le_weigh_50 rfl ?_
            refine g_callV (As := [_, _]) hX hF.1 d_Le_weigh_51 ml_Le_86 cf_Pr_tell cv_Pr_tell rfl rfl (c_tellS (hP.wg g1) hx) (rcv_obj hX (hP.wg g1).lv rfl rfl) (by omega) (by omega) (by omega) (Nat.le_of_ble_eq_true rfl) ?_
            refine ret_k ?_
            refine g_topi (show nI (if (false, x2, x3).1 then 4 else 5) = nI 5 from rfl) ?_
            refine g_iconst (v := nI 5) hX d_Le_weigh_54 rfl ?_
            refine g_icmpN_ne hX d_Le_weigh_55 (by omega) (by omega) (fun h => absurd (by decide) h) (fun c0 => ?_)
            refine g_iconst (v := nI 1) hX d_Le_weigh_58 rfl ?_
            refine g_istore3 hX d_Le_weigh_59 rfl (by decide) ?_
            refine g_goto hX d_Le_weigh_60 ?_
            refine g_fget 5 ?_
            refine g_fget 6 ?_
            rw [show nI 1 = b2i ((1 : Int) ≠ 0) from rfl]
            exact k108 1 d0 w2 g1 g2 (by unfold tellS; rw [hso]; rfl) (by unfold tellS; rfl)
          | true =>
            have hso : clSo env (true, x2, x3) = x2 env := hso
            cases hd : x2 env with
            | none =>
              rw [hd] at hso
              refine g_aload1 hX d_Le_weigh_47 ?_
              refine g_iload4 hX d_Le_weigh_48 ?_
              refine g_iconst (v := nI 0) hX d_Le_weigh_50 rfl ?_
              refine g_callV (As := [_, _]) hX hF.1 d_Le_weigh_51 ml_Le_86 cf_Pr_tell cv_Pr_tell rfl rfl (c_tellS (hP.wg g1) hx) (rcv_obj hX (hP.wg g1).lv rfl rfl) (by omega) (by omega) (by omega) (Nat.le_of_ble_eq_true rfl) ?_
              refine ret_k ?_
              refine g_topi (show nI (if (true, x2, x3).1 then 4 else 5) = nI 4 from rfl) ?_
              refine g_iconst (v := nI 5) hX d_Le_weigh_54 rfl ?_
              refine g_icmpN_ne hX d_Le_weigh_55 (by omega) (by omega) (fun c0 => ?_) (fun h => absurd h (by decide))
              refine g_aload1 hX d_Le_weigh_63 ?_
              refine g_iload4 hX d_Le_weigh_64 ?_
              refine g_iconst (v := nI 1) hX d_Le_weigh_66 rfl ?_
              refine g_aload0 hX d_Le_weigh_67 ?_
              refine g_getF hX d_Le_weigh_68 fl_Le_18 (lv_31 _) ?_
              refine g_aload0 hX d_Le_weigh_71 ?_
              refine g_getF hX d_Le_weigh_72 fl_Le_21 (lv_31 _) ?_
              refine g_callV (As := [_, _, _, _]) hX hF.1 d_Le_weigh_75 ml_Le_82 cf_Pr_ask cv_Pr_ask rfl rfl (c_askF (hP.wg g1) hx (hE.wg g1) rfl) (rcv_obj hX (hP.wg g1).lv rfl rfl) (by omega) (by omega) (by omega) (Nat.le_of_ble_eq_true rfl) ?_
              rintro r w3 ⟨hA3, hS3⟩
              rw [show (true, x2, x3).2.1 = x2 from rfl, hd] at hA3
              have hA4 : r = some (.long (-1000000001)) := hA3
              subst hA4
              show G0 _ _ _ _ _ _ _ _
              refine g_lstore5 hX d_Le_weigh_78 rfl (by decide) ?_
              refine g_lload5 hX d_Le_weigh_80 ?_
              refine g_ldc2 (v := -1000000001) hX d_Le_weigh_82 k_Le_90 rfl ?_
              refine g_lcmp_eq hX d_Le_weigh_85 d_Le_weigh_86 (fun c1 => ?_) (fun h => absurd rfl h)
              refine g_fget 5 ?_
              refine g_fget 6 ?_
              exact k108 r0 d0 w3 (g1.tr hS3.Wg) (by rw [hS3.i]; exact g2) (by unfold tellS; rfl) (by unfold tellS; rw [hso]; rfl)
            | some z =>
              rw [hd] at hso
              refine g_aload1 hX d_Le_weigh_47 ?_
              refine g_iload4 hX d_Le_weigh_48 ?_
              refine g_iconst (v := nI 0) hX d_Le_weigh_50 rfl ?_
              refine g_callV (As := [_, _]) hX hF.1 d_Le_weigh_51 ml_Le_86 cf_Pr_tell cv_Pr_tell rfl rfl (c_tellS (hP.wg g1) hx) (rcv_obj hX (hP.wg g1).lv rfl rfl) (by omega) (by omega) (by omega) (Nat.le_of_ble_eq_true rfl) ?_
              refine ret_k ?_
              refine g_topi (show nI (if (true, x2, x3).1 then 4 else 5) = nI 4 from rfl) ?_
              refine g_iconst (v := nI 5) hX d_Le_weigh_54 rfl ?_
              refine g_icmpN_ne hX d_Le_weigh_55 (by omega) (by omega) (fun c0 => ?_) (fun h => absurd h (by decide))
              refine g_aload1 hX d_Le_weigh_63 ?_
              refine g_iload4 hX d_Le_weigh_64 ?_
              refine g_iconst (v := nI 1) hX d_Le_weigh_66 rfl ?_
              refine g_aload0 hX d_Le_weigh_67 ?_
              refine g_getF hX d_Le_weigh_68 fl_Le_18 (lv_31 _) ?_
              refine g_aload0 hX d_Le_weigh_71 ?_
              refine g_getF hX d_Le_weigh_72 fl_Le_21 (lv_31 _) ?_
              refine g_callV (As := [_, _, _, _]) hX hF.1 d_Le_weigh_75 ml_Le_82 cf_Pr_ask cv_Pr_ask rfl rfl (c_askF (hP.wg g1) hx (hE.wg g1) rfl) (rcv_obj hX (hP.wg g1).lv rfl rfl) (by omega) (by omega) (by omega) (Nat.le_of_ble_eq_true rfl) ?_
              rintro r w3 ⟨hA3, hS3⟩
              rw [show (true, x2, x3).2.1 = x2 from rfl, hd] at hA3
              obtain ⟨rfl, hbz⟩ := hA3
              show G0 _ _ _ _ _ _ _ _
              refine g_lstore5 hX d_Le_weigh_78 rfl (by decide) ?_
              refine g_lload5 hX d_Le_weigh_80 ?_
              refine g_ldc2 (v := -1000000001) hX d_Le_weigh_82 k_Le_90 rfl ?_
              refine g_lcmp_eq hX d_Le_weigh_85 d_Le_weigh_86 (fun h => absurd h (fun y => by have y2 := congrArg Int64.toInt y; rw [lI_T (by omega)] at y2; have y3 : (-1000000001 : Int64).toInt = -1000000001 := rfl; omega)) (fun c1 => ?_)
              refine g_aload0 hX d_Le_weigh_89 ?_
              refine g_getF hX d_Le_weigh_90 fl_Le_15 (lv_31 _) ?_
              refine g_iload2 hX d_Le_weigh_93 ?_
              refine g_lconst (v := lN 0) hX d_Le_weigh_94 rfl ?_
              refine g_ldc2 (v := lN 99) hX d_Le_weigh_95 k_Le_92 rfl ?_
              refine g_lload5 hX d_Le_weigh_98 ?_
              refine g_Math_min_JJJ hX hF.1 d_Le_weigh_100 ml_Le_94 (by omega) (by omega) (by omega) (Nat.le_of_ble_eq_true rfl) ?_
              refine g_Math_max_JJJ hX hF.1 d_Le_weigh_103 ml_Le_100 (by omega) (by omega) (by omega) (Nat.le_of_ble_eq_true rfl) ?_
              refine g_topl (cl_99 hbz) ?_
              refine g_l2i hX d_Le_weigh_106 ?_
              refine g_topi cl_i ?_
              refine g_iast hX d_Le_weigh_107 (lv_33 _) rfl (by omega) ?_
              refine g_fget 5 ?_
              refine g_fget 6 ?_
              exact k108 r0 z _ ((g1.tr hS3.Wg).tr (WgF.I m w3 _)) (by rw [rI_sI, upd_eq, if_pos rfl]) (by unfold tellS; rfl) (by unfold tellS; rw [hso]; rfl)
        rcases hx3 : x.2.2 with _ | f
        · refine g_aload1 hX d_Le_weigh_14 ?_
          refine g_iload4 hX d_Le_weigh_15 ?_
          refine g_iconst (v := nI 5) hX d_Le_weigh_17 rfl ?_
          refine g_callV (As := [_, _]) hX hF.1 d_Le_weigh_18 ml_Le_78 cf_Pr_has cv_Pr_has rfl rfl (c_hasT hPk hx) (rcv_obj hX hPk.lv rfl rfl) (by omega) (by omega) (by omega) (Nat.le_of_ble_eq_true rfl) ?_
          refine ret_k ?_
          refine g_ifB_eq hX d_Le_weigh_21 (fun c0 => ?_) (fun h => absurd h (by rw [hx3]; decide))
          exact k47 wk q1 q2 (by unfold clSo; rw [hx3])
        · have hbit : Bit f := hP.bit hx hx3
          rcases hf : f env with _ | z
          · have hso : clSo env x = none := by unfold clSo; rw [hx3]; simp only [hf]
            refine g_aload1 hX d_Le_weigh_14 ?_
            refine g_iload4 hX d_Le_weigh_15 ?_
            refine g_iconst (v := nI 5) hX d_Le_weigh_17 rfl ?_
            refine g_callV (As := [_, _]) hX hF.1 d_Le_weigh_18 ml_Le_78 cf_Pr_has cv_Pr_has rfl rfl (c_hasT hPk hx) (rcv_obj hX hPk.lv rfl rfl) (by omega) (by omega) (by omega) (Nat.le_of_ble_eq_true rfl) ?_
            refine ret_k ?_
            refine g_ifB_eq hX d_Le_weigh_21 (fun h => absurd (by rw [hx3]; rfl) h) (fun c0 => ?_)
            refine g_aload1 hX d_Le_weigh_24 ?_
            refine g_iload4 hX d_Le_weigh_25 ?_
            refine g_iconst (v := nI 5) hX d_Le_weigh_27 rfl ?_
            refine g_aload0 hX d_Le_weigh_28 ?_
            refine g_getF hX d_Le_weigh_29 fl_Le_18 (lv_31 _) ?_
            refine g_aload0 hX d_Le_weigh_32 ?_
            refine g_getF hX d_Le_weigh_33 fl_Le_21 (lv_31 _) ?_
            refine g_callV (As := [_, _, _, _]) hX hF.1 d_Le_weigh_36 ml_Le_82 cf_Pr_ask cv_Pr_ask rfl rfl (c_askT hPk hx (hE.wg q1) hx3) (rcv_obj hX hPk.lv rfl rfl) (by omega) (by omega) (by omega) (Nat.le_of_ble_eq_true rfl) ?_
            rintro r w3 ⟨hA3, hS3⟩
            rw [hf] at hA3
            have hA4 : r = some (.long (-1000000001)) := hA3
            subst hA4
            show G0 _ _ _ _ _ _ _ _
            refine g_lconst (v := lN 1) hX d_Le_weigh_39 rfl ?_
            refine g_lcmp_eq hX d_Le_weigh_40 d_Le_weigh_41 (fun h => absurd h (by decide)) (fun c1 => ?_)
            refine g_goto hX d_Le_weigh_44 ?_
            refine g_fget 5 ?_
            refine g_fget 6 ?_
            exact k108 r0 d0 w3 (q1.tr hS3.Wg) (by rw [hS3.i]; exact q2) (by unfold tellS; rw [hso]; split <;> rfl) (by unfold tellS; rw [hso]; split <;> rfl)
          · rcases hbit env z hf with rfl | rfl
            · have hso : clSo env x = none := by unfold clSo; rw [hx3]; simp only [hf]; rfl
              refine g_aload1 hX d_Le_weigh_14 ?_
              refine g_iload4 hX d_Le_weigh_15 ?_
              refine g_iconst (v := nI 5) hX d_Le_weigh_17 rfl ?_
              refine g_callV (As := [_, _]) hX hF.1 d_Le_weigh_18 ml_Le_78 cf_Pr_has cv_Pr_has rfl rfl (c_hasT hPk hx) (rcv_obj hX hPk.lv rfl rfl) (by omega) (by omega) (by omega) (Nat.le_of_ble_eq_true rfl) ?_
              refine ret_k ?_
              refine g_ifB_eq hX d_Le_weigh_21 (fun h => absurd (by rw [hx3]; rfl) h) (fun c0 => ?_)
              refine g_aload1 hX d_Le_weigh_24 ?_
              refine g_iload4 hX d_Le_weigh_25 ?_
              refine g_iconst (v := nI 5) hX d_Le_weigh_27 rfl ?_
              refine g_aload0 hX d_Le_weigh_28 ?_
              refine g_getF hX d_Le_weigh_29 fl_Le_18 (lv_31 _) ?_
              refine g_aload0 hX d_Le_weigh_32 ?_
              refine g_getF hX d_Le_weigh_33 fl_Le_21 (lv_31 _) ?_
              refine g_callV (As := [_, _, _, _]) hX hF.1 d_Le_weigh_36 ml_Le_82 cf_Pr_ask cv_Pr_ask rfl rfl (c_askT hPk hx (hE.wg q1) hx3) (rcv_obj hX hPk.lv rfl rfl) (by omega) (by omega) (by omega) (Nat.le_of_ble_eq_true rfl) ?_
              rintro r w3 ⟨hA3, hS3⟩
              rw [hf] at hA3
              obtain ⟨rfl, -⟩ := hA3
              show G0 _ _ _ _ _ _ _ _
              refine g_lconst (v := lN 1) hX d_Le_weigh_39 rfl ?_
              refine g_lcmp_eq hX d_Le_weigh_40 d_Le_weigh_41 (fun h => absurd h (by decide)) (fun c1 => ?_)
              refine g_goto hX d_Le_weigh_44 ?_
              refine g_fget 5 ?_
              refine g_fget 6 ?_
              exact k108 r0 d0 w3 (q1.tr hS3.Wg) (by rw [hS3.i]; exact q2) (by unfold tellS; rw [hso]; split <;> rfl) (by unfold tellS; rw [hso]; split <;> rfl)
            · refine g_aload1 hX d_Le_weigh_14 ?_
              refine g_iload4 hX d_Le_weigh_15 ?_
              refine g_iconst (v := nI 5) hX d_Le_weigh_17 rfl ?_
              refine g_callV (As := [_, _]) hX hF.1 d_Le_weigh_18 ml_Le_78 cf_Pr_has cv_Pr_has rfl rfl (c_hasT hPk hx) (rcv_obj hX hPk.lv rfl rfl) (by omega) (by omega) (by omega) (Nat.le_of_ble_eq_true rfl) ?_
              refine ret_k ?_
              refine g_ifB_eq hX d_Le_weigh_21 (fun h => absurd (by rw [hx3]; rfl) h) (fun c0 => ?_)
              refine g_aload1 hX d_Le_weigh_24 ?_
              refine g_iload4 hX d_Le_weigh_25 ?_
              refine g_iconst (v := nI 5) hX d_Le_weigh_27 rfl ?_
              refine g_aload0 hX d_Le_weigh_28 ?_
              refine g_getF hX d_Le_weigh_29 fl_Le_18 (lv_31 _) ?_
              refine g_aload0 hX d_Le_weigh_32 ?_
              refine g_getF hX d_Le_weigh_33 fl_Le_21 (lv_31 _) ?_
              refine g_callV (As := [_, _, _, _]) hX hF.1 d_Le_weigh_36 ml_Le_82 cf_Pr_ask cv_Pr_ask rfl rfl (c_askT hPk hx (hE.wg q1) hx3) (rcv_obj hX hPk.lv rfl rfl) (by omega) (by omega) (by omega) (Nat.le_of_ble_eq_true rfl) ?_
              rintro r w3 ⟨hA3, hS3⟩
              rw [hf] at hA3
              obtain ⟨rfl, -⟩ := hA3
              show G0 _ _ _ _ _ _ _ _
              refine g_lconst (v := lN 1) hX d_Le_weigh_39 rfl ?_
              refine g_lcmp_eq hX d_Le_weigh_40 d_Le_weigh_41 (fun c1 => ?_) (fun h => absurd rfl h)
              exact k47 w3 (q1.tr hS3.Wg) (by rw [hS3.i]; exact q2) (by unfold clSo; rw [hx3]; simp only [hf]; rfl)
  refine g_iconst (v := nI 0) hX d_Le_weigh_0 rfl ?_
  refine g_istore3 hX d_Le_weigh_1 rfl (by decide) ?_
  refine g_iconst (v := nI 0) hX d_Le_weigh_2 rfl ?_
  refine g_istore4 hX d_Le_weigh_3 rfl (by decide) ?_
  exact lp (q.length + 1) 0 0 d w (by omega) (WgF.rf m w) hc rfl rfl (Nat.zero_le _)
