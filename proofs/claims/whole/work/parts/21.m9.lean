def m_M_remember : MR := (⟨"SubgraphDeskModel", "remember", "(I)V"⟩, prog_14_method_12_code, 3, none)
theorem cf_M_remember : CF m_M_remember 1 := ⟨gd 1971 (by decide +kernel) rfl, gd 151 (by decide +kernel) rfl, by decide +kernel, by decide, by decide +kernel⟩
theorem cv_M_remember : CV m_M_remember := ⟨gd 1970 (by decide +kernel) rfl, gd 100 (by decide +kernel) rfl⟩
theorem d_M_remember_0 : Dc prog_14_method_12_code 0 (.aload_n 0) 1 1 := ⟨by decide +kernel, rfl⟩
theorem d_M_remember_1 : Dc prog_14_method_12_code 1 (.getfield 176) 3 4 := ⟨by decide +kernel, rfl⟩
theorem d_M_remember_4 : Dc prog_14_method_12_code 4 (.bipush 16) 2 6 := ⟨by decide +kernel, rfl⟩
theorem d_M_remember_6 : Dj prog_14_method_12_code 6 (.if_icmp .ne 71) 9 71 77 := ⟨by decide +kernel, rfl, rfl⟩
theorem d_M_remember_9 : Dc prog_14_method_12_code 9 (.iconst 0) 1 10 := ⟨by decide +kernel, rfl⟩
theorem d_M_remember_10 : Dc prog_14_method_12_code 10 (.istore_n 2) 1 11 := ⟨by decide +kernel, rfl⟩
theorem d_M_remember_11 : Dc prog_14_method_12_code 11 (.iload_n 2) 1 12 := ⟨by decide +kernel, rfl⟩
theorem d_M_remember_12 : Dc prog_14_method_12_code 12 (.sipush 1380) 3 15 := ⟨by decide +kernel, rfl⟩
theorem d_M_remember_15 : Dj prog_14_method_12_code 15 (.if_icmp .ge 24) 18 24 39 := ⟨by decide +kernel, rfl, rfl⟩
theorem d_M_remember_18 : Dc prog_14_method_12_code 18 (.aload_n 0) 1 19 := ⟨by decide +kernel, rfl⟩
theorem d_M_remember_19 : Dc prog_14_method_12_code 19 (.getfield 23) 3 22 := ⟨by decide +kernel, rfl⟩
theorem d_M_remember_22 : Dc prog_14_method_12_code 22 (.iload_n 2) 1 23 := ⟨by decide +kernel, rfl⟩
theorem d_M_remember_23 : Dc prog_14_method_12_code 23 (.aload_n 0) 1 24 := ⟨by decide +kernel, rfl⟩
theorem d_M_remember_24 : Dc prog_14_method_12_code 24 (.getfield 23) 3 27 := ⟨by decide +kernel, rfl⟩
theorem d_M_remember_27 : Dc prog_14_method_12_code 27 (.iload_n 2) 1 28 := ⟨by decide +kernel, rfl⟩
theorem d_M_remember_28 : Dc prog_14_method_12_code 28 (.bipush 92) 2 30 := ⟨by decide +kernel, rfl⟩
theorem d_M_remember_30 : Dc prog_14_method_12_code 30 (.iadd) 1 31 := ⟨by decide +kernel, rfl⟩
theorem d_M_remember_31 : Dc prog_14_method_12_code 31 (.iaload) 1 32 := ⟨by decide +kernel, rfl⟩
theorem d_M_remember_32 : Dc prog_14_method_12_code 32 (.iastore) 1 33 := ⟨by decide +kernel, rfl⟩
theorem d_M_remember_33 : Dc prog_14_method_12_code 33 (.iinc 2 1) 3 36 := ⟨by decide +kernel, rfl⟩
theorem d_M_remember_36 : Dj prog_14_method_12_code 36 (.goto (-25)) 39 (-25) 11 := ⟨by decide +kernel, rfl, rfl⟩
theorem d_M_remember_39 : Dc prog_14_method_12_code 39 (.iconst 0) 1 40 := ⟨by decide +kernel, rfl⟩
theorem d_M_remember_40 : Dc prog_14_method_12_code 40 (.istore_n 2) 1 41 := ⟨by decide +kernel, rfl⟩
theorem d_M_remember_41 : Dc prog_14_method_12_code 41 (.iload_n 2) 1 42 := ⟨by decide +kernel, rfl⟩
theorem d_M_remember_42 : Dc prog_14_method_12_code 42 (.bipush 15) 2 44 := ⟨by decide +kernel, rfl⟩
theorem d_M_remember_44 : Dj prog_14_method_12_code 44 (.if_icmp .ge 23) 47 23 67 := ⟨by decide +kernel, rfl, rfl⟩
theorem d_M_remember_47 : Dc prog_14_method_12_code 47 (.aload_n 0) 1 48 := ⟨by decide +kernel, rfl⟩
theorem d_M_remember_48 : Dc prog_14_method_12_code 48 (.getfield 26) 3 51 := ⟨by decide +kernel, rfl⟩
theorem d_M_remember_51 : Dc prog_14_method_12_code 51 (.iload_n 2) 1 52 := ⟨by decide +kernel, rfl⟩
theorem d_M_remember_52 : Dc prog_14_method_12_code 52 (.aload_n 0) 1 53 := ⟨by decide +kernel, rfl⟩
theorem d_M_remember_53 : Dc prog_14_method_12_code 53 (.getfield 26) 3 56 := ⟨by decide +kernel, rfl⟩
theorem d_M_remember_56 : Dc prog_14_method_12_code 56 (.iload_n 2) 1 57 := ⟨by decide +kernel, rfl⟩
theorem d_M_remember_57 : Dc prog_14_method_12_code 57 (.iconst 1) 1 58 := ⟨by decide +kernel, rfl⟩
theorem d_M_remember_58 : Dc prog_14_method_12_code 58 (.iadd) 1 59 := ⟨by decide +kernel, rfl⟩
theorem d_M_remember_59 : Dc prog_14_method_12_code 59 (.iaload) 1 60 := ⟨by decide +kernel, rfl⟩
theorem d_M_remember_60 : Dc prog_14_method_12_code 60 (.iastore) 1 61 := ⟨by decide +kernel, rfl⟩
theorem d_M_remember_61 : Dc prog_14_method_12_code 61 (.iinc 2 1) 3 64 := ⟨by decide +kernel, rfl⟩
theorem d_M_remember_64 : Dj prog_14_method_12_code 64 (.goto (-23)) 67 (-23) 41 := ⟨by decide +kernel, rfl, rfl⟩
theorem d_M_remember_67 : Dc prog_14_method_12_code 67 (.aload_n 0) 1 68 := ⟨by decide +kernel, rfl⟩
theorem d_M_remember_68 : Dc prog_14_method_12_code 68 (.dup) 1 69 := ⟨by decide +kernel, rfl⟩
theorem d_M_remember_69 : Dc prog_14_method_12_code 69 (.getfield 176) 3 72 := ⟨by decide +kernel, rfl⟩
theorem d_M_remember_72 : Dc prog_14_method_12_code 72 (.iconst 1) 1 73 := ⟨by decide +kernel, rfl⟩
theorem d_M_remember_73 : Dc prog_14_method_12_code 73 (.isub) 1 74 := ⟨by decide +kernel, rfl⟩
theorem d_M_remember_74 : Dc prog_14_method_12_code 74 (.putfield 176) 3 77 := ⟨by decide +kernel, rfl⟩
theorem d_M_remember_77 : Dc prog_14_method_12_code 77 (.aload_n 0) 1 78 := ⟨by decide +kernel, rfl⟩
theorem d_M_remember_78 : Dc prog_14_method_12_code 78 (.aload_n 0) 1 79 := ⟨by decide +kernel, rfl⟩
theorem d_M_remember_79 : Dc prog_14_method_12_code 79 (.getfield 176) 3 82 := ⟨by decide +kernel, rfl⟩
theorem d_M_remember_82 : Dc prog_14_method_12_code 82 (.invokevirtual 183) 3 85 := ⟨by decide +kernel, rfl⟩
theorem d_M_remember_85 : Dc prog_14_method_12_code 85 (.aload_n 0) 1 86 := ⟨by decide +kernel, rfl⟩
theorem d_M_remember_86 : Dc prog_14_method_12_code 86 (.getfield 26) 3 89 := ⟨by decide +kernel, rfl⟩
theorem d_M_remember_89 : Dc prog_14_method_12_code 89 (.aload_n 0) 1 90 := ⟨by decide +kernel, rfl⟩
theorem d_M_remember_90 : Dc prog_14_method_12_code 90 (.getfield 176) 3 93 := ⟨by decide +kernel, rfl⟩
theorem d_M_remember_93 : Dc prog_14_method_12_code 93 (.iload_n 1) 1 94 := ⟨by decide +kernel, rfl⟩
theorem d_M_remember_94 : Dc prog_14_method_12_code 94 (.iastore) 1 95 := ⟨by decide +kernel, rfl⟩
theorem d_M_remember_95 : Dc prog_14_method_12_code 95 (.aload_n 0) 1 96 := ⟨by decide +kernel, rfl⟩
theorem d_M_remember_96 : Dc prog_14_method_12_code 96 (.dup) 1 97 := ⟨by decide +kernel, rfl⟩
theorem d_M_remember_97 : Dc prog_14_method_12_code 97 (.getfield 176) 3 100 := ⟨by decide +kernel, rfl⟩
theorem d_M_remember_100 : Dc prog_14_method_12_code 100 (.iconst 1) 1 101 := ⟨by decide +kernel, rfl⟩
theorem d_M_remember_101 : Dc prog_14_method_12_code 101 (.iadd) 1 102 := ⟨by decide +kernel, rfl⟩
theorem d_M_remember_102 : Dc prog_14_method_12_code 102 (.putfield 176) 3 105 := ⟨by decide +kernel, rfl⟩
theorem d_M_remember_105 : Dc prog_14_method_12_code 105 (.return_) 1 106 := ⟨by decide +kernel, rfl⟩
theorem fl_M_26 : FL "SubgraphDeskModel" 26 12 7 true (.array .int) (3, 6) := ⟨R_M, F_M, 69, ty_M, rfl, rfl, in_M, tyok_M, nm_M, by decide, gd 1479 (by decide +kernel) rfl, rfl, rfl, rfl⟩
theorem ml_M_183 : Cond.methodLink "SubgraphDeskModel" 183 m_M_keepAll.1 ∈ lw_gd := gd 1972 (by decide +kernel) rfl
/-- graph and what can be undone lie so -/
def MGU (w : Mem) (g : GC) (u : List (Nat × Snap)) : Prop := MRow (rI w 91) g ∧ MLaws (rI w 91) (gL g) ∧ WG g ∧ MUndo (rI w 94) (rI w 95) (rI w 89 8) g u
/-- only the row and what can be undone changed -/
def FrA (w w2 : Mem) : Prop := (∀ a, a ≠ 91 → a ≠ 94 → a ≠ 95 → a ≠ 89 → rI w2 a = rI w a) ∧ (∀ k, k ≠ 8 → rI w2 89 k = rI w 89 k) ∧ w2.2 = w.2 ∧ ∀ k, 1472 ≤ k → rI w2 94 k = rI w 94 k
theorem FrA.rf (w : Mem) : FrA w w := ⟨fun _ _ _ _ _ => rfl, fun _ _ => rfl, rfl, fun _ _ => rfl⟩
theorem FrA.tr {a b c : Mem} (h : FrA a b) (h2 : FrA b c) : FrA a c := ⟨fun x h1 h3 h4 h5 => (h2.1 x h1 h3 h4 h5).trans (h.1 x h1 h3 h4 h5), fun k hk => (h2.2.1 k hk).trans (h.2.1 k hk), h2.2.2.1.trans h.2.2.1, fun k hk => (h2.2.2.2 k hk).trans (h.2.2.2 k hk)⟩
theorem FrA.I {w w2 : Mem} {o k : Nat} {x : Int32} (ho : o = 91 ∨ o = 95) (h : FrA w w2) : FrA w (sI w2 o k x) := ⟨fun a h1 h2 h3 h4 => by rw [rI_sI_ne _ _ _ (by omega)]; exact h.1 a h1 h2 h3 h4, fun k hk => by rw [rI_sI_ne _ _ _ (by omega)]; exact h.2.1 k hk, h.2.2.1, fun k hk => by rw [rI_sI_ne _ _ _ (by omega)]; exact h.2.2.2 k hk⟩
theorem FrA.A {w w2 : Mem} {o : Nat} {f : Nat → Int32} (ho : o = 91 ∨ o = 95) (h : FrA w w2) : FrA w (sA w2 o f) := ⟨fun a h1 h2 h3 h4 => by rw [rI_sA_ne _ _ (by omega)]; exact h.1 a h1 h2 h3 h4, fun k hk => by rw [rI_sA_ne _ _ (by omega)]; exact h.2.1 k hk, h.2.2.1, fun k hk => by rw [rI_sA_ne _ _ (by omega)]; exact h.2.2.2 k hk⟩
theorem FrA.A4 {w w2 : Mem} {f : Nat → Int32} (e : ∀ k, 1472 ≤ k → f k = rI w2 94 k) (h : FrA w w2) : FrA w (sA w2 94 f) := ⟨fun a h1 h2 h3 h4 => by rw [rI_sA_ne _ _ h2]; exact h.1 a h1 h2 h3 h4, fun k hk => by rw [rI_sA_ne _ _ (by decide)]; exact h.2.1 k hk, h.2.2.1, fun k hk => by rw [rI_sA, e k hk]; exact h.2.2.2 k hk⟩
theorem FrA.I9 {w w2 : Mem} {x : Int32} (h : FrA w w2) : FrA w (sI w2 89 8 x) := ⟨fun a h1 h2 h3 h4 => by rw [rI_sI_ne _ _ _ h4]; exact h.1 a h1 h2 h3 h4, fun k hk => by rw [rI_sI, upd_eq, if_neg hk]; exact h.2.1 k hk, h.2.2.1, fun k hk => by rw [rI_sI_ne _ _ _ (by decide)]; exact h.2.2.2 k hk⟩
theorem FrA.M {w w2 : Mem} (h : FrA w w2) : FrM w w2 := ⟨fun a ha => h.1 a (by omega) (by omega) (by omega) (by omega), fun a ha => by unfold rJ; rw [h.2.2.1], by rw [h.2.2.1]⟩
theorem MInv.act {w w2 : Mem} {s : SG} {g : GC} {u : List (Nat × Snap)} (h : MInv w s) (hf : FrA w w2) (hg : MGU w2 g u) : MInv w2 (wU (wG s g) u) := by
  obtain ⟨h1, h2, h3, h4, h5, h6, h7, h8, h9, h10, h11⟩ := h
  refine ⟨⟨hg.1, hg.2.1, hg.2.2.1⟩, hg.2.2.2, ?_, ?_, ?_, ?_, ?_, ?_, ?_, ?_, ?_⟩
  · rw [hf.1 98 (by decide) (by decide) (by decide) (by decide), hf.2.1 13 (by decide)]; exact h3
  · rw [hf.1 92 (by decide) (by decide) (by decide) (by decide), hf.1 93 (by decide) (by decide) (by decide) (by decide)]; exact h4
  · rw [hf.1 90 (by decide) (by decide) (by decide) (by decide)]; exact h5
  · rw [hf.2.1 1 (by decide)]; exact h6
  · rw [hf.2.1 18 (by decide)]; exact h7
  · rw [hf.2.1 11 (by decide)]; exact h8
  · rw [hf.2.1 64 (by decide)]; exact h9
  · rw [hf.1 127 (by decide) (by decide) (by decide) (by decide), hf.2.1 68 (by decide)]; exact h10
  · rw [hf.2.1 20 (by decide)]; exact h11
theorem unsnap_same (g : GC) : unsnap g (snapOf g) = g := rfl
theorem MRow.snap {f h : Nat → Int32} {g : GC} (hR : MRow f g) (hW : WG g) (e : ∀ i, i < 92 → h i = f (6 + i)) : MSnap h (gN g) (gV g) (snapOf g) := by
  have hn := hW.n
  have hv := hW.v
  have he := hW.el
  refine ⟨fun i hi => ?_, fun i hi => ?_, fun v hv2 => ?_, fun v hv2 => ?_, ?_, fun k hk => ?_⟩
  · rw [e _ (by omega)]; exact hR.t i hi
  · rw [e _ (by omega), show 6 + (3 + i) = 9 + i by omega]; exact hR.c i hi
  · rw [e _ (by omega), show 6 + (15 + v) = 21 + v by omega]; exact hR.y v hv2
  · rw [e _ (by omega), show 6 + (20 + v) = 26 + v by omega]; exact hR.k v hv2
  · rw [e _ (by omega)]; exact hR.e.1
  · have hk2 : k < (gE g).length := hk
    rw [e _ (by omega), show 6 + (26 + k) = 32 + k by omega]; exact hR.e.2 k hk
theorem MUndo.push {f so f2 so2 : Nat → Int32} {n : Int32} {g : GC} {u : List (Nat × Snap)} {j : Nat} (h : MUndo f so n g u) (hl : u.length < 16) (hj : j < 4) (hW : WG g) (hS : MSnap (fun i => f2 (92 * u.length + i)) (gN g) (gV g) (snapOf g)) (hso : so2 u.length = nI j) (e1 : ∀ i, i < 92 * u.length → f2 i = f i) (e2 : ∀ i, i < u.length → so2 i = so i) : MUndo f2 so2 (nI (u.length + 1)) g (u ++ [(j, snapOf g)]) := by
  obtain ⟨h1, h2, h3⟩ := h
  refine ⟨by rw [List.length_append]; simp; omega, by rw [List.length_append]; rfl, fun k q hq => ?_⟩
  rw [List.getElem?_append] at hq
  by_cases hk : k < u.length
  · rw [if_pos hk] at hq
    obtain ⟨g1, g2, g3, g4⟩ := h3 k q hq
    refine ⟨g1, by rw [e2 k hk]; exact g2, ?_, g4⟩
    obtain ⟨s1, s2, s3, s4, s5, s6⟩ := g3
    have el := WG.el g4
    have hn := hW.n
    have hv := hW.v
    have ee : ∀ i, i < 92 → f2 (92 * k + i) = f (92 * k + i) := fun i hi => e1 _ (by omega)
    refine ⟨fun i hi => ?_, fun i hi => ?_, fun v hv2 => ?_, fun v hv2 => ?_, ?_, fun m hm => ?_⟩
    · show f2 _ = _; rw [ee _ (by omega)]; exact s1 i hi
    · show f2 _ = _; rw [ee _ (by omega)]; exact s2 i hi
    · show f2 _ = _; rw [ee _ (by omega)]; exact s3 v hv2
    · show f2 _ = _; rw [ee _ (by omega)]; exact s4 v hv2
    · show f2 _ = _; rw [ee _ (by omega)]; exact s5
    · have hm2 : m < (gE (unsnap g q.2)).length := hm
      show f2 _ = _; rw [ee _ (by omega)]; exact s6 m hm
  · rw [if_neg hk] at hq
    have hk2 : k = u.length := by
      by_cases hz : k - u.length < 1
      · omega
      · rw [List.getElem?_eq_none (by simp; omega)] at hq
        cases hq
    subst hk2
    simp only [Nat.sub_self, List.getElem?_cons_zero, Option.some.injEq] at hq
    subst hq
    exact ⟨hj, hso, hS, hW⟩
theorem MUndo.shift {f so f2 so2 : Nat → Int32} {n : Int32} {g : GC} {u : List (Nat × Snap)} (h : MUndo f so n g u) (hl : u.length = 16) (hW : WG g) (e1 : ∀ i, i < 1380 → f2 i = f (92 + i)) (e2 : ∀ i, i < 15 → so2 i = so (1 + i)) : MUndo f2 so2 (nI 15) g u.tail := by
  obtain ⟨h1, h2, h3⟩ := h
  have ht : u.tail.length = 15 := by rw [List.length_tail]; omega
  refine ⟨by omega, by rw [ht], fun k q hq => ?_⟩
  have hk : k < 15 := by
    have := (List.getElem?_eq_some_iff.mp hq).1
    omega
  rw [List.getElem?_tail] at hq
  obtain ⟨g1, g2, g3, g4⟩ := h3 (k + 1) q hq
  refine ⟨g1, by rw [e2 k hk, Nat.add_comm]; exact g2, ?_, g4⟩
  obtain ⟨s1, s2, s3, s4, s5, s6⟩ := g3
  have el := WG.el g4
  have hn := hW.n
  have hv := hW.v
  have ee : ∀ i, i < 92 → f2 (92 * k + i) = f (92 * (k + 1) + i) := fun i hi => by
    rw [e1 _ (by omega)]; congr 1; omega
  refine ⟨fun i hi => ?_, fun i hi => ?_, fun v hv2 => ?_, fun v hv2 => ?_, ?_, fun m hm => ?_⟩
  · show f2 _ = _; rw [ee _ (by omega)]; exact s1 i hi
  · show f2 _ = _; rw [ee _ (by omega)]; exact s2 i hi
  · show f2 _ = _; rw [ee _ (by omega)]; exact s3 v hv2
  · show f2 _ = _; rw [ee _ (by omega)]; exact s4 v hv2
  · show f2 _ = _; rw [ee _ (by omega)]; exact s5
  · have hm2 : m < (gE (unsnap g q.2)).length := hm
    show f2 _ = _; rw [ee _ (by omega)]; exact s6 m hm
theorem MUndo.n {f so : Nat → Int32} {n : Int32} {g : GC} {u : List (Nat × Snap)} (h : MUndo f so n g u) : n = nI u.length := h.2.1
theorem MUndo.len {f so : Nat → Int32} {n : Int32} {g : GC} {u : List (Nat × Snap)} (h : MUndo f so n g u) : u.length ≤ 16 := h.1
theorem c_M_remember {E : EV} {w : Mem} {g : GC} {u : List (Nat × Snap)} {j : Nat} (hR : MRow (rI w 91) g) (hW : WG g) (hU : MUndo (rI w 94) (rI w 95) (rI w 89 8) g u) (hj : j < 4) : T E m_M_remember 1 0 0 [.ref 89, .int (nI j)] w (fun r w2 => r = none ∧ MUndo (rI w2 94) (rI w2 95) (rI w2 89 8) g (pushU u (j, snapOf g)) ∧ rI w2 91 = rI w 91 ∧ FrA w w2) := by
  refine T_of (L := [.ref 89, .int (nI j), un]) cf_M_remember rfl (Nat.le_of_ble_eq_true rfl) (fun X hX hF => ?_)
  have hul := hU.len
  by_cases hl : u.length < 16
  · refine g_aload0 hX d_M_remember_0 ?_
    refine g_getI hX d_M_remember_1 fl_M_176 (lv_89 _) ?_
    refine g_topi hU.n ?_
    refine g_bipush (v := nI 16) hX d_M_remember_4 rfl ?_
    refine g_icmpN_ne hX d_M_remember_6 (by omega) (by omega) (fun e6 => ?_) (fun h => absurd h (by omega))
    refine g_aload0 hX d_M_remember_77 ?_
    refine g_aload0 hX d_M_remember_78 ?_
    refine g_getI hX d_M_remember_79 fl_M_176 (lv_89 _) ?_
    refine g_topi hU.n ?_
    refine g_callV (As := [_]) hX hF.1 d_M_remember_82 ml_M_183 cf_M_keepAll cv_M_keepAll rfl rfl (c_M_keepAll (by omega)) (rcv_obj hX (lv_89 _) rfl rfl) (by omega) (by omega) (by omega) (Nat.le_of_ble_eq_true rfl) ?_
    refine ret_k ?_
    refine g_aload0 hX d_M_remember_85 ?_
    refine g_getF hX d_M_remember_86 fl_M_26 (lv_89 _) ?_
    refine g_aload0 hX d_M_remember_89 ?_
    refine g_getI hX d_M_remember_90 fl_M_176 (lv_89 _) ?_
    refine g_topi (show rI w 89 8 = _ from hU.n) ?_
    refine g_iload1 hX d_M_remember_93 ?_
    refine g_iast hX d_M_remember_94 (lv_95 _) rfl (by omega) ?_
    refine g_aload0 hX d_M_remember_95 ?_
    refine g_dup hX d_M_remember_96 rfl ?_
    refine g_getI hX d_M_remember_97 fl_M_176 (lv_89 _) ?_
    refine g_topi (show rI w 89 8 = _ from hU.n) ?_
    refine g_iconst (v := nI 1) hX d_M_remember_100 rfl ?_
    refine g_iaddN hX d_M_remember_101 ?_
    refine g_putI hX d_M_remember_102 fl_M_176 (lv_89 _) ?_
    refine g_vret hX hF d_M_remember_105 (by omega) (by omega) ?_
    refine ⟨rfl, ?_, rfl, (by repeat (first | exact FrA.rf _ | refine FrA.I (by decide) ?_ | refine FrA.A (by decide) ?_ | refine FrA.A4 (fun k hk => by unfold va_cpy; rw [if_neg (by omega)]) ?_ | refine FrA.I9 ?_))⟩
    unfold pushU
    rw [if_neg (by omega)]
    refine hU.push hl hj hW (hR.snap hW (fun i hi => ?_)) (by show upd _ _ _ _ = _; rw [upd_eq, if_pos rfl]) (fun i hi => ?_) (fun i hi => ?_)
    · show va_cpy (rI w 91) (rI w 94) 6 (92 * u.length) 92 (92 * u.length + i) = _
      unfold va_cpy
      rw [if_pos (by omega)]
      congr 1
      omega
    · show va_cpy (rI w 91) (rI w 94) 6 (92 * u.length) 92 i = _
      unfold va_cpy
      rw [if_neg (by omega)]
    · show upd (rI w 95) u.length (nI j) i = _
      rw [upd_eq, if_neg (by omega)]
  · have hl : u.length = 16 := by omega
    have kC : G0 E X 0 0 67 [.ref 89, .int (nI j), .int (nI 15)] [] (sA (sA w 94 (va_cpy (rI w 94) (rI w 94) 92 0 1380)) 95 (va_cpy (rI w 95) (rI w 95) 1 0 15)) := by
      refine g_aload0 hX d_M_remember_67 ?_
      refine g_dup hX d_M_remember_68 rfl ?_
      refine g_getI hX d_M_remember_69 fl_M_176 (lv_89 _) ?_
      refine g_topi (show rI w 89 8 = nI 16 by rw [hU.n, hl]) ?_
      refine g_iconst (v := nI 1) hX d_M_remember_72 rfl ?_
      refine g_isubN hX d_M_remember_73 (by decide) ?_
      refine g_putI hX d_M_remember_74 fl_M_176 (lv_89 _) ?_
      refine g_aload0 hX d_M_remember_77 ?_
      refine g_aload0 hX d_M_remember_78 ?_
      refine g_getI hX d_M_remember_79 fl_M_176 (lv_89 _) ?_
      refine g_topi (show _ = nI 15 from rfl) ?_
      refine g_callV (As := [_]) hX hF.1 d_M_remember_82 ml_M_183 cf_M_keepAll cv_M_keepAll rfl rfl (c_M_keepAll (by omega)) (rcv_obj hX (lv_89 _) rfl rfl) (by omega) (by omega) (by omega) (Nat.le_of_ble_eq_true rfl) ?_
      refine ret_k ?_
      refine g_aload0 hX d_M_remember_85 ?_
      refine g_getF hX d_M_remember_86 fl_M_26 (lv_89 _) ?_
      refine g_aload0 hX d_M_remember_89 ?_
      refine g_getI hX d_M_remember_90 fl_M_176 (lv_89 _) ?_
      refine g_topi (show _ = nI 15 from rfl) ?_
      refine g_iload1 hX d_M_remember_93 ?_
      refine g_iast hX d_M_remember_94 (lv_95 _) rfl (by decide) ?_
      refine g_aload0 hX d_M_remember_95 ?_
      refine g_dup hX d_M_remember_96 rfl ?_
      refine g_getI hX d_M_remember_97 fl_M_176 (lv_89 _) ?_
      refine g_topi (show _ = nI 15 from rfl) ?_
      refine g_iconst (v := nI 1) hX d_M_remember_100 rfl ?_
      refine g_iaddN hX d_M_remember_101 ?_
      refine g_putI hX d_M_remember_102 fl_M_176 (lv_89 _) ?_
      refine g_vret hX hF d_M_remember_105 (by omega) (by omega) ?_
      refine ⟨rfl, ?_, rfl, (by repeat (first | exact FrA.rf _ | refine FrA.I (by decide) ?_ | refine FrA.A (by decide) ?_ | refine FrA.A4 (fun k hk => by unfold va_cpy; rw [if_neg (by omega)]) ?_ | refine FrA.I9 ?_))⟩
      unfold pushU
      rw [if_pos hl]
      have hS := hU.shift (f2 := rI (sI (sA (sA w 94 (va_cpy (rI w 94) (rI w 94) 92 0 1380)) 95 (va_cpy (rI w 95) (rI w 95) 1 0 15)) 89 8 (nI 15)) 94) (so2 := rI (sI (sA (sA w 94 (va_cpy (rI w 94) (rI w 94) 92 0 1380)) 95 (va_cpy (rI w 95) (rI w 95) 1 0 15)) 89 8 (nI 15)) 95) hl hW (fun i hi => ?_) (fun i hi => ?_)
      · have ht : u.tail.length = 15 := by rw [List.length_tail]; omega
        have hp := hS.push (f2 := rI (sA (sI (sA (sA w 94 (va_cpy (rI w 94) (rI w 94) 92 0 1380)) 95 (va_cpy (rI w 95) (rI w 95) 1 0 15)) 89 8 (nI 15)) 94 (va_cpy (rI (sI (sA (sA w 94 (va_cpy (rI w 94) (rI w 94) 92 0 1380)) 95 (va_cpy (rI w 95) (rI w 95) 1 0 15)) 89 8 (nI 15)) 91) (rI (sI (sA (sA w 94 (va_cpy (rI w 94) (rI w 94) 92 0 1380)) 95 (va_cpy (rI w 95) (rI w 95) 1 0 15)) 89 8 (nI 15)) 94) 6 (92 * 15) 92)) 94) (so2 := upd (rI (sI (sA (sA w 94 (va_cpy (rI w 94) (rI w 94) 92 0 1380)) 95 (va_cpy (rI w 95) (rI w 95) 1 0 15)) 89 8 (nI 15)) 95) 15 (nI j)) (by omega) hj hW (hR.snap hW (fun i hi => ?_)) (by rw [ht, upd_eq, if_pos rfl]) (fun i hi => ?_) (fun i hi => ?_)
        · rw [ht] at hp
          exact hp
        · rw [ht]
          show va_cpy (rI w 91) _ 6 (92 * 15) 92 (92 * 15 + i) = rI w 91 (6 + i)
          unfold va_cpy
          rw [if_pos (by omega), show 92 * 15 + i - 92 * 15 = i by omega]
        · rw [ht] at hi
          show va_cpy (rI w 91) _ 6 (92 * 15) 92 i = _
          rw [va_cpy, if_neg (by omega)]
        · rw [ht] at hi
          rw [upd_eq, if_neg (by omega)]
      · show va_cpy (rI w 94) (rI w 94) 92 0 1380 i = _
        unfold va_cpy
        rw [if_pos (by omega)]
        congr 1
      · show va_cpy (rI w 95) (rI w 95) 1 0 15 i = _
        unfold va_cpy
        rw [if_pos (by omega)]
        congr 1
    have lpB : ∀ (fuel : Nat) (i : Nat), 15 - i < fuel → (i ≤ 15) → G0 E X 0 0 41 [.ref 89, .int (nI j), .int (nI i)] [] (sA (sA w 94 (va_cpy (rI w 94) (rI w 94) 92 0 1380)) 95 (va_cpy (rI w 95) (rI w 95) 1 0 i)) := by
      intro fuel
      induction fuel with
      | zero => intro i q0; exact absurd q0 (Nat.not_lt_zero _)
      | succ fuel ih =>
        intro i q0 q1
        refine g_iload2 hX d_M_remember_41 ?_
        refine g_bipush (v := nI 15) hX d_M_remember_42 rfl ?_
        refine g_icmpN_ge hX d_M_remember_44 (by omega) (by omega) (fun c0 => ?_) (fun c0 => ?_)
        · obtain rfl : i = 15 := by omega
          exact kC
        · refine g_aload0 hX d_M_remember_47 ?_
          refine g_getF hX d_M_remember_48 fl_M_26 (lv_89 _) ?_
          refine g_iload2 hX d_M_remember_51 ?_
          refine g_aload0 hX d_M_remember_52 ?_
          refine g_getF hX d_M_remember_53 fl_M_26 (lv_89 _) ?_
          refine g_iload2 hX d_M_remember_56 ?_
          refine g_iconst (v := nI 1) hX d_M_remember_57 rfl ?_
          refine g_iaddN hX d_M_remember_58 ?_
          refine g_iald hX d_M_remember_59 (lv_95 _) rfl (by omega) ?_
          refine g_topi (show rI (sA (sA w 94 (va_cpy (rI w 94) (rI w 94) 92 0 1380)) 95 (va_cpy (rI w 95) (rI w 95) 1 0 i)) 95 (i + 1) = rI w 95 (1 + i) by rw [rI_sA]; unfold va_cpy; rw [if_neg (by omega), Nat.add_comm]) ?_
          refine g_iast hX d_M_remember_60 (lv_95 _) rfl (by omega) ?_
          refine g_iincN2 hX d_M_remember_61 rfl (by decide) ?_
          refine g_goto hX d_M_remember_64 ?_
          refine g_mem (sI_sA _ _ _ _ _) ?_
          refine g_mem (by rw [show upd (va_cpy (rI w 95) (rI w 95) 1 0 i) i (rI w 95 (1 + i)) = va_cpy (rI w 95) (rI w 95) 1 0 (i + 1) by have := cpy_s (rI w 95) (rI w 95) 1 0 i; rw [Nat.zero_add] at this; exact this]) ?_
          exact ih (i + 1) (by omega) (by omega)
    have kA : ∀ i, i = 1380 → G0 E X 0 0 39 [.ref 89, .int (nI j), .int (nI i)] [] (sA w 94 (va_cpy (rI w 94) (rI w 94) 92 0 i)) := by
      rintro i rfl
      refine g_iconst (v := nI 0) hX d_M_remember_39 rfl ?_
      refine g_istore2 hX d_M_remember_40 rfl (by decide) ?_
      refine g_mem (show (sA w 94 (va_cpy (rI w 94) (rI w 94) 92 0 1380)) = sA (sA w 94 (va_cpy (rI w 94) (rI w 94) 92 0 1380)) 95 (va_cpy (rI w 95) (rI w 95) 1 0 0) by rw [cpy_0]; exact (sA_self (sA w 94 (va_cpy (rI w 94) (rI w 94) 92 0 1380)) 95).symm) ?_
      exact lpB 16 0 (by omega) (by omega)
    have lpA : ∀ (fuel : Nat) (i : Nat), 1380 - i < fuel → (i ≤ 1380) → G0 E X 0 0 11 [.ref 89, .int (nI j), .int (nI i)] [] (sA w 94 (va_cpy (rI w 94) (rI w 94) 92 0 i)) := by
      intro fuel
      induction fuel with
      | zero => intro i q0; exact absurd q0 (Nat.not_lt_zero _)
      | succ fuel ih =>
        intro i q0 q1
        refine g_iload2 hX d_M_remember_11 ?_
        refine g_sipush (v := nI 1380) hX d_M_remember_12 rfl ?_
        refine g_icmpN_ge hX d_M_remember_15 (by omega) (by omega) (fun c0 => ?_) (fun c0 => ?_)
        · exact kA i (by omega)
        · refine g_aload0 hX d_M_remember_18 ?_
          refine g_getF hX d_M_remember_19 fl_M_23 (lv_89 _) ?_
          refine g_iload2 hX d_M_remember_22 ?_
          refine g_aload0 hX d_M_remember_23 ?_
          refine g_getF hX d_M_remember_24 fl_M_23 (lv_89 _) ?_
          refine g_iload2 hX d_M_remember_27 ?_
          refine g_bipush (v := nI 92) hX d_M_remember_28 rfl ?_
          refine g_iaddN hX d_M_remember_30 ?_
          refine g_iald hX d_M_remember_31 (lv_94 _) rfl (by omega) ?_
          refine g_topi (show rI (sA w 94 (va_cpy (rI w 94) (rI w 94) 92 0 i)) 94 (i + 92) = rI w 94 (92 + i) by rw [rI_sA]; unfold va_cpy; rw [if_neg (by omega), Nat.add_comm]) ?_
          refine g_iast hX d_M_remember_32 (lv_94 _) rfl (by omega) ?_
          refine g_iincN2 hX d_M_remember_33 rfl (by decide) ?_
          refine g_goto hX d_M_remember_36 ?_
          refine g_mem (sI_sA _ _ _ _ _) ?_
          refine g_mem (by rw [show upd (va_cpy (rI w 94) (rI w 94) 92 0 i) i (rI w 94 (92 + i)) = va_cpy (rI w 94) (rI w 94) 92 0 (i + 1) by have := cpy_s (rI w 94) (rI w 94) 92 0 i; rw [Nat.zero_add] at this; exact this]) ?_
          exact ih (i + 1) (by omega) (by omega)
    refine g_aload0 hX d_M_remember_0 ?_
    refine g_getI hX d_M_remember_1 fl_M_176 (lv_89 _) ?_
    refine g_topi (show rI w 89 8 = nI 16 by rw [hU.n, hl]) ?_
    refine g_bipush (v := nI 16) hX d_M_remember_4 rfl ?_
    refine g_icmpN_ne hX d_M_remember_6 (by omega) (by omega) (fun h => absurd (by omega) h) (fun c0 => ?_)
    refine g_iconst (v := nI 0) hX d_M_remember_9 rfl ?_
    refine g_istore2 hX d_M_remember_10 rfl (by decide) ?_
    refine g_mem (show w = sA w 94 (va_cpy (rI w 94) (rI w 94) 92 0 0) by rw [cpy_0, sA_self]) ?_
    exact lpA 1381 0 (by omega) (by omega)
