def m_M_run : MR := (⟨"SubgraphDeskModel", "run", "(I)I"⟩, prog_14_method_127_code, 5, (some .int))
theorem cf_M_run : CF m_M_run 1 := ⟨gd 2200 (by decide +kernel) rfl, gd 151 (by decide +kernel) rfl, by decide +kernel, by decide, by decide +kernel⟩
theorem cv_M_run : CV m_M_run := ⟨gd 2199 (by decide +kernel) rfl, gd 132 (by decide +kernel) rfl⟩
theorem d_M_run_0 : Dc prog_14_method_127_code 0 (.aload_n 0) 1 1 := ⟨by decide +kernel, rfl⟩
theorem d_M_run_1 : Dc prog_14_method_127_code 1 (.getfield 96) 3 4 := ⟨by decide +kernel, rfl⟩
theorem d_M_run_4 : Dc prog_14_method_127_code 4 (.iconst 1) 1 5 := ⟨by decide +kernel, rfl⟩
theorem d_M_run_5 : Dc prog_14_method_127_code 5 (.aload_n 0) 1 6 := ⟨by decide +kernel, rfl⟩
theorem d_M_run_6 : Dc prog_14_method_127_code 6 (.getfield 13) 3 9 := ⟨by decide +kernel, rfl⟩
theorem d_M_run_9 : Dc prog_14_method_127_code 9 (.bipush 6) 2 11 := ⟨by decide +kernel, rfl⟩
theorem d_M_run_11 : Dc prog_14_method_127_code 11 (.iaload) 1 12 := ⟨by decide +kernel, rfl⟩
theorem d_M_run_12 : Dc prog_14_method_127_code 12 (.i2l) 1 13 := ⟨by decide +kernel, rfl⟩
theorem d_M_run_13 : Dc prog_14_method_127_code 13 (.lastore) 1 14 := ⟨by decide +kernel, rfl⟩
theorem d_M_run_14 : Dc prog_14_method_127_code 14 (.aload_n 0) 1 15 := ⟨by decide +kernel, rfl⟩
theorem d_M_run_15 : Dc prog_14_method_127_code 15 (.getfield 96) 3 18 := ⟨by decide +kernel, rfl⟩
theorem d_M_run_18 : Dc prog_14_method_127_code 18 (.iconst 2) 1 19 := ⟨by decide +kernel, rfl⟩
theorem d_M_run_19 : Dc prog_14_method_127_code 19 (.aload_n 0) 1 20 := ⟨by decide +kernel, rfl⟩
theorem d_M_run_20 : Dc prog_14_method_127_code 20 (.getfield 574) 3 23 := ⟨by decide +kernel, rfl⟩
theorem d_M_run_23 : Dc prog_14_method_127_code 23 (.i2l) 1 24 := ⟨by decide +kernel, rfl⟩
theorem d_M_run_24 : Dc prog_14_method_127_code 24 (.lastore) 1 25 := ⟨by decide +kernel, rfl⟩
theorem d_M_run_25 : Dc prog_14_method_127_code 25 (.aload_n 0) 1 26 := ⟨by decide +kernel, rfl⟩
theorem d_M_run_26 : Dc prog_14_method_127_code 26 (.getfield 96) 3 29 := ⟨by decide +kernel, rfl⟩
theorem d_M_run_29 : Dc prog_14_method_127_code 29 (.iconst 3) 1 30 := ⟨by decide +kernel, rfl⟩
theorem d_M_run_30 : Dc prog_14_method_127_code 30 (.aload_n 0) 1 31 := ⟨by decide +kernel, rfl⟩
theorem d_M_run_31 : Dc prog_14_method_127_code 31 (.getfield 577) 3 34 := ⟨by decide +kernel, rfl⟩
theorem d_M_run_34 : Dc prog_14_method_127_code 34 (.i2l) 1 35 := ⟨by decide +kernel, rfl⟩
theorem d_M_run_35 : Dc prog_14_method_127_code 35 (.lastore) 1 36 := ⟨by decide +kernel, rfl⟩
theorem d_M_run_36 : Dc prog_14_method_127_code 36 (.aload_n 0) 1 37 := ⟨by decide +kernel, rfl⟩
theorem d_M_run_37 : Dc prog_14_method_127_code 37 (.getfield 96) 3 40 := ⟨by decide +kernel, rfl⟩
theorem d_M_run_40 : Dc prog_14_method_127_code 40 (.iconst 4) 1 41 := ⟨by decide +kernel, rfl⟩
theorem d_M_run_41 : Dc prog_14_method_127_code 41 (.aload_n 0) 1 42 := ⟨by decide +kernel, rfl⟩
theorem d_M_run_42 : Dc prog_14_method_127_code 42 (.getfield 13) 3 45 := ⟨by decide +kernel, rfl⟩
theorem d_M_run_45 : Dc prog_14_method_127_code 45 (.bipush 31) 2 47 := ⟨by decide +kernel, rfl⟩
theorem d_M_run_47 : Dc prog_14_method_127_code 47 (.iaload) 1 48 := ⟨by decide +kernel, rfl⟩
theorem d_M_run_48 : Dc prog_14_method_127_code 48 (.i2l) 1 49 := ⟨by decide +kernel, rfl⟩
theorem d_M_run_49 : Dc prog_14_method_127_code 49 (.lastore) 1 50 := ⟨by decide +kernel, rfl⟩
theorem d_M_run_50 : Dc prog_14_method_127_code 50 (.aload_n 0) 1 51 := ⟨by decide +kernel, rfl⟩
theorem d_M_run_51 : Dc prog_14_method_127_code 51 (.getfield 96) 3 54 := ⟨by decide +kernel, rfl⟩
theorem d_M_run_54 : Dc prog_14_method_127_code 54 (.iconst 5) 1 55 := ⟨by decide +kernel, rfl⟩
theorem d_M_run_55 : Dc prog_14_method_127_code 55 (.aload_n 0) 1 56 := ⟨by decide +kernel, rfl⟩
theorem d_M_run_56 : Dc prog_14_method_127_code 56 (.invokevirtual 480) 3 59 := ⟨by decide +kernel, rfl⟩
theorem d_M_run_59 : Dc prog_14_method_127_code 59 (.i2l) 1 60 := ⟨by decide +kernel, rfl⟩
theorem d_M_run_60 : Dc prog_14_method_127_code 60 (.lastore) 1 61 := ⟨by decide +kernel, rfl⟩
theorem d_M_run_61 : Dc prog_14_method_127_code 61 (.aload_n 0) 1 62 := ⟨by decide +kernel, rfl⟩
theorem d_M_run_62 : Dc prog_14_method_127_code 62 (.iconst 0) 1 63 := ⟨by decide +kernel, rfl⟩
theorem d_M_run_63 : Dc prog_14_method_127_code 63 (.putfield 571) 3 66 := ⟨by decide +kernel, rfl⟩
theorem d_M_run_66 : Dc prog_14_method_127_code 66 (.aload_n 0) 1 67 := ⟨by decide +kernel, rfl⟩
theorem d_M_run_67 : Dc prog_14_method_127_code 67 (.getfield 158) 3 70 := ⟨by decide +kernel, rfl⟩
theorem d_M_run_70 : Dc prog_14_method_127_code 70 (.iload_n 1) 1 71 := ⟨by decide +kernel, rfl⟩
theorem d_M_run_71 : Dc prog_14_method_127_code 71 (.iconst 5) 1 72 := ⟨by decide +kernel, rfl⟩
theorem d_M_run_72 : Dc prog_14_method_127_code 72 (.iadd) 1 73 := ⟨by decide +kernel, rfl⟩
theorem d_M_run_73 : Dc prog_14_method_127_code 73 (.iaload) 1 74 := ⟨by decide +kernel, rfl⟩
theorem d_M_run_74 : Dc prog_14_method_127_code 74 (.aload_n 0) 1 75 := ⟨by decide +kernel, rfl⟩
theorem d_M_run_75 : Dc prog_14_method_127_code 75 (.getfield 158) 3 78 := ⟨by decide +kernel, rfl⟩
theorem d_M_run_78 : Dc prog_14_method_127_code 78 (.iload_n 1) 1 79 := ⟨by decide +kernel, rfl⟩
theorem d_M_run_79 : Dc prog_14_method_127_code 79 (.bipush 6) 2 81 := ⟨by decide +kernel, rfl⟩
theorem d_M_run_81 : Dc prog_14_method_127_code 81 (.iadd) 1 82 := ⟨by decide +kernel, rfl⟩
theorem d_M_run_82 : Dc prog_14_method_127_code 82 (.iaload) 1 83 := ⟨by decide +kernel, rfl⟩
theorem d_M_run_83 : Dj prog_14_method_127_code 83 (.if_icmp .ge 24) 86 24 107 := ⟨by decide +kernel, rfl, rfl⟩
theorem d_M_run_86 : Dc prog_14_method_127_code 86 (.aload_n 0) 1 87 := ⟨by decide +kernel, rfl⟩
theorem d_M_run_87 : Dc prog_14_method_127_code 87 (.iload_n 1) 1 88 := ⟨by decide +kernel, rfl⟩
theorem d_M_run_88 : Dc prog_14_method_127_code 88 (.iconst 5) 1 89 := ⟨by decide +kernel, rfl⟩
theorem d_M_run_89 : Dc prog_14_method_127_code 89 (.iadd) 1 90 := ⟨by decide +kernel, rfl⟩
theorem d_M_run_90 : Dc prog_14_method_127_code 90 (.invokevirtual 580) 3 93 := ⟨by decide +kernel, rfl⟩
theorem d_M_run_93 : Dc prog_14_method_127_code 93 (.istore_n 2) 1 94 := ⟨by decide +kernel, rfl⟩
theorem d_M_run_94 : Dc prog_14_method_127_code 94 (.aload_n 0) 1 95 := ⟨by decide +kernel, rfl⟩
theorem d_M_run_95 : Dc prog_14_method_127_code 95 (.getfield 571) 3 98 := ⟨by decide +kernel, rfl⟩
theorem d_M_run_98 : Dj prog_14_method_127_code 98 (.ifCond .ne 7) 101 7 105 := ⟨by decide +kernel, rfl, rfl⟩
theorem d_M_run_101 : Dc prog_14_method_127_code 101 (.iload_n 2) 1 102 := ⟨by decide +kernel, rfl⟩
theorem d_M_run_102 : Dj prog_14_method_127_code 102 (.ifCond .ne 5) 105 5 107 := ⟨by decide +kernel, rfl, rfl⟩
theorem d_M_run_105 : Dc prog_14_method_127_code 105 (.iconst 0) 1 106 := ⟨by decide +kernel, rfl⟩
theorem d_M_run_106 : Dc prog_14_method_127_code 106 (.ireturn) 1 107 := ⟨by decide +kernel, rfl⟩
theorem d_M_run_107 : Dc prog_14_method_127_code 107 (.aload_n 0) 1 108 := ⟨by decide +kernel, rfl⟩
theorem d_M_run_108 : Dc prog_14_method_127_code 108 (.iload_n 1) 1 109 := ⟨by decide +kernel, rfl⟩
theorem d_M_run_109 : Dc prog_14_method_127_code 109 (.iconst 1) 1 110 := ⟨by decide +kernel, rfl⟩
theorem d_M_run_110 : Dc prog_14_method_127_code 110 (.iadd) 1 111 := ⟨by decide +kernel, rfl⟩
theorem d_M_run_111 : Dc prog_14_method_127_code 111 (.invokevirtual 580) 3 114 := ⟨by decide +kernel, rfl⟩
theorem d_M_run_114 : Dc prog_14_method_127_code 114 (.istore_n 2) 1 115 := ⟨by decide +kernel, rfl⟩
theorem d_M_run_115 : Dc prog_14_method_127_code 115 (.aload_n 0) 1 116 := ⟨by decide +kernel, rfl⟩
theorem d_M_run_116 : Dc prog_14_method_127_code 116 (.iload_n 1) 1 117 := ⟨by decide +kernel, rfl⟩
theorem d_M_run_117 : Dc prog_14_method_127_code 117 (.iconst 3) 1 118 := ⟨by decide +kernel, rfl⟩
theorem d_M_run_118 : Dc prog_14_method_127_code 118 (.iadd) 1 119 := ⟨by decide +kernel, rfl⟩
theorem d_M_run_119 : Dc prog_14_method_127_code 119 (.invokevirtual 580) 3 122 := ⟨by decide +kernel, rfl⟩
theorem d_M_run_122 : Dc prog_14_method_127_code 122 (.istore_n 3) 1 123 := ⟨by decide +kernel, rfl⟩
theorem d_M_run_123 : Dc prog_14_method_127_code 123 (.aload_n 0) 1 124 := ⟨by decide +kernel, rfl⟩
theorem d_M_run_124 : Dc prog_14_method_127_code 124 (.getfield 571) 3 127 := ⟨by decide +kernel, rfl⟩
theorem d_M_run_127 : Dj prog_14_method_127_code 127 (.ifCond .eq 6) 130 6 133 := ⟨by decide +kernel, rfl, rfl⟩
theorem d_M_run_130 : Dc prog_14_method_127_code 130 (.bipush (-3)) 2 132 := ⟨by decide +kernel, rfl⟩
theorem d_M_run_132 : Dc prog_14_method_127_code 132 (.ireturn) 1 133 := ⟨by decide +kernel, rfl⟩
theorem d_M_run_133 : Dc prog_14_method_127_code 133 (.aload_n 0) 1 134 := ⟨by decide +kernel, rfl⟩
theorem d_M_run_134 : Dc prog_14_method_127_code 134 (.aload_n 0) 1 135 := ⟨by decide +kernel, rfl⟩
theorem d_M_run_135 : Dc prog_14_method_127_code 135 (.getfield 158) 3 138 := ⟨by decide +kernel, rfl⟩
theorem d_M_run_138 : Dc prog_14_method_127_code 138 (.iload_n 1) 1 139 := ⟨by decide +kernel, rfl⟩
theorem d_M_run_139 : Dc prog_14_method_127_code 139 (.iaload) 1 140 := ⟨by decide +kernel, rfl⟩
theorem d_M_run_140 : Dc prog_14_method_127_code 140 (.iload_n 2) 1 141 := ⟨by decide +kernel, rfl⟩
theorem d_M_run_141 : Dc prog_14_method_127_code 141 (.iload_n 3) 1 142 := ⟨by decide +kernel, rfl⟩
theorem d_M_run_142 : Dc prog_14_method_127_code 142 (.invokevirtual 583) 3 145 := ⟨by decide +kernel, rfl⟩
theorem d_M_run_145 : Dc prog_14_method_127_code 145 (.istore 4) 2 147 := ⟨by decide +kernel, rfl⟩
theorem d_M_run_147 : Dc prog_14_method_127_code 147 (.iload 4) 2 149 := ⟨by decide +kernel, rfl⟩
theorem d_M_run_149 : Dj prog_14_method_127_code 149 (.ifCond .ge 6) 152 6 155 := ⟨by decide +kernel, rfl, rfl⟩
theorem d_M_run_152 : Dc prog_14_method_127_code 152 (.bipush (-3)) 2 154 := ⟨by decide +kernel, rfl⟩
theorem d_M_run_154 : Dc prog_14_method_127_code 154 (.ireturn) 1 155 := ⟨by decide +kernel, rfl⟩
theorem d_M_run_155 : Dc prog_14_method_127_code 155 (.aload_n 0) 1 156 := ⟨by decide +kernel, rfl⟩
theorem d_M_run_156 : Dc prog_14_method_127_code 156 (.iload 4) 2 158 := ⟨by decide +kernel, rfl⟩
theorem d_M_run_158 : Dc prog_14_method_127_code 158 (.putfield 577) 3 161 := ⟨by decide +kernel, rfl⟩
theorem d_M_run_161 : Dc prog_14_method_127_code 161 (.aload_n 0) 1 162 := ⟨by decide +kernel, rfl⟩
theorem d_M_run_162 : Dc prog_14_method_127_code 162 (.dup) 1 163 := ⟨by decide +kernel, rfl⟩
theorem d_M_run_163 : Dc prog_14_method_127_code 163 (.getfield 574) 3 166 := ⟨by decide +kernel, rfl⟩
theorem d_M_run_166 : Dc prog_14_method_127_code 166 (.iconst 1) 1 167 := ⟨by decide +kernel, rfl⟩
theorem d_M_run_167 : Dc prog_14_method_127_code 167 (.iadd) 1 168 := ⟨by decide +kernel, rfl⟩
theorem d_M_run_168 : Dc prog_14_method_127_code 168 (.putfield 574) 3 171 := ⟨by decide +kernel, rfl⟩
theorem d_M_run_171 : Dc prog_14_method_127_code 171 (.iconst 0) 1 172 := ⟨by decide +kernel, rfl⟩
theorem d_M_run_172 : Dc prog_14_method_127_code 172 (.ireturn) 1 173 := ⟨by decide +kernel, rfl⟩
theorem fl_M_574 : FL "SubgraphDeskModel" 574 12 62 false .int (0, 0) := ⟨R_M, F_M, 69, ty_M, rfl, rfl, in_M, tyok_M, nm_M, by decide, gd 1534 (by decide +kernel) rfl, rfl, rfl, rfl⟩
theorem fl_M_577 : FL "SubgraphDeskModel" 577 12 63 false .int (0, 0) := ⟨R_M, F_M, 69, ty_M, rfl, rfl, in_M, tyok_M, nm_M, by decide, gd 1535 (by decide +kernel) rfl, rfl, rfl, rfl⟩
theorem ml_M_580 : Cond.methodLink "SubgraphDeskModel" 580 m_M_sumOf.1 ∈ lw_gd := gd 2201 (by decide +kernel) rfl
theorem ml_M_583 : Cond.methodLink "SubgraphDeskModel" 583 m_M_act.1 ∈ lw_gd := gd 2205 (by decide +kernel) rfl
theorem iL {x : Nat} (h : x < 2 ^ 31) : (nI x).toInt64 = lI (x : Int) := by rw [lI_i, nI_toInt h]
theorem envO_bd {g : GC} (hW : WG g) {dn : Nat} {lt : Int32} (hd : dn < 1000) (hl : tlS lt) : ∀ j, 1 ≤ j → j < 6 → bd (envO g dn lt j) := by
  intro j h1 h2
  have ht := hW.t
  have he := hW.el
  have hw := ways_num hW
  have hj : j = 1 ∨ j = 2 ∨ j = 3 ∨ j = 4 ∨ j = 5 := by omega
  rcases hj with rfl | rfl | rfl | rfl | rfl
  · rw [show envO g dn lt 1 = (gT g 0 : Int) from rfl]; exact bd_nat (by omega)
  · rw [show envO g dn lt 2 = (dn : Int) from rfl]; exact bd_nat (by omega)
  · rw [show envO g dn lt 3 = lt.toInt from rfl]; exact tlS_bd hl
  · rw [show envO g dn lt 4 = ((gE g).length : Int) from rfl]; exact bd_nat (by omega)
  · rw [show envO g dn lt 5 = ((waysL g).length : Int) from rfl]; exact bd_nat (by omega)
theorem envO_dg {g : GC} {dn : Nat} {lt : Int32} (x : Nat) : envO g dn lt (20 + x) = if x < gN g then (pop (nearB (gE g) x) : Int) else -1 := by
  unfold envO
  rw [if_neg (by omega), if_neg (by omega), if_neg (by omega), if_neg (by omega), if_neg (by omega), if_neg (by omega), Nat.add_sub_cancel_left]
/-- graph, undos and counters of a run of orders -/
def RnP (w : Mem) (s : RSt) : Prop := MGU w s.1 s.2.1 ∧ rI w 89 62 = nI s.2.2.1 ∧ rI w 89 63 = s.2.2.2 ∧ rI w 89 20 = nI 0
theorem RnP.same {w w2 : Mem} {s : RSt} (h : RnP w s) (e1 : rI w2 91 = rI w 91) (e4 : rI w2 94 = rI w 94) (e5 : rI w2 95 = rI w 95) (e8 : rI w2 89 8 = rI w 89 8) (e62 : rI w2 89 62 = rI w 89 62) (e63 : rI w2 89 63 = rI w 89 63) (z : rI w2 89 20 = nI 0) : RnP w2 s := by
  unfold RnP MGU
  rw [e1, e4, e5, e8, e62, e63]
  exact ⟨h.1, h.2.1, h.2.2.1, z⟩
theorem RnP.K {w w2 : Mem} {s : RSt} (h : RnP w s) (f : FrKo w w2) (z : rI w2 89 20 = nI 0) : RnP w2 s := h.same (f.1 91 (by decide)) (f.1 94 (by decide)) (f.1 95 (by decide)) (f.2.1 8 (by decide)) (f.2.1 62 (by decide)) (f.2.1 63 (by decide)) z
theorem RnP.G {w w2 : Mem} {s : RSt} (h : RnP w s) (f : FrG w w2) : RnP w2 s := h.same (f.1 91 (by decide) (by decide)) (f.1 94 (by decide) (by decide)) (f.1 95 (by decide) (by decide)) (f.2.1 8 (by decide) (by decide) (by decide)) (f.2.1 62 (by decide) (by decide) (by decide)) (f.2.1 63 (by decide) (by decide) (by decide)) ((f.2.1 20 (by decide) (by decide) (by decide)).trans h.2.2.2)
theorem RnP.mg {w : Mem} {s : RSt} (h : RnP w s) : MG w s.1 := ⟨h.1.1, h.1.2.1, h.2.2.2⟩
theorem RnP.wg {w : Mem} {s : RSt} (h : RnP w s) : WG s.1 := h.1.2.2.1
theorem RnP.J {w : Mem} {s : RSt} {k : Nat} {x : Int64} (h : RnP w s) : RnP (sJ w 108 k x) s := h
theorem RnP.I65 {w : Mem} {s : RSt} {x : Int32} (h : RnP w s) : RnP (sI w 89 65 x) s := h.same rfl rfl rfl (by rw [rI_sI, upd_eq, if_neg (by decide)]) (by rw [rI_sI, upd_eq, if_neg (by decide)]) (by rw [rI_sI, upd_eq, if_neg (by decide)]) (by rw [rI_sI, upd_eq, if_neg (by decide)]; exact h.2.2.2)
theorem CodeP.X {w w2 : Mem} {c : List (Nat × Nat)} (h : CodeP w c) (f : FrX w w2) : CodeP w2 c := by
  unfold CodeP
  rw [f.2.1 23 (by decide), f.1 100 (by decide) (by decide) (by decide) (by decide) (Or.inl (by decide)), f.1 101 (by decide) (by decide) (by decide) (by decide) (Or.inl (by decide))]
  exact h
theorem FrX.e126 {w w2 : Mem} (f : FrX w w2) : rI w2 126 = rI w 126 := f.1 126 (by decide) (by decide) (by decide) (by decide) (Or.inr (by decide))
/-- the words lie as they should -/
def WrO (w : Mem) (s : RSt) : Prop := ∀ j, 1 ≤ j → j < 6 → rJ w 108 j = lI (envO s.1 s.2.2.1 s.2.2.2 j) ∧ bd (envO s.1 s.2.2.1 s.2.2.2 j)
theorem WrO.K {w w2 : Mem} {s : RSt} (h : WrO w s) (f : FrKo w w2) : WrO w2 s := fun j h1 h2 => by rw [f.2.2.1 108 (by decide) (by decide)]; exact h j h1 h2
theorem aAct_neg {g : GC} (hW : WG g) {a : Nat} {x y : Int32} {u : List (Nat × Snap)} (h : (aAct a x y g u).1 < 0) : (aAct a x y g u).2.1 = g ∧ (aAct a x y g u).2.2 = u := by
  have hk : ActOK (aAct a x y g u) g u := by
    unfold aAct
    split
    · exact aEdge_a x y g u
    · split
      · exact aLink_a x y g u
      · split
        · exact aPaint_a hW x y u
        · exact aDye_a hW x y u
  rcases hk with ⟨k, -, -, h2⟩ | ⟨v, hv, h2⟩
  · rw [h2]; exact ⟨rfl, rfl⟩
  · rw [h2] at h
    exact absurd h (nI_ge0 hv)
theorem ordDo_no {q : OcT} {s : RSt} (h : q.2.1 (envO s.1 s.2.2.1 s.2.2.2) = none ∨ q.2.2.1 (envO s.1 s.2.2.1 s.2.2.2) = none) : ordDo q s = none := by
  unfold ordDo
  rcases h with h | h
  · rw [h]
  · rw [h]
    split <;> rfl
theorem ordDo_ok {q : OcT} {s : RSt} {x y : Int} (h1 : q.2.1 (envO s.1 s.2.2.1 s.2.2.2) = some x) (h2 : q.2.2.1 (envO s.1 s.2.2.1 s.2.2.2) = some y) : ordDo q s = if (aAct q.1 (Int32.ofInt x) (Int32.ofInt y) s.1 s.2.1).1 < 0 then none else some ((aAct q.1 (Int32.ofInt x) (Int32.ofInt y) s.1 s.2.1).2.1, (aAct q.1 (Int32.ofInt x) (Int32.ofInt y) s.1 s.2.1).2.2, s.2.2.1 + 1, (aAct q.1 (Int32.ofInt x) (Int32.ofInt y) s.1 s.2.1).1) := by
  unfold ordDo
  rw [h1, h2]
/-- behind one order -/
def RnR (s : RSt) (z : Option RSt) (r : Option Value) (w2 : Mem) : Prop := match z with
  | none => r = some (.int (-3)) ∧ MGU w2 s.1 s.2.1 ∧ rI w2 89 20 = nI 0
  | some s2 => r = some (.int (nI 0)) ∧ RnP w2 s2
theorem ofInt_0 {v : Int} (h : bd v) : Int32.ofInt v = 0 ↔ v = 0 := by
  constructor
  · intro h2
    have h3 := congrArg Int32.toInt h2
    rw [Int32.toInt_ofInt_of_le (by have := h.1; omega) (by have := h.2; omega)] at h3
    exact h3
  · rintro rfl; rfl
theorem c_M_run {E : EV} {w : Mem} {s : RSt} {q : OcT} {c : List (Nat × Nat)} {f p k : Nat} (hP : RnP w s) (hdn : s.2.2.1 < 1000) (hlt : tlS s.2.2.2) (hXr : RdX true c [] f p 0) (hcd : CodeP w c) (hq : OcE (rI w 126) c k q) (hk : k + 7 < 96) : T E m_M_run 8 0 0 [.ref 89, .int (nI k)] w (fun r w2 => FrX w w2 ∧ RnR s (ordOne q s) r w2) := by
  refine T_of (L := [.ref 89, .int (nI k), un, un, un]) cf_M_run rfl (Nat.le_of_ble_eq_true rfl) (fun X hX hF => ?_)
  have hW := hP.wg
  have ht := hW.t
  have hel := hW.el
  have hwn := ways_num hW
  have hok := ord_ok hXr
  obtain ⟨h0, h00, h7, h77, a, b, a2, b2, xs, xe, h1, h2, h3, h4, h5, h6, g1, g2, g3, g4, s1, s2, s3⟩ := hq
  have dd : ∀ (fuel : Nat) (v2 : Value) (wk : Mem), 0 < fuel → (FrX w wk) → (RnP wk s) → (rI wk 89 65 = nI 0) → (WrO wk s) → (ordOne q s = ordDo q s) → G0 E X 0 0 107 [.ref 89, .int (nI k), v2, un, un] [] wk := by
    intro fuel
    induction fuel with
    | zero => intro v2 wk q0; exact absurd q0 (Nat.not_lt_zero _)
    | succ fuel ih =>
      intro v2 wk q0 q1 q2 q3 q4 q5
      refine g_aload0 hX d_M_run_107 ?_
      refine g_iload1 hX d_M_run_108 ?_
      refine g_iconst (v := nI 1) hX d_M_run_109 rfl ?_
      refine g_iaddN hX d_M_run_110 ?_
      refine g_callV (As := [_]) hX hF.1 d_M_run_111 ml_M_580 cf_M_sumOf cv_M_sumOf rfl rfl (c_M_sumOf (w := wk) (o := 0) (Or.inl rfl) q2.2.2.2 (at_ := k + 1) (env := envO s.1 s.2.2.1 s.2.2.2) q3 (by omega) (by rw [q1.e126]; exact h1) (by rw [q1.e126]; exact h2) s1 g1 hXr (hcd.X q1) q2.1.1 q2.wg q4 (fun x _ => envO_dg x)) (rcv_obj hX (lv_89 _) rfl rfl) (by omega) (by omega) (by omega) (Nat.le_of_ble_eq_true rfl) ?_
      rintro _ w1 ⟨x1, rfl, f1, z1, o1, p1, hx1⟩
      show G0 _ _ _ _ _ _ _ _
      refine g_istore2 hX d_M_run_114 rfl (by decide) ?_
      refine g_aload0 hX d_M_run_115 ?_
      refine g_iload1 hX d_M_run_116 ?_
      refine g_iconst (v := nI 3) hX d_M_run_117 rfl ?_
      refine g_iaddN hX d_M_run_118 ?_
      refine g_callV (As := [_]) hX hF.1 d_M_run_119 ml_M_580 cf_M_sumOf cv_M_sumOf rfl rfl (c_M_sumOf (w := w1) (o := o1) (by rcases hx1 with y | y; exact Or.inr y.1; exact Or.inl y.1) (q2.K f1 z1).2.2.2 (at_ := k + 3) (env := envO s.1 s.2.2.1 s.2.2.2) p1 (by omega) (by rw [(q1.tr f1.X).e126]; exact h3) (by rw [(q1.tr f1.X).e126]; exact h4) s2 g2 hXr (hcd.X (q1.tr f1.X)) (q2.K f1 z1).1.1 (q2.K f1 z1).wg (q4.K f1) (fun x _ => envO_dg x)) (rcv_obj hX (lv_89 _) rfl rfl) (by omega) (by omega) (by omega) (Nat.le_of_ble_eq_true rfl) ?_
      rintro _ w2 ⟨x2, rfl, f2, z2, o2, p2, hx2⟩
      have hR2 : RnP w2 s := (q2.K f1 z1).K f2 z2
      have hfx : FrX w w2 := (q1.tr f1.X).tr f2.X
      show G0 _ _ _ _ _ _ _ _
      refine g_istore3 hX d_M_run_122 rfl (by decide) ?_
      refine g_aload0 hX d_M_run_123 ?_
      refine g_getZ hX d_M_run_124 fl_M_571 (lv_89 _) ?_
      refine g_topi p2 ?_
      refine g_if_eq hX d_M_run_127 (fun e127 => ?_) (fun e127 => ?_)
      · rcases hx2 with ⟨y1, -⟩ | ⟨-, y2, v2', y3, y4, y5⟩
        · rw [y1] at e127; exact absurd e127 (by decide)
        rcases hx1 with ⟨y1, -⟩ | ⟨-, -, v1', z3, z4, z5⟩
        · rw [y1] at y2; exact absurd y2 (by decide)
        have hone := q5.trans (ordDo_ok z3 y3)
        subst y5
        subst z5
        refine g_aload0 hX d_M_run_133 ?_
        refine g_aload0 hX d_M_run_134 ?_
        refine g_getF hX d_M_run_135 fl_M_158 (lv_89 _) ?_
        refine g_iload1 hX d_M_run_138 ?_
        refine g_iald hX d_M_run_139 (lv_126 _) rfl (by omega) ?_
        refine g_topi (show rI w2 126 k = nI q.1 by rw [hfx.e126]; exact h0) ?_
        refine g_iload2 hX d_M_run_140 ?_
        refine g_iload3 hX d_M_run_141 ?_
        refine g_callV (As := [_, _, _]) hX hF.1 d_M_run_142 ml_M_583 cf_M_act cv_M_act rfl rfl (c_M_act (u := s.2.1) hR2.1 h00) (rcv_obj hX (lv_89 _) rfl rfl) (by omega) (by omega) (by omega) (Nat.le_of_ble_eq_true rfl) ?_
        rintro _ w3 ⟨rfl, hG3, f3⟩
        show G0 _ _ _ _ _ _ _ _
        refine g_istore4 hX d_M_run_145 rfl (by decide) ?_
        refine g_iload4 hX d_M_run_147 ?_
        refine g_if_ge hX d_M_run_149 (fun e149 => ?_) (fun e149 => ?_)
        · rw [if_neg (Int32.not_lt.mpr e149)] at hone
          refine g_aload0 hX d_M_run_155 ?_
          refine g_iload4 hX d_M_run_156 ?_
          refine g_putI hX d_M_run_158 fl_M_577 (lv_89 _) ?_
          refine g_aload0 hX d_M_run_161 ?_
          refine g_dup hX d_M_run_162 rfl ?_
          refine g_getI hX d_M_run_163 fl_M_574 (lv_89 _) ?_
          refine g_topi (show rI (sI w3 89 63 _) 89 62 = nI s.2.2.1 by rw [rI_sI, upd_eq, if_neg (by decide), f3.2.1 62 (by decide)]; exact hR2.2.1) ?_
          refine g_iconst (v := nI 1) hX d_M_run_166 rfl ?_
          refine g_iaddN hX d_M_run_167 ?_
          refine g_putI hX d_M_run_168 fl_M_574 (lv_89 _) ?_
          refine g_iconst (v := nI 0) hX d_M_run_171 rfl ?_
          refine g_iret hX hF d_M_run_172 (by omega) (by omega) ?_
          refine ⟨((hfx.tr f3.X).I (by decide)).I (by decide), ?_⟩
          rw [hone]
          refine ⟨rfl, ?_, by rw [rI_sI, upd_eq, if_pos rfl], by rw [rI_sI, upd_eq, if_neg (by decide), rI_sI, upd_eq, if_pos rfl], by rw [rI_sI, upd_eq, if_neg (by decide), rI_sI, upd_eq, if_neg (by decide), f3.2.1 20 (by decide)]; exact z2⟩
          obtain ⟨m1, m2, m3, m4⟩ := hG3
          exact ⟨m1, m2, m3, by rw [rI_sI, upd_eq, if_neg (by decide), rI_sI, upd_eq, if_neg (by decide)]; exact m4⟩
        · rw [if_pos (Int32.not_le.mp e149)] at hone
          refine g_bipush (v := -3) hX d_M_run_152 rfl ?_
          refine g_iret hX hF d_M_run_154 (by omega) (by omega) ?_
          have hng := aAct_neg hR2.wg (Int32.not_le.mp e149)
          rw [hng.1, hng.2] at hG3
          refine ⟨hfx.tr f3.X, ?_⟩
          rw [hone]
          exact ⟨rfl, hG3, (f3.2.1 20 (by decide)).trans z2⟩
      · have hno : q.2.1 (envO s.1 s.2.2.1 s.2.2.2) = none ∨ q.2.2.1 (envO s.1 s.2.2.1 s.2.2.2) = none := by
          rcases hx2 with ⟨-, y1 | y1⟩ | ⟨y1, -⟩
          · rcases hx1 with ⟨-, y2 | y2⟩ | ⟨y2, -⟩
            · exact absurd y2 (by decide)
            · exact Or.inl y2
            · rw [y2] at y1; exact absurd y1 (by decide)
          · exact Or.inr y1
          · exact absurd (by rw [y1]; rfl) e127
        refine g_bipush (v := -3) hX d_M_run_130 rfl ?_
        refine g_iret hX hF d_M_run_132 (by omega) (by omega) ?_
        refine ⟨hfx, ?_⟩
        rw [q5, ordDo_no hno]
        exact ⟨rfl, hR2.1, hR2.2.2.2⟩
  refine g_aload0 hX d_M_run_0 ?_
  refine g_getF hX d_M_run_1 fl_M_96 (lv_89 _) ?_
  refine g_iconst (v := nI 1) hX d_M_run_4 rfl ?_
  refine g_aload0 hX d_M_run_5 ?_
  refine g_getF hX d_M_run_6 fl_M_13 (lv_89 _) ?_
  refine g_bipush (v := nI 6) hX d_M_run_9 rfl ?_
  refine g_iald hX d_M_run_11 (lv_91 _) rfl (by decide) ?_
  refine g_topi (show rI w 91 (6 + 0) = nI (gT s.1 0) from hP.1.1.t 0 (by decide)) ?_
  refine g_i2l hX d_M_run_12 ?_
  refine g_topl (iL (by omega)) ?_
  refine g_last hX d_M_run_13 (lv_108 _) rfl (by decide) ?_
  refine g_aload0 hX d_M_run_14 ?_
  refine g_getF hX d_M_run_15 fl_M_96 (lv_89 _) ?_
  refine g_iconst (v := nI 2) hX d_M_run_18 rfl ?_
  refine g_aload0 hX d_M_run_19 ?_
  refine g_getI hX d_M_run_20 fl_M_574 (lv_89 _) ?_
  refine g_topi (show rI (sJ w 108 1 (lI (gT s.1 0 : Int))) 89 62 = nI s.2.2.1 from hP.2.1) ?_
  refine g_i2l hX d_M_run_23 ?_
  refine g_topl (iL (by omega)) ?_
  refine g_last hX d_M_run_24 (lv_108 _) rfl (by decide) ?_
  refine g_aload0 hX d_M_run_25 ?_
  refine g_getF hX d_M_run_26 fl_M_96 (lv_89 _) ?_
  refine g_iconst (v := nI 3) hX d_M_run_29 rfl ?_
  refine g_aload0 hX d_M_run_30 ?_
  refine g_getI hX d_M_run_31 fl_M_577 (lv_89 _) ?_
  refine g_topi (show rI (sJ (sJ w 108 1 (lI (gT s.1 0 : Int))) 108 2 (lI (s.2.2.1 : Int))) 89 63 = s.2.2.2 from hP.2.2.1) ?_
  refine g_i2l hX d_M_run_34 ?_
  refine g_topl (lI_i s.2.2.2) ?_
  refine g_last hX d_M_run_35 (lv_108 _) rfl (by decide) ?_
  refine g_aload0 hX d_M_run_36 ?_
  refine g_getF hX d_M_run_37 fl_M_96 (lv_89 _) ?_
  refine g_iconst (v := nI 4) hX d_M_run_40 rfl ?_
  refine g_aload0 hX d_M_run_41 ?_
  refine g_getF hX d_M_run_42 fl_M_13 (lv_89 _) ?_
  refine g_bipush (v := nI 31) hX d_M_run_45 rfl ?_
  refine g_iald hX d_M_run_47 (lv_91 _) rfl (by decide) ?_
  refine g_topi (show rI (sJ (sJ (sJ w 108 1 (lI (gT s.1 0 : Int))) 108 2 (lI (s.2.2.1 : Int))) 108 3 (lI s.2.2.2.toInt)) 91 31 = nI (gE s.1).length from hP.1.1.e.1) ?_
  refine g_i2l hX d_M_run_48 ?_
  refine g_topl (iL (by omega)) ?_
  refine g_last hX d_M_run_49 (lv_108 _) rfl (by decide) ?_
  refine g_aload0 hX d_M_run_50 ?_
  refine g_getF hX d_M_run_51 fl_M_96 (lv_89 _) ?_
  refine g_iconst (v := nI 5) hX d_M_run_54 rfl ?_
  refine g_aload0 hX d_M_run_55 ?_
  refine g_callV (As := []) hX hF.1 d_M_run_56 ml_M_480 cf_M_waysOf cv_M_waysOf rfl rfl (c_M_waysOfG (w := (sJ (sJ (sJ (sJ w 108 1 (lI (gT s.1 0 : Int))) 108 2 (lI (s.2.2.1 : Int))) 108 3 (lI s.2.2.2.toInt)) 108 4 (lI ((gE s.1).length : Int)))) (g := s.1) hP.J.J.J.J.mg hW) (rcv_obj hX (lv_89 _) rfl rfl) (by omega) (by omega) (by omega) (Nat.le_of_ble_eq_true rfl) ?_
  rintro _ w1 ⟨rfl, hf1⟩
  have hR1 : RnP w1 s := RnP.G (w := (sJ (sJ (sJ (sJ w 108 1 (lI (gT s.1 0 : Int))) 108 2 (lI (s.2.2.1 : Int))) 108 3 (lI s.2.2.2.toInt)) 108 4 (lI ((gE s.1).length : Int)))) hP.J.J.J.J hf1
  show G0 _ _ _ _ _ _ _ _
  refine g_i2l hX d_M_run_59 ?_
  refine g_topl (iL (by omega)) ?_
  refine g_last hX d_M_run_60 (lv_108 _) rfl (by decide) ?_
  refine g_aload0 hX d_M_run_61 ?_
  refine g_iconst (v := nI 0) hX d_M_run_62 rfl ?_
  refine g_putZ hX d_M_run_63 fl_M_571 (lv_89 _) (by first | exact Or.inl rfl | exact Or.inr rfl) ?_
  obtain ⟨w5, hw5⟩ : ∃ w5, sJ w1 108 5 (lI ((waysL s.1).length : Int)) = w5 := ⟨_, rfl⟩
  rw [hw5]
  have hf66 : FrX w (sI w5 89 65 (nI 0)) := by rw [← hw5]; exact (((FrX.rf w).J.J.J.J.tr hf1.X).J).I (by decide)
  have hR66 : RnP (sI w5 89 65 (nI 0)) s := by rw [← hw5]; exact hR1.J.I65
  have ho66 : rI (sI w5 89 65 (nI 0)) 89 65 = nI 0 := by rw [rI_sI, upd_eq, if_pos rfl]
  have hw66 : WrO (sI w5 89 65 (nI 0)) s := by
    intro j j1 j2
    refine ⟨?_, envO_bd hW hdn hlt j j1 j2⟩
    have hJ : rJ (sI w5 89 65 (nI 0)) 108 = vp_updL (rJ w1 108) 5 (lI ((waysL s.1).length : Int)) := by rw [← hw5]; exact rJ_sJ _ _ _ _
    have hJ1 : rJ w1 108 = rJ (sJ (sJ (sJ (sJ w 108 1 (lI (gT s.1 0 : Int))) 108 2 (lI (s.2.2.1 : Int))) 108 3 (lI s.2.2.2.toInt)) 108 4 (lI ((gE s.1).length : Int))) 108 := hf1.2.2.1 108 (by decide) (by decide) (by decide)
    rw [hJ, hJ1, rJ_sJ, rJ_sJ, rJ_sJ, rJ_sJ]
    simp only [updL_eq]
    have hj : j = 1 ∨ j = 2 ∨ j = 3 ∨ j = 4 ∨ j = 5 := by omega
    rcases hj with rfl | rfl | rfl | rfl | rfl <;> rfl
  rcases hq5 : q.2.2.2.2 with _ | d5
  · rw [hq5] at s3
    have s3e : xs = xe := s3
    refine g_aload0 hX d_M_run_66 ?_
    refine g_getF hX d_M_run_67 fl_M_158 (lv_89 _) ?_
    refine g_iload1 hX d_M_run_70 ?_
    refine g_iconst (v := nI 5) hX d_M_run_71 rfl ?_
    refine g_iaddN hX d_M_run_72 ?_
    refine g_iald hX d_M_run_73 (lv_126 _) rfl (by omega) ?_
    refine g_topi (show rI (sI w5 89 65 (nI 0)) 126 (k + 5) = nI xs by rw [hf66.e126]; exact h5) ?_
    refine g_aload0 hX d_M_run_74 ?_
    refine g_getF hX d_M_run_75 fl_M_158 (lv_89 _) ?_
    refine g_iload1 hX d_M_run_78 ?_
    refine g_bipush (v := nI 6) hX d_M_run_79 rfl ?_
    refine g_iaddN hX d_M_run_81 ?_
    refine g_iald hX d_M_run_82 (lv_126 _) rfl (by omega) ?_
    refine g_topi (show rI (sI w5 89 65 (nI 0)) 126 (k + 6) = nI xe by rw [hf66.e126]; exact h6) ?_
    refine g_icmpN_ge hX d_M_run_83 (by omega) (by omega) (fun c0 => ?_) (fun h => absurd h (by omega))
    exact dd 1 _ _ (Nat.lt_succ_self _) hf66 hR66 ho66 hw66 (by unfold ordOne; rw [hq5])
  · rw [hq5] at s3
    refine g_aload0 hX d_M_run_66 ?_
    refine g_getF hX d_M_run_67 fl_M_158 (lv_89 _) ?_
    refine g_iload1 hX d_M_run_70 ?_
    refine g_iconst (v := nI 5) hX d_M_run_71 rfl ?_
    refine g_iaddN hX d_M_run_72 ?_
    refine g_iald hX d_M_run_73 (lv_126 _) rfl (by omega) ?_
    refine g_topi (show rI (sI w5 89 65 (nI 0)) 126 (k + 5) = nI xs by rw [hf66.e126]; exact h5) ?_
    refine g_aload0 hX d_M_run_74 ?_
    refine g_getF hX d_M_run_75 fl_M_158 (lv_89 _) ?_
    refine g_iload1 hX d_M_run_78 ?_
    refine g_bipush (v := nI 6) hX d_M_run_79 rfl ?_
    refine g_iaddN hX d_M_run_81 ?_
    refine g_iald hX d_M_run_82 (lv_126 _) rfl (by omega) ?_
    refine g_topi (show rI (sI w5 89 65 (nI 0)) 126 (k + 6) = nI xe by rw [hf66.e126]; exact h6) ?_
    refine g_icmpN_ge hX d_M_run_83 (by omega) (by omega) (fun h => absurd h (by have := (show SegL c xs xe d5 from s3).1; omega)) (fun c0 => ?_)
    refine g_aload0 hX d_M_run_86 ?_
    refine g_iload1 hX d_M_run_87 ?_
    refine g_iconst (v := nI 5) hX d_M_run_88 rfl ?_
    refine g_iaddN hX d_M_run_89 ?_
    refine g_callV (As := [_]) hX hF.1 d_M_run_90 ml_M_580 cf_M_sumOf cv_M_sumOf rfl rfl (c_M_sumOf (w := (sI w5 89 65 (nI 0))) (o := 0) (Or.inl rfl) hR66.2.2.2 (at_ := k + 5) (env := envO s.1 s.2.2.1 s.2.2.2) ho66 (by omega) (by rw [hf66.e126]; exact h5) (by rw [hf66.e126]; exact h6) (show SegL c xs xe d5 from s3) g4 hXr (hcd.X hf66) hR66.1.1 hR66.wg hw66 (fun x _ => envO_dg x)) (rcv_obj hX (lv_89 _) rfl rfl) (by omega) (by omega) (by omega) (Nat.le_of_ble_eq_true rfl) ?_
    rintro _ w2 ⟨x1, rfl, f1, z1, o1, p1, hx1⟩
    have hR2 : RnP w2 s := hR66.K f1 z1
    have hfx : FrX w w2 := hf66.tr f1.X
    show G0 _ _ _ _ _ _ _ _
    refine g_istore2 hX d_M_run_93 rfl (by decide) ?_
    refine g_aload0 hX d_M_run_94 ?_
    refine g_getZ hX d_M_run_95 fl_M_571 (lv_89 _) ?_
    refine g_topi p1 ?_
    refine g_if_ne hX d_M_run_98 (fun e98 => ?_) (fun e98 => ?_)
    · have hone : ordOne q s = some s := by
        unfold ordOne
        rw [hq5]
        rcases hx1 with ⟨-, y1 | y1⟩ | ⟨y1, -⟩
        · exact absurd y1 (by decide)
        · show (match d5 _ with | none => _ | some v => _) = _
          rw [y1]
        · exact absurd (by rw [y1]; rfl) e98
      refine g_iconst (v := nI 0) hX d_M_run_105 rfl ?_
      refine g_iret hX hF d_M_run_106 (by omega) (by omega) ?_
      refine ⟨hfx, ?_⟩
      rw [hone]
      exact ⟨rfl, hR2⟩
    · rcases hx1 with ⟨y1, -⟩ | ⟨y1, -, v, y3, y4, y5⟩
      · rw [y1] at e98; exact absurd e98 (by decide)
      have hone : ordOne q s = if v = 0 then some s else ordDo q s := by
        unfold ordOne
        rw [hq5]
        show (match d5 _ with | none => _ | some v => _) = _
        rw [y3]
      refine g_iload2 hX d_M_run_101 ?_
      refine g_if_ne hX d_M_run_102 (fun e102 => ?_) (fun e102 => ?_)
      · rw [if_neg (fun y => e102 (by rw [y5]; exact (ofInt_0 y4).mpr y))] at hone
        exact dd 1 _ _ (Nat.lt_succ_self _) hfx hR2 (by rw [p1, y1]) (hw66.K f1) hone
      · rw [if_pos ((ofInt_0 y4).mp (y5.symm.trans e102))] at hone
        refine g_iconst (v := nI 0) hX d_M_run_105 rfl ?_
        refine g_iret hX hF d_M_run_106 (by omega) (by omega) ?_
        refine ⟨hfx, ?_⟩
        rw [hone]
        exact ⟨rfl, hR2⟩
