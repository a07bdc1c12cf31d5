def m_M_isWay : MR := (⟨"SubgraphDeskModel", "isWay", "()Z"⟩, prog_14_method_84_code, 2, (some .boolean))
theorem cf_M_isWay : CF m_M_isWay 0 := ⟨gd 2023 (by decide +kernel) rfl, gd 151 (by decide +kernel) rfl, by decide +kernel, by decide, by decide +kernel⟩
theorem cv_M_isWay : CV m_M_isWay := ⟨gd 2022 (by decide +kernel) rfl, gd 109 (by decide +kernel) rfl⟩
theorem d_M_isWay_54 : Dc prog_14_method_84_code 54 (.aload_n 0) 1 55 := ⟨by decide +kernel, rfl⟩
theorem d_M_isWay_55 : Dc prog_14_method_84_code 55 (.getfield 465) 3 58 := ⟨by decide +kernel, rfl⟩
theorem d_M_isWay_58 : Dj prog_14_method_84_code 58 (.ifCond .lt 160) 61 160 218 := ⟨by decide +kernel, rfl, rfl⟩
theorem d_M_isWay_61 : Dc prog_14_method_84_code 61 (.aload_n 0) 1 62 := ⟨by decide +kernel, rfl⟩
theorem d_M_isWay_62 : Dc prog_14_method_84_code 62 (.getfield 111) 3 65 := ⟨by decide +kernel, rfl⟩
theorem d_M_isWay_65 : Dc prog_14_method_84_code 65 (.aload_n 0) 1 66 := ⟨by decide +kernel, rfl⟩
theorem d_M_isWay_66 : Dc prog_14_method_84_code 66 (.getfield 465) 3 69 := ⟨by decide +kernel, rfl⟩
theorem d_M_isWay_69 : Dc prog_14_method_84_code 69 (.dup2) 1 70 := ⟨by decide +kernel, rfl⟩
theorem d_M_isWay_70 : Dc prog_14_method_84_code 70 (.iaload) 1 71 := ⟨by decide +kernel, rfl⟩
theorem d_M_isWay_71 : Dc prog_14_method_84_code 71 (.iconst 1) 1 72 := ⟨by decide +kernel, rfl⟩
theorem d_M_isWay_72 : Dc prog_14_method_84_code 72 (.iadd) 1 73 := ⟨by decide +kernel, rfl⟩
theorem d_M_isWay_73 : Dc prog_14_method_84_code 73 (.iastore) 1 74 := ⟨by decide +kernel, rfl⟩
theorem d_M_isWay_74 : Dc prog_14_method_84_code 74 (.aload_n 0) 1 75 := ⟨by decide +kernel, rfl⟩
theorem d_M_isWay_75 : Dc prog_14_method_84_code 75 (.getfield 111) 3 78 := ⟨by decide +kernel, rfl⟩
theorem d_M_isWay_78 : Dc prog_14_method_84_code 78 (.aload_n 0) 1 79 := ⟨by decide +kernel, rfl⟩
theorem d_M_isWay_79 : Dc prog_14_method_84_code 79 (.getfield 465) 3 82 := ⟨by decide +kernel, rfl⟩
theorem d_M_isWay_82 : Dc prog_14_method_84_code 82 (.iaload) 1 83 := ⟨by decide +kernel, rfl⟩
theorem d_M_isWay_83 : Dc prog_14_method_84_code 83 (.aload_n 0) 1 84 := ⟨by decide +kernel, rfl⟩
theorem d_M_isWay_84 : Dc prog_14_method_84_code 84 (.getfield 13) 3 87 := ⟨by decide +kernel, rfl⟩
theorem d_M_isWay_87 : Dc prog_14_method_84_code 87 (.iconst 0) 1 88 := ⟨by decide +kernel, rfl⟩
theorem d_M_isWay_88 : Dc prog_14_method_84_code 88 (.iaload) 1 89 := ⟨by decide +kernel, rfl⟩
theorem d_M_isWay_89 : Dj prog_14_method_84_code 89 (.if_icmp .ge 63) 92 63 152 := ⟨by decide +kernel, rfl, rfl⟩
theorem d_M_isWay_92 : Dc prog_14_method_84_code 92 (.aload_n 0) 1 93 := ⟨by decide +kernel, rfl⟩
theorem d_M_isWay_93 : Dc prog_14_method_84_code 93 (.getfield 105) 3 96 := ⟨by decide +kernel, rfl⟩
theorem d_M_isWay_96 : Dc prog_14_method_84_code 96 (.aload_n 0) 1 97 := ⟨by decide +kernel, rfl⟩
theorem d_M_isWay_97 : Dc prog_14_method_84_code 97 (.getfield 465) 3 100 := ⟨by decide +kernel, rfl⟩
theorem d_M_isWay_100 : Dc prog_14_method_84_code 100 (.iaload) 1 101 := ⟨by decide +kernel, rfl⟩
theorem d_M_isWay_101 : Dc prog_14_method_84_code 101 (.aload_n 0) 1 102 := ⟨by decide +kernel, rfl⟩
theorem d_M_isWay_102 : Dc prog_14_method_84_code 102 (.getfield 111) 3 105 := ⟨by decide +kernel, rfl⟩
theorem d_M_isWay_105 : Dc prog_14_method_84_code 105 (.aload_n 0) 1 106 := ⟨by decide +kernel, rfl⟩
theorem d_M_isWay_106 : Dc prog_14_method_84_code 106 (.getfield 465) 3 109 := ⟨by decide +kernel, rfl⟩
theorem d_M_isWay_109 : Dc prog_14_method_84_code 109 (.iaload) 1 110 := ⟨by decide +kernel, rfl⟩
theorem d_M_isWay_110 : Dc prog_14_method_84_code 110 (.invokestatic 468) 3 113 := ⟨by decide +kernel, rfl⟩
theorem d_M_isWay_113 : Dj prog_14_method_84_code 113 (.ifCond .eq 23) 116 23 136 := ⟨by decide +kernel, rfl, rfl⟩
theorem d_M_isWay_116 : Dc prog_14_method_84_code 116 (.aload_n 0) 1 117 := ⟨by decide +kernel, rfl⟩
theorem d_M_isWay_117 : Dc prog_14_method_84_code 117 (.aload_n 0) 1 118 := ⟨by decide +kernel, rfl⟩
theorem d_M_isWay_118 : Dc prog_14_method_84_code 118 (.getfield 465) 3 121 := ⟨by decide +kernel, rfl⟩
theorem d_M_isWay_121 : Dc prog_14_method_84_code 121 (.aload_n 0) 1 122 := ⟨by decide +kernel, rfl⟩
theorem d_M_isWay_122 : Dc prog_14_method_84_code 122 (.getfield 111) 3 125 := ⟨by decide +kernel, rfl⟩
theorem d_M_isWay_125 : Dc prog_14_method_84_code 125 (.aload_n 0) 1 126 := ⟨by decide +kernel, rfl⟩
theorem d_M_isWay_126 : Dc prog_14_method_84_code 126 (.getfield 465) 3 129 := ⟨by decide +kernel, rfl⟩
theorem d_M_isWay_129 : Dc prog_14_method_84_code 129 (.iaload) 1 130 := ⟨by decide +kernel, rfl⟩
theorem d_M_isWay_130 : Dc prog_14_method_84_code 130 (.invokevirtual 471) 3 133 := ⟨by decide +kernel, rfl⟩
theorem d_M_isWay_133 : Dj prog_14_method_84_code 133 (.ifCond .ne 19) 136 19 152 := ⟨by decide +kernel, rfl, rfl⟩
theorem d_M_isWay_136 : Dc prog_14_method_84_code 136 (.aload_n 0) 1 137 := ⟨by decide +kernel, rfl⟩
theorem d_M_isWay_137 : Dc prog_14_method_84_code 137 (.getfield 111) 3 140 := ⟨by decide +kernel, rfl⟩
theorem d_M_isWay_140 : Dc prog_14_method_84_code 140 (.aload_n 0) 1 141 := ⟨by decide +kernel, rfl⟩
theorem d_M_isWay_141 : Dc prog_14_method_84_code 141 (.getfield 465) 3 144 := ⟨by decide +kernel, rfl⟩
theorem d_M_isWay_144 : Dc prog_14_method_84_code 144 (.dup2) 1 145 := ⟨by decide +kernel, rfl⟩
theorem d_M_isWay_145 : Dc prog_14_method_84_code 145 (.iaload) 1 146 := ⟨by decide +kernel, rfl⟩
theorem d_M_isWay_146 : Dc prog_14_method_84_code 146 (.iconst 1) 1 147 := ⟨by decide +kernel, rfl⟩
theorem d_M_isWay_147 : Dc prog_14_method_84_code 147 (.iadd) 1 148 := ⟨by decide +kernel, rfl⟩
theorem d_M_isWay_148 : Dc prog_14_method_84_code 148 (.iastore) 1 149 := ⟨by decide +kernel, rfl⟩
theorem d_M_isWay_149 : Dj prog_14_method_84_code 149 (.goto (-75)) 152 (-75) 74 := ⟨by decide +kernel, rfl, rfl⟩
theorem d_M_isWay_152 : Dc prog_14_method_84_code 152 (.aload_n 0) 1 153 := ⟨by decide +kernel, rfl⟩
theorem d_M_isWay_153 : Dc prog_14_method_84_code 153 (.getfield 111) 3 156 := ⟨by decide +kernel, rfl⟩
theorem d_M_isWay_156 : Dc prog_14_method_84_code 156 (.aload_n 0) 1 157 := ⟨by decide +kernel, rfl⟩
theorem d_M_isWay_157 : Dc prog_14_method_84_code 157 (.getfield 465) 3 160 := ⟨by decide +kernel, rfl⟩
theorem d_M_isWay_160 : Dc prog_14_method_84_code 160 (.iaload) 1 161 := ⟨by decide +kernel, rfl⟩
theorem d_M_isWay_161 : Dc prog_14_method_84_code 161 (.aload_n 0) 1 162 := ⟨by decide +kernel, rfl⟩
theorem d_M_isWay_162 : Dc prog_14_method_84_code 162 (.getfield 13) 3 165 := ⟨by decide +kernel, rfl⟩
theorem d_M_isWay_165 : Dc prog_14_method_84_code 165 (.iconst 0) 1 166 := ⟨by decide +kernel, rfl⟩
theorem d_M_isWay_166 : Dc prog_14_method_84_code 166 (.iaload) 1 167 := ⟨by decide +kernel, rfl⟩
theorem d_M_isWay_167 : Dj prog_14_method_84_code 167 (.if_icmp .ne 16) 170 16 183 := ⟨by decide +kernel, rfl, rfl⟩
theorem d_M_isWay_170 : Dc prog_14_method_84_code 170 (.aload_n 0) 1 171 := ⟨by decide +kernel, rfl⟩
theorem d_M_isWay_171 : Dc prog_14_method_84_code 171 (.dup) 1 172 := ⟨by decide +kernel, rfl⟩
theorem d_M_isWay_172 : Dc prog_14_method_84_code 172 (.getfield 465) 3 175 := ⟨by decide +kernel, rfl⟩
theorem d_M_isWay_175 : Dc prog_14_method_84_code 175 (.iconst 1) 1 176 := ⟨by decide +kernel, rfl⟩
theorem d_M_isWay_176 : Dc prog_14_method_84_code 176 (.isub) 1 177 := ⟨by decide +kernel, rfl⟩
theorem d_M_isWay_177 : Dc prog_14_method_84_code 177 (.putfield 465) 3 180 := ⟨by decide +kernel, rfl⟩
theorem d_M_isWay_180 : Dj prog_14_method_84_code 180 (.goto (-126)) 183 (-126) 54 := ⟨by decide +kernel, rfl, rfl⟩
theorem d_M_isWay_183 : Dc prog_14_method_84_code 183 (.aload_n 0) 1 184 := ⟨by decide +kernel, rfl⟩
theorem d_M_isWay_184 : Dc prog_14_method_84_code 184 (.getfield 465) 3 187 := ⟨by decide +kernel, rfl⟩
theorem d_M_isWay_187 : Dc prog_14_method_84_code 187 (.iload_n 1) 1 188 := ⟨by decide +kernel, rfl⟩
theorem d_M_isWay_188 : Dc prog_14_method_84_code 188 (.iconst 1) 1 189 := ⟨by decide +kernel, rfl⟩
theorem d_M_isWay_189 : Dc prog_14_method_84_code 189 (.isub) 1 190 := ⟨by decide +kernel, rfl⟩
theorem d_M_isWay_190 : Dj prog_14_method_84_code 190 (.if_icmp .ne 5) 193 5 195 := ⟨by decide +kernel, rfl, rfl⟩
theorem d_M_isWay_195 : Dc prog_14_method_84_code 195 (.aload_n 0) 1 196 := ⟨by decide +kernel, rfl⟩
theorem d_M_isWay_196 : Dc prog_14_method_84_code 196 (.dup) 1 197 := ⟨by decide +kernel, rfl⟩
theorem d_M_isWay_197 : Dc prog_14_method_84_code 197 (.getfield 465) 3 200 := ⟨by decide +kernel, rfl⟩
theorem d_M_isWay_200 : Dc prog_14_method_84_code 200 (.iconst 1) 1 201 := ⟨by decide +kernel, rfl⟩
theorem d_M_isWay_201 : Dc prog_14_method_84_code 201 (.iadd) 1 202 := ⟨by decide +kernel, rfl⟩
theorem d_M_isWay_202 : Dc prog_14_method_84_code 202 (.putfield 465) 3 205 := ⟨by decide +kernel, rfl⟩
theorem d_M_isWay_205 : Dc prog_14_method_84_code 205 (.aload_n 0) 1 206 := ⟨by decide +kernel, rfl⟩
theorem d_M_isWay_206 : Dc prog_14_method_84_code 206 (.getfield 111) 3 209 := ⟨by decide +kernel, rfl⟩
theorem d_M_isWay_209 : Dc prog_14_method_84_code 209 (.aload_n 0) 1 210 := ⟨by decide +kernel, rfl⟩
theorem d_M_isWay_210 : Dc prog_14_method_84_code 210 (.getfield 465) 3 213 := ⟨by decide +kernel, rfl⟩
theorem d_M_isWay_213 : Dc prog_14_method_84_code 213 (.iconst (-1)) 1 214 := ⟨by decide +kernel, rfl⟩
theorem d_M_isWay_214 : Dc prog_14_method_84_code 214 (.iastore) 1 215 := ⟨by decide +kernel, rfl⟩
theorem d_M_isWay_215 : Dj prog_14_method_84_code 215 (.goto (-161)) 218 (-161) 54 := ⟨by decide +kernel, rfl, rfl⟩
theorem fl_M_465 : FL "SubgraphDeskModel" 465 12 45 false .int (0, 0) := ⟨R_M, F_M, 69, ty_M, rfl, rfl, in_M, tyok_M, nm_M, by decide, gd 1517 (by decide +kernel) rfl, rfl, rfl, rfl⟩
theorem ml_M_471 : Cond.methodLink "SubgraphDeskModel" 471 m_M_fits.1 ∈ lw_gd := gd 2027 (by decide +kernel) rfl
theorem gA_snoc_l {q : List Nat} {c u : Nat} (h : u < q.length) : gA (q ++ [c]) u = gA q u := by rw [gA_app, if_neg (by omega)]
theorem gA_snoc {q : List Nat} {c : Nat} : gA (q ++ [c]) q.length = c := by rw [gA_app, if_pos rfl]
theorem LieP.snoc {w : Mem} {q : List Nat} {c : Nat} (h : LieP w q) (hc : rI w 113 q.length = nI c) : LieP w (q ++ [c]) := fun u hu => by
  rw [List.length_append, List.length_singleton] at hu
  by_cases e : u = q.length
  · rw [e, gA_snoc]; exact hc
  · rw [gA_snoc_l (by omega)]; exact h u (by omega)
theorem LieP.init {w : Mem} {q : List Nat} {c : Nat} (h : LieP w (q ++ [c])) : LieP w q ∧ rI w 113 q.length = nI c := by
  refine ⟨fun u hu => ?_, ?_⟩
  · have := h u (by rw [List.length_append, List.length_singleton]; omega)
    rw [gA_snoc_l hu] at this
    exact this
  · have := h q.length (by rw [List.length_append, List.length_singleton]; omega)
    rw [gA_snoc] at this
    exact this
theorem LieP.L {w : Mem} {q : List Nat} {k : Nat} {x : Int32} (h : LieP w q) (hk : q.length ≤ k) : LieP (sI w 113 k x) q := fun u hu => by
  rw [rI_sI, upd_eq, if_neg (by omega)]; exact h u hu
theorem LieP.D {w : Mem} {q : List Nat} {x : Int32} (h : LieP w q) : LieP (sI w 89 45 x) q := fun u hu => by
  rw [rI_sI_ne _ _ _ (by decide)]; exact h u hu
theorem mem_snoc {q : List Nat} {c N : Nat} (h : ∀ n ∈ q, n < N) (hc : c < N) : ∀ n ∈ q ++ [c], n < N := fun n hn => by
  rw [List.mem_append, List.mem_singleton] at hn
  rcases hn with hn | hn
  · exact h n hn
  · rw [hn]; exact hc
theorem nI_sa (c : Nat) : nI c - nI 1 + nI 1 = nI c := Int32.sub_add_cancel _ _
/-- where the search stands: what lies, and the node before which it looks on -/
def StP (w wk : Mem) (g : GC) (q : List Nat) (x : Int32) : Prop := FrI w wk ∧ rI wk 89 45 = nI q.length ∧ LieP wk q ∧ rI wk 113 q.length = x
theorem may_no {g : GC} {v c N m : Nat} (h : m.testBit c = (decide (c < N) && gMay g v c)) (hb : ¬ m.testBit c = true) (hc : c < N := by omega) : gMay g v c = false := by
  rw [h] at hb
  simpa [hc] using hb
theorem may_yes {g : GC} {v c N m : Nat} (h : m.testBit c = (decide (c < N) && gMay g v c)) (hb : m.testBit c = true) : gMay g v c = true := by
  rw [h] at hb
  simp at hb
  exact hb.2
theorem lev_isWay {E : EV} {X : XT} {w : Mem} {g : GC} {K : Option Value → Mem → Prop} (hX : CX E X m_M_isWay.2.1 m_M_isWay.1.cls m_M_isWay.2.2.1) (hF : FX E X m_M_isWay.2.2.2 3 0 0 K) (hG : MG w g) (hW : WG g) (hLd : Laid w g) : ∀ (r : Nat) (d : Nat) (q : List Nat) (c : Nat) (wk : Mem), c + d = gN g → q.length + r + 1 = gV g → (∀ n ∈ q, n < gN g) → StP w wk g q (nI c) → (∀ (y : List Nat) (t : List (List Nat)) (w2 : Mem), FrI w w2 → remAt g r q c = y :: t → LieP w2 y → rI w2 89 45 = nI (gV g - 1) → y.length = gV g → (∀ n ∈ y, n < gN g) → remUp g 0 y.reverse = t ++ remUp g (r + 1) q.reverse → G0 E X 0 0 193 [.ref 89, .int (nI (gV g))] [] w2) → (∀ w2 : Mem, FrI w w2 → remAt g r q c = [] → LieP w2 q → rI w2 89 45 = nI q.length - nI 1 → G0 E X 0 0 54 [.ref 89, .int (nI (gV g))] [] w2) → G0 E X 0 0 74 [.ref 89, .int (nI (gV g))] [] wk := by
  have hgn := hW.n
  have hgv := hW.v
  have go54 : ∀ (q : List Nat) (c : Nat) (wk : Mem), q.length < gV g → StP w wk g q (nI c - nI 1) → (∀ w2, StP w w2 g q (nI c) → G0 E X 0 0 74 [.ref 89, .int (nI (gV g))] [] w2) → G0 E X 0 0 54 [.ref 89, .int (nI (gV g))] [] wk := by
    rintro q c wk hql ⟨h1, h2, h3, h4⟩ hk
    refine g_aload0 hX d_M_isWay_54 ?_
    refine g_getI hX d_M_isWay_55 fl_M_465 (lv_89 _) ?_
    refine g_topi h2 ?_
    refine g_if_lt hX d_M_isWay_58 (fun h => absurd h (nI_pos (by omega))) (fun c0 => ?_)
    refine g_aload0 hX d_M_isWay_61 ?_
    refine g_getF hX d_M_isWay_62 fl_M_111 (lv_89 _) ?_
    refine g_aload0 hX d_M_isWay_65 ?_
    refine g_getI hX d_M_isWay_66 fl_M_465 (lv_89 _) ?_
    refine g_topi h2 ?_
    refine g_dup2 hX d_M_isWay_69 rfl rfl ?_
    refine g_iald hX d_M_isWay_70 (lv_113 _) rfl (by omega) ?_
    refine g_topi h4 ?_
    refine g_iconst (v := nI 1) hX d_M_isWay_71 rfl ?_
    refine g_iadd hX d_M_isWay_72 ?_
    refine g_topi (nI_sa c) ?_
    refine g_iast hX d_M_isWay_73 (lv_113 _) rfl (by omega) ?_
    exact hk _ ⟨h1.L, by rw [rI_sI_ne _ _ _ (by decide)]; exact h2, h3.L (Nat.le_refl _), by rw [rI_sI, upd_eq, if_pos rfl]⟩
  intro r
  induction r with
  | zero =>
    intro d
    induction d with
    | zero =>
      intro q c wk hcd hr hq hs hf hb
      obtain ⟨h1, h2, h3, h4⟩ := hs
      have hql : q.length < gV g := by omega
      have hRk : MRow (rI wk 91) g := by rw [h1.1 91 (by decide) (by decide)]; exact hG.1
      have hLk := hLd.I h1
      have hml := mayN_lt g q.length (gN g) hgn
      refine g_aload0 hX d_M_isWay_74 ?_
      refine g_getF hX d_M_isWay_75 fl_M_111 (lv_89 _) ?_
      refine g_aload0 hX d_M_isWay_78 ?_
      refine g_getI hX d_M_isWay_79 fl_M_465 (lv_89 _) ?_
      refine g_topi h2 ?_
      refine g_iald hX d_M_isWay_82 (lv_113 _) rfl (by omega) ?_
      refine g_topi h4 ?_
      refine g_aload0 hX d_M_isWay_83 ?_
      refine g_getF hX d_M_isWay_84 fl_M_13 (lv_89 _) ?_
      refine g_iconst (v := nI 0) hX d_M_isWay_87 rfl ?_
      refine g_iald hX d_M_isWay_88 (lv_91 _) rfl (by decide) ?_
      refine g_topi hRk.n ?_
      refine g_icmpN_ge hX d_M_isWay_89 (by omega) (by omega) (fun c0 => ?_) (fun h => absurd h (by omega))
      refine g_aload0 hX d_M_isWay_152 ?_
      refine g_getF hX d_M_isWay_153 fl_M_111 (lv_89 _) ?_
      refine g_aload0 hX d_M_isWay_156 ?_
      refine g_getI hX d_M_isWay_157 fl_M_465 (lv_89 _) ?_
      refine g_topi h2 ?_
      refine g_iald hX d_M_isWay_160 (lv_113 _) rfl (by omega) ?_
      refine g_topi h4 ?_
      refine g_aload0 hX d_M_isWay_161 ?_
      refine g_getF hX d_M_isWay_162 fl_M_13 (lv_89 _) ?_
      refine g_iconst (v := nI 0) hX d_M_isWay_165 rfl ?_
      refine g_iald hX d_M_isWay_166 (lv_91 _) rfl (by decide) ?_
      refine g_topi hRk.n ?_
      refine g_icmpN_ne hX d_M_isWay_167 (by omega) (by omega) (fun h => absurd (by omega) h) (fun c1 => ?_)
      refine g_aload0 hX d_M_isWay_170 ?_
      refine g_dup hX d_M_isWay_171 rfl ?_
      refine g_getI hX d_M_isWay_172 fl_M_465 (lv_89 _) ?_
      refine g_topi h2 ?_
      refine g_iconst (v := nI 1) hX d_M_isWay_175 rfl ?_
      refine g_isub hX d_M_isWay_176 ?_
      refine g_putI hX d_M_isWay_177 fl_M_465 (lv_89 _) ?_
      refine g_goto hX d_M_isWay_180 ?_
      exact hb _ h1.D (remAt_N (by omega)) h3.D (by rw [rI_sI, upd_eq, if_pos rfl])
    | succ d ihd =>
      intro q c wk hcd hr hq hs hf hb
      have ihc := ihd q
      obtain ⟨h1, h2, h3, h4⟩ := hs
      have hql : q.length < gV g := by omega
      have hRk : MRow (rI wk 91) g := by rw [h1.1 91 (by decide) (by decide)]; exact hG.1
      have hLk := hLd.I h1
      have hml := mayN_lt g q.length (gN g) hgn
      refine g_aload0 hX d_M_isWay_74 ?_
      refine g_getF hX d_M_isWay_75 fl_M_111 (lv_89 _) ?_
      refine g_aload0 hX d_M_isWay_78 ?_
      refine g_getI hX d_M_isWay_79 fl_M_465 (lv_89 _) ?_
      refine g_topi h2 ?_
      refine g_iald hX d_M_isWay_82 (lv_113 _) rfl (by omega) ?_
      refine g_topi h4 ?_
      refine g_aload0 hX d_M_isWay_83 ?_
      refine g_getF hX d_M_isWay_84 fl_M_13 (lv_89 _) ?_
      refine g_iconst (v := nI 0) hX d_M_isWay_87 rfl ?_
      refine g_iald hX d_M_isWay_88 (lv_91 _) rfl (by decide) ?_
      refine g_topi hRk.n ?_
      refine g_icmpN_ge hX d_M_isWay_89 (by omega) (by omega) (fun h => absurd h (by omega)) (fun c0 => ?_)
      have hml2 := mayN_tb g q.length c (gN g)
      refine g_aload0 hX d_M_isWay_92 ?_
      refine g_getF hX d_M_isWay_93 fl_M_105 (lv_89 _) ?_
      refine g_aload0 hX d_M_isWay_96 ?_
      refine g_getI hX d_M_isWay_97 fl_M_465 (lv_89 _) ?_
      refine g_topi h2 ?_
      refine g_iald hX d_M_isWay_100 (lv_111 _) rfl (by omega) ?_
      refine g_topi (hLk.2.1 q.length hql) ?_
      refine g_aload0 hX d_M_isWay_101 ?_
      refine g_getF hX d_M_isWay_102 fl_M_111 (lv_89 _) ?_
      refine g_aload0 hX d_M_isWay_105 ?_
      refine g_getI hX d_M_isWay_106 fl_M_465 (lv_89 _) ?_
      refine g_topi h2 ?_
      refine g_iald hX d_M_isWay_109 (lv_113 _) rfl (by omega) ?_
      refine g_topi h4 ?_
      refine g_callS (As := [_, _]) hX hF.1 d_M_isWay_110 ml_M_468 cf_M_is cs_M_is rfl (c_M_is (by omega) (by omega)) (by omega) (by omega) (by omega) (Nat.le_of_ble_eq_true rfl) ?_
      refine ret_k ?_
      refine g_ifB_eq hX d_M_isWay_113 (fun e113 => ?_) (fun e113 => ?_)
      · refine g_aload0 hX d_M_isWay_136 ?_
        refine g_getF hX d_M_isWay_137 fl_M_111 (lv_89 _) ?_
        refine g_aload0 hX d_M_isWay_140 ?_
        refine g_getI hX d_M_isWay_141 fl_M_465 (lv_89 _) ?_
        refine g_topi h2 ?_
        refine g_dup2 hX d_M_isWay_144 rfl rfl ?_
        refine g_iald hX d_M_isWay_145 (lv_113 _) rfl (by omega) ?_
        refine g_topi h4 ?_
        refine g_iconst (v := nI 1) hX d_M_isWay_146 rfl ?_
        refine g_iaddN hX d_M_isWay_147 ?_
        refine g_iast hX d_M_isWay_148 (lv_113 _) rfl (by omega) ?_
        refine g_goto hX d_M_isWay_149 ?_
        exact ihc (c + 1) _ (by omega) hr hq ⟨h1.L, by rw [rI_sI_ne _ _ _ (by decide)]; exact h2, h3.L (Nat.le_refl _), by rw [rI_sI, upd_eq, if_pos rfl]⟩ (fun y t w2 z1 z2 => hf y t w2 z1 ((remAt_no (by omega) (by unfold okN; rw [show gMay g q.length c = false from may_no hml2 e113, Bool.false_and])).trans z2)) (fun w2 z1 z2 => hb w2 z1 ((remAt_no (by omega) (by unfold okN; rw [show gMay g q.length c = false from may_no hml2 e113, Bool.false_and])).trans z2))
      · have hmy : gMay g q.length c = true := may_yes hml2 e113
        refine g_aload0 hX d_M_isWay_116 ?_
        refine g_aload0 hX d_M_isWay_117 ?_
        refine g_getI hX d_M_isWay_118 fl_M_465 (lv_89 _) ?_
        refine g_topi h2 ?_
        refine g_aload0 hX d_M_isWay_121 ?_
        refine g_getF hX d_M_isWay_122 fl_M_111 (lv_89 _) ?_
        refine g_aload0 hX d_M_isWay_125 ?_
        refine g_getI hX d_M_isWay_126 fl_M_465 (lv_89 _) ?_
        refine g_topi h2 ?_
        refine g_iald hX d_M_isWay_129 (lv_113 _) rfl (by omega) ?_
        refine g_topi h4 ?_
        refine g_callV (As := [_, _]) hX hF.1 d_M_isWay_130 ml_M_471 cf_M_fits cv_M_fits rfl rfl (c_M_fits (w := wk) (g := g) (q := q) hRk hW hLk.1 hql (by omega) (fun u hu => ⟨h3 u hu, by have := hq _ (gA_mem hu); omega⟩)) (rcv_obj hX (lv_89 _) rfl rfl) (by omega) (by omega) (by omega) (Nat.le_of_ble_eq_true rfl) ?_
        refine ret_k ?_
        refine g_ifB_ne hX d_M_isWay_133 (fun e133 => ?_) (fun e133 => ?_)
        · have hok : okN g q c = true := by unfold okN; rw [hmy, e133]; rfl
          refine g_aload0 hX d_M_isWay_152 ?_
          refine g_getF hX d_M_isWay_153 fl_M_111 (lv_89 _) ?_
          refine g_aload0 hX d_M_isWay_156 ?_
          refine g_getI hX d_M_isWay_157 fl_M_465 (lv_89 _) ?_
          refine g_topi h2 ?_
          refine g_iald hX d_M_isWay_160 (lv_113 _) rfl (by omega) ?_
          refine g_topi h4 ?_
          refine g_aload0 hX d_M_isWay_161 ?_
          refine g_getF hX d_M_isWay_162 fl_M_13 (lv_89 _) ?_
          refine g_iconst (v := nI 0) hX d_M_isWay_165 rfl ?_
          refine g_iald hX d_M_isWay_166 (lv_91 _) rfl (by decide) ?_
          refine g_topi hRk.n ?_
          refine g_icmpN_ne hX d_M_isWay_167 (by omega) (by omega) (fun c3 => ?_) (fun h => absurd h (by omega))
          refine g_aload0 hX d_M_isWay_183 ?_
          refine g_getI hX d_M_isWay_184 fl_M_465 (lv_89 _) ?_
          refine g_topi h2 ?_
          refine g_iload1 hX d_M_isWay_187 ?_
          refine g_iconst (v := nI 1) hX d_M_isWay_188 rfl ?_
          refine g_isubN hX d_M_isWay_189 (by omega) ?_
          refine g_icmpN_ne hX d_M_isWay_190 (by omega) (by omega) (fun h => absurd (by omega) h) (fun c4 => ?_)
          refine hf (q ++ [c]) (remAt g 0 q (c + 1)) wk h1 ?_ (h3.snoc h4) ?_ ?_ (mem_snoc hq (by omega)) ?_
          · rw [remAt_yes (by omega) hok]; rfl
          · exact h2.trans (congrArg nI (by omega))
          · rw [List.length_append, List.length_singleton]; omega
          · exact remUp_app g 0 q c
        · refine g_aload0 hX d_M_isWay_136 ?_
          refine g_getF hX d_M_isWay_137 fl_M_111 (lv_89 _) ?_
          refine g_aload0 hX d_M_isWay_140 ?_
          refine g_getI hX d_M_isWay_141 fl_M_465 (lv_89 _) ?_
          refine g_topi h2 ?_
          refine g_dup2 hX d_M_isWay_144 rfl rfl ?_
          refine g_iald hX d_M_isWay_145 (lv_113 _) rfl (by omega) ?_
          refine g_topi h4 ?_
          refine g_iconst (v := nI 1) hX d_M_isWay_146 rfl ?_
          refine g_iaddN hX d_M_isWay_147 ?_
          refine g_iast hX d_M_isWay_148 (lv_113 _) rfl (by omega) ?_
          refine g_goto hX d_M_isWay_149 ?_
          exact ihc (c + 1) _ (by omega) hr hq ⟨h1.L, by rw [rI_sI_ne _ _ _ (by decide)]; exact h2, h3.L (Nat.le_refl _), by rw [rI_sI, upd_eq, if_pos rfl]⟩ (fun y t w2 z1 z2 => hf y t w2 z1 ((remAt_no (by omega) (by unfold okN; rw [show fitN g q q.length c q.length = false from Bool.eq_false_iff.mpr e133, Bool.and_false])).trans z2)) (fun w2 z1 z2 => hb w2 z1 ((remAt_no (by omega) (by unfold okN; rw [show fitN g q q.length c q.length = false from Bool.eq_false_iff.mpr e133, Bool.and_false])).trans z2))
  | succ r ihr =>
    intro d
    induction d with
    | zero =>
      intro q c wk hcd hr hq hs hf hb
      obtain ⟨h1, h2, h3, h4⟩ := hs
      have hql : q.length < gV g := by omega
      have hRk : MRow (rI wk 91) g := by rw [h1.1 91 (by decide) (by decide)]; exact hG.1
      have hLk := hLd.I h1
      have hml := mayN_lt g q.length (gN g) hgn
      refine g_aload0 hX d_M_isWay_74 ?_
      refine g_getF hX d_M_isWay_75 fl_M_111 (lv_89 _) ?_
      refine g_aload0 hX d_M_isWay_78 ?_
      refine g_getI hX d_M_isWay_79 fl_M_465 (lv_89 _) ?_
      refine g_topi h2 ?_
      refine g_iald hX d_M_isWay_82 (lv_113 _) rfl (by omega) ?_
      refine g_topi h4 ?_
      refine g_aload0 hX d_M_isWay_83 ?_
      refine g_getF hX d_M_isWay_84 fl_M_13 (lv_89 _) ?_
      refine g_iconst (v := nI 0) hX d_M_isWay_87 rfl ?_
      refine g_iald hX d_M_isWay_88 (lv_91 _) rfl (by decide) ?_
      refine g_topi hRk.n ?_
      refine g_icmpN_ge hX d_M_isWay_89 (by omega) (by omega) (fun c0 => ?_) (fun h => absurd h (by omega))
      refine g_aload0 hX d_M_isWay_152 ?_
      refine g_getF hX d_M_isWay_153 fl_M_111 (lv_89 _) ?_
      refine g_aload0 hX d_M_isWay_156 ?_
      refine g_getI hX d_M_isWay_157 fl_M_465 (lv_89 _) ?_
      refine g_topi h2 ?_
      refine g_iald hX d_M_isWay_160 (lv_113 _) rfl (by omega) ?_
      refine g_topi h4 ?_
      refine g_aload0 hX d_M_isWay_161 ?_
      refine g_getF hX d_M_isWay_162 fl_M_13 (lv_89 _) ?_
      refine g_iconst (v := nI 0) hX d_M_isWay_165 rfl ?_
      refine g_iald hX d_M_isWay_166 (lv_91 _) rfl (by decide) ?_
      refine g_topi hRk.n ?_
      refine g_icmpN_ne hX d_M_isWay_167 (by omega) (by omega) (fun h => absurd (by omega) h) (fun c1 => ?_)
      refine g_aload0 hX d_M_isWay_170 ?_
      refine g_dup hX d_M_isWay_171 rfl ?_
      refine g_getI hX d_M_isWay_172 fl_M_465 (lv_89 _) ?_
      refine g_topi h2 ?_
      refine g_iconst (v := nI 1) hX d_M_isWay_175 rfl ?_
      refine g_isub hX d_M_isWay_176 ?_
      refine g_putI hX d_M_isWay_177 fl_M_465 (lv_89 _) ?_
      refine g_goto hX d_M_isWay_180 ?_
      exact hb _ h1.D (remAt_N (by omega)) h3.D (by rw [rI_sI, upd_eq, if_pos rfl])
    | succ d ihd =>
      intro q c wk hcd hr hq hs hf hb
      have ihc := ihd q
      obtain ⟨h1, h2, h3, h4⟩ := hs
      have hql : q.length < gV g := by omega
      have hRk : MRow (rI wk 91) g := by rw [h1.1 91 (by decide) (by decide)]; exact hG.1
      have hLk := hLd.I h1
      have hml := mayN_lt g q.length (gN g) hgn
      refine g_aload0 hX d_M_isWay_74 ?_
      refine g_getF hX d_M_isWay_75 fl_M_111 (lv_89 _) ?_
      refine g_aload0 hX d_M_isWay_78 ?_
      refine g_getI hX d_M_isWay_79 fl_M_465 (lv_89 _) ?_
      refine g_topi h2 ?_
      refine g_iald hX d_M_isWay_82 (lv_113 _) rfl (by omega) ?_
      refine g_topi h4 ?_
      refine g_aload0 hX d_M_isWay_83 ?_
      refine g_getF hX d_M_isWay_84 fl_M_13 (lv_89 _) ?_
      refine g_iconst (v := nI 0) hX d_M_isWay_87 rfl ?_
      refine g_iald hX d_M_isWay_88 (lv_91 _) rfl (by decide) ?_
      refine g_topi hRk.n ?_
      refine g_icmpN_ge hX d_M_isWay_89 (by omega) (by omega) (fun h => absurd h (by omega)) (fun c0 => ?_)
      have hml2 := mayN_tb g q.length c (gN g)
      refine g_aload0 hX d_M_isWay_92 ?_
      refine g_getF hX d_M_isWay_93 fl_M_105 (lv_89 _) ?_
      refine g_aload0 hX d_M_isWay_96 ?_
      refine g_getI hX d_M_isWay_97 fl_M_465 (lv_89 _) ?_
      refine g_topi h2 ?_
      refine g_iald hX d_M_isWay_100 (lv_111 _) rfl (by omega) ?_
      refine g_topi (hLk.2.1 q.length hql) ?_
      refine g_aload0 hX d_M_isWay_101 ?_
      refine g_getF hX d_M_isWay_102 fl_M_111 (lv_89 _) ?_
      refine g_aload0 hX d_M_isWay_105 ?_
      refine g_getI hX d_M_isWay_106 fl_M_465 (lv_89 _) ?_
      refine g_topi h2 ?_
      refine g_iald hX d_M_isWay_109 (lv_113 _) rfl (by omega) ?_
      refine g_topi h4 ?_
      refine g_callS (As := [_, _]) hX hF.1 d_M_isWay_110 ml_M_468 cf_M_is cs_M_is rfl (c_M_is (by omega) (by omega)) (by omega) (by omega) (by omega) (Nat.le_of_ble_eq_true rfl) ?_
      refine ret_k ?_
      refine g_ifB_eq hX d_M_isWay_113 (fun e113 => ?_) (fun e113 => ?_)
      · refine g_aload0 hX d_M_isWay_136 ?_
        refine g_getF hX d_M_isWay_137 fl_M_111 (lv_89 _) ?_
        refine g_aload0 hX d_M_isWay_140 ?_
        refine g_getI hX d_M_isWay_141 fl_M_465 (lv_89 _) ?_
        refine g_topi h2 ?_
        refine g_dup2 hX d_M_isWay_144 rfl rfl ?_
        refine g_iald hX d_M_isWay_145 (lv_113 _) rfl (by omega) ?_
        refine g_topi h4 ?_
        refine g_iconst (v := nI 1) hX d_M_isWay_146 rfl ?_
        refine g_iaddN hX d_M_isWay_147 ?_
        refine g_iast hX d_M_isWay_148 (lv_113 _) rfl (by omega) ?_
        refine g_goto hX d_M_isWay_149 ?_
        exact ihc (c + 1) _ (by omega) hr hq ⟨h1.L, by rw [rI_sI_ne _ _ _ (by decide)]; exact h2, h3.L (Nat.le_refl _), by rw [rI_sI, upd_eq, if_pos rfl]⟩ (fun y t w2 z1 z2 => hf y t w2 z1 ((remAt_no (by omega) (by unfold okN; rw [show gMay g q.length c = false from may_no hml2 e113, Bool.false_and])).trans z2)) (fun w2 z1 z2 => hb w2 z1 ((remAt_no (by omega) (by unfold okN; rw [show gMay g q.length c = false from may_no hml2 e113, Bool.false_and])).trans z2))
      · have hmy : gMay g q.length c = true := may_yes hml2 e113
        refine g_aload0 hX d_M_isWay_116 ?_
        refine g_aload0 hX d_M_isWay_117 ?_
        refine g_getI hX d_M_isWay_118 fl_M_465 (lv_89 _) ?_
        refine g_topi h2 ?_
        refine g_aload0 hX d_M_isWay_121 ?_
        refine g_getF hX d_M_isWay_122 fl_M_111 (lv_89 _) ?_
        refine g_aload0 hX d_M_isWay_125 ?_
        refine g_getI hX d_M_isWay_126 fl_M_465 (lv_89 _) ?_
        refine g_topi h2 ?_
        refine g_iald hX d_M_isWay_129 (lv_113 _) rfl (by omega) ?_
        refine g_topi h4 ?_
        refine g_callV (As := [_, _]) hX hF.1 d_M_isWay_130 ml_M_471 cf_M_fits cv_M_fits rfl rfl (c_M_fits (w := wk) (g := g) (q := q) hRk hW hLk.1 hql (by omega) (fun u hu => ⟨h3 u hu, by have := hq _ (gA_mem hu); omega⟩)) (rcv_obj hX (lv_89 _) rfl rfl) (by omega) (by omega) (by omega) (Nat.le_of_ble_eq_true rfl) ?_
        refine ret_k ?_
        refine g_ifB_ne hX d_M_isWay_133 (fun e133 => ?_) (fun e133 => ?_)
        · have hok : okN g q c = true := by unfold okN; rw [hmy, e133]; rfl
          refine g_aload0 hX d_M_isWay_152 ?_
          refine g_getF hX d_M_isWay_153 fl_M_111 (lv_89 _) ?_
          refine g_aload0 hX d_M_isWay_156 ?_
          refine g_getI hX d_M_isWay_157 fl_M_465 (lv_89 _) ?_
          refine g_topi h2 ?_
          refine g_iald hX d_M_isWay_160 (lv_113 _) rfl (by omega) ?_
          refine g_topi h4 ?_
          refine g_aload0 hX d_M_isWay_161 ?_
          refine g_getF hX d_M_isWay_162 fl_M_13 (lv_89 _) ?_
          refine g_iconst (v := nI 0) hX d_M_isWay_165 rfl ?_
          refine g_iald hX d_M_isWay_166 (lv_91 _) rfl (by decide) ?_
          refine g_topi hRk.n ?_
          refine g_icmpN_ne hX d_M_isWay_167 (by omega) (by omega) (fun c3 => ?_) (fun h => absurd h (by omega))
          refine g_aload0 hX d_M_isWay_183 ?_
          refine g_getI hX d_M_isWay_184 fl_M_465 (lv_89 _) ?_
          refine g_topi h2 ?_
          refine g_iload1 hX d_M_isWay_187 ?_
          refine g_iconst (v := nI 1) hX d_M_isWay_188 rfl ?_
          refine g_isubN hX d_M_isWay_189 (by omega) ?_
          refine g_icmpN_ne hX d_M_isWay_190 (by omega) (by omega) (fun c4 => ?_) (fun h => absurd h (by omega))
          refine g_aload0 hX d_M_isWay_195 ?_
          refine g_dup hX d_M_isWay_196 rfl ?_
          refine g_getI hX d_M_isWay_197 fl_M_465 (lv_89 _) ?_
          refine g_topi h2 ?_
          refine g_iconst (v := nI 1) hX d_M_isWay_200 rfl ?_
          refine g_iaddN hX d_M_isWay_201 ?_
          refine g_putI hX d_M_isWay_202 fl_M_465 (lv_89 _) ?_
          refine g_aload0 hX d_M_isWay_205 ?_
          refine g_getF hX d_M_isWay_206 fl_M_111 (lv_89 _) ?_
          refine g_aload0 hX d_M_isWay_209 ?_
          refine g_getI hX d_M_isWay_210 fl_M_465 (lv_89 _) ?_
          refine g_topi (show rI (sI wk 89 45 (nI (q.length + 1))) 89 45 = nI (q.length + 1) by rw [rI_sI, upd_eq, if_pos rfl]) ?_
          refine g_iconst (v := -1) hX d_M_isWay_213 rfl ?_
          refine g_iast hX d_M_isWay_214 (lv_113 _) rfl (by omega) ?_
          refine g_goto hX d_M_isWay_215 ?_
          refine go54 (q ++ [c]) 0 _ (by rw [List.length_append, List.length_singleton]; omega) ⟨h1.D.L, by rw [rI_sI_ne _ _ _ (by decide), rI_sI, upd_eq, if_pos rfl, List.length_append]; rfl, (h3.snoc h4).D.L (by rw [List.length_append, List.length_singleton]; exact Nat.le_refl _), by rw [List.length_append, List.length_singleton, rI_sI, upd_eq, if_pos rfl]; decide⟩ (fun w2 hw2 => ihr (gN g) (q ++ [c]) 0 w2 (by omega) (by rw [List.length_append, List.length_singleton]; omega) (mem_snoc hq (by omega)) hw2 (fun y t w3 z1 z2 z3 z4 z5 z6 z7 => ?_) (fun w3 z1 z2 z3 z4 => ?_))
          · refine hf y (t ++ remAt g (r + 1) q (c + 1)) w3 z1 ?_ z3 z4 z5 z6 ?_
            · rw [remAt_yes (by omega) hok, remAt_0, z2]; rfl
            · rw [z7, remUp_app, List.append_assoc]
          · obtain ⟨y1, y2⟩ := z3.init
            refine go54 q (c + 1) w3 hql ⟨z1, ?_, y1, by rw [y2, m1_nI]⟩ (fun w4 hw4 => ihc (c + 1) w4 (by omega) hr hq hw4 (fun y t w5 x1 x2 => hf y t w5 x1 ?_) (fun w5 x1 x2 => hb w5 x1 ?_))
            · rw [z4, List.length_append, List.length_singleton, m1_nI]
            · rw [remAt_yes (by omega) hok, remAt_0, z2]; exact x2
            · rw [remAt_yes (by omega) hok, remAt_0, z2]; exact x2
        · refine g_aload0 hX d_M_isWay_136 ?_
          refine g_getF hX d_M_isWay_137 fl_M_111 (lv_89 _) ?_
          refine g_aload0 hX d_M_isWay_140 ?_
          refine g_getI hX d_M_isWay_141 fl_M_465 (lv_89 _) ?_
          refine g_topi h2 ?_
          refine g_dup2 hX d_M_isWay_144 rfl rfl ?_
          refine g_iald hX d_M_isWay_145 (lv_113 _) rfl (by omega) ?_
          refine g_topi h4 ?_
          refine g_iconst (v := nI 1) hX d_M_isWay_146 rfl ?_
          refine g_iaddN hX d_M_isWay_147 ?_
          refine g_iast hX d_M_isWay_148 (lv_113 _) rfl (by omega) ?_
          refine g_goto hX d_M_isWay_149 ?_
          exact ihc (c + 1) _ (by omega) hr hq ⟨h1.L, by rw [rI_sI_ne _ _ _ (by decide)]; exact h2, h3.L (Nat.le_refl _), by rw [rI_sI, upd_eq, if_pos rfl]⟩ (fun y t w2 z1 z2 => hf y t w2 z1 ((remAt_no (by omega) (by unfold okN; rw [show fitN g q q.length c q.length = false from Bool.eq_false_iff.mpr e133, Bool.and_false])).trans z2)) (fun w2 z1 z2 => hb w2 z1 ((remAt_no (by omega) (by unfold okN; rw [show fitN g q q.length c q.length = false from Bool.eq_false_iff.mpr e133, Bool.and_false])).trans z2))
