def m_M_row : MR := (⟨"SubgraphDeskModel", "row", "()I"⟩, prog_14_method_31_code, 5, (some .int))
theorem cf_M_row : CF m_M_row 0 := ⟨gd 1801 (by decide +kernel) rfl, gd 151 (by decide +kernel) rfl, by decide +kernel, by decide, by decide +kernel⟩
theorem cv_M_row : CV m_M_row := ⟨gd 1799 (by decide +kernel) rfl, gd 1800 (by decide +kernel) rfl⟩
theorem d_M_row_0 : Dc prog_14_method_31_code 0 (.aload_n 0) 1 1 := ⟨by decide +kernel, rfl⟩
theorem d_M_row_1 : Dc prog_14_method_31_code 1 (.iconst 0) 1 2 := ⟨by decide +kernel, rfl⟩
theorem d_M_row_2 : Dc prog_14_method_31_code 2 (.putfield 170) 3 5 := ⟨by decide +kernel, rfl⟩
theorem d_M_row_5 : Dc prog_14_method_31_code 5 (.aload_n 0) 1 6 := ⟨by decide +kernel, rfl⟩
theorem d_M_row_6 : Dc prog_14_method_31_code 6 (.getfield 243) 3 9 := ⟨by decide +kernel, rfl⟩
theorem d_M_row_9 : Dc prog_14_method_31_code 9 (.istore_n 1) 1 10 := ⟨by decide +kernel, rfl⟩
theorem d_M_row_10 : Dc prog_14_method_31_code 10 (.aload_n 0) 1 11 := ⟨by decide +kernel, rfl⟩
theorem d_M_row_11 : Dc prog_14_method_31_code 11 (.iconst 0) 1 12 := ⟨by decide +kernel, rfl⟩
theorem d_M_row_12 : Dc prog_14_method_31_code 12 (.putfield 243) 3 15 := ⟨by decide +kernel, rfl⟩
theorem d_M_row_15 : Dc prog_14_method_31_code 15 (.iload_n 1) 1 16 := ⟨by decide +kernel, rfl⟩
theorem d_M_row_16 : Dj prog_14_method_31_code 16 (.ifCond .ne 10) 19 10 26 := ⟨by decide +kernel, rfl, rfl⟩
theorem d_M_row_19 : Dc prog_14_method_31_code 19 (.aload_n 0) 1 20 := ⟨by decide +kernel, rfl⟩
theorem d_M_row_20 : Dc prog_14_method_31_code 20 (.bipush (-6)) 2 22 := ⟨by decide +kernel, rfl⟩
theorem d_M_row_22 : Dc prog_14_method_31_code 22 (.invokevirtual 179) 3 25 := ⟨by decide +kernel, rfl⟩
theorem d_M_row_25 : Dc prog_14_method_31_code 25 (.ireturn) 1 26 := ⟨by decide +kernel, rfl⟩
theorem d_M_row_26 : Dc prog_14_method_31_code 26 (.aload_n 0) 1 27 := ⟨by decide +kernel, rfl⟩
theorem d_M_row_27 : Dc prog_14_method_31_code 27 (.iconst 0) 1 28 := ⟨by decide +kernel, rfl⟩
theorem d_M_row_28 : Dc prog_14_method_31_code 28 (.putfield 246) 3 31 := ⟨by decide +kernel, rfl⟩
theorem d_M_row_31 : Dc prog_14_method_31_code 31 (.iconst 0) 1 32 := ⟨by decide +kernel, rfl⟩
theorem d_M_row_32 : Dc prog_14_method_31_code 32 (.istore_n 2) 1 33 := ⟨by decide +kernel, rfl⟩
theorem d_M_row_33 : Dc prog_14_method_31_code 33 (.iconst 0) 1 34 := ⟨by decide +kernel, rfl⟩
theorem d_M_row_34 : Dc prog_14_method_31_code 34 (.istore_n 3) 1 35 := ⟨by decide +kernel, rfl⟩
theorem d_M_row_35 : Dc prog_14_method_31_code 35 (.iload_n 3) 1 36 := ⟨by decide +kernel, rfl⟩
theorem d_M_row_36 : Dc prog_14_method_31_code 36 (.iload_n 1) 1 37 := ⟨by decide +kernel, rfl⟩
theorem d_M_row_37 : Dj prog_14_method_31_code 37 (.if_icmp .ge 130) 40 130 167 := ⟨by decide +kernel, rfl, rfl⟩
theorem d_M_row_40 : Dc prog_14_method_31_code 40 (.iload_n 3) 1 41 := ⟨by decide +kernel, rfl⟩
theorem d_M_row_41 : Dc prog_14_method_31_code 41 (.iconst 1) 1 42 := ⟨by decide +kernel, rfl⟩
theorem d_M_row_42 : Dc prog_14_method_31_code 42 (.iadd) 1 43 := ⟨by decide +kernel, rfl⟩
theorem d_M_row_43 : Dc prog_14_method_31_code 43 (.iload_n 1) 1 44 := ⟨by decide +kernel, rfl⟩
theorem d_M_row_44 : Dj prog_14_method_31_code 44 (.if_icmp .ge 74) 47 74 118 := ⟨by decide +kernel, rfl, rfl⟩
theorem d_M_row_47 : Dc prog_14_method_31_code 47 (.aload_n 0) 1 48 := ⟨by decide +kernel, rfl⟩
theorem d_M_row_48 : Dc prog_14_method_31_code 48 (.aload_n 0) 1 49 := ⟨by decide +kernel, rfl⟩
theorem d_M_row_49 : Dc prog_14_method_31_code 49 (.getfield 35) 3 52 := ⟨by decide +kernel, rfl⟩
theorem d_M_row_52 : Dc prog_14_method_31_code 52 (.iload_n 3) 1 53 := ⟨by decide +kernel, rfl⟩
theorem d_M_row_53 : Dc prog_14_method_31_code 53 (.iaload) 1 54 := ⟨by decide +kernel, rfl⟩
theorem d_M_row_54 : Dc prog_14_method_31_code 54 (.invokevirtual 214) 3 57 := ⟨by decide +kernel, rfl⟩
theorem d_M_row_57 : Dj prog_14_method_31_code 57 (.ifCond .eq 61) 60 61 118 := ⟨by decide +kernel, rfl, rfl⟩
theorem d_M_row_60 : Dc prog_14_method_31_code 60 (.aload_n 0) 1 61 := ⟨by decide +kernel, rfl⟩
theorem d_M_row_61 : Dc prog_14_method_31_code 61 (.aload_n 0) 1 62 := ⟨by decide +kernel, rfl⟩
theorem d_M_row_62 : Dc prog_14_method_31_code 62 (.getfield 35) 3 65 := ⟨by decide +kernel, rfl⟩
theorem d_M_row_65 : Dc prog_14_method_31_code 65 (.iload_n 3) 1 66 := ⟨by decide +kernel, rfl⟩
theorem d_M_row_66 : Dc prog_14_method_31_code 66 (.iconst 1) 1 67 := ⟨by decide +kernel, rfl⟩
theorem d_M_row_67 : Dc prog_14_method_31_code 67 (.iadd) 1 68 := ⟨by decide +kernel, rfl⟩
theorem d_M_row_68 : Dc prog_14_method_31_code 68 (.iaload) 1 69 := ⟨by decide +kernel, rfl⟩
theorem d_M_row_69 : Dc prog_14_method_31_code 69 (.invokevirtual 214) 3 72 := ⟨by decide +kernel, rfl⟩
theorem d_M_row_72 : Dj prog_14_method_31_code 72 (.ifCond .eq 46) 75 46 118 := ⟨by decide +kernel, rfl, rfl⟩
theorem d_M_row_75 : Dc prog_14_method_31_code 75 (.aload_n 0) 1 76 := ⟨by decide +kernel, rfl⟩
theorem d_M_row_76 : Dc prog_14_method_31_code 76 (.getfield 35) 3 79 := ⟨by decide +kernel, rfl⟩
theorem d_M_row_79 : Dc prog_14_method_31_code 79 (.iload_n 3) 1 80 := ⟨by decide +kernel, rfl⟩
theorem d_M_row_80 : Dc prog_14_method_31_code 80 (.iaload) 1 81 := ⟨by decide +kernel, rfl⟩
theorem d_M_row_81 : Dc prog_14_method_31_code 81 (.aload_n 0) 1 82 := ⟨by decide +kernel, rfl⟩
theorem d_M_row_82 : Dc prog_14_method_31_code 82 (.getfield 35) 3 85 := ⟨by decide +kernel, rfl⟩
theorem d_M_row_85 : Dc prog_14_method_31_code 85 (.iload_n 3) 1 86 := ⟨by decide +kernel, rfl⟩
theorem d_M_row_86 : Dc prog_14_method_31_code 86 (.iconst 1) 1 87 := ⟨by decide +kernel, rfl⟩
theorem d_M_row_87 : Dc prog_14_method_31_code 87 (.iadd) 1 88 := ⟨by decide +kernel, rfl⟩
theorem d_M_row_88 : Dc prog_14_method_31_code 88 (.iaload) 1 89 := ⟨by decide +kernel, rfl⟩
theorem d_M_row_89 : Dj prog_14_method_31_code 89 (.if_icmp .eq 29) 92 29 118 := ⟨by decide +kernel, rfl, rfl⟩
theorem d_M_row_92 : Dc prog_14_method_31_code 92 (.aload_n 0) 1 93 := ⟨by decide +kernel, rfl⟩
theorem d_M_row_93 : Dc prog_14_method_31_code 93 (.aload_n 0) 1 94 := ⟨by decide +kernel, rfl⟩
theorem d_M_row_94 : Dc prog_14_method_31_code 94 (.getfield 35) 3 97 := ⟨by decide +kernel, rfl⟩
theorem d_M_row_97 : Dc prog_14_method_31_code 97 (.iload_n 3) 1 98 := ⟨by decide +kernel, rfl⟩
theorem d_M_row_98 : Dc prog_14_method_31_code 98 (.iaload) 1 99 := ⟨by decide +kernel, rfl⟩
theorem d_M_row_99 : Dc prog_14_method_31_code 99 (.aload_n 0) 1 100 := ⟨by decide +kernel, rfl⟩
theorem d_M_row_100 : Dc prog_14_method_31_code 100 (.getfield 35) 3 103 := ⟨by decide +kernel, rfl⟩
theorem d_M_row_103 : Dc prog_14_method_31_code 103 (.iload_n 3) 1 104 := ⟨by decide +kernel, rfl⟩
theorem d_M_row_104 : Dc prog_14_method_31_code 104 (.iconst 1) 1 105 := ⟨by decide +kernel, rfl⟩
theorem d_M_row_105 : Dc prog_14_method_31_code 105 (.iadd) 1 106 := ⟨by decide +kernel, rfl⟩
theorem d_M_row_106 : Dc prog_14_method_31_code 106 (.iaload) 1 107 := ⟨by decide +kernel, rfl⟩
theorem d_M_row_107 : Dc prog_14_method_31_code 107 (.invokevirtual 207) 3 110 := ⟨by decide +kernel, rfl⟩
theorem d_M_row_110 : Dc prog_14_method_31_code 110 (.iconst (-1)) 1 111 := ⟨by decide +kernel, rfl⟩
theorem d_M_row_111 : Dj prog_14_method_31_code 111 (.if_icmp .ne 7) 114 7 118 := ⟨by decide +kernel, rfl, rfl⟩
theorem d_M_row_114 : Dc prog_14_method_31_code 114 (.iconst 1) 1 115 := ⟨by decide +kernel, rfl⟩
theorem d_M_row_115 : Dj prog_14_method_31_code 115 (.goto 4) 118 4 119 := ⟨by decide +kernel, rfl, rfl⟩
theorem d_M_row_118 : Dc prog_14_method_31_code 118 (.iconst 0) 1 119 := ⟨by decide +kernel, rfl⟩
theorem d_M_row_119 : Dc prog_14_method_31_code 119 (.istore 4) 2 121 := ⟨by decide +kernel, rfl⟩
theorem d_M_row_121 : Dc prog_14_method_31_code 121 (.iload 4) 2 123 := ⟨by decide +kernel, rfl⟩
theorem d_M_row_123 : Dj prog_14_method_31_code 123 (.ifCond .eq 28) 126 28 151 := ⟨by decide +kernel, rfl, rfl⟩
theorem d_M_row_126 : Dc prog_14_method_31_code 126 (.aload_n 0) 1 127 := ⟨by decide +kernel, rfl⟩
theorem d_M_row_127 : Dc prog_14_method_31_code 127 (.aload_n 0) 1 128 := ⟨by decide +kernel, rfl⟩
theorem d_M_row_128 : Dc prog_14_method_31_code 128 (.getfield 35) 3 131 := ⟨by decide +kernel, rfl⟩
theorem d_M_row_131 : Dc prog_14_method_31_code 131 (.iload_n 3) 1 132 := ⟨by decide +kernel, rfl⟩
theorem d_M_row_132 : Dc prog_14_method_31_code 132 (.iaload) 1 133 := ⟨by decide +kernel, rfl⟩
theorem d_M_row_133 : Dc prog_14_method_31_code 133 (.aload_n 0) 1 134 := ⟨by decide +kernel, rfl⟩
theorem d_M_row_134 : Dc prog_14_method_31_code 134 (.getfield 35) 3 137 := ⟨by decide +kernel, rfl⟩
theorem d_M_row_137 : Dc prog_14_method_31_code 137 (.iload_n 3) 1 138 := ⟨by decide +kernel, rfl⟩
theorem d_M_row_138 : Dc prog_14_method_31_code 138 (.iconst 1) 1 139 := ⟨by decide +kernel, rfl⟩
theorem d_M_row_139 : Dc prog_14_method_31_code 139 (.iadd) 1 140 := ⟨by decide +kernel, rfl⟩
theorem d_M_row_140 : Dc prog_14_method_31_code 140 (.iaload) 1 141 := ⟨by decide +kernel, rfl⟩
theorem d_M_row_141 : Dc prog_14_method_31_code 141 (.invokevirtual 249) 3 144 := ⟨by decide +kernel, rfl⟩
theorem d_M_row_144 : Dc prog_14_method_31_code 144 (.pop) 1 145 := ⟨by decide +kernel, rfl⟩
theorem d_M_row_145 : Dc prog_14_method_31_code 145 (.iinc 2 1) 3 148 := ⟨by decide +kernel, rfl⟩
theorem d_M_row_148 : Dj prog_14_method_31_code 148 (.goto 13) 151 13 161 := ⟨by decide +kernel, rfl, rfl⟩
theorem d_M_row_151 : Dc prog_14_method_31_code 151 (.aload_n 0) 1 152 := ⟨by decide +kernel, rfl⟩
theorem d_M_row_152 : Dc prog_14_method_31_code 152 (.dup) 1 153 := ⟨by decide +kernel, rfl⟩
theorem d_M_row_153 : Dc prog_14_method_31_code 153 (.getfield 246) 3 156 := ⟨by decide +kernel, rfl⟩
theorem d_M_row_156 : Dc prog_14_method_31_code 156 (.iconst 1) 1 157 := ⟨by decide +kernel, rfl⟩
theorem d_M_row_157 : Dc prog_14_method_31_code 157 (.iadd) 1 158 := ⟨by decide +kernel, rfl⟩
theorem d_M_row_158 : Dc prog_14_method_31_code 158 (.putfield 246) 3 161 := ⟨by decide +kernel, rfl⟩
theorem d_M_row_161 : Dc prog_14_method_31_code 161 (.iinc 3 2) 3 164 := ⟨by decide +kernel, rfl⟩
theorem d_M_row_164 : Dj prog_14_method_31_code 164 (.goto (-129)) 167 (-129) 35 := ⟨by decide +kernel, rfl, rfl⟩
theorem d_M_row_167 : Dc prog_14_method_31_code 167 (.aload_n 0) 1 168 := ⟨by decide +kernel, rfl⟩
theorem d_M_row_168 : Dc prog_14_method_31_code 168 (.iload_n 2) 1 169 := ⟨by decide +kernel, rfl⟩
theorem d_M_row_169 : Dc prog_14_method_31_code 169 (.invokevirtual 194) 3 172 := ⟨by decide +kernel, rfl⟩
theorem d_M_row_172 : Dc prog_14_method_31_code 172 (.ireturn) 1 173 := ⟨by decide +kernel, rfl⟩
/-- a row's walk: only the edges and the smudges change -/
def FrB (w w2 : Mem) : Prop := (∀ a, a ≠ 91 → a ≠ 89 → rI w2 a = rI w a) ∧ (∀ k, k ≠ 11 → rI w2 89 k = rI w 89 k) ∧ w2.2 = w.2
theorem FrB.rf (w : Mem) : FrB w w := ⟨fun _ _ _ => rfl, fun _ _ => rfl, rfl⟩
theorem FrB.A {w w2 : Mem} {f : Nat → Int32} (h : FrB w w2) : FrB w (sA w2 91 f) := ⟨fun a h1 h2 => by rw [rI_sA_ne _ _ h1]; exact h.1 a h1 h2, fun k hk => by rw [rI_sA_ne _ _ (by decide)]; exact h.2.1 k hk, h.2.2⟩
theorem FrB.I {w w2 : Mem} {x : Int32} (h : FrB w w2) : FrB w (sI w2 89 11 x) := ⟨fun a h1 h2 => by rw [rI_sI_ne _ _ _ h2]; exact h.1 a h1 h2, fun k hk => by rw [rI_sI, upd_eq, if_neg hk]; exact h.2.1 k hk, h.2.2⟩
theorem FrB.M {w w2 : Mem} (h : FrB w w2) : FrM w w2 := ⟨fun a ha => h.1 a (by omega) (by omega), fun a ha => by unfold rJ; rw [h.2.2], by rw [h.2.2]⟩
theorem gEs_tog (g : GC) (es : List Nat) (a b : Nat) : gJoin (gEs g es) a b = gEs g (tog es (codeOf a b)) := rfl
theorem tog_new {es : List Nat} {c : Nat} (h : c ∉ es) : tog es c = es ++ [c] := by unfold tog; rw [if_neg h]
theorem drop_2 {t : List Nat} {k : Nat} (h : k + 1 < t.length) : t.drop k = gA t k :: gA t (k + 1) :: t.drop (k + 2) := by
  have h1 := gA_get (show k < t.length by omega)
  have h2 := gA_get h
  rw [List.drop_eq_getElem_cons (show k < t.length by omega), List.drop_eq_getElem_cons h]
  rw [List.getElem?_eq_getElem (show k < t.length by omega)] at h1
  rw [List.getElem?_eq_getElem h] at h2
  rw [Option.some.inj h1, Option.some.inj h2]
theorem drop_1 {t : List Nat} {k : Nat} (h : k + 1 = t.length) : t.drop k = [gA t k] := by
  have h1 := gA_get (show k < t.length by omega)
  rw [List.drop_eq_getElem_cons (show k < t.length by omega), List.drop_of_length_le (by omega)]
  rw [List.getElem?_eq_getElem (show k < t.length by omega)] at h1
  rw [Option.some.inj h1]
theorem rowGo_y {N a b : Nat} {t es : List Nat} {c m : Nat} (h : a < N ∧ b < N ∧ a ≠ b ∧ codeOf a b ∉ es) : rowGo N (a :: b :: t) (es, c, m) = rowGo N t (es ++ [codeOf a b], c + 1, m) := by
  rw [rowGo, if_pos h]
theorem rowGo_n {N a b : Nat} {t es : List Nat} {c m : Nat} (h : ¬ (a < N ∧ b < N ∧ a ≠ b ∧ codeOf a b ∉ es)) : rowGo N (a :: b :: t) (es, c, m) = rowGo N t (es, c, m + 1) := by
  rw [rowGo, if_neg h]
theorem rowGo_1 {N a : Nat} {es : List Nat} {c m : Nat} : rowGo N [a] (es, c, m) = rowGo N [] (es, c, m + 1) := rfl
theorem opRow_no {s : SG} (h : sTp s = []) : opRow s = sNo 6 s := by unfold opRow; rw [if_pos h]
theorem opRow_ok {s : SG} (h : ¬ sTp s = []) {r : List Nat × Nat × Nat} (hr : rowGo (gN (sG s)) (sTp s) (gE (sG s), 0, 0) = r) : opRow s = sOk (nI r.2.1) (wSm (wU (wTp (wG s (gEs (sG s) r.1)) []) []) (nI r.2.2)) := by unfold opRow; rw [if_neg h, hr]
theorem c_M_row {E : EV} {w : Mem} {s : SG} (h : MInv w s) : T E m_M_row 3 0 0 [.ref 89] w (fun r w2 => r = some (.int (opRow s).1) ∧ MInv w2 (opRow s).2 ∧ FrM w w2) := by
  refine T_of (L := [.ref 89, un, un, un, un]) cf_M_row rfl (Nat.le_of_ble_eq_true rfl) (fun X hX hF => ?_)
  obtain ⟨⟨hR, hL, hW⟩, hU, hT, hI, hRf, hSt, hFa, hSm, hSp, hDr, hOr⟩ := id h
  have hn := hW.n
  have hv := hW.v
  have he := hW.el
  have ht := hT.1
  refine g_aload0 hX d_M_row_0 ?_
  refine g_iconst (v := nI 0) hX d_M_row_1 rfl ?_
  refine g_putI hX d_M_row_2 fl_M_170 (lv_89 _) ?_
  refine g_aload0 hX d_M_row_5 ?_
  refine g_getI hX d_M_row_6 fl_M_243 (lv_89 _) ?_
  refine g_topi hT.2.1 ?_
  refine g_istore1 hX d_M_row_9 rfl (by decide) ?_
  refine g_aload0 hX d_M_row_10 ?_
  refine g_iconst (v := nI 0) hX d_M_row_11 rfl ?_
  refine g_putI hX d_M_row_12 fl_M_243 (lv_89 _) ?_
  refine g_iload1 hX d_M_row_15 ?_
  refine g_if_ne hX d_M_row_16 (fun e16 => ?_) (fun e16 => ?_)
  · have hlen : (sTp s).length ≠ 0 := fun z => e16 (by rw [z]; rfl)
    have hne : ¬ sTp s = [] := fun z => hlen (by rw [z]; rfl)
    obtain ⟨r, hr0⟩ : ∃ r, rowGo (gN (sG s)) (sTp s) (gE (sG s), 0, 0) = r := ⟨_, rfl⟩
    have lp : ∀ (fuel : Nat) (k c m : Nat) (es : List Nat) (wk : Mem), (sTp s).length + 1 - k < fuel → (MRow (rI wk 91) (gEs (sG s) es)) → (MLaws (rI wk 91) (gL (sG s))) → (WG (gEs (sG s) es)) → (FrB (sI (sI (sI w 89 0 (nI 0)) 89 13 (nI 0)) 89 11 (nI 0)) wk) → (rI wk 89 11 = nI m) → (c + m ≤ k) → (k ≤ (sTp s).length + 1) → (rowGo (gN (sG s)) ((sTp s).drop k) (es, c, m) = r) → G0 E X 0 0 35 [.ref 89, .int (nI (sTp s).length), .int (nI c), .int (nI k), un] [] wk := by
      intro fuel
      induction fuel with
      | zero => intro k c m es wk q0; exact absurd q0 (Nat.not_lt_zero _)
      | succ fuel ih =>
        intro k c m es wk q0 q1 q2 q3 q4 q5 q6 q7 q8
        refine g_iload3 hX d_M_row_35 ?_
        refine g_iload1 hX d_M_row_36 ?_
        refine g_icmpN_ge hX d_M_row_37 (by omega) (by omega) (fun e37 => ?_) (fun e37 => ?_)
        · refine g_aload0 hX d_M_row_167 ?_
          refine g_iload2 hX d_M_row_168 ?_
          refine g_callV (As := [_]) hX hF.1 d_M_row_169 ml_M_194 cf_M_lasting cv_M_lasting rfl rfl (c_M_lasting (by omega)) (rcv_obj hX (lv_89 _) rfl rfl) (by omega) (by omega) (by omega) (Nat.le_of_ble_eq_true rfl) ?_
          refine ret_k ?_
          refine g_iret hX hF d_M_row_172 (by omega) (by omega) ?_
          obtain rfl : r = (es, c, m) := by rw [← q8, List.drop_of_length_le (by omega)]; rfl
          rw [opRow_ok hne hr0]
          refine ⟨rfl, ⟨⟨q1, q2, q3⟩, MUndo.nil, (show MTape (rI wk 98) (rI wk 89 13) [] from ⟨by simp, by rw [q4.2.1 13 (by decide)]; rfl, fun k hk => absurd hk (Nat.not_lt_zero _)⟩), ?_, ?_, rfl, ?_, ?_, ?_, ?_, ?_⟩, (q4.M.I (by decide)).I (by decide) |> (FrM.tr (by exact (by repeat (first | exact FrM.rf _ | refine FrM.I (by decide) ?_ | refine FrM.A (by decide) ?_ | refine FrM.J9 ?_ | refine FrM.J (by decide) ?_))))⟩
          · show MImg (rI wk 92) (rI wk 93) (sIm s)
            rw [q4.1 92 (by decide) (by decide), q4.1 93 (by decide) (by decide)]; exact hI
          · show ∀ k, k < 7 → rI wk 90 k = sRf s k
            rw [q4.1 90 (by decide) (by decide)]; exact hRf
          · show rI wk 89 18 = sFa s
            rw [q4.2.1 18 (by decide)]; exact hFa
          · show rI wk 89 11 = nI m
            exact q5
          · show rI wk 89 64 = sSp s
            rw [q4.2.1 64 (by decide)]; exact hSp
          · show MDr (rI wk 127) (rI wk 89 68) (sDr s)
            rw [q4.1 127 (by decide) (by decide), q4.2.1 68 (by decide)]; exact hDr
          · show rI wk 89 20 = nI 0
            rw [q4.2.1 20 (by decide)]; exact hOr
        · refine g_iload3 hX d_M_row_40 ?_
          refine g_iconst (v := nI 1) hX d_M_row_41 rfl ?_
          refine g_iaddN hX d_M_row_42 ?_
          refine g_iload1 hX d_M_row_43 ?_
          refine g_icmpN_ge hX d_M_row_44 (by omega) (by omega) (fun e44 => ?_) (fun e44 => ?_)
          · refine g_iconst (v := nI 0) hX d_M_row_118 rfl ?_
            refine g_istore4 hX d_M_row_119 rfl (by decide) ?_
            refine g_iload4 hX d_M_row_121 ?_
            refine g_if_eq hX d_M_row_123 (fun c2 => ?_) (fun h => absurd (by decide) h)
            refine g_aload0 hX d_M_row_151 ?_
            refine g_dup hX d_M_row_152 rfl ?_
            refine g_getI hX d_M_row_153 fl_M_246 (lv_89 _) ?_
            refine g_topi (by exact q5) ?_
            refine g_iconst (v := nI 1) hX d_M_row_156 rfl ?_
            refine g_iaddN hX d_M_row_157 ?_
            refine g_putI hX d_M_row_158 fl_M_246 (lv_89 _) ?_
            refine g_iincM3 (m := 2) hX d_M_row_161 rfl rfl (by decide) ?_
            refine g_goto hX d_M_row_164 ?_
            first
              | (refine g_fget 4 ?_
                 have hr : rowGo (gN (sG s)) ((sTp s).drop (k + 2)) (es, c, m + 1) = r := by
                   rw [← q8]
                   first
                     | (rw [drop_1 (k := k) (by omega), rowGo_1, List.drop_of_length_le (by omega)])
                     | (rw [drop_2 (k := k) (by omega), rowGo_n (fun z => by first | exact e57 z.1 | exact e72 z.2.1 | exact z.2.2.1 e89 | exact e111 z.2.2.2)])
                 exact ih (k + 2) c m.succ es _ (by omega) q1 q2 q3 q4.I rfl (by omega) (by omega) hr)
              | (refine g_fget 4 ?_
                 have hr : rowGo (gN (sG s)) ((sTp s).drop (k + 2)) (es ++ [codeOf (gA (sTp s) k) (gA (sTp s) (k + 1))], c + 1, m) = r := by
                   rw [← q8, drop_2 (k := k) (by omega), rowGo_y ⟨e57, e72, e89, e111⟩]
                 have hm := q1.join q3 hf2 hf3
                 have hw := WG.join q3 e57 e72 e89
                 rw [gEs_tog, tog_new e111] at hm hw
                 exact ih (k + 2) (c + 1) m _ _ (by omega) hm (q2.congr (fun i hi => hf2 i (by omega))) hw q4.A (by rw [rI_sA_ne _ _ (by decide)]; exact q5) (by omega) (by omega) hr)
          · have hb1 := (hT.2.2 k (by omega)).2
            have hb2 := (hT.2.2 (k + 1) (by omega)).2
            refine g_aload0 hX d_M_row_47 ?_
            refine g_aload0 hX d_M_row_48 ?_
            refine g_getF hX d_M_row_49 fl_M_35 (lv_89 _) ?_
            refine g_iload3 hX d_M_row_52 ?_
            refine g_iald hX d_M_row_53 (lv_98 _) rfl (by omega) ?_
            refine g_topi (show rI wk 98 k = nI (gA (sTp s) k) by rw [q4.1 98 (by decide) (by decide)]; exact (hT.2.2 _ (by omega)).1) ?_
            refine g_callV (As := [_]) hX hF.1 d_M_row_54 ml_M_214 cf_M_isNode cv_M_isNode rfl rfl (c_M_isNode q1 q3) (rcv_obj hX (lv_89 _) rfl rfl) (by omega) (by omega) (by omega) (Nat.le_of_ble_eq_true rfl) ?_
            refine ret_k ?_
            refine g_ifB_eq hX d_M_row_57 (fun e57 => ?_) (fun e57 => ?_)
            · have e57 : ¬ gA (sTp s) k < gN (sG s) := fun z => e57 ⟨nI_pos' (by omega), nI_lt z (show gN (sG s) < 2 ^ 31 by omega)⟩
              refine g_iconst (v := nI 0) hX d_M_row_118 rfl ?_
              refine g_istore4 hX d_M_row_119 rfl (by decide) ?_
              refine g_iload4 hX d_M_row_121 ?_
              refine g_if_eq hX d_M_row_123 (fun c4 => ?_) (fun h => absurd (by decide) h)
              refine g_aload0 hX d_M_row_151 ?_
              refine g_dup hX d_M_row_152 rfl ?_
              refine g_getI hX d_M_row_153 fl_M_246 (lv_89 _) ?_
              refine g_topi (by exact q5) ?_
              refine g_iconst (v := nI 1) hX d_M_row_156 rfl ?_
              refine g_iaddN hX d_M_row_157 ?_
              refine g_putI hX d_M_row_158 fl_M_246 (lv_89 _) ?_
              refine g_iincM3 (m := 2) hX d_M_row_161 rfl rfl (by decide) ?_
              refine g_goto hX d_M_row_164 ?_
              first
                | (refine g_fget 4 ?_
                   have hr : rowGo (gN (sG s)) ((sTp s).drop (k + 2)) (es, c, m + 1) = r := by
                     rw [← q8]
                     first
                       | (rw [drop_1 (k := k) (by omega), rowGo_1, List.drop_of_length_le (by omega)])
                       | (rw [drop_2 (k := k) (by omega), rowGo_n (fun z => by first | exact e57 z.1 | exact e72 z.2.1 | exact z.2.2.1 e89 | exact e111 z.2.2.2)])
                   exact ih (k + 2) c m.succ es _ (by omega) q1 q2 q3 q4.I rfl (by omega) (by omega) hr)
                | (refine g_fget 4 ?_
                   have hr : rowGo (gN (sG s)) ((sTp s).drop (k + 2)) (es ++ [codeOf (gA (sTp s) k) (gA (sTp s) (k + 1))], c + 1, m) = r := by
                     rw [← q8, drop_2 (k := k) (by omega), rowGo_y ⟨e57, e72, e89, e111⟩]
                   have hm := q1.join q3 hf2 hf3
                   have hw := WG.join q3 e57 e72 e89
                   rw [gEs_tog, tog_new e111] at hm hw
                   exact ih (k + 2) (c + 1) m _ _ (by omega) hm (q2.congr (fun i hi => hf2 i (by omega))) hw q4.A (by rw [rI_sA_ne _ _ (by decide)]; exact q5) (by omega) (by omega) hr)
            · have e57 : gA (sTp s) k < gN (sG s) := (nI_ltI (by omega) (show gN (sG s) < 2 ^ 31 by omega)).mp e57.2
              refine g_aload0 hX d_M_row_60 ?_
              refine g_aload0 hX d_M_row_61 ?_
              refine g_getF hX d_M_row_62 fl_M_35 (lv_89 _) ?_
              refine g_iload3 hX d_M_row_65 ?_
              refine g_iconst (v := nI 1) hX d_M_row_66 rfl ?_
              refine g_iaddN hX d_M_row_67 ?_
              refine g_iald hX d_M_row_68 (lv_98 _) rfl (by omega) ?_
              refine g_topi (show rI wk 98 (k + 1) = nI (gA (sTp s) (k + 1)) by rw [q4.1 98 (by decide) (by decide)]; exact (hT.2.2 _ (by omega)).1) ?_
              refine g_callV (As := [_]) hX hF.1 d_M_row_69 ml_M_214 cf_M_isNode cv_M_isNode rfl rfl (c_M_isNode q1 q3) (rcv_obj hX (lv_89 _) rfl rfl) (by omega) (by omega) (by omega) (Nat.le_of_ble_eq_true rfl) ?_
              refine ret_k ?_
              refine g_ifB_eq hX d_M_row_72 (fun e72 => ?_) (fun e72 => ?_)
              · have e72 : ¬ gA (sTp s) (k + 1) < gN (sG s) := fun z => e72 ⟨nI_pos' (by omega), nI_lt z (show gN (sG s) < 2 ^ 31 by omega)⟩
                refine g_iconst (v := nI 0) hX d_M_row_118 rfl ?_
                refine g_istore4 hX d_M_row_119 rfl (by decide) ?_
                refine g_iload4 hX d_M_row_121 ?_
                refine g_if_eq hX d_M_row_123 (fun c6 => ?_) (fun h => absurd (by decide) h)
                refine g_aload0 hX d_M_row_151 ?_
                refine g_dup hX d_M_row_152 rfl ?_
                refine g_getI hX d_M_row_153 fl_M_246 (lv_89 _) ?_
                refine g_topi (by exact q5) ?_
                refine g_iconst (v := nI 1) hX d_M_row_156 rfl ?_
                refine g_iaddN hX d_M_row_157 ?_
                refine g_putI hX d_M_row_158 fl_M_246 (lv_89 _) ?_
                refine g_iincM3 (m := 2) hX d_M_row_161 rfl rfl (by decide) ?_
                refine g_goto hX d_M_row_164 ?_
                first
                  | (refine g_fget 4 ?_
                     have hr : rowGo (gN (sG s)) ((sTp s).drop (k + 2)) (es, c, m + 1) = r := by
                       rw [← q8]
                       first
                         | (rw [drop_1 (k := k) (by omega), rowGo_1, List.drop_of_length_le (by omega)])
                         | (rw [drop_2 (k := k) (by omega), rowGo_n (fun z => by first | exact e57 z.1 | exact e72 z.2.1 | exact z.2.2.1 e89 | exact e111 z.2.2.2)])
                     exact ih (k + 2) c m.succ es _ (by omega) q1 q2 q3 q4.I rfl (by omega) (by omega) hr)
                  | (refine g_fget 4 ?_
                     have hr : rowGo (gN (sG s)) ((sTp s).drop (k + 2)) (es ++ [codeOf (gA (sTp s) k) (gA (sTp s) (k + 1))], c + 1, m) = r := by
                       rw [← q8, drop_2 (k := k) (by omega), rowGo_y ⟨e57, e72, e89, e111⟩]
                     have hm := q1.join q3 hf2 hf3
                     have hw := WG.join q3 e57 e72 e89
                     rw [gEs_tog, tog_new e111] at hm hw
                     exact ih (k + 2) (c + 1) m _ _ (by omega) hm (q2.congr (fun i hi => hf2 i (by omega))) hw q4.A (by rw [rI_sA_ne _ _ (by decide)]; exact q5) (by omega) (by omega) hr)
              · have e72 : gA (sTp s) (k + 1) < gN (sG s) := (nI_ltI (by omega) (show gN (sG s) < 2 ^ 31 by omega)).mp e72.2
                refine g_aload0 hX d_M_row_75 ?_
                refine g_getF hX d_M_row_76 fl_M_35 (lv_89 _) ?_
                refine g_iload3 hX d_M_row_79 ?_
                refine g_iald hX d_M_row_80 (lv_98 _) rfl (by omega) ?_
                refine g_topi (show rI wk 98 k = nI (gA (sTp s) k) by rw [q4.1 98 (by decide) (by decide)]; exact (hT.2.2 _ (by omega)).1) ?_
                refine g_aload0 hX d_M_row_81 ?_
                refine g_getF hX d_M_row_82 fl_M_35 (lv_89 _) ?_
                refine g_iload3 hX d_M_row_85 ?_
                refine g_iconst (v := nI 1) hX d_M_row_86 rfl ?_
                refine g_iaddN hX d_M_row_87 ?_
                refine g_iald hX d_M_row_88 (lv_98 _) rfl (by omega) ?_
                refine g_topi (show rI wk 98 (k + 1) = nI (gA (sTp s) (k + 1)) by rw [q4.1 98 (by decide) (by decide)]; exact (hT.2.2 _ (by omega)).1) ?_
                refine g_icmpN_eq hX d_M_row_89 (by omega) (by omega) (fun e89 => ?_) (fun e89 => ?_)
                · refine g_iconst (v := nI 0) hX d_M_row_118 rfl ?_
                  refine g_istore4 hX d_M_row_119 rfl (by decide) ?_
                  refine g_iload4 hX d_M_row_121 ?_
                  refine g_if_eq hX d_M_row_123 (fun c8 => ?_) (fun h => absurd (by decide) h)
                  refine g_aload0 hX d_M_row_151 ?_
                  refine g_dup hX d_M_row_152 rfl ?_
                  refine g_getI hX d_M_row_153 fl_M_246 (lv_89 _) ?_
                  refine g_topi (by exact q5) ?_
                  refine g_iconst (v := nI 1) hX d_M_row_156 rfl ?_
                  refine g_iaddN hX d_M_row_157 ?_
                  refine g_putI hX d_M_row_158 fl_M_246 (lv_89 _) ?_
                  refine g_iincM3 (m := 2) hX d_M_row_161 rfl rfl (by decide) ?_
                  refine g_goto hX d_M_row_164 ?_
                  first
                    | (refine g_fget 4 ?_
                       have hr : rowGo (gN (sG s)) ((sTp s).drop (k + 2)) (es, c, m + 1) = r := by
                         rw [← q8]
                         first
                           | (rw [drop_1 (k := k) (by omega), rowGo_1, List.drop_of_length_le (by omega)])
                           | (rw [drop_2 (k := k) (by omega), rowGo_n (fun z => by first | exact e57 z.1 | exact e72 z.2.1 | exact z.2.2.1 e89 | exact e111 z.2.2.2)])
                       exact ih (k + 2) c m.succ es _ (by omega) q1 q2 q3 q4.I rfl (by omega) (by omega) hr)
                    | (refine g_fget 4 ?_
                       have hr : rowGo (gN (sG s)) ((sTp s).drop (k + 2)) (es ++ [codeOf (gA (sTp s) k) (gA (sTp s) (k + 1))], c + 1, m) = r := by
                         rw [← q8, drop_2 (k := k) (by omega), rowGo_y ⟨e57, e72, e89, e111⟩]
                       have hm := q1.join q3 hf2 hf3
                       have hw := WG.join q3 e57 e72 e89
                       rw [gEs_tog, tog_new e111] at hm hw
                       exact ih (k + 2) (c + 1) m _ _ (by omega) hm (q2.congr (fun i hi => hf2 i (by omega))) hw q4.A (by rw [rI_sA_ne _ _ (by decide)]; exact q5) (by omega) (by omega) hr)
                · refine g_aload0 hX d_M_row_92 ?_
                  refine g_aload0 hX d_M_row_93 ?_
                  refine g_getF hX d_M_row_94 fl_M_35 (lv_89 _) ?_
                  refine g_iload3 hX d_M_row_97 ?_
                  refine g_iald hX d_M_row_98 (lv_98 _) rfl (by omega) ?_
                  refine g_topi (show rI wk 98 k = nI (gA (sTp s) k) by rw [q4.1 98 (by decide) (by decide)]; exact (hT.2.2 _ (by omega)).1) ?_
                  refine g_aload0 hX d_M_row_99 ?_
                  refine g_getF hX d_M_row_100 fl_M_35 (lv_89 _) ?_
                  refine g_iload3 hX d_M_row_103 ?_
                  refine g_iconst (v := nI 1) hX d_M_row_104 rfl ?_
                  refine g_iaddN hX d_M_row_105 ?_
                  refine g_iald hX d_M_row_106 (lv_98 _) rfl (by omega) ?_
                  refine g_topi (show rI wk 98 (k + 1) = nI (gA (sTp s) (k + 1)) by rw [q4.1 98 (by decide) (by decide)]; exact (hT.2.2 _ (by omega)).1) ?_
                  refine g_callV (As := [_, _]) hX hF.1 d_M_row_107 ml_M_207 cf_M_edgeAt cv_M_edgeAt rfl rfl (c_M_edgeAt q1 q3 (by omega) (by omega)) (rcv_obj hX (lv_89 _) rfl rfl) (by omega) (by omega) (by omega) (Nat.le_of_ble_eq_true rfl) ?_
                  refine ret_k ?_
                  refine g_iconst (v := -1) hX d_M_row_110 rfl ?_
                  refine g_icmp_ne hX d_M_row_111 (fun e111 => ?_) (fun e111 => ?_)
                  · have e111 : ¬ codeOf (gA (sTp s) k) (gA (sTp s) (k + 1)) ∉ es := fun z => e111 (eAt_none es.length (Nat.le_refl _) z)
                    refine g_iconst (v := nI 0) hX d_M_row_118 rfl ?_
                    refine g_istore4 hX d_M_row_119 rfl (by decide) ?_
                    refine g_iload4 hX d_M_row_121 ?_
                    refine g_if_eq hX d_M_row_123 (fun c10 => ?_) (fun h => absurd (by decide) h)
                    refine g_aload0 hX d_M_row_151 ?_
                    refine g_dup hX d_M_row_152 rfl ?_
                    refine g_getI hX d_M_row_153 fl_M_246 (lv_89 _) ?_
                    refine g_topi (by exact q5) ?_
                    refine g_iconst (v := nI 1) hX d_M_row_156 rfl ?_
                    refine g_iaddN hX d_M_row_157 ?_
                    refine g_putI hX d_M_row_158 fl_M_246 (lv_89 _) ?_
                    refine g_iincM3 (m := 2) hX d_M_row_161 rfl rfl (by decide) ?_
                    refine g_goto hX d_M_row_164 ?_
                    first
                      | (refine g_fget 4 ?_
                         have hr : rowGo (gN (sG s)) ((sTp s).drop (k + 2)) (es, c, m + 1) = r := by
                           rw [← q8]
                           first
                             | (rw [drop_1 (k := k) (by omega), rowGo_1, List.drop_of_length_le (by omega)])
                             | (rw [drop_2 (k := k) (by omega), rowGo_n (fun z => by first | exact e57 z.1 | exact e72 z.2.1 | exact z.2.2.1 e89 | exact e111 z.2.2.2)])
                         exact ih (k + 2) c m.succ es _ (by omega) q1 q2 q3 q4.I rfl (by omega) (by omega) hr)
                      | (refine g_fget 4 ?_
                         have hr : rowGo (gN (sG s)) ((sTp s).drop (k + 2)) (es ++ [codeOf (gA (sTp s) k) (gA (sTp s) (k + 1))], c + 1, m) = r := by
                           rw [← q8, drop_2 (k := k) (by omega), rowGo_y ⟨e57, e72, e89, e111⟩]
                         have hm := q1.join q3 hf2 hf3
                         have hw := WG.join q3 e57 e72 e89
                         rw [gEs_tog, tog_new e111] at hm hw
                         exact ih (k + 2) (c + 1) m _ _ (by omega) hm (q2.congr (fun i hi => hf2 i (by omega))) hw q4.A (by rw [rI_sA_ne _ _ (by decide)]; exact q5) (by omega) (by omega) hr)
                  · have e111 : codeOf (gA (sTp s) k) (gA (sTp s) (k + 1)) ∉ es := fun z => by
                      obtain ⟨i, hi, hc⟩ := mem_gA z
                      have hle := WG.el q3
                      have hz : eAt es (codeOf (gA (sTp s) k) (gA (sTp s) (k + 1))) es.length = -1 := e111
                      rw [eAt_at (es := es) (show es.Nodup from WG.ed q3) hi hc es.length (Nat.le_refl _) hi] at hz
                      have hle2 : es.length ≤ 66 := hle
                      exact nI_m1 (by omega) hz
                    refine g_iconst (v := nI 1) hX d_M_row_114 rfl ?_
                    refine g_goto hX d_M_row_115 ?_
                    refine g_istore4 hX d_M_row_119 rfl (by decide) ?_
                    refine g_iload4 hX d_M_row_121 ?_
                    refine g_if_eq hX d_M_row_123 (fun h => absurd h (by decide)) (fun c11 => ?_)
                    refine g_aload0 hX d_M_row_126 ?_
                    refine g_aload0 hX d_M_row_127 ?_
                    refine g_getF hX d_M_row_128 fl_M_35 (lv_89 _) ?_
                    refine g_iload3 hX d_M_row_131 ?_
                    refine g_iald hX d_M_row_132 (lv_98 _) rfl (by omega) ?_
                    refine g_topi (show rI wk 98 k = nI (gA (sTp s) k) by rw [q4.1 98 (by decide) (by decide)]; exact (hT.2.2 _ (by omega)).1) ?_
                    refine g_aload0 hX d_M_row_133 ?_
                    refine g_getF hX d_M_row_134 fl_M_35 (lv_89 _) ?_
                    refine g_iload3 hX d_M_row_137 ?_
                    refine g_iconst (v := nI 1) hX d_M_row_138 rfl ?_
                    refine g_iaddN hX d_M_row_139 ?_
                    refine g_iald hX d_M_row_140 (lv_98 _) rfl (by omega) ?_
                    refine g_topi (show rI wk 98 (k + 1) = nI (gA (sTp s) (k + 1)) by rw [q4.1 98 (by decide) (by decide)]; exact (hT.2.2 _ (by omega)).1) ?_
                    refine g_callV (As := [_, _]) hX hF.1 d_M_row_141 ml_M_249 cf_M_toggleEdge cv_M_toggleEdge rfl rfl (c_M_toggleEdge q1 q3 e57 e72 e89) (rcv_obj hX (lv_89 _) rfl rfl) (by omega) (by omega) (by omega) (Nat.le_of_ble_eq_true rfl) ?_
                    rintro _ w2 ⟨f, rfl, hf2, hf3, rfl⟩
                    show G0 _ _ _ _ _ _ _ _
                    refine g_pop hX d_M_row_144 rfl ?_
                    refine g_iincN2 hX d_M_row_145 rfl (by decide) ?_
                    refine g_goto hX d_M_row_148 ?_
                    refine g_iincM3 (m := 2) hX d_M_row_161 rfl rfl (by decide) ?_
                    refine g_goto hX d_M_row_164 ?_
                    first
                      | (refine g_fget 4 ?_
                         have hr : rowGo (gN (sG s)) ((sTp s).drop (k + 2)) (es, c, m + 1) = r := by
                           rw [← q8]
                           first
                             | (rw [drop_1 (k := k) (by omega), rowGo_1, List.drop_of_length_le (by omega)])
                             | (rw [drop_2 (k := k) (by omega), rowGo_n (fun z => by first | exact e57 z.1 | exact e72 z.2.1 | exact z.2.2.1 e89 | exact e111 z.2.2.2)])
                         exact ih (k + 2) c m.succ es _ (by omega) q1 q2 q3 q4.I rfl (by omega) (by omega) hr)
                      | (refine g_fget 4 ?_
                         have hr : rowGo (gN (sG s)) ((sTp s).drop (k + 2)) (es ++ [codeOf (gA (sTp s) k) (gA (sTp s) (k + 1))], c + 1, m) = r := by
                           rw [← q8, drop_2 (k := k) (by omega), rowGo_y ⟨e57, e72, e89, e111⟩]
                         have hm := q1.join q3 hf2 hf3
                         have hw := WG.join q3 e57 e72 e89
                         rw [gEs_tog, tog_new e111] at hm hw
                         exact ih (k + 2) (c + 1) m _ _ (by omega) hm (q2.congr (fun i hi => hf2 i (by omega))) hw q4.A (by rw [rI_sA_ne _ _ (by decide)]; exact q5) (by omega) (by omega) hr)
    refine g_aload0 hX d_M_row_26 ?_
    refine g_iconst (v := nI 0) hX d_M_row_27 rfl ?_
    refine g_putI hX d_M_row_28 fl_M_246 (lv_89 _) ?_
    refine g_iconst (v := nI 0) hX d_M_row_31 rfl ?_
    refine g_istore2 hX d_M_row_32 rfl (by decide) ?_
    refine g_iconst (v := nI 0) hX d_M_row_33 rfl ?_
    refine g_istore3 hX d_M_row_34 rfl (by decide) ?_
    exact lp ((sTp s).length + 2) 0 0 0 (gE (sG s)) _ (by omega) hR hL hW (FrB.rf _) rfl (by omega) (by omega) hr0
  · have hnil : sTp s = [] := List.eq_nil_of_length_eq_zero (nI_inj (by omega) (by decide) e16)
    refine g_aload0 hX d_M_row_19 ?_
    refine g_bipush (v := -6) hX d_M_row_20 rfl ?_
    refine g_callV (As := [_]) hX hF.1 d_M_row_22 ml_M_179 cf_M_tell cv_M_tell rfl rfl (c_M_tellN (k := 6) (by decide) (by decide)) (rcv_obj hX (lv_89 _) rfl rfl) (by omega) (by omega) (by omega) (Nat.le_of_ble_eq_true rfl) ?_
    refine ret_k ?_
    refine g_iret hX hF d_M_row_25 (by omega) (by omega) ?_
    rw [opRow_no hnil]
    refine ⟨rfl, MInv.no (k := 6) (s := s) ?_ (by decide), (by repeat (first | exact FrM.rf _ | refine FrM.I (by decide) ?_ | refine FrM.A (by decide) ?_ | refine FrM.J9 ?_ | refine FrM.J (by decide) ?_))⟩
    refine ⟨⟨hR, hL, hW⟩, hU, ?_, hI, hRf, hSt, hFa, hSm, hSp, hDr, hOr⟩
    rw [hnil]
    exact ⟨by simp, rfl, fun k hk => absurd hk (Nat.not_lt_zero _)⟩
