def m_Bo_toggleEdge : MR := (⟨"SubgraphDesk$Board", "toggleEdge", "(II)I"⟩, prog_3_method_16_code, 7, (some .int))
theorem cf_Bo_toggleEdge : CF m_Bo_toggleEdge 2 := ⟨gd 757 (by decide +kernel) rfl, gd 140 (by decide +kernel) rfl, by decide +kernel, by decide, by decide +kernel⟩
theorem cv_Bo_toggleEdge : CV m_Bo_toggleEdge := ⟨gd 755 (by decide +kernel) rfl, gd 756 (by decide +kernel) rfl⟩
theorem d_Bo_toggleEdge_0 : Dc prog_3_method_16_code 0 (.iload_n 1) 1 1 := ⟨by decide +kernel, rfl⟩
theorem d_Bo_toggleEdge_1 : Dc prog_3_method_16_code 1 (.iload_n 2) 1 2 := ⟨by decide +kernel, rfl⟩
theorem d_Bo_toggleEdge_2 : Dc prog_3_method_16_code 2 (.invokestatic 87) 3 5 := ⟨by decide +kernel, rfl⟩
theorem d_Bo_toggleEdge_5 : Dc prog_3_method_16_code 5 (.bipush 12) 2 7 := ⟨by decide +kernel, rfl⟩
theorem d_Bo_toggleEdge_7 : Dc prog_3_method_16_code 7 (.imul) 1 8 := ⟨by decide +kernel, rfl⟩
theorem d_Bo_toggleEdge_8 : Dc prog_3_method_16_code 8 (.iload_n 1) 1 9 := ⟨by decide +kernel, rfl⟩
theorem d_Bo_toggleEdge_9 : Dc prog_3_method_16_code 9 (.iload_n 2) 1 10 := ⟨by decide +kernel, rfl⟩
theorem d_Bo_toggleEdge_10 : Dc prog_3_method_16_code 10 (.invokestatic 93) 3 13 := ⟨by decide +kernel, rfl⟩
theorem d_Bo_toggleEdge_13 : Dc prog_3_method_16_code 13 (.iadd) 1 14 := ⟨by decide +kernel, rfl⟩
theorem d_Bo_toggleEdge_14 : Dc prog_3_method_16_code 14 (.istore_n 3) 1 15 := ⟨by decide +kernel, rfl⟩
theorem d_Bo_toggleEdge_15 : Dc prog_3_method_16_code 15 (.aload_n 0) 1 16 := ⟨by decide +kernel, rfl⟩
theorem d_Bo_toggleEdge_16 : Dc prog_3_method_16_code 16 (.getfield 15) 3 19 := ⟨by decide +kernel, rfl⟩
theorem d_Bo_toggleEdge_19 : Dc prog_3_method_16_code 19 (.iload_n 1) 1 20 := ⟨by decide +kernel, rfl⟩
theorem d_Bo_toggleEdge_20 : Dc prog_3_method_16_code 20 (.iaload) 1 21 := ⟨by decide +kernel, rfl⟩
theorem d_Bo_toggleEdge_21 : Dc prog_3_method_16_code 21 (.iload_n 2) 1 22 := ⟨by decide +kernel, rfl⟩
theorem d_Bo_toggleEdge_22 : Dc prog_3_method_16_code 22 (.ishr) 1 23 := ⟨by decide +kernel, rfl⟩
theorem d_Bo_toggleEdge_23 : Dc prog_3_method_16_code 23 (.iconst 1) 1 24 := ⟨by decide +kernel, rfl⟩
theorem d_Bo_toggleEdge_24 : Dc prog_3_method_16_code 24 (.iand) 1 25 := ⟨by decide +kernel, rfl⟩
theorem d_Bo_toggleEdge_25 : Dj prog_3_method_16_code 25 (.ifCond .ne 7) 28 7 32 := ⟨by decide +kernel, rfl, rfl⟩
theorem d_Bo_toggleEdge_28 : Dc prog_3_method_16_code 28 (.iconst 1) 1 29 := ⟨by decide +kernel, rfl⟩
theorem d_Bo_toggleEdge_29 : Dj prog_3_method_16_code 29 (.goto 4) 32 4 33 := ⟨by decide +kernel, rfl, rfl⟩
theorem d_Bo_toggleEdge_32 : Dc prog_3_method_16_code 32 (.iconst 0) 1 33 := ⟨by decide +kernel, rfl⟩
theorem d_Bo_toggleEdge_33 : Dc prog_3_method_16_code 33 (.istore 4) 2 35 := ⟨by decide +kernel, rfl⟩
theorem d_Bo_toggleEdge_35 : Dc prog_3_method_16_code 35 (.aload_n 0) 1 36 := ⟨by decide +kernel, rfl⟩
theorem d_Bo_toggleEdge_36 : Dc prog_3_method_16_code 36 (.getfield 15) 3 39 := ⟨by decide +kernel, rfl⟩
theorem d_Bo_toggleEdge_39 : Dc prog_3_method_16_code 39 (.iload_n 1) 1 40 := ⟨by decide +kernel, rfl⟩
theorem d_Bo_toggleEdge_40 : Dc prog_3_method_16_code 40 (.dup2) 1 41 := ⟨by decide +kernel, rfl⟩
theorem d_Bo_toggleEdge_41 : Dc prog_3_method_16_code 41 (.iaload) 1 42 := ⟨by decide +kernel, rfl⟩
theorem d_Bo_toggleEdge_42 : Dc prog_3_method_16_code 42 (.iconst 1) 1 43 := ⟨by decide +kernel, rfl⟩
theorem d_Bo_toggleEdge_43 : Dc prog_3_method_16_code 43 (.iload_n 2) 1 44 := ⟨by decide +kernel, rfl⟩
theorem d_Bo_toggleEdge_44 : Dc prog_3_method_16_code 44 (.ishl) 1 45 := ⟨by decide +kernel, rfl⟩
theorem d_Bo_toggleEdge_45 : Dc prog_3_method_16_code 45 (.ixor) 1 46 := ⟨by decide +kernel, rfl⟩
theorem d_Bo_toggleEdge_46 : Dc prog_3_method_16_code 46 (.iastore) 1 47 := ⟨by decide +kernel, rfl⟩
theorem d_Bo_toggleEdge_47 : Dc prog_3_method_16_code 47 (.aload_n 0) 1 48 := ⟨by decide +kernel, rfl⟩
theorem d_Bo_toggleEdge_48 : Dc prog_3_method_16_code 48 (.getfield 15) 3 51 := ⟨by decide +kernel, rfl⟩
theorem d_Bo_toggleEdge_51 : Dc prog_3_method_16_code 51 (.iload_n 2) 1 52 := ⟨by decide +kernel, rfl⟩
theorem d_Bo_toggleEdge_52 : Dc prog_3_method_16_code 52 (.dup2) 1 53 := ⟨by decide +kernel, rfl⟩
theorem d_Bo_toggleEdge_53 : Dc prog_3_method_16_code 53 (.iaload) 1 54 := ⟨by decide +kernel, rfl⟩
theorem d_Bo_toggleEdge_54 : Dc prog_3_method_16_code 54 (.iconst 1) 1 55 := ⟨by decide +kernel, rfl⟩
theorem d_Bo_toggleEdge_55 : Dc prog_3_method_16_code 55 (.iload_n 1) 1 56 := ⟨by decide +kernel, rfl⟩
theorem d_Bo_toggleEdge_56 : Dc prog_3_method_16_code 56 (.ishl) 1 57 := ⟨by decide +kernel, rfl⟩
theorem d_Bo_toggleEdge_57 : Dc prog_3_method_16_code 57 (.ixor) 1 58 := ⟨by decide +kernel, rfl⟩
theorem d_Bo_toggleEdge_58 : Dc prog_3_method_16_code 58 (.iastore) 1 59 := ⟨by decide +kernel, rfl⟩
theorem d_Bo_toggleEdge_59 : Dc prog_3_method_16_code 59 (.iload 4) 2 61 := ⟨by decide +kernel, rfl⟩
theorem d_Bo_toggleEdge_61 : Dj prog_3_method_16_code 61 (.ifCond .eq 14) 64 14 75 := ⟨by decide +kernel, rfl, rfl⟩
theorem d_Bo_toggleEdge_64 : Dc prog_3_method_16_code 64 (.aload_n 0) 1 65 := ⟨by decide +kernel, rfl⟩
theorem d_Bo_toggleEdge_65 : Dc prog_3_method_16_code 65 (.aload_n 0) 1 66 := ⟨by decide +kernel, rfl⟩
theorem d_Bo_toggleEdge_66 : Dc prog_3_method_16_code 66 (.getfield 46) 3 69 := ⟨by decide +kernel, rfl⟩
theorem d_Bo_toggleEdge_69 : Dc prog_3_method_16_code 69 (.iload_n 3) 1 70 := ⟨by decide +kernel, rfl⟩
theorem d_Bo_toggleEdge_70 : Dc prog_3_method_16_code 70 (.invokevirtual 96) 3 73 := ⟨by decide +kernel, rfl⟩
theorem d_Bo_toggleEdge_73 : Dc prog_3_method_16_code 73 (.iconst (-1)) 1 74 := ⟨by decide +kernel, rfl⟩
theorem d_Bo_toggleEdge_74 : Dc prog_3_method_16_code 74 (.ireturn) 1 75 := ⟨by decide +kernel, rfl⟩
theorem d_Bo_toggleEdge_75 : Dc prog_3_method_16_code 75 (.iconst 0) 1 76 := ⟨by decide +kernel, rfl⟩
theorem d_Bo_toggleEdge_76 : Dc prog_3_method_16_code 76 (.istore 5) 2 78 := ⟨by decide +kernel, rfl⟩
theorem d_Bo_toggleEdge_78 : Dc prog_3_method_16_code 78 (.iconst 0) 1 79 := ⟨by decide +kernel, rfl⟩
theorem d_Bo_toggleEdge_79 : Dc prog_3_method_16_code 79 (.istore 6) 2 81 := ⟨by decide +kernel, rfl⟩
theorem d_Bo_toggleEdge_81 : Dc prog_3_method_16_code 81 (.iload 6) 2 83 := ⟨by decide +kernel, rfl⟩
theorem d_Bo_toggleEdge_83 : Dc prog_3_method_16_code 83 (.aload_n 0) 1 84 := ⟨by decide +kernel, rfl⟩
theorem d_Bo_toggleEdge_84 : Dc prog_3_method_16_code 84 (.getfield 46) 3 87 := ⟨by decide +kernel, rfl⟩
theorem d_Bo_toggleEdge_87 : Dj prog_3_method_16_code 87 (.if_icmp .ge 24) 90 24 111 := ⟨by decide +kernel, rfl, rfl⟩
theorem d_Bo_toggleEdge_90 : Dc prog_3_method_16_code 90 (.aload_n 0) 1 91 := ⟨by decide +kernel, rfl⟩
theorem d_Bo_toggleEdge_91 : Dc prog_3_method_16_code 91 (.getfield 18) 3 94 := ⟨by decide +kernel, rfl⟩
theorem d_Bo_toggleEdge_94 : Dc prog_3_method_16_code 94 (.iload 6) 2 96 := ⟨by decide +kernel, rfl⟩
theorem d_Bo_toggleEdge_96 : Dc prog_3_method_16_code 96 (.iaload) 1 97 := ⟨by decide +kernel, rfl⟩
theorem d_Bo_toggleEdge_97 : Dc prog_3_method_16_code 97 (.iload_n 3) 1 98 := ⟨by decide +kernel, rfl⟩
theorem d_Bo_toggleEdge_98 : Dj prog_3_method_16_code 98 (.if_icmp .ne 7) 101 7 105 := ⟨by decide +kernel, rfl, rfl⟩
theorem d_Bo_toggleEdge_101 : Dc prog_3_method_16_code 101 (.iload 6) 2 103 := ⟨by decide +kernel, rfl⟩
theorem d_Bo_toggleEdge_103 : Dc prog_3_method_16_code 103 (.istore 5) 2 105 := ⟨by decide +kernel, rfl⟩
theorem d_Bo_toggleEdge_105 : Dc prog_3_method_16_code 105 (.iinc 6 1) 3 108 := ⟨by decide +kernel, rfl⟩
theorem d_Bo_toggleEdge_108 : Dj prog_3_method_16_code 108 (.goto (-27)) 111 (-27) 81 := ⟨by decide +kernel, rfl, rfl⟩
theorem d_Bo_toggleEdge_111 : Dc prog_3_method_16_code 111 (.iload 5) 2 113 := ⟨by decide +kernel, rfl⟩
theorem d_Bo_toggleEdge_113 : Dc prog_3_method_16_code 113 (.istore 6) 2 115 := ⟨by decide +kernel, rfl⟩
theorem d_Bo_toggleEdge_115 : Dc prog_3_method_16_code 115 (.iload 6) 2 117 := ⟨by decide +kernel, rfl⟩
theorem d_Bo_toggleEdge_117 : Dc prog_3_method_16_code 117 (.iconst 1) 1 118 := ⟨by decide +kernel, rfl⟩
theorem d_Bo_toggleEdge_118 : Dc prog_3_method_16_code 118 (.iadd) 1 119 := ⟨by decide +kernel, rfl⟩
theorem d_Bo_toggleEdge_119 : Dc prog_3_method_16_code 119 (.aload_n 0) 1 120 := ⟨by decide +kernel, rfl⟩
theorem d_Bo_toggleEdge_120 : Dc prog_3_method_16_code 120 (.getfield 46) 3 123 := ⟨by decide +kernel, rfl⟩
theorem d_Bo_toggleEdge_123 : Dj prog_3_method_16_code 123 (.if_icmp .ge 25) 126 25 148 := ⟨by decide +kernel, rfl, rfl⟩
theorem d_Bo_toggleEdge_126 : Dc prog_3_method_16_code 126 (.aload_n 0) 1 127 := ⟨by decide +kernel, rfl⟩
theorem d_Bo_toggleEdge_127 : Dc prog_3_method_16_code 127 (.getfield 18) 3 130 := ⟨by decide +kernel, rfl⟩
theorem d_Bo_toggleEdge_130 : Dc prog_3_method_16_code 130 (.iload 6) 2 132 := ⟨by decide +kernel, rfl⟩
theorem d_Bo_toggleEdge_132 : Dc prog_3_method_16_code 132 (.aload_n 0) 1 133 := ⟨by decide +kernel, rfl⟩
theorem d_Bo_toggleEdge_133 : Dc prog_3_method_16_code 133 (.getfield 18) 3 136 := ⟨by decide +kernel, rfl⟩
theorem d_Bo_toggleEdge_136 : Dc prog_3_method_16_code 136 (.iload 6) 2 138 := ⟨by decide +kernel, rfl⟩
theorem d_Bo_toggleEdge_138 : Dc prog_3_method_16_code 138 (.iconst 1) 1 139 := ⟨by decide +kernel, rfl⟩
theorem d_Bo_toggleEdge_139 : Dc prog_3_method_16_code 139 (.iadd) 1 140 := ⟨by decide +kernel, rfl⟩
theorem d_Bo_toggleEdge_140 : Dc prog_3_method_16_code 140 (.iaload) 1 141 := ⟨by decide +kernel, rfl⟩
theorem d_Bo_toggleEdge_141 : Dc prog_3_method_16_code 141 (.iastore) 1 142 := ⟨by decide +kernel, rfl⟩
theorem d_Bo_toggleEdge_142 : Dc prog_3_method_16_code 142 (.iinc 6 1) 3 145 := ⟨by decide +kernel, rfl⟩
theorem d_Bo_toggleEdge_145 : Dj prog_3_method_16_code 145 (.goto (-30)) 148 (-30) 115 := ⟨by decide +kernel, rfl, rfl⟩
theorem d_Bo_toggleEdge_148 : Dc prog_3_method_16_code 148 (.aload_n 0) 1 149 := ⟨by decide +kernel, rfl⟩
theorem d_Bo_toggleEdge_149 : Dc prog_3_method_16_code 149 (.dup) 1 150 := ⟨by decide +kernel, rfl⟩
theorem d_Bo_toggleEdge_150 : Dc prog_3_method_16_code 150 (.getfield 46) 3 153 := ⟨by decide +kernel, rfl⟩
theorem d_Bo_toggleEdge_153 : Dc prog_3_method_16_code 153 (.iconst 1) 1 154 := ⟨by decide +kernel, rfl⟩
theorem d_Bo_toggleEdge_154 : Dc prog_3_method_16_code 154 (.isub) 1 155 := ⟨by decide +kernel, rfl⟩
theorem d_Bo_toggleEdge_155 : Dc prog_3_method_16_code 155 (.putfield 46) 3 158 := ⟨by decide +kernel, rfl⟩
theorem d_Bo_toggleEdge_158 : Dc prog_3_method_16_code 158 (.iload 5) 2 160 := ⟨by decide +kernel, rfl⟩
theorem d_Bo_toggleEdge_160 : Dc prog_3_method_16_code 160 (.ireturn) 1 161 := ⟨by decide +kernel, rfl⟩
theorem ml_Bo_87 : Cond.methodLink "SubgraphDesk$Board" 87 m_JMath_min.1 ∈ lw_gd := gd 758 (by decide +kernel) rfl
theorem ml_Bo_93 : Cond.methodLink "SubgraphDesk$Board" 93 m_JMath_max.1 ∈ lw_gd := gd 759 (by decide +kernel) rfl
theorem ml_Bo_96 : Cond.methodLink "SubgraphDesk$Board" 96 m_Bo_insertEdge.1 ∈ lw_gd := gd 760 (by decide +kernel) rfl
/-- the ends' rows with the bits turned -/
def TgW (w : Mem) (b a c : Nat) (g : GC) : Mem := sI (sI w (b + 2) a (nI (nearB (gE g) a ^^^ 1 <<< c))) (b + 2) c (nI (nearB (gE g) c ^^^ 1 <<< a))
theorem TgW_2 {w : Mem} {b a c : Nat} {g : GC} : rI (TgW w b a c g) (b + 2) = upd (upd (rI w (b + 2)) a (nI (nearB (gE g) a ^^^ 1 <<< c))) c (nI (nearB (gE g) c ^^^ 1 <<< a)) := by
  unfold TgW
  rw [rI_sI, rI_sI]
theorem TgW_o {w : Mem} {b a c o : Nat} {g : GC} (h : o ≠ b + 2) : rI (TgW w b a c g) o = rI w o := by
  unfold TgW
  rw [rI_sI_ne _ _ _ h, rI_sI_ne _ _ _ h]
theorem TgW_fr (w : Mem) (b a c : Nat) (g : GC) : FrBo b w (TgW w b a c g) := ((FrBo.rf b w).I (by omega)).I (by omega)
theorem TgW_n {w : Mem} {b a c : Nat} {g : GC} (hR : BRow w b g) (hW : WG g) (ha : a < gN g) (hc : c < gN g) (hac : a ≠ c) : ∀ i, i < gN g → rI (TgW w b a c g) (b + 2) i = nI (nearB (tog (gE g) (codeOf a c)) i) := fun i hi => by
  rw [TgW_2, near_tog hW ha hc hi hac, upd_eq, upd_eq]
  by_cases h2 : i = c
  · rw [if_pos h2, if_neg (by omega), if_pos h2]
  · rw [if_neg h2]
    by_cases h1 : i = a
    · rw [if_pos h1, if_pos h1]
    · rw [if_neg h1, if_neg h1, if_neg h2]; exact hR.nr i hi
theorem pl_s {ix i : Nat} (h : i ≠ ix) : (if ix < i + 1 then ix else 0) = if ix < i then ix else 0 := by
  by_cases z : ix < i
  · rw [if_pos z, if_pos (by omega)]
  · rw [if_neg z, if_neg (by omega)]
theorem pl_t {ix i : Nat} (h : i = ix) : (if ix < i + 1 then ix else 0) = i := by rw [if_pos (by omega), h]
/-- a toggled edge's answer -/
def TgR (g : GC) (a c : Nat) (r : Option Value) : Prop := (codeOf a c ∉ gE g → r = some (.int (-1))) ∧ ∀ ix, ix < (gE g).length → gA (gE g) ix = codeOf a c → r = some (.int (nI ix))
theorem gA_inj {es : List Nat} {x y : Nat} (hd : es.Nodup) (hx : x < es.length) (hy : y < es.length) (h : gA es x = gA es y) : x = y := by
  have h1 := gA_get hx
  have h2 := gA_get hy
  rw [h] at h1
  exact (List.getElem?_inj hx hd).mp (h1.trans h2.symm)
theorem Tg_add {w : Mem} {b a c : Nat} {g : GC} (hR : BRow w b g) (hW : WG g) (ha : a < gN g) (hc : c < gN g) (hac : a ≠ c) (hno : codeOf a c ∉ gE g) : BRow (sI (sI (sA (TgW w b a c g) (b + 3) (mvU (rI (TgW w b a c g) (b + 3)) (gE g).length (gE g).length)) (b + 3) (gE g).length (nI (codeOf a c))) b 3 (nI ((gE g).length + 1))) b (gJoin g a c) := by
  have ht : tog (gE g) (codeOf a c) = gE g ++ [codeOf a c] := by unfold tog; rw [if_neg hno]
  have hl : (tog (gE g) (codeOf a c)).length = (gE g).length + 1 := by rw [ht, List.length_append]; rfl
  rw [mvU_0]
  refine BRow.setE (es := tog (gE g) (codeOf a c)) hR (fun k hk => ?_) ?_ (fun k hk => ?_) (fun i hi => ?_) (fun o h1 h2 h3 h4 => ?_)
  · rw [rI_sI, upd_eq, if_neg hk, rI_sI_ne _ _ _ (by omega), rI_sA_ne _ _ (by omega), TgW_o (by omega)]
  · rw [rI_sI, upd_eq, if_pos rfl, hl]
  · rw [rI_sI_ne _ _ _ (by omega), rI_sI, upd_eq, rI_sA, TgW_o (by omega), ht, gA_app]
    by_cases e : k = (gE g).length
    · rw [if_pos e, if_pos e]
    · rw [if_neg e, if_neg e]; exact hR.e k (by omega)
  · rw [rI_sI_ne _ _ _ (by omega), rI_sI_ne _ _ _ (by omega), rI_sA_ne _ _ (by omega)]
    exact TgW_n hR hW ha hc hac i hi
  · rw [rI_sI_ne _ _ _ (by omega), rI_sI_ne _ _ _ h4, rI_sA_ne _ _ h4, TgW_o h3]
theorem Tg_del {w : Mem} {b a c ix : Nat} {g : GC} (hR : BRow w b g) (hW : WG g) (ha : a < gN g) (hc : c < gN g) (hac : a ≠ c) (hix : ix < (gE g).length) (hgx : gA (gE g) ix = codeOf a c) : BRow (sI (sA (TgW w b a c g) (b + 3) (mvD (rI (TgW w b a c g) (b + 3)) ix ((gE g).length - 1))) b 3 (nI ((gE g).length - 1))) b (gJoin g a c) := by
  have hin : codeOf a c ∈ gE g := by rw [← hgx]; exact gA_mem hix
  have ht : tog (gE g) (codeOf a c) = (gE g).eraseIdx ix := by unfold tog; rw [if_pos hin]; exact erase_eq _ _ hW.ed hix hgx
  have hl : (tog (gE g) (codeOf a c)).length = (gE g).length - 1 := by rw [ht, List.length_eraseIdx]; rw [if_pos hix]
  refine BRow.setE (es := tog (gE g) (codeOf a c)) hR (fun k hk => ?_) ?_ (fun k hk => ?_) (fun i hi => ?_) (fun o h1 h2 h3 h4 => ?_)
  · rw [rI_sI, upd_eq, if_neg hk, rI_sA_ne _ _ (by omega), TgW_o (by omega)]
  · rw [rI_sI, upd_eq, if_pos rfl, hl]
  · rw [hl] at hk
    rw [rI_sI_ne _ _ _ (by omega), rI_sA, TgW_o (by omega), ht, gA_erase]
    unfold mvD
    by_cases e : k < ix
    · rw [if_neg (by omega), if_pos e]; exact hR.e k (by omega)
    · rw [if_pos (by omega), if_neg e]; exact hR.e (k + 1) (by omega)
  · rw [rI_sI_ne _ _ _ (by omega), rI_sA_ne _ _ (by omega)]
    exact TgW_n hR hW ha hc hac i hi
  · rw [rI_sI_ne _ _ _ (by omega), rI_sA_ne _ _ h4, TgW_o h3]
theorem c_Bo_toggleEdge {E : EV} {w : Mem} {a c : Nat} {b : Nat} {g : GC} (hb : IsBo b) (hR : BRow w b g) (hW : WG g) (ha : a < gN g) (hc : c < gN g) (hac : a ≠ c) : T E m_Bo_toggleEdge 1 0 0 [.ref b, .int (nI a), .int (nI c)] w (fun r w2 => BRow w2 b (gJoin g a c) ∧ FrBo b w w2 ∧ TgR g a c r) := by
  refine T_of (L := [.ref b, .int (nI a), .int (nI c), un, un, un, un]) cf_Bo_toggleEdge rfl (Nat.le_of_ble_eq_true rfl) (fun X hX hF => ?_)
  have hn := hW.n
  have hv := hW.v
  have he := hW.el
  have hll := hW.ll
  have hsl := hW.sl
  have hcl := codeOf_lt (show a < 12 by omega) (show c < 12 by omega)
  have hna := near12 hW a
  have hnc := near12 hW c
  refine g_iload1 hX d_Bo_toggleEdge_0 ?_
  refine g_iload2 hX d_Bo_toggleEdge_1 ?_
  refine g_Math_min hX hF.1 d_Bo_toggleEdge_2 ml_Bo_87 (by omega) (by omega) (by omega) (Nat.le_of_ble_eq_true rfl) ?_
  refine g_topi (minI_n (by omega) (by omega)) ?_
  refine g_bipush (v := nI 12) hX d_Bo_toggleEdge_5 rfl ?_
  refine g_imulN hX d_Bo_toggleEdge_7 ?_
  refine g_iload1 hX d_Bo_toggleEdge_8 ?_
  refine g_iload2 hX d_Bo_toggleEdge_9 ?_
  refine g_Math_max hX hF.1 d_Bo_toggleEdge_10 ml_Bo_93 (by omega) (by omega) (by omega) (Nat.le_of_ble_eq_true rfl) ?_
  refine g_topi (maxI_n (by omega) (by omega)) ?_
  refine g_iaddN hX d_Bo_toggleEdge_13 ?_
  refine g_topi (show nI (min a c * 12 + max a c) = nI (codeOf a c) by rw [code_mm]) ?_
  refine g_istore3 hX d_Bo_toggleEdge_14 rfl (by decide) ?_
  refine g_aload0 hX d_Bo_toggleEdge_15 ?_
  refine g_getF hX d_Bo_toggleEdge_16 fl_Bo_15 (lvBo_0 hb _) ?_
  refine g_iload1 hX d_Bo_toggleEdge_19 ?_
  refine g_iald hX d_Bo_toggleEdge_20 (lvBo_2 hb _) rfl (by omega) ?_
  refine g_topi (hR.nr a ha) ?_
  refine g_iload2 hX d_Bo_toggleEdge_21 ?_
  refine g_ishrN hX d_Bo_toggleEdge_22 (by omega) (by omega) ?_
  refine g_iconst (v := nI 1) hX d_Bo_toggleEdge_23 rfl ?_
  refine g_iandC hX d_Bo_toggleEdge_24 (fun hm0 => ?_)
  refine g_if_ne hX d_Bo_toggleEdge_25 (fun e25 => ?_) (fun e25 => ?_)
  · have hin : codeOf a c ∈ gE g := ((near_tb (by omega) (by omega) hn hW.eo).mp (Decidable.byContradiction (fun z => e25 ((tbI0 _ _).mpr z)))).2
    obtain ⟨ix, hix, hgx⟩ := mem_gA hin
    have lpD : ∀ (fuel : Nat) (i : Nat), (gE g).length - i < fuel → (ix ≤ i) → (i < (gE g).length) → G0 E X 0 0 115 [.ref b, .int (nI a), .int (nI c), .int (nI (codeOf a c)), .int (nI 0), .int (nI ix), .int (nI i)] [] (sA (TgW w b a c g) (b + 3) (mvD (rI (TgW w b a c g) (b + 3)) ix i)) := by
      intro fuel
      induction fuel with
      | zero => intro i q0; exact absurd q0 (Nat.not_lt_zero _)
      | succ fuel ih =>
        intro i q0 q1 q2
        refine g_iload6 hX d_Bo_toggleEdge_115 ?_
        refine g_iconst (v := nI 1) hX d_Bo_toggleEdge_117 rfl ?_
        refine g_iaddN hX d_Bo_toggleEdge_118 ?_
        refine g_aload0 hX d_Bo_toggleEdge_119 ?_
        refine g_getI hX d_Bo_toggleEdge_120 fl_Bo_46 (lvBo_0 hb _) ?_
        refine g_topi (show rI (sA (TgW w b a c g) (b + 3) (mvD (rI (TgW w b a c g) (b + 3)) ix i)) b 3 = nI (gE g).length by rw [rI_sA_ne _ _ (by omega), TgW_o (by omega)]; exact hR.el) ?_
        refine g_icmpN_ge hX d_Bo_toggleEdge_123 (by omega) (by omega) (fun c0 => ?_) (fun c0 => ?_)
        · obtain rfl : i = (gE g).length - 1 := by omega
          refine g_aload0 hX d_Bo_toggleEdge_148 ?_
          refine g_dup hX d_Bo_toggleEdge_149 rfl ?_
          refine g_getI hX d_Bo_toggleEdge_150 fl_Bo_46 (lvBo_0 hb _) ?_
          refine g_topi (show rI (sA (TgW w b a c g) (b + 3) (mvD (rI (TgW w b a c g) (b + 3)) ix ((gE g).length - 1))) b 3 = nI (gE g).length by rw [rI_sA_ne _ _ (by omega), TgW_o (by omega)]; exact hR.el) ?_
          refine g_iconst (v := nI 1) hX d_Bo_toggleEdge_153 rfl ?_
          refine g_isubN hX d_Bo_toggleEdge_154 (by omega) ?_
          refine g_putI hX d_Bo_toggleEdge_155 fl_Bo_46 (lvBo_0 hb _) ?_
          refine g_iload5 hX d_Bo_toggleEdge_158 ?_
          refine g_iret hX hF d_Bo_toggleEdge_160 (by omega) (by omega) ?_
          exact ⟨Tg_del hR hW ha hc hac hix hgx, ((TgW_fr w b a c g).A (by omega)).I (by omega), ⟨fun z => absurd hin z, fun y hy hgy => by rw [gA_inj hW.ed hy hix (hgy.trans hgx.symm)]⟩⟩
        · refine g_aload0 hX d_Bo_toggleEdge_126 ?_
          refine g_getF hX d_Bo_toggleEdge_127 fl_Bo_18 (lvBo_0 hb _) ?_
          refine g_iload6 hX d_Bo_toggleEdge_130 ?_
          refine g_aload0 hX d_Bo_toggleEdge_132 ?_
          refine g_getF hX d_Bo_toggleEdge_133 fl_Bo_18 (lvBo_0 hb _) ?_
          refine g_iload6 hX d_Bo_toggleEdge_136 ?_
          refine g_iconst (v := nI 1) hX d_Bo_toggleEdge_138 rfl ?_
          refine g_iaddN hX d_Bo_toggleEdge_139 ?_
          refine g_iald hX d_Bo_toggleEdge_140 (lvBo_3 hb _) rfl (by omega) ?_
          refine g_topi (show rI (sA (TgW w b a c g) (b + 3) (mvD (rI (TgW w b a c g) (b + 3)) ix i)) (b + 3) (i + 1) = rI (TgW w b a c g) (b + 3) (i + 1) by rw [rI_sA]; unfold mvD; rw [if_neg (by omega)]) ?_
          refine g_iast hX d_Bo_toggleEdge_141 (lvBo_3 hb _) rfl (by omega) ?_
          refine g_iincN6 hX d_Bo_toggleEdge_142 rfl (by decide) ?_
          refine g_goto hX d_Bo_toggleEdge_145 ?_
          refine g_mem (by rw [sI_sA, mvD_s q1]) ?_
          exact ih (i + 1) (by omega) (by omega) (by omega)
    have lpS : ∀ (fuel : Nat) (i : Nat), (gE g).length - i < fuel → (i ≤ (gE g).length) → G0 E X 0 0 81 [.ref b, .int (nI a), .int (nI c), .int (nI (codeOf a c)), .int (nI 0), .int (nI (if ix < i then ix else 0)), .int (nI i)] [] (TgW w b a c g) := by
      intro fuel
      induction fuel with
      | zero => intro i q0; exact absurd q0 (Nat.not_lt_zero _)
      | succ fuel ih =>
        intro i q0 q1
        refine g_iload6 hX d_Bo_toggleEdge_81 ?_
        refine g_aload0 hX d_Bo_toggleEdge_83 ?_
        refine g_getI hX d_Bo_toggleEdge_84 fl_Bo_46 (lvBo_0 hb _) ?_
        refine g_topi (show rI (TgW w b a c g) b 3 = nI (gE g).length by rw [TgW_o (by omega)]; exact hR.el) ?_
        refine g_icmpN_ge hX d_Bo_toggleEdge_87 (by omega) (by omega) (fun c0 => ?_) (fun c0 => ?_)
        · obtain rfl : i = (gE g).length := by omega
          refine g_loc (show _ = [.ref b, .int (nI a), .int (nI c), .int (nI (codeOf a c)), .int (nI 0), .int (nI ix), .int (nI (gE g).length)] by rw [if_pos hix]) ?_
          refine g_iload5 hX d_Bo_toggleEdge_111 ?_
          refine g_istore6 hX d_Bo_toggleEdge_113 rfl (by decide) ?_
          refine g_mem (show (TgW w b a c g) = sA (TgW w b a c g) (b + 3) (mvD (rI (TgW w b a c g) (b + 3)) ix ix) by rw [mvD_0, sA_self]) ?_
          exact lpD ((gE g).length + 1) ix (by omega) (Nat.le_refl _) hix
        · refine g_aload0 hX d_Bo_toggleEdge_90 ?_
          refine g_getF hX d_Bo_toggleEdge_91 fl_Bo_18 (lvBo_0 hb _) ?_
          refine g_iload6 hX d_Bo_toggleEdge_94 ?_
          refine g_iald hX d_Bo_toggleEdge_96 (lvBo_3 hb _) rfl (by omega) ?_
          refine g_topi (show rI (TgW w b a c g) (b + 3) i = nI (gA (gE g) i) by rw [TgW_o (by omega)]; exact hR.e i (by omega)) ?_
          refine g_iload3 hX d_Bo_toggleEdge_97 ?_
          refine g_icmpN_ne hX d_Bo_toggleEdge_98 (by have := hW.e144 (gA_mem (es := gE g) (k := i) (by omega)); omega) (by omega) (fun e98 => ?_) (fun e98 => ?_)
          · refine g_iincN6 hX d_Bo_toggleEdge_105 rfl (by decide) ?_
            refine g_goto hX d_Bo_toggleEdge_108 ?_
            have hne : i ≠ ix := fun z => e98 (by rw [z]; exact hgx)
            refine g_eq rfl (by rw [pl_s hne]) rfl rfl (ih (i + 1) (by omega) (by omega))
          · refine g_iload6 hX d_Bo_toggleEdge_101 ?_
            refine g_istore5 hX d_Bo_toggleEdge_103 rfl (by decide) ?_
            refine g_iincN6 hX d_Bo_toggleEdge_105 rfl (by decide) ?_
            refine g_goto hX d_Bo_toggleEdge_108 ?_
            have hie : i = ix := gA_inj hW.ed (by omega) hix (e98.trans hgx.symm)
            refine g_eq rfl (by rw [pl_t hie]) rfl rfl (ih (i + 1) (by omega) (by omega))
    refine g_iconst (v := nI 0) hX d_Bo_toggleEdge_32 rfl ?_
    refine g_istore4 hX d_Bo_toggleEdge_33 rfl (by decide) ?_
    refine g_aload0 hX d_Bo_toggleEdge_35 ?_
    refine g_getF hX d_Bo_toggleEdge_36 fl_Bo_15 (lvBo_0 hb _) ?_
    refine g_iload1 hX d_Bo_toggleEdge_39 ?_
    refine g_dup2 hX d_Bo_toggleEdge_40 rfl rfl ?_
    refine g_iald hX d_Bo_toggleEdge_41 (lvBo_2 hb _) rfl (by omega) ?_
    refine g_topi (hR.nr a ha) ?_
    refine g_iconst (v := nI 1) hX d_Bo_toggleEdge_42 rfl ?_
    refine g_iload2 hX d_Bo_toggleEdge_43 ?_
    refine g_ishlN hX d_Bo_toggleEdge_44 (by omega) ?_
    refine g_ixorN hX d_Bo_toggleEdge_45 ?_
    refine g_iast hX d_Bo_toggleEdge_46 (lvBo_2 hb _) rfl (by omega) ?_
    refine g_aload0 hX d_Bo_toggleEdge_47 ?_
    refine g_getF hX d_Bo_toggleEdge_48 fl_Bo_15 (lvBo_0 hb _) ?_
    refine g_iload2 hX d_Bo_toggleEdge_51 ?_
    refine g_dup2 hX d_Bo_toggleEdge_52 rfl rfl ?_
    refine g_iald hX d_Bo_toggleEdge_53 (lvBo_2 hb _) rfl (by omega) ?_
    refine g_topi (show rI (sI w (b + 2) a (nI (nearB (gE g) a ^^^ 1 <<< c))) (b + 2) c = nI (nearB (gE g) c) by rw [rI_sI, upd_eq, if_neg (by omega)]; exact hR.nr c hc) ?_
    refine g_iconst (v := nI 1) hX d_Bo_toggleEdge_54 rfl ?_
    refine g_iload1 hX d_Bo_toggleEdge_55 ?_
    refine g_ishlN hX d_Bo_toggleEdge_56 (by omega) ?_
    refine g_ixorN hX d_Bo_toggleEdge_57 ?_
    refine g_iast hX d_Bo_toggleEdge_58 (lvBo_2 hb _) rfl (by omega) ?_
    refine g_mem (show _ = (TgW w b a c g) from rfl) ?_
    refine g_iload4 hX d_Bo_toggleEdge_59 ?_
    refine g_if_eq hX d_Bo_toggleEdge_61 (fun c2 => ?_) (fun h => absurd (by decide) h)
    refine g_iconst (v := nI 0) hX d_Bo_toggleEdge_75 rfl ?_
    refine g_istore5 hX d_Bo_toggleEdge_76 rfl (by decide) ?_
    refine g_iconst (v := nI 0) hX d_Bo_toggleEdge_78 rfl ?_
    refine g_istore6 hX d_Bo_toggleEdge_79 rfl (by decide) ?_
    refine g_loc (show _ = [.ref b, .int (nI a), .int (nI c), .int (nI (codeOf a c)), .int (nI 0), .int (nI (if ix < 0 then ix else 0)), .int (nI 0)] from rfl) ?_
    exact lpS ((gE g).length + 1) 0 (by omega) (Nat.zero_le _)
  · have hno : codeOf a c ∉ gE g := fun h => (tbI0 _ _).mp e25 ((near_tb (by omega) (by omega) hn hW.eo).mpr ⟨hac, h⟩)
    have h66 : (gE g).length < 66 := by
      have := (hW.join ha hc hac).el
      have hl : (tog (gE g) (codeOf a c)).length = (gE g).length + 1 := by unfold tog; rw [if_neg hno, List.length_append]; rfl
      have hl2 : (gE (gJoin g a c)).length = (gE g).length + 1 := hl
      omega
    refine g_iconst (v := nI 1) hX d_Bo_toggleEdge_28 rfl ?_
    refine g_goto hX d_Bo_toggleEdge_29 ?_
    refine g_istore4 hX d_Bo_toggleEdge_33 rfl (by decide) ?_
    refine g_aload0 hX d_Bo_toggleEdge_35 ?_
    refine g_getF hX d_Bo_toggleEdge_36 fl_Bo_15 (lvBo_0 hb _) ?_
    refine g_iload1 hX d_Bo_toggleEdge_39 ?_
    refine g_dup2 hX d_Bo_toggleEdge_40 rfl rfl ?_
    refine g_iald hX d_Bo_toggleEdge_41 (lvBo_2 hb _) rfl (by omega) ?_
    refine g_topi (hR.nr a ha) ?_
    refine g_iconst (v := nI 1) hX d_Bo_toggleEdge_42 rfl ?_
    refine g_iload2 hX d_Bo_toggleEdge_43 ?_
    refine g_ishlN hX d_Bo_toggleEdge_44 (by omega) ?_
    refine g_ixorN hX d_Bo_toggleEdge_45 ?_
    refine g_iast hX d_Bo_toggleEdge_46 (lvBo_2 hb _) rfl (by omega) ?_
    refine g_aload0 hX d_Bo_toggleEdge_47 ?_
    refine g_getF hX d_Bo_toggleEdge_48 fl_Bo_15 (lvBo_0 hb _) ?_
    refine g_iload2 hX d_Bo_toggleEdge_51 ?_
    refine g_dup2 hX d_Bo_toggleEdge_52 rfl rfl ?_
    refine g_iald hX d_Bo_toggleEdge_53 (lvBo_2 hb _) rfl (by omega) ?_
    refine g_topi (show rI (sI w (b + 2) a (nI (nearB (gE g) a ^^^ 1 <<< c))) (b + 2) c = nI (nearB (gE g) c) by rw [rI_sI, upd_eq, if_neg (by omega)]; exact hR.nr c hc) ?_
    refine g_iconst (v := nI 1) hX d_Bo_toggleEdge_54 rfl ?_
    refine g_iload1 hX d_Bo_toggleEdge_55 ?_
    refine g_ishlN hX d_Bo_toggleEdge_56 (by omega) ?_
    refine g_ixorN hX d_Bo_toggleEdge_57 ?_
    refine g_iast hX d_Bo_toggleEdge_58 (lvBo_2 hb _) rfl (by omega) ?_
    refine g_mem (show _ = (TgW w b a c g) from rfl) ?_
    refine g_iload4 hX d_Bo_toggleEdge_59 ?_
    refine g_if_eq hX d_Bo_toggleEdge_61 (fun h => absurd h (by decide)) (fun c3 => ?_)
    refine g_aload0 hX d_Bo_toggleEdge_64 ?_
    refine g_aload0 hX d_Bo_toggleEdge_65 ?_
    refine g_getI hX d_Bo_toggleEdge_66 fl_Bo_46 (lvBo_0 hb _) ?_
    refine g_topi (show rI (TgW w b a c g) b 3 = nI (gE g).length by rw [TgW_o (by omega)]; exact hR.el) ?_
    refine g_iload3 hX d_Bo_toggleEdge_69 ?_
    refine g_callV (As := [_, _]) hX hF.1 d_Bo_toggleEdge_70 ml_Bo_96 cf_Bo_insertEdge cv_Bo_insertEdge rfl rfl (c_Bo_insertEdge (w := (TgW w b a c g)) (p := (gE g).length) (l := (gE g).length) (x := nI (codeOf a c)) hb (by rw [TgW_o (by omega)]; exact hR.el) h66 (Nat.le_refl _)) (rcv_obj hX (lvBo_0 hb _) rfl rfl) (by omega) (by omega) (by omega) (Nat.le_of_ble_eq_true rfl) ?_
    refine ret_k ?_
    refine g_iconst (v := -1) hX d_Bo_toggleEdge_73 rfl ?_
    refine g_iret hX hF d_Bo_toggleEdge_74 (by omega) (by omega) ?_
    exact ⟨Tg_add hR hW ha hc hac hno, (((TgW_fr w b a c g).A (by omega)).I (by omega)).I (by omega), ⟨fun _ => rfl, fun y hy hgy => absurd (by rw [← hgy]; exact gA_mem hy) hno⟩⟩
