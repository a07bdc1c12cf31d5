def m_Re_readSingle : MR := (⟨"SubgraphDesk$Reader", "readSingle", "()Z"⟩, prog_8_method_20_code, 2, (some .boolean))
theorem cf_Re_readSingle : CF m_Re_readSingle 0 := ⟨gd 898 (by decide +kernel) rfl, gd 142 (by decide +kernel) rfl, by decide +kernel, by decide, by decide +kernel⟩
theorem cv_Re_readSingle : CV m_Re_readSingle := ⟨gd 897 (by decide +kernel) rfl, gd 11 (by decide +kernel) rfl⟩
theorem d_Re_readSingle_0 : Dc prog_8_method_20_code 0 (.aload_n 0) 1 1 := ⟨by decide +kernel, rfl⟩
theorem d_Re_readSingle_1 : Dc prog_8_method_20_code 1 (.getfield 38) 3 4 := ⟨by decide +kernel, rfl⟩
theorem d_Re_readSingle_4 : Dc prog_8_method_20_code 4 (.bipush 50) 2 6 := ⟨by decide +kernel, rfl⟩
theorem d_Re_readSingle_6 : Dj prog_8_method_20_code 6 (.if_icmp .lt 8) 9 8 14 := ⟨by decide +kernel, rfl, rfl⟩
theorem d_Re_readSingle_9 : Dc prog_8_method_20_code 9 (.aload_n 0) 1 10 := ⟨by decide +kernel, rfl⟩
theorem d_Re_readSingle_10 : Dc prog_8_method_20_code 10 (.invokevirtual 64) 3 13 := ⟨by decide +kernel, rfl⟩
theorem d_Re_readSingle_13 : Dc prog_8_method_20_code 13 (.ireturn) 1 14 := ⟨by decide +kernel, rfl⟩
theorem d_Re_readSingle_14 : Dc prog_8_method_20_code 14 (.aload_n 0) 1 15 := ⟨by decide +kernel, rfl⟩
theorem d_Re_readSingle_15 : Dc prog_8_method_20_code 15 (.dup) 1 16 := ⟨by decide +kernel, rfl⟩
theorem d_Re_readSingle_16 : Dc prog_8_method_20_code 16 (.getfield 38) 3 19 := ⟨by decide +kernel, rfl⟩
theorem d_Re_readSingle_19 : Dc prog_8_method_20_code 19 (.iconst 1) 1 20 := ⟨by decide +kernel, rfl⟩
theorem d_Re_readSingle_20 : Dc prog_8_method_20_code 20 (.iadd) 1 21 := ⟨by decide +kernel, rfl⟩
theorem d_Re_readSingle_21 : Dc prog_8_method_20_code 21 (.putfield 38) 3 24 := ⟨by decide +kernel, rfl⟩
theorem d_Re_readSingle_24 : Dc prog_8_method_20_code 24 (.aload_n 0) 1 25 := ⟨by decide +kernel, rfl⟩
theorem d_Re_readSingle_25 : Dc prog_8_method_20_code 25 (.getfield 12) 3 28 := ⟨by decide +kernel, rfl⟩
theorem d_Re_readSingle_28 : Dc prog_8_method_20_code 28 (.iconst 0) 1 29 := ⟨by decide +kernel, rfl⟩
theorem d_Re_readSingle_29 : Dc prog_8_method_20_code 29 (.sipush 1000) 3 32 := ⟨by decide +kernel, rfl⟩
theorem d_Re_readSingle_32 : Dc prog_8_method_20_code 32 (.invokevirtual 109) 3 35 := ⟨by decide +kernel, rfl⟩
theorem d_Re_readSingle_35 : Dj prog_8_method_20_code 35 (.ifCond .eq 28) 38 28 63 := ⟨by decide +kernel, rfl, rfl⟩
theorem d_Re_readSingle_38 : Dc prog_8_method_20_code 38 (.aload_n 0) 1 39 := ⟨by decide +kernel, rfl⟩
theorem d_Re_readSingle_39 : Dc prog_8_method_20_code 39 (.getfield 23) 3 42 := ⟨by decide +kernel, rfl⟩
theorem d_Re_readSingle_42 : Dc prog_8_method_20_code 42 (.iconst 0) 1 43 := ⟨by decide +kernel, rfl⟩
theorem d_Re_readSingle_43 : Dc prog_8_method_20_code 43 (.aload_n 0) 1 44 := ⟨by decide +kernel, rfl⟩
theorem d_Re_readSingle_44 : Dc prog_8_method_20_code 44 (.getfield 12) 3 47 := ⟨by decide +kernel, rfl⟩
theorem d_Re_readSingle_47 : Dc prog_8_method_20_code 47 (.getfield 113) 3 50 := ⟨by decide +kernel, rfl⟩
theorem d_Re_readSingle_50 : Dc prog_8_method_20_code 50 (.invokevirtual 135) 3 53 := ⟨by decide +kernel, rfl⟩
theorem d_Re_readSingle_53 : Dc prog_8_method_20_code 53 (.pop) 1 54 := ⟨by decide +kernel, rfl⟩
theorem d_Re_readSingle_54 : Dc prog_8_method_20_code 54 (.aload_n 0) 1 55 := ⟨by decide +kernel, rfl⟩
theorem d_Re_readSingle_55 : Dc prog_8_method_20_code 55 (.getfield 12) 3 58 := ⟨by decide +kernel, rfl⟩
theorem d_Re_readSingle_58 : Dc prog_8_method_20_code 58 (.invokevirtual 67) 3 61 := ⟨by decide +kernel, rfl⟩
theorem d_Re_readSingle_61 : Dc prog_8_method_20_code 61 (.iconst 1) 1 62 := ⟨by decide +kernel, rfl⟩
theorem d_Re_readSingle_62 : Dc prog_8_method_20_code 62 (.ireturn) 1 63 := ⟨by decide +kernel, rfl⟩
theorem d_Re_readSingle_63 : Dc prog_8_method_20_code 63 (.aload_n 0) 1 64 := ⟨by decide +kernel, rfl⟩
theorem d_Re_readSingle_64 : Dc prog_8_method_20_code 64 (.getfield 34) 3 67 := ⟨by decide +kernel, rfl⟩
theorem d_Re_readSingle_67 : Dj prog_8_method_20_code 67 (.ifCond .eq 13) 70 13 80 := ⟨by decide +kernel, rfl, rfl⟩
theorem d_Re_readSingle_70 : Dc prog_8_method_20_code 70 (.aload_n 0) 1 71 := ⟨by decide +kernel, rfl⟩
theorem d_Re_readSingle_71 : Dc prog_8_method_20_code 71 (.getfield 12) 3 74 := ⟨by decide +kernel, rfl⟩
theorem d_Re_readSingle_74 : Dc prog_8_method_20_code 74 (.invokestatic 170) 3 77 := ⟨by decide +kernel, rfl⟩
theorem d_Re_readSingle_77 : Dj prog_8_method_20_code 77 (.goto 10) 80 10 87 := ⟨by decide +kernel, rfl, rfl⟩
theorem d_Re_readSingle_80 : Dc prog_8_method_20_code 80 (.aload_n 0) 1 81 := ⟨by decide +kernel, rfl⟩
theorem d_Re_readSingle_81 : Dc prog_8_method_20_code 81 (.getfield 12) 3 84 := ⟨by decide +kernel, rfl⟩
theorem d_Re_readSingle_84 : Dc prog_8_method_20_code 84 (.invokestatic 176) 3 87 := ⟨by decide +kernel, rfl⟩
theorem d_Re_readSingle_87 : Dc prog_8_method_20_code 87 (.istore_n 1) 1 88 := ⟨by decide +kernel, rfl⟩
theorem d_Re_readSingle_88 : Dc prog_8_method_20_code 88 (.iload_n 1) 1 89 := ⟨by decide +kernel, rfl⟩
theorem d_Re_readSingle_89 : Dc prog_8_method_20_code 89 (.iconst (-1)) 1 90 := ⟨by decide +kernel, rfl⟩
theorem d_Re_readSingle_90 : Dj prog_8_method_20_code 90 (.if_icmp .ne 8) 93 8 98 := ⟨by decide +kernel, rfl, rfl⟩
theorem d_Re_readSingle_93 : Dc prog_8_method_20_code 93 (.aload_n 0) 1 94 := ⟨by decide +kernel, rfl⟩
theorem d_Re_readSingle_94 : Dc prog_8_method_20_code 94 (.invokevirtual 64) 3 97 := ⟨by decide +kernel, rfl⟩
theorem d_Re_readSingle_97 : Dc prog_8_method_20_code 97 (.ireturn) 1 98 := ⟨by decide +kernel, rfl⟩
theorem d_Re_readSingle_98 : Dc prog_8_method_20_code 98 (.aload_n 0) 1 99 := ⟨by decide +kernel, rfl⟩
theorem d_Re_readSingle_99 : Dc prog_8_method_20_code 99 (.getfield 12) 3 102 := ⟨by decide +kernel, rfl⟩
theorem d_Re_readSingle_102 : Dc prog_8_method_20_code 102 (.invokevirtual 67) 3 105 := ⟨by decide +kernel, rfl⟩
theorem d_Re_readSingle_105 : Dc prog_8_method_20_code 105 (.aload_n 0) 1 106 := ⟨by decide +kernel, rfl⟩
theorem d_Re_readSingle_106 : Dc prog_8_method_20_code 106 (.getfield 34) 3 109 := ⟨by decide +kernel, rfl⟩
theorem d_Re_readSingle_109 : Dj prog_8_method_20_code 109 (.ifCond .eq 43) 112 43 152 := ⟨by decide +kernel, rfl, rfl⟩
theorem d_Re_readSingle_112 : Dc prog_8_method_20_code 112 (.iload_n 1) 1 113 := ⟨by decide +kernel, rfl⟩
theorem d_Re_readSingle_113 : Dc prog_8_method_20_code 113 (.iconst 5) 1 114 := ⟨by decide +kernel, rfl⟩
theorem d_Re_readSingle_114 : Dj prog_8_method_20_code 114 (.if_icmp .ne 38) 117 38 152 := ⟨by decide +kernel, rfl, rfl⟩
theorem d_Re_readSingle_117 : Dc prog_8_method_20_code 117 (.aload_n 0) 1 118 := ⟨by decide +kernel, rfl⟩
theorem d_Re_readSingle_118 : Dc prog_8_method_20_code 118 (.getfield 12) 3 121 := ⟨by decide +kernel, rfl⟩
theorem d_Re_readSingle_121 : Dc prog_8_method_20_code 121 (.iconst 0) 1 122 := ⟨by decide +kernel, rfl⟩
theorem d_Re_readSingle_122 : Dc prog_8_method_20_code 122 (.bipush 11) 2 124 := ⟨by decide +kernel, rfl⟩
theorem d_Re_readSingle_124 : Dc prog_8_method_20_code 124 (.invokevirtual 109) 3 127 := ⟨by decide +kernel, rfl⟩
theorem d_Re_readSingle_127 : Dj prog_8_method_20_code 127 (.ifCond .ne 8) 130 8 135 := ⟨by decide +kernel, rfl, rfl⟩
theorem d_Re_readSingle_130 : Dc prog_8_method_20_code 130 (.aload_n 0) 1 131 := ⟨by decide +kernel, rfl⟩
theorem d_Re_readSingle_131 : Dc prog_8_method_20_code 131 (.invokevirtual 64) 3 134 := ⟨by decide +kernel, rfl⟩
theorem d_Re_readSingle_134 : Dc prog_8_method_20_code 134 (.ireturn) 1 135 := ⟨by decide +kernel, rfl⟩
theorem d_Re_readSingle_135 : Dc prog_8_method_20_code 135 (.iload_n 1) 1 136 := ⟨by decide +kernel, rfl⟩
theorem d_Re_readSingle_136 : Dc prog_8_method_20_code 136 (.aload_n 0) 1 137 := ⟨by decide +kernel, rfl⟩
theorem d_Re_readSingle_137 : Dc prog_8_method_20_code 137 (.getfield 12) 3 140 := ⟨by decide +kernel, rfl⟩
theorem d_Re_readSingle_140 : Dc prog_8_method_20_code 140 (.getfield 113) 3 143 := ⟨by decide +kernel, rfl⟩
theorem d_Re_readSingle_143 : Dc prog_8_method_20_code 143 (.iadd) 1 144 := ⟨by decide +kernel, rfl⟩
theorem d_Re_readSingle_144 : Dc prog_8_method_20_code 144 (.istore_n 1) 1 145 := ⟨by decide +kernel, rfl⟩
theorem d_Re_readSingle_145 : Dc prog_8_method_20_code 145 (.aload_n 0) 1 146 := ⟨by decide +kernel, rfl⟩
theorem d_Re_readSingle_146 : Dc prog_8_method_20_code 146 (.getfield 12) 3 149 := ⟨by decide +kernel, rfl⟩
theorem d_Re_readSingle_149 : Dc prog_8_method_20_code 149 (.invokevirtual 67) 3 152 := ⟨by decide +kernel, rfl⟩
theorem d_Re_readSingle_152 : Dc prog_8_method_20_code 152 (.aload_n 0) 1 153 := ⟨by decide +kernel, rfl⟩
theorem d_Re_readSingle_153 : Dc prog_8_method_20_code 153 (.getfield 23) 3 156 := ⟨by decide +kernel, rfl⟩
theorem d_Re_readSingle_156 : Dc prog_8_method_20_code 156 (.iconst 1) 1 157 := ⟨by decide +kernel, rfl⟩
theorem d_Re_readSingle_157 : Dc prog_8_method_20_code 157 (.iload_n 1) 1 158 := ⟨by decide +kernel, rfl⟩
theorem d_Re_readSingle_158 : Dc prog_8_method_20_code 158 (.invokevirtual 135) 3 161 := ⟨by decide +kernel, rfl⟩
theorem d_Re_readSingle_161 : Dc prog_8_method_20_code 161 (.pop) 1 162 := ⟨by decide +kernel, rfl⟩
theorem d_Re_readSingle_162 : Dc prog_8_method_20_code 162 (.iconst 1) 1 163 := ⟨by decide +kernel, rfl⟩
theorem d_Re_readSingle_163 : Dc prog_8_method_20_code 163 (.ireturn) 1 164 := ⟨by decide +kernel, rfl⟩
theorem fl_Re_23 : FL "SubgraphDesk$Reader" 23 7 1 true (.object "SubgraphDesk$Program") (3, 3) := ⟨R_Re, F_Re, 5, ty_Re, rfl, rfl, in_Re, tyok_Re, nm_Re, by decide, gd 351 (by decide +kernel) rfl, rfl, rfl, rfl⟩
theorem fl_Re_34 : FL "SubgraphDesk$Reader" 34 7 2 false .boolean (1, 0) := ⟨R_Re, F_Re, 5, ty_Re, rfl, rfl, in_Re, tyok_Re, nm_Re, by decide, gd 353 (by decide +kernel) rfl, rfl, rfl, rfl⟩
theorem fl_Re_38 : FL "SubgraphDesk$Reader" 38 7 3 false .int (0, 0) := ⟨R_Re, F_Re, 5, ty_Re, rfl, rfl, in_Re, tyok_Re, nm_Re, by decide, gd 354 (by decide +kernel) rfl, rfl, rfl, rfl⟩
theorem fl_Re_113 : FL "SubgraphDesk$Reader" 113 10 6 false .int (0, 0) := ⟨R_Ta, F_Ta, 7, ty_Ta, rfl, rfl, in_Ta, tyok_Ta, nm_Ta, by decide, gd 311 (by decide +kernel) rfl, rfl, rfl, rfl⟩
theorem ml_Re_64 : Cond.methodLink "SubgraphDesk$Reader" 64 m_Re_fail.1 ∈ lw_gd := gd 856 (by decide +kernel) rfl
theorem ml_Re_67 : Cond.methodLink "SubgraphDesk$Reader" 67 m_Ta_step.1 ∈ lw_gd := gd 870 (by decide +kernel) rfl
theorem ml_Re_109 : Cond.methodLink "SubgraphDesk$Reader" 109 m_Ta_isNumber.1 ∈ lw_gd := gd 899 (by decide +kernel) rfl
theorem ml_Re_135 : Cond.methodLink "SubgraphDesk$Reader" 135 m_Pr_emit.1 ∈ lw_gd := gd 903 (by decide +kernel) rfl
theorem ml_Re_170 : Cond.methodLink "SubgraphDesk$Reader" 170 m_Ru_wordHere.1 ∈ lw_gd := gd 907 (by decide +kernel) rfl
theorem ml_Re_176 : Cond.methodLink "SubgraphDesk$Reader" 176 m_Le_wordHere.1 ∈ lw_gd := gd 917 (by decide +kernel) rfl
theorem cwd_n (v : Nat) : cwd 0 v = 0 * 4096 + v := by unfold cwd dO dA; rw [if_pos rfl, if_pos rfl]
theorem cwd_w {k : Nat} (hk : k < 7) : cwd (k + 1) 0 = 1 * 4096 + k := by
  unfold cwd dO dA
  rw [if_neg (by omega), if_pos (by omega), if_neg (by omega)]
  by_cases e : k + 1 = 6
  · rw [if_pos e]; omega
  · rw [if_neg e, if_pos (by omega)]; omega
theorem cwd_d (v : Nat) : cwd 6 v = 1 * 4096 + (5 + v) := by unfold cwd dO dA; rw [if_neg (by decide), if_pos (by decide), if_neg (by decide), if_pos rfl]
theorem leafN (c : List (Nat × Nat)) (v : Nat) : SegL (c ++ [(0, v)]) c.length (c ++ [(0, v)]).length (fun _ => some (v : Int)) := by
  have h := seg_num (op := cO (c ++ [(0, v)])) (arg := cA (c ++ [(0, v)])) (a := c.length) cO_last.1
  rw [cO_last.2] at h
  rw [List.length_append, List.length_singleton]
  exact h
theorem leafW (c : List (Nat × Nat)) (k v : Nat) (hk : k < 7) : SegL (c ++ [(k + 1, v)]) c.length (c ++ [(k + 1, v)]).length (fun env => some (env (if k + 1 = 6 then 20 + v else k + 1))) := by
  have h := seg_word (op := cO (c ++ [(k + 1, v)])) (arg := cA (c ++ [(k + 1, v)])) (a := c.length) (by rw [cO_last.1]; exact Nat.succ_ne_zero k) (by rw [cO_last.1]; show k + 1 < 20; omega)
  rw [cO_last.1, cO_last.2] at h
  rw [List.length_append, List.length_singleton]
  exact h
theorem leafW0 (c : List (Nat × Nat)) (k : Nat) (hk : k < 7) : SegL (c ++ [(k + 1, 0)]) c.length (c ++ [(k + 1, 0)]).length (fun env => some (env (if k = 5 then 20 else k + 1))) := by
  have h := leafW c k 0 hk
  by_cases e : k = 5
  · rw [if_pos e]; rw [if_pos (by omega)] at h; exact h
  · rw [if_neg e]; rw [if_neg (by omega)] at h; exact h
theorem c_Re_readSingle {E : EV} {w : Mem} {t : List Nat} {o : Bool} {f p : Nat} {c : List (Nat × Nat)} (h : RdI w t o f p c) : T E m_Re_readSingle 6 0 0 [.ref 25] w (fun r w2 => ExQ w w2 t o c f p (rdLeaf t o f p) r) := by
  refine T_of (L := [.ref 25, un]) cf_Re_readSingle rfl (Nat.le_of_ble_eq_true rfl) (fun X hX hF => ?_)
  have hp50 := h.2.2.2.2.1
  refine g_aload0 hX d_Re_readSingle_0 ?_
  refine g_getI hX d_Re_readSingle_1 fl_Re_38 (lv_25 _) ?_
  refine g_topi h.2.2.1 ?_
  refine g_bipush (v := nI 50) hX d_Re_readSingle_4 rfl ?_
  refine g_icmpN_lt hX d_Re_readSingle_6 (by omega) (by omega) (fun e6 => ?_) (fun e6 => ?_)
  · have hlen := h.len
    have hpsh := h.2.2.2.2.2.2
    have h36 := h.2.2.2.2.2.1
    have hfl := h.fl
    refine g_aload0 hX d_Re_readSingle_14 ?_
    refine g_dup hX d_Re_readSingle_15 rfl ?_
    refine g_getI hX d_Re_readSingle_16 fl_Re_38 (lv_25 _) ?_
    refine g_topi h.2.2.1 ?_
    refine g_iconst (v := nI 1) hX d_Re_readSingle_19 rfl ?_
    refine g_iaddN hX d_Re_readSingle_20 ?_
    refine g_putI hX d_Re_readSingle_21 fl_Re_38 (lv_25 _) ?_
    have h1 := h.part e6
    refine g_aload0 hX d_Re_readSingle_24 ?_
    refine g_getF hX d_Re_readSingle_25 fl_Re_12 (lv_25 _) ?_
    refine g_iconst (v := nI 0) hX d_Re_readSingle_28 rfl ?_
    refine g_sipush (v := nI 1000) hX d_Re_readSingle_29 rfl ?_
    refine g_callV (As := [_, _]) hX hF.1 d_Re_readSingle_32 ml_Re_109 cf_Ta_isNumber cv_Ta_isNumber rfl rfl (c_Ta_isNumber (by decide) (by decide) h1.1) (rcv_obj hX (lv_26 _) rfl rfl) (by omega) (by omega) (by omega) (Nat.le_of_ble_eq_true rfl) ?_
    refine ret_k ?_
    refine g_ifB_eq hX d_Re_readSingle_35 (fun e35 => ?_) (fun e35 => ?_)
    · refine g_aload0 hX d_Re_readSingle_63 ?_
      refine g_getZ hX d_Re_readSingle_64 fl_Re_34 (lv_25 _) ?_
      refine g_topi h1.2.1 ?_
      refine g_ifB_eq hX d_Re_readSingle_67 (fun e67 => ?_) (fun e67 => ?_)
      · obtain rfl : o = false := by cases o; rfl; exact absurd rfl e67
        refine g_aload0 hX d_Re_readSingle_80 ?_
        refine g_getF hX d_Re_readSingle_81 fl_Re_12 (lv_25 _) ?_
        refine g_callS (As := [_]) hX hF.1 d_Re_readSingle_84 ml_Re_176 cf_Le_wordHere cs_Le_wordHere rfl (c_Le_wordHere h1.1) (by omega) (by omega) (by omega) (Nat.le_of_ble_eq_true rfl) ?_
        rintro r5 w5 ⟨hword, hw5⟩
        have hw6 := hw5.symm
        subst hw6
        obtain ⟨x, rfl, hx⟩ : ∃ x : Int32, r5 = some (.int x) ∧ ((∃ k, k < (partsL false).length ∧ isW t f (gA2 (partsL false) k) ∧ x = nI k) ∨ (x = -1 ∧ ∀ k, k < (partsL false).length → ¬ isW t f (gA2 (partsL false) k))) := by
          rcases hword with ⟨k, a1, a2, a3⟩ | ⟨a1, a2⟩
          · exact ⟨nI k, a3, Or.inl ⟨k, a1, a2, rfl⟩⟩
          · exact ⟨-1, a1, Or.inr ⟨rfl, a2⟩⟩
        show G0 _ _ _ _ _ _ _ _
        refine g_istore1 hX d_Re_readSingle_87 rfl (by decide) ?_
        refine g_iload1 hX d_Re_readSingle_88 ?_
        refine g_iconst (v := -1) hX d_Re_readSingle_89 rfl ?_
        refine g_icmp_ne hX d_Re_readSingle_90 (fun e90 => ?_) (fun e90 => ?_)
        · obtain ⟨k, hk, hwk, rfl⟩ : ∃ k, k < (partsL false).length ∧ isW t f (gA2 (partsL false) k) ∧ x = nI k := hx.resolve_right (fun z => e90 z.1)
          have hk7 : k < 7 := Nat.lt_of_lt_of_le hk (partsL_le _)
          refine g_aload0 hX d_Re_readSingle_98 ?_
          refine g_getF hX d_Re_readSingle_99 fl_Re_12 (lv_25 _) ?_
          refine g_callV (As := []) hX hF.1 d_Re_readSingle_102 ml_Re_67 cf_Ta_step cv_Ta_step rfl rfl (c_Ta_step h1.1.1 h1.1.2.2.1 (enT_le h1.fl.1)) (rcv_obj hX (lv_26 _) rfl rfl) (by omega) (by omega) (by omega) (Nat.le_of_ble_eq_true rfl) ?_
          rintro _ w3 ⟨rfl, ft_w3, tk_w3⟩
          have h3 := h1.step ft_w3 tk_w3
          show G0 _ _ _ _ _ _ _ _
          refine g_aload0 hX d_Re_readSingle_105 ?_
          refine g_getZ hX d_Re_readSingle_106 fl_Re_34 (lv_25 _) ?_
          refine g_topi h3.2.1 ?_
          refine g_ifB_eq hX d_Re_readSingle_109 (fun c4 => ?_) (fun h => absurd h (by decide))
          refine g_aload0 hX d_Re_readSingle_152 ?_
          refine g_getF hX d_Re_readSingle_153 fl_Re_23 (lv_25 _) ?_
          refine g_iconst (v := nI 1) hX d_Re_readSingle_156 rfl ?_
          refine g_iload1 hX d_Re_readSingle_157 ?_
          refine g_callV (As := [_, _]) hX hF.1 d_Re_readSingle_158 ml_Re_135 cf_Pr_emit cv_Pr_emit rfl rfl (c_Pr_emit (o := 1) (a := k) (len := c.length) h3.2.2.2.1.1 h3.2.2.2.1.2.1 (by omega) (by decide) (by omega)) (rcv_obj hX (lv_28 _) rfl rfl) (by omega) (by omega) (by omega) (Nat.le_of_ble_eq_true rfl) ?_
          refine ret_k ?_
          refine g_pop hX d_Re_readSingle_161 rfl ?_
          refine g_iconst (v := nI 1) hX d_Re_readSingle_162 rfl ?_
          refine g_zret hX hF d_Re_readSingle_163 (Or.inr rfl) (by omega) (by omega) ?_
          have hfr3 := (((FrRd.rf w).pt (k := 3) (x := nI (p + 1)) (by decide)).tr ft_w3.R).em (m := c.length) (x := nI (1 * 4096 + k)) (k := 1) (y := nI (c.length + 1)) (by decide)
          have hge := nxT_ge t f h.fl.1
          refine ⟨hfr3, ?_⟩
          rw [leaf_word (by omega) e35 hk hwk (by simp)]
          exact ⟨rfl, (by rw [rI_sI_ne _ _ _ (by decide), rI_sI_ne _ _ _ (by decide), ft_w3.1 25 (by decide), rI_sI, upd_eq, if_neg (by decide)]), [(k + 1, 0)], h3.emit (q := (k + 1, 0)) (cwd_w hk7).symm (by omega) (by show psh (cO c) c.length + (if k + 1 < 20 then 1 else 0) ≤ p + 1; rw [if_pos (by omega)]; omega), leafW0 c k hk7, OkX.one ⟨⟨(show 0 < 1001 by decide), Or.inl (show k + 1 ≤ (partsL false).length by omega)⟩, fun _ => ⟨fun _ => rfl, Nat.zero_le _⟩⟩ (by show k + 1 < 29; omega), by rw [List.length_append, List.length_singleton]; show 3 * (c.length + 1) + 3 + 6 * p + f ≤ 3 * c.length + 6 * (p + 1) + nxT t f; omega⟩
        · have hno : ∀ k, k < (partsL false).length → ¬ isW t f (gA2 (partsL false) k) := by
            rcases hx with ⟨k, a1, a2, a3⟩ | z
            · rw [a3] at e90
              exact absurd e90 (nI_m1 (by have := partsL_le false; omega))
            · exact z.2
          refine g_aload0 hX d_Re_readSingle_93 ?_
          refine g_callV (As := []) hX hF.1 d_Re_readSingle_94 ml_Re_64 cf_Re_fail cv_Re_fail rfl rfl (c_Re_fail h1.1) (rcv_obj hX (lv_25 _) rfl rfl) (by omega) (by omega) (by omega) (Nat.le_of_ble_eq_true rfl) ?_
          refine ret_k ?_
          refine g_zret hX hF d_Re_readSingle_97 (Or.inl rfl) (by omega) (by omega) ?_
          refine ⟨((FrRd.rf w).pt (by decide)).pt (by decide), ?_⟩
          rw [leaf_none (by omega) e35 hno]
          exact ⟨rfl, by rw [rI_sI, upd_eq, if_pos rfl]⟩
      · subst e67
        refine g_aload0 hX d_Re_readSingle_70 ?_
        refine g_getF hX d_Re_readSingle_71 fl_Re_12 (lv_25 _) ?_
        refine g_callS (As := [_]) hX hF.1 d_Re_readSingle_74 ml_Re_170 cf_Ru_wordHere cs_Ru_wordHere rfl (c_Ru_wordHere h1.1) (by omega) (by omega) (by omega) (Nat.le_of_ble_eq_true rfl) ?_
        rintro r5 w5 ⟨hword, hw5⟩
        have hw6 := hw5.symm
        subst hw6
        obtain ⟨x, rfl, hx⟩ : ∃ x : Int32, r5 = some (.int x) ∧ ((∃ k, k < (partsL true).length ∧ isW t f (gA2 (partsL true) k) ∧ x = nI k) ∨ (x = -1 ∧ ∀ k, k < (partsL true).length → ¬ isW t f (gA2 (partsL true) k))) := by
          rcases hword with ⟨k, a1, a2, a3⟩ | ⟨a1, a2⟩
          · exact ⟨nI k, a3, Or.inl ⟨k, a1, a2, rfl⟩⟩
          · exact ⟨-1, a1, Or.inr ⟨rfl, a2⟩⟩
        show G0 _ _ _ _ _ _ _ _
        refine g_goto hX d_Re_readSingle_77 ?_
        refine g_istore1 hX d_Re_readSingle_87 rfl (by decide) ?_
        refine g_iload1 hX d_Re_readSingle_88 ?_
        refine g_iconst (v := -1) hX d_Re_readSingle_89 rfl ?_
        refine g_icmp_ne hX d_Re_readSingle_90 (fun e90 => ?_) (fun e90 => ?_)
        · obtain ⟨k, hk, hwk, rfl⟩ : ∃ k, k < (partsL true).length ∧ isW t f (gA2 (partsL true) k) ∧ x = nI k := hx.resolve_right (fun z => e90 z.1)
          have hk7 : k < 7 := Nat.lt_of_lt_of_le hk (partsL_le _)
          refine g_aload0 hX d_Re_readSingle_98 ?_
          refine g_getF hX d_Re_readSingle_99 fl_Re_12 (lv_25 _) ?_
          refine g_callV (As := []) hX hF.1 d_Re_readSingle_102 ml_Re_67 cf_Ta_step cv_Ta_step rfl rfl (c_Ta_step h1.1.1 h1.1.2.2.1 (enT_le h1.fl.1)) (rcv_obj hX (lv_26 _) rfl rfl) (by omega) (by omega) (by omega) (Nat.le_of_ble_eq_true rfl) ?_
          rintro _ w3 ⟨rfl, ft_w3, tk_w3⟩
          have h3 := h1.step ft_w3 tk_w3
          show G0 _ _ _ _ _ _ _ _
          refine g_aload0 hX d_Re_readSingle_105 ?_
          refine g_getZ hX d_Re_readSingle_106 fl_Re_34 (lv_25 _) ?_
          refine g_topi h3.2.1 ?_
          refine g_ifB_eq hX d_Re_readSingle_109 (fun h => absurd (rfl) h) (fun c6 => ?_)
          refine g_iload1 hX d_Re_readSingle_112 ?_
          refine g_iconst (v := nI 5) hX d_Re_readSingle_113 rfl ?_
          refine g_icmpN_ne hX d_Re_readSingle_114 (by omega) (by omega) (fun e114 => ?_) (fun e114 => ?_)
          · 
            refine g_aload0 hX d_Re_readSingle_152 ?_
            refine g_getF hX d_Re_readSingle_153 fl_Re_23 (lv_25 _) ?_
            refine g_iconst (v := nI 1) hX d_Re_readSingle_156 rfl ?_
            refine g_iload1 hX d_Re_readSingle_157 ?_
            refine g_callV (As := [_, _]) hX hF.1 d_Re_readSingle_158 ml_Re_135 cf_Pr_emit cv_Pr_emit rfl rfl (c_Pr_emit (o := 1) (a := k) (len := c.length) h3.2.2.2.1.1 h3.2.2.2.1.2.1 (by omega) (by decide) (by omega)) (rcv_obj hX (lv_28 _) rfl rfl) (by omega) (by omega) (by omega) (Nat.le_of_ble_eq_true rfl) ?_
            refine ret_k ?_
            refine g_pop hX d_Re_readSingle_161 rfl ?_
            refine g_iconst (v := nI 1) hX d_Re_readSingle_162 rfl ?_
            refine g_zret hX hF d_Re_readSingle_163 (Or.inr rfl) (by omega) (by omega) ?_
            have hfr3 := (((FrRd.rf w).pt (k := 3) (x := nI (p + 1)) (by decide)).tr ft_w3.R).em (m := c.length) (x := nI (1 * 4096 + k)) (k := 1) (y := nI (c.length + 1)) (by decide)
            have hge := nxT_ge t f h.fl.1
            refine ⟨hfr3, ?_⟩
            rw [leaf_word (by omega) e35 hk hwk (fun z => e114 z.2)]
            exact ⟨rfl, (by rw [rI_sI_ne _ _ _ (by decide), rI_sI_ne _ _ _ (by decide), ft_w3.1 25 (by decide), rI_sI, upd_eq, if_neg (by decide)]), [(k + 1, 0)], h3.emit (q := (k + 1, 0)) (cwd_w hk7).symm (by omega) (by show psh (cO c) c.length + (if k + 1 < 20 then 1 else 0) ≤ p + 1; rw [if_pos (by omega)]; omega), leafW0 c k hk7, OkX.one ⟨⟨(show 0 < 1001 by decide), Or.inl (show k + 1 ≤ (partsL true).length by omega)⟩, fun _ => ⟨fun _ => rfl, Nat.zero_le _⟩⟩ (by show k + 1 < 29; omega), by rw [List.length_append, List.length_singleton]; show 3 * (c.length + 1) + 3 + 6 * p + f ≤ 3 * c.length + 6 * (p + 1) + nxT t f; omega⟩
          · have hnn := numC_le t (nxT t f)
            refine g_aload0 hX d_Re_readSingle_117 ?_
            refine g_getF hX d_Re_readSingle_118 fl_Re_12 (lv_25 _) ?_
            refine g_iconst (v := nI 0) hX d_Re_readSingle_121 rfl ?_
            refine g_bipush (v := nI 11) hX d_Re_readSingle_122 rfl ?_
            refine g_callV (As := [_, _]) hX hF.1 d_Re_readSingle_124 ml_Re_109 cf_Ta_isNumber cv_Ta_isNumber rfl rfl (c_Ta_isNumber (by decide) (by decide) h3.1) (rcv_obj hX (lv_26 _) rfl rfl) (by omega) (by omega) (by omega) (Nat.le_of_ble_eq_true rfl) ?_
            refine ret_k ?_
            refine g_ifB_ne hX d_Re_readSingle_127 (fun e127 => ?_) (fun e127 => ?_)
            · refine g_iload1 hX d_Re_readSingle_135 ?_
              refine g_aload0 hX d_Re_readSingle_136 ?_
              refine g_getF hX d_Re_readSingle_137 fl_Re_12 (lv_25 _) ?_
              refine g_getI hX d_Re_readSingle_140 fl_Re_113 (lv_26 _) ?_
              refine g_topi (h3.1.2.2.2.2.1 (by rw [e127.1]; decide)) ?_
              refine g_iaddN hX d_Re_readSingle_143 ?_
              refine g_istore1 hX d_Re_readSingle_144 rfl (by decide) ?_
              refine g_aload0 hX d_Re_readSingle_145 ?_
              refine g_getF hX d_Re_readSingle_146 fl_Re_12 (lv_25 _) ?_
              refine g_callV (As := []) hX hF.1 d_Re_readSingle_149 ml_Re_67 cf_Ta_step cv_Ta_step rfl rfl (c_Ta_step h3.1.1 h3.1.2.2.1 (enT_le h3.fl.1)) (rcv_obj hX (lv_26 _) rfl rfl) (by omega) (by omega) (by omega) (Nat.le_of_ble_eq_true rfl) ?_
              rintro _ w4 ⟨rfl, ft_w4, tk_w4⟩
              have h4 := h3.step ft_w4 tk_w4
              show G0 _ _ _ _ _ _ _ _
              refine g_aload0 hX d_Re_readSingle_152 ?_
              refine g_getF hX d_Re_readSingle_153 fl_Re_23 (lv_25 _) ?_
              refine g_iconst (v := nI 1) hX d_Re_readSingle_156 rfl ?_
              refine g_iload1 hX d_Re_readSingle_157 ?_
              refine g_callV (As := [_, _]) hX hF.1 d_Re_readSingle_158 ml_Re_135 cf_Pr_emit cv_Pr_emit rfl rfl (c_Pr_emit (o := 1) (a := (k + numC t (nxT t f))) (len := c.length) h4.2.2.2.1.1 h4.2.2.2.1.2.1 (by omega) (by decide) (by omega)) (rcv_obj hX (lv_28 _) rfl rfl) (by omega) (by omega) (by omega) (Nat.le_of_ble_eq_true rfl) ?_
              refine ret_k ?_
              refine g_pop hX d_Re_readSingle_161 rfl ?_
              refine g_iconst (v := nI 1) hX d_Re_readSingle_162 rfl ?_
              refine g_zret hX hF d_Re_readSingle_163 (Or.inr rfl) (by omega) (by omega) ?_
              have hfr3 := ((((FrRd.rf w).pt (k := 3) (x := nI (p + 1)) (by decide)).tr ft_w3.R).tr ft_w4.R).em (m := c.length) (x := nI (1 * 4096 + (k + numC t (nxT t f)))) (k := 1) (y := nI (c.length + 1)) (by decide)
              have hge := nxT_ge t f h.fl.1
              have hge2 := nxT_ge t (nxT t f) h3.fl.1
              subst e114
              refine ⟨hfr3, ?_⟩
              rw [leaf_deg (by omega) e35 hk hwk ⟨rfl, rfl⟩, if_pos e127]
              exact ⟨rfl, (by rw [rI_sI_ne _ _ _ (by decide), rI_sI_ne _ _ _ (by decide), ft_w4.1 25 (by decide), ft_w3.1 25 (by decide), rI_sI, upd_eq, if_neg (by decide)]), [(6, numC t (nxT t f))], h4.emit (q := (6, numC t (nxT t f))) (cwd_d _).symm (by omega) (by show psh (cO c) c.length + (if 6 < 20 then 1 else 0) ≤ p + 1; rw [if_pos (by decide)]; omega), (leafW c 5 (numC t (nxT t f)) (by decide)), OkX.one ⟨⟨(show numC t (nxT t f) < 1001 by omega), Or.inl (show 6 ≤ (partsL true).length by decide)⟩, fun _ => ⟨(fun z => by cases z), e127.2.2⟩⟩ (by show 6 < 29; omega), by rw [List.length_append, List.length_singleton]; show 3 * (c.length + 1) + 3 + 6 * p + f ≤ 3 * c.length + 6 * (p + 1) + nxT t (nxT t f); omega⟩
            · refine g_aload0 hX d_Re_readSingle_130 ?_
              refine g_callV (As := []) hX hF.1 d_Re_readSingle_131 ml_Re_64 cf_Re_fail cv_Re_fail rfl rfl (c_Re_fail h3.1) (rcv_obj hX (lv_25 _) rfl rfl) (by omega) (by omega) (by omega) (Nat.le_of_ble_eq_true rfl) ?_
              refine ret_k ?_
              refine g_zret hX hF d_Re_readSingle_134 (Or.inl rfl) (by omega) (by omega) ?_
              refine ⟨(((FrRd.rf w).pt (k := 3) (x := nI (p + 1)) (by decide)).tr ft_w3.R).pt (by decide), ?_⟩
              rw [leaf_deg (by omega) e35 hk hwk ⟨rfl, e114⟩, if_neg e127]
              exact ⟨rfl, by rw [rI_sI, upd_eq, if_pos rfl]⟩
        · have hno : ∀ k, k < (partsL true).length → ¬ isW t f (gA2 (partsL true) k) := by
            rcases hx with ⟨k, a1, a2, a3⟩ | z
            · rw [a3] at e90
              exact absurd e90 (nI_m1 (by have := partsL_le true; omega))
            · exact z.2
          refine g_aload0 hX d_Re_readSingle_93 ?_
          refine g_callV (As := []) hX hF.1 d_Re_readSingle_94 ml_Re_64 cf_Re_fail cv_Re_fail rfl rfl (c_Re_fail h1.1) (rcv_obj hX (lv_25 _) rfl rfl) (by omega) (by omega) (by omega) (Nat.le_of_ble_eq_true rfl) ?_
          refine ret_k ?_
          refine g_zret hX hF d_Re_readSingle_97 (Or.inl rfl) (by omega) (by omega) ?_
          refine ⟨((FrRd.rf w).pt (by decide)).pt (by decide), ?_⟩
          rw [leaf_none (by omega) e35 hno]
          exact ⟨rfl, by rw [rI_sI, upd_eq, if_pos rfl]⟩
    · have hnn := numC_le t f
      refine g_aload0 hX d_Re_readSingle_38 ?_
      refine g_getF hX d_Re_readSingle_39 fl_Re_23 (lv_25 _) ?_
      refine g_iconst (v := nI 0) hX d_Re_readSingle_42 rfl ?_
      refine g_aload0 hX d_Re_readSingle_43 ?_
      refine g_getF hX d_Re_readSingle_44 fl_Re_12 (lv_25 _) ?_
      refine g_getI hX d_Re_readSingle_47 fl_Re_113 (lv_26 _) ?_
      refine g_topi (h1.1.2.2.2.2.1 (by rw [e35.1]; decide)) ?_
      refine g_callV (As := [_, _]) hX hF.1 d_Re_readSingle_50 ml_Re_135 cf_Pr_emit cv_Pr_emit rfl rfl (c_Pr_emit (o := 0) (a := (numC t f)) (len := c.length) h1.2.2.2.1.1 h1.2.2.2.1.2.1 (by omega) (by decide) (by omega)) (rcv_obj hX (lv_28 _) rfl rfl) (by omega) (by omega) (by omega) (Nat.le_of_ble_eq_true rfl) ?_
      refine ret_k ?_
      refine g_pop hX d_Re_readSingle_53 rfl ?_
      have h2 := h1.emit (q := (0, numC t f)) (cwd_n _).symm (by omega) (by show psh (cO c) c.length + (if 0 < 20 then 1 else 0) ≤ p + 1; rw [if_pos (by decide)]; omega)
      refine g_aload0 hX d_Re_readSingle_54 ?_
      refine g_getF hX d_Re_readSingle_55 fl_Re_12 (lv_25 _) ?_
      refine g_callV (As := []) hX hF.1 d_Re_readSingle_58 ml_Re_67 cf_Ta_step cv_Ta_step rfl rfl (c_Ta_step h2.1.1 h2.1.2.2.1 (enT_le h2.fl.1)) (rcv_obj hX (lv_26 _) rfl rfl) (by omega) (by omega) (by omega) (Nat.le_of_ble_eq_true rfl) ?_
      rintro _ w3 ⟨rfl, ft_w3, tk_w3⟩
      have h3 := h2.step ft_w3 tk_w3
      show G0 _ _ _ _ _ _ _ _
      refine g_iconst (v := nI 1) hX d_Re_readSingle_61 rfl ?_
      refine g_zret hX hF d_Re_readSingle_62 (Or.inr rfl) (by omega) (by omega) ?_
      have hge := nxT_ge t f h.fl.1
      refine ⟨(((FrRd.rf w).pt (by decide)).em (by decide)).tr ft_w3.R, ?_⟩
      rw [leaf_num (by omega) e35]
      exact ⟨rfl, (by rw [ft_w3.1 25 (by decide), rI_sI_ne _ _ _ (by decide), rI_sI_ne _ _ _ (by decide), rI_sI, upd_eq, if_neg (by decide)]), [(0, numC t f)], h3, leafN c _, OkX.one ⟨⟨(show numC t f < 1001 by omega), Or.inl (Nat.zero_le _)⟩, fun z => by cases z⟩ (by show 0 < 29; omega), by rw [List.length_append, List.length_singleton]; show 3 * (c.length + 1) + 3 + 6 * p + f ≤ 3 * c.length + 6 * (p + 1) + nxT t f; omega⟩
  · refine g_aload0 hX d_Re_readSingle_9 ?_
    refine g_callV (As := []) hX hF.1 d_Re_readSingle_10 ml_Re_64 cf_Re_fail cv_Re_fail rfl rfl (c_Re_fail h.1) (rcv_obj hX (lv_25 _) rfl rfl) (by omega) (by omega) (by omega) (Nat.le_of_ble_eq_true rfl) ?_
    refine ret_k ?_
    refine g_zret hX hF d_Re_readSingle_13 (Or.inl rfl) (by omega) (by omega) ?_
    refine ⟨(FrRd.rf w).pt (by decide), ?_⟩
    rw [leaf_full (by omega)]
    exact ⟨rfl, by rw [rI_sI, upd_eq, if_pos rfl]⟩
