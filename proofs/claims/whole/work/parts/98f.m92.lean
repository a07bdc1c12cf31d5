def m_Wa_advance : MR := (⟨"SubgraphDesk$Walker", "advance", "()Z"⟩, prog_12_method_4_code, 3, (some .boolean))
theorem cf_Wa_advance : CF m_Wa_advance 0 := ⟨gd 1045 (by decide +kernel) rfl, gd 146 (by decide +kernel) rfl, by decide +kernel, by decide, by decide +kernel⟩
theorem cv_Wa_advance : CV m_Wa_advance := ⟨gd 1043 (by decide +kernel) rfl, gd 1044 (by decide +kernel) rfl⟩
theorem d_Wa_advance_0 : Dc prog_12_method_4_code 0 (.aload_n 0) 1 1 := ⟨by decide +kernel, rfl⟩
theorem d_Wa_advance_1 : Dc prog_12_method_4_code 1 (.getfield 49) 3 4 := ⟨by decide +kernel, rfl⟩
theorem d_Wa_advance_4 : Dj prog_12_method_4_code 4 (.ifCond .eq 10) 7 10 14 := ⟨by decide +kernel, rfl, rfl⟩
theorem d_Wa_advance_7 : Dc prog_12_method_4_code 7 (.aload_n 0) 1 8 := ⟨by decide +kernel, rfl⟩
theorem d_Wa_advance_8 : Dc prog_12_method_4_code 8 (.iconst 0) 1 9 := ⟨by decide +kernel, rfl⟩
theorem d_Wa_advance_9 : Dc prog_12_method_4_code 9 (.putfield 49) 3 12 := ⟨by decide +kernel, rfl⟩
theorem d_Wa_advance_12 : Dc prog_12_method_4_code 12 (.iconst 1) 1 13 := ⟨by decide +kernel, rfl⟩
theorem d_Wa_advance_13 : Dc prog_12_method_4_code 13 (.ireturn) 1 14 := ⟨by decide +kernel, rfl⟩
theorem d_Wa_advance_14 : Dc prog_12_method_4_code 14 (.iconst 0) 1 15 := ⟨by decide +kernel, rfl⟩
theorem d_Wa_advance_15 : Dc prog_12_method_4_code 15 (.istore_n 1) 1 16 := ⟨by decide +kernel, rfl⟩
theorem d_Wa_advance_16 : Dc prog_12_method_4_code 16 (.iload_n 1) 1 17 := ⟨by decide +kernel, rfl⟩
theorem d_Wa_advance_17 : Dc prog_12_method_4_code 17 (.ldc 69) 2 19 := ⟨by decide +kernel, rfl⟩
theorem d_Wa_advance_19 : Dj prog_12_method_4_code 19 (.if_icmp .ge 121) 22 121 140 := ⟨by decide +kernel, rfl, rfl⟩
theorem d_Wa_advance_22 : Dc prog_12_method_4_code 22 (.aload_n 0) 1 23 := ⟨by decide +kernel, rfl⟩
theorem d_Wa_advance_23 : Dc prog_12_method_4_code 23 (.getfield 41) 3 26 := ⟨by decide +kernel, rfl⟩
theorem d_Wa_advance_26 : Dj prog_12_method_4_code 26 (.ifCond .lt 114) 29 114 140 := ⟨by decide +kernel, rfl, rfl⟩
theorem d_Wa_advance_29 : Dc prog_12_method_4_code 29 (.aload_n 0) 1 30 := ⟨by decide +kernel, rfl⟩
theorem d_Wa_advance_30 : Dc prog_12_method_4_code 30 (.getfield 15) 3 33 := ⟨by decide +kernel, rfl⟩
theorem d_Wa_advance_33 : Dc prog_12_method_4_code 33 (.aload_n 0) 1 34 := ⟨by decide +kernel, rfl⟩
theorem d_Wa_advance_34 : Dc prog_12_method_4_code 34 (.getfield 41) 3 37 := ⟨by decide +kernel, rfl⟩
theorem d_Wa_advance_37 : Dc prog_12_method_4_code 37 (.iaload) 1 38 := ⟨by decide +kernel, rfl⟩
theorem d_Wa_advance_38 : Dj prog_12_method_4_code 38 (.ifCond .ne 10) 41 10 48 := ⟨by decide +kernel, rfl, rfl⟩
theorem d_Wa_advance_41 : Dc prog_12_method_4_code 41 (.aload_n 0) 1 42 := ⟨by decide +kernel, rfl⟩
theorem d_Wa_advance_42 : Dc prog_12_method_4_code 42 (.invokevirtual 70) 3 45 := ⟨by decide +kernel, rfl⟩
theorem d_Wa_advance_45 : Dj prog_12_method_4_code 45 (.goto 89) 48 89 134 := ⟨by decide +kernel, rfl, rfl⟩
theorem d_Wa_advance_48 : Dc prog_12_method_4_code 48 (.aload_n 0) 1 49 := ⟨by decide +kernel, rfl⟩
theorem d_Wa_advance_49 : Dc prog_12_method_4_code 49 (.getfield 15) 3 52 := ⟨by decide +kernel, rfl⟩
theorem d_Wa_advance_52 : Dc prog_12_method_4_code 52 (.aload_n 0) 1 53 := ⟨by decide +kernel, rfl⟩
theorem d_Wa_advance_53 : Dc prog_12_method_4_code 53 (.getfield 41) 3 56 := ⟨by decide +kernel, rfl⟩
theorem d_Wa_advance_56 : Dc prog_12_method_4_code 56 (.iaload) 1 57 := ⟨by decide +kernel, rfl⟩
theorem d_Wa_advance_57 : Dc prog_12_method_4_code 57 (.invokestatic 73) 3 60 := ⟨by decide +kernel, rfl⟩
theorem d_Wa_advance_60 : Dc prog_12_method_4_code 60 (.istore_n 2) 1 61 := ⟨by decide +kernel, rfl⟩
theorem d_Wa_advance_61 : Dc prog_12_method_4_code 61 (.aload_n 0) 1 62 := ⟨by decide +kernel, rfl⟩
theorem d_Wa_advance_62 : Dc prog_12_method_4_code 62 (.getfield 15) 3 65 := ⟨by decide +kernel, rfl⟩
theorem d_Wa_advance_65 : Dc prog_12_method_4_code 65 (.aload_n 0) 1 66 := ⟨by decide +kernel, rfl⟩
theorem d_Wa_advance_66 : Dc prog_12_method_4_code 66 (.getfield 41) 3 69 := ⟨by decide +kernel, rfl⟩
theorem d_Wa_advance_69 : Dc prog_12_method_4_code 69 (.dup2) 1 70 := ⟨by decide +kernel, rfl⟩
theorem d_Wa_advance_70 : Dc prog_12_method_4_code 70 (.iaload) 1 71 := ⟨by decide +kernel, rfl⟩
theorem d_Wa_advance_71 : Dc prog_12_method_4_code 71 (.aload_n 0) 1 72 := ⟨by decide +kernel, rfl⟩
theorem d_Wa_advance_72 : Dc prog_12_method_4_code 72 (.getfield 15) 3 75 := ⟨by decide +kernel, rfl⟩
theorem d_Wa_advance_75 : Dc prog_12_method_4_code 75 (.aload_n 0) 1 76 := ⟨by decide +kernel, rfl⟩
theorem d_Wa_advance_76 : Dc prog_12_method_4_code 76 (.getfield 41) 3 79 := ⟨by decide +kernel, rfl⟩
theorem d_Wa_advance_79 : Dc prog_12_method_4_code 79 (.iaload) 1 80 := ⟨by decide +kernel, rfl⟩
theorem d_Wa_advance_80 : Dc prog_12_method_4_code 80 (.iconst 1) 1 81 := ⟨by decide +kernel, rfl⟩
theorem d_Wa_advance_81 : Dc prog_12_method_4_code 81 (.isub) 1 82 := ⟨by decide +kernel, rfl⟩
theorem d_Wa_advance_82 : Dc prog_12_method_4_code 82 (.iand) 1 83 := ⟨by decide +kernel, rfl⟩
theorem d_Wa_advance_83 : Dc prog_12_method_4_code 83 (.iastore) 1 84 := ⟨by decide +kernel, rfl⟩
theorem d_Wa_advance_84 : Dc prog_12_method_4_code 84 (.aload_n 0) 1 85 := ⟨by decide +kernel, rfl⟩
theorem d_Wa_advance_85 : Dc prog_12_method_4_code 85 (.getfield 9) 3 88 := ⟨by decide +kernel, rfl⟩
theorem d_Wa_advance_88 : Dc prog_12_method_4_code 88 (.aload_n 0) 1 89 := ⟨by decide +kernel, rfl⟩
theorem d_Wa_advance_89 : Dc prog_12_method_4_code 89 (.getfield 41) 3 92 := ⟨by decide +kernel, rfl⟩
theorem d_Wa_advance_92 : Dc prog_12_method_4_code 92 (.iload_n 2) 1 93 := ⟨by decide +kernel, rfl⟩
theorem d_Wa_advance_93 : Dc prog_12_method_4_code 93 (.iastore) 1 94 := ⟨by decide +kernel, rfl⟩
theorem d_Wa_advance_94 : Dc prog_12_method_4_code 94 (.aload_n 0) 1 95 := ⟨by decide +kernel, rfl⟩
theorem d_Wa_advance_95 : Dc prog_12_method_4_code 95 (.getfield 41) 3 98 := ⟨by decide +kernel, rfl⟩
theorem d_Wa_advance_98 : Dc prog_12_method_4_code 98 (.aload_n 0) 1 99 := ⟨by decide +kernel, rfl⟩
theorem d_Wa_advance_99 : Dc prog_12_method_4_code 99 (.getfield 27) 3 102 := ⟨by decide +kernel, rfl⟩
theorem d_Wa_advance_102 : Dc prog_12_method_4_code 102 (.getfield 44) 3 105 := ⟨by decide +kernel, rfl⟩
theorem d_Wa_advance_105 : Dc prog_12_method_4_code 105 (.iconst 1) 1 106 := ⟨by decide +kernel, rfl⟩
theorem d_Wa_advance_106 : Dc prog_12_method_4_code 106 (.isub) 1 107 := ⟨by decide +kernel, rfl⟩
theorem d_Wa_advance_107 : Dj prog_12_method_4_code 107 (.if_icmp .ne 5) 110 5 112 := ⟨by decide +kernel, rfl, rfl⟩
theorem d_Wa_advance_110 : Dc prog_12_method_4_code 110 (.iconst 1) 1 111 := ⟨by decide +kernel, rfl⟩
theorem d_Wa_advance_111 : Dc prog_12_method_4_code 111 (.ireturn) 1 112 := ⟨by decide +kernel, rfl⟩
theorem d_Wa_advance_112 : Dc prog_12_method_4_code 112 (.aload_n 0) 1 113 := ⟨by decide +kernel, rfl⟩
theorem d_Wa_advance_113 : Dc prog_12_method_4_code 113 (.dup) 1 114 := ⟨by decide +kernel, rfl⟩
theorem d_Wa_advance_114 : Dc prog_12_method_4_code 114 (.getfield 34) 3 117 := ⟨by decide +kernel, rfl⟩
theorem d_Wa_advance_117 : Dc prog_12_method_4_code 117 (.iconst 1) 1 118 := ⟨by decide +kernel, rfl⟩
theorem d_Wa_advance_118 : Dc prog_12_method_4_code 118 (.iload_n 2) 1 119 := ⟨by decide +kernel, rfl⟩
theorem d_Wa_advance_119 : Dc prog_12_method_4_code 119 (.ishl) 1 120 := ⟨by decide +kernel, rfl⟩
theorem d_Wa_advance_120 : Dc prog_12_method_4_code 120 (.ior) 1 121 := ⟨by decide +kernel, rfl⟩
theorem d_Wa_advance_121 : Dc prog_12_method_4_code 121 (.putfield 34) 3 124 := ⟨by decide +kernel, rfl⟩
theorem d_Wa_advance_124 : Dc prog_12_method_4_code 124 (.aload_n 0) 1 125 := ⟨by decide +kernel, rfl⟩
theorem d_Wa_advance_125 : Dc prog_12_method_4_code 125 (.aload_n 0) 1 126 := ⟨by decide +kernel, rfl⟩
theorem d_Wa_advance_126 : Dc prog_12_method_4_code 126 (.getfield 41) 3 129 := ⟨by decide +kernel, rfl⟩
theorem d_Wa_advance_129 : Dc prog_12_method_4_code 129 (.iconst 1) 1 130 := ⟨by decide +kernel, rfl⟩
theorem d_Wa_advance_130 : Dc prog_12_method_4_code 130 (.iadd) 1 131 := ⟨by decide +kernel, rfl⟩
theorem d_Wa_advance_131 : Dc prog_12_method_4_code 131 (.invokevirtual 53) 3 134 := ⟨by decide +kernel, rfl⟩
theorem d_Wa_advance_134 : Dc prog_12_method_4_code 134 (.iinc 1 1) 3 137 := ⟨by decide +kernel, rfl⟩
theorem d_Wa_advance_137 : Dj prog_12_method_4_code 137 (.goto (-121)) 140 (-121) 16 := ⟨by decide +kernel, rfl, rfl⟩
theorem d_Wa_advance_140 : Dc prog_12_method_4_code 140 (.iconst 0) 1 141 := ⟨by decide +kernel, rfl⟩
theorem d_Wa_advance_141 : Dc prog_12_method_4_code 141 (.ireturn) 1 142 := ⟨by decide +kernel, rfl⟩
theorem fl_Wa_44 : FL "SubgraphDesk$Walker" 44 2 5 false .int (0, 0) := ⟨R_Bo, F_Bo, 15, ty_Bo, rfl, rfl, in_Bo, tyok_Bo, nm_Bo, by decide, gd 201 (by decide +kernel) rfl, rfl, rfl, rfl⟩
theorem fl_Wa_49 : FL "SubgraphDesk$Walker" 49 11 10 false .boolean (1, 0) := ⟨R_Wa, F_Wa, 11, ty_Wa, rfl, rfl, in_Wa, tyok_Wa, nm_Wa, by decide, gd 410 (by decide +kernel) rfl, rfl, rfl, rfl⟩
theorem ml_Wa_53 : Cond.methodLink "SubgraphDesk$Walker" 53 m_Wa_enter.1 ∈ lw_gd := gd 1032 (by decide +kernel) rfl
theorem ml_Wa_70 : Cond.methodLink "SubgraphDesk$Walker" 70 m_Wa_leave.1 ∈ lw_gd := gd 1046 (by decide +kernel) rfl
theorem ml_Wa_73 : Cond.methodLink "SubgraphDesk$Walker" 73 m_JInteger_numberOfTrailingZeros.1 ∈ lw_gd := gd 1050 (by decide +kernel) rfl
theorem k_Wa_69 : Cond.constant "SubgraphDesk$Walker" 69 (1000000) ∈ lw_gd := gd 1041 (by decide +kernel) rfl
theorem eq_or_snoc (q : List Nat) : q = [] ∨ ∃ q2 x, q = q2 ++ [x] := by
  rcases List.eq_nil_or_concat q with h | ⟨a, b, h⟩
  · exact Or.inl h
  · exact Or.inr ⟨a, b, by rw [h, List.concat_eq_append]⟩
/-- the dearest there is -/
def phD (V : Nat) : Nat → Nat
  | 0 => 0
  | u + 1 => phD V u + phW (V - 1 - u)
theorem phD_le : ∀ V, V < 6 → ∀ u, u ≤ V → phD V u ≤ 30000 := by decide
theorem phS_le5 {g : GC} {lf : Nat → Nat} (hV : gV g ≤ 5) (u : Nat) (hu : u ≤ gV g) : phS g lf u ≤ 900000 := by
  have go : ∀ u, u ≤ gV g → phS g lf u ≤ 12 * phD (gV g) u + u := by
    intro u
    induction u with
    | zero => intro _; exact Nat.zero_le _
    | succ u ih =>
      intro h
      have h1 := ih (by omega)
      have h2 := pop_le (lf u)
      have h3 : pop (lf u) * phW (gV g - 1 - u) ≤ 12 * phW (gV g - 1 - u) := Nat.mul_le_mul_right _ h2
      unfold phS phD
      omega
  have h1 := go u hu
  have h2 := phD_le (gV g) (by omega) u hu
  omega
theorem c_Wa_adv0 : True := trivial
theorem c_Wa_advM {E : EV} {w : Mem} {g : GC} {c lf : Nat → Nat} {ab tot : Nat} {q : List Nat} {ws : List (List Nat)} (hE : WkE w g c ab) (hM : WkM w g c ws tot lf q) : T E m_Wa_advance 3 0 0 [.ref 36] w (fun r w2 => AdvP w2 g c ws tot r ∧ FrAd w w2) := by
  refine T_of (L := [.ref 36, un, un]) cf_Wa_advance rfl (Nat.le_of_ble_eq_true rfl) (fun X hX hF => ?_)
  have hR := hE.1
  have hW := hE.2.1
  have hn := hW.n
  have hv := hW.v
  have lp : ∀ (fuel : Nat) (k : Nat) (lf : Nat → Nat) (q : List Nat) (wk : Mem), phS g lf (q.length + 1) < fuel → (FrAd w wk) → (WkM wk g c ws tot lf q) → (k + phS g lf (q.length + 1) ≤ 999999) → G0 E X 0 0 16 [.ref 36, .int (nI k), un] [] wk := by
    intro fuel
    induction fuel with
    | zero => intro k lf q wk q0; exact absurd q0 (Nat.not_lt_zero _)
    | succ fuel ih =>
      intro k lf q wk q0 q1 q2 q3
      have hb := q2.1
      have hE2 := hE.fr q1.W
      have hl7 := hb.2.2.2.2.2.1
      have hql := hb.1
      obtain ⟨hm1, hm2⟩ := hb.2.2.2.2.1 q.length (Nat.le_refl _)
      have hm12 : lf q.length < 4096 := Nat.lt_of_lt_of_le hm2.1 (Nat.pow_le_pow_right (by decide) hn)
      obtain ⟨s, hs, hss⟩ := q2.2.2
      have hph1 : 1 ≤ phS g lf (q.length + 1) := by rw [phS]; omega
      refine g_iload1 hX d_Wa_advance_16 ?_
      refine g_ldc (v := nI 1000000) hX d_Wa_advance_17 k_Wa_69 rfl ?_
      refine g_icmpN_ge hX d_Wa_advance_19 (by omega) (by omega) (fun h => absurd h (by omega)) (fun c0 => ?_)
      refine g_aload0 hX d_Wa_advance_22 ?_
      refine g_getI hX d_Wa_advance_23 fl_Wa_41 (lv_36 _) ?_
      refine g_topi hl7 ?_
      refine g_if_lt hX d_Wa_advance_26 (fun h => absurd h (nI_pos (by omega))) (fun c1 => ?_)
      refine g_aload0 hX d_Wa_advance_29 ?_
      refine g_getF hX d_Wa_advance_30 fl_Wa_15 (lv_36 _) ?_
      refine g_aload0 hX d_Wa_advance_33 ?_
      refine g_getI hX d_Wa_advance_34 fl_Wa_41 (lv_36 _) ?_
      refine g_topi hl7 ?_
      refine g_iald hX d_Wa_advance_37 (lv_38 _) rfl (by omega) ?_
      refine g_topi hm1 ?_
      refine g_if_ne hX d_Wa_advance_38 (fun e38 => ?_) (fun e38 => ?_)
      · have e38 : lf q.length ≠ 0 := fun z => e38 (by rw [z]; rfl)
        have htz := tz_n (m := lf q.length) (by omega) hm12
        refine g_aload0 hX d_Wa_advance_48 ?_
        refine g_getF hX d_Wa_advance_49 fl_Wa_15 (lv_36 _) ?_
        refine g_aload0 hX d_Wa_advance_52 ?_
        refine g_getI hX d_Wa_advance_53 fl_Wa_41 (lv_36 _) ?_
        refine g_topi hl7 ?_
        refine g_iald hX d_Wa_advance_56 (lv_38 _) rfl (by omega) ?_
        refine g_topi hm1 ?_
        refine g_callS (As := [_]) hX hF.1 d_Wa_advance_57 ml_Wa_73 cf_JInteger_numberOfTrailingZeros cs_JInteger_numberOfTrailingZeros rfl (c_JInteger_ntz (by omega) hm12) (by omega) (by omega) (by omega) (Nat.le_of_ble_eq_true rfl) ?_
        refine ret_k ?_
        refine g_istore2 hX d_Wa_advance_60 rfl (by decide) ?_
        refine g_aload0 hX d_Wa_advance_61 ?_
        refine g_getF hX d_Wa_advance_62 fl_Wa_15 (lv_36 _) ?_
        refine g_aload0 hX d_Wa_advance_65 ?_
        refine g_getI hX d_Wa_advance_66 fl_Wa_41 (lv_36 _) ?_
        refine g_topi hl7 ?_
        refine g_dup2 hX d_Wa_advance_69 rfl rfl ?_
        refine g_iald hX d_Wa_advance_70 (lv_38 _) rfl (by omega) ?_
        refine g_topi hm1 ?_
        refine g_aload0 hX d_Wa_advance_71 ?_
        refine g_getF hX d_Wa_advance_72 fl_Wa_15 (lv_36 _) ?_
        refine g_aload0 hX d_Wa_advance_75 ?_
        refine g_getI hX d_Wa_advance_76 fl_Wa_41 (lv_36 _) ?_
        refine g_topi hl7 ?_
        refine g_iald hX d_Wa_advance_79 (lv_38 _) rfl (by omega) ?_
        refine g_topi hm1 ?_
        refine g_iconst (v := nI 1) hX d_Wa_advance_80 rfl ?_
        refine g_isubN hX d_Wa_advance_81 (by omega) ?_
        refine g_iandN hX d_Wa_advance_82 ?_
        refine g_iast hX d_Wa_advance_83 (lv_38 _) rfl (by omega) ?_
        refine g_aload0 hX d_Wa_advance_84 ?_
        refine g_getF hX d_Wa_advance_85 fl_Wa_9 (lv_36 _) ?_
        refine g_aload0 hX d_Wa_advance_88 ?_
        refine g_getI hX d_Wa_advance_89 fl_Wa_41 (lv_36 _) ?_
        refine g_topi (show rI (sI wk 38 q.length (nI (lf q.length &&& (lf q.length - 1)))) 36 7 = nI q.length by rw [rI_sI_ne _ _ _ (by decide)]; exact hl7) ?_
        refine g_iload2 hX d_Wa_advance_92 ?_
        refine g_iast hX d_Wa_advance_93 (lv_37 _) rfl (by omega) ?_
        refine g_mem (show _ = (poW wk q.length (lf q.length)) from rfl) ?_
        refine g_aload0 hX d_Wa_advance_94 ?_
        refine g_getI hX d_Wa_advance_95 fl_Wa_41 (lv_36 _) ?_
        refine g_topi (show rI (poW wk q.length (lf q.length)) 36 7 = nI q.length by unfold poW; rw [rI_sI_ne _ _ _ (by decide), rI_sI_ne _ _ _ (by decide)]; exact hl7) ?_
        refine g_aload0 hX d_Wa_advance_98 ?_
        refine g_getR hX d_Wa_advance_99 fl_Wa_27 (lv_36 _) hE2.2.2.1 ?_
        refine g_getI hX d_Wa_advance_102 fl_Wa_44 (lv_1 _) ?_
        refine g_topi (show rI (poW wk q.length (lf q.length)) 1 5 = nI (gV g) by unfold poW; rw [rI_sI_ne _ _ _ (by decide), rI_sI_ne _ _ _ (by decide)]; exact hE2.1.v) ?_
        refine g_iconst (v := nI 1) hX d_Wa_advance_105 rfl ?_
        refine g_isubN hX d_Wa_advance_106 (by omega) ?_
        refine g_icmpN_ne hX d_Wa_advance_107 (by omega) (by omega) (fun e107 => ?_) (fun e107 => ?_)
        · refine g_aload0 hX d_Wa_advance_112 ?_
          refine g_dup hX d_Wa_advance_113 rfl ?_
          refine g_getI hX d_Wa_advance_114 fl_Wa_34 (lv_36 _) ?_
          refine g_topi (show rI (poW wk q.length (lf q.length)) 36 8 = nI (takB q) by unfold poW; rw [rI_sI_ne _ _ _ (by decide), rI_sI_ne _ _ _ (by decide)]; exact q2.1.2.2.2.2.2.2.1) ?_
          refine g_iconst (v := nI 1) hX d_Wa_advance_117 rfl ?_
          refine g_iload2 hX d_Wa_advance_118 ?_
          refine g_ishlN hX d_Wa_advance_119 (by omega) ?_
          refine g_iorN hX d_Wa_advance_120 ?_
          refine g_topi (show nI (takB q ||| 1 <<< tz (lf q.length)) = nI (takB (q ++ [tz (lf q.length)])) by rw [takB_s]) ?_
          refine g_putI hX d_Wa_advance_121 fl_Wa_34 (lv_36 _) ?_
          obtain ⟨w3, hw3⟩ : ∃ z, sI (poW wk q.length (lf q.length)) 36 8 (nI (takB (q ++ [tz (lf q.length)]))) = z := ⟨_, rfl⟩
          have hf3 : FrAd wk w3 := by rw [← hw3]; exact (((FrAd.rf wk).I (by decide)).I (by decide)).I (by decide)
          have hE3 := hE2.fr hf3.W
          refine g_mem hw3 ?_
          refine g_aload0 hX d_Wa_advance_124 ?_
          refine g_aload0 hX d_Wa_advance_125 ?_
          refine g_getI hX d_Wa_advance_126 fl_Wa_41 (lv_36 _) ?_
          refine g_topi (show rI w3 36 7 = nI q.length by rw [← hw3, rI_sI, upd_eq, if_neg (by decide)]; unfold poW; rw [rI_sI_ne _ _ _ (by decide), rI_sI_ne _ _ _ (by decide)]; exact hl7) ?_
          refine g_iconst (v := nI 1) hX d_Wa_advance_129 rfl ?_
          refine g_iaddN hX d_Wa_advance_130 ?_
          have hqx : (q ++ [tz (lf q.length)]).length = q.length + 1 := by rw [List.length_append, List.length_singleton]
          have htN : tz (lf q.length) < gN g := tb_ltN hm2.1 htz.1
          rw [← hqx]
          refine g_callV (As := [_]) hX hF.1 d_Wa_advance_131 ml_Wa_53 cf_Wa_enter cv_Wa_enter rfl rfl (c_Wa_enter (c := c) (s := s) (q := q ++ [tz (lf q.length)]) hE3 (by omega) (fun y hy => by rw [List.mem_append, List.mem_singleton] at hy; rcases hy with hy | hy; exact q2.1.2.2.1 y hy; rw [hy]; exact htN) (fun u hu => by
            rw [← hw3, rI_sI_ne _ _ _ (by decide)]
            unfold poW
            rw [rI_sI, upd_eq]
            by_cases e : u = q.length
            · rw [if_pos e, e, gA_app1]
            · rw [if_neg e, rI_sI_ne _ _ _ (by decide), gA_app0 (by omega)]; exact q2.1.2.2.2.1 u (by omega)) (by rw [← hw3, rI_sI, upd_eq, if_pos rfl]) (by rw [← hw3, rI_sI, upd_eq, if_neg (by decide)]; unfold poW; rw [rI_sI_ne _ _ _ (by decide), rI_sI_ne _ _ _ (by decide)]; exact hs)) (rcv_obj hX (lv_36 _) rfl rfl) (by omega) (by omega) (by omega) (Nat.le_of_ble_eq_true rfl) ?_
          refine ret_k ?_
          refine g_iincN1 hX d_Wa_advance_134 rfl (by decide) ?_
          refine g_goto hX d_Wa_advance_137 ?_
          obtain ⟨lf2, hM2, hph⟩ := q2.deep hs hss hW (fun v hv => (hE2.2.2.2.2.2 v hv).2) e38 (by omega)
          rw [← hqx, hw3] at hM2
          have hph2 : phS g lf2 ((q ++ [tz (lf q.length)]).length + 1) + 1 ≤ phS g lf (q.length + 1) := by rw [hqx]; exact hph
          refine g_fget 2 ?_
          exact ih (k + 1) lf2 _ _ (by omega) (q1.tr (hf3.tr (((FrAd.rf w3).I (by decide)).I (by decide) |>.I (by decide)))) hM2 (by omega)
        · refine g_iconst (v := nI 1) hX d_Wa_advance_110 rfl ?_
          refine g_zret hX hF d_Wa_advance_111 (Or.inr rfl) (by omega) (by omega) ?_
          obtain ⟨x, t, hx, hT⟩ := q2.last hW e38 (by omega)
          rw [hx]
          exact ⟨⟨rfl, hT⟩, q1.tr (((FrAd.rf wk).I (by decide)).I (by decide))⟩
      · have e38 : lf q.length = 0 := nI_inj (by omega) (by decide) e38
        rcases eq_or_snoc q with hq0 | ⟨qa, x, hq0⟩
        · subst hq0
          refine g_aload0 hX d_Wa_advance_41 ?_
          refine g_callV (As := []) hX hF.1 d_Wa_advance_42 ml_Wa_70 cf_Wa_leave cv_Wa_leave rfl rfl (c_Wa_leave0 hl7) (rcv_obj hX (lv_36 _) rfl rfl) (by omega) (by omega) (by omega) (Nat.le_of_ble_eq_true rfl) ?_
          refine ret_k ?_
          refine g_goto hX d_Wa_advance_45 ?_
          refine g_iincN1 hX d_Wa_advance_134 rfl (by decide) ?_
          refine g_goto hX d_Wa_advance_137 ?_
          refine g_iload1 hX d_Wa_advance_16 ?_
          refine g_ldc (v := nI 1000000) hX d_Wa_advance_17 k_Wa_69 rfl ?_
          refine g_icmpN_ge hX d_Wa_advance_19 (by omega) (by omega) (fun h => absurd h (by omega)) (fun c0 => ?_)
          refine g_aload0 hX d_Wa_advance_22 ?_
          refine g_getI hX d_Wa_advance_23 fl_Wa_41 (lv_36 _) ?_
          refine g_topi (y := -1) (by rw [rI_sI, upd_eq, if_pos rfl]) ?_
          refine g_if_lt hX d_Wa_advance_26 (fun c1 => ?_) (fun h => absurd (by decide) h)
          refine g_iconst (v := nI 0) hX d_Wa_advance_140 rfl ?_
          refine g_zret hX hF d_Wa_advance_141 (Or.inl rfl) (by omega) (by omega) ?_
          have hz : lf 0 = 0 := e38
          obtain ⟨-, hw, sN, hs1, hs2⟩ := q2
          have hw2 : ws = [] := by rw [hw]; show remM g c (lf 0) _ _ ++ [] = []; rw [hz, (remM_0 g c _ _).1]; rfl
          have hs3 : sN = tot := by rw [← hs2]; show sN = sN + (stpM g c (lf 0) _ _ + 0); rw [hz, (remM_0 g c _ _).2]; rfl
          rw [hw2]
          exact ⟨⟨rfl, ⟨by rw [rI_sI, upd_eq, if_pos rfl], by rw [rI_sI, upd_eq, if_neg (by decide)]; exact hb.2.2.2.2.2.2.2⟩, by rw [rI_sI, upd_eq, if_neg (by decide), ← hs3]; exact hs1⟩, q1.tr ((FrAd.rf wk).I (by decide))⟩
        · subst hq0
          have hqal : (qa ++ [x]).length = qa.length + 1 := by rw [List.length_append, List.length_singleton]
          have hxq : x ∉ qa := fun z => by
            have := (List.nodup_append.mp hb.2.1).2.2 x z x (List.mem_cons_self)
            exact this rfl
          refine g_aload0 hX d_Wa_advance_41 ?_
          refine g_callV (As := []) hX hF.1 d_Wa_advance_42 ml_Wa_70 cf_Wa_leave cv_Wa_leave rfl rfl (c_Wa_leave (q := qa) (x := x) (by omega) (by have := hb.2.2.1 x (List.mem_append_right _ List.mem_cons_self); omega) hxq (fun y hy => by have := hb.2.2.1 y (List.mem_append_left _ hy); omega) (by rw [hl7, hqal]) hb.2.2.2.2.2.2.1 (by rw [hb.2.2.2.1 qa.length (by omega), gA_app1])) (rcv_obj hX (lv_36 _) rfl rfl) (by omega) (by omega) (by omega) (Nat.le_of_ble_eq_true rfl) ?_
          refine ret_k ?_
          refine g_goto hX d_Wa_advance_45 ?_
          refine g_iincN1 hX d_Wa_advance_134 rfl (by decide) ?_
          refine g_goto hX d_Wa_advance_137 ?_
          have hph : phS g lf ((qa ++ [x]).length + 1) = phS g lf (qa.length + 1) + 1 := by
            rw [hqal, phS, ← hqal, e38, show pop 0 = 0 from rfl, Nat.zero_mul, hqal]
            omega
          exact ih (k + 1) lf qa _ (by omega) (q1.tr (((FrAd.rf wk).I (by decide)).I (by decide))) (q2.up (by rw [← hqal]; exact e38)) (by omega)
  refine g_aload0 hX d_Wa_advance_0 ?_
  refine g_getZ hX d_Wa_advance_1 fl_Wa_49 (lv_36 _) ?_
  refine g_topi hM.1.2.2.2.2.2.2.2 ?_
  refine g_if_eq hX d_Wa_advance_4 (fun c0 => ?_) (fun h => absurd rfl h)
  refine g_iconst (v := nI 0) hX d_Wa_advance_14 rfl ?_
  refine g_istore1 hX d_Wa_advance_15 rfl (by decide) ?_
  have hql := hM.1.1
  have hp := phS_le (lf := lf) hv (q.length + 1)
  have hp2 : phS g lf (q.length + 1) ≤ 999999 := by
    have hp3 := phS_le5 (lf := lf) hv (q.length + 1) (by omega)
    omega
  exact lp (phS g lf (q.length + 1) + 1) 0 lf q w (by omega) (FrAd.rf w) hM (by omega)
theorem c_Wa_advZ {E : EV} {w : Mem} {g : GC} {c : Nat → Nat} {tot : Nat} (hZ : WkZ w) (hs : rI w 36 9 = nI tot) : T E m_Wa_advance 3 0 0 [.ref 36] w (fun r w2 => AdvP w2 g c [] tot r ∧ FrAd w w2) := by
  refine T_of (L := [.ref 36, un, un]) cf_Wa_advance rfl (Nat.le_of_ble_eq_true rfl) (fun X hX hF => ?_)
  refine g_aload0 hX d_Wa_advance_0 ?_
  refine g_getZ hX d_Wa_advance_1 fl_Wa_49 (lv_36 _) ?_
  refine g_topi hZ.2 ?_
  refine g_if_eq hX d_Wa_advance_4 (fun c0 => ?_) (fun h => absurd rfl h)
  refine g_iconst (v := nI 0) hX d_Wa_advance_14 rfl ?_
  refine g_istore1 hX d_Wa_advance_15 rfl (by decide) ?_
  refine g_iload1 hX d_Wa_advance_16 ?_
  refine g_ldc (v := nI 1000000) hX d_Wa_advance_17 k_Wa_69 rfl ?_
  refine g_icmpN_ge hX d_Wa_advance_19 (by omega) (by omega) (fun h => absurd h (by decide)) (fun c1 => ?_)
  refine g_aload0 hX d_Wa_advance_22 ?_
  refine g_getI hX d_Wa_advance_23 fl_Wa_41 (lv_36 _) ?_
  refine g_topi hZ.1 ?_
  refine g_if_lt hX d_Wa_advance_26 (fun c2 => ?_) (fun h => absurd (by decide) h)
  refine g_iconst (v := nI 0) hX d_Wa_advance_140 rfl ?_
  refine g_zret hX hF d_Wa_advance_141 (Or.inl rfl) (by omega) (by omega) ?_
  exact ⟨⟨rfl, hZ, hs⟩, FrAd.rf w⟩
theorem c_Wa_advE {E : EV} {w : Mem} {g : GC} {c : Nat → Nat} {tot : Nat} (hV : gV g = 0) (h7 : rI w 36 7 = -1) (h10 : rI w 36 10 = nI 1) (hs : rI w 36 9 = nI tot) : T E m_Wa_advance 3 0 0 [.ref 36] w (fun r w2 => AdvP w2 g c [[]] tot r ∧ FrAd w w2) := by
  refine T_of (L := [.ref 36, un, un]) cf_Wa_advance rfl (Nat.le_of_ble_eq_true rfl) (fun X hX hF => ?_)
  refine g_aload0 hX d_Wa_advance_0 ?_
  refine g_getZ hX d_Wa_advance_1 fl_Wa_49 (lv_36 _) ?_
  refine g_topi h10 ?_
  refine g_if_eq hX d_Wa_advance_4 (fun h => absurd h (by decide)) (fun c0 => ?_)
  refine g_aload0 hX d_Wa_advance_7 ?_
  refine g_iconst (v := nI 0) hX d_Wa_advance_8 rfl ?_
  refine g_putZ hX d_Wa_advance_9 fl_Wa_49 (lv_36 _) (by first | exact Or.inl rfl | exact Or.inr rfl) ?_
  refine g_iconst (v := nI 1) hX d_Wa_advance_12 rfl ?_
  refine g_zret hX hF d_Wa_advance_13 (Or.inr rfl) (by omega) (by omega) ?_
  refine ⟨⟨rfl, by rw [hV]; rfl, (fun y hy => absurd hy (List.not_mem_nil)), fun u hu => absurd hu (by omega), Or.inl ⟨hV, rfl, ⟨?_, ?_⟩, ?_⟩⟩, (FrAd.rf w).I (by decide)⟩
  · rw [rI_sI, upd_eq, if_neg (by decide)]; exact h7
  · rw [rI_sI, upd_eq, if_pos rfl]
  · rw [rI_sI, upd_eq, if_neg (by decide)]; exact hs
theorem c_Wa_adv {E : EV} {w : Mem} {g : GC} {c : Nat → Nat} {ab tot : Nat} {ws : List (List Nat)} (hE : WkE w g c ab) (hS : WkS w g c ws tot) : T E m_Wa_advance 3 0 0 [.ref 36] w (fun r w2 => AdvP w2 g c ws tot r ∧ FrAd w w2) := by
  rcases hS with ⟨h1, rfl, h3⟩ | ⟨h1, h2, h3, rfl, h5⟩ | ⟨lf, q, h⟩
  · exact c_Wa_advZ h1 h3
  · exact c_Wa_advE h1 h2 h3 h5
  · exact c_Wa_advM hE h
theorem AdvP.c {w : Mem} {g : GC} {c : Nat → Nat} {ws : List (List Nat)} {tot : Nat} {r : Option Value} (h : AdvP w g c ws tot r) : ∃ x : Nat, r = some (.int (nI x)) ∧ x < 2 ∧ ((x = 0 ∧ ws = [] ∧ WkZ w ∧ rI w 36 9 = nI tot) ∨ (x = 1 ∧ ∃ q t, ws = q :: t ∧ WkT w g c q t tot)) := by
  cases ws with
  | nil => exact ⟨0, h.1, by decide, Or.inl ⟨rfl, rfl, h.2⟩⟩
  | cons q t => exact ⟨1, h.1, by decide, Or.inr ⟨rfl, q, t, rfl, h.2⟩⟩
