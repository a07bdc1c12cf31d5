def m_Pr_trimmed : MR := (⟨"SubgraphDesk$Program", "trimmed", "()LSubgraphDesk$Program;"⟩, prog_7_method_3_code, 2, (some (.object "SubgraphDesk$Program")))
theorem cf_Pr_trimmed : CF m_Pr_trimmed 0 := ⟨gd 984 (by decide +kernel) rfl, gd 144 (by decide +kernel) rfl, by decide +kernel, by decide, by decide +kernel⟩
theorem cv_Pr_trimmed : CV m_Pr_trimmed := ⟨gd 982 (by decide +kernel) rfl, gd 983 (by decide +kernel) rfl⟩
theorem d_Pr_trimmed_0 : Dc prog_7_method_3_code 0 (.new 1) 3 3 := ⟨by decide +kernel, rfl⟩
theorem d_Pr_trimmed_3 : Dc prog_7_method_3_code 3 (.dup) 1 4 := ⟨by decide +kernel, rfl⟩
theorem d_Pr_trimmed_4 : Dc prog_7_method_3_code 4 (.aload_n 0) 1 5 := ⟨by decide +kernel, rfl⟩
theorem d_Pr_trimmed_5 : Dc prog_7_method_3_code 5 (.getfield 18) 3 8 := ⟨by decide +kernel, rfl⟩
theorem d_Pr_trimmed_8 : Dc prog_7_method_3_code 8 (.bipush 8) 2 10 := ⟨by decide +kernel, rfl⟩
theorem d_Pr_trimmed_10 : Dc prog_7_method_3_code 10 (.imul) 1 11 := ⟨by decide +kernel, rfl⟩
theorem d_Pr_trimmed_11 : Dc prog_7_method_3_code 11 (.aload_n 0) 1 12 := ⟨by decide +kernel, rfl⟩
theorem d_Pr_trimmed_12 : Dc prog_7_method_3_code 12 (.getfield 22) 3 15 := ⟨by decide +kernel, rfl⟩
theorem d_Pr_trimmed_15 : Dc prog_7_method_3_code 15 (.invokespecial 25) 3 18 := ⟨by decide +kernel, rfl⟩
theorem d_Pr_trimmed_18 : Dc prog_7_method_3_code 18 (.astore_n 1) 1 19 := ⟨by decide +kernel, rfl⟩
theorem d_Pr_trimmed_19 : Dc prog_7_method_3_code 19 (.aload_n 1) 1 20 := ⟨by decide +kernel, rfl⟩
theorem d_Pr_trimmed_20 : Dc prog_7_method_3_code 20 (.aload_n 0) 1 21 := ⟨by decide +kernel, rfl⟩
theorem d_Pr_trimmed_21 : Dc prog_7_method_3_code 21 (.getfield 18) 3 24 := ⟨by decide +kernel, rfl⟩
theorem d_Pr_trimmed_24 : Dc prog_7_method_3_code 24 (.putfield 18) 3 27 := ⟨by decide +kernel, rfl⟩
theorem d_Pr_trimmed_27 : Dc prog_7_method_3_code 27 (.aload_n 1) 1 28 := ⟨by decide +kernel, rfl⟩
theorem d_Pr_trimmed_28 : Dc prog_7_method_3_code 28 (.aload_n 0) 1 29 := ⟨by decide +kernel, rfl⟩
theorem d_Pr_trimmed_29 : Dc prog_7_method_3_code 29 (.getfield 22) 3 32 := ⟨by decide +kernel, rfl⟩
theorem d_Pr_trimmed_32 : Dc prog_7_method_3_code 32 (.putfield 22) 3 35 := ⟨by decide +kernel, rfl⟩
theorem d_Pr_trimmed_35 : Dc prog_7_method_3_code 35 (.aload_n 0) 1 36 := ⟨by decide +kernel, rfl⟩
theorem d_Pr_trimmed_36 : Dc prog_7_method_3_code 36 (.getfield 11) 3 39 := ⟨by decide +kernel, rfl⟩
theorem d_Pr_trimmed_39 : Dc prog_7_method_3_code 39 (.iconst 0) 1 40 := ⟨by decide +kernel, rfl⟩
theorem d_Pr_trimmed_40 : Dc prog_7_method_3_code 40 (.aload_n 1) 1 41 := ⟨by decide +kernel, rfl⟩
theorem d_Pr_trimmed_41 : Dc prog_7_method_3_code 41 (.getfield 11) 3 44 := ⟨by decide +kernel, rfl⟩
theorem d_Pr_trimmed_44 : Dc prog_7_method_3_code 44 (.iconst 0) 1 45 := ⟨by decide +kernel, rfl⟩
theorem d_Pr_trimmed_45 : Dc prog_7_method_3_code 45 (.aload_n 0) 1 46 := ⟨by decide +kernel, rfl⟩
theorem d_Pr_trimmed_46 : Dc prog_7_method_3_code 46 (.getfield 18) 3 49 := ⟨by decide +kernel, rfl⟩
theorem d_Pr_trimmed_49 : Dc prog_7_method_3_code 49 (.bipush 8) 2 51 := ⟨by decide +kernel, rfl⟩
theorem d_Pr_trimmed_51 : Dc prog_7_method_3_code 51 (.imul) 1 52 := ⟨by decide +kernel, rfl⟩
theorem d_Pr_trimmed_52 : Dc prog_7_method_3_code 52 (.invokestatic 28) 3 55 := ⟨by decide +kernel, rfl⟩
theorem d_Pr_trimmed_55 : Dc prog_7_method_3_code 55 (.aload_n 0) 1 56 := ⟨by decide +kernel, rfl⟩
theorem d_Pr_trimmed_56 : Dc prog_7_method_3_code 56 (.getfield 15) 3 59 := ⟨by decide +kernel, rfl⟩
theorem d_Pr_trimmed_59 : Dc prog_7_method_3_code 59 (.iconst 0) 1 60 := ⟨by decide +kernel, rfl⟩
theorem d_Pr_trimmed_60 : Dc prog_7_method_3_code 60 (.aload_n 1) 1 61 := ⟨by decide +kernel, rfl⟩
theorem d_Pr_trimmed_61 : Dc prog_7_method_3_code 61 (.getfield 15) 3 64 := ⟨by decide +kernel, rfl⟩
theorem d_Pr_trimmed_64 : Dc prog_7_method_3_code 64 (.iconst 0) 1 65 := ⟨by decide +kernel, rfl⟩
theorem d_Pr_trimmed_65 : Dc prog_7_method_3_code 65 (.aload_n 0) 1 66 := ⟨by decide +kernel, rfl⟩
theorem d_Pr_trimmed_66 : Dc prog_7_method_3_code 66 (.getfield 22) 3 69 := ⟨by decide +kernel, rfl⟩
theorem d_Pr_trimmed_69 : Dc prog_7_method_3_code 69 (.invokestatic 28) 3 72 := ⟨by decide +kernel, rfl⟩
theorem d_Pr_trimmed_72 : Dc prog_7_method_3_code 72 (.aload_n 1) 1 73 := ⟨by decide +kernel, rfl⟩
theorem d_Pr_trimmed_73 : Dc prog_7_method_3_code 73 (.areturn) 1 74 := ⟨by decide +kernel, rfl⟩
theorem ml_Pr_25 : Cond.methodLink "SubgraphDesk$Program" 25 m_Pr_init.1 ∈ lw_gd := gd 986 (by decide +kernel) rfl
theorem ml_Pr_28 : Cond.methodLink "SubgraphDesk$Program" 28 m_JSystem_arraycopy.1 ∈ lw_gd := gd 987 (by decide +kernel) rfl
/-- the draft's copy is begun: its rows are made -/
theorem PnQ.of {w w1 : Mem} {q a c : Nat} (ha : a < 1000) (hc : c < 1000) (hq : 1000 + 2 * q ∉ nms w) (h : PnQ (alP w q) w1 (1000 + 2 * q) a c) : ∃ tt cc : Nat, Grw w w1 ∧ PrO w1 (1000 + 2 * q) tt cc a c ∧ 900 ≤ tt ∧ 900 ≤ cc ∧ tt ∉ nms w ∧ cc ∉ nms w ∧ tt ≠ 1000 + 2 * q ∧ cc ≠ 1000 + 2 * q ∧ tt ≠ cc := by
  obtain ⟨q1, q2, h1, h2, rfl⟩ := h
  have hlp : Lv (alP w q) (1000 + 2 * q) (1, 6) := lv_alP
  have hlp1 : Lv (alA (alP w q) q1 a) (1000 + 2 * q) (1, 6) := hlp.alA h1
  have hlt : Lv (alA (alP w q) q1 a) (1001 + 2 * q1) (2, a) := lv_alA (by omega)
  have hlp2 : Lv (alA (sR (alA (alP w q) q1 a) (1000 + 2 * q) 2 (some (1001 + 2 * q1))) q2 c) (1000 + 2 * q) (1, 6) := Lv.alA (w := sR (alA (alP w q) q1 a) (1000 + 2 * q) 2 (some (1001 + 2 * q1))) hlp1 h2
  have hlt2 : Lv (alA (sR (alA (alP w q) q1 a) (1000 + 2 * q) 2 (some (1001 + 2 * q1))) q2 c) (1001 + 2 * q1) (2, a) := Lv.alA (w := sR (alA (alP w q) q1 a) (1000 + 2 * q) 2 (some (1001 + 2 * q1))) hlt h2
  have hlc2 : Lv (alA (sR (alA (alP w q) q1 a) (1000 + 2 * q) 2 (some (1001 + 2 * q1))) q2 c) (1001 + 2 * q2) (2, c) := lv_alA (by omega)
  have n1 : 1001 + 2 * q1 ∉ nms w := fun z => h1 (by rw [nms_alP]; exact List.mem_append_left _ z)
  have n2 : 1001 + 2 * q2 ∉ nms w := fun z => h2 (by rw [nms_alA, nms_alP]; exact List.mem_append_left _ (List.mem_append_left _ z))
  have n3 : 1001 + 2 * q1 ≠ 1001 + 2 * q2 := fun z => h2 (by rw [nms_alA, ← z]; exact List.mem_append_right _ List.mem_cons_self)
  refine ⟨1001 + 2 * q1, 1001 + 2 * q2, ?_, ⟨hlp2, ?_, ?_, hlt2, hlc2⟩, by omega, by omega, n1, n2, by omega, by omega, n3⟩
  · refine Grw.R ?_ hq
    refine Grw.tr (b := sR (alA (alP w q) q1 a) (1000 + 2 * q) 2 (some (1001 + 2 * q1))) ?_ (Grw.A h2)
    exact Grw.R ((Grw.P hq).tr (Grw.A h1)) hq
  · rw [rR_sR]
    show va_up (rR (sR (alA (alP w q) q1 a) (1000 + 2 * q) 2 (some (1001 + 2 * q1))) (1000 + 2 * q)) 3 _ 2 = _
    rw [rR_sR]
    rfl
  · rw [rR_sR]
    rfl
/-- what trimmed answers: a copy that stands apart -/
def TrQ (w w2 : Mem) (r : Option Value) (m k : Nat) : Prop := ∃ pp tt cc : Nat, r = some (.ref pp) ∧ Grw w w2 ∧ PrO w2 pp tt cc (8 * m) k ∧ 900 ≤ pp ∧ 900 ≤ tt ∧ 900 ≤ cc ∧ rI w2 pp 0 = nI m ∧ rI w2 pp 1 = nI k ∧ (∀ j, j < 8 * m → rI w2 tt j = rI w 29 j) ∧ ∀ j, j < k → rI w2 cc j = rI w 30 j
theorem c_Pr_trimmed {E : EV} {w : Mem} {m k : Nat} (hD : Dra w) (h0 : rI w 28 0 = nI m) (h1 : rI w 28 1 = nI k) (hm : m ≤ 12) (hk : k ≤ 256) : T E m_Pr_trimmed 3 3 356 [.ref 28] w (fun r w2 => TrQ w w2 r m k) := by
  refine T_of (L := [.ref 28, un]) cf_Pr_trimmed rfl (Nat.le_of_ble_eq_true rfl) (fun X hX hF => ?_)
  have hcc := hF.1.2.2.1
  have hss := hF.1.2.2.2
  refine g_newP hX d_Pr_trimmed_0 lk_clP (by omega) (by omega) (fun q hq => ?_)
  refine g_dup hX d_Pr_trimmed_3 rfl ?_
  refine g_aload0 hX d_Pr_trimmed_4 ?_
  refine g_getI hX d_Pr_trimmed_5 fl_Pr_18 (lv_28 _) ?_
  refine g_topi (show rI (alP w q) 28 0 = nI m by rw [rI_alP_ne (by omega)]; exact h0) ?_
  refine g_bipush (v := nI 8) hX d_Pr_trimmed_8 rfl ?_
  refine g_imulN hX d_Pr_trimmed_10 ?_
  refine g_aload0 hX d_Pr_trimmed_11 ?_
  refine g_getI hX d_Pr_trimmed_12 fl_Pr_22 (lv_28 _) ?_
  refine g_topi (show rI (alP w q) 28 1 = nI k by rw [rI_alP_ne (by omega)]; exact h1) ?_
  refine g_callI (As := [_, _]) hX hF.1 d_Pr_trimmed_15 ml_Pr_25 cf_Pr_init ci_Pr_init rfl rfl rfl (c_Pr_init (a := m * 8) (b' := k) lv_alP (by omega) (by omega)) (by omega) (by omega) (by omega) (Nat.le_of_ble_eq_true rfl) ?_
  rintro _ w1 ⟨rfl, hw1⟩
  obtain ⟨tt, cc, hG, hO, ht9, hc9, htn, hcn, htp, hcp, htc⟩ := PnQ.of (by omega) (by omega) hq hw1
  have hpn : 1000 + 2 * q ∉ nms w := hq
  obtain ⟨pp, hpp⟩ : ∃ pp : Nat, 1000 + 2 * q = pp := ⟨_, rfl⟩
  have hp9 : 900 ≤ pp := by rw [← hpp]; exact Nat.le_trans (Nat.le_of_ble_eq_true rfl) (Nat.le_add_right 1000 _)
  rw [hpp] at hO htp hcp hpn ⊢
  show G0 _ _ _ _ _ _ [.ref pp] _
  have hd1 : ∀ a, a < 128 → rI w1 a = rI w a := fun a ha => (hG.st ha).1
  have hr1 : ∀ a, a < 128 → rR w1 a = rR w a := fun a ha => (hG.st ha).2
  refine g_astore1 hX d_Pr_trimmed_18 rfl (by decide) ?_
  refine g_aload1 hX d_Pr_trimmed_19 ?_
  refine g_aload0 hX d_Pr_trimmed_20 ?_
  refine g_getI hX d_Pr_trimmed_21 fl_Pr_18 (lv_28 _) ?_
  refine g_topi (show rI w1 28 0 = nI m by rw [hd1 28 (by decide)]; exact h0) ?_
  refine g_putI hX d_Pr_trimmed_24 fl_Pr_18 hO.1 ?_
  refine g_aload1 hX d_Pr_trimmed_27 ?_
  refine g_aload0 hX d_Pr_trimmed_28 ?_
  refine g_getI hX d_Pr_trimmed_29 fl_Pr_22 (lv_28 _) ?_
  refine g_topi (show rI (sI w1 pp 0 (nI m)) 28 1 = nI k by rw [rI_sI_ne _ _ _ (by omega), hd1 28 (by decide)]; exact h1) ?_
  refine g_putI hX d_Pr_trimmed_32 fl_Pr_22 (show Lv (sI w1 pp 0 (nI m)) pp (1, 6) from hO.1) ?_
  obtain ⟨w3, hw3⟩ : ∃ w3, sI (sI w1 pp 0 (nI m)) pp 1 (nI k) = w3 := ⟨_, rfl⟩
  have hO3 : PrO w3 pp tt cc (m * 8) k := by rw [← hw3]; exact hO
  have hG3 : Grw w w3 := by rw [← hw3]; exact (hG.I hpn).I hpn
  have hp30 : rI w3 pp 0 = nI m := by rw [← hw3, rI_sI, upd_eq, if_neg (by decide), rI_sI, upd_eq, if_pos rfl]
  have hp31 : rI w3 pp 1 = nI k := by rw [← hw3, rI_sI, upd_eq, if_pos rfl]
  have hd3 : ∀ a, a < 128 → rI w3 a = rI w a := fun a ha => (hG3.st ha).1
  have hr3 : ∀ a, a < 128 → rR w3 a = rR w a := fun a ha => (hG3.st ha).2
  refine g_mem hw3 ?_
  refine g_aload0 hX d_Pr_trimmed_35 ?_
  refine g_getR hX d_Pr_trimmed_36 fl_Pr_11 (lv_28 _) (show rR w3 28 2 = some 29 by rw [hr3 28 (by decide)]; exact hD.1) ?_
  refine g_iconst (v := nI 0) hX d_Pr_trimmed_39 rfl ?_
  refine g_aload1 hX d_Pr_trimmed_40 ?_
  refine g_getR hX d_Pr_trimmed_41 fl_Pr_11 hO3.1 hO3.2.1 ?_
  refine g_iconst (v := nI 0) hX d_Pr_trimmed_44 rfl ?_
  refine g_aload0 hX d_Pr_trimmed_45 ?_
  refine g_getI hX d_Pr_trimmed_46 fl_Pr_18 (lv_28 _) ?_
  refine g_topi (show rI w3 28 0 = nI m by rw [hd3 28 (by decide)]; exact h0) ?_
  refine g_bipush (v := nI 8) hX d_Pr_trimmed_49 rfl ?_
  refine g_imulN hX d_Pr_trimmed_51 ?_
  refine g_acpI hX hF.1 d_Pr_trimmed_52 ml_Pr_28 lk_acst lk_acna lk_acin (lv_29 _) hO3.2.2.2.1 (by omega) (by omega) ⟨by decide, by omega⟩ (by omega) (Nat.le_of_ble_eq_true rfl) ?_
  obtain ⟨w4, hw4⟩ : ∃ w4, sA w3 tt (va_cpy (rI w3 29) (rI w3 tt) 0 0 (m * 8)) = w4 := ⟨_, rfl⟩
  have hO4 : PrO w4 pp tt cc (m * 8) k := by rw [← hw4]; exact hO3
  have hG4 : Grw w w4 := by rw [← hw4]; exact hG3.S htn
  have hp40 : rI w4 pp = rI w3 pp := by rw [← hw4, rI_sA_ne _ _ (Ne.symm htp)]
  have ht4 : ∀ j, j < 8 * m → rI w4 tt j = rI w 29 j := fun j hj => by
    rw [← hw4, rI_sA]
    unfold va_cpy
    rw [if_pos ⟨by omega, by omega⟩, hd3 29 (by decide)]
    congr 1
    omega
  have hd4 : ∀ a, a < 128 → rI w4 a = rI w a := fun a ha => (hG4.st ha).1
  have hr4 : ∀ a, a < 128 → rR w4 a = rR w a := fun a ha => (hG4.st ha).2
  refine g_mem hw4 ?_
  refine g_aload0 hX d_Pr_trimmed_55 ?_
  refine g_getR hX d_Pr_trimmed_56 fl_Pr_15 (lv_28 _) (show rR w4 28 3 = some 30 by rw [hr4 28 (by decide)]; exact hD.2) ?_
  refine g_iconst (v := nI 0) hX d_Pr_trimmed_59 rfl ?_
  refine g_aload1 hX d_Pr_trimmed_60 ?_
  refine g_getR hX d_Pr_trimmed_61 fl_Pr_15 hO4.1 hO4.2.2.1 ?_
  refine g_iconst (v := nI 0) hX d_Pr_trimmed_64 rfl ?_
  refine g_aload0 hX d_Pr_trimmed_65 ?_
  refine g_getI hX d_Pr_trimmed_66 fl_Pr_22 (lv_28 _) ?_
  refine g_topi (show rI w4 28 1 = nI k by rw [hd4 28 (by decide)]; exact h1) ?_
  refine g_acpI hX hF.1 d_Pr_trimmed_69 ml_Pr_28 lk_acst lk_acna lk_acin (lv_30 _) hO4.2.2.2.2 (by omega) (by omega) ⟨by decide, by omega⟩ (by omega) (Nat.le_of_ble_eq_true rfl) ?_
  obtain ⟨w5, hw5⟩ : ∃ w5, sA w4 cc (va_cpy (rI w4 30) (rI w4 cc) 0 0 k) = w5 := ⟨_, rfl⟩
  have hO5 : PrO w5 pp tt cc (m * 8) k := by rw [← hw5]; exact hO4
  have hG5 : Grw w w5 := by rw [← hw5]; exact hG4.S hcn
  have hp50 : rI w5 pp = rI w3 pp := by rw [← hw5, rI_sA_ne _ _ (Ne.symm hcp)]; exact hp40
  have ht5 : rI w5 tt = rI w4 tt := by rw [← hw5, rI_sA_ne _ _ htc]
  have hc5 : ∀ j, j < k → rI w5 cc j = rI w 30 j := fun j hj => by
    rw [← hw5, rI_sA]
    unfold va_cpy
    rw [if_pos ⟨by omega, by omega⟩, hd4 30 (by decide)]
    congr 1
    omega
  refine g_mem hw5 ?_
  refine g_aload1 hX d_Pr_trimmed_72 ?_
  refine g_aret hX hF d_Pr_trimmed_73 (by omega) (by omega) ?_
  rw [Nat.mul_comm m 8] at hO5
  exact ⟨pp, tt, cc, rfl, hG5, hO5, hp9, ht9, hc9, by rw [hp50]; exact hp30, by rw [hp50]; exact hp31, by rw [ht5]; exact ht4, hc5⟩
