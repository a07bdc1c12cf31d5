def m_Ru_runAll : MR := (⟨"SubgraphDesk$Runner", "runAll", "(LSubgraphDesk$Program;)Z"⟩, prog_9_method_4_code, 6, (some .boolean))
theorem cf_Ru_runAll : CF m_Ru_runAll 1 := ⟨gd 1006 (by decide +kernel) rfl, gd 150 (by decide +kernel) rfl, by decide +kernel, by decide, by decide +kernel⟩
theorem cv_Ru_runAll : CV m_Ru_runAll := ⟨gd 1004 (by decide +kernel) rfl, gd 1005 (by decide +kernel) rfl⟩
theorem d_Ru_runAll_0 : Dc prog_9_method_4_code 0 (.aload_n 0) 1 1 := ⟨by decide +kernel, rfl⟩
theorem d_Ru_runAll_1 : Dc prog_9_method_4_code 1 (.getfield 12) 3 4 := ⟨by decide +kernel, rfl⟩
theorem d_Ru_runAll_4 : Dc prog_9_method_4_code 4 (.aload_n 0) 1 5 := ⟨by decide +kernel, rfl⟩
theorem d_Ru_runAll_5 : Dc prog_9_method_4_code 5 (.getfield 33) 3 8 := ⟨by decide +kernel, rfl⟩
theorem d_Ru_runAll_8 : Dc prog_9_method_4_code 8 (.invokevirtual 69) 3 11 := ⟨by decide +kernel, rfl⟩
theorem d_Ru_runAll_11 : Dc prog_9_method_4_code 11 (.aload_n 0) 1 12 := ⟨by decide +kernel, rfl⟩
theorem d_Ru_runAll_12 : Dc prog_9_method_4_code 12 (.getfield 21) 3 15 := ⟨by decide +kernel, rfl⟩
theorem d_Ru_runAll_15 : Dc prog_9_method_4_code 15 (.aload_n 0) 1 16 := ⟨by decide +kernel, rfl⟩
theorem d_Ru_runAll_16 : Dc prog_9_method_4_code 16 (.getfield 36) 3 19 := ⟨by decide +kernel, rfl⟩
theorem d_Ru_runAll_19 : Dc prog_9_method_4_code 19 (.invokevirtual 73) 3 22 := ⟨by decide +kernel, rfl⟩
theorem d_Ru_runAll_22 : Dc prog_9_method_4_code 22 (.aload_n 1) 1 23 := ⟨by decide +kernel, rfl⟩
theorem d_Ru_runAll_23 : Dc prog_9_method_4_code 23 (.iconst 4) 1 24 := ⟨by decide +kernel, rfl⟩
theorem d_Ru_runAll_24 : Dc prog_9_method_4_code 24 (.invokevirtual 76) 3 27 := ⟨by decide +kernel, rfl⟩
theorem d_Ru_runAll_27 : Dc prog_9_method_4_code 27 (.istore_n 2) 1 28 := ⟨by decide +kernel, rfl⟩
theorem d_Ru_runAll_28 : Dc prog_9_method_4_code 28 (.aload_n 0) 1 29 := ⟨by decide +kernel, rfl⟩
theorem d_Ru_runAll_29 : Dc prog_9_method_4_code 29 (.iload_n 2) 1 30 := ⟨by decide +kernel, rfl⟩
theorem d_Ru_runAll_30 : Dc prog_9_method_4_code 30 (.invokevirtual 82) 3 33 := ⟨by decide +kernel, rfl⟩
theorem d_Ru_runAll_33 : Dc prog_9_method_4_code 33 (.iconst 0) 1 34 := ⟨by decide +kernel, rfl⟩
theorem d_Ru_runAll_34 : Dc prog_9_method_4_code 34 (.istore_n 3) 1 35 := ⟨by decide +kernel, rfl⟩
theorem d_Ru_runAll_35 : Dc prog_9_method_4_code 35 (.iload_n 3) 1 36 := ⟨by decide +kernel, rfl⟩
theorem d_Ru_runAll_36 : Dc prog_9_method_4_code 36 (.aload_n 1) 1 37 := ⟨by decide +kernel, rfl⟩
theorem d_Ru_runAll_37 : Dc prog_9_method_4_code 37 (.getfield 86) 3 40 := ⟨by decide +kernel, rfl⟩
theorem d_Ru_runAll_40 : Dj prog_9_method_4_code 40 (.if_icmp .ge 86) 43 86 126 := ⟨by decide +kernel, rfl, rfl⟩
theorem d_Ru_runAll_43 : Dc prog_9_method_4_code 43 (.aload_n 1) 1 44 := ⟨by decide +kernel, rfl⟩
theorem d_Ru_runAll_44 : Dc prog_9_method_4_code 44 (.iload_n 3) 1 45 := ⟨by decide +kernel, rfl⟩
theorem d_Ru_runAll_45 : Dc prog_9_method_4_code 45 (.bipush 7) 2 47 := ⟨by decide +kernel, rfl⟩
theorem d_Ru_runAll_47 : Dc prog_9_method_4_code 47 (.invokevirtual 89) 3 50 := ⟨by decide +kernel, rfl⟩
theorem d_Ru_runAll_50 : Dc prog_9_method_4_code 50 (.istore 4) 2 52 := ⟨by decide +kernel, rfl⟩
theorem d_Ru_runAll_52 : Dc prog_9_method_4_code 52 (.iconst 0) 1 53 := ⟨by decide +kernel, rfl⟩
theorem d_Ru_runAll_53 : Dc prog_9_method_4_code 53 (.istore 5) 2 55 := ⟨by decide +kernel, rfl⟩
theorem d_Ru_runAll_55 : Dc prog_9_method_4_code 55 (.iload 5) 2 57 := ⟨by decide +kernel, rfl⟩
theorem d_Ru_runAll_57 : Dc prog_9_method_4_code 57 (.iload 4) 2 59 := ⟨by decide +kernel, rfl⟩
theorem d_Ru_runAll_59 : Dj prog_9_method_4_code 59 (.if_icmp .ge 61) 62 61 120 := ⟨by decide +kernel, rfl, rfl⟩
theorem d_Ru_runAll_62 : Dc prog_9_method_4_code 62 (.aload_n 0) 1 63 := ⟨by decide +kernel, rfl⟩
theorem d_Ru_runAll_63 : Dc prog_9_method_4_code 63 (.aload_n 1) 1 64 := ⟨by decide +kernel, rfl⟩
theorem d_Ru_runAll_64 : Dc prog_9_method_4_code 64 (.iload_n 3) 1 65 := ⟨by decide +kernel, rfl⟩
theorem d_Ru_runAll_65 : Dc prog_9_method_4_code 65 (.invokevirtual 93) 3 68 := ⟨by decide +kernel, rfl⟩
theorem d_Ru_runAll_68 : Dj prog_9_method_4_code 68 (.ifCond .eq 52) 71 52 120 := ⟨by decide +kernel, rfl, rfl⟩
theorem d_Ru_runAll_71 : Dc prog_9_method_4_code 71 (.aload_n 0) 1 72 := ⟨by decide +kernel, rfl⟩
theorem d_Ru_runAll_72 : Dc prog_9_method_4_code 72 (.aload_n 1) 1 73 := ⟨by decide +kernel, rfl⟩
theorem d_Ru_runAll_73 : Dc prog_9_method_4_code 73 (.iload_n 3) 1 74 := ⟨by decide +kernel, rfl⟩
theorem d_Ru_runAll_74 : Dc prog_9_method_4_code 74 (.invokevirtual 97) 3 77 := ⟨by decide +kernel, rfl⟩
theorem d_Ru_runAll_77 : Dj prog_9_method_4_code 77 (.ifCond .ne 32) 80 32 109 := ⟨by decide +kernel, rfl, rfl⟩
theorem d_Ru_runAll_80 : Dc prog_9_method_4_code 80 (.aload_n 0) 1 81 := ⟨by decide +kernel, rfl⟩
theorem d_Ru_runAll_81 : Dc prog_9_method_4_code 81 (.iload_n 3) 1 82 := ⟨by decide +kernel, rfl⟩
theorem d_Ru_runAll_82 : Dc prog_9_method_4_code 82 (.putfield 29) 3 85 := ⟨by decide +kernel, rfl⟩
theorem d_Ru_runAll_85 : Dc prog_9_method_4_code 85 (.aload_n 0) 1 86 := ⟨by decide +kernel, rfl⟩
theorem d_Ru_runAll_86 : Dc prog_9_method_4_code 86 (.getfield 33) 3 89 := ⟨by decide +kernel, rfl⟩
theorem d_Ru_runAll_89 : Dc prog_9_method_4_code 89 (.aload_n 0) 1 90 := ⟨by decide +kernel, rfl⟩
theorem d_Ru_runAll_90 : Dc prog_9_method_4_code 90 (.getfield 12) 3 93 := ⟨by decide +kernel, rfl⟩
theorem d_Ru_runAll_93 : Dc prog_9_method_4_code 93 (.invokevirtual 69) 3 96 := ⟨by decide +kernel, rfl⟩
theorem d_Ru_runAll_96 : Dc prog_9_method_4_code 96 (.aload_n 0) 1 97 := ⟨by decide +kernel, rfl⟩
theorem d_Ru_runAll_97 : Dc prog_9_method_4_code 97 (.getfield 36) 3 100 := ⟨by decide +kernel, rfl⟩
theorem d_Ru_runAll_100 : Dc prog_9_method_4_code 100 (.aload_n 0) 1 101 := ⟨by decide +kernel, rfl⟩
theorem d_Ru_runAll_101 : Dc prog_9_method_4_code 101 (.getfield 21) 3 104 := ⟨by decide +kernel, rfl⟩
theorem d_Ru_runAll_104 : Dc prog_9_method_4_code 104 (.invokevirtual 73) 3 107 := ⟨by decide +kernel, rfl⟩
theorem d_Ru_runAll_107 : Dc prog_9_method_4_code 107 (.iconst 0) 1 108 := ⟨by decide +kernel, rfl⟩
theorem d_Ru_runAll_108 : Dc prog_9_method_4_code 108 (.ireturn) 1 109 := ⟨by decide +kernel, rfl⟩
theorem d_Ru_runAll_109 : Dc prog_9_method_4_code 109 (.aload_n 0) 1 110 := ⟨by decide +kernel, rfl⟩
theorem d_Ru_runAll_110 : Dc prog_9_method_4_code 110 (.iload_n 2) 1 111 := ⟨by decide +kernel, rfl⟩
theorem d_Ru_runAll_111 : Dc prog_9_method_4_code 111 (.invokevirtual 82) 3 114 := ⟨by decide +kernel, rfl⟩
theorem d_Ru_runAll_114 : Dc prog_9_method_4_code 114 (.iinc 5 1) 3 117 := ⟨by decide +kernel, rfl⟩
theorem d_Ru_runAll_117 : Dj prog_9_method_4_code 117 (.goto (-62)) 120 (-62) 55 := ⟨by decide +kernel, rfl, rfl⟩
theorem d_Ru_runAll_120 : Dc prog_9_method_4_code 120 (.iinc 3 1) 3 123 := ⟨by decide +kernel, rfl⟩
theorem d_Ru_runAll_123 : Dj prog_9_method_4_code 123 (.goto (-88)) 126 (-88) 35 := ⟨by decide +kernel, rfl, rfl⟩
theorem d_Ru_runAll_126 : Dc prog_9_method_4_code 126 (.iconst 1) 1 127 := ⟨by decide +kernel, rfl⟩
theorem d_Ru_runAll_127 : Dc prog_9_method_4_code 127 (.ireturn) 1 128 := ⟨by decide +kernel, rfl⟩
theorem fl_Ru_12 : FL "SubgraphDesk$Runner" 12 8 4 true (.object "SubgraphDesk$Board") (3, 1) := ⟨R_Ru, F_Ru, 10, ty_Ru, rfl, rfl, in_Ru, tyok_Ru, nm_Ru, by decide, gd 525 (by decide +kernel) rfl, rfl, rfl, rfl⟩
theorem fl_Ru_21 : FL "SubgraphDesk$Runner" 21 8 5 true (.object "SubgraphDesk$Acts") (3, 10) := ⟨R_Ru, F_Ru, 10, ty_Ru, rfl, rfl, in_Ru, tyok_Ru, nm_Ru, by decide, gd 526 (by decide +kernel) rfl, rfl, rfl, rfl⟩
theorem fl_Ru_29 : FL "SubgraphDesk$Runner" 29 8 9 false .int (0, 0) := ⟨R_Ru, F_Ru, 10, ty_Ru, rfl, rfl, in_Ru, tyok_Ru, nm_Ru, by decide, gd 531 (by decide +kernel) rfl, rfl, rfl, rfl⟩
theorem fl_Ru_86 : FL "SubgraphDesk$Runner" 86 6 0 false .int (0, 0) := ⟨R_Pr, F_Pr, 4, ty_Pr, rfl, rfl, in_Pr, tyok_Pr, nm_Pr, by decide, gd 335 (by decide +kernel) rfl, rfl, rfl, rfl⟩
theorem ml_Ru_69 : Cond.methodLink "SubgraphDesk$Runner" 69 m_Bo_copyFrom.1 ∈ lw_gd := gd 1007 (by decide +kernel) rfl
theorem ml_Ru_73 : Cond.methodLink "SubgraphDesk$Runner" 73 m_Ac_copyFrom.1 ∈ lw_gd := gd 1012 (by decide +kernel) rfl
theorem ml_Ru_76 : Cond.methodLink "SubgraphDesk$Runner" 76 m_Pr_mentions.1 ∈ lw_gd := gd 1017 (by decide +kernel) rfl
theorem ml_Ru_82 : Cond.methodLink "SubgraphDesk$Runner" 82 m_Ru_refreshWords.1 ∈ lw_gd := gd 1021 (by decide +kernel) rfl
theorem ml_Ru_93 : Cond.methodLink "SubgraphDesk$Runner" 93 m_Ru_isMeant.1 ∈ lw_gd := gd 1063 (by decide +kernel) rfl
theorem ml_Ru_97 : Cond.methodLink "SubgraphDesk$Runner" 97 m_Ru_runOnce.1 ∈ lw_gd := gd 1069 (by decide +kernel) rfl
theorem OdP.rn {w w2 : Mem} {c : List (Nat × Nat)} {cls : List OcT} (h : OdP w c cls) (e : ∀ a, (a = 28 ∨ a = 29 ∨ a = 30) → rI w2 a = rI w a) (k : rR w2 28 = rR w 28) : OdP w2 c cls := by
  obtain ⟨h1, h2, ⟨h3, h3b, h3c⟩, h4, h5, h6⟩ := h
  refine ⟨h1, h2, ⟨?_, by rw [e 28 (Or.inl rfl)]; exact h3b, by rw [e 30 (Or.inr (Or.inr rfl))]; exact h3c⟩, by rw [e 28 (Or.inl rfl)]; exact h4, h5, by rw [e 29 (Or.inr (Or.inl rfl))]; exact h6⟩
  unfold Dra
  rw [k]
  exact h3
/-- orders are being run: st so far -/
def RnI (wS wk : Mem) (s : SG) (st : RSt) (bb : Bool) : Prop := FrRn wS wk ∧ DInv wk (wU (wG s st.1) st.2.1) ∧ RuE wk ∧ rI wk 53 7 = nI st.2.2.1 ∧ rI wk 53 8 = st.2.2.2 ∧ WoP wk st.1 st.2.2.1 st.2.2.2 bb ∧ tlS st.2.2.2
theorem RnI.s {wS wk w2 : Mem} {s : SG} {st : RSt} {bb : Bool} (h : RnI wS wk s st bb) (f : FrS wk w2) : RnI wS w2 s st bb := by
  obtain ⟨h1, h2, h3, h4, h5, h6, h7⟩ := h
  exact ⟨h1.tr f.W.R, h2.w1 f.W, h3.fr f.W.2.2.2, by rw [f.i]; exact h4, by rw [f.i]; exact h5, h6.s f, h7⟩
theorem ways_few {w : Mem} {s : SG} (h : DInv w s) : (waysL (sG s)).length ≤ 300000 := by
  have := waysC_len (c := mayG (sG s)) h.g.2.1
  have e : waysC (sG s) (mayG (sG s)) = waysL (sG s) := ways_C _
  rw [← e]
  omega
theorem DInv.spw {w : Mem} {s : SG} {x : Int32} (h : DInv w s) : DInv (sI w 53 9 x) (wSp s x) := by
  obtain ⟨h1, h2, h3, h4, h5, h6, h7, h8⟩ := h
  have e : ∀ a, a ≠ 53 → rI (sI w 53 9 x) a = rI w a := fun a ha => rI_sI_ne _ _ _ ha
  have kk : KpR w (sI w 53 9 x) := KpR.of2 rfl
  refine ⟨h1.fr (fun a ha => e a (by omega)), h2.fr isBo1 (fun a ha => e a (by omega)) kk, h3.fr (by rw [e 26 (by decide)]) (e 27 (by decide)), h4.fr (fun a h1 h2 => e a (by omega)) kk, h5.fr (e 70 (by decide)) (by rw [e 0 (by decide)]), ?_, h7.fr (fun a h1 h2 => e a (by omega)), h8.fr kk⟩
  rw [e 0 (by decide), e 25 (by decide), rI_sI, upd_eq, if_pos rfl]
  exact ⟨h6.1, h6.2.1, rfl⟩
theorem SvP.sp {w : Mem} {s : SG} {x : Int32} (h : SvP w s) (hl : (gL (sG s)).length ≤ 6) : SvP (sI w 53 9 x) (wSp s x) := ⟨h.1.fr (fun a a1 a2 => rI_sI_ne _ _ _ (by omega)), h.2.1.fr2 hl (fun a ha => rI_sI_ne _ _ _ (by omega)) (fun _ _ => rfl) rfl (fun _ _ => rfl), h.2.2.fr (fun a a1 a2 => rI_sI_ne _ _ _ (by omega))⟩
theorem FrRn.sp {w w2 : Mem} {x : Int32} (h : FrRn w w2) : FrRn (sI w 53 9 x) (sI w2 53 9 x) := ⟨fun a ha => by rw [rI_sI_ne _ _ _ (by omega), rI_sI_ne _ _ _ (by omega)]; exact h.1 a ha, fun k h1 h2 => by rw [rI_sI, upd_eq, rI_sI, upd_eq, h.2.1 k h1 h2], h.2.2.1, h.2.2.2⟩
def RaQ (w w2 : Mem) (s : SG) (x : Nat ⊕ RSt) (r : Option Value) : Prop := DkD w w2 ∧ match x with
  | .inl k => r = some (.int (nI 0)) ∧ DInv w2 (wSp s (nI k))
  | .inr z => r = some (.int (nI 1)) ∧ DInv w2 (wU (wG s z.1) z.2.1) ∧ rI w2 53 7 = nI z.2.2.1
theorem SvW_i (w : Mem) {a : Nat} (h : a < 54 ∨ 67 < a) : rI (SvW w) a = rI w a := ((CpA_fr (CpB w 54 1) 63 20).1 a (by omega)).trans (CpB_o _ _ _ (by omega))
theorem SvW_2 (w : Mem) : (SvW w).2 = (CpB w 54 1).2 := (CpA_fr (CpB w 54 1) 63 20).2
theorem SvW_r (w : Mem) {a : Nat} (h : a ≠ 62) : rR (SvW w) a = rR w a := by
  rw [show rR (SvW w) a = rR (CpB w 54 1) a by unfold rR; rw [SvW_2]]
  exact CpB_r _ _ _ (by omega)
theorem DkD.sv {w w2 : Mem} (f : FrRn (SvW w) w2) : DkD w w2 := ⟨fun a h1 h2 => (f.1 a (by omega)).trans (SvW_i w (by omega)), fun a h1 h2 => (f.2.2.1 a (by omega)).trans (by unfold rJ; rw [SvW_2]; rfl)⟩
theorem BkW_D (w : Mem) : DkD w (BkW w) := ⟨fun a h1 h2 => ((CpA_fr (CpB w 1 54) 20 63).1 a (by omega)).trans (CpB_o _ _ _ (by omega)), fun a h1 h2 => by unfold rJ; rw [show (BkW w).2 = (CpB w 1 54).2 from (CpA_fr (CpB w 1 54) 20 63).2]; rfl⟩
theorem c_Ru_runAll {E : EV} {w : Mem} {s : SG} {c : List (Nat × Nat)} {cls : List OcT} {R : Nat ⊕ RSt} (h : DInv w s) (hE : RuE w) (hO0 : OdP w c cls) (hd : rI w 53 7 = nI 0) (hlt : rI w 53 8 = -1) (hRR : runsR cls 0 (sG s, sU s, 0, -1) = R) : T E m_Ru_runAll 12 0 0 [.ref 53, .ref 28] w (fun r w2 => RaQ w w2 s R r) := by
  refine T_of (L := [.ref 53, .ref 28, un, un, un, un]) cf_Ru_runAll rfl (Nat.le_of_ble_eq_true rfl) (fun X hX hF => ?_)
  have hll := h.g.2.1.ll
  obtain ⟨hS0, hSv⟩ := h.sav
  obtain ⟨wS, hwS⟩ : ∃ z, SvW w = z := ⟨_, rfl⟩
  have hO : OdP wS c cls := by rw [← hwS]; exact hO0.rn (fun a ha => SvW_i w (by omega)) (SvW_r w (by decide))
  have hES : RuE wS := by
    rw [← hwS]
    unfold RuE
    rw [SvW_r w (by decide)]
    exact hE
  have hdS : rI wS 53 7 = nI 0 := by rw [← hwS, SvW_i w (by decide)]; exact hd
  have hlS : rI wS 53 8 = -1 := by rw [← hwS, SvW_i w (by decide)]; exact hlt
  have h12 := hO.2.2.2.2.1
  refine g_aload0 hX d_Ru_runAll_0 ?_
  refine g_getF hX d_Ru_runAll_1 fl_Ru_12 (lv_53 _) ?_
  refine g_aload0 hX d_Ru_runAll_4 ?_
  refine g_getR hX d_Ru_runAll_5 fl_Ru_33 (lv_53 _) hE.1 ?_
  refine g_callV (As := [_]) hX hF.1 d_Ru_runAll_8 ml_Ru_69 cf_Bo_copyFrom cv_Bo_copyFrom rfl rfl (c_Bo_copyFrom isBo54 isBo1 (by decide) h.2.2.2.2.2.2.2.2.2.2.1) (rcv_obj hX (lv_54 _) rfl rfl) (by omega) (by omega) (by omega) (Nat.le_of_ble_eq_true rfl) ?_
  refine ret_k ?_
  refine g_aload0 hX d_Ru_runAll_11 ?_
  refine g_getF hX d_Ru_runAll_12 fl_Ru_21 (lv_53 _) ?_
  refine g_aload0 hX d_Ru_runAll_15 ?_
  refine g_getR hX d_Ru_runAll_16 fl_Ru_36 (lv_53 _) (show rR (CpB w 54 1) 53 1 = some 20 by rw [CpB_r _ _ _ (by decide)]; exact hE.2.1) ?_
  refine g_callV (As := [_]) hX hF.1 d_Ru_runAll_19 ml_Ru_73 cf_Ac_copyFrom cv_Ac_copyFrom rfl rfl (c_Ac_copyFrom (Or.inr rfl) (Or.inl rfl) (by decide)) (rcv_obj hX (lv_63 _) rfl rfl) (by omega) (by omega) (by omega) (Nat.le_of_ble_eq_true rfl) ?_
  refine ret_k ?_
  refine g_mem (show CpA (CpB w 54 1) 63 20 = wS from hwS) ?_
  rw [hwS] at hS0 hSv
  have hmen : DrC wS c := ⟨hO.2.2.1.1, hO.1.1, hO.2.2.1.2.1, hO.2.2.1.2.2, hO.1.2.1, hO.1.2.2.1⟩
  obtain ⟨bb, hbb⟩ : ∃ bb : Bool, bb = decide (∃ j, j < c.length ∧ cO c j = 5) := ⟨_, rfl⟩
  have hb : (∃ j, j < c.length ∧ cO c j = 5) → bb = true := fun z => by rw [hbb]; exact decide_eq_true z
  refine g_aload1 hX d_Ru_runAll_22 ?_
  refine g_iconst (v := nI 4) hX d_Ru_runAll_23 rfl ?_
  refine g_callV (As := [_]) hX hF.1 d_Ru_runAll_24 ml_Ru_76 cf_Pr_mentions cv_Pr_mentions rfl rfl (c_Pr_mentions hmen) (rcv_obj hX (lv_28 _) rfl rfl) (by omega) (by omega) (by omega) (Nat.le_of_ble_eq_true rfl) ?_
  rintro _ w5 ⟨rfl, hw5⟩
  have hw6 := hw5.symm
  subst hw6
  rw [show b2i (∃ j, j < c.length ∧ cO c j = 5) = b2i (bb = true) by rw [hbb]; exact b2i_c (by rw [decide_eq_true_iff])]
  show G0 _ _ _ _ _ _ _ _
  refine g_istore2 hX d_Ru_runAll_27 rfl (by decide) ?_
  refine g_aload0 hX d_Ru_runAll_28 ?_
  refine g_iload2 hX d_Ru_runAll_29 ?_
  refine g_callV (As := [_]) hX hF.1 d_Ru_runAll_30 ml_Ru_82 cf_Ru_refreshWords cv_Ru_refreshWords rfl rfl (c_Ru_refreshWords (bb := bb) (dn := 0) (lt := -1) hS0 hES hdS hlS) (rcv_obj hX (lv_53 _) rfl rfl) (by omega) (by omega) (by omega) (Nat.le_of_ble_eq_true rfl) ?_
  rintro _ w7 ⟨rfl, u1, u2, u3, u4, u5⟩
  have h7 : RnI wS w7 s (sG s, sU s, 0, -1) bb := ⟨u4.R, u1, u2, by rw [u5]; exact hdS, by rw [u5]; exact hlS, u3, Or.inl rfl⟩
  show G0 _ _ _ _ _ _ _ _
  refine g_iconst (v := nI 0) hX d_Ru_runAll_33 rfl ?_
  refine g_istore3 hX d_Ru_runAll_34 rfl (by decide) ?_
  have lp : ∀ (fuel : Nat) (k : Nat) (st : RSt) (wk : Mem), cls.length - k < fuel → (RnI wS wk s st bb) → (k ≤ cls.length) → (st.2.2.1 ≤ 20 * k) → (runsR (cls.drop k) k st = R) → G0 E X 0 0 35 [.ref 53, .ref 28, .int (b2i (bb = true)), .int (nI k), un, un] [] wk := by
    intro fuel
    induction fuel with
    | zero => intro k st wk q0; exact absurd q0 (Nat.not_lt_zero _)
    | succ fuel ih =>
      intro k st wk q0 q1 q2 q3 q4
      refine g_iload3 hX d_Ru_runAll_35 ?_
      refine g_aload1 hX d_Ru_runAll_36 ?_
      refine g_getI hX d_Ru_runAll_37 fl_Ru_86 (lv_28 _) ?_
      refine g_topi (show rI wk 28 0 = nI cls.length by rw [q1.1.1 28 (by decide)]; exact hO.2.2.2.1) ?_
      refine g_icmpN_ge hX d_Ru_runAll_40 (by omega) (by omega) (fun e40 => ?_) (fun e40 => ?_)
      · refine g_iconst (v := nI 1) hX d_Ru_runAll_126 rfl ?_
        refine g_zret hX hF d_Ru_runAll_127 (Or.inr rfl) (by omega) (by omega) ?_
        rw [List.drop_of_length_le e40] at q4
        obtain rfl : Sum.inr st = R := q4
        exact ⟨DkD.sv (w := w) (by rw [hwS]; exact q1.1), rfl, q1.2.1, q1.2.2.2.1⟩
      · obtain ⟨q, hk⟩ : ∃ q, cls[k]? = some q := ⟨_, List.getElem?_eq_getElem e40⟩
        have hdr : cls.drop k = q :: cls.drop (k + 1) := by
          rw [List.drop_eq_getElem_cons e40]
          congr 1
          have := List.getElem?_eq_getElem e40
          rw [hk] at this
          exact (Option.some.inj this).symm
        rw [hdr] at q4
        have hdo := hO.2.2.2.2.2 k q hk
        have h20 := hdo.2.2.2.1
        have hbit : ∀ d, q.2.2.2.2 = some d → Bit d := fun d hd => by
          obtain ⟨-, -, -, -, a, b, a2, b2, u, v, -, -, -, -, -, -, -, -, -, -, -, -, -, -, hm⟩ := hdo
          rw [hd] at hm
          exact hm.2
        refine g_aload1 hX d_Ru_runAll_43 ?_
        refine g_iload3 hX d_Ru_runAll_44 ?_
        refine g_bipush (v := nI 7) hX d_Ru_runAll_45 rfl ?_
        refine g_callV (As := [_, _]) hX hF.1 d_Ru_runAll_47 ml_Ru_89 cf_Pr_tell cv_Pr_tell rfl rfl (c_Pr_tell (hO.rn (fun a ha => q1.1.1 a (by omega)) (q1.1.2.2.2.1 28 (by decide))).2.2.1.1.P (c := k) (k := 7) (x := q.2.2.2.1) (by rw [q1.1.1 29 (by decide)]; exact hdo.2.2.1) (by omega)) (rcv_obj hX (lv_28 _) rfl rfl) (by omega) (by omega) (by omega) (Nat.le_of_ble_eq_true rfl) ?_
        refine ret_k ?_
        refine g_istore4 hX d_Ru_runAll_50 rfl (by decide) ?_
        refine g_iconst (v := nI 0) hX d_Ru_runAll_52 rfl ?_
        refine g_istore5 hX d_Ru_runAll_53 rfl (by decide) ?_
        have lpI : ∀ (fuel : Nat) (i : Nat) (st : RSt) (wk : Mem), q.2.2.2.1 - i < fuel → (RnI wS wk s st bb) → (i ≤ q.2.2.2.1) → (st.2.2.1 ≤ 20 * k + i) → ((match timesR q (q.2.2.2.1 - i) st with | none => .inl k | some s2 => runsR (cls.drop (k + 1)) (k + 1) s2) = R) → G0 E X 0 0 55 [.ref 53, .ref 28, .int (b2i (bb = true)), .int (nI k), .int (nI q.2.2.2.1), .int (nI i)] [] wk := by
          intro fuel
          induction fuel with
          | zero => intro i st wk q0; exact absurd q0 (Nat.not_lt_zero _)
          | succ fuel ihI =>
            intro i st wk r0 r1 r2 r3 r4
            refine g_iload5 hX d_Ru_runAll_55 ?_
            refine g_iload4 hX d_Ru_runAll_57 ?_
            refine g_icmpN_ge hX d_Ru_runAll_59 (by omega) (by omega) (fun e59 => ?_) (fun e59 => ?_)
            · rw [show q.2.2.2.1 - i = 0 by omega] at r4
              replace r4 : runsR (cls.drop (k + 1)) (k + 1) st = R := r4
              refine g_iincN3 hX d_Ru_runAll_120 rfl (by decide) ?_
              refine g_goto hX d_Ru_runAll_123 ?_
              refine g_fget 4 ?_
              refine g_fget 5 ?_
              exact ih (k + 1) st wk (by omega) r1 (by omega) (by omega) r4
            · obtain ⟨mm, hmm⟩ : ∃ mm, q.2.2.2.1 - i = mm + 1 := ⟨q.2.2.2.1 - i - 1, by omega⟩
              rw [hmm] at r4
              have hOk := hO.rn (fun a ha => r1.1.1 a (by omega)) (r1.1.2.2.2.1 28 (by decide))
              have hWk := r1.2.1.g.2.1
              have hwl := ways_few r1.2.1
              have hdn : st.2.2.1 ≤ 1000 := by omega
              refine g_aload0 hX d_Ru_runAll_62 ?_
              refine g_aload1 hX d_Ru_runAll_63 ?_
              refine g_iload3 hX d_Ru_runAll_64 ?_
              refine g_callV (As := [_, _]) hX hF.1 d_Ru_runAll_65 ml_Ru_93 cf_Ru_isMeant cv_Ru_isMeant rfl rfl (c_Ru_isMeant (g := st.1) (dn := st.2.2.1) (lt := st.2.2.2) r1.2.2.1 hOk hk r1.2.2.2.2.2.1 hWk hb hdn r1.2.2.2.2.2.2 hwl) (rcv_obj hX (lv_53 _) rfl rfl) (by omega) (by omega) (by omega) (Nat.le_of_ble_eq_true rfl) ?_
              rintro _ w5 ⟨rfl, hf5⟩
              have h5 := r1.s hf5
              have hO5 := hOk.s hf5
              show G0 _ _ _ _ _ _ _ _
              refine g_ifB_eq hX d_Ru_runAll_68 (fun e68 => ?_) (fun e68 => ?_)
              · rw [timesR_stop (ordOne_n hbit e68)] at r4
                replace r4 : runsR (cls.drop (k + 1)) (k + 1) st = R := r4
                refine g_iincN3 hX d_Ru_runAll_120 rfl (by decide) ?_
                refine g_goto hX d_Ru_runAll_123 ?_
                refine g_fget 4 ?_
                refine g_fget 5 ?_
                exact ih (k + 1) st w5 (by omega) h5 (by omega) (by omega) r4
              · have hone := ordOne_y (s := st) e68
                refine g_aload0 hX d_Ru_runAll_71 ?_
                refine g_aload1 hX d_Ru_runAll_72 ?_
                refine g_iload3 hX d_Ru_runAll_73 ?_
                refine g_callV (As := [_, _]) hX hF.1 d_Ru_runAll_74 ml_Ru_97 cf_Ru_runOnce cv_Ru_runOnce rfl rfl (c_Ru_runOnce (dn := st.2.2.1) (lt := st.2.2.2) h5.2.1 h5.2.2.1 hO5 hk h5.2.2.2.2.2.1 hb hdn h5.2.2.2.2.2.2 hwl h5.2.2.2.1) (rcv_obj hX (lv_53 _) rfl rfl) (by omega) (by omega) (by omega) (Nat.le_of_ble_eq_true rfl) ?_
                rintro r6 w6 hQ
                obtain rfl := hQ.rv
                obtain ⟨x, hx⟩ : ∃ x, ordDo q st = x := ⟨_, rfl⟩
                replace hQ : DoQ w5 w6 (wU (wG s st.1) st.2.1) x (some (.int (b2i (x.isSome = true)))) := by rw [← hx]; exact hQ
                rw [show ordDo q (sG (wU (wG s st.1) st.2.1), sU (wU (wG s st.1) st.2.1), st.2.2.1, st.2.2.2) = x from hx]
                have hf6 := h5.1.tr hQ.1
                show G0 _ _ _ _ _ _ _ _
                refine g_ifB_ne hX d_Ru_runAll_77 (fun e77 => ?_) (fun e77 => ?_)
                · obtain ⟨z, rfl⟩ := Option.isSome_iff_exists.mp e77
                  obtain ⟨-, -, z1, z2, z3, z4⟩ := id hQ
                  obtain ⟨y1, y2, y3⟩ := ordDo_sm (s := st) hWk hx
                  rw [timesR_ok (hone.trans hx)] at r4
                  refine g_aload0 hX d_Ru_runAll_109 ?_
                  refine g_iload2 hX d_Ru_runAll_110 ?_
                  refine g_callV (As := [_]) hX hF.1 d_Ru_runAll_111 ml_Ru_82 cf_Ru_refreshWords cv_Ru_refreshWords rfl rfl (c_Ru_refreshWords (bb := bb) (dn := z.2.2.1) (lt := z.2.2.2) z1 z2 z3 z4) (rcv_obj hX (lv_53 _) rfl rfl) (by omega) (by omega) (by omega) (Nat.le_of_ble_eq_true rfl) ?_
                  rintro _ w7 ⟨rfl, u1, u2, u3, u4, u5⟩
                  have h7 : RnI wS w7 s z bb := ⟨hf6.tr u4.R, u1, u2, by rw [u5]; exact z3, by rw [u5]; exact z4, u3, y1⟩
                  show G0 _ _ _ _ _ _ _ _
                  refine g_iincN5 hX d_Ru_runAll_114 rfl (by decide) ?_
                  refine g_goto hX d_Ru_runAll_117 ?_
                  exact ihI (i + 1) z w7 (by omega) h7 (by omega) (by omega) (by rw [show q.2.2.2.1 - (i + 1) = mm by omega]; exact r4)
                · have hxn : x = none := by cases x with | none => rfl | some z => exact absurd rfl e77
                  rw [hxn] at hx
                  rw [timesR_no (hone.trans hx)] at r4
                  replace r4 : Sum.inl k = R := r4
                  have hE6 : RuE w6 := h5.2.2.1.fr hQ.1.2.2.2
                  have hT6 : TxtOK w6 54 := (hS0.2.2.2.2.2.2.2.fr hf6.2.2.2.K).2.2.2.2.2.1
                  refine g_aload0 hX d_Ru_runAll_80 ?_
                  refine g_iload3 hX d_Ru_runAll_81 ?_
                  refine g_putI hX d_Ru_runAll_82 fl_Ru_29 (lv_53 _) ?_
                  refine g_aload0 hX d_Ru_runAll_85 ?_
                  refine g_getR hX d_Ru_runAll_86 fl_Ru_33 (lv_53 _) hE6.1 ?_
                  refine g_aload0 hX d_Ru_runAll_89 ?_
                  refine g_getF hX d_Ru_runAll_90 fl_Ru_12 (lv_53 _) ?_
                  refine g_callV (As := [_]) hX hF.1 d_Ru_runAll_93 ml_Ru_69 cf_Bo_copyFrom cv_Bo_copyFrom rfl rfl (c_Bo_copyFrom isBo1 isBo54 (by decide) (hT6.fr2 rfl (fun _ _ => rfl))) (rcv_obj hX (lv_1 _) rfl rfl) (by omega) (by omega) (by omega) (Nat.le_of_ble_eq_true rfl) ?_
                  refine ret_k ?_
                  refine g_aload0 hX d_Ru_runAll_96 ?_
                  refine g_getR hX d_Ru_runAll_97 fl_Ru_36 (lv_53 _) (show rR (CpB (sI w6 53 9 (nI k)) 1 54) 53 1 = some 20 by rw [CpB_r _ _ _ (by decide)]; exact hE6.2.1) ?_
                  refine g_aload0 hX d_Ru_runAll_100 ?_
                  refine g_getF hX d_Ru_runAll_101 fl_Ru_21 (lv_53 _) ?_
                  refine g_callV (As := [_]) hX hF.1 d_Ru_runAll_104 ml_Ru_73 cf_Ac_copyFrom cv_Ac_copyFrom rfl rfl (c_Ac_copyFrom (Or.inl rfl) (Or.inr rfl) (by decide)) (rcv_obj hX (lv_20 _) rfl rfl) (by omega) (by omega) (by omega) (Nat.le_of_ble_eq_true rfl) ?_
                  refine ret_k ?_
                  refine g_iconst (v := nI 0) hX d_Ru_runAll_107 rfl ?_
                  refine g_zret hX hF d_Ru_runAll_108 (Or.inl rfl) (by omega) (by omega) ?_
                  rw [← r4]
                  have hD : DkD w (BkW (sI w6 53 9 (nI k))) := (DkD.sv (w := w) (by rw [hwS]; exact hf6)).tr (DkD.tr ⟨fun a h1 h2 => rI_sI_ne _ _ _ (by omega), fun _ _ _ => rfl⟩ (BkW_D _))
                  exact ⟨hD, rfl, (hS0.spw (x := nI k)).bak (hSv.sp hll) hf6.sp⟩
        exact lpI (q.2.2.2.1 + 1) 0 st wk (by omega) q1 (Nat.zero_le _) (by omega) q4
  exact lp (cls.length + 1) 0 (sG s, sU s, 0, -1) w7 (by omega) h7 (Nat.zero_le _) (Nat.zero_le _) hRR
