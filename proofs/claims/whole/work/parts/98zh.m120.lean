def m_Ru_isMeant : MR := (⟨"SubgraphDesk$Runner", "isMeant", "(LSubgraphDesk$Program;I)Z"⟩, prog_9_method_6_code, 3, (some .boolean))
theorem cf_Ru_isMeant : CF m_Ru_isMeant 2 := ⟨gd 1066 (by decide +kernel) rfl, gd 150 (by decide +kernel) rfl, by decide +kernel, by decide, by decide +kernel⟩
theorem cv_Ru_isMeant : CV m_Ru_isMeant := ⟨gd 1065 (by decide +kernel) rfl, gd 27 (by decide +kernel) rfl⟩
theorem d_Ru_isMeant_0 : Dc prog_9_method_6_code 0 (.aload_n 1) 1 1 := ⟨by decide +kernel, rfl⟩
theorem d_Ru_isMeant_1 : Dc prog_9_method_6_code 1 (.iload_n 2) 1 2 := ⟨by decide +kernel, rfl⟩
theorem d_Ru_isMeant_2 : Dc prog_9_method_6_code 2 (.iconst 5) 1 3 := ⟨by decide +kernel, rfl⟩
theorem d_Ru_isMeant_3 : Dc prog_9_method_6_code 3 (.invokevirtual 132) 3 6 := ⟨by decide +kernel, rfl⟩
theorem d_Ru_isMeant_6 : Dj prog_9_method_6_code 6 (.ifCond .eq 25) 9 25 31 := ⟨by decide +kernel, rfl, rfl⟩
theorem d_Ru_isMeant_9 : Dc prog_9_method_6_code 9 (.aload_n 1) 1 10 := ⟨by decide +kernel, rfl⟩
theorem d_Ru_isMeant_10 : Dc prog_9_method_6_code 10 (.iload_n 2) 1 11 := ⟨by decide +kernel, rfl⟩
theorem d_Ru_isMeant_11 : Dc prog_9_method_6_code 11 (.iconst 5) 1 12 := ⟨by decide +kernel, rfl⟩
theorem d_Ru_isMeant_12 : Dc prog_9_method_6_code 12 (.aload_n 0) 1 13 := ⟨by decide +kernel, rfl⟩
theorem d_Ru_isMeant_13 : Dc prog_9_method_6_code 13 (.getfield 25) 3 16 := ⟨by decide +kernel, rfl⟩
theorem d_Ru_isMeant_16 : Dc prog_9_method_6_code 16 (.aload_n 0) 1 17 := ⟨by decide +kernel, rfl⟩
theorem d_Ru_isMeant_17 : Dc prog_9_method_6_code 17 (.getfield 39) 3 20 := ⟨by decide +kernel, rfl⟩
theorem d_Ru_isMeant_20 : Dc prog_9_method_6_code 20 (.getfield 136) 3 23 := ⟨by decide +kernel, rfl⟩
theorem d_Ru_isMeant_23 : Dc prog_9_method_6_code 23 (.invokevirtual 140) 3 26 := ⟨by decide +kernel, rfl⟩
theorem d_Ru_isMeant_26 : Dc prog_9_method_6_code 26 (.lconst 1) 1 27 := ⟨by decide +kernel, rfl⟩
theorem d_Ru_isMeant_27 : Dc prog_9_method_6_code 27 (.lcmp) 1 28 := ⟨by decide +kernel, rfl⟩
theorem d_Ru_isMeant_28 : Dj prog_9_method_6_code 28 (.ifCond .ne 7) 31 7 35 := ⟨by decide +kernel, rfl, rfl⟩
theorem d_Ru_isMeant_31 : Dc prog_9_method_6_code 31 (.iconst 1) 1 32 := ⟨by decide +kernel, rfl⟩
theorem d_Ru_isMeant_32 : Dj prog_9_method_6_code 32 (.goto 4) 35 4 36 := ⟨by decide +kernel, rfl, rfl⟩
theorem d_Ru_isMeant_35 : Dc prog_9_method_6_code 35 (.iconst 0) 1 36 := ⟨by decide +kernel, rfl⟩
theorem d_Ru_isMeant_36 : Dc prog_9_method_6_code 36 (.ireturn) 1 37 := ⟨by decide +kernel, rfl⟩
theorem fl_Ru_136 : FL "SubgraphDesk$Runner" 136 4 3 true (.array .long) (3, 4) := ⟨R_Le, F_Le, 4, ty_Le, rfl, rfl, in_Le, tyok_Le, nm_Le, by decide, gd 381 (by decide +kernel) rfl, rfl, rfl, rfl⟩
theorem ml_Ru_132 : Cond.methodLink "SubgraphDesk$Runner" 132 m_Pr_has.1 ∈ lw_gd := gd 1067 (by decide +kernel) rfl
theorem ml_Ru_140 : Cond.methodLink "SubgraphDesk$Runner" 140 m_Pr_ask.1 ∈ lw_gd := gd 1068 (by decide +kernel) rfl
/-- the draft holds orders -/
def OdP (w : Mem) (c : List (Nat × Nat)) (cls : List OcT) : Prop := CdOK c ∧ OkX true c 0 ∧ DrK w c ∧ rI w 28 0 = nI cls.length ∧ cls.length ≤ 12 ∧ ∀ (k : Nat) (x : OcT), cls[k]? = some x → DOr (rI w 29) c k x
theorem ofI_toI (x : Int32) : Int32.ofInt x.toInt = x := Int32.ofInt_toInt x
/-- a word of the code is where the desk looks for it -/
theorem WoP.env {w : Mem} {g : GC} {dn : Nat} {lt : Int32} {b : Bool} {c : List (Nat × Nat)} {nb : Nat} (h : WoP w g dn lt b) (hW : WG g) (hX : OkX true c 0) (hb : (∃ j, j < c.length ∧ cO c j = 5) → b = true) (hdn : dn ≤ 1000) (hlt : tlS lt) (hwl : (waysL g).length ≤ 300000) (hnb : nb ≤ c.length) : ∀ j, j < nb → 0 < cO c j → cO c j < 20 → dA (cO c j) (cA c j) < 17 ∧ rI w 68 (dA (cO c j) (cA c j)) = Int32.ofInt (envO g dn lt (if cO c j = 6 then 20 + cA c j else cO c j)) ∧ bd (envO g dn lt (if cO c j = 6 then 20 + cA c j else cO c j)) := by
  intro j hj h0 h20
  obtain ⟨⟨⟨-, g2⟩, g3⟩, -⟩ := hX j (Nat.zero_le _) (by omega)
  have g2 : cO c j ≤ 6 ∨ (20 ≤ cO c j ∧ cO c j < 31) := g2
  obtain ⟨w0, w1, w2, w3, w5, w4⟩ := h
  have hn := hW.n
  have hel := hW.el
  have ht := hW.2.2.2.2.2.2.2.2.2.2.2.1.1
  by_cases e6 : cO c j = 6
  · have hca : cA c j ≤ 11 := (g3 e6).2
    rw [if_pos e6, e6, show dA 6 (cA c j) = 5 + cA c j from by unfold dA; rw [if_neg (by decide), if_pos rfl], w5 _ (by omega)]
    have henv : envO g dn lt (20 + cA c j) = if cA c j < gN g then (pop (nearB (gE g) (cA c j)) : Int) else -1 := by
      unfold envO
      rw [if_neg (by omega), if_neg (by omega), if_neg (by omega), if_neg (by omega), if_neg (by omega), if_neg (by omega), Nat.add_sub_cancel_left]
    rw [henv]
    refine ⟨by omega, ?_⟩
    by_cases e : cA c j < gN g
    · rw [if_pos e, degI_n e (by omega)]
      have := pop_le (nearB (gE g) (cA c j))
      exact ⟨rfl, by constructor <;> omega⟩
    · rw [if_neg e]
      unfold degI
      rw [if_neg (fun z => e (by have := (inN_of z (by omega)); obtain ⟨m, hm, hmm, -⟩ := this; rw [nI_inj (by omega) (by omega) hmm]; exact hm))]
      exact ⟨rfl, by constructor <;> decide⟩
  · rw [if_neg e6]
    have hd : dA (cO c j) (cA c j) = cO c j - 1 := by unfold dA; rw [if_neg (by omega), if_neg e6, if_pos h20]
    rw [hd]
    have : cO c j = 1 ∨ cO c j = 2 ∨ cO c j = 3 ∨ cO c j = 4 ∨ cO c j = 5 := by omega
    rcases this with e | e | e | e | e
    · rw [e]; exact ⟨by decide, w0, by show bd (gT g 0 : Int); constructor <;> omega⟩
    · rw [e]; exact ⟨by decide, w1, by show bd (dn : Int); constructor <;> omega⟩
    · rw [e]
      refine ⟨by decide, by rw [w2]; exact (ofI_toI lt).symm, ?_⟩
      show bd lt.toInt
      rcases hlt with z | ⟨v, hv, z⟩
      · rw [z]; constructor <;> decide
      · rw [z, nI_toInt (by omega)]; constructor <;> omega
    · rw [e]; exact ⟨by decide, w3, by show bd ((gE g).length : Int); constructor <;> omega⟩
    · have hb1 := hb ⟨j, by omega, e⟩
      rw [e]; exact ⟨by decide, w4 hb1, by show bd ((waysL g).length : Int); constructor <;> omega⟩
def mnB (q : OcT) (env : Nat → Int) : Bool := match q.2.2.2.2 with
  | none => true
  | some d => decide (d env = some 1)
theorem c_Ru_isMeant {E : EV} {w : Mem} {g : GC} {dn k : Nat} {lt : Int32} {bb : Bool} {c : List (Nat × Nat)} {cls : List OcT} {q : OcT} (hE : RuE w) (hO : OdP w c cls) (hk : cls[k]? = some q) (hwo : WoP w g dn lt bb) (hW : WG g) (hb : (∃ j, j < c.length ∧ cO c j = 5) → bb = true) (hdn : dn ≤ 1000) (hlt : tlS lt) (hwl : (waysL g).length ≤ 300000) : T E m_Ru_isMeant 3 0 0 [.ref 53, .ref 28, .int (nI k)] w (fun r w2 => r = some (.int (b2i (mnB q (envO g dn lt) = true))) ∧ FrS w w2) := by
  refine T_of (L := [.ref 53, .ref 28, .int (nI k)]) cf_Ru_isMeant rfl (Nat.le_of_ble_eq_true rfl) (fun X hX hF => ?_)
  obtain ⟨hC, hX2, hD, h28, h12, hcl⟩ := id hO
  have hk12 := (List.getElem?_eq_some_iff.mp hk).1
  obtain ⟨o1, o2, o3, o4, a, b, a2, b2, u, v, o5, o6, o7, o8, o9, o10, p1, p2, p3, p4, p5, p6, s1, s2, s3⟩ := hcl k q hk
  obtain ⟨q1, q2, q3, q4, q5⟩ := q
  have hc233 := hC.1
  rcases q5 with _ | d
  · refine g_aload1 hX d_Ru_isMeant_0 ?_
    refine g_iload2 hX d_Ru_isMeant_1 ?_
    refine g_iconst (v := nI 5) hX d_Ru_isMeant_2 rfl ?_
    refine g_callV (As := [_, _]) hX hF.1 d_Ru_isMeant_3 ml_Ru_132 cf_Pr_has cv_Pr_has rfl rfl (c_Pr_has hD.1.P o9 o10 (by omega) (by omega) (by omega)) (rcv_obj hX (lv_28 _) rfl rfl) (by omega) (by omega) (by omega) (Nat.le_of_ble_eq_true rfl) ?_
    refine ret_k ?_
    refine g_ifB_eq hX d_Ru_isMeant_6 (fun c0 => ?_) (fun h => absurd h (by have : u = v := s3; omega))
    refine g_iconst (v := nI 1) hX d_Ru_isMeant_31 rfl ?_
    refine g_goto hX d_Ru_isMeant_32 ?_
    refine g_zret hX hF d_Ru_isMeant_36 (Or.inr rfl) (by omega) (by omega) ?_
    exact ⟨rfl, FrS.rf w⟩
  · refine g_aload1 hX d_Ru_isMeant_0 ?_
    refine g_iload2 hX d_Ru_isMeant_1 ?_
    refine g_iconst (v := nI 5) hX d_Ru_isMeant_2 rfl ?_
    refine g_callV (As := [_, _]) hX hF.1 d_Ru_isMeant_3 ml_Ru_132 cf_Pr_has cv_Pr_has rfl rfl (c_Pr_has hD.1.P o9 o10 (by omega) (by omega) (by omega)) (rcv_obj hX (lv_28 _) rfl rfl) (by omega) (by omega) (by omega) (Nat.le_of_ble_eq_true rfl) ?_
    refine ret_k ?_
    refine g_ifB_eq hX d_Ru_isMeant_6 (fun h => absurd s3.1.1 h) (fun c0 => ?_)
    refine g_aload1 hX d_Ru_isMeant_9 ?_
    refine g_iload2 hX d_Ru_isMeant_10 ?_
    refine g_iconst (v := nI 5) hX d_Ru_isMeant_11 rfl ?_
    refine g_aload0 hX d_Ru_isMeant_12 ?_
    refine g_getF hX d_Ru_isMeant_13 fl_Ru_25 (lv_53 _) ?_
    refine g_aload0 hX d_Ru_isMeant_16 ?_
    refine g_getR hX d_Ru_isMeant_17 fl_Ru_39 (lv_53 _) hE.2.2.1 ?_
    refine g_getF hX d_Ru_isMeant_20 fl_Ru_136 (lv_31 _) ?_
    refine g_callV (As := [_, _, _, _]) hX hF.1 d_Ru_isMeant_23 ml_Ru_140 cf_Pr_ask cv_Pr_ask rfl rfl (c_Pr_ask (op := cO c) (arg := cA c) (env := envO g dn lt) (nw := 17) (len := c.length) hD.1.P (s3.1).M (fun j hj => ⟨(hC.2.1 j (by omega)).1, (hC.2.1 j (by omega)).2.1, fun z => ((hC.2.1 j (by omega)).2.2 z).1⟩) (Nat.le_trans (psh_le _ p6) (by have := hC.2.2.2; omega)) hD.2.1 p6 hC.1 (by decide) (fun j hj => hD.2.2 j (by omega)) o9 o10 (by omega) (lv_68 _) (by decide) (hwo.env hW hX2 hb hdn hlt hwl p6)) (rcv_obj hX (lv_28 _) rfl rfl) (by omega) (by omega) (by omega) (Nat.le_of_ble_eq_true rfl) ?_
    rintro r5 w5 ⟨hA, hf5⟩
    obtain ⟨L, rfl, hL⟩ : ∃ L : Int64, r5 = some (.long L) ∧ (L = lN 1 ↔ d (envO g dn lt) = some 1) := by
      unfold AskP at hA
      cases hd : d (envO g dn lt) with
      | none => rw [hd] at hA; exact ⟨_, hA, ⟨fun z => absurd z (by decide), fun z => by cases z⟩⟩
      | some x =>
        rw [hd] at hA
        rcases s3.2 _ _ hd with rfl | rfl
        · exact ⟨_, hA.1, ⟨fun z => absurd z (by decide), fun z => by cases z⟩⟩
        · exact ⟨_, hA.1, ⟨fun _ => rfl, fun _ => rfl⟩⟩
    show G0 _ _ _ _ _ _ _ _
    refine g_lconst (v := lN 1) hX d_Ru_isMeant_26 rfl ?_
    refine g_lcmp_ne hX d_Ru_isMeant_27 d_Ru_isMeant_28 (fun e28 => ?_) (fun e28 => ?_)
    · refine g_iconst (v := nI 0) hX d_Ru_isMeant_35 rfl ?_
      refine g_zret hX hF d_Ru_isMeant_36 (Or.inl rfl) (by omega) (by omega) ?_
      have hm : ¬ mnB (q1, q2, q3, q4, some d) (envO g dn lt) = true := fun z => by
        have z2 : d (envO g dn lt) = some 1 := of_decide_eq_true z
        exact e28 (by rw [hL.mpr z2])
      rw [b2i_f hm]
      exact ⟨rfl, hf5⟩
    · refine g_iconst (v := nI 1) hX d_Ru_isMeant_31 rfl ?_
      refine g_goto hX d_Ru_isMeant_32 ?_
      refine g_zret hX hF d_Ru_isMeant_36 (Or.inr rfl) (by omega) (by omega) ?_
      have hm : mnB (q1, q2, q3, q4, some d) (envO g dn lt) = true := decide_eq_true (hL.mp (by first | exact e28 | exact Classical.not_not.mp e28))
      rw [b2i_t hm]
      exact ⟨rfl, hf5⟩
