theorem d_M_isWay_0 : Dc prog_14_method_84_code 0 (.aload_n 0) 1 1 := ⟨by decide +kernel, rfl⟩
theorem d_M_isWay_1 : Dc prog_14_method_84_code 1 (.getfield 13) 3 4 := ⟨by decide +kernel, rfl⟩
theorem d_M_isWay_4 : Dc prog_14_method_84_code 4 (.iconst 1) 1 5 := ⟨by decide +kernel, rfl⟩
theorem d_M_isWay_5 : Dc prog_14_method_84_code 5 (.iaload) 1 6 := ⟨by decide +kernel, rfl⟩
theorem d_M_isWay_6 : Dc prog_14_method_84_code 6 (.istore_n 1) 1 7 := ⟨by decide +kernel, rfl⟩
theorem d_M_isWay_7 : Dc prog_14_method_84_code 7 (.iload_n 1) 1 8 := ⟨by decide +kernel, rfl⟩
theorem d_M_isWay_8 : Dj prog_14_method_84_code 8 (.ifCond .ne 26) 11 26 34 := ⟨by decide +kernel, rfl, rfl⟩
theorem d_M_isWay_11 : Dc prog_14_method_84_code 11 (.aload_n 0) 1 12 := ⟨by decide +kernel, rfl⟩
theorem d_M_isWay_12 : Dc prog_14_method_84_code 12 (.dup) 1 13 := ⟨by decide +kernel, rfl⟩
theorem d_M_isWay_13 : Dc prog_14_method_84_code 13 (.getfield 465) 3 16 := ⟨by decide +kernel, rfl⟩
theorem d_M_isWay_16 : Dc prog_14_method_84_code 16 (.iconst 1) 1 17 := ⟨by decide +kernel, rfl⟩
theorem d_M_isWay_17 : Dc prog_14_method_84_code 17 (.iadd) 1 18 := ⟨by decide +kernel, rfl⟩
theorem d_M_isWay_18 : Dc prog_14_method_84_code 18 (.putfield 465) 3 21 := ⟨by decide +kernel, rfl⟩
theorem d_M_isWay_21 : Dc prog_14_method_84_code 21 (.aload_n 0) 1 22 := ⟨by decide +kernel, rfl⟩
theorem d_M_isWay_22 : Dc prog_14_method_84_code 22 (.getfield 465) 3 25 := ⟨by decide +kernel, rfl⟩
theorem d_M_isWay_25 : Dj prog_14_method_84_code 25 (.ifCond .ne 7) 28 7 32 := ⟨by decide +kernel, rfl, rfl⟩
theorem d_M_isWay_28 : Dc prog_14_method_84_code 28 (.iconst 1) 1 29 := ⟨by decide +kernel, rfl⟩
theorem d_M_isWay_29 : Dj prog_14_method_84_code 29 (.goto 4) 32 4 33 := ⟨by decide +kernel, rfl, rfl⟩
theorem d_M_isWay_32 : Dc prog_14_method_84_code 32 (.iconst 0) 1 33 := ⟨by decide +kernel, rfl⟩
theorem d_M_isWay_33 : Dc prog_14_method_84_code 33 (.ireturn) 1 34 := ⟨by decide +kernel, rfl⟩
theorem d_M_isWay_34 : Dc prog_14_method_84_code 34 (.aload_n 0) 1 35 := ⟨by decide +kernel, rfl⟩
theorem d_M_isWay_35 : Dc prog_14_method_84_code 35 (.getfield 465) 3 38 := ⟨by decide +kernel, rfl⟩
theorem d_M_isWay_38 : Dc prog_14_method_84_code 38 (.iconst (-1)) 1 39 := ⟨by decide +kernel, rfl⟩
theorem d_M_isWay_39 : Dj prog_14_method_84_code 39 (.if_icmp .ne 15) 42 15 54 := ⟨by decide +kernel, rfl, rfl⟩
theorem d_M_isWay_42 : Dc prog_14_method_84_code 42 (.aload_n 0) 1 43 := ⟨by decide +kernel, rfl⟩
theorem d_M_isWay_43 : Dc prog_14_method_84_code 43 (.iconst 0) 1 44 := ⟨by decide +kernel, rfl⟩
theorem d_M_isWay_44 : Dc prog_14_method_84_code 44 (.putfield 465) 3 47 := ⟨by decide +kernel, rfl⟩
theorem d_M_isWay_47 : Dc prog_14_method_84_code 47 (.aload_n 0) 1 48 := ⟨by decide +kernel, rfl⟩
theorem d_M_isWay_48 : Dc prog_14_method_84_code 48 (.getfield 111) 3 51 := ⟨by decide +kernel, rfl⟩
theorem d_M_isWay_51 : Dc prog_14_method_84_code 51 (.iconst 0) 1 52 := ⟨by decide +kernel, rfl⟩
theorem d_M_isWay_52 : Dc prog_14_method_84_code 52 (.iconst (-1)) 1 53 := ⟨by decide +kernel, rfl⟩
theorem d_M_isWay_53 : Dc prog_14_method_84_code 53 (.iastore) 1 54 := ⟨by decide +kernel, rfl⟩
theorem d_M_isWay_193 : Dc prog_14_method_84_code 193 (.iconst 1) 1 194 := ⟨by decide +kernel, rfl⟩
theorem d_M_isWay_194 : Dc prog_14_method_84_code 194 (.ireturn) 1 195 := ⟨by decide +kernel, rfl⟩
theorem d_M_isWay_218 : Dc prog_14_method_84_code 218 (.iconst 0) 1 219 := ⟨by decide +kernel, rfl⟩
theorem d_M_isWay_219 : Dc prog_14_method_84_code 219 (.ireturn) 1 220 := ⟨by decide +kernel, rfl⟩
theorem go54_isWay {E : EV} {X : XT} {w : Mem} {g : GC} {K : Option Value → Mem → Prop} (hX : CX E X m_M_isWay.2.1 m_M_isWay.1.cls m_M_isWay.2.2.1) (hF : FX E X m_M_isWay.2.2.2 3 0 0 K) (hG : MG w g) (hW : WG g) (hLd : Laid w g) : ∀ (q : List Nat) (c : Nat) (wk : Mem), q.length < gV g → StP w wk g q (nI c - nI 1) → (∀ w2, StP w w2 g q (nI c) → G0 E X 0 0 74 [.ref 89, .int (nI (gV g))] [] w2) → G0 E X 0 0 54 [.ref 89, .int (nI (gV g))] [] wk := by
  have hgn := hW.n
  have hgv := hW.v
  rintro q c wk hql ⟨h1, h2, h3, h4⟩ hk
  refine g_aload0 hX d_M_isWay_54 ?_
  refine g_getI hX d_M_isWay_55 fl_M_465 (lv_89 _) ?_
  refine g_topi h2 ?_
  refine g_if_lt hX d_M_isWay_58 (fun h => absurd h (nI_pos (by omega))) (fun c0 => ?_)
  refine g_aload0 hX d_M_isWay_61 ?_
  refine g_getF hX d_M_isWay_62 fl_M_111 (lv_89 _) ?_
  refine g_aload0 hX d_M_isWay_65 ?_
  refine g_getI hX d_M_isWay_66 fl_M_465 (lv_89 _) ?_
  refine g_topi h2 ?_
  refine g_dup2 hX d_M_isWay_69 rfl rfl ?_
  refine g_iald hX d_M_isWay_70 (lv_113 _) rfl (by omega) ?_
  refine g_topi h4 ?_
  refine g_iconst (v := nI 1) hX d_M_isWay_71 rfl ?_
  refine g_iadd hX d_M_isWay_72 ?_
  refine g_topi (nI_sa c) ?_
  refine g_iast hX d_M_isWay_73 (lv_113 _) rfl (by omega) ?_
  exact hk _ ⟨h1.L, by rw [rI_sI_ne _ _ _ (by decide)]; exact h2, h3.L (Nat.le_refl _), by rw [rI_sI, upd_eq, if_pos rfl]⟩
theorem up_isWay {E : EV} {X : XT} {w : Mem} {g : GC} {K : Option Value → Mem → Prop} (hX : CX E X m_M_isWay.2.1 m_M_isWay.1.cls m_M_isWay.2.2.1) (hF : FX E X m_M_isWay.2.2.2 3 0 0 K) (hG : MG w g) (hW : WG g) (hLd : Laid w g) : ∀ (n r : Nat) (q : List Nat) (wk : Mem), q.length = n → n + r = gV g → (∀ x ∈ q, x < gN g) → FrI w wk → LieP wk q → rI wk 89 45 = nI n - nI 1 → (∀ (y : List Nat) (t : List (List Nat)) (w2 : Mem), FrI w w2 → remUp g r q.reverse = y :: t → LieP w2 y → rI w2 89 45 = nI (gV g - 1) → y.length = gV g → (∀ x ∈ y, x < gN g) → remUp g 0 y.reverse = t → G0 E X 0 0 193 [.ref 89, .int (nI (gV g))] [] w2) → (∀ w2 : Mem, FrI w w2 → remUp g r q.reverse = [] → rI w2 89 45 = nI 0 - nI 1 → G0 E X 0 0 54 [.ref 89, .int (nI (gV g))] [] w2) → G0 E X 0 0 54 [.ref 89, .int (nI (gV g))] [] wk := by
  intro n
  induction n with
  | zero =>
    intro r q wk hl hr hq h1 h2 h3 hf hb
    obtain rfl := List.eq_nil_of_length_eq_zero hl
    exact hb wk h1 rfl h3
  | succ n ih =>
    intro r q wk hl hr hq h1 h2 h3 hf hb
    have hne : q ≠ [] := fun z => by rw [z] at hl; simp at hl
    obtain ⟨p, m, rfl⟩ : ∃ p m, q = p ++ [m] := ⟨q.dropLast, q.getLast hne, (List.dropLast_concat_getLast hne).symm⟩
    rw [List.length_append, List.length_singleton] at hl
    have hm : m < gN g := hq m (by simp)
    have hp : ∀ x ∈ p, x < gN g := fun x hx => hq x (by simp [hx])
    obtain ⟨y1, y2⟩ := h2.init
    have e : remUp g r (p ++ [m]).reverse = remAt g r p (m + 1) ++ remUp g (r + 1) p.reverse := remUp_app g r p m
    refine go54_isWay hX hF hG hW hLd p (m + 1) wk (by omega) ⟨h1, ?_, y1, by rw [y2, m1_nI]⟩ (fun w2 hw2 => lev_isWay hX hF hG hW hLd r (gN g - (m + 1)) p (m + 1) w2 (by omega) (by omega) hp hw2 (fun y t w3 z1 z2 z3 z4 z5 z6 z7 => ?_) (fun w3 z1 z2 z3 z4 => ?_))
    · rw [h3, m1_nI]
      exact congrArg nI (by omega)
    · refine hf y (t ++ remUp g (r + 1) p.reverse) w3 z1 ?_ z3 z4 z5 z6 z7
      rw [e, z2]
      rfl
    · refine ih (r + 1) p w3 (by omega) (by omega) hp z1 z3 ?_ (fun y t w4 x1 x2 => hf y t w4 x1 ?_) (fun w4 x1 x2 => hb w4 x1 ?_)
      · rw [z4]
        exact congrArg (fun z => nI z - nI 1) (by omega)
      · rw [e, z2]; exact x2
      · rw [e, z2]; exact x2
theorem c_M_isWay {E : EV} {w : Mem} {g : GC} {ws : List (List Nat)} (hG : MG w g) (hW : WG g) (hLd : Laid w g) (hIt : ItW w g ws) : T E m_M_isWay 3 0 0 [.ref 89] w (fun r w2 => FrI w w2 ∧ WayP g ws r w2) := by
  refine T_of (L := [.ref 89, un]) cf_M_isWay rfl (Nat.le_of_ble_eq_true rfl) (fun X hX hF => ?_)
  have hgn := hW.n
  have hgv := hW.v
  by_cases hv0 : gV g = 0
  · rcases hIt with ⟨hd, hws⟩ | ⟨-, hd, hws⟩ | ⟨q, q1, -⟩
    · refine g_aload0 hX d_M_isWay_0 ?_
      refine g_getF hX d_M_isWay_1 fl_M_13 (lv_89 _) ?_
      refine g_iconst (v := nI 1) hX d_M_isWay_4 rfl ?_
      refine g_iald hX d_M_isWay_5 (lv_91 _) rfl (by decide) ?_
      refine g_topi hG.1.v ?_
      refine g_istore1 hX d_M_isWay_6 rfl (by decide) ?_
      refine g_iload1 hX d_M_isWay_7 ?_
      refine g_if_ne hX d_M_isWay_8 (fun h => absurd (by rw [hv0]; rfl) h) (fun c0 => ?_)
      refine g_aload0 hX d_M_isWay_11 ?_
      refine g_dup hX d_M_isWay_12 rfl ?_
      refine g_getI hX d_M_isWay_13 fl_M_465 (lv_89 _) ?_
      refine g_topi hd ?_
      refine g_iconst (v := nI 1) hX d_M_isWay_16 rfl ?_
      refine g_iadd hX d_M_isWay_17 ?_
      refine g_putI hX d_M_isWay_18 fl_M_465 (lv_89 _) ?_
      refine g_aload0 hX d_M_isWay_21 ?_
      refine g_getI hX d_M_isWay_22 fl_M_465 (lv_89 _) ?_
      refine g_topi (show rI (sI w 89 45 (-1 + nI 1)) 89 45 = nI 0 by rw [rI_sI, upd_eq, if_pos rfl]; decide) ?_
      refine g_if_ne hX d_M_isWay_25 (fun h => absurd rfl h) (fun c1 => ?_)
      refine g_iconst (v := nI 1) hX d_M_isWay_28 rfl ?_
      refine g_goto hX d_M_isWay_29 ?_
      refine g_zret hX hF d_M_isWay_33 (Or.inr rfl) (by omega) (by omega) ?_
      refine ⟨(FrI.rf w).D, ?_⟩
      rw [hws, show waysL g = [[]] by unfold waysL; rw [hv0]; rfl]
      exact ⟨rfl, by rw [hv0]; rfl, by simp, fun u hu => absurd hu (Nat.not_lt_zero _), Or.inr (Or.inl ⟨hv0, by rw [rI_sI, upd_eq, if_pos rfl]; decide, rfl⟩)⟩
    · refine g_aload0 hX d_M_isWay_0 ?_
      refine g_getF hX d_M_isWay_1 fl_M_13 (lv_89 _) ?_
      refine g_iconst (v := nI 1) hX d_M_isWay_4 rfl ?_
      refine g_iald hX d_M_isWay_5 (lv_91 _) rfl (by decide) ?_
      refine g_topi hG.1.v ?_
      refine g_istore1 hX d_M_isWay_6 rfl (by decide) ?_
      refine g_iload1 hX d_M_isWay_7 ?_
      refine g_if_ne hX d_M_isWay_8 (fun h => absurd (by rw [hv0]; rfl) h) (fun c0 => ?_)
      refine g_aload0 hX d_M_isWay_11 ?_
      refine g_dup hX d_M_isWay_12 rfl ?_
      refine g_getI hX d_M_isWay_13 fl_M_465 (lv_89 _) ?_
      refine g_topi hd ?_
      refine g_iconst (v := nI 1) hX d_M_isWay_16 rfl ?_
      refine g_iaddN hX d_M_isWay_17 ?_
      refine g_putI hX d_M_isWay_18 fl_M_465 (lv_89 _) ?_
      refine g_aload0 hX d_M_isWay_21 ?_
      refine g_getI hX d_M_isWay_22 fl_M_465 (lv_89 _) ?_
      refine g_topi (show rI (sI w 89 45 (nI (0 + 1))) 89 45 = nI (0 + 1) by rw [rI_sI, upd_eq, if_pos rfl]) ?_
      refine g_if_ne hX d_M_isWay_25 (fun c1 => ?_) (fun h => absurd h (by decide))
      refine g_iconst (v := nI 0) hX d_M_isWay_32 rfl ?_
      refine g_zret hX hF d_M_isWay_33 (Or.inl rfl) (by omega) (by omega) ?_
      refine ⟨(FrI.rf w).D, ?_⟩
      rw [hws]
      exact rfl
    · omega
  · have k193 : ∀ (y : List Nat) (t : List (List Nat)) (w2 : Mem), FrI w w2 → ws = y :: t → LieP w2 y → rI w2 89 45 = nI (gV g - 1) → y.length = gV g → (∀ x ∈ y, x < gN g) → remUp g 0 y.reverse = t → G0 E X 0 0 193 [.ref 89, .int (nI (gV g))] [] w2 := by
      intro y t w2 r1 r2 r3 r4 r5 r6 r7
      refine g_iconst (v := nI 1) hX d_M_isWay_193 rfl ?_
      refine g_zret hX hF d_M_isWay_194 (Or.inr rfl) (by omega) (by omega) ?_
      refine ⟨r1, ?_⟩
      rw [r2]
      exact ⟨rfl, r5, r6, r3, Or.inr (Or.inr ⟨y, by omega, r5, r6, r3, r4, r7.symm⟩)⟩
    have kend : ∀ w2 : Mem, FrI w w2 → ws = [] → rI w2 89 45 = nI 0 - nI 1 → G0 E X 0 0 54 [.ref 89, .int (nI (gV g))] [] w2 := by
      intro w2 r1 r2 r3
      refine g_aload0 hX d_M_isWay_54 ?_
      refine g_getI hX d_M_isWay_55 fl_M_465 (lv_89 _) ?_
      refine g_topi r3 ?_
      refine g_if_lt hX d_M_isWay_58 (fun c0 => ?_) (fun h => absurd (by decide) h)
      refine g_iconst (v := nI 0) hX d_M_isWay_218 rfl ?_
      refine g_zret hX hF d_M_isWay_219 (Or.inl rfl) (by omega) (by omega) ?_
      refine ⟨r1, ?_⟩
      rw [r2]
      exact rfl
    rcases hIt with ⟨hd, hws⟩ | ⟨q1, -, -⟩ | ⟨q, q1, ql, qn, qL, hd, hws⟩
    · refine g_aload0 hX d_M_isWay_0 ?_
      refine g_getF hX d_M_isWay_1 fl_M_13 (lv_89 _) ?_
      refine g_iconst (v := nI 1) hX d_M_isWay_4 rfl ?_
      refine g_iald hX d_M_isWay_5 (lv_91 _) rfl (by decide) ?_
      refine g_topi hG.1.v ?_
      refine g_istore1 hX d_M_isWay_6 rfl (by decide) ?_
      refine g_iload1 hX d_M_isWay_7 ?_
      refine g_if_ne hX d_M_isWay_8 (fun c0 => ?_) (fun h => absurd h (fun z => hv0 (nI_inj (by omega) (by decide) z)))
      refine g_aload0 hX d_M_isWay_34 ?_
      refine g_getI hX d_M_isWay_35 fl_M_465 (lv_89 _) ?_
      refine g_topi hd ?_
      refine g_iconst (v := -1) hX d_M_isWay_38 rfl ?_
      refine g_icmp_ne hX d_M_isWay_39 (fun h => absurd rfl h) (fun c1 => ?_)
      refine g_aload0 hX d_M_isWay_42 ?_
      refine g_iconst (v := nI 0) hX d_M_isWay_43 rfl ?_
      refine g_putI hX d_M_isWay_44 fl_M_465 (lv_89 _) ?_
      refine g_aload0 hX d_M_isWay_47 ?_
      refine g_getF hX d_M_isWay_48 fl_M_111 (lv_89 _) ?_
      refine g_iconst (v := nI 0) hX d_M_isWay_51 rfl ?_
      refine g_iconst (v := -1) hX d_M_isWay_52 rfl ?_
      refine g_iast hX d_M_isWay_53 (lv_113 _) rfl (by decide) ?_
      refine go54_isWay hX hF hG hW hLd [] 0 _ (by show 0 < gV g; omega) ⟨(FrI.rf w).D.L, by rw [rI_sI_ne _ _ _ (by decide), rI_sI, upd_eq, if_pos rfl]; rfl, fun u hu => absurd hu (Nat.not_lt_zero _), by show rI (sI _ 113 0 _) 113 0 = _; rw [rI_sI, upd_eq, if_pos rfl]; decide⟩ (fun w2 hw2 => ?_)
      have e0 : ws = remAt g (gV g - 1) [] 0 := by
        rw [hws, ← remAt_0, show gV g - 1 + 1 = gV g by omega]
        rfl
      refine lev_isWay hX hF hG hW hLd (gV g - 1) (gN g) [] 0 w2 (by omega) (by show 0 + (gV g - 1) + 1 = gV g; omega) (by simp) hw2 (fun y t w3 z1 z2 z3 z4 z5 z6 z7 => k193 y t w3 z1 (e0.trans z2) z3 z4 z5 z6 ?_) (fun w3 z1 z2 z3 z4 => kend w3 z1 (e0.trans z2) z4)
      rw [z7]; exact List.append_nil t
    · exact absurd q1 hv0
    · refine g_aload0 hX d_M_isWay_0 ?_
      refine g_getF hX d_M_isWay_1 fl_M_13 (lv_89 _) ?_
      refine g_iconst (v := nI 1) hX d_M_isWay_4 rfl ?_
      refine g_iald hX d_M_isWay_5 (lv_91 _) rfl (by decide) ?_
      refine g_topi hG.1.v ?_
      refine g_istore1 hX d_M_isWay_6 rfl (by decide) ?_
      refine g_iload1 hX d_M_isWay_7 ?_
      refine g_if_ne hX d_M_isWay_8 (fun c0 => ?_) (fun h => absurd h (fun z => hv0 (nI_inj (by omega) (by decide) z)))
      refine g_aload0 hX d_M_isWay_34 ?_
      refine g_getI hX d_M_isWay_35 fl_M_465 (lv_89 _) ?_
      refine g_topi hd ?_
      refine g_iconst (v := -1) hX d_M_isWay_38 rfl ?_
      refine g_icmp_ne hX d_M_isWay_39 (fun c1 => ?_) (fun h => absurd h (nI_m1 (by omega)))
      exact up_isWay hX hF hG hW hLd (gV g) 0 q w ql (by omega) qn (FrI.rf w) qL (by rw [hd]; exact (m1_nI (gV g - 1)).symm.trans (congrArg (fun z => nI z - nI 1) (by omega))) (fun y t w2 z1 z2 z3 z4 z5 z6 z7 => k193 y t w2 z1 (hws.trans z2) z3 z4 z5 z6 z7) (fun w2 z1 z2 z3 => kend w2 z1 (hws.trans z2) z3)
