def m_D_law : MR := (⟨"SubgraphDesk", "law", "()I"⟩, prog_1_method_17_code, 1, (some .int))
theorem cf_D_law : CF m_D_law 0 := ⟨gd 771 (by decide +kernel) rfl, gd 139 (by decide +kernel) rfl, by decide +kernel, by decide, by decide +kernel⟩
theorem cv_D_law : CV m_D_law := ⟨gd 769 (by decide +kernel) rfl, gd 770 (by decide +kernel) rfl⟩
theorem d_D_law_0 : Dc prog_1_method_17_code 0 (.aload_n 0) 1 1 := ⟨by decide +kernel, rfl⟩
theorem d_D_law_1 : Dc prog_1_method_17_code 1 (.getfield 10) 3 4 := ⟨by decide +kernel, rfl⟩
theorem d_D_law_4 : Dc prog_1_method_17_code 4 (.getfield 195) 3 7 := ⟨by decide +kernel, rfl⟩
theorem d_D_law_7 : Dc prog_1_method_17_code 7 (.bipush 6) 2 9 := ⟨by decide +kernel, rfl⟩
theorem d_D_law_9 : Dj prog_1_method_17_code 9 (.if_icmp .lt 21) 12 21 30 := ⟨by decide +kernel, rfl, rfl⟩
theorem d_D_law_12 : Dc prog_1_method_17_code 12 (.aload_n 0) 1 13 := ⟨by decide +kernel, rfl⟩
theorem d_D_law_13 : Dc prog_1_method_17_code 13 (.getfield 33) 3 16 := ⟨by decide +kernel, rfl⟩
theorem d_D_law_16 : Dc prog_1_method_17_code 16 (.getfield 168) 3 19 := ⟨by decide +kernel, rfl⟩
theorem d_D_law_19 : Dc prog_1_method_17_code 19 (.iconst 0) 1 20 := ⟨by decide +kernel, rfl⟩
theorem d_D_law_20 : Dc prog_1_method_17_code 20 (.putfield 172) 3 23 := ⟨by decide +kernel, rfl⟩
theorem d_D_law_23 : Dc prog_1_method_17_code 23 (.aload_n 0) 1 24 := ⟨by decide +kernel, rfl⟩
theorem d_D_law_24 : Dc prog_1_method_17_code 24 (.bipush (-5)) 2 26 := ⟨by decide +kernel, rfl⟩
theorem d_D_law_26 : Dc prog_1_method_17_code 26 (.invokevirtual 91) 3 29 := ⟨by decide +kernel, rfl⟩
theorem d_D_law_29 : Dc prog_1_method_17_code 29 (.ireturn) 1 30 := ⟨by decide +kernel, rfl⟩
theorem d_D_law_30 : Dc prog_1_method_17_code 30 (.aload_n 0) 1 31 := ⟨by decide +kernel, rfl⟩
theorem d_D_law_31 : Dc prog_1_method_17_code 31 (.getfield 33) 3 34 := ⟨by decide +kernel, rfl⟩
theorem d_D_law_34 : Dc prog_1_method_17_code 34 (.iconst 0) 1 35 := ⟨by decide +kernel, rfl⟩
theorem d_D_law_35 : Dc prog_1_method_17_code 35 (.invokevirtual 198) 3 38 := ⟨by decide +kernel, rfl⟩
theorem d_D_law_38 : Dj prog_1_method_17_code 38 (.ifCond .ne 10) 41 10 48 := ⟨by decide +kernel, rfl, rfl⟩
theorem d_D_law_41 : Dc prog_1_method_17_code 41 (.aload_n 0) 1 42 := ⟨by decide +kernel, rfl⟩
theorem d_D_law_42 : Dc prog_1_method_17_code 42 (.bipush (-6)) 2 44 := ⟨by decide +kernel, rfl⟩
theorem d_D_law_44 : Dc prog_1_method_17_code 44 (.invokevirtual 91) 3 47 := ⟨by decide +kernel, rfl⟩
theorem d_D_law_47 : Dc prog_1_method_17_code 47 (.ireturn) 1 48 := ⟨by decide +kernel, rfl⟩
theorem d_D_law_48 : Dc prog_1_method_17_code 48 (.aload_n 0) 1 49 := ⟨by decide +kernel, rfl⟩
theorem d_D_law_49 : Dc prog_1_method_17_code 49 (.aload_n 0) 1 50 := ⟨by decide +kernel, rfl⟩
theorem d_D_law_50 : Dc prog_1_method_17_code 50 (.getfield 10) 3 53 := ⟨by decide +kernel, rfl⟩
theorem d_D_law_53 : Dc prog_1_method_17_code 53 (.aload_n 0) 1 54 := ⟨by decide +kernel, rfl⟩
theorem d_D_law_54 : Dc prog_1_method_17_code 54 (.getfield 33) 3 57 := ⟨by decide +kernel, rfl⟩
theorem d_D_law_57 : Dc prog_1_method_17_code 57 (.getfield 202) 3 60 := ⟨by decide +kernel, rfl⟩
theorem d_D_law_60 : Dc prog_1_method_17_code 60 (.invokevirtual 206) 3 63 := ⟨by decide +kernel, rfl⟩
theorem d_D_law_63 : Dc prog_1_method_17_code 63 (.invokevirtual 211) 3 66 := ⟨by decide +kernel, rfl⟩
theorem d_D_law_66 : Dc prog_1_method_17_code 66 (.invokevirtual 95) 3 69 := ⟨by decide +kernel, rfl⟩
theorem d_D_law_69 : Dc prog_1_method_17_code 69 (.ireturn) 1 70 := ⟨by decide +kernel, rfl⟩
theorem ml_D_206 : Cond.methodLink "SubgraphDesk" 206 m_Pr_trimmed.1 ∈ lw_gd := gd 981 (by decide +kernel) rfl
theorem ml_D_211 : Cond.methodLink "SubgraphDesk" 211 m_Bo_addLaw.1 ∈ lw_gd := gd 990 (by decide +kernel) rfl
theorem PrO.grw {w w2 : Mem} {p tt cc nt nc : Nat} (h : PrO w p tt cc nt nc) (g : Grw w w2) : PrO w2 p tt cc nt nc := by
  have hr := (g.1 p h.1.1).2.2.2
  exact ⟨g.lv h.1, by rw [hr]; exact h.2.1, by rw [hr]; exact h.2.2.1, g.lv h.2.2.2.1, g.lv h.2.2.2.2⟩
theorem PrgL.grw {w w2 : Mem} {p : Nat} {q : LawT} (h : PrgL w p q) (g : Grw w w2) : PrgL w2 p q := by
  obtain ⟨h0, h1, tt, cc, c, h2, h3, h4, h5, h6, h7, h8, h9, h10⟩ := h
  have ep := (g.1 p h4.1.1).2.2.1
  have et := (g.1 tt h4.2.2.2.1.1).2.2.1
  have ec := (g.1 cc h4.2.2.2.2.1).2.2.1
  exact ⟨h0, h1, tt, cc, c, h2, h3, h4.grw g, by rw [ep]; exact h5, by rw [ep]; exact h6, h7, h8, by rw [ec]; exact h9, by rw [et]; exact h10⟩
theorem BLaws.grw {w w2 : Mem} {b : Nat} {ls : List LawT} (h : BLaws w b ls) (hb : b < 100) (g : Grw w w2) : BLaws w2 b ls := fun i q hq => by
  obtain ⟨p, h1, h2⟩ := h i q hq
  exact ⟨p, by rw [(g.st (a := b + 8) (by omega)).2]; exact h1, h2.grw g⟩
theorem TxtOK.grw {w w2 : Mem} {b : Nat} (h : TxtOK w b) (hb : b < 100) (g : Grw w w2) : TxtOK w2 b := fun i hi r hr => by
  rw [(g.st (a := b + 8) (by omega)).2] at hr
  exact g.lv (h i hi r hr)
/-- new cells: the desk stands as it did -/
theorem DInv.grw {w w2 : Mem} {s : SG} (h : DInv w s) (g : Grw w w2) : DInv w2 s := by
  have e : ∀ a, a < 128 → rI w2 a = rI w a := fun a ha => (g.st ha).1
  have er : ∀ a, a < 128 → rR w2 a = rR w a := fun a ha => (g.st ha).2
  obtain ⟨h1, h2, h3, h4, h5, h6, h7, h8⟩ := h
  refine ⟨h1.fr (fun a ha => e a (by omega)), h2.grw (by decide) g, h3.fr (by rw [e 26 (by decide)]) (e 27 (by decide)), fun k hk => ?_, h5.fr (e 70 (by decide)) (by rw [e 0 (by decide)]), ?_, h7.fr (fun a h1 h2 => e a (by omega)), ?_⟩
  · obtain ⟨g1, g2⟩ := h4 k hk
    refine ⟨by rw [e _ (by omega)]; exact g1, fun gg hg => ?_⟩
    obtain ⟨k1, k2, k3⟩ := g2 gg hg
    exact ⟨k1.fr (fun a h1 h2 => e a (by omega)), k2, k3.grw (by omega) g⟩
  · rw [e 0 (by decide), e 25 (by decide), e 53 (by decide)]
    exact h6
  · obtain ⟨k1, k2, k3, k4, k5, k6, k7, k8⟩ := h8
    refine ⟨by unfold Dra; rw [er 28 (by decide)]; exact k1, by rw [er 10 (by decide)]; exact k2, by rw [er 10 (by decide)]; exact k3, k4.grw (by decide) g, k5.grw (by decide) g, k6.grw (by decide) g, k7.grw (by decide) g, k8.grw (by decide) g⟩
theorem Grw.D {w w2 : Mem} (g : Grw w w2) : DkD w w2 := ⟨fun a _ h => (g.st h).1, fun a _ _ => by unfold rJ; rw [g.2]⟩
/-- one law more -/
theorem DInv.addL {w : Mem} {s : SG} {p : Nat} {q : LawT} (h : DInv w s) (hl : (gL (sG s)).length < 6) (hp : PrgL w p q) (hv : Lv w p (1, 6)) : DInv (sI (sR w 9 (gL (sG s)).length (some p)) 1 11 (nI ((gL (sG s)).length + 1))) (wG s (gAddL (sG s) q)) := by
  obtain ⟨w2, hw⟩ : ∃ w2, sI (sR w 9 (gL (sG s)).length (some p)) 1 11 (nI ((gL (sG s)).length + 1)) = w2 := ⟨_, rfl⟩
  rw [hw]
  have e : ∀ a, a ≠ 1 → rI w2 a = rI w a := fun a ha => by rw [← hw, rI_sI_ne _ _ _ ha]; rfl
  have e1 : ∀ k, k ≠ 11 → rI w2 1 k = rI w 1 k := fun k hk => by rw [← hw, rI_sI, upd_eq, if_neg hk]; rfl
  have e11 : rI w2 1 11 = nI ((gL (sG s)).length + 1) := by rw [← hw, rI_sI, upd_eq, if_pos rfl]
  have er : ∀ a, a ≠ 9 → rR w2 a = rR w a := fun a ha => by rw [← hw]; show rR (sR w 9 _ _) a = _; rw [rR_sR_ne _ _ _ ha]
  have er9 : rR w2 9 = va_up (rR w 9) (gL (sG s)).length (some p) := by rw [← hw]; show rR (sR w 9 _ _) 9 = _; rw [rR_sR]
  have el : w2.2.2.2 = w.2.2.2 := by rw [← hw]; rfl
  have hP : ∀ {p : Nat} {q : LawT}, PrgL w p q → PrgL w2 p q := fun hp => hp.fr2 (fun a ha => e a (by omega)) (fun a ha => er a (by omega)) el
  have hlaw : (gL (gAddL (sG s) q)).length = (gL (sG s)).length + 1 := by show (gL (sG s) ++ [q]).length = _; rw [List.length_append, List.length_singleton]
  obtain ⟨⟨b1, b2, b3⟩, h2, h3, h4, h5, h6, h7, h8⟩ := h
  refine ⟨⟨?_, b2.addL hl, ?_⟩, ?_, h3.fr (by rw [e 26 (by decide)]) (e 27 (by decide)), fun k hk => ?_, h5.fr (e 70 (by decide)) (by rw [e 0 (by decide)]), ?_, h7.fr (fun a h1 h2 => e a (by omega)), ?_⟩
  · obtain ⟨a1, a2, a3, a4, a5, a6, a7, a8, a9, a10, a11, a12, a13⟩ := b1
    refine ⟨?_, ?_, ?_, ?_, ?_, ?_, ?_, ?_, ?_, ?_, ?_, ?_, ?_⟩
    · rw [e1 0 (by decide)]; exact a1
    · rw [e1 3 (by decide)]; exact a2
    · rw [e1 5 (by decide)]; exact a3
    · rw [e1 8 (by decide)]; exact a4
    · show rI w2 1 11 = nI (gL (gAddL (sG s) q)).length
      rw [hlaw]; exact e11
    · rw [e1 12 (by decide)]; exact a6
    · rw [e 2 (by decide)]; exact a7
    · rw [e 3 (by decide)]; exact a8
    · rw [e 4 (by decide)]; exact a9
    · rw [e 5 (by decide)]; exact a10
    · rw [e 6 (by decide)]; exact a11
    · rw [e 7 (by decide)]; exact a12
    · rw [e 8 (by decide)]; exact a13
  · have b4 := b3.fr (w2 := w2) (fun o h1 h2 => e o (by omega))
    refine ⟨b4.1, b4.2.1, fun k x hx => ?_⟩
    obtain ⟨c1, c2, c3, c4⟩ := b4.2.2 k x hx
    exact ⟨c1, c2, c3, WG.addL (g := unsnap (sG s) x.2) c4 hl⟩
  · show BLaws w2 1 (gL (sG s) ++ [q])
    intro i x hx
    by_cases hi : i < (gL (sG s)).length
    · rw [List.getElem?_append_left hi] at hx
      obtain ⟨p1, g1, g2⟩ := h2 i x hx
      refine ⟨p1, ?_, hP g2⟩
      show rR w2 9 i = _
      rw [er9]
      unfold va_up
      rw [if_neg (by omega)]
      exact g1
    · have hi2 : i = (gL (sG s)).length := by
        have h9 := (List.getElem?_eq_some_iff.mp hx).1
        rw [List.length_append, List.length_singleton] at h9
        omega
      subst hi2
      rw [List.getElem?_append_right (Nat.le_refl _), Nat.sub_self] at hx
      obtain rfl : q = x := Option.some.inj hx
      refine ⟨p, ?_, hP hp⟩
      show rR w2 9 _ = _
      rw [er9, va_up_self]
  · obtain ⟨g1, g2⟩ := h4 k hk
    refine ⟨by rw [e _ (by omega)]; exact g1, fun gg hg => ?_⟩
    obtain ⟨k1, k2, k3⟩ := g2 gg hg
    refine ⟨k1.fr (fun a h1 h2 => e a (by omega)), k2, fun i x hx => ?_⟩
    obtain ⟨p1, g3, g4⟩ := k3 i x hx
    exact ⟨p1, by rw [er _ (by omega)]; exact g3, hP g4⟩
  · rw [e 0 (by decide), e 25 (by decide), e 53 (by decide)]
    exact h6
  · have hT : ∀ b, b + 8 ≠ 9 → TxtOK w b → TxtOK w2 b := fun b hb ht i hi r hr => by
      rw [er _ hb] at hr
      exact (ht i hi r hr).fr el
    obtain ⟨k1, k2, k3, k4, k5, k6, k7, k8⟩ := h8
    refine ⟨by unfold Dra; rw [er 28 (by decide)]; exact k1, by rw [er 10 (by decide)]; exact k2, by rw [er 10 (by decide)]; exact k3, fun i hi r hr => ?_, hT 11 (by decide) k5, hT 54 (by decide) k6, hT 71 (by decide) k7, hT 80 (by decide) k8⟩
    have hr : rR w2 9 i = some r := hr
    rw [er9] at hr
    unfold va_up at hr
    by_cases hi2 : i = (gL (sG s)).length
    · rw [if_pos hi2] at hr
      obtain rfl := Option.some.inj hr
      exact hv.fr el
    · rw [if_neg hi2] at hr
      exact (k4 i hi r hr).fr el
theorem LtQ.rv {w w2 : Mem} {t : List Nat} {r : Option Value} (h : LtQ w w2 t r) : r = some (.int (b2i (okZ (lawT t) = true))) := by
  obtain ⟨-, -, -, h⟩ := h
  cases hx : lawT t with
  | inl e => rw [hx] at h; rw [h.1, b2i_f (show ¬ (okZ (.inl e : Nat ⊕ List ClT) = true) from fun z => by cases z)]; rfl
  | inr y => rw [hx] at h; rw [h.1, b2i_t (show okZ (.inr y : Nat ⊕ List ClT) = true from rfl)]; rfl
/-- the copy is a law -/
theorem TrQ.law {w w2 : Mem} {r : Option Value} {cls : List ClT} {c : List (Nat × Nat)} (h : TrQ w w2 r cls.length c.length) (h12 : cls.length ≤ 12) (hc : CdOK c) (h6 : ∀ j, j < c.length → cO c j = 6 → cA c j = 0) (hd : DrK w c) (hx : ∀ (k : Nat) (x : ClT), cls[k]? = some x → DCl (rI w 29) c k x) : ∃ pp : Nat, r = some (.ref pp) ∧ PrgL w2 pp cls ∧ Lv w2 pp (1, 6) := by
  obtain ⟨pp, tt, cc, hr, hg, hO, hp9, ht9, hc9, k0, k1, k2, k3⟩ := h
  refine ⟨pp, hr, ⟨by omega, h12, tt, cc, c, by omega, by omega, hO, k0, k1, hc, h6, fun j hj => ?_, fun k x hk => ?_⟩, hO.1⟩
  · rw [k3 j hj]
    exact hd.2.2 j hj
  · have hkl := (List.getElem?_eq_some_iff.mp hk).1
    exact (hx k x hk).keep ⟨[], (List.append_nil c).symm⟩ (fun j hj => k2 j (by omega))
theorem c_D_law {E : EV} {w : Mem} {s : SG} (h : DInv w s) : T E m_D_law 90 3 356 [.ref 0] w (fun r w2 => r = some (.int (opLaw s).1) ∧ DInv w2 (opLaw s).2 ∧ DkD w w2) := by
  refine T_of (L := [.ref 0]) cf_D_law rfl (Nat.le_of_ble_eq_true rfl) (fun X hX hF => ?_)
  have hll := h.wg.ll
  refine g_aload0 hX d_D_law_0 ?_
  refine g_getF hX d_D_law_1 fl_D_10 (lv_0 _) ?_
  refine g_getI hX d_D_law_4 fl_D_195 (lv_1 _) ?_
  refine g_topi h.b.ll ?_
  refine g_bipush (v := nI 6) hX d_D_law_7 rfl ?_
  refine g_icmpN_lt hX d_D_law_9 (by omega) (by omega) (fun e9 => ?_) (fun e9 => ?_)
  · have hl6 : ¬ (gL (sG s)).length = 6 := by omega
    refine g_aload0 hX d_D_law_30 ?_
    refine g_getF hX d_D_law_31 fl_D_33 (lv_0 _) ?_
    refine g_iconst (v := nI 0) hX d_D_law_34 rfl ?_
    refine g_callV (As := [_]) hX hF.1 d_D_law_35 ml_D_198 cf_Re_readText cv_Re_readText rfl rfl (c_Re_readText0 h.t h.fx.1) (rcv_obj hX (lv_25 _) rfl rfl) (by omega) (by omega) (by omega) (Nat.le_of_ble_eq_true rfl) ?_
    rintro r2 w2 hQ
    obtain rfl := hQ.rv
    obtain ⟨q1, q2, q3, q4⟩ := id hQ
    obtain ⟨x, hx⟩ : ∃ x, lawT (sTp s) = x := ⟨_, rfl⟩
    have hD2 : DkD w w2 := ⟨fun a h1 h2 => q1 a (by omega) (by omega) (by omega) (by omega) (by omega), fun a h1 h2 => by unfold rJ; rw [q3]⟩
    rw [hx] at q4 ⊢
    show G0 _ _ _ _ _ _ _ _
    refine g_ifB_ne hX d_D_law_38 (fun e38 => ?_) (fun e38 => ?_)
    · obtain ⟨cls, rfl⟩ := okZ_t e38
      obtain ⟨-, q5, q6, c, q7, q8, q9, q10, q11⟩ := q4
      have h2 := h.txt q1 q2 q3 q5
      refine g_aload0 hX d_D_law_48 ?_
      refine g_aload0 hX d_D_law_49 ?_
      refine g_getF hX d_D_law_50 fl_D_10 (lv_0 _) ?_
      refine g_aload0 hX d_D_law_53 ?_
      refine g_getF hX d_D_law_54 fl_D_33 (lv_0 _) ?_
      refine g_getF hX d_D_law_57 fl_D_202 (lv_25 _) ?_
      refine g_callV (As := []) hX hF.1 d_D_law_60 ml_D_206 cf_Pr_trimmed cv_Pr_trimmed rfl rfl (c_Pr_trimmed (m := cls.length) (k := c.length) q9.1 q10 q9.2.1 q6 q7.1) (rcv_obj hX (lv_28 _) rfl rfl) (by omega) (by omega) (by omega) (Nat.le_of_ble_eq_true rfl) ?_
      rintro r3 w3 hQ3
      obtain ⟨pp, rfl, hpl, hpv⟩ := hQ3.law q6 q7 q8 q9 q11
      have hG3 : Grw w2 w3 := by
        obtain ⟨-, -, -, -, z, -⟩ := hQ3
        exact z
      have h3 := h2.grw hG3
      have hD3 := hD2.tr hG3.D
      show G0 _ _ _ _ _ _ [.ref pp, .ref 1, .ref 0] _
      refine g_callV (As := [_]) hX hF.1 d_D_law_63 ml_D_211 cf_Bo_addLaw cv_Bo_addLaw rfl rfl (c_Bo_addLaw (m := (gL (sG s)).length) (show rI w3 1 11 = nI (gL (sG s)).length from h3.b.ll) e9 hpv) (rcv_obj hX (lv_1 _) rfl rfl) (by omega) (by omega) (by omega) (Nat.le_of_ble_eq_true rfl) ?_
      have h4 := h3.addL e9 hpl hpv
      obtain ⟨w4, hw4⟩ : ∃ w4, sI (sR w3 9 (gL (sG s)).length (some pp)) 1 11 (nI ((gL (sG s)).length + 1)) = w4 := ⟨_, rfl⟩
      have h4 : DInv w4 (wG (wFa (wTp s []) (-1)) (gAddL (sG s) cls)) := by rw [← hw4]; exact h4
      have hD4 : DkD w w4 := hD3.tr ⟨fun a h1 h2 => by rw [← hw4, rI_sI_ne _ _ _ (by omega)]; rfl, fun a h1 h2 => by rw [← hw4]; rfl⟩
      rintro _ _ ⟨rfl, rfl⟩
      rw [hw4]
      show G0 _ _ _ _ _ _ [.int (nI (gL (sG s)).length), .ref 0] _
      refine g_callV (As := [_]) hX hF.1 d_D_law_66 ml_D_95 cf_D_grant cv_D_grant rfl rfl (c_D_grant (y := nI (gL (sG s)).length) h4.rf) (rcv_obj hX (lv_0 _) rfl rfl) (by omega) (by omega) (by omega) (Nat.le_of_ble_eq_true rfl) ?_
      rintro _ w9 ⟨rfl, hF9, hf9⟩
      show G0 _ _ _ _ _ _ _ _
      refine g_iret hX hF d_D_law_69 (by omega) (by omega) ?_
      unfold opLaw
      rw [if_neg hl6, hx]
      exact ⟨rfl, h4.n (h4.g.fr (fun a ha => hf9.1 a (by omega) (by omega))) rfl hf9.N hF9, hD4.tr hf9.N.D⟩
    · obtain ⟨e, rfl⟩ := okZ_f e38
      have h2 := h.txt q1 q2 q3 q4.2
      refine g_aload0 hX d_D_law_41 ?_
      refine g_bipush (v := -6) hX d_D_law_42 rfl ?_
      refine g_callV (As := [_]) hX hF.1 d_D_law_44 ml_D_91 cf_D_refuse cv_D_refuse rfl rfl (c_D_refuse6 h2.rf) (rcv_obj hX (lv_0 _) rfl rfl) (by omega) (by omega) (by omega) (Nat.le_of_ble_eq_true rfl) ?_
      rintro _ w9 ⟨rfl, hF9, hf9⟩
      show G0 _ _ _ _ _ _ _ _
      refine g_iret hX hF d_D_law_47 (by omega) (by omega) ?_
      unfold opLaw
      rw [if_neg hl6, hx]
      exact ⟨rfl, h2.no hf9 hF9, hD2.tr hf9.N.D⟩
  · have hl6 : (gL (sG s)).length = 6 := by omega
    have h1 : DInv (sI w 26 1 (nI 0)) (wTp s []) := h.tp (h.t.take (Nat.zero_le _)) (FrTp.len _ _)
    refine g_aload0 hX d_D_law_12 ?_
    refine g_getF hX d_D_law_13 fl_D_33 (lv_0 _) ?_
    refine g_getF hX d_D_law_16 fl_D_168 (lv_25 _) ?_
    refine g_iconst (v := nI 0) hX d_D_law_19 rfl ?_
    refine g_putI hX d_D_law_20 fl_D_172 (lv_26 _) ?_
    refine g_aload0 hX d_D_law_23 ?_
    refine g_bipush (v := -5) hX d_D_law_24 rfl ?_
    refine g_callV (As := [_]) hX hF.1 d_D_law_26 ml_D_91 cf_D_refuse cv_D_refuse rfl rfl (c_D_refuse5 h1.rf) (rcv_obj hX (lv_0 _) rfl rfl) (by omega) (by omega) (by omega) (Nat.le_of_ble_eq_true rfl) ?_
    rintro _ w9 ⟨rfl, hF9, hf9⟩
    show G0 _ _ _ _ _ _ _ _
    refine g_iret hX hF d_D_law_29 (by omega) (by omega) ?_
    unfold opLaw
    rw [if_pos hl6]
    exact ⟨rfl, h1.no hf9 hF9, (FrTp.len w (nI 0)).Dk.tr hf9.N.D⟩
