theorem d_Re_readText_44 : Dc prog_8_method_3_code 44 (.aload_n 0) 1 45 := ⟨by decide +kernel, rfl⟩
theorem d_Re_readText_45 : Dc prog_8_method_3_code 45 (.invokevirtual 47) 3 48 := ⟨by decide +kernel, rfl⟩
theorem d_Re_readText_48 : Dj prog_8_method_3_code 48 (.goto 7) 51 7 55 := ⟨by decide +kernel, rfl, rfl⟩
theorem ml_Re_47 : Cond.methodLink "SubgraphDesk$Reader" 47 m_Re_readOrder.1 ∈ lw_gd := gd 792 (by decide +kernel) rfl
/-- what holds of the orders read so far -/
def OwI (w wk : Mem) (t : List Nat) (f p : Nat) (c : List (Nat × Nat)) (cls : List OcT) : Prop := FrRt w wk ∧ rI wk 25 4 = rI w 25 4 ∧ RdI wk t true f p c ∧ rI wk 28 0 = nI cls.length ∧ OkX true c 0 ∧ ∀ (k : Nat) (x : OcT), cls[k]? = some x → DOr (rI wk 29) c k x
theorem OwI.cl {w wk w1 w2 : Mem} {t : List Nat} {f p : Nat} {c : List (Nat × Nat)} {cls : List OcT} {r2 : Option Value} {y : Nat × Nat × Nat × Den × Den × Nat} {z : Nat × Nat × Option Den} (h : OwI w wk t f p c cls) {c1 : List (Nat × Nat)} (b1 : FrRt wk w1) (b2 : rI w1 25 4 = rI wk 25 4) (b3 : rI w1 28 0 = nI (cls.length + 1)) (b15 : ∀ j, j < 8 * cls.length → rI w1 29 j = rI wk 29 j) (hc : OrC w1 t c cls.length y c1) (h2 : CoQ w1 w2 t true c1 cls.length (.inr z) r2) : ∃ c2, OwI w w2 t z.1 z.2.1 c2 (cls ++ [(y.2.2.1, y.2.2.2.1, y.2.2.2.2.1, y.2.2.2.2.2, z.2.2)]) := by
  obtain ⟨a1, a2, a3, a4, a5, a6⟩ := h
  obtain ⟨⟨s, hs⟩, b5, b6, b7, b8, b9, b10, a, b, a', b', e1, e2, e3, e4, e5, e6, e7, e8, e9, e10, b13, b14⟩ := hc
  obtain ⟨d1, -, d2, d3, d4⟩ := h2
  have hok1 : OkX true c1 0 := by rw [hs] at b6 ⊢; exact a5.app b6
  have hlen : (cls ++ [(y.2.2.1, y.2.2.2.1, y.2.2.2.2.1, y.2.2.2.2.2, z.2.2)]).length = cls.length + 1 := by rw [List.length_append, List.length_singleton]
  have key : ∀ (c2 : List (Nat × Nat)), (∃ s, c2 = c1 ++ s) → RdI w2 t true z.1 z.2.1 c2 → OkX true c2 0 → (∀ j, j ≠ 8 * cls.length + 5 → j ≠ 8 * cls.length + (5 + 1) → rI w2 29 j = rI w1 29 j) → (∃ u v : Nat, rI w2 29 (8 * cls.length + 5) = nI u ∧ rI w2 29 (8 * cls.length + (5 + 1)) = nI v ∧ u ≤ c2.length ∧ v ≤ c2.length ∧ match z.2.2 with | none => u = v | some f => SegL c2 u v f ∧ Bit f) → ∃ c2, OwI w w2 t z.1 z.2.1 c2 (cls ++ [(y.2.2.1, y.2.2.2.1, y.2.2.2.2.1, y.2.2.2.2.2, z.2.2)]) := by
    rintro c2 ⟨s2, hs2⟩ k1 k2 k3 ⟨u, v, k4, k5, k6, k7, k8⟩
    have hl2 : c1.length ≤ c2.length := by rw [hs2, List.length_append]; omega
    refine ⟨c2, (a1.tr b1).tr d1, by rw [d2, b2, a2], k1, by rw [d3, b3, hlen], k2, fun k x hx => ?_⟩
    by_cases e : k < cls.length
    · rw [List.getElem?_append_left e] at hx
      exact (a6 k x hx).keep ⟨s ++ s2, by rw [hs2, hs, List.append_assoc]⟩ (fun j hj => by rw [k3 j (by omega) (by omega), b15 j (by omega)])
    · have hkl : k < cls.length + 1 := by
        have := (List.getElem?_eq_some_iff.mp hx).1
        omega
      obtain rfl : k = cls.length := by omega
      rw [List.getElem?_append_right (Nat.le_refl _), Nat.sub_self] at hx
      obtain rfl : (y.2.2.1, y.2.2.2.1, y.2.2.2.2.1, y.2.2.2.2.2, z.2.2) = x := Option.some.inj hx
      refine ⟨by rw [k3 _ (by omega) (by omega)]; exact b7, b8, by rw [k3 _ (by omega) (by omega)]; exact b9, b10, a, b, a', b', u, v, by rw [k3 _ (by omega) (by omega)]; exact e1, by rw [k3 _ (by omega) (by omega)]; exact e2, by rw [k3 _ (by omega) (by omega)]; exact e3, by rw [k3 _ (by omega) (by omega)]; exact e4, k4, k5, by omega, by omega, by omega, by omega, k6, k7, ?_, ?_, k8⟩
      · have := e9.app (s := s2) e6
        rw [← hs2] at this
        exact this
      · have := e10.app (s := s2) e8
        rw [← hs2] at this
        exact this
  cases hz : z.2.2 with
  | none =>
    rw [hz] at d4 key
    obtain ⟨d5, d6⟩ := d4
    exact key c1 ⟨[], (List.append_nil c1).symm⟩ d5 hok1 (fun j _ _ => d6 j) ⟨0, 0, by rw [d6]; exact b13, by rw [d6]; exact b14, Nat.zero_le _, Nat.zero_le _, rfl⟩
  | some dd =>
    rw [hz] at d4 key
    obtain ⟨c2, ⟨⟨s2, d5⟩, d6, d7, d8⟩, d9, d10⟩ := d4
    have hl2 : c1.length ≤ c2.length := by rw [d5, List.length_append]; omega
    exact key c2 ⟨s2, d5⟩ d6 (by rw [d5] at d8 ⊢; exact hok1.app d8) (fun j h1 h2 => by rw [d10, if_neg h1, if_neg h2]) ⟨c1.length, c2.length, by rw [d10, if_pos rfl], by rw [d10, if_neg (by omega), if_pos rfl], hl2, Nat.le_refl _, d7, d9⟩
theorem OwI.step {w wk w2 : Mem} {t : List Nat} {f p : Nat} {c : List (Nat × Nat)} {cls : List OcT} (h : OwI w wk t f p c cls) (hf : FrTk wk w2) (hT : TkD w2 t (nxT t f)) : OwI w w2 t (nxT t f) p c cls := by
  obtain ⟨a1, a2, a3, a4, a5, a6⟩ := h
  exact ⟨a1.tr hf.R.T, by rw [hf.1 25 (by decide)]; exact a2, a3.step hf hT, by rw [hf.1 28 (by decide)]; exact a4, a5, by rw [hf.1 29 (by decide)]; exact a6⟩
/-- what reading orders comes to -/
def OtQ (w w2 : Mem) (t : List Nat) (r : Option Value) : Prop := (∀ a, a ≠ 25 → a ≠ 26 → a ≠ 28 → a ≠ 29 → a ≠ 30 → rI w2 a = rI w a) ∧ rI w2 26 1 = nI 0 ∧ w2.2 = w.2 ∧ match ordT t with
  | .inl e => r = some (.int (nI 0)) ∧ rI w2 25 4 = nI e
  | .inr cls => r = some (.int (nI 1)) ∧ rI w2 25 4 = -1 ∧ cls.length ≤ 12 ∧ ∃ c, CdOK c ∧ OkX true c 0 ∧ DrK w2 c ∧ rI w2 28 0 = nI cls.length ∧ ∀ (k : Nat) (x : OcT), cls[k]? = some x → DOr (rI w2 29) c k x
theorem ordAll_lt {t : List Nat} {cls : List OcT} {n k f p : Nat} {y : Nat × Nat × Nat × Den × Den × Nat} {z : Nat × Nat × Option Den} (hk : k < 12) (h1 : orT t f p = .inr y) (h2 : ifT t true y.1 y.2.1 = .inr z) : ordAll cls (ordGo t (n + 1) k f p) = ordAll (cls ++ [(y.2.2.1, y.2.2.2.1, y.2.2.2.2.1, y.2.2.2.2.2, z.2.2)]) (ordRest t n (k + 1) z.1 z.2.1) := ordGo_ok (f2 := z.1) (p2 := z.2.1) (by rw [ordCl_or hk, h1]; dsimp only; rw [h2])
theorem c_Re_readText1 {E : EV} {w : Mem} {t : List Nat} (hT : TpP w t) (hD : Dra w) : T E m_Re_readText 80 0 0 [.ref 25, .int (nI 1)] w (fun r w2 => OtQ w w2 t r) := by
  refine T_of (L := [.ref 25, .int (nI 1), un, un]) cf_Re_readText rfl (Nat.le_of_ble_eq_true rfl) (fun X hX hF => ?_)
  refine g_aload0 hX d_Re_readText_0 ?_
  refine g_iload1 hX d_Re_readText_1 ?_
  refine g_putZ hX d_Re_readText_2 fl_Re_34 (lv_25 _) (by first | exact Or.inl rfl | exact Or.inr rfl) ?_
  refine g_aload0 hX d_Re_readText_5 ?_
  refine g_iconst (v := nI 0) hX d_Re_readText_6 rfl ?_
  refine g_putI hX d_Re_readText_7 fl_Re_38 (lv_25 _) ?_
  refine g_aload0 hX d_Re_readText_10 ?_
  refine g_iconst (v := -1) hX d_Re_readText_11 rfl ?_
  refine g_putI hX d_Re_readText_12 fl_Re_27 (lv_25 _) ?_
  refine g_aload0 hX d_Re_readText_15 ?_
  refine g_getF hX d_Re_readText_16 fl_Re_23 (lv_25 _) ?_
  have hD3 : Dra (sI (sI (sI w 25 2 (nI 1)) 25 3 (nI 0)) 25 4 (-1)) := hD.fr rfl
  refine g_callV (As := []) hX hF.1 d_Re_readText_19 ml_Re_41 cf_Pr_clearAll cv_Pr_clearAll rfl rfl (c_Pr_clearAll hD3.P) (rcv_obj hX (lv_28 _) rfl rfl) (by first | decide | omega) (by omega) (by omega) (Nat.le_of_ble_eq_true rfl) ?_
  refine ret_k ?_
  refine g_aload0 hX d_Re_readText_22 ?_
  refine g_getF hX d_Re_readText_23 fl_Re_12 (lv_25 _) ?_
  have hT5 : TpP (sI (sI (sI (sI (sI w 25 2 (nI 1)) 25 3 (nI 0)) 25 4 (-1)) 28 0 (nI 0)) 28 1 (nI 0)) t := by
    unfold TpP
    rw [rI_sI_ne _ _ _ (by decide), rI_sI_ne _ _ _ (by decide), rI_sI_ne _ _ _ (by decide), rI_sI_ne _ _ _ (by decide), rI_sI_ne _ _ _ (by decide), rI_sI_ne _ _ _ (by decide), rI_sI_ne _ _ _ (by decide), rI_sI_ne _ _ _ (by decide), rI_sI_ne _ _ _ (by decide), rI_sI_ne _ _ _ (by decide)]
    exact hT
  refine g_callV (As := []) hX hF.1 d_Re_readText_26 ml_Re_44 cf_Ta_takeText cv_Ta_takeText rfl rfl (c_Ta_takeText hT5) (rcv_obj hX (lv_26 _) rfl rfl) (by first | decide | omega) (by omega) (by omega) (Nat.le_of_ble_eq_true rfl) ?_
  rintro _ w0 ⟨rfl, hfx, h26, htk⟩
  have hw0 : (∀ a, a ≠ 25 → a ≠ 26 → a ≠ 28 → a ≠ 29 → a ≠ 30 → rI w0 a = rI w a) ∧ rI w0 26 1 = nI 0 ∧ w0.2 = w.2 := ⟨fun a h1 h2 h3 _ _ => by rw [hfx.1 a h2, rI_sI_ne _ _ _ h3, rI_sI_ne _ _ _ h3, rI_sI_ne _ _ _ h1, rI_sI_ne _ _ _ h1, rI_sI_ne _ _ _ h1], h26, by rw [hfx.2]; rfl⟩
  have hw4 : rI w0 25 4 = -1 := by rw [hfx.1 25 (by decide), rI_sI_ne _ _ _ (by decide), rI_sI_ne _ _ _ (by decide), rI_sI, upd_eq, if_pos rfl]
  have hR0 : RdI w0 t true (runE t 0 0) 0 [] := by
    refine ⟨htk, ?_, ?_, ⟨hD.fr (by rw [hw0.2.2]), ?_, fun j hj => absurd hj (Nat.not_lt_zero _)⟩, by decide, Nat.zero_le _, Nat.le_refl _⟩
    · rw [hfx.1 25 (by decide), rI_sI_ne _ _ _ (by decide), rI_sI_ne _ _ _ (by decide), rI_sI, upd_eq, if_neg (by decide), rI_sI, upd_eq, if_neg (by decide), rI_sI, upd_eq, if_pos rfl]; rfl
    · rw [hfx.1 25 (by decide), rI_sI_ne _ _ _ (by decide), rI_sI_ne _ _ _ (by decide), rI_sI, upd_eq, if_neg (by decide), rI_sI, upd_eq, if_pos rfl]
    · rw [hfx.1 28 (by decide), rI_sI, upd_eq, if_pos rfl]; rfl
  have hR1 : rI w0 28 0 = nI 0 := by rw [hfx.1 28 (by decide), rI_sI, upd_eq, if_neg (by decide), rI_sI, upd_eq, if_pos rfl]
  show G0 _ _ _ _ _ _ _ _
  refine g_iconst (v := nI 0) hX d_Re_readText_29 rfl ?_
  refine g_istore2 hX d_Re_readText_30 rfl (by decide) ?_
  have lp : ∀ (fuel : Nat) (cls : List OcT) (f p : Nat) (c : List (Nat × Nat)) (wk : Mem), 13 - cls.length < fuel → (OwI w0 wk t f p c cls) → (cls.length ≤ 12) → (ordAll cls (ordGo t (13 - cls.length) cls.length f p) = ordT t) → G0 E X 0 0 31 [.ref 25, un, .int (nI cls.length), un] [] wk := by
    intro fuel
    induction fuel with
    | zero => intro cls f p c wk q0; exact absurd q0 (Nat.not_lt_zero _)
    | succ fuel ih =>
      intro cls f p c wk q0 q1 q2 q3
      refine g_iload2 hX d_Re_readText_31 ?_
      refine g_bipush (v := nI 12) hX d_Re_readText_32 rfl ?_
      refine g_icmpN_ge hX d_Re_readText_34 (by omega) (by omega) (fun e34 => ?_) (fun e34 => ?_)
      · refine g_aload0 hX d_Re_readText_111 ?_
        refine g_callV (As := []) hX hF.1 d_Re_readText_112 ml_Re_64 cf_Re_fail cv_Re_fail rfl rfl (c_Re_fail q1.2.2.1.1) (rcv_obj hX (lv_25 _) rfl rfl) (by first | decide | omega) (by omega) (by omega) (Nat.le_of_ble_eq_true rfl) ?_
        refine ret_k ?_
        refine g_zret hX hF d_Re_readText_115 (Or.inl rfl) (by omega) (by omega) ?_
        have hT : ordT t = .inl f := by
          rw [← q3, show 13 - cls.length = 0 + 1 by omega]
          exact ordGo_bad (by unfold ordCl; rw [if_pos (by omega)])
        have hf := q1.1
        refine ⟨fun a h1 h2 h3 h4 h5 => by rw [rI_sI_ne _ _ _ h1]; exact (hf.1 a h1 h2 h3 h4 h5).trans (hw0.1 a h1 h2 h3 h4 h5), by rw [rI_sI_ne _ _ _ (by decide)]; exact (hf.2.2.1 1 (by decide)).trans hw0.2.1, hf.2.2.2.trans hw0.2.2, ?_⟩
        rw [hT]
        exact ⟨rfl, by rw [rI_sI, upd_eq, if_pos rfl]⟩
      · obtain ⟨fu, hfu⟩ : ∃ fu, 13 - cls.length = fu + 1 := ⟨12 - cls.length, by omega⟩
        rw [hfu] at q3
        refine g_aload0 hX d_Re_readText_37 ?_
        refine g_getZ hX d_Re_readText_38 fl_Re_34 (lv_25 _) ?_
        refine g_topi q1.2.2.1.2.1 ?_
        refine g_ifB_eq hX d_Re_readText_41 (fun h => absurd (rfl) h) (fun c1 => ?_)
        refine g_aload0 hX d_Re_readText_44 ?_
        refine g_callV (As := []) hX hF.1 d_Re_readText_45 ml_Re_47 cf_Re_readOrder cv_Re_readOrder rfl rfl (c_Re_readOrder q1.2.2.1 q1.2.2.2.1 (by omega)) (rcv_obj hX (lv_25 _) rfl rfl) (by first | decide | omega) (by omega) (by omega) (Nat.le_of_ble_eq_true rfl) ?_
        rintro r5 w5 hQ
        obtain rfl := hQ.rv
        obtain ⟨x, hx⟩ : ∃ x, orT t f p = x := ⟨_, rfl⟩
        rw [hx] at hQ ⊢
        show G0 _ _ _ _ _ _ _ _
        refine g_goto hX d_Re_readText_48 ?_
        refine g_istore3 hX d_Re_readText_55 rfl (by decide) ?_
        refine g_iload3 hX d_Re_readText_56 ?_
        refine g_ifB_eq hX d_Re_readText_57 (fun e57 => ?_) (fun e57 => ?_)
        · obtain ⟨e, rfl⟩ := okZ_f e57
          refine g_iconst (v := nI 0) hX d_Re_readText_67 rfl ?_
          refine g_zret hX hF d_Re_readText_68 (Or.inl rfl) (by omega) (by omega) ?_
          have hT : ordT t = .inl e := by
            rw [← q3]
            exact ordGo_bad (by rw [ordCl_or (by omega), hx])
          have hf := q1.1.tr hQ.1
          refine ⟨fun a h1 h2 h3 h4 h5 => (hf.1 a h1 h2 h3 h4 h5).trans (hw0.1 a h1 h2 h3 h4 h5), (hf.2.2.1 1 (by decide)).trans hw0.2.1, hf.2.2.2.trans hw0.2.2, ?_⟩
          rw [hT]
          exact ⟨rfl, hQ.2.2⟩
        · obtain ⟨y, rfl⟩ := okZ_t e57
          refine g_aload0 hX d_Re_readText_60 ?_
          obtain ⟨u0, -, u1, u2, u4, c1, u3⟩ := id hQ
          refine g_callV (As := []) hX hF.1 d_Re_readText_61 ml_Re_54 cf_Re_readCondition cv_Re_readCondition rfl rfl (c_Re_readCondition u3.2.1 u2 (by omega)) (rcv_obj hX (lv_25 _) rfl rfl) (by first | decide | omega) (by omega) (by omega) (Nat.le_of_ble_eq_true rfl) ?_
          rintro r6 w6 hC
          obtain rfl := hC.rv
          obtain ⟨x2, hx2⟩ : ∃ x, ifT t true y.1 y.2.1 = x := ⟨_, rfl⟩
          rw [hx2] at hC ⊢
          show G0 _ _ _ _ _ _ _ _
          refine g_ifB_ne hX d_Re_readText_64 (fun e64 => ?_) (fun e64 => ?_)
          · obtain ⟨z, rfl⟩ := okZ_t e64
            obtain ⟨cz, hI⟩ := q1.cl u0 u1 u2 u4 u3 hC
            have hI3 := hI.2.2.1
            have hln : (cls ++ [(y.2.2.1, y.2.2.2.1, y.2.2.2.2.1, y.2.2.2.2.2, z.2.2)]).length = cls.length + 1 := by rw [List.length_append, List.length_singleton]
            rw [ordAll_lt (by omega) hx hx2] at q3
            refine g_aload0 hX d_Re_readText_69 ?_
            refine g_getF hX d_Re_readText_70 fl_Re_12 (lv_25 _) ?_
            refine g_getI hX d_Re_readText_73 fl_Re_57 (lv_26 _) ?_
            refine g_topi hI3.1.2.2.2.1 ?_
            refine g_if_ne hX d_Re_readText_76 (fun e76 => ?_) (fun e76 => ?_)
            · have e76 : ¬ srt t z.1 = 0 := fun y0 => e76 (by rw [y0]; rfl)
              refine g_aload0 hX d_Re_readText_81 ?_
              refine g_getF hX d_Re_readText_82 fl_Re_12 (lv_25 _) ?_
              refine g_bipush (v := nI 59) hX d_Re_readText_85 rfl ?_
              refine g_callV (As := [_]) hX hF.1 d_Re_readText_87 ml_Re_60 cf_Ta_isSign cv_Ta_isSign rfl rfl (c_Ta_isSign (by decide) hI3.1) (rcv_obj hX (lv_26 _) rfl rfl) (by first | decide | omega) (by omega) (by omega) (Nat.le_of_ble_eq_true rfl) ?_
              refine ret_k ?_
              refine g_ifB_ne hX d_Re_readText_90 (fun e90 => ?_) (fun e90 => ?_)
              · refine g_aload0 hX d_Re_readText_98 ?_
                refine g_getF hX d_Re_readText_99 fl_Re_12 (lv_25 _) ?_
                refine g_callV (As := []) hX hF.1 d_Re_readText_102 ml_Re_67 cf_Ta_step cv_Ta_step rfl rfl (c_Ta_step hI3.1.1 hI3.1.2.2.1 (enT_le hI3.fl.1)) (rcv_obj hX (lv_26 _) rfl rfl) (by first | decide | omega) (by omega) (by omega) (Nat.le_of_ble_eq_true rfl) ?_
                rintro _ w7 ⟨rfl, ft_w7, tk_w7⟩
                have hs := hI3.step ft_w7 tk_w7
                show G0 _ _ _ _ _ _ _ _
                refine g_iincN2 hX d_Re_readText_105 rfl (by decide) ?_
                refine g_goto hX d_Re_readText_108 ?_
                refine g_fget 3 ?_
                refine g_loc (show [Value.ref 25, un, Value.int (nI (cls.length + 1)), un] = [Value.ref 25, un, Value.int (nI (cls ++ [(y.2.2.1, y.2.2.2.1, y.2.2.2.2.1, y.2.2.2.2.2, z.2.2)]).length), un] by rw [hln]) ?_
                refine ih (cls ++ [(y.2.2.1, y.2.2.2.1, y.2.2.2.2.1, y.2.2.2.2.2, z.2.2)]) (nxT t z.1) z.2.1 cz w7 (by omega) (hI.step ft_w7 tk_w7) (by omega) ?_
                rw [← q3]
                unfold ordRest
                rw [if_pos e90, hln, show 13 - (cls.length + 1) = fu by omega]
              · refine g_aload0 hX d_Re_readText_93 ?_
                refine g_callV (As := []) hX hF.1 d_Re_readText_94 ml_Re_64 cf_Re_fail cv_Re_fail rfl rfl (c_Re_fail hI3.1) (rcv_obj hX (lv_25 _) rfl rfl) (by first | decide | omega) (by omega) (by omega) (Nat.le_of_ble_eq_true rfl) ?_
                refine ret_k ?_
                refine g_zret hX hF d_Re_readText_97 (Or.inl rfl) (by omega) (by omega) ?_
                have hT : ordT t = .inl z.1 := by
                  rw [← q3]
                  unfold ordRest
                  rw [if_neg e90, if_neg e76]
                  rfl
                have hf := hI.1
                refine ⟨fun a h1 h2 h3 h4 h5 => by rw [rI_sI_ne _ _ _ h1]; exact (hf.1 a h1 h2 h3 h4 h5).trans (hw0.1 a h1 h2 h3 h4 h5), by rw [rI_sI_ne _ _ _ (by decide)]; exact (hf.2.2.1 1 (by decide)).trans hw0.2.1, hf.2.2.2.trans hw0.2.2, ?_⟩
                rw [hT]
                exact ⟨rfl, by rw [rI_sI, upd_eq, if_pos rfl]⟩
            · have e76 : srt t z.1 = 0 := nI_inj (by have := srt_le t z.1; omega) (by decide) e76
              refine g_iconst (v := nI 1) hX d_Re_readText_79 rfl ?_
              refine g_zret hX hF d_Re_readText_80 (Or.inr rfl) (by omega) (by omega) ?_
              have hns : ¬ isS t z.1 59 := fun y0 => isS_0 y0 e76
              have hT : ordT t = .inr (cls ++ [(y.2.2.1, y.2.2.2.1, y.2.2.2.2.1, y.2.2.2.2.2, z.2.2)]) := by
                rw [← q3]
                unfold ordRest
                rw [if_neg hns, if_pos e76]
                show Sum.inr _ = Sum.inr _
                rw [List.append_nil]
              have hf := hI.1
              refine ⟨fun a h1 h2 h3 h4 h5 => (hf.1 a h1 h2 h3 h4 h5).trans (hw0.1 a h1 h2 h3 h4 h5), (hf.2.2.1 1 (by decide)).trans hw0.2.1, hf.2.2.2.trans hw0.2.2, ?_⟩
              rw [hT]
              exact ⟨rfl, hI.2.1.trans hw4, by omega, cz, hI.2.2.2.2.1.cd hI3, hI.2.2.2.2.1, hI3.2.2.2.1, hI.2.2.2.1, hI.2.2.2.2.2⟩
          · obtain ⟨e, rfl⟩ := okZ_f e64
            refine g_iconst (v := nI 0) hX d_Re_readText_67 rfl ?_
            refine g_zret hX hF d_Re_readText_68 (Or.inl rfl) (by omega) (by omega) ?_
            have hT : ordT t = .inl e := by
              rw [← q3]
              exact ordGo_bad (by rw [ordCl_or (by omega), hx]; dsimp only; rw [hx2])
            have hf := (q1.1.tr hQ.1).tr hC.1
            refine ⟨fun a h1 h2 h3 h4 h5 => (hf.1 a h1 h2 h3 h4 h5).trans (hw0.1 a h1 h2 h3 h4 h5), (hf.2.2.1 1 (by decide)).trans hw0.2.1, hf.2.2.2.trans hw0.2.2, ?_⟩
            rw [hT]
            exact ⟨rfl, hC.2.2⟩
  refine g_fget 1 ?_
  refine lp 14 [] (runE t 0 0) 0 [] w0 (by decide) ⟨FrRt.rf w0, rfl, hR0, hR1, fun j _ hj => absurd hj (Nat.not_lt_zero _), fun k x hx => by simp at hx⟩ (Nat.zero_le _) ?_
  show ordAll [] (ordGo t 13 0 (runE t 0 0) 0) = _
  unfold ordT
  cases ordGo t 13 0 (runE t 0 0) 0 with
  | inl e => rfl
  | inr l => rfl
