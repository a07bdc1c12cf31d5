
theorem timesR_stop {q : OcT} {s : RSt} (h : ordOne q s = some s) : ∀ m, timesR q m s = some s
  | 0 => rfl
  | m + 1 => by rw [timesR_ok h]; exact timesR_stop h m
theorem ordOne_n {q : OcT} {s : RSt} (hb : ∀ d, q.2.2.2.2 = some d → Bit d) (h : ¬ mnB q (envO s.1 s.2.2.1 s.2.2.2) = true) : ordOne q s = some s := by
  obtain ⟨q1, q2, q3, q4, q5⟩ := q
  cases q5 with
  | none => exact absurd rfl h
  | some d =>
    show (match d (envO s.1 s.2.2.1 s.2.2.2) with
      | none => some s
      | some v => if v = 0 then some s else ordDo _ s) = some s
    cases hd : d (envO s.1 s.2.2.1 s.2.2.2) with
    | none => rfl
    | some v =>
      rcases hb d rfl _ _ hd with rfl | rfl
      · rfl
      · exact absurd (decide_eq_true hd) h
theorem ordOne_y {q : OcT} {s : RSt} (h : mnB q (envO s.1 s.2.2.1 s.2.2.2) = true) : ordOne q s = ordDo q s := by
  obtain ⟨q1, q2, q3, q4, q5⟩ := q
  cases q5 with
  | none => rfl
  | some d =>
    have hd : d (envO s.1 s.2.2.1 s.2.2.2) = some 1 := of_decide_eq_true h
    show (match d (envO s.1 s.2.2.1 s.2.2.2) with
      | none => some s
      | some v => if v = 0 then some s else ordDo _ s) = _
    rw [hd]
    rfl
/-- board and acts as kept -/
def SvP (w : Mem) (s : SG) : Prop := BRow w 54 (sG s) ∧ BLaws w 54 (gL (sG s)) ∧ ActP w 63 (sG s) (sU s)
def SvW (w : Mem) : Mem := CpA (CpB w 54 1) 63 20
def BkW (w : Mem) : Mem := CpA (CpB w 1 54) 20 63
theorem DInv.ac {w w2 : Mem} {s : SG} (h : DInv w s) (e : ∀ a, (a < 63 ∨ 67 < a) → rI w2 a = rI w a) (e2 : w2.2 = w.2) : DInv w2 s := by
  have kk := KpR.of2 e2
  obtain ⟨h1, h2, h3, h4, h5, h6, h7, h8⟩ := h
  refine ⟨h1.fr (fun a ha => e a (by omega)), h2.fr isBo1 (fun a ha => e a (by omega)) kk, h3.fr (by rw [e 26 (by decide)]) (e 27 (by decide)), h4.fr (fun a h1 h2 => e a (by omega)) kk, h5.fr (e 70 (by decide)) (by rw [e 0 (by decide)]), ?_, h7.fr (fun a h1 h2 => e a (by omega)), h8.fr kk⟩
  rw [e 0 (by decide), e 25 (by decide), e 53 (by decide)]
  exact h6
theorem DInv.sav {w : Mem} {s : SG} (h : DInv w s) : DInv (SvW w) s ∧ SvP (SvW w) s := by
  have hl := h.g.2.1.ll
  have hT := h.2.2.2.2.2.2.2.2.2.2.1
  have hfr := CpA_fr (CpB w 54 1) 63 20
  have ha : ∀ a, (a < 63 ∨ 67 < a) → rI (SvW w) a = rI (CpB w 54 1) a := fun a ha => hfr.1 a (by omega)
  have h1 : DInv (CpB w 54 1) s := by
    have e : ∀ a, (a < 54 ∨ 61 < a) → rI (CpB w 54 1) a = rI w a := fun a ha => CpB_o _ _ _ (by omega)
    obtain ⟨h1, h2, h3, h4, h5, h6, h7, h8⟩ := h
    refine ⟨h1.fr (fun a ha => e a (by omega)), h2.cpo hl isBo54 (by decide), h3.fr (by rw [e 26 (by decide)]) (e 27 (by decide)), fun j hj => ?_, h5.fr (e 70 (by decide)) (by rw [e 0 (by decide)]), ?_, h7.fr (fun a h1 h2 => e a (by omega)), h8.cp isBo54 hT⟩
    · obtain ⟨g1, g2⟩ := h4 j hj
      refine ⟨by rw [e _ (by omega)]; exact g1, fun g hg => ?_⟩
      obtain ⟨k1, k2, k3⟩ := g2 g hg
      exact ⟨k1.fr (fun a a1 a2 => e a (by omega)), k2, k3.cpo k2.ll isBo54 (by omega)⟩
    · rw [e 0 (by decide), e 25 (by decide), e 53 (by decide)]
      exact h6
  have h2 := h1.ac ha hfr.2
  refine ⟨h2, ?_, ?_, ?_⟩
  · exact (h.g.1.copy h.g.2.1 (b := 54)).fr (fun a a1 a2 => ha a (by omega))
  · exact (h.2.1.cp hl isBo54).fr2 hl (fun a ha2 => ha a (by omega)) (fun a _ => by unfold rR; rw [show (SvW w).2 = (CpB w 54 1).2 from hfr.2]) (by rw [show (SvW w).2 = (CpB w 54 1).2 from hfr.2]) (fun i _ => by unfold rR; rw [show (SvW w).2 = (CpB w 54 1).2 from hfr.2])
  · exact (h.g.2.2.fr (fun a a1 a2 => CpB_o _ _ _ (by omega))).copy
theorem SvP.rn {w w2 : Mem} {s : SG} (h : SvP w s) (hl : (gL (sG s)).length ≤ 6) (f : FrRn w w2) : SvP w2 s := ⟨h.1.fr (fun a a1 a2 => f.1 a (by omega)), h.2.1.fr2 hl (fun a ha => f.1 a (by omega)) (fun a ha => f.2.2.2.1 a (by omega)) f.2.2.2.2 (fun i _ => f.2.2.2.1 62 (by decide) ▸ rfl), h.2.2.fr (fun a a1 a2 => f.1 a (by omega))⟩
/-- given back: all as it was -/
theorem DInv.bak {w w2 : Mem} {s : SG} (h : DInv w s) (hS : SvP w s) (f : FrRn w w2) : DInv (BkW w2) s := by
  have hW := h.g.2.1
  have hl := hW.ll
  have kk := f.2.2.2.K
  obtain ⟨b1, b2, b3⟩ := hS.rn hl f
  obtain ⟨h1, h2, h3, h4, h5, h6, h7, h8⟩ := h
  have hfx := h8.fr kk
  have hT := hfx.2.2.2.2.2.1
  have hfr := CpA_fr (CpB w2 1 54) 20 63
  have ha : ∀ a, (a < 1 ∨ 8 < a) → (a < 20 ∨ 24 < a) → rI (BkW w2) a = rI w2 a := fun a a1 a2 => (hfr.1 a (by omega)).trans (CpB_o _ _ _ (by omega))
  have hr : ∀ a, a ≠ 9 → rR (BkW w2) a = rR w2 a := fun a a1 => by
    rw [show rR (BkW w2) a = rR (CpB w2 1 54) a by unfold rR; rw [show (BkW w2).2 = (CpB w2 1 54).2 from hfr.2]]
    exact CpB_r _ _ _ (by omega)
  have hel : (BkW w2).2.2.2 = w2.2.2.2 := by rw [show (BkW w2).2 = (CpB w2 1 54).2 from hfr.2]; rfl
  have k2 := KpR.of2 (show (BkW w2).2 = (CpB w2 1 54).2 from hfr.2)
  have hL4 := h4.fr (w2 := w2) (fun a a1 a2 => f.1 a (by omega)) kk
  refine ⟨⟨(b1.copy hW (b := 1)).fr (fun a a1 a2 => hfr.1 a (by omega)), hW, (b3.fr (fun a a1 a2 => CpB_o _ _ _ (by omega))).copy⟩, (b2.cp hl isBo1).fr2 hl (fun a ha2 => hfr.1 a (by omega)) (fun a _ => by unfold rR; rw [show (BkW w2).2 = (CpB w2 1 54).2 from hfr.2]) (by rw [show (BkW w2).2 = (CpB w2 1 54).2 from hfr.2]) (fun i _ => by unfold rR; rw [show (BkW w2).2 = (CpB w2 1 54).2 from hfr.2]), h3.fr (by rw [ha 26 (by decide) (by decide), f.1 26 (by decide)]) ((ha 27 (by decide) (by decide)).trans (f.1 27 (by decide))), fun j hj => ?_, h5.fr ((ha 70 (by decide) (by decide)).trans (f.1 70 (by decide))) (by rw [ha 0 (by decide) (by decide), f.1 0 (by decide)]), ?_, h7.fr (fun a a1 a2 => (ha a (by omega) (by omega)).trans (f.1 a (by omega))), (hfx.cp isBo1 hT).fr k2⟩
  · obtain ⟨g1, g2⟩ := hL4 j hj
    refine ⟨by rw [ha _ (by omega) (by omega)]; exact g1, fun g hg => ?_⟩
    obtain ⟨k1, k3, k4⟩ := g2 g hg
    exact ⟨k1.fr (fun a a1 a2 => ha a (by omega) (by omega)), k3, k4.fr2 k3.ll (fun a a1 => ha a (by omega) (by omega)) (fun a a1 => hr a (by omega)) hel (fun i _ => by rw [hr _ (by omega)])⟩
  · rw [ha 0 (by decide) (by decide), ha 25 (by decide) (by decide), ha 53 (by decide) (by decide), f.1 0 (by decide), f.1 25 (by decide), f.2.1 9 (by decide) (by decide)]
    exact h6
