
def okR (x : ResT) : Bool := match x with
  | .inl _ => false
  | .inr _ => true
/-- read as far as f2: c2 is the code -/
def AcQ (w w2 : Mem) (t : List Nat) (o : Bool) (c : List (Nat × Nat)) (f p f2 p2 : Nat) (d : Den) (c2 : List (Nat × Nat)) : Prop := FrRd w w2 ∧ rI w2 25 4 = rI w 25 4 ∧ (∃ s, c2 = c ++ s) ∧ RdI w2 t o f2 p2 c2 ∧ SegL c2 c.length c2.length d ∧ OkX o c2 c.length ∧ 3 * c2.length + 3 + 6 * p + f ≤ 3 * c.length + 6 * p2 + f2
section
variable {w w1 w2 w3 w4 : Mem} {t : List Nat} {o : Bool} {c c1 c2 : List (Nat × Nat)} {f p f1 p1 f2 p2 e q : Nat} {d a1 d2 : Den} {x : ResT} {r : Option Value}
theorem ExQ.rv (h : ExQ w w2 t o c f p x r) : r = some (.int (b2i (okR x = true))) := by
  obtain ⟨-, h⟩ := h
  cases x with
  | inl e => rw [h.1, b2i_f (show ¬ (okR (.inl e) = true) from fun z => by cases z)]; rfl
  | inr y => rw [h.1, b2i_t (show okR (.inr y) = true from rfl)]; rfl
theorem ExQ.acc {y : Nat × Nat × Den} (h : ExQ w w2 t o c f p (.inr y) r) : ∃ c2, AcQ w w2 t o c f p y.1 y.2.1 y.2.2 c2 := by
  obtain ⟨h1, -, h2, s, h3, h4, h5, h6⟩ := h
  exact ⟨c ++ s, h1, h2, ⟨s, rfl⟩, h3, h4, h5, h6⟩
theorem AcQ.ex (h : AcQ w w2 t o c f p f2 p2 d c2) : ExQ w w2 t o c f p (.inr (f2, p2, d)) (some (.int (nI 1))) := by
  obtain ⟨h1, h2, ⟨s, rfl⟩, h3, h4, h5, h6⟩ := h
  exact ⟨h1, rfl, h2, s, h3, h4, h5, h6⟩
theorem ExQ.bad {f0 p0 : Nat} {c0 : List (Nat × Nat)} (hf : FrRd w w1) (h : ExQ w1 w2 t o c1 f1 p1 (.inl e) r) : ExQ w w2 t o c0 f0 p0 (.inl e) (some (.int (nI 0))) := ⟨hf.tr h.1, rfl, h.2.2⟩
theorem ExQ.fail {f0 p0 : Nat} {c0 : List (Nat × Nat)} (hf : FrRd w w1) : ExQ w (sI w1 25 4 (nI e)) t o c0 f0 p0 (.inl e) (some (.int (nI 0))) := ⟨hf.pt (by decide), rfl, by rw [rI_sI, upd_eq, if_pos rfl]⟩
theorem okR_t (h : okR x = true) : ∃ y, x = .inr y := by
  cases x with
  | inl e => cases h
  | inr y => exact ⟨y, rfl⟩
theorem okR_f (h : ¬ okR x = true) : ∃ e, x = .inl e := by
  cases x with
  | inl e => exact ⟨e, rfl⟩
  | inr y => exact absurd rfl h
def bK (x0 : ResT) (k : Nat → Nat → Den → Option ResT) (x : ResT) : Prop := match x0 with
  | .inl e => x = .inl e
  | .inr y => k y.1 y.2.1 y.2.2 = some x
theorem bind_2 {r : Option ResT} {k : Nat → Nat → Den → Option ResT} (h : bindR r k = some x) : ∃ x0, r = some x0 ∧ bK x0 k x := by
  rcases bind_inv h with ⟨e, h1, h2⟩ | ⟨f, p, d, h1, h2⟩
  · exact ⟨_, h1, h2⟩
  · exact ⟨_, h1, h2⟩
/-- a bracket, a sign ahead: only the place changed -/
theorem AcQ.tk (hf : FrTk w w1) (h : AcQ w1 w2 t o c f1 p f2 p2 d c2) (hle : f ≤ f1) : AcQ w w2 t o c f p f2 p2 d c2 := by
  obtain ⟨h1, h2, h3, h4, h5, h6, h7⟩ := h
  exact ⟨hf.R.tr h1, by rw [h2, hf.1 25 (by decide)], h3, h4, h5, h6, by omega⟩
theorem AcQ.tk2 (h : AcQ w w1 t o c f p f1 p2 d c2) (hf : FrTk w1 w2) (hT : TkD w2 t (nxT t f1)) : AcQ w w2 t o c f p (nxT t f1) p2 d c2 := by
  obtain ⟨h1, h2, h3, h4, h5, h6, h7⟩ := h
  have := nxT_ge t f1 h4.fl.1
  exact ⟨h1.tr hf.R, by rw [hf.1 25 (by decide), h2], h3, h4.step hf hT, h5, h6, by omega⟩
theorem dO_hi (h : 20 ≤ q) : cwd q 0 = (q - 18) * 4096 + 0 := by
  unfold cwd dO dA
  rw [if_neg (by omega), if_neg (by omega), if_neg (by omega), if_neg (by omega), if_neg (by omega)]
/-- two operands, then the operation -/
theorem AcQ.bin (h : AcQ w w1 t o c f p f1 p1 a1 c1) (hf : FrTk w1 w3) (h2 : AcQ w3 w4 t o c1 (nxT t f1) p1 f2 p2 d2 c2) (hq : 20 ≤ q) (hq2 : q < 28) : AcQ w (sI (sI w4 30 c2.length (nI ((q - 18) * 4096 + 0))) 28 1 (nI (c2.length + 1))) t o c f p f2 p2 (dBin q a1 d2) (c2 ++ [(q, 0)]) := by
  obtain ⟨a, b, ⟨s, rfl⟩, e, g, k, l⟩ := h
  obtain ⟨a', b', ⟨s', rfl⟩, e', g', k', l'⟩ := h2
  have hge := nxT_ge t f1 e.fl.1
  have h6 := e.2.2.2.2.2.1
  have hlen := e.len
  have hlen2 := e'.len
  rw [List.length_append] at l' hlen2
  have hps := e'.2.2.2.2.2.2
  have hcl : c.length ≤ (c ++ s).length := by rw [List.length_append]; omega
  have h36 := e'.2.2.2.2.2.1
  rw [List.length_append] at h36
  have okc : OkX o (((c ++ s) ++ s') ++ [(q, 0)]) ((c ++ s) ++ s').length := OkX.one ⟨⟨show 0 < 1001 by decide, Or.inr ⟨hq, show q < 31 by omega⟩⟩, fun z => by have : q = 6 := z; omega⟩ (show q < 29 by omega)
  refine ⟨((a.tr hf.R).tr a').em (by decide), ?_, ⟨s ++ s' ++ [(q, 0)], by rw [List.append_assoc, List.append_assoc, List.append_assoc]⟩, e'.emit (dO_hi hq).symm (by rw [List.length_append]; omega) (by show _ + (if q < 20 then 1 else 0) ≤ p2; rw [if_neg (by omega)]; exact hps), ?_, (k.app k').app okc, by rw [List.length_append, List.length_append, List.length_singleton]; omega⟩
  · rw [rI_sI_ne _ _ _ (by decide), rI_sI_ne _ _ _ (by decide), b', hf.1 25 (by decide), b]
  · have s1 : SegL (((c ++ s) ++ s') ++ [(q, 0)]) c.length (c ++ s).length a1 := (g.app (Nat.le_refl _)).app (by rw [List.length_append (as := c ++ s)]; omega)
    have s2 : SegL (((c ++ s) ++ s') ++ [(q, 0)]) (c ++ s).length ((c ++ s) ++ s').length d2 := g'.app (Nat.le_refl _)
    have h3 := seg_bin s1 s2 (by rw [cO_last.1]; exact hq) (by rw [cO_last.1]; exact hq2)
    rw [cO_last.1] at h3
    rw [List.length_append (as := (c ++ s) ++ s'), List.length_singleton]
    exact h3
/-- what is turned -/
theorem AcQ.not (h : AcQ w w1 t o c f p f1 p1 a1 c1) (hf3 : f2 + 3 ≤ f) (h3f : 3 * c.length ≤ 6 * p + f2) : AcQ w (sI (sI w1 30 c1.length (nI (10 * 4096 + 0))) 28 1 (nI (c1.length + 1))) t o c f2 p f1 p1 (dNot a1) (c1 ++ [(28, 0)]) := by
  obtain ⟨a, b, ⟨s, rfl⟩, e, g, k, l⟩ := h
  have hlen := e.len
  rw [List.length_append] at l
  have hps := e.2.2.2.2.2.2
  have h36 := e.2.2.2.2.2.1
  have okc : OkX o ((c ++ s) ++ [(28, 0)]) (c ++ s).length := OkX.one ⟨⟨show 0 < 1001 by decide, Or.inr ⟨show 20 ≤ 28 by decide, show 28 < 31 by decide⟩⟩, fun z => by cases z⟩ (show 28 < 29 by decide)
  refine ⟨a.em (by decide), ?_, ⟨s ++ [(28, 0)], by rw [List.append_assoc]⟩, e.emit (dO_hi (q := 28) (by decide)).symm (by rw [List.length_append]; omega) (by show _ + (if 28 < 20 then 1 else 0) ≤ p1; rw [if_neg (by decide)]; exact hps), ?_, k.app okc, by rw [List.length_append, List.length_append, List.length_singleton]; omega⟩
  · rw [rI_sI_ne _ _ _ (by decide), rI_sI_ne _ _ _ (by decide), b]
  · have h3 := seg_not (g.app (s := [(28, 0)]) (Nat.le_refl _)) cO_last.1
    rw [List.length_append (as := c ++ s), List.length_singleton]
    exact h3
/-- a jump that is aimed later: the code behind it -/
theorem RdI.jmp (h : RdI w t o f p c) (hq : q = 29 ∨ q = 30) (hl : 3 * (c.length + 1) ≤ 6 * p + f) : RdI (sI (sI w 30 c.length (nI ((q - 18) * 4096 + 0))) 28 1 (nI (c.length + 1))) t o f p (c ++ [(q, 0)]) :=
  h.emit (dO_hi (by omega)).symm hl (by show _ + (if q < 20 then 1 else 0) ≤ p; rw [if_neg (by omega)]; exact h.2.2.2.2.2.2)
theorem AcQ.jump (h : AcQ w w1 t o c f p f1 p1 a1 c1) (hf : FrTk w1 w3) (hq : q = 29 ∨ q = 30) (h2 : AcQ (sI (sI w3 30 c1.length (nI ((q - 18) * 4096 + 0))) 28 1 (nI (c1.length + 1))) w4 t o (c1 ++ [(q, 0)]) (nxT t f1) p1 f2 p2 d2 c2) : AcQ w (sI w4 30 c1.length (nI ((q - 18) * 4096 + c2.length))) t o c f p f2 p2 (dAnd q a1 d2) (c2.set c1.length (q, c2.length)) := by
  obtain ⟨a, b, ⟨s, rfl⟩, e, g, k, l⟩ := h
  obtain ⟨a', b', ⟨s', hs'⟩, e', g', k', l'⟩ := h2
  obtain ⟨m, hm⟩ : ∃ m, (c ++ s).length = m := ⟨_, rfl⟩
  have hge := nxT_ge t f1 e.fl.1
  have hl2 : c2.length = m + 1 + s'.length := by rw [hs', List.length_append, List.length_append, List.length_singleton, hm]
  have hcm : c.length ≤ m := by rw [← hm, List.length_append]; omega
  have hl3 : (c2.set (c ++ s).length (q, c2.length)).length = c2.length := List.length_set
  have hlen2 := e'.len
  have hmc : m < c2.length := by omega
  rw [List.length_append, List.length_singleton] at l'
  rw [hm] at l l' ⊢
  rw [hm] at g
  have hopq : cO c2 m = q := by rw [hs', ← hm, (cO_app (by rw [List.length_append (as := c ++ s), List.length_singleton]; omega)).1, cO_last.1]
  have hold : ∀ j, j < m → cO (c2.set m (q, c2.length)) j = cO (c ++ s) j ∧ cA (c2.set m (q, c2.length)) j = cA (c ++ s) j := fun j hj => by
    rw [(cO_set (by omega)).1, (cO_set (by omega)).2, hs', (cO_app (by rw [List.length_append]; omega)).1, (cO_app (by rw [List.length_append]; omega)).2]
    exact cO_app (by omega)
  have hat := cO_at (q := (q, c2.length)) hmc
  have hops : ∀ j, cO (c2.set m (q, c2.length)) j = cO c2 j := fun j => by
    by_cases z : j = m
    · rw [z, hat.1, hopq]
    · exact (cO_set z).1
  obtain ⟨e1, e2, e3, e4, e5, e6, e7⟩ := e'
  refine ⟨(((a.tr hf.R).em (by decide)).tr a').at, ?_, ⟨s ++ (q, c2.length) :: s', ?_⟩, ⟨e1.o (rI_sI_ne _ _ _ (by decide)) (rI_sI_ne _ _ _ (by decide)), by rw [rI_sI_ne _ _ _ (by decide)]; exact e2, by rw [rI_sI_ne _ _ _ (by decide)]; exact e3, ⟨e4.1.fr rfl, by rw [rI_sI_ne _ _ _ (by decide), List.length_set]; exact e4.2.1, fun j hj => ?_⟩, e5, by rw [List.length_set]; exact e6, by rw [List.length_set, psh_cong _ (fun j _ => hops j)]; exact e7⟩, ?_, fun j hj hj2 => ?_, by rw [List.length_set]; omega⟩
  · rw [rI_sI_ne _ _ _ (by decide), b', rI_sI_ne _ _ _ (by decide), rI_sI_ne _ _ _ (by decide), hf.1 25 (by decide), b]
  · rw [hs', List.append_assoc, ← hm, List.set_append_right _ _ (Nat.le_refl _), Nat.sub_self, List.append_assoc]
    rfl
  · rw [List.length_set] at hj
    rw [rI_sI, upd_eq]
    by_cases z : j = m
    · rw [if_pos z, z, hat.1, hat.2]
      show _ = nI (cwd q c2.length)
      unfold cwd dO dA
      rw [if_neg (by omega), if_neg (by omega), if_neg (by omega), if_neg (by omega), if_neg (by omega)]
    · rw [if_neg z, (cO_set z).1, (cO_set z).2]; exact e4.2.2 j hj
  · have s1 : SegL (c2.set m (q, c2.length)) c.length m a1 := g.cong (fun j _ h4 => hold j h4)
    have s2 : SegL (c2.set m (q, c2.length)) (m + 1) c2.length d2 := by
      have g2 := g'
      rw [List.length_append, List.length_singleton, hm] at g2
      exact g2.cong (fun j h3 _ => cO_set (by omega))
    have h3 := seg_and s1 s2 (by rw [hat.1]; show 28 < q; omega) hat.2
    rw [hat.1] at h3
    rw [List.length_set]
    exact h3
  · rw [List.length_set] at hj2 ⊢
    by_cases z : j = m
    · rw [z, hat.1, hat.2]
      exact ⟨⟨⟨show c2.length < 1001 by omega, Or.inr ⟨show 20 ≤ q by omega, show q < 31 by omega⟩⟩, fun y => by have : q = 6 := y; omega⟩, fun _ => ⟨hmc, Nat.le_refl _⟩⟩
    · by_cases z2 : j < m
      · rw [(hold j z2).1, (hold j z2).2]
        obtain ⟨k1, k2⟩ := k j hj (by omega)
        exact ⟨k1, fun y => by have := k2 y; omega⟩
      · rw [(cO_set z).1, (cO_set z).2]
        exact k' j (by rw [List.length_append, List.length_singleton]; omega) hj2
theorem AcQ.cell (hq : q = 29 ∨ q = 30) (h : AcQ w w4 t o (c1 ++ [(q, 0)]) f p f2 p2 d2 c2) : rI w4 30 c1.length = nI ((q - 18) * 4096) ∧ c1.length < c2.length := by
  obtain ⟨-, -, ⟨s', rfl⟩, e, -⟩ := h
  have hl : c1.length < ((c1 ++ [(q, 0)]) ++ s').length := by rw [List.length_append, List.length_append, List.length_singleton]; omega
  refine ⟨?_, hl⟩
  rw [e.2.2.2.1.2.2 _ hl, (cO_app (by rw [List.length_append, List.length_singleton]; omega)).1, (cO_app (by rw [List.length_append, List.length_singleton]; omega)).2, cO_last.1, cO_last.2, dO_hi (by show 20 ≤ q; omega), Nat.add_zero]
theorem rd_pos {n m dp : Nat} {a : Den} (h : rd t o n m dp f p a = some x) : ∃ n', n = n' + 1 := by
  cases n with
  | zero => cases h
  | succ n => exact ⟨n, rfl⟩
theorem sgn_in {l : List (Nat × Nat)} (h : sgn t f l = some q) : ∃ z ∈ l, z.2 = q := by
  unfold sgn at h
  obtain ⟨z, hz, hq⟩ := Option.map_eq_some_iff.mp h
  exact ⟨z, List.mem_of_find?_eq_some hz, hq⟩
theorem sgT_rg (h : sgn t f sgT = some q) : 20 ≤ q ∧ q < 28 := by
  have hall : ∀ z ∈ sgT, 20 ≤ z.2 ∧ z.2 < 28 := by decide
  obtain ⟨z, hz, rfl⟩ := sgn_in h
  exact hall z hz
theorem sgC_rg (h : sgn t f sgC = some q) : 20 ≤ q ∧ q < 28 := by
  have hall : ∀ z ∈ sgC, 20 ≤ z.2 ∧ z.2 < 28 := by decide
  obtain ⟨z, hz, rfl⟩ := sgn_in h
  exact hall z hz
theorem sgn_end {l : List (Nat × Nat)} (h : srt t f = 0) : sgn t f l = none := by
  unfold sgn
  rw [List.find?_eq_none.mpr (fun q _ z => isS_0 (of_decide_eq_true z) h)]
  rfl
theorem srt_400 (h : t.length ≤ f) : srt t f = 0 := by unfold srt; rw [if_pos h]
theorem dNot2 (d : Den) : dNot (dNot d) = d := by
  funext env
  unfold dNot
  cases d env with
  | none => rfl
  | some v => show some (1 - (1 - v)) = some v; rw [Int.sub_sub_self]
end
/-- the contract of a reading method -/
def CT (E : EV) (t : List Nat) (o : Bool) (n m : Nat) (mr : MR) (dd : Nat → Nat) : Prop := ∀ (dp f p : Nat) (a : Den) (c : List (Nat × Nat)) (w : Mem) (x : ResT), dp ≤ 8 → rd t o n m dp f p a = some x → RdI w t o f p c → T E mr (dd dp) 0 0 [.ref 25, .int (nI dp)] w (fun r w2 => ExQ w w2 t o c f p x r)
