
def limM (m : Nat) : Nat := if m = 0 then 7 else if m ≤ 2 then 6 else if m ≤ 4 then 5 else if m = 5 then 4 else if m ≤ 7 then 2 else 1
def loM (m : Nat) : Nat := if m = 0 then 7 else if m ≤ 2 then 6 else if m ≤ 4 then 5 else if m = 5 then 3 else if m ≤ 7 then 2 else 1
def stopM (t : List Nat) (m f : Nat) : Prop := ((1 ≤ m ∧ m ≤ 4) → sgn t f sgT = none) ∧ ((m = 3 ∨ m = 4) → sgn t f sgA = none) ∧ (6 ≤ m → ¬ isW t f wAnd) ∧ (8 ≤ m → ¬ isW t f wOr)
/-- one turn of the reader, and what comes of it -/
def StepR (E : EV) (tb : Nat) (G : Nat → Mem → Prop) : Prop := (∀ (w : Mem) (Q : Option Value → Mem → Prop), rI w 89 19 = nI 0 → T E m_M_readPart 4 0 0 [.ref 89] w Q → (∀ r w2, Q r w2 → ∃ x, r = some (.int (nI x)) ∧ x < 5 ∧ G x w2) → G 1 w)
  ∧ (∀ (w : Mem) (Q : Option Value → Mem → Prop), rI w 89 19 = nI 0 → T E m_M_readPlain 5 0 0 [.ref 89] w Q → (∀ r w2, Q r w2 → ∃ x, r = some (.int (nI x)) ∧ x < 5 ∧ G x w2) → G 0 w)
  ∧ (∀ (w : Mem) (Q : Option Value → Mem → Prop), rI w 89 19 = nI 0 → T E m_M_behindSum 3 0 0 [.ref 89, .int (nI tb)] w Q → (∀ r w2, Q r w2 → ∃ x, r = some (.int (nI x)) ∧ x < 5 ∧ G x w2) → G 3 w)
  ∧ (∀ (w : Mem) (Q : Option Value → Mem → Prop), rI w 89 19 = nI 0 → T E m_M_behindTest 3 0 0 [.ref 89] w Q → (∀ r w2, Q r w2 → ∃ x, r = some (.int (nI x)) ∧ x < 5 ∧ G x w2) → G 2 w)
/-- what has to be known of a start at a part -/
def Start1 (E : EV) (G : Nat → Mem → Prop) (w : Mem) (Z : Prop) : Prop := ∀ (Q : Option Value → Mem → Prop), T E m_M_readPart 4 0 0 [.ref 89] w Q → (∀ r w2, Q r w2 → ∃ x, r = some (.int (nI x)) ∧ x < 5 ∧ G x w2) → Z
def FailC (G : Nat → Mem → Prop) (t : List Nat) (w : Mem) (x : ResT) : Prop := ∀ (e : Nat) (w2 : Mem) (k : Nat), x = .inl e → FrR w w2 → BadP w2 t e → k < 5 → G k w2
def GoodC (G : Nat → Mem → Prop) (t : List Nat) (o : Bool) (w : Mem) (P c : List (Nat × Nat)) (dp a0 m : Nat) (x : ResT) : Prop := ∀ (w2 : Mem) (c2 Q : List (Nat × Nat)) (f2 p2 : Nat) (d : Den), x = .inr (f2, p2, d) → FrR w w2 → RdP w2 t f2 p2 c2 (P ++ Q) dp → RdX o c2 (P ++ Q) f2 p2 dp → (∀ q ∈ Q, loM m ≤ bindsN q.1) → Pnd c2 Q a0 c2.length d → SameC a0 c c2 → stopM t m f2 → G (if m ≤ 4 then 3 else 2) w2
theorem FailC.fr {G : Nat → Mem → Prop} {t : List Nat} {w w1 : Mem} {x : ResT} (h : FailC G t w x) (hf : FrR w w1) : FailC G t w1 x := fun e w2 k h1 h2 h3 h4 => h e w2 k h1 (hf.tr h2) h3 h4
theorem FailC.at_ {G : Nat → Mem → Prop} {t : List Nat} {w w2 : Mem} {e k : Nat} (h : FailC G t w (.inl e)) (hf : FrR w w2) (hb : BadP w2 t e) (hk : k < 5) : G k w2 := h e w2 k rfl hf hb hk
theorem wlen_nx {t : List Nat} {f : Nat} {wd : List Nat} (h : isW t f wd) : f + wd.length ≤ nxT t f := by
  have h1 := runE_ge t 0 (enT t f)
  have h2 := enT_gt (isW_0 h)
  have h3 := h.2.1
  unfold nxT
  omega
theorem sgT_q {q c : Nat} (h : (c, q) ∈ sgT) : (c = 42 ∧ q = 22) ∨ (c = 47 ∧ q = 23) ∨ (c = 37 ∧ q = 24) := by
  simp [sgT] at h
  omega
theorem sgA_q {q c : Nat} (h : (c, q) ∈ sgA) : (c = 43 ∧ q = 20) ∨ (c = 45 ∧ q = 21) := by
  simp [sgA] at h
  omega
theorem sgC_c {q c : Nat} (h : (c, q) ∈ sgC) : (c = 60 ∧ q = 25) ∨ (c = 62 ∧ q = 26) ∨ (c = 61 ∧ q = 27) := by
  simp [sgC] at h
  omega
section
variable {E : EV} {t : List Nat} {o : Bool} {tb : Nat} {G : Nat → Mem → Prop}
/-- an operation of sums or terms behind what is pending -/
theorem op_step (hS : StepR E tb G) {w : Mem} {f p dp q l : Nat} {c P Q : List (Nat × Nat)} (h : RdP w t f p c (P ++ Q) dp) (hX : RdX o c (P ++ Q) f p dp) (hlo : ∀ z ∈ Q, l ≤ bindsN z.1) (hLB : LB P l) (hq : (sgn t f sgT = some q ∧ l = 6) ∨ (sgn t f sgA = some q ∧ l = 5)) (k : ∀ w2, FrR w w2 → RdP w2 t (nxT t f) p (setC Q c) (P ++ [(q, 0)]) dp → RdX o (setC Q c) (P ++ [(q, 0)]) (nxT t f) p dp → G 1 w2) : G 3 w := by
  have hf := h.1.2.2.2.2.2.1
  have htl := h.1.1.1
  have hW := hX.1.1
  have hs0 : srt t f ≠ 0 := hq.elim (fun z => sgn_0 z.1) (fun z => sgn_0 z.1)
  have hfl := srt_lt hs0
  have hlt : P.length < 400 := by
    have := hX.1.2.1
    rw [List.length_append] at this
    omega
  have g1 := nxT_gt hs0
  have g2 := nxT_le hf
  have hl1 : 1 ≤ l := by omega
  have hset := hX.settle Q.length Q c rfl (fun z hz => bind_31 hl1 (hlo z hz))
  have key : 20 ≤ q ∧ q ≤ 24 → (∀ r w2, (r = some (Value.int (nI 1)) ∧ FrR w w2 ∧ RdP w2 t (nxT t f) p (setC Q c) (P ++ [(q, 0)]) dp) → ∃ x, r = some (Value.int (nI x)) ∧ x < 5 ∧ G x w2) := fun hq2 r w2 ⟨h1, h2, h3⟩ =>
    ⟨1, h1, by decide, k w2 h2 h3 (hset.push (by omega) (by omega) (by show 20 ≤ q ∧ q < 33; omega) (fun z => by have : q = 29 ∨ q = 30 := z; omega) hX.1.2.2.2.1)⟩
  rcases hq with ⟨hq, rfl⟩ | ⟨hq, rfl⟩
  · obtain ⟨ch, hm, hs⟩ := sgn_some hq
    rcases sgT_q hm with ⟨rfl, rfl⟩ | ⟨rfl, rfl⟩ | ⟨rfl, rfl⟩
    · exact hS.2.2.1 w _ h.2.2.2.2.2.1 (c_M_behindSum_op22 h hW hs ⟨hlo, hLB⟩ hlt) (key (by decide))
    · exact hS.2.2.1 w _ h.2.2.2.2.2.1 (c_M_behindSum_op23 h hW hs ⟨hlo, hLB⟩ hlt) (key (by decide))
    · exact hS.2.2.1 w _ h.2.2.2.2.2.1 (c_M_behindSum_op24 h hW hs ⟨hlo, hLB⟩ hlt) (key (by decide))
  · obtain ⟨ch, hm, hs⟩ := sgn_some hq
    rcases sgA_q hm with ⟨rfl, rfl⟩ | ⟨rfl, rfl⟩
    · exact hS.2.2.1 w _ h.2.2.2.2.2.1 (c_M_behindSum_op20 h hW hs ⟨hlo, hLB⟩ hlt) (key (by decide))
    · exact hS.2.2.1 w _ h.2.2.2.2.2.1 (c_M_behindSum_op21 h hW hs ⟨hlo, hLB⟩ hlt) (key (by decide))
theorem pnd_bin {c c2 Q2 : List (Nat × Nat)} {a0 m q : Nat} {a d : Den} (h1 : SegL c a0 m a) (hs : SameC m c c2) (h2 : Pnd c2 Q2 m c2.length d) (hq : 20 ≤ q ∧ q < 28) : Pnd c2 ((q, 0) :: Q2) a0 c2.length (dBin q a d) :=
  Or.inr (Or.inr ⟨hq.1, hq.2, m, a, d, SegS.same h1 hs (Nat.le_refl _), hs.1, h2, rfl⟩)
theorem app_cons {P : List (Nat × Nat)} {q : Nat × Nat} {Q : List (Nat × Nat)} : (P ++ [q]) ++ Q = P ++ (q :: Q) := by rw [List.append_assoc]; rfl
/-- the reader goes as the text is read -/
theorem rd_mach (hS : StepR E tb G) : ∀ (n m dp f p : Nat) (a : Den) (x : ResT), rd t o n m dp f p a = some x → dp ≤ 8 → m ≤ 9 → (5 ≤ m → tb = 1) →
    ((m = 0 ∨ m = 1 ∨ m = 3) → ∀ (w : Mem) (c P : List (Nat × Nat)) (Z : Prop), Start1 E G w Z → RdC w o → RdP w t f p c P dp → RdX o c P f p dp → LB P (limM m) → FailC G t w x → GoodC G t o w P c dp c.length m x → Z) ∧
    ((m = 5 ∨ m = 6 ∨ m = 8) → ∀ (w : Mem) (c P : List (Nat × Nat)), RdC w o → RdP w t f p c P dp → RdX o c P f p dp → LB P (limM m) → (innK P P.length = -1 ∨ innK P P.length = nI 31) → FailC G t w x → GoodC G t o w P c dp c.length m x → G 0 w) ∧
    ((m = 2 ∨ m = 4 ∨ m = 7 ∨ m = 9) → ∀ (w : Mem) (c P Q : List (Nat × Nat)) (a0 : Nat), RdC w o → RdP w t f p c (P ++ Q) dp → RdX o c (P ++ Q) f p dp → LB P (limM m) → (5 ≤ m → innK P P.length = -1 ∨ innK P P.length = nI 31) → (∀ q ∈ Q, loM m ≤ bindsN q.1) → Pnd c Q a0 c.length a → (m = 4 → sgn t f sgT = none) → (m = 9 → ¬ isW t f wAnd) → FailC G t w x → GoodC G t o w P c dp a0 m x → G (if m ≤ 4 then 3 else 2) w) := by
  intro n
  induction n with
  | zero => intro m dp f p a x h; rw [rd] at h; cases h
  | succ n ih =>
    intro m dp f p a x h hdp hm htb
    have st1 : ∀ w, rI w 89 19 = nI 0 → Start1 E G w (G 1 w) := fun w hb Q hT hq => hS.1 w Q hb hT hq
    refine ⟨fun hmm w c P Z hZ hC hR hX hLB hfail hgood => ?_, fun hmm w c P hC hR hX hLB hin hfail hgood => ?_, fun hmm w c P Q a0 hC hR hX hLB hin hlo hpd hst4 hst9 hfail hgood => ?_⟩
    · have hf := hR.1.2.2.2.2.2.1
      have htl := hR.1.1.1
      have hW := hX.1.1
      have hp50 := hX.1.2.2.1
      have hb0 := hR.2.2.2.2.2.1
      have hcs := hX.1.2.1
      rcases hmm with rfl | rfl | rfl
      · -- a part
        by_cases hs : isS t f 91
        · have g1 := nxT_gt (isS_0 hs)
          have hfl := srt_lt (isS_0 hs)
          have g2 := nxT_le hf
          by_cases h8 : 8 ≤ dp
          · rw [rd_0a hs h8] at h
            obtain rfl := Option.some.inj h
            exact hZ _ (c_M_readPart_bN hR hW hs h8 (by omega)) (fun r w2 ⟨h1, h2, h3⟩ => ⟨1, h1, by decide, hfail.at_ h2 h3 (by decide)⟩)
          · rw [rd_0b hs h8] at h
            refine hZ _ (c_M_readPart_bY hR hW hs (by omega) (by omega)) (fun r w2 ⟨h1, h2, h3⟩ => ⟨1, h1, by decide, ?_⟩)
            have hX2 : RdX o c (P ++ [(32, 0)]) (nxT t f) p (dp + 1) := hX.push (by omega) (by omega) (by decide) (fun z => absurd z (by show ¬ (_ ∨ _); decide)) (by omega)
            rcases bind_inv h with ⟨e, h4, rfl⟩ | ⟨f1, p1, d, h4, h5⟩
            · exact ((ih 3 (dp + 1) _ p a _ h4 (by omega) (by decide) (fun z => absurd z (by decide))).1 (by decide) w2 c _ _ (st1 w2 h3.2.2.2.2.2.1) (hC.fr h2) h3 hX2 (LB.snoc (by decide)) (hfail.fr h2) (fun _ _ _ _ _ _ z => by cases z))
            · refine (ih 3 (dp + 1) _ p a _ h4 (by omega) (by decide) (fun z => absurd z (by decide))).1 (by decide) w2 c _ _ (st1 w2 h3.2.2.2.2.2.1) (hC.fr h2) h3 hX2 (LB.snoc (by decide)) (fun _ _ _ z => by cases z) (fun w3 c2 Q f2 p2 d2 e1 e2 e3 e4 e5 e6 e7 e8 => ?_)
              injection e1 with e1
              injection e1 with e1 e1'
              injection e1' with e1' e1''
              subst e1; subst e1'; subst e1''
              have hq31 : ∀ q ∈ Q, q.1 < 31 := fun q hq => bind_31 (l := 5) (by decide) (e5 q hq)
              have hno := no5 (e8.1 (by decide)) (e8.2.1 (by decide))
              have hin2 : innK ((P ++ [(32, 0)]) ++ Q) ((P ++ [(32, 0)]) ++ Q).length = nI 32 := by rw [innK_q hq31, innK_b (by decide)]
              rcases close_inv h5 with ⟨h6, rfl⟩ | ⟨h6, rfl⟩
              · refine hS.2.2.1 w3 _ e3.2.2.2.2.2.1 (c_M_behindSum_closeY e3 e4.1.1 hno h6 hin2 ⟨e5, LB.snoc (by decide)⟩ (by omega)) (fun r w4 ⟨h7, h8, h9⟩ => ⟨3, h7, by decide, ?_⟩)
                obtain ⟨k1, k2⟩ := pnd_set e6
                have hX4 := ((e4.settle Q.length Q c2 rfl hq31).brack (by decide) (by omega : dp ≤ 8)).mono (Nat.le_of_lt (nxT_gt (isS_0 h6)))
                rw [Nat.add_sub_cancel] at h9
                exact hgood w4 (setC Q c2) [] (nxT t f1) p1 d rfl ((h2.tr e2).tr h8) (by rw [List.append_nil]; exact h9) (by rw [List.append_nil]; exact hX4) (fun q hq => by cases hq) k1 (e7.tr k2 (Nat.le_refl _)) ⟨fun z => by omega, fun z => by omega, fun z => by omega, fun z => by omega⟩
              · exact hS.2.2.1 w3 _ e3.2.2.2.2.2.1 (c_M_behindSum_closeN e3 e4.1.1 hno h6 hin2) (fun r w4 ⟨h7, h8, h9⟩ => ⟨3, h7, by decide, hfail.at_ ((h2.tr e2).tr h8) h9 (by decide)⟩)
        · rw [rd_0c hs] at h
          obtain rfl := Option.some.inj h
          refine hZ _ (c_M_readPart_leaf hR hX.1 hC hs) (fun r w2 ⟨h1, h2, h3⟩ => ⟨3, h1, by decide, ?_⟩)
          unfold LeafQ at h3
          cases hl : rdLeaf t o f p with
          | inl e =>
            rw [hl] at h3 hfail
            exact hfail.at_ h2 h3 (by decide)
          | inr y =>
            obtain ⟨f1, p1, d⟩ := y
            rw [hl] at h3 hgood
            obtain ⟨q, h4, h5, h6⟩ := h3
            have hl2 : (c ++ [q]).length = c.length + 1 := by rw [List.length_append]; rfl
            refine hgood w2 (c ++ [q]) [] f1 p1 d rfl h2 (by rw [List.append_nil]; exact h4) (by rw [List.append_nil]; exact ⟨h5, hX.2⟩) (fun q hq => by cases hq) (by show SegL _ _ _ _; rw [hl2]; exact h6) ⟨by omega, fun j hj => cO_app hj⟩ ⟨fun z => by omega, fun z => by omega, fun z => by omega, fun z => by omega⟩
      · -- a term
        rw [rd_1] at h
        rcases bind_inv h with ⟨e, h4, rfl⟩ | ⟨f1, p1, d, h4, h5⟩
        · exact (ih 0 dp f p a _ h4 hdp (by decide) (fun z => absurd z (by decide))).1 (by decide) w c P Z hZ hC hR hX (LB.seven P) hfail (fun _ _ _ _ _ _ z => by cases z)
        · refine (ih 0 dp f p a _ h4 hdp (by decide) (fun z => absurd z (by decide))).1 (by decide) w c P Z hZ hC hR hX (LB.seven P) (fun _ _ _ z => by cases z) (fun w3 c2 Q f2 p2 d2 e1 e2 e3 e4 e5 e6 e7 e8 => ?_)
          injection e1 with e1
          injection e1 with e1 e1'
          injection e1' with e1' e1''
          subst e1; subst e1'; subst e1''
          refine (ih 2 dp _ _ _ _ h5 hdp (by decide) (fun z => absurd z (by decide))).2.2 (by decide) w3 c2 P Q c.length (hC.fr e2) e3 e4 hLB (fun z => absurd z (by decide)) (fun q hq => by have := e5 q hq; have h7 : loM 0 = 7 := rfl; have h6 : loM 2 = 6 := rfl; omega) e6 (fun z => absurd z (by decide)) (fun z => absurd z (by decide)) (hfail.fr e2) (fun w4 c3 Q3 f3 p3 d3 y1 y2 y3 y4 y5 y6 y7 y8 => ?_)
          exact hgood w4 c3 Q3 f3 p3 d3 y1 (e2.tr y2) y3 y4 y5 y6 (e7.tr y7 (Nat.le_refl _)) ⟨fun _ => y8.1 (by decide), fun z => by omega, fun z => by omega, fun z => by omega⟩
      · -- a sum
        rw [rd_3] at h
        rcases bind_inv h with ⟨e, h4, rfl⟩ | ⟨f1, p1, d, h4, h5⟩
        · exact (ih 1 dp f p a _ h4 hdp (by decide) (fun z => absurd z (by decide))).1 (by decide) w c P Z hZ hC hR hX (hLB.mono (by decide)) hfail (fun _ _ _ _ _ _ z => by cases z)
        · refine (ih 1 dp f p a _ h4 hdp (by decide) (fun z => absurd z (by decide))).1 (by decide) w c P Z hZ hC hR hX (hLB.mono (by decide)) (fun _ _ _ z => by cases z) (fun w3 c2 Q f2 p2 d2 e1 e2 e3 e4 e5 e6 e7 e8 => ?_)
          injection e1 with e1
          injection e1 with e1 e1'
          injection e1' with e1' e1''
          subst e1; subst e1'; subst e1''
          refine (ih 4 dp _ _ _ _ h5 hdp (by decide) (fun z => absurd z (by decide))).2.2 (by decide) w3 c2 P Q c.length (hC.fr e2) e3 e4 hLB (fun z => absurd z (by decide)) (fun q hq => by have := e5 q hq; have h7 : loM 1 = 6 := rfl; have h6 : loM 4 = 5 := rfl; omega) e6 (fun _ => e8.1 (by decide)) (fun z => absurd z (by decide)) (hfail.fr e2) (fun w4 c3 Q3 f3 p3 d3 y1 y2 y3 y4 y5 y6 y7 y8 => ?_)
          exact hgood w4 c3 Q3 f3 p3 d3 y1 (e2.tr y2) y3 y4 y5 y6 (e7.tr y7 (Nat.le_refl _)) ⟨fun _ => y8.1 (by decide), fun _ => y8.2.1 (by decide), fun z => by omega, fun z => by omega⟩
    · have hf := hR.1.2.2.2.2.2.1
      have htl := hR.1.1.1
      have hW := hX.1.1
      have hp50 := hX.1.2.2.1
      have hb0 := hR.2.2.2.2.2.1
      have hcs := hX.1.2.1
      rcases hmm with rfl | rfl | rfl
      · -- plain
        have htb1 := htb (by decide)
        by_cases hn : isW t f wNot
        · have g1 := nxT_gt (isW_0 hn)
          have hfl := srt_lt (isW_0 hn)
          have g2 := nxT_le hf
          rw [rd_5a hn] at h
          refine hS.2.1 w _ hb0 (c_M_readPlain_not hR hW hn (by omega)) (fun r w2 ⟨h1, h2, h3⟩ => ⟨0, h1, by decide, ?_⟩)
          have hX2 : RdX o c (P ++ [(28, 0)]) (nxT t f) p dp := hX.push (by omega) (by omega) (by decide) (fun z => absurd z (by show ¬ (_ ∨ _); decide)) hdp
          have hin2 : innK (P ++ [(28, 0)]) (P ++ [(28, 0)]).length = -1 ∨ innK (P ++ [(28, 0)]) (P ++ [(28, 0)]).length = nI 31 := by
            rw [innK_q (fun q hq => by rw [List.mem_singleton] at hq; rw [hq]; show 28 < 31; decide)]
            exact hin
          rcases bind_inv h with ⟨e, h4, rfl⟩ | ⟨f1, p1, d, h4, h5⟩
          · exact (ih 5 dp _ p a _ h4 hdp (by decide) htb).2.1 (by decide) w2 c _ (hC.fr h2) h3 hX2 (LB.snoc (by decide)) hin2 (hfail.fr h2) (fun _ _ _ _ _ _ z => by cases z)
          · obtain rfl := Option.some.inj h5
            refine (ih 5 dp _ p a _ h4 hdp (by decide) htb).2.1 (by decide) w2 c _ (hC.fr h2) h3 hX2 (LB.snoc (by decide)) hin2 (fun _ _ _ z => by cases z) (fun w3 c2 Q f2 p2 d2 e1 e2 e3 e4 e5 e6 e7 e8 => ?_)
            injection e1 with e1
            injection e1 with e1 e1'
            injection e1' with e1' e1''
            subst e1; subst e1'; subst e1''
            rw [app_cons] at e3 e4
            exact hgood w3 c2 ((28, 0) :: Q) f1 p1 (dNot d) rfl (h2.tr e2) e3 e4 (fun q hq => by
              rcases List.mem_cons.mp hq with rfl | hq
              · show 3 ≤ 3; exact Nat.le_refl _
              · exact e5 q hq) (Or.inl ⟨rfl, d, e6, rfl⟩) e7 ⟨fun z => by omega, fun z => by omega, fun z => by omega, fun z => by omega⟩
        · by_cases hs : isS t f 40
          · have g1 := nxT_gt (isS_0 hs)
            have hfl := srt_lt (isS_0 hs)
            have g2 := nxT_le hf
            by_cases h8 : 8 ≤ dp
            · rw [rd_5b hn hs h8] at h
              obtain rfl := Option.some.inj h
              exact hS.2.1 w _ hb0 (c_M_readPlain_bN hR hW hn hs h8 (by omega)) (fun r w2 ⟨h1, h2, h3⟩ => ⟨0, h1, by decide, hfail.at_ h2 h3 (by decide)⟩)
            · rw [rd_5c hn hs h8] at h
              refine hS.2.1 w _ hb0 (c_M_readPlain_bY hR hW hn hs (by omega) (by omega)) (fun r w2 ⟨h1, h2, h3⟩ => ⟨0, h1, by decide, ?_⟩)
              have hX2 : RdX o c (P ++ [(31, 0)]) (nxT t f) p (dp + 1) := hX.push (by omega) (by omega) (by decide) (fun z => absurd z (by show ¬ (_ ∨ _); decide)) (by omega)
              have hinb : innK (P ++ [(31, 0)]) (P ++ [(31, 0)]).length = nI 31 := innK_b (by decide)
              rcases bind_inv h with ⟨e, h4, rfl⟩ | ⟨f1, p1, d, h4, h5⟩
              · exact ((ih 8 (dp + 1) _ p a _ h4 (by omega) (by decide) (fun _ => htb1)).2.1 (by decide) w2 c _ (hC.fr h2) h3 hX2 (LB.snoc (by decide)) (Or.inr hinb) (hfail.fr h2) (fun _ _ _ _ _ _ z => by cases z))
              · refine (ih 8 (dp + 1) _ p a _ h4 (by omega) (by decide) (fun _ => htb1)).2.1 (by decide) w2 c _ (hC.fr h2) h3 hX2 (LB.snoc (by decide)) (Or.inr hinb) (fun _ _ _ z => by cases z) (fun w3 c2 Q f2 p2 d2 e1 e2 e3 e4 e5 e6 e7 e8 => ?_)
                injection e1 with e1
                injection e1 with e1 e1'
                injection e1' with e1' e1''
                subst e1; subst e1'; subst e1''
                have hq31 : ∀ q ∈ Q, q.1 < 31 := fun q hq => bind_31 (l := 1) (by decide) (e5 q hq)
                have hin2 : innK ((P ++ [(31, 0)]) ++ Q) ((P ++ [(31, 0)]) ++ Q).length = nI 31 := by rw [innK_q hq31]; exact hinb
                rcases close_inv h5 with ⟨h6, rfl⟩ | ⟨h6, rfl⟩
                · refine hS.2.2.2 w3 _ e3.2.2.2.2.2.1 (c_M_behindTest_closeY e3 e4.1.1 (e8.2.2.1 (by decide)) (e8.2.2.2 (by decide)) h6 hin2 ⟨e5, LB.snoc (by decide)⟩ (by omega)) (fun r w4 ⟨h7, h8, h9⟩ => ⟨2, h7, by decide, ?_⟩)
                  obtain ⟨k1, k2⟩ := pnd_set e6
                  have hX4 := ((e4.settle Q.length Q c2 rfl hq31).brack (by decide) (by omega : dp ≤ 8)).mono (Nat.le_of_lt (nxT_gt (isS_0 h6)))
                  rw [Nat.add_sub_cancel] at h9
                  exact hgood w4 (setC Q c2) [] (nxT t f1) p1 d rfl ((h2.tr e2).tr h8) (by rw [List.append_nil]; exact h9) (by rw [List.append_nil]; exact hX4) (fun q hq => by cases hq) k1 (e7.tr k2 (Nat.le_refl _)) ⟨fun z => by omega, fun z => by omega, fun z => by omega, fun z => by omega⟩
                · exact hS.2.2.2 w3 _ e3.2.2.2.2.2.1 (c_M_behindTest_closeN e3 e4.1.1 (e8.2.2.1 (by decide)) (e8.2.2.2 (by decide)) h6 hin2) (fun r w4 ⟨h7, h8, h9⟩ => ⟨2, h7, by decide, hfail.at_ ((h2.tr e2).tr h8) h9 (by decide)⟩)
          · -- two sums
            rw [rd_5d hn hs] at h
            -- the first turn stands in readPlain: as in readPart
            have hG1 : (∀ (Q : Option Value → Mem → Prop), T E m_M_readPart 4 0 0 [.ref 89] w Q → (∀ r w2, Q r w2 → ∃ x, r = some (.int (nI x)) ∧ x < 5 ∧ G x w2) → G 0 w) := fun Q hT hq =>
              hS.2.1 w Q hb0 (c_M_readPlain_part hR hW hn hs hT (fun r w2 z => by obtain ⟨x, hx, -⟩ := hq r w2 z; exact ⟨_, hx⟩)) hq
            have ninner : ∀ Q1 : List (Nat × Nat), (∀ q ∈ Q1, q.1 < 31) → ¬ innK (P ++ Q1) (P ++ Q1).length = nI 32 := fun Q1 hq z => by
              rw [innK_q hq] at z
              rcases hin with h1 | h1
              · rw [h1] at z; exact absurd z (by decide)
              · rw [h1] at z; exact absurd z (by decide)
            rcases bind_inv h with ⟨e, h4, rfl⟩ | ⟨f1, p1, d, h4, h5⟩
            · exact (ih 3 dp f p a _ h4 hdp (by decide) (fun z => absurd z (by decide))).1 (by decide) w c P (G 0 w) hG1 hC hR hX (hLB.mono (by decide)) hfail (fun _ _ _ _ _ _ z => by cases z)
            · refine (ih 3 dp f p a _ h4 hdp (by decide) (fun z => absurd z (by decide))).1 (by decide) w c P (G 0 w) hG1 hC hR hX (hLB.mono (by decide)) (fun _ _ _ z => by cases z) (fun w3 c2 Q f2 p2 d2 e1 e2 e3 e4 e5 e6 e7 e8 => ?_)
              injection e1 with e1
              injection e1 with e1 e1'
              injection e1' with e1' e1''
              subst e1; subst e1'; subst e1''
              have hq31 : ∀ q ∈ Q, q.1 < 31 := fun q hq => bind_31 (l := 5) (by decide) (e5 q hq)
              have hq24 : ∀ q ∈ Q, 20 ≤ q.1 ∧ q.1 ≤ 24 := fun q hq => bind5 (e4.2 q (List.mem_append_right _ hq)) (e5 q hq)
              have hno := no5 (e8.1 (by decide)) (e8.2.1 (by decide))
              have hni := ninner Q hq31
              have hnc : ¬ cmpK (P ++ Q) (P ++ Q).length = true := by rw [cmpK_q hq24]; exact cmpK_n hLB
              unfold cmpR at h5
              cases hsg : sgn t f1 sgC with
              | none =>
                rw [hsg] at h5
                obtain rfl := Option.some.inj h5
                have a1 := sgn_none hsg
                rw [htb1] at hS
                exact hS.2.2.1 w3 _ e3.2.2.2.2.2.1 (c_M_behindSum_cmpN e3 e4.1.1 hno hni hnc (a1 (60, 25) (by decide)) (a1 (62, 26) (by decide)) (a1 (61, 27) (by decide))) (fun r w4 ⟨h7, h8, h9⟩ => ⟨1, h7, by decide, hfail.at_ (e2.tr h8) h9 (by decide)⟩)
              | some q =>
                rw [hsg] at h5
                have hlt : P.length < 400 := by
                  have := e4.1.2.1
                  have h0 := srt_lt (sgn_0 hsg)
                  have h00 := e3.1.1.1
                  rw [List.length_append] at this
                  omega
                have g1 := nxT_gt (sgn_0 hsg)
                have g2 := nxT_le e3.1.2.2.2.2.2.1
                have hset := e4.settle Q.length Q c2 rfl hq31
                obtain ⟨k1, k2⟩ := pnd_set e6
                have hqr : 25 ≤ q ∧ q ≤ 27 := by
                  obtain ⟨ch, hm2, -⟩ := sgn_some hsg
                  have := sgC_q hm2
                  omega
                have step : ∀ r w4, (r = some (Value.int (nI 1)) ∧ FrR w3 w4 ∧ RdP w4 t (nxT t f1) p1 (setC Q c2) (P ++ [(q, 0)]) dp) → ∃ x, r = some (Value.int (nI x)) ∧ x < 5 ∧ G x w4 := fun r w4 ⟨h7, h8, h9⟩ => by
                  refine ⟨1, h7, by decide, ?_⟩
                  have hX4 : RdX o (setC Q c2) (P ++ [(q, 0)]) (nxT t f1) p1 dp := hset.push (by omega) (by omega) (by show 20 ≤ q ∧ q < 33; omega) (fun z => by have z2 : q = 29 ∨ q = 30 := z; omega) hdp
                  have hb4 : bindsN q < 5 := by
                    unfold bindsN
                    rw [if_neg (by omega), if_neg (by omega), if_neg (by omega), if_neg (by omega), if_pos (by omega)]
                    decide
                  have hb3 : 3 ≤ bindsN q := by
                    unfold bindsN
                    rw [if_neg (by omega), if_neg (by omega), if_neg (by omega), if_neg (by omega), if_pos (by omega)]
                    decide
                  rcases bind_inv h5 with ⟨e, h10, rfl⟩ | ⟨f3, p3, d3, h10, h11⟩
                  · exact (ih 3 dp _ p1 a _ h10 hdp (by decide) (fun z => absurd z (by decide))).1 (by decide) w4 _ _ _ (st1 w4 h9.2.2.2.2.2.1) (hC.fr (e2.tr h8)) h9 hX4 (LB.snoc hb4) (hfail.fr (e2.tr h8)) (fun _ _ _ _ _ _ z => by cases z)
                  · obtain rfl := Option.some.inj h11
                    refine (ih 3 dp _ p1 a _ h10 hdp (by decide) (fun z => absurd z (by decide))).1 (by decide) w4 _ _ _ (st1 w4 h9.2.2.2.2.2.1) (hC.fr (e2.tr h8)) h9 hX4 (LB.snoc hb4) (fun _ _ _ z => by cases z) (fun w5 c5 Q5 f5 p5 d5 y1 y2 y3 y4 y5 y6 y7 y8 => ?_)
                    injection y1 with y1
                    injection y1 with y1 y1'
                    injection y1' with y1' y1''
                    subst y1; subst y1'; subst y1''
                    have hr31 : ∀ z ∈ Q5, z.1 < 31 := fun z hz => bind_31 (l := 5) (by decide) (y5 z hz)
                    have hr24 : ∀ z ∈ Q5, 20 ≤ z.1 ∧ z.1 ≤ 24 := fun z hz => bind5 (y4.2 z (List.mem_append_right _ hz)) (y5 z hz)
                    have hno5 := no5 (y8.1 (by decide)) (y8.2.1 (by decide))
                    have hni5 : ¬ innK ((P ++ [(q, 0)]) ++ Q5) ((P ++ [(q, 0)]) ++ Q5).length = nI 32 := by
                      rw [app_cons]
                      refine ninner _ (fun z hz => ?_)
                      rcases List.mem_cons.mp hz with rfl | hz
                      · show q < 31; omega
                      · exact hr31 z hz
                    have hc5 : cmpK ((P ++ [(q, 0)]) ++ Q5) ((P ++ [(q, 0)]) ++ Q5).length = true := by rw [cmpK_q hr24]; exact cmpK_y hqr
                    have hS' := hS
                    rw [htb1] at hS'
                    refine hS'.2.2.1 w5 _ y3.2.2.2.2.2.1 (c_M_behindSum_told y3 y4.1.1 hno5 hni5 hc5) (fun r w6 ⟨z1, z2⟩ => ⟨2, z1, by decide, ?_⟩)
                    rw [z2]
                    have hs2 : SameC (setC Q c2).length (setC Q c2) c5 := y7
                    rw [app_cons] at y3 y4
                    exact hgood w5 c5 ((q, 0) :: Q5) f3 p3 (dBin q d d3) rfl ((e2.tr h8).tr y2) y3 y4 (fun z hz => by
                      rcases List.mem_cons.mp hz with rfl | hz
                      · exact hb3
                      · have := y5 z hz
                        have h7 : loM 3 = 5 := rfl
                        have h6 : loM 5 = 3 := rfl
                        omega) (pnd_bin k1 hs2 y6 (by omega)) ((e7.tr k2 (Nat.le_refl _)).tr hs2 (Nat.le_of_lt k1.1)) ⟨fun z => by omega, fun z => by omega, fun z => by omega, fun z => by omega⟩
                have hS' := hS
                rw [htb1] at hS'
                obtain ⟨ch, hm2, hs3⟩ := sgn_some hsg
                rcases sgC_c hm2 with ⟨rfl, rfl⟩ | ⟨rfl, rfl⟩ | ⟨rfl, rfl⟩
                · exact hS'.2.2.1 w3 _ e3.2.2.2.2.2.1 (c_M_behindSum_cmp25 e3 e4.1.1 hno hni hnc hs3 ⟨e5, hLB.mono (by decide)⟩ hlt) step
                · exact hS'.2.2.1 w3 _ e3.2.2.2.2.2.1 (c_M_behindSum_cmp26 e3 e4.1.1 hno hni hnc hs3 ⟨e5, hLB.mono (by decide)⟩ hlt) step
                · exact hS'.2.2.1 w3 _ e3.2.2.2.2.2.1 (c_M_behindSum_cmp27 e3 e4.1.1 hno hni hnc hs3 ⟨e5, hLB.mono (by decide)⟩ hlt) step
      · -- both
        rw [rd_6] at h
        rcases bind_inv h with ⟨e, h4, rfl⟩ | ⟨f1, p1, d, h4, h5⟩
        · exact (ih 5 dp f p a _ h4 hdp (by decide) (fun _ => htb (by decide))).2.1 (by decide) w c P hC hR hX (hLB.mono (by decide)) hin hfail (fun _ _ _ _ _ _ z => by cases z)
        · refine (ih 5 dp f p a _ h4 hdp (by decide) (fun _ => htb (by decide))).2.1 (by decide) w c P hC hR hX (hLB.mono (by decide)) hin (fun _ _ _ z => by cases z) (fun w3 c2 Q f2 p2 d2 e1 e2 e3 e4 e5 e6 e7 e8 => ?_)
          injection e1 with e1
          injection e1 with e1 e1'
          injection e1' with e1' e1''
          subst e1; subst e1'; subst e1''
          refine (ih 7 dp _ _ _ _ h5 hdp (by decide) (fun _ => htb (by decide))).2.2 (by decide) w3 c2 P Q c.length (hC.fr e2) e3 e4 hLB (fun _ => hin) (fun q hq => by have := e5 q hq; have h7 : loM 5 = 3 := rfl; have h6 : loM 7 = 2 := rfl; omega) e6 (fun z => absurd z (by decide)) (fun z => absurd z (by decide)) (hfail.fr e2) (fun w4 c3 Q3 f3 p3 d3 y1 y2 y3 y4 y5 y6 y7 y8 => ?_)
          exact hgood w4 c3 Q3 f3 p3 d3 y1 (e2.tr y2) y3 y4 y5 y6 (e7.tr y7 (Nat.le_refl _)) ⟨fun z => by omega, fun z => by omega, fun _ => y8.2.2.1 (by decide), fun z => by omega⟩
      · -- a test
        rw [rd_8] at h
        rcases bind_inv h with ⟨e, h4, rfl⟩ | ⟨f1, p1, d, h4, h5⟩
        · exact (ih 6 dp f p a _ h4 hdp (by decide) (fun _ => htb (by decide))).2.1 (by decide) w c P hC hR hX (hLB.mono (by decide)) hin hfail (fun _ _ _ _ _ _ z => by cases z)
        · refine (ih 6 dp f p a _ h4 hdp (by decide) (fun _ => htb (by decide))).2.1 (by decide) w c P hC hR hX (hLB.mono (by decide)) hin (fun _ _ _ z => by cases z) (fun w3 c2 Q f2 p2 d2 e1 e2 e3 e4 e5 e6 e7 e8 => ?_)
          injection e1 with e1
          injection e1 with e1 e1'
          injection e1' with e1' e1''
          subst e1; subst e1'; subst e1''
          refine (ih 9 dp _ _ _ _ h5 hdp (by decide) (fun _ => htb (by decide))).2.2 (by decide) w3 c2 P Q c.length (hC.fr e2) e3 e4 hLB (fun _ => hin) (fun q hq => by have := e5 q hq; have h7 : loM 6 = 2 := rfl; have h6 : loM 9 = 1 := rfl; omega) e6 (fun z => absurd z (by decide)) (fun _ => e8.2.2.1 (by decide)) (hfail.fr e2) (fun w4 c3 Q3 f3 p3 d3 y1 y2 y3 y4 y5 y6 y7 y8 => ?_)
          exact hgood w4 c3 Q3 f3 p3 d3 y1 (e2.tr y2) y3 y4 y5 y6 (e7.tr y7 (Nat.le_refl _)) ⟨fun z => by omega, fun z => by omega, fun _ => y8.2.2.1 (by decide), fun _ => y8.2.2.2 (by decide)⟩
    · have hf := hR.1.2.2.2.2.2.1
      have hb0 := hR.2.2.2.2.2.1
      have hal := pnd_len Q hpd (Nat.le_refl _)
      have hsame : SameC a0 c c := ⟨by omega, fun _ _ => ⟨rfl, rfl⟩⟩
      obtain ⟨k1, k2⟩ := pnd_set hpd
      have hal2 := k1.1
      have arith : ∀ (q m1 : Nat) (l : Nat), (m1 = 0 ∧ l = 6 ∧ m = 2 ∧ sgn t f sgT = some q) ∨ (m1 = 1 ∧ l = 5 ∧ m = 4 ∧ sgn t f sgA = some q) → bindR (rd t o n m1 dp (nxT t f) p a) (fun f1 p1 d => rd t o n m dp f1 p1 (dBin q a d)) = some x → G 3 w := by
        intro q m1 l hq hb
        have hm4 : m ≤ 4 := by omega
        have hl : limM m = l ∧ loM m = l := by
          rcases hq with ⟨-, h2, h3, -⟩ | ⟨-, h2, h3, -⟩
          · rw [h2, h3]; exact ⟨rfl, rfl⟩
          · rw [h2, h3]; exact ⟨rfl, rfl⟩
        have hqb : 20 ≤ q ∧ q ≤ 24 ∧ l ≤ bindsN q ∧ bindsN q < limM m1 := by
          rcases hq with ⟨h1, h2, -, h4⟩ | ⟨h1, h2, -, h4⟩
          · obtain ⟨ch, hm2, -⟩ := sgn_some h4
            rw [h1, h2]
            rcases sgT_q hm2 with ⟨-, rfl⟩ | ⟨-, rfl⟩ | ⟨-, rfl⟩ <;> decide
          · obtain ⟨ch, hm2, -⟩ := sgn_some h4
            rw [h1, h2]
            rcases sgA_q hm2 with ⟨-, rfl⟩ | ⟨-, rfl⟩ <;> decide
        refine op_step (q := q) (l := l) hS hR hX (by rw [← hl.2]; exact hlo) (by rw [← hl.1]; exact hLB) (by
          rcases hq with ⟨-, h2, -, h4⟩ | ⟨-, h2, -, h4⟩
          · exact Or.inl ⟨h4, h2⟩
          · exact Or.inr ⟨h4, h2⟩) (fun w2 h2 h3 h4 => ?_)
        have hm1 : m1 = 0 ∨ m1 = 1 ∨ m1 = 3 := by omega
        rcases bind_inv hb with ⟨e, h5, rfl⟩ | ⟨f1, p1, d, h5, h6⟩
        · exact (ih m1 dp _ p a _ h5 hdp (by omega) (fun z => by omega)).1 hm1 w2 _ _ _ (st1 w2 h3.2.2.2.2.2.1) (hC.fr h2) h3 h4 (LB.snoc hqb.2.2.2) (hfail.fr h2) (fun _ _ _ _ _ _ z => by cases z)
        · refine (ih m1 dp _ p a _ h5 hdp (by omega) (fun z => by omega)).1 hm1 w2 _ _ _ (st1 w2 h3.2.2.2.2.2.1) (hC.fr h2) h3 h4 (LB.snoc hqb.2.2.2) (fun _ _ _ z => by cases z) (fun w3 c3 Q3 f3 p3 d3 y1 y2 y3 y4 y5 y6 y7 y8 => ?_)
          injection y1 with y1
          injection y1 with y1 y1'
          injection y1' with y1' y1''
          subst y1; subst y1'; subst y1''
          have e4 : (if m1 ≤ 4 then 3 else 2) = 3 := if_pos (by omega)
          rw [e4]
          rw [app_cons] at y3 y4
          have hlo3 : ∀ z ∈ (q, 0) :: Q3, loM m ≤ bindsN z.1 := fun z hz => by
            rw [hl.2]
            rcases List.mem_cons.mp hz with rfl | hz
            · exact hqb.2.2.1
            · have := y5 z hz
              have hlm : l ≤ loM m1 := by
                rcases hq with ⟨h1, h2, -, -⟩ | ⟨h1, h2, -, -⟩
                · rw [h1, h2]; decide
                · rw [h1, h2]; decide
              omega
          have := (ih m dp _ _ _ _ h6 hdp hm htb).2.2 hmm w3 c3 P ((q, 0) :: Q3) a0 (hC.fr (h2.tr y2)) y3 y4 hLB hin hlo3 (pnd_bin k1 y7 y6 (by omega)) (fun z => y8.1 (by omega)) (fun z => by omega) (hfail.fr (h2.tr y2)) (fun w4 c4 Q4 f4 p4 d4 z1 z2 z3 z4 z5 z6 z7 z8 => hgood w4 c4 Q4 f4 p4 d4 z1 ((h2.tr y2).tr z2) z3 z4 z5 z6 ((k2.tr (SameC.tr (a := a0) ⟨by have := y7.1; omega, fun j hj => y7.2 j (by omega)⟩ z7 (Nat.le_refl _)) (Nat.le_refl _))) z8)
          rw [if_pos hm4] at this
          exact this
      have logic : ∀ (q m1 l : Nat) (wd : List Nat), (q = 29 ∧ m1 = 5 ∧ l = 2 ∧ m = 7 ∧ wd = wAnd) ∨ (q = 30 ∧ m1 = 6 ∧ l = 1 ∧ m = 9 ∧ wd = wOr) → isW t f wd → bindR (rd t o n m1 dp (nxT t f) p a) (fun f1 p1 d => rd t o n m dp f1 p1 (dAnd q a d)) = some x → G 2 w := by
        intro q m1 l wd hq hw hb
        have hm4 : ¬ m ≤ 4 := by omega
        have htl := hR.1.1.1
        have hfl := srt_lt (isW_0 hw)
        have g2 := nxT_le hf
        have g1 : f + 2 ≤ nxT t f := by
          have := wlen_nx hw
          rcases hq with ⟨-, -, -, -, h5⟩ | ⟨-, -, -, -, h5⟩
          · rw [h5] at this
            have h6 : wAnd.length = 3 := rfl
            omega
          · rw [h5] at this
            have h6 : wOr.length = 2 := rfl
            omega
        have hl : limM m = l ∧ loM m = l ∧ 1 ≤ l := by
          rcases hq with ⟨-, -, h2, h3, -⟩ | ⟨-, -, h2, h3, -⟩
          · rw [h2, h3]; exact ⟨rfl, rfl, by decide⟩
          · rw [h2, h3]; exact ⟨rfl, rfl, by decide⟩
        have hqb : (q = 29 ∨ q = 30) ∧ l ≤ bindsN q ∧ bindsN q < limM m1 ∧ l ≤ loM m1 := by
          rcases hq with ⟨h1, h2, h3, -, -⟩ | ⟨h1, h2, h3, -, -⟩
          · rw [h1, h2, h3]; decide
          · rw [h1, h2, h3]; decide
        have hq31 : ∀ z ∈ Q, z.1 < 31 := fun z hz => bind_31 (l := l) hl.2.2 (by rw [← hl.2.1]; exact hlo z hz)
        have hset := hX.settle Q.length Q c rfl hq31
        have hcl := hX.1.2.1
        rw [List.length_append] at hcl
        have hsl := setC_len Q c
        have hsetW : SetW P Q l := ⟨by rw [← hl.2.1]; exact hlo, by rw [← hl.1]; exact hLB⟩
        have hin2 := hin (by omega)
        have step : ∀ r w2, (r = some (Value.int (nI 0)) ∧ FrR w w2 ∧ RdP w2 t (nxT t f) p (setC Q c ++ [(q, 0)]) (P ++ [(q, (setC Q c).length)]) dp) → ∃ x, r = some (Value.int (nI x)) ∧ x < 5 ∧ G x w2 := fun r w2 ⟨h1, h2, h3⟩ => by
          refine ⟨0, h1, by decide, ?_⟩
          have hX4 := hset.jump (q := q) g1 (by omega) hqb.1
          have hl2 : (setC Q c ++ [(q, 0)]).length = (setC Q c).length + 1 := by rw [List.length_append]; rfl
          have hin3 : innK (P ++ [(q, (setC Q c).length)]) (P ++ [(q, (setC Q c).length)]).length = -1 ∨ innK (P ++ [(q, (setC Q c).length)]) (P ++ [(q, (setC Q c).length)]).length = nI 31 := by
            rw [innK_q (fun z hz => by rw [List.mem_singleton] at hz; rw [hz]; show q < 31; omega)]
            exact hin2
          have hm1 : m1 = 5 ∨ m1 = 6 ∨ m1 = 8 := by omega
          rcases bind_inv hb with ⟨e, h5, rfl⟩ | ⟨f1, p1, d, h5, h6⟩
          · exact (ih m1 dp _ p a _ h5 hdp (by omega) (fun _ => htb (by omega))).2.1 hm1 w2 _ _ (hC.fr h2) h3 hX4 (LB.snoc hqb.2.2.1) hin3 (hfail.fr h2) (fun _ _ _ _ _ _ z => by cases z)
          · refine (ih m1 dp _ p a _ h5 hdp (by omega) (fun _ => htb (by omega))).2.1 hm1 w2 _ _ (hC.fr h2) h3 hX4 (LB.snoc hqb.2.2.1) hin3 (fun _ _ _ z => by cases z) (fun w3 c3 Q3 f3 p3 d3 y1 y2 y3 y4 y5 y6 y7 y8 => ?_)
            injection y1 with y1
            injection y1 with y1 y1'
            injection y1' with y1' y1''
            subst y1; subst y1'; subst y1''
            have e4 : (if m1 ≤ 4 then 3 else 2) = 2 := if_neg (by omega)
            rw [e4]
            rw [app_cons] at y3 y4
            rw [hl2] at y6 y7
            have hlo3 : ∀ z ∈ (q, (setC Q c).length) :: Q3, loM m ≤ bindsN z.1 := fun z hz => by
              rw [hl.2.1]
              rcases List.mem_cons.mp hz with rfl | hz
              · exact hqb.2.1
              · have := y5 z hz
                omega
            have hsm : SameC (setC Q c).length (setC Q c) c3 := ⟨by have := y7.1; omega, fun j hj => ⟨(y7.2 j (by omega)).1.trans (cO_app hj).1, (y7.2 j (by omega)).2.trans (cO_app hj).2⟩⟩
            have hpn : Pnd c3 ((q, (setC Q c).length) :: Q3) a0 c3.length (dAnd q a d) := Or.inr (Or.inl ⟨hqb.1, a, d, SegS.same k1 hsm (Nat.le_refl _), by have := y7.1; show (setC Q c).length < _; omega, ((y7.2 _ (Nat.lt_succ_self _)).1.trans cO_last.1), y6, rfl⟩)
            have := (ih m dp _ _ _ _ h6 hdp hm htb).2.2 hmm w3 c3 P ((q, (setC Q c).length) :: Q3) a0 (hC.fr (h2.tr y2)) y3 y4 hLB hin hlo3 hpn (fun z => by omega) (fun z => y8.2.2.1 (by omega)) (hfail.fr (h2.tr y2)) (fun w4 c4 Q4 f4 p4 d4 z1 z2 z3 z4 z5 z6 z7 z8 => hgood w4 c4 Q4 f4 p4 d4 z1 ((h2.tr y2).tr z2) z3 z4 z5 z6 ((k2.tr (SameC.tr (a := a0) ⟨by have := hsm.1; omega, fun j hj => hsm.2 j (by omega)⟩ z7 (Nat.le_refl _)) (Nat.le_refl _))) z8)
            rw [if_neg hm4] at this
            exact this
        rcases hq with ⟨rfl, -, rfl, -, rfl⟩ | ⟨rfl, -, rfl, h9, rfl⟩
        · exact hS.2.2.2 w _ hb0 (c_M_behindTest_29 hR hX.1.1 hw hsetW (by omega) (by omega)) step
        · exact hS.2.2.2 w _ hb0 (c_M_behindTest_30 hR hX.1.1 hw (hst9 h9) hsetW (by omega) (by omega)) step
      rcases hmm with rfl | rfl | rfl | rfl
      · cases hsg : sgn t f sgT with
        | none =>
          rw [rd_2n hsg] at h
          obtain rfl := Option.some.inj h
          exact hgood w c Q f p a rfl (FrR.rf w) hR hX hlo hpd hsame ⟨fun _ => hsg, fun z => by omega, fun z => by omega, fun z => by omega⟩
        | some q =>
          rw [rd_2s hsg] at h
          exact arith q 0 6 (Or.inl ⟨rfl, rfl, rfl, hsg⟩) h
      · cases hsg : sgn t f sgA with
        | none =>
          rw [rd_4n hsg] at h
          obtain rfl := Option.some.inj h
          exact hgood w c Q f p a rfl (FrR.rf w) hR hX hlo hpd hsame ⟨fun _ => hst4 rfl, fun _ => hsg, fun z => by omega, fun z => by omega⟩
        | some q =>
          rw [rd_4s hsg] at h
          exact arith q 1 5 (Or.inr ⟨rfl, rfl, rfl, hsg⟩) h
      · by_cases hw : isW t f wAnd
        · rw [rd_7y hw] at h
          exact logic 29 5 2 wAnd (Or.inl ⟨rfl, rfl, rfl, rfl, rfl⟩) hw h
        · rw [rd_7n hw] at h
          obtain rfl := Option.some.inj h
          exact hgood w c Q f p a rfl (FrR.rf w) hR hX hlo hpd hsame ⟨fun z => by omega, fun z => by omega, fun _ => hw, fun z => by omega⟩
      · by_cases hw : isW t f wOr
        · rw [rd_9y hw] at h
          exact logic 30 6 1 wOr (Or.inr ⟨rfl, rfl, rfl, rfl, rfl⟩) hw h
        · rw [rd_9n hw] at h
          obtain rfl := Option.some.inj h
          exact hgood w c Q f p a rfl (FrR.rf w) hR hX hlo hpd hsame ⟨fun z => by omega, fun z => by omega, fun _ => hst9 rfl, fun _ => hw⟩
end
