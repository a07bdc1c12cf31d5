
/-- how dear what comes may be -/
def phW : Nat → Nat
  | 0 => 1
  | r + 1 => 2 + 12 * phW r
def phS (g : GC) (lf : Nat → Nat) : Nat → Nat
  | 0 => 0
  | u + 1 => pop (lf u) * phW (gV g - 1 - u) + 1 + phS g lf u
theorem phW_le : ∀ r, r < 5 → phW r ≤ 24506 := by decide
theorem phS_le {g : GC} {lf : Nat → Nat} (hV : gV g ≤ 5) : ∀ u, phS g lf u ≤ u * 300000
  | 0 => Nat.le_refl _
  | u + 1 => by
    have h1 := phS_le (lf := lf) hV u
    have h2 := pop_le (lf u)
    have h3 := phW_le (gV g - 1 - u) (by omega)
    have h4 : pop (lf u) * phW (gV g - 1 - u) ≤ 12 * 24506 := Nat.mul_le_mul h2 h3
    unfold phS
    omega
theorem phS_c {g : GC} {lf lf2 : Nat → Nat} : ∀ u, (∀ k, k < u → lf2 k = lf k) → phS g lf2 u = phS g lf u
  | 0, _ => rfl
  | u + 1, h => by
    unfold phS
    rw [phS_c u (fun k hk => h k (by omega)), h u (Nat.lt_succ_self u)]
/-- only place, masks, level and the like changed -/
def FrAd (w w2 : Mem) : Prop := (∀ a, a < 36 ∨ 38 < a → rI w2 a = rI w a) ∧ w2.2 = w.2
theorem FrAd.rf (w : Mem) : FrAd w w := ⟨fun _ _ => rfl, rfl⟩
theorem FrAd.tr {a b c : Mem} (h : FrAd a b) (h2 : FrAd b c) : FrAd a c := ⟨fun x hx => (h2.1 x hx).trans (h.1 x hx), h2.2.trans h.2⟩
theorem FrAd.I {w w2 : Mem} {o k : Nat} {x : Int32} (ho : 36 ≤ o ∧ o ≤ 38) (h : FrAd w w2) : FrAd w (sI w2 o k x) := ⟨fun a ha => by rw [rI_sI_ne _ _ _ (by omega)]; exact h.1 a ha, h.2⟩
theorem FrAd.W {w w2 : Mem} (h : FrAd w w2) : FrWk w w2 := ⟨fun a ha => h.1 a (by omega), h.2⟩
/-- the walk is at its end -/
def WkZ (w : Mem) : Prop := rI w 36 7 = -1 ∧ rI w 36 10 = nI 0
/-- somewhere in the walk: what is still to come, how many steps in all -/
def WkM (w : Mem) (g : GC) (c : Nat → Nat) (ws : List (List Nat)) (tot : Nat) (lf : Nat → Nat) (q : List Nat) : Prop := WkB w g lf q ∧ ws = remW g c lf q (q.length + 1) ∧ ∃ sN : Nat, rI w 36 9 = nI sN ∧ sN + stpW g c lf q (q.length + 1) = tot
def WkS (w : Mem) (g : GC) (c : Nat → Nat) (ws : List (List Nat)) (tot : Nat) : Prop := (WkZ w ∧ ws = [] ∧ rI w 36 9 = nI tot) ∨ (gV g = 0 ∧ rI w 36 7 = -1 ∧ rI w 36 10 = nI 1 ∧ ws = [[]] ∧ rI w 36 9 = nI tot) ∨ ∃ lf q, WkM w g c ws tot lf q
/-- a way lies; t is still to come -/
def WkT (w : Mem) (g : GC) (c : Nat → Nat) (x : List Nat) (t : List (List Nat)) (tot : Nat) : Prop := x.length = gV g ∧ (∀ y ∈ x, y < gN g) ∧ (∀ u, u < gV g → rI w 37 u = nI (gA x u)) ∧ ((gV g = 0 ∧ t = [] ∧ WkZ w ∧ rI w 36 9 = nI tot) ∨ ∃ lf q n, q.length + 1 = gV g ∧ x = q ++ [n] ∧ WkM w g c t tot lf q)
theorem WkT.S {w : Mem} {g : GC} {c : Nat → Nat} {x : List Nat} {t : List (List Nat)} {tot : Nat} (h : WkT w g c x t tot) : WkS w g c t tot := by
  obtain ⟨h1, h2, h3, h4⟩ := h
  rcases h4 with ⟨h4, h5, h6, h7⟩ | ⟨lf, q, n, h4, h5, h6⟩
  · exact Or.inl ⟨h6, h5, h7⟩
  · exact Or.inr (Or.inr ⟨lf, q, h6⟩)
def AdvP (w : Mem) (g : GC) (c : Nat → Nat) (ws : List (List Nat)) (tot : Nat) (r : Option Value) : Prop := match ws with
  | [] => r = some (.int (nI 0)) ∧ WkZ w ∧ rI w 36 9 = nI tot
  | x :: t => r = some (.int (nI 1)) ∧ WkT w g c x t tot
theorem take_app {q : List Nat} {x k : Nat} (h : k ≤ q.length) : (q ++ [x]).take k = q.take k := List.take_append_of_le_length h
theorem gA_app1 {q : List Nat} {x : Nat} : gA (q ++ [x]) q.length = x := by rw [gA_app, if_pos rfl]
theorem gA_app0 {q : List Nat} {x k : Nat} (h : k < q.length) : gA (q ++ [x]) k = gA q k := by rw [gA_app, if_neg (by omega)]
theorem remM_0 (g : GC) (c : Nat → Nat) (r : Nat) (q : List Nat) : remM g c 0 r q = [] ∧ stpM g c 0 r q = 0 := by
  unfold remM stpM
  rw [bits_0]
  exact ⟨rfl, rfl⟩
theorem remM_s {g : GC} {c : Nat → Nat} {m r : Nat} {q : List Nat} (hN : gN g ≤ 12) (h0 : 0 < m) (h : m < 2 ^ gN g) : remM g c m r q = extsC g c r (q ++ [tz m]) ++ remM g c (m &&& (m - 1)) r q ∧ stpM g c m r q = stepsC g c r (q ++ [tz m]) + stpM g c (m &&& (m - 1)) r q := by
  unfold remM stpM
  rw [bits_pop hN h0 h, List.flatMap_cons, List.map_cons, List.sum_cons]
  exact ⟨rfl, rfl⟩
/-- back from a depth where nothing is left -/
theorem WkM.up {w : Mem} {g : GC} {c lf : Nat → Nat} {q : List Nat} {x tot : Nat} {ws : List (List Nat)} (h : WkM w g c ws tot lf (q ++ [x])) (h0 : lf (q.length + 1) = 0) : WkM (sI (sI w 36 7 (nI q.length)) 36 8 (nI (takB q))) g c ws tot lf q := by
  obtain ⟨⟨b1, b2, b3, b4, b5, b6, b7, b8⟩, hw, sN, hs1, hs2⟩ := h
  rw [List.length_append, List.length_singleton] at b1 b5 b6
  rw [List.length_append, List.length_singleton] at hw hs2
  rw [remW, h0, (remM_0 g c _ _).1, List.nil_append] at hw
  rw [stpW, h0, (remM_0 g c _ _).2, Nat.zero_add] at hs2
  obtain ⟨e1, e2⟩ := remW_c (g := g) (c := c) (lf := lf) (lf2 := lf) (q := q) (q2 := q ++ [x]) (q.length + 1) (fun k hk => ⟨rfl, take_app (by omega)⟩)
  rw [e1] at hw
  rw [e2] at hs2
  have hnd := List.nodup_append.mp b2
  refine ⟨⟨by omega, hnd.1, fun y hy => b3 y (List.mem_append_left _ hy), fun u hu => ?_, fun u hu => ?_, ?_, ?_, ?_⟩, hw, sN, ?_, hs2⟩
  · rw [rI_sI_ne _ _ _ (by decide), rI_sI_ne _ _ _ (by decide), b4 u (by rw [List.length_append]; omega), gA_app0 hu]
  · rw [rI_sI_ne _ _ _ (by decide), rI_sI_ne _ _ _ (by decide)]
    obtain ⟨c1, c2, c3⟩ := b5 u (by omega)
    refine ⟨c1, c2, fun y hy => ?_⟩
    have := c3 y hy
    rwa [take_app hu] at this
  · rw [rI_sI, upd_eq, if_neg (by decide), rI_sI, upd_eq, if_pos rfl]
  · rw [rI_sI, upd_eq, if_pos rfl]
  · rw [rI_sI, upd_eq, if_neg (by decide), rI_sI, upd_eq, if_neg (by decide)]; exact b8
  · rw [rI_sI, upd_eq, if_neg (by decide), rI_sI, upd_eq, if_neg (by decide)]; exact hs1
theorem tb_ltN {m N x : Nat} (h : m < 2 ^ N) (hx : m.testBit x = true) : x < N := by
  rcases Nat.lt_or_ge x N with z | z
  · exact z
  · rw [Nat.testBit_lt_two_pow (Nat.lt_of_lt_of_le h (Nat.pow_le_pow_right (by decide) z))] at hx
    cases hx
/-- the node taken, its mask without it -/
def poW (w : Mem) (l m : Nat) : Mem := sI (sI w 38 l (nI (m &&& (m - 1)))) 37 l (nI (tz m))
/-- a step on to the last vertex: a way lies -/
theorem WkM.last {w : Mem} {g : GC} {c lf : Nat → Nat} {q : List Nat} {tot : Nat} {ws : List (List Nat)} (h : WkM w g c ws tot lf q) (hW : WG g) (h0 : lf q.length ≠ 0) (hl : q.length + 1 = gV g) : ∃ x t, ws = x :: t ∧ WkT (poW w q.length (lf q.length)) g c x t tot := by
  obtain ⟨⟨b1, b2, b3, b4, b5, b6, b7, b8⟩, hw, sN, hs1, hs2⟩ := h
  obtain ⟨c1, c2, c3⟩ := b5 q.length (Nat.le_refl _)
  have hN := hW.n
  have hm : lf q.length < 4096 := Nat.lt_of_lt_of_le c2 (Nat.pow_le_pow_right (by decide) hN)
  obtain ⟨t1, t2, t3, t4, t5⟩ := tz_n (m := lf q.length) (by omega) hm
  have ht := tb_ltN c2 t1
  obtain ⟨r1, r2⟩ := remM_s (g := g) (c := c) (r := gV g - 1 - q.length) (q := q.take q.length) hN (by omega) c2
  rw [remW, r1, show gV g - 1 - q.length = 0 by omega, List.take_length, extsC, List.append_assoc] at hw
  rw [stpW, r2, show gV g - 1 - q.length = 0 by omega, List.take_length, stepsC, Nat.zero_add] at hs2
  have hlf : ∀ k, k < q.length → lfU lf q.length (lf q.length &&& (lf q.length - 1)) k = lf k ∧ q.take k = q.take k := fun k hk => ⟨if_neg (by omega), rfl⟩
  have hlq : lfU lf q.length (lf q.length &&& (lf q.length - 1)) q.length = lf q.length &&& (lf q.length - 1) := if_pos rfl
  obtain ⟨e1, e2⟩ := remW_c (g := g) (c := c) (lf := lf) (lf2 := lfU lf q.length (lf q.length &&& (lf q.length - 1))) (q := q) (q2 := q) q.length hlf
  refine ⟨q ++ [tz (lf q.length)], _, hw, ?_, ?_, ?_, Or.inr ⟨lfU lf q.length (lf q.length &&& (lf q.length - 1)), q, tz (lf q.length), hl, rfl, ⟨b1, b2, b3, ?_, ?_, ?_, ?_, ?_⟩, ?_, sN, ?_, ?_⟩⟩
  · rw [List.length_append, List.length_singleton]; exact hl
  · intro y hy
    rw [List.mem_append, List.mem_singleton] at hy
    rcases hy with hy | hy
    · exact b3 y hy
    · rw [hy]; exact ht
  · intro u hu
    unfold poW
    rw [rI_sI, upd_eq]
    by_cases e : u = q.length
    · rw [if_pos e, e, gA_app1]
    · rw [if_neg e, rI_sI_ne _ _ _ (by decide), gA_app0 (by omega)]; exact b4 u (by omega)
  · intro u hu
    unfold poW
    rw [rI_sI, upd_eq, if_neg (by omega), rI_sI_ne _ _ _ (by decide)]; exact b4 u hu
  · intro u hu
    unfold poW
    rw [rI_sI_ne _ _ _ (by decide), rI_sI, upd_eq]
    by_cases e : u = q.length
    · rw [if_pos e, e, hlq]
      exact ⟨rfl, Nat.lt_of_le_of_lt Nat.and_le_left c2, fun y hy => c3 y (by rw [Nat.testBit_and, Bool.and_eq_true] at hy; exact hy.1)⟩
    · rw [if_neg e, (hlf u (by omega)).1]; exact b5 u hu
  · unfold poW; rw [rI_sI_ne _ _ _ (by decide), rI_sI_ne _ _ _ (by decide)]; exact b6
  · unfold poW; rw [rI_sI_ne _ _ _ (by decide), rI_sI_ne _ _ _ (by decide)]; exact b7
  · unfold poW; rw [rI_sI_ne _ _ _ (by decide), rI_sI_ne _ _ _ (by decide)]; exact b8
  · rw [remW, hlq, e1, show gV g - 1 - q.length = 0 by omega, List.take_length]; rfl
  · unfold poW; rw [rI_sI_ne _ _ _ (by decide), rI_sI_ne _ _ _ (by decide)]; exact hs1
  · rw [stpW, hlq, e2, show gV g - 1 - q.length = 0 by omega, List.take_length]; exact hs2
/-- a step on to a deeper vertex -/
theorem WkM.deep {w : Mem} {g : GC} {c lf : Nat → Nat} {q : List Nat} {tot s : Nat} {ws : List (List Nat)} (h : WkM w g c ws tot lf q) (hs : rI w 36 9 = nI s) (hss : s + stpW g c lf q (q.length + 1) = tot) (hW : WG g) (hc : ∀ v, v < gV g → c v < 2 ^ gN g) (h0 : lf q.length ≠ 0) (hl : q.length + 1 < gV g) : ∃ lf2, WkM (enW (sI (poW w q.length (lf q.length)) 36 8 (nI (takB (q ++ [tz (lf q.length)])))) (q.length + 1) (opnN g c (q ++ [tz (lf q.length)]) (q.length + 1)) s) g c ws tot lf2 (q ++ [tz (lf q.length)]) ∧ phS g lf2 (q.length + 2) + 1 ≤ phS g lf (q.length + 1) := by
  obtain ⟨⟨b1, b2, b3, b4, b5, b6, b7, b8⟩, hw, -⟩ := h
  obtain ⟨c1, c2, c3⟩ := b5 q.length (Nat.le_refl _)
  have hN := hW.n
  have hm : lf q.length < 4096 := Nat.lt_of_lt_of_le c2 (Nat.pow_le_pow_right (by decide) hN)
  obtain ⟨t1, t2, t3, t4, t5⟩ := tz_n (m := lf q.length) (by omega) hm
  have ht := tb_ltN c2 t1
  have htq : tz (lf q.length) ∉ q := by have := c3 _ t1; rwa [List.take_length] at this
  generalize hx : tz (lf q.length) = x at *
  have hq2 : ∀ y ∈ q ++ [x], y < gN g := fun y hy => by
    rw [List.mem_append, List.mem_singleton] at hy
    rcases hy with hy | hy
    · exact b3 y hy
    · rw [hy]; exact ht
  have hlen : (q ++ [x]).length = q.length + 1 := by rw [List.length_append, List.length_singleton]
  obtain ⟨r1, r2⟩ := remM_s (g := g) (c := c) (r := gV g - 1 - q.length) (q := q.take q.length) hN (by omega) c2
  obtain ⟨r, hr⟩ : ∃ r, gV g - 1 - q.length = r + 1 := ⟨gV g - 1 - q.length - 1, by omega⟩
  have hop := opn_mask (c := c) hW hq2
  rw [hlen] at hop
  have hom := opnN_lt (g := g) (c := c) (q := q ++ [x]) (N := gN g) (by rw [hlen]; exact hc _ hl) (q.length + 1)
  generalize ho : opnN g c (q ++ [x]) (q.length + 1) = o at *
  obtain ⟨m2, hm2⟩ : ∃ m2, lf q.length &&& (lf q.length - 1) = m2 := ⟨_, rfl⟩
  rw [remW, r1, hr, List.take_length, hx, ← remM_ok hop, hm2] at hw
  rw [stpW, r2, hr, List.take_length, hx, ← stpM_ok (r := r) hop, bits_pl hN hom, hm2] at hss
  obtain ⟨lf2, hlf2⟩ : ∃ z, lfU (lfU lf q.length m2) (q.length + 1) o = z := ⟨_, rfl⟩
  have l1 : lf2 (q.length + 1) = o := by rw [← hlf2]; exact if_pos rfl
  have l0 : lf2 q.length = m2 := by rw [← hlf2]; unfold lfU; rw [if_neg (by omega), if_pos rfl]
  have lb : ∀ k, k < q.length → lf2 k = lf k := fun k hk => by rw [← hlf2]; unfold lfU; rw [if_neg (by omega), if_neg (by omega)]
  obtain ⟨e1, e2⟩ := remW_c (g := g) (c := c) (lf := lf) (lf2 := lf2) (q := q) (q2 := q ++ [x]) q.length (fun k hk => ⟨lb k hk, take_app (by omega)⟩)
  have htk : (q ++ [x]).take (q.length + 1) = q ++ [x] := by rw [← hlen, List.take_length]
  have htk0 : (q ++ [x]).take q.length = q := by rw [take_app (Nat.le_refl _), List.take_length]
  have er : remW g c lf2 (q ++ [x]) (q.length + 1 + 1) = ws := by
    rw [remW, remW, l1, l0, e1, htk, htk0, hr, show gV g - 1 - (q.length + 1) = r by omega, hw, List.append_assoc]
  have es : stpW g c lf2 (q ++ [x]) (q.length + 1 + 1) + pop o = stpW g c lf q (q.length + 1) - (stpW g c lf q (q.length + 1)) + (pop o + stpM g c o r (q ++ [x]) + stpM g c m2 (r + 1) q + stpW g c lf q q.length) := by
    rw [stpW, stpW, l1, l0, e2, htk, htk0, hr, show gV g - 1 - (q.length + 1) = r by omega]
    omega
  refine ⟨lf2, ⟨⟨by rw [hlen]; exact hl, ?_, hq2, ?_, ?_, ?_, ?_, ?_⟩, by rw [hlen]; exact er.symm, s + pop o, ?_, by rw [hlen]; omega⟩, ?_⟩
  · rw [List.nodup_append]
    exact ⟨b2, (by simp), fun a ha b hb e => htq (by rw [List.mem_singleton] at hb; rw [← hb, ← e]; exact ha)⟩
  · intro u hu
    rw [hlen] at hu
    unfold enW poW
    rw [rI_sI_ne _ _ _ (by decide), rI_sI_ne _ _ _ (by decide), rI_sI_ne _ _ _ (by decide), rI_sI_ne _ _ _ (by decide), rI_sI, upd_eq]
    by_cases e : u = q.length
    · rw [if_pos e, e, gA_app1, hx]
    · rw [if_neg e, rI_sI_ne _ _ _ (by decide), gA_app0 (by omega)]; exact b4 u (by omega)
  · intro u hu
    rw [hlen] at hu
    unfold enW poW
    rw [rI_sI_ne _ _ _ (by decide), rI_sI_ne _ _ _ (by decide), rI_sI, upd_eq]
    by_cases e : u = q.length + 1
    · rw [if_pos e, e, l1, htk]
      refine ⟨rfl, hom, fun y hy => ?_⟩
      have hy2 := tb_ltN hom hy
      have := (opnN_tb (c := c) hW hq2 hy2 (q.length + 1) (by rw [hlen]; exact Nat.le_refl _)).mp (by rw [ho]; exact hy)
      exact this.2.1
    · rw [if_neg e, rI_sI_ne _ _ _ (by decide), rI_sI_ne _ _ _ (by decide), rI_sI, upd_eq]
      by_cases e2 : u = q.length
      · rw [if_pos e2, e2, l0, htk0, hm2]
        exact ⟨rfl, by rw [← hm2]; exact Nat.lt_of_le_of_lt Nat.and_le_left c2, fun y hy => by
          have := c3 y (by rw [← hm2, Nat.testBit_and, Bool.and_eq_true] at hy; exact hy.1)
          rwa [List.take_length] at this⟩
      · rw [if_neg e2, lb u (by omega), take_app (by omega)]; exact b5 u (by omega)
  · unfold enW; rw [rI_sI, upd_eq, if_neg (by decide), rI_sI, upd_eq, if_pos rfl, hlen]
  · unfold enW; rw [rI_sI, upd_eq, if_neg (by decide), rI_sI, upd_eq, if_neg (by decide), rI_sI_ne _ _ _ (by decide), rI_sI, upd_eq, if_pos rfl]
  · unfold enW poW; rw [rI_sI, upd_eq, if_neg (by decide), rI_sI, upd_eq, if_neg (by decide), rI_sI_ne _ _ _ (by decide), rI_sI, upd_eq, if_neg (by decide), rI_sI_ne _ _ _ (by decide), rI_sI_ne _ _ _ (by decide)]; exact b8
  · unfold enW; rw [rI_sI, upd_eq, if_pos rfl]
  · have p1 := pop_le o
    have p2 : pop m2 + 1 = pop (lf q.length) := by rw [← hm2]; exact t5
    rw [phS, phS, phS, l1, l0, phS_c q.length lb, hr, show gV g - 1 - (q.length + 1) = r by omega, ← p2]
    have p3 : pop o * phW r ≤ 12 * phW r := Nat.mul_le_mul_right _ p1
    have p4 : phW (r + 1) = 2 + 12 * phW r := rfl
    have p5 : (pop m2 + 1) * phW (r + 1) = pop m2 * phW (r + 1) + phW (r + 1) := by rw [Nat.add_mul, Nat.one_mul]
    omega
