def FrM (w w2 : Mem) : Prop := (∀ a, a < 89 ∨ 128 ≤ a → rI w2 a = rI w a) ∧ (∀ a, a < 89 ∨ (104 ≤ a ∧ a < 107) ∨ 128 ≤ a ∨ a = 125 → rJ w2 a = rJ w a) ∧ w2.2.2 = w.2.2
theorem FrM.rf (w : Mem) : FrM w w := ⟨fun _ _ => rfl, fun _ _ => rfl, rfl⟩
theorem FrM.I {w w2 : Mem} {o k : Nat} {x : Int32} (ho : 89 ≤ o ∧ o < 128) (h : FrM w w2) : FrM w (sI w2 o k x) := ⟨fun a ha => by rw [rI_sI_ne _ _ _ (by omega)]; exact h.1 a ha, h.2.1, h.2.2⟩
theorem FrM.A {w w2 : Mem} {o : Nat} {f : Nat → Int32} (ho : 89 ≤ o ∧ o < 128) (h : FrM w w2) : FrM w (sA w2 o f) := ⟨fun a ha => by rw [rI_sA_ne _ _ (by omega)]; exact h.1 a ha, h.2.1, h.2.2⟩
theorem FrM.J {w w2 : Mem} {o k : Nat} {x : Int64} (ho : 107 ≤ o ∧ o < 128 ∧ o ≠ 125) (h : FrM w w2) : FrM w (sJ w2 o k x) := ⟨h.1, fun a ha => by rw [rJ_sJ_ne _ _ _ (by omega)]; exact h.2.1 a ha, h.2.2⟩
theorem FrM.B {w w2 : Mem} {o : Nat} {f : Nat → Int64} (ho : 107 ≤ o ∧ o < 128 ∧ o ≠ 125) (h : FrM w w2) : FrM w (sB w2 o f) := ⟨h.1, fun a ha => by rw [rJ_sB_ne _ _ (by omega)]; exact h.2.1 a ha, h.2.2⟩
theorem FrM.tr {a b c : Mem} (h : FrM a b) (h2 : FrM b c) : FrM a c := ⟨fun x hx => (h2.1 x hx).trans (h.1 x hx), fun x hx => (h2.2.1 x hx).trans (h.2.1 x hx), h2.2.2.trans h.2.2⟩
theorem MConst.fr {w w2 : Mem} (h : MConst w) (hf : FrM w w2) : MConst w2 := by
  obtain ⟨h1, h2, h3, h4⟩ := h
  refine ⟨fun k hk => ?_, fun k hk => ?_, fun k hk => ?_, fun k hk => ?_⟩
  · rw [hf.2.1 104 (by omega)]; exact h1 k hk
  · rw [hf.2.1 105 (by omega)]; exact h2 k hk
  · rw [hf.2.1 106 (by omega)]; exact h3 k hk
  · rw [hf.2.1 125 (by omega)]; exact h4 k hk
/-- all that is told of the reference lies as it did -/
def Scr (w w2 : Mem) : Prop := FrM w w2 ∧ (∀ a, a ∈ [90, 91, 92, 93, 94, 95, 98, 127] → rI w2 a = rI w a) ∧ (∀ k, k ∈ [1, 8, 11, 13, 18, 20, 64, 68] → rI w2 89 k = rI w 89 k)
theorem Scr.rf (w : Mem) : Scr w w := ⟨FrM.rf w, fun _ _ => rfl, fun _ _ => rfl⟩
theorem Scr.tr {a b c : Mem} (h : Scr a b) (h2 : Scr b c) : Scr a c := ⟨h.1.tr h2.1, fun x hx => (h2.2.1 x hx).trans (h.2.1 x hx), fun x hx => (h2.2.2 x hx).trans (h.2.2 x hx)⟩
theorem Scr.I9 {w w2 : Mem} {k : Nat} {x : Int32} (hk : k ∉ [1, 8, 11, 13, 18, 20, 64, 68]) (h : Scr w w2) : Scr w (sI w2 89 k x) := by
  refine ⟨h.1.I (by decide), fun a ha => ?_, fun j hj => ?_⟩
  · rw [rI_sI_ne _ _ _ (by rintro rfl; exact absurd ha (by decide))]; exact h.2.1 a ha
  · rw [rI_sI, upd_eq, if_neg (by rintro rfl; exact hk hj)]; exact h.2.2 j hj
theorem Scr.I {w w2 : Mem} {o k : Nat} {x : Int32} (ho : 99 ≤ o ∧ o < 127) (h : Scr w w2) : Scr w (sI w2 o k x) := by
  refine ⟨h.1.I (by omega), fun a ha => ?_, fun j hj => ?_⟩
  · rw [rI_sI_ne _ _ _ (by rintro rfl; simp at ha; omega)]; exact h.2.1 a ha
  · rw [rI_sI_ne _ _ _ (by omega)]; exact h.2.2 j hj
theorem Scr.A {w w2 : Mem} {o : Nat} {f : Nat → Int32} (ho : 99 ≤ o ∧ o < 127) (h : Scr w w2) : Scr w (sA w2 o f) := by
  refine ⟨h.1.A (by omega), fun a ha => ?_, fun j hj => ?_⟩
  · rw [rI_sA_ne _ _ (by rintro rfl; simp at ha; omega)]; exact h.2.1 a ha
  · rw [rI_sA_ne _ _ (by omega)]; exact h.2.2 j hj
theorem Scr.J {w w2 : Mem} {o k : Nat} {x : Int64} (ho : 107 ≤ o ∧ o < 128 ∧ o ≠ 125) (h : Scr w w2) : Scr w (sJ w2 o k x) := ⟨h.1.J ho, h.2.1, h.2.2⟩
theorem FrM.J9 {w w2 : Mem} {k : Nat} {x : Int64} (h : FrM w w2) : FrM w (sJ w2 89 k x) := ⟨h.1, fun a ha => by rw [rJ_sJ_ne _ _ _ (by omega)]; exact h.2.1 a ha, h.2.2⟩
theorem Scr.J9 {w w2 : Mem} {k : Nat} {x : Int64} (h : Scr w w2) : Scr w (sJ w2 89 k x) := ⟨h.1.J9, h.2.1, h.2.2⟩
theorem Scr.B {w w2 : Mem} {o : Nat} {f : Nat → Int64} (ho : 107 ≤ o ∧ o < 128 ∧ o ≠ 125) (h : Scr w w2) : Scr w (sB w2 o f) := ⟨h.1.B ho, h.2.1, h.2.2⟩
theorem MInv.keep {w w2 : Mem} {s : SG} (h : MInv w s) (e : Scr w w2) : MInv w2 s := by
  obtain ⟨-, e1, e2⟩ := e
  unfold MInv
  rw [e1 91 (by decide), e1 94 (by decide), e1 95 (by decide), e2 8 (by decide), e1 98 (by decide), e2 13 (by decide), e1 92 (by decide), e1 93 (by decide), e1 90 (by decide), e2 1 (by decide), e2 18 (by decide), e2 11 (by decide), e2 64 (by decide), e1 127 (by decide), e2 68 (by decide), e2 20 (by decide)]
  exact h
theorem MInv.thr {w : Mem} {s : SG} {x : Int32} (h : MInv w s) : MInv (sI w 89 0 x) s := h.keep ((Scr.rf w).I9 (by decide))
theorem MInv.ok {w : Mem} {s : SG} {a : Int32} (h : MInv w s) : MInv (sI w 89 1 (nI 0)) (sOk a s).2 := by
  obtain ⟨h1, h2, h3, h4, h5, h6, h7⟩ := h
  exact ⟨h1, h2, h3, h4, h5, rfl, h7⟩
theorem MInv.no {w : Mem} {s : SG} {k : Nat} (h : MInv w s) (hk : k < 7) : MInv (sI (sI w 89 1 (-(nI k))) 90 k (rI w 90 k + 1)) (sNo k s).2 := by
  obtain ⟨h1, h2, h3, h4, h5, h6, h7⟩ := h
  refine ⟨h1, h2, h3, h4, fun j hj => ?_, rfl, h7⟩
  show rI (sI (sI w 89 1 (-(nI k))) 90 k (rI w 90 k + 1)) 90 j = upd (sRf s) k (sRf s k + 1) j
  rw [rI_sI, upd_eq, upd_eq]
  by_cases hjk : j = k
  · rw [if_pos hjk, if_pos hjk, h5 k hk]
  · rw [if_neg hjk, if_neg hjk]
    exact h5 j hj
theorem MLaws.congr {f f2 : Nat → Int32} {ls : List LawT} (h : MLaws f ls) (e : ∀ i, 110 ≤ i → f2 i = f i) : MLaws f2 ls := by
  intro i q hi
  have := h i q hi
  have e2 : (fun j => f2 (110 + 900 * i + j)) = (fun j => f (110 + 900 * i + j)) := by
    funext j
    exact e _ (by omega)
  rw [e2]
  exact this
theorem in_le {c : Int32} {b : Nat} (hb : b + 1 < 2 ^ 31) : (lN 0 ≤ c.toInt64 ∧ c.toInt64 ≤ lN b) ↔ inN c (b + 1) := by
  rw [in_isC (by decide) (by omega)]
  unfold inN
  rw [Int32.le_iff_toInt_le, Int32.le_iff_toInt_le, Int32.le_iff_toInt_le, Int32.lt_iff_toInt_lt, nI_toInt hb, nI_toInt (show b < 2 ^ 31 by omega), nI_toInt (show 0 < 2 ^ 31 by decide)]
  show _ ↔ (0 : Int) ≤ _ ∧ _
  omega
theorem inN_of {c : Int32} {n : Nat} (h : inN c n) (hn : n < 2 ^ 31) : ∃ j, j < n ∧ c = nI j ∧ tn c = j := by
  obtain ⟨j, hj, rfl⟩ := (in_nI hn).mp h
  exact ⟨j, hj, rfl, tn_nI (by omega)⟩
theorem inN_nI {j n : Nat} (hj : j < n) (hn : n < 2 ^ 31) : inN (nI j) n := (in_nI hn).mpr ⟨j, hj, rfl⟩
theorem MUndo.nil {f so : Nat → Int32} {g : GC} : MUndo f so (nI 0) g [] := ⟨by simp, rfl, fun k q h => by simp at h⟩
section
variable {f : Nat → Int32} {g : GC}
theorem MEs.congr {f2 : Nat → Int32} {es : List Nat} (h : MEs f es) (hl : es.length ≤ 66) (e : ∀ i, 31 ≤ i → i < 98 → f2 i = f i) : MEs f2 es := ⟨by rw [e 31 (by omega) (by omega)]; exact h.1, fun k hk => by rw [e _ (by omega) (by omega)]; exact h.2 k hk⟩
theorem MRow.addN {j : Nat} (h : MRow f g) (hW : WG g) (hN : gN g < 12) : MRow (upd (upd f (9 + gN g) (nI j)) 0 (nI (gN g + 1))) (gAddN g j) := by
  have hl := hW.el
  have hv := hW.v
  have hs := hW.sl
  have hne : ∀ i, i ≠ 9 + gN g → i ≠ 0 → upd (upd f (9 + gN g) (nI j)) 0 (nI (gN g + 1)) i = f i := fun i h1 h2 => by
    rw [upd_eq, upd_eq, if_neg h2, if_neg h1]
  refine ⟨rfl, by rw [hne 1 (by omega) (by omega)]; exact h.v, by rw [hne 2 (by omega) (by omega)]; exact h.s, by rw [hne 3 (by omega) (by omega)]; exact h.l, by rw [hne 4 (by omega) (by omega)]; exact h.fo, fun i hi => ?_, fun i hi => ?_, fun v hv2 => ?_, fun v hv2 => ?_, h.e.congr hl (fun i h1 h2 => ?_), fun k q hq => ?_⟩
  · rw [upd_eq, upd_eq, if_neg (by omega), if_neg (by omega)]; exact h.t i hi
  · show upd (upd f _ _) 0 _ (9 + i) = nI (if i = gN g then j else gC g i)
    have hi2 : i < gN g + 1 := hi
    rw [upd_eq, upd_eq, if_neg (by omega)]
    by_cases he : i = gN g
    · rw [if_pos (by omega), if_pos he]
    · rw [if_neg (by omega), if_neg he]; exact h.c i (by omega)
  · have hv3 : v < gV g := hv2
    rw [upd_eq, upd_eq, if_neg (by omega), if_neg (by omega)]; exact h.y v hv3
  · have hv3 : v < gV g := hv2
    rw [upd_eq, upd_eq, if_neg (by omega), if_neg (by omega)]; exact h.k v hv3
  · rw [upd_eq, upd_eq, if_neg (by omega), if_neg (by omega)]
  · have := h.sn k q hq
    rw [upd_eq, upd_eq, upd_eq, upd_eq, if_neg (by omega), if_neg (by omega), if_neg (by omega), if_neg (by omega)]; exact this
theorem WG.addN {j : Nat} (h : WG g) (hN : gN g < 12) (hj : j < 6) : WG (gAddN g j) := by
  refine ⟨by show gN g + 1 ≤ 12; omega, fun i hi => ?_, h.ed, fun c hc => ?_, h.v, h.y, h.k, h.ks, h.ki, h.sl, fun q hq => ?_, h.t, h.ll, h.fo⟩
  · show (if i = gN g then j else gC g i) < 6
    have hi2 : i < gN g + 1 := hi
    by_cases he : i = gN g
    · rw [if_pos he]; exact hj
    · rw [if_neg he]; exact h.c i (by omega)
  · have := h.eo c hc
    exact ⟨this.1, by show _ < gN g + 1; have := this.2; omega⟩
  · have := h.so q hq
    exact ⟨this.1, by show _ < gN g + 1; have := this.2; omega⟩
theorem MRow.addV {j : Nat} (h : MRow f g) (hW : WG g) (hV : gV g < 5) : MRow (upd (upd (upd f (21 + gV g) (nI j)) (26 + gV g) (nI 0)) 1 (nI (gV g + 1))) (gAddV g j) := by
  have hl := hW.el
  have hn := hW.n
  have hs := hW.sl
  have hne : ∀ i, i ≠ 21 + gV g → i ≠ 26 + gV g → i ≠ 1 → upd (upd (upd f (21 + gV g) (nI j)) (26 + gV g) (nI 0)) 1 (nI (gV g + 1)) i = f i := fun i h1 h2 h3 => by
    rw [upd_eq, upd_eq, upd_eq, if_neg h3, if_neg h2, if_neg h1]
  refine ⟨by rw [hne 0 (by omega) (by omega) (by omega)]; exact h.n, rfl, by rw [hne 2 (by omega) (by omega) (by omega)]; exact h.s, by rw [hne 3 (by omega) (by omega) (by omega)]; exact h.l, by rw [hne 4 (by omega) (by omega) (by omega)]; exact h.fo, fun i hi => ?_, fun i hi => ?_, fun v hv2 => ?_, fun v hv2 => ?_, h.e.congr hl (fun i h1 h2 => ?_), fun k q hq => ?_⟩
  · rw [hne _ (by omega) (by omega) (by omega)]; exact h.t i hi
  · have hi2 : i < gN g := hi
    rw [hne _ (by omega) (by omega) (by omega)]; exact h.c i hi2
  · show _ = nI (if v = gV g then j else gY g v)
    have hv3 : v < gV g + 1 := hv2
    by_cases he : v = gV g
    · rw [if_pos he, he, upd_eq, upd_eq, upd_eq, if_neg (by omega), if_neg (by omega), if_pos rfl]
    · rw [if_neg he, hne _ (by omega) (by omega) (by omega)]; exact h.y v (by omega)
  · show _ = nI (if v = gV g then 0 else gK g v)
    have hv3 : v < gV g + 1 := hv2
    by_cases he : v = gV g
    · rw [if_pos he, he, upd_eq, upd_eq, if_neg (by omega), if_pos rfl]
    · rw [if_neg he, hne _ (by omega) (by omega) (by omega)]; exact h.k v (by omega)
  · exact hne i (by omega) (by omega) (by omega)
  · have := h.sn k q hq
    rw [hne _ (by omega) (by omega) (by omega), hne _ (by omega) (by omega) (by omega)]; exact this
theorem WG.addV {j : Nat} (h : WG g) (hV : gV g < 5) (hj : j ≤ 6) : WG (gAddV g j) := by
  have hb : ∀ v, v < gV g → (gK g v).testBit (gV g) = false := fun v hv => Nat.testBit_lt_two_pow (h.k v hv)
  refine ⟨h.n, h.c, h.ed, h.eo, by show gV g + 1 ≤ 5; omega, fun v hv => ?_, fun v hv => ?_, fun v u hv hu => ?_, fun v hv => ?_, h.sl, fun q hq => ?_, h.t, h.ll, h.fo⟩
  · show (if v = gV g then j else gY g v) ≤ 6
    have hv3 : v < gV g + 1 := hv
    by_cases he : v = gV g
    · rw [if_pos he]; exact hj
    · rw [if_neg he]; exact h.y v (by omega)
  · show (if v = gV g then 0 else gK g v) < 2 ^ (gV g + 1)
    have hv3 : v < gV g + 1 := hv
    by_cases he : v = gV g
    · rw [if_pos he]; exact Nat.two_pow_pos _
    · rw [if_neg he]; have := h.k v (by omega); rw [Nat.pow_succ]; omega
  · show (if v = gV g then 0 else gK g v).testBit u = (if u = gV g then 0 else gK g u).testBit v
    have hv3 : v < gV g + 1 := hv
    have hu3 : u < gV g + 1 := hu
    by_cases he : v = gV g
    · by_cases hf : u = gV g
      · rw [if_pos he, if_pos hf, Nat.zero_testBit, Nat.zero_testBit]
      · rw [if_pos he, if_neg hf, he, hb u (by omega), Nat.zero_testBit]
    · by_cases hf : u = gV g
      · rw [if_neg he, if_pos hf, hf, hb v (by omega), Nat.zero_testBit]
      · rw [if_neg he, if_neg hf]; exact h.ks v u (by omega) (by omega)
  · show (if v = gV g then 0 else gK g v).testBit v = false
    have hv3 : v < gV g + 1 := hv
    by_cases he : v = gV g
    · rw [if_pos he, Nat.zero_testBit]
    · rw [if_neg he]; exact h.ki v (by omega)
  · have := h.so q hq
    exact ⟨by show _ < gV g + 1; have := this.1; omega, this.2⟩
end
