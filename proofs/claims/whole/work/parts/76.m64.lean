def m_M_act : MR := (⟨"SubgraphDeskModel", "act", "(III)I"⟩, prog_14_method_126_code, 4, (some .int))
theorem cf_M_act : CF m_M_act 3 := ⟨gd 2208 (by decide +kernel) rfl, gd 151 (by decide +kernel) rfl, by decide +kernel, by decide, by decide +kernel⟩
theorem cv_M_act : CV m_M_act := ⟨gd 2207 (by decide +kernel) rfl, gd 134 (by decide +kernel) rfl⟩
def m_M_sumOf : MR := (⟨"SubgraphDeskModel", "sumOf", "(I)I"⟩, prog_14_method_125_code, 2, (some .int))
theorem cf_M_sumOf : CF m_M_sumOf 1 := ⟨gd 2204 (by decide +kernel) rfl, gd 151 (by decide +kernel) rfl, by decide +kernel, by decide, by decide +kernel⟩
theorem cv_M_sumOf : CV m_M_sumOf := ⟨gd 2203 (by decide +kernel) rfl, gd 133 (by decide +kernel) rfl⟩
theorem d_M_act_0 : Dc prog_14_method_126_code 0 (.iload_n 1) 1 1 := ⟨by decide +kernel, rfl⟩
theorem d_M_act_1 : Dc prog_14_method_126_code 1 (.tableswitch 48 0 2 #[27, 34, 41]) 27 28 := ⟨by decide +kernel, rfl⟩
theorem d_M_act_28 : Dc prog_14_method_126_code 28 (.aload_n 0) 1 29 := ⟨by decide +kernel, rfl⟩
theorem d_M_act_29 : Dc prog_14_method_126_code 29 (.iload_n 2) 1 30 := ⟨by decide +kernel, rfl⟩
theorem d_M_act_30 : Dc prog_14_method_126_code 30 (.iload_n 3) 1 31 := ⟨by decide +kernel, rfl⟩
theorem d_M_act_31 : Dc prog_14_method_126_code 31 (.invokevirtual 446) 3 34 := ⟨by decide +kernel, rfl⟩
theorem d_M_act_34 : Dc prog_14_method_126_code 34 (.ireturn) 1 35 := ⟨by decide +kernel, rfl⟩
theorem d_M_act_35 : Dc prog_14_method_126_code 35 (.aload_n 0) 1 36 := ⟨by decide +kernel, rfl⟩
theorem d_M_act_36 : Dc prog_14_method_126_code 36 (.iload_n 2) 1 37 := ⟨by decide +kernel, rfl⟩
theorem d_M_act_37 : Dc prog_14_method_126_code 37 (.iload_n 3) 1 38 := ⟨by decide +kernel, rfl⟩
theorem d_M_act_38 : Dc prog_14_method_126_code 38 (.invokevirtual 449) 3 41 := ⟨by decide +kernel, rfl⟩
theorem d_M_act_41 : Dc prog_14_method_126_code 41 (.ireturn) 1 42 := ⟨by decide +kernel, rfl⟩
theorem d_M_act_42 : Dc prog_14_method_126_code 42 (.aload_n 0) 1 43 := ⟨by decide +kernel, rfl⟩
theorem d_M_act_43 : Dc prog_14_method_126_code 43 (.iload_n 2) 1 44 := ⟨by decide +kernel, rfl⟩
theorem d_M_act_44 : Dc prog_14_method_126_code 44 (.iload_n 3) 1 45 := ⟨by decide +kernel, rfl⟩
theorem d_M_act_45 : Dc prog_14_method_126_code 45 (.invokevirtual 456) 3 48 := ⟨by decide +kernel, rfl⟩
theorem d_M_act_48 : Dc prog_14_method_126_code 48 (.ireturn) 1 49 := ⟨by decide +kernel, rfl⟩
theorem d_M_act_49 : Dc prog_14_method_126_code 49 (.aload_n 0) 1 50 := ⟨by decide +kernel, rfl⟩
theorem d_M_act_50 : Dc prog_14_method_126_code 50 (.iload_n 2) 1 51 := ⟨by decide +kernel, rfl⟩
theorem d_M_act_51 : Dc prog_14_method_126_code 51 (.iload_n 3) 1 52 := ⟨by decide +kernel, rfl⟩
theorem d_M_act_52 : Dc prog_14_method_126_code 52 (.invokevirtual 459) 3 55 := ⟨by decide +kernel, rfl⟩
theorem d_M_act_55 : Dc prog_14_method_126_code 55 (.ireturn) 1 56 := ⟨by decide +kernel, rfl⟩
theorem d_M_sumOf_0 : Dc prog_14_method_125_code 0 (.aload_n 0) 1 1 := ⟨by decide +kernel, rfl⟩
theorem d_M_sumOf_1 : Dc prog_14_method_125_code 1 (.getfield 571) 3 4 := ⟨by decide +kernel, rfl⟩
theorem d_M_sumOf_4 : Dj prog_14_method_125_code 4 (.ifCond .ne 20) 7 20 24 := ⟨by decide +kernel, rfl, rfl⟩
theorem d_M_sumOf_7 : Dc prog_14_method_125_code 7 (.aload_n 0) 1 8 := ⟨by decide +kernel, rfl⟩
theorem d_M_sumOf_8 : Dc prog_14_method_125_code 8 (.getfield 158) 3 11 := ⟨by decide +kernel, rfl⟩
theorem d_M_sumOf_11 : Dc prog_14_method_125_code 11 (.iload_n 1) 1 12 := ⟨by decide +kernel, rfl⟩
theorem d_M_sumOf_12 : Dc prog_14_method_125_code 12 (.iaload) 1 13 := ⟨by decide +kernel, rfl⟩
theorem d_M_sumOf_13 : Dc prog_14_method_125_code 13 (.aload_n 0) 1 14 := ⟨by decide +kernel, rfl⟩
theorem d_M_sumOf_14 : Dc prog_14_method_125_code 14 (.getfield 158) 3 17 := ⟨by decide +kernel, rfl⟩
theorem d_M_sumOf_17 : Dc prog_14_method_125_code 17 (.iload_n 1) 1 18 := ⟨by decide +kernel, rfl⟩
theorem d_M_sumOf_18 : Dc prog_14_method_125_code 18 (.iconst 1) 1 19 := ⟨by decide +kernel, rfl⟩
theorem d_M_sumOf_19 : Dc prog_14_method_125_code 19 (.iadd) 1 20 := ⟨by decide +kernel, rfl⟩
theorem d_M_sumOf_20 : Dc prog_14_method_125_code 20 (.iaload) 1 21 := ⟨by decide +kernel, rfl⟩
theorem d_M_sumOf_21 : Dj prog_14_method_125_code 21 (.if_icmp .ne 5) 24 5 26 := ⟨by decide +kernel, rfl, rfl⟩
theorem d_M_sumOf_24 : Dc prog_14_method_125_code 24 (.iconst (-1)) 1 25 := ⟨by decide +kernel, rfl⟩
theorem d_M_sumOf_25 : Dc prog_14_method_125_code 25 (.ireturn) 1 26 := ⟨by decide +kernel, rfl⟩
theorem d_M_sumOf_26 : Dc prog_14_method_125_code 26 (.aload_n 0) 1 27 := ⟨by decide +kernel, rfl⟩
theorem d_M_sumOf_27 : Dc prog_14_method_125_code 27 (.iconst 1) 1 28 := ⟨by decide +kernel, rfl⟩
theorem d_M_sumOf_28 : Dc prog_14_method_125_code 28 (.putfield 335) 3 31 := ⟨by decide +kernel, rfl⟩
theorem d_M_sumOf_31 : Dc prog_14_method_125_code 31 (.aload_n 0) 1 32 := ⟨by decide +kernel, rfl⟩
theorem d_M_sumOf_32 : Dc prog_14_method_125_code 32 (.aload_n 0) 1 33 := ⟨by decide +kernel, rfl⟩
theorem d_M_sumOf_33 : Dc prog_14_method_125_code 33 (.getfield 158) 3 36 := ⟨by decide +kernel, rfl⟩
theorem d_M_sumOf_36 : Dc prog_14_method_125_code 36 (.iload_n 1) 1 37 := ⟨by decide +kernel, rfl⟩
theorem d_M_sumOf_37 : Dc prog_14_method_125_code 37 (.iaload) 1 38 := ⟨by decide +kernel, rfl⟩
theorem d_M_sumOf_38 : Dc prog_14_method_125_code 38 (.aload_n 0) 1 39 := ⟨by decide +kernel, rfl⟩
theorem d_M_sumOf_39 : Dc prog_14_method_125_code 39 (.getfield 158) 3 42 := ⟨by decide +kernel, rfl⟩
theorem d_M_sumOf_42 : Dc prog_14_method_125_code 42 (.iload_n 1) 1 43 := ⟨by decide +kernel, rfl⟩
theorem d_M_sumOf_43 : Dc prog_14_method_125_code 43 (.iconst 1) 1 44 := ⟨by decide +kernel, rfl⟩
theorem d_M_sumOf_44 : Dc prog_14_method_125_code 44 (.iadd) 1 45 := ⟨by decide +kernel, rfl⟩
theorem d_M_sumOf_45 : Dc prog_14_method_125_code 45 (.iaload) 1 46 := ⟨by decide +kernel, rfl⟩
theorem d_M_sumOf_46 : Dc prog_14_method_125_code 46 (.invokevirtual 426) 3 49 := ⟨by decide +kernel, rfl⟩
theorem d_M_sumOf_49 : Dc prog_14_method_125_code 49 (.aload_n 0) 1 50 := ⟨by decide +kernel, rfl⟩
theorem d_M_sumOf_50 : Dc prog_14_method_125_code 50 (.iconst 0) 1 51 := ⟨by decide +kernel, rfl⟩
theorem d_M_sumOf_51 : Dc prog_14_method_125_code 51 (.putfield 335) 3 54 := ⟨by decide +kernel, rfl⟩
theorem d_M_sumOf_54 : Dc prog_14_method_125_code 54 (.aload_n 0) 1 55 := ⟨by decide +kernel, rfl⟩
theorem d_M_sumOf_55 : Dc prog_14_method_125_code 55 (.aload_n 0) 1 56 := ⟨by decide +kernel, rfl⟩
theorem d_M_sumOf_56 : Dc prog_14_method_125_code 56 (.getfield 409) 3 59 := ⟨by decide +kernel, rfl⟩
theorem d_M_sumOf_59 : Dc prog_14_method_125_code 59 (.putfield 571) 3 62 := ⟨by decide +kernel, rfl⟩
theorem d_M_sumOf_62 : Dc prog_14_method_125_code 62 (.aload_n 0) 1 63 := ⟨by decide +kernel, rfl⟩
theorem d_M_sumOf_63 : Dc prog_14_method_125_code 63 (.getfield 423) 3 66 := ⟨by decide +kernel, rfl⟩
theorem d_M_sumOf_66 : Dc prog_14_method_125_code 66 (.l2i) 1 67 := ⟨by decide +kernel, rfl⟩
theorem d_M_sumOf_67 : Dc prog_14_method_125_code 67 (.ireturn) 1 68 := ⟨by decide +kernel, rfl⟩
theorem fl_M_571 : FL "SubgraphDeskModel" 571 12 65 false .boolean (1, 0) := ⟨R_M, F_M, 69, ty_M, rfl, rfl, in_M, tyok_M, nm_M, by decide, gd 1537 (by decide +kernel) rfl, rfl, rfl, rfl⟩
/-- while all ways are gone through -/
def FrG (w w2 : Mem) : Prop := (∀ a, a ≠ 89 → (a < 110 ∨ 113 < a) → rI w2 a = rI w a) ∧ (∀ k, k ≠ 34 → k ≠ 38 → k ≠ 45 → rI w2 89 k = rI w 89 k) ∧ (∀ a, a ≠ 89 → a ≠ 107 → a ≠ 109 → rJ w2 a = rJ w a) ∧ w2.2.2 = w.2.2
theorem FrG.tr {a b c : Mem} (h : FrG a b) (h2 : FrG b c) : FrG a c := ⟨fun x h1 h3 => (h2.1 x h1 h3).trans (h.1 x h1 h3), fun k a1 a2 a3 => (h2.2.1 k a1 a2 a3).trans (h.2.1 k a1 a2 a3), fun x a1 a2 a3 => (h2.2.2.1 x a1 a2 a3).trans (h.2.2.1 x a1 a2 a3), h2.2.2.2.trans h.2.2.2⟩
theorem FrY.G {w w2 : Mem} (h : FrY w w2) : FrG w w2 := ⟨fun a h1 h2 => h.1 a h1 (by omega) (by omega) (by omega), fun k a1 a2 a3 => h.2.1 k a2 a1 a3, fun a a1 a2 a3 => h.2.2.1 a a1 a3 a2, h.2.2.2.2⟩
theorem FrI.G {w w2 : Mem} (h : FrI w w2) : FrG w w2 := ⟨fun a h1 h2 => h.1 a h1 (by omega), fun k _ _ a3 => h.2.1 k a3, fun a _ _ _ => by unfold rJ; rw [h.2.2], by rw [h.2.2]⟩
theorem FrG.S {w w2 : Mem} (h : FrG w w2) : Scr w w2 := ⟨⟨fun a ha => h.1 a (by omega) (by omega), fun a ha => h.2.2.1 a (by omega) (by omega) (by omega), h.2.2.2⟩, fun a ha => h.1 a (by rintro rfl; exact absurd ha (by decide)) (by simp at ha; omega), fun k hk => h.2.1 k (by rintro rfl; exact absurd hk (by decide)) (by rintro rfl; exact absurd hk (by decide)) (by rintro rfl; exact absurd hk (by decide))⟩
/-- while orders are run -/
def FrX (w w2 : Mem) : Prop := (∀ a, a ≠ 89 → a ≠ 91 → a ≠ 94 → a ≠ 95 → (a < 110 ∨ 113 < a) → rI w2 a = rI w a) ∧ (∀ k, k ∉ [8, 20, 34, 38, 45, 62, 63, 65] → rI w2 89 k = rI w 89 k) ∧ (∀ a, a ≠ 89 → (a < 107 ∨ 109 < a) → rJ w2 a = rJ w a) ∧ w2.2.2 = w.2.2 ∧ ∀ k, 1472 ≤ k → rI w2 94 k = rI w 94 k
theorem FrX.rf (w : Mem) : FrX w w := ⟨fun _ _ _ _ _ _ => rfl, fun _ _ => rfl, fun _ _ _ => rfl, rfl, fun _ _ => rfl⟩
theorem FrX.tr {a b c : Mem} (h : FrX a b) (h2 : FrX b c) : FrX a c := ⟨fun x a1 a2 a3 a4 a5 => (h2.1 x a1 a2 a3 a4 a5).trans (h.1 x a1 a2 a3 a4 a5), fun k hk => (h2.2.1 k hk).trans (h.2.1 k hk), fun x a1 a2 => (h2.2.2.1 x a1 a2).trans (h.2.2.1 x a1 a2), h2.2.2.2.1.trans h.2.2.2.1, fun k hk => (h2.2.2.2.2 k hk).trans (h.2.2.2.2 k hk)⟩
theorem FrG.X {w w2 : Mem} (h : FrG w w2) : FrX w w2 := ⟨fun a a1 _ _ _ a5 => h.1 a a1 a5, fun k hk => h.2.1 k (by rintro rfl; exact hk (by decide)) (by rintro rfl; exact hk (by decide)) (by rintro rfl; exact hk (by decide)), fun a a1 a2 => h.2.2.1 a a1 (by omega) (by omega), h.2.2.2, fun k _ => by rw [h.1 94 (by decide) (Or.inl (by decide))]⟩
theorem FrA.X {w w2 : Mem} (h : FrA w w2) : FrX w w2 := ⟨fun a a1 a2 a3 a4 _ => h.1 a a2 a3 a4 a1, fun k hk => h.2.1 k (by rintro rfl; exact hk (by decide)), fun a _ _ => by unfold rJ; rw [h.2.2.1], by rw [h.2.2.1], h.2.2.2⟩
theorem FrX.I {w w2 : Mem} {k : Nat} {x : Int32} (hk : k ∈ [8, 20, 34, 38, 45, 62, 63, 65]) (h : FrX w w2) : FrX w (sI w2 89 k x) := ⟨fun a a1 a2 a3 a4 a5 => by rw [rI_sI_ne _ _ _ a1]; exact h.1 a a1 a2 a3 a4 a5, fun j hj => by rw [rI_sI, upd_eq, if_neg (by rintro rfl; exact hj hk)]; exact h.2.1 j hj, h.2.2⟩
theorem FrX.J {w w2 : Mem} {k : Nat} {x : Int64} (h : FrX w w2) : FrX w (sJ w2 108 k x) := ⟨h.1, h.2.1, fun a a1 a2 => by rw [rJ_sJ_ne _ _ _ (by omega)]; exact h.2.2.1 a a1 a2, h.2.2.2⟩
/-- while a sum of an order is found -/
def FrKo (w w2 : Mem) : Prop := (∀ a, a ≠ 89 → rI w2 a = rI w a) ∧ (∀ k, k ∉ [20, 38, 65] → rI w2 89 k = rI w 89 k) ∧ (∀ a, a ≠ 89 → a ≠ 109 → rJ w2 a = rJ w a) ∧ w2.2.2 = w.2.2
theorem FrKo.rf (w : Mem) : FrKo w w := ⟨fun _ _ => rfl, fun _ _ => rfl, fun _ _ _ => rfl, rfl⟩
theorem FrKo.tr {a b c : Mem} (h : FrKo a b) (h2 : FrKo b c) : FrKo a c := ⟨fun x a1 => (h2.1 x a1).trans (h.1 x a1), fun k hk => (h2.2.1 k hk).trans (h.2.1 k hk), fun x a1 a2 => (h2.2.2.1 x a1 a2).trans (h.2.2.1 x a1 a2), h2.2.2.2.trans h.2.2.2⟩
theorem FrE.K {w w2 : Mem} (h : FrE w w2) : FrKo w w2 := ⟨h.1, fun k hk => h.2.1 k (by rintro rfl; exact hk (by decide)), h.2.2.1, h.2.2.2.2⟩
theorem FrKo.I {w w2 : Mem} {k : Nat} {x : Int32} (hk : k ∈ [20, 38, 65]) (h : FrKo w w2) : FrKo w (sI w2 89 k x) := ⟨fun a a1 => by rw [rI_sI_ne _ _ _ a1]; exact h.1 a a1, fun j hj => by rw [rI_sI, upd_eq, if_neg (by rintro rfl; exact hj hk)]; exact h.2.1 j hj, h.2.2⟩
theorem FrKo.X {w w2 : Mem} (h : FrKo w w2) : FrX w w2 := ⟨fun a a1 _ _ _ _ => h.1 a a1, fun k hk => h.2.1 k (by intro h2; apply hk; simp at h2 ⊢; omega), fun a a1 a2 => h.2.2.1 a a1 (by omega), h.2.2.2, fun k _ => by rw [h.1 94 (by decide)]⟩
theorem lI_i (x : Int32) : x.toInt64 = lI x.toInt := by
  rw [← Int32.toInt_toInt64 x]
  exact lI_of.symm
/-- the words of orders -/
noncomputable def envO (g : GC) (dn : Nat) (lt : Int32) : Nat → Int := fun k => if k = 1 then (gT g 0 : Int) else if k = 2 then (dn : Int) else if k = 3 then lt.toInt else if k = 4 then ((gE g).length : Int) else if k = 5 then ((waysL g).length : Int) else if k < 20 then 0 else if k - 20 < gN g then (pop (nearB (gE g) (k - 20)) : Int) else -1
noncomputable def aAct (a : Nat) (x y : Int32) (g : GC) (u : List (Nat × Snap)) : Act := if a = 0 then aEdge x y g u else if a = 1 then aLink x y g u else if a = 2 then aPaint x y g u else aDye x y g u
abbrev RSt : Type := GC × List (Nat × Snap) × Nat × Int32
/-- one order, once: none, if it can't be -/
noncomputable def ordDo (q : OcT) (s : RSt) : Option RSt := match q.2.1 (envO s.1 s.2.2.1 s.2.2.2) with
  | none => none
  | some x => match q.2.2.1 (envO s.1 s.2.2.1 s.2.2.2) with
    | none => none
    | some y => if (aAct q.1 (Int32.ofInt x) (Int32.ofInt y) s.1 s.2.1).1 < 0 then none else some ((aAct q.1 (Int32.ofInt x) (Int32.ofInt y) s.1 s.2.1).2.1, (aAct q.1 (Int32.ofInt x) (Int32.ofInt y) s.1 s.2.1).2.2, s.2.2.1 + 1, (aAct q.1 (Int32.ofInt x) (Int32.ofInt y) s.1 s.2.1).1)
noncomputable def ordOne (q : OcT) (s : RSt) : Option RSt := match q.2.2.2.2 with
  | none => ordDo q s
  | some d => match d (envO s.1 s.2.2.1 s.2.2.2) with
    | none => some s
    | some v => if v = 0 then some s else ordDo q s
/-- what is told is small -/
def tlS (x : Int32) : Prop := x = -1 ∨ ∃ v : Nat, v ≤ 6 ∧ x = nI v
theorem b2i_tS (p : Prop) [Decidable p] : tlS (b2i p) := by
  rcases b2i_01 p with h | h
  · exact Or.inr ⟨0, by decide, h⟩
  · exact Or.inr ⟨1, by decide, h⟩
theorem aAct_ok {g : GC} (hW : WG g) (a : Nat) (x y : Int32) (u : List (Nat × Snap)) : (aAct a x y g u).1 < 0 ∨ tlS (aAct a x y g u).1 := by
  have neg : ∀ k, 0 < k → k < 4 → (-(nI k)) < 0 := fun k h1 h2 => (tell_lt h1 (by omega)).1
  unfold aAct
  split
  · by_cases h1 : x = y
    · rw [aEdge_1 h1]; exact Or.inl (neg 1 (by decide) (by decide))
    · by_cases h2 : inN x (gN g) ∧ inN y (gN g)
      · rw [aEdge_ok h1 h2]; exact Or.inr (b2i_tS _)
      · rw [aEdge_2 h1 h2]; exact Or.inl (neg 2 (by decide) (by decide))
  · split
    · by_cases h1 : x = y
      · rw [aLink_1 h1]; exact Or.inl (neg 1 (by decide) (by decide))
      · by_cases h2 : inN x (gV g) ∧ inN y (gV g)
        · rw [aLink_ok h1 h2]; exact Or.inr (b2i_tS _)
        · rw [aLink_2 h1 h2]; exact Or.inl (neg 2 (by decide) (by decide))
    · split
      · by_cases h1 : inN y 6
        · by_cases h2 : inN x (gN g)
          · by_cases h3 : gC g (tn x) = tn y
            · rw [aPaint_3 h1 h2 h3]; exact Or.inl (neg 3 (by decide) (by decide))
            · rw [aPaint_ok h1 h2 h3]
              have hn := hW.n
              obtain ⟨j, hj, -, ht⟩ := inN_of h2 (by omega)
              have := hW.c j hj
              exact Or.inr (Or.inr ⟨gC g (tn x), by rw [ht]; omega, rfl⟩)
          · rw [aPaint_2 h1 h2]; exact Or.inl (neg 2 (by decide) (by decide))
        · rw [aPaint_1 h1]; exact Or.inl (neg 1 (by decide) (by decide))
      · by_cases h1 : inN y 7
        · by_cases h2 : inN x (gV g)
          · by_cases h3 : gY g (tn x) = tn y
            · rw [aDye_3 h1 h2 h3]; exact Or.inl (neg 3 (by decide) (by decide))
            · rw [aDye_ok h1 h2 h3]
              have hn := hW.v
              obtain ⟨j, hj, -, ht⟩ := inN_of h2 (by omega)
              have := hW.y j hj
              exact Or.inr (Or.inr ⟨gY g (tn x), by rw [ht]; omega, rfl⟩)
          · rw [aDye_2 h1 h2]; exact Or.inl (neg 2 (by decide) (by decide))
        · rw [aDye_1 h1]; exact Or.inl (neg 1 (by decide) (by decide))
theorem tlS_bd {x : Int32} (h : tlS x) : bd x.toInt := by
  rcases h with rfl | ⟨v, hv, rfl⟩
  · decide
  · rw [nI_toInt (by omega)]
    omega
theorem c_M_waysOfG {E : EV} {w : Mem} {g : GC} (hG : MG w g) (hW : WG g) : T E m_M_waysOf 7 0 0 [.ref 89] w (fun r w2 => r = some (.int (nI (waysL g).length)) ∧ FrG w w2) := by
  refine T_of (L := [.ref 89, un]) cf_M_waysOf rfl (Nat.le_of_ble_eq_true rfl) (fun X hX hF => ?_)
  have lp : ∀ (fuel : Nat) (ws : List (List Nat)) (i : Nat) (wk : Mem), ws.length < fuel → (FrG w wk) → (Laid wk g) → (ItW wk g ws) → (i + ws.length = (waysL g).length) → G0 E X 0 0 6 [.ref 89, .int (nI i)] [] wk := by
    intro fuel
    induction fuel with
    | zero => intro ws i wk q0; exact absurd q0 (Nat.not_lt_zero _)
    | succ fuel ih =>
      intro ws i wk q0 q1 q2 q3 q4
      refine g_aload0 hX d_M_waysOf_6 ?_
      refine g_callV (As := []) hX hF.1 d_M_waysOf_7 ml_M_477 cf_M_isWay cv_M_isWay rfl rfl (c_M_isWay (hG.scr q1.S) hW q2 q3) (rcv_obj hX (lv_89 _) rfl rfl) (by omega) (by omega) (by omega) (Nat.le_of_ble_eq_true rfl) ?_
      rintro _ w2 ⟨hf, hp⟩
      obtain ⟨x, rfl, hx⟩ := hp.c
      show G0 _ _ _ _ _ _ _ _
      refine g_if_eq hX d_M_waysOf_10 (fun e10 => ?_) (fun e10 => ?_)
      · have e_ : ws = [] := by
          rcases hx with hx | hx
          · exact hx.2
          · exact absurd (hx.1.symm.trans e10) (by decide)
        refine g_iload1 hX d_M_waysOf_19 ?_
        refine g_iret hX hF d_M_waysOf_20 (by omega) (by omega) ?_
        have h0 : ws.length = 0 := by rw [e_]; rfl
        exact ⟨by rw [show i = (waysL g).length by omega], q1.tr hf.G⟩
      · obtain ⟨q, t, hqt, ql, qn, qL, qI⟩ : ∃ q t, ws = q :: t ∧ q.length = gV g ∧ (∀ n ∈ q, n < gN g) ∧ LieP w2 q ∧ ItW w2 g t := by
          rcases hx with hx | hx
          · exact absurd hx.1 e10
          · exact hx.2
        have hl : ws.length = t.length + 1 := by rw [hqt]; rfl
        refine g_iincN1 hX d_M_waysOf_13 rfl (by decide) ?_
        refine g_goto hX d_M_waysOf_16 ?_
        exact ih t (i + 1) w2 (by omega) (q1.tr hf.G) (q2.I hf) qI (by omega)
  refine g_iconst (v := nI 0) hX d_M_waysOf_0 rfl ?_
  refine g_istore1 hX d_M_waysOf_1 rfl (by decide) ?_
  refine g_aload0 hX d_M_waysOf_2 ?_
  refine g_callV (As := []) hX hF.1 d_M_waysOf_3 ml_M_474 cf_M_beginWays cv_M_beginWays rfl rfl (c_M_beginWaysA hG hW) (rcv_obj hX (lv_89 _) rfl rfl) (by omega) (by omega) (by omega) (Nat.le_of_ble_eq_true rfl) ?_
  rintro _ w1 ⟨rfl, hS, hLd, hIt⟩
  show G0 _ _ _ _ _ _ _ _
  exact lp _ (waysL g) 0 w1 (Nat.lt_succ_self _) hS.G hLd hIt (Nat.zero_add _)
theorem ord_ok {c : List (Nat × Nat)} {f p : Nat} (hX : RdX true c [] f p 0) : c.length ≤ 400 ∧ ∀ j, j < c.length → cO c j < 31 ∧ cA c j < 1001 ∧ (29 ≤ cO c j → j < cA c j) ∧ (cO c j < 20 → cO c j < 7) := by
  obtain ⟨⟨a1, a2, a3, a4, a5, a6⟩, a7⟩ := hX
  have hl := a1.1
  rw [List.length_nil] at hl
  refine ⟨by omega, fun j hj => ?_⟩
  have := a5 _ (cO_mem hj)
  have h7 : (partsL true).length = 6 := rfl
  have z := this.2
  rw [h7] at z
  have z2 : cO c j ≤ 6 ∨ (20 ≤ cO c j ∧ cO c j < 31) := z
  refine ⟨by omega, this.1, fun y => ?_, fun y => by omega⟩
  rcases a6 j hj y with x | ⟨q, hq, -⟩
  · exact x.1
  · cases hq
theorem c_M_sumOfN {E : EV} {w : Mem} {at_ a b : Nat} {c : List (Nat × Nat)} {d : Den} {env : Nat → Int} {g : GC} {f p : Nat} (hoff : rI w 89 65 = nI 0) (hat : at_ + 1 < 96) (h1 : rI w 126 at_ = nI a) (h2 : rI w 126 (at_ + 1) = nI b) (hseg : SegL c a b d) (hb : b ≤ c.length) (hXr : RdX true c [] f p 0) (hcd : CodeP w c) (hR : MRow (rI w 91) g) (hW : WG g) (hwd : ∀ j, 1 ≤ j → j < 6 → rJ w 108 j = lI (env j) ∧ bd (env j)) (hdg : ∀ x, x < 1001 → env (20 + x) = if x < gN g then (pop (nearB (gE g) x) : Int) else -1) (hd : d env = none) : T E m_M_sumOf 3 0 0 [.ref 89, .int (nI at_)] w (fun r w2 => (∃ x, r = some (.int x)) ∧ FrKo w w2 ∧ rI w2 89 20 = nI 0 ∧ rI w2 89 65 = nI 1) := by
  refine T_of (L := [.ref 89, .int (nI at_)]) cf_M_sumOf rfl (Nat.le_of_ble_eq_true rfl) (fun X hX hF => ?_)
  have hok := ord_ok hXr
  have hab := hseg.1
  refine g_aload0 hX d_M_sumOf_0 ?_
  refine g_getZ hX d_M_sumOf_1 fl_M_571 (lv_89 _) ?_
  refine g_topi hoff ?_
  refine g_if_ne hX d_M_sumOf_4 (fun h => absurd (by decide) h) (fun c0 => ?_)
  refine g_aload0 hX d_M_sumOf_7 ?_
  refine g_getF hX d_M_sumOf_8 fl_M_158 (lv_89 _) ?_
  refine g_iload1 hX d_M_sumOf_11 ?_
  refine g_iald hX d_M_sumOf_12 (lv_126 _) rfl (by omega) ?_
  refine g_topi h1 ?_
  refine g_aload0 hX d_M_sumOf_13 ?_
  refine g_getF hX d_M_sumOf_14 fl_M_158 (lv_89 _) ?_
  refine g_iload1 hX d_M_sumOf_17 ?_
  refine g_iconst (v := nI 1) hX d_M_sumOf_18 rfl ?_
  refine g_iaddN hX d_M_sumOf_19 ?_
  refine g_iald hX d_M_sumOf_20 (lv_126 _) rfl (by omega) ?_
  refine g_topi h2 ?_
  refine g_icmpN_ne hX d_M_sumOf_21 (by omega) (by omega) (fun c1 => ?_) (fun h => absurd h (by have := hseg.1; omega))
  refine g_aload0 hX d_M_sumOf_26 ?_
  refine g_iconst (v := nI 1) hX d_M_sumOf_27 rfl ?_
  refine g_putZ hX d_M_sumOf_28 fl_M_335 (lv_89 _) (by first | exact Or.inl rfl | exact Or.inr rfl) ?_
  refine g_aload0 hX d_M_sumOf_31 ?_
  refine g_aload0 hX d_M_sumOf_32 ?_
  refine g_getF hX d_M_sumOf_33 fl_M_158 (lv_89 _) ?_
  refine g_iload1 hX d_M_sumOf_36 ?_
  refine g_iald hX d_M_sumOf_37 (lv_126 _) rfl (by omega) ?_
  refine g_topi (show rI (sI w 89 20 (nI 1)) 126 at_ = nI a from h1) ?_
  refine g_aload0 hX d_M_sumOf_38 ?_
  refine g_getF hX d_M_sumOf_39 fl_M_158 (lv_89 _) ?_
  refine g_iload1 hX d_M_sumOf_42 ?_
  refine g_iconst (v := nI 1) hX d_M_sumOf_43 rfl ?_
  refine g_iaddN hX d_M_sumOf_44 ?_
  refine g_iald hX d_M_sumOf_45 (lv_126 _) rfl (by omega) ?_
  refine g_topi (show rI (sI w 89 20 (nI 1)) 126 (at_ + 1) = nI b from h2) ?_
  refine g_callV (As := [_, _]) hX hF.1 d_M_sumOf_46 ml_M_426 cf_M_reckonAll cv_M_reckonAll rfl rfl (c_M_reckonAllO (w := sI w 89 20 (nI 1)) (len := 0) (law := 0) (env := env) (g := g) hseg.M (fun j hj => ⟨(hok.2 j (by omega)).1, (hok.2 j (by omega)).2.1, (hok.2 j (by omega)).2.2.1⟩) (by omega) (fun j hj => hcd.2 j (by omega)) (by rw [rI_sI, upd_eq, if_pos rfl]) hR hW hwd hdg (fun j hj => (hok.2 j (by omega)).2.2.2)) (rcv_obj hX (lv_89 _) rfl rfl) (by omega) (by omega) (by omega) (Nat.le_of_ble_eq_true rfl) ?_
  rintro _ w2 ⟨rfl, hf2, hev⟩
  rw [hd] at hev
  show G0 _ _ _ _ _ _ _ _
  refine g_aload0 hX d_M_sumOf_49 ?_
  refine g_iconst (v := nI 0) hX d_M_sumOf_50 rfl ?_
  refine g_putZ hX d_M_sumOf_51 fl_M_335 (lv_89 _) (by first | exact Or.inl rfl | exact Or.inr rfl) ?_
  refine g_aload0 hX d_M_sumOf_54 ?_
  refine g_aload0 hX d_M_sumOf_55 ?_
  refine g_getZ hX d_M_sumOf_56 fl_M_409 (lv_89 _) ?_
  refine g_topi (show rI (sI w2 89 20 (nI 0)) 89 38 = nI 1 by rw [rI_sI, upd_eq, if_neg (by decide)]; exact hev) ?_
  refine g_putZ hX d_M_sumOf_59 fl_M_571 (lv_89 _) (by first | exact Or.inl rfl | exact Or.inr rfl) ?_
  refine g_aload0 hX d_M_sumOf_62 ?_
  refine g_getJ hX d_M_sumOf_63 fl_M_423 (lv_89 _) ?_
  refine g_l2i hX d_M_sumOf_66 ?_
  refine g_iret hX hF d_M_sumOf_67 (by omega) (by omega) ?_
  exact ⟨⟨_, rfl⟩, ((((FrKo.rf w).I (by decide)).tr hf2.K).I (by decide)).I (by decide), by rw [rI_sI, upd_eq, if_neg (by decide), rI_sI, upd_eq, if_pos rfl], by rw [rI_sI, upd_eq, if_pos rfl]⟩
theorem c_M_sumOfY {E : EV} {w : Mem} {at_ a b : Nat} {c : List (Nat × Nat)} {d : Den} {env : Nat → Int} {g : GC} {f p : Nat} (hoff : rI w 89 65 = nI 0) (hat : at_ + 1 < 96) (h1 : rI w 126 at_ = nI a) (h2 : rI w 126 (at_ + 1) = nI b) (hseg : SegL c a b d) (hb : b ≤ c.length) (hXr : RdX true c [] f p 0) (hcd : CodeP w c) (hR : MRow (rI w 91) g) (hW : WG g) (hwd : ∀ j, 1 ≤ j → j < 6 → rJ w 108 j = lI (env j) ∧ bd (env j)) (hdg : ∀ x, x < 1001 → env (20 + x) = if x < gN g then (pop (nearB (gE g) x) : Int) else -1) {v : Int} (hd : d env = some v) : T E m_M_sumOf 3 0 0 [.ref 89, .int (nI at_)] w (fun r w2 => r = some (.int (Int32.ofInt v)) ∧ bd v ∧ FrKo w w2 ∧ rI w2 89 20 = nI 0 ∧ rI w2 89 65 = nI 0) := by
  refine T_of (L := [.ref 89, .int (nI at_)]) cf_M_sumOf rfl (Nat.le_of_ble_eq_true rfl) (fun X hX hF => ?_)
  have hok := ord_ok hXr
  have hab := hseg.1
  refine g_aload0 hX d_M_sumOf_0 ?_
  refine g_getZ hX d_M_sumOf_1 fl_M_571 (lv_89 _) ?_
  refine g_topi hoff ?_
  refine g_if_ne hX d_M_sumOf_4 (fun h => absurd (by decide) h) (fun c0 => ?_)
  refine g_aload0 hX d_M_sumOf_7 ?_
  refine g_getF hX d_M_sumOf_8 fl_M_158 (lv_89 _) ?_
  refine g_iload1 hX d_M_sumOf_11 ?_
  refine g_iald hX d_M_sumOf_12 (lv_126 _) rfl (by omega) ?_
  refine g_topi h1 ?_
  refine g_aload0 hX d_M_sumOf_13 ?_
  refine g_getF hX d_M_sumOf_14 fl_M_158 (lv_89 _) ?_
  refine g_iload1 hX d_M_sumOf_17 ?_
  refine g_iconst (v := nI 1) hX d_M_sumOf_18 rfl ?_
  refine g_iaddN hX d_M_sumOf_19 ?_
  refine g_iald hX d_M_sumOf_20 (lv_126 _) rfl (by omega) ?_
  refine g_topi h2 ?_
  refine g_icmpN_ne hX d_M_sumOf_21 (by omega) (by omega) (fun c1 => ?_) (fun h => absurd h (by have := hseg.1; omega))
  refine g_aload0 hX d_M_sumOf_26 ?_
  refine g_iconst (v := nI 1) hX d_M_sumOf_27 rfl ?_
  refine g_putZ hX d_M_sumOf_28 fl_M_335 (lv_89 _) (by first | exact Or.inl rfl | exact Or.inr rfl) ?_
  refine g_aload0 hX d_M_sumOf_31 ?_
  refine g_aload0 hX d_M_sumOf_32 ?_
  refine g_getF hX d_M_sumOf_33 fl_M_158 (lv_89 _) ?_
  refine g_iload1 hX d_M_sumOf_36 ?_
  refine g_iald hX d_M_sumOf_37 (lv_126 _) rfl (by omega) ?_
  refine g_topi (show rI (sI w 89 20 (nI 1)) 126 at_ = nI a from h1) ?_
  refine g_aload0 hX d_M_sumOf_38 ?_
  refine g_getF hX d_M_sumOf_39 fl_M_158 (lv_89 _) ?_
  refine g_iload1 hX d_M_sumOf_42 ?_
  refine g_iconst (v := nI 1) hX d_M_sumOf_43 rfl ?_
  refine g_iaddN hX d_M_sumOf_44 ?_
  refine g_iald hX d_M_sumOf_45 (lv_126 _) rfl (by omega) ?_
  refine g_topi (show rI (sI w 89 20 (nI 1)) 126 (at_ + 1) = nI b from h2) ?_
  refine g_callV (As := [_, _]) hX hF.1 d_M_sumOf_46 ml_M_426 cf_M_reckonAll cv_M_reckonAll rfl rfl (c_M_reckonAllO (w := sI w 89 20 (nI 1)) (len := 0) (law := 0) (env := env) (g := g) hseg.M (fun j hj => ⟨(hok.2 j (by omega)).1, (hok.2 j (by omega)).2.1, (hok.2 j (by omega)).2.2.1⟩) (by omega) (fun j hj => hcd.2 j (by omega)) (by rw [rI_sI, upd_eq, if_pos rfl]) hR hW hwd hdg (fun j hj => (hok.2 j (by omega)).2.2.2)) (rcv_obj hX (lv_89 _) rfl rfl) (by omega) (by omega) (by omega) (Nat.le_of_ble_eq_true rfl) ?_
  rintro _ w2 ⟨rfl, hf2, hev⟩
  rw [hd] at hev
  show G0 _ _ _ _ _ _ _ _
  refine g_aload0 hX d_M_sumOf_49 ?_
  refine g_iconst (v := nI 0) hX d_M_sumOf_50 rfl ?_
  refine g_putZ hX d_M_sumOf_51 fl_M_335 (lv_89 _) (by first | exact Or.inl rfl | exact Or.inr rfl) ?_
  refine g_aload0 hX d_M_sumOf_54 ?_
  refine g_aload0 hX d_M_sumOf_55 ?_
  refine g_getZ hX d_M_sumOf_56 fl_M_409 (lv_89 _) ?_
  refine g_topi (show rI (sI w2 89 20 (nI 0)) 89 38 = nI 0 by rw [rI_sI, upd_eq, if_neg (by decide)]; exact hev.1) ?_
  refine g_putZ hX d_M_sumOf_59 fl_M_571 (lv_89 _) (by first | exact Or.inl rfl | exact Or.inr rfl) ?_
  refine g_aload0 hX d_M_sumOf_62 ?_
  refine g_getJ hX d_M_sumOf_63 fl_M_423 (lv_89 _) ?_
  refine g_topl (show rJ (sI (sI w2 89 20 (nI 0)) 89 65 (nI 0)) 89 39 = lI v from hev.2.1) ?_
  refine g_l2i hX d_M_sumOf_66 ?_
  refine g_topi (y := Int32.ofInt v) Int64.toInt32_ofInt ?_
  refine g_iret hX hF d_M_sumOf_67 (by omega) (by omega) ?_
  exact ⟨rfl, hev.2.2, ((((FrKo.rf w).I (by decide)).tr hf2.K).I (by decide)).I (by decide), by rw [rI_sI, upd_eq, if_neg (by decide), rI_sI, upd_eq, if_pos rfl], by rw [rI_sI, upd_eq, if_pos rfl]⟩
theorem c_M_sumOfO {E : EV} {w : Mem} {at_ : Int32} (hoff : rI w 89 65 = nI 1) : T E m_M_sumOf 3 0 0 [.ref 89, .int at_] w (Ret (some (.int (-1))) w) := by
  refine T_of (L := [.ref 89, .int at_]) cf_M_sumOf rfl (Nat.le_of_ble_eq_true rfl) (fun X hX hF => ?_)
  refine g_aload0 hX d_M_sumOf_0 ?_
  refine g_getZ hX d_M_sumOf_1 fl_M_571 (lv_89 _) ?_
  refine g_topi hoff ?_
  refine g_if_ne hX d_M_sumOf_4 (fun c0 => ?_) (fun h => absurd h (by decide))
  refine g_iconst (v := -1) hX d_M_sumOf_24 rfl ?_
  refine g_iret hX hF d_M_sumOf_25 (by omega) (by omega) ?_
  exact ⟨rfl, rfl⟩
/-- what a sum comes to, with off = o before it -/
def SuP (o : Nat) (c : Option Int) (x : Int32) (w2 : Mem) : Prop := ∃ o2 : Nat, rI w2 89 65 = nI o2 ∧ ((o2 = 1 ∧ (o = 1 ∨ c = none)) ∨ (o2 = 0 ∧ o = 0 ∧ ∃ v, c = some v ∧ bd v ∧ x = Int32.ofInt v))
theorem c_M_sumOf {E : EV} {w : Mem} {o : Nat} (ho : o = 0 ∨ o = 1) (h20 : rI w 89 20 = nI 0) {at_ a b : Nat} {c : List (Nat × Nat)} {d : Den} {env : Nat → Int} {g : GC} {f p : Nat} (hoff : rI w 89 65 = nI o) (hat : at_ + 1 < 96) (h1 : rI w 126 at_ = nI a) (h2 : rI w 126 (at_ + 1) = nI b) (hseg : SegL c a b d) (hb : b ≤ c.length) (hXr : RdX true c [] f p 0) (hcd : CodeP w c) (hR : MRow (rI w 91) g) (hW : WG g) (hwd : ∀ j, 1 ≤ j → j < 6 → rJ w 108 j = lI (env j) ∧ bd (env j)) (hdg : ∀ x, x < 1001 → env (20 + x) = if x < gN g then (pop (nearB (gE g) x) : Int) else -1) : T E m_M_sumOf 3 0 0 [.ref 89, .int (nI at_)] w (fun r w2 => ∃ x, r = some (.int x) ∧ FrKo w w2 ∧ rI w2 89 20 = nI 0 ∧ SuP o (d env) x w2) := by
  rcases ho with rfl | rfl
  · cases hd : d env with
    | none =>
      refine (c_M_sumOfN hoff hat h1 h2 hseg hb hXr hcd hR hW hwd hdg hd).mono (fun r w2 hr => ?_)
      obtain ⟨⟨x, rfl⟩, f1, z1, z2⟩ := hr
      exact ⟨x, rfl, f1, z1, 1, z2, Or.inl ⟨rfl, Or.inr rfl⟩⟩
    | some v =>
      refine (c_M_sumOfY hoff hat h1 h2 hseg hb hXr hcd hR hW hwd hdg hd).mono (fun r w2 hr => ?_)
      obtain ⟨rfl, y, f1, z1, z2⟩ := hr
      exact ⟨_, rfl, f1, z1, 0, z2, Or.inr ⟨rfl, rfl, v, rfl, y, rfl⟩⟩
  · refine (c_M_sumOfO hoff).mono (fun r w2 hr => ?_)
    obtain ⟨rfl, rfl⟩ := hr
    exact ⟨_, rfl, FrKo.rf _, h20, 1, hoff, Or.inl ⟨rfl, Or.inl rfl⟩⟩
theorem c_M_act {E : EV} {w : Mem} {a : Nat} {x y : Int32} {g : GC} {u : List (Nat × Snap)} (hG : MGU w g u) (ha4 : a < 4) : T E m_M_act 4 0 0 [.ref 89, .int (nI a), .int x, .int y] w (fun r w2 => r = some (.int (aAct a x y g u).1) ∧ MGU w2 (aAct a x y g u).2.1 (aAct a x y g u).2.2 ∧ FrA w w2) := by
  refine T_of (L := [.ref 89, .int (nI a), .int x, .int y]) cf_M_act rfl (Nat.le_of_ble_eq_true rfl) (fun X hX hF => ?_)
  refine g_iload1 hX d_M_act_0 ?_
  by_cases c0_0 : (nI a) = 0
  · refine g_tableIn (off := 27) (tgt := 28) hX d_M_act_1 (by rw [c0_0]; decide) (by rw [c0_0]; decide) (by rw [c0_0]; rfl) rfl ?_
    have ha : aAct a x y g u = aEdge x y g u := by
      unfold aAct
      have hk : a = 0 := nI_inj (by omega) (by decide) c0_0
      rw [hk, if_pos rfl]
    refine g_aload0 hX d_M_act_28 ?_
    refine g_iload2 hX d_M_act_29 ?_
    refine g_iload3 hX d_M_act_30 ?_
    refine g_callV (As := [_, _]) hX hF.1 d_M_act_31 ml_M_446 cf_M_edgeNow cv_M_edgeNow rfl rfl (c_M_edgeNow (x := x) (y := y) hG) (rcv_obj hX (lv_89 _) rfl rfl) (by omega) (by omega) (by omega) (Nat.le_of_ble_eq_true rfl) ?_
    rintro _ w2 ⟨rfl, hG2, hf2⟩
    show G0 _ _ _ _ _ _ _ _
    refine g_iret hX hF d_M_act_34 (by omega) (by omega) ?_
    rw [← ha] at hG2 ⊢
    exact ⟨rfl, hG2, hf2⟩
  by_cases c0_1 : (nI a) = 1
  · refine g_tableIn (off := 34) (tgt := 35) hX d_M_act_1 (by rw [c0_1]; decide) (by rw [c0_1]; decide) (by rw [c0_1]; rfl) rfl ?_
    have ha : aAct a x y g u = aLink x y g u := by
      unfold aAct
      have hk : a = 1 := nI_inj (by omega) (by decide) c0_1
      rw [hk, if_neg (by decide), if_pos rfl]
    refine g_aload0 hX d_M_act_35 ?_
    refine g_iload2 hX d_M_act_36 ?_
    refine g_iload3 hX d_M_act_37 ?_
    refine g_callV (As := [_, _]) hX hF.1 d_M_act_38 ml_M_449 cf_M_linkNow cv_M_linkNow rfl rfl (c_M_linkNow (x := x) (y := y) hG) (rcv_obj hX (lv_89 _) rfl rfl) (by omega) (by omega) (by omega) (Nat.le_of_ble_eq_true rfl) ?_
    rintro _ w2 ⟨rfl, hG2, hf2⟩
    show G0 _ _ _ _ _ _ _ _
    refine g_iret hX hF d_M_act_41 (by omega) (by omega) ?_
    rw [← ha] at hG2 ⊢
    exact ⟨rfl, hG2, hf2⟩
  by_cases c0_2 : (nI a) = 2
  · refine g_tableIn (off := 41) (tgt := 42) hX d_M_act_1 (by rw [c0_2]; decide) (by rw [c0_2]; decide) (by rw [c0_2]; rfl) rfl ?_
    have ha : aAct a x y g u = aPaint x y g u := by
      unfold aAct
      have hk : a = 2 := nI_inj (by omega) (by decide) c0_2
      rw [hk, if_neg (by decide), if_neg (by decide), if_pos rfl]
    refine g_aload0 hX d_M_act_42 ?_
    refine g_iload2 hX d_M_act_43 ?_
    refine g_iload3 hX d_M_act_44 ?_
    refine g_callV (As := [_, _]) hX hF.1 d_M_act_45 ml_M_456 cf_M_paintNow cv_M_paintNow rfl rfl (c_M_paintNow (x := x) (y := y) hG) (rcv_obj hX (lv_89 _) rfl rfl) (by omega) (by omega) (by omega) (Nat.le_of_ble_eq_true rfl) ?_
    rintro _ w2 ⟨rfl, hG2, hf2⟩
    show G0 _ _ _ _ _ _ _ _
    refine g_iret hX hF d_M_act_48 (by omega) (by omega) ?_
    rw [← ha] at hG2 ⊢
    exact ⟨rfl, hG2, hf2⟩
  refine g_tableOut (tgt := 49) hX d_M_act_1 (sw_outR (lo := 0) (hi := 2) (by decide) (by intro k hk1 hk2; rcases (show k = 0 ∨ k = 1 ∨ k = 2 by omega) with rfl | rfl | rfl <;> first | exact c0_0 | exact c0_1 | exact c0_2)) rfl ?_
  have ha : aAct a x y g u = aDye x y g u := by
    unfold aAct
    have n1 : ∀ j, nI a ≠ nI j → a ≠ j := fun j h1 h2 => h1 (by rw [h2])
    rw [if_neg (n1 0 c0_0), if_neg (n1 1 c0_1), if_neg (n1 2 c0_2)]
  refine g_aload0 hX d_M_act_49 ?_
  refine g_iload2 hX d_M_act_50 ?_
  refine g_iload3 hX d_M_act_51 ?_
  refine g_callV (As := [_, _]) hX hF.1 d_M_act_52 ml_M_459 cf_M_dyeNow cv_M_dyeNow rfl rfl (c_M_dyeNow (x := x) (y := y) hG) (rcv_obj hX (lv_89 _) rfl rfl) (by omega) (by omega) (by omega) (Nat.le_of_ble_eq_true rfl) ?_
  rintro _ w2 ⟨rfl, hG2, hf2⟩
  show G0 _ _ _ _ _ _ _ _
  refine g_iret hX hF d_M_act_55 (by omega) (by omega) ?_
  rw [← ha] at hG2 ⊢
  exact ⟨rfl, hG2, hf2⟩
