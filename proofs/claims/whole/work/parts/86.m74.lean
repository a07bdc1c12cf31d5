def m_Ac_clearAll : MR := (⟨"SubgraphDesk$Acts", "clearAll", "()V"⟩, prog_2_method_2_code, 1, none)
theorem cf_Ac_clearAll : CF m_Ac_clearAll 0 := ⟨gd 611 (by decide +kernel) rfl, gd 141 (by decide +kernel) rfl, by decide +kernel, by decide, by decide +kernel⟩
theorem cv_Ac_clearAll : CV m_Ac_clearAll := ⟨gd 609 (by decide +kernel) rfl, gd 610 (by decide +kernel) rfl⟩
def m_Ac_dropOldest : MR := (⟨"SubgraphDesk$Acts", "dropOldest", "()V"⟩, prog_2_method_5_code, 1, none)
theorem cf_Ac_dropOldest : CF m_Ac_dropOldest 0 := ⟨gd 1091 (by decide +kernel) rfl, gd 141 (by decide +kernel) rfl, by decide +kernel, by decide, by decide +kernel⟩
theorem cv_Ac_dropOldest : CV m_Ac_dropOldest := ⟨gd 1090 (by decide +kernel) rfl, gd 31 (by decide +kernel) rfl⟩
def m_Ac_note : MR := (⟨"SubgraphDesk$Acts", "note", "(IIII)V"⟩, prog_2_method_4_code, 5, none)
theorem cf_Ac_note : CF m_Ac_note 4 := ⟨gd 1087 (by decide +kernel) rfl, gd 141 (by decide +kernel) rfl, by decide +kernel, by decide, by decide +kernel⟩
theorem cv_Ac_note : CV m_Ac_note := ⟨gd 1086 (by decide +kernel) rfl, gd 30 (by decide +kernel) rfl⟩
theorem d_Ac_clearAll_0 : Dc prog_2_method_2_code 0 (.aload_n 0) 1 1 := ⟨by decide +kernel, rfl⟩
theorem d_Ac_clearAll_1 : Dc prog_2_method_2_code 1 (.iconst 0) 1 2 := ⟨by decide +kernel, rfl⟩
theorem d_Ac_clearAll_2 : Dc prog_2_method_2_code 2 (.putfield 24) 3 5 := ⟨by decide +kernel, rfl⟩
theorem d_Ac_clearAll_5 : Dc prog_2_method_2_code 5 (.return_) 1 6 := ⟨by decide +kernel, rfl⟩
theorem d_Ac_dropOldest_0 : Dc prog_2_method_5_code 0 (.aload_n 0) 1 1 := ⟨by decide +kernel, rfl⟩
theorem d_Ac_dropOldest_1 : Dc prog_2_method_5_code 1 (.bipush 15) 2 3 := ⟨by decide +kernel, rfl⟩
theorem d_Ac_dropOldest_3 : Dc prog_2_method_5_code 3 (.putfield 24) 3 6 := ⟨by decide +kernel, rfl⟩
theorem d_Ac_dropOldest_6 : Dc prog_2_method_5_code 6 (.aload_n 0) 1 7 := ⟨by decide +kernel, rfl⟩
theorem d_Ac_dropOldest_7 : Dc prog_2_method_5_code 7 (.getfield 11) 3 10 := ⟨by decide +kernel, rfl⟩
theorem d_Ac_dropOldest_10 : Dc prog_2_method_5_code 10 (.iconst 1) 1 11 := ⟨by decide +kernel, rfl⟩
theorem d_Ac_dropOldest_11 : Dc prog_2_method_5_code 11 (.aload_n 0) 1 12 := ⟨by decide +kernel, rfl⟩
theorem d_Ac_dropOldest_12 : Dc prog_2_method_5_code 12 (.getfield 11) 3 15 := ⟨by decide +kernel, rfl⟩
theorem d_Ac_dropOldest_15 : Dc prog_2_method_5_code 15 (.iconst 0) 1 16 := ⟨by decide +kernel, rfl⟩
theorem d_Ac_dropOldest_16 : Dc prog_2_method_5_code 16 (.aload_n 0) 1 17 := ⟨by decide +kernel, rfl⟩
theorem d_Ac_dropOldest_17 : Dc prog_2_method_5_code 17 (.getfield 24) 3 20 := ⟨by decide +kernel, rfl⟩
theorem d_Ac_dropOldest_20 : Dc prog_2_method_5_code 20 (.invokestatic 28) 3 23 := ⟨by decide +kernel, rfl⟩
theorem d_Ac_dropOldest_23 : Dc prog_2_method_5_code 23 (.aload_n 0) 1 24 := ⟨by decide +kernel, rfl⟩
theorem d_Ac_dropOldest_24 : Dc prog_2_method_5_code 24 (.getfield 15) 3 27 := ⟨by decide +kernel, rfl⟩
theorem d_Ac_dropOldest_27 : Dc prog_2_method_5_code 27 (.iconst 1) 1 28 := ⟨by decide +kernel, rfl⟩
theorem d_Ac_dropOldest_28 : Dc prog_2_method_5_code 28 (.aload_n 0) 1 29 := ⟨by decide +kernel, rfl⟩
theorem d_Ac_dropOldest_29 : Dc prog_2_method_5_code 29 (.getfield 15) 3 32 := ⟨by decide +kernel, rfl⟩
theorem d_Ac_dropOldest_32 : Dc prog_2_method_5_code 32 (.iconst 0) 1 33 := ⟨by decide +kernel, rfl⟩
theorem d_Ac_dropOldest_33 : Dc prog_2_method_5_code 33 (.aload_n 0) 1 34 := ⟨by decide +kernel, rfl⟩
theorem d_Ac_dropOldest_34 : Dc prog_2_method_5_code 34 (.getfield 24) 3 37 := ⟨by decide +kernel, rfl⟩
theorem d_Ac_dropOldest_37 : Dc prog_2_method_5_code 37 (.invokestatic 28) 3 40 := ⟨by decide +kernel, rfl⟩
theorem d_Ac_dropOldest_40 : Dc prog_2_method_5_code 40 (.aload_n 0) 1 41 := ⟨by decide +kernel, rfl⟩
theorem d_Ac_dropOldest_41 : Dc prog_2_method_5_code 41 (.getfield 18) 3 44 := ⟨by decide +kernel, rfl⟩
theorem d_Ac_dropOldest_44 : Dc prog_2_method_5_code 44 (.iconst 1) 1 45 := ⟨by decide +kernel, rfl⟩
theorem d_Ac_dropOldest_45 : Dc prog_2_method_5_code 45 (.aload_n 0) 1 46 := ⟨by decide +kernel, rfl⟩
theorem d_Ac_dropOldest_46 : Dc prog_2_method_5_code 46 (.getfield 18) 3 49 := ⟨by decide +kernel, rfl⟩
theorem d_Ac_dropOldest_49 : Dc prog_2_method_5_code 49 (.iconst 0) 1 50 := ⟨by decide +kernel, rfl⟩
theorem d_Ac_dropOldest_50 : Dc prog_2_method_5_code 50 (.aload_n 0) 1 51 := ⟨by decide +kernel, rfl⟩
theorem d_Ac_dropOldest_51 : Dc prog_2_method_5_code 51 (.getfield 24) 3 54 := ⟨by decide +kernel, rfl⟩
theorem d_Ac_dropOldest_54 : Dc prog_2_method_5_code 54 (.invokestatic 28) 3 57 := ⟨by decide +kernel, rfl⟩
theorem d_Ac_dropOldest_57 : Dc prog_2_method_5_code 57 (.aload_n 0) 1 58 := ⟨by decide +kernel, rfl⟩
theorem d_Ac_dropOldest_58 : Dc prog_2_method_5_code 58 (.getfield 21) 3 61 := ⟨by decide +kernel, rfl⟩
theorem d_Ac_dropOldest_61 : Dc prog_2_method_5_code 61 (.iconst 1) 1 62 := ⟨by decide +kernel, rfl⟩
theorem d_Ac_dropOldest_62 : Dc prog_2_method_5_code 62 (.aload_n 0) 1 63 := ⟨by decide +kernel, rfl⟩
theorem d_Ac_dropOldest_63 : Dc prog_2_method_5_code 63 (.getfield 21) 3 66 := ⟨by decide +kernel, rfl⟩
theorem d_Ac_dropOldest_66 : Dc prog_2_method_5_code 66 (.iconst 0) 1 67 := ⟨by decide +kernel, rfl⟩
theorem d_Ac_dropOldest_67 : Dc prog_2_method_5_code 67 (.aload_n 0) 1 68 := ⟨by decide +kernel, rfl⟩
theorem d_Ac_dropOldest_68 : Dc prog_2_method_5_code 68 (.getfield 24) 3 71 := ⟨by decide +kernel, rfl⟩
theorem d_Ac_dropOldest_71 : Dc prog_2_method_5_code 71 (.invokestatic 28) 3 74 := ⟨by decide +kernel, rfl⟩
theorem d_Ac_dropOldest_74 : Dc prog_2_method_5_code 74 (.return_) 1 75 := ⟨by decide +kernel, rfl⟩
theorem d_Ac_note_0 : Dc prog_2_method_4_code 0 (.aload_n 0) 1 1 := ⟨by decide +kernel, rfl⟩
theorem d_Ac_note_1 : Dc prog_2_method_4_code 1 (.getfield 24) 3 4 := ⟨by decide +kernel, rfl⟩
theorem d_Ac_note_4 : Dc prog_2_method_4_code 4 (.bipush 16) 2 6 := ⟨by decide +kernel, rfl⟩
theorem d_Ac_note_6 : Dj prog_2_method_4_code 6 (.if_icmp .lt 7) 9 7 13 := ⟨by decide +kernel, rfl, rfl⟩
theorem d_Ac_note_9 : Dc prog_2_method_4_code 9 (.aload_n 0) 1 10 := ⟨by decide +kernel, rfl⟩
theorem d_Ac_note_10 : Dc prog_2_method_4_code 10 (.invokevirtual 34) 3 13 := ⟨by decide +kernel, rfl⟩
theorem d_Ac_note_13 : Dc prog_2_method_4_code 13 (.aload_n 0) 1 14 := ⟨by decide +kernel, rfl⟩
theorem d_Ac_note_14 : Dc prog_2_method_4_code 14 (.getfield 11) 3 17 := ⟨by decide +kernel, rfl⟩
theorem d_Ac_note_17 : Dc prog_2_method_4_code 17 (.aload_n 0) 1 18 := ⟨by decide +kernel, rfl⟩
theorem d_Ac_note_18 : Dc prog_2_method_4_code 18 (.getfield 24) 3 21 := ⟨by decide +kernel, rfl⟩
theorem d_Ac_note_21 : Dc prog_2_method_4_code 21 (.iload_n 1) 1 22 := ⟨by decide +kernel, rfl⟩
theorem d_Ac_note_22 : Dc prog_2_method_4_code 22 (.iastore) 1 23 := ⟨by decide +kernel, rfl⟩
theorem d_Ac_note_23 : Dc prog_2_method_4_code 23 (.aload_n 0) 1 24 := ⟨by decide +kernel, rfl⟩
theorem d_Ac_note_24 : Dc prog_2_method_4_code 24 (.getfield 15) 3 27 := ⟨by decide +kernel, rfl⟩
theorem d_Ac_note_27 : Dc prog_2_method_4_code 27 (.aload_n 0) 1 28 := ⟨by decide +kernel, rfl⟩
theorem d_Ac_note_28 : Dc prog_2_method_4_code 28 (.getfield 24) 3 31 := ⟨by decide +kernel, rfl⟩
theorem d_Ac_note_31 : Dc prog_2_method_4_code 31 (.iload_n 2) 1 32 := ⟨by decide +kernel, rfl⟩
theorem d_Ac_note_32 : Dc prog_2_method_4_code 32 (.iastore) 1 33 := ⟨by decide +kernel, rfl⟩
theorem d_Ac_note_33 : Dc prog_2_method_4_code 33 (.aload_n 0) 1 34 := ⟨by decide +kernel, rfl⟩
theorem d_Ac_note_34 : Dc prog_2_method_4_code 34 (.getfield 18) 3 37 := ⟨by decide +kernel, rfl⟩
theorem d_Ac_note_37 : Dc prog_2_method_4_code 37 (.aload_n 0) 1 38 := ⟨by decide +kernel, rfl⟩
theorem d_Ac_note_38 : Dc prog_2_method_4_code 38 (.getfield 24) 3 41 := ⟨by decide +kernel, rfl⟩
theorem d_Ac_note_41 : Dc prog_2_method_4_code 41 (.iload_n 3) 1 42 := ⟨by decide +kernel, rfl⟩
theorem d_Ac_note_42 : Dc prog_2_method_4_code 42 (.iastore) 1 43 := ⟨by decide +kernel, rfl⟩
theorem d_Ac_note_43 : Dc prog_2_method_4_code 43 (.aload_n 0) 1 44 := ⟨by decide +kernel, rfl⟩
theorem d_Ac_note_44 : Dc prog_2_method_4_code 44 (.getfield 21) 3 47 := ⟨by decide +kernel, rfl⟩
theorem d_Ac_note_47 : Dc prog_2_method_4_code 47 (.aload_n 0) 1 48 := ⟨by decide +kernel, rfl⟩
theorem d_Ac_note_48 : Dc prog_2_method_4_code 48 (.getfield 24) 3 51 := ⟨by decide +kernel, rfl⟩
theorem d_Ac_note_51 : Dc prog_2_method_4_code 51 (.iload 4) 2 53 := ⟨by decide +kernel, rfl⟩
theorem d_Ac_note_53 : Dc prog_2_method_4_code 53 (.iastore) 1 54 := ⟨by decide +kernel, rfl⟩
theorem d_Ac_note_54 : Dc prog_2_method_4_code 54 (.aload_n 0) 1 55 := ⟨by decide +kernel, rfl⟩
theorem d_Ac_note_55 : Dc prog_2_method_4_code 55 (.dup) 1 56 := ⟨by decide +kernel, rfl⟩
theorem d_Ac_note_56 : Dc prog_2_method_4_code 56 (.getfield 24) 3 59 := ⟨by decide +kernel, rfl⟩
theorem d_Ac_note_59 : Dc prog_2_method_4_code 59 (.iconst 1) 1 60 := ⟨by decide +kernel, rfl⟩
theorem d_Ac_note_60 : Dc prog_2_method_4_code 60 (.iadd) 1 61 := ⟨by decide +kernel, rfl⟩
theorem d_Ac_note_61 : Dc prog_2_method_4_code 61 (.putfield 24) 3 64 := ⟨by decide +kernel, rfl⟩
theorem d_Ac_note_64 : Dc prog_2_method_4_code 64 (.return_) 1 65 := ⟨by decide +kernel, rfl⟩
theorem fl_Ac_11 : FL "SubgraphDesk$Acts" 11 1 1 true (.array .int) (3, 1) := ⟨R_Ac, F_Ac, 5, ty_Ac, rfl, rfl, in_Ac, tyok_Ac, nm_Ac, by decide, gd 273 (by decide +kernel) rfl, rfl, rfl, rfl⟩
theorem fl_Ac_15 : FL "SubgraphDesk$Acts" 15 1 2 true (.array .int) (3, 2) := ⟨R_Ac, F_Ac, 5, ty_Ac, rfl, rfl, in_Ac, tyok_Ac, nm_Ac, by decide, gd 274 (by decide +kernel) rfl, rfl, rfl, rfl⟩
theorem fl_Ac_18 : FL "SubgraphDesk$Acts" 18 1 3 true (.array .int) (3, 3) := ⟨R_Ac, F_Ac, 5, ty_Ac, rfl, rfl, in_Ac, tyok_Ac, nm_Ac, by decide, gd 275 (by decide +kernel) rfl, rfl, rfl, rfl⟩
theorem fl_Ac_21 : FL "SubgraphDesk$Acts" 21 1 4 true (.array .int) (3, 4) := ⟨R_Ac, F_Ac, 5, ty_Ac, rfl, rfl, in_Ac, tyok_Ac, nm_Ac, by decide, gd 276 (by decide +kernel) rfl, rfl, rfl, rfl⟩
theorem fl_Ac_24 : FL "SubgraphDesk$Acts" 24 1 0 false .int (0, 0) := ⟨R_Ac, F_Ac, 5, ty_Ac, rfl, rfl, in_Ac, tyok_Ac, nm_Ac, by decide, gd 271 (by decide +kernel) rfl, rfl, rfl, rfl⟩
theorem ml_Ac_28 : Cond.methodLink "SubgraphDesk$Acts" 28 m_JSystem_arraycopy.1 ∈ lw_gd := gd 1016 (by decide +kernel) rfl
theorem ml_Ac_34 : Cond.methodLink "SubgraphDesk$Acts" 34 m_Ac_dropOldest.1 ∈ lw_gd := gd 1088 (by decide +kernel) rfl
def sJoin (s : Snap) (a c : Nat) : Snap := (tog s.1 (codeOf a c), s.2.1, s.2.2.1, s.2.2.2.1, s.2.2.2.2)
def sLink (s : Snap) (a c : Nat) : Snap := (s.1, s.2.1, s.2.2.1, fun v => if v = a then s.2.2.2.1 a ^^^ 1 <<< c else if v = c then s.2.2.2.1 c ^^^ 1 <<< a else s.2.2.2.1 v, s.2.2.2.2)
def sPnt (s : Snap) (k c : Nat) : Snap := (s.1, fun i => if i = k then c else s.2.1 i, s.2.2.1, s.2.2.2.1, s.2.2.2.2)
def sDy (s : Snap) (k c : Nat) : Snap := (s.1, s.2.1, fun i => if i = k then c else s.2.2.1 i, s.2.2.2.1, s.2.2.2.2)
/-- what an act noted: how s became s2 -/
def DBk (N V : Nat) (m : Nat) (x y z : Int32) (s s2 : Snap) : Prop := match m with
  | 0 => ∃ a c : Nat, x = nI a ∧ y = nI c ∧ a < N ∧ c < N ∧ a ≠ c ∧ s2 = sJoin s a c ∧ ((codeOf a c ∉ s.1 ∧ z = -1) ∨ ∃ ix : Nat, ix < s.1.length ∧ gA s.1 ix = codeOf a c ∧ z = nI ix)
  | 1 => ∃ a c : Nat, x = nI a ∧ y = nI c ∧ a < V ∧ c < V ∧ a ≠ c ∧ s2 = sLink s a c
  | 2 => ∃ k c : Nat, x = nI k ∧ k < N ∧ s2 = sPnt s k c ∧ z = nI (s.2.1 k)
  | _ => ∃ k c : Nat, x = nI k ∧ k < V ∧ s2 = sDy s k c ∧ z = nI (s.2.2.1 k)
/-- what stood behind the k-th act -/
def nxS (g : GC) (u : List (Nat × Snap)) (k : Nat) : Snap := match u[k + 1]? with
  | some q => q.2
  | none => snapOf g
/-- the desk's acts hold what can be undone -/
def ActP (w : Mem) (a : Nat) (g : GC) (u : List (Nat × Snap)) : Prop := u.length ≤ 16 ∧ rI w a 0 = nI u.length ∧ ∀ (k : Nat) (q : Nat × Snap), u[k]? = some q → q.1 < 4 ∧ rI w (a + 1) k = nI q.1 ∧ DBk (gN g) (gV g) q.1 (rI w (a + 2) k) (rI w (a + 3) k) (rI w (a + 4) k) q.2 (nxS g u k) ∧ WG (unsnap g q.2)
/-- only the acts' ints changed -/
def FrAc (a : Nat) (w w2 : Mem) : Prop := (∀ o, o < a ∨ a + 4 < o → rI w2 o = rI w o) ∧ w2.2 = w.2
theorem FrAc.rf (a : Nat) (w : Mem) : FrAc a w w := ⟨fun _ _ => rfl, rfl⟩
theorem FrAc.tr {a : Nat} {x y z : Mem} (h : FrAc a x y) (h2 : FrAc a y z) : FrAc a x z := ⟨fun o ho => (h2.1 o ho).trans (h.1 o ho), h2.2.trans h.2⟩
theorem FrAc.I {a : Nat} {w w2 : Mem} {o k : Nat} {x : Int32} (ho : a ≤ o ∧ o ≤ a + 4) (h : FrAc a w w2) : FrAc a w (sI w2 o k x) := ⟨fun q hq => by rw [rI_sI_ne _ _ _ (by omega)]; exact h.1 q hq, h.2⟩
theorem FrAc.A {a : Nat} {w w2 : Mem} {o : Nat} {f : Nat → Int32} (ho : a ≤ o ∧ o ≤ a + 4) (h : FrAc a w w2) : FrAc a w (sA w2 o f) := ⟨fun q hq => by rw [rI_sA_ne _ _ (by omega)]; exact h.1 q hq, h.2⟩
theorem ActP.fr {w w2 : Mem} {a : Nat} {g : GC} {u : List (Nat × Snap)} (h : ActP w a g u) (e : ∀ o, a ≤ o → o ≤ a + 4 → rI w2 o = rI w o) : ActP w2 a g u := by
  unfold ActP
  rw [e a (by omega) (by omega), e (a + 1) (by omega) (by omega), e (a + 2) (by omega) (by omega), e (a + 3) (by omega) (by omega), e (a + 4) (by omega) (by omega)]
  exact h
theorem unsnap_sm {g g2 : GC} (h : SameK g g2) (s : Snap) : unsnap g2 s = unsnap g s := by
  unfold unsnap
  rw [h.1, h.2.1, h.2.2.1, h.2.2.2.1, h.2.2.2.2]
def PuW (w : Mem) (a l : Nat) (m : Nat) (x y z : Int32) : Mem := sI (sI (sI (sI (sI w (a + 1) l (nI m)) (a + 2) l x) (a + 3) l y) (a + 4) l z) a 0 (nI (l + 1))
theorem ActP.push {w : Mem} {a m : Nat} {x y z : Int32} {g g2 : GC} {u : List (Nat × Snap)} (h : ActP w a g u) (hl : u.length < 16) (hW : WG g) (hs : SameK g g2) (hm : m < 4) (hd : DBk (gN g) (gV g) m x y z (snapOf g) (snapOf g2)) : ActP (PuW w a u.length m x y z) a g2 (u ++ [(m, snapOf g)]) := by
  obtain ⟨h1, h2, h3⟩ := h
  have e0 : rI (PuW w a u.length m x y z) a 0 = nI (u.length + 1) := by unfold PuW; rw [rI_sI, upd_eq, if_pos rfl]
  have e1 : rI (PuW w a u.length m x y z) (a + 1) = upd (rI w (a + 1)) u.length (nI m) := by unfold PuW; rw [rI_sI_ne _ _ _ (by omega), rI_sI_ne _ _ _ (by omega), rI_sI_ne _ _ _ (by omega), rI_sI_ne _ _ _ (by omega), rI_sI]
  have e2 : rI (PuW w a u.length m x y z) (a + 2) = upd (rI w (a + 2)) u.length x := by unfold PuW; rw [rI_sI_ne _ _ _ (by omega), rI_sI_ne _ _ _ (by omega), rI_sI_ne _ _ _ (by omega), rI_sI, rI_sI_ne _ _ _ (by omega)]
  have e3 : rI (PuW w a u.length m x y z) (a + 3) = upd (rI w (a + 3)) u.length y := by unfold PuW; rw [rI_sI_ne _ _ _ (by omega), rI_sI_ne _ _ _ (by omega), rI_sI, rI_sI_ne _ _ _ (by omega), rI_sI_ne _ _ _ (by omega)]
  have e4 : rI (PuW w a u.length m x y z) (a + 4) = upd (rI w (a + 4)) u.length z := by unfold PuW; rw [rI_sI_ne _ _ _ (by omega), rI_sI, rI_sI_ne _ _ _ (by omega), rI_sI_ne _ _ _ (by omega), rI_sI_ne _ _ _ (by omega)]
  unfold ActP
  rw [e0, e1, e2, e3, e4, hs.1, hs.2.1]
  refine ⟨by rw [List.length_append]; simp; omega, by rw [List.length_append]; rfl, fun k q hq => ?_⟩
  by_cases hk : k < u.length
  · rw [List.getElem?_append_left hk] at hq
    obtain ⟨g1, g2', g3, g4⟩ := h3 k q hq
    have hn : nxS g2 (u ++ [(m, snapOf g)]) k = nxS g u k := by
      unfold nxS
      by_cases hk2 : k + 1 < u.length
      · rw [List.getElem?_append_left hk2, List.getElem?_eq_getElem hk2]
      · have : k + 1 = u.length := by omega
        rw [this, List.getElem?_append_right (Nat.le_refl _), Nat.sub_self, List.getElem?_eq_none (Nat.le_refl u.length)]
        rfl
    rw [hn, upd_eq, upd_eq, upd_eq, upd_eq, if_neg (by omega), if_neg (by omega), if_neg (by omega), if_neg (by omega), unsnap_sm hs]
    exact ⟨g1, g2', g3, g4⟩
  · have hk2 := (List.getElem?_eq_some_iff.mp hq).1
    rw [List.length_append, List.length_singleton] at hk2
    have hk3 : k = u.length := by omega
    subst hk3
    rw [List.getElem?_append_right (Nat.le_refl _), Nat.sub_self] at hq
    obtain rfl := Option.some.inj hq
    have hn : nxS g2 (u ++ [(m, snapOf g)]) u.length = snapOf g2 := by
      unfold nxS
      rw [List.getElem?_eq_none (by rw [List.length_append]; exact Nat.le_refl _)]
    rw [hn, upd_eq, upd_eq, upd_eq, upd_eq, if_pos rfl, if_pos rfl, if_pos rfl, if_pos rfl, hs.un]
    exact ⟨hm, rfl, hd, hW⟩
theorem ActP.drop {w w2 : Mem} {a : Nat} {g : GC} {u : List (Nat × Snap)} (h : ActP w a g u) (hl : u.length = 16) (e0 : rI w2 a 0 = nI 15) (e : ∀ o, a < o → o ≤ a + 4 → ∀ k, k < 15 → rI w2 o k = rI w o (k + 1)) : ActP w2 a g u.tail := by
  obtain ⟨h1, h2, h3⟩ := h
  have ht : u.tail.length = 15 := by rw [List.length_tail]; omega
  refine ⟨by omega, by rw [ht]; exact e0, fun k q hq => ?_⟩
  have hk := (List.getElem?_eq_some_iff.mp hq).1
  rw [ht] at hk
  rw [List.getElem?_tail] at hq
  obtain ⟨g1, g2, g3, g4⟩ := h3 (k + 1) q hq
  have hn : nxS g u.tail k = nxS g u (k + 1) := by
    unfold nxS
    rw [List.getElem?_tail]
  rw [hn, e (a + 1) (by omega) (by omega) k hk, e (a + 2) (by omega) (by omega) k hk, e (a + 3) (by omega) (by omega) k hk, e (a + 4) (by omega) (by omega) k hk]
  exact ⟨g1, g2, g3, g4⟩
def DrW (w : Mem) (a : Nat) : Mem := sA (sA (sA (sA (sI w a 0 (nI 15)) (a + 1) (va_cpy (rI w (a + 1)) (rI w (a + 1)) 1 0 15)) (a + 2) (va_cpy (rI w (a + 2)) (rI w (a + 2)) 1 0 15)) (a + 3) (va_cpy (rI w (a + 3)) (rI w (a + 3)) 1 0 15)) (a + 4) (va_cpy (rI w (a + 4)) (rI w (a + 4)) 1 0 15)
theorem cpy_15 (f : Nat → Int32) {k : Nat} (h : k < 15) : va_cpy f f 1 0 15 k = f (k + 1) := by
  unfold va_cpy
  rw [if_pos (by omega), Nat.sub_zero, Nat.add_comm]
theorem DrW_ok {w : Mem} {a : Nat} {g : GC} {u : List (Nat × Snap)} (h : ActP w a g u) (hl : u.length = 16) : ActP (DrW w a) a g u.tail := by
  refine h.drop hl ?_ (fun o h1 h2 k hk => ?_)
  · unfold DrW
    rw [rI_sA_ne _ _ (by omega), rI_sA_ne _ _ (by omega), rI_sA_ne _ _ (by omega), rI_sA_ne _ _ (by omega), rI_sI, upd_eq, if_pos rfl]
  · have ho : o = a + 1 ∨ o = a + 2 ∨ o = a + 3 ∨ o = a + 4 := by omega
    unfold DrW
    rcases ho with rfl | rfl | rfl | rfl
    · rw [rI_sA_ne _ _ (by omega), rI_sA_ne _ _ (by omega), rI_sA_ne _ _ (by omega), rI_sA, cpy_15 _ hk]
    · rw [rI_sA_ne _ _ (by omega), rI_sA_ne _ _ (by omega), rI_sA, cpy_15 _ hk]
    · rw [rI_sA_ne _ _ (by omega), rI_sA, cpy_15 _ hk]
    · rw [rI_sA, cpy_15 _ hk]
theorem DrW_fr (w : Mem) (a : Nat) : FrAc a w (DrW w a) := (((((FrAc.rf a w).I (by omega)).A (by omega)).A (by omega)).A (by omega)).A (by omega)
theorem PuW_fr (w : Mem) (a l m : Nat) (x y z : Int32) : FrAc a w (PuW w a l m x y z) := (((((FrAc.rf a w).I (by omega)).I (by omega)).I (by omega)).I (by omega)).I (by omega)
theorem c_Ac_clearAll {E : EV} {w : Mem} {a : Nat} (ha : IsAc a) : T E m_Ac_clearAll 0 0 0 [.ref a] w (Ret none (sI w a 0 (nI 0))) := by
  refine T_of (L := [.ref a]) cf_Ac_clearAll rfl (Nat.le_of_ble_eq_true rfl) (fun X hX hF => ?_)
  refine g_aload0 hX d_Ac_clearAll_0 ?_
  refine g_iconst (v := nI 0) hX d_Ac_clearAll_1 rfl ?_
  refine g_putI hX d_Ac_clearAll_2 fl_Ac_24 (lvAc_0 ha _) ?_
  refine g_vret hX hF d_Ac_clearAll_5 (by omega) (by omega) ?_
  exact ⟨rfl, rfl⟩
theorem c_Ac_dropOldest {E : EV} {w : Mem} {a : Nat} (ha : IsAc a) : T E m_Ac_dropOldest 1 0 0 [.ref a] w (Ret none (DrW w a)) := by
  refine T_of (L := [.ref a]) cf_Ac_dropOldest rfl (Nat.le_of_ble_eq_true rfl) (fun X hX hF => ?_)
  refine g_aload0 hX d_Ac_dropOldest_0 ?_
  refine g_bipush (v := nI 15) hX d_Ac_dropOldest_1 rfl ?_
  refine g_putI hX d_Ac_dropOldest_3 fl_Ac_24 (lvAc_0 ha _) ?_
  refine g_aload0 hX d_Ac_dropOldest_6 ?_
  refine g_getF hX d_Ac_dropOldest_7 fl_Ac_11 (lvAc_0 ha _) ?_
  refine g_iconst (v := nI 1) hX d_Ac_dropOldest_10 rfl ?_
  refine g_aload0 hX d_Ac_dropOldest_11 ?_
  refine g_getF hX d_Ac_dropOldest_12 fl_Ac_11 (lvAc_0 ha _) ?_
  refine g_iconst (v := nI 0) hX d_Ac_dropOldest_15 rfl ?_
  refine g_aload0 hX d_Ac_dropOldest_16 ?_
  refine g_getI hX d_Ac_dropOldest_17 fl_Ac_24 (lvAc_0 ha _) ?_
  refine g_topi (show rI (sI w a 0 (nI 15)) a 0 = nI 15 by rw [rI_sI, upd_eq, if_pos rfl]) ?_
  refine g_acpI hX hF.1 d_Ac_dropOldest_20 ml_Ac_28 lk_acst lk_acna lk_acin (lvAc_1 ha _) (lvAc_1 ha _) (by omega) (by omega) (by decide) (by omega) (Nat.le_of_ble_eq_true rfl) ?_
  refine g_mem (show _ = (sA (sI w a 0 (nI 15)) (a + 1) (va_cpy (rI w (a + 1)) (rI w (a + 1)) 1 0 15)) by rw [rI_sI_ne _ _ _ (show a + 1 ≠ a by omega)]) ?_
  refine g_aload0 hX d_Ac_dropOldest_23 ?_
  refine g_getF hX d_Ac_dropOldest_24 fl_Ac_15 (lvAc_0 ha _) ?_
  refine g_iconst (v := nI 1) hX d_Ac_dropOldest_27 rfl ?_
  refine g_aload0 hX d_Ac_dropOldest_28 ?_
  refine g_getF hX d_Ac_dropOldest_29 fl_Ac_15 (lvAc_0 ha _) ?_
  refine g_iconst (v := nI 0) hX d_Ac_dropOldest_32 rfl ?_
  refine g_aload0 hX d_Ac_dropOldest_33 ?_
  refine g_getI hX d_Ac_dropOldest_34 fl_Ac_24 (lvAc_0 ha _) ?_
  refine g_topi (show rI (sA (sI w a 0 (nI 15)) (a + 1) (va_cpy (rI w (a + 1)) (rI w (a + 1)) 1 0 15)) a 0 = nI 15 by rw [rI_sA_ne _ _ (by omega), rI_sI, upd_eq, if_pos rfl]) ?_
  refine g_acpI hX hF.1 d_Ac_dropOldest_37 ml_Ac_28 lk_acst lk_acna lk_acin (lvAc_2 ha _) (lvAc_2 ha _) (by omega) (by omega) (by decide) (by omega) (Nat.le_of_ble_eq_true rfl) ?_
  refine g_mem (show _ = (sA (sA (sI w a 0 (nI 15)) (a + 1) (va_cpy (rI w (a + 1)) (rI w (a + 1)) 1 0 15)) (a + 2) (va_cpy (rI w (a + 2)) (rI w (a + 2)) 1 0 15)) by rw [rI_sA_ne _ _ (show a + 2 ≠ a + 1 by omega), rI_sI_ne _ _ _ (show a + 2 ≠ a by omega)]) ?_
  refine g_aload0 hX d_Ac_dropOldest_40 ?_
  refine g_getF hX d_Ac_dropOldest_41 fl_Ac_18 (lvAc_0 ha _) ?_
  refine g_iconst (v := nI 1) hX d_Ac_dropOldest_44 rfl ?_
  refine g_aload0 hX d_Ac_dropOldest_45 ?_
  refine g_getF hX d_Ac_dropOldest_46 fl_Ac_18 (lvAc_0 ha _) ?_
  refine g_iconst (v := nI 0) hX d_Ac_dropOldest_49 rfl ?_
  refine g_aload0 hX d_Ac_dropOldest_50 ?_
  refine g_getI hX d_Ac_dropOldest_51 fl_Ac_24 (lvAc_0 ha _) ?_
  refine g_topi (show rI (sA (sA (sI w a 0 (nI 15)) (a + 1) (va_cpy (rI w (a + 1)) (rI w (a + 1)) 1 0 15)) (a + 2) (va_cpy (rI w (a + 2)) (rI w (a + 2)) 1 0 15)) a 0 = nI 15 by rw [rI_sA_ne _ _ (by omega), rI_sA_ne _ _ (by omega), rI_sI, upd_eq, if_pos rfl]) ?_
  refine g_acpI hX hF.1 d_Ac_dropOldest_54 ml_Ac_28 lk_acst lk_acna lk_acin (lvAc_3 ha _) (lvAc_3 ha _) (by omega) (by omega) (by decide) (by omega) (Nat.le_of_ble_eq_true rfl) ?_
  refine g_mem (show _ = (sA (sA (sA (sI w a 0 (nI 15)) (a + 1) (va_cpy (rI w (a + 1)) (rI w (a + 1)) 1 0 15)) (a + 2) (va_cpy (rI w (a + 2)) (rI w (a + 2)) 1 0 15)) (a + 3) (va_cpy (rI w (a + 3)) (rI w (a + 3)) 1 0 15)) by rw [rI_sA_ne _ _ (show a + 3 ≠ a + 2 by omega), rI_sA_ne _ _ (show a + 3 ≠ a + 1 by omega), rI_sI_ne _ _ _ (show a + 3 ≠ a by omega)]) ?_
  refine g_aload0 hX d_Ac_dropOldest_57 ?_
  refine g_getF hX d_Ac_dropOldest_58 fl_Ac_21 (lvAc_0 ha _) ?_
  refine g_iconst (v := nI 1) hX d_Ac_dropOldest_61 rfl ?_
  refine g_aload0 hX d_Ac_dropOldest_62 ?_
  refine g_getF hX d_Ac_dropOldest_63 fl_Ac_21 (lvAc_0 ha _) ?_
  refine g_iconst (v := nI 0) hX d_Ac_dropOldest_66 rfl ?_
  refine g_aload0 hX d_Ac_dropOldest_67 ?_
  refine g_getI hX d_Ac_dropOldest_68 fl_Ac_24 (lvAc_0 ha _) ?_
  refine g_topi (show rI (sA (sA (sA (sI w a 0 (nI 15)) (a + 1) (va_cpy (rI w (a + 1)) (rI w (a + 1)) 1 0 15)) (a + 2) (va_cpy (rI w (a + 2)) (rI w (a + 2)) 1 0 15)) (a + 3) (va_cpy (rI w (a + 3)) (rI w (a + 3)) 1 0 15)) a 0 = nI 15 by rw [rI_sA_ne _ _ (by omega), rI_sA_ne _ _ (by omega), rI_sA_ne _ _ (by omega), rI_sI, upd_eq, if_pos rfl]) ?_
  refine g_acpI hX hF.1 d_Ac_dropOldest_71 ml_Ac_28 lk_acst lk_acna lk_acin (lvAc_4 ha _) (lvAc_4 ha _) (by omega) (by omega) (by decide) (by omega) (Nat.le_of_ble_eq_true rfl) ?_
  refine g_mem (show _ = (sA (sA (sA (sA (sI w a 0 (nI 15)) (a + 1) (va_cpy (rI w (a + 1)) (rI w (a + 1)) 1 0 15)) (a + 2) (va_cpy (rI w (a + 2)) (rI w (a + 2)) 1 0 15)) (a + 3) (va_cpy (rI w (a + 3)) (rI w (a + 3)) 1 0 15)) (a + 4) (va_cpy (rI w (a + 4)) (rI w (a + 4)) 1 0 15)) by rw [rI_sA_ne _ _ (show a + 4 ≠ a + 3 by omega), rI_sA_ne _ _ (show a + 4 ≠ a + 2 by omega), rI_sA_ne _ _ (show a + 4 ≠ a + 1 by omega), rI_sI_ne _ _ _ (show a + 4 ≠ a by omega)]) ?_
  refine g_vret hX hF d_Ac_dropOldest_74 (by omega) (by omega) ?_
  exact ⟨rfl, rfl⟩
theorem c_Ac_note {E : EV} {w : Mem} {a m : Nat} {x y z : Int32} {g g2 : GC} {u : List (Nat × Snap)} (ha : IsAc a) (hP : ActP w a g u) (hW : WG g) (hs : SameK g g2) (hm : m < 4) (hd : DBk (gN g) (gV g) m x y z (snapOf g) (snapOf g2)) : T E m_Ac_note 2 0 0 [.ref a, .int (nI m), .int x, .int y, .int z] w (fun r w2 => r = none ∧ ActP w2 a g2 (pushU u (m, snapOf g)) ∧ FrAc a w w2) := by
  refine T_of (L := [.ref a, .int (nI m), .int x, .int y, .int z]) cf_Ac_note rfl (Nat.le_of_ble_eq_true rfl) (fun X hX hF => ?_)
  have hul := hP.1
  refine g_aload0 hX d_Ac_note_0 ?_
  refine g_getI hX d_Ac_note_1 fl_Ac_24 (lvAc_0 ha _) ?_
  refine g_topi hP.2.1 ?_
  refine g_bipush (v := nI 16) hX d_Ac_note_4 rfl ?_
  refine g_icmpN_lt hX d_Ac_note_6 (by omega) (by omega) (fun c0 => ?_) (fun c0 => ?_)
  · have hl : u.length < 16 := by omega
    refine g_aload0 hX d_Ac_note_13 ?_
    refine g_getF hX d_Ac_note_14 fl_Ac_11 (lvAc_0 ha _) ?_
    refine g_aload0 hX d_Ac_note_17 ?_
    refine g_getI hX d_Ac_note_18 fl_Ac_24 (lvAc_0 ha _) ?_
    refine g_topi (show rI w a 0 = nI u.length from hP.2.1) ?_
    refine g_iload1 hX d_Ac_note_21 ?_
    refine g_iast hX d_Ac_note_22 (lvAc_1 ha _) rfl (by omega) ?_
    refine g_aload0 hX d_Ac_note_23 ?_
    refine g_getF hX d_Ac_note_24 fl_Ac_15 (lvAc_0 ha _) ?_
    refine g_aload0 hX d_Ac_note_27 ?_
    refine g_getI hX d_Ac_note_28 fl_Ac_24 (lvAc_0 ha _) ?_
    refine g_topi (show rI (sI w (a + 1) u.length (nI m)) a 0 = nI u.length by rw [rI_sI_ne _ _ _ (by omega)]; exact hP.2.1) ?_
    refine g_iload2 hX d_Ac_note_31 ?_
    refine g_iast hX d_Ac_note_32 (lvAc_2 ha _) rfl (by omega) ?_
    refine g_aload0 hX d_Ac_note_33 ?_
    refine g_getF hX d_Ac_note_34 fl_Ac_18 (lvAc_0 ha _) ?_
    refine g_aload0 hX d_Ac_note_37 ?_
    refine g_getI hX d_Ac_note_38 fl_Ac_24 (lvAc_0 ha _) ?_
    refine g_topi (show rI (sI (sI w (a + 1) u.length (nI m)) (a + 2) u.length x) a 0 = nI u.length by rw [rI_sI_ne _ _ _ (by omega), rI_sI_ne _ _ _ (by omega)]; exact hP.2.1) ?_
    refine g_iload3 hX d_Ac_note_41 ?_
    refine g_iast hX d_Ac_note_42 (lvAc_3 ha _) rfl (by omega) ?_
    refine g_aload0 hX d_Ac_note_43 ?_
    refine g_getF hX d_Ac_note_44 fl_Ac_21 (lvAc_0 ha _) ?_
    refine g_aload0 hX d_Ac_note_47 ?_
    refine g_getI hX d_Ac_note_48 fl_Ac_24 (lvAc_0 ha _) ?_
    refine g_topi (show rI (sI (sI (sI w (a + 1) u.length (nI m)) (a + 2) u.length x) (a + 3) u.length y) a 0 = nI u.length by rw [rI_sI_ne _ _ _ (by omega), rI_sI_ne _ _ _ (by omega), rI_sI_ne _ _ _ (by omega)]; exact hP.2.1) ?_
    refine g_iload4 hX d_Ac_note_51 ?_
    refine g_iast hX d_Ac_note_53 (lvAc_4 ha _) rfl (by omega) ?_
    refine g_aload0 hX d_Ac_note_54 ?_
    refine g_dup hX d_Ac_note_55 rfl ?_
    refine g_getI hX d_Ac_note_56 fl_Ac_24 (lvAc_0 ha _) ?_
    refine g_topi (show rI (sI (sI (sI (sI w (a + 1) u.length (nI m)) (a + 2) u.length x) (a + 3) u.length y) (a + 4) u.length z) a 0 = nI u.length by rw [rI_sI_ne _ _ _ (by omega), rI_sI_ne _ _ _ (by omega), rI_sI_ne _ _ _ (by omega), rI_sI_ne _ _ _ (by omega)]; exact hP.2.1) ?_
    refine g_iconst (v := nI 1) hX d_Ac_note_59 rfl ?_
    refine g_iaddN hX d_Ac_note_60 ?_
    refine g_putI hX d_Ac_note_61 fl_Ac_24 (lvAc_0 ha _) ?_
    refine g_vret hX hF d_Ac_note_64 (by omega) (by omega) ?_
    refine ⟨rfl, ?_, PuW_fr w a u.length m x y z⟩
    unfold pushU
    rw [if_neg (by omega)]
    exact hP.push hl hW hs hm hd
  · have hl2 : u.length = 16 := by omega
    refine g_aload0 hX d_Ac_note_9 ?_
    refine g_callV (As := []) hX hF.1 d_Ac_note_10 ml_Ac_34 cf_Ac_dropOldest cv_Ac_dropOldest rfl rfl (c_Ac_dropOldest ha) (rcv_obj hX (lvAc_0 ha _) rfl rfl) (by omega) (by omega) (by omega) (Nat.le_of_ble_eq_true rfl) ?_
    rintro _ w2 ⟨rfl, rfl⟩
    have hT := DrW_ok hP hl2
    have ht : u.tail.length = 15 := by rw [List.length_tail]; omega
    have hT15 : rI (DrW w a) a 0 = nI 15 := by rw [← ht]; exact hT.2.1
    show G0 _ _ _ _ _ _ _ _
    refine g_aload0 hX d_Ac_note_13 ?_
    refine g_getF hX d_Ac_note_14 fl_Ac_11 (lvAc_0 ha _) ?_
    refine g_aload0 hX d_Ac_note_17 ?_
    refine g_getI hX d_Ac_note_18 fl_Ac_24 (lvAc_0 ha _) ?_
    refine g_topi (show rI (DrW w a) a 0 = nI 15 from hT15) ?_
    refine g_iload1 hX d_Ac_note_21 ?_
    refine g_iast hX d_Ac_note_22 (lvAc_1 ha _) rfl (by omega) ?_
    refine g_aload0 hX d_Ac_note_23 ?_
    refine g_getF hX d_Ac_note_24 fl_Ac_15 (lvAc_0 ha _) ?_
    refine g_aload0 hX d_Ac_note_27 ?_
    refine g_getI hX d_Ac_note_28 fl_Ac_24 (lvAc_0 ha _) ?_
    refine g_topi (show rI (sI (DrW w a) (a + 1) 15 (nI m)) a 0 = nI 15 by rw [rI_sI_ne _ _ _ (by omega)]; exact hT15) ?_
    refine g_iload2 hX d_Ac_note_31 ?_
    refine g_iast hX d_Ac_note_32 (lvAc_2 ha _) rfl (by omega) ?_
    refine g_aload0 hX d_Ac_note_33 ?_
    refine g_getF hX d_Ac_note_34 fl_Ac_18 (lvAc_0 ha _) ?_
    refine g_aload0 hX d_Ac_note_37 ?_
    refine g_getI hX d_Ac_note_38 fl_Ac_24 (lvAc_0 ha _) ?_
    refine g_topi (show rI (sI (sI (DrW w a) (a + 1) 15 (nI m)) (a + 2) 15 x) a 0 = nI 15 by rw [rI_sI_ne _ _ _ (by omega), rI_sI_ne _ _ _ (by omega)]; exact hT15) ?_
    refine g_iload3 hX d_Ac_note_41 ?_
    refine g_iast hX d_Ac_note_42 (lvAc_3 ha _) rfl (by omega) ?_
    refine g_aload0 hX d_Ac_note_43 ?_
    refine g_getF hX d_Ac_note_44 fl_Ac_21 (lvAc_0 ha _) ?_
    refine g_aload0 hX d_Ac_note_47 ?_
    refine g_getI hX d_Ac_note_48 fl_Ac_24 (lvAc_0 ha _) ?_
    refine g_topi (show rI (sI (sI (sI (DrW w a) (a + 1) 15 (nI m)) (a + 2) 15 x) (a + 3) 15 y) a 0 = nI 15 by rw [rI_sI_ne _ _ _ (by omega), rI_sI_ne _ _ _ (by omega), rI_sI_ne _ _ _ (by omega)]; exact hT15) ?_
    refine g_iload4 hX d_Ac_note_51 ?_
    refine g_iast hX d_Ac_note_53 (lvAc_4 ha _) rfl (by omega) ?_
    refine g_aload0 hX d_Ac_note_54 ?_
    refine g_dup hX d_Ac_note_55 rfl ?_
    refine g_getI hX d_Ac_note_56 fl_Ac_24 (lvAc_0 ha _) ?_
    refine g_topi (show rI (sI (sI (sI (sI (DrW w a) (a + 1) 15 (nI m)) (a + 2) 15 x) (a + 3) 15 y) (a + 4) 15 z) a 0 = nI 15 by rw [rI_sI_ne _ _ _ (by omega), rI_sI_ne _ _ _ (by omega), rI_sI_ne _ _ _ (by omega), rI_sI_ne _ _ _ (by omega)]; exact hT15) ?_
    refine g_iconst (v := nI 1) hX d_Ac_note_59 rfl ?_
    refine g_iaddN hX d_Ac_note_60 ?_
    refine g_putI hX d_Ac_note_61 fl_Ac_24 (lvAc_0 ha _) ?_
    refine g_vret hX hF d_Ac_note_64 (by omega) (by omega) ?_
    refine ⟨rfl, ?_, (DrW_fr w a).tr (PuW_fr (DrW w a) a 15 m x y z)⟩
    unfold pushU
    rw [if_pos hl2]
    have := hT.push (by omega) hW hs hm hd
    rw [ht] at this
    exact this
