def m_D_grant : MR := (⟨"SubgraphDesk", "grant", "(I)I"⟩, prog_1_method_3_code, 2, (some .int))
theorem cf_D_grant : CF m_D_grant 1 := ⟨gd 619 (by decide +kernel) rfl, gd 139 (by decide +kernel) rfl, by decide +kernel, by decide, by decide +kernel⟩
theorem cv_D_grant : CV m_D_grant := ⟨gd 618 (by decide +kernel) rfl, gd 1 (by decide +kernel) rfl⟩
def m_D_refuse : MR := (⟨"SubgraphDesk", "refuse", "(I)I"⟩, prog_1_method_2_code, 3, (some .int))
theorem cf_D_refuse : CF m_D_refuse 1 := ⟨gd 607 (by decide +kernel) rfl, gd 139 (by decide +kernel) rfl, by decide +kernel, by decide, by decide +kernel⟩
theorem cv_D_refuse : CV m_D_refuse := ⟨gd 606 (by decide +kernel) rfl, gd 0 (by decide +kernel) rfl⟩
theorem d_D_grant_0 : Dc prog_1_method_3_code 0 (.aload_n 0) 1 1 := ⟨by decide +kernel, rfl⟩
theorem d_D_grant_1 : Dc prog_1_method_3_code 1 (.iconst 0) 1 2 := ⟨by decide +kernel, rfl⟩
theorem d_D_grant_2 : Dc prog_1_method_3_code 2 (.putfield 87) 3 5 := ⟨by decide +kernel, rfl⟩
theorem d_D_grant_5 : Dc prog_1_method_3_code 5 (.iload_n 1) 1 6 := ⟨by decide +kernel, rfl⟩
theorem d_D_grant_6 : Dc prog_1_method_3_code 6 (.ireturn) 1 7 := ⟨by decide +kernel, rfl⟩
theorem d_D_refuse_0 : Dc prog_1_method_2_code 0 (.aload_n 0) 1 1 := ⟨by decide +kernel, rfl⟩
theorem d_D_refuse_1 : Dc prog_1_method_2_code 1 (.iload_n 1) 1 2 := ⟨by decide +kernel, rfl⟩
theorem d_D_refuse_2 : Dc prog_1_method_2_code 2 (.putfield 87) 3 5 := ⟨by decide +kernel, rfl⟩
theorem d_D_refuse_5 : Dc prog_1_method_2_code 5 (.iload_n 1) 1 6 := ⟨by decide +kernel, rfl⟩
theorem d_D_refuse_6 : Dc prog_1_method_2_code 6 (.bipush (-3)) 2 8 := ⟨by decide +kernel, rfl⟩
theorem d_D_refuse_8 : Dj prog_1_method_2_code 8 (.if_icmp .lt 9) 11 9 17 := ⟨by decide +kernel, rfl, rfl⟩
theorem d_D_refuse_11 : Dc prog_1_method_2_code 11 (.iconst (-1)) 1 12 := ⟨by decide +kernel, rfl⟩
theorem d_D_refuse_12 : Dc prog_1_method_2_code 12 (.iload_n 1) 1 13 := ⟨by decide +kernel, rfl⟩
theorem d_D_refuse_13 : Dc prog_1_method_2_code 13 (.isub) 1 14 := ⟨by decide +kernel, rfl⟩
theorem d_D_refuse_14 : Dj prog_1_method_2_code 14 (.goto 7) 17 7 21 := ⟨by decide +kernel, rfl, rfl⟩
theorem d_D_refuse_17 : Dc prog_1_method_2_code 17 (.bipush (-2)) 2 19 := ⟨by decide +kernel, rfl⟩
theorem d_D_refuse_19 : Dc prog_1_method_2_code 19 (.iload_n 1) 1 20 := ⟨by decide +kernel, rfl⟩
theorem d_D_refuse_20 : Dc prog_1_method_2_code 20 (.isub) 1 21 := ⟨by decide +kernel, rfl⟩
theorem d_D_refuse_21 : Dc prog_1_method_2_code 21 (.istore_n 2) 1 22 := ⟨by decide +kernel, rfl⟩
theorem d_D_refuse_22 : Dc prog_1_method_2_code 22 (.iload_n 2) 1 23 := ⟨by decide +kernel, rfl⟩
theorem d_D_refuse_23 : Dj prog_1_method_2_code 23 (.ifCond .lt 22) 26 22 45 := ⟨by decide +kernel, rfl, rfl⟩
theorem d_D_refuse_26 : Dc prog_1_method_2_code 26 (.iload_n 2) 1 27 := ⟨by decide +kernel, rfl⟩
theorem d_D_refuse_27 : Dc prog_1_method_2_code 27 (.aload_n 0) 1 28 := ⟨by decide +kernel, rfl⟩
theorem d_D_refuse_28 : Dc prog_1_method_2_code 28 (.getfield 83) 3 31 := ⟨by decide +kernel, rfl⟩
theorem d_D_refuse_31 : Dc prog_1_method_2_code 31 (.arraylength) 1 32 := ⟨by decide +kernel, rfl⟩
theorem d_D_refuse_32 : Dj prog_1_method_2_code 32 (.if_icmp .ge 13) 35 13 45 := ⟨by decide +kernel, rfl, rfl⟩
theorem d_D_refuse_35 : Dc prog_1_method_2_code 35 (.aload_n 0) 1 36 := ⟨by decide +kernel, rfl⟩
theorem d_D_refuse_36 : Dc prog_1_method_2_code 36 (.getfield 83) 3 39 := ⟨by decide +kernel, rfl⟩
theorem d_D_refuse_39 : Dc prog_1_method_2_code 39 (.iload_n 2) 1 40 := ⟨by decide +kernel, rfl⟩
theorem d_D_refuse_40 : Dc prog_1_method_2_code 40 (.dup2) 1 41 := ⟨by decide +kernel, rfl⟩
theorem d_D_refuse_41 : Dc prog_1_method_2_code 41 (.iaload) 1 42 := ⟨by decide +kernel, rfl⟩
theorem d_D_refuse_42 : Dc prog_1_method_2_code 42 (.iconst 1) 1 43 := ⟨by decide +kernel, rfl⟩
theorem d_D_refuse_43 : Dc prog_1_method_2_code 43 (.iadd) 1 44 := ⟨by decide +kernel, rfl⟩
theorem d_D_refuse_44 : Dc prog_1_method_2_code 44 (.iastore) 1 45 := ⟨by decide +kernel, rfl⟩
theorem d_D_refuse_45 : Dc prog_1_method_2_code 45 (.iload_n 1) 1 46 := ⟨by decide +kernel, rfl⟩
theorem d_D_refuse_46 : Dc prog_1_method_2_code 46 (.ireturn) 1 47 := ⟨by decide +kernel, rfl⟩
theorem fl_D_83 : FL "SubgraphDesk" 83 0 12 true (.array .int) (3, 70) := ⟨R_D, F_D, 15, ty_D, rfl, rfl, in_D, tyok_D, nm_D, by decide, gd 566 (by decide +kernel) rfl, rfl, rfl, rfl⟩
theorem fl_D_87 : FL "SubgraphDesk" 87 0 13 false .int (0, 0) := ⟨R_D, F_D, 15, ty_D, rfl, rfl, in_D, tyok_D, nm_D, by decide, gd 567 (by decide +kernel) rfl, rfl, rfl, rfl⟩
/-! ===== the desk holds the plain state ===== -/
/-- references stay but where searches note what they go over -/
def KpR (w w2 : Mem) : Prop := (∀ a, a ≠ 36 → a ≠ 45 → a ≠ 53 → rR w2 a = rR w a) ∧ w2.2.2.2 = w.2.2.2
theorem KpR.rf (w : Mem) : KpR w w := ⟨fun _ _ _ _ => rfl, rfl⟩
theorem KpR.tr {a b c : Mem} (h : KpR a b) (h2 : KpR b c) : KpR a c := ⟨fun x h3 h4 h5 => (h2.1 x h3 h4 h5).trans (h.1 x h3 h4 h5), h2.2.trans h.2⟩
theorem KpR.of {w w2 : Mem} (e : w2.2.2 = w.2.2) : KpR w w2 := ⟨fun a _ _ _ => by unfold rR; rw [e], by rw [e]⟩
theorem KpR.of2 {w w2 : Mem} (e : w2.2 = w.2) : KpR w w2 := KpR.of (by rw [e])
/-- a clause of a law in a table -/
def DCl (h : Nat → Int32) (c : List (Nat × Nat)) (k : Nat) (x : Bool × Den × Option Den) : Prop := h (8 * k) = nI (if x.1 then 4 else 5) ∧ ∃ a b t e : Nat, h (8 * k + 1) = nI a ∧ h (8 * k + (1 + 1)) = nI b ∧ h (8 * k + 5) = nI t ∧ h (8 * k + (5 + 1)) = nI e ∧ a ≤ c.length ∧ b ≤ c.length ∧ t ≤ c.length ∧ e ≤ c.length ∧ (x.1 = true → SegL c a b x.2.1) ∧ (match x.2.2 with | none => t = e | some f => SegL c t e f ∧ Bit f)
/-- what holds of a code -/
def CdOK (c : List (Nat × Nat)) : Prop := c.length ≤ 256 ∧ okOp (cO c) (cA c) c.length ∧ (∀ j, j < c.length → cO c j = 0 ∨ 20 ≤ cO c j ∨ (1 ≤ cO c j ∧ cO c j ≤ 7)) ∧ psh (cO c) c.length ≤ 50
/-- a law's Program at p -/
def PrgL (w : Mem) (p : Nat) (q : LawT) : Prop := 128 ≤ p ∧ q.length ≤ 12 ∧ ∃ (tt cc : Nat) (c : List (Nat × Nat)), 128 ≤ tt ∧ 128 ≤ cc ∧ PrO w p tt cc (8 * q.length) c.length ∧ rI w p 0 = nI q.length ∧ rI w p 1 = nI c.length ∧ CdOK c ∧ (∀ j, j < c.length → cO c j = 6 → cA c j = 0) ∧ (∀ j, j < c.length → rI w cc j = nI (cwd (cO c j) (cA c j))) ∧ ∀ (k : Nat) (x : Bool × Den × Option Den), q[k]? = some x → DCl (rI w tt) c k x
theorem PrgL.fr2 {w w2 : Mem} {p : Nat} {q : LawT} (h : PrgL w p q) (e : ∀ a, 128 ≤ a → rI w2 a = rI w a) (er : ∀ a, 128 ≤ a → rR w2 a = rR w a) (el : w2.2.2.2 = w.2.2.2) : PrgL w2 p q := by
  obtain ⟨h0, h1, tt, cc, c, h2, h3, h4, h5, h6, h7, h8, h9, h10⟩ := h
  refine ⟨h0, h1, tt, cc, c, h2, h3, ⟨h4.1.fr el, ?_, ?_, h4.2.2.2.1.fr el, h4.2.2.2.2.fr el⟩, by rw [e p h0]; exact h5, by rw [e p h0]; exact h6, h7, h8, by rw [e cc h3]; exact h9, by rw [e tt h2]; exact h10⟩
  · rw [er p h0]; exact h4.2.1
  · rw [er p h0]; exact h4.2.2.1
theorem KpR.r {w w2 : Mem} (k : KpR w w2) : ∀ a, 128 ≤ a → rR w2 a = rR w a := fun a ha => k.1 a (by omega) (by omega) (by omega)
/-- a board's laws -/
def BLaws (w : Mem) (b : Nat) (ls : List LawT) : Prop := ∀ (i : Nat) (q : LawT), ls[i]? = some q → ∃ p, rR w (b + 8) i = some p ∧ PrgL w p q
theorem IsBo.kp {b : Nat} (h : IsBo b) : b + 8 ≠ 36 ∧ b + 8 ≠ 45 ∧ b + 8 ≠ 53 := by
  rcases h with rfl | rfl | rfl | rfl | rfl <;> decide
theorem BLaws.fr2 {w w2 : Mem} {b b2 : Nat} {ls : List LawT} (h : BLaws w b ls) (hl : ls.length ≤ 6) (e : ∀ a, 128 ≤ a → rI w2 a = rI w a) (er : ∀ a, 128 ≤ a → rR w2 a = rR w a) (el : w2.2.2.2 = w.2.2.2) (eb : ∀ i, i < 6 → rR w2 (b2 + 8) i = rR w (b + 8) i) : BLaws w2 b2 ls := fun i q hq => by
  obtain ⟨p, h1, h2⟩ := h i q hq
  have hi := (List.getElem?_eq_some_iff.mp hq).1
  exact ⟨p, by rw [eb i (by omega)]; exact h1, h2.fr2 e er el⟩
theorem BLaws.fr {w w2 : Mem} {b : Nat} {ls : List LawT} (h : BLaws w b ls) (hb : IsBo b) (e : ∀ a, 128 ≤ a → rI w2 a = rI w a) (k : KpR w w2) : BLaws w2 b ls := fun i q hq => by
  obtain ⟨p, h1, h2⟩ := h i q hq
  obtain ⟨k1, k2, k3⟩ := hb.kp
  exact ⟨p, by rw [k.1 _ k1 k2 k3]; exact h1, h2.fr2 e k.r k.2⟩
theorem TxtOK.fr2 {w w2 : Mem} {b b2 : Nat} (h : TxtOK w b) (el : w2.2.2.2 = w.2.2.2) (eb : ∀ i, i < 6 → rR w2 (b2 + 8) i = rR w (b + 8) i) : TxtOK w2 b2 := fun i hi r hr => by
  rw [eb i hi] at hr
  exact (h i hi r hr).fr el
theorem TxtOK.fr {w w2 : Mem} {b : Nat} (h : TxtOK w b) (hb : IsBo b) (k : KpR w w2) : TxtOK w2 b := fun i hi r hr => by
  obtain ⟨k1, k2, k3⟩ := hb.kp
  rw [k.1 _ k1 k2 k3] at hr
  exact (h i hi r hr).fr k.2
/-- the images -/
def DIm (w : Mem) (im : Nat → Option GC) : Prop := ∀ k, k < 2 → rI w (71 + 9 * k) 14 = b2i ((im k).isSome = true) ∧ ∀ g, im k = some g → BRow w (71 + 9 * k) g ∧ WG g ∧ BLaws w (71 + 9 * k) (gL g)
theorem isBoI {k : Nat} (hk : k < 2) : IsBo (71 + 9 * k) := by
  rcases (show k = 0 ∨ k = 1 by omega) with rfl | rfl
  · exact Or.inr (Or.inr (Or.inr (Or.inl rfl)))
  · exact Or.inr (Or.inr (Or.inr (Or.inr rfl)))
theorem DIm.fr {w w2 : Mem} {im : Nat → Option GC} (h : DIm w im) (e : ∀ a, 71 ≤ a → a < 89 ∨ 128 ≤ a → rI w2 a = rI w a) (k : KpR w w2) : DIm w2 im := fun j hj => by
  obtain ⟨h1, h2⟩ := h j hj
  refine ⟨by rw [e _ (by omega) (by omega)]; exact h1, fun g hg => ?_⟩
  obtain ⟨h3, h4, h5⟩ := h2 g hg
  exact ⟨h3.fr (fun a h1 h2 => e a (by omega) (by omega)), h4, h5.fr (isBoI hj) (fun a ha => e a (by omega) (Or.inr ha)) k⟩
/-- refusals and the latest answer -/
def DRf (w : Mem) (rf : Nat → Int32) (st : Int32) : Prop := rI w 0 13 = st ∧ rI w 70 0 = rf 1 ∧ rI w 70 1 = rf 2 ∧ rI w 70 2 = rf 3 ∧ rI w 70 3 = rf 5 ∧ rI w 70 4 = rf 6
theorem DRf.fr {w w2 : Mem} {rf : Nat → Int32} {st : Int32} (h : DRf w rf st) (e : rI w2 70 = rI w 70) (e2 : rI w2 0 13 = rI w 0 13) : DRf w2 rf st := by
  unfold DRf
  rw [e, e2]
  exact h
/-- the days' paper -/
def DPp (w : Mem) (d : Option (Nat × (Nat → Nat) × (Nat → Nat))) : Prop := match d with
  | none => rI w 11 0 = nI 0
  | some q => q.1 ≤ 12 ∧ rI w 11 0 = nI q.1 ∧ ∀ k, k < q.1 → rI w 12 k = nI (q.2.1 k) ∧ rI w 13 k = nI (q.2.2 k)
theorem DPp.fr {w w2 : Mem} {d : Option (Nat × (Nat → Nat) × (Nat → Nat))} (h : DPp w d) (e : ∀ a, 11 ≤ a → a < 14 → rI w2 a = rI w a) : DPp w2 d := by
  unfold DPp at h ⊢
  rw [e 11 (by decide) (by decide), e 12 (by decide) (by decide), e 13 (by decide) (by decide)]
  exact h
/-- what stays for ever -/
def DFx (w : Mem) : Prop := Dra w ∧ rR w 10 0 = some 71 ∧ rR w 10 1 = some 80 ∧ TxtOK w 1 ∧ TxtOK w 11 ∧ TxtOK w 54 ∧ TxtOK w 71 ∧ TxtOK w 80
theorem Dra.k {w w2 : Mem} (h : Dra w) (k : KpR w w2) : Dra w2 := by
  unfold Dra
  rw [k.1 28 (by decide) (by decide) (by decide)]
  exact h
theorem isBo1 : IsBo 1 := Or.inl rfl
theorem isBo11 : IsBo 11 := Or.inr (Or.inl rfl)
theorem isBo54 : IsBo 54 := Or.inr (Or.inr (Or.inl rfl))
theorem isBo71 : IsBo 71 := Or.inr (Or.inr (Or.inr (Or.inl rfl)))
theorem isBo80 : IsBo 80 := Or.inr (Or.inr (Or.inr (Or.inr rfl)))
theorem DFx.fr {w w2 : Mem} (h : DFx w) (k : KpR w w2) : DFx w2 := by
  obtain ⟨h1, h2, h3, h4, h5, h6, h7, h8⟩ := h
  exact ⟨h1.k k, by rw [k.1 10 (by decide) (by decide) (by decide)]; exact h2, by rw [k.1 10 (by decide) (by decide) (by decide)]; exact h3, h4.fr isBo1 k, h5.fr isBo11 k, h6.fr isBo54 k, h7.fr isBo71 k, h8.fr isBo80 k⟩
/-- the desk holds the plain state -/
def DInv (w : Mem) (s : SG) : Prop := DG w (sG s) (sU s) ∧ BLaws w 1 (gL (sG s)) ∧ TpP w (sTp s) ∧ DIm w (sIm s) ∧ DRf w (sRf s) (sSt s) ∧ (rI w 0 14 = sSm s ∧ rI w 25 4 = sFa s ∧ rI w 53 9 = sSp s) ∧ DPp w (sDr s) ∧ DFx w
section
variable {w : Mem} {s : SG}
theorem DInv.g (h : DInv w s) : DG w (sG s) (sU s) := h.1
theorem DInv.l (h : DInv w s) : BLaws w 1 (gL (sG s)) := h.2.1
theorem DInv.t (h : DInv w s) : TpP w (sTp s) := h.2.2.1
theorem DInv.im (h : DInv w s) : DIm w (sIm s) := h.2.2.2.1
theorem DInv.rf (h : DInv w s) : DRf w (sRf s) (sSt s) := h.2.2.2.2.1
theorem DInv.sm (h : DInv w s) : rI w 0 14 = sSm s := h.2.2.2.2.2.1.1
theorem DInv.fa (h : DInv w s) : rI w 25 4 = sFa s := h.2.2.2.2.2.1.2.1
theorem DInv.sp (h : DInv w s) : rI w 53 9 = sSp s := h.2.2.2.2.2.1.2.2
theorem DInv.dr (h : DInv w s) : DPp w (sDr s) := h.2.2.2.2.2.2.1
theorem DInv.fx (h : DInv w s) : DFx w := h.2.2.2.2.2.2.2
theorem DInv.wg (h : DInv w s) : WG (sG s) := h.1.2.1
theorem DInv.b (h : DInv w s) : BRow w 1 (sG s) := h.1.1
end
/-- the reference isn't touched -/
def DkD (w w2 : Mem) : Prop := (∀ a, 89 ≤ a → a < 128 → rI w2 a = rI w a) ∧ ∀ a, 89 ≤ a → a < 128 → rJ w2 a = rJ w a
theorem DkD.rf (w : Mem) : DkD w w := ⟨fun _ _ _ => rfl, fun _ _ _ => rfl⟩
theorem DkD.tr {a b c : Mem} (h : DkD a b) (h2 : DkD b c) : DkD a c := ⟨fun x h3 h4 => (h2.1 x h3 h4).trans (h.1 x h3 h4), fun x h3 h4 => (h2.2 x h3 h4).trans (h.2 x h3 h4)⟩
theorem MInv.d {w w2 : Mem} {s : SG} (h : MInv w s) (f : DkD w w2) : MInv w2 s := by
  unfold MInv
  rw [f.1 91 (by decide) (by decide), f.1 94 (by decide) (by decide), f.1 95 (by decide) (by decide), f.1 89 (by decide) (by decide), f.1 98 (by decide) (by decide), f.1 92 (by decide) (by decide), f.1 93 (by decide) (by decide), f.1 90 (by decide) (by decide), f.1 127 (by decide) (by decide)]
  exact h
theorem MConst.d {w w2 : Mem} (h : MConst w) (f : DkD w w2) : MConst w2 := by
  unfold MConst
  rw [f.2 104 (by decide) (by decide), f.2 105 (by decide) (by decide), f.2 106 (by decide) (by decide), f.2 125 (by decide) (by decide)]
  exact h
theorem MConst.m {w w2 : Mem} (h : MConst w) (f : FrM w w2) : MConst w2 := by
  unfold MConst
  rw [f.2.1 104 (by omega), f.2.1 105 (by omega), f.2.1 106 (by omega), f.2.1 125 (by omega)]
  exact h
theorem DG.fr {w w2 : Mem} {g : GC} {u : List (Nat × Snap)} (h : DG w g u) (e : ∀ a, (1 ≤ a ∧ a ≤ 8) ∨ (20 ≤ a ∧ a ≤ 24) → rI w2 a = rI w a) : DG w2 g u := ⟨h.1.fr (fun a h1 h2 => e a (by omega)), h.2.1, h.2.2.fr (fun a h1 h2 => e a (by omega))⟩
theorem TpP.fr {w w2 : Mem} {t : List Nat} (h : TpP w t) (e1 : rI w2 26 1 = rI w 26 1) (e2 : rI w2 27 = rI w 27) : TpP w2 t := by
  unfold TpP
  rw [e1, e2]
  exact h
/-- only scratch of the searches changed -/
def DkQ (w w2 : Mem) : Prop := (∀ a, a < 31 ∨ 52 < a → rI w2 a = rI w a) ∧ (∀ a, 69 < a → rJ w2 a = rJ w a) ∧ KpR w w2
theorem DkQ.rf (w : Mem) : DkQ w w := ⟨fun _ _ => rfl, fun _ _ => rfl, KpR.rf w⟩
theorem DkQ.tr {a b c : Mem} (h : DkQ a b) (h2 : DkQ b c) : DkQ a c := ⟨fun x h3 => (h2.1 x h3).trans (h.1 x h3), fun x h3 => (h2.2.1 x h3).trans (h.2.1 x h3), h.2.2.tr h2.2.2⟩
theorem DkQ.I {w w2 : Mem} {o k : Nat} {x : Int32} (ho : 31 ≤ o ∧ o ≤ 52) (h : DkQ w w2) : DkQ w (sI w2 o k x) := ⟨fun a ha => by rw [rI_sI_ne _ _ _ (by omega)]; exact h.1 a ha, h.2⟩
theorem DkQ.A {w w2 : Mem} {o : Nat} {f : Nat → Int32} (ho : 31 ≤ o ∧ o ≤ 52) (h : DkQ w w2) : DkQ w (sA w2 o f) := ⟨fun a ha => by rw [rI_sA_ne _ _ (by omega)]; exact h.1 a ha, h.2⟩
theorem DkQ.D {w w2 : Mem} (h : DkQ w w2) : DkD w w2 := ⟨fun a h1 _ => h.1 a (by omega), fun a h1 _ => h.2.1 a (by omega)⟩
theorem FrS.Q {w w2 : Mem} (h : FrS w w2) : DkQ w w2 := ⟨fun a _ => h.i a, fun a ha => h.2.1 a (by omega), KpR.of h.2.2⟩
theorem DInv.q {w w2 : Mem} {s : SG} (h : DInv w s) (f : DkQ w w2) : DInv w2 s := by
  obtain ⟨h1, h2, h3, h4, h5, h6, h7, h8⟩ := h
  refine ⟨h1.fr (fun a ha => f.1 a (by omega)), h2.fr isBo1 (fun a ha => f.1 a (by omega)) f.2.2, h3.fr (by rw [f.1 26 (by decide)]) (f.1 27 (by decide)), h4.fr (fun a h1 h2 => f.1 a (by omega)) f.2.2, h5.fr (f.1 70 (by decide)) (by rw [f.1 0 (by decide)]), ?_, h7.fr (fun a h1 h2 => f.1 a (by omega)), h8.fr f.2.2⟩
  rw [f.1 0 (by decide), f.1 25 (by decide), f.1 53 (by decide)]
  exact h6
theorem DInv.m {w w2 : Mem} {s : SG} (h : DInv w s) (f : FrM w w2) : DInv w2 s := by
  obtain ⟨h1, h2, h3, h4, h5, h6, h7, h8⟩ := h
  have kk := KpR.of f.2.2
  refine ⟨h1.fr (fun a ha => f.1 a (by omega)), h2.fr isBo1 (fun a ha => f.1 a (by omega)) kk, h3.fr (by rw [f.1 26 (by decide)]) (f.1 27 (by decide)), h4.fr (fun a h1 h2 => f.1 a (by omega)) kk, h5.fr (f.1 70 (by decide)) (by rw [f.1 0 (by decide)]), ?_, h7.fr (fun a h1 h2 => f.1 a (by omega)), h8.fr kk⟩
  rw [f.1 0 (by decide), f.1 25 (by decide), f.1 53 (by decide)]
  exact h6
/-- board, acts, refusals, the latest answer changed alone -/
def DkN (w w2 : Mem) : Prop := (∀ a, a ≠ 0 → 8 < a → (a < 20 ∨ 24 < a) → a ≠ 70 → rI w2 a = rI w a) ∧ (∀ k, k ≠ 13 → rI w2 0 k = rI w 0 k) ∧ w2.2 = w.2
theorem DkN.rf (w : Mem) : DkN w w := ⟨fun _ _ _ _ _ => rfl, fun _ _ => rfl, rfl⟩
theorem DkN.tr {a b c : Mem} (h : DkN a b) (h2 : DkN b c) : DkN a c := ⟨fun x h3 h4 h5 h6 => (h2.1 x h3 h4 h5 h6).trans (h.1 x h3 h4 h5 h6), fun k hk => (h2.2.1 k hk).trans (h.2.1 k hk), h2.2.2.trans h.2.2⟩
theorem FrAb.N {w w2 : Mem} (h : FrAb w w2) : DkN w w2 := ⟨fun a _ h1 h2 _ => h.1 a (Or.inr h1) h2, fun k _ => by rw [h.1 0 (Or.inl rfl) (by decide)], h.2⟩
theorem FrBo.N {w w2 : Mem} (h : FrBo 1 w w2) : DkN w w2 := h.Ab.N
theorem DkN.D {w w2 : Mem} (h : DkN w w2) : DkD w w2 := ⟨fun a h1 _ => h.1 a (by omega) (by omega) (by omega) (by omega), fun a _ _ => by unfold rJ; rw [h.2.2]⟩
/-- refusals and the latest answer changed alone -/
def DkR (w w2 : Mem) : Prop := (∀ a, a ≠ 0 → a ≠ 70 → rI w2 a = rI w a) ∧ (∀ k, k ≠ 13 → rI w2 0 k = rI w 0 k) ∧ w2.2 = w.2
theorem DkR.N {w w2 : Mem} (h : DkR w w2) : DkN w w2 := ⟨fun a h1 _ _ h2 => h.1 a h1 h2, h.2.1, h.2.2⟩
theorem DInv.n {w w2 : Mem} {s : SG} {g : GC} {u : List (Nat × Snap)} {rf : Nat → Int32} {st : Int32} (h : DInv w s) (hG : DG w2 g u) (hl : gL g = gL (sG s)) (f : DkN w w2) (hR : DRf w2 rf st) : DInv w2 (g, sTp s, u, sIm s, rf, st, sFa s, sSm s, sSp s, sDr s) := by
  obtain ⟨h1, h2, h3, h4, h5, h6, h7, h8⟩ := h
  have kk := KpR.of2 f.2.2
  refine ⟨hG, by show BLaws w2 1 (gL g); rw [hl]; exact h2.fr isBo1 (fun a ha => f.1 a (by omega) (by omega) (by omega) (by omega)) kk, h3.fr (by rw [f.1 26 (by decide) (by decide) (by decide) (by decide)]) (f.1 27 (by decide) (by decide) (by decide) (by decide)), h4.fr (fun a h1 h2 => f.1 a (by omega) (by omega) (by omega) (by omega)) kk, hR, ?_, h7.fr (fun a h1 h2 => f.1 a (by omega) (by omega) (by omega) (by omega)), h8.fr kk⟩
  rw [f.2.1 14 (by decide), f.1 25 (by decide) (by decide) (by decide) (by decide), f.1 53 (by decide) (by decide) (by decide) (by decide)]
  exact h6
theorem DInv.no {w w2 : Mem} {s : SG} {k : Nat} (h : DInv w s) (f : DkR w w2) (hR : DRf w2 (upd (sRf s) k (sRf s k + 1)) (-(nI k))) : DInv w2 (sNo k s).2 := h.n (h.g.fr (fun a ha => f.1 a (by omega) (by omega))) rfl f.N hR
theorem c_D_refuse1 {E : EV} {w : Mem} {rf : Nat → Int32} {st : Int32} (hR : DRf w rf st) : T E m_D_refuse 0 0 0 [.ref 0, .int (-1)] w (fun r w2 => r = some (.int (-(nI 1))) ∧ DRf w2 (upd rf 1 (rf 1 + 1)) (-(nI 1)) ∧ DkR w w2) := by
  refine T_of (L := [.ref 0, .int (-1), un]) cf_D_refuse rfl (Nat.le_of_ble_eq_true rfl) (fun X hX hF => ?_)
  refine g_aload0 hX d_D_refuse_0 ?_
  refine g_iload1 hX d_D_refuse_1 ?_
  refine g_putI hX d_D_refuse_2 fl_D_87 (lv_0 _) ?_
  refine g_iload1 hX d_D_refuse_5 ?_
  refine g_bipush (v := -3) hX d_D_refuse_6 rfl ?_
  refine g_icmp_lt hX d_D_refuse_8 (fun h => absurd h (by decide)) (fun c0 => ?_)
  refine g_iconst (v := -1) hX d_D_refuse_11 rfl ?_
  refine g_iload1 hX d_D_refuse_12 ?_
  refine g_isub hX d_D_refuse_13 ?_
  refine g_topi (show (-1 : Int32) - (-1) = nI 0 by decide) ?_
  refine g_goto hX d_D_refuse_14 ?_
  refine g_istore2 hX d_D_refuse_21 rfl (by decide) ?_
  refine g_iload2 hX d_D_refuse_22 ?_
  refine g_if_lt hX d_D_refuse_23 (fun h => absurd h (by decide)) (fun c1 => ?_)
  refine g_iload2 hX d_D_refuse_26 ?_
  refine g_aload0 hX d_D_refuse_27 ?_
  refine g_getF hX d_D_refuse_28 fl_D_83 (lv_0 _) ?_
  refine g_alenI hX d_D_refuse_31 (lv_70 _) ?_
  refine g_icmpN_ge hX d_D_refuse_32 (by omega) (by omega) (fun h => absurd h (by decide)) (fun c2 => ?_)
  refine g_aload0 hX d_D_refuse_35 ?_
  refine g_getF hX d_D_refuse_36 fl_D_83 (lv_0 _) ?_
  refine g_iload2 hX d_D_refuse_39 ?_
  refine g_dup2 hX d_D_refuse_40 rfl rfl ?_
  refine g_iald hX d_D_refuse_41 (lv_70 _) rfl (by decide) ?_
  refine g_topi (show rI (sI w 0 13 (-1)) 70 0 = rf 1 by rw [rI_sI_ne _ _ _ (by decide)]; exact hR.2.1) ?_
  refine g_iconst (v := nI 1) hX d_D_refuse_42 rfl ?_
  refine g_iadd hX d_D_refuse_43 ?_
  refine g_iast hX d_D_refuse_44 (lv_70 _) rfl (by decide) ?_
  refine g_iload1 hX d_D_refuse_45 ?_
  refine g_iret hX hF d_D_refuse_46 (by omega) (by omega) ?_
  refine ⟨rfl, ⟨by rw [rI_sI_ne _ _ _ (by decide), rI_sI, upd_eq, if_pos rfl]; rfl, ?_⟩, fun a h1 h2 => by rw [rI_sI_ne _ _ _ h2, rI_sI_ne _ _ _ h1], fun q hq => by rw [rI_sI_ne _ _ _ (by decide), rI_sI, upd_eq, if_neg hq], rfl⟩
  rw [rI_sI, rI_sI_ne _ _ _ (by decide)]
  exact ⟨rfl, hR.2.2.1, hR.2.2.2.1, hR.2.2.2.2.1, hR.2.2.2.2.2⟩
theorem c_D_refuse2 {E : EV} {w : Mem} {rf : Nat → Int32} {st : Int32} (hR : DRf w rf st) : T E m_D_refuse 0 0 0 [.ref 0, .int (-2)] w (fun r w2 => r = some (.int (-(nI 2))) ∧ DRf w2 (upd rf 2 (rf 2 + 1)) (-(nI 2)) ∧ DkR w w2) := by
  refine T_of (L := [.ref 0, .int (-2), un]) cf_D_refuse rfl (Nat.le_of_ble_eq_true rfl) (fun X hX hF => ?_)
  refine g_aload0 hX d_D_refuse_0 ?_
  refine g_iload1 hX d_D_refuse_1 ?_
  refine g_putI hX d_D_refuse_2 fl_D_87 (lv_0 _) ?_
  refine g_iload1 hX d_D_refuse_5 ?_
  refine g_bipush (v := -3) hX d_D_refuse_6 rfl ?_
  refine g_icmp_lt hX d_D_refuse_8 (fun h => absurd h (by decide)) (fun c0 => ?_)
  refine g_iconst (v := -1) hX d_D_refuse_11 rfl ?_
  refine g_iload1 hX d_D_refuse_12 ?_
  refine g_isub hX d_D_refuse_13 ?_
  refine g_topi (show (-1 : Int32) - (-2) = nI 1 by decide) ?_
  refine g_goto hX d_D_refuse_14 ?_
  refine g_istore2 hX d_D_refuse_21 rfl (by decide) ?_
  refine g_iload2 hX d_D_refuse_22 ?_
  refine g_if_lt hX d_D_refuse_23 (fun h => absurd h (by decide)) (fun c1 => ?_)
  refine g_iload2 hX d_D_refuse_26 ?_
  refine g_aload0 hX d_D_refuse_27 ?_
  refine g_getF hX d_D_refuse_28 fl_D_83 (lv_0 _) ?_
  refine g_alenI hX d_D_refuse_31 (lv_70 _) ?_
  refine g_icmpN_ge hX d_D_refuse_32 (by omega) (by omega) (fun h => absurd h (by decide)) (fun c2 => ?_)
  refine g_aload0 hX d_D_refuse_35 ?_
  refine g_getF hX d_D_refuse_36 fl_D_83 (lv_0 _) ?_
  refine g_iload2 hX d_D_refuse_39 ?_
  refine g_dup2 hX d_D_refuse_40 rfl rfl ?_
  refine g_iald hX d_D_refuse_41 (lv_70 _) rfl (by decide) ?_
  refine g_topi (show rI (sI w 0 13 (-2)) 70 1 = rf 2 by rw [rI_sI_ne _ _ _ (by decide)]; exact hR.2.2.1) ?_
  refine g_iconst (v := nI 1) hX d_D_refuse_42 rfl ?_
  refine g_iadd hX d_D_refuse_43 ?_
  refine g_iast hX d_D_refuse_44 (lv_70 _) rfl (by decide) ?_
  refine g_iload1 hX d_D_refuse_45 ?_
  refine g_iret hX hF d_D_refuse_46 (by omega) (by omega) ?_
  refine ⟨rfl, ⟨by rw [rI_sI_ne _ _ _ (by decide), rI_sI, upd_eq, if_pos rfl]; rfl, ?_⟩, fun a h1 h2 => by rw [rI_sI_ne _ _ _ h2, rI_sI_ne _ _ _ h1], fun q hq => by rw [rI_sI_ne _ _ _ (by decide), rI_sI, upd_eq, if_neg hq], rfl⟩
  rw [rI_sI, rI_sI_ne _ _ _ (by decide)]
  exact ⟨hR.2.1, rfl, hR.2.2.2.1, hR.2.2.2.2.1, hR.2.2.2.2.2⟩
theorem c_D_refuse3 {E : EV} {w : Mem} {rf : Nat → Int32} {st : Int32} (hR : DRf w rf st) : T E m_D_refuse 0 0 0 [.ref 0, .int (-3)] w (fun r w2 => r = some (.int (-(nI 3))) ∧ DRf w2 (upd rf 3 (rf 3 + 1)) (-(nI 3)) ∧ DkR w w2) := by
  refine T_of (L := [.ref 0, .int (-3), un]) cf_D_refuse rfl (Nat.le_of_ble_eq_true rfl) (fun X hX hF => ?_)
  refine g_aload0 hX d_D_refuse_0 ?_
  refine g_iload1 hX d_D_refuse_1 ?_
  refine g_putI hX d_D_refuse_2 fl_D_87 (lv_0 _) ?_
  refine g_iload1 hX d_D_refuse_5 ?_
  refine g_bipush (v := -3) hX d_D_refuse_6 rfl ?_
  refine g_icmp_lt hX d_D_refuse_8 (fun h => absurd h (by decide)) (fun c0 => ?_)
  refine g_iconst (v := -1) hX d_D_refuse_11 rfl ?_
  refine g_iload1 hX d_D_refuse_12 ?_
  refine g_isub hX d_D_refuse_13 ?_
  refine g_topi (show (-1 : Int32) - (-3) = nI 2 by decide) ?_
  refine g_goto hX d_D_refuse_14 ?_
  refine g_istore2 hX d_D_refuse_21 rfl (by decide) ?_
  refine g_iload2 hX d_D_refuse_22 ?_
  refine g_if_lt hX d_D_refuse_23 (fun h => absurd h (by decide)) (fun c1 => ?_)
  refine g_iload2 hX d_D_refuse_26 ?_
  refine g_aload0 hX d_D_refuse_27 ?_
  refine g_getF hX d_D_refuse_28 fl_D_83 (lv_0 _) ?_
  refine g_alenI hX d_D_refuse_31 (lv_70 _) ?_
  refine g_icmpN_ge hX d_D_refuse_32 (by omega) (by omega) (fun h => absurd h (by decide)) (fun c2 => ?_)
  refine g_aload0 hX d_D_refuse_35 ?_
  refine g_getF hX d_D_refuse_36 fl_D_83 (lv_0 _) ?_
  refine g_iload2 hX d_D_refuse_39 ?_
  refine g_dup2 hX d_D_refuse_40 rfl rfl ?_
  refine g_iald hX d_D_refuse_41 (lv_70 _) rfl (by decide) ?_
  refine g_topi (show rI (sI w 0 13 (-3)) 70 2 = rf 3 by rw [rI_sI_ne _ _ _ (by decide)]; exact hR.2.2.2.1) ?_
  refine g_iconst (v := nI 1) hX d_D_refuse_42 rfl ?_
  refine g_iadd hX d_D_refuse_43 ?_
  refine g_iast hX d_D_refuse_44 (lv_70 _) rfl (by decide) ?_
  refine g_iload1 hX d_D_refuse_45 ?_
  refine g_iret hX hF d_D_refuse_46 (by omega) (by omega) ?_
  refine ⟨rfl, ⟨by rw [rI_sI_ne _ _ _ (by decide), rI_sI, upd_eq, if_pos rfl]; rfl, ?_⟩, fun a h1 h2 => by rw [rI_sI_ne _ _ _ h2, rI_sI_ne _ _ _ h1], fun q hq => by rw [rI_sI_ne _ _ _ (by decide), rI_sI, upd_eq, if_neg hq], rfl⟩
  rw [rI_sI, rI_sI_ne _ _ _ (by decide)]
  exact ⟨hR.2.1, hR.2.2.1, rfl, hR.2.2.2.2.1, hR.2.2.2.2.2⟩
theorem c_D_refuse5 {E : EV} {w : Mem} {rf : Nat → Int32} {st : Int32} (hR : DRf w rf st) : T E m_D_refuse 0 0 0 [.ref 0, .int (-5)] w (fun r w2 => r = some (.int (-(nI 5))) ∧ DRf w2 (upd rf 5 (rf 5 + 1)) (-(nI 5)) ∧ DkR w w2) := by
  refine T_of (L := [.ref 0, .int (-5), un]) cf_D_refuse rfl (Nat.le_of_ble_eq_true rfl) (fun X hX hF => ?_)
  refine g_aload0 hX d_D_refuse_0 ?_
  refine g_iload1 hX d_D_refuse_1 ?_
  refine g_putI hX d_D_refuse_2 fl_D_87 (lv_0 _) ?_
  refine g_iload1 hX d_D_refuse_5 ?_
  refine g_bipush (v := -3) hX d_D_refuse_6 rfl ?_
  refine g_icmp_lt hX d_D_refuse_8 (fun c0 => ?_) (fun h => absurd (by decide) h)
  refine g_bipush (v := -2) hX d_D_refuse_17 rfl ?_
  refine g_iload1 hX d_D_refuse_19 ?_
  refine g_isub hX d_D_refuse_20 ?_
  refine g_topi (show (-2 : Int32) - (-5) = nI 3 by decide) ?_
  refine g_istore2 hX d_D_refuse_21 rfl (by decide) ?_
  refine g_iload2 hX d_D_refuse_22 ?_
  refine g_if_lt hX d_D_refuse_23 (fun h => absurd h (by decide)) (fun c1 => ?_)
  refine g_iload2 hX d_D_refuse_26 ?_
  refine g_aload0 hX d_D_refuse_27 ?_
  refine g_getF hX d_D_refuse_28 fl_D_83 (lv_0 _) ?_
  refine g_alenI hX d_D_refuse_31 (lv_70 _) ?_
  refine g_icmpN_ge hX d_D_refuse_32 (by omega) (by omega) (fun h => absurd h (by decide)) (fun c2 => ?_)
  refine g_aload0 hX d_D_refuse_35 ?_
  refine g_getF hX d_D_refuse_36 fl_D_83 (lv_0 _) ?_
  refine g_iload2 hX d_D_refuse_39 ?_
  refine g_dup2 hX d_D_refuse_40 rfl rfl ?_
  refine g_iald hX d_D_refuse_41 (lv_70 _) rfl (by decide) ?_
  refine g_topi (show rI (sI w 0 13 (-5)) 70 3 = rf 5 by rw [rI_sI_ne _ _ _ (by decide)]; exact hR.2.2.2.2.1) ?_
  refine g_iconst (v := nI 1) hX d_D_refuse_42 rfl ?_
  refine g_iadd hX d_D_refuse_43 ?_
  refine g_iast hX d_D_refuse_44 (lv_70 _) rfl (by decide) ?_
  refine g_iload1 hX d_D_refuse_45 ?_
  refine g_iret hX hF d_D_refuse_46 (by omega) (by omega) ?_
  refine ⟨rfl, ⟨by rw [rI_sI_ne _ _ _ (by decide), rI_sI, upd_eq, if_pos rfl]; rfl, ?_⟩, fun a h1 h2 => by rw [rI_sI_ne _ _ _ h2, rI_sI_ne _ _ _ h1], fun q hq => by rw [rI_sI_ne _ _ _ (by decide), rI_sI, upd_eq, if_neg hq], rfl⟩
  rw [rI_sI, rI_sI_ne _ _ _ (by decide)]
  exact ⟨hR.2.1, hR.2.2.1, hR.2.2.2.1, rfl, hR.2.2.2.2.2⟩
theorem c_D_refuse6 {E : EV} {w : Mem} {rf : Nat → Int32} {st : Int32} (hR : DRf w rf st) : T E m_D_refuse 0 0 0 [.ref 0, .int (-6)] w (fun r w2 => r = some (.int (-(nI 6))) ∧ DRf w2 (upd rf 6 (rf 6 + 1)) (-(nI 6)) ∧ DkR w w2) := by
  refine T_of (L := [.ref 0, .int (-6), un]) cf_D_refuse rfl (Nat.le_of_ble_eq_true rfl) (fun X hX hF => ?_)
  refine g_aload0 hX d_D_refuse_0 ?_
  refine g_iload1 hX d_D_refuse_1 ?_
  refine g_putI hX d_D_refuse_2 fl_D_87 (lv_0 _) ?_
  refine g_iload1 hX d_D_refuse_5 ?_
  refine g_bipush (v := -3) hX d_D_refuse_6 rfl ?_
  refine g_icmp_lt hX d_D_refuse_8 (fun c0 => ?_) (fun h => absurd (by decide) h)
  refine g_bipush (v := -2) hX d_D_refuse_17 rfl ?_
  refine g_iload1 hX d_D_refuse_19 ?_
  refine g_isub hX d_D_refuse_20 ?_
  refine g_topi (show (-2 : Int32) - (-6) = nI 4 by decide) ?_
  refine g_istore2 hX d_D_refuse_21 rfl (by decide) ?_
  refine g_iload2 hX d_D_refuse_22 ?_
  refine g_if_lt hX d_D_refuse_23 (fun h => absurd h (by decide)) (fun c1 => ?_)
  refine g_iload2 hX d_D_refuse_26 ?_
  refine g_aload0 hX d_D_refuse_27 ?_
  refine g_getF hX d_D_refuse_28 fl_D_83 (lv_0 _) ?_
  refine g_alenI hX d_D_refuse_31 (lv_70 _) ?_
  refine g_icmpN_ge hX d_D_refuse_32 (by omega) (by omega) (fun h => absurd h (by decide)) (fun c2 => ?_)
  refine g_aload0 hX d_D_refuse_35 ?_
  refine g_getF hX d_D_refuse_36 fl_D_83 (lv_0 _) ?_
  refine g_iload2 hX d_D_refuse_39 ?_
  refine g_dup2 hX d_D_refuse_40 rfl rfl ?_
  refine g_iald hX d_D_refuse_41 (lv_70 _) rfl (by decide) ?_
  refine g_topi (show rI (sI w 0 13 (-6)) 70 4 = rf 6 by rw [rI_sI_ne _ _ _ (by decide)]; exact hR.2.2.2.2.2) ?_
  refine g_iconst (v := nI 1) hX d_D_refuse_42 rfl ?_
  refine g_iadd hX d_D_refuse_43 ?_
  refine g_iast hX d_D_refuse_44 (lv_70 _) rfl (by decide) ?_
  refine g_iload1 hX d_D_refuse_45 ?_
  refine g_iret hX hF d_D_refuse_46 (by omega) (by omega) ?_
  refine ⟨rfl, ⟨by rw [rI_sI_ne _ _ _ (by decide), rI_sI, upd_eq, if_pos rfl]; rfl, ?_⟩, fun a h1 h2 => by rw [rI_sI_ne _ _ _ h2, rI_sI_ne _ _ _ h1], fun q hq => by rw [rI_sI_ne _ _ _ (by decide), rI_sI, upd_eq, if_neg hq], rfl⟩
  rw [rI_sI, rI_sI_ne _ _ _ (by decide)]
  exact ⟨hR.2.1, hR.2.2.1, hR.2.2.2.1, hR.2.2.2.2.1, rfl⟩
theorem c_D_grant {E : EV} {w : Mem} {y : Int32} {rf : Nat → Int32} {st : Int32} (hR : DRf w rf st) : T E m_D_grant 0 0 0 [.ref 0, .int y] w (fun r w2 => r = some (.int y) ∧ DRf w2 rf (nI 0) ∧ DkR w w2) := by
  refine T_of (L := [.ref 0, .int y]) cf_D_grant rfl (Nat.le_of_ble_eq_true rfl) (fun X hX hF => ?_)
  refine g_aload0 hX d_D_grant_0 ?_
  refine g_iconst (v := nI 0) hX d_D_grant_1 rfl ?_
  refine g_putI hX d_D_grant_2 fl_D_87 (lv_0 _) ?_
  refine g_iload1 hX d_D_grant_5 ?_
  refine g_iret hX hF d_D_grant_6 (by omega) (by omega) ?_
  exact ⟨rfl, ⟨by rw [rI_sI, upd_eq, if_pos rfl], hR.2⟩, fun a h1 h2 => by rw [rI_sI_ne _ _ _ h1], fun q hq => by rw [rI_sI, upd_eq, if_neg hq], rfl⟩
