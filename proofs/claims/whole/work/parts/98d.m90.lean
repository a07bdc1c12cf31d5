def m_Wa_enter : MR := (⟨"SubgraphDesk$Walker", "enter", "(I)V"⟩, prog_12_method_3_code, 5, none)
theorem cf_Wa_enter : CF m_Wa_enter 1 := ⟨gd 1035 (by decide +kernel) rfl, gd 146 (by decide +kernel) rfl, by decide +kernel, by decide, by decide +kernel⟩
theorem cv_Wa_enter : CV m_Wa_enter := ⟨gd 1034 (by decide +kernel) rfl, gd 23 (by decide +kernel) rfl⟩
def m_Wa_leave : MR := (⟨"SubgraphDesk$Walker", "leave", "()V"⟩, prog_12_method_5_code, 1, none)
theorem cf_Wa_leave : CF m_Wa_leave 0 := ⟨gd 1049 (by decide +kernel) rfl, gd 146 (by decide +kernel) rfl, by decide +kernel, by decide, by decide +kernel⟩
theorem cv_Wa_leave : CV m_Wa_leave := ⟨gd 1048 (by decide +kernel) rfl, gd 24 (by decide +kernel) rfl⟩
theorem d_Wa_enter_0 : Dc prog_12_method_3_code 0 (.aload_n 0) 1 1 := ⟨by decide +kernel, rfl⟩
theorem d_Wa_enter_1 : Dc prog_12_method_3_code 1 (.getfield 31) 3 4 := ⟨by decide +kernel, rfl⟩
theorem d_Wa_enter_4 : Dc prog_12_method_3_code 4 (.iload_n 1) 1 5 := ⟨by decide +kernel, rfl⟩
theorem d_Wa_enter_5 : Dc prog_12_method_3_code 5 (.iaload) 1 6 := ⟨by decide +kernel, rfl⟩
theorem d_Wa_enter_6 : Dc prog_12_method_3_code 6 (.aload_n 0) 1 7 := ⟨by decide +kernel, rfl⟩
theorem d_Wa_enter_7 : Dc prog_12_method_3_code 7 (.getfield 34) 3 10 := ⟨by decide +kernel, rfl⟩
theorem d_Wa_enter_10 : Dc prog_12_method_3_code 10 (.iconst (-1)) 1 11 := ⟨by decide +kernel, rfl⟩
theorem d_Wa_enter_11 : Dc prog_12_method_3_code 11 (.ixor) 1 12 := ⟨by decide +kernel, rfl⟩
theorem d_Wa_enter_12 : Dc prog_12_method_3_code 12 (.iand) 1 13 := ⟨by decide +kernel, rfl⟩
theorem d_Wa_enter_13 : Dc prog_12_method_3_code 13 (.istore_n 2) 1 14 := ⟨by decide +kernel, rfl⟩
theorem d_Wa_enter_14 : Dc prog_12_method_3_code 14 (.aload_n 0) 1 15 := ⟨by decide +kernel, rfl⟩
theorem d_Wa_enter_15 : Dc prog_12_method_3_code 15 (.getfield 27) 3 18 := ⟨by decide +kernel, rfl⟩
theorem d_Wa_enter_18 : Dc prog_12_method_3_code 18 (.getfield 57) 3 21 := ⟨by decide +kernel, rfl⟩
theorem d_Wa_enter_21 : Dc prog_12_method_3_code 21 (.iload_n 1) 1 22 := ⟨by decide +kernel, rfl⟩
theorem d_Wa_enter_22 : Dc prog_12_method_3_code 22 (.iaload) 1 23 := ⟨by decide +kernel, rfl⟩
theorem d_Wa_enter_23 : Dc prog_12_method_3_code 23 (.istore_n 3) 1 24 := ⟨by decide +kernel, rfl⟩
theorem d_Wa_enter_24 : Dc prog_12_method_3_code 24 (.iconst 0) 1 25 := ⟨by decide +kernel, rfl⟩
theorem d_Wa_enter_25 : Dc prog_12_method_3_code 25 (.istore 4) 2 27 := ⟨by decide +kernel, rfl⟩
theorem d_Wa_enter_27 : Dc prog_12_method_3_code 27 (.iload 4) 2 29 := ⟨by decide +kernel, rfl⟩
theorem d_Wa_enter_29 : Dc prog_12_method_3_code 29 (.iload_n 1) 1 30 := ⟨by decide +kernel, rfl⟩
theorem d_Wa_enter_30 : Dj prog_12_method_3_code 30 (.if_icmp .ge 37) 33 37 67 := ⟨by decide +kernel, rfl, rfl⟩
theorem d_Wa_enter_33 : Dc prog_12_method_3_code 33 (.iload_n 3) 1 34 := ⟨by decide +kernel, rfl⟩
theorem d_Wa_enter_34 : Dc prog_12_method_3_code 34 (.iload 4) 2 36 := ⟨by decide +kernel, rfl⟩
theorem d_Wa_enter_36 : Dc prog_12_method_3_code 36 (.ishr) 1 37 := ⟨by decide +kernel, rfl⟩
theorem d_Wa_enter_37 : Dc prog_12_method_3_code 37 (.iconst 1) 1 38 := ⟨by decide +kernel, rfl⟩
theorem d_Wa_enter_38 : Dc prog_12_method_3_code 38 (.iand) 1 39 := ⟨by decide +kernel, rfl⟩
theorem d_Wa_enter_39 : Dc prog_12_method_3_code 39 (.iconst 1) 1 40 := ⟨by decide +kernel, rfl⟩
theorem d_Wa_enter_40 : Dj prog_12_method_3_code 40 (.if_icmp .ne 21) 43 21 61 := ⟨by decide +kernel, rfl, rfl⟩
theorem d_Wa_enter_43 : Dc prog_12_method_3_code 43 (.iload_n 2) 1 44 := ⟨by decide +kernel, rfl⟩
theorem d_Wa_enter_44 : Dc prog_12_method_3_code 44 (.aload_n 0) 1 45 := ⟨by decide +kernel, rfl⟩
theorem d_Wa_enter_45 : Dc prog_12_method_3_code 45 (.getfield 27) 3 48 := ⟨by decide +kernel, rfl⟩
theorem d_Wa_enter_48 : Dc prog_12_method_3_code 48 (.getfield 60) 3 51 := ⟨by decide +kernel, rfl⟩
theorem d_Wa_enter_51 : Dc prog_12_method_3_code 51 (.aload_n 0) 1 52 := ⟨by decide +kernel, rfl⟩
theorem d_Wa_enter_52 : Dc prog_12_method_3_code 52 (.getfield 9) 3 55 := ⟨by decide +kernel, rfl⟩
theorem d_Wa_enter_55 : Dc prog_12_method_3_code 55 (.iload 4) 2 57 := ⟨by decide +kernel, rfl⟩
theorem d_Wa_enter_57 : Dc prog_12_method_3_code 57 (.iaload) 1 58 := ⟨by decide +kernel, rfl⟩
theorem d_Wa_enter_58 : Dc prog_12_method_3_code 58 (.iaload) 1 59 := ⟨by decide +kernel, rfl⟩
theorem d_Wa_enter_59 : Dc prog_12_method_3_code 59 (.iand) 1 60 := ⟨by decide +kernel, rfl⟩
theorem d_Wa_enter_60 : Dc prog_12_method_3_code 60 (.istore_n 2) 1 61 := ⟨by decide +kernel, rfl⟩
theorem d_Wa_enter_61 : Dc prog_12_method_3_code 61 (.iinc 4 1) 3 64 := ⟨by decide +kernel, rfl⟩
theorem d_Wa_enter_64 : Dj prog_12_method_3_code 64 (.goto (-37)) 67 (-37) 27 := ⟨by decide +kernel, rfl, rfl⟩
theorem d_Wa_enter_67 : Dc prog_12_method_3_code 67 (.aload_n 0) 1 68 := ⟨by decide +kernel, rfl⟩
theorem d_Wa_enter_68 : Dc prog_12_method_3_code 68 (.getfield 15) 3 71 := ⟨by decide +kernel, rfl⟩
theorem d_Wa_enter_71 : Dc prog_12_method_3_code 71 (.iload_n 1) 1 72 := ⟨by decide +kernel, rfl⟩
theorem d_Wa_enter_72 : Dc prog_12_method_3_code 72 (.iload_n 2) 1 73 := ⟨by decide +kernel, rfl⟩
theorem d_Wa_enter_73 : Dc prog_12_method_3_code 73 (.iastore) 1 74 := ⟨by decide +kernel, rfl⟩
theorem d_Wa_enter_74 : Dc prog_12_method_3_code 74 (.aload_n 0) 1 75 := ⟨by decide +kernel, rfl⟩
theorem d_Wa_enter_75 : Dc prog_12_method_3_code 75 (.iload_n 1) 1 76 := ⟨by decide +kernel, rfl⟩
theorem d_Wa_enter_76 : Dc prog_12_method_3_code 76 (.putfield 41) 3 79 := ⟨by decide +kernel, rfl⟩
theorem d_Wa_enter_79 : Dc prog_12_method_3_code 79 (.aload_n 0) 1 80 := ⟨by decide +kernel, rfl⟩
theorem d_Wa_enter_80 : Dc prog_12_method_3_code 80 (.dup) 1 81 := ⟨by decide +kernel, rfl⟩
theorem d_Wa_enter_81 : Dc prog_12_method_3_code 81 (.getfield 38) 3 84 := ⟨by decide +kernel, rfl⟩
theorem d_Wa_enter_84 : Dc prog_12_method_3_code 84 (.iload_n 2) 1 85 := ⟨by decide +kernel, rfl⟩
theorem d_Wa_enter_85 : Dc prog_12_method_3_code 85 (.invokestatic 63) 3 88 := ⟨by decide +kernel, rfl⟩
theorem d_Wa_enter_88 : Dc prog_12_method_3_code 88 (.iadd) 1 89 := ⟨by decide +kernel, rfl⟩
theorem d_Wa_enter_89 : Dc prog_12_method_3_code 89 (.putfield 38) 3 92 := ⟨by decide +kernel, rfl⟩
theorem d_Wa_enter_92 : Dc prog_12_method_3_code 92 (.return_) 1 93 := ⟨by decide +kernel, rfl⟩
theorem d_Wa_leave_0 : Dc prog_12_method_5_code 0 (.aload_n 0) 1 1 := ⟨by decide +kernel, rfl⟩
theorem d_Wa_leave_1 : Dc prog_12_method_5_code 1 (.dup) 1 2 := ⟨by decide +kernel, rfl⟩
theorem d_Wa_leave_2 : Dc prog_12_method_5_code 2 (.getfield 41) 3 5 := ⟨by decide +kernel, rfl⟩
theorem d_Wa_leave_5 : Dc prog_12_method_5_code 5 (.iconst 1) 1 6 := ⟨by decide +kernel, rfl⟩
theorem d_Wa_leave_6 : Dc prog_12_method_5_code 6 (.isub) 1 7 := ⟨by decide +kernel, rfl⟩
theorem d_Wa_leave_7 : Dc prog_12_method_5_code 7 (.putfield 41) 3 10 := ⟨by decide +kernel, rfl⟩
theorem d_Wa_leave_10 : Dc prog_12_method_5_code 10 (.aload_n 0) 1 11 := ⟨by decide +kernel, rfl⟩
theorem d_Wa_leave_11 : Dc prog_12_method_5_code 11 (.getfield 41) 3 14 := ⟨by decide +kernel, rfl⟩
theorem d_Wa_leave_14 : Dj prog_12_method_5_code 14 (.ifCond .lt 25) 17 25 39 := ⟨by decide +kernel, rfl, rfl⟩
theorem d_Wa_leave_17 : Dc prog_12_method_5_code 17 (.aload_n 0) 1 18 := ⟨by decide +kernel, rfl⟩
theorem d_Wa_leave_18 : Dc prog_12_method_5_code 18 (.dup) 1 19 := ⟨by decide +kernel, rfl⟩
theorem d_Wa_leave_19 : Dc prog_12_method_5_code 19 (.getfield 34) 3 22 := ⟨by decide +kernel, rfl⟩
theorem d_Wa_leave_22 : Dc prog_12_method_5_code 22 (.iconst 1) 1 23 := ⟨by decide +kernel, rfl⟩
theorem d_Wa_leave_23 : Dc prog_12_method_5_code 23 (.aload_n 0) 1 24 := ⟨by decide +kernel, rfl⟩
theorem d_Wa_leave_24 : Dc prog_12_method_5_code 24 (.getfield 9) 3 27 := ⟨by decide +kernel, rfl⟩
theorem d_Wa_leave_27 : Dc prog_12_method_5_code 27 (.aload_n 0) 1 28 := ⟨by decide +kernel, rfl⟩
theorem d_Wa_leave_28 : Dc prog_12_method_5_code 28 (.getfield 41) 3 31 := ⟨by decide +kernel, rfl⟩
theorem d_Wa_leave_31 : Dc prog_12_method_5_code 31 (.iaload) 1 32 := ⟨by decide +kernel, rfl⟩
theorem d_Wa_leave_32 : Dc prog_12_method_5_code 32 (.ishl) 1 33 := ⟨by decide +kernel, rfl⟩
theorem d_Wa_leave_33 : Dc prog_12_method_5_code 33 (.iconst (-1)) 1 34 := ⟨by decide +kernel, rfl⟩
theorem d_Wa_leave_34 : Dc prog_12_method_5_code 34 (.ixor) 1 35 := ⟨by decide +kernel, rfl⟩
theorem d_Wa_leave_35 : Dc prog_12_method_5_code 35 (.iand) 1 36 := ⟨by decide +kernel, rfl⟩
theorem d_Wa_leave_36 : Dc prog_12_method_5_code 36 (.putfield 34) 3 39 := ⟨by decide +kernel, rfl⟩
theorem d_Wa_leave_39 : Dc prog_12_method_5_code 39 (.return_) 1 40 := ⟨by decide +kernel, rfl⟩
theorem fl_Wa_9 : FL "SubgraphDesk$Walker" 9 11 0 true (.array .int) (3, 1) := ⟨R_Wa, F_Wa, 11, ty_Wa, rfl, rfl, in_Wa, tyok_Wa, nm_Wa, by decide, gd 398 (by decide +kernel) rfl, rfl, rfl, rfl⟩
theorem fl_Wa_15 : FL "SubgraphDesk$Walker" 15 11 1 true (.array .int) (3, 2) := ⟨R_Wa, F_Wa, 11, ty_Wa, rfl, rfl, in_Wa, tyok_Wa, nm_Wa, by decide, gd 400 (by decide +kernel) rfl, rfl, rfl, rfl⟩
theorem fl_Wa_27 : FL "SubgraphDesk$Walker" 27 11 5 false (.object "SubgraphDesk$Board") (4, 0) := ⟨R_Wa, F_Wa, 11, ty_Wa, rfl, rfl, in_Wa, tyok_Wa, nm_Wa, by decide, gd 405 (by decide +kernel) rfl, rfl, rfl, rfl⟩
theorem fl_Wa_31 : FL "SubgraphDesk$Walker" 31 11 6 false (.array .int) (4, 0) := ⟨R_Wa, F_Wa, 11, ty_Wa, rfl, rfl, in_Wa, tyok_Wa, nm_Wa, by decide, gd 406 (by decide +kernel) rfl, rfl, rfl, rfl⟩
theorem fl_Wa_34 : FL "SubgraphDesk$Walker" 34 11 8 false .int (0, 0) := ⟨R_Wa, F_Wa, 11, ty_Wa, rfl, rfl, in_Wa, tyok_Wa, nm_Wa, by decide, gd 408 (by decide +kernel) rfl, rfl, rfl, rfl⟩
theorem fl_Wa_38 : FL "SubgraphDesk$Walker" 38 11 9 false .int (0, 0) := ⟨R_Wa, F_Wa, 11, ty_Wa, rfl, rfl, in_Wa, tyok_Wa, nm_Wa, by decide, gd 409 (by decide +kernel) rfl, rfl, rfl, rfl⟩
theorem fl_Wa_41 : FL "SubgraphDesk$Walker" 41 11 7 false .int (0, 0) := ⟨R_Wa, F_Wa, 11, ty_Wa, rfl, rfl, in_Wa, tyok_Wa, nm_Wa, by decide, gd 407 (by decide +kernel) rfl, rfl, rfl, rfl⟩
theorem fl_Wa_57 : FL "SubgraphDesk$Walker" 57 2 7 true (.array .int) (3, 5) := ⟨R_Bo, F_Bo, 15, ty_Bo, rfl, rfl, in_Bo, tyok_Bo, nm_Bo, by decide, gd 212 (by decide +kernel) rfl, rfl, rfl, rfl⟩
theorem fl_Wa_60 : FL "SubgraphDesk$Walker" 60 2 2 true (.array .int) (3, 2) := ⟨R_Bo, F_Bo, 15, ty_Bo, rfl, rfl, in_Bo, tyok_Bo, nm_Bo, by decide, gd 188 (by decide +kernel) rfl, rfl, rfl, rfl⟩
theorem ml_Wa_63 : Cond.methodLink "SubgraphDesk$Walker" 63 m_JInteger_bitCount.1 ∈ lw_gd := gd 1036 (by decide +kernel) rfl
/-- what the walker goes over -/
def WkE (w : Mem) (g : GC) (c : Nat → Nat) (ab : Nat) : Prop := BRow w 1 g ∧ WG g ∧ rR w 36 5 = some 1 ∧ rR w 36 6 = some ab ∧ (ab = 32 ∨ ab = 43) ∧ ∀ v, v < gV g → rI w ab v = nI (c v) ∧ c v < 2 ^ gN g
/-- only what the walker notes changed -/
def FrWk (w w2 : Mem) : Prop := (∀ a, a < 36 ∨ 41 < a → rI w2 a = rI w a) ∧ w2.2 = w.2
theorem FrWk.rf (w : Mem) : FrWk w w := ⟨fun _ _ => rfl, rfl⟩
theorem FrWk.tr {a b c : Mem} (h : FrWk a b) (h2 : FrWk b c) : FrWk a c := ⟨fun x hx => (h2.1 x hx).trans (h.1 x hx), h2.2.trans h.2⟩
theorem FrWk.I {w w2 : Mem} {o k : Nat} {x : Int32} (ho : 36 ≤ o ∧ o ≤ 41) (h : FrWk w w2) : FrWk w (sI w2 o k x) := ⟨fun a ha => by rw [rI_sI_ne _ _ _ (by omega)]; exact h.1 a ha, h.2⟩
theorem FrWk.A {w w2 : Mem} {o : Nat} {f : Nat → Int32} (ho : 36 ≤ o ∧ o ≤ 41) (h : FrWk w w2) : FrWk w (sA w2 o f) := ⟨fun a ha => by rw [rI_sA_ne _ _ (by omega)]; exact h.1 a ha, h.2⟩
theorem FrWk.Q {w w2 : Mem} (h : FrWk w w2) : DkQ w w2 := ⟨fun a ha => h.1 a (by omega), fun a _ => by unfold rJ; rw [h.2], KpR.of2 h.2⟩
theorem WkE.fr {w w2 : Mem} {g : GC} {c : Nat → Nat} {ab : Nat} (h : WkE w g c ab) (f : FrWk w w2) : WkE w2 g c ab := by
  obtain ⟨h1, h2, h3, h4, h5, h6⟩ := h
  refine ⟨h1.fr (fun a h1 h2 => f.1 a (by omega)), h2, by unfold rR; rw [f.2]; exact h3, by unfold rR; rw [f.2]; exact h4, h5, fun v hv => ?_⟩
  rw [f.1 ab (by omega)]
  exact h6 v hv
theorem WkE.lv {w : Mem} {g : GC} {c : Nat → Nat} {ab : Nat} (h : WkE w g c ab) (w2 : Mem) : Lv w2 ab (2, 5) := by
  rcases h.2.2.2.2.1 with rfl | rfl
  · exact lv_32 _
  · exact lv_43 _
/-- what lies at the depth of q, the masks of all depths up to it -/
def WkB (w : Mem) (g : GC) (lf : Nat → Nat) (q : List Nat) : Prop := q.length < gV g ∧ q.Nodup ∧ (∀ x ∈ q, x < gN g) ∧ (∀ u, u < q.length → rI w 37 u = nI (gA q u)) ∧ (∀ u, u ≤ q.length → rI w 38 u = nI (lf u) ∧ lf u < 2 ^ gN g ∧ ∀ x, (lf u).testBit x = true → x ∉ q.take u) ∧ rI w 36 7 = nI q.length ∧ rI w 36 8 = nI (takB q) ∧ rI w 36 10 = nI 0
def lfU (lf : Nat → Nat) (u m : Nat) : Nat → Nat := fun k => if k = u then m else lf k
theorem remW_c {g : GC} {c lf lf2 : Nat → Nat} {q q2 : List Nat} : ∀ u, (∀ k, k < u → lf2 k = lf k ∧ q2.take k = q.take k) → remW g c lf2 q2 u = remW g c lf q u ∧ stpW g c lf2 q2 u = stpW g c lf q u
  | 0, h => ⟨rfl, rfl⟩
  | u + 1, h => by
    obtain ⟨h1, h2⟩ := remW_c (g := g) (c := c) (lf := lf) (lf2 := lf2) (q := q) (q2 := q2) u (fun k hk => h k (by omega))
    obtain ⟨h3, h4⟩ := h u (Nat.lt_succ_self u)
    unfold remW stpW
    rw [h1, h2, h3, h4]
    exact ⟨rfl, rfl⟩
theorem popk_z (x : Nat) : ∀ k, popk 0 k = 0
  | 0 => rfl
  | k + 1 => by
    unfold popk
    rw [popk_z x k, Nat.zero_shiftRight]
    rfl
theorem mem12 {q : List Nat} {N : Nat} (hN : N ≤ 12) (h : ∀ x ∈ q, x < N) : ∀ x ∈ q, x < 12 := fun x hx => by have := h x hx; omega
/-- the world behind entering -/
def enW (w : Mem) (k m s : Nat) : Mem := sI (sI (sI w 38 k (nI m)) 36 7 (nI k)) 36 9 (nI (s + pop m))
theorem c_Wa_enter {E : EV} {w : Mem} {g : GC} {c : Nat → Nat} {ab s : Nat} {q : List Nat} (hE : WkE w g c ab) (hl : q.length < gV g) (hq : ∀ x ∈ q, x < gN g) (hpl : ∀ u, u < q.length → rI w 37 u = nI (gA q u)) (ht : rI w 36 8 = nI (takB q)) (hs : rI w 36 9 = nI s) : T E m_Wa_enter 1 0 0 [.ref 36, .int (nI q.length)] w (Ret none (enW w q.length (opnN g c q q.length) s)) := by
  refine T_of (L := [.ref 36, .int (nI q.length), un, un, un]) cf_Wa_enter rfl (Nat.le_of_ble_eq_true rfl) (fun X hX hF => ?_)
  have hR := hE.1
  have hW := hE.2.1
  have hn := hW.n
  have hv := hW.v
  have hcv := (hE.2.2.2.2.2 q.length hl)
  have hc12 : c q.length < 2 ^ 12 := Nat.lt_of_lt_of_le hcv.2 (Nat.pow_le_pow_right (by decide) hn)
  have hk32 := hW.k32 hl
  have htl := takB_lt (mem12 hn hq)
  have hoq := opnN_lt (g := g) (q := q) hcv.2
  have ho12 : ∀ u, opnN g c q u < 4096 := fun u => Nat.lt_of_lt_of_le (hoq u) (Nat.pow_le_pow_right (by decide) hn)
  have ho12q := ho12 q.length
  have lp : ∀ (fuel : Nat) (u : Nat), q.length - u < fuel → (u ≤ q.length) → G0 E X 0 0 27 [.ref 36, .int (nI q.length), .int (nI (opnN g c q u)), .int (nI (gK g q.length)), .int (nI u)] [] w := by
    intro fuel
    induction fuel with
    | zero => intro u q0; exact absurd q0 (Nat.not_lt_zero _)
    | succ fuel ih =>
      intro u q0 q1
      refine g_iload4 hX d_Wa_enter_27 ?_
      refine g_iload1 hX d_Wa_enter_29 ?_
      refine g_icmpN_ge hX d_Wa_enter_30 (by omega) (by omega) (fun e30 => ?_) (fun e30 => ?_)
      · obtain rfl : u = q.length := by omega
        refine g_aload0 hX d_Wa_enter_67 ?_
        refine g_getF hX d_Wa_enter_68 fl_Wa_15 (lv_36 _) ?_
        refine g_iload1 hX d_Wa_enter_71 ?_
        refine g_iload2 hX d_Wa_enter_72 ?_
        refine g_iast hX d_Wa_enter_73 (lv_38 _) rfl (by omega) ?_
        refine g_aload0 hX d_Wa_enter_74 ?_
        refine g_iload1 hX d_Wa_enter_75 ?_
        refine g_putI hX d_Wa_enter_76 fl_Wa_41 (lv_36 _) ?_
        refine g_aload0 hX d_Wa_enter_79 ?_
        refine g_dup hX d_Wa_enter_80 rfl ?_
        refine g_getI hX d_Wa_enter_81 fl_Wa_38 (lv_36 _) ?_
        refine g_topi (show rI (sI (sI w 38 q.length _) 36 7 _) 36 9 = nI s by rw [rI_sI, upd_eq, if_neg (by decide), rI_sI_ne _ _ _ (by decide)]; exact hs) ?_
        refine g_iload2 hX d_Wa_enter_84 ?_
        refine g_callS (As := [_]) hX hF.1 d_Wa_enter_85 ml_Wa_63 cf_JInteger_bitCount cs_JInteger_bitCount rfl (c_JInteger_bitCount (by omega)) (by omega) (by omega) (by omega) (Nat.le_of_ble_eq_true rfl) ?_
        refine ret_k ?_
        refine g_iaddN hX d_Wa_enter_88 ?_
        refine g_putI hX d_Wa_enter_89 fl_Wa_38 (lv_36 _) ?_
        refine g_vret hX hF d_Wa_enter_92 (by omega) (by omega) ?_
        exact ⟨rfl, rfl⟩
      · have hx : gA q u < gN g := hq _ (gA_mem e30)
        have hnb := near12 hW (gA q u)
        refine g_iload3 hX d_Wa_enter_33 ?_
        refine g_iload4 hX d_Wa_enter_34 ?_
        refine g_ishrN hX d_Wa_enter_36 (by omega) (by omega) ?_
        refine g_iconst (v := nI 1) hX d_Wa_enter_37 rfl ?_
        refine g_iandC hX d_Wa_enter_38 (fun hm1 => ?_)
        refine g_iconst (v := nI 1) hX d_Wa_enter_39 rfl ?_
        refine g_icmpN_ne hX d_Wa_enter_40 (by omega) (by omega) (fun e40 => ?_) (fun e40 => ?_)
        · have e40 : ¬ (gK g q.length).testBit u = true := fun z => e40 ((tb1 _ _).mpr z)
          refine g_iincN4 hX d_Wa_enter_61 rfl (by decide) ?_
          refine g_goto hX d_Wa_enter_64 ?_
          rw [show opnN g c q u = opnN g c q (u + 1) by rw [opnN, if_neg e40]]
          exact ih (u + 1) (by omega) (by omega)
        · have e40 := (tb1 _ _).mp e40
          refine g_iload2 hX d_Wa_enter_43 ?_
          refine g_aload0 hX d_Wa_enter_44 ?_
          refine g_getR hX d_Wa_enter_45 fl_Wa_27 (lv_36 _) hE.2.2.1 ?_
          refine g_getF hX d_Wa_enter_48 fl_Wa_60 (lv_1 _) ?_
          refine g_aload0 hX d_Wa_enter_51 ?_
          refine g_getF hX d_Wa_enter_52 fl_Wa_9 (lv_36 _) ?_
          refine g_iload4 hX d_Wa_enter_55 ?_
          refine g_iald hX d_Wa_enter_57 (lv_37 _) rfl (by omega) ?_
          refine g_topi (hpl u e30) ?_
          refine g_iald hX d_Wa_enter_58 (lv_3 _) rfl (by omega) ?_
          refine g_topi (show rI w 3 (gA q u) = nI (nearB (gE g) (gA q u)) from hR.nr _ hx) ?_
          refine g_iandN hX d_Wa_enter_59 ?_
          refine g_istore2 hX d_Wa_enter_60 rfl (by decide) ?_
          refine g_iincN4 hX d_Wa_enter_61 rfl (by decide) ?_
          refine g_goto hX d_Wa_enter_64 ?_
          rw [show opnN g c q u &&& nearB (gE g) (gA q u) = opnN g c q (u + 1) by rw [opnN, if_pos e40]]
          exact ih (u + 1) (by omega) (by omega)
  refine g_aload0 hX d_Wa_enter_0 ?_
  refine g_getR hX d_Wa_enter_1 fl_Wa_31 (lv_36 _) hE.2.2.2.1 ?_
  refine g_iload1 hX d_Wa_enter_4 ?_
  refine g_iald hX d_Wa_enter_5 (hE.lv _) rfl (by omega) ?_
  refine g_topi hcv.1 ?_
  refine g_aload0 hX d_Wa_enter_6 ?_
  refine g_getI hX d_Wa_enter_7 fl_Wa_34 (lv_36 _) ?_
  refine g_topi ht ?_
  refine g_iconst (v := -1) hX d_Wa_enter_10 rfl ?_
  refine g_ixor hX d_Wa_enter_11 ?_
  refine g_iandX hX d_Wa_enter_12 ?_
  refine g_istore2 hX d_Wa_enter_13 rfl (by decide) ?_
  refine g_aload0 hX d_Wa_enter_14 ?_
  refine g_getR hX d_Wa_enter_15 fl_Wa_27 (lv_36 _) hE.2.2.1 ?_
  refine g_getF hX d_Wa_enter_18 fl_Wa_57 (lv_1 _) ?_
  refine g_iload1 hX d_Wa_enter_21 ?_
  refine g_iald hX d_Wa_enter_22 (lv_6 _) rfl (by omega) ?_
  refine g_topi (show rI w 6 q.length = nI (gK g q.length) from hR.k _ hl) ?_
  refine g_istore3 hX d_Wa_enter_23 rfl (by decide) ?_
  refine g_iconst (v := nI 0) hX d_Wa_enter_24 rfl ?_
  refine g_istore4 hX d_Wa_enter_25 rfl (by decide) ?_
  exact lp (q.length + 1) 0 (by omega) (Nat.zero_le _)
theorem c_Wa_leave0 {E : EV} {w : Mem} (hlv : rI w 36 7 = nI 0) : T E m_Wa_leave 0 0 0 [.ref 36] w (Ret none (sI w 36 7 (-1))) := by
  refine T_of (L := [.ref 36]) cf_Wa_leave rfl (Nat.le_of_ble_eq_true rfl) (fun X hX hF => ?_)
  refine g_aload0 hX d_Wa_leave_0 ?_
  refine g_dup hX d_Wa_leave_1 rfl ?_
  refine g_getI hX d_Wa_leave_2 fl_Wa_41 (lv_36 _) ?_
  refine g_topi (show rI w 36 7 = nI 0 from hlv) ?_
  refine g_iconst (v := nI 1) hX d_Wa_leave_5 rfl ?_
  
  refine g_isub hX d_Wa_leave_6 ?_
  refine g_topi (show nI 0 - nI 1 = -1 by decide) ?_
  refine g_putI hX d_Wa_leave_7 fl_Wa_41 (lv_36 _) ?_
  refine g_aload0 hX d_Wa_leave_10 ?_
  refine g_getI hX d_Wa_leave_11 fl_Wa_41 (lv_36 _) ?_
  refine g_topi (y := -1) (by rw [rI_sI, upd_eq, if_pos rfl]) ?_
  refine g_if_lt hX d_Wa_leave_14 (fun c0 => ?_) (fun h => absurd (by decide) h)
  refine g_vret hX hF d_Wa_leave_39 (by omega) (by omega) ?_
  exact ⟨rfl, rfl⟩
theorem c_Wa_leave {E : EV} {w : Mem} {q : List Nat} {x : Nat} (hl : q.length < 5) (hx : x < 12) (hxq : x ∉ q) (hq : ∀ x ∈ q, x < 12) (hlv : rI w 36 7 = nI (q.length + 1)) (ht : rI w 36 8 = nI (takB (q ++ [x]))) (hp : rI w 37 q.length = nI x) : T E m_Wa_leave 0 0 0 [.ref 36] w (Ret none (sI (sI w 36 7 (nI q.length)) 36 8 (nI (takB q)))) := by
  refine T_of (L := [.ref 36]) cf_Wa_leave rfl (Nat.le_of_ble_eq_true rfl) (fun X hX hF => ?_)
  have htl : takB (q ++ [x]) < 2 ^ 12 := takB_lt (fun y hy => by rw [List.mem_append, List.mem_singleton] at hy; rcases hy with h | h; exact hq y h; omega)
  have hsl : 1 <<< x < 2 ^ 12 := shl_lt (by omega)
  refine g_aload0 hX d_Wa_leave_0 ?_
  refine g_dup hX d_Wa_leave_1 rfl ?_
  refine g_getI hX d_Wa_leave_2 fl_Wa_41 (lv_36 _) ?_
  refine g_topi hlv ?_
  refine g_iconst (v := nI 1) hX d_Wa_leave_5 rfl ?_
  refine g_isubN hX d_Wa_leave_6 (by omega) ?_
  refine g_topi (show nI (q.length + 1 - 1) = nI q.length by rw [Nat.add_sub_cancel]) ?_
  refine g_putI hX d_Wa_leave_7 fl_Wa_41 (lv_36 _) ?_
  refine g_aload0 hX d_Wa_leave_10 ?_
  refine g_getI hX d_Wa_leave_11 fl_Wa_41 (lv_36 _) ?_
  refine g_topi (y := nI q.length) (by rw [rI_sI, upd_eq, if_pos rfl]) ?_
  refine g_if_lt hX d_Wa_leave_14 (fun h => absurd h (nI_pos (by omega))) (fun c0 => ?_)
  refine g_aload0 hX d_Wa_leave_17 ?_
  refine g_dup hX d_Wa_leave_18 rfl ?_
  refine g_getI hX d_Wa_leave_19 fl_Wa_34 (lv_36 _) ?_
  refine g_topi (show rI (sI w 36 7 _) 36 8 = nI (takB (q ++ [x])) by rw [rI_sI, upd_eq, if_neg (by decide)]; exact ht) ?_
  refine g_iconst (v := nI 1) hX d_Wa_leave_22 rfl ?_
  refine g_aload0 hX d_Wa_leave_23 ?_
  refine g_getF hX d_Wa_leave_24 fl_Wa_9 (lv_36 _) ?_
  refine g_aload0 hX d_Wa_leave_27 ?_
  refine g_getI hX d_Wa_leave_28 fl_Wa_41 (lv_36 _) ?_
  refine g_topi (y := nI q.length) (by rw [rI_sI, upd_eq, if_pos rfl]) ?_
  refine g_iald hX d_Wa_leave_31 (lv_37 _) rfl (by omega) ?_
  refine g_topi (show rI (sI w 36 7 _) 37 q.length = nI x by rw [rI_sI_ne _ _ _ (by decide)]; exact hp) ?_
  refine g_ishlN hX d_Wa_leave_32 (by omega) ?_
  refine g_iconst (v := -1) hX d_Wa_leave_33 rfl ?_
  refine g_ixor hX d_Wa_leave_34 ?_
  refine g_iandX hX d_Wa_leave_35 ?_
  refine g_topi (show nI (sd (takB (q ++ [x])) (1 <<< x)) = nI (takB q) by rw [takB_sd hxq]) ?_
  refine g_putI hX d_Wa_leave_36 fl_Wa_34 (lv_36 _) ?_
  refine g_vret hX hF d_Wa_leave_39 (by omega) (by omega) ?_
  exact ⟨rfl, rfl⟩
