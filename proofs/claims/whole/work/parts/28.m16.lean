def m_M_reckon : MR := (⟨"SubgraphDeskModel", "reckon", "(IJJ)J"⟩, prog_14_method_66_code, 6, (some .long))
theorem cf_M_reckon : CF m_M_reckon 3 := ⟨gd 1773 (by decide +kernel) rfl, gd 151 (by decide +kernel) rfl, by decide +kernel, by decide, by decide +kernel⟩
theorem cv_M_reckon : CV m_M_reckon := ⟨gd 1772 (by decide +kernel) rfl, gd 69 (by decide +kernel) rfl⟩
theorem d_M_reckon_0 : Dc prog_14_method_66_code 0 (.iload_n 1) 1 1 := ⟨by decide +kernel, rfl⟩
theorem d_M_reckon_1 : Dc prog_14_method_66_code 1 (.tableswitch 148 20 26 #[43, 48, 53, 58, 90, 122, 135]) 43 44 := ⟨by decide +kernel, rfl⟩
theorem d_M_reckon_44 : Dc prog_14_method_66_code 44 (.lload_n 2) 1 45 := ⟨by decide +kernel, rfl⟩
theorem d_M_reckon_45 : Dc prog_14_method_66_code 45 (.lload 4) 2 47 := ⟨by decide +kernel, rfl⟩
theorem d_M_reckon_47 : Dc prog_14_method_66_code 47 (.ladd) 1 48 := ⟨by decide +kernel, rfl⟩
theorem d_M_reckon_48 : Dc prog_14_method_66_code 48 (.lreturn) 1 49 := ⟨by decide +kernel, rfl⟩
theorem d_M_reckon_49 : Dc prog_14_method_66_code 49 (.lload_n 2) 1 50 := ⟨by decide +kernel, rfl⟩
theorem d_M_reckon_50 : Dc prog_14_method_66_code 50 (.lload 4) 2 52 := ⟨by decide +kernel, rfl⟩
theorem d_M_reckon_52 : Dc prog_14_method_66_code 52 (.lsub) 1 53 := ⟨by decide +kernel, rfl⟩
theorem d_M_reckon_53 : Dc prog_14_method_66_code 53 (.lreturn) 1 54 := ⟨by decide +kernel, rfl⟩
theorem d_M_reckon_54 : Dc prog_14_method_66_code 54 (.lload_n 2) 1 55 := ⟨by decide +kernel, rfl⟩
theorem d_M_reckon_55 : Dc prog_14_method_66_code 55 (.lload 4) 2 57 := ⟨by decide +kernel, rfl⟩
theorem d_M_reckon_57 : Dc prog_14_method_66_code 57 (.lmul) 1 58 := ⟨by decide +kernel, rfl⟩
theorem d_M_reckon_58 : Dc prog_14_method_66_code 58 (.lreturn) 1 59 := ⟨by decide +kernel, rfl⟩
theorem d_M_reckon_59 : Dc prog_14_method_66_code 59 (.aload_n 0) 1 60 := ⟨by decide +kernel, rfl⟩
theorem d_M_reckon_60 : Dc prog_14_method_66_code 60 (.lload 4) 2 62 := ⟨by decide +kernel, rfl⟩
theorem d_M_reckon_62 : Dc prog_14_method_66_code 62 (.lconst 0) 1 63 := ⟨by decide +kernel, rfl⟩
theorem d_M_reckon_63 : Dc prog_14_method_66_code 63 (.lcmp) 1 64 := ⟨by decide +kernel, rfl⟩
theorem d_M_reckon_64 : Dj prog_14_method_66_code 64 (.ifCond .ne 7) 67 7 71 := ⟨by decide +kernel, rfl, rfl⟩
theorem d_M_reckon_67 : Dc prog_14_method_66_code 67 (.iconst 1) 1 68 := ⟨by decide +kernel, rfl⟩
theorem d_M_reckon_68 : Dj prog_14_method_66_code 68 (.goto 4) 71 4 72 := ⟨by decide +kernel, rfl, rfl⟩
theorem d_M_reckon_71 : Dc prog_14_method_66_code 71 (.iconst 0) 1 72 := ⟨by decide +kernel, rfl⟩
theorem d_M_reckon_72 : Dc prog_14_method_66_code 72 (.putfield 409) 3 75 := ⟨by decide +kernel, rfl⟩
theorem d_M_reckon_75 : Dc prog_14_method_66_code 75 (.aload_n 0) 1 76 := ⟨by decide +kernel, rfl⟩
theorem d_M_reckon_76 : Dc prog_14_method_66_code 76 (.getfield 409) 3 79 := ⟨by decide +kernel, rfl⟩
theorem d_M_reckon_79 : Dj prog_14_method_66_code 79 (.ifCond .eq 7) 82 7 86 := ⟨by decide +kernel, rfl, rfl⟩
theorem d_M_reckon_82 : Dc prog_14_method_66_code 82 (.lconst 0) 1 83 := ⟨by decide +kernel, rfl⟩
theorem d_M_reckon_83 : Dj prog_14_method_66_code 83 (.goto 7) 86 7 90 := ⟨by decide +kernel, rfl, rfl⟩
theorem d_M_reckon_86 : Dc prog_14_method_66_code 86 (.lload_n 2) 1 87 := ⟨by decide +kernel, rfl⟩
theorem d_M_reckon_87 : Dc prog_14_method_66_code 87 (.lload 4) 2 89 := ⟨by decide +kernel, rfl⟩
theorem d_M_reckon_89 : Dc prog_14_method_66_code 89 (.ldiv) 1 90 := ⟨by decide +kernel, rfl⟩
theorem d_M_reckon_90 : Dc prog_14_method_66_code 90 (.lreturn) 1 91 := ⟨by decide +kernel, rfl⟩
theorem d_M_reckon_91 : Dc prog_14_method_66_code 91 (.aload_n 0) 1 92 := ⟨by decide +kernel, rfl⟩
theorem d_M_reckon_92 : Dc prog_14_method_66_code 92 (.lload 4) 2 94 := ⟨by decide +kernel, rfl⟩
theorem d_M_reckon_94 : Dc prog_14_method_66_code 94 (.lconst 0) 1 95 := ⟨by decide +kernel, rfl⟩
theorem d_M_reckon_95 : Dc prog_14_method_66_code 95 (.lcmp) 1 96 := ⟨by decide +kernel, rfl⟩
theorem d_M_reckon_96 : Dj prog_14_method_66_code 96 (.ifCond .ne 7) 99 7 103 := ⟨by decide +kernel, rfl, rfl⟩
theorem d_M_reckon_99 : Dc prog_14_method_66_code 99 (.iconst 1) 1 100 := ⟨by decide +kernel, rfl⟩
theorem d_M_reckon_100 : Dj prog_14_method_66_code 100 (.goto 4) 103 4 104 := ⟨by decide +kernel, rfl, rfl⟩
theorem d_M_reckon_103 : Dc prog_14_method_66_code 103 (.iconst 0) 1 104 := ⟨by decide +kernel, rfl⟩
theorem d_M_reckon_104 : Dc prog_14_method_66_code 104 (.putfield 409) 3 107 := ⟨by decide +kernel, rfl⟩
theorem d_M_reckon_107 : Dc prog_14_method_66_code 107 (.aload_n 0) 1 108 := ⟨by decide +kernel, rfl⟩
theorem d_M_reckon_108 : Dc prog_14_method_66_code 108 (.getfield 409) 3 111 := ⟨by decide +kernel, rfl⟩
theorem d_M_reckon_111 : Dj prog_14_method_66_code 111 (.ifCond .eq 7) 114 7 118 := ⟨by decide +kernel, rfl, rfl⟩
theorem d_M_reckon_114 : Dc prog_14_method_66_code 114 (.lconst 0) 1 115 := ⟨by decide +kernel, rfl⟩
theorem d_M_reckon_115 : Dj prog_14_method_66_code 115 (.goto 7) 118 7 122 := ⟨by decide +kernel, rfl, rfl⟩
theorem d_M_reckon_118 : Dc prog_14_method_66_code 118 (.lload_n 2) 1 119 := ⟨by decide +kernel, rfl⟩
theorem d_M_reckon_119 : Dc prog_14_method_66_code 119 (.lload 4) 2 121 := ⟨by decide +kernel, rfl⟩
theorem d_M_reckon_121 : Dc prog_14_method_66_code 121 (.lrem) 1 122 := ⟨by decide +kernel, rfl⟩
theorem d_M_reckon_122 : Dc prog_14_method_66_code 122 (.lreturn) 1 123 := ⟨by decide +kernel, rfl⟩
theorem d_M_reckon_123 : Dc prog_14_method_66_code 123 (.lload_n 2) 1 124 := ⟨by decide +kernel, rfl⟩
theorem d_M_reckon_124 : Dc prog_14_method_66_code 124 (.lload 4) 2 126 := ⟨by decide +kernel, rfl⟩
theorem d_M_reckon_126 : Dc prog_14_method_66_code 126 (.lcmp) 1 127 := ⟨by decide +kernel, rfl⟩
theorem d_M_reckon_127 : Dj prog_14_method_66_code 127 (.ifCond .ge 7) 130 7 134 := ⟨by decide +kernel, rfl, rfl⟩
theorem d_M_reckon_130 : Dc prog_14_method_66_code 130 (.lconst 1) 1 131 := ⟨by decide +kernel, rfl⟩
theorem d_M_reckon_131 : Dj prog_14_method_66_code 131 (.goto 4) 134 4 135 := ⟨by decide +kernel, rfl, rfl⟩
theorem d_M_reckon_134 : Dc prog_14_method_66_code 134 (.lconst 0) 1 135 := ⟨by decide +kernel, rfl⟩
theorem d_M_reckon_135 : Dc prog_14_method_66_code 135 (.lreturn) 1 136 := ⟨by decide +kernel, rfl⟩
theorem d_M_reckon_136 : Dc prog_14_method_66_code 136 (.lload_n 2) 1 137 := ⟨by decide +kernel, rfl⟩
theorem d_M_reckon_137 : Dc prog_14_method_66_code 137 (.lload 4) 2 139 := ⟨by decide +kernel, rfl⟩
theorem d_M_reckon_139 : Dc prog_14_method_66_code 139 (.lcmp) 1 140 := ⟨by decide +kernel, rfl⟩
theorem d_M_reckon_140 : Dj prog_14_method_66_code 140 (.ifCond .le 7) 143 7 147 := ⟨by decide +kernel, rfl, rfl⟩
theorem d_M_reckon_143 : Dc prog_14_method_66_code 143 (.lconst 1) 1 144 := ⟨by decide +kernel, rfl⟩
theorem d_M_reckon_144 : Dj prog_14_method_66_code 144 (.goto 4) 147 4 148 := ⟨by decide +kernel, rfl, rfl⟩
theorem d_M_reckon_147 : Dc prog_14_method_66_code 147 (.lconst 0) 1 148 := ⟨by decide +kernel, rfl⟩
theorem d_M_reckon_148 : Dc prog_14_method_66_code 148 (.lreturn) 1 149 := ⟨by decide +kernel, rfl⟩
theorem d_M_reckon_149 : Dc prog_14_method_66_code 149 (.lload_n 2) 1 150 := ⟨by decide +kernel, rfl⟩
theorem d_M_reckon_150 : Dc prog_14_method_66_code 150 (.lload 4) 2 152 := ⟨by decide +kernel, rfl⟩
theorem d_M_reckon_152 : Dc prog_14_method_66_code 152 (.lcmp) 1 153 := ⟨by decide +kernel, rfl⟩
theorem d_M_reckon_153 : Dj prog_14_method_66_code 153 (.ifCond .ne 7) 156 7 160 := ⟨by decide +kernel, rfl, rfl⟩
theorem d_M_reckon_156 : Dc prog_14_method_66_code 156 (.lconst 1) 1 157 := ⟨by decide +kernel, rfl⟩
theorem d_M_reckon_157 : Dj prog_14_method_66_code 157 (.goto 4) 160 4 161 := ⟨by decide +kernel, rfl, rfl⟩
theorem d_M_reckon_160 : Dc prog_14_method_66_code 160 (.lconst 0) 1 161 := ⟨by decide +kernel, rfl⟩
theorem d_M_reckon_161 : Dc prog_14_method_66_code 161 (.lreturn) 1 162 := ⟨by decide +kernel, rfl⟩
theorem fl_M_409 : FL "SubgraphDeskModel" 409 12 38 false .boolean (1, 0) := ⟨R_M, F_M, 69, ty_M, rfl, rfl, in_M, tyok_M, nm_M, by decide, gd 1510 (by decide +kernel) rfl, rfl, rfl, rfl⟩
def lI (v : Int) : Int64 := Int64.ofInt v
/-- how far a word goes while a text is reckoned -/
abbrev bd (v : Int) : Prop := -1000000000 ≤ v ∧ v ≤ 1000000001
theorem lI_T {v : Int} (h : -4611686018427387904 ≤ v ∧ v ≤ 4611686018427387904) : (lI v).toInt = v := by
  unfold lI
  rw [Int64.toInt_ofInt]
  show v.bmod 18446744073709551616 = v
  refine Int.bmod_eq_of_le ?_ ?_ <;> omega
theorem lI_of {x : Int64} : lI x.toInt = x := Int64.ofInt_toInt x
theorem lI_nat (n : Nat) : lN n = lI n := rfl
theorem lI_add (a b : Int) : lI a + lI b = lI (a + b) := (Int64.ofInt_add a b).symm
theorem lI_sub (a b : Int) : lI a - lI b = lI (a - b) := (Int64.ofInt_sub a b).symm
theorem lI_mul (a b : Int) : lI a * lI b = lI (a * b) := (Int64.ofInt_mul a b).symm
theorem lI_lt {a b : Int} (ha : -4611686018427387904 ≤ a ∧ a ≤ 4611686018427387904) (hb : -4611686018427387904 ≤ b ∧ b ≤ 4611686018427387904) : lI a < lI b ↔ a < b := by rw [Int64.lt_iff_toInt_lt, lI_T ha, lI_T hb]
theorem lI_le {a b : Int} (ha : -4611686018427387904 ≤ a ∧ a ≤ 4611686018427387904) (hb : -4611686018427387904 ≤ b ∧ b ≤ 4611686018427387904) : lI a ≤ lI b ↔ a ≤ b := by rw [Int64.le_iff_toInt_le, lI_T ha, lI_T hb]
theorem lI_eq {a b : Int} (ha : -4611686018427387904 ≤ a ∧ a ≤ 4611686018427387904) (hb : -4611686018427387904 ≤ b ∧ b ≤ 4611686018427387904) : lI a = lI b ↔ a = b := by
  constructor
  · intro h
    have := congrArg Int64.toInt h
    rw [lI_T ha, lI_T hb] at this
    exact this
  · intro h; rw [h]
theorem lI_div {a b : Int} (ha : bd a) (hb : bd b) : lI a / lI b = lI (a.tdiv b) := (Int64.ofInt_tdiv (by show (-9223372036854775808 : Int) ≤ a; omega) (by show a ≤ (9223372036854775807 : Int); omega) (by show (-9223372036854775808 : Int) ≤ b; omega) (by show b ≤ (9223372036854775807 : Int); omega)).symm
theorem lI_rem {a b : Int} (ha : bd a) (hb : bd b) : lI a - lI a / lI b * lI b = lI (a.tmod b) := by
  rw [lI_div ha hb, lI_mul, lI_sub]
  congr 1
  have := Int.tmod_add_mul_tdiv a b
  rw [Int.mul_comm] at this
  omega
theorem bd_mul {a b : Int} (ha : bd a) (hb : bd b) : -2000000000000000000 ≤ a * b ∧ a * b ≤ 2000000000000000000 := by
  have h1 : a.natAbs ≤ 1000000001 := by omega
  have h2 : b.natAbs ≤ 1000000001 := by omega
  have h3 := Nat.mul_le_mul h1 h2
  rw [← Int.natAbs_mul] at h3
  omega
theorem bd_div {a b : Int} (ha : bd a) : -2000000000000000000 ≤ a.tdiv b ∧ a.tdiv b ≤ 2000000000000000000 := by
  have h1 : (a.tdiv b).natAbs ≤ a.natAbs := by rw [Int.natAbs_tdiv]; exact Nat.div_le_self _ _
  omega
theorem bd_mod {a b : Int} (ha : bd a) : -2000000000000000000 ≤ a.tmod b ∧ a.tmod b ≤ 2000000000000000000 := by
  have h1 : (a.tmod b).natAbs ≤ a.natAbs := by rw [Int.natAbs_tmod]; exact Nat.mod_le _ _
  omega
theorem chk_y {v : Int} (h : -1000000000 ≤ v ∧ v ≤ 1000000000) : chk v = some v := if_pos h
theorem chk_n {v : Int} (h : ¬ (-1000000000 ≤ v ∧ v ≤ 1000000000)) : chk v = none := if_neg h
theorem in_chk {z : Int} (h : -2000000000000000000 ≤ z ∧ z ≤ 2000000000000000000) : ((-1000000000 : Int64) ≤ lI z ∧ lI z ≤ lN 1000000000) ↔ (-1000000000 ≤ z ∧ z ≤ 1000000000) := by
  rw [show (-1000000000 : Int64) = lI (-1000000000) from rfl, lI_nat, lI_le (by omega) (by omega), lI_le (by omega) (by omega)]
  exact Iff.rfl
theorem nI_dec (n : Nat) : nI (n + 1) + Int32.ofInt (-1) = nI n := by
  have := m1_nI n
  rw [Int32.sub_eq_add_neg] at this
  exact this
theorem sI_sf (w : Mem) (o k : Nat) : sI w o k (rI w o k) = w := by
  rw [sI_eq w]
  refine (congrArg (sA w o) ?_).trans (sA_self w o)
  funext j
  rw [upd_eq]
  split
  · rename_i h; rw [h]
  · rfl
def RkP (o : Nat) (u v : Int) (w : Mem) (r : Option Value) (w2 : Mem) : Prop := ∃ (z : Int) (e : Nat), r = some (.long (lI z)) ∧ w2 = sI w 89 38 (nI e) ∧ e < 2 ∧ ((e = 1 ∧ comb o u v = none) ∨ (e = 0 ∧ chk z = comb o u v ∧ -2000000000000000000 ≤ z ∧ z ≤ 2000000000000000000))
theorem rk_c {o : Nat} {u v z : Int} {w : Mem} (hb : rI w 89 38 = nI 0) (h : chk z = comb o u v) (hz : -2000000000000000000 ≤ z ∧ z ≤ 2000000000000000000) : RkP o u v w (some (.long (lI z))) w := ⟨z, 0, rfl, by rw [← hb, sI_sf], by decide, Or.inr ⟨rfl, h, hz⟩⟩
theorem rk_d {o : Nat} {u v z : Int} {w : Mem} (h : chk z = comb o u v) (hz : -2000000000000000000 ≤ z ∧ z ≤ 2000000000000000000) : RkP o u v w (some (.long (lI z))) (sI w 89 38 (nI 0)) := ⟨z, 0, rfl, rfl, by decide, Or.inr ⟨rfl, h, hz⟩⟩
theorem rk_n {o : Nat} {u v : Int} {w : Mem} (h : comb o u v = none) : RkP o u v w (some (.long (lN 0))) (sI w 89 38 (nI 1)) := ⟨0, 1, rfl, rfl, by decide, Or.inl ⟨rfl, h⟩⟩
theorem rk_0 {o : Nat} {u v : Int} {w : Mem} (hb : rI w 89 38 = nI 0) (h : some 0 = comb o u v) : RkP o u v w (some (.long (lN 0))) w := rk_c (z := 0) hb h (by omega)
theorem rk_1 {o : Nat} {u v : Int} {w : Mem} (hb : rI w 89 38 = nI 0) (h : some 1 = comb o u v) : RkP o u v w (some (.long (lN 1))) w := rk_c (z := 1) hb h (by omega)
theorem cb25y {u v : Int} (h : u < v) : some 1 = comb 25 u v := congrArg some (if_pos h).symm
theorem cb25n {u v : Int} (h : ¬ u < v) : some 0 = comb 25 u v := congrArg some (if_neg h).symm
theorem cb26y {u v : Int} (h : v < u) : some 1 = comb 26 u v := congrArg some (if_pos h).symm
theorem cb26n {u v : Int} (h : ¬ v < u) : some 0 = comb 26 u v := congrArg some (if_neg h).symm
theorem cb27y {u v : Int} (h : u = v) : some 1 = comb 27 u v := congrArg some (if_pos h).symm
theorem cb27n {u v : Int} (h : ¬ u = v) : some 0 = comb 27 u v := congrArg some (if_neg h).symm
theorem c_M_reckon {E : EV} {w : Mem} {o : Nat} {u v : Int} (ho1 : 20 ≤ o) (ho2 : o < 28) (hu : bd u) (hv : bd v) (hb : rI w 89 38 = nI 0) : T E m_M_reckon 0 0 0 [.ref 89, .int (nI o), .long (lI u), .long (lI v)] w (RkP o u v w) := by
  refine T_of (L := [.ref 89, .int (nI o), .long (lI u), un, .long (lI v), un]) cf_M_reckon rfl (Nat.le_of_ble_eq_true rfl) (fun X hX hF => ?_)
  refine g_iload1 hX d_M_reckon_0 ?_
  by_cases c0_20 : (nI o) = 20
  · refine g_tableIn (off := 43) (tgt := 44) hX d_M_reckon_1 (by rw [c0_20]; decide) (by rw [c0_20]; decide) (by rw [c0_20]; rfl) rfl ?_
    have ho : o = 20 := nI_inj (by omega) (by decide) c0_20
    subst ho
    refine g_lload2 hX d_M_reckon_44 ?_
    refine g_lload4 hX d_M_reckon_45 ?_
    refine g_ladd hX d_M_reckon_47 ?_
    refine g_topl (lI_add u v) ?_
    refine g_lret hX hF d_M_reckon_48 (by omega) (by omega) ?_
    exact rk_c hb rfl (by omega)
  by_cases c0_21 : (nI o) = 21
  · refine g_tableIn (off := 48) (tgt := 49) hX d_M_reckon_1 (by rw [c0_21]; decide) (by rw [c0_21]; decide) (by rw [c0_21]; rfl) rfl ?_
    have ho : o = 21 := nI_inj (by omega) (by decide) c0_21
    subst ho
    refine g_lload2 hX d_M_reckon_49 ?_
    refine g_lload4 hX d_M_reckon_50 ?_
    refine g_lsub hX d_M_reckon_52 ?_
    refine g_topl (lI_sub u v) ?_
    refine g_lret hX hF d_M_reckon_53 (by omega) (by omega) ?_
    exact rk_c hb rfl (by omega)
  by_cases c0_22 : (nI o) = 22
  · refine g_tableIn (off := 53) (tgt := 54) hX d_M_reckon_1 (by rw [c0_22]; decide) (by rw [c0_22]; decide) (by rw [c0_22]; rfl) rfl ?_
    have ho : o = 22 := nI_inj (by omega) (by decide) c0_22
    subst ho
    refine g_lload2 hX d_M_reckon_54 ?_
    refine g_lload4 hX d_M_reckon_55 ?_
    refine g_lmul hX d_M_reckon_57 ?_
    refine g_topl (lI_mul u v) ?_
    refine g_lret hX hF d_M_reckon_58 (by omega) (by omega) ?_
    exact rk_c hb rfl (bd_mul hu hv)
  by_cases c0_23 : (nI o) = 23
  · refine g_tableIn (off := 58) (tgt := 59) hX d_M_reckon_1 (by rw [c0_23]; decide) (by rw [c0_23]; decide) (by rw [c0_23]; rfl) rfl ?_
    have ho : o = 23 := nI_inj (by omega) (by decide) c0_23
    subst ho
    by_cases hv0 : v = 0
    · refine g_aload0 hX d_M_reckon_59 ?_
      refine g_lload4 hX d_M_reckon_60 ?_
      refine g_lconst (v := lN 0) hX d_M_reckon_62 rfl ?_
      refine g_lcmp_ne hX d_M_reckon_63 d_M_reckon_64 (fun h => absurd (show lI v = lN 0 by rw [hv0]; rfl) h) (fun c0 => ?_)
      refine g_iconst (v := nI 1) hX d_M_reckon_67 rfl ?_
      refine g_goto hX d_M_reckon_68 ?_
      refine g_putZ hX d_M_reckon_72 fl_M_409 (lv_89 _) (by first | exact Or.inl rfl | exact Or.inr rfl) ?_
      refine g_aload0 hX d_M_reckon_75 ?_
      refine g_getZ hX d_M_reckon_76 fl_M_409 (lv_89 _) ?_
      refine g_topi (show rI (sI w 89 38 (nI 1)) 89 38 = nI 1 by rw [rI_sI, upd_eq, if_pos rfl]) ?_
      refine g_if_eq hX d_M_reckon_79 (fun h => absurd h (by decide)) (fun c1 => ?_)
      refine g_lconst (v := lN 0) hX d_M_reckon_82 rfl ?_
      refine g_goto hX d_M_reckon_83 ?_
      refine g_lret hX hF d_M_reckon_90 (by omega) (by omega) ?_
      exact rk_n (show (if v = 0 then none else _) = none from if_pos hv0)
    · refine g_aload0 hX d_M_reckon_59 ?_
      refine g_lload4 hX d_M_reckon_60 ?_
      refine g_lconst (v := lN 0) hX d_M_reckon_62 rfl ?_
      refine g_lcmp_ne hX d_M_reckon_63 d_M_reckon_64 (fun c0 => ?_) (fun h => absurd h (fun q : lI v = lN 0 => hv0 ((lI_eq (a := v) (b := 0) (by omega) (by omega)).mp q)))
      refine g_iconst (v := nI 0) hX d_M_reckon_71 rfl ?_
      refine g_putZ hX d_M_reckon_72 fl_M_409 (lv_89 _) (by first | exact Or.inl rfl | exact Or.inr rfl) ?_
      refine g_aload0 hX d_M_reckon_75 ?_
      refine g_getZ hX d_M_reckon_76 fl_M_409 (lv_89 _) ?_
      refine g_topi (show rI (sI w 89 38 (nI 0)) 89 38 = nI 0 by rw [rI_sI, upd_eq, if_pos rfl]) ?_
      refine g_if_eq hX d_M_reckon_79 (fun c1 => ?_) (fun h => absurd rfl h)
      refine g_lload2 hX d_M_reckon_86 ?_
      refine g_lload4 hX d_M_reckon_87 ?_
      refine g_ldiv hX d_M_reckon_89 (fun q => hv0 ((lI_eq (a := v) (b := 0) (by omega) (by omega)).mp q)) ?_
      refine g_topl (lI_div hu hv) ?_
      refine g_lret hX hF d_M_reckon_90 (by omega) (by omega) ?_
      exact rk_d (show _ = (if v = 0 then none else _) from (if_neg hv0).symm) (bd_div hu)
  by_cases c0_24 : (nI o) = 24
  · refine g_tableIn (off := 90) (tgt := 91) hX d_M_reckon_1 (by rw [c0_24]; decide) (by rw [c0_24]; decide) (by rw [c0_24]; rfl) rfl ?_
    have ho : o = 24 := nI_inj (by omega) (by decide) c0_24
    subst ho
    by_cases hv0 : v = 0
    · refine g_aload0 hX d_M_reckon_91 ?_
      refine g_lload4 hX d_M_reckon_92 ?_
      refine g_lconst (v := lN 0) hX d_M_reckon_94 rfl ?_
      refine g_lcmp_ne hX d_M_reckon_95 d_M_reckon_96 (fun h => absurd (show lI v = lN 0 by rw [hv0]; rfl) h) (fun c0 => ?_)
      refine g_iconst (v := nI 1) hX d_M_reckon_99 rfl ?_
      refine g_goto hX d_M_reckon_100 ?_
      refine g_putZ hX d_M_reckon_104 fl_M_409 (lv_89 _) (by first | exact Or.inl rfl | exact Or.inr rfl) ?_
      refine g_aload0 hX d_M_reckon_107 ?_
      refine g_getZ hX d_M_reckon_108 fl_M_409 (lv_89 _) ?_
      refine g_topi (show rI (sI w 89 38 (nI 1)) 89 38 = nI 1 by rw [rI_sI, upd_eq, if_pos rfl]) ?_
      refine g_if_eq hX d_M_reckon_111 (fun h => absurd h (by decide)) (fun c1 => ?_)
      refine g_lconst (v := lN 0) hX d_M_reckon_114 rfl ?_
      refine g_goto hX d_M_reckon_115 ?_
      refine g_lret hX hF d_M_reckon_122 (by omega) (by omega) ?_
      exact rk_n (show (if v = 0 then none else _) = none from if_pos hv0)
    · refine g_aload0 hX d_M_reckon_91 ?_
      refine g_lload4 hX d_M_reckon_92 ?_
      refine g_lconst (v := lN 0) hX d_M_reckon_94 rfl ?_
      refine g_lcmp_ne hX d_M_reckon_95 d_M_reckon_96 (fun c0 => ?_) (fun h => absurd h (fun q : lI v = lN 0 => hv0 ((lI_eq (a := v) (b := 0) (by omega) (by omega)).mp q)))
      refine g_iconst (v := nI 0) hX d_M_reckon_103 rfl ?_
      refine g_putZ hX d_M_reckon_104 fl_M_409 (lv_89 _) (by first | exact Or.inl rfl | exact Or.inr rfl) ?_
      refine g_aload0 hX d_M_reckon_107 ?_
      refine g_getZ hX d_M_reckon_108 fl_M_409 (lv_89 _) ?_
      refine g_topi (show rI (sI w 89 38 (nI 0)) 89 38 = nI 0 by rw [rI_sI, upd_eq, if_pos rfl]) ?_
      refine g_if_eq hX d_M_reckon_111 (fun c1 => ?_) (fun h => absurd rfl h)
      refine g_lload2 hX d_M_reckon_118 ?_
      refine g_lload4 hX d_M_reckon_119 ?_
      refine g_lrem hX d_M_reckon_121 (fun q => hv0 ((lI_eq (a := v) (b := 0) (by omega) (by omega)).mp q)) ?_
      refine g_topl (lI_rem hu hv) ?_
      refine g_lret hX hF d_M_reckon_122 (by omega) (by omega) ?_
      exact rk_d (show _ = (if v = 0 then none else _) from (if_neg hv0).symm) (bd_mod hu)
  by_cases c0_25 : (nI o) = 25
  · refine g_tableIn (off := 122) (tgt := 123) hX d_M_reckon_1 (by rw [c0_25]; decide) (by rw [c0_25]; decide) (by rw [c0_25]; rfl) rfl ?_
    have ho : o = 25 := nI_inj (by omega) (by decide) c0_25
    subst ho
    refine g_lload2 hX d_M_reckon_123 ?_
    refine g_lload4 hX d_M_reckon_124 ?_
    refine g_lcmp_ge hX d_M_reckon_126 d_M_reckon_127 (fun e25 => ?_) (fun e25 => ?_)
    · refine g_lconst (v := lN 0) hX d_M_reckon_134 rfl ?_
      refine g_lret hX hF d_M_reckon_135 (by omega) (by omega) ?_
      rw [lI_le (by omega) (by omega)] at e25
      first
        | exact rk_1 hb (cb25y (by omega))
        | exact rk_0 hb (cb25n (by omega))
    · refine g_lconst (v := lN 1) hX d_M_reckon_130 rfl ?_
      refine g_goto hX d_M_reckon_131 ?_
      refine g_lret hX hF d_M_reckon_135 (by omega) (by omega) ?_
      rw [lI_le (by omega) (by omega)] at e25
      first
        | exact rk_1 hb (cb25y (by omega))
        | exact rk_0 hb (cb25n (by omega))
  by_cases c0_26 : (nI o) = 26
  · refine g_tableIn (off := 135) (tgt := 136) hX d_M_reckon_1 (by rw [c0_26]; decide) (by rw [c0_26]; decide) (by rw [c0_26]; rfl) rfl ?_
    have ho : o = 26 := nI_inj (by omega) (by decide) c0_26
    subst ho
    refine g_lload2 hX d_M_reckon_136 ?_
    refine g_lload4 hX d_M_reckon_137 ?_
    refine g_lcmp_le hX d_M_reckon_139 d_M_reckon_140 (fun e26 => ?_) (fun e26 => ?_)
    · refine g_lconst (v := lN 0) hX d_M_reckon_147 rfl ?_
      refine g_lret hX hF d_M_reckon_148 (by omega) (by omega) ?_
      rw [lI_le (by omega) (by omega)] at e26
      first
        | exact rk_1 hb (cb26y (by omega))
        | exact rk_0 hb (cb26n (by omega))
    · refine g_lconst (v := lN 1) hX d_M_reckon_143 rfl ?_
      refine g_goto hX d_M_reckon_144 ?_
      refine g_lret hX hF d_M_reckon_148 (by omega) (by omega) ?_
      rw [lI_le (by omega) (by omega)] at e26
      first
        | exact rk_1 hb (cb26y (by omega))
        | exact rk_0 hb (cb26n (by omega))
  refine g_tableOut (tgt := 149) hX d_M_reckon_1 (sw_outR (lo := 20) (hi := 26) (by decide) (by intro k hk1 hk2; rcases (show k = 20 ∨ k = 21 ∨ k = 22 ∨ k = 23 ∨ k = 24 ∨ k = 25 ∨ k = 26 by omega) with rfl | rfl | rfl | rfl | rfl | rfl | rfl <;> first | exact c0_20 | exact c0_21 | exact c0_22 | exact c0_23 | exact c0_24 | exact c0_25 | exact c0_26)) rfl ?_
  have ho : o = 27 := by
    have n1 : ∀ j, nI o ≠ nI j → o ≠ j := fun j h1 h2 => h1 (by rw [h2])
    have h20 := n1 20 c0_20
    have h21 := n1 21 c0_21
    have h22 := n1 22 c0_22
    have h23 := n1 23 c0_23
    have h24 := n1 24 c0_24
    have h25 := n1 25 c0_25
    have h26 := n1 26 c0_26
    omega
  subst ho
  refine g_lload2 hX d_M_reckon_149 ?_
  refine g_lload4 hX d_M_reckon_150 ?_
  refine g_lcmp_ne hX d_M_reckon_152 d_M_reckon_153 (fun e27 => ?_) (fun e27 => ?_)
  · refine g_lconst (v := lN 0) hX d_M_reckon_160 rfl ?_
    refine g_lret hX hF d_M_reckon_161 (by omega) (by omega) ?_
    rw [lI_eq (by omega) (by omega)] at e27
    first
      | exact rk_1 hb (cb27y (by omega))
      | exact rk_0 hb (cb27n (by omega))
  · refine g_lconst (v := lN 1) hX d_M_reckon_156 rfl ?_
    refine g_goto hX d_M_reckon_157 ?_
    refine g_lret hX hF d_M_reckon_161 (by omega) (by omega) ?_
    rw [lI_eq (by omega) (by omega)] at e27
    first
      | exact rk_1 hb (cb27y (by omega))
      | exact rk_0 hb (cb27n (by omega))
