def m_M_fewestThen : MR := (⟨"SubgraphDeskModel", "fewestThen", "()I"⟩, prog_14_method_105_code, 6, (some .int))
theorem cf_M_fewestThen : CF m_M_fewestThen 0 := ⟨gd 2112 (by decide +kernel) rfl, gd 151 (by decide +kernel) rfl, by decide +kernel, by decide, by decide +kernel⟩
theorem cv_M_fewestThen : CV m_M_fewestThen := ⟨gd 2111 (by decide +kernel) rfl, gd 122 (by decide +kernel) rfl⟩
def m_M_fitsThose : MR := (⟨"SubgraphDeskModel", "fitsThose", "(II)Z"⟩, prog_14_method_104_code, 5, (some .boolean))
theorem cf_M_fitsThose : CF m_M_fitsThose 2 := ⟨gd 2116 (by decide +kernel) rfl, gd 151 (by decide +kernel) rfl, by decide +kernel, by decide, by decide +kernel⟩
theorem cv_M_fitsThose : CV m_M_fitsThose := ⟨gd 2115 (by decide +kernel) rfl, gd 123 (by decide +kernel) rfl⟩
theorem d_M_fewestThen_0 : Dc prog_14_method_105_code 0 (.iconst (-1)) 1 1 := ⟨by decide +kernel, rfl⟩
theorem d_M_fewestThen_1 : Dc prog_14_method_105_code 1 (.istore_n 1) 1 2 := ⟨by decide +kernel, rfl⟩
theorem d_M_fewestThen_2 : Dc prog_14_method_105_code 2 (.ldc_w 498) 3 5 := ⟨by decide +kernel, rfl⟩
theorem d_M_fewestThen_5 : Dc prog_14_method_105_code 5 (.istore_n 2) 1 6 := ⟨by decide +kernel, rfl⟩
theorem d_M_fewestThen_6 : Dc prog_14_method_105_code 6 (.iconst 0) 1 7 := ⟨by decide +kernel, rfl⟩
theorem d_M_fewestThen_7 : Dc prog_14_method_105_code 7 (.istore_n 3) 1 8 := ⟨by decide +kernel, rfl⟩
theorem d_M_fewestThen_8 : Dc prog_14_method_105_code 8 (.iload_n 3) 1 9 := ⟨by decide +kernel, rfl⟩
theorem d_M_fewestThen_9 : Dc prog_14_method_105_code 9 (.aload_n 0) 1 10 := ⟨by decide +kernel, rfl⟩
theorem d_M_fewestThen_10 : Dc prog_14_method_105_code 10 (.getfield 13) 3 13 := ⟨by decide +kernel, rfl⟩
theorem d_M_fewestThen_13 : Dc prog_14_method_105_code 13 (.iconst 1) 1 14 := ⟨by decide +kernel, rfl⟩
theorem d_M_fewestThen_14 : Dc prog_14_method_105_code 14 (.iaload) 1 15 := ⟨by decide +kernel, rfl⟩
theorem d_M_fewestThen_15 : Dj prog_14_method_105_code 15 (.if_icmp .ge 88) 18 88 103 := ⟨by decide +kernel, rfl, rfl⟩
theorem d_M_fewestThen_18 : Dc prog_14_method_105_code 18 (.aload_n 0) 1 19 := ⟨by decide +kernel, rfl⟩
theorem d_M_fewestThen_19 : Dc prog_14_method_105_code 19 (.getfield 514) 3 22 := ⟨by decide +kernel, rfl⟩
theorem d_M_fewestThen_22 : Dc prog_14_method_105_code 22 (.iload_n 3) 1 23 := ⟨by decide +kernel, rfl⟩
theorem d_M_fewestThen_23 : Dc prog_14_method_105_code 23 (.invokestatic 468) 3 26 := ⟨by decide +kernel, rfl⟩
theorem d_M_fewestThen_26 : Dj prog_14_method_105_code 26 (.ifCond .ne 71) 29 71 97 := ⟨by decide +kernel, rfl, rfl⟩
theorem d_M_fewestThen_29 : Dc prog_14_method_105_code 29 (.iconst 0) 1 30 := ⟨by decide +kernel, rfl⟩
theorem d_M_fewestThen_30 : Dc prog_14_method_105_code 30 (.istore 4) 2 32 := ⟨by decide +kernel, rfl⟩
theorem d_M_fewestThen_32 : Dc prog_14_method_105_code 32 (.iconst 0) 1 33 := ⟨by decide +kernel, rfl⟩
theorem d_M_fewestThen_33 : Dc prog_14_method_105_code 33 (.istore 5) 2 35 := ⟨by decide +kernel, rfl⟩
theorem d_M_fewestThen_35 : Dc prog_14_method_105_code 35 (.iload 5) 2 37 := ⟨by decide +kernel, rfl⟩
theorem d_M_fewestThen_37 : Dc prog_14_method_105_code 37 (.aload_n 0) 1 38 := ⟨by decide +kernel, rfl⟩
theorem d_M_fewestThen_38 : Dc prog_14_method_105_code 38 (.getfield 13) 3 41 := ⟨by decide +kernel, rfl⟩
theorem d_M_fewestThen_41 : Dc prog_14_method_105_code 41 (.iconst 0) 1 42 := ⟨by decide +kernel, rfl⟩
theorem d_M_fewestThen_42 : Dc prog_14_method_105_code 42 (.iaload) 1 43 := ⟨by decide +kernel, rfl⟩
theorem d_M_fewestThen_43 : Dj prog_14_method_105_code 43 (.if_icmp .ge 29) 46 29 72 := ⟨by decide +kernel, rfl, rfl⟩
theorem d_M_fewestThen_46 : Dc prog_14_method_105_code 46 (.iload 4) 2 48 := ⟨by decide +kernel, rfl⟩
theorem d_M_fewestThen_48 : Dc prog_14_method_105_code 48 (.aload_n 0) 1 49 := ⟨by decide +kernel, rfl⟩
theorem d_M_fewestThen_49 : Dc prog_14_method_105_code 49 (.iload_n 3) 1 50 := ⟨by decide +kernel, rfl⟩
theorem d_M_fewestThen_50 : Dc prog_14_method_105_code 50 (.iload 5) 2 52 := ⟨by decide +kernel, rfl⟩
theorem d_M_fewestThen_52 : Dc prog_14_method_105_code 52 (.invokevirtual 517) 3 55 := ⟨by decide +kernel, rfl⟩
theorem d_M_fewestThen_55 : Dj prog_14_method_105_code 55 (.ifCond .eq 7) 58 7 62 := ⟨by decide +kernel, rfl, rfl⟩
theorem d_M_fewestThen_58 : Dc prog_14_method_105_code 58 (.iconst 1) 1 59 := ⟨by decide +kernel, rfl⟩
theorem d_M_fewestThen_59 : Dj prog_14_method_105_code 59 (.goto 4) 62 4 63 := ⟨by decide +kernel, rfl, rfl⟩
theorem d_M_fewestThen_62 : Dc prog_14_method_105_code 62 (.iconst 0) 1 63 := ⟨by decide +kernel, rfl⟩
theorem d_M_fewestThen_63 : Dc prog_14_method_105_code 63 (.iadd) 1 64 := ⟨by decide +kernel, rfl⟩
theorem d_M_fewestThen_64 : Dc prog_14_method_105_code 64 (.istore 4) 2 66 := ⟨by decide +kernel, rfl⟩
theorem d_M_fewestThen_66 : Dc prog_14_method_105_code 66 (.iinc 5 1) 3 69 := ⟨by decide +kernel, rfl⟩
theorem d_M_fewestThen_69 : Dj prog_14_method_105_code 69 (.goto (-34)) 72 (-34) 35 := ⟨by decide +kernel, rfl, rfl⟩
theorem d_M_fewestThen_72 : Dc prog_14_method_105_code 72 (.iload 4) 2 74 := ⟨by decide +kernel, rfl⟩
theorem d_M_fewestThen_74 : Dc prog_14_method_105_code 74 (.iload_n 2) 1 75 := ⟨by decide +kernel, rfl⟩
theorem d_M_fewestThen_75 : Dj prog_14_method_105_code 75 (.if_icmp .ge 7) 78 7 82 := ⟨by decide +kernel, rfl, rfl⟩
theorem d_M_fewestThen_78 : Dc prog_14_method_105_code 78 (.iload_n 3) 1 79 := ⟨by decide +kernel, rfl⟩
theorem d_M_fewestThen_79 : Dj prog_14_method_105_code 79 (.goto 4) 82 4 83 := ⟨by decide +kernel, rfl, rfl⟩
theorem d_M_fewestThen_82 : Dc prog_14_method_105_code 82 (.iload_n 1) 1 83 := ⟨by decide +kernel, rfl⟩
theorem d_M_fewestThen_83 : Dc prog_14_method_105_code 83 (.istore_n 1) 1 84 := ⟨by decide +kernel, rfl⟩
theorem d_M_fewestThen_84 : Dc prog_14_method_105_code 84 (.iload 4) 2 86 := ⟨by decide +kernel, rfl⟩
theorem d_M_fewestThen_86 : Dc prog_14_method_105_code 86 (.iload_n 2) 1 87 := ⟨by decide +kernel, rfl⟩
theorem d_M_fewestThen_87 : Dj prog_14_method_105_code 87 (.if_icmp .ge 8) 90 8 95 := ⟨by decide +kernel, rfl, rfl⟩
theorem d_M_fewestThen_90 : Dc prog_14_method_105_code 90 (.iload 4) 2 92 := ⟨by decide +kernel, rfl⟩
theorem d_M_fewestThen_92 : Dj prog_14_method_105_code 92 (.goto 4) 95 4 96 := ⟨by decide +kernel, rfl, rfl⟩
theorem d_M_fewestThen_95 : Dc prog_14_method_105_code 95 (.iload_n 2) 1 96 := ⟨by decide +kernel, rfl⟩
theorem d_M_fewestThen_96 : Dc prog_14_method_105_code 96 (.istore_n 2) 1 97 := ⟨by decide +kernel, rfl⟩
theorem d_M_fewestThen_97 : Dc prog_14_method_105_code 97 (.iinc 3 1) 3 100 := ⟨by decide +kernel, rfl⟩
theorem d_M_fewestThen_100 : Dj prog_14_method_105_code 100 (.goto (-92)) 103 (-92) 8 := ⟨by decide +kernel, rfl, rfl⟩
theorem d_M_fewestThen_103 : Dc prog_14_method_105_code 103 (.iload_n 1) 1 104 := ⟨by decide +kernel, rfl⟩
theorem d_M_fewestThen_104 : Dc prog_14_method_105_code 104 (.ireturn) 1 105 := ⟨by decide +kernel, rfl⟩
theorem d_M_fitsThose_0 : Dc prog_14_method_104_code 0 (.aload_n 0) 1 1 := ⟨by decide +kernel, rfl⟩
theorem d_M_fitsThose_1 : Dc prog_14_method_104_code 1 (.getfield 123) 3 4 := ⟨by decide +kernel, rfl⟩
theorem d_M_fitsThose_4 : Dc prog_14_method_104_code 4 (.iload_n 1) 1 5 := ⟨by decide +kernel, rfl⟩
theorem d_M_fitsThose_5 : Dc prog_14_method_104_code 5 (.iaload) 1 6 := ⟨by decide +kernel, rfl⟩
theorem d_M_fitsThose_6 : Dc prog_14_method_104_code 6 (.iload_n 2) 1 7 := ⟨by decide +kernel, rfl⟩
theorem d_M_fitsThose_7 : Dc prog_14_method_104_code 7 (.invokestatic 468) 3 10 := ⟨by decide +kernel, rfl⟩
theorem d_M_fitsThose_10 : Dc prog_14_method_104_code 10 (.istore_n 3) 1 11 := ⟨by decide +kernel, rfl⟩
theorem d_M_fitsThose_11 : Dc prog_14_method_104_code 11 (.iconst 0) 1 12 := ⟨by decide +kernel, rfl⟩
theorem d_M_fitsThose_12 : Dc prog_14_method_104_code 12 (.istore 4) 2 14 := ⟨by decide +kernel, rfl⟩
theorem d_M_fitsThose_14 : Dc prog_14_method_104_code 14 (.iload 4) 2 16 := ⟨by decide +kernel, rfl⟩
theorem d_M_fitsThose_16 : Dc prog_14_method_104_code 16 (.aload_n 0) 1 17 := ⟨by decide +kernel, rfl⟩
theorem d_M_fitsThose_17 : Dc prog_14_method_104_code 17 (.getfield 13) 3 20 := ⟨by decide +kernel, rfl⟩
theorem d_M_fitsThose_20 : Dc prog_14_method_104_code 20 (.iconst 1) 1 21 := ⟨by decide +kernel, rfl⟩
theorem d_M_fitsThose_21 : Dc prog_14_method_104_code 21 (.iaload) 1 22 := ⟨by decide +kernel, rfl⟩
theorem d_M_fitsThose_22 : Dj prog_14_method_104_code 22 (.if_icmp .ge 84) 25 84 106 := ⟨by decide +kernel, rfl, rfl⟩
theorem d_M_fitsThose_25 : Dc prog_14_method_104_code 25 (.iload_n 3) 1 26 := ⟨by decide +kernel, rfl⟩
theorem d_M_fitsThose_26 : Dj prog_14_method_104_code 26 (.ifCond .eq 80) 29 80 106 := ⟨by decide +kernel, rfl, rfl⟩
theorem d_M_fitsThose_29 : Dc prog_14_method_104_code 29 (.aload_n 0) 1 30 := ⟨by decide +kernel, rfl⟩
theorem d_M_fitsThose_30 : Dc prog_14_method_104_code 30 (.getfield 514) 3 33 := ⟨by decide +kernel, rfl⟩
theorem d_M_fitsThose_33 : Dc prog_14_method_104_code 33 (.iload 4) 2 35 := ⟨by decide +kernel, rfl⟩
theorem d_M_fitsThose_35 : Dc prog_14_method_104_code 35 (.invokestatic 468) 3 38 := ⟨by decide +kernel, rfl⟩
theorem d_M_fitsThose_38 : Dj prog_14_method_104_code 38 (.ifCond .eq 56) 41 56 94 := ⟨by decide +kernel, rfl, rfl⟩
theorem d_M_fitsThose_41 : Dc prog_14_method_104_code 41 (.iload 4) 2 43 := ⟨by decide +kernel, rfl⟩
theorem d_M_fitsThose_43 : Dc prog_14_method_104_code 43 (.iload_n 1) 1 44 := ⟨by decide +kernel, rfl⟩
theorem d_M_fitsThose_44 : Dj prog_14_method_104_code 44 (.if_icmp .eq 50) 47 50 94 := ⟨by decide +kernel, rfl, rfl⟩
theorem d_M_fitsThose_47 : Dc prog_14_method_104_code 47 (.aload_n 0) 1 48 := ⟨by decide +kernel, rfl⟩
theorem d_M_fitsThose_48 : Dc prog_14_method_104_code 48 (.getfield 111) 3 51 := ⟨by decide +kernel, rfl⟩
theorem d_M_fitsThose_51 : Dc prog_14_method_104_code 51 (.iload 4) 2 53 := ⟨by decide +kernel, rfl⟩
theorem d_M_fitsThose_53 : Dc prog_14_method_104_code 53 (.iaload) 1 54 := ⟨by decide +kernel, rfl⟩
theorem d_M_fitsThose_54 : Dc prog_14_method_104_code 54 (.iload_n 2) 1 55 := ⟨by decide +kernel, rfl⟩
theorem d_M_fitsThose_55 : Dj prog_14_method_104_code 55 (.if_icmp .eq 43) 58 43 98 := ⟨by decide +kernel, rfl, rfl⟩
theorem d_M_fitsThose_58 : Dc prog_14_method_104_code 58 (.aload_n 0) 1 59 := ⟨by decide +kernel, rfl⟩
theorem d_M_fitsThose_59 : Dc prog_14_method_104_code 59 (.getfield 13) 3 62 := ⟨by decide +kernel, rfl⟩
theorem d_M_fitsThose_62 : Dc prog_14_method_104_code 62 (.bipush 26) 2 64 := ⟨by decide +kernel, rfl⟩
theorem d_M_fitsThose_64 : Dc prog_14_method_104_code 64 (.iload_n 1) 1 65 := ⟨by decide +kernel, rfl⟩
theorem d_M_fitsThose_65 : Dc prog_14_method_104_code 65 (.iadd) 1 66 := ⟨by decide +kernel, rfl⟩
theorem d_M_fitsThose_66 : Dc prog_14_method_104_code 66 (.iaload) 1 67 := ⟨by decide +kernel, rfl⟩
theorem d_M_fitsThose_67 : Dc prog_14_method_104_code 67 (.iload 4) 2 69 := ⟨by decide +kernel, rfl⟩
theorem d_M_fitsThose_69 : Dc prog_14_method_104_code 69 (.invokestatic 468) 3 72 := ⟨by decide +kernel, rfl⟩
theorem d_M_fitsThose_72 : Dj prog_14_method_104_code 72 (.ifCond .eq 22) 75 22 94 := ⟨by decide +kernel, rfl, rfl⟩
theorem d_M_fitsThose_75 : Dc prog_14_method_104_code 75 (.aload_n 0) 1 76 := ⟨by decide +kernel, rfl⟩
theorem d_M_fitsThose_76 : Dc prog_14_method_104_code 76 (.getfield 102) 3 79 := ⟨by decide +kernel, rfl⟩
theorem d_M_fitsThose_79 : Dc prog_14_method_104_code 79 (.iload_n 2) 1 80 := ⟨by decide +kernel, rfl⟩
theorem d_M_fitsThose_80 : Dc prog_14_method_104_code 80 (.iaload) 1 81 := ⟨by decide +kernel, rfl⟩
theorem d_M_fitsThose_81 : Dc prog_14_method_104_code 81 (.aload_n 0) 1 82 := ⟨by decide +kernel, rfl⟩
theorem d_M_fitsThose_82 : Dc prog_14_method_104_code 82 (.getfield 111) 3 85 := ⟨by decide +kernel, rfl⟩
theorem d_M_fitsThose_85 : Dc prog_14_method_104_code 85 (.iload 4) 2 87 := ⟨by decide +kernel, rfl⟩
theorem d_M_fitsThose_87 : Dc prog_14_method_104_code 87 (.iaload) 1 88 := ⟨by decide +kernel, rfl⟩
theorem d_M_fitsThose_88 : Dc prog_14_method_104_code 88 (.invokestatic 468) 3 91 := ⟨by decide +kernel, rfl⟩
theorem d_M_fitsThose_91 : Dj prog_14_method_104_code 91 (.ifCond .eq 7) 94 7 98 := ⟨by decide +kernel, rfl, rfl⟩
theorem d_M_fitsThose_94 : Dc prog_14_method_104_code 94 (.iconst 1) 1 95 := ⟨by decide +kernel, rfl⟩
theorem d_M_fitsThose_95 : Dj prog_14_method_104_code 95 (.goto 4) 98 4 99 := ⟨by decide +kernel, rfl, rfl⟩
theorem d_M_fitsThose_98 : Dc prog_14_method_104_code 98 (.iconst 0) 1 99 := ⟨by decide +kernel, rfl⟩
theorem d_M_fitsThose_99 : Dc prog_14_method_104_code 99 (.istore_n 3) 1 100 := ⟨by decide +kernel, rfl⟩
theorem d_M_fitsThose_100 : Dc prog_14_method_104_code 100 (.iinc 4 1) 3 103 := ⟨by decide +kernel, rfl⟩
theorem d_M_fitsThose_103 : Dj prog_14_method_104_code 103 (.goto (-89)) 106 (-89) 14 := ⟨by decide +kernel, rfl, rfl⟩
theorem d_M_fitsThose_106 : Dc prog_14_method_104_code 106 (.iload_n 3) 1 107 := ⟨by decide +kernel, rfl⟩
theorem d_M_fitsThose_107 : Dc prog_14_method_104_code 107 (.ireturn) 1 108 := ⟨by decide +kernel, rfl⟩
theorem fl_M_514 : FL "SubgraphDeskModel" 514 12 53 false .int (0, 0) := ⟨R_M, F_M, 69, ty_M, rfl, rfl, in_M, tyok_M, nm_M, by decide, gd 1525 (by decide +kernel) rfl, rfl, rfl, rfl⟩
theorem ml_M_517 : Cond.methodLink "SubgraphDeskModel" 517 m_M_fitsThose.1 ∈ lw_gd := gd 2113 (by decide +kernel) rfl
/-- vertex v at node n goes with what u lies on -/
def okU (g : GC) (p : Nat → Option Nat) (v n u : Nat) : Bool := match p u with
  | none => true
  | some m => decide (u = v) || (!decide (m = n) && (!(gK g v).testBit u || (nearB (gE g) n).testBit m))
def opK (g : GC) (c : Nat → Nat) (p : Nat → Option Nat) (v n : Nat) : Nat → Bool
  | 0 => (c v).testBit n
  | u + 1 => opK g c p v n u && okU g p v n u
def openH (g : GC) (c : Nat → Nat) (p : Nat → Option Nat) (v n : Nat) : Bool := opK g c p v n (gV g)
def numH (g : GC) (c : Nat → Nat) (p : Nat → Option Nat) (v : Nat) : Nat → Nat
  | 0 => 0
  | n + 1 => numH g c p v n + (if openH g c p v n = true then 1 else 0)
/-- the vertex that does not lie and could be laid on fewest nodes, the lowest; on how many -/
def pickK (g : GC) (c : Nat → Nat) (p : Nat → Option Nat) : Nat → Option Nat × Nat
  | 0 => (none, 100000000)
  | v + 1 => if p v = none ∧ numH g c p v (gN g) < (pickK g c p v).2 then (some v, numH g c p v (gN g)) else pickK g c p v
theorem opK_no {g : GC} {c : Nat → Nat} {p : Nat → Option Nat} {v n u : Nat} (h : ¬ opK g c p v n u = true) : ∀ m, u ≤ m → ¬ opK g c p v n m = true
  | 0, hm => by
    have e : u = 0 := by omega
    rw [← e]; exact h
  | m + 1, hm => by
    by_cases e : u = m + 1
    · rw [← e]; exact h
    · unfold opK
      rw [Bool.eq_false_iff.mpr (opK_no h m (by omega)), Bool.false_and]
      decide
theorem numH_le (g : GC) (c : Nat → Nat) (p : Nat → Option Nat) (v : Nat) : ∀ n, numH g c p v n ≤ n
  | 0 => Nat.le_refl _
  | n + 1 => by
    have := numH_le g c p v n
    unfold numH
    split <;> omega
theorem pickK_le (g : GC) (c : Nat → Nat) (p : Nat → Option Nat) : ∀ v, (pickK g c p v).2 ≤ 100000000
  | 0 => Nat.le_refl _
  | v + 1 => by
    unfold pickK
    split
    · rename_i h
      have := pickK_le g c p v
      show numH g c p v (gN g) ≤ _
      omega
    · exact pickK_le g c p v
theorem pickK_lt {g : GC} {c : Nat → Nat} {p : Nat → Option Nat} {u : Nat} : ∀ v, (pickK g c p v).1 = some u → u < v ∧ p u = none
  | 0, h => by cases h
  | v + 1, h => by
    unfold pickK at h
    split at h
    · rename_i h2
      injection h with h
      rw [← h]
      exact ⟨by omega, h2.1⟩
    · have := pickK_lt v h
      exact ⟨by omega, this.2⟩
theorem pickK_some {g : GC} (hN : gN g ≤ 12) {c : Nat → Nat} {p : Nat → Option Nat} {x : Nat} (hx : p x = none) : ∀ v, x < v → ∃ u, (pickK g c p v).1 = some u
  | 0, h => absurd h (Nat.not_lt_zero _)
  | v + 1, h => by
    unfold pickK
    split
    · exact ⟨v, rfl⟩
    · rename_i h2
      by_cases e : x = v
      · cases hf : (pickK g c p v).1 with
        | some y => exact ⟨y, rfl⟩
        | none =>
          refine absurd ⟨e ▸ hx, ?_⟩ h2
          have h3 := numH_le g c p v (gN g)
          have h4 : ∀ m, (pickK g c p m).1 = none → (pickK g c p m).2 = 100000000 := by
            intro m
            induction m with
            | zero => intro _; rfl
            | succ m ih =>
              intro hm
              unfold pickK at hm ⊢
              split
              · rename_i h5
                rw [if_pos h5] at hm
                cases hm
              · rename_i h5
                rw [if_neg h5] at hm
                exact ih hm
          rw [h4 v hf]
          omega
      · exact pickK_some hN hx v (by omega)
/-- how the reference keeps what lies -/
def HunP (w : Mem) (g : GC) (p : Nat → Option Nat) (x : Nat) : Prop := rI w 89 53 = nI x ∧ x < 2 ^ 5 ∧ (∀ u, u < gV g → (x.testBit u = true ↔ p u ≠ none)) ∧ ∀ u m, u < gV g → p u = some m → rI w 113 u = nI m ∧ m < gN g
theorem opK_l {v n u : Nat} {a b : Int32} (h : a = b) : ([.ref 89, .int (nI v), .int (nI n), .int a, .int (nI (u + 1))] : List Value) = [.ref 89, .int (nI v), .int (nI n), .int b, .int (nI (u + 1))] := by rw [h]
theorem opK_t {g : GC} {c : Nat → Nat} {p : Nat → Option Nat} {v n u : Nat} (h : opK g c p v n u = true) (h2 : okU g p v n u = true) : nI 1 = b2i (opK g c p v n (u + 1) = true) := by
  rw [b2i_t (by unfold opK; rw [h, h2]; rfl)]; rfl
theorem opK_f {g : GC} {c : Nat → Nat} {p : Nat → Option Nat} {v n u : Nat} (h2 : okU g p v n u = false) : nI 0 = b2i (opK g c p v n (u + 1) = true) := by
  rw [b2i_f (by unfold opK; rw [h2, Bool.and_false]; decide)]; rfl
theorem okU_n {g : GC} {p : Nat → Option Nat} {v n u : Nat} (h : p u = none) : okU g p v n u = true := by unfold okU; rw [h]
theorem okU_v {g : GC} {p : Nat → Option Nat} {v n u : Nat} (h : u = v) : okU g p v n u = true := by
  unfold okU
  split
  · rfl
  · simp [h]
theorem okU_m {g : GC} {p : Nat → Option Nat} {v n u m : Nat} (h : p u = some m) (hv : ¬ u = v) (h2 : m = n) : okU g p v n u = false := by unfold okU; rw [h]; simp [hv, h2]
theorem okU_k {g : GC} {p : Nat → Option Nat} {v n u m : Nat} (h : p u = some m) (h2 : ¬ m = n) (h3 : ¬ (gK g v).testBit u = true) : okU g p v n u = true := by unfold okU; rw [h]; simp [h2, h3]
theorem okU_y {g : GC} {p : Nat → Option Nat} {v n u m : Nat} (h : p u = some m) (h2 : ¬ m = n) (h3 : (nearB (gE g) n).testBit m = true) : okU g p v n u = true := by unfold okU; rw [h]; simp [h2, h3]
theorem okU_z {g : GC} {p : Nat → Option Nat} {v n u m : Nat} (h : p u = some m) (hv : ¬ u = v) (h2 : (gK g v).testBit u = true) (h3 : ¬ (nearB (gE g) n).testBit m = true) : okU g p v n u = false := by unfold okU; rw [h]; simp [hv, h2, h3]
theorem num_l {v b m : Nat} {a : Int32} {x y : Nat} (h : x = y) : ([.ref 89, .int a, .int (nI b), .int (nI v), .int (nI y), .int (nI m)] : List Value) = [.ref 89, .int a, .int (nI b), .int (nI v), .int (nI x), .int (nI m)] := by rw [h]
theorem pick_l {v : Nat} {x y : Option Nat × Nat} (h : x = y) : ([.ref 89, .int (fInt y.1), .int (nI y.2), .int (nI v), un, un] : List Value) = [.ref 89, .int (fInt x.1), .int (nI x.2), .int (nI v), un, un] := by rw [h]
theorem c_M_fitsThose {E : EV} {w : Mem} {g : GC} {c : Nat → Nat} {p : Nat → Option Nat} {x : Nat} (hR : MRow (rI w 91) g) (hW : WG g) (hNr : NearP w g) (hC : CandP w g c) (hc : ∀ v, v < gV g → c v < 2 ^ 12) (hH : HunP w g p x) {v n : Nat} (hv : v < gV g) (hn : n < gN g) : T E m_M_fitsThose 1 0 0 [.ref 89, .int (nI v), .int (nI n)] w (Ret (some (.int (b2i (openH g c p v n = true)))) w) := by
  refine T_of (L := [.ref 89, .int (nI v), .int (nI n), un, un]) cf_M_fitsThose rfl (Nat.le_of_ble_eq_true rfl) (fun X hX hF => ?_)
  have hgv := hW.v
  have hgn := hW.n
  have hkv := hW.k32 hv
  have hnb := near_w hW n
  have hcv := hc v hv
  have lp : ∀ (fuel : Nat) (u : Nat), gV g - u < fuel → (u ≤ gV g) → G0 E X 0 0 14 [.ref 89, .int (nI v), .int (nI n), .int (b2i (opK g c p v n u = true)), .int (nI u)] [] w := by
    intro fuel
    induction fuel with
    | zero => intro u q0; exact absurd q0 (Nat.not_lt_zero _)
    | succ fuel ih =>
      intro u q0 q1
      refine g_iload4 hX d_M_fitsThose_14 ?_
      refine g_aload0 hX d_M_fitsThose_16 ?_
      refine g_getF hX d_M_fitsThose_17 fl_M_13 (lv_89 _) ?_
      refine g_iconst (v := nI 1) hX d_M_fitsThose_20 rfl ?_
      refine g_iald hX d_M_fitsThose_21 (lv_91 _) rfl (by decide) ?_
      refine g_topi hR.v ?_
      refine g_icmpN_ge hX d_M_fitsThose_22 (by omega) (by omega) (fun c0 => ?_) (fun c0 => ?_)
      · refine g_iload3 hX d_M_fitsThose_106 ?_
        refine g_zret hX hF d_M_fitsThose_107 (b2i_01 _) (by omega) (by omega) ?_
        exact ⟨by unfold openH; rw [show u = gV g by omega], rfl⟩
      · have hxl := hH.2.1
        have hxu := hH.2.2.1 u (by omega)
        refine g_iload3 hX d_M_fitsThose_25 ?_
        refine g_ifB_eq hX d_M_fitsThose_26 (fun e26 => ?_) (fun e26 => ?_)
        · refine g_iload3 hX d_M_fitsThose_106 ?_
          refine g_zret hX hF d_M_fitsThose_107 (b2i_01 _) (by omega) (by omega) ?_
          exact ⟨by unfold openH; rw [b2i_f e26, b2i_f (opK_no e26 _ (by omega))], rfl⟩
        · refine g_aload0 hX d_M_fitsThose_29 ?_
          refine g_getI hX d_M_fitsThose_30 fl_M_514 (lv_89 _) ?_
          refine g_topi hH.1 ?_
          refine g_iload4 hX d_M_fitsThose_33 ?_
          refine g_callS (As := [_, _]) hX hF.1 d_M_fitsThose_35 ml_M_468 cf_M_is cs_M_is rfl (c_M_is (by omega) (by omega)) (by omega) (by omega) (by omega) (Nat.le_of_ble_eq_true rfl) ?_
          refine ret_k ?_
          refine g_ifB_eq hX d_M_fitsThose_38 (fun e38 => ?_) (fun e38 => ?_)
          · refine g_iconst (v := nI 1) hX d_M_fitsThose_94 rfl ?_
            refine g_goto hX d_M_fitsThose_95 ?_
            refine g_istore3 hX d_M_fitsThose_99 rfl (by decide) ?_
            refine g_iincN4 hX d_M_fitsThose_100 rfl (by decide) ?_
            refine g_goto hX d_M_fitsThose_103 ?_
            refine g_loc (opK_l (opK_t e26 (okU_n (by by_cases z : p u = none; exact z; exact absurd (hxu.mpr z) e38)))) ?_
            exact ih (u + 1) (by omega) (by omega)
          · obtain ⟨m, hm⟩ : ∃ m, p u = some m := by
              cases hpu : p u with
              | none => exact absurd hpu (hxu.mp e38)
              | some m => exact ⟨m, rfl⟩
            obtain ⟨hlm, hmn⟩ := hH.2.2.2 u m (by omega) hm
            refine g_iload4 hX d_M_fitsThose_41 ?_
            refine g_iload1 hX d_M_fitsThose_43 ?_
            refine g_icmpN_eq hX d_M_fitsThose_44 (by omega) (by omega) (fun e44 => ?_) (fun e44 => ?_)
            · refine g_iconst (v := nI 1) hX d_M_fitsThose_94 rfl ?_
              refine g_goto hX d_M_fitsThose_95 ?_
              refine g_istore3 hX d_M_fitsThose_99 rfl (by decide) ?_
              refine g_iincN4 hX d_M_fitsThose_100 rfl (by decide) ?_
              refine g_goto hX d_M_fitsThose_103 ?_
              refine g_loc (opK_l (opK_t e26 (okU_v e44))) ?_
              exact ih (u + 1) (by omega) (by omega)
            · refine g_aload0 hX d_M_fitsThose_47 ?_
              refine g_getF hX d_M_fitsThose_48 fl_M_111 (lv_89 _) ?_
              refine g_iload4 hX d_M_fitsThose_51 ?_
              refine g_iald hX d_M_fitsThose_53 (lv_113 _) rfl (by omega) ?_
              refine g_topi hlm ?_
              refine g_iload2 hX d_M_fitsThose_54 ?_
              refine g_icmpN_eq hX d_M_fitsThose_55 (by omega) (by omega) (fun e55 => ?_) (fun e55 => ?_)
              · refine g_iconst (v := nI 0) hX d_M_fitsThose_98 rfl ?_
                refine g_istore3 hX d_M_fitsThose_99 rfl (by decide) ?_
                refine g_iincN4 hX d_M_fitsThose_100 rfl (by decide) ?_
                refine g_goto hX d_M_fitsThose_103 ?_
                refine g_loc (opK_l (opK_f (g := g) (c := c) (okU_m (g := g) hm e44 e55))) ?_
                exact ih (u + 1) (by omega) (by omega)
              · refine g_aload0 hX d_M_fitsThose_58 ?_
                refine g_getF hX d_M_fitsThose_59 fl_M_13 (lv_89 _) ?_
                refine g_bipush (v := nI 26) hX d_M_fitsThose_62 rfl ?_
                refine g_iload1 hX d_M_fitsThose_64 ?_
                refine g_iaddN hX d_M_fitsThose_65 ?_
                refine g_iald hX d_M_fitsThose_66 (lv_91 _) rfl (by omega) ?_
                refine g_topi (hR.k v hv) ?_
                refine g_iload4 hX d_M_fitsThose_67 ?_
                refine g_callS (As := [_, _]) hX hF.1 d_M_fitsThose_69 ml_M_468 cf_M_is cs_M_is rfl (c_M_is (by omega) (by omega)) (by omega) (by omega) (by omega) (Nat.le_of_ble_eq_true rfl) ?_
                refine ret_k ?_
                refine g_ifB_eq hX d_M_fitsThose_72 (fun e72 => ?_) (fun e72 => ?_)
                · refine g_iconst (v := nI 1) hX d_M_fitsThose_94 rfl ?_
                  refine g_goto hX d_M_fitsThose_95 ?_
                  refine g_istore3 hX d_M_fitsThose_99 rfl (by decide) ?_
                  refine g_iincN4 hX d_M_fitsThose_100 rfl (by decide) ?_
                  refine g_goto hX d_M_fitsThose_103 ?_
                  refine g_loc (opK_l (opK_t e26 (okU_k hm e55 e72))) ?_
                  exact ih (u + 1) (by omega) (by omega)
                · refine g_aload0 hX d_M_fitsThose_75 ?_
                  refine g_getF hX d_M_fitsThose_76 fl_M_102 (lv_89 _) ?_
                  refine g_iload2 hX d_M_fitsThose_79 ?_
                  refine g_iald hX d_M_fitsThose_80 (lv_110 _) rfl (by omega) ?_
                  refine g_topi (hNr n hn) ?_
                  refine g_aload0 hX d_M_fitsThose_81 ?_
                  refine g_getF hX d_M_fitsThose_82 fl_M_111 (lv_89 _) ?_
                  refine g_iload4 hX d_M_fitsThose_85 ?_
                  refine g_iald hX d_M_fitsThose_87 (lv_113 _) rfl (by omega) ?_
                  refine g_topi hlm ?_
                  refine g_callS (As := [_, _]) hX hF.1 d_M_fitsThose_88 ml_M_468 cf_M_is cs_M_is rfl (c_M_is (by omega) (by omega)) (by omega) (by omega) (by omega) (Nat.le_of_ble_eq_true rfl) ?_
                  refine ret_k ?_
                  refine g_ifB_eq hX d_M_fitsThose_91 (fun e91 => ?_) (fun e91 => ?_)
                  · refine g_iconst (v := nI 0) hX d_M_fitsThose_98 rfl ?_
                    refine g_istore3 hX d_M_fitsThose_99 rfl (by decide) ?_
                    refine g_iincN4 hX d_M_fitsThose_100 rfl (by decide) ?_
                    refine g_goto hX d_M_fitsThose_103 ?_
                    refine g_loc (opK_l (opK_f (g := g) (c := c) (okU_z hm e44 e72 e91))) ?_
                    exact ih (u + 1) (by omega) (by omega)
                  · refine g_iconst (v := nI 1) hX d_M_fitsThose_94 rfl ?_
                    refine g_goto hX d_M_fitsThose_95 ?_
                    refine g_istore3 hX d_M_fitsThose_99 rfl (by decide) ?_
                    refine g_iincN4 hX d_M_fitsThose_100 rfl (by decide) ?_
                    refine g_goto hX d_M_fitsThose_103 ?_
                    refine g_loc (opK_l (opK_t e26 (okU_y hm e55 e91))) ?_
                    exact ih (u + 1) (by omega) (by omega)
  refine g_aload0 hX d_M_fitsThose_0 ?_
  refine g_getF hX d_M_fitsThose_1 fl_M_123 (lv_89 _) ?_
  refine g_iload1 hX d_M_fitsThose_4 ?_
  refine g_iald hX d_M_fitsThose_5 (lv_117 _) rfl (by omega) ?_
  refine g_topi (hC v hv) ?_
  refine g_iload2 hX d_M_fitsThose_6 ?_
  refine g_callS (As := [_, _]) hX hF.1 d_M_fitsThose_7 ml_M_468 cf_M_is cs_M_is rfl (c_M_is (by omega) (by omega)) (by omega) (by omega) (by omega) (Nat.le_of_ble_eq_true rfl) ?_
  refine ret_k ?_
  refine g_istore3 hX d_M_fitsThose_10 rfl (by decide) ?_
  refine g_iconst (v := nI 0) hX d_M_fitsThose_11 rfl ?_
  refine g_istore4 hX d_M_fitsThose_12 rfl (by decide) ?_
  exact lp (gV g + 1) 0 (by omega) (Nat.zero_le _)
theorem c_M_fewestThen {E : EV} {w : Mem} {g : GC} {c : Nat → Nat} {p : Nat → Option Nat} {x : Nat} (hR : MRow (rI w 91) g) (hW : WG g) (hNr : NearP w g) (hC : CandP w g c) (hc : ∀ v, v < gV g → c v < 2 ^ 12) (hH : HunP w g p x) : T E m_M_fewestThen 2 0 0 [.ref 89] w (Ret (some (.int (fInt (pickK g c p (gV g)).1))) w) := by
  refine T_of (L := [.ref 89, un, un, un, un, un]) cf_M_fewestThen rfl (Nat.le_of_ble_eq_true rfl) (fun X hX hF => ?_)
  have hgv := hW.v
  have hgn := hW.n
  have lpV : ∀ (fuel : Nat) (v : Nat), gV g - v < fuel → (v ≤ gV g) → G0 E X 0 0 8 [.ref 89, .int (fInt (pickK g c p v).1), .int (nI (pickK g c p v).2), .int (nI v), un, un] [] w := by
    intro fuel
    induction fuel with
    | zero => intro v q0; exact absurd q0 (Nat.not_lt_zero _)
    | succ fuel ih =>
      intro v q0 q1
      refine g_iload3 hX d_M_fewestThen_8 ?_
      refine g_aload0 hX d_M_fewestThen_9 ?_
      refine g_getF hX d_M_fewestThen_10 fl_M_13 (lv_89 _) ?_
      refine g_iconst (v := nI 1) hX d_M_fewestThen_13 rfl ?_
      refine g_iald hX d_M_fewestThen_14 (lv_91 _) rfl (by decide) ?_
      refine g_topi hR.v ?_
      refine g_icmpN_ge hX d_M_fewestThen_15 (by omega) (by omega) (fun c0 => ?_) (fun c0 => ?_)
      · refine g_iload1 hX d_M_fewestThen_103 ?_
        refine g_iret hX hF d_M_fewestThen_104 (by omega) (by omega) ?_
        exact ⟨by rw [show v = gV g by omega], rfl⟩
      · have hxl := hH.2.1
        have hxv := hH.2.2.1 v (by omega)
        refine g_aload0 hX d_M_fewestThen_18 ?_
        refine g_getI hX d_M_fewestThen_19 fl_M_514 (lv_89 _) ?_
        refine g_topi hH.1 ?_
        refine g_iload3 hX d_M_fewestThen_22 ?_
        refine g_callS (As := [_, _]) hX hF.1 d_M_fewestThen_23 ml_M_468 cf_M_is cs_M_is rfl (c_M_is (by omega) (by omega)) (by omega) (by omega) (by omega) (Nat.le_of_ble_eq_true rfl) ?_
        refine ret_k ?_
        refine g_ifB_ne hX d_M_fewestThen_26 (fun d26 => ?_) (fun d26 => ?_)
        · refine g_iincN3 hX d_M_fewestThen_97 rfl (by decide) ?_
          refine g_goto hX d_M_fewestThen_100 ?_
          refine g_loc (pick_l (show pickK g c p (v + 1) = pickK g c p v by rw [pickK, if_neg (fun z => hxv.mp d26 z.1)])) ?_
          exact ih (v + 1) (by omega) (by omega)
        · have e26 : p v = none := by
            by_cases z : p v = none
            · exact z
            · exact absurd (hxv.mpr z) d26
          have ihV := ih
          have lpN : ∀ (fuel : Nat) (n : Nat), gN g - n < fuel → (n ≤ gN g) → G0 E X 0 0 35 [.ref 89, .int (fInt (pickK g c p v).1), .int (nI (pickK g c p v).2), .int (nI v), .int (nI (numH g c p v n)), .int (nI n)] [] w := by
            intro fuel
            induction fuel with
            | zero => intro n q0; exact absurd q0 (Nat.not_lt_zero _)
            | succ fuel ih =>
              intro n q0 q1
              refine g_iload5 hX d_M_fewestThen_35 ?_
              refine g_aload0 hX d_M_fewestThen_37 ?_
              refine g_getF hX d_M_fewestThen_38 fl_M_13 (lv_89 _) ?_
              refine g_iconst (v := nI 0) hX d_M_fewestThen_41 rfl ?_
              refine g_iald hX d_M_fewestThen_42 (lv_91 _) rfl (by decide) ?_
              refine g_topi hR.n ?_
              refine g_icmpN_ge hX d_M_fewestThen_43 (by omega) (by omega) (fun c0 => ?_) (fun c0 => ?_)
              · have hng : n = gN g := by omega
                rw [hng]
                have hnl := numH_le g c p v (gN g)
                have hpl := pickK_le g c p v
                refine g_iload4 hX d_M_fewestThen_72 ?_
                refine g_iload2 hX d_M_fewestThen_74 ?_
                refine g_icmpN_ge hX d_M_fewestThen_75 (by omega) (by omega) (fun e75 => ?_) (fun e75 => ?_)
                · refine g_iload1 hX d_M_fewestThen_82 ?_
                  refine g_istore1 hX d_M_fewestThen_83 rfl (by decide) ?_
                  refine g_iload4 hX d_M_fewestThen_84 ?_
                  refine g_iload2 hX d_M_fewestThen_86 ?_
                  refine g_icmpN_ge hX d_M_fewestThen_87 (by omega) (by omega) (fun c2 => ?_) (fun h => absurd h (by omega))
                  refine g_iload2 hX d_M_fewestThen_95 ?_
                  refine g_istore2 hX d_M_fewestThen_96 rfl (by decide) ?_
                  refine g_iincN3 hX d_M_fewestThen_97 rfl (by decide) ?_
                  refine g_goto hX d_M_fewestThen_100 ?_
                  refine g_fget 4 ?_
                  refine g_fget 5 ?_
                  refine g_loc (pick_l (show pickK g c p (v + 1) = pickK g c p v by rw [pickK, if_neg (fun z => by have := z.2; omega)])) ?_
                  exact ihV (v + 1) (by omega) (by omega)
                · refine g_iload3 hX d_M_fewestThen_78 ?_
                  refine g_goto hX d_M_fewestThen_79 ?_
                  refine g_istore1 hX d_M_fewestThen_83 rfl (by decide) ?_
                  refine g_iload4 hX d_M_fewestThen_84 ?_
                  refine g_iload2 hX d_M_fewestThen_86 ?_
                  refine g_icmpN_ge hX d_M_fewestThen_87 (by omega) (by omega) (fun h => absurd h (by omega)) (fun c3 => ?_)
                  refine g_iload4 hX d_M_fewestThen_90 ?_
                  refine g_goto hX d_M_fewestThen_92 ?_
                  refine g_istore2 hX d_M_fewestThen_96 rfl (by decide) ?_
                  refine g_iincN3 hX d_M_fewestThen_97 rfl (by decide) ?_
                  refine g_goto hX d_M_fewestThen_100 ?_
                  refine g_fget 4 ?_
                  refine g_fget 5 ?_
                  refine g_loc (pick_l (show pickK g c p (v + 1) = (some v, numH g c p v (gN g)) by rw [pickK, if_pos ⟨e26, e75⟩])) ?_
                  exact ihV (v + 1) (by omega) (by omega)
              · refine g_iload4 hX d_M_fewestThen_46 ?_
                refine g_aload0 hX d_M_fewestThen_48 ?_
                refine g_iload3 hX d_M_fewestThen_49 ?_
                refine g_iload5 hX d_M_fewestThen_50 ?_
                refine g_callV (As := [_, _]) hX hF.1 d_M_fewestThen_52 ml_M_517 cf_M_fitsThose cv_M_fitsThose rfl rfl (c_M_fitsThose hR hW hNr hC hc hH (by omega) (by omega)) (rcv_obj hX (lv_89 _) rfl rfl) (by omega) (by omega) (by omega) (Nat.le_of_ble_eq_true rfl) ?_
                refine ret_k ?_
                refine g_ifB_eq hX d_M_fewestThen_55 (fun e55 => ?_) (fun e55 => ?_)
                · refine g_iconst (v := nI 0) hX d_M_fewestThen_62 rfl ?_
                  refine g_iaddN hX d_M_fewestThen_63 ?_
                  refine g_istore4 hX d_M_fewestThen_64 rfl (by decide) ?_
                  refine g_iincN5 hX d_M_fewestThen_66 rfl (by decide) ?_
                  refine g_goto hX d_M_fewestThen_69 ?_
                  refine g_loc (num_l (show numH g c p v (n + 1) = numH g c p v n + 0 by rw [numH, if_neg e55])) ?_
                  exact ih (n + 1) (by omega) (by omega)
                · refine g_iconst (v := nI 1) hX d_M_fewestThen_58 rfl ?_
                  refine g_goto hX d_M_fewestThen_59 ?_
                  refine g_iaddN hX d_M_fewestThen_63 ?_
                  refine g_istore4 hX d_M_fewestThen_64 rfl (by decide) ?_
                  refine g_iincN5 hX d_M_fewestThen_66 rfl (by decide) ?_
                  refine g_goto hX d_M_fewestThen_69 ?_
                  refine g_loc (num_l (show numH g c p v (n + 1) = numH g c p v n + 1 by rw [numH, if_pos e55])) ?_
                  exact ih (n + 1) (by omega) (by omega)
          refine g_iconst (v := nI 0) hX d_M_fewestThen_29 rfl ?_
          refine g_istore4 hX d_M_fewestThen_30 rfl (by decide) ?_
          refine g_iconst (v := nI 0) hX d_M_fewestThen_32 rfl ?_
          refine g_istore5 hX d_M_fewestThen_33 rfl (by decide) ?_
          exact lpN (gN g + 1) 0 (by omega) (Nat.zero_le _)
  refine g_iconst (v := -1) hX d_M_fewestThen_0 rfl ?_
  refine g_istore1 hX d_M_fewestThen_1 rfl (by decide) ?_
  refine g_ldc_w (v := nI 100000000) hX d_M_fewestThen_2 k_M_498 rfl ?_
  refine g_istore2 hX d_M_fewestThen_5 rfl (by decide) ?_
  refine g_iconst (v := nI 0) hX d_M_fewestThen_6 rfl ?_
  refine g_istore3 hX d_M_fewestThen_7 rfl (by decide) ?_
  exact lpV (gV g + 1) 0 (by omega) (Nat.zero_le _)
