theorem lv_0 (w : Mem) : Lv w 0 (1, 0) := Lv.st w (by decide) rfl (by decide)
theorem lv_1 (w : Mem) : Lv w 1 (1, 2) := Lv.st w (by decide) rfl (by decide)
theorem lv_2 (w : Mem) : Lv w 2 (2, 12) := Lv.st w (by decide) rfl (by decide)
theorem lv_3 (w : Mem) : Lv w 3 (2, 12) := Lv.st w (by decide) rfl (by decide)
theorem lv_4 (w : Mem) : Lv w 4 (2, 66) := Lv.st w (by decide) rfl (by decide)
theorem lv_5 (w : Mem) : Lv w 5 (2, 5) := Lv.st w (by decide) rfl (by decide)
theorem lv_6 (w : Mem) : Lv w 6 (2, 5) := Lv.st w (by decide) rfl (by decide)
theorem lv_7 (w : Mem) : Lv w 7 (2, 6) := Lv.st w (by decide) rfl (by decide)
theorem lv_8 (w : Mem) : Lv w 8 (2, 3) := Lv.st w (by decide) rfl (by decide)
theorem lv_9 (w : Mem) : Lv w 9 (5, 6) := Lv.st w (by decide) rfl (by decide)
theorem lv_10 (w : Mem) : Lv w 10 (6, 2) := Lv.st w (by decide) rfl (by decide)
theorem lv_11 (w : Mem) : Lv w 11 (1, 2) := Lv.st w (by decide) rfl (by decide)
theorem lv_12 (w : Mem) : Lv w 12 (2, 12) := Lv.st w (by decide) rfl (by decide)
theorem lv_13 (w : Mem) : Lv w 13 (2, 12) := Lv.st w (by decide) rfl (by decide)
theorem lv_14 (w : Mem) : Lv w 14 (2, 66) := Lv.st w (by decide) rfl (by decide)
theorem lv_15 (w : Mem) : Lv w 15 (2, 5) := Lv.st w (by decide) rfl (by decide)
theorem lv_16 (w : Mem) : Lv w 16 (2, 5) := Lv.st w (by decide) rfl (by decide)
theorem lv_17 (w : Mem) : Lv w 17 (2, 6) := Lv.st w (by decide) rfl (by decide)
theorem lv_18 (w : Mem) : Lv w 18 (2, 3) := Lv.st w (by decide) rfl (by decide)
theorem lv_19 (w : Mem) : Lv w 19 (5, 6) := Lv.st w (by decide) rfl (by decide)
theorem lv_20 (w : Mem) : Lv w 20 (1, 1) := Lv.st w (by decide) rfl (by decide)
theorem lv_21 (w : Mem) : Lv w 21 (2, 16) := Lv.st w (by decide) rfl (by decide)
theorem lv_22 (w : Mem) : Lv w 22 (2, 16) := Lv.st w (by decide) rfl (by decide)
theorem lv_23 (w : Mem) : Lv w 23 (2, 16) := Lv.st w (by decide) rfl (by decide)
theorem lv_24 (w : Mem) : Lv w 24 (2, 16) := Lv.st w (by decide) rfl (by decide)
theorem lv_25 (w : Mem) : Lv w 25 (1, 7) := Lv.st w (by decide) rfl (by decide)
theorem lv_26 (w : Mem) : Lv w 26 (1, 10) := Lv.st w (by decide) rfl (by decide)
theorem lv_27 (w : Mem) : Lv w 27 (2, 400) := Lv.st w (by decide) rfl (by decide)
theorem lv_28 (w : Mem) : Lv w 28 (1, 6) := Lv.st w (by decide) rfl (by decide)
theorem lv_29 (w : Mem) : Lv w 29 (2, 96) := Lv.st w (by decide) rfl (by decide)
theorem lv_30 (w : Mem) : Lv w 30 (2, 256) := Lv.st w (by decide) rfl (by decide)
theorem lv_31 (w : Mem) : Lv w 31 (1, 4) := Lv.st w (by decide) rfl (by decide)
theorem lv_32 (w : Mem) : Lv w 32 (2, 5) := Lv.st w (by decide) rfl (by decide)
theorem lv_33 (w : Mem) : Lv w 33 (2, 60) := Lv.st w (by decide) rfl (by decide)
theorem lv_34 (w : Mem) : Lv w 34 (2, 7) := Lv.st w (by decide) rfl (by decide)
theorem lv_35 (w : Mem) : Lv w 35 (3, 64) := Lv.st w (by decide) rfl (by decide)
theorem lv_36 (w : Mem) : Lv w 36 (1, 11) := Lv.st w (by decide) rfl (by decide)
theorem lv_37 (w : Mem) : Lv w 37 (2, 5) := Lv.st w (by decide) rfl (by decide)
theorem lv_38 (w : Mem) : Lv w 38 (2, 5) := Lv.st w (by decide) rfl (by decide)
theorem lv_39 (w : Mem) : Lv w 39 (2, 5) := Lv.st w (by decide) rfl (by decide)
theorem lv_40 (w : Mem) : Lv w 40 (2, 60) := Lv.st w (by decide) rfl (by decide)
theorem lv_41 (w : Mem) : Lv w 41 (2, 60) := Lv.st w (by decide) rfl (by decide)
theorem lv_42 (w : Mem) : Lv w 42 (1, 9) := Lv.st w (by decide) rfl (by decide)
theorem lv_43 (w : Mem) : Lv w 43 (2, 5) := Lv.st w (by decide) rfl (by decide)
theorem lv_44 (w : Mem) : Lv w 44 (2, 5) := Lv.st w (by decide) rfl (by decide)
theorem lv_45 (w : Mem) : Lv w 45 (1, 3) := Lv.st w (by decide) rfl (by decide)
theorem lv_46 (w : Mem) : Lv w 46 (2, 5) := Lv.st w (by decide) rfl (by decide)
theorem lv_47 (w : Mem) : Lv w 47 (1, 5) := Lv.st w (by decide) rfl (by decide)
theorem lv_48 (w : Mem) : Lv w 48 (2, 600) := Lv.st w (by decide) rfl (by decide)
theorem lv_49 (w : Mem) : Lv w 49 (2, 5) := Lv.st w (by decide) rfl (by decide)
theorem lv_50 (w : Mem) : Lv w 50 (2, 12) := Lv.st w (by decide) rfl (by decide)
theorem lv_51 (w : Mem) : Lv w 51 (2, 12) := Lv.st w (by decide) rfl (by decide)
theorem lv_52 (w : Mem) : Lv w 52 (2, 144) := Lv.st w (by decide) rfl (by decide)
theorem lv_53 (w : Mem) : Lv w 53 (1, 8) := Lv.st w (by decide) rfl (by decide)
theorem lv_54 (w : Mem) : Lv w 54 (1, 2) := Lv.st w (by decide) rfl (by decide)
theorem lv_55 (w : Mem) : Lv w 55 (2, 12) := Lv.st w (by decide) rfl (by decide)
theorem lv_56 (w : Mem) : Lv w 56 (2, 12) := Lv.st w (by decide) rfl (by decide)
theorem lv_57 (w : Mem) : Lv w 57 (2, 66) := Lv.st w (by decide) rfl (by decide)
theorem lv_58 (w : Mem) : Lv w 58 (2, 5) := Lv.st w (by decide) rfl (by decide)
theorem lv_59 (w : Mem) : Lv w 59 (2, 5) := Lv.st w (by decide) rfl (by decide)
theorem lv_60 (w : Mem) : Lv w 60 (2, 6) := Lv.st w (by decide) rfl (by decide)
theorem lv_61 (w : Mem) : Lv w 61 (2, 3) := Lv.st w (by decide) rfl (by decide)
theorem lv_62 (w : Mem) : Lv w 62 (5, 6) := Lv.st w (by decide) rfl (by decide)
theorem lv_63 (w : Mem) : Lv w 63 (1, 1) := Lv.st w (by decide) rfl (by decide)
theorem lv_64 (w : Mem) : Lv w 64 (2, 16) := Lv.st w (by decide) rfl (by decide)
theorem lv_65 (w : Mem) : Lv w 65 (2, 16) := Lv.st w (by decide) rfl (by decide)
theorem lv_66 (w : Mem) : Lv w 66 (2, 16) := Lv.st w (by decide) rfl (by decide)
theorem lv_67 (w : Mem) : Lv w 67 (2, 16) := Lv.st w (by decide) rfl (by decide)
theorem lv_68 (w : Mem) : Lv w 68 (2, 17) := Lv.st w (by decide) rfl (by decide)
theorem lv_69 (w : Mem) : Lv w 69 (3, 20) := Lv.st w (by decide) rfl (by decide)
theorem lv_70 (w : Mem) : Lv w 70 (2, 5) := Lv.st w (by decide) rfl (by decide)
theorem lv_71 (w : Mem) : Lv w 71 (1, 2) := Lv.st w (by decide) rfl (by decide)
theorem lv_72 (w : Mem) : Lv w 72 (2, 12) := Lv.st w (by decide) rfl (by decide)
theorem lv_73 (w : Mem) : Lv w 73 (2, 12) := Lv.st w (by decide) rfl (by decide)
theorem lv_74 (w : Mem) : Lv w 74 (2, 66) := Lv.st w (by decide) rfl (by decide)
theorem lv_75 (w : Mem) : Lv w 75 (2, 5) := Lv.st w (by decide) rfl (by decide)
theorem lv_76 (w : Mem) : Lv w 76 (2, 5) := Lv.st w (by decide) rfl (by decide)
theorem lv_77 (w : Mem) : Lv w 77 (2, 6) := Lv.st w (by decide) rfl (by decide)
theorem lv_78 (w : Mem) : Lv w 78 (2, 3) := Lv.st w (by decide) rfl (by decide)
theorem lv_79 (w : Mem) : Lv w 79 (5, 6) := Lv.st w (by decide) rfl (by decide)
theorem lv_80 (w : Mem) : Lv w 80 (1, 2) := Lv.st w (by decide) rfl (by decide)
theorem lv_81 (w : Mem) : Lv w 81 (2, 12) := Lv.st w (by decide) rfl (by decide)
theorem lv_82 (w : Mem) : Lv w 82 (2, 12) := Lv.st w (by decide) rfl (by decide)
theorem lv_83 (w : Mem) : Lv w 83 (2, 66) := Lv.st w (by decide) rfl (by decide)
theorem lv_84 (w : Mem) : Lv w 84 (2, 5) := Lv.st w (by decide) rfl (by decide)
theorem lv_85 (w : Mem) : Lv w 85 (2, 5) := Lv.st w (by decide) rfl (by decide)
theorem lv_86 (w : Mem) : Lv w 86 (2, 6) := Lv.st w (by decide) rfl (by decide)
theorem lv_87 (w : Mem) : Lv w 87 (2, 3) := Lv.st w (by decide) rfl (by decide)
theorem lv_88 (w : Mem) : Lv w 88 (5, 6) := Lv.st w (by decide) rfl (by decide)
theorem lv_89 (w : Mem) : Lv w 89 (1, 12) := Lv.st w (by decide) rfl (by decide)
theorem lv_90 (w : Mem) : Lv w 90 (2, 7) := Lv.st w (by decide) rfl (by decide)
theorem lv_91 (w : Mem) : Lv w 91 (2, 5510) := Lv.st w (by decide) rfl (by decide)
theorem lv_92 (w : Mem) : Lv w 92 (2, 11020) := Lv.st w (by decide) rfl (by decide)
theorem lv_93 (w : Mem) : Lv w 93 (4, 2) := Lv.st w (by decide) rfl (by decide)
theorem lv_94 (w : Mem) : Lv w 94 (2, 1656) := Lv.st w (by decide) rfl (by decide)
theorem lv_95 (w : Mem) : Lv w 95 (2, 16) := Lv.st w (by decide) rfl (by decide)
theorem lv_96 (w : Mem) : Lv w 96 (2, 1472) := Lv.st w (by decide) rfl (by decide)
theorem lv_97 (w : Mem) : Lv w 97 (2, 16) := Lv.st w (by decide) rfl (by decide)
theorem lv_98 (w : Mem) : Lv w 98 (2, 400) := Lv.st w (by decide) rfl (by decide)
theorem lv_99 (w : Mem) : Lv w 99 (2, 96) := Lv.st w (by decide) rfl (by decide)
theorem lv_100 (w : Mem) : Lv w 100 (2, 400) := Lv.st w (by decide) rfl (by decide)
theorem lv_101 (w : Mem) : Lv w 101 (2, 400) := Lv.st w (by decide) rfl (by decide)
theorem lv_102 (w : Mem) : Lv w 102 (2, 400) := Lv.st w (by decide) rfl (by decide)
theorem lv_103 (w : Mem) : Lv w 103 (2, 400) := Lv.st w (by decide) rfl (by decide)
theorem lv_104 (w : Mem) : Lv w 104 (3, 7) := Lv.st w (by decide) rfl (by decide)
theorem lv_105 (w : Mem) : Lv w 105 (3, 6) := Lv.st w (by decide) rfl (by decide)
theorem lv_106 (w : Mem) : Lv w 106 (3, 2) := Lv.st w (by decide) rfl (by decide)
theorem lv_107 (w : Mem) : Lv w 107 (3, 13) := Lv.st w (by decide) rfl (by decide)
theorem lv_108 (w : Mem) : Lv w 108 (3, 13) := Lv.st w (by decide) rfl (by decide)
theorem lv_109 (w : Mem) : Lv w 109 (3, 400) := Lv.st w (by decide) rfl (by decide)
theorem lv_110 (w : Mem) : Lv w 110 (2, 12) := Lv.st w (by decide) rfl (by decide)
theorem lv_111 (w : Mem) : Lv w 111 (2, 5) := Lv.st w (by decide) rfl (by decide)
theorem lv_112 (w : Mem) : Lv w 112 (2, 60) := Lv.st w (by decide) rfl (by decide)
theorem lv_113 (w : Mem) : Lv w 113 (2, 5) := Lv.st w (by decide) rfl (by decide)
theorem lv_114 (w : Mem) : Lv w 114 (2, 600) := Lv.st w (by decide) rfl (by decide)
theorem lv_115 (w : Mem) : Lv w 115 (2, 5) := Lv.st w (by decide) rfl (by decide)
theorem lv_116 (w : Mem) : Lv w 116 (2, 5) := Lv.st w (by decide) rfl (by decide)
theorem lv_117 (w : Mem) : Lv w 117 (2, 5) := Lv.st w (by decide) rfl (by decide)
theorem lv_118 (w : Mem) : Lv w 118 (2, 5) := Lv.st w (by decide) rfl (by decide)
theorem lv_119 (w : Mem) : Lv w 119 (2, 5) := Lv.st w (by decide) rfl (by decide)
theorem lv_120 (w : Mem) : Lv w 120 (2, 12) := Lv.st w (by decide) rfl (by decide)
theorem lv_121 (w : Mem) : Lv w 121 (2, 12) := Lv.st w (by decide) rfl (by decide)
theorem lv_122 (w : Mem) : Lv w 122 (2, 60) := Lv.st w (by decide) rfl (by decide)
theorem lv_123 (w : Mem) : Lv w 123 (2, 60) := Lv.st w (by decide) rfl (by decide)
theorem lv_124 (w : Mem) : Lv w 124 (3, 21) := Lv.st w (by decide) rfl (by decide)
theorem lv_125 (w : Mem) : Lv w 125 (3, 4) := Lv.st w (by decide) rfl (by decide)
theorem lv_126 (w : Mem) : Lv w 126 (2, 96) := Lv.st w (by decide) rfl (by decide)
theorem lv_127 (w : Mem) : Lv w 127 (2, 24) := Lv.st w (by decide) rfl (by decide)
def IsBo (b : Nat) : Prop := b = 1 ∨ b = 11 ∨ b = 54 ∨ b = 71 ∨ b = 80
theorem lvBo_0 {b : Nat} (h : IsBo b) (w : Mem) : Lv w (b) (1, 2) := by
  rcases h with rfl | rfl | rfl | rfl | rfl <;> exact Lv.st w (by decide) rfl (by decide)
theorem lvBo_1 {b : Nat} (h : IsBo b) (w : Mem) : Lv w (b + 1) (2, 12) := by
  rcases h with rfl | rfl | rfl | rfl | rfl <;> exact Lv.st w (by decide) rfl (by decide)
theorem lvBo_2 {b : Nat} (h : IsBo b) (w : Mem) : Lv w (b + 2) (2, 12) := by
  rcases h with rfl | rfl | rfl | rfl | rfl <;> exact Lv.st w (by decide) rfl (by decide)
theorem lvBo_3 {b : Nat} (h : IsBo b) (w : Mem) : Lv w (b + 3) (2, 66) := by
  rcases h with rfl | rfl | rfl | rfl | rfl <;> exact Lv.st w (by decide) rfl (by decide)
theorem lvBo_4 {b : Nat} (h : IsBo b) (w : Mem) : Lv w (b + 4) (2, 5) := by
  rcases h with rfl | rfl | rfl | rfl | rfl <;> exact Lv.st w (by decide) rfl (by decide)
theorem lvBo_5 {b : Nat} (h : IsBo b) (w : Mem) : Lv w (b + 5) (2, 5) := by
  rcases h with rfl | rfl | rfl | rfl | rfl <;> exact Lv.st w (by decide) rfl (by decide)
theorem lvBo_6 {b : Nat} (h : IsBo b) (w : Mem) : Lv w (b + 6) (2, 6) := by
  rcases h with rfl | rfl | rfl | rfl | rfl <;> exact Lv.st w (by decide) rfl (by decide)
theorem lvBo_7 {b : Nat} (h : IsBo b) (w : Mem) : Lv w (b + 7) (2, 3) := by
  rcases h with rfl | rfl | rfl | rfl | rfl <;> exact Lv.st w (by decide) rfl (by decide)
theorem lvBo_8 {b : Nat} (h : IsBo b) (w : Mem) : Lv w (b + 8) (5, 6) := by
  rcases h with rfl | rfl | rfl | rfl | rfl <;> exact Lv.st w (by decide) rfl (by decide)
def IsAc (b : Nat) : Prop := b = 20 ∨ b = 63
theorem lvAc_0 {b : Nat} (h : IsAc b) (w : Mem) : Lv w (b) (1, 1) := by
  rcases h with rfl | rfl <;> exact Lv.st w (by decide) rfl (by decide)
theorem lvAc_1 {b : Nat} (h : IsAc b) (w : Mem) : Lv w (b + 1) (2, 16) := by
  rcases h with rfl | rfl <;> exact Lv.st w (by decide) rfl (by decide)
theorem lvAc_2 {b : Nat} (h : IsAc b) (w : Mem) : Lv w (b + 2) (2, 16) := by
  rcases h with rfl | rfl <;> exact Lv.st w (by decide) rfl (by decide)
theorem lvAc_3 {b : Nat} (h : IsAc b) (w : Mem) : Lv w (b + 3) (2, 16) := by
  rcases h with rfl | rfl <;> exact Lv.st w (by decide) rfl (by decide)
theorem lvAc_4 {b : Nat} (h : IsAc b) (w : Mem) : Lv w (b + 4) (2, 16) := by
  rcases h with rfl | rfl <;> exact Lv.st w (by decide) rfl (by decide)
def b2i (p : Prop) [Decidable p] : Int32 := if p then 1 else 0
theorem b2i_01 (p : Prop) [Decidable p] : b2i p = 0 ∨ b2i p = 1 := by unfold b2i; split <;> simp
theorem b2i_t {p : Prop} [Decidable p] (h : p) : b2i p = 1 := if_pos h
theorem b2i_f {p : Prop} [Decidable p] (h : ¬ p) : b2i p = 0 := if_neg h
theorem b2i_c {p q : Prop} [Decidable p] [Decidable q] (h : p ↔ q) : b2i p = b2i q := by unfold b2i; simp [h]
theorem ret_k {E : EV} {X : XT} {ca sa pc : Nat} {L st : List Value} {v : Option Value} {w : Mem} (k : G0 E X ca sa pc L (v.toList ++ st) w) : ∀ (r : Option Value) (w2 : Mem), Ret v w r w2 → G0 E X ca sa pc L (r.toList ++ st) w2 := by
  rintro r w2 ⟨rfl, rfl⟩
  exact k
theorem sw_out {x : Int32} {lo hi : Int} (h : ∀ k : Int, lo ≤ k → k ≤ hi → x.toInt ≠ k) : x.toInt < lo ∨ hi < x.toInt := by
  by_cases h1 : x.toInt < lo
  · exact Or.inl h1
  · by_cases h2 : hi < x.toInt
    · exact Or.inr h2
    · exact absurd rfl (h x.toInt (by omega) (by omega))
theorem nx_and (a b : Nat) : nI a &&& nI b = nI (a &&& b) := by
  apply Int32.toBitVec_inj.mp
  show (BitVec.ofNat 32 a) &&& (BitVec.ofNat 32 b) = BitVec.ofNat 32 (a &&& b)
  rw [BitVec.ofNat_and]
theorem nx_or (a b : Nat) : nI a ||| nI b = nI (a ||| b) := by
  apply Int32.toBitVec_inj.mp
  show (BitVec.ofNat 32 a) ||| (BitVec.ofNat 32 b) = BitVec.ofNat 32 (a ||| b)
  rw [BitVec.ofNat_or]
theorem nx_xor (a b : Nat) : nI a ^^^ nI b = nI (a ^^^ b) := by
  apply Int32.toBitVec_inj.mp
  show (BitVec.ofNat 32 a) ^^^ (BitVec.ofNat 32 b) = BitVec.ofNat 32 (a ^^^ b)
  rw [BitVec.ofNat_xor]
section G4
variable {E : EV} {X : XT} {b : ByteArray} {own : String} {nL : Nat} {ca sa pc pc2 pc3 tgt : Nat} {L st : List Value} {w : Mem}
theorem g_iaddN {x y : Nat} (hX : CX E X b own nL) (hd : Dc b pc .iadd 1 pc2) (k : G0 E X ca sa pc2 L (.int (nI (x + y)) :: st) w) : G0 E X ca sa pc L (.int (nI y) :: .int (nI x) :: st) w := by
  refine g_iadd hX hd ?_
  rw [nI_add]
  exact k
theorem g_imulN {x y : Nat} (hX : CX E X b own nL) (hd : Dc b pc .imul 1 pc2) (k : G0 E X ca sa pc2 L (.int (nI (x * y)) :: st) w) : G0 E X ca sa pc L (.int (nI y) :: .int (nI x) :: st) w := by
  refine g_imul hX hd ?_
  rw [pk_mul]
  exact k
theorem g_iandN {x y : Nat} (hX : CX E X b own nL) (hd : Dc b pc .iand 1 pc2) (k : G0 E X ca sa pc2 L (.int (nI (x &&& y)) :: st) w) : G0 E X ca sa pc L (.int (nI y) :: .int (nI x) :: st) w := by
  refine g_iand hX hd ?_
  rw [nx_and]
  exact k
theorem g_iorN {x y : Nat} (hX : CX E X b own nL) (hd : Dc b pc .ior 1 pc2) (k : G0 E X ca sa pc2 L (.int (nI (x ||| y)) :: st) w) : G0 E X ca sa pc L (.int (nI y) :: .int (nI x) :: st) w := by
  refine g_ior hX hd ?_
  rw [nx_or]
  exact k
theorem g_ixorN {x y : Nat} (hX : CX E X b own nL) (hd : Dc b pc .ixor 1 pc2) (k : G0 E X ca sa pc2 L (.int (nI (x ^^^ y)) :: st) w) : G0 E X ca sa pc L (.int (nI y) :: .int (nI x) :: st) w := by
  refine g_ixor hX hd ?_
  rw [nx_xor]
  exact k
theorem g_icmpN_eq {x y : Nat} {off : Int} (hX : CX E X b own nL) (hd : Dj b pc (.if_icmp .eq off) pc2 off tgt) (hx : x < 2 ^ 31) (hy : y < 2 ^ 31) (kt : x = y → G0 E X ca sa tgt L st w) (kf : ¬ x = y → G0 E X ca sa pc2 L st w) : G0 E X ca sa pc L (.int (nI y) :: .int (nI x) :: st) w :=
  g_icmp_eq hX hd (fun h => kt ((nI_eq hx hy).mp h)) (fun h => kf (by have := mt (nI_eq hx hy).mpr h; omega))
theorem g_icmpN_ne {x y : Nat} {off : Int} (hX : CX E X b own nL) (hd : Dj b pc (.if_icmp .ne off) pc2 off tgt) (hx : x < 2 ^ 31) (hy : y < 2 ^ 31) (kt : ¬ x = y → G0 E X ca sa tgt L st w) (kf : x = y → G0 E X ca sa pc2 L st w) : G0 E X ca sa pc L (.int (nI y) :: .int (nI x) :: st) w :=
  g_icmp_ne hX hd (fun h => kt ((not_congr (nI_eq hx hy)).mp h)) (fun h => kf ((nI_eq hx hy).mp h))
theorem g_icmpN_lt {x y : Nat} {off : Int} (hX : CX E X b own nL) (hd : Dj b pc (.if_icmp .lt off) pc2 off tgt) (hx : x < 2 ^ 31) (hy : y < 2 ^ 31) (kt : x < y → G0 E X ca sa tgt L st w) (kf : y ≤ x → G0 E X ca sa pc2 L st w) : G0 E X ca sa pc L (.int (nI y) :: .int (nI x) :: st) w :=
  g_icmp_lt hX hd (fun h => kt ((nI_ltI hx hy).mp h)) (fun h => kf (by have := mt (nI_ltI hx hy).mpr h; omega))
theorem g_icmpN_ge {x y : Nat} {off : Int} (hX : CX E X b own nL) (hd : Dj b pc (.if_icmp .ge off) pc2 off tgt) (hx : x < 2 ^ 31) (hy : y < 2 ^ 31) (kt : y ≤ x → G0 E X ca sa tgt L st w) (kf : x < y → G0 E X ca sa pc2 L st w) : G0 E X ca sa pc L (.int (nI y) :: .int (nI x) :: st) w :=
  g_icmp_ge hX hd (fun h => kt ((nI_leI hy hx).mp h)) (fun h => kf (by have := mt (nI_leI hy hx).mpr h; omega))
theorem g_icmpN_gt {x y : Nat} {off : Int} (hX : CX E X b own nL) (hd : Dj b pc (.if_icmp .gt off) pc2 off tgt) (hx : x < 2 ^ 31) (hy : y < 2 ^ 31) (kt : y < x → G0 E X ca sa tgt L st w) (kf : x ≤ y → G0 E X ca sa pc2 L st w) : G0 E X ca sa pc L (.int (nI y) :: .int (nI x) :: st) w :=
  g_icmp_gt hX hd (fun h => kt ((nI_ltI hy hx).mp h)) (fun h => kf (by have := mt (nI_ltI hy hx).mpr h; omega))
theorem g_icmpN_le {x y : Nat} {off : Int} (hX : CX E X b own nL) (hd : Dj b pc (.if_icmp .le off) pc2 off tgt) (hx : x < 2 ^ 31) (hy : y < 2 ^ 31) (kt : x ≤ y → G0 E X ca sa tgt L st w) (kf : y < x → G0 E X ca sa pc2 L st w) : G0 E X ca sa pc L (.int (nI y) :: .int (nI x) :: st) w :=
  g_icmp_le hX hd (fun h => kt ((nI_leI hx hy).mp h)) (fun h => kf (by have := mt (nI_leI hx hy).mpr h; omega))
theorem g_lcmp_eq {x y : Int64} {off : Int} (hX : CX E X b own nL) (hd : Dc b pc .lcmp 1 pc2) (hd2 : Dj b pc2 (.ifCond .eq off) pc3 off tgt) (kt : x = y → G0 E X ca sa tgt L st w) (kf : ¬ (x = y) → G0 E X ca sa pc3 L st w) : G0 E X ca sa pc L (.long y :: .long x :: st) w :=
  g_lcmp hX hd (g_if_eq hX hd2 (fun h => kt ((lg_cmp_eq x y).mp h)) (fun h => kf (fun q => h ((lg_cmp_eq x y).mpr q))))
theorem g_lcmp_ne {x y : Int64} {off : Int} (hX : CX E X b own nL) (hd : Dc b pc .lcmp 1 pc2) (hd2 : Dj b pc2 (.ifCond .ne off) pc3 off tgt) (kt : ¬ x = y → G0 E X ca sa tgt L st w) (kf : x = y → G0 E X ca sa pc3 L st w) : G0 E X ca sa pc L (.long y :: .long x :: st) w :=
  g_lcmp hX hd (g_if_ne hX hd2 (fun h => kt ((not_congr (lg_cmp_eq x y)).mp h)) (fun h => kf ((lg_cmp_eq x y).mp h)))
theorem g_lcmp_lt {x y : Int64} {off : Int} (hX : CX E X b own nL) (hd : Dc b pc .lcmp 1 pc2) (hd2 : Dj b pc2 (.ifCond .lt off) pc3 off tgt) (kt : x < y → G0 E X ca sa tgt L st w) (kf : ¬ (x < y) → G0 E X ca sa pc3 L st w) : G0 E X ca sa pc L (.long y :: .long x :: st) w :=
  g_lcmp hX hd (g_if_lt hX hd2 (fun h => kt ((lg_cmp_lt x y).mp h)) (fun h => kf (fun q => h ((lg_cmp_lt x y).mpr q))))
theorem g_lcmp_ge {x y : Int64} {off : Int} (hX : CX E X b own nL) (hd : Dc b pc .lcmp 1 pc2) (hd2 : Dj b pc2 (.ifCond .ge off) pc3 off tgt) (kt : y ≤ x → G0 E X ca sa tgt L st w) (kf : ¬ (y ≤ x) → G0 E X ca sa pc3 L st w) : G0 E X ca sa pc L (.long y :: .long x :: st) w :=
  g_lcmp hX hd (g_if_ge hX hd2 (fun h => kt ((lg_cmp_ge x y).mp h)) (fun h => kf (fun q => h ((lg_cmp_ge x y).mpr q))))
theorem g_lcmp_gt {x y : Int64} {off : Int} (hX : CX E X b own nL) (hd : Dc b pc .lcmp 1 pc2) (hd2 : Dj b pc2 (.ifCond .gt off) pc3 off tgt) (kt : y < x → G0 E X ca sa tgt L st w) (kf : ¬ (y < x) → G0 E X ca sa pc3 L st w) : G0 E X ca sa pc L (.long y :: .long x :: st) w :=
  g_lcmp hX hd (g_if_gt hX hd2 (fun h => kt ((lg_cmp_gt x y).mp h)) (fun h => kf (fun q => h ((lg_cmp_gt x y).mpr q))))
theorem g_lcmp_le {x y : Int64} {off : Int} (hX : CX E X b own nL) (hd : Dc b pc .lcmp 1 pc2) (hd2 : Dj b pc2 (.ifCond .le off) pc3 off tgt) (kt : x ≤ y → G0 E X ca sa tgt L st w) (kf : ¬ (x ≤ y) → G0 E X ca sa pc3 L st w) : G0 E X ca sa pc L (.long y :: .long x :: st) w :=
  g_lcmp hX hd (g_if_le hX hd2 (fun h => kt ((lg_cmp_le x y).mp h)) (fun h => kf (fun q => h ((lg_cmp_le x y).mpr q))))
theorem g_ifB_eq {p : Prop} [Decidable p] {off : Int} (hX : CX E X b own nL) (hd : Dj b pc (.ifCond .eq off) pc2 off tgt) (kt : ¬ p → G0 E X ca sa tgt L st w) (kf : p → G0 E X ca sa pc2 L st w) : G0 E X ca sa pc L (.int (b2i p) :: st) w :=
  g_if_eq hX hd (fun h => kt (fun hp => by rw [b2i_t hp] at h; exact absurd h (by decide))) (fun h => kf (by by_cases hp : p; exact hp; exact absurd (b2i_f hp) h))
theorem g_ifB_ne {p : Prop} [Decidable p] {off : Int} (hX : CX E X b own nL) (hd : Dj b pc (.ifCond .ne off) pc2 off tgt) (kt : p → G0 E X ca sa tgt L st w) (kf : ¬ p → G0 E X ca sa pc2 L st w) : G0 E X ca sa pc L (.int (b2i p) :: st) w :=
  g_if_ne hX hd (fun h => kt (by by_cases hp : p; exact hp; exact absurd (b2i_f hp) h)) (fun h => kf (fun hp => by rw [b2i_t hp] at h; exact absurd h (by decide)))
theorem g_ldc {idx : Nat} {v0 v : Int32} (hX : CX E X b own nL) (hd : Dc b pc (.ldc idx) 2 pc2) (hk : Cond.constant own idx v0 ∈ lw_gd) (hv : v0 = v) (k : G0 E X ca sa pc2 L (.int v :: st) w) : G0 E X ca sa pc L st w := by
  obtain ⟨hd, rfl⟩ := hd
  subst hv
  intro H locs ls hP hD hS hl
  exact lv_ldc (rest := st.map (tr (eR E))) hX.1 hX.2.1 hX.2.2.1 (hX.word hk) hd (k H locs ls hP hD hS hl)
theorem g_ldc_w {idx : Nat} {v0 v : Int32} (hX : CX E X b own nL) (hd : Dc b pc (.ldc_w idx) 3 pc2) (hk : Cond.constant own idx v0 ∈ lw_gd) (hv : v0 = v) (k : G0 E X ca sa pc2 L (.int v :: st) w) : G0 E X ca sa pc L st w := by
  obtain ⟨hd, rfl⟩ := hd
  subst hv
  intro H locs ls hP hD hS hl
  exact lv_ldcw (rest := st.map (tr (eR E))) hX.1 hX.2.1 hX.2.2.1 (hX.word hk) hd (k H locs ls hP hD hS hl)
theorem g_ldc2 {idx : Nat} {v0 v : Int64} (hX : CX E X b own nL) (hd : Dc b pc (.ldc2_w idx) 3 pc2) (hk : Cond.constantLong own idx v0 ∈ lw_gd) (hv : v0 = v) (k : G0 E X ca sa pc2 L (.long v :: st) w) : G0 E X ca sa pc L st w := by
  obtain ⟨hd, rfl⟩ := hd
  subst hv
  intro H locs ls hP hD hS hl
  exact lv_ldc2 (rest := st.map (tr (eR E))) hX.1 hX.2.1 hX.2.2.1 (hX.word hk) hd (k H locs ls hP hD hS hl)
theorem g_ldcS {idx i : Nat} {tx : String} (hX : CX E X b own nL) (hd : Dc b pc (.ldc idx) 2 pc2) (hk : (own, idx, tx, i) ∈ strT) (k : G0 E X ca sa pc2 L (.ref (900 + i) :: st) w) : G0 E X ca sa pc L st w := by
  obtain ⟨hd, rfl⟩ := hd
  intro H locs ls hP hD hS hl
  exact va_ldcS (rest := st.map (tr (eR E))) hX.1 hX.2.1 hX.2.2.1 (hX.str.2.1 _ hk) hd (k H locs ls hP hD hS hl)
theorem g_iincN0 {t : List Value} {x : Nat} (hX : CX E X b own nL) (hd : Dc b pc (.iinc 0 1) 3 pc2) (hn : 0 < nL) (k : G0 E X ca sa pc2 (.int (nI (x + 1)) :: t) st w) : G0 E X ca sa pc (.int (nI x) :: t) st w :=
  g_iinc0 hX hd (by show nI x + 1 = nI (x + 1); exact nI_1 x) hn k
theorem g_iincN1 {a0 : Value} {t : List Value} {x : Nat} (hX : CX E X b own nL) (hd : Dc b pc (.iinc 1 1) 3 pc2) (hp : a0.category = 1) (hn : 1 < nL) (k : G0 E X ca sa pc2 (a0 :: .int (nI (x + 1)) :: t) st w) : G0 E X ca sa pc (a0 :: .int (nI x) :: t) st w :=
  g_iinc1 hX hd (by show nI x + 1 = nI (x + 1); exact nI_1 x) hp hn k
theorem g_iincN2 {a0 a1 : Value} {t : List Value} {x : Nat} (hX : CX E X b own nL) (hd : Dc b pc (.iinc 2 1) 3 pc2) (hp : a1.category = 1) (hn : 2 < nL) (k : G0 E X ca sa pc2 (a0 :: a1 :: .int (nI (x + 1)) :: t) st w) : G0 E X ca sa pc (a0 :: a1 :: .int (nI x) :: t) st w :=
  g_iinc2 hX hd (by show nI x + 1 = nI (x + 1); exact nI_1 x) hp hn k
theorem g_iincN3 {a0 a1 a2 : Value} {t : List Value} {x : Nat} (hX : CX E X b own nL) (hd : Dc b pc (.iinc 3 1) 3 pc2) (hp : a2.category = 1) (hn : 3 < nL) (k : G0 E X ca sa pc2 (a0 :: a1 :: a2 :: .int (nI (x + 1)) :: t) st w) : G0 E X ca sa pc (a0 :: a1 :: a2 :: .int (nI x) :: t) st w :=
  g_iinc3 hX hd (by show nI x + 1 = nI (x + 1); exact nI_1 x) hp hn k
theorem g_iincN4 {a0 a1 a2 a3 : Value} {t : List Value} {x : Nat} (hX : CX E X b own nL) (hd : Dc b pc (.iinc 4 1) 3 pc2) (hp : a3.category = 1) (hn : 4 < nL) (k : G0 E X ca sa pc2 (a0 :: a1 :: a2 :: a3 :: .int (nI (x + 1)) :: t) st w) : G0 E X ca sa pc (a0 :: a1 :: a2 :: a3 :: .int (nI x) :: t) st w :=
  g_iinc4 hX hd (by show nI x + 1 = nI (x + 1); exact nI_1 x) hp hn k
theorem g_iincN5 {a0 a1 a2 a3 a4 : Value} {t : List Value} {x : Nat} (hX : CX E X b own nL) (hd : Dc b pc (.iinc 5 1) 3 pc2) (hp : a4.category = 1) (hn : 5 < nL) (k : G0 E X ca sa pc2 (a0 :: a1 :: a2 :: a3 :: a4 :: .int (nI (x + 1)) :: t) st w) : G0 E X ca sa pc (a0 :: a1 :: a2 :: a3 :: a4 :: .int (nI x) :: t) st w :=
  g_iinc5 hX hd (by show nI x + 1 = nI (x + 1); exact nI_1 x) hp hn k
theorem g_iincN6 {a0 a1 a2 a3 a4 a5 : Value} {t : List Value} {x : Nat} (hX : CX E X b own nL) (hd : Dc b pc (.iinc 6 1) 3 pc2) (hp : a5.category = 1) (hn : 6 < nL) (k : G0 E X ca sa pc2 (a0 :: a1 :: a2 :: a3 :: a4 :: a5 :: .int (nI (x + 1)) :: t) st w) : G0 E X ca sa pc (a0 :: a1 :: a2 :: a3 :: a4 :: a5 :: .int (nI x) :: t) st w :=
  g_iinc6 hX hd (by show nI x + 1 = nI (x + 1); exact nI_1 x) hp hn k
theorem g_iincN7 {a0 a1 a2 a3 a4 a5 a6 : Value} {t : List Value} {x : Nat} (hX : CX E X b own nL) (hd : Dc b pc (.iinc 7 1) 3 pc2) (hp : a6.category = 1) (hn : 7 < nL) (k : G0 E X ca sa pc2 (a0 :: a1 :: a2 :: a3 :: a4 :: a5 :: a6 :: .int (nI (x + 1)) :: t) st w) : G0 E X ca sa pc (a0 :: a1 :: a2 :: a3 :: a4 :: a5 :: a6 :: .int (nI x) :: t) st w :=
  g_iinc7 hX hd (by show nI x + 1 = nI (x + 1); exact nI_1 x) hp hn k
theorem g_iincN8 {a0 a1 a2 a3 a4 a5 a6 a7 : Value} {t : List Value} {x : Nat} (hX : CX E X b own nL) (hd : Dc b pc (.iinc 8 1) 3 pc2) (hp : a7.category = 1) (hn : 8 < nL) (k : G0 E X ca sa pc2 (a0 :: a1 :: a2 :: a3 :: a4 :: a5 :: a6 :: a7 :: .int (nI (x + 1)) :: t) st w) : G0 E X ca sa pc (a0 :: a1 :: a2 :: a3 :: a4 :: a5 :: a6 :: a7 :: .int (nI x) :: t) st w :=
  g_iinc8 hX hd (by show nI x + 1 = nI (x + 1); exact nI_1 x) hp hn k
theorem g_iincN9 {a0 a1 a2 a3 a4 a5 a6 a7 a8 : Value} {t : List Value} {x : Nat} (hX : CX E X b own nL) (hd : Dc b pc (.iinc 9 1) 3 pc2) (hp : a8.category = 1) (hn : 9 < nL) (k : G0 E X ca sa pc2 (a0 :: a1 :: a2 :: a3 :: a4 :: a5 :: a6 :: a7 :: a8 :: .int (nI (x + 1)) :: t) st w) : G0 E X ca sa pc (a0 :: a1 :: a2 :: a3 :: a4 :: a5 :: a6 :: a7 :: a8 :: .int (nI x) :: t) st w :=
  g_iinc9 hX hd (by show nI x + 1 = nI (x + 1); exact nI_1 x) hp hn k
theorem g_iincN10 {a0 a1 a2 a3 a4 a5 a6 a7 a8 a9 : Value} {t : List Value} {x : Nat} (hX : CX E X b own nL) (hd : Dc b pc (.iinc 10 1) 3 pc2) (hp : a9.category = 1) (hn : 10 < nL) (k : G0 E X ca sa pc2 (a0 :: a1 :: a2 :: a3 :: a4 :: a5 :: a6 :: a7 :: a8 :: a9 :: .int (nI (x + 1)) :: t) st w) : G0 E X ca sa pc (a0 :: a1 :: a2 :: a3 :: a4 :: a5 :: a6 :: a7 :: a8 :: a9 :: .int (nI x) :: t) st w :=
  g_iinc10 hX hd (by show nI x + 1 = nI (x + 1); exact nI_1 x) hp hn k
theorem g_iincN11 {a0 a1 a2 a3 a4 a5 a6 a7 a8 a9 a10 : Value} {t : List Value} {x : Nat} (hX : CX E X b own nL) (hd : Dc b pc (.iinc 11 1) 3 pc2) (hp : a10.category = 1) (hn : 11 < nL) (k : G0 E X ca sa pc2 (a0 :: a1 :: a2 :: a3 :: a4 :: a5 :: a6 :: a7 :: a8 :: a9 :: a10 :: .int (nI (x + 1)) :: t) st w) : G0 E X ca sa pc (a0 :: a1 :: a2 :: a3 :: a4 :: a5 :: a6 :: a7 :: a8 :: a9 :: a10 :: .int (nI x) :: t) st w :=
  g_iinc11 hX hd (by show nI x + 1 = nI (x + 1); exact nI_1 x) hp hn k
theorem g_iincN12 {a0 a1 a2 a3 a4 a5 a6 a7 a8 a9 a10 a11 : Value} {t : List Value} {x : Nat} (hX : CX E X b own nL) (hd : Dc b pc (.iinc 12 1) 3 pc2) (hp : a11.category = 1) (hn : 12 < nL) (k : G0 E X ca sa pc2 (a0 :: a1 :: a2 :: a3 :: a4 :: a5 :: a6 :: a7 :: a8 :: a9 :: a10 :: a11 :: .int (nI (x + 1)) :: t) st w) : G0 E X ca sa pc (a0 :: a1 :: a2 :: a3 :: a4 :: a5 :: a6 :: a7 :: a8 :: a9 :: a10 :: a11 :: .int (nI x) :: t) st w :=
  g_iinc12 hX hd (by show nI x + 1 = nI (x + 1); exact nI_1 x) hp hn k
theorem g_iincN13 {a0 a1 a2 a3 a4 a5 a6 a7 a8 a9 a10 a11 a12 : Value} {t : List Value} {x : Nat} (hX : CX E X b own nL) (hd : Dc b pc (.iinc 13 1) 3 pc2) (hp : a12.category = 1) (hn : 13 < nL) (k : G0 E X ca sa pc2 (a0 :: a1 :: a2 :: a3 :: a4 :: a5 :: a6 :: a7 :: a8 :: a9 :: a10 :: a11 :: a12 :: .int (nI (x + 1)) :: t) st w) : G0 E X ca sa pc (a0 :: a1 :: a2 :: a3 :: a4 :: a5 :: a6 :: a7 :: a8 :: a9 :: a10 :: a11 :: a12 :: .int (nI x) :: t) st w :=
  g_iinc13 hX hd (by show nI x + 1 = nI (x + 1); exact nI_1 x) hp hn k
theorem g_iincM0 {t : List Value} {x m : Nat} {z : Int} (hX : CX E X b own nL) (hd : Dc b pc (.iinc 0 z) 3 pc2) (hz : Int32.ofInt z = nI m) (hn : 0 < nL) (k : G0 E X ca sa pc2 (.int (nI (x + m)) :: t) st w) : G0 E X ca sa pc (.int (nI x) :: t) st w :=
  g_iinc0 hX hd (by rw [hz]; exact nI_add x m) hn k
theorem g_iincM1 {a0 : Value} {t : List Value} {x m : Nat} {z : Int} (hX : CX E X b own nL) (hd : Dc b pc (.iinc 1 z) 3 pc2) (hz : Int32.ofInt z = nI m) (hp : a0.category = 1) (hn : 1 < nL) (k : G0 E X ca sa pc2 (a0 :: .int (nI (x + m)) :: t) st w) : G0 E X ca sa pc (a0 :: .int (nI x) :: t) st w :=
  g_iinc1 hX hd (by rw [hz]; exact nI_add x m) hp hn k
theorem g_iincM2 {a0 a1 : Value} {t : List Value} {x m : Nat} {z : Int} (hX : CX E X b own nL) (hd : Dc b pc (.iinc 2 z) 3 pc2) (hz : Int32.ofInt z = nI m) (hp : a1.category = 1) (hn : 2 < nL) (k : G0 E X ca sa pc2 (a0 :: a1 :: .int (nI (x + m)) :: t) st w) : G0 E X ca sa pc (a0 :: a1 :: .int (nI x) :: t) st w :=
  g_iinc2 hX hd (by rw [hz]; exact nI_add x m) hp hn k
theorem g_iincM3 {a0 a1 a2 : Value} {t : List Value} {x m : Nat} {z : Int} (hX : CX E X b own nL) (hd : Dc b pc (.iinc 3 z) 3 pc2) (hz : Int32.ofInt z = nI m) (hp : a2.category = 1) (hn : 3 < nL) (k : G0 E X ca sa pc2 (a0 :: a1 :: a2 :: .int (nI (x + m)) :: t) st w) : G0 E X ca sa pc (a0 :: a1 :: a2 :: .int (nI x) :: t) st w :=
  g_iinc3 hX hd (by rw [hz]; exact nI_add x m) hp hn k
theorem g_iincM4 {a0 a1 a2 a3 : Value} {t : List Value} {x m : Nat} {z : Int} (hX : CX E X b own nL) (hd : Dc b pc (.iinc 4 z) 3 pc2) (hz : Int32.ofInt z = nI m) (hp : a3.category = 1) (hn : 4 < nL) (k : G0 E X ca sa pc2 (a0 :: a1 :: a2 :: a3 :: .int (nI (x + m)) :: t) st w) : G0 E X ca sa pc (a0 :: a1 :: a2 :: a3 :: .int (nI x) :: t) st w :=
  g_iinc4 hX hd (by rw [hz]; exact nI_add x m) hp hn k
theorem g_iincM5 {a0 a1 a2 a3 a4 : Value} {t : List Value} {x m : Nat} {z : Int} (hX : CX E X b own nL) (hd : Dc b pc (.iinc 5 z) 3 pc2) (hz : Int32.ofInt z = nI m) (hp : a4.category = 1) (hn : 5 < nL) (k : G0 E X ca sa pc2 (a0 :: a1 :: a2 :: a3 :: a4 :: .int (nI (x + m)) :: t) st w) : G0 E X ca sa pc (a0 :: a1 :: a2 :: a3 :: a4 :: .int (nI x) :: t) st w :=
  g_iinc5 hX hd (by rw [hz]; exact nI_add x m) hp hn k
theorem g_iincM6 {a0 a1 a2 a3 a4 a5 : Value} {t : List Value} {x m : Nat} {z : Int} (hX : CX E X b own nL) (hd : Dc b pc (.iinc 6 z) 3 pc2) (hz : Int32.ofInt z = nI m) (hp : a5.category = 1) (hn : 6 < nL) (k : G0 E X ca sa pc2 (a0 :: a1 :: a2 :: a3 :: a4 :: a5 :: .int (nI (x + m)) :: t) st w) : G0 E X ca sa pc (a0 :: a1 :: a2 :: a3 :: a4 :: a5 :: .int (nI x) :: t) st w :=
  g_iinc6 hX hd (by rw [hz]; exact nI_add x m) hp hn k
theorem g_iincM7 {a0 a1 a2 a3 a4 a5 a6 : Value} {t : List Value} {x m : Nat} {z : Int} (hX : CX E X b own nL) (hd : Dc b pc (.iinc 7 z) 3 pc2) (hz : Int32.ofInt z = nI m) (hp : a6.category = 1) (hn : 7 < nL) (k : G0 E X ca sa pc2 (a0 :: a1 :: a2 :: a3 :: a4 :: a5 :: a6 :: .int (nI (x + m)) :: t) st w) : G0 E X ca sa pc (a0 :: a1 :: a2 :: a3 :: a4 :: a5 :: a6 :: .int (nI x) :: t) st w :=
  g_iinc7 hX hd (by rw [hz]; exact nI_add x m) hp hn k
theorem g_iincM8 {a0 a1 a2 a3 a4 a5 a6 a7 : Value} {t : List Value} {x m : Nat} {z : Int} (hX : CX E X b own nL) (hd : Dc b pc (.iinc 8 z) 3 pc2) (hz : Int32.ofInt z = nI m) (hp : a7.category = 1) (hn : 8 < nL) (k : G0 E X ca sa pc2 (a0 :: a1 :: a2 :: a3 :: a4 :: a5 :: a6 :: a7 :: .int (nI (x + m)) :: t) st w) : G0 E X ca sa pc (a0 :: a1 :: a2 :: a3 :: a4 :: a5 :: a6 :: a7 :: .int (nI x) :: t) st w :=
  g_iinc8 hX hd (by rw [hz]; exact nI_add x m) hp hn k
theorem g_iincM9 {a0 a1 a2 a3 a4 a5 a6 a7 a8 : Value} {t : List Value} {x m : Nat} {z : Int} (hX : CX E X b own nL) (hd : Dc b pc (.iinc 9 z) 3 pc2) (hz : Int32.ofInt z = nI m) (hp : a8.category = 1) (hn : 9 < nL) (k : G0 E X ca sa pc2 (a0 :: a1 :: a2 :: a3 :: a4 :: a5 :: a6 :: a7 :: a8 :: .int (nI (x + m)) :: t) st w) : G0 E X ca sa pc (a0 :: a1 :: a2 :: a3 :: a4 :: a5 :: a6 :: a7 :: a8 :: .int (nI x) :: t) st w :=
  g_iinc9 hX hd (by rw [hz]; exact nI_add x m) hp hn k
theorem g_iincM10 {a0 a1 a2 a3 a4 a5 a6 a7 a8 a9 : Value} {t : List Value} {x m : Nat} {z : Int} (hX : CX E X b own nL) (hd : Dc b pc (.iinc 10 z) 3 pc2) (hz : Int32.ofInt z = nI m) (hp : a9.category = 1) (hn : 10 < nL) (k : G0 E X ca sa pc2 (a0 :: a1 :: a2 :: a3 :: a4 :: a5 :: a6 :: a7 :: a8 :: a9 :: .int (nI (x + m)) :: t) st w) : G0 E X ca sa pc (a0 :: a1 :: a2 :: a3 :: a4 :: a5 :: a6 :: a7 :: a8 :: a9 :: .int (nI x) :: t) st w :=
  g_iinc10 hX hd (by rw [hz]; exact nI_add x m) hp hn k
theorem g_iincM11 {a0 a1 a2 a3 a4 a5 a6 a7 a8 a9 a10 : Value} {t : List Value} {x m : Nat} {z : Int} (hX : CX E X b own nL) (hd : Dc b pc (.iinc 11 z) 3 pc2) (hz : Int32.ofInt z = nI m) (hp : a10.category = 1) (hn : 11 < nL) (k : G0 E X ca sa pc2 (a0 :: a1 :: a2 :: a3 :: a4 :: a5 :: a6 :: a7 :: a8 :: a9 :: a10 :: .int (nI (x + m)) :: t) st w) : G0 E X ca sa pc (a0 :: a1 :: a2 :: a3 :: a4 :: a5 :: a6 :: a7 :: a8 :: a9 :: a10 :: .int (nI x) :: t) st w :=
  g_iinc11 hX hd (by rw [hz]; exact nI_add x m) hp hn k
theorem g_iincM12 {a0 a1 a2 a3 a4 a5 a6 a7 a8 a9 a10 a11 : Value} {t : List Value} {x m : Nat} {z : Int} (hX : CX E X b own nL) (hd : Dc b pc (.iinc 12 z) 3 pc2) (hz : Int32.ofInt z = nI m) (hp : a11.category = 1) (hn : 12 < nL) (k : G0 E X ca sa pc2 (a0 :: a1 :: a2 :: a3 :: a4 :: a5 :: a6 :: a7 :: a8 :: a9 :: a10 :: a11 :: .int (nI (x + m)) :: t) st w) : G0 E X ca sa pc (a0 :: a1 :: a2 :: a3 :: a4 :: a5 :: a6 :: a7 :: a8 :: a9 :: a10 :: a11 :: .int (nI x) :: t) st w :=
  g_iinc12 hX hd (by rw [hz]; exact nI_add x m) hp hn k
theorem g_iincM13 {a0 a1 a2 a3 a4 a5 a6 a7 a8 a9 a10 a11 a12 : Value} {t : List Value} {x m : Nat} {z : Int} (hX : CX E X b own nL) (hd : Dc b pc (.iinc 13 z) 3 pc2) (hz : Int32.ofInt z = nI m) (hp : a12.category = 1) (hn : 13 < nL) (k : G0 E X ca sa pc2 (a0 :: a1 :: a2 :: a3 :: a4 :: a5 :: a6 :: a7 :: a8 :: a9 :: a10 :: a11 :: a12 :: .int (nI (x + m)) :: t) st w) : G0 E X ca sa pc (a0 :: a1 :: a2 :: a3 :: a4 :: a5 :: a6 :: a7 :: a8 :: a9 :: a10 :: a11 :: a12 :: .int (nI x) :: t) st w :=
  g_iinc13 hX hd (by rw [hz]; exact nI_add x m) hp hn k
end G4
