def m_D_init : MR := (⟨"SubgraphDesk", "<init>", "()V"⟩, prog_1_method_1_code, 2, none)
theorem cf_D_init : CF m_D_init 0 := ⟨gd 164 (by decide +kernel) rfl, gd 139 (by decide +kernel) rfl, by decide +kernel, by decide, by decide +kernel⟩
theorem ci_D_init : Cond.instanceMethod m_D_init.1 ∈ lw_gd := gd 163 (by decide +kernel) rfl
theorem d_D_init_0 : Dc prog_1_method_1_code 0 (.aload_n 0) 1 1 := ⟨by decide +kernel, rfl⟩
theorem d_D_init_1 : Dc prog_1_method_1_code 1 (.invokespecial 1) 3 4 := ⟨by decide +kernel, rfl⟩
theorem d_D_init_4 : Dc prog_1_method_1_code 4 (.aload_n 0) 1 5 := ⟨by decide +kernel, rfl⟩
theorem d_D_init_5 : Dc prog_1_method_1_code 5 (.new 7) 3 8 := ⟨by decide +kernel, rfl⟩
theorem d_D_init_8 : Dc prog_1_method_1_code 8 (.dup) 1 9 := ⟨by decide +kernel, rfl⟩
theorem d_D_init_9 : Dc prog_1_method_1_code 9 (.invokespecial 9) 3 12 := ⟨by decide +kernel, rfl⟩
theorem d_D_init_12 : Dc prog_1_method_1_code 12 (.putfield 10) 3 15 := ⟨by decide +kernel, rfl⟩
theorem d_D_init_15 : Dc prog_1_method_1_code 15 (.aload_n 0) 1 16 := ⟨by decide +kernel, rfl⟩
theorem d_D_init_16 : Dc prog_1_method_1_code 16 (.iconst 2) 1 17 := ⟨by decide +kernel, rfl⟩
theorem d_D_init_17 : Dc prog_1_method_1_code 17 (.anewarray 7) 3 20 := ⟨by decide +kernel, rfl⟩
theorem d_D_init_20 : Dc prog_1_method_1_code 20 (.putfield 16) 3 23 := ⟨by decide +kernel, rfl⟩
theorem d_D_init_23 : Dc prog_1_method_1_code 23 (.aload_n 0) 1 24 := ⟨by decide +kernel, rfl⟩
theorem d_D_init_24 : Dc prog_1_method_1_code 24 (.new 7) 3 27 := ⟨by decide +kernel, rfl⟩
theorem d_D_init_27 : Dc prog_1_method_1_code 27 (.dup) 1 28 := ⟨by decide +kernel, rfl⟩
theorem d_D_init_28 : Dc prog_1_method_1_code 28 (.invokespecial 9) 3 31 := ⟨by decide +kernel, rfl⟩
theorem d_D_init_31 : Dc prog_1_method_1_code 31 (.putfield 20) 3 34 := ⟨by decide +kernel, rfl⟩
theorem d_D_init_34 : Dc prog_1_method_1_code 34 (.aload_n 0) 1 35 := ⟨by decide +kernel, rfl⟩
theorem d_D_init_35 : Dc prog_1_method_1_code 35 (.new 23) 3 38 := ⟨by decide +kernel, rfl⟩
theorem d_D_init_38 : Dc prog_1_method_1_code 38 (.dup) 1 39 := ⟨by decide +kernel, rfl⟩
theorem d_D_init_39 : Dc prog_1_method_1_code 39 (.invokespecial 25) 3 42 := ⟨by decide +kernel, rfl⟩
theorem d_D_init_42 : Dc prog_1_method_1_code 42 (.putfield 26) 3 45 := ⟨by decide +kernel, rfl⟩
theorem d_D_init_45 : Dc prog_1_method_1_code 45 (.aload_n 0) 1 46 := ⟨by decide +kernel, rfl⟩
theorem d_D_init_46 : Dc prog_1_method_1_code 46 (.new 30) 3 49 := ⟨by decide +kernel, rfl⟩
theorem d_D_init_49 : Dc prog_1_method_1_code 49 (.dup) 1 50 := ⟨by decide +kernel, rfl⟩
theorem d_D_init_50 : Dc prog_1_method_1_code 50 (.invokespecial 32) 3 53 := ⟨by decide +kernel, rfl⟩
theorem d_D_init_53 : Dc prog_1_method_1_code 53 (.putfield 33) 3 56 := ⟨by decide +kernel, rfl⟩
theorem d_D_init_56 : Dc prog_1_method_1_code 56 (.aload_n 0) 1 57 := ⟨by decide +kernel, rfl⟩
theorem d_D_init_57 : Dc prog_1_method_1_code 57 (.new 37) 3 60 := ⟨by decide +kernel, rfl⟩
theorem d_D_init_60 : Dc prog_1_method_1_code 60 (.dup) 1 61 := ⟨by decide +kernel, rfl⟩
theorem d_D_init_61 : Dc prog_1_method_1_code 61 (.invokespecial 39) 3 64 := ⟨by decide +kernel, rfl⟩
theorem d_D_init_64 : Dc prog_1_method_1_code 64 (.putfield 40) 3 67 := ⟨by decide +kernel, rfl⟩
theorem d_D_init_67 : Dc prog_1_method_1_code 67 (.aload_n 0) 1 68 := ⟨by decide +kernel, rfl⟩
theorem d_D_init_68 : Dc prog_1_method_1_code 68 (.new 44) 3 71 := ⟨by decide +kernel, rfl⟩
theorem d_D_init_71 : Dc prog_1_method_1_code 71 (.dup) 1 72 := ⟨by decide +kernel, rfl⟩
theorem d_D_init_72 : Dc prog_1_method_1_code 72 (.invokespecial 46) 3 75 := ⟨by decide +kernel, rfl⟩
theorem d_D_init_75 : Dc prog_1_method_1_code 75 (.putfield 47) 3 78 := ⟨by decide +kernel, rfl⟩
theorem d_D_init_78 : Dc prog_1_method_1_code 78 (.aload_n 0) 1 79 := ⟨by decide +kernel, rfl⟩
theorem d_D_init_79 : Dc prog_1_method_1_code 79 (.new 51) 3 82 := ⟨by decide +kernel, rfl⟩
theorem d_D_init_82 : Dc prog_1_method_1_code 82 (.dup) 1 83 := ⟨by decide +kernel, rfl⟩
theorem d_D_init_83 : Dc prog_1_method_1_code 83 (.invokespecial 53) 3 86 := ⟨by decide +kernel, rfl⟩
theorem d_D_init_86 : Dc prog_1_method_1_code 86 (.putfield 54) 3 89 := ⟨by decide +kernel, rfl⟩
theorem d_D_init_89 : Dc prog_1_method_1_code 89 (.aload_n 0) 1 90 := ⟨by decide +kernel, rfl⟩
theorem d_D_init_90 : Dc prog_1_method_1_code 90 (.new 58) 3 93 := ⟨by decide +kernel, rfl⟩
theorem d_D_init_93 : Dc prog_1_method_1_code 93 (.dup) 1 94 := ⟨by decide +kernel, rfl⟩
theorem d_D_init_94 : Dc prog_1_method_1_code 94 (.invokespecial 60) 3 97 := ⟨by decide +kernel, rfl⟩
theorem d_D_init_97 : Dc prog_1_method_1_code 97 (.putfield 61) 3 100 := ⟨by decide +kernel, rfl⟩
theorem d_D_init_100 : Dc prog_1_method_1_code 100 (.aload_n 0) 1 101 := ⟨by decide +kernel, rfl⟩
theorem d_D_init_101 : Dc prog_1_method_1_code 101 (.new 65) 3 104 := ⟨by decide +kernel, rfl⟩
theorem d_D_init_104 : Dc prog_1_method_1_code 104 (.dup) 1 105 := ⟨by decide +kernel, rfl⟩
theorem d_D_init_105 : Dc prog_1_method_1_code 105 (.invokespecial 67) 3 108 := ⟨by decide +kernel, rfl⟩
theorem d_D_init_108 : Dc prog_1_method_1_code 108 (.putfield 68) 3 111 := ⟨by decide +kernel, rfl⟩
theorem d_D_init_111 : Dc prog_1_method_1_code 111 (.aload_n 0) 1 112 := ⟨by decide +kernel, rfl⟩
theorem d_D_init_112 : Dc prog_1_method_1_code 112 (.new 72) 3 115 := ⟨by decide +kernel, rfl⟩
theorem d_D_init_115 : Dc prog_1_method_1_code 115 (.dup) 1 116 := ⟨by decide +kernel, rfl⟩
theorem d_D_init_116 : Dc prog_1_method_1_code 116 (.invokespecial 74) 3 119 := ⟨by decide +kernel, rfl⟩
theorem d_D_init_119 : Dc prog_1_method_1_code 119 (.putfield 75) 3 122 := ⟨by decide +kernel, rfl⟩
theorem d_D_init_122 : Dc prog_1_method_1_code 122 (.aload_n 0) 1 123 := ⟨by decide +kernel, rfl⟩
theorem d_D_init_123 : Dc prog_1_method_1_code 123 (.bipush 20) 2 125 := ⟨by decide +kernel, rfl⟩
theorem d_D_init_125 : Dc prog_1_method_1_code 125 (.newarray .long) 2 127 := ⟨by decide +kernel, rfl⟩
theorem d_D_init_127 : Dc prog_1_method_1_code 127 (.putfield 79) 3 130 := ⟨by decide +kernel, rfl⟩
theorem d_D_init_130 : Dc prog_1_method_1_code 130 (.aload_n 0) 1 131 := ⟨by decide +kernel, rfl⟩
theorem d_D_init_131 : Dc prog_1_method_1_code 131 (.iconst 5) 1 132 := ⟨by decide +kernel, rfl⟩
theorem d_D_init_132 : Dc prog_1_method_1_code 132 (.newarray .int) 2 134 := ⟨by decide +kernel, rfl⟩
theorem d_D_init_134 : Dc prog_1_method_1_code 134 (.putfield 83) 3 137 := ⟨by decide +kernel, rfl⟩
theorem d_D_init_137 : Dc prog_1_method_1_code 137 (.iconst 0) 1 138 := ⟨by decide +kernel, rfl⟩
theorem d_D_init_138 : Dc prog_1_method_1_code 138 (.istore_n 1) 1 139 := ⟨by decide +kernel, rfl⟩
theorem d_D_init_139 : Dc prog_1_method_1_code 139 (.iload_n 1) 1 140 := ⟨by decide +kernel, rfl⟩
theorem d_D_init_140 : Dc prog_1_method_1_code 140 (.iconst 2) 1 141 := ⟨by decide +kernel, rfl⟩
theorem d_D_init_141 : Dj prog_1_method_1_code 141 (.if_icmp .ge 22) 144 22 163 := ⟨by decide +kernel, rfl, rfl⟩
theorem d_D_init_144 : Dc prog_1_method_1_code 144 (.aload_n 0) 1 145 := ⟨by decide +kernel, rfl⟩
theorem d_D_init_145 : Dc prog_1_method_1_code 145 (.getfield 16) 3 148 := ⟨by decide +kernel, rfl⟩
theorem d_D_init_148 : Dc prog_1_method_1_code 148 (.iload_n 1) 1 149 := ⟨by decide +kernel, rfl⟩
theorem d_D_init_149 : Dc prog_1_method_1_code 149 (.new 7) 3 152 := ⟨by decide +kernel, rfl⟩
theorem d_D_init_152 : Dc prog_1_method_1_code 152 (.dup) 1 153 := ⟨by decide +kernel, rfl⟩
theorem d_D_init_153 : Dc prog_1_method_1_code 153 (.invokespecial 9) 3 156 := ⟨by decide +kernel, rfl⟩
theorem d_D_init_156 : Dc prog_1_method_1_code 156 (.aastore) 1 157 := ⟨by decide +kernel, rfl⟩
theorem d_D_init_157 : Dc prog_1_method_1_code 157 (.iinc 1 1) 3 160 := ⟨by decide +kernel, rfl⟩
theorem d_D_init_160 : Dj prog_1_method_1_code 160 (.goto (-21)) 163 (-21) 139 := ⟨by decide +kernel, rfl, rfl⟩
theorem d_D_init_163 : Dc prog_1_method_1_code 163 (.return_) 1 164 := ⟨by decide +kernel, rfl⟩
theorem ml_D_9 : Cond.methodLink "SubgraphDesk" 9 m_Bo_init.1 ∈ lw_gd := gd 170 (by decide +kernel) rfl
theorem bl_Bo {E : EV} {b0 : Nat} : (blk_Bo E b0).length = 9 := rfl
theorem bl_Ac {E : EV} {b0 : Nat} : (blk_Ac E b0).length = 5 := rfl
theorem bl_Re {E : EV} {b0 : Nat} : (blk_Re E b0).length = 6 := rfl
theorem bl_Le {E : EV} {b0 : Nat} : (blk_Le E b0).length = 5 := rfl
theorem bl_Wa {E : EV} {b0 : Nat} : (blk_Wa E b0).length = 6 := rfl
theorem bl_Si {E : EV} {b0 : Nat} : (blk_Si E b0).length = 3 := rfl
theorem bl_Hu {E : EV} {b0 : Nat} : (blk_Hu E b0).length = 2 := rfl
theorem bl_Li {E : EV} {b0 : Nat} : (blk_Li E b0).length = 6 := rfl
theorem bl_Ru {E : EV} {b0 : Nat} : (blk_Ru E b0).length = 16 := rfl
theorem bh_Bo {E : EV} {b0 : Nat} : ∃ vs, (blk_Bo E b0)[0]? = some (.inr (2, vs)) := ⟨_, rfl⟩
def dk_0 (E : EV) (b0 : Nat) : List va_E := []
theorem dkl_0 {E : EV} {b0 : Nat} : (dk_0 E b0).length = 0 := rfl
def dk_1 (E : EV) (b0 : Nat) : List va_E := dk_0 E b0 ++ blk_Bo E (b0 + 1)
theorem dkl_1 {E : EV} {b0 : Nat} : (dk_1 E b0).length = 9 := by unfold dk_1; rw [List.length_append, dkl_0, bl_Bo]
theorem dkd_1 {E : EV} {b0 : Nat} : dk_0 E b0 ++ blk_Bo E (b0 + 1) = dk_1 E b0 := rfl
def dk_2 (E : EV) (b0 : Nat) : List va_E := dk_1 E b0 ++ [.inl (eC E 4, 2, .inr (.inr (.inr (.inr (fun _ => none)))))]
theorem dkl_2 {E : EV} {b0 : Nat} : (dk_2 E b0).length = 10 := by unfold dk_2; rw [List.length_append, dkl_1]; rfl
theorem dkd_2 {E : EV} {b0 : Nat} : dk_1 E b0 ++ [.inl (eC E 4, 2, .inr (.inr (.inr (.inr (fun _ => none)))))] = dk_2 E b0 := rfl
def dk_3 (E : EV) (b0 : Nat) : List va_E := dk_2 E b0 ++ blk_Bo E (b0 + 11)
theorem dkl_3 {E : EV} {b0 : Nat} : (dk_3 E b0).length = 19 := by unfold dk_3; rw [List.length_append, dkl_2, bl_Bo]
theorem dkd_3 {E : EV} {b0 : Nat} : dk_2 E b0 ++ blk_Bo E (b0 + 11) = dk_3 E b0 := rfl
def dk_4 (E : EV) (b0 : Nat) : List va_E := dk_3 E b0 ++ blk_Ac E (b0 + 20)
theorem dkl_4 {E : EV} {b0 : Nat} : (dk_4 E b0).length = 24 := by unfold dk_4; rw [List.length_append, dkl_3, bl_Ac]
theorem dkd_4 {E : EV} {b0 : Nat} : dk_3 E b0 ++ blk_Ac E (b0 + 20) = dk_4 E b0 := rfl
def dk_5 (E : EV) (b0 : Nat) : List va_E := dk_4 E b0 ++ blk_Re E (b0 + 25)
theorem dkl_5 {E : EV} {b0 : Nat} : (dk_5 E b0).length = 30 := by unfold dk_5; rw [List.length_append, dkl_4, bl_Re]
theorem dkd_5 {E : EV} {b0 : Nat} : dk_4 E b0 ++ blk_Re E (b0 + 25) = dk_5 E b0 := rfl
def dk_6 (E : EV) (b0 : Nat) : List va_E := dk_5 E b0 ++ blk_Le E (b0 + 31)
theorem dkl_6 {E : EV} {b0 : Nat} : (dk_6 E b0).length = 35 := by unfold dk_6; rw [List.length_append, dkl_5, bl_Le]
theorem dkd_6 {E : EV} {b0 : Nat} : dk_5 E b0 ++ blk_Le E (b0 + 31) = dk_6 E b0 := rfl
def dk_7 (E : EV) (b0 : Nat) : List va_E := dk_6 E b0 ++ blk_Wa E (b0 + 36)
theorem dkl_7 {E : EV} {b0 : Nat} : (dk_7 E b0).length = 41 := by unfold dk_7; rw [List.length_append, dkl_6, bl_Wa]
theorem dkd_7 {E : EV} {b0 : Nat} : dk_6 E b0 ++ blk_Wa E (b0 + 36) = dk_7 E b0 := rfl
def dk_8 (E : EV) (b0 : Nat) : List va_E := dk_7 E b0 ++ blk_Si E (b0 + 42)
theorem dkl_8 {E : EV} {b0 : Nat} : (dk_8 E b0).length = 44 := by unfold dk_8; rw [List.length_append, dkl_7, bl_Si]
theorem dkd_8 {E : EV} {b0 : Nat} : dk_7 E b0 ++ blk_Si E (b0 + 42) = dk_8 E b0 := rfl
def dk_9 (E : EV) (b0 : Nat) : List va_E := dk_8 E b0 ++ blk_Hu E (b0 + 45)
theorem dkl_9 {E : EV} {b0 : Nat} : (dk_9 E b0).length = 46 := by unfold dk_9; rw [List.length_append, dkl_8, bl_Hu]
theorem dkd_9 {E : EV} {b0 : Nat} : dk_8 E b0 ++ blk_Hu E (b0 + 45) = dk_9 E b0 := rfl
def dk_10 (E : EV) (b0 : Nat) : List va_E := dk_9 E b0 ++ blk_Li E (b0 + 47)
theorem dkl_10 {E : EV} {b0 : Nat} : (dk_10 E b0).length = 52 := by unfold dk_10; rw [List.length_append, dkl_9, bl_Li]
theorem dkd_10 {E : EV} {b0 : Nat} : dk_9 E b0 ++ blk_Li E (b0 + 47) = dk_10 E b0 := rfl
def dk_11 (E : EV) (b0 : Nat) : List va_E := dk_10 E b0 ++ blk_Ru E (b0 + 53)
theorem dkl_11 {E : EV} {b0 : Nat} : (dk_11 E b0).length = 68 := by unfold dk_11; rw [List.length_append, dkl_10, bl_Ru]
theorem dkd_11 {E : EV} {b0 : Nat} : dk_10 E b0 ++ blk_Ru E (b0 + 53) = dk_11 E b0 := rfl
def dk_12 (E : EV) (b0 : Nat) : List va_E := dk_11 E b0 ++ [.inl (eC E 1, 20, .inr (.inl (fun _ => 0)))]
theorem dkl_12 {E : EV} {b0 : Nat} : (dk_12 E b0).length = 69 := by unfold dk_12; rw [List.length_append, dkl_11]; rfl
theorem dkd_12 {E : EV} {b0 : Nat} : dk_11 E b0 ++ [.inl (eC E 1, 20, .inr (.inl (fun _ => 0)))] = dk_12 E b0 := rfl
def dk_13 (E : EV) (b0 : Nat) : List va_E := dk_12 E b0 ++ [.inl (eC E 0, 5, .inl (fun _ => 0))]
theorem dkl_13 {E : EV} {b0 : Nat} : (dk_13 E b0).length = 70 := by unfold dk_13; rw [List.length_append, dkl_12]; rfl
theorem dkd_13 {E : EV} {b0 : Nat} : dk_12 E b0 ++ [.inl (eC E 0, 5, .inl (fun _ => 0))] = dk_13 E b0 := rfl
def dk_14 (E : EV) (b0 : Nat) : List va_E := dk_13 E b0 ++ blk_Bo E (b0 + 71)
theorem dkl_14 {E : EV} {b0 : Nat} : (dk_14 E b0).length = 79 := by unfold dk_14; rw [List.length_append, dkl_13, bl_Bo]
theorem dkd_14 {E : EV} {b0 : Nat} : dk_13 E b0 ++ blk_Bo E (b0 + 71) = dk_14 E b0 := rfl
theorem dki_2 {E : EV} {b0 : Nat} : (dk_2 E b0)[9]? = some (.inl (eC E 4, 2, .inr (.inr (.inr (.inr (fun _ => none)))))) := by
  unfold dk_2
  rw [List.getElem?_append_right (by rw [dkl_1]; exact Nat.le_refl _), dkl_1]
  rfl
theorem dki_3 {E : EV} {b0 : Nat} : (dk_3 E b0)[9]? = some (.inl (eC E 4, 2, .inr (.inr (.inr (.inr (fun _ => none)))))) := by
  unfold dk_3
  rw [List.getElem?_append_left (by rw [dkl_2]; exact Nat.le_of_ble_eq_true rfl)]
  exact dki_2
theorem dki_4 {E : EV} {b0 : Nat} : (dk_4 E b0)[9]? = some (.inl (eC E 4, 2, .inr (.inr (.inr (.inr (fun _ => none)))))) := by
  unfold dk_4
  rw [List.getElem?_append_left (by rw [dkl_3]; exact Nat.le_of_ble_eq_true rfl)]
  exact dki_3
theorem dki_5 {E : EV} {b0 : Nat} : (dk_5 E b0)[9]? = some (.inl (eC E 4, 2, .inr (.inr (.inr (.inr (fun _ => none)))))) := by
  unfold dk_5
  rw [List.getElem?_append_left (by rw [dkl_4]; exact Nat.le_of_ble_eq_true rfl)]
  exact dki_4
theorem dki_6 {E : EV} {b0 : Nat} : (dk_6 E b0)[9]? = some (.inl (eC E 4, 2, .inr (.inr (.inr (.inr (fun _ => none)))))) := by
  unfold dk_6
  rw [List.getElem?_append_left (by rw [dkl_5]; exact Nat.le_of_ble_eq_true rfl)]
  exact dki_5
theorem dki_7 {E : EV} {b0 : Nat} : (dk_7 E b0)[9]? = some (.inl (eC E 4, 2, .inr (.inr (.inr (.inr (fun _ => none)))))) := by
  unfold dk_7
  rw [List.getElem?_append_left (by rw [dkl_6]; exact Nat.le_of_ble_eq_true rfl)]
  exact dki_6
theorem dki_8 {E : EV} {b0 : Nat} : (dk_8 E b0)[9]? = some (.inl (eC E 4, 2, .inr (.inr (.inr (.inr (fun _ => none)))))) := by
  unfold dk_8
  rw [List.getElem?_append_left (by rw [dkl_7]; exact Nat.le_of_ble_eq_true rfl)]
  exact dki_7
theorem dki_9 {E : EV} {b0 : Nat} : (dk_9 E b0)[9]? = some (.inl (eC E 4, 2, .inr (.inr (.inr (.inr (fun _ => none)))))) := by
  unfold dk_9
  rw [List.getElem?_append_left (by rw [dkl_8]; exact Nat.le_of_ble_eq_true rfl)]
  exact dki_8
theorem dki_10 {E : EV} {b0 : Nat} : (dk_10 E b0)[9]? = some (.inl (eC E 4, 2, .inr (.inr (.inr (.inr (fun _ => none)))))) := by
  unfold dk_10
  rw [List.getElem?_append_left (by rw [dkl_9]; exact Nat.le_of_ble_eq_true rfl)]
  exact dki_9
theorem dki_11 {E : EV} {b0 : Nat} : (dk_11 E b0)[9]? = some (.inl (eC E 4, 2, .inr (.inr (.inr (.inr (fun _ => none)))))) := by
  unfold dk_11
  rw [List.getElem?_append_left (by rw [dkl_10]; exact Nat.le_of_ble_eq_true rfl)]
  exact dki_10
theorem dki_12 {E : EV} {b0 : Nat} : (dk_12 E b0)[9]? = some (.inl (eC E 4, 2, .inr (.inr (.inr (.inr (fun _ => none)))))) := by
  unfold dk_12
  rw [List.getElem?_append_left (by rw [dkl_11]; exact Nat.le_of_ble_eq_true rfl)]
  exact dki_11
theorem dki_13 {E : EV} {b0 : Nat} : (dk_13 E b0)[9]? = some (.inl (eC E 4, 2, .inr (.inr (.inr (.inr (fun _ => none)))))) := by
  unfold dk_13
  rw [List.getElem?_append_left (by rw [dkl_12]; exact Nat.le_of_ble_eq_true rfl)]
  exact dki_12
theorem dki_14 {E : EV} {b0 : Nat} : (dk_14 E b0)[9]? = some (.inl (eC E 4, 2, .inr (.inr (.inr (.inr (fun _ => none)))))) := by
  unfold dk_14
  rw [List.getElem?_append_left (by rw [dkl_13]; exact Nat.le_of_ble_eq_true rfl)]
  exact dki_13
theorem dkb_14 {E : EV} {b0 : Nat} : ∃ vs, (dk_14 E b0)[70]? = some (.inr (2, vs)) := by
  obtain ⟨vs, h⟩ := bh_Bo (E := E) (b0 := b0 + 71)
  refine ⟨vs, ?_⟩
  unfold dk_14
  rw [List.getElem?_append_right (by rw [dkl_13]; exact Nat.le_refl _), dkl_13, Nat.sub_self]
  exact h
def dkA (E : EV) (b0 : Nat) : List va_E := (dk_14 E b0).set 9 (.inl (eC E 4, 2, .inr (.inr (.inr (.inr (va_up (fun _ => none) 0 (some (b0 + 71))))))))
theorem dkA_l {E : EV} {b0 : Nat} : (dkA E b0).length = 79 := by unfold dkA; rw [List.length_set, dkl_14]
theorem dkA_d {E : EV} {b0 : Nat} {e0 : va_E} : (e0 :: dk_14 E b0).set 10 (.inl (eC E 4, 2, .inr (.inr (.inr (.inr (va_up (fun _ => none) 0 (some (b0 + 71)))))))) = e0 :: dkA E b0 := by unfold dkA; rw [List.set_cons_succ]
def dk_15 (E : EV) (b0 : Nat) : List va_E := dkA E b0 ++ blk_Bo E (b0 + 80)
theorem dkl_15 {E : EV} {b0 : Nat} : (dk_15 E b0).length = 88 := by unfold dk_15; rw [List.length_append, dkA_l, bl_Bo]
theorem dkd_15 {E : EV} {b0 : Nat} : dkA E b0 ++ blk_Bo E (b0 + 80) = dk_15 E b0 := rfl
theorem dki_15 {E : EV} {b0 : Nat} : (dk_15 E b0)[9]? = some (.inl (eC E 4, 2, .inr (.inr (.inr (.inr (va_up (fun _ => none) 0 (some (b0 + 71)))))))) := by
  unfold dk_15 dkA
  rw [List.getElem?_append_left (by rw [List.length_set, dkl_14]; exact Nat.le_of_ble_eq_true rfl), List.getElem?_set_self (by rw [dkl_14]; exact Nat.le_of_ble_eq_true rfl)]
theorem dkb_15 {E : EV} {b0 : Nat} : ∃ vs, (dk_15 E b0)[79]? = some (.inr (2, vs)) := by
  obtain ⟨vs, h⟩ := bh_Bo (E := E) (b0 := b0 + 80)
  refine ⟨vs, ?_⟩
  unfold dk_15
  rw [List.getElem?_append_right (by rw [dkA_l]; exact Nat.le_refl _), dkA_l, Nat.sub_self]
  exact h
def dkB (E : EV) (b0 : Nat) : List va_E := (dk_15 E b0).set 9 (.inl (eC E 4, 2, .inr (.inr (.inr (.inr (va_up (va_up (fun _ => none) 0 (some (b0 + 71))) 1 (some (b0 + 80))))))))
theorem dkB_l {E : EV} {b0 : Nat} : (dkB E b0).length = 88 := by unfold dkB; rw [List.length_set, dkl_15]
theorem dkB_d {E : EV} {b0 : Nat} {e0 : va_E} : (e0 :: dk_15 E b0).set 10 (.inl (eC E 4, 2, .inr (.inr (.inr (.inr (va_up (va_up (fun _ => none) 0 (some (b0 + 71))) 1 (some (b0 + 80)))))))) = e0 :: dkB E b0 := by unfold dkB; rw [List.set_cons_succ]
def blk_D (E : EV) (b0 : Nat) : List va_E := .inr (0, [.ref (b0 + 1), .ref (b0 + 10), .ref (b0 + 11), .ref (b0 + 20), .ref (b0 + 25), .ref (b0 + 31), .ref (b0 + 36), .ref (b0 + 42), .ref (b0 + 45), .ref (b0 + 47), .ref (b0 + 53), .ref (b0 + 69), .ref (b0 + 70), .int 0, .int 0]) :: dkB E b0
theorem len_D {E : EV} {b0 : Nat} : (blk_D E b0).length = 89 := by unfold blk_D; rw [List.length_cons, dkB_l]
set_option maxHeartbeats 4000000 in
set_option maxRecDepth 100000 in
theorem c_Dk {E : EV} {b0 : Nat} : KT E m_D_init 3 88 2701 b0 [.ref 0] [.inr (0, dfl_D)] (blk_D E b0) := by
  refine KT_of (L := [.ref 0, un]) cf_D_init rfl rfl rfl (Nat.le_of_ble_eq_true rfl) (fun X hX hF hin => ?_)
  have hcc := hF.1.2.2.1
  have hss := hF.1.2.2.2
  refine z_eq (cs2 := .inr (0, [.null, .null, .null, .null, .null, .null, .null, .null, .null, .null, .null, .null, .null, .int 0, .int 0]) :: dk_0 E b0) rfl ?_
  refine z_aload0 hX d_D_init_0 ?_
  refine z_objI hX hF.1 d_D_init_1 zo_D (by omega) (Nat.le_of_ble_eq_true rfl) ?_
  refine z_aload0 hX d_D_init_4 ?_
  refine z_new (ci := 2) (n := 1) (fs := dfl_Bo) hX d_D_init_5 in_Bo tyok_Bo zl_D_7 zk_Bo zi_Bo rfl zd_Bo (len_c dkl_0) (Nat.le_of_ble_eq_true rfl) (by omega) (by omega) ?_
  refine z_dup hX d_D_init_8 rfl ?_
  refine z_call (As := []) hX hF.1 d_D_init_9 ml_D_9 cf_Bo_init ci_Bo_init rfl rfl rfl (n0 := 1) (len_c dkl_0) (Nat.le_of_ble_eq_true rfl) (fun _ => rfl) (c_Bok (b0 := b0 + 1)) (by omega) (by omega) (by omega) (Nat.le_of_ble_eq_true rfl) ?_
  refine z_snoc dkd_1 ?_
  refine z_putF (v2 := .ref (b0 + 1)) hX hin d_D_init_12 fl_D_10 cd_D rfl rfl rfl (Nat.le_of_ble_eq_true rfl) ?_
  refine z_hd (e2 := .inr (0, [.ref (b0 + 1), .null, .null, .null, .null, .null, .null, .null, .null, .null, .null, .null, .null, .int 0, .int 0])) rfl ?_
  refine z_aload0 hX d_D_init_15 ?_
  refine z_iconst (v := nI 2) hX d_D_init_16 rfl ?_
  refine z_newq (n := 10) (N := 2) (t0 := 4) hX d_D_init_17 zl_D_7 hX.ao.2.1 rfl rfl (Nat.le_of_ble_eq_true rfl) (len_c dkl_1) (Nat.le_of_ble_eq_true rfl) (by omega) (by omega) ?_
  refine z_snoc dkd_2 ?_
  refine z_putF (v2 := .ref (b0 + 10)) hX hin d_D_init_20 fl_D_16 cd_D rfl rfl rfl (Nat.le_of_ble_eq_true rfl) ?_
  refine z_hd (e2 := .inr (0, [.ref (b0 + 1), .ref (b0 + 10), .null, .null, .null, .null, .null, .null, .null, .null, .null, .null, .null, .int 0, .int 0])) rfl ?_
  refine z_aload0 hX d_D_init_23 ?_
  refine z_new (ci := 2) (n := 11) (fs := dfl_Bo) hX d_D_init_24 in_Bo tyok_Bo zl_D_7 zk_Bo zi_Bo rfl zd_Bo (len_c dkl_2) (Nat.le_of_ble_eq_true rfl) (by omega) (by omega) ?_
  refine z_dup hX d_D_init_27 rfl ?_
  refine z_call (As := []) hX hF.1 d_D_init_28 ml_D_9 cf_Bo_init ci_Bo_init rfl rfl rfl (n0 := 11) (len_c dkl_2) (Nat.le_of_ble_eq_true rfl) (fun _ => rfl) (c_Bok (b0 := b0 + 11)) (by omega) (by omega) (by omega) (Nat.le_of_ble_eq_true rfl) ?_
  refine z_snoc dkd_3 ?_
  refine z_putF (v2 := .ref (b0 + 11)) hX hin d_D_init_31 fl_D_20 cd_D rfl rfl rfl (Nat.le_of_ble_eq_true rfl) ?_
  refine z_hd (e2 := .inr (0, [.ref (b0 + 1), .ref (b0 + 10), .ref (b0 + 11), .null, .null, .null, .null, .null, .null, .null, .null, .null, .null, .int 0, .int 0])) rfl ?_
  refine z_aload0 hX d_D_init_34 ?_
  refine z_new (ci := 1) (n := 20) (fs := dfl_Ac) hX d_D_init_35 in_Ac tyok_Ac zl_D_23 zk_Ac zi_Ac rfl zd_Ac (len_c dkl_3) (Nat.le_of_ble_eq_true rfl) (by omega) (by omega) ?_
  refine z_dup hX d_D_init_38 rfl ?_
  refine z_callN (As := []) hX hF.1 d_D_init_39 (List.mem_of_getElem? (i := 0) rfl) cf_Ac_init ci_Ac_init rfl rfl rfl (n0 := 20) (len_c dkl_3) (Nat.le_of_ble_eq_true rfl) (fun _ => rfl) (c_Ack (b0 := b0 + 20)) (by omega) (by omega) (by omega) (Nat.le_of_ble_eq_true rfl) ?_
  refine z_snoc dkd_4 ?_
  refine z_putF (v2 := .ref (b0 + 20)) hX hin d_D_init_42 fl_D_26 cd_D rfl rfl rfl (Nat.le_of_ble_eq_true rfl) ?_
  refine z_hd (e2 := .inr (0, [.ref (b0 + 1), .ref (b0 + 10), .ref (b0 + 11), .ref (b0 + 20), .null, .null, .null, .null, .null, .null, .null, .null, .null, .int 0, .int 0])) rfl ?_
  refine z_aload0 hX d_D_init_45 ?_
  refine z_new (ci := 7) (n := 25) (fs := dfl_Re) hX d_D_init_46 in_Re tyok_Re zl_D_30 zk_Re zi_Re rfl zd_Re (len_c dkl_4) (Nat.le_of_ble_eq_true rfl) (by omega) (by omega) ?_
  refine z_dup hX d_D_init_49 rfl ?_
  refine z_callN (As := []) hX hF.1 d_D_init_50 (List.mem_of_getElem? (i := 1) rfl) cf_Re_init ci_Re_init rfl rfl rfl (n0 := 25) (len_c dkl_4) (Nat.le_of_ble_eq_true rfl) (fun _ => rfl) (c_Rek (b0 := b0 + 25)) (by omega) (by omega) (by omega) (Nat.le_of_ble_eq_true rfl) ?_
  refine z_snoc dkd_5 ?_
  refine z_putF (v2 := .ref (b0 + 25)) hX hin d_D_init_53 fl_D_33 cd_D rfl rfl rfl (Nat.le_of_ble_eq_true rfl) ?_
  refine z_hd (e2 := .inr (0, [.ref (b0 + 1), .ref (b0 + 10), .ref (b0 + 11), .ref (b0 + 20), .ref (b0 + 25), .null, .null, .null, .null, .null, .null, .null, .null, .int 0, .int 0])) rfl ?_
  refine z_aload0 hX d_D_init_56 ?_
  refine z_new (ci := 4) (n := 31) (fs := dfl_Le) hX d_D_init_57 in_Le tyok_Le zl_D_37 zk_Le zi_Le rfl zd_Le (len_c dkl_5) (Nat.le_of_ble_eq_true rfl) (by omega) (by omega) ?_
  refine z_dup hX d_D_init_60 rfl ?_
  refine z_callN (As := []) hX hF.1 d_D_init_61 (List.mem_of_getElem? (i := 3) rfl) cf_Le_init ci_Le_init rfl rfl rfl (n0 := 31) (len_c dkl_5) (Nat.le_of_ble_eq_true rfl) (fun _ => rfl) (c_Lek (b0 := b0 + 31)) (by omega) (by omega) (by omega) (Nat.le_of_ble_eq_true rfl) ?_
  refine z_snoc dkd_6 ?_
  refine z_putF (v2 := .ref (b0 + 31)) hX hin d_D_init_64 fl_D_40 cd_D rfl rfl rfl (Nat.le_of_ble_eq_true rfl) ?_
  refine z_hd (e2 := .inr (0, [.ref (b0 + 1), .ref (b0 + 10), .ref (b0 + 11), .ref (b0 + 20), .ref (b0 + 25), .ref (b0 + 31), .null, .null, .null, .null, .null, .null, .null, .int 0, .int 0])) rfl ?_
  refine z_aload0 hX d_D_init_67 ?_
  refine z_new (ci := 11) (n := 36) (fs := dfl_Wa) hX d_D_init_68 in_Wa tyok_Wa zl_D_44 zk_Wa zi_Wa rfl zd_Wa (len_c dkl_6) (Nat.le_of_ble_eq_true rfl) (by omega) (by omega) ?_
  refine z_dup hX d_D_init_71 rfl ?_
  refine z_callN (As := []) hX hF.1 d_D_init_72 (List.mem_of_getElem? (i := 4) rfl) cf_Wa_init ci_Wa_init rfl rfl rfl (n0 := 36) (len_c dkl_6) (Nat.le_of_ble_eq_true rfl) (fun _ => rfl) (c_Wak (b0 := b0 + 36)) (by omega) (by omega) (by omega) (Nat.le_of_ble_eq_true rfl) ?_
  refine z_snoc dkd_7 ?_
  refine z_putF (v2 := .ref (b0 + 36)) hX hin d_D_init_75 fl_D_47 cd_D rfl rfl rfl (Nat.le_of_ble_eq_true rfl) ?_
  refine z_hd (e2 := .inr (0, [.ref (b0 + 1), .ref (b0 + 10), .ref (b0 + 11), .ref (b0 + 20), .ref (b0 + 25), .ref (b0 + 31), .ref (b0 + 36), .null, .null, .null, .null, .null, .null, .int 0, .int 0])) rfl ?_
  refine z_aload0 hX d_D_init_78 ?_
  refine z_new (ci := 9) (n := 42) (fs := dfl_Si) hX d_D_init_79 in_Si tyok_Si zl_D_51 zk_Si zi_Si rfl zd_Si (len_c dkl_7) (Nat.le_of_ble_eq_true rfl) (by omega) (by omega) ?_
  refine z_dup hX d_D_init_82 rfl ?_
  refine z_callN (As := []) hX hF.1 d_D_init_83 (List.mem_of_getElem? (i := 5) rfl) cf_Si_init ci_Si_init rfl rfl rfl (n0 := 42) (len_c dkl_7) (Nat.le_of_ble_eq_true rfl) (fun _ => rfl) (c_Sik (b0 := b0 + 42)) (by omega) (by omega) (by omega) (Nat.le_of_ble_eq_true rfl) ?_
  refine z_snoc dkd_8 ?_
  refine z_putF (v2 := .ref (b0 + 42)) hX hin d_D_init_86 fl_D_54 cd_D rfl rfl rfl (Nat.le_of_ble_eq_true rfl) ?_
  refine z_hd (e2 := .inr (0, [.ref (b0 + 1), .ref (b0 + 10), .ref (b0 + 11), .ref (b0 + 20), .ref (b0 + 25), .ref (b0 + 31), .ref (b0 + 36), .ref (b0 + 42), .null, .null, .null, .null, .null, .int 0, .int 0])) rfl ?_
  refine z_aload0 hX d_D_init_89 ?_
  refine z_new (ci := 3) (n := 45) (fs := dfl_Hu) hX d_D_init_90 in_Hu tyok_Hu zl_D_58 zk_Hu zi_Hu rfl zd_Hu (len_c dkl_8) (Nat.le_of_ble_eq_true rfl) (by omega) (by omega) ?_
  refine z_dup hX d_D_init_93 rfl ?_
  refine z_callN (As := []) hX hF.1 d_D_init_94 (List.mem_of_getElem? (i := 6) rfl) cf_Hu_init ci_Hu_init rfl rfl rfl (n0 := 45) (len_c dkl_8) (Nat.le_of_ble_eq_true rfl) (fun _ => rfl) (c_Huk (b0 := b0 + 45)) (by omega) (by omega) (by omega) (Nat.le_of_ble_eq_true rfl) ?_
  refine z_snoc dkd_9 ?_
  refine z_putF (v2 := .ref (b0 + 45)) hX hin d_D_init_97 fl_D_61 cd_D rfl rfl rfl (Nat.le_of_ble_eq_true rfl) ?_
  refine z_hd (e2 := .inr (0, [.ref (b0 + 1), .ref (b0 + 10), .ref (b0 + 11), .ref (b0 + 20), .ref (b0 + 25), .ref (b0 + 31), .ref (b0 + 36), .ref (b0 + 42), .ref (b0 + 45), .null, .null, .null, .null, .int 0, .int 0])) rfl ?_
  refine z_aload0 hX d_D_init_100 ?_
  refine z_new (ci := 5) (n := 47) (fs := dfl_Li) hX d_D_init_101 in_Li tyok_Li zl_D_65 zk_Li zi_Li rfl zd_Li (len_c dkl_9) (Nat.le_of_ble_eq_true rfl) (by omega) (by omega) ?_
  refine z_dup hX d_D_init_104 rfl ?_
  refine z_callN (As := []) hX hF.1 d_D_init_105 (List.mem_of_getElem? (i := 7) rfl) cf_Li_init ci_Li_init rfl rfl rfl (n0 := 47) (len_c dkl_9) (Nat.le_of_ble_eq_true rfl) (fun _ => rfl) (c_Lik (b0 := b0 + 47)) (by omega) (by omega) (by omega) (Nat.le_of_ble_eq_true rfl) ?_
  refine z_snoc dkd_10 ?_
  refine z_putF (v2 := .ref (b0 + 47)) hX hin d_D_init_108 fl_D_68 cd_D rfl rfl rfl (Nat.le_of_ble_eq_true rfl) ?_
  refine z_hd (e2 := .inr (0, [.ref (b0 + 1), .ref (b0 + 10), .ref (b0 + 11), .ref (b0 + 20), .ref (b0 + 25), .ref (b0 + 31), .ref (b0 + 36), .ref (b0 + 42), .ref (b0 + 45), .ref (b0 + 47), .null, .null, .null, .int 0, .int 0])) rfl ?_
  refine z_aload0 hX d_D_init_111 ?_
  refine z_new (ci := 8) (n := 53) (fs := dfl_Ru) hX d_D_init_112 in_Ru tyok_Ru zl_D_72 zk_Ru zi_Ru rfl zd_Ru (len_c dkl_10) (Nat.le_of_ble_eq_true rfl) (by omega) (by omega) ?_
  refine z_dup hX d_D_init_115 rfl ?_
  refine z_callN (As := []) hX hF.1 d_D_init_116 (List.mem_of_getElem? (i := 8) rfl) cf_Ru_init ci_Ru_init rfl rfl rfl (n0 := 53) (len_c dkl_10) (Nat.le_of_ble_eq_true rfl) (fun _ => rfl) (c_Ruk (b0 := b0 + 53)) (by omega) (by omega) (by omega) (Nat.le_of_ble_eq_true rfl) ?_
  refine z_snoc dkd_11 ?_
  refine z_putF (v2 := .ref (b0 + 53)) hX hin d_D_init_119 fl_D_75 cd_D rfl rfl rfl (Nat.le_of_ble_eq_true rfl) ?_
  refine z_hd (e2 := .inr (0, [.ref (b0 + 1), .ref (b0 + 10), .ref (b0 + 11), .ref (b0 + 20), .ref (b0 + 25), .ref (b0 + 31), .ref (b0 + 36), .ref (b0 + 42), .ref (b0 + 45), .ref (b0 + 47), .ref (b0 + 53), .null, .null, .int 0, .int 0])) rfl ?_
  refine z_aload0 hX d_D_init_122 ?_
  refine z_bipush (v := nI 20) hX d_D_init_123 rfl ?_
  refine z_newJ (n := 69) (N := 20) hX d_D_init_125 rfl (Nat.le_of_ble_eq_true rfl) (len_c dkl_11) (Nat.le_of_ble_eq_true rfl) (by omega) (by omega) ?_
  refine z_snoc dkd_12 ?_
  refine z_putF (v2 := .ref (b0 + 69)) hX hin d_D_init_127 fl_D_79 cd_D rfl rfl rfl (Nat.le_of_ble_eq_true rfl) ?_
  refine z_hd (e2 := .inr (0, [.ref (b0 + 1), .ref (b0 + 10), .ref (b0 + 11), .ref (b0 + 20), .ref (b0 + 25), .ref (b0 + 31), .ref (b0 + 36), .ref (b0 + 42), .ref (b0 + 45), .ref (b0 + 47), .ref (b0 + 53), .ref (b0 + 69), .null, .int 0, .int 0])) rfl ?_
  refine z_aload0 hX d_D_init_130 ?_
  refine z_iconst (v := nI 5) hX d_D_init_131 rfl ?_
  refine z_newI (n := 70) (N := 5) hX d_D_init_132 rfl (Nat.le_of_ble_eq_true rfl) (len_c dkl_12) (Nat.le_of_ble_eq_true rfl) (by omega) (by omega) ?_
  refine z_snoc dkd_13 ?_
  refine z_putF (v2 := .ref (b0 + 70)) hX hin d_D_init_134 fl_D_83 cd_D rfl rfl rfl (Nat.le_of_ble_eq_true rfl) ?_
  refine z_hd (e2 := .inr (0, [.ref (b0 + 1), .ref (b0 + 10), .ref (b0 + 11), .ref (b0 + 20), .ref (b0 + 25), .ref (b0 + 31), .ref (b0 + 36), .ref (b0 + 42), .ref (b0 + 45), .ref (b0 + 47), .ref (b0 + 53), .ref (b0 + 69), .ref (b0 + 70), .int 0, .int 0])) rfl ?_
  refine z_iconst (v := nI 0) hX d_D_init_137 rfl ?_
  refine z_istore1 hX d_D_init_138 rfl (by decide) ?_
  refine z_iload1 hX d_D_init_139 ?_
  refine z_iconst (v := nI 2) hX d_D_init_140 rfl ?_
  refine z_icmp_ge hX d_D_init_141 (fun h => absurd h (by decide)) (fun _ => ?_)
  refine z_aload0 hX d_D_init_144 ?_
  refine z_get (v := .ref 10) hX d_D_init_145 fl_D_16 rfl ?_
  refine z_iload1 hX d_D_init_148 ?_
  refine z_new (ci := 2) (n := 71) (fs := dfl_Bo) hX d_D_init_149 in_Bo tyok_Bo zl_D_7 zk_Bo zi_Bo rfl zd_Bo (len_c dkl_13) (Nat.le_of_ble_eq_true rfl) (by omega) (by omega) ?_
  refine z_dup hX d_D_init_152 rfl ?_
  refine z_call (As := []) hX hF.1 d_D_init_153 ml_D_9 cf_Bo_init ci_Bo_init rfl rfl rfl (n0 := 71) (len_c dkl_13) (Nat.le_of_ble_eq_true rfl) (fun _ => rfl) (c_Bok (b0 := b0 + 71)) (by omega) (by omega) (by omega) (Nat.le_of_ble_eq_true rfl) ?_
  refine z_snoc dkd_14 ?_
  obtain ⟨vs0, hvs0⟩ := dkb_14 (E := E) (b0 := b0)
  refine z_aast (n := 10) (N := 2) (j := 0) (m := 71) (f := fun _ => none) hX d_D_init_156 (hX.ra _ (Nat.le_of_ble_eq_true rfl)) (hX.ra _ (Nat.le_of_ble_eq_true rfl)) (by rw [List.getElem?_cons_succ]; exact dki_14) (by rw [List.getElem?_cons_succ]; exact hvs0) rfl (by decide) (by decide) ?_
  refine z_eq (cs2 := .inr (0, [.ref (b0 + 1), .ref (b0 + 10), .ref (b0 + 11), .ref (b0 + 20), .ref (b0 + 25), .ref (b0 + 31), .ref (b0 + 36), .ref (b0 + 42), .ref (b0 + 45), .ref (b0 + 47), .ref (b0 + 53), .ref (b0 + 69), .ref (b0 + 70), .int 0, .int 0]) :: dkA E b0) dkA_d ?_
  refine z_iinc1 (v := nI 1) hX d_D_init_157 (by decide) rfl (by decide) ?_
  refine z_goto hX d_D_init_160 ?_
  refine z_iload1 hX d_D_init_139 ?_
  refine z_iconst (v := nI 2) hX d_D_init_140 rfl ?_
  refine z_icmp_ge hX d_D_init_141 (fun h => absurd h (by decide)) (fun _ => ?_)
  refine z_aload0 hX d_D_init_144 ?_
  refine z_get (v := .ref 10) hX d_D_init_145 fl_D_16 rfl ?_
  refine z_iload1 hX d_D_init_148 ?_
  refine z_new (ci := 2) (n := 80) (fs := dfl_Bo) hX d_D_init_149 in_Bo tyok_Bo zl_D_7 zk_Bo zi_Bo rfl zd_Bo (len_c dkA_l) (Nat.le_of_ble_eq_true rfl) (by omega) (by omega) ?_
  refine z_dup hX d_D_init_152 rfl ?_
  refine z_call (As := []) hX hF.1 d_D_init_153 ml_D_9 cf_Bo_init ci_Bo_init rfl rfl rfl (n0 := 80) (len_c dkA_l) (Nat.le_of_ble_eq_true rfl) (fun _ => rfl) (c_Bok (b0 := b0 + 80)) (by omega) (by omega) (by omega) (Nat.le_of_ble_eq_true rfl) ?_
  refine z_snoc dkd_15 ?_
  obtain ⟨vs1, hvs1⟩ := dkb_15 (E := E) (b0 := b0)
  refine z_aast (n := 10) (N := 2) (j := 1) (m := 80) (f := va_up (fun _ => none) 0 (some (b0 + 71))) hX d_D_init_156 (hX.ra _ (Nat.le_of_ble_eq_true rfl)) (hX.ra _ (Nat.le_of_ble_eq_true rfl)) (by rw [List.getElem?_cons_succ]; exact dki_15) (by rw [List.getElem?_cons_succ]; exact hvs1) rfl (by decide) (by decide) ?_
  refine z_eq (cs2 := .inr (0, [.ref (b0 + 1), .ref (b0 + 10), .ref (b0 + 11), .ref (b0 + 20), .ref (b0 + 25), .ref (b0 + 31), .ref (b0 + 36), .ref (b0 + 42), .ref (b0 + 45), .ref (b0 + 47), .ref (b0 + 53), .ref (b0 + 69), .ref (b0 + 70), .int 0, .int 0]) :: dkB E b0) dkB_d ?_
  refine z_iinc1 (v := nI 2) hX d_D_init_157 (by decide) rfl (by decide) ?_
  refine z_goto hX d_D_init_160 ?_
  refine z_iload1 hX d_D_init_139 ?_
  refine z_iconst (v := nI 2) hX d_D_init_140 rfl ?_
  refine z_icmp_ge hX d_D_init_141 (fun _ => ?_) (fun h => absurd (by decide) h)
  exact z_vret hX hF d_D_init_163 (by omega) (by omega)
