def m_JPreconditions_checkIndex : MR := (⟨"jdk/internal/util/Preconditions", "checkIndex", "(IILjava/util/function/BiFunction;)I"⟩, prog_22_method_11_code, 3, (some .int))
theorem cf_JPreconditions_checkIndex : CF m_JPreconditions_checkIndex 3 := ⟨gd 833 (by decide +kernel) rfl, gd 156 (by decide +kernel) rfl, by decide +kernel, by decide, by decide +kernel⟩
theorem cs_JPreconditions_checkIndex : CS m_JPreconditions_checkIndex := gd 832 (by decide +kernel) rfl
def m_JStringLatin1_charAt : MR := (⟨"java/lang/StringLatin1", "charAt", "([BI)C"⟩, prog_18_method_2_code, 2, (some .char))
theorem cf_JStringLatin1_charAt : CF m_JStringLatin1_charAt 2 := ⟨gd 825 (by decide +kernel) rfl, gd 155 (by decide +kernel) rfl, by decide +kernel, by decide, by decide +kernel⟩
theorem cs_JStringLatin1_charAt : CS m_JStringLatin1_charAt := gd 824 (by decide +kernel) rfl
def m_JString_charAt : MR := (⟨"java/lang/String", "charAt", "(I)C"⟩, prog_17_method_56_code, 2, (some .char))
theorem cf_JString_charAt : CF m_JString_charAt 1 := ⟨gd 818 (by decide +kernel) rfl, gd 154 (by decide +kernel) rfl, by decide +kernel, by decide, by decide +kernel⟩
theorem cv_JString_charAt : CV m_JString_charAt := ⟨gd 816 (by decide +kernel) rfl, gd 817 (by decide +kernel) rfl⟩
def m_JString_checkIndex : MR := (⟨"java/lang/String", "checkIndex", "(II)V"⟩, prog_17_method_155_code, 2, none)
theorem cf_JString_checkIndex : CF m_JString_checkIndex 2 := ⟨gd 828 (by decide +kernel) rfl, gd 154 (by decide +kernel) rfl, by decide +kernel, by decide, by decide +kernel⟩
theorem cs_JString_checkIndex : CS m_JString_checkIndex := gd 827 (by decide +kernel) rfl
def m_JString_coder : MR := (⟨"java/lang/String", "coder", "()B"⟩, prog_17_method_152_code, 1, (some .byte))
theorem cf_JString_coder : CF m_JString_coder 0 := ⟨gd 812 (by decide +kernel) rfl, gd 154 (by decide +kernel) rfl, by decide +kernel, by decide, by decide +kernel⟩
theorem cv_JString_coder : CV m_JString_coder := ⟨gd 810 (by decide +kernel) rfl, gd 811 (by decide +kernel) rfl⟩
def m_JString_isLatin1 : MR := (⟨"java/lang/String", "isLatin1", "()Z"⟩, prog_17_method_154_code, 1, (some .boolean))
theorem cf_JString_isLatin1 : CF m_JString_isLatin1 0 := ⟨gd 822 (by decide +kernel) rfl, gd 154 (by decide +kernel) rfl, by decide +kernel, by decide, by decide +kernel⟩
theorem cv_JString_isLatin1 : CV m_JString_isLatin1 := ⟨gd 820 (by decide +kernel) rfl, gd 821 (by decide +kernel) rfl⟩
def m_JString_length : MR := (⟨"java/lang/String", "length", "()I"⟩, prog_17_method_54_code, 1, (some .int))
theorem cf_JString_length : CF m_JString_length 0 := ⟨gd 808 (by decide +kernel) rfl, gd 154 (by decide +kernel) rfl, by decide +kernel, by decide, by decide +kernel⟩
theorem cv_JString_length : CV m_JString_length := ⟨gd 806 (by decide +kernel) rfl, gd 807 (by decide +kernel) rfl⟩
theorem d_JPreconditions_checkIndex_0 : Dc prog_22_method_11_code 0 (.iload_n 0) 1 1 := ⟨by decide +kernel, rfl⟩
theorem d_JPreconditions_checkIndex_1 : Dj prog_22_method_11_code 1 (.ifCond .lt 8) 4 8 9 := ⟨by decide +kernel, rfl, rfl⟩
theorem d_JPreconditions_checkIndex_4 : Dc prog_22_method_11_code 4 (.iload_n 0) 1 5 := ⟨by decide +kernel, rfl⟩
theorem d_JPreconditions_checkIndex_5 : Dc prog_22_method_11_code 5 (.iload_n 1) 1 6 := ⟨by decide +kernel, rfl⟩
theorem d_JPreconditions_checkIndex_6 : Dj prog_22_method_11_code 6 (.if_icmp .lt 10) 9 10 16 := ⟨by decide +kernel, rfl, rfl⟩
theorem d_JPreconditions_checkIndex_16 : Dc prog_22_method_11_code 16 (.iload_n 0) 1 17 := ⟨by decide +kernel, rfl⟩
theorem d_JPreconditions_checkIndex_17 : Dc prog_22_method_11_code 17 (.ireturn) 1 18 := ⟨by decide +kernel, rfl⟩
theorem d_JStringLatin1_charAt_0 : Dc prog_18_method_2_code 0 (.iload_n 1) 1 1 := ⟨by decide +kernel, rfl⟩
theorem d_JStringLatin1_charAt_1 : Dc prog_18_method_2_code 1 (.aload_n 0) 1 2 := ⟨by decide +kernel, rfl⟩
theorem d_JStringLatin1_charAt_2 : Dc prog_18_method_2_code 2 (.arraylength) 1 3 := ⟨by decide +kernel, rfl⟩
theorem d_JStringLatin1_charAt_3 : Dc prog_18_method_2_code 3 (.invokestatic 9) 3 6 := ⟨by decide +kernel, rfl⟩
theorem d_JStringLatin1_charAt_6 : Dc prog_18_method_2_code 6 (.aload_n 0) 1 7 := ⟨by decide +kernel, rfl⟩
theorem d_JStringLatin1_charAt_7 : Dc prog_18_method_2_code 7 (.iload_n 1) 1 8 := ⟨by decide +kernel, rfl⟩
theorem d_JStringLatin1_charAt_8 : Dc prog_18_method_2_code 8 (.baload) 1 9 := ⟨by decide +kernel, rfl⟩
theorem d_JStringLatin1_charAt_9 : Dc prog_18_method_2_code 9 (.sipush 255) 3 12 := ⟨by decide +kernel, rfl⟩
theorem d_JStringLatin1_charAt_12 : Dc prog_18_method_2_code 12 (.iand) 1 13 := ⟨by decide +kernel, rfl⟩
theorem d_JStringLatin1_charAt_13 : Dc prog_18_method_2_code 13 (.i2c) 1 14 := ⟨by decide +kernel, rfl⟩
theorem d_JStringLatin1_charAt_14 : Dc prog_18_method_2_code 14 (.ireturn) 1 15 := ⟨by decide +kernel, rfl⟩
theorem d_JString_charAt_0 : Dc prog_17_method_56_code 0 (.aload_n 0) 1 1 := ⟨by decide +kernel, rfl⟩
theorem d_JString_charAt_1 : Dc prog_17_method_56_code 1 (.invokevirtual 492) 3 4 := ⟨by decide +kernel, rfl⟩
theorem d_JString_charAt_4 : Dj prog_17_method_56_code 4 (.ifCond .eq 12) 7 12 16 := ⟨by decide +kernel, rfl, rfl⟩
theorem d_JString_charAt_7 : Dc prog_17_method_56_code 7 (.aload_n 0) 1 8 := ⟨by decide +kernel, rfl⟩
theorem d_JString_charAt_8 : Dc prog_17_method_56_code 8 (.getfield 9) 3 11 := ⟨by decide +kernel, rfl⟩
theorem d_JString_charAt_11 : Dc prog_17_method_56_code 11 (.iload_n 1) 1 12 := ⟨by decide +kernel, rfl⟩
theorem d_JString_charAt_12 : Dc prog_17_method_56_code 12 (.invokestatic 495) 3 15 := ⟨by decide +kernel, rfl⟩
theorem d_JString_charAt_15 : Dc prog_17_method_56_code 15 (.ireturn) 1 16 := ⟨by decide +kernel, rfl⟩
theorem d_JString_checkIndex_0 : Dc prog_17_method_155_code 0 (.iload_n 0) 1 1 := ⟨by decide +kernel, rfl⟩
theorem d_JString_checkIndex_1 : Dc prog_17_method_155_code 1 (.iload_n 1) 1 2 := ⟨by decide +kernel, rfl⟩
theorem d_JString_checkIndex_2 : Dc prog_17_method_155_code 2 (.getstatic 1053) 3 5 := ⟨by decide +kernel, rfl⟩
theorem d_JString_checkIndex_5 : Dc prog_17_method_155_code 5 (.invokestatic 1059) 3 8 := ⟨by decide +kernel, rfl⟩
theorem d_JString_checkIndex_8 : Dc prog_17_method_155_code 8 (.pop) 1 9 := ⟨by decide +kernel, rfl⟩
theorem d_JString_checkIndex_9 : Dc prog_17_method_155_code 9 (.return_) 1 10 := ⟨by decide +kernel, rfl⟩
theorem d_JString_coder_0 : Dc prog_17_method_152_code 0 (.getstatic 38) 3 3 := ⟨by decide +kernel, rfl⟩
theorem d_JString_coder_3 : Dj prog_17_method_152_code 3 (.ifCond .eq 10) 6 10 13 := ⟨by decide +kernel, rfl, rfl⟩
theorem d_JString_coder_6 : Dc prog_17_method_152_code 6 (.aload_n 0) 1 7 := ⟨by decide +kernel, rfl⟩
theorem d_JString_coder_7 : Dc prog_17_method_152_code 7 (.getfield 15) 3 10 := ⟨by decide +kernel, rfl⟩
theorem d_JString_coder_10 : Dj prog_17_method_152_code 10 (.goto 4) 13 4 14 := ⟨by decide +kernel, rfl, rfl⟩
theorem d_JString_coder_14 : Dc prog_17_method_152_code 14 (.ireturn) 1 15 := ⟨by decide +kernel, rfl⟩
theorem d_JString_isLatin1_0 : Dc prog_17_method_154_code 0 (.getstatic 38) 3 3 := ⟨by decide +kernel, rfl⟩
theorem d_JString_isLatin1_3 : Dj prog_17_method_154_code 3 (.ifCond .eq 14) 6 14 17 := ⟨by decide +kernel, rfl, rfl⟩
theorem d_JString_isLatin1_6 : Dc prog_17_method_154_code 6 (.aload_n 0) 1 7 := ⟨by decide +kernel, rfl⟩
theorem d_JString_isLatin1_7 : Dc prog_17_method_154_code 7 (.getfield 15) 3 10 := ⟨by decide +kernel, rfl⟩
theorem d_JString_isLatin1_10 : Dj prog_17_method_154_code 10 (.ifCond .ne 7) 13 7 17 := ⟨by decide +kernel, rfl, rfl⟩
theorem d_JString_isLatin1_13 : Dc prog_17_method_154_code 13 (.iconst 1) 1 14 := ⟨by decide +kernel, rfl⟩
theorem d_JString_isLatin1_14 : Dj prog_17_method_154_code 14 (.goto 4) 17 4 18 := ⟨by decide +kernel, rfl, rfl⟩
theorem d_JString_isLatin1_18 : Dc prog_17_method_154_code 18 (.ireturn) 1 19 := ⟨by decide +kernel, rfl⟩
theorem d_JString_length_0 : Dc prog_17_method_54_code 0 (.aload_n 0) 1 1 := ⟨by decide +kernel, rfl⟩
theorem d_JString_length_1 : Dc prog_17_method_54_code 1 (.getfield 9) 3 4 := ⟨by decide +kernel, rfl⟩
theorem d_JString_length_4 : Dc prog_17_method_54_code 4 (.arraylength) 1 5 := ⟨by decide +kernel, rfl⟩
theorem d_JString_length_5 : Dc prog_17_method_54_code 5 (.aload_n 0) 1 6 := ⟨by decide +kernel, rfl⟩
theorem d_JString_length_6 : Dc prog_17_method_54_code 6 (.invokevirtual 335) 3 9 := ⟨by decide +kernel, rfl⟩
theorem d_JString_length_9 : Dc prog_17_method_54_code 9 (.ishr) 1 10 := ⟨by decide +kernel, rfl⟩
theorem d_JString_length_10 : Dc prog_17_method_54_code 10 (.ireturn) 1 11 := ⟨by decide +kernel, rfl⟩
theorem ml_JString_335 : Cond.methodLink "java/lang/String" 335 m_JString_coder.1 ∈ lw_gd := gd 809 (by decide +kernel) rfl
theorem ml_JString_492 : Cond.methodLink "java/lang/String" 492 m_JString_isLatin1.1 ∈ lw_gd := gd 819 (by decide +kernel) rfl
theorem ml_JString_495 : Cond.methodLink "java/lang/String" 495 m_JStringLatin1_charAt.1 ∈ lw_gd := gd 823 (by decide +kernel) rfl
theorem ml_JString_1059 : Cond.methodLink "java/lang/String" 1059 m_JPreconditions_checkIndex.1 ∈ lw_gd := gd 831 (by decide +kernel) rfl
theorem ml_JStringLatin1_9 : Cond.methodLink "java/lang/StringLatin1" 9 m_JString_checkIndex.1 ∈ lw_gd := gd 826 (by decide +kernel) rfl
theorem fs_9 : Cond.fieldLink "java/lang/String" 9 "java/lang/String" "value" "[B" ∈ lw_gd := gd 2246 (by decide +kernel) rfl
theorem fs_15 : Cond.fieldLink "java/lang/String" 15 "java/lang/String" "coder" "B" ∈ lw_gd := gd 2247 (by decide +kernel) rfl
theorem fs_38 : Cond.fieldLink "java/lang/String" 38 "java/lang/String" "COMPACT_STRINGS" "Z" ∈ lw_gd := gd 813 (by decide +kernel) rfl
theorem fs_1053 : Cond.fieldLink "java/lang/String" 1053 "jdk/internal/util/Preconditions" "SIOOBE_FORMATTER" "Ljava/util/function/BiFunction;" ∈ lw_gd := gd 829 (by decide +kernel) rfl
theorem g_nret {E : EV} {X : XT} {b : ByteArray} {own : String} {nL ca sa pc pc2 : Nat} {L : List Value} {w : Mem} {d mc ms : Nat} {Q : Option Value → Mem → Prop} {x : Int32} {ty : FieldType} (hX : CX E X b own nL) (hF : FX E X (some ty) d mc ms Q) (hd : Dc b pc .ireturn 1 pc2) (hn : narrow ty (.int x) = .int x) (hca : ca ≤ mc) (hsa : sa ≤ ms) (hQ : Q (some (.int x)) w) : G0 E X ca sa pc L [.int x] w := by
  obtain ⟨hd, -⟩ := hd
  obtain ⟨h1, h2, h3, h4⟩ := hF
  intro H locs ls hP hD hS hl
  refine W.widen hca hsa ?_
  rw [h2]
  exact W.zret (v := x) hX.1 hX.2.1 h3 hn (fun t ht hW => qc_of (r := some (.int x)) hX hP hD hS hQ ht hW) hS.2.2 hd h4
theorem g_i2c {E : EV} {X : XT} {b : ByteArray} {own : String} {nL ca sa pc pc2 : Nat} {L st : List Value} {w : Mem} {x v : Int32} (hX : CX E X b own nL) (hd : Dc b pc .i2c 1 pc2) (hv : (x.toUInt32 % 65536).toInt32 = v) (kk : G0 E X ca sa pc2 L (.int v :: st) w) : G0 E X ca sa pc L (.int x :: st) w := by
  obtain ⟨hd, rfl⟩ := hd
  intro H locs ls hP hD hS hl
  exact lv_i2c (rest := st.map (tr (eR E))) hX.1 hX.2.1 hd hv (kk H locs ls hP hD hS hl)
/-- the name of a text's bytes -/
abbrev bN (E : EV) (i : Nat) : Nat := 1000 + 2 * eV E i
theorem bN_r {E : EV} {X : XT} {b : ByteArray} {own : String} {nL : Nat} (hX : CX E X b own nL) (i : Nat) : eR E (bN E i) = eV E i := (hX.rho _).1
theorem g_strV {E : EV} {X : XT} {b : ByteArray} {own : String} {nL ca sa pc pc2 : Nat} {L st : List Value} {w : Mem} {idx i : Nat} (hX : CX E X b own nL) (hd : Dc b pc (.getfield idx) 3 pc2) (hl : Cond.fieldLink own idx "java/lang/String" "value" "[B" ∈ lw_gd) (hi : i < 24) (kk : G0 E X ca sa pc2 L (.ref (bN E i) :: st) w) : G0 E X ca sa pc L (.ref (900 + i) :: st) w := by
  obtain ⟨hd, rfl⟩ := hd
  intro H locs ls hP hD hS hl2
  have k2 := kk H locs ls hP hD hS hl2
  have e : tr (eR E) (.ref (bN E i)) = .ref (eV E i) := congrArg Value.ref (bN_r hX i)
  rw [List.map_cons, e] at k2
  exact vk_getf (rest := st.map (tr (eR E))) hX.1 hX.2.1 (hX.str.1.1 i hi).2.2.1 hS hX.2.2.1 (hX.word hl) (fun _ h => h) hd k2
theorem g_strC {E : EV} {X : XT} {b : ByteArray} {own : String} {nL ca sa pc pc2 : Nat} {L st : List Value} {w : Mem} {idx i : Nat} (hX : CX E X b own nL) (hd : Dc b pc (.getfield idx) 3 pc2) (hl : Cond.fieldLink own idx "java/lang/String" "coder" "B" ∈ lw_gd) (hi : i < 24) (kk : G0 E X ca sa pc2 L (.int (nI 0) :: st) w) : G0 E X ca sa pc L (.ref (900 + i) :: st) w := by
  obtain ⟨hd, rfl⟩ := hd
  intro H locs ls hP hD hS hl2
  exact vk_getf (rest := st.map (tr (eR E))) hX.1 hX.2.1 (hX.str.1.1 i hi).2.1 hS hX.2.2.1 (hX.word hl) (fun _ h => h) hd (kk H locs ls hP hD hS hl2)
theorem g_strL {E : EV} {X : XT} {b : ByteArray} {own : String} {nL ca sa pc pc2 : Nat} {L st : List Value} {w : Mem} {i : Nat} (hX : CX E X b own nL) (hd : Dc b pc .arraylength 1 pc2) (hi : i < 24) (kk : G0 E X ca sa pc2 L (.int (nI (strLen.getD i 0)) :: st) w) : G0 E X ca sa pc L (.ref (bN E i) :: st) w := by
  obtain ⟨hd, rfl⟩ := hd
  intro H locs ls hP hD hS hl2
  rw [List.map_cons, show tr (eR E) (.ref (bN E i)) = .ref (eV E i) from congrArg Value.ref (bN_r hX i)]
  exact va_tlen (rest := st.map (tr (eR E))) hX.1 hX.2.1 (hX.str.1.1 i hi).2.2.2 hS rfl hd (kk H locs ls hP hD hS hl2)
def chS (i k : Nat) : Nat := ((strByt.getD i []).getD k 0).toNatClampNeg
theorem chS_all : ∀ i, i < 24 → strLen.getD i 0 = (strByt.getD i []).length ∧ strLen.getD i 0 ≤ 8 ∧ ∀ k, k < strLen.getD i 0 → (strByt.getD i []).getD k 0 = nI (chS i k) ∧ chS i k < 128 := by decide +kernel
theorem ch_128 : ∀ c, c < 128 → ((nI c).toUInt32 % 65536).toInt32 = nI c := by decide +kernel
theorem ch_255 : ∀ c, c < 128 → c &&& 255 = c := by decide +kernel
theorem g_strB {E : EV} {X : XT} {b : ByteArray} {own : String} {nL ca sa pc pc2 : Nat} {L st : List Value} {w : Mem} {i k : Nat} (hX : CX E X b own nL) (hd : Dc b pc .baload 1 pc2) (hi : i < 24) (hk : k < strLen.getD i 0) (kk : G0 E X ca sa pc2 L (.int (nI (chS i k)) :: st) w) : G0 E X ca sa pc L (.int (nI k) :: .ref (bN E i) :: st) w := by
  obtain ⟨hd, rfl⟩ := hd
  intro H locs ls hP hD hS hl2
  obtain ⟨h1, h2, h3⟩ := chS_all i hi
  rw [List.map_cons, List.map_cons, show tr (eR E) (.ref (bN E i)) = .ref (eV E i) from congrArg Value.ref (bN_r hX i)]
  exact va_tb (rest := st.map (tr (eR E))) hX.1 hX.2.1 (hX.str.1.1 i hi).2.2.2 hS (vp_in_nI hk (by omega)) (v := .int (nI (chS i k))) (by rw [nI_clamp (by omega)]; exact congrArg Value.int (h3 k hk).1) hd (kk H locs ls hP hD hS hl2)
theorem g_cmpS {E : EV} {X : XT} {b : ByteArray} {own : String} {nL ca sa pc pc2 : Nat} {L st : List Value} {w : Mem} {idx : Nat} (hX : CX E X b own nL) (hd : Dc b pc (.getstatic idx) 3 pc2) (hl : Cond.fieldLink own idx "java/lang/String" "COMPACT_STRINGS" "Z" ∈ lw_gd) (kk : G0 E X ca sa pc2 L (.int (nI 1) :: st) w) : G0 E X ca sa pc L st w := by
  obtain ⟨hd, rfl⟩ := hd
  intro H locs ls hP hD hS hl2
  exact va_gets (rest := st.map (tr (eR E))) hX.1 hX.2.1 hX.str.2.2.1 hS hX.2.2.1 (hX.word hl) (fun _ h => h) hd (kk H locs ls hP hD hS hl2)
theorem g_frmS {E : EV} {X : XT} {b : ByteArray} {own : String} {nL ca sa pc pc2 : Nat} {L st : List Value} {w : Mem} {idx : Nat} (hX : CX E X b own nL) (hd : Dc b pc (.getstatic idx) 3 pc2) (hl : Cond.fieldLink own idx "jdk/internal/util/Preconditions" "SIOOBE_FORMATTER" "Ljava/util/function/BiFunction;" ∈ lw_gd) (k0 : G0 E X ca sa pc2 L (.null :: st) w) (k1 : ∀ q, G0 E X ca sa pc2 L (.ref q :: st) w) : G0 E X ca sa pc L st w := by
  obtain ⟨hd, rfl⟩ := hd
  intro H locs ls hP hD hS hl2
  obtain ⟨v, hv, hz⟩ := hX.str.2.2.2
  rcases hv with rfl | ⟨q, rfl⟩
  · exact va_gets (rest := st.map (tr (eR E))) hX.1 hX.2.1 hz hS hX.2.2.1 (hX.word hl) (fun _ h => h) hd (k0 H locs ls hP hD hS hl2)
  · have k2 := k1 (1000 + 2 * q) H locs ls hP hD hS hl2
    rw [List.map_cons, show tr (eR E) (.ref (1000 + 2 * q)) = .ref q from congrArg Value.ref (hX.rho _).1] at k2
    exact va_gets (rest := st.map (tr (eR E))) hX.1 hX.2.1 hz hS hX.2.2.1 (hX.word hl) (fun _ h => h) hd k2
theorem c_JString_coder {E : EV} {w : Mem} {i : Nat} (hi : i < 24) : T E m_JString_coder 0 0 0 [.ref (900 + i)] w (Ret (some (.int (nI 0))) w) := by
  refine T_of (L := [.ref (900 + i)]) cf_JString_coder rfl (Nat.le_of_ble_eq_true rfl) (fun X hX hF => ?_)
  refine g_cmpS hX d_JString_coder_0 fs_38 ?_
  refine g_if_eq hX d_JString_coder_3 (fun h => absurd h (by decide)) (fun _ => ?_)
  refine g_aload0 hX d_JString_coder_6 ?_
  refine g_strC hX d_JString_coder_7 fs_15 hi ?_
  refine g_goto hX d_JString_coder_10 ?_
  refine g_nret hX hF d_JString_coder_14 rfl (by omega) (by omega) ?_
  exact ⟨rfl, rfl⟩
theorem c_JString_isLatin1 {E : EV} {w : Mem} {i : Nat} (hi : i < 24) : T E m_JString_isLatin1 0 0 0 [.ref (900 + i)] w (Ret (some (.int (nI 1))) w) := by
  refine T_of (L := [.ref (900 + i)]) cf_JString_isLatin1 rfl (Nat.le_of_ble_eq_true rfl) (fun X hX hF => ?_)
  refine g_cmpS hX d_JString_isLatin1_0 fs_38 ?_
  refine g_if_eq hX d_JString_isLatin1_3 (fun h => absurd h (by decide)) (fun _ => ?_)
  refine g_aload0 hX d_JString_isLatin1_6 ?_
  refine g_strC hX d_JString_isLatin1_7 fs_15 hi ?_
  refine g_if_ne hX d_JString_isLatin1_10 (fun h => absurd (by decide) h) (fun _ => ?_)
  refine g_iconst (v := nI 1) hX d_JString_isLatin1_13 rfl ?_
  refine g_goto hX d_JString_isLatin1_14 ?_
  refine g_nret hX hF d_JString_isLatin1_18 rfl (by omega) (by omega) ?_
  exact ⟨rfl, rfl⟩
theorem c_JString_length {E : EV} {w : Mem} {i : Nat} (hi : i < 24) : T E m_JString_length 1 0 0 [.ref (900 + i)] w (Ret (some (.int (nI (strLen.getD i 0)))) w) := by
  have h8 := (chS_all i hi).2.1
  refine T_of (L := [.ref (900 + i)]) cf_JString_length rfl (Nat.le_of_ble_eq_true rfl) (fun X hX hF => ?_)
  refine g_aload0 hX d_JString_length_0 ?_
  refine g_strV hX d_JString_length_1 fs_9 hi ?_
  refine g_strL hX d_JString_length_4 hi ?_
  refine g_aload0 hX d_JString_length_5 ?_
  refine g_callV (As := []) hX hF.1 d_JString_length_6 ml_JString_335 cf_JString_coder cv_JString_coder rfl rfl (c_JString_coder hi) (rcv_str hX hi) (by omega) (by omega) (by omega) (Nat.le_of_ble_eq_true rfl) ?_
  refine ret_k ?_
  refine g_ishrN hX d_JString_length_9 (by omega) (by decide) ?_
  refine g_iret hX hF d_JString_length_10 (by omega) (by omega) ?_
  exact ⟨rfl, rfl⟩
theorem c_JPre_N {E : EV} {w : Mem} {k l : Nat} (h : k < l) (hl : l < 100) : T E m_JPreconditions_checkIndex 0 0 0 [.int (nI k), .int (nI l), .null] w (Ret (some (.int (nI k))) w) := by
  refine T_of (L := [.int (nI k), .int (nI l), .null]) cf_JPreconditions_checkIndex rfl (Nat.le_of_ble_eq_true rfl) (fun X hX hF => ?_)
  refine g_iload0 hX d_JPreconditions_checkIndex_0 ?_
  refine g_if_lt hX d_JPreconditions_checkIndex_1 (fun h2 => absurd h2 (nI_pos (by omega))) (fun _ => ?_)
  refine g_iload0 hX d_JPreconditions_checkIndex_4 ?_
  refine g_iload1 hX d_JPreconditions_checkIndex_5 ?_
  refine g_icmpN_lt hX d_JPreconditions_checkIndex_6 (by omega) (by omega) (fun _ => ?_) (fun h2 => absurd h2 (by omega))
  refine g_iload0 hX d_JPreconditions_checkIndex_16 ?_
  refine g_iret hX hF d_JPreconditions_checkIndex_17 (by omega) (by omega) ?_
  exact ⟨rfl, rfl⟩
theorem c_JPre_R {E : EV} {w : Mem} {q k l : Nat} (h : k < l) (hl : l < 100) : T E m_JPreconditions_checkIndex 0 0 0 [.int (nI k), .int (nI l), .ref q] w (Ret (some (.int (nI k))) w) := by
  refine T_of (L := [.int (nI k), .int (nI l), .ref q]) cf_JPreconditions_checkIndex rfl (Nat.le_of_ble_eq_true rfl) (fun X hX hF => ?_)
  refine g_iload0 hX d_JPreconditions_checkIndex_0 ?_
  refine g_if_lt hX d_JPreconditions_checkIndex_1 (fun h2 => absurd h2 (nI_pos (by omega))) (fun _ => ?_)
  refine g_iload0 hX d_JPreconditions_checkIndex_4 ?_
  refine g_iload1 hX d_JPreconditions_checkIndex_5 ?_
  refine g_icmpN_lt hX d_JPreconditions_checkIndex_6 (by omega) (by omega) (fun _ => ?_) (fun h2 => absurd h2 (by omega))
  refine g_iload0 hX d_JPreconditions_checkIndex_16 ?_
  refine g_iret hX hF d_JPreconditions_checkIndex_17 (by omega) (by omega) ?_
  exact ⟨rfl, rfl⟩
theorem c_JString_checkIndex {E : EV} {w : Mem} {k l : Nat} (h : k < l) (hl : l < 100) : T E m_JString_checkIndex 1 0 0 [.int (nI k), .int (nI l)] w (Ret none w) := by
  refine T_of (L := [.int (nI k), .int (nI l)]) cf_JString_checkIndex rfl (Nat.le_of_ble_eq_true rfl) (fun X hX hF => ?_)
  refine g_iload0 hX d_JString_checkIndex_0 ?_
  refine g_iload1 hX d_JString_checkIndex_1 ?_
  refine g_frmS hX d_JString_checkIndex_2 fs_1053 ?_ (fun q => ?_)
  · refine g_callS (As := [_, _, _]) hX hF.1 d_JString_checkIndex_5 ml_JString_1059 cf_JPreconditions_checkIndex cs_JPreconditions_checkIndex rfl (c_JPre_N h hl) (by omega) (by omega) (by omega) (Nat.le_of_ble_eq_true rfl) ?_
    refine ret_k ?_
    refine g_pop hX d_JString_checkIndex_8 rfl ?_
    refine g_vret hX hF d_JString_checkIndex_9 (by omega) (by omega) ?_
    exact ⟨rfl, rfl⟩
  · refine g_callS (As := [_, _, _]) hX hF.1 d_JString_checkIndex_5 ml_JString_1059 cf_JPreconditions_checkIndex cs_JPreconditions_checkIndex rfl (c_JPre_R h hl) (by omega) (by omega) (by omega) (Nat.le_of_ble_eq_true rfl) ?_
    refine ret_k ?_
    refine g_pop hX d_JString_checkIndex_8 rfl ?_
    refine g_vret hX hF d_JString_checkIndex_9 (by omega) (by omega) ?_
    exact ⟨rfl, rfl⟩
theorem c_JStringLatin1_charAt {E : EV} {w : Mem} {i k : Nat} (hi : i < 24) (hk : k < strLen.getD i 0) : T E m_JStringLatin1_charAt 2 0 0 [.ref (bN E i), .int (nI k)] w (Ret (some (.int (nI (chS i k)))) w) := by
  obtain ⟨h1, h8, h3⟩ := chS_all i hi
  have h128 := (h3 k hk).2
  refine T_of (L := [.ref (bN E i), .int (nI k)]) cf_JStringLatin1_charAt rfl (Nat.le_of_ble_eq_true rfl) (fun X hX hF => ?_)
  refine g_iload1 hX d_JStringLatin1_charAt_0 ?_
  refine g_aload0 hX d_JStringLatin1_charAt_1 ?_
  refine g_strL hX d_JStringLatin1_charAt_2 hi ?_
  refine g_callS (As := [_, _]) hX hF.1 d_JStringLatin1_charAt_3 ml_JStringLatin1_9 cf_JString_checkIndex cs_JString_checkIndex rfl (c_JString_checkIndex hk (by omega)) (by omega) (by omega) (by omega) (Nat.le_of_ble_eq_true rfl) ?_
  refine ret_k ?_
  refine g_aload0 hX d_JStringLatin1_charAt_6 ?_
  refine g_iload1 hX d_JStringLatin1_charAt_7 ?_
  refine g_strB hX d_JStringLatin1_charAt_8 hi hk ?_
  refine g_sipush (v := nI 255) hX d_JStringLatin1_charAt_9 rfl ?_
  refine g_iandN hX d_JStringLatin1_charAt_12 ?_
  refine g_topi (show nI (chS i k &&& 255) = nI (chS i k) by rw [ch_255 _ h128]) ?_
  refine g_i2c hX d_JStringLatin1_charAt_13 (ch_128 _ h128) ?_
  refine g_nret hX hF d_JStringLatin1_charAt_14 (congrArg Value.int (ch_128 _ h128)) (by omega) (by omega) ?_
  exact ⟨rfl, rfl⟩
theorem c_JString_charAt {E : EV} {w : Mem} {i k : Nat} (hi : i < 24) (hk : k < strLen.getD i 0) : T E m_JString_charAt 3 0 0 [.ref (900 + i), .int (nI k)] w (Ret (some (.int (nI (chS i k)))) w) := by
  obtain ⟨h1, h8, h3⟩ := chS_all i hi
  have h128 := (h3 k hk).2
  refine T_of (L := [.ref (900 + i), .int (nI k)]) cf_JString_charAt rfl (Nat.le_of_ble_eq_true rfl) (fun X hX hF => ?_)
  refine g_aload0 hX d_JString_charAt_0 ?_
  refine g_callV (As := []) hX hF.1 d_JString_charAt_1 ml_JString_492 cf_JString_isLatin1 cv_JString_isLatin1 rfl rfl (c_JString_isLatin1 hi) (rcv_str hX hi) (by omega) (by omega) (by omega) (Nat.le_of_ble_eq_true rfl) ?_
  refine ret_k ?_
  refine g_if_eq hX d_JString_charAt_4 (fun h => absurd h (by decide)) (fun _ => ?_)
  refine g_aload0 hX d_JString_charAt_7 ?_
  refine g_strV hX d_JString_charAt_8 fs_9 hi ?_
  refine g_iload1 hX d_JString_charAt_11 ?_
  refine g_callS (As := [_, _]) hX hF.1 d_JString_charAt_12 ml_JString_495 cf_JStringLatin1_charAt cs_JStringLatin1_charAt rfl (c_JStringLatin1_charAt hi hk) (by omega) (by omega) (by omega) (Nat.le_of_ble_eq_true rfl) ?_
  refine ret_k ?_
  refine g_nret hX hF d_JString_charAt_15 (congrArg Value.int (ch_128 _ h128)) (by omega) (by omega) ?_
  exact ⟨rfl, rfl⟩
