def m_JInteger_bitCount : MR := (⟨"java/lang/Integer", "bitCount", "(I)I"⟩, prog_15_method_49_code, 1, (some .int))
theorem cf_JInteger_bitCount : CF m_JInteger_bitCount 1 := ⟨gd 643 (by decide +kernel) rfl, gd 152 (by decide +kernel) rfl, by decide +kernel, by decide, by decide +kernel⟩
theorem cs_JInteger_bitCount : CS m_JInteger_bitCount := gd 642 (by decide +kernel) rfl
theorem d_JInteger_bitCount_0 : Dc prog_15_method_49_code 0 (.iload_n 0) 1 1 := ⟨by decide +kernel, rfl⟩
theorem d_JInteger_bitCount_1 : Dc prog_15_method_49_code 1 (.iload_n 0) 1 2 := ⟨by decide +kernel, rfl⟩
theorem d_JInteger_bitCount_2 : Dc prog_15_method_49_code 2 (.iconst 1) 1 3 := ⟨by decide +kernel, rfl⟩
theorem d_JInteger_bitCount_3 : Dc prog_15_method_49_code 3 (.iushr) 1 4 := ⟨by decide +kernel, rfl⟩
theorem d_JInteger_bitCount_4 : Dc prog_15_method_49_code 4 (.ldc_w 265) 3 7 := ⟨by decide +kernel, rfl⟩
theorem d_JInteger_bitCount_7 : Dc prog_15_method_49_code 7 (.iand) 1 8 := ⟨by decide +kernel, rfl⟩
theorem d_JInteger_bitCount_8 : Dc prog_15_method_49_code 8 (.isub) 1 9 := ⟨by decide +kernel, rfl⟩
theorem d_JInteger_bitCount_9 : Dc prog_15_method_49_code 9 (.istore_n 0) 1 10 := ⟨by decide +kernel, rfl⟩
theorem d_JInteger_bitCount_10 : Dc prog_15_method_49_code 10 (.iload_n 0) 1 11 := ⟨by decide +kernel, rfl⟩
theorem d_JInteger_bitCount_11 : Dc prog_15_method_49_code 11 (.ldc_w 266) 3 14 := ⟨by decide +kernel, rfl⟩
theorem d_JInteger_bitCount_14 : Dc prog_15_method_49_code 14 (.iand) 1 15 := ⟨by decide +kernel, rfl⟩
theorem d_JInteger_bitCount_15 : Dc prog_15_method_49_code 15 (.iload_n 0) 1 16 := ⟨by decide +kernel, rfl⟩
theorem d_JInteger_bitCount_16 : Dc prog_15_method_49_code 16 (.iconst 2) 1 17 := ⟨by decide +kernel, rfl⟩
theorem d_JInteger_bitCount_17 : Dc prog_15_method_49_code 17 (.iushr) 1 18 := ⟨by decide +kernel, rfl⟩
theorem d_JInteger_bitCount_18 : Dc prog_15_method_49_code 18 (.ldc_w 266) 3 21 := ⟨by decide +kernel, rfl⟩
theorem d_JInteger_bitCount_21 : Dc prog_15_method_49_code 21 (.iand) 1 22 := ⟨by decide +kernel, rfl⟩
theorem d_JInteger_bitCount_22 : Dc prog_15_method_49_code 22 (.iadd) 1 23 := ⟨by decide +kernel, rfl⟩
theorem d_JInteger_bitCount_23 : Dc prog_15_method_49_code 23 (.istore_n 0) 1 24 := ⟨by decide +kernel, rfl⟩
theorem d_JInteger_bitCount_24 : Dc prog_15_method_49_code 24 (.iload_n 0) 1 25 := ⟨by decide +kernel, rfl⟩
theorem d_JInteger_bitCount_25 : Dc prog_15_method_49_code 25 (.iload_n 0) 1 26 := ⟨by decide +kernel, rfl⟩
theorem d_JInteger_bitCount_26 : Dc prog_15_method_49_code 26 (.iconst 4) 1 27 := ⟨by decide +kernel, rfl⟩
theorem d_JInteger_bitCount_27 : Dc prog_15_method_49_code 27 (.iushr) 1 28 := ⟨by decide +kernel, rfl⟩
theorem d_JInteger_bitCount_28 : Dc prog_15_method_49_code 28 (.iadd) 1 29 := ⟨by decide +kernel, rfl⟩
theorem d_JInteger_bitCount_29 : Dc prog_15_method_49_code 29 (.ldc_w 267) 3 32 := ⟨by decide +kernel, rfl⟩
theorem d_JInteger_bitCount_32 : Dc prog_15_method_49_code 32 (.iand) 1 33 := ⟨by decide +kernel, rfl⟩
theorem d_JInteger_bitCount_33 : Dc prog_15_method_49_code 33 (.istore_n 0) 1 34 := ⟨by decide +kernel, rfl⟩
theorem d_JInteger_bitCount_34 : Dc prog_15_method_49_code 34 (.iload_n 0) 1 35 := ⟨by decide +kernel, rfl⟩
theorem d_JInteger_bitCount_35 : Dc prog_15_method_49_code 35 (.iload_n 0) 1 36 := ⟨by decide +kernel, rfl⟩
theorem d_JInteger_bitCount_36 : Dc prog_15_method_49_code 36 (.bipush 8) 2 38 := ⟨by decide +kernel, rfl⟩
theorem d_JInteger_bitCount_38 : Dc prog_15_method_49_code 38 (.iushr) 1 39 := ⟨by decide +kernel, rfl⟩
theorem d_JInteger_bitCount_39 : Dc prog_15_method_49_code 39 (.iadd) 1 40 := ⟨by decide +kernel, rfl⟩
theorem d_JInteger_bitCount_40 : Dc prog_15_method_49_code 40 (.istore_n 0) 1 41 := ⟨by decide +kernel, rfl⟩
theorem d_JInteger_bitCount_41 : Dc prog_15_method_49_code 41 (.iload_n 0) 1 42 := ⟨by decide +kernel, rfl⟩
theorem d_JInteger_bitCount_42 : Dc prog_15_method_49_code 42 (.iload_n 0) 1 43 := ⟨by decide +kernel, rfl⟩
theorem d_JInteger_bitCount_43 : Dc prog_15_method_49_code 43 (.bipush 16) 2 45 := ⟨by decide +kernel, rfl⟩
theorem d_JInteger_bitCount_45 : Dc prog_15_method_49_code 45 (.iushr) 1 46 := ⟨by decide +kernel, rfl⟩
theorem d_JInteger_bitCount_46 : Dc prog_15_method_49_code 46 (.iadd) 1 47 := ⟨by decide +kernel, rfl⟩
theorem d_JInteger_bitCount_47 : Dc prog_15_method_49_code 47 (.istore_n 0) 1 48 := ⟨by decide +kernel, rfl⟩
theorem d_JInteger_bitCount_48 : Dc prog_15_method_49_code 48 (.iload_n 0) 1 49 := ⟨by decide +kernel, rfl⟩
theorem d_JInteger_bitCount_49 : Dc prog_15_method_49_code 49 (.bipush 63) 2 51 := ⟨by decide +kernel, rfl⟩
theorem d_JInteger_bitCount_51 : Dc prog_15_method_49_code 51 (.iand) 1 52 := ⟨by decide +kernel, rfl⟩
theorem d_JInteger_bitCount_52 : Dc prog_15_method_49_code 52 (.ireturn) 1 53 := ⟨by decide +kernel, rfl⟩
theorem k_JInteger_265 : Cond.constant "java/lang/Integer" 265 (1431655765) ∈ lw_gd := gd 644 (by decide +kernel) rfl
theorem k_JInteger_266 : Cond.constant "java/lang/Integer" 266 (858993459) ∈ lw_gd := gd 645 (by decide +kernel) rfl
theorem k_JInteger_267 : Cond.constant "java/lang/Integer" 267 (252645135) ∈ lw_gd := gd 646 (by decide +kernel) rfl
/-! ===== the desk's side: the library's own ===== -/
theorem g_alenI {E : EV} {X : XT} {b : ByteArray} {own : String} {nL ca sa pc pc2 : Nat} {L st : List Value} {w : Mem} {o m : Nat} (hX : CX E X b own nL) (hd : Dc b pc .arraylength 1 pc2) (hv : Lv w o (2, m)) (kk : G0 E X ca sa pc2 L (.int (nI m) :: st) w) : G0 E X ca sa pc L (.ref o :: st) w := by
  obtain ⟨hd, rfl⟩ := hd
  intro H locs ls hP hD hS hl
  obtain ⟨q0, hq⟩ := ws_at hv.1
  have hw := ws_get E hq
  rw [cell_ints hv.2.1] at hw
  exact va_alen (rest := st.map (tr (eR E))) hX.1 hX.2.1 hX.K hP q0 0 hw rfl rfl hd (kk H locs ls hP hD hS hl)
theorem g_alenJ {E : EV} {X : XT} {b : ByteArray} {own : String} {nL ca sa pc pc2 : Nat} {L st : List Value} {w : Mem} {o m : Nat} (hX : CX E X b own nL) (hd : Dc b pc .arraylength 1 pc2) (hv : Lv w o (3, m)) (kk : G0 E X ca sa pc2 L (.int (nI m) :: st) w) : G0 E X ca sa pc L (.ref o :: st) w := by
  obtain ⟨hd, rfl⟩ := hd
  intro H locs ls hP hD hS hl
  obtain ⟨q0, hq⟩ := ws_at hv.1
  have hw := ws_get E hq
  rw [cell_longs hv.2.1] at hw
  exact va_alen (rest := st.map (tr (eR E))) hX.1 hX.2.1 hX.K hP q0 1 hw rfl rfl hd (kk H locs ls hP hD hS hl)
theorem nfw_le : nativeFrameWords "java/lang/System" "arraycopy" 5 + 11 ≤ 56 := by decide
/-- System.arraycopy of ints -/
theorem g_acpI {E : EV} {X : XT} {b : ByteArray} {own : String} {nL ca sa pc pc2 : Nat} {L st : List Value} {w : Mem} {o1 o2 m1 m2 sp dp m idx dM cM sM : Nat} (hX : CX E X b own nL) (hR : RX X dM cM sM) (hd : Dc b pc (.invokestatic idx) 3 pc2) (hml : Cond.methodLink own idx arraycopyName ∈ lw_gd) (hst : Cond.static arraycopyName ∈ lw_gd) (hna : Cond.native arraycopyName ∈ lw_gd) (hin : Cond.initialized "java/lang/System" ∈ lw_gd) (h1 : Lv w o1 (2, m1)) (h2 : Lv w o2 (2, m2)) (hs : sp + m ≤ m1) (ht : dp + m ≤ m2) (hb : m1 < 100000 ∧ m2 < 100000) (hdm : 1 ≤ dM) (hcs : csum st ≤ 8) (kk : G0 E X ca sa pc2 L st (sA w o2 (va_cpy (rI w o1) (rI w o2) sp dp m))) : G0 E X ca sa pc L (.int (nI m) :: .int (nI dp) :: .ref o2 :: .int (nI sp) :: .ref o1 :: st) w := by
  obtain ⟨hd, rfl⟩ := hd
  intro H locs ls hP hD hS hl
  obtain ⟨q1, hq1⟩ := ws_at h1.1
  obtain ⟨q2, hq2⟩ := ws_at h2.1
  have hw1 := ws_get E hq1
  have hw2 := ws_get E hq2
  rw [cell_ints h1.2.1] at hw1
  rw [cell_ints h2.2.1] at hw2
  have hnf := nfw_le
  have hr2 := hR.2.1
  refine va_copyi (rest := st.map (tr (eR E))) hX.1 hX.2.1 hl.1.symm hX.2.2.1 (hX.word hml) (hX.word hna) (hX.word hst) (hX.word hin) hX.K hP hD hS q1 q2 0 0 hw1 hw2 rfl rfl rfl (nI_pos (by omega)) (nI_pos (by omega)) (nI_pos (by omega)) ?_ ?_ (fun _ _ => rfl) (Nat.le_trans hdm hR.1) (by rw [csum_tr]; omega) hd (fun H1 locs1 hP1 hD1 hS1 => ?_)
  · rw [nI_clamp (by omega), nI_clamp (by omega)]; exact hs
  · rw [nI_clamp (by omega), nI_clamp (by omega)]; exact ht
  · rw [nI_clamp (by omega), nI_clamp (by omega), nI_clamp (by omega)] at hP1 hD1
    rw [ws_set (w2 := sA w o2 (va_cpy (rI w o1) (rI w o2) sp dp m)) hD hq2 rfl (by rw [cell_ints (n := m2) (show sh (sA w o2 _) o2 = _ from h2.2.1), rI_sA]) (fun z hz => cell_sA _ hz)] at hP1 hD1
    exact kk H1 locs1 ls hP1 hD1 hS1 hl
theorem lk_acst : Cond.static arraycopyName ∈ lw_gd := gd 988 (by decide +kernel) rfl
theorem lk_acna : Cond.native arraycopyName ∈ lw_gd := gd 989 (by decide +kernel) rfl
theorem lk_acin : Cond.initialized "java/lang/System" ∈ lw_gd := gd 159 (by decide +kernel) rfl
def m_JSystem_arraycopy : MR := (arraycopyName, ByteArray.empty, 0, none)
def m_JMath_min : MR := (⟨"java/lang/Math", "min", "(II)I"⟩, prog_16_method_69_code, 2, (some .int))
theorem kc_JMath_min : Cond.code m_JMath_min.1 prog_16_method_69_code 2 (some .int) ∈ lw_gd := gd 704 (by decide +kernel) rfl
theorem ks_JMath_min : Cond.static m_JMath_min.1 ∈ lw_gd := gd 703 (by decide +kernel) rfl
def m_JMath_max : MR := (⟨"java/lang/Math", "max", "(II)I"⟩, prog_16_method_65_code, 2, (some .int))
theorem kc_JMath_max : Cond.code m_JMath_max.1 prog_16_method_65_code 2 (some .int) ∈ lw_gd := gd 708 (by decide +kernel) rfl
theorem ks_JMath_max : Cond.static m_JMath_max.1 ∈ lw_gd := gd 707 (by decide +kernel) rfl
def m_JMath_min_JJJ : MR := (⟨"java/lang/Math", "min", "(JJ)J"⟩, prog_16_method_70_code, 4, (some .long))
theorem kc_JMath_min_JJJ : Cond.code m_JMath_min_JJJ.1 prog_16_method_70_code 4 (some .long) ∈ lw_gd := gd 719 (by decide +kernel) rfl
theorem ks_JMath_min_JJJ : Cond.static m_JMath_min_JJJ.1 ∈ lw_gd := gd 718 (by decide +kernel) rfl
def m_JMath_max_JJJ : MR := (⟨"java/lang/Math", "max", "(JJ)J"⟩, prog_16_method_66_code, 4, (some .long))
theorem kc_JMath_max_JJJ : Cond.code m_JMath_max_JJJ.1 prog_16_method_66_code 4 (some .long) ∈ lw_gd := gd 722 (by decide +kernel) rfl
theorem ks_JMath_max_JJJ : Cond.static m_JMath_max_JJJ.1 ∈ lw_gd := gd 721 (by decide +kernel) rfl
theorem ki_JMath : Cond.initialized "java/lang/Math" ∈ lw_gd := gd 153 (by decide +kernel) rfl
def minI (x y : Int32) : Int32 := if x < y then x else y
def maxI (x y : Int32) : Int32 := if x < y then y else x
theorem minI_e (x y : Int32) : (if y < x then y else x) = minI y x := rfl
theorem minI_n {a c : Nat} (ha : a < 2 ^ 31) (hc : c < 2 ^ 31) : (if nI c < nI a then nI c else nI a) = nI (min a c) := by
  by_cases h : c < a
  · rw [if_pos (nI_lt h ha), Nat.min_eq_right (by omega)]
  · rw [if_neg (Int32.not_lt.mpr (nI_le (show a ≤ c by omega) hc)), Nat.min_eq_left (by omega)]
theorem maxI_n {a c : Nat} (ha : a < 2 ^ 31) (hc : c < 2 ^ 31) : (if nI a < nI c then nI c else nI a) = nI (max a c) := by
  by_cases h : a < c
  · rw [if_pos (nI_lt h hc), Nat.max_eq_right (by omega)]
  · rw [if_neg (Int32.not_lt.mpr (nI_le (show c ≤ a by omega) ha)), Nat.max_eq_left (by omega)]
theorem g_Math_min {E : EV} {X : XT} {b : ByteArray} {own : String} {nL ca sa pc pc2 : Nat} {L st : List Value} {w : Mem} {idx dM cM sM : Nat} {x y : Int32} (hX : CX E X b own nL) (hR : RX X dM cM sM) (hd : Dc b pc (.invokestatic idx) 3 pc2) (hml : Cond.methodLink own idx m_JMath_min.1 ∈ lw_gd) (hdm : 1 ≤ dM) (hcc : ca ≤ cM) (hss : sa ≤ sM) (hcs : csum st ≤ 8) (kk : G0 E X ca sa pc2 L (.int (if y < x then y else x) :: st) w) : G0 E X ca sa pc L (.int y :: .int x :: st) w := by
  obtain ⟨hd, rfl⟩ := hd
  intro H locs ls hP hD hS hl
  have hr2 := hR.2.1
  exact va_mmin (rest := st.map (tr (eR E))) hX.1 hX.2.1 hl.1.symm hX.2.2.1 (hX.word hml) (hX.word ks_JMath_min) (hX.word ki_JMath) (hX.word (kc_JMath_min)) (Nat.le_trans hdm hR.1) (by rw [csum_tr]; omega) (Nat.le_trans hcc hR.2.2.1) (Nat.le_trans hss hR.2.2.2) hd (kk H locs ls hP hD hS hl)
theorem g_Math_max {E : EV} {X : XT} {b : ByteArray} {own : String} {nL ca sa pc pc2 : Nat} {L st : List Value} {w : Mem} {idx dM cM sM : Nat} {x y : Int32} (hX : CX E X b own nL) (hR : RX X dM cM sM) (hd : Dc b pc (.invokestatic idx) 3 pc2) (hml : Cond.methodLink own idx m_JMath_max.1 ∈ lw_gd) (hdm : 1 ≤ dM) (hcc : ca ≤ cM) (hss : sa ≤ sM) (hcs : csum st ≤ 8) (kk : G0 E X ca sa pc2 L (.int (if x < y then y else x) :: st) w) : G0 E X ca sa pc L (.int y :: .int x :: st) w := by
  obtain ⟨hd, rfl⟩ := hd
  intro H locs ls hP hD hS hl
  have hr2 := hR.2.1
  exact va_mmax (rest := st.map (tr (eR E))) hX.1 hX.2.1 hl.1.symm hX.2.2.1 (hX.word hml) (hX.word ks_JMath_max) (hX.word ki_JMath) (hX.word (kc_JMath_max)) (Nat.le_trans hdm hR.1) (by rw [csum_tr]; omega) (Nat.le_trans hcc hR.2.2.1) (Nat.le_trans hss hR.2.2.2) hd (kk H locs ls hP hD hS hl)
theorem g_Math_min_JJJ {E : EV} {X : XT} {b : ByteArray} {own : String} {nL ca sa pc pc2 : Nat} {L st : List Value} {w : Mem} {idx dM cM sM : Nat} {x y : Int64} (hX : CX E X b own nL) (hR : RX X dM cM sM) (hd : Dc b pc (.invokestatic idx) 3 pc2) (hml : Cond.methodLink own idx m_JMath_min_JJJ.1 ∈ lw_gd) (hdm : 1 ≤ dM) (hcc : ca ≤ cM) (hss : sa ≤ sM) (hcs : csum st ≤ 8) (kk : G0 E X ca sa pc2 L (.long (if y < x then y else x) :: st) w) : G0 E X ca sa pc L (.long y :: .long x :: st) w := by
  obtain ⟨hd, rfl⟩ := hd
  intro H locs ls hP hD hS hl
  have hr2 := hR.2.1
  exact va_mmin_long (rest := st.map (tr (eR E))) hX.1 hX.2.1 hl.1.symm hX.2.2.1 (hX.word hml) (hX.word ks_JMath_min_JJJ) (hX.word ki_JMath) (hX.word (kc_JMath_min_JJJ)) (Nat.le_trans hdm hR.1) (by rw [csum_tr]; omega) (Nat.le_trans hcc hR.2.2.1) (Nat.le_trans hss hR.2.2.2) hd (kk H locs ls hP hD hS hl)
theorem g_Math_max_JJJ {E : EV} {X : XT} {b : ByteArray} {own : String} {nL ca sa pc pc2 : Nat} {L st : List Value} {w : Mem} {idx dM cM sM : Nat} {x y : Int64} (hX : CX E X b own nL) (hR : RX X dM cM sM) (hd : Dc b pc (.invokestatic idx) 3 pc2) (hml : Cond.methodLink own idx m_JMath_max_JJJ.1 ∈ lw_gd) (hdm : 1 ≤ dM) (hcc : ca ≤ cM) (hss : sa ≤ sM) (hcs : csum st ≤ 8) (kk : G0 E X ca sa pc2 L (.long (if y < x then x else y) :: st) w) : G0 E X ca sa pc L (.long y :: .long x :: st) w := by
  obtain ⟨hd, rfl⟩ := hd
  intro H locs ls hP hD hS hl
  have hr2 := hR.2.1
  exact va_mmax_long (rest := st.map (tr (eR E))) hX.1 hX.2.1 hl.1.symm hX.2.2.1 (hX.word hml) (hX.word ks_JMath_max_JJJ) (hX.word ki_JMath) (hX.word (kc_JMath_max_JJJ)) (Nat.le_trans hdm hR.1) (by rw [csum_tr]; omega) (Nat.le_trans hcc hR.2.2.1) (Nat.le_trans hss hR.2.2.2) hd (kk H locs ls hP hD hS hl)
def usI (x y : Int32) : Int32 := (x.toUInt32 >>> (y.toUInt32 &&& Int32.toUInt32 31)).toInt32
def bc1 (x : Int32) : Int32 := x - (usI x (nI 1) &&& nI 1431655765)
def bc2 (x : Int32) : Int32 := (x &&& nI 858993459) + (usI x (nI 2) &&& nI 858993459)
def bc3 (x : Int32) : Int32 := (x + usI x (nI 4)) &&& nI 252645135
def bc4 (x : Int32) : Int32 := x + usI x (nI 8)
def bc5 (x : Int32) : Int32 := x + usI x (nI 16)
def bcI (x : Int32) : Int32 := bc5 (bc4 (bc3 (bc2 (bc1 x)))) &&& nI 63
theorem bcI_all : ∀ a, a < 64 → ∀ c, c < 64 → bcI (nI (64 * a + c)) = nI (pop (64 * a + c)) := by decide +kernel
theorem bcI_n {x : Nat} (h : x < 4096) : bcI (nI x) = nI (pop x) := by
  have := bcI_all (x / 64) (by omega) (x % 64) (by omega)
  rw [show 64 * (x / 64) + x % 64 = x by omega] at this
  exact this
theorem c_JInteger_bitCount {E : EV} {w : Mem} {x : Nat} (hx : x < 4096) : T E m_JInteger_bitCount 0 0 0 [.int (nI x)] w (Ret (some (.int (nI (pop x)))) w) := by
  refine T_of (L := [.int (nI x)]) cf_JInteger_bitCount rfl (Nat.le_of_ble_eq_true rfl) (fun X hX hF => ?_)
  refine g_iload0 hX d_JInteger_bitCount_0 ?_
  refine g_iload0 hX d_JInteger_bitCount_1 ?_
  refine g_iconst (v := nI 1) hX d_JInteger_bitCount_2 rfl ?_
  refine g_iushr hX d_JInteger_bitCount_3 ?_
  refine g_ldc_w (v := nI 1431655765) hX d_JInteger_bitCount_4 k_JInteger_265 rfl ?_
  refine g_iand hX d_JInteger_bitCount_7 ?_
  refine g_isub hX d_JInteger_bitCount_8 ?_
  show G0 _ _ _ _ _ _ [Value.int (bc1 (nI x))] _
  refine g_istore0 hX d_JInteger_bitCount_9 (by decide) ?_
  refine g_iload0 hX d_JInteger_bitCount_10 ?_
  refine g_ldc_w (v := nI 858993459) hX d_JInteger_bitCount_11 k_JInteger_266 rfl ?_
  refine g_iand hX d_JInteger_bitCount_14 ?_
  refine g_iload0 hX d_JInteger_bitCount_15 ?_
  refine g_iconst (v := nI 2) hX d_JInteger_bitCount_16 rfl ?_
  refine g_iushr hX d_JInteger_bitCount_17 ?_
  refine g_ldc_w (v := nI 858993459) hX d_JInteger_bitCount_18 k_JInteger_266 rfl ?_
  refine g_iand hX d_JInteger_bitCount_21 ?_
  refine g_iadd hX d_JInteger_bitCount_22 ?_
  show G0 _ _ _ _ _ _ [Value.int (bc2 (bc1 (nI x)))] _
  refine g_istore0 hX d_JInteger_bitCount_23 (by decide) ?_
  refine g_iload0 hX d_JInteger_bitCount_24 ?_
  refine g_iload0 hX d_JInteger_bitCount_25 ?_
  refine g_iconst (v := nI 4) hX d_JInteger_bitCount_26 rfl ?_
  refine g_iushr hX d_JInteger_bitCount_27 ?_
  refine g_iadd hX d_JInteger_bitCount_28 ?_
  refine g_ldc_w (v := nI 252645135) hX d_JInteger_bitCount_29 k_JInteger_267 rfl ?_
  refine g_iand hX d_JInteger_bitCount_32 ?_
  show G0 _ _ _ _ _ _ [Value.int (bc3 (bc2 (bc1 (nI x))))] _
  refine g_istore0 hX d_JInteger_bitCount_33 (by decide) ?_
  refine g_iload0 hX d_JInteger_bitCount_34 ?_
  refine g_iload0 hX d_JInteger_bitCount_35 ?_
  refine g_bipush (v := nI 8) hX d_JInteger_bitCount_36 rfl ?_
  refine g_iushr hX d_JInteger_bitCount_38 ?_
  refine g_iadd hX d_JInteger_bitCount_39 ?_
  show G0 _ _ _ _ _ _ [Value.int (bc4 (bc3 (bc2 (bc1 (nI x)))))] _
  refine g_istore0 hX d_JInteger_bitCount_40 (by decide) ?_
  refine g_iload0 hX d_JInteger_bitCount_41 ?_
  refine g_iload0 hX d_JInteger_bitCount_42 ?_
  refine g_bipush (v := nI 16) hX d_JInteger_bitCount_43 rfl ?_
  refine g_iushr hX d_JInteger_bitCount_45 ?_
  refine g_iadd hX d_JInteger_bitCount_46 ?_
  show G0 _ _ _ _ _ _ [Value.int (bc5 (bc4 (bc3 (bc2 (bc1 (nI x))))))] _
  refine g_istore0 hX d_JInteger_bitCount_47 (by decide) ?_
  refine g_iload0 hX d_JInteger_bitCount_48 ?_
  refine g_bipush (v := nI 63) hX d_JInteger_bitCount_49 rfl ?_
  refine g_iand hX d_JInteger_bitCount_51 ?_
  show G0 _ _ _ _ _ _ [Value.int (bcI (nI x))] _
  refine g_iret hX hF d_JInteger_bitCount_52 (by omega) (by omega) ?_
  exact ⟨by rw [bcI_n hx], rfl⟩
