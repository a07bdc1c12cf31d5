def m_Ta_addFour : MR := (⟨"SubgraphDesk$Tape", "addFour", "(I)V"⟩, prog_11_method_2_code, 3, none)
theorem cf_Ta_addFour : CF m_Ta_addFour 1 := ⟨gd 741 (by decide +kernel) rfl, gd 143 (by decide +kernel) rfl, by decide +kernel, by decide, by decide +kernel⟩
theorem cv_Ta_addFour : CV m_Ta_addFour := ⟨gd 739 (by decide +kernel) rfl, gd 740 (by decide +kernel) rfl⟩
def m_Ta_isNumber : MR := (⟨"SubgraphDesk$Tape", "isNumber", "(II)Z"⟩, prog_11_method_8_code, 3, (some .boolean))
theorem cf_Ta_isNumber : CF m_Ta_isNumber 2 := ⟨gd 902 (by decide +kernel) rfl, gd 143 (by decide +kernel) rfl, by decide +kernel, by decide, by decide +kernel⟩
theorem cv_Ta_isNumber : CV m_Ta_isNumber := ⟨gd 900 (by decide +kernel) rfl, gd 901 (by decide +kernel) rfl⟩
def m_Ta_isSign : MR := (⟨"SubgraphDesk$Tape", "isSign", "(C)Z"⟩, prog_11_method_6_code, 2, (some .boolean))
theorem cf_Ta_isSign : CF m_Ta_isSign 1 := ⟨gd 894 (by decide +kernel) rfl, gd 143 (by decide +kernel) rfl, by decide +kernel, by decide, by decide +kernel⟩
theorem cv_Ta_isSign : CV m_Ta_isSign := ⟨gd 892 (by decide +kernel) rfl, gd 893 (by decide +kernel) rfl⟩
def m_Ta_isWord : MR := (⟨"SubgraphDesk$Tape", "isWord", "(Ljava/lang/String;)Z"⟩, prog_11_method_7_code, 3, (some .boolean))
theorem cf_Ta_isWord : CF m_Ta_isWord 1 := ⟨gd 804 (by decide +kernel) rfl, gd 143 (by decide +kernel) rfl, by decide +kernel, by decide, by decide +kernel⟩
theorem cv_Ta_isWord : CV m_Ta_isWord := ⟨gd 802 (by decide +kernel) rfl, gd 803 (by decide +kernel) rfl⟩
def m_Ta_takeText : MR := (⟨"SubgraphDesk$Tape", "takeText", "()V"⟩, prog_11_method_3_code, 1, none)
theorem cf_Ta_takeText : CF m_Ta_takeText 0 := ⟨gd 783 (by decide +kernel) rfl, gd 143 (by decide +kernel) rfl, by decide +kernel, by decide, by decide +kernel⟩
theorem cv_Ta_takeText : CV m_Ta_takeText := ⟨gd 781 (by decide +kernel) rfl, gd 782 (by decide +kernel) rfl⟩
theorem d_Ta_addFour_0 : Dc prog_11_method_2_code 0 (.bipush 24) 2 2 := ⟨by decide +kernel, rfl⟩
theorem d_Ta_addFour_2 : Dc prog_11_method_2_code 2 (.istore_n 2) 1 3 := ⟨by decide +kernel, rfl⟩
theorem d_Ta_addFour_3 : Dc prog_11_method_2_code 3 (.iload_n 2) 1 4 := ⟨by decide +kernel, rfl⟩
theorem d_Ta_addFour_4 : Dj prog_11_method_2_code 4 (.ifCond .lt 45) 7 45 49 := ⟨by decide +kernel, rfl, rfl⟩
theorem d_Ta_addFour_7 : Dc prog_11_method_2_code 7 (.aload_n 0) 1 8 := ⟨by decide +kernel, rfl⟩
theorem d_Ta_addFour_8 : Dc prog_11_method_2_code 8 (.getfield 15) 3 11 := ⟨by decide +kernel, rfl⟩
theorem d_Ta_addFour_11 : Dc prog_11_method_2_code 11 (.sipush 400) 3 14 := ⟨by decide +kernel, rfl⟩
theorem d_Ta_addFour_14 : Dj prog_11_method_2_code 14 (.if_icmp .ge 29) 17 29 43 := ⟨by decide +kernel, rfl, rfl⟩
theorem d_Ta_addFour_17 : Dc prog_11_method_2_code 17 (.aload_n 0) 1 18 := ⟨by decide +kernel, rfl⟩
theorem d_Ta_addFour_18 : Dc prog_11_method_2_code 18 (.getfield 9) 3 21 := ⟨by decide +kernel, rfl⟩
theorem d_Ta_addFour_21 : Dc prog_11_method_2_code 21 (.aload_n 0) 1 22 := ⟨by decide +kernel, rfl⟩
theorem d_Ta_addFour_22 : Dc prog_11_method_2_code 22 (.getfield 15) 3 25 := ⟨by decide +kernel, rfl⟩
theorem d_Ta_addFour_25 : Dc prog_11_method_2_code 25 (.iload_n 1) 1 26 := ⟨by decide +kernel, rfl⟩
theorem d_Ta_addFour_26 : Dc prog_11_method_2_code 26 (.iload_n 2) 1 27 := ⟨by decide +kernel, rfl⟩
theorem d_Ta_addFour_27 : Dc prog_11_method_2_code 27 (.iushr) 1 28 := ⟨by decide +kernel, rfl⟩
theorem d_Ta_addFour_28 : Dc prog_11_method_2_code 28 (.sipush 255) 3 31 := ⟨by decide +kernel, rfl⟩
theorem d_Ta_addFour_31 : Dc prog_11_method_2_code 31 (.iand) 1 32 := ⟨by decide +kernel, rfl⟩
theorem d_Ta_addFour_32 : Dc prog_11_method_2_code 32 (.iastore) 1 33 := ⟨by decide +kernel, rfl⟩
theorem d_Ta_addFour_33 : Dc prog_11_method_2_code 33 (.aload_n 0) 1 34 := ⟨by decide +kernel, rfl⟩
theorem d_Ta_addFour_34 : Dc prog_11_method_2_code 34 (.dup) 1 35 := ⟨by decide +kernel, rfl⟩
theorem d_Ta_addFour_35 : Dc prog_11_method_2_code 35 (.getfield 15) 3 38 := ⟨by decide +kernel, rfl⟩
theorem d_Ta_addFour_38 : Dc prog_11_method_2_code 38 (.iconst 1) 1 39 := ⟨by decide +kernel, rfl⟩
theorem d_Ta_addFour_39 : Dc prog_11_method_2_code 39 (.iadd) 1 40 := ⟨by decide +kernel, rfl⟩
theorem d_Ta_addFour_40 : Dc prog_11_method_2_code 40 (.putfield 15) 3 43 := ⟨by decide +kernel, rfl⟩
theorem d_Ta_addFour_43 : Dc prog_11_method_2_code 43 (.iinc 2 (-8)) 3 46 := ⟨by decide +kernel, rfl⟩
theorem d_Ta_addFour_46 : Dj prog_11_method_2_code 46 (.goto (-43)) 49 (-43) 3 := ⟨by decide +kernel, rfl, rfl⟩
theorem d_Ta_addFour_49 : Dc prog_11_method_2_code 49 (.return_) 1 50 := ⟨by decide +kernel, rfl⟩
theorem d_Ta_isNumber_0 : Dc prog_11_method_8_code 0 (.aload_n 0) 1 1 := ⟨by decide +kernel, rfl⟩
theorem d_Ta_isNumber_1 : Dc prog_11_method_8_code 1 (.getfield 35) 3 4 := ⟨by decide +kernel, rfl⟩
theorem d_Ta_isNumber_4 : Dc prog_11_method_8_code 4 (.iconst 2) 1 5 := ⟨by decide +kernel, rfl⟩
theorem d_Ta_isNumber_5 : Dj prog_11_method_8_code 5 (.if_icmp .ne 23) 8 23 28 := ⟨by decide +kernel, rfl, rfl⟩
theorem d_Ta_isNumber_8 : Dc prog_11_method_8_code 8 (.aload_n 0) 1 9 := ⟨by decide +kernel, rfl⟩
theorem d_Ta_isNumber_9 : Dc prog_11_method_8_code 9 (.getfield 38) 3 12 := ⟨by decide +kernel, rfl⟩
theorem d_Ta_isNumber_12 : Dc prog_11_method_8_code 12 (.iload_n 1) 1 13 := ⟨by decide +kernel, rfl⟩
theorem d_Ta_isNumber_13 : Dj prog_11_method_8_code 13 (.if_icmp .lt 15) 16 15 28 := ⟨by decide +kernel, rfl, rfl⟩
theorem d_Ta_isNumber_16 : Dc prog_11_method_8_code 16 (.aload_n 0) 1 17 := ⟨by decide +kernel, rfl⟩
theorem d_Ta_isNumber_17 : Dc prog_11_method_8_code 17 (.getfield 38) 3 20 := ⟨by decide +kernel, rfl⟩
theorem d_Ta_isNumber_20 : Dc prog_11_method_8_code 20 (.iload_n 2) 1 21 := ⟨by decide +kernel, rfl⟩
theorem d_Ta_isNumber_21 : Dj prog_11_method_8_code 21 (.if_icmp .gt 7) 24 7 28 := ⟨by decide +kernel, rfl, rfl⟩
theorem d_Ta_isNumber_24 : Dc prog_11_method_8_code 24 (.iconst 1) 1 25 := ⟨by decide +kernel, rfl⟩
theorem d_Ta_isNumber_25 : Dj prog_11_method_8_code 25 (.goto 4) 28 4 29 := ⟨by decide +kernel, rfl, rfl⟩
theorem d_Ta_isNumber_28 : Dc prog_11_method_8_code 28 (.iconst 0) 1 29 := ⟨by decide +kernel, rfl⟩
theorem d_Ta_isNumber_29 : Dc prog_11_method_8_code 29 (.ireturn) 1 30 := ⟨by decide +kernel, rfl⟩
theorem d_Ta_isSign_0 : Dc prog_11_method_6_code 0 (.aload_n 0) 1 1 := ⟨by decide +kernel, rfl⟩
theorem d_Ta_isSign_1 : Dc prog_11_method_6_code 1 (.getfield 35) 3 4 := ⟨by decide +kernel, rfl⟩
theorem d_Ta_isSign_4 : Dc prog_11_method_6_code 4 (.iconst 3) 1 5 := ⟨by decide +kernel, rfl⟩
theorem d_Ta_isSign_5 : Dj prog_11_method_6_code 5 (.if_icmp .ne 20) 8 20 25 := ⟨by decide +kernel, rfl, rfl⟩
theorem d_Ta_isSign_8 : Dc prog_11_method_6_code 8 (.aload_n 0) 1 9 := ⟨by decide +kernel, rfl⟩
theorem d_Ta_isSign_9 : Dc prog_11_method_6_code 9 (.getfield 9) 3 12 := ⟨by decide +kernel, rfl⟩
theorem d_Ta_isSign_12 : Dc prog_11_method_6_code 12 (.aload_n 0) 1 13 := ⟨by decide +kernel, rfl⟩
theorem d_Ta_isSign_13 : Dc prog_11_method_6_code 13 (.getfield 28) 3 16 := ⟨by decide +kernel, rfl⟩
theorem d_Ta_isSign_16 : Dc prog_11_method_6_code 16 (.iaload) 1 17 := ⟨by decide +kernel, rfl⟩
theorem d_Ta_isSign_17 : Dc prog_11_method_6_code 17 (.iload_n 1) 1 18 := ⟨by decide +kernel, rfl⟩
theorem d_Ta_isSign_18 : Dj prog_11_method_6_code 18 (.if_icmp .ne 7) 21 7 25 := ⟨by decide +kernel, rfl, rfl⟩
theorem d_Ta_isSign_21 : Dc prog_11_method_6_code 21 (.iconst 1) 1 22 := ⟨by decide +kernel, rfl⟩
theorem d_Ta_isSign_22 : Dj prog_11_method_6_code 22 (.goto 4) 25 4 26 := ⟨by decide +kernel, rfl, rfl⟩
theorem d_Ta_isSign_25 : Dc prog_11_method_6_code 25 (.iconst 0) 1 26 := ⟨by decide +kernel, rfl⟩
theorem d_Ta_isSign_26 : Dc prog_11_method_6_code 26 (.ireturn) 1 27 := ⟨by decide +kernel, rfl⟩
theorem d_Ta_isWord_0 : Dc prog_11_method_7_code 0 (.aload_n 0) 1 1 := ⟨by decide +kernel, rfl⟩
theorem d_Ta_isWord_1 : Dc prog_11_method_7_code 1 (.getfield 35) 3 4 := ⟨by decide +kernel, rfl⟩
theorem d_Ta_isWord_4 : Dc prog_11_method_7_code 4 (.iconst 1) 1 5 := ⟨by decide +kernel, rfl⟩
theorem d_Ta_isWord_5 : Dj prog_11_method_7_code 5 (.if_icmp .ne 19) 8 19 24 := ⟨by decide +kernel, rfl, rfl⟩
theorem d_Ta_isWord_8 : Dc prog_11_method_7_code 8 (.aload_n 0) 1 9 := ⟨by decide +kernel, rfl⟩
theorem d_Ta_isWord_9 : Dc prog_11_method_7_code 9 (.getfield 22) 3 12 := ⟨by decide +kernel, rfl⟩
theorem d_Ta_isWord_12 : Dc prog_11_method_7_code 12 (.aload_n 0) 1 13 := ⟨by decide +kernel, rfl⟩
theorem d_Ta_isWord_13 : Dc prog_11_method_7_code 13 (.getfield 28) 3 16 := ⟨by decide +kernel, rfl⟩
theorem d_Ta_isWord_16 : Dc prog_11_method_7_code 16 (.isub) 1 17 := ⟨by decide +kernel, rfl⟩
theorem d_Ta_isWord_17 : Dc prog_11_method_7_code 17 (.aload_n 1) 1 18 := ⟨by decide +kernel, rfl⟩
theorem d_Ta_isWord_18 : Dc prog_11_method_7_code 18 (.invokevirtual 47) 3 21 := ⟨by decide +kernel, rfl⟩
theorem d_Ta_isWord_21 : Dj prog_11_method_7_code 21 (.if_icmp .eq 5) 24 5 26 := ⟨by decide +kernel, rfl, rfl⟩
theorem d_Ta_isWord_24 : Dc prog_11_method_7_code 24 (.iconst 0) 1 25 := ⟨by decide +kernel, rfl⟩
theorem d_Ta_isWord_25 : Dc prog_11_method_7_code 25 (.ireturn) 1 26 := ⟨by decide +kernel, rfl⟩
theorem d_Ta_isWord_26 : Dc prog_11_method_7_code 26 (.iconst 0) 1 27 := ⟨by decide +kernel, rfl⟩
theorem d_Ta_isWord_27 : Dc prog_11_method_7_code 27 (.istore_n 2) 1 28 := ⟨by decide +kernel, rfl⟩
theorem d_Ta_isWord_28 : Dc prog_11_method_7_code 28 (.iload_n 2) 1 29 := ⟨by decide +kernel, rfl⟩
theorem d_Ta_isWord_29 : Dc prog_11_method_7_code 29 (.aload_n 1) 1 30 := ⟨by decide +kernel, rfl⟩
theorem d_Ta_isWord_30 : Dc prog_11_method_7_code 30 (.invokevirtual 47) 3 33 := ⟨by decide +kernel, rfl⟩
theorem d_Ta_isWord_33 : Dj prog_11_method_7_code 33 (.if_icmp .ge 30) 36 30 63 := ⟨by decide +kernel, rfl, rfl⟩
theorem d_Ta_isWord_36 : Dc prog_11_method_7_code 36 (.aload_n 0) 1 37 := ⟨by decide +kernel, rfl⟩
theorem d_Ta_isWord_37 : Dc prog_11_method_7_code 37 (.getfield 9) 3 40 := ⟨by decide +kernel, rfl⟩
theorem d_Ta_isWord_40 : Dc prog_11_method_7_code 40 (.aload_n 0) 1 41 := ⟨by decide +kernel, rfl⟩
theorem d_Ta_isWord_41 : Dc prog_11_method_7_code 41 (.getfield 28) 3 44 := ⟨by decide +kernel, rfl⟩
theorem d_Ta_isWord_44 : Dc prog_11_method_7_code 44 (.iload_n 2) 1 45 := ⟨by decide +kernel, rfl⟩
theorem d_Ta_isWord_45 : Dc prog_11_method_7_code 45 (.iadd) 1 46 := ⟨by decide +kernel, rfl⟩
theorem d_Ta_isWord_46 : Dc prog_11_method_7_code 46 (.iaload) 1 47 := ⟨by decide +kernel, rfl⟩
theorem d_Ta_isWord_47 : Dc prog_11_method_7_code 47 (.aload_n 1) 1 48 := ⟨by decide +kernel, rfl⟩
theorem d_Ta_isWord_48 : Dc prog_11_method_7_code 48 (.iload_n 2) 1 49 := ⟨by decide +kernel, rfl⟩
theorem d_Ta_isWord_49 : Dc prog_11_method_7_code 49 (.invokevirtual 52) 3 52 := ⟨by decide +kernel, rfl⟩
theorem d_Ta_isWord_52 : Dj prog_11_method_7_code 52 (.if_icmp .eq 5) 55 5 57 := ⟨by decide +kernel, rfl, rfl⟩
theorem d_Ta_isWord_55 : Dc prog_11_method_7_code 55 (.iconst 0) 1 56 := ⟨by decide +kernel, rfl⟩
theorem d_Ta_isWord_56 : Dc prog_11_method_7_code 56 (.ireturn) 1 57 := ⟨by decide +kernel, rfl⟩
theorem d_Ta_isWord_57 : Dc prog_11_method_7_code 57 (.iinc 2 1) 3 60 := ⟨by decide +kernel, rfl⟩
theorem d_Ta_isWord_60 : Dj prog_11_method_7_code 60 (.goto (-32)) 63 (-32) 28 := ⟨by decide +kernel, rfl, rfl⟩
theorem d_Ta_isWord_63 : Dc prog_11_method_7_code 63 (.iconst 1) 1 64 := ⟨by decide +kernel, rfl⟩
theorem d_Ta_isWord_64 : Dc prog_11_method_7_code 64 (.ireturn) 1 65 := ⟨by decide +kernel, rfl⟩
theorem d_Ta_takeText_0 : Dc prog_11_method_3_code 0 (.aload_n 0) 1 1 := ⟨by decide +kernel, rfl⟩
theorem d_Ta_takeText_1 : Dc prog_11_method_3_code 1 (.aload_n 0) 1 2 := ⟨by decide +kernel, rfl⟩
theorem d_Ta_takeText_2 : Dc prog_11_method_3_code 2 (.getfield 15) 3 5 := ⟨by decide +kernel, rfl⟩
theorem d_Ta_takeText_5 : Dc prog_11_method_3_code 5 (.putfield 19) 3 8 := ⟨by decide +kernel, rfl⟩
theorem d_Ta_takeText_8 : Dc prog_11_method_3_code 8 (.aload_n 0) 1 9 := ⟨by decide +kernel, rfl⟩
theorem d_Ta_takeText_9 : Dc prog_11_method_3_code 9 (.iconst 0) 1 10 := ⟨by decide +kernel, rfl⟩
theorem d_Ta_takeText_10 : Dc prog_11_method_3_code 10 (.putfield 15) 3 13 := ⟨by decide +kernel, rfl⟩
theorem d_Ta_takeText_13 : Dc prog_11_method_3_code 13 (.aload_n 0) 1 14 := ⟨by decide +kernel, rfl⟩
theorem d_Ta_takeText_14 : Dc prog_11_method_3_code 14 (.iconst 0) 1 15 := ⟨by decide +kernel, rfl⟩
theorem d_Ta_takeText_15 : Dc prog_11_method_3_code 15 (.putfield 22) 3 18 := ⟨by decide +kernel, rfl⟩
theorem d_Ta_takeText_18 : Dc prog_11_method_3_code 18 (.aload_n 0) 1 19 := ⟨by decide +kernel, rfl⟩
theorem d_Ta_takeText_19 : Dc prog_11_method_3_code 19 (.invokevirtual 25) 3 22 := ⟨by decide +kernel, rfl⟩
theorem d_Ta_takeText_22 : Dc prog_11_method_3_code 22 (.return_) 1 23 := ⟨by decide +kernel, rfl⟩
theorem fl_Ta_15 : FL "SubgraphDesk$Tape" 15 10 1 false .int (0, 0) := ⟨R_Ta, F_Ta, 7, ty_Ta, rfl, rfl, in_Ta, tyok_Ta, nm_Ta, by decide, gd 302 (by decide +kernel) rfl, rfl, rfl, rfl⟩
theorem ml_Ta_25 : Cond.methodLink "SubgraphDesk$Tape" 25 m_Ta_step.1 ∈ lw_gd := gd 784 (by decide +kernel) rfl
theorem ml_Ta_47 : Cond.methodLink "SubgraphDesk$Tape" 47 m_JString_length.1 ∈ lw_gd := gd 805 (by decide +kernel) rfl
theorem ml_Ta_52 : Cond.methodLink "SubgraphDesk$Tape" 52 m_JString_charAt.1 ∈ lw_gd := gd 815 (by decide +kernel) rfl
/-- a String constant as a list -/
def strW (i : Nat) : List Nat := (strByt.getD i []).map (fun x => x.toNatClampNeg)
theorem strW_len {i : Nat} (hi : i < 24) : (strW i).length = strLen.getD i 0 := by
  unfold strW
  rw [List.length_map]
  exact (chS_all i hi).1.symm
theorem strW_at (i k : Nat) : gA (strW i) k = chS i k := by
  unfold strW gA chS
  generalize strByt.getD i [] = l
  rw [List.getD_eq_getElem?_getD, List.getElem?_map, List.getD_eq_getElem?_getD]
  cases l[k]? with
  | none => rfl
  | some x => rfl
theorem strW_all : strW 0 = wJoin ∧ strW 1 = wTie ∧ strW 2 = wPaint ∧ strW 3 = wDye ∧ strW 4 = wTime ∧ strW 5 = wDone ∧ strW 6 = wLatest ∧ strW 7 = wEdges ∧ strW 8 = wWays ∧ strW 9 = wDegree ∧ strW 10 = wVertex ∧ strW 11 = wNode ∧ strW 12 = wColour ∧ strW 13 = wLinks ∧ strW 14 = wMood ∧ strW 15 = wTo ∧ strW 16 = wAs ∧ strW 17 = wTimes ∧ strW 18 = wCosts ∧ strW 19 = wBars ∧ strW 20 = wIf ∧ strW 21 = wNot ∧ strW 22 = wAnd ∧ strW 23 = wOr := by decide +kernel
theorem TkD.le {w : Mem} {t : List Nat} {f : Nat} (h : TkD w t f) : t.length ≤ 400 ∧ f ≤ t.length ∧ enT t f ≤ t.length ∧ f ≤ enT t f ∧ srt t f ≤ 3 := ⟨h.1.1, h.2.2.2.2.2.1, enT_le h.2.2.2.2.2.1, by
  by_cases e : srt t f = 0
  · unfold enT; rw [if_pos e]; exact Nat.le_refl _
  · exact Nat.le_of_lt (enT_gt e), srt_le _ _⟩
theorem numC_le (t : List Nat) (f : Nat) : numC t f ≤ 1001 := digC_le _ _ _
theorem c_Ta_isSign {E : EV} {w : Mem} {c : Nat} (hc : c < 65536) {t : List Nat} {f : Nat} (hT : TkD w t f) : T E m_Ta_isSign 0 0 0 [.ref 26, .int (nI c)] w (Ret (some (.int (b2i (isS t f c)))) w) := by
  refine T_of (L := [.ref 26, .int (nI c)]) cf_Ta_isSign rfl (Nat.le_of_ble_eq_true rfl) (fun X hX hF => ?_)
  obtain ⟨htl, hfl, hel, hge, hs3⟩ := hT.le
  have hnu := numC_le t f
  refine g_aload0 hX d_Ta_isSign_0 ?_
  refine g_getI hX d_Ta_isSign_1 fl_Ta_35 (lv_26 _) ?_
  refine g_topi hT.2.2.2.1 ?_
  refine g_iconst (v := nI 3) hX d_Ta_isSign_4 rfl ?_
  refine g_icmpN_ne hX d_Ta_isSign_5 (by omega) (by omega) (fun e5 => ?_) (fun e5 => ?_)
  · refine g_iconst (v := nI 0) hX d_Ta_isSign_25 rfl ?_
    refine g_zret hX hF d_Ta_isSign_26 (Or.inl rfl) (by omega) (by omega) ?_
    first | exact ret_f (fun h => e5 h.1) | exact ret_f (fun h => e18 h.2) | exact ret_t ⟨by omega, by omega⟩
  · have hfs := srt_lt (t := t) (f := f) (by omega)
    have hby := (hT.1.2.2 f hfs).2
    refine g_aload0 hX d_Ta_isSign_8 ?_
    refine g_getF hX d_Ta_isSign_9 fl_Ta_9 (lv_26 _) ?_
    refine g_aload0 hX d_Ta_isSign_12 ?_
    refine g_getI hX d_Ta_isSign_13 fl_Ta_28 (lv_26 _) ?_
    refine g_topi hT.2.1 ?_
    refine g_iald hX d_Ta_isSign_16 (lv_27 _) rfl (by omega) ?_
    refine g_topi (show rI w 27 f = nI (gA t f) from (hT.1.2.2 f hfs).1) ?_
    refine g_iload1 hX d_Ta_isSign_17 ?_
    refine g_icmpN_ne hX d_Ta_isSign_18 (by omega) (by omega) (fun e18 => ?_) (fun e18 => ?_)
    · refine g_iconst (v := nI 0) hX d_Ta_isSign_25 rfl ?_
      refine g_zret hX hF d_Ta_isSign_26 (Or.inl rfl) (by omega) (by omega) ?_
      first | exact ret_f (fun h => e5 h.1) | exact ret_f (fun h => e18 h.2) | exact ret_t ⟨by omega, by omega⟩
    · refine g_iconst (v := nI 1) hX d_Ta_isSign_21 rfl ?_
      refine g_goto hX d_Ta_isSign_22 ?_
      refine g_zret hX hF d_Ta_isSign_26 (Or.inr rfl) (by omega) (by omega) ?_
      first | exact ret_f (fun h => e5 h.1) | exact ret_f (fun h => e18 h.2) | exact ret_t ⟨by omega, by omega⟩
theorem c_Ta_isNumber {E : EV} {w : Mem} {lo hi : Nat} (hlo : lo < 65536) (hhi : hi < 65536) {t : List Nat} {f : Nat} (hT : TkD w t f) : T E m_Ta_isNumber 0 0 0 [.ref 26, .int (nI lo), .int (nI hi)] w (Ret (some (.int (b2i (isN t f lo hi)))) w) := by
  refine T_of (L := [.ref 26, .int (nI lo), .int (nI hi)]) cf_Ta_isNumber rfl (Nat.le_of_ble_eq_true rfl) (fun X hX hF => ?_)
  obtain ⟨htl, hfl, hel, hge, hs3⟩ := hT.le
  have hnu := numC_le t f
  refine g_aload0 hX d_Ta_isNumber_0 ?_
  refine g_getI hX d_Ta_isNumber_1 fl_Ta_35 (lv_26 _) ?_
  refine g_topi hT.2.2.2.1 ?_
  refine g_iconst (v := nI 2) hX d_Ta_isNumber_4 rfl ?_
  refine g_icmpN_ne hX d_Ta_isNumber_5 (by omega) (by omega) (fun e5 => ?_) (fun e5 => ?_)
  · refine g_iconst (v := nI 0) hX d_Ta_isNumber_28 rfl ?_
    refine g_zret hX hF d_Ta_isNumber_29 (Or.inl rfl) (by omega) (by omega) ?_
    first | exact ret_f (fun h => e5 h.1) | exact ret_f (fun h => absurd h.2.1 (by omega)) | exact ret_f (fun h => absurd h.2.2 (by omega)) | exact ret_t ⟨by omega, by omega, by omega⟩
  · refine g_aload0 hX d_Ta_isNumber_8 ?_
    refine g_getI hX d_Ta_isNumber_9 fl_Ta_38 (lv_26 _) ?_
    refine g_topi (hT.2.2.2.2.1 (by omega)) ?_
    refine g_iload1 hX d_Ta_isNumber_12 ?_
    refine g_icmpN_lt hX d_Ta_isNumber_13 (by omega) (by omega) (fun e13 => ?_) (fun e13 => ?_)
    · refine g_iconst (v := nI 0) hX d_Ta_isNumber_28 rfl ?_
      refine g_zret hX hF d_Ta_isNumber_29 (Or.inl rfl) (by omega) (by omega) ?_
      first | exact ret_f (fun h => e5 h.1) | exact ret_f (fun h => absurd h.2.1 (by omega)) | exact ret_f (fun h => absurd h.2.2 (by omega)) | exact ret_t ⟨by omega, by omega, by omega⟩
    · refine g_aload0 hX d_Ta_isNumber_16 ?_
      refine g_getI hX d_Ta_isNumber_17 fl_Ta_38 (lv_26 _) ?_
      refine g_topi (hT.2.2.2.2.1 (by omega)) ?_
      refine g_iload2 hX d_Ta_isNumber_20 ?_
      refine g_icmpN_gt hX d_Ta_isNumber_21 (by omega) (by omega) (fun e21 => ?_) (fun e21 => ?_)
      · refine g_iconst (v := nI 0) hX d_Ta_isNumber_28 rfl ?_
        refine g_zret hX hF d_Ta_isNumber_29 (Or.inl rfl) (by omega) (by omega) ?_
        first | exact ret_f (fun h => e5 h.1) | exact ret_f (fun h => absurd h.2.1 (by omega)) | exact ret_f (fun h => absurd h.2.2 (by omega)) | exact ret_t ⟨by omega, by omega, by omega⟩
      · refine g_iconst (v := nI 1) hX d_Ta_isNumber_24 rfl ?_
        refine g_goto hX d_Ta_isNumber_25 ?_
        refine g_zret hX hF d_Ta_isNumber_29 (Or.inr rfl) (by omega) (by omega) ?_
        first | exact ret_f (fun h => e5 h.1) | exact ret_f (fun h => absurd h.2.1 (by omega)) | exact ret_f (fun h => absurd h.2.2 (by omega)) | exact ret_t ⟨by omega, by omega, by omega⟩
theorem c_Ta_isWord {E : EV} {w : Mem} {i : Nat} {wd : List Nat} (hi : i < 24) (hw : strW i = wd) {t : List Nat} {f : Nat} (hT : TkD w t f) : T E m_Ta_isWord 4 0 0 [.ref 26, .ref (900 + i)] w (Ret (some (.int (b2i (isW t f wd)))) w) := by
  refine T_of (L := [.ref 26, .ref (900 + i), un]) cf_Ta_isWord rfl (Nat.le_of_ble_eq_true rfl) (fun X hX hF => ?_)
  obtain ⟨htl, hfl, hel, hge, hs3⟩ := hT.le
  have hnu := numC_le t f
  have hl8 := (chS_all i hi).2.1
  have hle : strLen.getD i 0 = wd.length := by rw [← hw, strW_len hi]
  have hat : ∀ k, gA wd k = chS i k := fun k => by rw [← hw, strW_at]
  have hlw : srt t f = 1 → enT t f - f = wd.length → ∀ (fuel k : Nat), wd.length - k < fuel → k ≤ wd.length → (∀ j, j < k → gA t (f + j) = gA wd j) → G0 E X 0 0 28 [.ref 26, .ref (900 + i), .int (nI k)] [] w := by
    intro h1 hln
    have lw : ∀ (fuel : Nat) (k : Nat), wd.length - k < fuel → (k ≤ wd.length) → (∀ j, j < k → gA t (f + j) = gA wd j) → G0 E X 0 0 28 [.ref 26, .ref (900 + i), .int (nI k)] [] w := by
      intro fuel
      induction fuel with
      | zero => intro k q0; exact absurd q0 (Nat.not_lt_zero _)
      | succ fuel ih =>
        intro k q0 q1 q2
        refine g_iload2 hX d_Ta_isWord_28 ?_
        refine g_aload1 hX d_Ta_isWord_29 ?_
        refine g_callV (As := []) hX hF.1 d_Ta_isWord_30 ml_Ta_47 cf_JString_length cv_JString_length rfl rfl (c_JString_length hi) (rcv_str hX hi) (by omega) (by omega) (by omega) (Nat.le_of_ble_eq_true rfl) ?_
        refine ret_k ?_
        refine g_icmpN_ge hX d_Ta_isWord_33 (by omega) (by omega) (fun e33 => ?_) (fun e33 => ?_)
        · refine g_iconst (v := nI 1) hX d_Ta_isWord_63 rfl ?_
          refine g_zret hX hF d_Ta_isWord_64 (Or.inr rfl) (by omega) (by omega) ?_
          exact ret_t ⟨h1, hln, fun j hj => q2 j (by omega)⟩
        · have hk : k < strLen.getD i 0 := by omega
          have hfk : f + k < t.length := by omega
          have hby := (hT.1.2.2 (f + k) hfk).2
          have hch := ((chS_all i hi).2.2 k hk).2
          refine g_aload0 hX d_Ta_isWord_36 ?_
          refine g_getF hX d_Ta_isWord_37 fl_Ta_9 (lv_26 _) ?_
          refine g_aload0 hX d_Ta_isWord_40 ?_
          refine g_getI hX d_Ta_isWord_41 fl_Ta_28 (lv_26 _) ?_
          refine g_topi hT.2.1 ?_
          refine g_iload2 hX d_Ta_isWord_44 ?_
          refine g_iaddN hX d_Ta_isWord_45 ?_
          refine g_iald hX d_Ta_isWord_46 (lv_27 _) rfl (by omega) ?_
          refine g_topi (show rI w 27 (f + k) = nI (gA t (f + k)) from (hT.1.2.2 (f + k) hfk).1) ?_
          refine g_aload1 hX d_Ta_isWord_47 ?_
          refine g_iload2 hX d_Ta_isWord_48 ?_
          refine g_callV (As := [_]) hX hF.1 d_Ta_isWord_49 ml_Ta_52 cf_JString_charAt cv_JString_charAt rfl rfl (c_JString_charAt hi hk) (rcv_str hX hi) (by omega) (by omega) (by omega) (Nat.le_of_ble_eq_true rfl) ?_
          refine ret_k ?_
          refine g_icmpN_eq hX d_Ta_isWord_52 (by omega) (by omega) (fun e52 => ?_) (fun e52 => ?_)
          · refine g_iincN2 hX d_Ta_isWord_57 rfl (by decide) ?_
            refine g_goto hX d_Ta_isWord_60 ?_
            exact ih (k + 1) (by omega) (by omega) (fun j hj => by
              by_cases e : j = k
              · rw [e, hat]; exact e52
              · exact q2 j (by omega))
          · refine g_iconst (v := nI 0) hX d_Ta_isWord_55 rfl ?_
            refine g_zret hX hF d_Ta_isWord_56 (Or.inl rfl) (by omega) (by omega) ?_
            exact ret_f (fun h => e52 (by rw [h.2.2 k (by omega), hat]))
    exact lw
  refine g_aload0 hX d_Ta_isWord_0 ?_
  refine g_getI hX d_Ta_isWord_1 fl_Ta_35 (lv_26 _) ?_
  refine g_topi hT.2.2.2.1 ?_
  refine g_iconst (v := nI 1) hX d_Ta_isWord_4 rfl ?_
  refine g_icmpN_ne hX d_Ta_isWord_5 (by omega) (by omega) (fun e5 => ?_) (fun e5 => ?_)
  · refine g_iconst (v := nI 0) hX d_Ta_isWord_24 rfl ?_
    refine g_zret hX hF d_Ta_isWord_25 (Or.inl rfl) (by omega) (by omega) ?_
    first | exact ret_f (fun h => e5 h.1) | exact ret_f (fun h => absurd h.2.1 (by omega))
  · refine g_aload0 hX d_Ta_isWord_8 ?_
    refine g_getI hX d_Ta_isWord_9 fl_Ta_22 (lv_26 _) ?_
    refine g_topi hT.2.2.1 ?_
    refine g_aload0 hX d_Ta_isWord_12 ?_
    refine g_getI hX d_Ta_isWord_13 fl_Ta_28 (lv_26 _) ?_
    refine g_topi hT.2.1 ?_
    refine g_isubN hX d_Ta_isWord_16 hge ?_
    refine g_aload1 hX d_Ta_isWord_17 ?_
    refine g_callV (As := []) hX hF.1 d_Ta_isWord_18 ml_Ta_47 cf_JString_length cv_JString_length rfl rfl (c_JString_length hi) (rcv_str hX hi) (by omega) (by omega) (by omega) (Nat.le_of_ble_eq_true rfl) ?_
    refine ret_k ?_
    refine g_icmpN_eq hX d_Ta_isWord_21 (by omega) (by omega) (fun e21 => ?_) (fun e21 => ?_)
    · refine g_iconst (v := nI 0) hX d_Ta_isWord_26 rfl ?_
      refine g_istore2 hX d_Ta_isWord_27 rfl (by decide) ?_
      exact hlw (by omega) (by omega) (wd.length + 1) 0 (by omega) (by omega) (fun j hj => absurd hj (Nat.not_lt_zero _))
    · refine g_iconst (v := nI 0) hX d_Ta_isWord_24 rfl ?_
      refine g_zret hX hF d_Ta_isWord_25 (Or.inl rfl) (by omega) (by omega) ?_
      first | exact ret_f (fun h => e5 h.1) | exact ret_f (fun h => absurd h.2.1 (by omega))
/-- the bytes on the tape: what is fed -/
def TpP (w : Mem) (t : List Nat) : Prop := t.length ≤ 400 ∧ rI w 26 1 = nI t.length ∧ ∀ k, k < t.length → rI w 27 k = nI (gA t k) ∧ gA t k < 256
/-- only what is fed changed -/
def FrTp (w w2 : Mem) : Prop := (∀ a, a ≠ 26 → a ≠ 27 → rI w2 a = rI w a) ∧ (∀ k, k ≠ 1 → rI w2 26 k = rI w 26 k) ∧ w2.2 = w.2
theorem FrTp.rf (w : Mem) : FrTp w w := ⟨fun _ _ _ => rfl, fun _ _ => rfl, rfl⟩
theorem FrTp.tr {a b c : Mem} (h : FrTp a b) (h2 : FrTp b c) : FrTp a c := ⟨fun x h3 h4 => (h2.1 x h3 h4).trans (h.1 x h3 h4), fun k hk => (h2.2.1 k hk).trans (h.2.1 k hk), h2.2.2.trans h.2.2⟩
theorem TpP.snoc {w : Mem} {t : List Nat} {x : Nat} (h : TpP w t) (hx : x < 256) (hl : t.length < 400) : TpP (sI (sI w 27 t.length (nI x)) 26 1 (nI (t.length + 1))) (t ++ [x]) := by
  refine ⟨by rw [List.length_append, List.length_singleton]; omega, by rw [rI_sI, upd_eq, if_pos rfl, List.length_append, List.length_singleton], fun k hk => ?_⟩
  rw [List.length_append, List.length_singleton] at hk
  rw [rI_sI_ne _ _ _ (by decide), rI_sI, upd_eq, gA_app]
  by_cases e : k = t.length
  · rw [if_pos e, if_pos e]; exact ⟨rfl, hx⟩
  · rw [if_neg e, if_neg e]; exact h.2.2 k (by omega)
theorem FrTp.snoc (w : Mem) (k : Nat) (x y : Int32) : FrTp w (sI (sI w 27 k x) 26 1 y) := ⟨fun a h1 h2 => by rw [rI_sI_ne _ _ _ h1, rI_sI_ne _ _ _ h2], fun q hq => by rw [rI_sI, upd_eq, if_neg hq, rI_sI_ne _ _ _ (by decide)], rfl⟩
theorem ush_of {v : Int32} {s : Nat} (hs : s = 24 ∨ s = 16 ∨ s = 8 ∨ s = 0) : (v.toUInt32 >>> ((nI s).toUInt32 &&& Int32.toUInt32 31)).toInt32 &&& nI 255 = nI (v.toBitVec.toNat / 2 ^ s % 256) := by
  apply i32_ext
  apply BitVec.eq_of_getLsbD_eq
  intro i hi
  have e1 : ((v.toUInt32 >>> ((nI s).toUInt32 &&& Int32.toUInt32 31)).toInt32).toBitVec = v.toBitVec >>> s := by
    rcases hs with rfl | rfl | rfl | rfl <;> rfl
  show (((v.toUInt32 >>> ((nI s).toUInt32 &&& Int32.toUInt32 31)).toInt32).toBitVec &&& (BitVec.ofNat 32 255)).getLsbD i = (BitVec.ofNat 32 _).getLsbD i
  rw [e1, BitVec.getLsbD_and, BitVec.getLsbD_ushiftRight, BitVec.getLsbD_ofNat, BitVec.getLsbD_ofNat]
  have e2 : (255 : Nat).testBit i = decide (i < 8) := by
    rw [show (255 : Nat) = 2 ^ 8 - 1 from rfl, Nat.testBit_two_pow_sub_one]
  have e3 : (v.toBitVec.toNat / 2 ^ s % 256).testBit i = (decide (i < 8) && v.toBitVec.toNat.testBit (s + i)) := by
    rw [show (256 : Nat) = 2 ^ 8 from rfl, Nat.testBit_mod_two_pow, Nat.testBit_div_two_pow, Nat.add_comm]
  rw [e2, e3]
  by_cases h8 : i < 8
  · have h32 : s + i < 32 := by omega
    simp [h8, h32, hi, BitVec.getLsbD]
  · simp [h8]
theorem c_Ta_addFour {E : EV} {w : Mem} {v : Int32} {t : List Nat} (hT : TpP w t) (hl : t.length ≤ 396) : T E m_Ta_addFour 0 0 0 [.ref 26, .int v] w (fun r w2 => r = none ∧ TpP w2 (t ++ bytes4 v) ∧ FrTp w w2) := by
  refine T_of (L := [.ref 26, .int v, un]) cf_Ta_addFour rfl (Nat.le_of_ble_eq_true rfl) (fun X hX hF => ?_)
  have k4 : ∀ (tk : List Nat) (wk : Mem), TpP wk tk → tk.length + 0 ≤ 400 → FrTp w wk → tk ++ [] = t ++ bytes4 v → G0 E X 0 0 3 [.ref 26, .int v, .int (-8)] [] wk := by
    intro tk wk h1 h2 h3 h4
    refine g_iload2 hX d_Ta_addFour_3 ?_
    refine g_if_lt hX d_Ta_addFour_4 (fun c0 => ?_) (fun h => absurd (by decide) h)
    refine g_vret hX hF d_Ta_addFour_49 (by omega) (by omega) ?_
    rw [List.append_nil] at h4
    rw [← h4]
    exact ⟨rfl, h1, h3⟩
  have k3 : ∀ (tk : List Nat) (wk : Mem), TpP wk tk → tk.length + 1 ≤ 400 → FrTp w wk → tk ++ [(v.toBitVec.toNat / 2 ^ 0 % 256)] = t ++ bytes4 v → G0 E X 0 0 3 [.ref 26, .int v, .int (nI 0)] [] wk := by
    intro tk wk h1 h2 h3 h4
    refine g_iload2 hX d_Ta_addFour_3 ?_
    refine g_if_lt hX d_Ta_addFour_4 (fun h => absurd h (by decide)) (fun c0 => ?_)
    refine g_aload0 hX d_Ta_addFour_7 ?_
    refine g_getI hX d_Ta_addFour_8 fl_Ta_15 (lv_26 _) ?_
    refine g_topi h1.2.1 ?_
    refine g_sipush (v := nI 400) hX d_Ta_addFour_11 rfl ?_
    refine g_icmpN_ge hX d_Ta_addFour_14 (by omega) (by omega) (fun h => absurd h (by omega)) (fun c1 => ?_)
    refine g_aload0 hX d_Ta_addFour_17 ?_
    refine g_getF hX d_Ta_addFour_18 fl_Ta_9 (lv_26 _) ?_
    refine g_aload0 hX d_Ta_addFour_21 ?_
    refine g_getI hX d_Ta_addFour_22 fl_Ta_15 (lv_26 _) ?_
    refine g_topi h1.2.1 ?_
    refine g_iload1 hX d_Ta_addFour_25 ?_
    refine g_iload2 hX d_Ta_addFour_26 ?_
    refine g_iushr hX d_Ta_addFour_27 ?_
    refine g_sipush (v := nI 255) hX d_Ta_addFour_28 rfl ?_
    refine g_iand hX d_Ta_addFour_31 ?_
    refine g_topi (ush_of (s := 0) (by decide)) ?_
    refine g_iast hX d_Ta_addFour_32 (lv_27 _) rfl (by omega) ?_
    refine g_aload0 hX d_Ta_addFour_33 ?_
    refine g_dup hX d_Ta_addFour_34 rfl ?_
    refine g_getI hX d_Ta_addFour_35 fl_Ta_15 (lv_26 _) ?_
    refine g_topi (show rI (sI wk 27 tk.length _) 26 1 = nI tk.length by rw [rI_sI_ne _ _ _ (by decide)]; exact h1.2.1) ?_
    refine g_iconst (v := nI 1) hX d_Ta_addFour_38 rfl ?_
    refine g_iaddN hX d_Ta_addFour_39 ?_
    refine g_putI hX d_Ta_addFour_40 fl_Ta_15 (lv_26 _) ?_
    refine g_iinc2 (v := (-8)) hX d_Ta_addFour_43 (by decide) rfl (by decide) ?_
    refine g_goto hX d_Ta_addFour_46 ?_
    have hm := Nat.mod_lt (v.toBitVec.toNat / 2 ^ 0) (show 0 < 256 by decide)
    exact k4 (tk ++ [(v.toBitVec.toNat / 2 ^ 0 % 256)]) _ (h1.snoc hm (by omega)) (by rw [List.length_append, List.length_singleton]; omega) (h3.tr (FrTp.snoc _ _ _ _)) (by rw [List.append_assoc]; exact h4)
  have k2 : ∀ (tk : List Nat) (wk : Mem), TpP wk tk → tk.length + 2 ≤ 400 → FrTp w wk → tk ++ [(v.toBitVec.toNat / 2 ^ 8 % 256), (v.toBitVec.toNat / 2 ^ 0 % 256)] = t ++ bytes4 v → G0 E X 0 0 3 [.ref 26, .int v, .int (nI 8)] [] wk := by
    intro tk wk h1 h2 h3 h4
    refine g_iload2 hX d_Ta_addFour_3 ?_
    refine g_if_lt hX d_Ta_addFour_4 (fun h => absurd h (by decide)) (fun c0 => ?_)
    refine g_aload0 hX d_Ta_addFour_7 ?_
    refine g_getI hX d_Ta_addFour_8 fl_Ta_15 (lv_26 _) ?_
    refine g_topi h1.2.1 ?_
    refine g_sipush (v := nI 400) hX d_Ta_addFour_11 rfl ?_
    refine g_icmpN_ge hX d_Ta_addFour_14 (by omega) (by omega) (fun h => absurd h (by omega)) (fun c1 => ?_)
    refine g_aload0 hX d_Ta_addFour_17 ?_
    refine g_getF hX d_Ta_addFour_18 fl_Ta_9 (lv_26 _) ?_
    refine g_aload0 hX d_Ta_addFour_21 ?_
    refine g_getI hX d_Ta_addFour_22 fl_Ta_15 (lv_26 _) ?_
    refine g_topi h1.2.1 ?_
    refine g_iload1 hX d_Ta_addFour_25 ?_
    refine g_iload2 hX d_Ta_addFour_26 ?_
    refine g_iushr hX d_Ta_addFour_27 ?_
    refine g_sipush (v := nI 255) hX d_Ta_addFour_28 rfl ?_
    refine g_iand hX d_Ta_addFour_31 ?_
    refine g_topi (ush_of (s := 8) (by decide)) ?_
    refine g_iast hX d_Ta_addFour_32 (lv_27 _) rfl (by omega) ?_
    refine g_aload0 hX d_Ta_addFour_33 ?_
    refine g_dup hX d_Ta_addFour_34 rfl ?_
    refine g_getI hX d_Ta_addFour_35 fl_Ta_15 (lv_26 _) ?_
    refine g_topi (show rI (sI wk 27 tk.length _) 26 1 = nI tk.length by rw [rI_sI_ne _ _ _ (by decide)]; exact h1.2.1) ?_
    refine g_iconst (v := nI 1) hX d_Ta_addFour_38 rfl ?_
    refine g_iaddN hX d_Ta_addFour_39 ?_
    refine g_putI hX d_Ta_addFour_40 fl_Ta_15 (lv_26 _) ?_
    refine g_iinc2 (v := nI 0) hX d_Ta_addFour_43 (by decide) rfl (by decide) ?_
    refine g_goto hX d_Ta_addFour_46 ?_
    have hm := Nat.mod_lt (v.toBitVec.toNat / 2 ^ 8) (show 0 < 256 by decide)
    exact k3 (tk ++ [(v.toBitVec.toNat / 2 ^ 8 % 256)]) _ (h1.snoc hm (by omega)) (by rw [List.length_append, List.length_singleton]; omega) (h3.tr (FrTp.snoc _ _ _ _)) (by rw [List.append_assoc]; exact h4)
  have k1 : ∀ (tk : List Nat) (wk : Mem), TpP wk tk → tk.length + 3 ≤ 400 → FrTp w wk → tk ++ [(v.toBitVec.toNat / 2 ^ 16 % 256), (v.toBitVec.toNat / 2 ^ 8 % 256), (v.toBitVec.toNat / 2 ^ 0 % 256)] = t ++ bytes4 v → G0 E X 0 0 3 [.ref 26, .int v, .int (nI 16)] [] wk := by
    intro tk wk h1 h2 h3 h4
    refine g_iload2 hX d_Ta_addFour_3 ?_
    refine g_if_lt hX d_Ta_addFour_4 (fun h => absurd h (by decide)) (fun c0 => ?_)
    refine g_aload0 hX d_Ta_addFour_7 ?_
    refine g_getI hX d_Ta_addFour_8 fl_Ta_15 (lv_26 _) ?_
    refine g_topi h1.2.1 ?_
    refine g_sipush (v := nI 400) hX d_Ta_addFour_11 rfl ?_
    refine g_icmpN_ge hX d_Ta_addFour_14 (by omega) (by omega) (fun h => absurd h (by omega)) (fun c1 => ?_)
    refine g_aload0 hX d_Ta_addFour_17 ?_
    refine g_getF hX d_Ta_addFour_18 fl_Ta_9 (lv_26 _) ?_
    refine g_aload0 hX d_Ta_addFour_21 ?_
    refine g_getI hX d_Ta_addFour_22 fl_Ta_15 (lv_26 _) ?_
    refine g_topi h1.2.1 ?_
    refine g_iload1 hX d_Ta_addFour_25 ?_
    refine g_iload2 hX d_Ta_addFour_26 ?_
    refine g_iushr hX d_Ta_addFour_27 ?_
    refine g_sipush (v := nI 255) hX d_Ta_addFour_28 rfl ?_
    refine g_iand hX d_Ta_addFour_31 ?_
    refine g_topi (ush_of (s := 16) (by decide)) ?_
    refine g_iast hX d_Ta_addFour_32 (lv_27 _) rfl (by omega) ?_
    refine g_aload0 hX d_Ta_addFour_33 ?_
    refine g_dup hX d_Ta_addFour_34 rfl ?_
    refine g_getI hX d_Ta_addFour_35 fl_Ta_15 (lv_26 _) ?_
    refine g_topi (show rI (sI wk 27 tk.length _) 26 1 = nI tk.length by rw [rI_sI_ne _ _ _ (by decide)]; exact h1.2.1) ?_
    refine g_iconst (v := nI 1) hX d_Ta_addFour_38 rfl ?_
    refine g_iaddN hX d_Ta_addFour_39 ?_
    refine g_putI hX d_Ta_addFour_40 fl_Ta_15 (lv_26 _) ?_
    refine g_iinc2 (v := nI 8) hX d_Ta_addFour_43 (by decide) rfl (by decide) ?_
    refine g_goto hX d_Ta_addFour_46 ?_
    have hm := Nat.mod_lt (v.toBitVec.toNat / 2 ^ 16) (show 0 < 256 by decide)
    exact k2 (tk ++ [(v.toBitVec.toNat / 2 ^ 16 % 256)]) _ (h1.snoc hm (by omega)) (by rw [List.length_append, List.length_singleton]; omega) (h3.tr (FrTp.snoc _ _ _ _)) (by rw [List.append_assoc]; exact h4)
  have k0 : ∀ (tk : List Nat) (wk : Mem), TpP wk tk → tk.length + 4 ≤ 400 → FrTp w wk → tk ++ [(v.toBitVec.toNat / 2 ^ 24 % 256), (v.toBitVec.toNat / 2 ^ 16 % 256), (v.toBitVec.toNat / 2 ^ 8 % 256), (v.toBitVec.toNat / 2 ^ 0 % 256)] = t ++ bytes4 v → G0 E X 0 0 3 [.ref 26, .int v, .int (nI 24)] [] wk := by
    intro tk wk h1 h2 h3 h4
    refine g_iload2 hX d_Ta_addFour_3 ?_
    refine g_if_lt hX d_Ta_addFour_4 (fun h => absurd h (by decide)) (fun c0 => ?_)
    refine g_aload0 hX d_Ta_addFour_7 ?_
    refine g_getI hX d_Ta_addFour_8 fl_Ta_15 (lv_26 _) ?_
    refine g_topi h1.2.1 ?_
    refine g_sipush (v := nI 400) hX d_Ta_addFour_11 rfl ?_
    refine g_icmpN_ge hX d_Ta_addFour_14 (by omega) (by omega) (fun h => absurd h (by omega)) (fun c1 => ?_)
    refine g_aload0 hX d_Ta_addFour_17 ?_
    refine g_getF hX d_Ta_addFour_18 fl_Ta_9 (lv_26 _) ?_
    refine g_aload0 hX d_Ta_addFour_21 ?_
    refine g_getI hX d_Ta_addFour_22 fl_Ta_15 (lv_26 _) ?_
    refine g_topi h1.2.1 ?_
    refine g_iload1 hX d_Ta_addFour_25 ?_
    refine g_iload2 hX d_Ta_addFour_26 ?_
    refine g_iushr hX d_Ta_addFour_27 ?_
    refine g_sipush (v := nI 255) hX d_Ta_addFour_28 rfl ?_
    refine g_iand hX d_Ta_addFour_31 ?_
    refine g_topi (ush_of (s := 24) (by decide)) ?_
    refine g_iast hX d_Ta_addFour_32 (lv_27 _) rfl (by omega) ?_
    refine g_aload0 hX d_Ta_addFour_33 ?_
    refine g_dup hX d_Ta_addFour_34 rfl ?_
    refine g_getI hX d_Ta_addFour_35 fl_Ta_15 (lv_26 _) ?_
    refine g_topi (show rI (sI wk 27 tk.length _) 26 1 = nI tk.length by rw [rI_sI_ne _ _ _ (by decide)]; exact h1.2.1) ?_
    refine g_iconst (v := nI 1) hX d_Ta_addFour_38 rfl ?_
    refine g_iaddN hX d_Ta_addFour_39 ?_
    refine g_putI hX d_Ta_addFour_40 fl_Ta_15 (lv_26 _) ?_
    refine g_iinc2 (v := nI 16) hX d_Ta_addFour_43 (by decide) rfl (by decide) ?_
    refine g_goto hX d_Ta_addFour_46 ?_
    have hm := Nat.mod_lt (v.toBitVec.toNat / 2 ^ 24) (show 0 < 256 by decide)
    exact k1 (tk ++ [(v.toBitVec.toNat / 2 ^ 24 % 256)]) _ (h1.snoc hm (by omega)) (by rw [List.length_append, List.length_singleton]; omega) (h3.tr (FrTp.snoc _ _ _ _)) (by rw [List.append_assoc]; exact h4)
  refine g_bipush (v := nI 24) hX d_Ta_addFour_0 rfl ?_
  refine g_istore2 hX d_Ta_addFour_2 rfl (by decide) ?_
  exact k0 t w hT (by omega) (FrTp.rf w) (by rw [Nat.pow_zero, Nat.div_one]; rfl)
/-- the text is taken over: nothing is on the tape, the first token is looked at -/
def FrTx (w w2 : Mem) : Prop := (∀ a, a ≠ 26 → rI w2 a = rI w a) ∧ w2.2 = w.2
theorem c_Ta_takeText {E : EV} {w : Mem} {t : List Nat} (hT : TpP w t) : T E m_Ta_takeText 2 0 0 [.ref 26] w (fun r w2 => r = none ∧ FrTx w w2 ∧ rI w2 26 1 = nI 0 ∧ TkD w2 t (runE t 0 0)) := by
  refine T_of (L := [.ref 26]) cf_Ta_takeText rfl (Nat.le_of_ble_eq_true rfl) (fun X hX hF => ?_)
  refine g_aload0 hX d_Ta_takeText_0 ?_
  refine g_aload0 hX d_Ta_takeText_1 ?_
  refine g_getI hX d_Ta_takeText_2 fl_Ta_15 (lv_26 _) ?_
  refine g_topi hT.2.1 ?_
  refine g_putI hX d_Ta_takeText_5 fl_Ta_19 (lv_26 _) ?_
  refine g_aload0 hX d_Ta_takeText_8 ?_
  refine g_iconst (v := nI 0) hX d_Ta_takeText_9 rfl ?_
  refine g_putI hX d_Ta_takeText_10 fl_Ta_15 (lv_26 _) ?_
  refine g_aload0 hX d_Ta_takeText_13 ?_
  refine g_iconst (v := nI 0) hX d_Ta_takeText_14 rfl ?_
  refine g_putI hX d_Ta_takeText_15 fl_Ta_22 (lv_26 _) ?_
  refine g_aload0 hX d_Ta_takeText_18 ?_
  obtain ⟨w1, hw1⟩ : ∃ w1, (sI (sI (sI w 26 2 (nI t.length)) 26 1 (nI 0)) 26 4 (nI 0)) = w1 := ⟨_, rfl⟩
  refine g_mem hw1 ?_
  have hT1 : TbP w1 t := by rw [← hw1]; exact ⟨hT.1, by rw [rI_sI, upd_eq, if_neg (by decide), rI_sI, upd_eq, if_neg (by decide), rI_sI, upd_eq, if_pos rfl], fun k hk => by rw [rI_sI_ne _ _ _ (by decide), rI_sI_ne _ _ _ (by decide), rI_sI_ne _ _ _ (by decide)]; exact hT.2.2 k hk⟩
  refine g_callV (As := []) hX hF.1 d_Ta_takeText_19 ml_Ta_25 cf_Ta_step cv_Ta_step rfl rfl (c_Ta_step (t := t) (e := 0) hT1 (by rw [← hw1, rI_sI, upd_eq, if_pos rfl]) (Nat.zero_le _)) (rcv_obj hX (lv_26 _) rfl rfl) (by omega) (by omega) (by omega) (Nat.le_of_ble_eq_true rfl) ?_
  rintro _ w2 ⟨rfl, hf2, hk2⟩
  show G0 _ _ _ _ _ _ _ _
  refine g_vret hX hF d_Ta_takeText_22 (by omega) (by omega) ?_
  refine ⟨rfl, ⟨fun a ha => by rw [hf2.1 a ha, ← hw1, rI_sI_ne _ _ _ ha, rI_sI_ne _ _ _ ha, rI_sI_ne _ _ _ ha], by rw [hf2.2.2, ← hw1]; rfl⟩, by rw [hf2.2.1 1 (by decide), ← hw1, rI_sI, upd_eq, if_neg (by decide), rI_sI, upd_eq, if_pos rfl], hk2⟩
