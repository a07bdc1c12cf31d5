def m_Bo_addLaw : MR := (⟨"SubgraphDesk$Board", "addLaw", "(LSubgraphDesk$Program;)I"⟩, prog_3_method_8_code, 2, (some .int))
theorem cf_Bo_addLaw : CF m_Bo_addLaw 1 := ⟨gd 993 (by decide +kernel) rfl, gd 140 (by decide +kernel) rfl, by decide +kernel, by decide, by decide +kernel⟩
theorem cv_Bo_addLaw : CV m_Bo_addLaw := ⟨gd 991 (by decide +kernel) rfl, gd 992 (by decide +kernel) rfl⟩
theorem d_Bo_addLaw_0 : Dc prog_3_method_8_code 0 (.aload_n 0) 1 1 := ⟨by decide +kernel, rfl⟩
theorem d_Bo_addLaw_1 : Dc prog_3_method_8_code 1 (.getfield 55) 3 4 := ⟨by decide +kernel, rfl⟩
theorem d_Bo_addLaw_4 : Dc prog_3_method_8_code 4 (.bipush 6) 2 6 := ⟨by decide +kernel, rfl⟩
theorem d_Bo_addLaw_6 : Dj prog_3_method_8_code 6 (.if_icmp .lt 5) 9 5 11 := ⟨by decide +kernel, rfl, rfl⟩
theorem d_Bo_addLaw_11 : Dc prog_3_method_8_code 11 (.aload_n 0) 1 12 := ⟨by decide +kernel, rfl⟩
theorem d_Bo_addLaw_12 : Dc prog_3_method_8_code 12 (.getfield 39) 3 15 := ⟨by decide +kernel, rfl⟩
theorem d_Bo_addLaw_15 : Dc prog_3_method_8_code 15 (.aload_n 0) 1 16 := ⟨by decide +kernel, rfl⟩
theorem d_Bo_addLaw_16 : Dc prog_3_method_8_code 16 (.getfield 55) 3 19 := ⟨by decide +kernel, rfl⟩
theorem d_Bo_addLaw_19 : Dc prog_3_method_8_code 19 (.aload_n 1) 1 20 := ⟨by decide +kernel, rfl⟩
theorem d_Bo_addLaw_20 : Dc prog_3_method_8_code 20 (.aastore) 1 21 := ⟨by decide +kernel, rfl⟩
theorem d_Bo_addLaw_21 : Dc prog_3_method_8_code 21 (.aload_n 0) 1 22 := ⟨by decide +kernel, rfl⟩
theorem d_Bo_addLaw_22 : Dc prog_3_method_8_code 22 (.dup) 1 23 := ⟨by decide +kernel, rfl⟩
theorem d_Bo_addLaw_23 : Dc prog_3_method_8_code 23 (.getfield 55) 3 26 := ⟨by decide +kernel, rfl⟩
theorem d_Bo_addLaw_26 : Dc prog_3_method_8_code 26 (.dup_x1) 1 27 := ⟨by decide +kernel, rfl⟩
theorem d_Bo_addLaw_27 : Dc prog_3_method_8_code 27 (.iconst 1) 1 28 := ⟨by decide +kernel, rfl⟩
theorem d_Bo_addLaw_28 : Dc prog_3_method_8_code 28 (.iadd) 1 29 := ⟨by decide +kernel, rfl⟩
theorem d_Bo_addLaw_29 : Dc prog_3_method_8_code 29 (.putfield 55) 3 32 := ⟨by decide +kernel, rfl⟩
theorem d_Bo_addLaw_32 : Dc prog_3_method_8_code 32 (.ireturn) 1 33 := ⟨by decide +kernel, rfl⟩
theorem c_Bo_addLaw {E : EV} {w : Mem} {pp m : Nat} (hl : rI w 1 11 = nI m) (hm : m < 6) (hp : Lv w pp (1, 6)) : T E m_Bo_addLaw 0 0 0 [.ref 1, .ref pp] w (Ret (some (.int (nI m))) (sI (sR w 9 m (some pp)) 1 11 (nI (m + 1)))) := by
  refine T_of (L := [.ref 1, .ref pp]) cf_Bo_addLaw rfl (Nat.le_of_ble_eq_true rfl) (fun X hX hF => ?_)
  refine g_aload0 hX d_Bo_addLaw_0 ?_
  refine g_getI hX d_Bo_addLaw_1 fl_Bo_55 (lv_1 _) ?_
  refine g_topi hl ?_
  refine g_bipush (v := nI 6) hX d_Bo_addLaw_4 rfl ?_
  refine g_icmpN_lt hX d_Bo_addLaw_6 (by omega) (by omega) (fun c0 => ?_) (fun h => absurd h (by omega))
  refine g_aload0 hX d_Bo_addLaw_11 ?_
  refine g_getF hX d_Bo_addLaw_12 fl_Bo_39 (lv_1 _) ?_
  refine g_aload0 hX d_Bo_addLaw_15 ?_
  refine g_getI hX d_Bo_addLaw_16 fl_Bo_55 (lv_1 _) ?_
  refine g_topi hl ?_
  refine g_aload1 hX d_Bo_addLaw_19 ?_
  refine g_aastP hX d_Bo_addLaw_20 (lv_9 _) rfl (by omega) hp ?_
  refine g_aload0 hX d_Bo_addLaw_21 ?_
  refine g_dup hX d_Bo_addLaw_22 rfl ?_
  refine g_getI hX d_Bo_addLaw_23 fl_Bo_55 (lv_1 _) ?_
  refine g_topi (show rI (sR w 9 m (some pp)) 1 11 = nI m from hl) ?_
  refine g_dup_x1 hX d_Bo_addLaw_26 rfl rfl ?_
  refine g_iconst (v := nI 1) hX d_Bo_addLaw_27 rfl ?_
  refine g_iaddN hX d_Bo_addLaw_28 ?_
  refine g_putI hX d_Bo_addLaw_29 fl_Bo_55 (lv_1 _) ?_
  refine g_iret hX hF d_Bo_addLaw_32 (by omega) (by omega) ?_
  exact ⟨rfl, rfl⟩
