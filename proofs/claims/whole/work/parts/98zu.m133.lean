def m_D_init : MR := (⟨"SubgraphDesk", "<init>", "()V"⟩, prog_1_method_1_code, 2, none)
theorem cf_D_init : CF m_D_init 0 := ⟨gd 164 (by decide +kernel) rfl, gd 139 (by decide +kernel) rfl, by decide +kernel, by decide, by decide +kernel⟩
theorem ci_D_init : Cond.instanceMethod m_D_init.1 ∈ lw_gd := gd 163 (by decide +kernel) rfl
theorem d_D_init_0 : Dc prog_1_method_1_code 0 (.aload_n 0) 1 1 := ⟨by decide +kernel, rfl⟩
theorem d_D_init_1 : Dc prog_1_method_1_code 1 (.invokespecial 1) 3 4 := ⟨by decide +kernel, rfl⟩
theorem d_D_init_4 : Dc prog_1_method_1_code 4 (.aload_n 0) 1 5 := ⟨by decide +kernel, rfl⟩
theorem d_D_init_5 : Dc prog_1_method_1_code 5 (.new 7) 3 8 := ⟨by decide +kernel, rfl⟩
theorem d_D_init_8 : Dc prog_1_method_1_code 8 (.dup) 1 9 := ⟨by decide +kernel, rfl⟩
theorem d_D_init_9 : Dc prog_1_method_1_code 9 (.invokespecial 9) 3 12 := ⟨by decide +kernel, rfl⟩
theorem d_D_init_12 : Dc prog_1_method_1_code 12 (.putfield 10) 3 15 := ⟨by decide +kernel, rfl⟩
theorem d_D_init_15 : Dc prog_1_method_1_code 15 (.aload_n 0) 1 16 := ⟨by decide +kernel, rfl⟩
theorem d_D_init_16 : Dc prog_1_method_1_code 16 (.iconst 2) 1 17 := ⟨by decide +kernel, rfl⟩
theorem d_D_init_17 : Dc prog_1_method_1_code 17 (.anewarray 7) 3 20 := ⟨by decide +kernel, rfl⟩
theorem d_D_init_20 : Dc prog_1_method_1_code 20 (.putfield 16) 3 23 := ⟨by decide +kernel, rfl⟩
theorem d_D_init_23 : Dc prog_1_method_1_code 23 (.aload_n 0) 1 24 := ⟨by decide +kernel, rfl⟩
theorem d_D_init_24 : Dc prog_1_method_1_code 24 (.new 7) 3 27 := ⟨by decide +kernel, rfl⟩
theorem d_D_init_27 : Dc prog_1_method_1_code 27 (.dup) 1 28 := ⟨by decide +kernel, rfl⟩
theorem d_D_init_28 : Dc prog_1_method_1_code 28 (.invokespecial 9) 3 31 := ⟨by decide +kernel, rfl⟩
theorem d_D_init_31 : Dc prog_1_method_1_code 31 (.putfield 20) 3 34 := ⟨by decide +kernel, rfl⟩
theorem d_D_init_34 : Dc prog_1_method_1_code 34 (.aload_n 0) 1 35 := ⟨by decide +kernel, rfl⟩
theorem d_D_init_35 : Dc prog_1_method_1_code 35 (.new 23) 3 38 := ⟨by decide +kernel, rfl⟩
theorem d_D_init_38 : Dc prog_1_method_1_code 38 (.dup) 1 39 := ⟨by decide +kernel, rfl⟩
theorem d_D_init_39 : Dc prog_1_method_1_code 39 (.invokespecial 25) 3 42 := ⟨by decide +kernel, rfl⟩
theorem d_D_init_42 : Dc prog_1_method_1_code 42 (.putfield 26) 3 45 := ⟨by decide +kernel, rfl⟩
theorem d_D_init_45 : Dc prog_1_method_1_code 45 (.aload_n 0) 1 46 := ⟨by decide +kernel, rfl⟩
theorem d_D_init_46 : Dc prog_1_method_1_code 46 (.new 30) 3 49 := ⟨by decide +kernel, rfl⟩
theorem d_D_init_49 : Dc prog_1_method_1_code 49 (.dup) 1 50 := ⟨by decide +kernel, rfl⟩
theorem d_D_init_50 : Dc prog_1_method_1_code 50 (.invokespecial 32) 3 53 := ⟨by decide +kernel, rfl⟩
theorem d_D_init_53 : Dc prog_1_method_1_code 53 (.putfield 33) 3 56 := ⟨by decide +kernel, rfl⟩
theorem d_D_init_56 : Dc prog_1_method_1_code 56 (.aload_n 0) 1 57 := ⟨by decide +kernel, rfl⟩
theorem d_D_init_57 : Dc prog_1_method_1_code 57 (.new 37) 3 60 := ⟨by decide +kernel, rfl⟩
theorem d_D_init_60 : Dc prog_1_method_1_code 60 (.dup) 1 61 := ⟨by decide +kernel, rfl⟩
theorem d_D_init_61 : Dc prog_1_method_1_code 61 (.invokespecial 39) 3 64 := ⟨by decide +kernel, rfl⟩
theorem d_D_init_64 : Dc prog_1_method_1_code 64 (.putfield 40) 3 67 := ⟨by decide +kernel, rfl⟩
theorem d_D_init_67 : Dc prog_1_method_1_code 67 (.aload_n 0) 1 68 := ⟨by decide +kernel, rfl⟩
theorem d_D_init_68 : Dc prog_1_method_1_code 68 (.new 44) 3 71 := ⟨by decide +kernel, rfl⟩
theorem d_D_init_71 : Dc prog_1_method_1_code 71 (.dup) 1 72 := ⟨by decide +kernel, rfl⟩
theorem d_D_init_72 : Dc prog_1_method_1_code 72 (.invokespecial 46) 3 75 := ⟨by decide +kernel, rfl⟩
theorem d_D_init_75 : Dc prog_1_method_1_code 75 (.putfield 47) 3 78 := ⟨by decide +kernel, rfl⟩
theorem d_D_init_78 : Dc prog_1_method_1_code 78 (.aload_n 0) 1 79 := ⟨by decide +kernel, rfl⟩
theorem d_D_init_79 : Dc prog_1_method_1_code 79 (.new 51) 3 82 := ⟨by decide +kernel, rfl⟩
theorem d_D_init_82 : Dc prog_1_method_1_code 82 (.dup) 1 83 := ⟨by decide +kernel, rfl⟩
theorem d_D_init_83 : Dc prog_1_method_1_code 83 (.invokespecial 53) 3 86 := ⟨by decide +kernel, rfl⟩
theorem d_D_init_86 : Dc prog_1_method_1_code 86 (.putfield 54) 3 89 := ⟨by decide +kernel, rfl⟩
theorem d_D_init_89 : Dc prog_1_method_1_code 89 (.aload_n 0) 1 90 := ⟨by decide +kernel, rfl⟩
theorem d_D_init_90 : Dc prog_1_method_1_code 90 (.new 58) 3 93 := ⟨by decide +kernel, rfl⟩
theorem d_D_init_93 : Dc prog_1_method_1_code 93 (.dup) 1 94 := ⟨by decide +kernel, rfl⟩
theorem d_D_init_94 : Dc prog_1_method_1_code 94 (.invokespecial 60) 3 97 := ⟨by decide +kernel, rfl⟩
theorem d_D_init_97 : Dc prog_1_method_1_code 97 (.putfield 61) 3 100 := ⟨by decide +kernel, rfl⟩
theorem d_D_init_100 : Dc prog_1_method_1_code 100 (.aload_n 0) 1 101 := ⟨by decide +kernel, rfl⟩
theorem d_D_init_101 : Dc prog_1_method_1_code 101 (.new 65) 3 104 := ⟨by decide +kernel, rfl⟩
theorem d_D_init_104 : Dc prog_1_method_1_code 104 (.dup) 1 105 := ⟨by decide +kernel, rfl⟩
theorem d_D_init_105 : Dc prog_1_method_1_code 105 (.invokespecial 67) 3 108 := ⟨by decide +kernel, rfl⟩
theorem d_D_init_108 : Dc prog_1_method_1_code 108 (.putfield 68) 3 111 := ⟨by decide +kernel, rfl⟩
theorem d_D_init_111 : Dc prog_1_method_1_code 111 (.aload_n 0) 1 112 := ⟨by decide +kernel, rfl⟩
theorem d_D_init_112 : Dc prog_1_method_1_code 112 (.new 72) 3 115 := ⟨by decide +kernel, rfl⟩
theorem d_D_init_115 : Dc prog_1_method_1_code 115 (.dup) 1 116 := ⟨by decide +kernel, rfl⟩
theorem d_D_init_116 : Dc prog_1_method_1_code 116 (.invokespecial 74) 3 119 := ⟨by decide +kernel, rfl⟩
theorem d_D_init_119 : Dc prog_1_method_1_code 119 (.putfield 75) 3 122 := ⟨by decide +kernel, rfl⟩
theorem d_D_init_122 : Dc prog_1_method_1_code 122 (.aload_n 0) 1 123 := ⟨by decide +kernel, rfl⟩
theorem d_D_init_123 : Dc prog_1_method_1_code 123 (.bipush 20) 2 125 := ⟨by decide +kernel, rfl⟩
theorem d_D_init_125 : Dc prog_1_method_1_code 125 (.newarray .long) 2 127 := ⟨by decide +kernel, rfl⟩
theorem d_D_init_127 : Dc prog_1_method_1_code 127 (.putfield 79) 3 130 := ⟨by decide +kernel, rfl⟩
theorem d_D_init_130 : Dc prog_1_method_1_code 130 (.aload_n 0) 1 131 := ⟨by decide +kernel, rfl⟩
theorem d_D_init_131 : Dc prog_1_method_1_code 131 (.iconst 5) 1 132 := ⟨by decide +kernel, rfl⟩
theorem d_D_init_132 : Dc prog_1_method_1_code 132 (.newarray .int) 2 134 := ⟨by decide +kernel, rfl⟩
theorem d_D_init_134 : Dc prog_1_method_1_code 134 (.putfield 83) 3 137 := ⟨by decide +kernel, rfl⟩
theorem d_D_init_137 : Dc prog_1_method_1_code 137 (.iconst 0) 1 138 := ⟨by decide +kernel, rfl⟩
theorem d_D_init_138 : Dc prog_1_method_1_code 138 (.istore_n 1) 1 139 := ⟨by decide +kernel, rfl⟩
theorem d_D_init_139 : Dc prog_1_method_1_code 139 (.iload_n 1) 1 140 := ⟨by decide +kernel, rfl⟩
theorem d_D_init_140 : Dc prog_1_method_1_code 140 (.iconst 2) 1 141 := ⟨by decide +kernel, rfl⟩
theorem d_D_init_141 : Dj prog_1_method_1_code 141 (.if_icmp .ge 22) 144 22 163 := ⟨by decide +kernel, rfl, rfl⟩
theorem d_D_init_144 : Dc prog_1_method_1_code 144 (.aload_n 0) 1 145 := ⟨by decide +kernel, rfl⟩
theorem d_D_init_145 : Dc prog_1_method_1_code 145 (.getfield 16) 3 148 := ⟨by decide +kernel, rfl⟩
theorem d_D_init_148 : Dc prog_1_method_1_code 148 (.iload_n 1) 1 149 := ⟨by decide +kernel, rfl⟩
theorem d_D_init_149 : Dc prog_1_method_1_code 149 (.new 7) 3 152 := ⟨by decide +kernel, rfl⟩
theorem d_D_init_152 : Dc prog_1_method_1_code 152 (.dup) 1 153 := ⟨by decide +kernel, rfl⟩
theorem d_D_init_153 : Dc prog_1_method_1_code 153 (.invokespecial 9) 3 156 := ⟨by decide +kernel, rfl⟩
theorem d_D_init_156 : Dc prog_1_method_1_code 156 (.aastore) 1 157 := ⟨by decide +kernel, rfl⟩
theorem d_D_init_157 : Dc prog_1_method_1_code 157 (.iinc 1 1) 3 160 := ⟨by decide +kernel, rfl⟩
theorem d_D_init_160 : Dj prog_1_method_1_code 160 (.goto (-21)) 163 (-21) 139 := ⟨by decide +kernel, rfl, rfl⟩
theorem d_D_init_163 : Dc prog_1_method_1_code 163 (.return_) 1 164 := ⟨by decide +kernel, rfl⟩
theorem ml_D_9 : Cond.methodLink "SubgraphDesk" 9 m_Bo_init.1 ∈ lw_gd := gd 170 (by decide +kernel) rfl
def blk_D (E : EV) (b0 : Nat) : List va_E := .inr (0, [.ref (b0 + 1), .ref (b0 + 10), .ref (b0 + 11), .ref (b0 + 20), .ref (b0 + 25), .ref (b0 + 31), .ref (b0 + 36), .ref (b0 + 42), .ref (b0 + 45), .ref (b0 + 47), .ref (b0 + 53), .ref (b0 + 69), .ref (b0 + 70), .int 0, .int 0]) :: (blk_Bo E (b0 + 1) ++ [.inl (eC E 4, 2, .inr (.inr (.inr (.inr (va_up (va_up (fun _ => none) 0 (some (b0 + 71))) 1 (some (b0 + 80)))))))] ++ blk_Bo E (b0 + 11) ++ blk_Ac E (b0 + 20) ++ blk_Re E (b0 + 25) ++ blk_Le E (b0 + 31) ++ blk_Wa E (b0 + 36) ++ blk_Si E (b0 + 42) ++ blk_Hu E (b0 + 45) ++ blk_Li E (b0 + 47) ++ blk_Ru E (b0 + 53) ++ [.inl (eC E 1, 20, .inr (.inl (fun _ => 0)))] ++ [.inl (eC E 0, 5, .inl (fun _ => 0))] ++ blk_Bo E (b0 + 71) ++ blk_Bo E (b0 + 80))
set_option maxHeartbeats 4000000 in
theorem c_Dk {E : EV} {b0 : Nat} : KT E m_D_init 3 88 2701 b0 [.ref 0] [.inr (0, dfl_D)] (blk_D E b0) := by
  refine KT_of (L := [.ref 0, un]) cf_D_init rfl rfl rfl (Nat.le_of_ble_eq_true rfl) (fun X hX hF hin => ?_)
  have hcc := hF.1.2.2.1
  have hss := hF.1.2.2.2
  refine z_eq (cs2 := .inr (0, [.null, .null, .null, .null, .null, .null, .null, .null, .null, .null, .null, .null, .null, .int 0, .int 0]) :: ([])) rfl ?_
  refine z_aload0 hX d_D_init_0 ?_
  refine z_objI hX hF.1 d_D_init_1 zo_D (by omega) (Nat.le_of_ble_eq_true rfl) ?_
  refine z_aload0 hX d_D_init_4 ?_
  refine z_new (ci := 2) (n := 1) (fs := dfl_Bo) hX d_D_init_5 in_Bo tyok_Bo zl_D_7 zk_Bo zi_Bo rfl zd_Bo rfl (by decide) (by omega) (by omega) ?_
  refine z_dup hX d_D_init_8 rfl ?_
  refine z_call (As := []) hX hF.1 d_D_init_9 ml_D_9 cf_Bo_init ci_Bo_init rfl rfl rfl (n0 := 1) rfl (by decide) (fun _ => rfl) (c_Bok (b0 := b0 + 1)) (by omega) (by omega) (by omega) (Nat.le_of_ble_eq_true rfl) ?_
  refine z_eq (cs2 := .inr (0, [.null, .null, .null, .null, .null, .null, .null, .null, .null, .null, .null, .null, .null, .int 0, .int 0]) :: (blk_Bo E (b0 + 1))) rfl ?_
  refine z_putF (v2 := .ref (b0 + 1)) hX hin d_D_init_12 fl_D_10 cd_D rfl rfl rfl (Nat.le_of_ble_eq_true rfl) ?_
  refine z_eq (cs2 := .inr (0, [.ref (b0 + 1), .null, .null, .null, .null, .null, .null, .null, .null, .null, .null, .null, .null, .int 0, .int 0]) :: (blk_Bo E (b0 + 1))) rfl ?_
  refine z_aload0 hX d_D_init_15 ?_
  refine z_iconst (v := nI 2) hX d_D_init_16 rfl ?_
  refine z_newq (n := 10) (N := 2) (t0 := 4) hX d_D_init_17 zl_D_7 hX.ao.2.1 rfl rfl (by decide) rfl (by decide) (by omega) (by omega) ?_
  refine z_eq (cs2 := .inr (0, [.ref (b0 + 1), .null, .null, .null, .null, .null, .null, .null, .null, .null, .null, .null, .null, .int 0, .int 0]) :: (blk_Bo E (b0 + 1) ++ [.inl (eC E 4, 2, .inr (.inr (.inr (.inr (fun _ => none)))))])) rfl ?_
  refine z_putF (v2 := .ref (b0 + 10)) hX hin d_D_init_20 fl_D_16 cd_D rfl rfl rfl (Nat.le_of_ble_eq_true rfl) ?_
  refine z_eq (cs2 := .inr (0, [.ref (b0 + 1), .ref (b0 + 10), .null, .null, .null, .null, .null, .null, .null, .null, .null, .null, .null, .int 0, .int 0]) :: (blk_Bo E (b0 + 1) ++ [.inl (eC E 4, 2, .inr (.inr (.inr (.inr (fun _ => none)))))])) rfl ?_
  refine z_aload0 hX d_D_init_23 ?_
  refine z_new (ci := 2) (n := 11) (fs := dfl_Bo) hX d_D_init_24 in_Bo tyok_Bo zl_D_7 zk_Bo zi_Bo rfl zd_Bo rfl (by decide) (by omega) (by omega) ?_
  refine z_dup hX d_D_init_27 rfl ?_
  refine z_call (As := []) hX hF.1 d_D_init_28 ml_D_9 cf_Bo_init ci_Bo_init rfl rfl rfl (n0 := 11) rfl (by decide) (fun _ => rfl) (c_Bok (b0 := b0 + 11)) (by omega) (by omega) (by omega) (Nat.le_of_ble_eq_true rfl) ?_
  refine z_eq (cs2 := .inr (0, [.ref (b0 + 1), .ref (b0 + 10), .null, .null, .null, .null, .null, .null, .null, .null, .null, .null, .null, .int 0, .int 0]) :: (blk_Bo E (b0 + 1) ++ [.inl (eC E 4, 2, .inr (.inr (.inr (.inr (fun _ => none)))))] ++ blk_Bo E (b0 + 11))) rfl ?_
  refine z_putF (v2 := .ref (b0 + 11)) hX hin d_D_init_31 fl_D_20 cd_D rfl rfl rfl (Nat.le_of_ble_eq_true rfl) ?_
  refine z_eq (cs2 := .inr (0, [.ref (b0 + 1), .ref (b0 + 10), .ref (b0 + 11), .null, .null, .null, .null, .null, .null, .null, .null, .null, .null, .int 0, .int 0]) :: (blk_Bo E (b0 + 1) ++ [.inl (eC E 4, 2, .inr (.inr (.inr (.inr (fun _ => none)))))] ++ blk_Bo E (b0 + 11))) rfl ?_
  refine z_aload0 hX d_D_init_34 ?_
  refine z_new (ci := 1) (n := 20) (fs := dfl_Ac) hX d_D_init_35 in_Ac tyok_Ac zl_D_23 zk_Ac zi_Ac rfl zd_Ac rfl (by decide) (by omega) (by omega) ?_
  refine z_dup hX d_D_init_38 rfl ?_
  refine z_callN (As := []) hX hF.1 d_D_init_39 (List.mem_of_getElem? (i := 0) rfl) cf_Ac_init ci_Ac_init rfl rfl rfl (n0 := 20) rfl (by decide) (fun _ => rfl) (c_Ack (b0 := b0 + 20)) (by omega) (by omega) (by omega) (Nat.le_of_ble_eq_true rfl) ?_
  refine z_eq (cs2 := .inr (0, [.ref (b0 + 1), .ref (b0 + 10), .ref (b0 + 11), .null, .null, .null, .null, .null, .null, .null, .null, .null, .null, .int 0, .int 0]) :: (blk_Bo E (b0 + 1) ++ [.inl (eC E 4, 2, .inr (.inr (.inr (.inr (fun _ => none)))))] ++ blk_Bo E (b0 + 11) ++ blk_Ac E (b0 + 20))) rfl ?_
  refine z_putF (v2 := .ref (b0 + 20)) hX hin d_D_init_42 fl_D_26 cd_D rfl rfl rfl (Nat.le_of_ble_eq_true rfl) ?_
  refine z_eq (cs2 := .inr (0, [.ref (b0 + 1), .ref (b0 + 10), .ref (b0 + 11), .ref (b0 + 20), .null, .null, .null, .null, .null, .null, .null, .null, .null, .int 0, .int 0]) :: (blk_Bo E (b0 + 1) ++ [.inl (eC E 4, 2, .inr (.inr (.inr (.inr (fun _ => none)))))] ++ blk_Bo E (b0 + 11) ++ blk_Ac E (b0 + 20))) rfl ?_
  refine z_aload0 hX d_D_init_45 ?_
  refine z_new (ci := 7) (n := 25) (fs := dfl_Re) hX d_D_init_46 in_Re tyok_Re zl_D_30 zk_Re zi_Re rfl zd_Re rfl (by decide) (by omega) (by omega) ?_
  refine z_dup hX d_D_init_49 rfl ?_
  refine z_callN (As := []) hX hF.1 d_D_init_50 (List.mem_of_getElem? (i := 1) rfl) cf_Re_init ci_Re_init rfl rfl rfl (n0 := 25) rfl (by decide) (fun _ => rfl) (c_Rek (b0 := b0 + 25)) (by omega) (by omega) (by omega) (Nat.le_of_ble_eq_true rfl) ?_
  refine z_eq (cs2 := .inr (0, [.ref (b0 + 1), .ref (b0 + 10), .ref (b0 + 11), .ref (b0 + 20), .null, .null, .null, .null, .null, .null, .null, .null, .null, .int 0, .int 0]) :: (blk_Bo E (b0 + 1) ++ [.inl (eC E 4, 2, .inr (.inr (.inr (.inr (fun _ => none)))))] ++ blk_Bo E (b0 + 11) ++ blk_Ac E (b0 + 20) ++ blk_Re E (b0 + 25))) rfl ?_
  sorry
