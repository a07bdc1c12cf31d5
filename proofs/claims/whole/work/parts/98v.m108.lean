def m_D_steps : MR := (⟨"SubgraphDesk", "steps", "(I)I"⟩, prog_1_method_41_code, 2, (some .int))
theorem cf_D_steps : CF m_D_steps 1 := ⟨gd 1303 (by decide +kernel) rfl, gd 139 (by decide +kernel) rfl, by decide +kernel, by decide, by decide +kernel⟩
theorem cv_D_steps : CV m_D_steps := ⟨gd 1301 (by decide +kernel) rfl, gd 1302 (by decide +kernel) rfl⟩
def m_D_within : MR := (⟨"SubgraphDesk", "within", "(I)I"⟩, prog_1_method_42_code, 2, (some .int))
theorem cf_D_within : CF m_D_within 1 := ⟨gd 1334 (by decide +kernel) rfl, gd 139 (by decide +kernel) rfl, by decide +kernel, by decide, by decide +kernel⟩
theorem cv_D_within : CV m_D_within := ⟨gd 1332 (by decide +kernel) rfl, gd 1333 (by decide +kernel) rfl⟩
def m_Hu_search : MR := (⟨"SubgraphDesk$Hunt", "search", "(LSubgraphDesk$Board;[II)V"⟩, prog_4_method_2_code, 4, none)
theorem cf_Hu_search : CF m_Hu_search 3 := ⟨gd 1312 (by decide +kernel) rfl, gd 148 (by decide +kernel) rfl, by decide +kernel, by decide, by decide +kernel⟩
theorem cv_Hu_search : CV m_Hu_search := ⟨gd 1310 (by decide +kernel) rfl, gd 1311 (by decide +kernel) rfl⟩
theorem d_D_steps_0 : Dc prog_1_method_41_code 0 (.iload_n 1) 1 1 := ⟨by decide +kernel, rfl⟩
theorem d_D_steps_1 : Dc prog_1_method_41_code 1 (.tableswitch 104 0 2 #[27, 39, 70]) 27 28 := ⟨by decide +kernel, rfl⟩
theorem d_D_steps_28 : Dc prog_1_method_41_code 28 (.aload_n 0) 1 29 := ⟨by decide +kernel, rfl⟩
theorem d_D_steps_29 : Dc prog_1_method_41_code 29 (.invokevirtual 264) 3 32 := ⟨by decide +kernel, rfl⟩
theorem d_D_steps_32 : Dc prog_1_method_41_code 32 (.aload_n 0) 1 33 := ⟨by decide +kernel, rfl⟩
theorem d_D_steps_33 : Dc prog_1_method_41_code 33 (.getfield 47) 3 36 := ⟨by decide +kernel, rfl⟩
theorem d_D_steps_36 : Dc prog_1_method_41_code 36 (.invokevirtual 323) 3 39 := ⟨by decide +kernel, rfl⟩
theorem d_D_steps_39 : Dc prog_1_method_41_code 39 (.ireturn) 1 40 := ⟨by decide +kernel, rfl⟩
theorem d_D_steps_40 : Dc prog_1_method_41_code 40 (.aload_n 0) 1 41 := ⟨by decide +kernel, rfl⟩
theorem d_D_steps_41 : Dc prog_1_method_41_code 41 (.iconst 4) 1 42 := ⟨by decide +kernel, rfl⟩
theorem d_D_steps_42 : Dc prog_1_method_41_code 42 (.invokevirtual 318) 3 45 := ⟨by decide +kernel, rfl⟩
theorem d_D_steps_45 : Dc prog_1_method_41_code 45 (.aload_n 0) 1 46 := ⟨by decide +kernel, rfl⟩
theorem d_D_steps_46 : Dc prog_1_method_41_code 46 (.getfield 47) 3 49 := ⟨by decide +kernel, rfl⟩
theorem d_D_steps_49 : Dc prog_1_method_41_code 49 (.aload_n 0) 1 50 := ⟨by decide +kernel, rfl⟩
theorem d_D_steps_50 : Dc prog_1_method_41_code 50 (.getfield 10) 3 53 := ⟨by decide +kernel, rfl⟩
theorem d_D_steps_53 : Dc prog_1_method_41_code 53 (.aload_n 0) 1 54 := ⟨by decide +kernel, rfl⟩
theorem d_D_steps_54 : Dc prog_1_method_41_code 54 (.getfield 54) 3 57 := ⟨by decide +kernel, rfl⟩
theorem d_D_steps_57 : Dc prog_1_method_41_code 57 (.getfield 320) 3 60 := ⟨by decide +kernel, rfl⟩
theorem d_D_steps_60 : Dc prog_1_method_41_code 60 (.invokevirtual 258) 3 63 := ⟨by decide +kernel, rfl⟩
theorem d_D_steps_63 : Dc prog_1_method_41_code 63 (.aload_n 0) 1 64 := ⟨by decide +kernel, rfl⟩
theorem d_D_steps_64 : Dc prog_1_method_41_code 64 (.getfield 47) 3 67 := ⟨by decide +kernel, rfl⟩
theorem d_D_steps_67 : Dc prog_1_method_41_code 67 (.invokevirtual 323) 3 70 := ⟨by decide +kernel, rfl⟩
theorem d_D_steps_70 : Dc prog_1_method_41_code 70 (.ireturn) 1 71 := ⟨by decide +kernel, rfl⟩
theorem d_D_steps_71 : Dc prog_1_method_41_code 71 (.aload_n 0) 1 72 := ⟨by decide +kernel, rfl⟩
theorem d_D_steps_72 : Dc prog_1_method_41_code 72 (.iconst 4) 1 73 := ⟨by decide +kernel, rfl⟩
theorem d_D_steps_73 : Dc prog_1_method_41_code 73 (.invokevirtual 318) 3 76 := ⟨by decide +kernel, rfl⟩
theorem d_D_steps_76 : Dc prog_1_method_41_code 76 (.aload_n 0) 1 77 := ⟨by decide +kernel, rfl⟩
theorem d_D_steps_77 : Dc prog_1_method_41_code 77 (.getfield 61) 3 80 := ⟨by decide +kernel, rfl⟩
theorem d_D_steps_80 : Dc prog_1_method_41_code 80 (.aload_n 0) 1 81 := ⟨by decide +kernel, rfl⟩
theorem d_D_steps_81 : Dc prog_1_method_41_code 81 (.getfield 10) 3 84 := ⟨by decide +kernel, rfl⟩
theorem d_D_steps_84 : Dc prog_1_method_41_code 84 (.aload_n 0) 1 85 := ⟨by decide +kernel, rfl⟩
theorem d_D_steps_85 : Dc prog_1_method_41_code 85 (.getfield 54) 3 88 := ⟨by decide +kernel, rfl⟩
theorem d_D_steps_88 : Dc prog_1_method_41_code 88 (.getfield 320) 3 91 := ⟨by decide +kernel, rfl⟩
theorem d_D_steps_91 : Dc prog_1_method_41_code 91 (.ldc_w 278) 3 94 := ⟨by decide +kernel, rfl⟩
theorem d_D_steps_94 : Dc prog_1_method_41_code 94 (.invokevirtual 326) 3 97 := ⟨by decide +kernel, rfl⟩
theorem d_D_steps_97 : Dc prog_1_method_41_code 97 (.aload_n 0) 1 98 := ⟨by decide +kernel, rfl⟩
theorem d_D_steps_98 : Dc prog_1_method_41_code 98 (.getfield 61) 3 101 := ⟨by decide +kernel, rfl⟩
theorem d_D_steps_101 : Dc prog_1_method_41_code 101 (.getfield 329) 3 104 := ⟨by decide +kernel, rfl⟩
theorem d_D_steps_104 : Dc prog_1_method_41_code 104 (.ireturn) 1 105 := ⟨by decide +kernel, rfl⟩
theorem d_D_steps_105 : Dc prog_1_method_41_code 105 (.iconst (-1)) 1 106 := ⟨by decide +kernel, rfl⟩
theorem d_D_steps_106 : Dc prog_1_method_41_code 106 (.ireturn) 1 107 := ⟨by decide +kernel, rfl⟩
theorem d_D_within_0 : Dc prog_1_method_42_code 0 (.iload_n 1) 1 1 := ⟨by decide +kernel, rfl⟩
theorem d_D_within_1 : Dj prog_1_method_42_code 1 (.ifCond .lt 10) 4 10 11 := ⟨by decide +kernel, rfl, rfl⟩
theorem d_D_within_4 : Dc prog_1_method_42_code 4 (.iload_n 1) 1 5 := ⟨by decide +kernel, rfl⟩
theorem d_D_within_5 : Dc prog_1_method_42_code 5 (.sipush 9999) 3 8 := ⟨by decide +kernel, rfl⟩
theorem d_D_within_8 : Dj prog_1_method_42_code 8 (.if_icmp .le 5) 11 5 13 := ⟨by decide +kernel, rfl, rfl⟩
theorem d_D_within_11 : Dc prog_1_method_42_code 11 (.iconst (-1)) 1 12 := ⟨by decide +kernel, rfl⟩
theorem d_D_within_12 : Dc prog_1_method_42_code 12 (.ireturn) 1 13 := ⟨by decide +kernel, rfl⟩
theorem d_D_within_13 : Dc prog_1_method_42_code 13 (.aload_n 0) 1 14 := ⟨by decide +kernel, rfl⟩
theorem d_D_within_14 : Dc prog_1_method_42_code 14 (.iconst 4) 1 15 := ⟨by decide +kernel, rfl⟩
theorem d_D_within_15 : Dc prog_1_method_42_code 15 (.invokevirtual 318) 3 18 := ⟨by decide +kernel, rfl⟩
theorem d_D_within_18 : Dc prog_1_method_42_code 18 (.aload_n 0) 1 19 := ⟨by decide +kernel, rfl⟩
theorem d_D_within_19 : Dc prog_1_method_42_code 19 (.getfield 61) 3 22 := ⟨by decide +kernel, rfl⟩
theorem d_D_within_22 : Dc prog_1_method_42_code 22 (.aload_n 0) 1 23 := ⟨by decide +kernel, rfl⟩
theorem d_D_within_23 : Dc prog_1_method_42_code 23 (.getfield 10) 3 26 := ⟨by decide +kernel, rfl⟩
theorem d_D_within_26 : Dc prog_1_method_42_code 26 (.aload_n 0) 1 27 := ⟨by decide +kernel, rfl⟩
theorem d_D_within_27 : Dc prog_1_method_42_code 27 (.getfield 54) 3 30 := ⟨by decide +kernel, rfl⟩
theorem d_D_within_30 : Dc prog_1_method_42_code 30 (.getfield 320) 3 33 := ⟨by decide +kernel, rfl⟩
theorem d_D_within_33 : Dc prog_1_method_42_code 33 (.iload_n 1) 1 34 := ⟨by decide +kernel, rfl⟩
theorem d_D_within_34 : Dc prog_1_method_42_code 34 (.invokevirtual 326) 3 37 := ⟨by decide +kernel, rfl⟩
theorem d_D_within_37 : Dc prog_1_method_42_code 37 (.aload_n 0) 1 38 := ⟨by decide +kernel, rfl⟩
theorem d_D_within_38 : Dc prog_1_method_42_code 38 (.getfield 61) 3 41 := ⟨by decide +kernel, rfl⟩
theorem d_D_within_41 : Dc prog_1_method_42_code 41 (.getfield 332) 3 44 := ⟨by decide +kernel, rfl⟩
theorem d_D_within_44 : Dc prog_1_method_42_code 44 (.ireturn) 1 45 := ⟨by decide +kernel, rfl⟩
theorem d_Hu_search_0 : Dc prog_4_method_2_code 0 (.aload_n 0) 1 1 := ⟨by decide +kernel, rfl⟩
theorem d_Hu_search_1 : Dc prog_4_method_2_code 1 (.aload_n 1) 1 2 := ⟨by decide +kernel, rfl⟩
theorem d_Hu_search_2 : Dc prog_4_method_2_code 2 (.putfield 15) 3 5 := ⟨by decide +kernel, rfl⟩
theorem d_Hu_search_5 : Dc prog_4_method_2_code 5 (.aload_n 0) 1 6 := ⟨by decide +kernel, rfl⟩
theorem d_Hu_search_6 : Dc prog_4_method_2_code 6 (.aload_n 2) 1 7 := ⟨by decide +kernel, rfl⟩
theorem d_Hu_search_7 : Dc prog_4_method_2_code 7 (.putfield 19) 3 10 := ⟨by decide +kernel, rfl⟩
theorem d_Hu_search_10 : Dc prog_4_method_2_code 10 (.aload_n 0) 1 11 := ⟨by decide +kernel, rfl⟩
theorem d_Hu_search_11 : Dc prog_4_method_2_code 11 (.iload_n 3) 1 12 := ⟨by decide +kernel, rfl⟩
theorem d_Hu_search_12 : Dc prog_4_method_2_code 12 (.putfield 22) 3 15 := ⟨by decide +kernel, rfl⟩
theorem d_Hu_search_15 : Dc prog_4_method_2_code 15 (.aload_n 0) 1 16 := ⟨by decide +kernel, rfl⟩
theorem d_Hu_search_16 : Dc prog_4_method_2_code 16 (.iconst 0) 1 17 := ⟨by decide +kernel, rfl⟩
theorem d_Hu_search_17 : Dc prog_4_method_2_code 17 (.putfield 26) 3 20 := ⟨by decide +kernel, rfl⟩
theorem d_Hu_search_20 : Dc prog_4_method_2_code 20 (.aload_n 0) 1 21 := ⟨by decide +kernel, rfl⟩
theorem d_Hu_search_21 : Dc prog_4_method_2_code 21 (.iconst 0) 1 22 := ⟨by decide +kernel, rfl⟩
theorem d_Hu_search_22 : Dc prog_4_method_2_code 22 (.putfield 29) 3 25 := ⟨by decide +kernel, rfl⟩
theorem d_Hu_search_25 : Dc prog_4_method_2_code 25 (.aload_n 0) 1 26 := ⟨by decide +kernel, rfl⟩
theorem d_Hu_search_26 : Dc prog_4_method_2_code 26 (.iconst 0) 1 27 := ⟨by decide +kernel, rfl⟩
theorem d_Hu_search_27 : Dc prog_4_method_2_code 27 (.putfield 32) 3 30 := ⟨by decide +kernel, rfl⟩
theorem d_Hu_search_30 : Dc prog_4_method_2_code 30 (.aload_n 0) 1 31 := ⟨by decide +kernel, rfl⟩
theorem d_Hu_search_31 : Dc prog_4_method_2_code 31 (.iconst 0) 1 32 := ⟨by decide +kernel, rfl⟩
theorem d_Hu_search_32 : Dc prog_4_method_2_code 32 (.putfield 35) 3 35 := ⟨by decide +kernel, rfl⟩
theorem d_Hu_search_35 : Dc prog_4_method_2_code 35 (.aload_n 0) 1 36 := ⟨by decide +kernel, rfl⟩
theorem d_Hu_search_36 : Dc prog_4_method_2_code 36 (.getfield 15) 3 39 := ⟨by decide +kernel, rfl⟩
theorem d_Hu_search_39 : Dc prog_4_method_2_code 39 (.getfield 38) 3 42 := ⟨by decide +kernel, rfl⟩
theorem d_Hu_search_42 : Dj prog_4_method_2_code 42 (.ifCond .ne 11) 45 11 53 := ⟨by decide +kernel, rfl, rfl⟩
theorem d_Hu_search_45 : Dc prog_4_method_2_code 45 (.aload_n 0) 1 46 := ⟨by decide +kernel, rfl⟩
theorem d_Hu_search_46 : Dc prog_4_method_2_code 46 (.iconst 1) 1 47 := ⟨by decide +kernel, rfl⟩
theorem d_Hu_search_47 : Dc prog_4_method_2_code 47 (.putfield 35) 3 50 := ⟨by decide +kernel, rfl⟩
theorem d_Hu_search_50 : Dj prog_4_method_2_code 50 (.goto 8) 53 8 58 := ⟨by decide +kernel, rfl, rfl⟩
theorem d_Hu_search_53 : Dc prog_4_method_2_code 53 (.aload_n 0) 1 54 := ⟨by decide +kernel, rfl⟩
theorem d_Hu_search_54 : Dc prog_4_method_2_code 54 (.iconst 0) 1 55 := ⟨by decide +kernel, rfl⟩
theorem d_Hu_search_55 : Dc prog_4_method_2_code 55 (.invokevirtual 43) 3 58 := ⟨by decide +kernel, rfl⟩
theorem d_Hu_search_58 : Dc prog_4_method_2_code 58 (.return_) 1 59 := ⟨by decide +kernel, rfl⟩
theorem fl_D_61 : FL "SubgraphDesk" 61 0 8 true (.object "SubgraphDesk$Hunt") (3, 45) := ⟨R_D, F_D, 15, ty_D, rfl, rfl, in_D, tyok_D, nm_D, by decide, gd 562 (by decide +kernel) rfl, rfl, rfl, rfl⟩
theorem fl_D_329 : FL "SubgraphDesk" 329 3 6 false .int (0, 0) := ⟨R_Hu, F_Hu, 8, ty_Hu, rfl, rfl, in_Hu, tyok_Hu, nm_Hu, by decide, gd 461 (by decide +kernel) rfl, rfl, rfl, rfl⟩
theorem fl_D_332 : FL "SubgraphDesk" 332 3 7 false .int (0, 0) := ⟨R_Hu, F_Hu, 8, ty_Hu, rfl, rfl, in_Hu, tyok_Hu, nm_Hu, by decide, gd 463 (by decide +kernel) rfl, rfl, rfl, rfl⟩
theorem ml_D_323 : Cond.methodLink "SubgraphDesk" 323 m_Wa_countSteps.1 ∈ lw_gd := gd 1304 (by decide +kernel) rfl
theorem ml_D_326 : Cond.methodLink "SubgraphDesk" 326 m_Hu_search.1 ∈ lw_gd := gd 1309 (by decide +kernel) rfl
theorem c_Hu_search {E : EV} {w : Mem} {g : GC} {c : Nat → Nat} {most : Nat} (hR : BRow w 1 g) (hW : WG g) (hC : ∀ v, v < gV g → rI w 43 v = nI (c v) ∧ c v < 2 ^ gN g) (hmost : most ≤ 1000000) : T E m_Hu_search (2 * gV g + 3) 0 0 [.ref 45, .ref 1, .ref 43, .int (nI most)] w (fun r w2 => r = none ∧ rI w2 45 6 = nI (huntG g c most (gV g) (fun _ => none) (0, 0)).1 ∧ rI w2 45 7 = nI (huntG g c most (gV g) (fun _ => none) (0, 0)).2 ∧ DkQ w w2) := by
  refine T_of (L := [.ref 45, .ref 1, .ref 43, .int (nI most)]) cf_Hu_search rfl (Nat.le_of_ble_eq_true rfl) (fun X hX hF => ?_)
  have hgv := hW.v
  refine g_aload0 hX d_Hu_search_0 ?_
  refine g_aload1 hX d_Hu_search_1 ?_
  refine g_putR (by first | exact Or.inl ⟨_, rfl⟩ | exact Or.inr ⟨_, rfl⟩) hX d_Hu_search_2 fl_Hu_15 (lv_45 _) ?_
  refine g_aload0 hX d_Hu_search_5 ?_
  refine g_aload2 hX d_Hu_search_6 ?_
  refine g_putR (by first | exact Or.inl ⟨_, rfl⟩ | exact Or.inr ⟨_, rfl⟩) hX d_Hu_search_7 fl_Hu_19 (lv_45 _) ?_
  refine g_aload0 hX d_Hu_search_10 ?_
  refine g_iload3 hX d_Hu_search_11 ?_
  refine g_putI hX d_Hu_search_12 fl_Hu_22 (lv_45 _) ?_
  refine g_aload0 hX d_Hu_search_15 ?_
  refine g_iconst (v := nI 0) hX d_Hu_search_16 rfl ?_
  refine g_putI hX d_Hu_search_17 fl_Hu_26 (lv_45 _) ?_
  refine g_aload0 hX d_Hu_search_20 ?_
  refine g_iconst (v := nI 0) hX d_Hu_search_21 rfl ?_
  refine g_putI hX d_Hu_search_22 fl_Hu_29 (lv_45 _) ?_
  refine g_aload0 hX d_Hu_search_25 ?_
  refine g_iconst (v := nI 0) hX d_Hu_search_26 rfl ?_
  refine g_putI hX d_Hu_search_27 fl_Hu_32 (lv_45 _) ?_
  refine g_aload0 hX d_Hu_search_30 ?_
  refine g_iconst (v := nI 0) hX d_Hu_search_31 rfl ?_
  refine g_putI hX d_Hu_search_32 fl_Hu_35 (lv_45 _) ?_
  obtain ⟨w1, hw1⟩ : ∃ z, (sI (sI (sI (sI (sI (sR (sR w 45 1 (some 1)) 45 2 (some 43)) 45 5 (nI most)) 45 3 (nI 0)) 45 4 (nI 0)) 45 6 (nI 0)) 45 7 (nI 0)) = z := ⟨_, rfl⟩
  have ho1 : ∀ a, a ≠ 45 → rI w1 a = rI w a := fun a ha => by
    rw [← hw1, rI_sI_ne _ _ _ ha, rI_sI_ne _ _ _ ha, rI_sI_ne _ _ _ ha, rI_sI_ne _ _ _ ha, rI_sI_ne _ _ _ ha]; rfl
  have hj1 : w1.2.1 = w.2.1 := by rw [← hw1]; rfl
  have hk1 : KpR w w1 := by rw [← hw1]; exact ((KpR.rf w).sR (Or.inr (Or.inl rfl))).sR (Or.inr (Or.inl rfl))
  have hE : HuE w1 g c most := ⟨hR.fr (fun a h1 h2 => ho1 a (by omega)), hW, by rw [← hw1]; show rR (sR (sR w 45 1 (some 1)) 45 2 (some 43)) 45 1 = some 1; rw [rR_sR, rR_sR]; rfl, by rw [← hw1]; show rR (sR (sR w 45 1 (some 1)) 45 2 (some 43)) 45 2 = some 43; rw [rR_sR]; rfl, fun v hv => by rw [ho1 43 (by decide)]; exact hC v hv, by rw [← hw1, rI_sI, upd_eq, if_neg (by decide), rI_sI, upd_eq, if_neg (by decide), rI_sI, upd_eq, if_neg (by decide), rI_sI, upd_eq, if_neg (by decide), rI_sI, upd_eq, if_pos rfl], hmost⟩
  have r3 : rI w1 45 3 = nI 0 := by rw [← hw1, rI_sI, upd_eq, if_neg (by decide), rI_sI, upd_eq, if_neg (by decide), rI_sI, upd_eq, if_neg (by decide), rI_sI, upd_eq, if_pos rfl]
  have r4 : rI w1 45 4 = nI 0 := by rw [← hw1, rI_sI, upd_eq, if_neg (by decide), rI_sI, upd_eq, if_neg (by decide), rI_sI, upd_eq, if_pos rfl]
  have r6 : rI w1 45 6 = nI 0 := by rw [← hw1, rI_sI, upd_eq, if_neg (by decide), rI_sI, upd_eq, if_pos rfl]
  have r7 : rI w1 45 7 = nI 0 := by rw [← hw1, rI_sI, upd_eq, if_pos rfl]
  refine g_mem hw1 ?_
  refine g_aload0 hX d_Hu_search_35 ?_
  refine g_getR hX d_Hu_search_36 fl_Hu_15 (lv_45 _) hE.2.2.1 ?_
  refine g_getI hX d_Hu_search_39 fl_Hu_38 (lv_1 _) ?_
  refine g_topi hE.1.v ?_
  refine g_if_ne hX d_Hu_search_42 (fun e42 => ?_) (fun e42 => ?_)
  · have e42 : gV g ≠ 0 := fun z => e42 (by rw [z]; rfl)
    refine g_aload0 hX d_Hu_search_53 ?_
    refine g_iconst (v := nI 0) hX d_Hu_search_54 rfl ?_
    refine g_callV (As := [_]) hX hF.1 d_Hu_search_55 ml_Hu_43 cf_Hu_goOn cv_Hu_goOn rfl rfl (c_Hu_goOn (c := c) (most := most) (gV g) (fun _ => none) [] 0 0 (0, 0) w1 (Nat.zero_add _) (by omega) (fun u hu => absurd rfl hu) hE (fun u m hu hm => by cases hm) ⟨by decide, fun u _ => by rw [Nat.zero_testBit]; simp⟩ ⟨by decide, fun m => by rw [Nat.zero_testBit]; simp⟩ ⟨r3, r4, r6, r7, fun _ _ => rfl, FrHu.rf w1⟩ (Nat.zero_le _)) (rcv_obj hX (lv_45 _) rfl rfl) (by omega) (by omega) (by omega) (Nat.le_of_ble_eq_true rfl) ?_
    rintro _ w2 ⟨rfl, -, -, g6, g7, -, gf⟩
    show G0 _ _ _ _ _ _ _ _
    refine g_vret hX hF d_Hu_search_58 (by omega) (by omega) ?_
    first
    | exact ⟨rfl, g6, g7, ⟨fun a ha => by rw [gf.1 a (by omega) (by omega), ho1 a (by omega)], fun a _ => by unfold rJ; rw [gf.2.2, hj1], hk1.tr (KpR.of2 gf.2.2)⟩⟩
    | (rw [e42]
       exact ⟨rfl, by rw [rI_sI, upd_eq, if_neg (by decide)]; exact r6, by rw [rI_sI, upd_eq, if_pos rfl]; rfl, ⟨fun a ha => by rw [rI_sI_ne _ _ _ (by omega), ho1 a (by omega)], fun a _ => by unfold rJ; rw [← hj1]; rfl, hk1⟩⟩)
  · have e42 : gV g = 0 := nI_inj (by omega) (by decide) e42
    refine g_aload0 hX d_Hu_search_45 ?_
    refine g_iconst (v := nI 1) hX d_Hu_search_46 rfl ?_
    refine g_putI hX d_Hu_search_47 fl_Hu_35 (lv_45 _) ?_
    refine g_goto hX d_Hu_search_50 ?_
    refine g_vret hX hF d_Hu_search_58 (by omega) (by omega) ?_
    first
    | exact ⟨rfl, g6, g7, ⟨fun a ha => by rw [gf.1 a (by omega) (by omega), ho1 a (by omega)], fun a _ => by unfold rJ; rw [gf.2.2, hj1], hk1.tr (KpR.of2 gf.2.2)⟩⟩
    | (rw [e42]
       exact ⟨rfl, by rw [rI_sI, upd_eq, if_neg (by decide)]; exact r6, by rw [rI_sI, upd_eq, if_pos rfl]; rfl, ⟨fun a ha => by rw [rI_sI_ne _ _ _ (by omega), ho1 a (by omega)], fun a _ => by unfold rJ; rw [← hj1]; rfl, hk1⟩⟩)
theorem c_D_within {E : EV} {w : Mem} {x : Int32} {s : SG} (h : DInv w s) : T E m_D_within 14 0 0 [.ref 0, .int x] w (fun r w2 => r = some (.int (opWithin x (sG s))) ∧ DInv w2 s ∧ DkD w w2) := by
  refine T_of (L := [.ref 0, .int x]) cf_D_within rfl (Nat.le_of_ble_eq_true rfl) (fun X hX hF => ?_)
  obtain ⟨⟨hR, hW, hA⟩, hL, hT, hI, hRF, ⟨hsm, hfa, hsp⟩, hdr, hfx⟩ := id h
  have hn := hW.n
  have hv := hW.v
  have he := hW.el
  have hll := hW.ll
  have hsl := hW.sl
  refine g_iload1 hX d_D_within_0 ?_
  refine g_if_lt hX d_D_within_1 (fun e1 => ?_) (fun e1 => ?_)
  · refine g_iconst (v := -1) hX d_D_within_11 rfl ?_
    refine g_iret hX hF d_D_within_12 (by omega) (by omega) ?_
    rw [within_no (fun z => by
      first
      | exact absurd e1 ((in6 (by decide)).mp z).1
      | exact absurd (le_61 (m := 9999) z.2 (by decide)) e8)]
    exact ⟨rfl, h, DkD.rf w⟩
  · refine g_iload1 hX d_D_within_4 ?_
    refine g_sipush (v := nI 9999) hX d_D_within_5 rfl ?_
    refine g_icmp_le hX d_D_within_8 (fun e8 => ?_) (fun e8 => ?_)
    · obtain ⟨x, hx, rfl, -⟩ := inN_of ((in6 (by decide)).mpr ⟨e1, lt_of1 (by decide) e8 (Nat.le_refl _)⟩ : inN x 10000) (by decide)
      refine g_aload0 hX d_D_within_13 ?_
      refine g_iconst (v := nI 4) hX d_D_within_14 rfl ?_
      refine g_callV (As := [_]) hX hF.1 d_D_within_15 ml_D_318 cf_D_sift cv_D_sift rfl rfl (c_D_sift (pn := 4) (by omega) h) (rcv_obj hX (lv_0 _) rfl rfl) (by omega) (by omega) (by omega) (Nat.le_of_ble_eq_true rfl) ?_
      rintro _ w1 ⟨rfl, hC1, h1, hQ1⟩
      show G0 _ _ _ _ _ _ _ _
      refine g_aload0 hX d_D_within_18 ?_
      refine g_getF hX d_D_within_19 fl_D_61 (lv_0 _) ?_
      refine g_aload0 hX d_D_within_22 ?_
      refine g_getF hX d_D_within_23 fl_D_10 (lv_0 _) ?_
      refine g_aload0 hX d_D_within_26 ?_
      refine g_getF hX d_D_within_27 fl_D_54 (lv_0 _) ?_
      refine g_getF hX d_D_within_30 fl_D_320 (lv_42 _) ?_
      refine g_iload1 hX d_D_within_33 ?_
      refine g_callV (As := [_, _, _]) hX hF.1 d_D_within_34 ml_D_326 cf_Hu_search cv_Hu_search rfl rfl (c_Hu_search (c := candN (sG s) 4) (most := x) h1.g.1 hW (fun v hv => ⟨hC1 v hv, candN_ltN _ _ _⟩) (by omega)) (rcv_obj hX (lv_45 _) rfl rfl) (by omega) (by omega) (by omega) (Nat.le_of_ble_eq_true rfl) ?_
      rintro _ w2 ⟨rfl, g6, g7, hQ2⟩
      show G0 _ _ _ _ _ _ _ _
      refine g_aload0 hX d_D_within_37 ?_
      refine g_getF hX d_D_within_38 fl_D_61 (lv_0 _) ?_
      refine g_getI hX d_D_within_41 fl_D_332 (lv_45 _) ?_
      refine g_topi g7 ?_
      refine g_iret hX hF d_D_within_44 (by omega) (by omega) ?_
      rw [within_ok hx]
      exact ⟨rfl, h1.q hQ2, (hQ1.tr hQ2).D⟩
    · refine g_iconst (v := -1) hX d_D_within_11 rfl ?_
      refine g_iret hX hF d_D_within_12 (by omega) (by omega) ?_
      rw [within_no (fun z => by
        first
        | exact absurd e1 ((in6 (by decide)).mp z).1
        | exact absurd (le_61 (m := 9999) z.2 (by decide)) e8)]
      exact ⟨rfl, h, DkD.rf w⟩
theorem c_D_steps {E : EV} {w : Mem} {x : Int32} {s : SG} (h : DInv w s) : T E m_D_steps 14 0 0 [.ref 0, .int x] w (fun r w2 => r = some (.int (opSteps x (sG s))) ∧ DInv w2 s ∧ DkD w w2) := by
  refine T_of (L := [.ref 0, .int x]) cf_D_steps rfl (Nat.le_of_ble_eq_true rfl) (fun X hX hF => ?_)
  obtain ⟨⟨hR, hW, hA⟩, hL, hT, hI, hRF, ⟨hsm, hfa, hsp⟩, hdr, hfx⟩ := id h
  have hn := hW.n
  have hv := hW.v
  have he := hW.el
  have hll := hW.ll
  have hsl := hW.sl
  refine g_iload1 hX d_D_steps_0 ?_
  by_cases c0_0 : x = 0
  · refine g_tableIn (off := 27) (tgt := 28) hX d_D_steps_1 (by rw [c0_0]; decide) (by rw [c0_0]; decide) (by rw [c0_0]; rfl) rfl ?_
    refine g_aload0 hX d_D_steps_28 ?_
    refine g_callV (As := []) hX hF.1 d_D_steps_29 ml_D_264 cf_D_startWays cv_D_startWays rfl rfl (c_D_startWays h) (rcv_obj hX (lv_0 _) rfl rfl) (by omega) (by omega) (by omega) (Nat.le_of_ble_eq_true rfl) ?_
    rintro _ w1 ⟨rfl, hE1, hS1, hLe1, h1, hQ1⟩
    have hwl : (waysL (sG s)).length ≤ 248832 := by rw [← ways_C]; exact waysC_len hW
    show G0 _ _ _ _ _ _ _ _
    refine g_aload0 hX d_D_steps_32 ?_
    refine g_getF hX d_D_steps_33 fl_D_47 (lv_0 _) ?_
    refine g_callV (As := []) hX hF.1 d_D_steps_36 ml_D_323 cf_Wa_countSteps cv_Wa_countSteps rfl rfl (c_Wa_countSteps hE1 hS1 rfl (by omega)) (rcv_obj hX (lv_36 _) rfl rfl) (by omega) (by omega) (by omega) (Nat.le_of_ble_eq_true rfl) ?_
    rintro _ w2 ⟨rfl, hf2⟩
    show G0 _ _ _ _ _ _ _ _
    refine g_iret hX hF d_D_steps_39 (by omega) (by omega) ?_
    rw [show x = nI 0 from c0_0, steps_ok (by decide)]
    exact ⟨rfl, h1.q hf2.Q, (hQ1.tr hf2.Q).D⟩
  by_cases c0_1 : x = 1
  · refine g_tableIn (off := 39) (tgt := 40) hX d_D_steps_1 (by rw [c0_1]; decide) (by rw [c0_1]; decide) (by rw [c0_1]; rfl) rfl ?_
    refine g_aload0 hX d_D_steps_40 ?_
    refine g_iconst (v := nI 4) hX d_D_steps_41 rfl ?_
    refine g_callV (As := [_]) hX hF.1 d_D_steps_42 ml_D_318 cf_D_sift cv_D_sift rfl rfl (c_D_sift (pn := 4) (by omega) h) (rcv_obj hX (lv_0 _) rfl rfl) (by omega) (by omega) (by omega) (Nat.le_of_ble_eq_true rfl) ?_
    rintro _ w1 ⟨rfl, hC1, h1, hQ1⟩
    show G0 _ _ _ _ _ _ _ _
    refine g_aload0 hX d_D_steps_45 ?_
    refine g_getF hX d_D_steps_46 fl_D_47 (lv_0 _) ?_
    refine g_aload0 hX d_D_steps_49 ?_
    refine g_getF hX d_D_steps_50 fl_D_10 (lv_0 _) ?_
    refine g_aload0 hX d_D_steps_53 ?_
    refine g_getF hX d_D_steps_54 fl_D_54 (lv_0 _) ?_
    refine g_getF hX d_D_steps_57 fl_D_320 (lv_42 _) ?_
    refine g_callV (As := [_, _]) hX hF.1 d_D_steps_60 ml_D_258 cf_Wa_start cv_Wa_start rfl rfl (c_Wa_start (c := candN (sG s) 4) (ab := 43) h1.g.1 hW (Or.inr rfl) (fun v hv => ⟨hC1 v hv, candN_ltN _ _ _⟩)) (rcv_obj hX (lv_36 _) rfl rfl) (by omega) (by omega) (by omega) (Nat.le_of_ble_eq_true rfl) ?_
    rintro _ w3 ⟨rfl, hE3, hS3, hf3⟩
    have hwl := waysC_len (c := candN (sG s) 4) hW
    show G0 _ _ _ _ _ _ _ _
    refine g_aload0 hX d_D_steps_63 ?_
    refine g_getF hX d_D_steps_64 fl_D_47 (lv_0 _) ?_
    refine g_callV (As := []) hX hF.1 d_D_steps_67 ml_D_323 cf_Wa_countSteps cv_Wa_countSteps rfl rfl (c_Wa_countSteps hE3 hS3 rfl (by omega)) (rcv_obj hX (lv_36 _) rfl rfl) (by omega) (by omega) (by omega) (Nat.le_of_ble_eq_true rfl) ?_
    rintro _ w4 ⟨rfl, hf4⟩
    have hQ4 := hf3.Q.tr hf4.Q
    show G0 _ _ _ _ _ _ _ _
    refine g_iret hX hF d_D_steps_70 (by omega) (by omega) ?_
    rw [show x = nI 1 from c0_1, steps_ok (by decide)]
    exact ⟨rfl, h1.q hQ4, (hQ1.tr hQ4).D⟩
  by_cases c0_2 : x = 2
  · refine g_tableIn (off := 70) (tgt := 71) hX d_D_steps_1 (by rw [c0_2]; decide) (by rw [c0_2]; decide) (by rw [c0_2]; rfl) rfl ?_
    refine g_aload0 hX d_D_steps_71 ?_
    refine g_iconst (v := nI 4) hX d_D_steps_72 rfl ?_
    refine g_callV (As := [_]) hX hF.1 d_D_steps_73 ml_D_318 cf_D_sift cv_D_sift rfl rfl (c_D_sift (pn := 4) (by omega) h) (rcv_obj hX (lv_0 _) rfl rfl) (by omega) (by omega) (by omega) (Nat.le_of_ble_eq_true rfl) ?_
    rintro _ w1 ⟨rfl, hC1, h1, hQ1⟩
    show G0 _ _ _ _ _ _ _ _
    refine g_aload0 hX d_D_steps_76 ?_
    refine g_getF hX d_D_steps_77 fl_D_61 (lv_0 _) ?_
    refine g_aload0 hX d_D_steps_80 ?_
    refine g_getF hX d_D_steps_81 fl_D_10 (lv_0 _) ?_
    refine g_aload0 hX d_D_steps_84 ?_
    refine g_getF hX d_D_steps_85 fl_D_54 (lv_0 _) ?_
    refine g_getF hX d_D_steps_88 fl_D_320 (lv_42 _) ?_
    refine g_ldc_w (v := nI 1000000) hX d_D_steps_91 k_D_278 rfl ?_
    refine g_callV (As := [_, _, _]) hX hF.1 d_D_steps_94 ml_D_326 cf_Hu_search cv_Hu_search rfl rfl (c_Hu_search (c := candN (sG s) 4) (most := 1000000) h1.g.1 hW (fun v hv => ⟨hC1 v hv, candN_ltN _ _ _⟩) (by omega)) (rcv_obj hX (lv_45 _) rfl rfl) (by omega) (by omega) (by omega) (Nat.le_of_ble_eq_true rfl) ?_
    rintro _ w2 ⟨rfl, g6, g7, hQ2⟩
    show G0 _ _ _ _ _ _ _ _
    refine g_aload0 hX d_D_steps_97 ?_
    refine g_getF hX d_D_steps_98 fl_D_61 (lv_0 _) ?_
    refine g_getI hX d_D_steps_101 fl_D_329 (lv_45 _) ?_
    refine g_topi g6 ?_
    refine g_iret hX hF d_D_steps_104 (by omega) (by omega) ?_
    rw [show x = nI 2 from c0_2, steps_ok (by decide)]
    have hst : stepsG (sG s) 2 = (huntG (sG s) (candN (sG s) 4) 1000000 (gV (sG s)) (fun _ => none) (0, 0)).1 := by
      unfold stepsG
      rw [if_neg (by decide)]
      by_cases e : gV (sG s) = 0
      · rw [if_pos e, e]; rfl
      · rw [if_neg e]
        have hb : huB (gV (sG s)) ≤ 271452 := by
          have : gV (sG s) = 1 ∨ gV (sG s) = 2 ∨ gV (sG s) = 3 ∨ gV (sG s) = 4 ∨ gV (sG s) = 5 := by omega
          rcases this with z | z | z | z | z <;> rw [z] <;> decide
        rw [(hunt_same hn (gV (sG s)) (fun _ => none) (0, 0) (show 0 + huB (gV (sG s)) < 100000000 by omega) (show 0 + huB (gV (sG s)) < 1000000 by omega)).1]
    rw [hst]
    exact ⟨rfl, h1.q hQ2, (hQ1.tr hQ2).D⟩
  refine g_tableOut (tgt := 105) hX d_D_steps_1 (sw_outR (lo := 0) (hi := 2) (by decide) (by intro k hk1 hk2; rcases (show k = 0 ∨ k = 1 ∨ k = 2 by omega) with rfl | rfl | rfl <;> first | exact c0_0 | exact c0_1 | exact c0_2)) rfl ?_
  refine g_iconst (v := -1) hX d_D_steps_105 rfl ?_
  refine g_iret hX hF d_D_steps_106 (by omega) (by omega) ?_
  rw [steps_no (fun z => by
    obtain ⟨j, hj, hxj, -⟩ := inN_of z (by decide)
    have : j = 0 ∨ j = 1 ∨ j = 2 := by omega
    rcases this with rfl | rfl | rfl
    · exact c0_0 hxj
    · exact c0_1 hxj
    · exact c0_2 hxj)]
  exact ⟨rfl, h, DkD.rf w⟩
