def m_D_sets : MR := (⟨"SubgraphDesk", "sets", "(I)I"⟩, prog_1_method_37_code, 2, (some .int))
theorem cf_D_sets : CF m_D_sets 1 := ⟨gd 1252 (by decide +kernel) rfl, gd 139 (by decide +kernel) rfl, by decide +kernel, by decide, by decide +kernel⟩
theorem cv_D_sets : CV m_D_sets := ⟨gd 1250 (by decide +kernel) rfl, gd 1251 (by decide +kernel) rfl⟩
def m_D_touched : MR := (⟨"SubgraphDesk", "touched", "()I"⟩, prog_1_method_38_code, 1, (some .int))
theorem cf_D_touched : CF m_D_touched 0 := ⟨gd 1264 (by decide +kernel) rfl, gd 139 (by decide +kernel) rfl, by decide +kernel, by decide, by decide +kernel⟩
theorem cv_D_touched : CV m_D_touched := ⟨gd 1262 (by decide +kernel) rfl, gd 1263 (by decide +kernel) rfl⟩
def m_Wa_countSets : MR := (⟨"SubgraphDesk$Walker", "countSets", "(I)I"⟩, prog_12_method_13_code, 7, (some .int))
theorem cf_Wa_countSets : CF m_Wa_countSets 1 := ⟨gd 1256 (by decide +kernel) rfl, gd 146 (by decide +kernel) rfl, by decide +kernel, by decide, by decide +kernel⟩
theorem cv_Wa_countSets : CV m_Wa_countSets := ⟨gd 1254 (by decide +kernel) rfl, gd 1255 (by decide +kernel) rfl⟩
def m_Wa_touchedNodes : MR := (⟨"SubgraphDesk$Walker", "touchedNodes", "()I"⟩, prog_12_method_14_code, 3, (some .int))
theorem cf_Wa_touchedNodes : CF m_Wa_touchedNodes 0 := ⟨gd 1268 (by decide +kernel) rfl, gd 146 (by decide +kernel) rfl, by decide +kernel, by decide, by decide +kernel⟩
theorem cv_Wa_touchedNodes : CV m_Wa_touchedNodes := ⟨gd 1266 (by decide +kernel) rfl, gd 1267 (by decide +kernel) rfl⟩
theorem d_D_sets_0 : Dc prog_1_method_37_code 0 (.iload_n 1) 1 1 := ⟨by decide +kernel, rfl⟩
theorem d_D_sets_1 : Dj prog_1_method_37_code 1 (.ifCond .lt 9) 4 9 10 := ⟨by decide +kernel, rfl, rfl⟩
theorem d_D_sets_4 : Dc prog_1_method_37_code 4 (.iload_n 1) 1 5 := ⟨by decide +kernel, rfl⟩
theorem d_D_sets_5 : Dc prog_1_method_37_code 5 (.bipush 60) 2 7 := ⟨by decide +kernel, rfl⟩
theorem d_D_sets_7 : Dj prog_1_method_37_code 7 (.if_icmp .le 5) 10 5 12 := ⟨by decide +kernel, rfl, rfl⟩
theorem d_D_sets_10 : Dc prog_1_method_37_code 10 (.iconst (-1)) 1 11 := ⟨by decide +kernel, rfl⟩
theorem d_D_sets_11 : Dc prog_1_method_37_code 11 (.ireturn) 1 12 := ⟨by decide +kernel, rfl⟩
theorem d_D_sets_12 : Dc prog_1_method_37_code 12 (.aload_n 0) 1 13 := ⟨by decide +kernel, rfl⟩
theorem d_D_sets_13 : Dc prog_1_method_37_code 13 (.invokevirtual 264) 3 16 := ⟨by decide +kernel, rfl⟩
theorem d_D_sets_16 : Dc prog_1_method_37_code 16 (.aload_n 0) 1 17 := ⟨by decide +kernel, rfl⟩
theorem d_D_sets_17 : Dc prog_1_method_37_code 17 (.getfield 47) 3 20 := ⟨by decide +kernel, rfl⟩
theorem d_D_sets_20 : Dc prog_1_method_37_code 20 (.iload_n 1) 1 21 := ⟨by decide +kernel, rfl⟩
theorem d_D_sets_21 : Dc prog_1_method_37_code 21 (.invokevirtual 308) 3 24 := ⟨by decide +kernel, rfl⟩
theorem d_D_sets_24 : Dc prog_1_method_37_code 24 (.ireturn) 1 25 := ⟨by decide +kernel, rfl⟩
theorem d_D_touched_0 : Dc prog_1_method_38_code 0 (.aload_n 0) 1 1 := ⟨by decide +kernel, rfl⟩
theorem d_D_touched_1 : Dc prog_1_method_38_code 1 (.invokevirtual 264) 3 4 := ⟨by decide +kernel, rfl⟩
theorem d_D_touched_4 : Dc prog_1_method_38_code 4 (.aload_n 0) 1 5 := ⟨by decide +kernel, rfl⟩
theorem d_D_touched_5 : Dc prog_1_method_38_code 5 (.getfield 47) 3 8 := ⟨by decide +kernel, rfl⟩
theorem d_D_touched_8 : Dc prog_1_method_38_code 8 (.invokevirtual 311) 3 11 := ⟨by decide +kernel, rfl⟩
theorem d_D_touched_11 : Dc prog_1_method_38_code 11 (.ireturn) 1 12 := ⟨by decide +kernel, rfl⟩
theorem d_Wa_countSets_0 : Dc prog_12_method_13_code 0 (.iconst 0) 1 1 := ⟨by decide +kernel, rfl⟩
theorem d_Wa_countSets_1 : Dc prog_12_method_13_code 1 (.istore_n 2) 1 2 := ⟨by decide +kernel, rfl⟩
theorem d_Wa_countSets_2 : Dc prog_12_method_13_code 2 (.iconst 0) 1 3 := ⟨by decide +kernel, rfl⟩
theorem d_Wa_countSets_3 : Dc prog_12_method_13_code 3 (.istore_n 3) 1 4 := ⟨by decide +kernel, rfl⟩
theorem d_Wa_countSets_4 : Dc prog_12_method_13_code 4 (.iload_n 3) 1 5 := ⟨by decide +kernel, rfl⟩
theorem d_Wa_countSets_5 : Dc prog_12_method_13_code 5 (.iload_n 1) 1 6 := ⟨by decide +kernel, rfl⟩
theorem d_Wa_countSets_6 : Dj prog_12_method_13_code 6 (.if_icmp .ge 84) 9 84 90 := ⟨by decide +kernel, rfl, rfl⟩
theorem d_Wa_countSets_9 : Dc prog_12_method_13_code 9 (.iload_n 2) 1 10 := ⟨by decide +kernel, rfl⟩
theorem d_Wa_countSets_10 : Dc prog_12_method_13_code 10 (.bipush 60) 2 12 := ⟨by decide +kernel, rfl⟩
theorem d_Wa_countSets_12 : Dj prog_12_method_13_code 12 (.if_icmp .ge 78) 15 78 90 := ⟨by decide +kernel, rfl, rfl⟩
theorem d_Wa_countSets_15 : Dc prog_12_method_13_code 15 (.aload_n 0) 1 16 := ⟨by decide +kernel, rfl⟩
theorem d_Wa_countSets_16 : Dc prog_12_method_13_code 16 (.invokevirtual 76) 3 19 := ⟨by decide +kernel, rfl⟩
theorem d_Wa_countSets_19 : Dj prog_12_method_13_code 19 (.ifCond .eq 71) 22 71 90 := ⟨by decide +kernel, rfl, rfl⟩
theorem d_Wa_countSets_22 : Dc prog_12_method_13_code 22 (.aload_n 0) 1 23 := ⟨by decide +kernel, rfl⟩
theorem d_Wa_countSets_23 : Dc prog_12_method_13_code 23 (.invokevirtual 96) 3 26 := ⟨by decide +kernel, rfl⟩
theorem d_Wa_countSets_26 : Dc prog_12_method_13_code 26 (.istore 4) 2 28 := ⟨by decide +kernel, rfl⟩
theorem d_Wa_countSets_28 : Dc prog_12_method_13_code 28 (.iconst 0) 1 29 := ⟨by decide +kernel, rfl⟩
theorem d_Wa_countSets_29 : Dc prog_12_method_13_code 29 (.istore 5) 2 31 := ⟨by decide +kernel, rfl⟩
theorem d_Wa_countSets_31 : Dc prog_12_method_13_code 31 (.iconst 0) 1 32 := ⟨by decide +kernel, rfl⟩
theorem d_Wa_countSets_32 : Dc prog_12_method_13_code 32 (.istore 6) 2 34 := ⟨by decide +kernel, rfl⟩
theorem d_Wa_countSets_34 : Dc prog_12_method_13_code 34 (.iload 6) 2 36 := ⟨by decide +kernel, rfl⟩
theorem d_Wa_countSets_36 : Dc prog_12_method_13_code 36 (.iload_n 2) 1 37 := ⟨by decide +kernel, rfl⟩
theorem d_Wa_countSets_37 : Dj prog_12_method_13_code 37 (.if_icmp .ge 31) 40 31 68 := ⟨by decide +kernel, rfl, rfl⟩
theorem d_Wa_countSets_40 : Dc prog_12_method_13_code 40 (.iload 5) 2 42 := ⟨by decide +kernel, rfl⟩
theorem d_Wa_countSets_42 : Dc prog_12_method_13_code 42 (.aload_n 0) 1 43 := ⟨by decide +kernel, rfl⟩
theorem d_Wa_countSets_43 : Dc prog_12_method_13_code 43 (.getfield 21) 3 46 := ⟨by decide +kernel, rfl⟩
theorem d_Wa_countSets_46 : Dc prog_12_method_13_code 46 (.iload 6) 2 48 := ⟨by decide +kernel, rfl⟩
theorem d_Wa_countSets_48 : Dc prog_12_method_13_code 48 (.iaload) 1 49 := ⟨by decide +kernel, rfl⟩
theorem d_Wa_countSets_49 : Dc prog_12_method_13_code 49 (.iload 4) 2 51 := ⟨by decide +kernel, rfl⟩
theorem d_Wa_countSets_51 : Dj prog_12_method_13_code 51 (.if_icmp .ne 7) 54 7 58 := ⟨by decide +kernel, rfl, rfl⟩
theorem d_Wa_countSets_54 : Dc prog_12_method_13_code 54 (.iconst 1) 1 55 := ⟨by decide +kernel, rfl⟩
theorem d_Wa_countSets_55 : Dj prog_12_method_13_code 55 (.goto 4) 58 4 59 := ⟨by decide +kernel, rfl, rfl⟩
theorem d_Wa_countSets_58 : Dc prog_12_method_13_code 58 (.iconst 0) 1 59 := ⟨by decide +kernel, rfl⟩
theorem d_Wa_countSets_59 : Dc prog_12_method_13_code 59 (.ior) 1 60 := ⟨by decide +kernel, rfl⟩
theorem d_Wa_countSets_60 : Dc prog_12_method_13_code 60 (.istore 5) 2 62 := ⟨by decide +kernel, rfl⟩
theorem d_Wa_countSets_62 : Dc prog_12_method_13_code 62 (.iinc 6 1) 3 65 := ⟨by decide +kernel, rfl⟩
theorem d_Wa_countSets_65 : Dj prog_12_method_13_code 65 (.goto (-31)) 68 (-31) 34 := ⟨by decide +kernel, rfl, rfl⟩
theorem d_Wa_countSets_68 : Dc prog_12_method_13_code 68 (.iload 5) 2 70 := ⟨by decide +kernel, rfl⟩
theorem d_Wa_countSets_70 : Dj prog_12_method_13_code 70 (.ifCond .ne 14) 73 14 84 := ⟨by decide +kernel, rfl, rfl⟩
theorem d_Wa_countSets_73 : Dc prog_12_method_13_code 73 (.aload_n 0) 1 74 := ⟨by decide +kernel, rfl⟩
theorem d_Wa_countSets_74 : Dc prog_12_method_13_code 74 (.getfield 21) 3 77 := ⟨by decide +kernel, rfl⟩
theorem d_Wa_countSets_77 : Dc prog_12_method_13_code 77 (.iload_n 2) 1 78 := ⟨by decide +kernel, rfl⟩
theorem d_Wa_countSets_78 : Dc prog_12_method_13_code 78 (.iload 4) 2 80 := ⟨by decide +kernel, rfl⟩
theorem d_Wa_countSets_80 : Dc prog_12_method_13_code 80 (.iastore) 1 81 := ⟨by decide +kernel, rfl⟩
theorem d_Wa_countSets_81 : Dc prog_12_method_13_code 81 (.iinc 2 1) 3 84 := ⟨by decide +kernel, rfl⟩
theorem d_Wa_countSets_84 : Dc prog_12_method_13_code 84 (.iinc 3 1) 3 87 := ⟨by decide +kernel, rfl⟩
theorem d_Wa_countSets_87 : Dj prog_12_method_13_code 87 (.goto (-83)) 90 (-83) 4 := ⟨by decide +kernel, rfl, rfl⟩
theorem d_Wa_countSets_90 : Dc prog_12_method_13_code 90 (.iload_n 2) 1 91 := ⟨by decide +kernel, rfl⟩
theorem d_Wa_countSets_91 : Dc prog_12_method_13_code 91 (.ireturn) 1 92 := ⟨by decide +kernel, rfl⟩
theorem d_Wa_touchedNodes_0 : Dc prog_12_method_14_code 0 (.iconst 0) 1 1 := ⟨by decide +kernel, rfl⟩
theorem d_Wa_touchedNodes_1 : Dc prog_12_method_14_code 1 (.istore_n 1) 1 2 := ⟨by decide +kernel, rfl⟩
theorem d_Wa_touchedNodes_2 : Dc prog_12_method_14_code 2 (.iconst 0) 1 3 := ⟨by decide +kernel, rfl⟩
theorem d_Wa_touchedNodes_3 : Dc prog_12_method_14_code 3 (.istore_n 2) 1 4 := ⟨by decide +kernel, rfl⟩
theorem d_Wa_touchedNodes_4 : Dc prog_12_method_14_code 4 (.iload_n 2) 1 5 := ⟨by decide +kernel, rfl⟩
theorem d_Wa_touchedNodes_5 : Dc prog_12_method_14_code 5 (.ldc 69) 2 7 := ⟨by decide +kernel, rfl⟩
theorem d_Wa_touchedNodes_7 : Dj prog_12_method_14_code 7 (.if_icmp .ge 48) 10 48 55 := ⟨by decide +kernel, rfl, rfl⟩
theorem d_Wa_touchedNodes_10 : Dc prog_12_method_14_code 10 (.aload_n 0) 1 11 := ⟨by decide +kernel, rfl⟩
theorem d_Wa_touchedNodes_11 : Dc prog_12_method_14_code 11 (.invokevirtual 76) 3 14 := ⟨by decide +kernel, rfl⟩
theorem d_Wa_touchedNodes_14 : Dj prog_12_method_14_code 14 (.ifCond .eq 41) 17 41 55 := ⟨by decide +kernel, rfl, rfl⟩
theorem d_Wa_touchedNodes_17 : Dc prog_12_method_14_code 17 (.iload_n 1) 1 18 := ⟨by decide +kernel, rfl⟩
theorem d_Wa_touchedNodes_18 : Dc prog_12_method_14_code 18 (.aload_n 0) 1 19 := ⟨by decide +kernel, rfl⟩
theorem d_Wa_touchedNodes_19 : Dc prog_12_method_14_code 19 (.invokevirtual 96) 3 22 := ⟨by decide +kernel, rfl⟩
theorem d_Wa_touchedNodes_22 : Dc prog_12_method_14_code 22 (.aload_n 0) 1 23 := ⟨by decide +kernel, rfl⟩
theorem d_Wa_touchedNodes_23 : Dc prog_12_method_14_code 23 (.getfield 41) 3 26 := ⟨by decide +kernel, rfl⟩
theorem d_Wa_touchedNodes_26 : Dj prog_12_method_14_code 26 (.ifCond .lt 15) 29 15 41 := ⟨by decide +kernel, rfl, rfl⟩
theorem d_Wa_touchedNodes_29 : Dc prog_12_method_14_code 29 (.aload_n 0) 1 30 := ⟨by decide +kernel, rfl⟩
theorem d_Wa_touchedNodes_30 : Dc prog_12_method_14_code 30 (.getfield 15) 3 33 := ⟨by decide +kernel, rfl⟩
theorem d_Wa_touchedNodes_33 : Dc prog_12_method_14_code 33 (.aload_n 0) 1 34 := ⟨by decide +kernel, rfl⟩
theorem d_Wa_touchedNodes_34 : Dc prog_12_method_14_code 34 (.getfield 41) 3 37 := ⟨by decide +kernel, rfl⟩
theorem d_Wa_touchedNodes_37 : Dc prog_12_method_14_code 37 (.iaload) 1 38 := ⟨by decide +kernel, rfl⟩
theorem d_Wa_touchedNodes_38 : Dj prog_12_method_14_code 38 (.goto 4) 41 4 42 := ⟨by decide +kernel, rfl, rfl⟩
theorem d_Wa_touchedNodes_41 : Dc prog_12_method_14_code 41 (.iconst 0) 1 42 := ⟨by decide +kernel, rfl⟩
theorem d_Wa_touchedNodes_42 : Dc prog_12_method_14_code 42 (.ior) 1 43 := ⟨by decide +kernel, rfl⟩
theorem d_Wa_touchedNodes_43 : Dc prog_12_method_14_code 43 (.ior) 1 44 := ⟨by decide +kernel, rfl⟩
theorem d_Wa_touchedNodes_44 : Dc prog_12_method_14_code 44 (.istore_n 1) 1 45 := ⟨by decide +kernel, rfl⟩
theorem d_Wa_touchedNodes_45 : Dc prog_12_method_14_code 45 (.aload_n 0) 1 46 := ⟨by decide +kernel, rfl⟩
theorem d_Wa_touchedNodes_46 : Dc prog_12_method_14_code 46 (.invokevirtual 84) 3 49 := ⟨by decide +kernel, rfl⟩
theorem d_Wa_touchedNodes_49 : Dc prog_12_method_14_code 49 (.iinc 2 1) 3 52 := ⟨by decide +kernel, rfl⟩
theorem d_Wa_touchedNodes_52 : Dj prog_12_method_14_code 52 (.goto (-48)) 55 (-48) 4 := ⟨by decide +kernel, rfl, rfl⟩
theorem d_Wa_touchedNodes_55 : Dc prog_12_method_14_code 55 (.iload_n 1) 1 56 := ⟨by decide +kernel, rfl⟩
theorem d_Wa_touchedNodes_56 : Dc prog_12_method_14_code 56 (.ireturn) 1 57 := ⟨by decide +kernel, rfl⟩
theorem fl_Wa_21 : FL "SubgraphDesk$Walker" 21 11 3 true (.array .int) (3, 4) := ⟨R_Wa, F_Wa, 11, ty_Wa, rfl, rfl, in_Wa, tyok_Wa, nm_Wa, by decide, gd 403 (by decide +kernel) rfl, rfl, rfl, rfl⟩
theorem ml_D_308 : Cond.methodLink "SubgraphDesk" 308 m_Wa_countSets.1 ∈ lw_gd := gd 1253 (by decide +kernel) rfl
theorem ml_D_311 : Cond.methodLink "SubgraphDesk" 311 m_Wa_touchedNodes.1 ∈ lw_gd := gd 1265 (by decide +kernel) rfl
theorem ml_Wa_96 : Cond.methodLink "SubgraphDesk$Walker" 96 m_Wa_nodesOfWay.1 ∈ lw_gd := gd 1257 (by decide +kernel) rfl
theorem WkT.set {w : Mem} {g : GC} {c : Nat → Nat} {x : List Nat} {t : List (List Nat)} {tot : Nat} (h : WkT w g c x t tot) (hN : gN g ≤ 12) : setN x (gV g) < 2 ^ 12 := setN_lt hN h.2.1 _ (by rw [h.1]; exact Nat.le_refl _)
theorem ior_0 (q : Prop) [Decidable q] : b2i q ||| nI 0 = b2i q := by
  by_cases h : q
  · rw [b2i_t h]; decide
  · rw [b2i_f h]; decide
theorem ior_1 (q : Prop) [Decidable q] : b2i q ||| nI 1 = nI 1 := by
  by_cases h : q
  · rw [b2i_t h]; decide
  · rw [b2i_f h]; decide
theorem met_y {l : List Nat} {x i : Nat} (h : gA l i = x) : b2i (metN l x i = true) ||| nI 1 = b2i (metN l x (i + 1) = true) := (ior_1 _).trans (met_b h)
theorem met_n {l : List Nat} {x i : Nat} (h : ¬ gA l i = x) : b2i (metN l x i = true) ||| nI 0 = b2i (metN l x (i + 1) = true) := by
  have e : metN l x (i + 1) = metN l x i := by
    show (metN l x i || decide (gA l i = x)) = _
    simp [h]
  rw [ior_0, e]
theorem le_61 {y : Int32} {m : Nat} (h : y < nI (m + 1)) (hm : m < 2 ^ 30) : y ≤ nI m := by
  rw [Int32.lt_iff_toInt_lt, nI_toInt (by omega)] at h
  rw [Int32.le_iff_toInt_le, nI_toInt (by omega)]
  omega
theorem c_Wa_countSets {E : EV} {w : Mem} {g : GC} {c : Nat → Nat} {ab tot nn : Nat} {wl : List (List Nat)} {fin : List Nat} (hE : WkE w g c ab) (hS : WkS w g c wl tot) (hnn : nn ≤ 60) (hfin : (wl.take nn).foldl (fun l q => addS l (setN q (gV g))) [] = fin) : T E m_Wa_countSets 4 0 0 [.ref 36, .int (nI nn)] w (fun r w2 => r = some (.int (nI fin.length)) ∧ FrWk w w2) := by
  refine T_of (L := [.ref 36, .int (nI nn), un, un, un, un, un]) cf_Wa_countSets rfl (Nat.le_of_ble_eq_true rfl) (fun X hX hF => ?_)
  have hW := hE.2.1
  have hn := hW.n
  have hv := hW.v
  have lp : ∀ (fuel : Nat) (k : Nat) (ws : List (List Nat)) (l : List Nat) (wk : Mem), nn - k < fuel → (FrWk w wk) → (WkS wk g c ws tot) → (k ≤ nn) → (l.length ≤ k) → (∀ j, j < l.length → rI wk 40 j = nI (gA l j) ∧ gA l j < 4096) → ((ws.take (nn - k)).foldl (fun l q => addS l (setN q (gV g))) l = fin) → G0 E X 0 0 4 [.ref 36, .int (nI nn), .int (nI l.length), .int (nI k), un, un, un] [] wk := by
    intro fuel
    induction fuel with
    | zero => intro k ws l wk q0; exact absurd q0 (Nat.not_lt_zero _)
    | succ fuel ih =>
      intro k ws l wk q0 q1 q2 q3 q4 q5 q6
      refine g_iload3 hX d_Wa_countSets_4 ?_
      refine g_iload1 hX d_Wa_countSets_5 ?_
      refine g_icmpN_ge hX d_Wa_countSets_6 (by omega) (by omega) (fun e6 => ?_) (fun e6 => ?_)
      · refine g_iload2 hX d_Wa_countSets_90 ?_
        refine g_iret hX hF d_Wa_countSets_91 (by omega) (by omega) ?_
        first
        | exact ⟨by rw [← q6, show nn - k = 0 by omega]; rfl, q1⟩
        | exact ⟨by rw [← q6, List.take_nil]; rfl, hf2⟩
      · refine g_iload2 hX d_Wa_countSets_9 ?_
        refine g_bipush (v := nI 60) hX d_Wa_countSets_10 rfl ?_
        refine g_icmpN_ge hX d_Wa_countSets_12 (by omega) (by omega) (fun h => absurd h (by omega)) (fun c1 => ?_)
        refine g_aload0 hX d_Wa_countSets_15 ?_
        refine g_callV (As := []) hX hF.1 d_Wa_countSets_16 ml_Wa_76 cf_Wa_advance cv_Wa_advance rfl rfl (c_Wa_adv (hE.fr q1) q2) (rcv_obj hX (lv_36 _) rfl rfl) (by omega) (by omega) (by omega) (Nat.le_of_ble_eq_true rfl) ?_
        rintro _ w2 ⟨hp, hfa⟩
        obtain ⟨z, rfl, hz2, hz⟩ := hp.c
        have hf2 := q1.tr hfa.W
        show G0 _ _ _ _ _ _ _ _
        refine g_if_eq hX d_Wa_countSets_19 (fun e14 => ?_) (fun e14 => ?_)
        · have hz0 : z = 0 := nI_inj (by omega) (by decide) e14
          obtain ⟨-, rfl, hZ, hst⟩ := hz.resolve_right (fun y => by omega)
          refine g_iload2 hX d_Wa_countSets_90 ?_
          refine g_iret hX hF d_Wa_countSets_91 (by omega) (by omega) ?_
          first
          | exact ⟨by rw [← q6, show nn - k = 0 by omega]; rfl, q1⟩
          | exact ⟨by rw [← q6, List.take_nil]; rfl, hf2⟩
        · have hz1 : z = 1 := by
            have : z ≠ 0 := fun y => e14 (by rw [y]; rfl)
            omega
          obtain ⟨-, x, t, rfl, hT⟩ := hz.resolve_left (fun y => by omega)
          have hE2 := hE.fr hf2
          have hsx := hT.set hn
          have q1_ := q1
          refine g_aload0 hX d_Wa_countSets_22 ?_
          refine g_callV (As := []) hX hF.1 d_Wa_countSets_23 ml_Wa_96 cf_Wa_nodesOfWay cv_Wa_nodesOfWay rfl rfl (c_Wa_nodesOfWay hE2 hT) (rcv_obj hX (lv_36 _) rfl rfl) (by omega) (by omega) (by omega) (Nat.le_of_ble_eq_true rfl) ?_
          refine ret_k ?_
          refine g_istore4 hX d_Wa_countSets_26 rfl (by decide) ?_
          refine g_iconst (v := nI 0) hX d_Wa_countSets_28 rfl ?_
          refine g_istore5 hX d_Wa_countSets_29 rfl (by decide) ?_
          refine g_iconst (v := nI 0) hX d_Wa_countSets_31 rfl ?_
          refine g_istore6 hX d_Wa_countSets_32 rfl (by decide) ?_
          have lpI : ∀ (fuel : Nat) (m : Nat), l.length - m < fuel → (m ≤ l.length) → G0 E X 0 0 34 [.ref 36, .int (nI nn), .int (nI l.length), .int (nI k), .int (nI (setN x (gV g))), .int (b2i (metN l (setN x (gV g)) m = true)), .int (nI m)] [] w2 := by
            intro fuel
            induction fuel with
            | zero => intro m q0; exact absurd q0 (Nat.not_lt_zero _)
            | succ fuel ihS =>
              intro m q0 q1
              refine g_iload6 hX d_Wa_countSets_34 ?_
              refine g_iload2 hX d_Wa_countSets_36 ?_
              refine g_icmpN_ge hX d_Wa_countSets_37 (by omega) (by omega) (fun e37 => ?_) (fun e37 => ?_)
              · obtain rfl : m = l.length := by omega
                refine g_iload5 hX d_Wa_countSets_68 ?_
                refine g_ifB_ne hX d_Wa_countSets_70 (fun e70 => ?_) (fun e70 => ?_)
                · refine g_iincN3 hX d_Wa_countSets_84 rfl (by decide) ?_
                  refine g_goto hX d_Wa_countSets_87 ?_
                  refine g_fget 4 ?_
                  refine g_fget 5 ?_
                  refine g_fget 6 ?_
                  have hS_ : addS l (setN x (gV g)) = l := by unfold addS; rw [if_pos (met_mem.mp e70)]
                  exact ih (k + 1) t l w2 (by omega) (q1_.tr hfa.W) hT.S (by omega) (by omega) (fun j hj => by rw [hfa.1 40 (by decide)]; exact q5 j hj) (by rw [show nn - k = (nn - (k + 1)) + 1 by omega, List.take_succ_cons, List.foldl_cons, hS_] at q6; exact q6)
                · refine g_aload0 hX d_Wa_countSets_73 ?_
                  refine g_getF hX d_Wa_countSets_74 fl_Wa_21 (lv_36 _) ?_
                  refine g_iload2 hX d_Wa_countSets_77 ?_
                  refine g_iload4 hX d_Wa_countSets_78 ?_
                  refine g_iast hX d_Wa_countSets_80 (lv_40 _) rfl (by omega) ?_
                  refine g_iincN2 hX d_Wa_countSets_81 rfl (by decide) ?_
                  refine g_iincN3 hX d_Wa_countSets_84 rfl (by decide) ?_
                  refine g_goto hX d_Wa_countSets_87 ?_
                  refine g_fget 4 ?_
                  refine g_fget 5 ?_
                  refine g_fget 6 ?_
                  have hS_ : addS l (setN x (gV g)) = l ++ [setN x (gV g)] := by unfold addS; rw [if_neg (mt met_mem.mpr e70)]
                  rw [show l.length + 1 = (l ++ [setN x (gV g)]).length by rw [List.length_append, List.length_singleton]]
                  exact ih (k + 1) t (l ++ [setN x (gV g)]) _ (by omega) ((q1_.tr hfa.W).I (by decide)) (hT.S.ch0 (fun a ha => rI_sI_ne _ _ _ (by omega))) (by omega) (by rw [List.length_append, List.length_singleton]; omega) (fun j hj => by
                    rw [List.length_append, List.length_singleton] at hj
                    rw [rI_sI, upd_eq, gA_app]
                    by_cases e : j = l.length
                    · rw [if_pos e, if_pos e]; exact ⟨rfl, by omega⟩
                    · rw [if_neg e, if_neg e, hfa.1 40 (by decide)]; exact q5 j (by omega)) (by rw [show nn - k = (nn - (k + 1)) + 1 by omega, List.take_succ_cons, List.foldl_cons, hS_] at q6; exact q6)
              · have hml := (q5 m e37).2
                refine g_iload5 hX d_Wa_countSets_40 ?_
                refine g_aload0 hX d_Wa_countSets_42 ?_
                refine g_getF hX d_Wa_countSets_43 fl_Wa_21 (lv_36 _) ?_
                refine g_iload6 hX d_Wa_countSets_46 ?_
                refine g_iald hX d_Wa_countSets_48 (lv_40 _) rfl (by omega) ?_
                refine g_topi (show rI w2 40 m = nI (gA l m) by rw [hfa.1 40 (by decide)]; exact (q5 m e37).1) ?_
                refine g_iload4 hX d_Wa_countSets_49 ?_
                refine g_icmpN_ne hX d_Wa_countSets_51 (by omega) (by omega) (fun e51 => ?_) (fun e51 => ?_)
                · refine g_iconst (v := nI 0) hX d_Wa_countSets_58 rfl ?_
                  refine g_ior hX d_Wa_countSets_59 ?_
                  refine g_topi (met_n e51) ?_
                  refine g_istore5 hX d_Wa_countSets_60 rfl (by decide) ?_
                  refine g_iincN6 hX d_Wa_countSets_62 rfl (by decide) ?_
                  refine g_goto hX d_Wa_countSets_65 ?_
                  exact ihS (m + 1) (by omega) (by omega)
                · refine g_iconst (v := nI 1) hX d_Wa_countSets_54 rfl ?_
                  refine g_goto hX d_Wa_countSets_55 ?_
                  refine g_ior hX d_Wa_countSets_59 ?_
                  refine g_topi (met_y e51) ?_
                  refine g_istore5 hX d_Wa_countSets_60 rfl (by decide) ?_
                  refine g_iincN6 hX d_Wa_countSets_62 rfl (by decide) ?_
                  refine g_goto hX d_Wa_countSets_65 ?_
                  exact ihS (m + 1) (by omega) (by omega)
          refine g_loc (show [Value.ref 36, Value.int (nI nn), Value.int (nI l.length), Value.int (nI k), Value.int (nI (setN x (gV g))), Value.int (nI 0), Value.int (nI 0)] = [Value.ref 36, Value.int (nI nn), Value.int (nI l.length), Value.int (nI k), Value.int (nI (setN x (gV g))), Value.int (b2i (metN l (setN x (gV g)) 0 = true)), Value.int (nI 0)] from rfl) ?_
          exact lpI (l.length + 1) 0 (by omega) (Nat.zero_le _)
  refine g_iconst (v := nI 0) hX d_Wa_countSets_0 rfl ?_
  refine g_istore2 hX d_Wa_countSets_1 rfl (by decide) ?_
  refine g_iconst (v := nI 0) hX d_Wa_countSets_2 rfl ?_
  refine g_istore3 hX d_Wa_countSets_3 rfl (by decide) ?_
  exact lp (nn + 1) 0 wl [] w (by omega) (FrWk.rf w) hS (Nat.zero_le _) (Nat.le_refl _) (fun j hj => absurd hj (Nat.not_lt_zero _)) hfin
theorem c_D_sets {E : EV} {w : Mem} {x : Int32} {s : SG} (h : DInv w s) : T E m_D_sets 6 0 0 [.ref 0, .int x] w (fun r w2 => r = some (.int (opSets x (sG s))) ∧ DInv w2 s ∧ DkD w w2) := by
  refine T_of (L := [.ref 0, .int x]) cf_D_sets rfl (Nat.le_of_ble_eq_true rfl) (fun X hX hF => ?_)
  obtain ⟨⟨hR, hW, hA⟩, hL, hT, hI, hRF, ⟨hsm, hfa, hsp⟩, hdr, hfx⟩ := id h
  have hn := hW.n
  have hv := hW.v
  have he := hW.el
  have hll := hW.ll
  have hsl := hW.sl
  refine g_iload1 hX d_D_sets_0 ?_
  refine g_if_lt hX d_D_sets_1 (fun e1 => ?_) (fun e1 => ?_)
  · refine g_iconst (v := -1) hX d_D_sets_10 rfl ?_
    refine g_iret hX hF d_D_sets_11 (by omega) (by omega) ?_
    rw [sets_no (fun q => by first | exact absurd e1 ((in6 (by decide)).mp q).1 | exact absurd (le_61 (m := 60) q.2 (by decide)) e7)]
    exact ⟨rfl, h, DkD.rf w⟩
  · refine g_iload1 hX d_D_sets_4 ?_
    refine g_bipush (v := nI 60) hX d_D_sets_5 rfl ?_
    refine g_icmp_le hX d_D_sets_7 (fun e7 => ?_) (fun e7 => ?_)
    · obtain ⟨m, hm, rfl, htm⟩ := inN_of ((in6 (by decide)).mpr ⟨e1, lt_of1 (by decide) e7 (Nat.le_refl _)⟩ : inN x 61) (by decide)
      refine g_aload0 hX d_D_sets_12 ?_
      refine g_callV (As := []) hX hF.1 d_D_sets_13 ml_D_264 cf_D_startWays cv_D_startWays rfl rfl (c_D_startWays h) (rcv_obj hX (lv_0 _) rfl rfl) (by omega) (by omega) (by omega) (Nat.le_of_ble_eq_true rfl) ?_
      rintro _ w1 ⟨rfl, hE1, hS1, hLe1, h1, hQ1⟩
      have hwl : (waysL (sG s)).length ≤ 248832 := by rw [← ways_C]; exact waysC_len hW
      show G0 _ _ _ _ _ _ _ _
      refine g_aload0 hX d_D_sets_16 ?_
      refine g_getF hX d_D_sets_17 fl_D_47 (lv_0 _) ?_
      refine g_iload1 hX d_D_sets_20 ?_
      refine g_callV (As := [_]) hX hF.1 d_D_sets_21 ml_D_308 cf_Wa_countSets cv_Wa_countSets rfl rfl (c_Wa_countSets (nn := m) hE1 hS1 (by omega) rfl) (rcv_obj hX (lv_36 _) rfl rfl) (by omega) (by omega) (by omega) (Nat.le_of_ble_eq_true rfl) ?_
      rintro _ w2 ⟨rfl, hf2⟩
      show G0 _ _ _ _ _ _ _ _
      refine g_iret hX hF d_D_sets_24 (by omega) (by omega) ?_
      rw [sets_ok hm]
      exact ⟨rfl, h1.q hf2.Q, (hQ1.tr hf2.Q).D⟩
    · refine g_iconst (v := -1) hX d_D_sets_10 rfl ?_
      refine g_iret hX hF d_D_sets_11 (by omega) (by omega) ?_
      rw [sets_no (fun q => by first | exact absurd e1 ((in6 (by decide)).mp q).1 | exact absurd (le_61 (m := 60) q.2 (by decide)) e7)]
      exact ⟨rfl, h, DkD.rf w⟩
theorem setN_app (q : List Nat) (y : Nat) : ∀ v, v ≤ q.length → setN (q ++ [y]) v = setN q v
  | 0, _ => rfl
  | v + 1, h => by
    unfold setN
    rw [setN_app q y v (by omega), gA_app0 (by omega)]
theorem set_last {q : List Nat} {y V : Nat} (h : q.length + 1 = V) : setN (q ++ [y]) V = setN q q.length ||| 1 <<< y := by
  rw [← h, setN, setN_app q y _ (Nat.le_refl _), gA_app1]
theorem tch_fold (g : GC) (q : List Nat) (h : q.length + 1 = gV g) : ∀ (l : List Nat) (s j : Nat), ((l.map (fun y => q ++ [y])).foldl (fun s x => s ||| setN x (gV g)) s).testBit j = (s.testBit j || (!l.isEmpty && (setN q q.length).testBit j) || decide (j ∈ l))
  | [], s, j => by simp
  | a :: t, s, j => by
    rw [List.map_cons, List.foldl_cons, tch_fold g q h t, set_last h, Nat.testBit_or, Nat.testBit_or, tb_one]
    by_cases e : a = j
    · simp [e]
    · have e2 : ¬ j = a := fun z => e z.symm
      cases t <;> simp [e, e2, Bool.or_assoc, Bool.or_comm, Bool.or_left_comm]
/-- the nodes of a way and of those alike behind it -/
theorem tch_alk {g : GC} {q : List Nat} {n m : Nat} {R : List (List Nat)} (h : q.length + 1 = gV g) (hm : m < 2 ^ gN g) (s : Nat) : (((q ++ [n]) :: ((bitsL (gN g) m).map (fun y => q ++ [y]) ++ R)).foldl (fun s x => s ||| setN x (gV g)) s) = R.foldl (fun s x => s ||| setN x (gV g)) (s ||| (setN (q ++ [n]) (gV g) ||| m)) := by
  rw [List.foldl_cons, List.foldl_append]
  congr 1
  apply Nat.eq_of_testBit_eq
  intro j
  rw [tch_fold g q h, Nat.testBit_or, Nat.testBit_or, Nat.testBit_or, set_last h, Nat.testBit_or]
  have hb : decide (j ∈ bitsL (gN g) m) = m.testBit j := by
    cases hj : m.testBit j with
    | true => exact decide_eq_true (bits_mem.mpr ⟨tb_ltN hm hj, hj⟩)
    | false => exact decide_eq_false (fun z => by rw [(bits_mem.mp z).2] at hj; cases hj)
  rw [hb]
  cases s.testBit j <;> cases (setN q q.length).testBit j <;> cases m.testBit j <;> cases (1 <<< n).testBit j <;> simp
theorem WkT.alk {w : Mem} {g : GC} {c : Nat → Nat} {x : List Nat} {t : List (List Nat)} {tot : Nat} (h : WkT w g c x t tot) : ∃ k, Alk w g c x t tot k := by
  rcases h.2.2.2 with ⟨h1, h2, h3, h4⟩ | ⟨lf, q, n, h1, h2, h3⟩
  · exact ⟨0, h, Or.inl ⟨h1, h3, h2, rfl, h4⟩⟩
  · exact ⟨_, h, Or.inr ⟨lf, q, n, h1, h2, h3, rfl⟩⟩
theorem c_Wa_touchedNodes {E : EV} {w : Mem} {g : GC} {c : Nat → Nat} {ab tot fin : Nat} {wl : List (List Nat)} (hE : WkE w g c ab) (hS : WkS w g c wl tot) (hl2 : wl.length ≤ 300000) (hfin : wl.foldl (fun s x => s ||| setN x (gV g)) 0 = fin) : T E m_Wa_touchedNodes 4 0 0 [.ref 36] w (fun r w2 => r = some (.int (nI fin)) ∧ FrAd w w2) := by
  refine T_of (L := [.ref 36, un, un]) cf_Wa_touchedNodes rfl (Nat.le_of_ble_eq_true rfl) (fun X hX hF => ?_)
  have hW := hE.2.1
  have hn := hW.n
  have hv := hW.v
  have lp : ∀ (fuel : Nat) (k a : Nat) (ws : List (List Nat)) (wk : Mem), ws.length < fuel → (FrAd w wk) → (WkS wk g c ws tot) → (k + ws.length ≤ 400000) → (ws.foldl (fun s x => s ||| setN x (gV g)) a = fin) → (a < 2 ^ 12) → G0 E X 0 0 4 [.ref 36, .int (nI a), .int (nI k)] [] wk := by
    intro fuel
    induction fuel with
    | zero => intro k a ws wk q0; exact absurd q0 (Nat.not_lt_zero _)
    | succ fuel ih =>
      intro k a ws wk q0 q1 q2 q3 q4 q5
      refine g_iload2 hX d_Wa_touchedNodes_4 ?_
      refine g_ldc (v := nI 1000000) hX d_Wa_touchedNodes_5 k_Wa_69 rfl ?_
      refine g_icmpN_ge hX d_Wa_touchedNodes_7 (by omega) (by omega) (fun h => absurd h (by omega)) (fun c0 => ?_)
      refine g_aload0 hX d_Wa_touchedNodes_10 ?_
      refine g_callV (As := []) hX hF.1 d_Wa_touchedNodes_11 ml_Wa_76 cf_Wa_advance cv_Wa_advance rfl rfl (c_Wa_adv (hE.fr q1.W) q2) (rcv_obj hX (lv_36 _) rfl rfl) (by omega) (by omega) (by omega) (Nat.le_of_ble_eq_true rfl) ?_
      rintro _ w2 ⟨hp, hfa⟩
      obtain ⟨z, rfl, hz2, hz⟩ := hp.c
      have hf2 := q1.tr hfa
      show G0 _ _ _ _ _ _ _ _
      refine g_if_eq hX d_Wa_touchedNodes_14 (fun e14 => ?_) (fun e14 => ?_)
      · have hz0 : z = 0 := nI_inj (by omega) (by decide) e14
        obtain ⟨-, rfl, hZ, hst⟩ := hz.resolve_right (fun y => by omega)
        refine g_iload1 hX d_Wa_touchedNodes_55 ?_
        refine g_iret hX hF d_Wa_touchedNodes_56 (by omega) (by omega) ?_
        exact ⟨by rw [← q4]; rfl, hf2⟩
      · have hz1 : z = 1 := by
          have : z ≠ 0 := fun y => e14 (by rw [y]; rfl)
          omega
        obtain ⟨-, x, t, rfl, hT⟩ := hz.resolve_left (fun y => by omega)
        have hE2 := hE.fr hf2.W
        have hsx := hT.set hn
        obtain ⟨ka, hA⟩ := hT.alk
        obtain ⟨hka, hka2⟩ := hA.le hW
        rcases hA.2 with ⟨hV0, hZ2, ht0, hk0, -⟩ | ⟨lf, q, y, hq1, hxq, hM, hka0⟩
        · refine g_iload1 hX d_Wa_touchedNodes_17 ?_
          refine g_aload0 hX d_Wa_touchedNodes_18 ?_
          refine g_callV (As := []) hX hF.1 d_Wa_touchedNodes_19 ml_Wa_96 cf_Wa_nodesOfWay cv_Wa_nodesOfWay rfl rfl (c_Wa_nodesOfWay hE2 hT) (rcv_obj hX (lv_36 _) rfl rfl) (by omega) (by omega) (by omega) (Nat.le_of_ble_eq_true rfl) ?_
          refine ret_k ?_
          refine g_aload0 hX d_Wa_touchedNodes_22 ?_
          refine g_getI hX d_Wa_touchedNodes_23 fl_Wa_41 (lv_36 _) ?_
          refine g_topi hZ2.1 ?_
          refine g_if_lt hX d_Wa_touchedNodes_26 (fun c0 => ?_) (fun h => absurd (by decide) h)
          refine g_iconst (v := nI 0) hX d_Wa_touchedNodes_41 rfl ?_
          refine g_iorN hX d_Wa_touchedNodes_42 ?_
          refine g_iorN hX d_Wa_touchedNodes_43 ?_
          refine g_istore1 hX d_Wa_touchedNodes_44 rfl (by decide) ?_
          refine g_aload0 hX d_Wa_touchedNodes_45 ?_
          refine g_callV (As := []) hX hF.1 d_Wa_touchedNodes_46 ml_Wa_84 cf_Wa_skipAlike cv_Wa_skipAlike rfl rfl (c_Wa_skipAlike hW hA) (rcv_obj hX (lv_36 _) rfl rfl) (by omega) (by omega) (by omega) (Nat.le_of_ble_eq_true rfl) ?_
          rintro _ w3 ⟨rfl, hS3, hf3⟩
          show G0 _ _ _ _ _ _ _ _
          refine g_iincN2 hX d_Wa_touchedNodes_49 rfl (by decide) ?_
          refine g_goto hX d_Wa_touchedNodes_52 ?_
          exact ih (k + 1) (a ||| (setN x (gV g) ||| 0)) (t.drop 0) w3 (by simp only [List.length_cons] at q0; rw [List.drop_zero]; omega) (hf2.tr hf3) (hk0 ▸ hS3) (by rw [List.drop_zero]; simp only [List.length_cons] at q3; omega) (by rw [← q4, List.drop_zero, Nat.or_zero]; rfl) (or_lt q5 (or_lt hsx (by decide)))
        · obtain ⟨hm1, hm2⟩ := hM.1.2.2.2.2.1 q.length (Nat.le_refl _)
          have hm12 : lf q.length < 2 ^ 12 := Nat.lt_of_lt_of_le hm2.1 (Nat.pow_le_pow_right (by decide) hn)
          obtain ⟨e1, e2⟩ := hM.al hW hq1
          refine g_iload1 hX d_Wa_touchedNodes_17 ?_
          refine g_aload0 hX d_Wa_touchedNodes_18 ?_
          refine g_callV (As := []) hX hF.1 d_Wa_touchedNodes_19 ml_Wa_96 cf_Wa_nodesOfWay cv_Wa_nodesOfWay rfl rfl (c_Wa_nodesOfWay hE2 hT) (rcv_obj hX (lv_36 _) rfl rfl) (by omega) (by omega) (by omega) (Nat.le_of_ble_eq_true rfl) ?_
          refine ret_k ?_
          refine g_aload0 hX d_Wa_touchedNodes_22 ?_
          refine g_getI hX d_Wa_touchedNodes_23 fl_Wa_41 (lv_36 _) ?_
          refine g_topi hM.1.2.2.2.2.2.1 ?_
          refine g_if_lt hX d_Wa_touchedNodes_26 (fun h => absurd h (nI_pos (by omega))) (fun c0 => ?_)
          refine g_aload0 hX d_Wa_touchedNodes_29 ?_
          refine g_getF hX d_Wa_touchedNodes_30 fl_Wa_15 (lv_36 _) ?_
          refine g_aload0 hX d_Wa_touchedNodes_33 ?_
          refine g_getI hX d_Wa_touchedNodes_34 fl_Wa_41 (lv_36 _) ?_
          refine g_topi hM.1.2.2.2.2.2.1 ?_
          refine g_iald hX d_Wa_touchedNodes_37 (lv_38 _) rfl (by omega) ?_
          refine g_topi hm1 ?_
          refine g_goto hX d_Wa_touchedNodes_38 ?_
          refine g_iorN hX d_Wa_touchedNodes_42 ?_
          refine g_iorN hX d_Wa_touchedNodes_43 ?_
          refine g_istore1 hX d_Wa_touchedNodes_44 rfl (by decide) ?_
          refine g_aload0 hX d_Wa_touchedNodes_45 ?_
          refine g_callV (As := []) hX hF.1 d_Wa_touchedNodes_46 ml_Wa_84 cf_Wa_skipAlike cv_Wa_skipAlike rfl rfl (c_Wa_skipAlike hW hA) (rcv_obj hX (lv_36 _) rfl rfl) (by omega) (by omega) (by omega) (Nat.le_of_ble_eq_true rfl) ?_
          rintro _ w3 ⟨rfl, hS3, hf3⟩
          show G0 _ _ _ _ _ _ _ _
          refine g_iincN2 hX d_Wa_touchedNodes_49 rfl (by decide) ?_
          refine g_goto hX d_Wa_touchedNodes_52 ?_
          exact ih (k + 1) (a ||| (setN x (gV g) ||| lf q.length)) (t.drop ka) w3 (by simp only [List.length_cons] at q0; rw [List.length_drop]; omega) (hf2.tr hf3) hS3 (by rw [List.length_drop]; simp only [List.length_cons] at q3; omega) (by
            rw [← q4]
            conv => rhs; rw [e1, hxq]
            rw [tch_alk hq1 hm2.1, hxq]
            congr 1
            rw [e1, hka0, ← e2, List.drop_left]) (or_lt q5 (or_lt hsx hm12))
  refine g_iconst (v := nI 0) hX d_Wa_touchedNodes_0 rfl ?_
  refine g_istore1 hX d_Wa_touchedNodes_1 rfl (by decide) ?_
  refine g_iconst (v := nI 0) hX d_Wa_touchedNodes_2 rfl ?_
  refine g_istore2 hX d_Wa_touchedNodes_3 rfl (by decide) ?_
  exact lp (wl.length + 1) 0 0 wl w (by omega) (FrAd.rf w) hS (by omega) hfin (by decide)
theorem c_D_touched {E : EV} {w : Mem} {s : SG} (h : DInv w s) : T E m_D_touched 6 0 0 [.ref 0] w (fun r w2 => r = some (.int (opTouched (sG s))) ∧ DInv w2 s ∧ DkD w w2) := by
  refine T_of (L := [.ref 0]) cf_D_touched rfl (Nat.le_of_ble_eq_true rfl) (fun X hX hF => ?_)
  obtain ⟨⟨hR, hW, hA⟩, hL, hT, hI, hRF, ⟨hsm, hfa, hsp⟩, hdr, hfx⟩ := id h
  have hn := hW.n
  have hv := hW.v
  have he := hW.el
  have hll := hW.ll
  have hsl := hW.sl
  refine g_aload0 hX d_D_touched_0 ?_
  refine g_callV (As := []) hX hF.1 d_D_touched_1 ml_D_264 cf_D_startWays cv_D_startWays rfl rfl (c_D_startWays h) (rcv_obj hX (lv_0 _) rfl rfl) (by omega) (by omega) (by omega) (Nat.le_of_ble_eq_true rfl) ?_
  rintro _ w1 ⟨rfl, hE1, hS1, hLe1, h1, hQ1⟩
  have hwl : (waysL (sG s)).length ≤ 248832 := by rw [← ways_C]; exact waysC_len hW
  show G0 _ _ _ _ _ _ _ _
  refine g_aload0 hX d_D_touched_4 ?_
  refine g_getF hX d_D_touched_5 fl_D_47 (lv_0 _) ?_
  refine g_callV (As := []) hX hF.1 d_D_touched_8 ml_D_311 cf_Wa_touchedNodes cv_Wa_touchedNodes rfl rfl (c_Wa_touchedNodes hE1 hS1 (by omega) rfl) (rcv_obj hX (lv_36 _) rfl rfl) (by omega) (by omega) (by omega) (Nat.le_of_ble_eq_true rfl) ?_
  rintro _ w2 ⟨rfl, hf2⟩
  show G0 _ _ _ _ _ _ _ _
  refine g_iret hX hF d_D_touched_11 (by omega) (by omega) ?_
  exact ⟨rfl, h1.q hf2.Q, (hQ1.tr hf2.Q).D⟩
