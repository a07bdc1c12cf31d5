def m_Ru_act : MR := (⟨"SubgraphDesk$Runner", "act", "(III)I"⟩, prog_9_method_8_code, 4, (some .int))
theorem cf_Ru_act : CF m_Ru_act 3 := ⟨gd 1077 (by decide +kernel) rfl, gd 150 (by decide +kernel) rfl, by decide +kernel, by decide, by decide +kernel⟩
theorem cv_Ru_act : CV m_Ru_act := ⟨gd 1076 (by decide +kernel) rfl, gd 29 (by decide +kernel) rfl⟩
def m_Ru_refreshWords : MR := (⟨"SubgraphDesk$Runner", "refreshWords", "(Z)V"⟩, prog_9_method_5_code, 3, none)
theorem cf_Ru_refreshWords : CF m_Ru_refreshWords 1 := ⟨gd 1024 (by decide +kernel) rfl, gd 150 (by decide +kernel) rfl, by decide +kernel, by decide, by decide +kernel⟩
theorem cv_Ru_refreshWords : CV m_Ru_refreshWords := ⟨gd 1023 (by decide +kernel) rfl, gd 22 (by decide +kernel) rfl⟩
theorem d_Ru_act_0 : Dc prog_9_method_8_code 0 (.iload_n 1) 1 1 := ⟨by decide +kernel, rfl⟩
theorem d_Ru_act_1 : Dc prog_9_method_8_code 1 (.tableswitch 69 0 2 #[27, 41, 55]) 27 28 := ⟨by decide +kernel, rfl⟩
theorem d_Ru_act_28 : Dc prog_9_method_8_code 28 (.aload_n 0) 1 29 := ⟨by decide +kernel, rfl⟩
theorem d_Ru_act_29 : Dc prog_9_method_8_code 29 (.getfield 36) 3 32 := ⟨by decide +kernel, rfl⟩
theorem d_Ru_act_32 : Dc prog_9_method_8_code 32 (.aload_n 0) 1 33 := ⟨by decide +kernel, rfl⟩
theorem d_Ru_act_33 : Dc prog_9_method_8_code 33 (.getfield 33) 3 36 := ⟨by decide +kernel, rfl⟩
theorem d_Ru_act_36 : Dc prog_9_method_8_code 36 (.iload_n 2) 1 37 := ⟨by decide +kernel, rfl⟩
theorem d_Ru_act_37 : Dc prog_9_method_8_code 37 (.iload_n 3) 1 38 := ⟨by decide +kernel, rfl⟩
theorem d_Ru_act_38 : Dc prog_9_method_8_code 38 (.invokevirtual 150) 3 41 := ⟨by decide +kernel, rfl⟩
theorem d_Ru_act_41 : Dc prog_9_method_8_code 41 (.ireturn) 1 42 := ⟨by decide +kernel, rfl⟩
theorem d_Ru_act_42 : Dc prog_9_method_8_code 42 (.aload_n 0) 1 43 := ⟨by decide +kernel, rfl⟩
theorem d_Ru_act_43 : Dc prog_9_method_8_code 43 (.getfield 36) 3 46 := ⟨by decide +kernel, rfl⟩
theorem d_Ru_act_46 : Dc prog_9_method_8_code 46 (.aload_n 0) 1 47 := ⟨by decide +kernel, rfl⟩
theorem d_Ru_act_47 : Dc prog_9_method_8_code 47 (.getfield 33) 3 50 := ⟨by decide +kernel, rfl⟩
theorem d_Ru_act_50 : Dc prog_9_method_8_code 50 (.iload_n 2) 1 51 := ⟨by decide +kernel, rfl⟩
theorem d_Ru_act_51 : Dc prog_9_method_8_code 51 (.iload_n 3) 1 52 := ⟨by decide +kernel, rfl⟩
theorem d_Ru_act_52 : Dc prog_9_method_8_code 52 (.invokevirtual 154) 3 55 := ⟨by decide +kernel, rfl⟩
theorem d_Ru_act_55 : Dc prog_9_method_8_code 55 (.ireturn) 1 56 := ⟨by decide +kernel, rfl⟩
theorem d_Ru_act_56 : Dc prog_9_method_8_code 56 (.aload_n 0) 1 57 := ⟨by decide +kernel, rfl⟩
theorem d_Ru_act_57 : Dc prog_9_method_8_code 57 (.getfield 36) 3 60 := ⟨by decide +kernel, rfl⟩
theorem d_Ru_act_60 : Dc prog_9_method_8_code 60 (.aload_n 0) 1 61 := ⟨by decide +kernel, rfl⟩
theorem d_Ru_act_61 : Dc prog_9_method_8_code 61 (.getfield 33) 3 64 := ⟨by decide +kernel, rfl⟩
theorem d_Ru_act_64 : Dc prog_9_method_8_code 64 (.iload_n 2) 1 65 := ⟨by decide +kernel, rfl⟩
theorem d_Ru_act_65 : Dc prog_9_method_8_code 65 (.iload_n 3) 1 66 := ⟨by decide +kernel, rfl⟩
theorem d_Ru_act_66 : Dc prog_9_method_8_code 66 (.invokevirtual 157) 3 69 := ⟨by decide +kernel, rfl⟩
theorem d_Ru_act_69 : Dc prog_9_method_8_code 69 (.ireturn) 1 70 := ⟨by decide +kernel, rfl⟩
theorem d_Ru_act_70 : Dc prog_9_method_8_code 70 (.aload_n 0) 1 71 := ⟨by decide +kernel, rfl⟩
theorem d_Ru_act_71 : Dc prog_9_method_8_code 71 (.getfield 36) 3 74 := ⟨by decide +kernel, rfl⟩
theorem d_Ru_act_74 : Dc prog_9_method_8_code 74 (.aload_n 0) 1 75 := ⟨by decide +kernel, rfl⟩
theorem d_Ru_act_75 : Dc prog_9_method_8_code 75 (.getfield 33) 3 78 := ⟨by decide +kernel, rfl⟩
theorem d_Ru_act_78 : Dc prog_9_method_8_code 78 (.iload_n 2) 1 79 := ⟨by decide +kernel, rfl⟩
theorem d_Ru_act_79 : Dc prog_9_method_8_code 79 (.iload_n 3) 1 80 := ⟨by decide +kernel, rfl⟩
theorem d_Ru_act_80 : Dc prog_9_method_8_code 80 (.invokevirtual 160) 3 83 := ⟨by decide +kernel, rfl⟩
theorem d_Ru_act_83 : Dc prog_9_method_8_code 83 (.ireturn) 1 84 := ⟨by decide +kernel, rfl⟩
theorem d_Ru_refreshWords_0 : Dc prog_9_method_5_code 0 (.aload_n 0) 1 1 := ⟨by decide +kernel, rfl⟩
theorem d_Ru_refreshWords_1 : Dc prog_9_method_5_code 1 (.getfield 25) 3 4 := ⟨by decide +kernel, rfl⟩
theorem d_Ru_refreshWords_4 : Dc prog_9_method_5_code 4 (.iconst 0) 1 5 := ⟨by decide +kernel, rfl⟩
theorem d_Ru_refreshWords_5 : Dc prog_9_method_5_code 5 (.aload_n 0) 1 6 := ⟨by decide +kernel, rfl⟩
theorem d_Ru_refreshWords_6 : Dc prog_9_method_5_code 6 (.getfield 33) 3 9 := ⟨by decide +kernel, rfl⟩
theorem d_Ru_refreshWords_9 : Dc prog_9_method_5_code 9 (.getfield 100) 3 12 := ⟨by decide +kernel, rfl⟩
theorem d_Ru_refreshWords_12 : Dc prog_9_method_5_code 12 (.iconst 0) 1 13 := ⟨by decide +kernel, rfl⟩
theorem d_Ru_refreshWords_13 : Dc prog_9_method_5_code 13 (.iaload) 1 14 := ⟨by decide +kernel, rfl⟩
theorem d_Ru_refreshWords_14 : Dc prog_9_method_5_code 14 (.iastore) 1 15 := ⟨by decide +kernel, rfl⟩
theorem d_Ru_refreshWords_15 : Dc prog_9_method_5_code 15 (.aload_n 0) 1 16 := ⟨by decide +kernel, rfl⟩
theorem d_Ru_refreshWords_16 : Dc prog_9_method_5_code 16 (.getfield 25) 3 19 := ⟨by decide +kernel, rfl⟩
theorem d_Ru_refreshWords_19 : Dc prog_9_method_5_code 19 (.iconst 1) 1 20 := ⟨by decide +kernel, rfl⟩
theorem d_Ru_refreshWords_20 : Dc prog_9_method_5_code 20 (.aload_n 0) 1 21 := ⟨by decide +kernel, rfl⟩
theorem d_Ru_refreshWords_21 : Dc prog_9_method_5_code 21 (.getfield 47) 3 24 := ⟨by decide +kernel, rfl⟩
theorem d_Ru_refreshWords_24 : Dc prog_9_method_5_code 24 (.iastore) 1 25 := ⟨by decide +kernel, rfl⟩
theorem d_Ru_refreshWords_25 : Dc prog_9_method_5_code 25 (.aload_n 0) 1 26 := ⟨by decide +kernel, rfl⟩
theorem d_Ru_refreshWords_26 : Dc prog_9_method_5_code 26 (.getfield 25) 3 29 := ⟨by decide +kernel, rfl⟩
theorem d_Ru_refreshWords_29 : Dc prog_9_method_5_code 29 (.iconst 2) 1 30 := ⟨by decide +kernel, rfl⟩
theorem d_Ru_refreshWords_30 : Dc prog_9_method_5_code 30 (.aload_n 0) 1 31 := ⟨by decide +kernel, rfl⟩
theorem d_Ru_refreshWords_31 : Dc prog_9_method_5_code 31 (.getfield 50) 3 34 := ⟨by decide +kernel, rfl⟩
theorem d_Ru_refreshWords_34 : Dc prog_9_method_5_code 34 (.iastore) 1 35 := ⟨by decide +kernel, rfl⟩
theorem d_Ru_refreshWords_35 : Dc prog_9_method_5_code 35 (.aload_n 0) 1 36 := ⟨by decide +kernel, rfl⟩
theorem d_Ru_refreshWords_36 : Dc prog_9_method_5_code 36 (.getfield 25) 3 39 := ⟨by decide +kernel, rfl⟩
theorem d_Ru_refreshWords_39 : Dc prog_9_method_5_code 39 (.iconst 3) 1 40 := ⟨by decide +kernel, rfl⟩
theorem d_Ru_refreshWords_40 : Dc prog_9_method_5_code 40 (.aload_n 0) 1 41 := ⟨by decide +kernel, rfl⟩
theorem d_Ru_refreshWords_41 : Dc prog_9_method_5_code 41 (.getfield 33) 3 44 := ⟨by decide +kernel, rfl⟩
theorem d_Ru_refreshWords_44 : Dc prog_9_method_5_code 44 (.getfield 103) 3 47 := ⟨by decide +kernel, rfl⟩
theorem d_Ru_refreshWords_47 : Dc prog_9_method_5_code 47 (.iastore) 1 48 := ⟨by decide +kernel, rfl⟩
theorem d_Ru_refreshWords_48 : Dc prog_9_method_5_code 48 (.iconst 0) 1 49 := ⟨by decide +kernel, rfl⟩
theorem d_Ru_refreshWords_49 : Dc prog_9_method_5_code 49 (.istore_n 2) 1 50 := ⟨by decide +kernel, rfl⟩
theorem d_Ru_refreshWords_50 : Dc prog_9_method_5_code 50 (.iload_n 2) 1 51 := ⟨by decide +kernel, rfl⟩
theorem d_Ru_refreshWords_51 : Dc prog_9_method_5_code 51 (.bipush 12) 2 53 := ⟨by decide +kernel, rfl⟩
theorem d_Ru_refreshWords_53 : Dj prog_9_method_5_code 53 (.if_icmp .ge 25) 56 25 78 := ⟨by decide +kernel, rfl, rfl⟩
theorem d_Ru_refreshWords_56 : Dc prog_9_method_5_code 56 (.aload_n 0) 1 57 := ⟨by decide +kernel, rfl⟩
theorem d_Ru_refreshWords_57 : Dc prog_9_method_5_code 57 (.getfield 25) 3 60 := ⟨by decide +kernel, rfl⟩
theorem d_Ru_refreshWords_60 : Dc prog_9_method_5_code 60 (.iconst 5) 1 61 := ⟨by decide +kernel, rfl⟩
theorem d_Ru_refreshWords_61 : Dc prog_9_method_5_code 61 (.iload_n 2) 1 62 := ⟨by decide +kernel, rfl⟩
theorem d_Ru_refreshWords_62 : Dc prog_9_method_5_code 62 (.iadd) 1 63 := ⟨by decide +kernel, rfl⟩
theorem d_Ru_refreshWords_63 : Dc prog_9_method_5_code 63 (.aload_n 0) 1 64 := ⟨by decide +kernel, rfl⟩
theorem d_Ru_refreshWords_64 : Dc prog_9_method_5_code 64 (.getfield 33) 3 67 := ⟨by decide +kernel, rfl⟩
theorem d_Ru_refreshWords_67 : Dc prog_9_method_5_code 67 (.iload_n 2) 1 68 := ⟨by decide +kernel, rfl⟩
theorem d_Ru_refreshWords_68 : Dc prog_9_method_5_code 68 (.invokevirtual 105) 3 71 := ⟨by decide +kernel, rfl⟩
theorem d_Ru_refreshWords_71 : Dc prog_9_method_5_code 71 (.iastore) 1 72 := ⟨by decide +kernel, rfl⟩
theorem d_Ru_refreshWords_72 : Dc prog_9_method_5_code 72 (.iinc 2 1) 3 75 := ⟨by decide +kernel, rfl⟩
theorem d_Ru_refreshWords_75 : Dj prog_9_method_5_code 75 (.goto (-25)) 78 (-25) 50 := ⟨by decide +kernel, rfl, rfl⟩
theorem d_Ru_refreshWords_78 : Dc prog_9_method_5_code 78 (.iload_n 1) 1 79 := ⟨by decide +kernel, rfl⟩
theorem d_Ru_refreshWords_79 : Dj prog_9_method_5_code 79 (.ifCond .eq 52) 82 52 131 := ⟨by decide +kernel, rfl, rfl⟩
theorem d_Ru_refreshWords_82 : Dc prog_9_method_5_code 82 (.aload_n 0) 1 83 := ⟨by decide +kernel, rfl⟩
theorem d_Ru_refreshWords_83 : Dc prog_9_method_5_code 83 (.getfield 39) 3 86 := ⟨by decide +kernel, rfl⟩
theorem d_Ru_refreshWords_86 : Dc prog_9_method_5_code 86 (.aload_n 0) 1 87 := ⟨by decide +kernel, rfl⟩
theorem d_Ru_refreshWords_87 : Dc prog_9_method_5_code 87 (.getfield 33) 3 90 := ⟨by decide +kernel, rfl⟩
theorem d_Ru_refreshWords_90 : Dc prog_9_method_5_code 90 (.aload_n 0) 1 91 := ⟨by decide +kernel, rfl⟩
theorem d_Ru_refreshWords_91 : Dc prog_9_method_5_code 91 (.getfield 33) 3 94 := ⟨by decide +kernel, rfl⟩
theorem d_Ru_refreshWords_94 : Dc prog_9_method_5_code 94 (.invokevirtual 109) 3 97 := ⟨by decide +kernel, rfl⟩
theorem d_Ru_refreshWords_97 : Dc prog_9_method_5_code 97 (.invokevirtual 113) 3 100 := ⟨by decide +kernel, rfl⟩
theorem d_Ru_refreshWords_100 : Dc prog_9_method_5_code 100 (.aload_n 0) 1 101 := ⟨by decide +kernel, rfl⟩
theorem d_Ru_refreshWords_101 : Dc prog_9_method_5_code 101 (.getfield 43) 3 104 := ⟨by decide +kernel, rfl⟩
theorem d_Ru_refreshWords_104 : Dc prog_9_method_5_code 104 (.aload_n 0) 1 105 := ⟨by decide +kernel, rfl⟩
theorem d_Ru_refreshWords_105 : Dc prog_9_method_5_code 105 (.getfield 33) 3 108 := ⟨by decide +kernel, rfl⟩
theorem d_Ru_refreshWords_108 : Dc prog_9_method_5_code 108 (.aload_n 0) 1 109 := ⟨by decide +kernel, rfl⟩
theorem d_Ru_refreshWords_109 : Dc prog_9_method_5_code 109 (.getfield 39) 3 112 := ⟨by decide +kernel, rfl⟩
theorem d_Ru_refreshWords_112 : Dc prog_9_method_5_code 112 (.getfield 119) 3 115 := ⟨by decide +kernel, rfl⟩
theorem d_Ru_refreshWords_115 : Dc prog_9_method_5_code 115 (.invokevirtual 122) 3 118 := ⟨by decide +kernel, rfl⟩
theorem d_Ru_refreshWords_118 : Dc prog_9_method_5_code 118 (.aload_n 0) 1 119 := ⟨by decide +kernel, rfl⟩
theorem d_Ru_refreshWords_119 : Dc prog_9_method_5_code 119 (.getfield 25) 3 122 := ⟨by decide +kernel, rfl⟩
theorem d_Ru_refreshWords_122 : Dc prog_9_method_5_code 122 (.iconst 4) 1 123 := ⟨by decide +kernel, rfl⟩
theorem d_Ru_refreshWords_123 : Dc prog_9_method_5_code 123 (.aload_n 0) 1 124 := ⟨by decide +kernel, rfl⟩
theorem d_Ru_refreshWords_124 : Dc prog_9_method_5_code 124 (.getfield 43) 3 127 := ⟨by decide +kernel, rfl⟩
theorem d_Ru_refreshWords_127 : Dc prog_9_method_5_code 127 (.invokevirtual 128) 3 130 := ⟨by decide +kernel, rfl⟩
theorem d_Ru_refreshWords_130 : Dc prog_9_method_5_code 130 (.iastore) 1 131 := ⟨by decide +kernel, rfl⟩
theorem d_Ru_refreshWords_131 : Dc prog_9_method_5_code 131 (.return_) 1 132 := ⟨by decide +kernel, rfl⟩
theorem fl_Ru_25 : FL "SubgraphDesk$Runner" 25 8 6 true (.array .int) (3, 15) := ⟨R_Ru, F_Ru, 10, ty_Ru, rfl, rfl, in_Ru, tyok_Ru, nm_Ru, by decide, gd 527 (by decide +kernel) rfl, rfl, rfl, rfl⟩
theorem fl_Ru_33 : FL "SubgraphDesk$Runner" 33 8 0 false (.object "SubgraphDesk$Board") (4, 0) := ⟨R_Ru, F_Ru, 10, ty_Ru, rfl, rfl, in_Ru, tyok_Ru, nm_Ru, by decide, gd 521 (by decide +kernel) rfl, rfl, rfl, rfl⟩
theorem fl_Ru_36 : FL "SubgraphDesk$Runner" 36 8 1 false (.object "SubgraphDesk$Acts") (4, 0) := ⟨R_Ru, F_Ru, 10, ty_Ru, rfl, rfl, in_Ru, tyok_Ru, nm_Ru, by decide, gd 522 (by decide +kernel) rfl, rfl, rfl, rfl⟩
theorem fl_Ru_39 : FL "SubgraphDesk$Runner" 39 8 2 false (.object "SubgraphDesk$Ledger") (4, 0) := ⟨R_Ru, F_Ru, 10, ty_Ru, rfl, rfl, in_Ru, tyok_Ru, nm_Ru, by decide, gd 523 (by decide +kernel) rfl, rfl, rfl, rfl⟩
theorem fl_Ru_43 : FL "SubgraphDesk$Runner" 43 8 3 false (.object "SubgraphDesk$Walker") (4, 0) := ⟨R_Ru, F_Ru, 10, ty_Ru, rfl, rfl, in_Ru, tyok_Ru, nm_Ru, by decide, gd 524 (by decide +kernel) rfl, rfl, rfl, rfl⟩
theorem fl_Ru_47 : FL "SubgraphDesk$Runner" 47 8 7 false .int (0, 0) := ⟨R_Ru, F_Ru, 10, ty_Ru, rfl, rfl, in_Ru, tyok_Ru, nm_Ru, by decide, gd 528 (by decide +kernel) rfl, rfl, rfl, rfl⟩
theorem fl_Ru_50 : FL "SubgraphDesk$Runner" 50 8 8 false .int (0, 0) := ⟨R_Ru, F_Ru, 10, ty_Ru, rfl, rfl, in_Ru, tyok_Ru, nm_Ru, by decide, gd 530 (by decide +kernel) rfl, rfl, rfl, rfl⟩
theorem fl_Ru_100 : FL "SubgraphDesk$Runner" 100 2 10 true (.array .int) (3, 7) := ⟨R_Bo, F_Bo, 15, ty_Bo, rfl, rfl, in_Bo, tyok_Bo, nm_Bo, by decide, gd 224 (by decide +kernel) rfl, rfl, rfl, rfl⟩
theorem fl_Ru_103 : FL "SubgraphDesk$Runner" 103 2 3 false .int (0, 0) := ⟨R_Bo, F_Bo, 15, ty_Bo, rfl, rfl, in_Bo, tyok_Bo, nm_Bo, by decide, gd 194 (by decide +kernel) rfl, rfl, rfl, rfl⟩
theorem fl_Ru_119 : FL "SubgraphDesk$Runner" 119 4 0 true (.array .int) (3, 1) := ⟨R_Le, F_Le, 4, ty_Le, rfl, rfl, in_Le, tyok_Le, nm_Le, by decide, gd 375 (by decide +kernel) rfl, rfl, rfl, rfl⟩
theorem ml_Ru_105 : Cond.methodLink "SubgraphDesk$Runner" 105 m_Bo_degreeOf.1 ∈ lw_gd := gd 1025 (by decide +kernel) rfl
theorem ml_Ru_109 : Cond.methodLink "SubgraphDesk$Runner" 109 m_Bo_lawInForce.1 ∈ lw_gd := gd 1026 (by decide +kernel) rfl
theorem ml_Ru_113 : Cond.methodLink "SubgraphDesk$Runner" 113 m_Le_fill.1 ∈ lw_gd := gd 1027 (by decide +kernel) rfl
theorem ml_Ru_122 : Cond.methodLink "SubgraphDesk$Runner" 122 m_Wa_start.1 ∈ lw_gd := gd 1028 (by decide +kernel) rfl
theorem ml_Ru_128 : Cond.methodLink "SubgraphDesk$Runner" 128 m_Wa_countAll.1 ∈ lw_gd := gd 1037 (by decide +kernel) rfl
theorem ml_Ru_150 : Cond.methodLink "SubgraphDesk$Runner" 150 m_Ac_joinNodes.1 ∈ lw_gd := gd 1078 (by decide +kernel) rfl
theorem ml_Ru_154 : Cond.methodLink "SubgraphDesk$Runner" 154 m_Ac_tieVertices.1 ∈ lw_gd := gd 1092 (by decide +kernel) rfl
theorem ml_Ru_157 : Cond.methodLink "SubgraphDesk$Runner" 157 m_Ac_paintNode.1 ∈ lw_gd := gd 1101 (by decide +kernel) rfl
theorem ml_Ru_160 : Cond.methodLink "SubgraphDesk$Runner" 160 m_Ac_dyeVertex.1 ∈ lw_gd := gd 1105 (by decide +kernel) rfl
/-! ===== the runner ===== -/
def DkW (w w2 : Mem) : Prop := (∀ a, a < 31 ∨ (52 < a ∧ a ≠ 53 ∧ a ≠ 68) → rI w2 a = rI w a) ∧ (∀ k, k ≠ 7 → k ≠ 8 → rI w2 53 k = rI w 53 k) ∧ (∀ a, 69 < a → rJ w2 a = rJ w a) ∧ KpS w w2
theorem KpS.rf (w : Mem) : KpS w w := ⟨fun _ _ => rfl, rfl⟩
theorem KpS.tr {a b c : Mem} (h : KpS a b) (h2 : KpS b c) : KpS a c := ⟨fun x hx => (h2.1 x hx).trans (h.1 x hx), h2.2.trans h.2⟩
theorem KpS.K {w w2 : Mem} (h : KpS w w2) : KpR w w2 := ⟨fun a h1 _ _ => h.1 a h1, h.2⟩
theorem KpS.of {w w2 : Mem} (e : w2.2.2 = w.2.2) : KpS w w2 := ⟨fun a _ => by unfold rR; rw [e], by rw [e]⟩
theorem DkW.rf (w : Mem) : DkW w w := ⟨fun _ _ => rfl, fun _ _ _ => rfl, fun _ _ => rfl, KpS.rf w⟩
theorem DkW.tr {a b c : Mem} (h : DkW a b) (h2 : DkW b c) : DkW a c := ⟨fun x hx => (h2.1 x hx).trans (h.1 x hx), fun k h3 h4 => (h2.2.1 k h3 h4).trans (h.2.1 k h3 h4), fun x hx => (h2.2.2.1 x hx).trans (h.2.2.1 x hx), h.2.2.2.tr h2.2.2.2⟩
theorem DkW.I {w w2 : Mem} {k : Nat} {x : Int32} (h : DkW w w2) : DkW w (sI w2 68 k x) := ⟨fun a ha => by rw [rI_sI_ne _ _ _ (by omega)]; exact h.1 a ha, fun q h1 h2 => by rw [rI_sI_ne _ _ _ (by decide)]; exact h.2.1 q h1 h2, h.2.2.1, h.2.2.2⟩
theorem FrL.W {w w2 : Mem} (h : FrL w w2) : DkW w w2 := ⟨fun a ha => h.1 a (by omega), fun k _ _ => by rw [h.1 53 (by decide)], fun a ha => h.2.1 a (by omega), KpS.of h.2.2⟩
theorem FrSt.W {w w2 : Mem} (h : FrSt w w2) : DkW w w2 := ⟨fun a ha => h.1 a (by omega), fun k _ _ => by rw [h.1 53 (by decide)], fun a _ => by unfold rJ; rw [h.2.1], h.2.2⟩
theorem FrWk.dW {w w2 : Mem} (h : FrWk w w2) : DkW w w2 := ⟨fun a ha => h.1 a (by omega), fun k _ _ => by rw [h.1 53 (by decide)], fun a _ => by unfold rJ; rw [h.2], KpS.of (by rw [h.2])⟩
theorem DInv.w1 {w w2 : Mem} {s : SG} (h : DInv w s) (f : DkW w w2) : DInv w2 s := by
  have kk := f.2.2.2.K
  obtain ⟨h1, h2, h3, h4, h5, h6, h7, h8⟩ := h
  refine ⟨h1.fr (fun a ha => f.1 a (by omega)), h2.fr isBo1 (fun a ha => f.1 a (by omega)) kk, h3.fr (by rw [f.1 26 (by decide)]) (f.1 27 (by decide)), h4.fr (fun a h1 h2 => f.1 a (by omega)) kk, h5.fr (f.1 70 (by decide)) (by rw [f.1 0 (by decide)]), ?_, h7.fr (fun a h1 h2 => f.1 a (by omega)), h8.fr kk⟩
  rw [f.1 0 (by decide), f.1 25 (by decide), f.2.1 9 (by decide) (by decide)]
  exact h6
/-- what the runner goes over -/
def RuE (w : Mem) : Prop := rR w 53 0 = some 1 ∧ rR w 53 1 = some 20 ∧ rR w 53 2 = some 31 ∧ rR w 53 3 = some 36
theorem RuE.fr {w w2 : Mem} (h : RuE w) (f : KpS w w2) : RuE w2 := by
  unfold RuE
  rw [f.1 53 (by decide)]
  exact h
/-- the words of orders, as the desk keeps them -/
def WoP (w : Mem) (g : GC) (dn : Nat) (lt : Int32) (b : Bool) : Prop := rI w 68 0 = nI (gT g 0) ∧ rI w 68 1 = nI dn ∧ rI w 68 2 = lt ∧ rI w 68 3 = nI (gE g).length ∧ (∀ k, k < 12 → rI w 68 (5 + k) = degI g (nI k)) ∧ (b = true → rI w 68 4 = nI (waysL g).length)
theorem c_Ru_act {E : EV} {w : Mem} {a : Nat} {x y : Int32} {g : GC} {u : List (Nat × Snap)} (hE : RuE w) (hG : DG w g u) (ha : a < 4) : T E m_Ru_act 5 0 0 [.ref 53, .int (nI a), .int x, .int y] w (fun r w2 => r = some (.int (aAct a x y g u).1) ∧ DG w2 (aAct a x y g u).2.1 (aAct a x y g u).2.2 ∧ FrAb w w2) := by
  refine T_of (L := [.ref 53, .int (nI a), .int x, .int y]) cf_Ru_act rfl (Nat.le_of_ble_eq_true rfl) (fun X hX hF => ?_)
  refine g_iload1 hX d_Ru_act_0 ?_
  by_cases c0_0 : (nI a) = 0
  · refine g_tableIn (off := 27) (tgt := 28) hX d_Ru_act_1 (by rw [c0_0]; decide) (by rw [c0_0]; decide) (by rw [c0_0]; rfl) rfl ?_
    refine g_aload0 hX d_Ru_act_28 ?_
    refine g_getR hX d_Ru_act_29 fl_Ru_36 (lv_53 _) hE.2.1 ?_
    refine g_aload0 hX d_Ru_act_32 ?_
    refine g_getR hX d_Ru_act_33 fl_Ru_33 (lv_53 _) hE.1 ?_
    refine g_iload2 hX d_Ru_act_36 ?_
    refine g_iload3 hX d_Ru_act_37 ?_
    refine g_callV (As := [_, _, _]) hX hF.1 d_Ru_act_38 ml_Ru_150 cf_Ac_joinNodes cv_Ac_joinNodes rfl rfl (c_Ac_joinNodes hG) (rcv_obj hX (lv_20 _) rfl rfl) (by omega) (by omega) (by omega) (Nat.le_of_ble_eq_true rfl) ?_
    rintro _ w2 ⟨rfl, hG2, hf2⟩
    show G0 _ _ _ _ _ _ _ _
    refine g_iret hX hF d_Ru_act_41 (by omega) (by omega) ?_
    rw [show aAct a x y g u = aEdge x y g u by unfold aAct; rw [if_pos (nI_inj (by omega) (by decide) c0_0)]]
    exact ⟨rfl, hG2, hf2⟩
  by_cases c0_1 : (nI a) = 1
  · refine g_tableIn (off := 41) (tgt := 42) hX d_Ru_act_1 (by rw [c0_1]; decide) (by rw [c0_1]; decide) (by rw [c0_1]; rfl) rfl ?_
    refine g_aload0 hX d_Ru_act_42 ?_
    refine g_getR hX d_Ru_act_43 fl_Ru_36 (lv_53 _) hE.2.1 ?_
    refine g_aload0 hX d_Ru_act_46 ?_
    refine g_getR hX d_Ru_act_47 fl_Ru_33 (lv_53 _) hE.1 ?_
    refine g_iload2 hX d_Ru_act_50 ?_
    refine g_iload3 hX d_Ru_act_51 ?_
    refine g_callV (As := [_, _, _]) hX hF.1 d_Ru_act_52 ml_Ru_154 cf_Ac_tieVertices cv_Ac_tieVertices rfl rfl (c_Ac_tieVertices hG) (rcv_obj hX (lv_20 _) rfl rfl) (by omega) (by omega) (by omega) (Nat.le_of_ble_eq_true rfl) ?_
    rintro _ w2 ⟨rfl, hG2, hf2⟩
    show G0 _ _ _ _ _ _ _ _
    refine g_iret hX hF d_Ru_act_55 (by omega) (by omega) ?_
    rw [show aAct a x y g u = aLink x y g u by unfold aAct; rw [if_neg (fun z => c0_0 (by rw [z]; rfl)), if_pos (nI_inj (by omega) (by decide) c0_1)]]
    exact ⟨rfl, hG2, hf2⟩
  by_cases c0_2 : (nI a) = 2
  · refine g_tableIn (off := 55) (tgt := 56) hX d_Ru_act_1 (by rw [c0_2]; decide) (by rw [c0_2]; decide) (by rw [c0_2]; rfl) rfl ?_
    refine g_aload0 hX d_Ru_act_56 ?_
    refine g_getR hX d_Ru_act_57 fl_Ru_36 (lv_53 _) hE.2.1 ?_
    refine g_aload0 hX d_Ru_act_60 ?_
    refine g_getR hX d_Ru_act_61 fl_Ru_33 (lv_53 _) hE.1 ?_
    refine g_iload2 hX d_Ru_act_64 ?_
    refine g_iload3 hX d_Ru_act_65 ?_
    refine g_callV (As := [_, _, _]) hX hF.1 d_Ru_act_66 ml_Ru_157 cf_Ac_paintNode cv_Ac_paintNode rfl rfl (c_Ac_paintNode hG) (rcv_obj hX (lv_20 _) rfl rfl) (by omega) (by omega) (by omega) (Nat.le_of_ble_eq_true rfl) ?_
    rintro _ w2 ⟨rfl, hG2, hf2⟩
    show G0 _ _ _ _ _ _ _ _
    refine g_iret hX hF d_Ru_act_69 (by omega) (by omega) ?_
    rw [show aAct a x y g u = aPaint x y g u by unfold aAct; rw [if_neg (fun z => c0_0 (by rw [z]; rfl)), if_neg (fun z => c0_1 (by rw [z]; rfl)), if_pos (nI_inj (by omega) (by decide) c0_2)]]
    exact ⟨rfl, hG2, hf2⟩
  refine g_tableOut (tgt := 70) hX d_Ru_act_1 (sw_outR (lo := 0) (hi := 2) (by decide) (by intro k hk1 hk2; rcases (show k = 0 ∨ k = 1 ∨ k = 2 by omega) with rfl | rfl | rfl <;> first | exact c0_0 | exact c0_1 | exact c0_2)) rfl ?_
  refine g_aload0 hX d_Ru_act_70 ?_
  refine g_getR hX d_Ru_act_71 fl_Ru_36 (lv_53 _) hE.2.1 ?_
  refine g_aload0 hX d_Ru_act_74 ?_
  refine g_getR hX d_Ru_act_75 fl_Ru_33 (lv_53 _) hE.1 ?_
  refine g_iload2 hX d_Ru_act_78 ?_
  refine g_iload3 hX d_Ru_act_79 ?_
  refine g_callV (As := [_, _, _]) hX hF.1 d_Ru_act_80 ml_Ru_160 cf_Ac_dyeVertex cv_Ac_dyeVertex rfl rfl (c_Ac_dyeVertex hG) (rcv_obj hX (lv_20 _) rfl rfl) (by omega) (by omega) (by omega) (Nat.le_of_ble_eq_true rfl) ?_
  rintro _ w2 ⟨rfl, hG2, hf2⟩
  show G0 _ _ _ _ _ _ _ _
  refine g_iret hX hF d_Ru_act_83 (by omega) (by omega) ?_
  rw [show aAct a x y g u = aDye x y g u by unfold aAct; rw [if_neg (fun z => c0_0 (by rw [z]; rfl)), if_neg (fun z => c0_1 (by rw [z]; rfl)), if_neg (fun z => c0_2 (by rw [z]; rfl))]]
  exact ⟨rfl, hG2, hf2⟩
theorem c_Ru_refreshWords {E : EV} {w : Mem} {s : SG} {dn : Nat} {lt : Int32} {bb : Bool} (h : DInv w s) (hE : RuE w) (hd : rI w 53 7 = nI dn) (hlt : rI w 53 8 = lt) : T E m_Ru_refreshWords 6 0 0 [.ref 53, .int (b2i (bb = true))] w (fun r w2 => r = none ∧ DInv w2 s ∧ RuE w2 ∧ WoP w2 (sG s) dn lt bb ∧ DkW w w2 ∧ rI w2 53 = rI w 53) := by
  refine T_of (L := [.ref 53, .int (b2i (bb = true)), un]) cf_Ru_refreshWords rfl (Nat.le_of_ble_eq_true rfl) (fun X hX hF => ?_)
  have hR := h.g.1
  have hW := h.g.2.1
  have hn := hW.n
  have k82 : ∀ wk : Mem, DInv wk s → RuE wk → rI wk 68 0 = nI (gT (sG s) 0) → rI wk 68 1 = nI dn → rI wk 68 2 = lt → rI wk 68 3 = nI (gE (sG s)).length → (∀ k, k < 12 → rI wk 68 (5 + k) = degI (sG s) (nI k)) → DkW w wk → rI wk 53 = rI w 53 → bb = true → G0 E X 0 0 82 [.ref 53, .int (b2i (bb = true)), un] [] wk := by
    intro wk h hE hw0 hw1 hw2 hw3 hw5 hDk h53 hbb
    have hR := h.g.1
    rcases hgf : gF (sG s) with _ | kf
    · refine g_aload0 hX d_Ru_refreshWords_82 ?_
      refine g_getR hX d_Ru_refreshWords_83 fl_Ru_39 (lv_53 _) hE.2.2.1 ?_
      refine g_aload0 hX d_Ru_refreshWords_86 ?_
      refine g_getR hX d_Ru_refreshWords_87 fl_Ru_33 (lv_53 _) hE.1 ?_
      refine g_aload0 hX d_Ru_refreshWords_90 ?_
      refine g_getR hX d_Ru_refreshWords_91 fl_Ru_33 (lv_53 _) hE.1 ?_
      refine g_callV (As := []) hX hF.1 d_Ru_refreshWords_94 ml_Ru_109 cf_Bo_lawInForce cv_Bo_lawInForce rfl rfl (c_Bo_forceN hR hW (fInt_no hgf _)) (rcv_obj hX (lv_1 _) rfl rfl) (by omega) (by omega) (by omega) (Nat.le_of_ble_eq_true rfl) ?_
      refine ret_k ?_
      refine g_callV (As := [_, _]) hX hF.1 d_Ru_refreshWords_97 ml_Ru_113 cf_Le_fill cv_Le_fill rfl rfl (c_Le_fillN (o := gF (sG s)) hR hW (gLw_n hgf)) (rcv_obj hX (lv_31 _) rfl rfl) (by omega) (by omega) (by omega) (Nat.le_of_ble_eq_true rfl) ?_
      rintro _ w2 ⟨rfl, hfl, hLe⟩
      replace hLe : LeP w2 (sG s) := hLe
      show G0 _ _ _ _ _ _ _ _
      have hE2 : RuE w2 := hE.fr hfl.W.2.2.2
      refine g_aload0 hX d_Ru_refreshWords_100 ?_
      refine g_getR hX d_Ru_refreshWords_101 fl_Ru_43 (lv_53 _) hE2.2.2.2 ?_
      refine g_aload0 hX d_Ru_refreshWords_104 ?_
      refine g_getR hX d_Ru_refreshWords_105 fl_Ru_33 (lv_53 _) hE2.1 ?_
      refine g_aload0 hX d_Ru_refreshWords_108 ?_
      refine g_getR hX d_Ru_refreshWords_109 fl_Ru_39 (lv_53 _) hE2.2.2.1 ?_
      refine g_getF hX d_Ru_refreshWords_112 fl_Ru_119 (lv_31 _) ?_
      refine g_callV (As := [_, _]) hX hF.1 d_Ru_refreshWords_115 ml_Ru_122 cf_Wa_start cv_Wa_start rfl rfl (c_Wa_start (c := mayG (sG s)) (hR.l hfl) hW (Or.inl rfl) (fun v hv => ⟨hLe.1 v hv, mayN_ltN _ _ _⟩)) (rcv_obj hX (lv_36 _) rfl rfl) (by omega) (by omega) (by omega) (Nat.le_of_ble_eq_true rfl) ?_
      rintro _ w3 ⟨rfl, hE3, hS3, hf3⟩
      have hER3 : RuE w3 := hE2.fr hf3.W.2.2.2
      replace hS3 : WkS w3 (sG s) (mayG (sG s)) (waysL (sG s)) (stepsC (sG s) (mayG (sG s)) (gV (sG s)) []) := by rw [← ways_C]; exact hS3
      have hwl : (waysL (sG s)).length ≤ 248832 := by rw [← ways_C]; exact waysC_len hW
      show G0 _ _ _ _ _ _ _ _
      refine g_aload0 hX d_Ru_refreshWords_118 ?_
      refine g_getF hX d_Ru_refreshWords_119 fl_Ru_25 (lv_53 _) ?_
      refine g_iconst (v := nI 4) hX d_Ru_refreshWords_122 rfl ?_
      refine g_aload0 hX d_Ru_refreshWords_123 ?_
      refine g_getR hX d_Ru_refreshWords_124 fl_Ru_43 (lv_53 _) hER3.2.2.2 ?_
      refine g_callV (As := []) hX hF.1 d_Ru_refreshWords_127 ml_Ru_128 cf_Wa_countAll cv_Wa_countAll rfl rfl (c_Wa_countAll hE3 hS3 rfl (by omega)) (rcv_obj hX (lv_36 _) rfl rfl) (by omega) (by omega) (by omega) (Nat.le_of_ble_eq_true rfl) ?_
      rintro _ w4 ⟨rfl, hf4, -⟩
      show G0 _ _ _ _ _ _ _ _
      refine g_iast hX d_Ru_refreshWords_130 (lv_68 _) rfl (by decide) ?_
      refine g_vret hX hF d_Ru_refreshWords_131 (by omega) (by omega) ?_
      have hDW : DkW wk (sI w4 68 4 (nI (waysL (sG s)).length)) := ((hfl.W.tr hf3.W).tr hf4.W.dW).I
      have h68 : rI w4 68 = rI wk 68 := by rw [hf4.W.1 68 (by decide), hf3.1 68 (by decide), hfl.1 68 (by decide)]
      refine ⟨rfl, h.w1 hDW, hE.fr hDW.2.2.2, ⟨?_, ?_, ?_, ?_, fun k hk => ?_, fun _ => by rw [rI_sI, upd_eq, if_pos rfl]⟩, hDk.tr hDW, ?_⟩
      · rw [rI_sI, upd_eq, if_neg (by decide), h68]; exact hw0
      · rw [rI_sI, upd_eq, if_neg (by decide), h68]; exact hw1
      · rw [rI_sI, upd_eq, if_neg (by decide), h68]; exact hw2
      · rw [rI_sI, upd_eq, if_neg (by decide), h68]; exact hw3
      · rw [rI_sI, upd_eq, if_neg (by omega), h68]; exact hw5 k hk
      · rw [rI_sI_ne _ _ _ (by decide), hf4.W.1 53 (by decide), hf3.1 53 (by decide), hfl.1 53 (by decide)]; exact h53
    · obtain ⟨pl, hpl, hPL, hlw⟩ := law_force h hgf
      obtain ⟨hin, htk⟩ := fInt_in hW hgf
      refine g_aload0 hX d_Ru_refreshWords_82 ?_
      refine g_getR hX d_Ru_refreshWords_83 fl_Ru_39 (lv_53 _) hE.2.2.1 ?_
      refine g_aload0 hX d_Ru_refreshWords_86 ?_
      refine g_getR hX d_Ru_refreshWords_87 fl_Ru_33 (lv_53 _) hE.1 ?_
      refine g_aload0 hX d_Ru_refreshWords_90 ?_
      refine g_getR hX d_Ru_refreshWords_91 fl_Ru_33 (lv_53 _) hE.1 ?_
      refine g_callV (As := []) hX hF.1 d_Ru_refreshWords_94 ml_Ru_109 cf_Bo_lawInForce cv_Bo_lawInForce rfl rfl (c_Bo_forceR hR hW hin (by rw [htk]; exact hpl)) (rcv_obj hX (lv_1 _) rfl rfl) (by omega) (by omega) (by omega) (Nat.le_of_ble_eq_true rfl) ?_
      refine ret_k ?_
      refine g_callV (As := [_, _]) hX hF.1 d_Ru_refreshWords_97 ml_Ru_113 cf_Le_fill cv_Le_fill rfl rfl (c_Le_fillP (o := gF (sG s)) hR hW hPL hlw) (rcv_obj hX (lv_31 _) rfl rfl) (by omega) (by omega) (by omega) (Nat.le_of_ble_eq_true rfl) ?_
      rintro _ w2 ⟨rfl, hfl, hLe⟩
      replace hLe : LeP w2 (sG s) := hLe
      show G0 _ _ _ _ _ _ _ _
      have hE2 : RuE w2 := hE.fr hfl.W.2.2.2
      refine g_aload0 hX d_Ru_refreshWords_100 ?_
      refine g_getR hX d_Ru_refreshWords_101 fl_Ru_43 (lv_53 _) hE2.2.2.2 ?_
      refine g_aload0 hX d_Ru_refreshWords_104 ?_
      refine g_getR hX d_Ru_refreshWords_105 fl_Ru_33 (lv_53 _) hE2.1 ?_
      refine g_aload0 hX d_Ru_refreshWords_108 ?_
      refine g_getR hX d_Ru_refreshWords_109 fl_Ru_39 (lv_53 _) hE2.2.2.1 ?_
      refine g_getF hX d_Ru_refreshWords_112 fl_Ru_119 (lv_31 _) ?_
      refine g_callV (As := [_, _]) hX hF.1 d_Ru_refreshWords_115 ml_Ru_122 cf_Wa_start cv_Wa_start rfl rfl (c_Wa_start (c := mayG (sG s)) (hR.l hfl) hW (Or.inl rfl) (fun v hv => ⟨hLe.1 v hv, mayN_ltN _ _ _⟩)) (rcv_obj hX (lv_36 _) rfl rfl) (by omega) (by omega) (by omega) (Nat.le_of_ble_eq_true rfl) ?_
      rintro _ w3 ⟨rfl, hE3, hS3, hf3⟩
      have hER3 : RuE w3 := hE2.fr hf3.W.2.2.2
      replace hS3 : WkS w3 (sG s) (mayG (sG s)) (waysL (sG s)) (stepsC (sG s) (mayG (sG s)) (gV (sG s)) []) := by rw [← ways_C]; exact hS3
      have hwl : (waysL (sG s)).length ≤ 248832 := by rw [← ways_C]; exact waysC_len hW
      show G0 _ _ _ _ _ _ _ _
      refine g_aload0 hX d_Ru_refreshWords_118 ?_
      refine g_getF hX d_Ru_refreshWords_119 fl_Ru_25 (lv_53 _) ?_
      refine g_iconst (v := nI 4) hX d_Ru_refreshWords_122 rfl ?_
      refine g_aload0 hX d_Ru_refreshWords_123 ?_
      refine g_getR hX d_Ru_refreshWords_124 fl_Ru_43 (lv_53 _) hER3.2.2.2 ?_
      refine g_callV (As := []) hX hF.1 d_Ru_refreshWords_127 ml_Ru_128 cf_Wa_countAll cv_Wa_countAll rfl rfl (c_Wa_countAll hE3 hS3 rfl (by omega)) (rcv_obj hX (lv_36 _) rfl rfl) (by omega) (by omega) (by omega) (Nat.le_of_ble_eq_true rfl) ?_
      rintro _ w4 ⟨rfl, hf4, -⟩
      show G0 _ _ _ _ _ _ _ _
      refine g_iast hX d_Ru_refreshWords_130 (lv_68 _) rfl (by decide) ?_
      refine g_vret hX hF d_Ru_refreshWords_131 (by omega) (by omega) ?_
      have hDW : DkW wk (sI w4 68 4 (nI (waysL (sG s)).length)) := ((hfl.W.tr hf3.W).tr hf4.W.dW).I
      have h68 : rI w4 68 = rI wk 68 := by rw [hf4.W.1 68 (by decide), hf3.1 68 (by decide), hfl.1 68 (by decide)]
      refine ⟨rfl, h.w1 hDW, hE.fr hDW.2.2.2, ⟨?_, ?_, ?_, ?_, fun k hk => ?_, fun _ => by rw [rI_sI, upd_eq, if_pos rfl]⟩, hDk.tr hDW, ?_⟩
      · rw [rI_sI, upd_eq, if_neg (by decide), h68]; exact hw0
      · rw [rI_sI, upd_eq, if_neg (by decide), h68]; exact hw1
      · rw [rI_sI, upd_eq, if_neg (by decide), h68]; exact hw2
      · rw [rI_sI, upd_eq, if_neg (by decide), h68]; exact hw3
      · rw [rI_sI, upd_eq, if_neg (by omega), h68]; exact hw5 k hk
      · rw [rI_sI_ne _ _ _ (by decide), hf4.W.1 53 (by decide), hf3.1 53 (by decide), hfl.1 53 (by decide)]; exact h53
  have lp : ∀ (fuel : Nat) (k : Nat) (wk : Mem), 12 - k < fuel → ((∀ a, a ≠ 68 → rI wk a = rI w a) ∧ wk.2 = w.2) → (k ≤ 12) → (rI wk 68 0 = nI (gT (sG s) 0) ∧ rI wk 68 1 = nI dn ∧ rI wk 68 2 = lt ∧ rI wk 68 3 = nI (gE (sG s)).length) → (∀ j, j < k → rI wk 68 (5 + j) = degI (sG s) (nI j)) → G0 E X 0 0 50 [.ref 53, .int (b2i (bb = true)), .int (nI k)] [] wk := by
    intro fuel
    induction fuel with
    | zero => intro k wk q0; exact absurd q0 (Nat.not_lt_zero _)
    | succ fuel ih =>
      intro k wk q0 q1 q2 q3 q4
      refine g_iload2 hX d_Ru_refreshWords_50 ?_
      refine g_bipush (v := nI 12) hX d_Ru_refreshWords_51 rfl ?_
      refine g_icmpN_ge hX d_Ru_refreshWords_53 (by omega) (by omega) (fun e53 => ?_) (fun e53 => ?_)
      · obtain rfl : k = 12 := by omega
        have hDW : DkW w wk := ⟨fun a ha => q1.1 a (by omega), fun k _ _ => by rw [q1.1 53 (by decide)], fun a _ => by unfold rJ; rw [q1.2], KpS.of (by rw [q1.2])⟩
        have hDk := h.w1 hDW
        have hEk := hE.fr hDW.2.2.2
        refine g_fget 2 ?_
        refine g_iload1 hX d_Ru_refreshWords_78 ?_
        refine g_ifB_eq hX d_Ru_refreshWords_79 (fun e79 => ?_) (fun e79 => ?_)
        · refine g_vret hX hF d_Ru_refreshWords_131 (by omega) (by omega) ?_
          exact ⟨rfl, hDk, hEk, ⟨q3.1, q3.2.1, q3.2.2.1, q3.2.2.2, q4, fun z => absurd z e79⟩, hDW, q1.1 53 (by decide)⟩
        · exact k82 wk hDk hEk q3.1 q3.2.1 q3.2.2.1 q3.2.2.2 q4 hDW (q1.1 53 (by decide)) e79
      · refine g_aload0 hX d_Ru_refreshWords_56 ?_
        refine g_getF hX d_Ru_refreshWords_57 fl_Ru_25 (lv_53 _) ?_
        refine g_iconst (v := nI 5) hX d_Ru_refreshWords_60 rfl ?_
        refine g_iload2 hX d_Ru_refreshWords_61 ?_
        refine g_iaddN hX d_Ru_refreshWords_62 ?_
        refine g_aload0 hX d_Ru_refreshWords_63 ?_
        refine g_getR hX d_Ru_refreshWords_64 fl_Ru_33 (lv_53 _) (show rR wk 53 0 = some 1 by unfold rR; rw [q1.2]; exact hE.1) ?_
        refine g_iload2 hX d_Ru_refreshWords_67 ?_
        refine g_callV (As := [_]) hX hF.1 d_Ru_refreshWords_68 ml_Ru_105 cf_Bo_degreeOf cv_Bo_degreeOf rfl rfl (c_Bo_degreeOf isBo1 (hR.fr (fun a h1 h2 => q1.1 a (by omega))) hW) (rcv_obj hX (lv_1 _) rfl rfl) (by omega) (by omega) (by omega) (Nat.le_of_ble_eq_true rfl) ?_
        refine ret_k ?_
        refine g_iast hX d_Ru_refreshWords_71 (lv_68 _) rfl (by omega) ?_
        refine g_iincN2 hX d_Ru_refreshWords_72 rfl (by decide) ?_
        refine g_goto hX d_Ru_refreshWords_75 ?_
        refine ih (k + 1) _ (by omega) ⟨fun a ha => by rw [rI_sI_ne _ _ _ ha]; exact q1.1 a ha, q1.2⟩ (by omega) ⟨?_, ?_, ?_, ?_⟩ (fun j hj => ?_)
        · rw [rI_sI, upd_eq, if_neg (by omega)]; exact q3.1
        · rw [rI_sI, upd_eq, if_neg (by omega)]; exact q3.2.1
        · rw [rI_sI, upd_eq, if_neg (by omega)]; exact q3.2.2.1
        · rw [rI_sI, upd_eq, if_neg (by omega)]; exact q3.2.2.2
        · rw [rI_sI, upd_eq]
          by_cases e : j = k
          · rw [if_pos (by omega), e]
          · rw [if_neg (by omega)]; exact q4 j (by omega)
  refine g_aload0 hX d_Ru_refreshWords_0 ?_
  refine g_getF hX d_Ru_refreshWords_1 fl_Ru_25 (lv_53 _) ?_
  refine g_iconst (v := nI 0) hX d_Ru_refreshWords_4 rfl ?_
  refine g_aload0 hX d_Ru_refreshWords_5 ?_
  refine g_getR hX d_Ru_refreshWords_6 fl_Ru_33 (lv_53 _) hE.1 ?_
  refine g_getF hX d_Ru_refreshWords_9 fl_Ru_100 (lv_1 _) ?_
  refine g_iconst (v := nI 0) hX d_Ru_refreshWords_12 rfl ?_
  refine g_iald hX d_Ru_refreshWords_13 (lv_8 _) rfl (by decide) ?_
  refine g_topi (hR.t 0 (by decide)) ?_
  refine g_iast hX d_Ru_refreshWords_14 (lv_68 _) rfl (by decide) ?_
  refine g_aload0 hX d_Ru_refreshWords_15 ?_
  refine g_getF hX d_Ru_refreshWords_16 fl_Ru_25 (lv_53 _) ?_
  refine g_iconst (v := nI 1) hX d_Ru_refreshWords_19 rfl ?_
  refine g_aload0 hX d_Ru_refreshWords_20 ?_
  refine g_getI hX d_Ru_refreshWords_21 fl_Ru_47 (lv_53 _) ?_
  refine g_topi (show rI (sI w 68 0 _) 53 7 = nI dn by rw [rI_sI_ne _ _ _ (by decide)]; exact hd) ?_
  refine g_iast hX d_Ru_refreshWords_24 (lv_68 _) rfl (by decide) ?_
  refine g_aload0 hX d_Ru_refreshWords_25 ?_
  refine g_getF hX d_Ru_refreshWords_26 fl_Ru_25 (lv_53 _) ?_
  refine g_iconst (v := nI 2) hX d_Ru_refreshWords_29 rfl ?_
  refine g_aload0 hX d_Ru_refreshWords_30 ?_
  refine g_getI hX d_Ru_refreshWords_31 fl_Ru_50 (lv_53 _) ?_
  refine g_topi (show rI (sI (sI w 68 0 _) 68 1 _) 53 8 = lt by rw [rI_sI_ne _ _ _ (by decide), rI_sI_ne _ _ _ (by decide)]; exact hlt) ?_
  refine g_iast hX d_Ru_refreshWords_34 (lv_68 _) rfl (by decide) ?_
  refine g_aload0 hX d_Ru_refreshWords_35 ?_
  refine g_getF hX d_Ru_refreshWords_36 fl_Ru_25 (lv_53 _) ?_
  refine g_iconst (v := nI 3) hX d_Ru_refreshWords_39 rfl ?_
  refine g_aload0 hX d_Ru_refreshWords_40 ?_
  refine g_getR hX d_Ru_refreshWords_41 fl_Ru_33 (lv_53 _) hE.1 ?_
  refine g_getI hX d_Ru_refreshWords_44 fl_Ru_103 (lv_1 _) ?_
  refine g_topi (show rI (sI (sI (sI w 68 0 _) 68 1 _) 68 2 _) 1 3 = nI (gE (sG s)).length by rw [rI_sI_ne _ _ _ (by decide), rI_sI_ne _ _ _ (by decide), rI_sI_ne _ _ _ (by decide)]; exact hR.el) ?_
  refine g_iast hX d_Ru_refreshWords_47 (lv_68 _) rfl (by decide) ?_
  refine g_iconst (v := nI 0) hX d_Ru_refreshWords_48 rfl ?_
  refine g_istore2 hX d_Ru_refreshWords_49 rfl (by decide) ?_
  refine lp 13 0 _ (by omega) ⟨fun a ha => by rw [rI_sI_ne _ _ _ ha, rI_sI_ne _ _ _ ha, rI_sI_ne _ _ _ ha, rI_sI_ne _ _ _ ha], rfl⟩ (Nat.zero_le _) ⟨?_, ?_, ?_, ?_⟩ (fun j hj => absurd hj (Nat.not_lt_zero _))
  · rw [rI_sI, upd_eq, if_neg (by decide), rI_sI, upd_eq, if_neg (by decide), rI_sI, upd_eq, if_neg (by decide), rI_sI, upd_eq, if_pos rfl]
  · rw [rI_sI, upd_eq, if_neg (by decide), rI_sI, upd_eq, if_neg (by decide), rI_sI, upd_eq, if_pos rfl]
  · rw [rI_sI, upd_eq, if_neg (by decide), rI_sI, upd_eq, if_pos rfl]
  · rw [rI_sI, upd_eq, if_pos rfl]
