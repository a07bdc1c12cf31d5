theorem ml_JSubgraphDeskLaw_13 : Cond.methodLink "SubgraphDeskLaw" 13 m_D_node.1 ∈ lw_gd := gd 600 (by decide +kernel) rfl
theorem ml_JSubgraphDeskLaw_17 : Cond.methodLink "SubgraphDeskLaw" 17 m_M_node.1 ∈ lw_gd := gd 1708 (by decide +kernel) rfl
theorem ml_JSubgraphDeskLaw_18 : Cond.methodLink "SubgraphDeskLaw" 18 m_D_vertex.1 ∈ lw_gd := gd 620 (by decide +kernel) rfl
theorem ml_JSubgraphDeskLaw_21 : Cond.methodLink "SubgraphDeskLaw" 21 m_M_vertex.1 ∈ lw_gd := gd 1713 (by decide +kernel) rfl
theorem ml_JSubgraphDeskLaw_22 : Cond.methodLink "SubgraphDeskLaw" 22 m_D_of.1 ∈ lw_gd := gd 628 (by decide +kernel) rfl
theorem ml_JSubgraphDeskLaw_26 : Cond.methodLink "SubgraphDeskLaw" 26 m_M_of.1 ∈ lw_gd := gd 1718 (by decide +kernel) rfl
theorem ml_JSubgraphDeskLaw_27 : Cond.methodLink "SubgraphDeskLaw" 27 m_D_at.1 ∈ lw_gd := gd 647 (by decide +kernel) rfl
theorem ml_JSubgraphDeskLaw_30 : Cond.methodLink "SubgraphDeskLaw" 30 m_M_at.1 ∈ lw_gd := gd 1737 (by decide +kernel) rfl
theorem ml_JSubgraphDeskLaw_31 : Cond.methodLink "SubgraphDeskLaw" 31 m_D_lay.1 ∈ lw_gd := gd 664 (by decide +kernel) rfl
theorem ml_JSubgraphDeskLaw_35 : Cond.methodLink "SubgraphDeskLaw" 35 m_M_lay.1 ∈ lw_gd := gd 1749 (by decide +kernel) rfl
theorem ml_JSubgraphDeskLaw_36 : Cond.methodLink "SubgraphDeskLaw" 36 m_D_came.1 ∈ lw_gd := gd 723 (by decide +kernel) rfl
theorem ml_JSubgraphDeskLaw_39 : Cond.methodLink "SubgraphDeskLaw" 39 m_M_came.1 ∈ lw_gd := gd 1783 (by decide +kernel) rfl
theorem ml_JSubgraphDeskLaw_40 : Cond.methodLink "SubgraphDeskLaw" 40 m_D_terms.1 ∈ lw_gd := gd 727 (by decide +kernel) rfl
theorem ml_JSubgraphDeskLaw_43 : Cond.methodLink "SubgraphDeskLaw" 43 m_M_terms.1 ∈ lw_gd := gd 1787 (by decide +kernel) rfl
theorem ml_JSubgraphDeskLaw_44 : Cond.methodLink "SubgraphDeskLaw" 44 m_D_feed.1 ∈ lw_gd := gd 734 (by decide +kernel) rfl
theorem ml_JSubgraphDeskLaw_48 : Cond.methodLink "SubgraphDeskLaw" 48 m_M_feed.1 ∈ lw_gd := gd 1817 (by decide +kernel) rfl
theorem ml_JSubgraphDeskLaw_49 : Cond.methodLink "SubgraphDeskLaw" 49 m_D_end.1 ∈ lw_gd := gd 742 (by decide +kernel) rfl
theorem ml_JSubgraphDeskLaw_52 : Cond.methodLink "SubgraphDeskLaw" 52 m_M_end.1 ∈ lw_gd := gd 1825 (by decide +kernel) rfl
theorem ml_JSubgraphDeskLaw_53 : Cond.methodLink "SubgraphDeskLaw" 53 m_D_row.1 ∈ lw_gd := gd 746 (by decide +kernel) rfl
theorem ml_JSubgraphDeskLaw_57 : Cond.methodLink "SubgraphDeskLaw" 57 m_M_row.1 ∈ lw_gd := gd 1798 (by decide +kernel) rfl
theorem ml_JSubgraphDeskLaw_58 : Cond.methodLink "SubgraphDeskLaw" 58 m_D_smudges.1 ∈ lw_gd := gd 764 (by decide +kernel) rfl
theorem ml_JSubgraphDeskLaw_61 : Cond.methodLink "SubgraphDeskLaw" 61 m_M_smudges.1 ∈ lw_gd := gd 1813 (by decide +kernel) rfl
theorem ml_JSubgraphDeskLaw_62 : Cond.methodLink "SubgraphDeskLaw" 62 m_D_law.1 ∈ lw_gd := gd 768 (by decide +kernel) rfl
theorem ml_JSubgraphDeskLaw_65 : Cond.methodLink "SubgraphDeskLaw" 65 m_M_law.1 ∈ lw_gd := gd 1833 (by decide +kernel) rfl
theorem ml_JSubgraphDeskLaw_66 : Cond.methodLink "SubgraphDeskLaw" 66 m_D_orders.1 ∈ lw_gd := gd 995 (by decide +kernel) rfl
theorem ml_JSubgraphDeskLaw_69 : Cond.methodLink "SubgraphDeskLaw" 69 m_M_orders.1 ∈ lw_gd := gd 2182 (by decide +kernel) rfl
theorem ml_JSubgraphDeskLaw_70 : Cond.methodLink "SubgraphDeskLaw" 70 m_D_fault.1 ∈ lw_gd := gd 1109 (by decide +kernel) rfl
theorem ml_JSubgraphDeskLaw_73 : Cond.methodLink "SubgraphDeskLaw" 73 m_M_fault.1 ∈ lw_gd := gd 1829 (by decide +kernel) rfl
theorem ml_JSubgraphDeskLaw_74 : Cond.methodLink "SubgraphDeskLaw" 74 m_D_stopped.1 ∈ lw_gd := gd 1113 (by decide +kernel) rfl
theorem ml_JSubgraphDeskLaw_77 : Cond.methodLink "SubgraphDeskLaw" 77 m_M_stopped.1 ∈ lw_gd := gd 2213 (by decide +kernel) rfl
theorem ml_JSubgraphDeskLaw_78 : Cond.methodLink "SubgraphDeskLaw" 78 m_D_force.1 ∈ lw_gd := gd 1117 (by decide +kernel) rfl
theorem ml_JSubgraphDeskLaw_81 : Cond.methodLink "SubgraphDeskLaw" 81 m_M_force.1 ∈ lw_gd := gd 1952 (by decide +kernel) rfl
theorem ml_JSubgraphDeskLaw_82 : Cond.methodLink "SubgraphDeskLaw" 82 m_D_edge.1 ∈ lw_gd := gd 1122 (by decide +kernel) rfl
theorem ml_JSubgraphDeskLaw_85 : Cond.methodLink "SubgraphDeskLaw" 85 m_M_edge.1 ∈ lw_gd := gd 1960 (by decide +kernel) rfl
theorem ml_JSubgraphDeskLaw_86 : Cond.methodLink "SubgraphDeskLaw" 86 m_D_link.1 ∈ lw_gd := gd 1131 (by decide +kernel) rfl
theorem ml_JSubgraphDeskLaw_89 : Cond.methodLink "SubgraphDeskLaw" 89 m_M_link.1 ∈ lw_gd := gd 1976 (by decide +kernel) rfl
theorem ml_JSubgraphDeskLaw_90 : Cond.methodLink "SubgraphDeskLaw" 90 m_D_paint.1 ∈ lw_gd := gd 1136 (by decide +kernel) rfl
theorem ml_JSubgraphDeskLaw_93 : Cond.methodLink "SubgraphDeskLaw" 93 m_M_paint.1 ∈ lw_gd := gd 1984 (by decide +kernel) rfl
theorem ml_JSubgraphDeskLaw_94 : Cond.methodLink "SubgraphDeskLaw" 94 m_D_dye.1 ∈ lw_gd := gd 1141 (by decide +kernel) rfl
theorem ml_JSubgraphDeskLaw_97 : Cond.methodLink "SubgraphDeskLaw" 97 m_M_dye.1 ∈ lw_gd := gd 1996 (by decide +kernel) rfl
theorem ml_JSubgraphDeskLaw_98 : Cond.methodLink "SubgraphDeskLaw" 98 m_D_undo.1 ∈ lw_gd := gd 1146 (by decide +kernel) rfl
theorem ml_JSubgraphDeskLaw_101 : Cond.methodLink "SubgraphDeskLaw" 101 m_M_undo.1 ∈ lw_gd := gd 1681 (by decide +kernel) rfl
theorem ml_JSubgraphDeskLaw_102 : Cond.methodLink "SubgraphDeskLaw" 102 m_D_ways.1 ∈ lw_gd := gd 1162 (by decide +kernel) rfl
theorem ml_JSubgraphDeskLaw_105 : Cond.methodLink "SubgraphDeskLaw" 105 m_M_ways.1 ∈ lw_gd := gd 2004 (by decide +kernel) rfl
theorem ml_JSubgraphDeskLaw_106 : Cond.methodLink "SubgraphDeskLaw" 106 m_D_way.1 ∈ lw_gd := gd 1172 (by decide +kernel) rfl
theorem ml_JSubgraphDeskLaw_109 : Cond.methodLink "SubgraphDeskLaw" 109 m_M_way.1 ∈ lw_gd := gd 2031 (by decide +kernel) rfl
theorem ml_JSubgraphDeskLaw_110 : Cond.methodLink "SubgraphDeskLaw" 110 m_D_once.1 ∈ lw_gd := gd 1184 (by decide +kernel) rfl
theorem ml_JSubgraphDeskLaw_113 : Cond.methodLink "SubgraphDeskLaw" 113 m_M_once.1 ∈ lw_gd := gd 2047 (by decide +kernel) rfl
theorem ml_JSubgraphDeskLaw_114 : Cond.methodLink "SubgraphDeskLaw" 114 m_D_onceWay.1 ∈ lw_gd := gd 1227 (by decide +kernel) rfl
theorem ml_JSubgraphDeskLaw_117 : Cond.methodLink "SubgraphDeskLaw" 117 m_M_onceWay.1 ∈ lw_gd := gd 2059 (by decide +kernel) rfl
theorem ml_JSubgraphDeskLaw_118 : Cond.methodLink "SubgraphDeskLaw" 118 m_D_symmetries.1 ∈ lw_gd := gd 1231 (by decide +kernel) rfl
theorem ml_JSubgraphDeskLaw_121 : Cond.methodLink "SubgraphDeskLaw" 121 m_M_symmetries.1 ∈ lw_gd := gd 2035 (by decide +kernel) rfl
theorem ml_JSubgraphDeskLaw_122 : Cond.methodLink "SubgraphDeskLaw" 122 m_D_best.1 ∈ lw_gd := gd 1235 (by decide +kernel) rfl
theorem ml_JSubgraphDeskLaw_125 : Cond.methodLink "SubgraphDeskLaw" 125 m_M_best.1 ∈ lw_gd := gd 2063 (by decide +kernel) rfl
theorem ml_JSubgraphDeskLaw_126 : Cond.methodLink "SubgraphDeskLaw" 126 m_D_candidates.1 ∈ lw_gd := gd 1269 (by decide +kernel) rfl
theorem ml_JSubgraphDeskLaw_129 : Cond.methodLink "SubgraphDeskLaw" 129 m_M_candidates.1 ∈ lw_gd := gd 2076 (by decide +kernel) rfl
theorem ml_JSubgraphDeskLaw_130 : Cond.methodLink "SubgraphDeskLaw" 130 m_D_steps.1 ∈ lw_gd := gd 1300 (by decide +kernel) rfl
theorem ml_JSubgraphDeskLaw_133 : Cond.methodLink "SubgraphDeskLaw" 133 m_M_steps.1 ∈ lw_gd := gd 2096 (by decide +kernel) rfl
theorem ml_JSubgraphDeskLaw_134 : Cond.methodLink "SubgraphDeskLaw" 134 m_D_within.1 ∈ lw_gd := gd 1331 (by decide +kernel) rfl
theorem ml_JSubgraphDeskLaw_137 : Cond.methodLink "SubgraphDeskLaw" 137 m_M_within.1 ∈ lw_gd := gd 2117 (by decide +kernel) rfl
theorem ml_JSubgraphDeskLaw_138 : Cond.methodLink "SubgraphDeskLaw" 138 m_D_kind.1 ∈ lw_gd := gd 1335 (by decide +kernel) rfl
theorem ml_JSubgraphDeskLaw_141 : Cond.methodLink "SubgraphDeskLaw" 141 m_M_kind.1 ∈ lw_gd := gd 2122 (by decide +kernel) rfl
theorem ml_JSubgraphDeskLaw_142 : Cond.methodLink "SubgraphDeskLaw" 142 m_D_sets.1 ∈ lw_gd := gd 1249 (by decide +kernel) rfl
theorem ml_JSubgraphDeskLaw_145 : Cond.methodLink "SubgraphDeskLaw" 145 m_M_sets.1 ∈ lw_gd := gd 2139 (by decide +kernel) rfl
theorem ml_JSubgraphDeskLaw_146 : Cond.methodLink "SubgraphDeskLaw" 146 m_D_touched.1 ∈ lw_gd := gd 1261 (by decide +kernel) rfl
theorem ml_JSubgraphDeskLaw_149 : Cond.methodLink "SubgraphDeskLaw" 149 m_M_touched.1 ∈ lw_gd := gd 2148 (by decide +kernel) rfl
theorem ml_JSubgraphDeskLaw_150 : Cond.methodLink "SubgraphDeskLaw" 150 m_D_seen.1 ∈ lw_gd := gd 1358 (by decide +kernel) rfl
theorem ml_JSubgraphDeskLaw_153 : Cond.methodLink "SubgraphDeskLaw" 153 m_M_seen.1 ∈ lw_gd := gd 2152 (by decide +kernel) rfl
theorem ml_JSubgraphDeskLaw_154 : Cond.methodLink "SubgraphDeskLaw" 154 m_D_forget.1 ∈ lw_gd := gd 1366 (by decide +kernel) rfl
theorem ml_JSubgraphDeskLaw_157 : Cond.methodLink "SubgraphDeskLaw" 157 m_M_forget.1 ∈ lw_gd := gd 2156 (by decide +kernel) rfl
theorem ml_JSubgraphDeskLaw_158 : Cond.methodLink "SubgraphDeskLaw" 158 m_D_fitting.1 ∈ lw_gd := gd 1370 (by decide +kernel) rfl
theorem ml_JSubgraphDeskLaw_161 : Cond.methodLink "SubgraphDeskLaw" 161 m_M_fitting.1 ∈ lw_gd := gd 2160 (by decide +kernel) rfl
theorem ml_JSubgraphDeskLaw_162 : Cond.methodLink "SubgraphDeskLaw" 162 m_D_look.1 ∈ lw_gd := gd 1382 (by decide +kernel) rfl
theorem ml_JSubgraphDeskLaw_165 : Cond.methodLink "SubgraphDeskLaw" 165 m_M_look.1 ∈ lw_gd := gd 2172 (by decide +kernel) rfl
theorem ml_JSubgraphDeskLaw_166 : Cond.methodLink "SubgraphDeskLaw" 166 m_D_few.1 ∈ lw_gd := gd 1397 (by decide +kernel) rfl
theorem ml_JSubgraphDeskLaw_170 : Cond.methodLink "SubgraphDeskLaw" 170 m_M_few.1 ∈ lw_gd := gd 2176 (by decide +kernel) rfl
theorem ml_JSubgraphDeskLaw_171 : Cond.methodLink "SubgraphDeskLaw" 171 m_D_compare.1 ∈ lw_gd := gd 1244 (by decide +kernel) rfl
theorem ml_JSubgraphDeskLaw_174 : Cond.methodLink "SubgraphDeskLaw" 174 m_M_compare.1 ∈ lw_gd := gd 2072 (by decide +kernel) rfl
theorem ml_JSubgraphDeskLaw_175 : Cond.methodLink "SubgraphDeskLaw" 175 m_D_days.1 ∈ lw_gd := gd 1407 (by decide +kernel) rfl
theorem ml_JSubgraphDeskLaw_178 : Cond.methodLink "SubgraphDeskLaw" 178 m_M_days.1 ∈ lw_gd := gd 2217 (by decide +kernel) rfl
theorem ml_JSubgraphDeskLaw_179 : Cond.methodLink "SubgraphDeskLaw" 179 m_D_drawn.1 ∈ lw_gd := gd 1424 (by decide +kernel) rfl
theorem ml_JSubgraphDeskLaw_182 : Cond.methodLink "SubgraphDeskLaw" 182 m_M_drawn.1 ∈ lw_gd := gd 2228 (by decide +kernel) rfl
theorem ml_JSubgraphDeskLaw_183 : Cond.methodLink "SubgraphDeskLaw" 183 m_D_image.1 ∈ lw_gd := gd 1428 (by decide +kernel) rfl
theorem ml_JSubgraphDeskLaw_186 : Cond.methodLink "SubgraphDeskLaw" 186 m_M_image.1 ∈ lw_gd := gd 1693 (by decide +kernel) rfl
theorem ml_JSubgraphDeskLaw_187 : Cond.methodLink "SubgraphDeskLaw" 187 m_D_back.1 ∈ lw_gd := gd 1432 (by decide +kernel) rfl
theorem ml_JSubgraphDeskLaw_190 : Cond.methodLink "SubgraphDeskLaw" 190 m_M_back.1 ∈ lw_gd := gd 1700 (by decide +kernel) rfl
theorem ml_JSubgraphDeskLaw_191 : Cond.methodLink "SubgraphDeskLaw" 191 m_D_count.1 ∈ lw_gd := gd 1436 (by decide +kernel) rfl
theorem ml_JSubgraphDeskLaw_194 : Cond.methodLink "SubgraphDeskLaw" 194 m_M_count.1 ∈ lw_gd := gd 2232 (by decide +kernel) rfl
theorem ml_JSubgraphDeskLaw_195 : Cond.methodLink "SubgraphDeskLaw" 195 m_D_status.1 ∈ lw_gd := gd 1445 (by decide +kernel) rfl
theorem ml_JSubgraphDeskLaw_198 : Cond.methodLink "SubgraphDeskLaw" 198 m_M_status.1 ∈ lw_gd := gd 2242 (by decide +kernel) rfl
theorem d_lw_16 : Dc code 16 (.iconst 0) 1 17 := ⟨by decide +kernel, rfl⟩
theorem d_lw_17 : Dc code 17 (.istore_n 3) 1 18 := ⟨by decide +kernel, rfl⟩
theorem d_lw_18 : Dc code 18 (.iload_n 3) 1 19 := ⟨by decide +kernel, rfl⟩
theorem d_lw_19 : Dc code 19 (.aload_n 0) 1 20 := ⟨by decide +kernel, rfl⟩
theorem d_lw_20 : Dc code 20 (.arraylength) 1 21 := ⟨by decide +kernel, rfl⟩
theorem d_lw_21 : Dc code 21 (.bipush 6) 2 23 := ⟨by decide +kernel, rfl⟩
theorem d_lw_23 : Dc code 23 (.isub) 1 24 := ⟨by decide +kernel, rfl⟩
theorem d_lw_24 : Dj code 24 (.if_icmp .gt 1316) 27 1316 1340 := ⟨by decide +kernel, rfl, rfl⟩
theorem d_lw_27 : Dc code 27 (.aload_n 0) 1 28 := ⟨by decide +kernel, rfl⟩
theorem d_lw_28 : Dc code 28 (.iload_n 3) 1 29 := ⟨by decide +kernel, rfl⟩
theorem d_lw_29 : Dc code 29 (.iaload) 1 30 := ⟨by decide +kernel, rfl⟩
theorem d_lw_30 : Dc code 30 (.bipush 63) 2 32 := ⟨by decide +kernel, rfl⟩
theorem d_lw_32 : Dc code 32 (.iand) 1 33 := ⟨by decide +kernel, rfl⟩
theorem d_lw_33 : Dc code 33 (.tableswitch 1301 0 44 #[195, 218, 241, 274, 307, 350, 373, 406, 469, 492, 505, 518, 531, 544, 557, 570, 593, 626, 659, 692, 725, 738, 751, 784, 797, 830, 843, 866, 899, 922, 945, 978, 1001, 1014, 1047, 1060, 1073, 1096, 1130, 1153, 1186, 1219, 1242, 1265, 1288]) 195 228 := ⟨by decide +kernel, rfl⟩
theorem d_lw_1334 : Dc code 1334 (.iinc 3 6) 3 1337 := ⟨by decide +kernel, rfl⟩
theorem d_lw_1337 : Dj code 1337 (.goto (-1319)) 1340 (-1319) 18 := ⟨by decide +kernel, rfl, rfl⟩
theorem d_lw_1340 : Dc code 1340 (.iconst 1) 1 1341 := ⟨by decide +kernel, rfl⟩
theorem d_lw_1341 : Dc code 1341 (.ireturn) 1 1342 := ⟨by decide +kernel, rfl⟩
theorem lo_0 : opsB code 228 (caseO 1 13 17 1088) = true := by decide +kernel
theorem lo_1 : opsB code 251 (caseO 1 18 21 1065) = true := by decide +kernel
theorem lo_2 : opsB code 274 (caseO 2 22 26 1032) = true := by decide +kernel
theorem lo_3 : opsB code 307 (caseO 2 27 30 999) = true := by decide +kernel
theorem lo_4 : opsB code 340 (caseO 3 31 35 956) = true := by decide +kernel
theorem lo_5 : opsB code 383 (caseO 1 36 39 933) = true := by decide +kernel
theorem lo_6 : opsB code 406 (caseO 2 40 43 900) = true := by decide +kernel
theorem lo_7 : opsB code 439 (caseO 5 44 48 837) = true := by decide +kernel
theorem lo_8 : opsB code 502 (caseO 1 49 52 814) = true := by decide +kernel
theorem lo_9 : opsB code 525 (caseO 0 53 57 801) = true := by decide +kernel
theorem lo_10 : opsB code 538 (caseO 0 58 61 788) = true := by decide +kernel
theorem lo_11 : opsB code 551 (caseO 0 62 65 775) = true := by decide +kernel
theorem lo_12 : opsB code 564 (caseO 0 66 69 762) = true := by decide +kernel
theorem lo_13 : opsB code 577 (caseO 0 70 73 749) = true := by decide +kernel
theorem lo_14 : opsB code 590 (caseO 0 74 77 736) = true := by decide +kernel
theorem lo_15 : opsB code 603 (caseO 1 78 81 713) = true := by decide +kernel
theorem lo_16 : opsB code 626 (caseO 2 82 85 680) = true := by decide +kernel
theorem lo_17 : opsB code 659 (caseO 2 86 89 647) = true := by decide +kernel
theorem lo_18 : opsB code 692 (caseO 2 90 93 614) = true := by decide +kernel
theorem lo_19 : opsB code 725 (caseO 2 94 97 581) = true := by decide +kernel
theorem lo_20 : opsB code 758 (caseO 0 98 101 568) = true := by decide +kernel
theorem lo_21 : opsB code 771 (caseO 0 102 105 555) = true := by decide +kernel
theorem lo_22 : opsB code 784 (caseO 2 106 109 522) = true := by decide +kernel
theorem lo_23 : opsB code 817 (caseO 0 110 113 509) = true := by decide +kernel
theorem lo_24 : opsB code 830 (caseO 2 114 117 476) = true := by decide +kernel
theorem lo_25 : opsB code 863 (caseO 0 118 121 463) = true := by decide +kernel
theorem lo_26 : opsB code 876 (caseO 1 122 125 440) = true := by decide +kernel
theorem lo_27 : opsB code 899 (caseO 2 126 129 407) = true := by decide +kernel
theorem lo_28 : opsB code 932 (caseO 1 130 133 384) = true := by decide +kernel
theorem lo_29 : opsB code 955 (caseO 1 134 137 361) = true := by decide +kernel
theorem lo_30 : opsB code 978 (caseO 2 138 141 328) = true := by decide +kernel
theorem lo_31 : opsB code 1011 (caseO 1 142 145 305) = true := by decide +kernel
theorem lo_32 : opsB code 1034 (caseO 0 146 149 292) = true := by decide +kernel
theorem lo_33 : opsB code 1047 (caseO 2 150 153 259) = true := by decide +kernel
theorem lo_34 : opsB code 1080 (caseO 0 154 157 246) = true := by decide +kernel
theorem lo_35 : opsB code 1093 (caseO 0 158 161 233) = true := by decide +kernel
theorem lo_36 : opsB code 1106 (caseO 1 162 165 210) = true := by decide +kernel
theorem lo_37 : opsB code 1129 (caseL 2 166 170 176) = true := by decide +kernel
theorem lo_38 : opsB code 1163 (caseO 1 171 174 153) = true := by decide +kernel
theorem lo_39 : opsB code 1186 (caseO 2 175 178 120) = true := by decide +kernel
theorem lo_40 : opsB code 1219 (caseO 2 179 182 87) = true := by decide +kernel
theorem lo_41 : opsB code 1252 (caseO 1 183 186 64) = true := by decide +kernel
theorem lo_42 : opsB code 1275 (caseO 1 187 190 41) = true := by decide +kernel
theorem lo_43 : opsB code 1298 (caseO 1 191 194 18) = true := by decide +kernel
theorem lo_44 : opsB code 1321 (caseO 0 195 198 5) = true := by decide +kernel
theorem lw_le {a i : Nat} (ha : a ≤ 4000) (hi : i ≤ 4000) (h : ¬ nI a - nI 6 < nI i) : i + 6 ≤ a := by
  have e1 := pk_sub_toInt (a := a) (b := 6) (by omega) (by decide)
  have e2 := pk_sub_toInt (a := i) (b := 0) (by omega) (by decide)
  rw [pk_sub (Nat.zero_le _), Nat.sub_zero] at e2
  rw [Int32.lt_iff_toInt_lt, e1, e2] at h
  omega
theorem lw_out {x : Int32} : x.toInt < 0 ∨ 44 < x.toInt ∨ ∃ k : Nat, k < 45 ∧ x.toInt = (k : Int) := by
  by_cases h1 : x.toInt < 0
  · exact Or.inl h1
  · by_cases h2 : 44 < x.toInt
    · exact Or.inr (Or.inl h2)
    · exact Or.inr (Or.inr ⟨x.toInt.toNat, by omega, by omega⟩)
theorem lw_loop {E : EV} {X : XT} {Ls : Nat} {fs : Nat → Int32} (h : LwX E X Ls fs) (hend : ∀ (ca sa : Nat) (L : List Value) (w : Mem), ca ≤ 600000 → sa ≤ 7302250 → G0 E X ca sa 1341 L [.int (nI 1)] w) : ∀ (fuel i : Nat) (s : SG) (w : Mem), Ls + 6 < i + fuel → i ≤ 3078 → (DInv w s ∧ MInv w s ∧ MConst w) → G0 E X (200 + i) (30000 + 60 * i) 18 [.ref 950, .ref 0, .ref 89, .int (nI i)] [] w := by
  intro fuel
  have hX := h.1
  have h3072 := h.2.2.2.2.2
  induction fuel with
  | zero =>
    intro i s w hf hi hI
    refine g_iload3 hX d_lw_18 ?_
    refine g_aload0 hX d_lw_19 ?_
    refine g_slen h d_lw_20 ?_
    refine g_bipush (v := nI 6) hX d_lw_21 rfl ?_
    refine g_isub hX d_lw_23 ?_
    refine g_icmp_gt hX d_lw_24 (fun _ => ?_) (fun c => ?_)
    · refine g_iconst (v := nI 1) hX d_lw_1340 rfl ?_
      exact hend _ _ _ _ (by omega) (by omega)
    · have := lw_le (by omega) (by omega) c
      omega
  | succ fuel ih =>
    intro i s w hf hi hI
    refine g_iload3 hX d_lw_18 ?_
    refine g_aload0 hX d_lw_19 ?_
    refine g_slen h d_lw_20 ?_
    refine g_bipush (v := nI 6) hX d_lw_21 rfl ?_
    refine g_isub hX d_lw_23 ?_
    refine g_icmp_gt hX d_lw_24 (fun _ => ?_) (fun c => ?_)
    · refine g_iconst (v := nI 1) hX d_lw_1340 rfl ?_
      exact hend _ _ _ _ (by omega) (by omega)
    have hi6 := lw_le (by omega) (by omega) c
    have kk : ∀ (s2 : SG) (w2 : Mem), (DInv w2 s2 ∧ MInv w2 s2 ∧ MConst w2) → G0 E X (200 + i + 3) (30000 + 60 * i + 356) 1334 [.ref 950, .ref 0, .ref 89, .int (nI i)] [] w2 := fun s2 w2 hI2 => by
      refine g_iinc3 (v := nI (i + 6)) hX d_lw_1334 (nI_add i 6) rfl (by decide) ?_
      refine g_goto hX d_lw_1337 ?_
      exact g_widen (by omega) (by omega) (ih (i + 6) s2 w2 (by omega) (by omega) hI2)
    refine g_aload0 hX d_lw_27 ?_
    refine g_iload3 hX d_lw_28 ?_
    refine g_sld h d_lw_29 (by omega) ?_
    refine g_bipush (v := nI 63) hX d_lw_30 rfl ?_
    refine g_iand hX d_lw_32 ?_
    generalize fs i &&& nI 63 = x
    rcases lw_out (x := x) with hx | hx | ⟨k, hk, hx⟩
    · exact g_tableOut (tgt := 1334) hX d_lw_33 (Or.inl hx) rfl (g_widen (by omega) (by omega) (kk s w hI))
    · exact g_tableOut (tgt := 1334) hX d_lw_33 (Or.inr hx) rfl (g_widen (by omega) (by omega) (kk s w hI))
    rcases (show k = 0 ∨ k = 1 ∨ k = 2 ∨ k = 3 ∨ k = 4 ∨ k = 5 ∨ k = 6 ∨ k = 7 ∨ k = 8 ∨ k = 9 ∨ k = 10 ∨ k = 11 ∨ k = 12 ∨ k = 13 ∨ k = 14 ∨ k = 15 ∨ k = 16 ∨ k = 17 ∨ k = 18 ∨ k = 19 ∨ k = 20 ∨ k = 21 ∨ k = 22 ∨ k = 23 ∨ k = 24 ∨ k = 25 ∨ k = 26 ∨ k = 27 ∨ k = 28 ∨ k = 29 ∨ k = 30 ∨ k = 31 ∨ k = 32 ∨ k = 33 ∨ k = 34 ∨ k = 35 ∨ k = 36 ∨ k = 37 ∨ k = 38 ∨ k = 39 ∨ k = 40 ∨ k = 41 ∨ k = 42 ∨ k = 43 ∨ k = 44 by omega) with rfl | rfl | rfl | rfl | rfl | rfl | rfl | rfl | rfl | rfl | rfl | rfl | rfl | rfl | rfl | rfl | rfl | rfl | rfl | rfl | rfl | rfl | rfl | rfl | rfl | rfl | rfl | rfl | rfl | rfl | rfl | rfl | rfl | rfl | rfl | rfl | rfl | rfl | rfl | rfl | rfl | rfl | rfl | rfl | rfl
    · refine g_tableIn (off := 195) (tgt := 228) hX d_lw_33 (by omega) (by omega) (by rw [hx]; rfl) rfl ?_
      exact lw_case (n := 1) (mD := m_D_node) (mM := m_M_node) (dD := 2) (mcD := 0) (msD := 0) (dM := 2) (ans := (opNode (fs (i + 1)) s).1) (s := s) (s2 := (opNode (fs (i + 1)) s).2) h (by decide) lo_0 rfl (by omega) ml_JSubgraphDeskLaw_13 ml_JSubgraphDeskLaw_17 cf_D_node cf_M_node cv_D_node cv_M_node rfl rfl hI (c_D_node (w := w) (c := fs (i + 1)) hI.1) (fun w2 hM2 hC2 => c_M_node (w := w2) (c := fs (i + 1)) hM2) (by decide) (by decide) (by decide) (by decide) (by omega) (by omega) (kk _)
    · refine g_tableIn (off := 218) (tgt := 251) hX d_lw_33 (by omega) (by omega) (by rw [hx]; rfl) rfl ?_
      exact lw_case (n := 1) (mD := m_D_vertex) (mM := m_M_vertex) (dD := 2) (mcD := 0) (msD := 0) (dM := 2) (ans := (opVertex (fs (i + 1)) s).1) (s := s) (s2 := (opVertex (fs (i + 1)) s).2) h (by decide) lo_1 rfl (by omega) ml_JSubgraphDeskLaw_18 ml_JSubgraphDeskLaw_21 cf_D_vertex cf_M_vertex cv_D_vertex cv_M_vertex rfl rfl hI (c_D_vertex (w := w) (c := fs (i + 1)) hI.1) (fun w2 hM2 hC2 => c_M_vertex (w := w2) (c := fs (i + 1)) hM2) (by decide) (by decide) (by decide) (by decide) (by omega) (by omega) (kk _)
    · refine g_tableIn (off := 241) (tgt := 274) hX d_lw_33 (by omega) (by omega) (by rw [hx]; rfl) rfl ?_
      exact lw_case (n := 2) (mD := m_D_of) (mM := m_M_of) (dD := 2) (mcD := 0) (msD := 0) (dM := 2) (ans := (opOf (fs (i + 1)) (fs (i + 2)) (sG s))) (s := s) (s2 := s) h (by decide) lo_2 rfl (by omega) ml_JSubgraphDeskLaw_22 ml_JSubgraphDeskLaw_26 cf_D_of cf_M_of cv_D_of cv_M_of rfl rfl hI (c_D_of (w := w) (x := fs (i + 1)) (what := fs (i + 2)) hI.1) (fun w2 hM2 hC2 => c_M_of (w := w2) (n := fs (i + 1)) (what := fs (i + 2)) hM2) (by decide) (by decide) (by decide) (by decide) (by omega) (by omega) (kk _)
    · refine g_tableIn (off := 274) (tgt := 307) hX d_lw_33 (by omega) (by omega) (by rw [hx]; rfl) rfl ?_
      exact lw_case (n := 2) (mD := m_D_at) (mM := m_M_at) (dD := 2) (mcD := 0) (msD := 0) (dM := 2) (ans := (opAt (fs (i + 1)) (fs (i + 2)) (sG s))) (s := s) (s2 := s) h (by decide) lo_3 rfl (by omega) ml_JSubgraphDeskLaw_27 ml_JSubgraphDeskLaw_30 cf_D_at cf_M_at cv_D_at cv_M_at rfl rfl hI (c_D_at (w := w) (x := fs (i + 1)) (what := fs (i + 2)) hI.1) (fun w2 hM2 hC2 => c_M_at (w := w2) (v := fs (i + 1)) (what := fs (i + 2)) hM2) (by decide) (by decide) (by decide) (by decide) (by omega) (by omega) (kk _)
    · refine g_tableIn (off := 307) (tgt := 340) hX d_lw_33 (by omega) (by omega) (by rw [hx]; rfl) rfl ?_
      exact lw_case (n := 3) (mD := m_D_lay) (mM := m_M_lay) (dD := 4) (mcD := 0) (msD := 0) (dM := 5) (ans := (opLay (fs (i + 1)) (fs (i + 2)) (fs (i + 3)) (sG s))) (s := s) (s2 := s) h (by decide) lo_4 rfl (by omega) ml_JSubgraphDeskLaw_31 ml_JSubgraphDeskLaw_35 cf_D_lay cf_M_lay cv_D_lay cv_M_lay rfl rfl hI (c_D_lay (w := w) (v0 := fs (i + 1)) (n0 := fs (i + 2)) (what := fs (i + 3)) hI.1) (fun w2 hM2 hC2 => c_M_lay (w := w2) (v := fs (i + 1)) (n := fs (i + 2)) (what := fs (i + 3)) hM2) (by decide) (by decide) (by decide) (by decide) (by omega) (by omega) (kk _)
    · refine g_tableIn (off := 350) (tgt := 383) hX d_lw_33 (by omega) (by omega) (by rw [hx]; rfl) rfl ?_
      exact lw_case (n := 1) (mD := m_D_came) (mM := m_M_came) (dD := 0) (mcD := 0) (msD := 0) (dM := 1) (ans := (opCame (fs (i + 1)) (sG s))) (s := s) (s2 := s) h (by decide) lo_5 rfl (by omega) ml_JSubgraphDeskLaw_36 ml_JSubgraphDeskLaw_39 cf_D_came cf_M_came cv_D_came cv_M_came rfl rfl hI (c_D_came (w := w) (x := fs (i + 1)) hI.1) (fun w2 hM2 hC2 => c_M_came (w := w2) (i := fs (i + 1)) hM2) (by decide) (by decide) (by decide) (by decide) (by omega) (by omega) (kk _)
    · refine g_tableIn (off := 373) (tgt := 406) hX d_lw_33 (by omega) (by omega) (by rw [hx]; rfl) rfl ?_
      exact lw_case (n := 2) (mD := m_D_terms) (mM := m_M_terms) (dD := 2) (mcD := 0) (msD := 0) (dM := 2) (ans := (opTerms (fs (i + 1)) (fs (i + 2)) s).1) (s := s) (s2 := (opTerms (fs (i + 1)) (fs (i + 2)) s).2) h (by decide) lo_6 rfl (by omega) ml_JSubgraphDeskLaw_40 ml_JSubgraphDeskLaw_43 cf_D_terms cf_M_terms cv_D_terms cv_M_terms rfl rfl hI (c_D_terms (w := w) (x := fs (i + 1)) (y := fs (i + 2)) hI.1) (fun w2 hM2 hC2 => c_M_terms (w := w2) (what := fs (i + 1)) (v := fs (i + 2)) hM2) (by decide) (by decide) (by decide) (by decide) (by omega) (by omega) (kk _)
    · refine g_tableIn (off := 406) (tgt := 439) hX d_lw_33 (by omega) (by omega) (by rw [hx]; rfl) rfl ?_
      exact lw_case (n := 5) (mD := m_D_feed) (mM := m_M_feed) (dD := 1) (mcD := 0) (msD := 0) (dM := 1) (ans := (opFeed (fs (i + 1)) (fs (i + 2)) (fs (i + 3)) (fs (i + 4)) (fs (i + 5)) s).1) (s := s) (s2 := (opFeed (fs (i + 1)) (fs (i + 2)) (fs (i + 3)) (fs (i + 4)) (fs (i + 5)) s).2) h (by decide) lo_7 rfl (by omega) ml_JSubgraphDeskLaw_44 ml_JSubgraphDeskLaw_48 cf_D_feed cf_M_feed cv_D_feed cv_M_feed rfl rfl hI (c_D_feed (w := w) (a := fs (i + 1)) (b := fs (i + 2)) (c := fs (i + 3)) (d := fs (i + 4)) (e := fs (i + 5)) hI.1) (fun w2 hM2 hC2 => c_M_feed (w := w2) (a := fs (i + 1)) (b := fs (i + 2)) (c := fs (i + 3)) (d := fs (i + 4)) (e := fs (i + 5)) hM2) (by decide) (by decide) (by decide) (by decide) (by omega) (by omega) (kk _)
    · refine g_tableIn (off := 469) (tgt := 502) hX d_lw_33 (by omega) (by omega) (by rw [hx]; rfl) rfl ?_
      exact lw_case (n := 1) (mD := m_D_end) (mM := m_M_end) (dD := 0) (mcD := 0) (msD := 0) (dM := 0) (ans := (opEnd (fs (i + 1)) s).1) (s := s) (s2 := (opEnd (fs (i + 1)) s).2) h (by decide) lo_8 rfl (by omega) ml_JSubgraphDeskLaw_49 ml_JSubgraphDeskLaw_52 cf_D_end cf_M_end cv_D_end cv_M_end rfl rfl hI (c_D_end (w := w) (x := fs (i + 1)) hI.1) (fun w2 hM2 hC2 => c_M_end (w := w2) (n := fs (i + 1)) hM2) (by decide) (by decide) (by decide) (by decide) (by omega) (by omega) (kk _)
    · refine g_tableIn (off := 492) (tgt := 525) hX d_lw_33 (by omega) (by omega) (by rw [hx]; rfl) rfl ?_
      exact lw_case (n := 0) (mD := m_D_row) (mM := m_M_row) (dD := 3) (mcD := 0) (msD := 0) (dM := 3) (ans := (opRow s).1) (s := s) (s2 := (opRow s).2) h (by decide) lo_9 rfl (by omega) ml_JSubgraphDeskLaw_53 ml_JSubgraphDeskLaw_57 cf_D_row cf_M_row cv_D_row cv_M_row rfl rfl hI (c_D_row (w := w)  hI.1) (fun w2 hM2 hC2 => c_M_row (w := w2)  hM2) (by decide) (by decide) (by decide) (by decide) (by omega) (by omega) (kk _)
    · refine g_tableIn (off := 505) (tgt := 538) hX d_lw_33 (by omega) (by omega) (by rw [hx]; rfl) rfl ?_
      exact lw_case (n := 0) (mD := m_D_smudges) (mM := m_M_smudges) (dD := 0) (mcD := 0) (msD := 0) (dM := 0) (ans := (sSm s)) (s := s) (s2 := s) h (by decide) lo_10 rfl (by omega) ml_JSubgraphDeskLaw_58 ml_JSubgraphDeskLaw_61 cf_D_smudges cf_M_smudges cv_D_smudges cv_M_smudges rfl rfl hI (c_D_smudges (w := w)  hI.1) (fun w2 hM2 hC2 => c_M_smudges (w := w2)  hM2) (by decide) (by decide) (by decide) (by decide) (by omega) (by omega) (kk _)
    · refine g_tableIn (off := 518) (tgt := 551) hX d_lw_33 (by omega) (by omega) (by rw [hx]; rfl) rfl ?_
      exact lw_case (n := 0) (mD := m_D_law) (mM := m_M_law) (dD := 90) (mcD := 3) (msD := 356) (dM := 8) (ans := (opLaw s).1) (s := s) (s2 := (opLaw s).2) h (by decide) lo_11 rfl (by omega) ml_JSubgraphDeskLaw_62 ml_JSubgraphDeskLaw_65 cf_D_law cf_M_law cv_D_law cv_M_law rfl rfl hI (c_D_law (w := w)  hI.1) (fun w2 hM2 hC2 => c_M_law (w := w2)  hM2 hC2) (by decide) (by decide) (by decide) (by decide) (by omega) (by omega) (kk _)
    · refine g_tableIn (off := 531) (tgt := 564) hX d_lw_33 (by omega) (by omega) (by rw [hx]; rfl) rfl ?_
      exact lw_case (n := 0) (mD := m_D_orders) (mM := m_M_orders) (dD := 90) (mcD := 0) (msD := 0) (dM := 9) (ans := (opOrders s).1) (s := s) (s2 := (opOrders s).2) h (by decide) lo_12 rfl (by omega) ml_JSubgraphDeskLaw_66 ml_JSubgraphDeskLaw_69 cf_D_orders cf_M_orders cv_D_orders cv_M_orders rfl rfl hI (c_D_orders (w := w)  hI.1) (fun w2 hM2 hC2 => c_M_orders (w := w2)  hM2 hC2) (by decide) (by decide) (by decide) (by decide) (by omega) (by omega) (kk _)
    · refine g_tableIn (off := 544) (tgt := 577) hX d_lw_33 (by omega) (by omega) (by rw [hx]; rfl) rfl ?_
      exact lw_case (n := 0) (mD := m_D_fault) (mM := m_M_fault) (dD := 0) (mcD := 0) (msD := 0) (dM := 0) (ans := (sFa s)) (s := s) (s2 := s) h (by decide) lo_13 rfl (by omega) ml_JSubgraphDeskLaw_70 ml_JSubgraphDeskLaw_73 cf_D_fault cf_M_fault cv_D_fault cv_M_fault rfl rfl hI (c_D_fault (w := w)  hI.1) (fun w2 hM2 hC2 => c_M_fault (w := w2)  hM2) (by decide) (by decide) (by decide) (by decide) (by omega) (by omega) (kk _)
    · refine g_tableIn (off := 557) (tgt := 590) hX d_lw_33 (by omega) (by omega) (by rw [hx]; rfl) rfl ?_
      exact lw_case (n := 0) (mD := m_D_stopped) (mM := m_M_stopped) (dD := 0) (mcD := 0) (msD := 0) (dM := 0) (ans := (sSp s)) (s := s) (s2 := s) h (by decide) lo_14 rfl (by omega) ml_JSubgraphDeskLaw_74 ml_JSubgraphDeskLaw_77 cf_D_stopped cf_M_stopped cv_D_stopped cv_M_stopped rfl rfl hI (c_D_stopped (w := w)  hI.1) (fun w2 hM2 hC2 => c_M_stopped (w := w2)  hM2) (by decide) (by decide) (by decide) (by decide) (by omega) (by omega) (kk _)
    · refine g_tableIn (off := 570) (tgt := 603) hX d_lw_33 (by omega) (by omega) (by rw [hx]; rfl) rfl ?_
      exact lw_case (n := 1) (mD := m_D_force) (mM := m_M_force) (dD := 1) (mcD := 0) (msD := 0) (dM := 2) (ans := (opForce (fs (i + 1)) s).1) (s := s) (s2 := (opForce (fs (i + 1)) s).2) h (by decide) lo_15 rfl (by omega) ml_JSubgraphDeskLaw_78 ml_JSubgraphDeskLaw_81 cf_D_force cf_M_force cv_D_force cv_M_force rfl rfl hI (c_D_force (w := w) (x := fs (i + 1)) hI.1) (fun w2 hM2 hC2 => c_M_force (w := w2) (x := fs (i + 1)) hM2) (by decide) (by decide) (by decide) (by decide) (by omega) (by omega) (kk _)
    · refine g_tableIn (off := 593) (tgt := 626) hX d_lw_33 (by omega) (by omega) (by rw [hx]; rfl) rfl ?_
      exact lw_case (n := 2) (mD := m_D_edge) (mM := m_M_edge) (dD := 4) (mcD := 0) (msD := 0) (dM := 4) (ans := (byAct (aEdge (fs (i + 1)) (fs (i + 2)) (sG s) (sU s)) s).1) (s := s) (s2 := (byAct (aEdge (fs (i + 1)) (fs (i + 2)) (sG s) (sU s)) s).2) h (by decide) lo_16 rfl (by omega) ml_JSubgraphDeskLaw_82 ml_JSubgraphDeskLaw_85 cf_D_edge cf_M_edge cv_D_edge cv_M_edge rfl rfl hI (c_D_edge (w := w) (x := fs (i + 1)) (y := fs (i + 2)) hI.1) (fun w2 hM2 hC2 => c_M_edge (w := w2) (x := fs (i + 1)) (y := fs (i + 2)) hM2) (by decide) (by decide) (by decide) (by decide) (by omega) (by omega) (kk _)
    · refine g_tableIn (off := 626) (tgt := 659) hX d_lw_33 (by omega) (by omega) (by rw [hx]; rfl) rfl ?_
      exact lw_case (n := 2) (mD := m_D_link) (mM := m_M_link) (dD := 4) (mcD := 0) (msD := 0) (dM := 4) (ans := (byAct (aLink (fs (i + 1)) (fs (i + 2)) (sG s) (sU s)) s).1) (s := s) (s2 := (byAct (aLink (fs (i + 1)) (fs (i + 2)) (sG s) (sU s)) s).2) h (by decide) lo_17 rfl (by omega) ml_JSubgraphDeskLaw_86 ml_JSubgraphDeskLaw_89 cf_D_link cf_M_link cv_D_link cv_M_link rfl rfl hI (c_D_link (w := w) (x := fs (i + 1)) (y := fs (i + 2)) hI.1) (fun w2 hM2 hC2 => c_M_link (w := w2) (x := fs (i + 1)) (y := fs (i + 2)) hM2) (by decide) (by decide) (by decide) (by decide) (by omega) (by omega) (kk _)
    · refine g_tableIn (off := 659) (tgt := 692) hX d_lw_33 (by omega) (by omega) (by rw [hx]; rfl) rfl ?_
      exact lw_case (n := 2) (mD := m_D_paint) (mM := m_M_paint) (dD := 4) (mcD := 0) (msD := 0) (dM := 4) (ans := (byAct (aPaint (fs (i + 1)) (fs (i + 2)) (sG s) (sU s)) s).1) (s := s) (s2 := (byAct (aPaint (fs (i + 1)) (fs (i + 2)) (sG s) (sU s)) s).2) h (by decide) lo_18 rfl (by omega) ml_JSubgraphDeskLaw_90 ml_JSubgraphDeskLaw_93 cf_D_paint cf_M_paint cv_D_paint cv_M_paint rfl rfl hI (c_D_paint (w := w) (x := fs (i + 1)) (y := fs (i + 2)) hI.1) (fun w2 hM2 hC2 => c_M_paint (w := w2) (x := fs (i + 1)) (y := fs (i + 2)) hM2) (by decide) (by decide) (by decide) (by decide) (by omega) (by omega) (kk _)
    · refine g_tableIn (off := 692) (tgt := 725) hX d_lw_33 (by omega) (by omega) (by rw [hx]; rfl) rfl ?_
      exact lw_case (n := 2) (mD := m_D_dye) (mM := m_M_dye) (dD := 4) (mcD := 0) (msD := 0) (dM := 4) (ans := (byAct (aDye (fs (i + 1)) (fs (i + 2)) (sG s) (sU s)) s).1) (s := s) (s2 := (byAct (aDye (fs (i + 1)) (fs (i + 2)) (sG s) (sU s)) s).2) h (by decide) lo_19 rfl (by omega) ml_JSubgraphDeskLaw_94 ml_JSubgraphDeskLaw_97 cf_D_dye cf_M_dye cv_D_dye cv_M_dye rfl rfl hI (c_D_dye (w := w) (x := fs (i + 1)) (y := fs (i + 2)) hI.1) (fun w2 hM2 hC2 => c_M_dye (w := w2) (x := fs (i + 1)) (y := fs (i + 2)) hM2) (by decide) (by decide) (by decide) (by decide) (by omega) (by omega) (kk _)
    · refine g_tableIn (off := 725) (tgt := 758) hX d_lw_33 (by omega) (by omega) (by rw [hx]; rfl) rfl ?_
      exact lw_case (n := 0) (mD := m_D_undo) (mM := m_M_undo) (dD := 4) (mcD := 0) (msD := 0) (dM := 1) (ans := (opUndo s).1) (s := s) (s2 := (opUndo s).2) h (by decide) lo_20 rfl (by omega) ml_JSubgraphDeskLaw_98 ml_JSubgraphDeskLaw_101 cf_D_undo cf_M_undo cv_D_undo cv_M_undo rfl rfl hI (c_D_undo (w := w)  hI.1) (fun w2 hM2 hC2 => c_M_undo (w := w2)  hM2) (by decide) (by decide) (by decide) (by decide) (by omega) (by omega) (kk _)
    · refine g_tableIn (off := 738) (tgt := 771) hX d_lw_33 (by omega) (by omega) (by rw [hx]; rfl) rfl ?_
      exact lw_case (n := 0) (mD := m_D_ways) (mM := m_M_ways) (dD := 5) (mcD := 0) (msD := 0) (dM := 8) (ans := (opWays (sG s))) (s := s) (s2 := s) h (by decide) lo_21 rfl (by omega) ml_JSubgraphDeskLaw_102 ml_JSubgraphDeskLaw_105 cf_D_ways cf_M_ways cv_D_ways cv_M_ways rfl rfl hI (c_D_ways (w := w)  hI.1) (fun w2 hM2 hC2 => c_M_ways (w := w2)  hM2) (by decide) (by decide) (by decide) (by decide) (by omega) (by omega) (kk _)
    · refine g_tableIn (off := 751) (tgt := 784) hX d_lw_33 (by omega) (by omega) (by rw [hx]; rfl) rfl ?_
      exact lw_case (n := 2) (mD := m_D_way) (mM := m_M_way) (dD := 5) (mcD := 0) (msD := 0) (dM := 8) (ans := (opWay (fs (i + 1)) (fs (i + 2)) (sG s))) (s := s) (s2 := s) h (by decide) lo_22 rfl (by omega) ml_JSubgraphDeskLaw_106 ml_JSubgraphDeskLaw_109 cf_D_way cf_M_way cv_D_way cv_M_way rfl rfl hI (c_D_way (w := w) (k := fs (i + 1)) (v := fs (i + 2)) hI.1) (fun w2 hM2 hC2 => c_M_way (w := w2) (k := fs (i + 1)) (v := fs (i + 2)) hM2) (by decide) (by decide) (by decide) (by decide) (by omega) (by omega) (kk _)
    · refine g_tableIn (off := 784) (tgt := 817) hX d_lw_33 (by omega) (by omega) (by rw [hx]; rfl) rfl ?_
      exact lw_case (n := 0) (mD := m_D_once) (mM := m_M_once) (dD := 16) (mcD := 0) (msD := 0) (dM := 8) (ans := (opOnce (sG s))) (s := s) (s2 := s) h (by decide) lo_23 rfl (by omega) ml_JSubgraphDeskLaw_110 ml_JSubgraphDeskLaw_113 cf_D_once cf_M_once cv_D_once cv_M_once rfl rfl hI (c_D_once (w := w)  hI.1) (fun w2 hM2 hC2 => c_M_once (w := w2)  hM2) (by decide) (by decide) (by decide) (by decide) (by omega) (by omega) (kk _)
    · refine g_tableIn (off := 797) (tgt := 830) hX d_lw_33 (by omega) (by omega) (by rw [hx]; rfl) rfl ?_
      exact lw_case (n := 2) (mD := m_D_onceWay) (mM := m_M_onceWay) (dD := 16) (mcD := 0) (msD := 0) (dM := 8) (ans := (opOnceWay (fs (i + 1)) (fs (i + 2)) (sG s))) (s := s) (s2 := s) h (by decide) lo_24 rfl (by omega) ml_JSubgraphDeskLaw_114 ml_JSubgraphDeskLaw_117 cf_D_onceWay cf_M_onceWay cv_D_onceWay cv_M_onceWay rfl rfl hI (c_D_onceWay (w := w) (k := fs (i + 1)) (v := fs (i + 2)) hI.1) (fun w2 hM2 hC2 => c_M_onceWay (w := w2) (k := fs (i + 1)) (v := fs (i + 2)) hM2) (by decide) (by decide) (by decide) (by decide) (by omega) (by omega) (kk _)
    · refine g_tableIn (off := 830) (tgt := 863) hX d_lw_33 (by omega) (by omega) (by rw [hx]; rfl) rfl ?_
      exact lw_case (n := 0) (mD := m_D_symmetries) (mM := m_M_symmetries) (dD := 15) (mcD := 0) (msD := 0) (dM := 8) (ans := (opSymm (sG s))) (s := s) (s2 := s) h (by decide) lo_25 rfl (by omega) ml_JSubgraphDeskLaw_118 ml_JSubgraphDeskLaw_121 cf_D_symmetries cf_M_symmetries cv_D_symmetries cv_M_symmetries rfl rfl hI (c_D_symmetries (w := w)  hI.1) (fun w2 hM2 hC2 => c_M_symmetries (w := w2)  hM2) (by decide) (by decide) (by decide) (by decide) (by omega) (by omega) (kk _)
    · refine g_tableIn (off := 843) (tgt := 876) hX d_lw_33 (by omega) (by omega) (by rw [hx]; rfl) rfl ?_
      exact lw_case (n := 1) (mD := m_D_best) (mM := m_M_best) (dD := 6) (mcD := 0) (msD := 0) (dM := 8) (ans := (opBest (fs (i + 1)) (sG s))) (s := s) (s2 := s) h (by decide) lo_26 rfl (by omega) ml_JSubgraphDeskLaw_122 ml_JSubgraphDeskLaw_125 cf_D_best cf_M_best cv_D_best cv_M_best rfl rfl hI (c_D_best (w := w) (v := fs (i + 1)) hI.1) (fun w2 hM2 hC2 => c_M_best (w := w2) (v := fs (i + 1)) hM2) (by decide) (by decide) (by decide) (by decide) (by omega) (by omega) (kk _)
    · refine g_tableIn (off := 866) (tgt := 899) hX d_lw_33 (by omega) (by omega) (by rw [hx]; rfl) rfl ?_
      exact lw_case (n := 2) (mD := m_D_candidates) (mM := m_M_candidates) (dD := 5) (mcD := 0) (msD := 0) (dM := 8) (ans := (opCand (fs (i + 1)) (fs (i + 2)) (sG s))) (s := s) (s2 := s) h (by decide) lo_27 rfl (by omega) ml_JSubgraphDeskLaw_126 ml_JSubgraphDeskLaw_129 cf_D_candidates cf_M_candidates cv_D_candidates cv_M_candidates rfl rfl hI (c_D_candidates (w := w) (v := fs (i + 1)) (y := fs (i + 2)) hI.1) (fun w2 hM2 hC2 => c_M_candidates (w := w2) (v := fs (i + 1)) (n := fs (i + 2)) hM2) (by decide) (by decide) (by decide) (by decide) (by omega) (by omega) (kk _)
    · refine g_tableIn (off := 899) (tgt := 932) hX d_lw_33 (by omega) (by omega) (by rw [hx]; rfl) rfl ?_
      exact lw_case (n := 1) (mD := m_D_steps) (mM := m_M_steps) (dD := 14) (mcD := 0) (msD := 0) (dM := 8) (ans := (opSteps (fs (i + 1)) (sG s))) (s := s) (s2 := s) h (by decide) lo_28 rfl (by omega) ml_JSubgraphDeskLaw_130 ml_JSubgraphDeskLaw_133 cf_D_steps cf_M_steps cv_D_steps cv_M_steps rfl rfl hI (c_D_steps (w := w) (x := fs (i + 1)) hI.1) (fun w2 hM2 hC2 => c_M_steps (w := w2) (x := fs (i + 1)) hM2) (by decide) (by decide) (by decide) (by decide) (by omega) (by omega) (kk _)
    · refine g_tableIn (off := 922) (tgt := 955) hX d_lw_33 (by omega) (by omega) (by rw [hx]; rfl) rfl ?_
      exact lw_case (n := 1) (mD := m_D_within) (mM := m_M_within) (dD := 14) (mcD := 0) (msD := 0) (dM := 8) (ans := (opWithin (fs (i + 1)) (sG s))) (s := s) (s2 := s) h (by decide) lo_29 rfl (by omega) ml_JSubgraphDeskLaw_134 ml_JSubgraphDeskLaw_137 cf_D_within cf_M_within cv_D_within cv_M_within rfl rfl hI (c_D_within (w := w) (x := fs (i + 1)) hI.1) (fun w2 hM2 hC2 => c_M_within (w := w2) (x := fs (i + 1)) hM2) (by decide) (by decide) (by decide) (by decide) (by omega) (by omega) (kk _)
    · refine g_tableIn (off := 945) (tgt := 978) hX d_lw_33 (by omega) (by omega) (by rw [hx]; rfl) rfl ?_
      exact lw_case (n := 2) (mD := m_D_kind) (mM := m_M_kind) (dD := 3) (mcD := 0) (msD := 0) (dM := 8) (ans := (opKind (fs (i + 1)) (fs (i + 2)) (sG s))) (s := s) (s2 := s) h (by decide) lo_30 rfl (by omega) ml_JSubgraphDeskLaw_138 ml_JSubgraphDeskLaw_141 cf_D_kind cf_M_kind cv_D_kind cv_M_kind rfl rfl hI (c_D_kind (w := w) (x := fs (i + 1)) (y := fs (i + 2)) hI.1) (fun w2 hM2 hC2 => c_M_kind (w := w2) (x := fs (i + 1)) (y := fs (i + 2)) hM2) (by decide) (by decide) (by decide) (by decide) (by omega) (by omega) (kk _)
    · refine g_tableIn (off := 978) (tgt := 1011) hX d_lw_33 (by omega) (by omega) (by rw [hx]; rfl) rfl ?_
      exact lw_case (n := 1) (mD := m_D_sets) (mM := m_M_sets) (dD := 6) (mcD := 0) (msD := 0) (dM := 8) (ans := (opSets (fs (i + 1)) (sG s))) (s := s) (s2 := s) h (by decide) lo_31 rfl (by omega) ml_JSubgraphDeskLaw_142 ml_JSubgraphDeskLaw_145 cf_D_sets cf_M_sets cv_D_sets cv_M_sets rfl rfl hI (c_D_sets (w := w) (x := fs (i + 1)) hI.1) (fun w2 hM2 hC2 => c_M_sets (w := w2) (n := fs (i + 1)) hM2) (by decide) (by decide) (by decide) (by decide) (by omega) (by omega) (kk _)
    · refine g_tableIn (off := 1001) (tgt := 1034) hX d_lw_33 (by omega) (by omega) (by rw [hx]; rfl) rfl ?_
      exact lw_case (n := 0) (mD := m_D_touched) (mM := m_M_touched) (dD := 6) (mcD := 0) (msD := 0) (dM := 8) (ans := (opTouched (sG s))) (s := s) (s2 := s) h (by decide) lo_32 rfl (by omega) ml_JSubgraphDeskLaw_146 ml_JSubgraphDeskLaw_149 cf_D_touched cf_M_touched cv_D_touched cv_M_touched rfl rfl hI (c_D_touched (w := w)  hI.1) (fun w2 hM2 hC2 => c_M_touched (w := w2)  hM2) (by decide) (by decide) (by decide) (by decide) (by omega) (by omega) (kk _)
    · refine g_tableIn (off := 1014) (tgt := 1047) hX d_lw_33 (by omega) (by omega) (by rw [hx]; rfl) rfl ?_
      exact lw_case (n := 2) (mD := m_D_seen) (mM := m_M_seen) (dD := 2) (mcD := 0) (msD := 0) (dM := 2) (ans := (opSeen (fs (i + 1)) (fs (i + 2)) s).1) (s := s) (s2 := (opSeen (fs (i + 1)) (fs (i + 2)) s).2) h (by decide) lo_33 rfl (by omega) ml_JSubgraphDeskLaw_150 ml_JSubgraphDeskLaw_153 cf_D_seen cf_M_seen cv_D_seen cv_M_seen rfl rfl hI (c_D_seen (w := w) (x := fs (i + 1)) (y := fs (i + 2)) hI.1) (fun w2 hM2 hC2 => c_M_seen (w := w2) (v := fs (i + 1)) (n := fs (i + 2)) hM2) (by decide) (by decide) (by decide) (by decide) (by omega) (by omega) (kk _)
    · refine g_tableIn (off := 1047) (tgt := 1080) hX d_lw_33 (by omega) (by omega) (by rw [hx]; rfl) rfl ?_
      exact lw_case (n := 0) (mD := m_D_forget) (mM := m_M_forget) (dD := 0) (mcD := 0) (msD := 0) (dM := 0) (ans := (opForget s).1) (s := s) (s2 := (opForget s).2) h (by decide) lo_34 rfl (by omega) ml_JSubgraphDeskLaw_154 ml_JSubgraphDeskLaw_157 cf_D_forget cf_M_forget cv_D_forget cv_M_forget rfl rfl hI (c_D_forget (w := w)  hI.1) (fun w2 hM2 hC2 => c_M_forget (w := w2)  hM2) (by decide) (by decide) (by decide) (by decide) (by omega) (by omega) (kk _)
    · refine g_tableIn (off := 1060) (tgt := 1093) hX d_lw_33 (by omega) (by omega) (by rw [hx]; rfl) rfl ?_
      exact lw_case (n := 0) (mD := m_D_fitting) (mM := m_M_fitting) (dD := 5) (mcD := 0) (msD := 0) (dM := 8) (ans := (opFitting (sG s))) (s := s) (s2 := s) h (by decide) lo_35 rfl (by omega) ml_JSubgraphDeskLaw_158 ml_JSubgraphDeskLaw_161 cf_D_fitting cf_M_fitting cv_D_fitting cv_M_fitting rfl rfl hI (c_D_fitting (w := w)  hI.1) (fun w2 hM2 hC2 => c_M_fitting (w := w2)  hM2) (by decide) (by decide) (by decide) (by decide) (by omega) (by omega) (kk _)
    · refine g_tableIn (off := 1073) (tgt := 1106) hX d_lw_33 (by omega) (by omega) (by rw [hx]; rfl) rfl ?_
      exact lw_case (n := 1) (mD := m_D_look) (mM := m_M_look) (dD := 6) (mcD := 0) (msD := 0) (dM := 8) (ans := (opLook (fs (i + 1)) (sG s))) (s := s) (s2 := s) h (by decide) lo_36 rfl (by omega) ml_JSubgraphDeskLaw_162 ml_JSubgraphDeskLaw_165 cf_D_look cf_M_look cv_D_look cv_M_look rfl rfl hI (c_D_look (w := w) (x := fs (i + 1)) hI.1) (fun w2 hM2 hC2 => c_M_look (w := w2) (x := fs (i + 1)) hM2) (by decide) (by decide) (by decide) (by decide) (by omega) (by omega) (kk _)
    · refine g_tableIn (off := 1096) (tgt := 1129) hX d_lw_33 (by omega) (by omega) (by rw [hx]; rfl) rfl ?_
      exact lw_caseL (n := 2) (mD := m_D_few) (mM := m_M_few) (dD := 2) (mcD := 0) (msD := 0) (dM := 2) (ans := (opFew (fs (i + 1)) (fs (i + 2)) (sG s))) (s := s) (s2 := s) h (by decide) lo_37 rfl (by omega) ml_JSubgraphDeskLaw_166 ml_JSubgraphDeskLaw_170 cf_D_few cf_M_few cv_D_few cv_M_few rfl rfl hI (c_D_few (w := w) (k := fs (i + 1)) (n := fs (i + 2)) hI.1) (fun w2 hM2 hC2 => c_M_few (w := w2) (k := fs (i + 1)) (n := fs (i + 2)) hM2) (by decide) (by decide) (by decide) (by decide) (by omega) (by omega) (kk _)
    · refine g_tableIn (off := 1130) (tgt := 1163) hX d_lw_33 (by omega) (by omega) (by rw [hx]; rfl) rfl ?_
      exact lw_case (n := 1) (mD := m_D_compare) (mM := m_M_compare) (dD := 6) (mcD := 0) (msD := 0) (dM := 8) (ans := (opCompare (fs (i + 1)) (sG s))) (s := s) (s2 := s) h (by decide) lo_38 rfl (by omega) ml_JSubgraphDeskLaw_171 ml_JSubgraphDeskLaw_174 cf_D_compare cf_M_compare cv_D_compare cv_M_compare rfl rfl hI (c_D_compare (w := w) (v := fs (i + 1)) hI.1) (fun w2 hM2 hC2 => c_M_compare (w := w2) (a := fs (i + 1)) hM2) (by decide) (by decide) (by decide) (by decide) (by omega) (by omega) (kk _)
    · refine g_tableIn (off := 1153) (tgt := 1186) hX d_lw_33 (by omega) (by omega) (by rw [hx]; rfl) rfl ?_
      exact lw_case (n := 2) (mD := m_D_days) (mM := m_M_days) (dD := 4) (mcD := 0) (msD := 0) (dM := 4) (ans := (opDays (fs (i + 1)) (fs (i + 2)) s).1) (s := s) (s2 := (opDays (fs (i + 1)) (fs (i + 2)) s).2) h (by decide) lo_39 rfl (by omega) ml_JSubgraphDeskLaw_175 ml_JSubgraphDeskLaw_178 cf_D_days cf_M_days cv_D_days cv_M_days rfl rfl hI (c_D_days (w := w) (a := fs (i + 1)) (n := fs (i + 2)) hI.1) (fun w2 hM2 hC2 => c_M_days (w := w2) (a := fs (i + 1)) (n := fs (i + 2)) hM2) (by decide) (by decide) (by decide) (by decide) (by omega) (by omega) (kk _)
    · refine g_tableIn (off := 1186) (tgt := 1219) hX d_lw_33 (by omega) (by omega) (by rw [hx]; rfl) rfl ?_
      exact lw_case (n := 2) (mD := m_D_drawn) (mM := m_M_drawn) (dD := 1) (mcD := 0) (msD := 0) (dM := 1) (ans := (opDrawn (fs (i + 1)) (fs (i + 2)) s)) (s := s) (s2 := s) h (by decide) lo_40 rfl (by omega) ml_JSubgraphDeskLaw_179 ml_JSubgraphDeskLaw_182 cf_D_drawn cf_M_drawn cv_D_drawn cv_M_drawn rfl rfl hI (c_D_drawn (w := w) (x := fs (i + 1)) (what := fs (i + 2)) hI.1) (fun w2 hM2 hC2 => c_M_drawn (w := w2) (n := fs (i + 1)) (what := fs (i + 2)) hM2) (by decide) (by decide) (by decide) (by decide) (by omega) (by omega) (kk _)
    · refine g_tableIn (off := 1219) (tgt := 1252) hX d_lw_33 (by omega) (by omega) (by rw [hx]; rfl) rfl ?_
      exact lw_case (n := 1) (mD := m_D_image) (mM := m_M_image) (dD := 2) (mcD := 0) (msD := 0) (dM := 1) (ans := (opImage (fs (i + 1)) s).1) (s := s) (s2 := (opImage (fs (i + 1)) s).2) h (by decide) lo_41 rfl (by omega) ml_JSubgraphDeskLaw_183 ml_JSubgraphDeskLaw_186 cf_D_image cf_M_image cv_D_image cv_M_image rfl rfl hI (c_D_image (w := w) (k := fs (i + 1)) hI.1) (fun w2 hM2 hC2 => c_M_image (w := w2) (k := fs (i + 1)) hM2) (by decide) (by decide) (by decide) (by decide) (by omega) (by omega) (kk _)
    · refine g_tableIn (off := 1242) (tgt := 1275) hX d_lw_33 (by omega) (by omega) (by rw [hx]; rfl) rfl ?_
      exact lw_case (n := 1) (mD := m_D_back) (mM := m_M_back) (dD := 2) (mcD := 0) (msD := 0) (dM := 2) (ans := (opBack (fs (i + 1)) s).1) (s := s) (s2 := (opBack (fs (i + 1)) s).2) h (by decide) lo_42 rfl (by omega) ml_JSubgraphDeskLaw_187 ml_JSubgraphDeskLaw_190 cf_D_back cf_M_back cv_D_back cv_M_back rfl rfl hI (c_D_back (w := w) (k := fs (i + 1)) hI.1) (fun w2 hM2 hC2 => c_M_back (w := w2) (k := fs (i + 1)) hM2) (by decide) (by decide) (by decide) (by decide) (by omega) (by omega) (kk _)
    · refine g_tableIn (off := 1265) (tgt := 1298) hX d_lw_33 (by omega) (by omega) (by rw [hx]; rfl) rfl ?_
      exact lw_case (n := 1) (mD := m_D_count) (mM := m_M_count) (dD := 3) (mcD := 0) (msD := 0) (dM := 2) (ans := (opCount (fs (i + 1)) s)) (s := s) (s2 := s) h (by decide) lo_43 rfl (by omega) ml_JSubgraphDeskLaw_191 ml_JSubgraphDeskLaw_194 cf_D_count cf_M_count cv_D_count cv_M_count rfl rfl hI (c_D_count (w := w) (what := fs (i + 1)) hI.1) (fun w2 hM2 hC2 => c_M_count (w := w2) (what := fs (i + 1)) hM2) (by decide) (by decide) (by decide) (by decide) (by omega) (by omega) (kk _)
    · refine g_tableIn (off := 1288) (tgt := 1321) hX d_lw_33 (by omega) (by omega) (by rw [hx]; rfl) rfl ?_
      exact lw_case (n := 0) (mD := m_D_status) (mM := m_M_status) (dD := 0) (mcD := 0) (msD := 0) (dM := 0) (ans := (sSt s)) (s := s) (s2 := s) h (by decide) lo_44 rfl (by omega) ml_JSubgraphDeskLaw_195 ml_JSubgraphDeskLaw_198 cf_D_status cf_M_status cv_D_status cv_M_status rfl rfl hI (c_D_status (w := w)  hI.1) (fun w2 hM2 hC2 => c_M_status (w := w2)  hM2) (by decide) (by decide) (by decide) (by decide) (by omega) (by omega) (kk _)
