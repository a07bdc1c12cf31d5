def m_D_candidates : MR := (⟨"SubgraphDesk", "candidates", "(II)I"⟩, prog_1_method_40_code, 3, (some .int))
theorem cf_D_candidates : CF m_D_candidates 2 := ⟨gd 1272 (by decide +kernel) rfl, gd 139 (by decide +kernel) rfl, by decide +kernel, by decide, by decide +kernel⟩
theorem cv_D_candidates : CV m_D_candidates := ⟨gd 1270 (by decide +kernel) rfl, gd 1271 (by decide +kernel) rfl⟩
def m_D_sift : MR := (⟨"SubgraphDesk", "sift", "(I)V"⟩, prog_1_method_39_code, 2, none)
theorem cf_D_sift : CF m_D_sift 1 := ⟨gd 1276 (by decide +kernel) rfl, gd 139 (by decide +kernel) rfl, by decide +kernel, by decide, by decide +kernel⟩
theorem cv_D_sift : CV m_D_sift := ⟨gd 1275 (by decide +kernel) rfl, gd 44 (by decide +kernel) rfl⟩
def m_Si_sift : MR := (⟨"SubgraphDesk$Sieve", "sift", "(LSubgraphDesk$Board;[II)V"⟩, prog_10_method_2_code, 7, none)
theorem cf_Si_sift : CF m_Si_sift 3 := ⟨gd 1280 (by decide +kernel) rfl, gd 147 (by decide +kernel) rfl, by decide +kernel, by decide, by decide +kernel⟩
theorem cv_Si_sift : CV m_Si_sift := ⟨gd 1278 (by decide +kernel) rfl, gd 1279 (by decide +kernel) rfl⟩
theorem d_D_candidates_0 : Dc prog_1_method_40_code 0 (.aload_n 0) 1 1 := ⟨by decide +kernel, rfl⟩
theorem d_D_candidates_1 : Dc prog_1_method_40_code 1 (.getfield 10) 3 4 := ⟨by decide +kernel, rfl⟩
theorem d_D_candidates_4 : Dc prog_1_method_40_code 4 (.iload_n 1) 1 5 := ⟨by decide +kernel, rfl⟩
theorem d_D_candidates_5 : Dc prog_1_method_40_code 5 (.invokevirtual 126) 3 8 := ⟨by decide +kernel, rfl⟩
theorem d_D_candidates_8 : Dj prog_1_method_40_code 8 (.ifCond .eq 13) 11 13 21 := ⟨by decide +kernel, rfl, rfl⟩
theorem d_D_candidates_11 : Dc prog_1_method_40_code 11 (.iload_n 2) 1 12 := ⟨by decide +kernel, rfl⟩
theorem d_D_candidates_12 : Dj prog_1_method_40_code 12 (.ifCond .lt 9) 15 9 21 := ⟨by decide +kernel, rfl, rfl⟩
theorem d_D_candidates_15 : Dc prog_1_method_40_code 15 (.iload_n 2) 1 16 := ⟨by decide +kernel, rfl⟩
theorem d_D_candidates_16 : Dc prog_1_method_40_code 16 (.bipush 9) 2 18 := ⟨by decide +kernel, rfl⟩
theorem d_D_candidates_18 : Dj prog_1_method_40_code 18 (.if_icmp .le 5) 21 5 23 := ⟨by decide +kernel, rfl, rfl⟩
theorem d_D_candidates_21 : Dc prog_1_method_40_code 21 (.iconst (-1)) 1 22 := ⟨by decide +kernel, rfl⟩
theorem d_D_candidates_22 : Dc prog_1_method_40_code 22 (.ireturn) 1 23 := ⟨by decide +kernel, rfl⟩
theorem d_D_candidates_23 : Dc prog_1_method_40_code 23 (.aload_n 0) 1 24 := ⟨by decide +kernel, rfl⟩
theorem d_D_candidates_24 : Dc prog_1_method_40_code 24 (.iload_n 2) 1 25 := ⟨by decide +kernel, rfl⟩
theorem d_D_candidates_25 : Dc prog_1_method_40_code 25 (.invokevirtual 318) 3 28 := ⟨by decide +kernel, rfl⟩
theorem d_D_candidates_28 : Dc prog_1_method_40_code 28 (.aload_n 0) 1 29 := ⟨by decide +kernel, rfl⟩
theorem d_D_candidates_29 : Dc prog_1_method_40_code 29 (.getfield 54) 3 32 := ⟨by decide +kernel, rfl⟩
theorem d_D_candidates_32 : Dc prog_1_method_40_code 32 (.getfield 320) 3 35 := ⟨by decide +kernel, rfl⟩
theorem d_D_candidates_35 : Dc prog_1_method_40_code 35 (.iload_n 1) 1 36 := ⟨by decide +kernel, rfl⟩
theorem d_D_candidates_36 : Dc prog_1_method_40_code 36 (.iaload) 1 37 := ⟨by decide +kernel, rfl⟩
theorem d_D_candidates_37 : Dc prog_1_method_40_code 37 (.ireturn) 1 38 := ⟨by decide +kernel, rfl⟩
theorem d_D_sift_0 : Dc prog_1_method_39_code 0 (.aload_n 0) 1 1 := ⟨by decide +kernel, rfl⟩
theorem d_D_sift_1 : Dc prog_1_method_39_code 1 (.getfield 40) 3 4 := ⟨by decide +kernel, rfl⟩
theorem d_D_sift_4 : Dc prog_1_method_39_code 4 (.aload_n 0) 1 5 := ⟨by decide +kernel, rfl⟩
theorem d_D_sift_5 : Dc prog_1_method_39_code 5 (.getfield 10) 3 8 := ⟨by decide +kernel, rfl⟩
theorem d_D_sift_8 : Dc prog_1_method_39_code 8 (.aload_n 0) 1 9 := ⟨by decide +kernel, rfl⟩
theorem d_D_sift_9 : Dc prog_1_method_39_code 9 (.getfield 10) 3 12 := ⟨by decide +kernel, rfl⟩
theorem d_D_sift_12 : Dc prog_1_method_39_code 12 (.invokevirtual 142) 3 15 := ⟨by decide +kernel, rfl⟩
theorem d_D_sift_15 : Dc prog_1_method_39_code 15 (.invokevirtual 146) 3 18 := ⟨by decide +kernel, rfl⟩
theorem d_D_sift_18 : Dc prog_1_method_39_code 18 (.aload_n 0) 1 19 := ⟨by decide +kernel, rfl⟩
theorem d_D_sift_19 : Dc prog_1_method_39_code 19 (.getfield 54) 3 22 := ⟨by decide +kernel, rfl⟩
theorem d_D_sift_22 : Dc prog_1_method_39_code 22 (.aload_n 0) 1 23 := ⟨by decide +kernel, rfl⟩
theorem d_D_sift_23 : Dc prog_1_method_39_code 23 (.getfield 10) 3 26 := ⟨by decide +kernel, rfl⟩
theorem d_D_sift_26 : Dc prog_1_method_39_code 26 (.aload_n 0) 1 27 := ⟨by decide +kernel, rfl⟩
theorem d_D_sift_27 : Dc prog_1_method_39_code 27 (.getfield 40) 3 30 := ⟨by decide +kernel, rfl⟩
theorem d_D_sift_30 : Dc prog_1_method_39_code 30 (.getfield 153) 3 33 := ⟨by decide +kernel, rfl⟩
theorem d_D_sift_33 : Dc prog_1_method_39_code 33 (.iload_n 1) 1 34 := ⟨by decide +kernel, rfl⟩
theorem d_D_sift_34 : Dc prog_1_method_39_code 34 (.invokevirtual 314) 3 37 := ⟨by decide +kernel, rfl⟩
theorem d_D_sift_37 : Dc prog_1_method_39_code 37 (.return_) 1 38 := ⟨by decide +kernel, rfl⟩
theorem d_Si_sift_0 : Dc prog_10_method_2_code 0 (.iconst 0) 1 1 := ⟨by decide +kernel, rfl⟩
theorem d_Si_sift_1 : Dc prog_10_method_2_code 1 (.istore 4) 2 3 := ⟨by decide +kernel, rfl⟩
theorem d_Si_sift_3 : Dc prog_10_method_2_code 3 (.iload 4) 2 5 := ⟨by decide +kernel, rfl⟩
theorem d_Si_sift_5 : Dc prog_10_method_2_code 5 (.aload_n 1) 1 6 := ⟨by decide +kernel, rfl⟩
theorem d_Si_sift_6 : Dc prog_10_method_2_code 6 (.getfield 18) 3 9 := ⟨by decide +kernel, rfl⟩
theorem d_Si_sift_9 : Dj prog_10_method_2_code 9 (.if_icmp .ge 26) 12 26 35 := ⟨by decide +kernel, rfl, rfl⟩
theorem d_Si_sift_12 : Dc prog_10_method_2_code 12 (.aload_n 0) 1 13 := ⟨by decide +kernel, rfl⟩
theorem d_Si_sift_13 : Dc prog_10_method_2_code 13 (.getfield 9) 3 16 := ⟨by decide +kernel, rfl⟩
theorem d_Si_sift_16 : Dc prog_10_method_2_code 16 (.iload 4) 2 18 := ⟨by decide +kernel, rfl⟩
theorem d_Si_sift_18 : Dc prog_10_method_2_code 18 (.aload_n 1) 1 19 := ⟨by decide +kernel, rfl⟩
theorem d_Si_sift_19 : Dc prog_10_method_2_code 19 (.iload 4) 2 21 := ⟨by decide +kernel, rfl⟩
theorem d_Si_sift_21 : Dc prog_10_method_2_code 21 (.aload_n 2) 1 22 := ⟨by decide +kernel, rfl⟩
theorem d_Si_sift_22 : Dc prog_10_method_2_code 22 (.iload 4) 2 24 := ⟨by decide +kernel, rfl⟩
theorem d_Si_sift_24 : Dc prog_10_method_2_code 24 (.iaload) 1 25 := ⟨by decide +kernel, rfl⟩
theorem d_Si_sift_25 : Dc prog_10_method_2_code 25 (.invokestatic 24) 3 28 := ⟨by decide +kernel, rfl⟩
theorem d_Si_sift_28 : Dc prog_10_method_2_code 28 (.iastore) 1 29 := ⟨by decide +kernel, rfl⟩
theorem d_Si_sift_29 : Dc prog_10_method_2_code 29 (.iinc 4 1) 3 32 := ⟨by decide +kernel, rfl⟩
theorem d_Si_sift_32 : Dj prog_10_method_2_code 32 (.goto (-29)) 35 (-29) 3 := ⟨by decide +kernel, rfl, rfl⟩
theorem d_Si_sift_35 : Dc prog_10_method_2_code 35 (.aload_n 0) 1 36 := ⟨by decide +kernel, rfl⟩
theorem d_Si_sift_36 : Dc prog_10_method_2_code 36 (.aload_n 1) 1 37 := ⟨by decide +kernel, rfl⟩
theorem d_Si_sift_37 : Dc prog_10_method_2_code 37 (.invokevirtual 28) 3 40 := ⟨by decide +kernel, rfl⟩
theorem d_Si_sift_40 : Dc prog_10_method_2_code 40 (.iconst 1) 1 41 := ⟨by decide +kernel, rfl⟩
theorem d_Si_sift_41 : Dc prog_10_method_2_code 41 (.istore 4) 2 43 := ⟨by decide +kernel, rfl⟩
theorem d_Si_sift_43 : Dc prog_10_method_2_code 43 (.iload 4) 2 45 := ⟨by decide +kernel, rfl⟩
theorem d_Si_sift_45 : Dc prog_10_method_2_code 45 (.iload_n 3) 1 46 := ⟨by decide +kernel, rfl⟩
theorem d_Si_sift_46 : Dj prog_10_method_2_code 46 (.if_icmp .gt 71) 49 71 117 := ⟨by decide +kernel, rfl, rfl⟩
theorem d_Si_sift_49 : Dc prog_10_method_2_code 49 (.iload 4) 2 51 := ⟨by decide +kernel, rfl⟩
theorem d_Si_sift_51 : Dc prog_10_method_2_code 51 (.iconst 2) 1 52 := ⟨by decide +kernel, rfl⟩
theorem d_Si_sift_52 : Dc prog_10_method_2_code 52 (.irem) 1 53 := ⟨by decide +kernel, rfl⟩
theorem d_Si_sift_53 : Dc prog_10_method_2_code 53 (.iconst 1) 1 54 := ⟨by decide +kernel, rfl⟩
theorem d_Si_sift_54 : Dj prog_10_method_2_code 54 (.if_icmp .ne 7) 57 7 61 := ⟨by decide +kernel, rfl, rfl⟩
theorem d_Si_sift_57 : Dc prog_10_method_2_code 57 (.iconst 1) 1 58 := ⟨by decide +kernel, rfl⟩
theorem d_Si_sift_58 : Dj prog_10_method_2_code 58 (.goto 4) 61 4 62 := ⟨by decide +kernel, rfl, rfl⟩
theorem d_Si_sift_61 : Dc prog_10_method_2_code 61 (.iconst 0) 1 62 := ⟨by decide +kernel, rfl⟩
theorem d_Si_sift_62 : Dc prog_10_method_2_code 62 (.istore 5) 2 64 := ⟨by decide +kernel, rfl⟩
theorem d_Si_sift_64 : Dc prog_10_method_2_code 64 (.iconst 0) 1 65 := ⟨by decide +kernel, rfl⟩
theorem d_Si_sift_65 : Dc prog_10_method_2_code 65 (.istore 6) 2 67 := ⟨by decide +kernel, rfl⟩
theorem d_Si_sift_67 : Dc prog_10_method_2_code 67 (.iload 6) 2 69 := ⟨by decide +kernel, rfl⟩
theorem d_Si_sift_69 : Dc prog_10_method_2_code 69 (.aload_n 1) 1 70 := ⟨by decide +kernel, rfl⟩
theorem d_Si_sift_70 : Dc prog_10_method_2_code 70 (.getfield 18) 3 73 := ⟨by decide +kernel, rfl⟩
theorem d_Si_sift_73 : Dj prog_10_method_2_code 73 (.if_icmp .ge 38) 76 38 111 := ⟨by decide +kernel, rfl, rfl⟩
theorem d_Si_sift_76 : Dc prog_10_method_2_code 76 (.aload_n 0) 1 77 := ⟨by decide +kernel, rfl⟩
theorem d_Si_sift_77 : Dc prog_10_method_2_code 77 (.aload_n 1) 1 78 := ⟨by decide +kernel, rfl⟩
theorem d_Si_sift_78 : Dc prog_10_method_2_code 78 (.aload_n 0) 1 79 := ⟨by decide +kernel, rfl⟩
theorem d_Si_sift_79 : Dc prog_10_method_2_code 79 (.getfield 15) 3 82 := ⟨by decide +kernel, rfl⟩
theorem d_Si_sift_82 : Dc prog_10_method_2_code 82 (.iload 5) 2 84 := ⟨by decide +kernel, rfl⟩
theorem d_Si_sift_84 : Dj prog_10_method_2_code 84 (.ifCond .eq 15) 87 15 99 := ⟨by decide +kernel, rfl, rfl⟩
theorem d_Si_sift_87 : Dc prog_10_method_2_code 87 (.aload_n 1) 1 88 := ⟨by decide +kernel, rfl⟩
theorem d_Si_sift_88 : Dc prog_10_method_2_code 88 (.getfield 18) 3 91 := ⟨by decide +kernel, rfl⟩
theorem d_Si_sift_91 : Dc prog_10_method_2_code 91 (.iconst 1) 1 92 := ⟨by decide +kernel, rfl⟩
theorem d_Si_sift_92 : Dc prog_10_method_2_code 92 (.isub) 1 93 := ⟨by decide +kernel, rfl⟩
theorem d_Si_sift_93 : Dc prog_10_method_2_code 93 (.iload 6) 2 95 := ⟨by decide +kernel, rfl⟩
theorem d_Si_sift_95 : Dc prog_10_method_2_code 95 (.isub) 1 96 := ⟨by decide +kernel, rfl⟩
theorem d_Si_sift_96 : Dj prog_10_method_2_code 96 (.goto 5) 99 5 101 := ⟨by decide +kernel, rfl, rfl⟩
theorem d_Si_sift_99 : Dc prog_10_method_2_code 99 (.iload 6) 2 101 := ⟨by decide +kernel, rfl⟩
theorem d_Si_sift_101 : Dc prog_10_method_2_code 101 (.iaload) 1 102 := ⟨by decide +kernel, rfl⟩
theorem d_Si_sift_102 : Dc prog_10_method_2_code 102 (.invokevirtual 32) 3 105 := ⟨by decide +kernel, rfl⟩
theorem d_Si_sift_105 : Dc prog_10_method_2_code 105 (.iinc 6 1) 3 108 := ⟨by decide +kernel, rfl⟩
theorem d_Si_sift_108 : Dj prog_10_method_2_code 108 (.goto (-41)) 111 (-41) 67 := ⟨by decide +kernel, rfl, rfl⟩
theorem d_Si_sift_111 : Dc prog_10_method_2_code 111 (.iinc 4 1) 3 114 := ⟨by decide +kernel, rfl⟩
theorem d_Si_sift_114 : Dj prog_10_method_2_code 114 (.goto (-71)) 117 (-71) 43 := ⟨by decide +kernel, rfl, rfl⟩
theorem d_Si_sift_117 : Dc prog_10_method_2_code 117 (.return_) 1 118 := ⟨by decide +kernel, rfl⟩
theorem fl_D_54 : FL "SubgraphDesk" 54 0 7 true (.object "SubgraphDesk$Sieve") (3, 42) := ⟨R_D, F_D, 15, ty_D, rfl, rfl, in_D, tyok_D, nm_D, by decide, gd 561 (by decide +kernel) rfl, rfl, rfl, rfl⟩
theorem fl_D_320 : FL "SubgraphDesk" 320 9 0 true (.array .int) (3, 1) := ⟨R_Si, F_Si, 2, ty_Si, rfl, rfl, in_Si, tyok_Si, nm_Si, by decide, gd 441 (by decide +kernel) rfl, rfl, rfl, rfl⟩
theorem ml_D_314 : Cond.methodLink "SubgraphDesk" 314 m_Si_sift.1 ∈ lw_gd := gd 1277 (by decide +kernel) rfl
theorem ml_D_318 : Cond.methodLink "SubgraphDesk" 318 m_D_sift.1 ∈ lw_gd := gd 1273 (by decide +kernel) rfl
theorem ml_Si_24 : Cond.methodLink "SubgraphDesk$Sieve" 24 m_Si_atFirst.1 ∈ lw_gd := gd 1281 (by decide +kernel) rfl
theorem ml_Si_28 : Cond.methodLink "SubgraphDesk$Sieve" 28 m_Si_lineUp.1 ∈ lw_gd := gd 1286 (by decide +kernel) rfl
theorem ml_Si_32 : Cond.methodLink "SubgraphDesk$Sieve" 32 m_Si_shrink.1 ∈ lw_gd := gd 1296 (by decide +kernel) rfl
theorem c_Si_sift {E : EV} {w : Mem} {g : GC} {pn : Nat} (hR : BRow w 1 g) (hW : WG g) (hM : LeM w g (gV g)) (hpn : pn < 10) : T E m_Si_sift 3 0 0 [.ref 42, .ref 1, .ref 32, .int (nI pn)] w (fun r w2 => r = none ∧ FrSi w w2 ∧ CdP w2 g (candN g pn)) := by
  refine T_of (L := [.ref 42, .ref 1, .ref 32, .int (nI pn), un, un, un]) cf_Si_sift rfl (Nat.le_of_ble_eq_true rfl) (fun X hX hF => ?_)
  have hn := hW.n
  have hv := hW.v
  have k35 : ∀ (w1 : Mem), FrSi w w1 → CdP w1 g (cFst g) → G0 E X 0 0 35 [.ref 42, .ref 1, .ref 32, .int (nI pn), un, un, un] [] w1 := by
    intro w1 hf1 hC1
    refine g_aload0 hX d_Si_sift_35 ?_
    refine g_aload1 hX d_Si_sift_36 ?_
    refine g_callV (As := [_]) hX hF.1 d_Si_sift_37 ml_Si_28 cf_Si_lineUp cv_Si_lineUp rfl rfl (c_Si_lineUp (c := cFst g) (hR.si hf1) hW hC1 (fun v => Nat.lt_of_lt_of_le (cFst_ltN g v) (Nat.pow_le_pow_right (by decide) hn))) (rcv_obj hX (lv_42 _) rfl rfl) (by omega) (by omega) (by omega) (Nat.le_of_ble_eq_true rfl) ?_
    rintro _ w2 ⟨rfl, hf2, hO, hol, hL2⟩
    replace hL2 : LnP w2 (orderG g) := hL2
    replace hO : OrdW g (orderG g) := hO
    replace hol : (orderG g).length = gV g := hol
    show G0 _ _ _ _ _ _ _ _
    refine g_iconst (v := nI 1) hX d_Si_sift_40 rfl ?_
    refine g_istore4 hX d_Si_sift_41 rfl (by decide) ?_
    have lpq : ∀ (fuel : Nat) (q : Nat) (wk : Mem), pn - q < fuel → (FrSi w wk) → (q ≤ pn) → (CdP wk g (candN g q)) → (LnP wk (orderG g)) → G0 E X 0 0 43 [.ref 42, .ref 1, .ref 32, .int (nI pn), .int (nI (q + 1)), un, un] [] wk := by
      intro fuel
      induction fuel with
      | zero => intro q wk q0; exact absurd q0 (Nat.not_lt_zero _)
      | succ fuel ih =>
        intro q wk q0 q1 q2 q3 q4
        have lpI : ∀ (fuel : Nat) (k : Nat) (w3 : Mem), gV g - k < fuel → (FrSi w w3) → (k ≤ gV g) → (CdP w3 g (pasK g q (candN g q) k)) → (LnP w3 (orderG g)) → (q + 1 ≤ pn) → G0 E X 0 0 67 [.ref 42, .ref 1, .ref 32, .int (nI pn), .int (nI (q + 1)), .int (b2i (q % 2 = 0)), .int (nI k)] [] w3 := by
          intro fuel
          induction fuel with
          | zero => intro k w3 q0; exact absurd q0 (Nat.not_lt_zero _)
          | succ fuel ihI =>
            intro k w3 r0 r1 r2 r3 r4 r5
            refine g_iload6 hX d_Si_sift_67 ?_
            refine g_aload1 hX d_Si_sift_69 ?_
            refine g_getI hX d_Si_sift_70 fl_Si_18 (lv_1 _) ?_
            refine g_topi (hR.si r1).v ?_
            refine g_icmpN_ge hX d_Si_sift_73 (by omega) (by omega) (fun e73 => ?_) (fun e73 => ?_)
            · refine g_iincN4 hX d_Si_sift_111 rfl (by decide) ?_
              refine g_goto hX d_Si_sift_114 ?_
              obtain rfl : k = gV g := by omega
              refine g_fget 5 ?_
              refine g_fget 6 ?_
              exact ih (q + 1) w3 (by omega) r1 (by omega) r3 r4
            · refine g_aload0 hX d_Si_sift_76 ?_
              refine g_aload1 hX d_Si_sift_77 ?_
              refine g_aload0 hX d_Si_sift_78 ?_
              refine g_getF hX d_Si_sift_79 fl_Si_15 (lv_42 _) ?_
              refine g_iload5 hX d_Si_sift_82 ?_
              refine g_ifB_eq hX d_Si_sift_84 (fun e84 => ?_) (fun e84 => ?_)
              · refine g_iload6 hX d_Si_sift_99 ?_
                refine g_iald hX d_Si_sift_101 (lv_44 _) rfl (by omega) ?_
                refine g_topi (r4 k (by omega)) ?_
                refine g_callV (As := [_, _]) hX hF.1 d_Si_sift_102 ml_Si_32 cf_Si_shrink cv_Si_shrink rfl rfl (c_Si_shrink (c := (pasK g q (candN g q) k)) (v := gA (orderG g) k) (hR.si r1) hW r3 (hO.2 _ (gA_mem (by omega)))) (rcv_obj hX (lv_42 _) rfl rfl) (by omega) (by omega) (by omega) (Nat.le_of_ble_eq_true rfl) ?_
                rintro _ w4 ⟨rfl, hf4, hC4⟩
                rw [show gA (orderG g) k = gA (orderG g) (if q % 2 = 0 then gV g - 1 - k else k) by rw [if_neg e84]] at hC4
                replace hC4 : CdP w4 g (pasK g q (candN g q) (k + 1)) := hC4
                have r14 := r1.tr hf4.1
                have r44 : LnP w4 (orderG g) := fun x hx => by rw [hf4.2]; exact r4 x hx
                show G0 _ _ _ _ _ _ _ _
                refine g_iincN6 hX d_Si_sift_105 rfl (by decide) ?_
                refine g_goto hX d_Si_sift_108 ?_
                exact ihI (k + 1) w4 (by omega) r14 (by omega) hC4 r44 r5
              · refine g_aload1 hX d_Si_sift_87 ?_
                refine g_getI hX d_Si_sift_88 fl_Si_18 (lv_1 _) ?_
                refine g_topi (hR.si r1).v ?_
                refine g_iconst (v := nI 1) hX d_Si_sift_91 rfl ?_
                refine g_isubN hX d_Si_sift_92 (by omega) ?_
                refine g_iload6 hX d_Si_sift_93 ?_
                refine g_isubN hX d_Si_sift_95 (by omega) ?_
                refine g_goto hX d_Si_sift_96 ?_
                refine g_iald hX d_Si_sift_101 (lv_44 _) rfl (by omega) ?_
                refine g_topi (r4 (gV g - 1 - k) (by omega)) ?_
                refine g_callV (As := [_, _]) hX hF.1 d_Si_sift_102 ml_Si_32 cf_Si_shrink cv_Si_shrink rfl rfl (c_Si_shrink (c := (pasK g q (candN g q) k)) (v := gA (orderG g) (gV g - 1 - k)) (hR.si r1) hW r3 (hO.2 _ (gA_mem (by omega)))) (rcv_obj hX (lv_42 _) rfl rfl) (by omega) (by omega) (by omega) (Nat.le_of_ble_eq_true rfl) ?_
                rintro _ w4 ⟨rfl, hf4, hC4⟩
                rw [show gA (orderG g) (gV g - 1 - k) = gA (orderG g) (if q % 2 = 0 then gV g - 1 - k else k) by rw [if_pos e84]] at hC4
                replace hC4 : CdP w4 g (pasK g q (candN g q) (k + 1)) := hC4
                have r14 := r1.tr hf4.1
                have r44 : LnP w4 (orderG g) := fun x hx => by rw [hf4.2]; exact r4 x hx
                show G0 _ _ _ _ _ _ _ _
                refine g_iincN6 hX d_Si_sift_105 rfl (by decide) ?_
                refine g_goto hX d_Si_sift_108 ?_
                exact ihI (k + 1) w4 (by omega) r14 (by omega) hC4 r44 r5
        refine g_iload4 hX d_Si_sift_43 ?_
        refine g_iload3 hX d_Si_sift_45 ?_
        refine g_icmpN_gt hX d_Si_sift_46 (by omega) (by omega) (fun e46 => ?_) (fun e46 => ?_)
        · refine g_vret hX hF d_Si_sift_117 (by omega) (by omega) ?_
          obtain rfl : q = pn := by omega
          exact ⟨rfl, q1, q3⟩
        · refine g_iload4 hX d_Si_sift_49 ?_
          refine g_iconst (v := nI 2) hX d_Si_sift_51 rfl ?_
          refine g_iremN hX d_Si_sift_52 (by omega) (by decide) (by decide) ?_
          refine g_iconst (v := nI 1) hX d_Si_sift_53 rfl ?_
          refine g_icmpN_ne hX d_Si_sift_54 (by omega) (by omega) (fun e54 => ?_) (fun e54 => ?_)
          · have e54 : ¬ q % 2 = 0 := by omega
            refine g_iconst (v := nI 0) hX d_Si_sift_61 rfl ?_
            refine g_istore5 hX d_Si_sift_62 rfl (by decide) ?_
            refine g_iconst (v := nI 0) hX d_Si_sift_64 rfl ?_
            refine g_istore6 hX d_Si_sift_65 rfl (by decide) ?_
            refine g_loc (show [Value.ref 42, Value.ref 1, Value.ref 32, Value.int (nI pn), Value.int (nI (q + 1)), Value.int (nI 0), Value.int (nI 0)] = [Value.ref 42, Value.ref 1, Value.ref 32, Value.int (nI pn), Value.int (nI (q + 1)), Value.int (b2i (q % 2 = 0)), Value.int (nI 0)] by rw [b2i_f e54]; rfl) ?_
            exact lpI (gV g + 1) 0 wk (by omega) q1 (Nat.zero_le _) q3 q4 (by omega)
          · have e54 : q % 2 = 0 := by omega
            refine g_iconst (v := nI 1) hX d_Si_sift_57 rfl ?_
            refine g_goto hX d_Si_sift_58 ?_
            refine g_istore5 hX d_Si_sift_62 rfl (by decide) ?_
            refine g_iconst (v := nI 0) hX d_Si_sift_64 rfl ?_
            refine g_istore6 hX d_Si_sift_65 rfl (by decide) ?_
            refine g_loc (show [Value.ref 42, Value.ref 1, Value.ref 32, Value.int (nI pn), Value.int (nI (q + 1)), Value.int (nI 1), Value.int (nI 0)] = [Value.ref 42, Value.ref 1, Value.ref 32, Value.int (nI pn), Value.int (nI (q + 1)), Value.int (b2i (q % 2 = 0)), Value.int (nI 0)] by rw [b2i_t e54]; rfl) ?_
            exact lpI (gV g + 1) 0 wk (by omega) q1 (Nat.zero_le _) q3 q4 (by omega)
    exact lpq (pn + 1) 0 w2 (by omega) (hf1.tr hf2.1) (Nat.zero_le _) (fun x hx => by rw [hf2.2]; exact hC1 x hx) hL2
  have lp : ∀ (fuel : Nat) (v : Nat) (wk : Mem), gV g - v < fuel → (FrSi w wk) → (v ≤ gV g) → (∀ x, x < v → rI wk 43 x = nI (cFst g x)) → G0 E X 0 0 3 [.ref 42, .ref 1, .ref 32, .int (nI pn), .int (nI v), un, un] [] wk := by
    intro fuel
    induction fuel with
    | zero => intro v wk q0; exact absurd q0 (Nat.not_lt_zero _)
    | succ fuel ih =>
      intro v wk q0 q1 q2 q3
      refine g_iload4 hX d_Si_sift_3 ?_
      refine g_aload1 hX d_Si_sift_5 ?_
      refine g_getI hX d_Si_sift_6 fl_Si_18 (lv_1 _) ?_
      refine g_topi (hR.si q1).v ?_
      refine g_icmpN_ge hX d_Si_sift_9 (by omega) (by omega) (fun e9 => ?_) (fun e9 => ?_)
      · obtain rfl : v = gV g := by omega
        refine g_fget 4 ?_
        exact k35 wk q1 q3
      · refine g_aload0 hX d_Si_sift_12 ?_
        refine g_getF hX d_Si_sift_13 fl_Si_9 (lv_42 _) ?_
        refine g_iload4 hX d_Si_sift_16 ?_
        refine g_aload1 hX d_Si_sift_18 ?_
        refine g_iload4 hX d_Si_sift_19 ?_
        refine g_aload2 hX d_Si_sift_21 ?_
        refine g_iload4 hX d_Si_sift_22 ?_
        refine g_iald hX d_Si_sift_24 (lv_32 _) rfl (by omega) ?_
        refine g_topi (show rI wk 32 v = nI (mayG g v) by rw [q1.1 32 (by decide) (by decide)]; exact hM v e9) ?_
        refine g_callS (As := [_, _, _]) hX hF.1 d_Si_sift_25 ml_Si_24 cf_Si_atFirst cs_Si_atFirst rfl (c_Si_atFirst (hR.si q1) hW e9) (by omega) (by omega) (by omega) (Nat.le_of_ble_eq_true rfl) ?_
        refine ret_k ?_
        refine g_iast hX d_Si_sift_28 (lv_43 _) rfl (by omega) ?_
        refine g_iincN4 hX d_Si_sift_29 rfl (by decide) ?_
        refine g_goto hX d_Si_sift_32 ?_
        exact ih (v + 1) _ (by omega) (q1.I (Or.inl rfl)) (by omega) (fun x hx => by rw [rI_sI, upd_eq]; by_cases e : x = v; rw [if_pos e, e]; rw [if_neg e]; exact q3 x (by omega))
  refine g_iconst (v := nI 0) hX d_Si_sift_0 rfl ?_
  refine g_istore4 hX d_Si_sift_1 rfl (by decide) ?_
  exact lp (gV g + 1) 0 w (by omega) (FrSi.rf w) (Nat.zero_le _) (fun x hx => absurd hx (Nat.not_lt_zero _))
theorem c_D_sift {E : EV} {w : Mem} {pn : Nat} (hpn : pn < 10) {s : SG} (h : DInv w s) : T E m_D_sift 4 0 0 [.ref 0, .int (nI pn)] w (fun r w2 => r = none ∧ CdP w2 (sG s) (candN (sG s) pn) ∧ DInv w2 s ∧ DkQ w w2) := by
  refine T_of (L := [.ref 0, .int (nI pn)]) cf_D_sift rfl (Nat.le_of_ble_eq_true rfl) (fun X hX hF => ?_)
  obtain ⟨⟨hR, hW, hA⟩, hL, hT, hI, hRF, ⟨hsm, hfa, hsp⟩, hdr, hfx⟩ := id h
  have hn := hW.n
  have hv := hW.v
  have he := hW.el
  have hll := hW.ll
  have hsl := hW.sl
  rcases hgf : gF (sG s) with _ | kf
  · refine g_aload0 hX d_D_sift_0 ?_
    refine g_getF hX d_D_sift_1 fl_D_40 (lv_0 _) ?_
    refine g_aload0 hX d_D_sift_4 ?_
    refine g_getF hX d_D_sift_5 fl_D_10 (lv_0 _) ?_
    refine g_aload0 hX d_D_sift_8 ?_
    refine g_getF hX d_D_sift_9 fl_D_10 (lv_0 _) ?_
    refine g_callV (As := []) hX hF.1 d_D_sift_12 ml_D_142 cf_Bo_lawInForce cv_Bo_lawInForce rfl rfl (c_Bo_forceN hR hW (fInt_no hgf _)) (rcv_obj hX (lv_1 _) rfl rfl) (by omega) (by omega) (by omega) (Nat.le_of_ble_eq_true rfl) ?_
    refine ret_k ?_
    refine g_callV (As := [_, _]) hX hF.1 d_D_sift_15 ml_D_146 cf_Le_fill cv_Le_fill rfl rfl (c_Le_fillN (o := gF (sG s)) hR hW (gLw_n hgf)) (rcv_obj hX (lv_31 _) rfl rfl) (by omega) (by omega) (by omega) (Nat.le_of_ble_eq_true rfl) ?_
    rintro _ w2 ⟨rfl, hfl, hLe⟩
    replace hLe : LeP w2 (sG s) := hLe
    show G0 _ _ _ _ _ _ _ _
    refine g_aload0 hX d_D_sift_18 ?_
    refine g_getF hX d_D_sift_19 fl_D_54 (lv_0 _) ?_
    refine g_aload0 hX d_D_sift_22 ?_
    refine g_getF hX d_D_sift_23 fl_D_10 (lv_0 _) ?_
    refine g_aload0 hX d_D_sift_26 ?_
    refine g_getF hX d_D_sift_27 fl_D_40 (lv_0 _) ?_
    refine g_getF hX d_D_sift_30 fl_D_153 (lv_31 _) ?_
    refine g_iload1 hX d_D_sift_33 ?_
    refine g_callV (As := [_, _, _]) hX hF.1 d_D_sift_34 ml_D_314 cf_Si_sift cv_Si_sift rfl rfl (c_Si_sift (hR.l hfl) hW hLe.1 hpn) (rcv_obj hX (lv_42 _) rfl rfl) (by omega) (by omega) (by omega) (Nat.le_of_ble_eq_true rfl) ?_
    rintro _ w3 ⟨rfl, hf3, hC3⟩
    show G0 _ _ _ _ _ _ _ _
    refine g_vret hX hF d_D_sift_37 (by omega) (by omega) ?_
    have hQ := hfl.Q.tr hf3.Q
    exact ⟨rfl, hC3, h.q hQ, hQ⟩
  · obtain ⟨pl, hpl, hPL, hlw⟩ := law_force h hgf
    obtain ⟨hin, htk⟩ := fInt_in hW hgf
    refine g_aload0 hX d_D_sift_0 ?_
    refine g_getF hX d_D_sift_1 fl_D_40 (lv_0 _) ?_
    refine g_aload0 hX d_D_sift_4 ?_
    refine g_getF hX d_D_sift_5 fl_D_10 (lv_0 _) ?_
    refine g_aload0 hX d_D_sift_8 ?_
    refine g_getF hX d_D_sift_9 fl_D_10 (lv_0 _) ?_
    refine g_callV (As := []) hX hF.1 d_D_sift_12 ml_D_142 cf_Bo_lawInForce cv_Bo_lawInForce rfl rfl (c_Bo_forceR hR hW hin (by rw [htk]; exact hpl)) (rcv_obj hX (lv_1 _) rfl rfl) (by omega) (by omega) (by omega) (Nat.le_of_ble_eq_true rfl) ?_
    refine ret_k ?_
    refine g_callV (As := [_, _]) hX hF.1 d_D_sift_15 ml_D_146 cf_Le_fill cv_Le_fill rfl rfl (c_Le_fillP (o := gF (sG s)) hR hW hPL hlw) (rcv_obj hX (lv_31 _) rfl rfl) (by omega) (by omega) (by omega) (Nat.le_of_ble_eq_true rfl) ?_
    rintro _ w2 ⟨rfl, hfl, hLe⟩
    replace hLe : LeP w2 (sG s) := hLe
    show G0 _ _ _ _ _ _ _ _
    refine g_aload0 hX d_D_sift_18 ?_
    refine g_getF hX d_D_sift_19 fl_D_54 (lv_0 _) ?_
    refine g_aload0 hX d_D_sift_22 ?_
    refine g_getF hX d_D_sift_23 fl_D_10 (lv_0 _) ?_
    refine g_aload0 hX d_D_sift_26 ?_
    refine g_getF hX d_D_sift_27 fl_D_40 (lv_0 _) ?_
    refine g_getF hX d_D_sift_30 fl_D_153 (lv_31 _) ?_
    refine g_iload1 hX d_D_sift_33 ?_
    refine g_callV (As := [_, _, _]) hX hF.1 d_D_sift_34 ml_D_314 cf_Si_sift cv_Si_sift rfl rfl (c_Si_sift (hR.l hfl) hW hLe.1 hpn) (rcv_obj hX (lv_42 _) rfl rfl) (by omega) (by omega) (by omega) (Nat.le_of_ble_eq_true rfl) ?_
    rintro _ w3 ⟨rfl, hf3, hC3⟩
    show G0 _ _ _ _ _ _ _ _
    refine g_vret hX hF d_D_sift_37 (by omega) (by omega) ?_
    have hQ := hfl.Q.tr hf3.Q
    exact ⟨rfl, hC3, h.q hQ, hQ⟩
theorem c_D_candidates {E : EV} {w : Mem} {v y : Int32} {s : SG} (h : DInv w s) : T E m_D_candidates 5 0 0 [.ref 0, .int v, .int y] w (fun r w2 => r = some (.int (opCand v y (sG s))) ∧ DInv w2 s ∧ DkD w w2) := by
  refine T_of (L := [.ref 0, .int v, .int y]) cf_D_candidates rfl (Nat.le_of_ble_eq_true rfl) (fun X hX hF => ?_)
  obtain ⟨⟨hR, hW, hA⟩, hL, hT, hI, hRF, ⟨hsm, hfa, hsp⟩, hdr, hfx⟩ := id h
  have hn := hW.n
  have hv := hW.v
  have he := hW.el
  have hll := hW.ll
  have hsl := hW.sl
  refine g_aload0 hX d_D_candidates_0 ?_
  refine g_getF hX d_D_candidates_1 fl_D_10 (lv_0 _) ?_
  refine g_iload1 hX d_D_candidates_4 ?_
  refine g_callV (As := [_]) hX hF.1 d_D_candidates_5 ml_D_126 cf_Bo_hasVertex cv_Bo_hasVertex rfl rfl (c_Bo_hasVertex isBo1 hR hW) (rcv_obj hX (lv_1 _) rfl rfl) (by omega) (by omega) (by omega) (Nat.le_of_ble_eq_true rfl) ?_
  refine ret_k ?_
  refine g_ifB_eq hX d_D_candidates_8 (fun e8 => ?_) (fun e8 => ?_)
  · refine g_iconst (v := -1) hX d_D_candidates_21 rfl ?_
    refine g_iret hX hF d_D_candidates_22 (by omega) (by omega) ?_
    rw [cand_no (by
      first
      | exact Or.inl e8
      | exact Or.inr (fun z => absurd e12 ((in6 (by decide)).mp z).1)
      | exact Or.inr (fun z => absurd (le_61 (m := 9) z.2 (by decide)) e18))]
    exact ⟨rfl, h, DkD.rf w⟩
  · refine g_iload2 hX d_D_candidates_11 ?_
    refine g_if_lt hX d_D_candidates_12 (fun e12 => ?_) (fun e12 => ?_)
    · refine g_iconst (v := -1) hX d_D_candidates_21 rfl ?_
      refine g_iret hX hF d_D_candidates_22 (by omega) (by omega) ?_
      rw [cand_no (by
        first
        | exact Or.inl e8
        | exact Or.inr (fun z => absurd e12 ((in6 (by decide)).mp z).1)
        | exact Or.inr (fun z => absurd (le_61 (m := 9) z.2 (by decide)) e18))]
      exact ⟨rfl, h, DkD.rf w⟩
    · refine g_iload2 hX d_D_candidates_15 ?_
      refine g_bipush (v := nI 9) hX d_D_candidates_16 rfl ?_
      refine g_icmp_le hX d_D_candidates_18 (fun e18 => ?_) (fun e18 => ?_)
      · obtain ⟨y, hy, rfl, -⟩ := inN_of ((in6 (by decide)).mpr ⟨e12, lt_of1 (by decide) e18 (Nat.le_refl _)⟩ : inN y 10) (by decide)
        obtain ⟨v, hvv, rfl, -⟩ := inN_of e8 (by omega)
        refine g_aload0 hX d_D_candidates_23 ?_
        refine g_iload2 hX d_D_candidates_24 ?_
        refine g_callV (As := [_]) hX hF.1 d_D_candidates_25 ml_D_318 cf_D_sift cv_D_sift rfl rfl (c_D_sift (pn := y) (by omega) h) (rcv_obj hX (lv_0 _) rfl rfl) (by omega) (by omega) (by omega) (Nat.le_of_ble_eq_true rfl) ?_
        rintro _ w1 ⟨rfl, hC1, h1, hQ1⟩
        show G0 _ _ _ _ _ _ _ _
        refine g_aload0 hX d_D_candidates_28 ?_
        refine g_getF hX d_D_candidates_29 fl_D_54 (lv_0 _) ?_
        refine g_getF hX d_D_candidates_32 fl_D_320 (lv_42 _) ?_
        refine g_iload1 hX d_D_candidates_35 ?_
        refine g_iald hX d_D_candidates_36 (lv_43 _) rfl (by omega) ?_
        refine g_topi (hC1 v hvv) ?_
        refine g_iret hX hF d_D_candidates_37 (by omega) (by omega) ?_
        rw [cand_ok hvv hv hy]
        exact ⟨rfl, h1, hQ1.D⟩
      · refine g_iconst (v := -1) hX d_D_candidates_21 rfl ?_
        refine g_iret hX hF d_D_candidates_22 (by omega) (by omega) ?_
        rw [cand_no (by
          first
          | exact Or.inl e8
          | exact Or.inr (fun z => absurd e12 ((in6 (by decide)).mp z).1)
          | exact Or.inr (fun z => absurd (le_61 (m := 9) z.2 (by decide)) e18))]
        exact ⟨rfl, h, DkD.rf w⟩
