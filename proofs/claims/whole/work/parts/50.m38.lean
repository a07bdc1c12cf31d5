def m_M_fewestOf : MR := (⟨"SubgraphDeskModel", "fewestOf", "(I)I"⟩, prog_14_method_99_code, 4, (some .int))
theorem cf_M_fewestOf : CF m_M_fewestOf 1 := ⟨gd 2091 (by decide +kernel) rfl, gd 151 (by decide +kernel) rfl, by decide +kernel, by decide, by decide +kernel⟩
theorem cv_M_fewestOf : CV m_M_fewestOf := ⟨gd 2090 (by decide +kernel) rfl, gd 118 (by decide +kernel) rfl⟩
def m_M_layOrder : MR := (⟨"SubgraphDeskModel", "layOrder", "()V"⟩, prog_14_method_100_code, 6, none)
theorem cf_M_layOrder : CF m_M_layOrder 0 := ⟨gd 2087 (by decide +kernel) rfl, gd 151 (by decide +kernel) rfl, by decide +kernel, by decide, by decide +kernel⟩
theorem cv_M_layOrder : CV m_M_layOrder := ⟨gd 2086 (by decide +kernel) rfl, gd 117 (by decide +kernel) rfl⟩
theorem d_M_fewestOf_0 : Dc prog_14_method_99_code 0 (.iconst (-1)) 1 1 := ⟨by decide +kernel, rfl⟩
theorem d_M_fewestOf_1 : Dc prog_14_method_99_code 1 (.istore_n 2) 1 2 := ⟨by decide +kernel, rfl⟩
theorem d_M_fewestOf_2 : Dc prog_14_method_99_code 2 (.iconst 0) 1 3 := ⟨by decide +kernel, rfl⟩
theorem d_M_fewestOf_3 : Dc prog_14_method_99_code 3 (.istore_n 3) 1 4 := ⟨by decide +kernel, rfl⟩
theorem d_M_fewestOf_4 : Dc prog_14_method_99_code 4 (.iload_n 3) 1 5 := ⟨by decide +kernel, rfl⟩
theorem d_M_fewestOf_5 : Dc prog_14_method_99_code 5 (.aload_n 0) 1 6 := ⟨by decide +kernel, rfl⟩
theorem d_M_fewestOf_6 : Dc prog_14_method_99_code 6 (.getfield 13) 3 9 := ⟨by decide +kernel, rfl⟩
theorem d_M_fewestOf_9 : Dc prog_14_method_99_code 9 (.iconst 1) 1 10 := ⟨by decide +kernel, rfl⟩
theorem d_M_fewestOf_10 : Dc prog_14_method_99_code 10 (.iaload) 1 11 := ⟨by decide +kernel, rfl⟩
theorem d_M_fewestOf_11 : Dj prog_14_method_99_code 11 (.if_icmp .ge 49) 14 49 60 := ⟨by decide +kernel, rfl, rfl⟩
theorem d_M_fewestOf_14 : Dc prog_14_method_99_code 14 (.iload_n 1) 1 15 := ⟨by decide +kernel, rfl⟩
theorem d_M_fewestOf_15 : Dc prog_14_method_99_code 15 (.iload_n 3) 1 16 := ⟨by decide +kernel, rfl⟩
theorem d_M_fewestOf_16 : Dc prog_14_method_99_code 16 (.invokestatic 468) 3 19 := ⟨by decide +kernel, rfl⟩
theorem d_M_fewestOf_19 : Dj prog_14_method_99_code 19 (.ifCond .eq 33) 22 33 52 := ⟨by decide +kernel, rfl, rfl⟩
theorem d_M_fewestOf_22 : Dc prog_14_method_99_code 22 (.iload_n 2) 1 23 := ⟨by decide +kernel, rfl⟩
theorem d_M_fewestOf_23 : Dc prog_14_method_99_code 23 (.iconst (-1)) 1 24 := ⟨by decide +kernel, rfl⟩
theorem d_M_fewestOf_24 : Dj prog_14_method_99_code 24 (.if_icmp .eq 24) 27 24 48 := ⟨by decide +kernel, rfl, rfl⟩
theorem d_M_fewestOf_27 : Dc prog_14_method_99_code 27 (.aload_n 0) 1 28 := ⟨by decide +kernel, rfl⟩
theorem d_M_fewestOf_28 : Dc prog_14_method_99_code 28 (.getfield 123) 3 31 := ⟨by decide +kernel, rfl⟩
theorem d_M_fewestOf_31 : Dc prog_14_method_99_code 31 (.iload_n 3) 1 32 := ⟨by decide +kernel, rfl⟩
theorem d_M_fewestOf_32 : Dc prog_14_method_99_code 32 (.iaload) 1 33 := ⟨by decide +kernel, rfl⟩
theorem d_M_fewestOf_33 : Dc prog_14_method_99_code 33 (.invokestatic 204) 3 36 := ⟨by decide +kernel, rfl⟩
theorem d_M_fewestOf_36 : Dc prog_14_method_99_code 36 (.aload_n 0) 1 37 := ⟨by decide +kernel, rfl⟩
theorem d_M_fewestOf_37 : Dc prog_14_method_99_code 37 (.getfield 123) 3 40 := ⟨by decide +kernel, rfl⟩
theorem d_M_fewestOf_40 : Dc prog_14_method_99_code 40 (.iload_n 2) 1 41 := ⟨by decide +kernel, rfl⟩
theorem d_M_fewestOf_41 : Dc prog_14_method_99_code 41 (.iaload) 1 42 := ⟨by decide +kernel, rfl⟩
theorem d_M_fewestOf_42 : Dc prog_14_method_99_code 42 (.invokestatic 204) 3 45 := ⟨by decide +kernel, rfl⟩
theorem d_M_fewestOf_45 : Dj prog_14_method_99_code 45 (.if_icmp .ge 7) 48 7 52 := ⟨by decide +kernel, rfl, rfl⟩
theorem d_M_fewestOf_48 : Dc prog_14_method_99_code 48 (.iload_n 3) 1 49 := ⟨by decide +kernel, rfl⟩
theorem d_M_fewestOf_49 : Dj prog_14_method_99_code 49 (.goto 4) 52 4 53 := ⟨by decide +kernel, rfl, rfl⟩
theorem d_M_fewestOf_52 : Dc prog_14_method_99_code 52 (.iload_n 2) 1 53 := ⟨by decide +kernel, rfl⟩
theorem d_M_fewestOf_53 : Dc prog_14_method_99_code 53 (.istore_n 2) 1 54 := ⟨by decide +kernel, rfl⟩
theorem d_M_fewestOf_54 : Dc prog_14_method_99_code 54 (.iinc 3 1) 3 57 := ⟨by decide +kernel, rfl⟩
theorem d_M_fewestOf_57 : Dj prog_14_method_99_code 57 (.goto (-53)) 60 (-53) 4 := ⟨by decide +kernel, rfl, rfl⟩
theorem d_M_fewestOf_60 : Dc prog_14_method_99_code 60 (.iload_n 2) 1 61 := ⟨by decide +kernel, rfl⟩
theorem d_M_fewestOf_61 : Dc prog_14_method_99_code 61 (.ireturn) 1 62 := ⟨by decide +kernel, rfl⟩
theorem d_M_layOrder_0 : Dc prog_14_method_100_code 0 (.iconst 0) 1 1 := ⟨by decide +kernel, rfl⟩
theorem d_M_layOrder_1 : Dc prog_14_method_100_code 1 (.istore_n 1) 1 2 := ⟨by decide +kernel, rfl⟩
theorem d_M_layOrder_2 : Dc prog_14_method_100_code 2 (.iconst 1) 1 3 := ⟨by decide +kernel, rfl⟩
theorem d_M_layOrder_3 : Dc prog_14_method_100_code 3 (.aload_n 0) 1 4 := ⟨by decide +kernel, rfl⟩
theorem d_M_layOrder_4 : Dc prog_14_method_100_code 4 (.getfield 13) 3 7 := ⟨by decide +kernel, rfl⟩
theorem d_M_layOrder_7 : Dc prog_14_method_100_code 7 (.iconst 1) 1 8 := ⟨by decide +kernel, rfl⟩
theorem d_M_layOrder_8 : Dc prog_14_method_100_code 8 (.iaload) 1 9 := ⟨by decide +kernel, rfl⟩
theorem d_M_layOrder_9 : Dc prog_14_method_100_code 9 (.ishl) 1 10 := ⟨by decide +kernel, rfl⟩
theorem d_M_layOrder_10 : Dc prog_14_method_100_code 10 (.iconst 1) 1 11 := ⟨by decide +kernel, rfl⟩
theorem d_M_layOrder_11 : Dc prog_14_method_100_code 11 (.isub) 1 12 := ⟨by decide +kernel, rfl⟩
theorem d_M_layOrder_12 : Dc prog_14_method_100_code 12 (.istore_n 2) 1 13 := ⟨by decide +kernel, rfl⟩
theorem d_M_layOrder_13 : Dc prog_14_method_100_code 13 (.iconst 0) 1 14 := ⟨by decide +kernel, rfl⟩
theorem d_M_layOrder_14 : Dc prog_14_method_100_code 14 (.istore_n 3) 1 15 := ⟨by decide +kernel, rfl⟩
theorem d_M_layOrder_15 : Dc prog_14_method_100_code 15 (.iload_n 2) 1 16 := ⟨by decide +kernel, rfl⟩
theorem d_M_layOrder_16 : Dj prog_14_method_100_code 16 (.ifCond .eq 116) 19 116 132 := ⟨by decide +kernel, rfl, rfl⟩
theorem d_M_layOrder_19 : Dc prog_14_method_100_code 19 (.iload_n 3) 1 20 := ⟨by decide +kernel, rfl⟩
theorem d_M_layOrder_20 : Dc prog_14_method_100_code 20 (.iload_n 1) 1 21 := ⟨by decide +kernel, rfl⟩
theorem d_M_layOrder_21 : Dj prog_14_method_100_code 21 (.if_icmp .ne 30) 24 30 51 := ⟨by decide +kernel, rfl, rfl⟩
theorem d_M_layOrder_24 : Dc prog_14_method_100_code 24 (.aload_n 0) 1 25 := ⟨by decide +kernel, rfl⟩
theorem d_M_layOrder_25 : Dc prog_14_method_100_code 25 (.getfield 126) 3 28 := ⟨by decide +kernel, rfl⟩
theorem d_M_layOrder_28 : Dc prog_14_method_100_code 28 (.iload_n 1) 1 29 := ⟨by decide +kernel, rfl⟩
theorem d_M_layOrder_29 : Dc prog_14_method_100_code 29 (.aload_n 0) 1 30 := ⟨by decide +kernel, rfl⟩
theorem d_M_layOrder_30 : Dc prog_14_method_100_code 30 (.iload_n 2) 1 31 := ⟨by decide +kernel, rfl⟩
theorem d_M_layOrder_31 : Dc prog_14_method_100_code 31 (.invokevirtual 508) 3 34 := ⟨by decide +kernel, rfl⟩
theorem d_M_layOrder_34 : Dc prog_14_method_100_code 34 (.iastore) 1 35 := ⟨by decide +kernel, rfl⟩
theorem d_M_layOrder_35 : Dc prog_14_method_100_code 35 (.iload_n 2) 1 36 := ⟨by decide +kernel, rfl⟩
theorem d_M_layOrder_36 : Dc prog_14_method_100_code 36 (.iconst 1) 1 37 := ⟨by decide +kernel, rfl⟩
theorem d_M_layOrder_37 : Dc prog_14_method_100_code 37 (.aload_n 0) 1 38 := ⟨by decide +kernel, rfl⟩
theorem d_M_layOrder_38 : Dc prog_14_method_100_code 38 (.getfield 126) 3 41 := ⟨by decide +kernel, rfl⟩
theorem d_M_layOrder_41 : Dc prog_14_method_100_code 41 (.iload_n 1) 1 42 := ⟨by decide +kernel, rfl⟩
theorem d_M_layOrder_42 : Dc prog_14_method_100_code 42 (.iaload) 1 43 := ⟨by decide +kernel, rfl⟩
theorem d_M_layOrder_43 : Dc prog_14_method_100_code 43 (.ishl) 1 44 := ⟨by decide +kernel, rfl⟩
theorem d_M_layOrder_44 : Dc prog_14_method_100_code 44 (.iconst (-1)) 1 45 := ⟨by decide +kernel, rfl⟩
theorem d_M_layOrder_45 : Dc prog_14_method_100_code 45 (.ixor) 1 46 := ⟨by decide +kernel, rfl⟩
theorem d_M_layOrder_46 : Dc prog_14_method_100_code 46 (.iand) 1 47 := ⟨by decide +kernel, rfl⟩
theorem d_M_layOrder_47 : Dc prog_14_method_100_code 47 (.istore_n 2) 1 48 := ⟨by decide +kernel, rfl⟩
theorem d_M_layOrder_48 : Dc prog_14_method_100_code 48 (.iinc 1 1) 3 51 := ⟨by decide +kernel, rfl⟩
theorem d_M_layOrder_51 : Dc prog_14_method_100_code 51 (.aload_n 0) 1 52 := ⟨by decide +kernel, rfl⟩
theorem d_M_layOrder_52 : Dc prog_14_method_100_code 52 (.getfield 13) 3 55 := ⟨by decide +kernel, rfl⟩
theorem d_M_layOrder_55 : Dc prog_14_method_100_code 55 (.bipush 26) 2 57 := ⟨by decide +kernel, rfl⟩
theorem d_M_layOrder_57 : Dc prog_14_method_100_code 57 (.aload_n 0) 1 58 := ⟨by decide +kernel, rfl⟩
theorem d_M_layOrder_58 : Dc prog_14_method_100_code 58 (.getfield 126) 3 61 := ⟨by decide +kernel, rfl⟩
theorem d_M_layOrder_61 : Dc prog_14_method_100_code 61 (.iload_n 3) 1 62 := ⟨by decide +kernel, rfl⟩
theorem d_M_layOrder_62 : Dc prog_14_method_100_code 62 (.iaload) 1 63 := ⟨by decide +kernel, rfl⟩
theorem d_M_layOrder_63 : Dc prog_14_method_100_code 63 (.iadd) 1 64 := ⟨by decide +kernel, rfl⟩
theorem d_M_layOrder_64 : Dc prog_14_method_100_code 64 (.iaload) 1 65 := ⟨by decide +kernel, rfl⟩
theorem d_M_layOrder_65 : Dc prog_14_method_100_code 65 (.istore 4) 2 67 := ⟨by decide +kernel, rfl⟩
theorem d_M_layOrder_67 : Dc prog_14_method_100_code 67 (.iinc 3 1) 3 70 := ⟨by decide +kernel, rfl⟩
theorem d_M_layOrder_70 : Dc prog_14_method_100_code 70 (.iconst 0) 1 71 := ⟨by decide +kernel, rfl⟩
theorem d_M_layOrder_71 : Dc prog_14_method_100_code 71 (.istore 5) 2 73 := ⟨by decide +kernel, rfl⟩
theorem d_M_layOrder_73 : Dc prog_14_method_100_code 73 (.iload 5) 2 75 := ⟨by decide +kernel, rfl⟩
theorem d_M_layOrder_75 : Dc prog_14_method_100_code 75 (.aload_n 0) 1 76 := ⟨by decide +kernel, rfl⟩
theorem d_M_layOrder_76 : Dc prog_14_method_100_code 76 (.getfield 13) 3 79 := ⟨by decide +kernel, rfl⟩
theorem d_M_layOrder_79 : Dc prog_14_method_100_code 79 (.iconst 1) 1 80 := ⟨by decide +kernel, rfl⟩
theorem d_M_layOrder_80 : Dc prog_14_method_100_code 80 (.iaload) 1 81 := ⟨by decide +kernel, rfl⟩
theorem d_M_layOrder_81 : Dj prog_14_method_100_code 81 (.if_icmp .ge 48) 84 48 129 := ⟨by decide +kernel, rfl, rfl⟩
theorem d_M_layOrder_84 : Dc prog_14_method_100_code 84 (.iload_n 2) 1 85 := ⟨by decide +kernel, rfl⟩
theorem d_M_layOrder_85 : Dc prog_14_method_100_code 85 (.iload 5) 2 87 := ⟨by decide +kernel, rfl⟩
theorem d_M_layOrder_87 : Dc prog_14_method_100_code 87 (.invokestatic 468) 3 90 := ⟨by decide +kernel, rfl⟩
theorem d_M_layOrder_90 : Dj prog_14_method_100_code 90 (.ifCond .eq 33) 93 33 123 := ⟨by decide +kernel, rfl, rfl⟩
theorem d_M_layOrder_93 : Dc prog_14_method_100_code 93 (.iload 4) 2 95 := ⟨by decide +kernel, rfl⟩
theorem d_M_layOrder_95 : Dc prog_14_method_100_code 95 (.iload 5) 2 97 := ⟨by decide +kernel, rfl⟩
theorem d_M_layOrder_97 : Dc prog_14_method_100_code 97 (.invokestatic 468) 3 100 := ⟨by decide +kernel, rfl⟩
theorem d_M_layOrder_100 : Dj prog_14_method_100_code 100 (.ifCond .eq 23) 103 23 123 := ⟨by decide +kernel, rfl, rfl⟩
theorem d_M_layOrder_103 : Dc prog_14_method_100_code 103 (.aload_n 0) 1 104 := ⟨by decide +kernel, rfl⟩
theorem d_M_layOrder_104 : Dc prog_14_method_100_code 104 (.getfield 126) 3 107 := ⟨by decide +kernel, rfl⟩
theorem d_M_layOrder_107 : Dc prog_14_method_100_code 107 (.iload_n 1) 1 108 := ⟨by decide +kernel, rfl⟩
theorem d_M_layOrder_108 : Dc prog_14_method_100_code 108 (.iload 5) 2 110 := ⟨by decide +kernel, rfl⟩
theorem d_M_layOrder_110 : Dc prog_14_method_100_code 110 (.iastore) 1 111 := ⟨by decide +kernel, rfl⟩
theorem d_M_layOrder_111 : Dc prog_14_method_100_code 111 (.iload_n 2) 1 112 := ⟨by decide +kernel, rfl⟩
theorem d_M_layOrder_112 : Dc prog_14_method_100_code 112 (.iconst 1) 1 113 := ⟨by decide +kernel, rfl⟩
theorem d_M_layOrder_113 : Dc prog_14_method_100_code 113 (.iload 5) 2 115 := ⟨by decide +kernel, rfl⟩
theorem d_M_layOrder_115 : Dc prog_14_method_100_code 115 (.ishl) 1 116 := ⟨by decide +kernel, rfl⟩
theorem d_M_layOrder_116 : Dc prog_14_method_100_code 116 (.iconst (-1)) 1 117 := ⟨by decide +kernel, rfl⟩
theorem d_M_layOrder_117 : Dc prog_14_method_100_code 117 (.ixor) 1 118 := ⟨by decide +kernel, rfl⟩
theorem d_M_layOrder_118 : Dc prog_14_method_100_code 118 (.iand) 1 119 := ⟨by decide +kernel, rfl⟩
theorem d_M_layOrder_119 : Dc prog_14_method_100_code 119 (.istore_n 2) 1 120 := ⟨by decide +kernel, rfl⟩
theorem d_M_layOrder_120 : Dc prog_14_method_100_code 120 (.iinc 1 1) 3 123 := ⟨by decide +kernel, rfl⟩
theorem d_M_layOrder_123 : Dc prog_14_method_100_code 123 (.iinc 5 1) 3 126 := ⟨by decide +kernel, rfl⟩
theorem d_M_layOrder_126 : Dj prog_14_method_100_code 126 (.goto (-53)) 129 (-53) 73 := ⟨by decide +kernel, rfl, rfl⟩
theorem d_M_layOrder_129 : Dj prog_14_method_100_code 129 (.goto (-114)) 132 (-114) 15 := ⟨by decide +kernel, rfl, rfl⟩
theorem d_M_layOrder_132 : Dc prog_14_method_100_code 132 (.return_) 1 133 := ⟨by decide +kernel, rfl⟩
theorem fl_M_123 : FL "SubgraphDeskModel" 123 12 50 true (.array .int) (3, 28) := ⟨R_M, F_M, 69, ty_M, rfl, rfl, in_M, tyok_M, nm_M, by decide, gd 1522 (by decide +kernel) rfl, rfl, rfl, rfl⟩
theorem fl_M_126 : FL "SubgraphDeskModel" 126 12 51 true (.array .int) (3, 29) := ⟨R_M, F_M, 69, ty_M, rfl, rfl, in_M, tyok_M, nm_M, by decide, gd 1523 (by decide +kernel) rfl, rfl, rfl, rfl⟩
theorem ml_M_508 : Cond.methodLink "SubgraphDeskModel" 508 m_M_fewestOf.1 ∈ lw_gd := gd 2088 (by decide +kernel) rfl
theorem few_l {x v : Nat} {a b : Int32} (h : a = b) : ([.ref 89, .int (nI x), .int a, .int (nI (v + 1))] : List Value) = [.ref 89, .int (nI x), .int b, .int (nI (v + 1))] := by rw [h]
theorem LeftP.ni {g : GC} {x v : Nat} {o : List Nat} (h : LeftP g x o) (hv : v < gV g) (hb : ¬ x.testBit v = true) : v ∈ o := by
  by_cases e : v ∈ o
  · exact e
  · exact absurd ((h.2 v).mpr ⟨hv, e⟩) hb
theorem LeftP.no {g : GC} {x v : Nat} {o : List Nat} (h : LeftP g x o) (hb : x.testBit v = true) : v ∉ o := ((h.2 v).mp hb).2
theorem OrdP.p {w : Mem} {o : List Nat} {f : Mem} (h : OrdP w o) (e : rI f 118 = rI w 118) : OrdP f o := fun k hk => by rw [e]; exact h k hk
theorem c_M_fewestOf {E : EV} {w : Mem} {g : GC} {c : Nat → Nat} {o : List Nat} {x : Nat} (hR : MRow (rI w 91) g) (hW : WG g) (hC : CandP w g c) (hc : ∀ v, v < gV g → c v < 2 ^ 12) (hx : LeftP g x o) : T E m_M_fewestOf 1 0 0 [.ref 89, .int (nI x)] w (Ret (some (.int (fInt (fewO c o (gV g))))) w) := by
  refine T_of (L := [.ref 89, .int (nI x), un, un]) cf_M_fewestOf rfl (Nat.le_of_ble_eq_true rfl) (fun X hX hF => ?_)
  have hgv := hW.v
  have lp : ∀ (fuel : Nat) (v : Nat), gV g - v < fuel → (v ≤ gV g) → G0 E X 0 0 4 [.ref 89, .int (nI x), .int (fInt (fewO c o v)), .int (nI v)] [] w := by
    intro fuel
    induction fuel with
    | zero => intro v q0; exact absurd q0 (Nat.not_lt_zero _)
    | succ fuel ih =>
      intro v q0 q1
      refine g_iload3 hX d_M_fewestOf_4 ?_
      refine g_aload0 hX d_M_fewestOf_5 ?_
      refine g_getF hX d_M_fewestOf_6 fl_M_13 (lv_89 _) ?_
      refine g_iconst (v := nI 1) hX d_M_fewestOf_9 rfl ?_
      refine g_iald hX d_M_fewestOf_10 (lv_91 _) rfl (by decide) ?_
      refine g_topi hR.v ?_
      refine g_icmpN_ge hX d_M_fewestOf_11 (by omega) (by omega) (fun c0 => ?_) (fun c0 => ?_)
      · refine g_iload2 hX d_M_fewestOf_60 ?_
        refine g_iret hX hF d_M_fewestOf_61 (by omega) (by omega) ?_
        exact ⟨by rw [show v = gV g by omega], rfl⟩
      · have hxl := hx.1
        have hcv := hc v (by omega)
        refine g_iload1 hX d_M_fewestOf_14 ?_
        refine g_iload3 hX d_M_fewestOf_15 ?_
        refine g_callS (As := [_, _]) hX hF.1 d_M_fewestOf_16 ml_M_468 cf_M_is cs_M_is rfl (c_M_is (by omega) (by omega)) (by omega) (by omega) (by omega) (Nat.le_of_ble_eq_true rfl) ?_
        refine ret_k ?_
        refine g_ifB_eq hX d_M_fewestOf_19 (fun e19 => ?_) (fun e19 => ?_)
        · refine g_iload2 hX d_M_fewestOf_52 ?_
          refine g_istore2 hX d_M_fewestOf_53 rfl (by decide) ?_
          refine g_iincN3 hX d_M_fewestOf_54 rfl (by decide) ?_
          refine g_goto hX d_M_fewestOf_57 ?_
          refine g_loc (few_l (congrArg fInt (fewO_in (hx.ni (by omega) e19)).symm)) ?_
          exact ih (v + 1) (by omega) (by omega)
        · refine g_iload2 hX d_M_fewestOf_22 ?_
          refine g_iconst (v := -1) hX d_M_fewestOf_23 rfl ?_
          refine g_icmp_eq hX d_M_fewestOf_24 (fun e24 => ?_) (fun e24 => ?_)
          · refine g_iload3 hX d_M_fewestOf_48 ?_
            refine g_goto hX d_M_fewestOf_49 ?_
            refine g_istore2 hX d_M_fewestOf_53 rfl (by decide) ?_
            refine g_iincN3 hX d_M_fewestOf_54 rfl (by decide) ?_
            refine g_goto hX d_M_fewestOf_57 ?_
            refine g_loc (few_l (congrArg fInt (fewO_n (hx.no e19) (fInt_m1 (fun u hu => by have := (fewO_lt v hu).1; omega) e24)).symm)) ?_
            exact ih (v + 1) (by omega) (by omega)
          · obtain ⟨u, hu⟩ := fInt_ne e24
            have hul := (fewO_lt v hu).1
            have hcu := hc u (by omega)
            refine g_loc (show _ = [.ref 89, .int (nI x), .int (nI u), .int (nI v)] by rw [hu]; rfl) ?_
            refine g_aload0 hX d_M_fewestOf_27 ?_
            refine g_getF hX d_M_fewestOf_28 fl_M_123 (lv_89 _) ?_
            refine g_iload3 hX d_M_fewestOf_31 ?_
            refine g_iald hX d_M_fewestOf_32 (lv_117 _) rfl (by omega) ?_
            refine g_topi (hC v (by omega)) ?_
            refine g_callS (As := [_]) hX hF.1 d_M_fewestOf_33 ml_M_204 cf_M_many cs_M_many rfl (c_M_many (by omega)) (by omega) (by omega) (by omega) (Nat.le_of_ble_eq_true rfl) ?_
            refine ret_k ?_
            refine g_aload0 hX d_M_fewestOf_36 ?_
            refine g_getF hX d_M_fewestOf_37 fl_M_123 (lv_89 _) ?_
            refine g_iload2 hX d_M_fewestOf_40 ?_
            refine g_iald hX d_M_fewestOf_41 (lv_117 _) rfl (by omega) ?_
            refine g_topi (hC u (by omega)) ?_
            refine g_callS (As := [_]) hX hF.1 d_M_fewestOf_42 ml_M_204 cf_M_many cs_M_many rfl (c_M_many (by omega)) (by omega) (by omega) (by omega) (Nat.le_of_ble_eq_true rfl) ?_
            refine ret_k ?_
            have hp1 := pop_le (c v)
            have hp2 := pop_le (c u)
            refine g_icmpN_ge hX d_M_fewestOf_45 (by omega) (by omega) (fun e45 => ?_) (fun e45 => ?_)
            · refine g_iload2 hX d_M_fewestOf_52 ?_
              refine g_istore2 hX d_M_fewestOf_53 rfl (by decide) ?_
              refine g_iincN3 hX d_M_fewestOf_54 rfl (by decide) ?_
              refine g_goto hX d_M_fewestOf_57 ?_
              refine g_loc (few_l (congrArg fInt (fewO_b (hx.no e19) hu (by omega)).symm)) ?_
              exact ih (v + 1) (by omega) (by omega)
            · refine g_iload3 hX d_M_fewestOf_48 ?_
              refine g_goto hX d_M_fewestOf_49 ?_
              refine g_istore2 hX d_M_fewestOf_53 rfl (by decide) ?_
              refine g_iincN3 hX d_M_fewestOf_54 rfl (by decide) ?_
              refine g_goto hX d_M_fewestOf_57 ?_
              refine g_loc (few_l (congrArg fInt (fewO_a (hx.no e19) hu (by omega)).symm)) ?_
              exact ih (v + 1) (by omega) (by omega)
  refine g_iconst (v := -1) hX d_M_fewestOf_0 rfl ?_
  refine g_istore2 hX d_M_fewestOf_1 rfl (by decide) ?_
  refine g_iconst (v := nI 0) hX d_M_fewestOf_2 rfl ?_
  refine g_istore3 hX d_M_fewestOf_3 rfl (by decide) ?_
  exact lp (gV g + 1) 0 (by omega) (Nat.zero_le _)
theorem ext_len {g : GC} {i : Nat} {o : List Nat} : ∀ v, o.length ≤ (extL g i o v).length
  | 0 => Nat.le_refl _
  | v + 1 => by
    have := ext_len (g := g) (i := i) (o := o) v
    unfold extL
    split
    · rw [List.length_append, List.length_singleton]; omega
    · exact this
theorem c_M_layOrder {E : EV} {w : Mem} {g : GC} {c : Nat → Nat} (hR : MRow (rI w 91) g) (hW : WG g) (hC : CandP w g c) (hc : ∀ v, v < gV g → c v < 2 ^ 12) : T E m_M_layOrder 2 0 0 [.ref 89] w (fun r w2 => r = none ∧ FrC w w2 ∧ CandP w2 g c ∧ OrdP w2 (ordK g c (gV g)) ∧ OrdW g (ordK g c (gV g)) ∧ gV g ≤ (ordK g c (gV g)).length) := by
  refine T_of (L := [.ref 89, un, un, un, un, un]) cf_M_layOrder rfl (Nat.le_of_ble_eq_true rfl) (fun X hX hF => ?_)
  have hgv := hW.v
  have lpO : ∀ (fuel : Nat) (i : Nat) (x : Nat) (wk : Mem), gV g - i < fuel → (i ≤ gV g) → (FrC w wk) → (CandP wk g c) → (OrdP wk (ordK g c i)) → (LeftP g x (ordK g c i)) → (OrdW g (ordK g c i)) → (i ≤ (ordK g c i).length) → G0 E X 0 0 15 [.ref 89, .int (nI (ordK g c i).length), .int (nI x), .int (nI i), un, un] [] wk := by
    intro fuel
    induction fuel with
    | zero => intro i x wk q0; exact absurd q0 (Nat.not_lt_zero _)
    | succ fuel ih =>
      intro i x wk q0 q1 q2 q3 q4 q5 q6 q7
      have hxl := q5.1
      have hol := q6.len
      refine g_iload2 hX d_M_layOrder_15 ?_
      refine g_if_eq hX d_M_layOrder_16 (fun e16 => ?_) (fun e16 => ?_)
      · refine g_vret hX hF d_M_layOrder_132 (by omega) (by omega) ?_
        have hx0 : x = 0 := nI_inj (by omega) (by decide) e16
        rw [hx0] at q5
        have hd := ord_done q5.zero (gV g - i) (by omega)
        rw [show i + (gV g - i) = gV g by omega] at hd
        refine ⟨rfl, q2, q3, ?_, ?_⟩
        · rw [hd]; exact q4
        · rw [hd]; exact ⟨q6, OrdW.all q5.zero⟩
      · have hx0 : x ≠ 0 := fun z => e16 (by rw [z]; rfl)
        obtain ⟨y, hy1, hy2⟩ := q5.some hx0
        have hilt : i < gV g := by
          have h1 := OrdW.len (q6.snoc hy1 hy2)
          rw [List.length_append, List.length_singleton] at h1
          omega
        obtain ⟨u, hu⟩ := fewO_some (c := c) hy2 _ hy1
        obtain ⟨hu1, hu2⟩ := fewO_lt _ hu
        have hRk : MRow (rI wk 91) g := by rw [q2.1 91 (by decide) (by decide)]; exact hR
        have ihO := ih
        have inner : ∀ (o1 : List Nat) (x1 : Nat) (wk1 : Mem), o1 = pickO g c (ordK g c i) i → i < o1.length → OrdW g o1 → FrC w wk1 → CandP wk1 g c → OrdP wk1 o1 → LeftP g x1 o1 → G0 E X 0 0 51 [.ref 89, .int (nI o1.length), .int (nI x1), .int (nI i), un, un] [] wk1 := by
          intro o1 x1 wk1 r1 r2 r3 r4 r5 r6 r7
          have hl1 := r3.len
          have hoi : gA o1 i < gV g := r3.2 _ (gA_mem r2)
          have hRk : MRow (rI wk1 91) g := by rw [r4.1 91 (by decide) (by decide)]; exact hR
          have hk32 := hW.k32 hoi
          have lpV : ∀ (fuel : Nat) (v : Nat) (x2 : Nat) (wk2 : Mem), gV g - v < fuel → (v ≤ gV g) → (FrC w wk2) → (CandP wk2 g c) → (OrdP wk2 (extL g i o1 v)) → (LeftP g x2 (extL g i o1 v)) → (OrdW g (extL g i o1 v)) → G0 E X 0 0 73 [.ref 89, .int (nI (extL g i o1 v).length), .int (nI x2), .int (nI (i + 1)), .int (nI (gK g (gA o1 i))), .int (nI v)] [] wk2 := by
            intro fuel
            induction fuel with
            | zero => intro v x2 wk2 q0; exact absurd q0 (Nat.not_lt_zero _)
            | succ fuel ih =>
              intro v x2 wk2 q0 q1 q2 q3 q4 q5 q6
              refine g_iload5 hX d_M_layOrder_73 ?_
              refine g_aload0 hX d_M_layOrder_75 ?_
              refine g_getF hX d_M_layOrder_76 fl_M_13 (lv_89 _) ?_
              refine g_iconst (v := nI 1) hX d_M_layOrder_79 rfl ?_
              refine g_iald hX d_M_layOrder_80 (lv_91 _) rfl (by decide) ?_
              refine g_topi (show rI wk2 91 1 = nI (gV g) by rw [q2.1 91 (by decide) (by decide)]; exact hR.v) ?_
              refine g_icmpN_ge hX d_M_layOrder_81 (by omega) (by omega) (fun c0 => ?_) (fun c0 => ?_)
              · refine g_goto hX d_M_layOrder_129 ?_
                have hvg : v = gV g := by omega
                rw [hvg] at q4 q5 q6 ⊢
                have ek : ordK g c (i + 1) = extL g i o1 (gV g) := by rw [ordK, r1]
                refine g_fget 4 ?_
                refine g_fget 5 ?_
                refine g_loc (show _ = [.ref 89, .int (nI (ordK g c (i + 1)).length), .int (nI x2), .int (nI (i + 1)), un, un] by rw [ek]; rfl) ?_
                refine ihO (i + 1) x2 wk2 (by omega) (by omega) q2 q3 (by rw [ek]; exact q4) (by rw [ek]; exact q5) (by rw [ek]; exact q6) ?_
                rw [ek]
                exact Nat.le_trans r2 (ext_len _)
              · have hx2l := q5.1
                have hmo : v ∈ extL g i o1 v ↔ v ∈ o1 := ⟨fun z => (extL_mem v z).elim id (fun y => absurd y (Nat.lt_irrefl _)), fun z => extL_sub z v⟩
                have hl2 := q6.len
                refine g_iload2 hX d_M_layOrder_84 ?_
                refine g_iload5 hX d_M_layOrder_85 ?_
                refine g_callS (As := [_, _]) hX hF.1 d_M_layOrder_87 ml_M_468 cf_M_is cs_M_is rfl (c_M_is (by omega) (by omega)) (by omega) (by omega) (by omega) (Nat.le_of_ble_eq_true rfl) ?_
                refine ret_k ?_
                refine g_ifB_eq hX d_M_layOrder_90 (fun e90 => ?_) (fun e90 => ?_)
                · refine g_iincN5 hX d_M_layOrder_123 rfl (by decide) ?_
                  refine g_goto hX d_M_layOrder_126 ?_
                  have e : extL g i o1 (v + 1) = extL g i o1 v := by rw [extL, if_neg (fun z => z.1 (hmo.mp (q5.ni (by omega) e90)))]
                  refine g_loc (show _ = [.ref 89, .int (nI (extL g i o1 (v + 1)).length), .int (nI x2), .int (nI (i + 1)), .int (nI (gK g (gA o1 i))), .int (nI (v + 1))] by rw [e]) ?_
                  exact ih (v + 1) x2 wk2 (by omega) (by omega) q2 q3 (by rw [e]; exact q4) (by rw [e]; exact q5) (by rw [e]; exact q6)
                · refine g_iload4 hX d_M_layOrder_93 ?_
                  refine g_iload5 hX d_M_layOrder_95 ?_
                  refine g_callS (As := [_, _]) hX hF.1 d_M_layOrder_97 ml_M_468 cf_M_is cs_M_is rfl (c_M_is (by omega) (by omega)) (by omega) (by omega) (by omega) (Nat.le_of_ble_eq_true rfl) ?_
                  refine ret_k ?_
                  refine g_ifB_eq hX d_M_layOrder_100 (fun e100 => ?_) (fun e100 => ?_)
                  · refine g_iincN5 hX d_M_layOrder_123 rfl (by decide) ?_
                    refine g_goto hX d_M_layOrder_126 ?_
                    have e : extL g i o1 (v + 1) = extL g i o1 v := by rw [extL, if_neg (fun z => e100 z.2)]
                    refine g_loc (show _ = [.ref 89, .int (nI (extL g i o1 (v + 1)).length), .int (nI x2), .int (nI (i + 1)), .int (nI (gK g (gA o1 i))), .int (nI (v + 1))] by rw [e]) ?_
                    exact ih (v + 1) x2 wk2 (by omega) (by omega) q2 q3 (by rw [e]; exact q4) (by rw [e]; exact q5) (by rw [e]; exact q6)
                  · have hni := q5.no e90
                    have e : extL g i o1 (v + 1) = extL g i o1 v ++ [v] := by rw [extL, if_pos ⟨fun z => hni (hmo.mpr z), e100⟩]
                    have q6b := q6.snoc (show v < gV g by omega) hni
                    have hl3 := q6b.len
                    rw [List.length_append, List.length_singleton] at hl3
                    refine g_aload0 hX d_M_layOrder_103 ?_
                    refine g_getF hX d_M_layOrder_104 fl_M_126 (lv_89 _) ?_
                    refine g_iload1 hX d_M_layOrder_107 ?_
                    refine g_iload5 hX d_M_layOrder_108 ?_
                    refine g_iast hX d_M_layOrder_110 (lv_118 _) rfl (by omega) ?_
                    refine g_iload2 hX d_M_layOrder_111 ?_
                    refine g_iconst (v := nI 1) hX d_M_layOrder_112 rfl ?_
                    refine g_iload5 hX d_M_layOrder_113 ?_
                    refine g_ishlN hX d_M_layOrder_115 (by omega) ?_
                    refine g_iconst (v := -1) hX d_M_layOrder_116 rfl ?_
                    refine g_ixor hX d_M_layOrder_117 ?_
                    refine g_iandX hX d_M_layOrder_118 ?_
                    refine g_istore2 hX d_M_layOrder_119 rfl (by decide) ?_
                    refine g_iincN1 hX d_M_layOrder_120 rfl (by decide) ?_
                    refine g_iincN5 hX d_M_layOrder_123 rfl (by decide) ?_
                    refine g_goto hX d_M_layOrder_126 ?_
                    refine g_loc (show _ = [.ref 89, .int (nI (extL g i o1 (v + 1)).length), .int (nI (sd x2 (1 <<< v))), .int (nI (i + 1)), .int (nI (gK g (gA o1 i))), .int (nI (v + 1))] by rw [e, List.length_append]; rfl) ?_
                    refine ih (v + 1) _ _ (by omega) (by omega) (q2.I (Or.inr rfl)) (fun u hu => by rw [rI_sI_ne _ _ _ (by decide)]; exact q3 u hu) ?_ ?_ ?_
                    · rw [e]; exact q4.snoc
                    · rw [e]; exact q5.snoc
                    · rw [e]; exact q6b
          refine g_aload0 hX d_M_layOrder_51 ?_
          refine g_getF hX d_M_layOrder_52 fl_M_13 (lv_89 _) ?_
          refine g_bipush (v := nI 26) hX d_M_layOrder_55 rfl ?_
          refine g_aload0 hX d_M_layOrder_57 ?_
          refine g_getF hX d_M_layOrder_58 fl_M_126 (lv_89 _) ?_
          refine g_iload3 hX d_M_layOrder_61 ?_
          refine g_iald hX d_M_layOrder_62 (lv_118 _) rfl (by omega) ?_
          refine g_topi (r6 i r2) ?_
          refine g_iaddN hX d_M_layOrder_63 ?_
          refine g_iald hX d_M_layOrder_64 (lv_91 _) rfl (by omega) ?_
          refine g_topi (hRk.k _ hoi) ?_
          refine g_istore4 hX d_M_layOrder_65 rfl (by decide) ?_
          refine g_iincN3 hX d_M_layOrder_67 rfl (by decide) ?_
          refine g_iconst (v := nI 0) hX d_M_layOrder_70 rfl ?_
          refine g_istore5 hX d_M_layOrder_71 rfl (by decide) ?_
          exact lpV (gV g + 1) 0 x1 wk1 (by omega) (Nat.zero_le _) r4 r5 r6 r7 r3
  
        refine g_iload3 hX d_M_layOrder_19 ?_
        refine g_iload1 hX d_M_layOrder_20 ?_
        refine g_icmpN_ne hX d_M_layOrder_21 (by omega) (by omega) (fun e21 => ?_) (fun e21 => ?_)
        · exact inner (ordK g c i) x wk (by unfold pickO; rw [if_neg (by omega)]) (by omega) q6 q2 q3 q4 q5
        · refine g_aload0 hX d_M_layOrder_24 ?_
          refine g_getF hX d_M_layOrder_25 fl_M_126 (lv_89 _) ?_
          refine g_iload1 hX d_M_layOrder_28 ?_
          refine g_aload0 hX d_M_layOrder_29 ?_
          refine g_iload2 hX d_M_layOrder_30 ?_
          refine g_callV (As := [_]) hX hF.1 d_M_layOrder_31 ml_M_508 cf_M_fewestOf cv_M_fewestOf rfl rfl (c_M_fewestOf (o := ordK g c i) hRk hW q3 hc q5) (rcv_obj hX (lv_89 _) rfl rfl) (by omega) (by omega) (by omega) (Nat.le_of_ble_eq_true rfl) ?_
          refine ret_k ?_
          refine g_topi (show fInt (fewO c (ordK g c i) (gV g)) = nI u by rw [hu]; rfl) ?_
          refine g_iast hX d_M_layOrder_34 (lv_118 _) rfl (by omega) ?_
          refine g_iload2 hX d_M_layOrder_35 ?_
          refine g_iconst (v := nI 1) hX d_M_layOrder_36 rfl ?_
          refine g_aload0 hX d_M_layOrder_37 ?_
          refine g_getF hX d_M_layOrder_38 fl_M_126 (lv_89 _) ?_
          refine g_iload1 hX d_M_layOrder_41 ?_
          refine g_iald hX d_M_layOrder_42 (lv_118 _) rfl (by omega) ?_
          refine g_topi (show rI (sI wk 118 (ordK g c i).length (nI u)) 118 (ordK g c i).length = nI u by rw [rI_sI, upd_eq, if_pos rfl]) ?_
          refine g_ishlN hX d_M_layOrder_43 (by omega) ?_
          refine g_iconst (v := -1) hX d_M_layOrder_44 rfl ?_
          refine g_ixor hX d_M_layOrder_45 ?_
          refine g_iandX hX d_M_layOrder_46 ?_
          refine g_istore2 hX d_M_layOrder_47 rfl (by decide) ?_
          refine g_iincN1 hX d_M_layOrder_48 rfl (by decide) ?_
          refine g_loc (show _ = [.ref 89, .int (nI (ordK g c i ++ [u]).length), .int (nI (sd x (1 <<< u))), .int (nI i), un, un] by rw [List.length_append]; rfl) ?_
          refine inner (ordK g c i ++ [u]) _ _ (by unfold pickO; rw [if_pos (by omega), hu]; rfl) (by rw [List.length_append, List.length_singleton]; omega) (q6.snoc hu1 hu2) (q2.I (Or.inr rfl)) (fun z hz => by rw [rI_sI_ne _ _ _ (by decide)]; exact q3 z hz) q4.snoc q5.snoc
  refine g_iconst (v := nI 0) hX d_M_layOrder_0 rfl ?_
  refine g_istore1 hX d_M_layOrder_1 rfl (by decide) ?_
  refine g_iconst (v := nI 1) hX d_M_layOrder_2 rfl ?_
  refine g_aload0 hX d_M_layOrder_3 ?_
  refine g_getF hX d_M_layOrder_4 fl_M_13 (lv_89 _) ?_
  refine g_iconst (v := nI 1) hX d_M_layOrder_7 rfl ?_
  refine g_iald hX d_M_layOrder_8 (lv_91 _) rfl (by decide) ?_
  refine g_topi hR.v ?_
  refine g_ishlN hX d_M_layOrder_9 (by omega) ?_
  refine g_iconst (v := nI 1) hX d_M_layOrder_10 rfl ?_
  refine g_isubN hX d_M_layOrder_11 (by rw [Nat.shiftLeft_eq]; have := Nat.two_pow_pos (gV g); omega) ?_
  refine g_istore2 hX d_M_layOrder_12 rfl (by decide) ?_
  refine g_iconst (v := nI 0) hX d_M_layOrder_13 rfl ?_
  refine g_istore3 hX d_M_layOrder_14 rfl (by decide) ?_
  exact lpO (gV g + 1) 0 _ w (by omega) (Nat.zero_le _) (FrC.rf w) hC (fun k hk => absurd hk (Nat.not_lt_zero _)) (LeftP.init hgv) ⟨by simp [ordK], by simp [ordK]⟩ (Nat.zero_le _)
