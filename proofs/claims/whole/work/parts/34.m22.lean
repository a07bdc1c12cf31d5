def m_M_fits : MR := (⟨"SubgraphDeskModel", "fits", "(II)Z"⟩, prog_14_method_83_code, 5, (some .boolean))
theorem cf_M_fits : CF m_M_fits 2 := ⟨gd 2030 (by decide +kernel) rfl, gd 151 (by decide +kernel) rfl, by decide +kernel, by decide, by decide +kernel⟩
theorem cv_M_fits : CV m_M_fits := ⟨gd 2029 (by decide +kernel) rfl, gd 110 (by decide +kernel) rfl⟩
theorem d_M_fits_0 : Dc prog_14_method_83_code 0 (.iconst 1) 1 1 := ⟨by decide +kernel, rfl⟩
theorem d_M_fits_1 : Dc prog_14_method_83_code 1 (.istore_n 3) 1 2 := ⟨by decide +kernel, rfl⟩
theorem d_M_fits_2 : Dc prog_14_method_83_code 2 (.iconst 0) 1 3 := ⟨by decide +kernel, rfl⟩
theorem d_M_fits_3 : Dc prog_14_method_83_code 3 (.istore 4) 2 5 := ⟨by decide +kernel, rfl⟩
theorem d_M_fits_5 : Dc prog_14_method_83_code 5 (.iload 4) 2 7 := ⟨by decide +kernel, rfl⟩
theorem d_M_fits_7 : Dc prog_14_method_83_code 7 (.iload_n 1) 1 8 := ⟨by decide +kernel, rfl⟩
theorem d_M_fits_8 : Dj prog_14_method_83_code 8 (.if_icmp .ge 66) 11 66 74 := ⟨by decide +kernel, rfl, rfl⟩
theorem d_M_fits_11 : Dc prog_14_method_83_code 11 (.iload_n 3) 1 12 := ⟨by decide +kernel, rfl⟩
theorem d_M_fits_12 : Dj prog_14_method_83_code 12 (.ifCond .eq 62) 15 62 74 := ⟨by decide +kernel, rfl, rfl⟩
theorem d_M_fits_15 : Dc prog_14_method_83_code 15 (.aload_n 0) 1 16 := ⟨by decide +kernel, rfl⟩
theorem d_M_fits_16 : Dc prog_14_method_83_code 16 (.getfield 111) 3 19 := ⟨by decide +kernel, rfl⟩
theorem d_M_fits_19 : Dc prog_14_method_83_code 19 (.iload 4) 2 21 := ⟨by decide +kernel, rfl⟩
theorem d_M_fits_21 : Dc prog_14_method_83_code 21 (.iaload) 1 22 := ⟨by decide +kernel, rfl⟩
theorem d_M_fits_22 : Dc prog_14_method_83_code 22 (.iload_n 2) 1 23 := ⟨by decide +kernel, rfl⟩
theorem d_M_fits_23 : Dj prog_14_method_83_code 23 (.if_icmp .eq 43) 26 43 66 := ⟨by decide +kernel, rfl, rfl⟩
theorem d_M_fits_26 : Dc prog_14_method_83_code 26 (.aload_n 0) 1 27 := ⟨by decide +kernel, rfl⟩
theorem d_M_fits_27 : Dc prog_14_method_83_code 27 (.getfield 13) 3 30 := ⟨by decide +kernel, rfl⟩
theorem d_M_fits_30 : Dc prog_14_method_83_code 30 (.bipush 26) 2 32 := ⟨by decide +kernel, rfl⟩
theorem d_M_fits_32 : Dc prog_14_method_83_code 32 (.iload_n 1) 1 33 := ⟨by decide +kernel, rfl⟩
theorem d_M_fits_33 : Dc prog_14_method_83_code 33 (.iadd) 1 34 := ⟨by decide +kernel, rfl⟩
theorem d_M_fits_34 : Dc prog_14_method_83_code 34 (.iaload) 1 35 := ⟨by decide +kernel, rfl⟩
theorem d_M_fits_35 : Dc prog_14_method_83_code 35 (.iload 4) 2 37 := ⟨by decide +kernel, rfl⟩
theorem d_M_fits_37 : Dc prog_14_method_83_code 37 (.invokestatic 468) 3 40 := ⟨by decide +kernel, rfl⟩
theorem d_M_fits_40 : Dj prog_14_method_83_code 40 (.ifCond .eq 22) 43 22 62 := ⟨by decide +kernel, rfl, rfl⟩
theorem d_M_fits_43 : Dc prog_14_method_83_code 43 (.aload_n 0) 1 44 := ⟨by decide +kernel, rfl⟩
theorem d_M_fits_44 : Dc prog_14_method_83_code 44 (.getfield 102) 3 47 := ⟨by decide +kernel, rfl⟩
theorem d_M_fits_47 : Dc prog_14_method_83_code 47 (.iload_n 2) 1 48 := ⟨by decide +kernel, rfl⟩
theorem d_M_fits_48 : Dc prog_14_method_83_code 48 (.iaload) 1 49 := ⟨by decide +kernel, rfl⟩
theorem d_M_fits_49 : Dc prog_14_method_83_code 49 (.aload_n 0) 1 50 := ⟨by decide +kernel, rfl⟩
theorem d_M_fits_50 : Dc prog_14_method_83_code 50 (.getfield 111) 3 53 := ⟨by decide +kernel, rfl⟩
theorem d_M_fits_53 : Dc prog_14_method_83_code 53 (.iload 4) 2 55 := ⟨by decide +kernel, rfl⟩
theorem d_M_fits_55 : Dc prog_14_method_83_code 55 (.iaload) 1 56 := ⟨by decide +kernel, rfl⟩
theorem d_M_fits_56 : Dc prog_14_method_83_code 56 (.invokestatic 468) 3 59 := ⟨by decide +kernel, rfl⟩
theorem d_M_fits_59 : Dj prog_14_method_83_code 59 (.ifCond .eq 7) 62 7 66 := ⟨by decide +kernel, rfl, rfl⟩
theorem d_M_fits_62 : Dc prog_14_method_83_code 62 (.iconst 1) 1 63 := ⟨by decide +kernel, rfl⟩
theorem d_M_fits_63 : Dj prog_14_method_83_code 63 (.goto 4) 66 4 67 := ⟨by decide +kernel, rfl, rfl⟩
theorem d_M_fits_66 : Dc prog_14_method_83_code 66 (.iconst 0) 1 67 := ⟨by decide +kernel, rfl⟩
theorem d_M_fits_67 : Dc prog_14_method_83_code 67 (.istore_n 3) 1 68 := ⟨by decide +kernel, rfl⟩
theorem d_M_fits_68 : Dc prog_14_method_83_code 68 (.iinc 4 1) 3 71 := ⟨by decide +kernel, rfl⟩
theorem d_M_fits_71 : Dj prog_14_method_83_code 71 (.goto (-66)) 74 (-66) 5 := ⟨by decide +kernel, rfl, rfl⟩
theorem d_M_fits_74 : Dc prog_14_method_83_code 74 (.iload_n 3) 1 75 := ⟨by decide +kernel, rfl⟩
theorem d_M_fits_75 : Dc prog_14_method_83_code 75 (.ireturn) 1 76 := ⟨by decide +kernel, rfl⟩
theorem fl_M_111 : FL "SubgraphDeskModel" 111 12 44 true (.array .int) (3, 24) := ⟨R_M, F_M, 69, ty_M, rfl, rfl, in_M, tyok_M, nm_M, by decide, gd 1516 (by decide +kernel) rfl, rfl, rfl, rfl⟩
theorem ml_M_468 : Cond.methodLink "SubgraphDeskModel" 468 m_M_is.1 ∈ lw_gd := gd 2024 (by decide +kernel) rfl
/-- vertex v at node n goes with the first u of those that lie -/
def fitN (g : GC) (q : List Nat) (v n : Nat) : Nat → Bool
  | 0 => true
  | u + 1 => fitN g q v n u && (!decide (gA q u = n) && (!(gK g v).testBit u || (nearB (gE g) n).testBit (gA q u)))
theorem fitN_no {g : GC} {q : List Nat} {v n u : Nat} (h : fitN g q v n u = false) : ∀ m, u ≤ m → fitN g q v n m = false
  | 0, hm => by rw [← h]; congr 1; omega
  | m + 1, hm => by
    by_cases e : u = m + 1
    · rw [← e]; exact h
    · unfold fitN
      rw [fitN_no h m (by omega), Bool.false_and]
theorem fit_a {g : GC} {q : List Nat} {v n u : Nat} (h : gA q u = n) : fitN g q v n (u + 1) = false := by unfold fitN; simp [h]
theorem fit_b {g : GC} {q : List Nat} {v n u : Nat} (h0 : fitN g q v n u = true) (h : ¬ gA q u = n) (h2 : ¬ (gK g v).testBit u = true) : fitN g q v n (u + 1) = true := by unfold fitN; simp [h0, h, h2]
theorem fit_c {g : GC} {q : List Nat} {v n u : Nat} (h0 : fitN g q v n u = true) (h : ¬ gA q u = n) (h2 : (nearB (gE g) n).testBit (gA q u) = true) : fitN g q v n (u + 1) = true := by unfold fitN; simp [h0, h, h2]
theorem fit_d {g : GC} {q : List Nat} {v n u : Nat} (h : (gK g v).testBit u = true) (h2 : ¬ (nearB (gE g) n).testBit (gA q u) = true) : fitN g q v n (u + 1) = false := by unfold fitN; simp [h, h2]
theorem c_M_fits {E : EV} {w : Mem} {g : GC} (hR : MRow (rI w 91) g) (hW : WG g) (hNr : NearP w g) {v n : Nat} {q : List Nat} (hv : v < gV g) (hn : n < gN g) (hl : ∀ u, u < v → rI w 113 u = nI (gA q u) ∧ gA q u < 12) : T E m_M_fits 2 0 0 [.ref 89, .int (nI v), .int (nI n)] w (Ret (some (.int (b2i (fitN g q v n v = true)))) w) := by
  refine T_of (L := [.ref 89, .int (nI v), .int (nI n), un, un]) cf_M_fits rfl (Nat.le_of_ble_eq_true rfl) (fun X hX hF => ?_)
  have hgn := hW.n
  have hgv := hW.v
  have k0 : ∀ u, u ≤ v → fitN g q v n u = false → G0 E X 0 0 5 [.ref 89, .int (nI v), .int (nI n), .int (nI 0), .int (nI u)] [] w := by
    intro u hu hf
    refine g_iload4 hX d_M_fits_5 ?_
    refine g_iload1 hX d_M_fits_7 ?_
    refine g_icmpN_ge hX d_M_fits_8 (by omega) (by omega) (fun c0 => ?_) (fun c0 => ?_)
    · refine g_iload3 hX d_M_fits_74 ?_
      refine g_zret hX hF d_M_fits_75 (Or.inl rfl) (by omega) (by omega) ?_
      exact ⟨by rw [b2i_f (by rw [fitN_no hf v hu]; decide)]; rfl, rfl⟩
    · refine g_iload3 hX d_M_fits_11 ?_
      refine g_if_eq hX d_M_fits_12 (fun c1 => ?_) (fun h => absurd rfl h)
      refine g_iload3 hX d_M_fits_74 ?_
      refine g_zret hX hF d_M_fits_75 (Or.inl rfl) (by omega) (by omega) ?_
      exact ⟨by rw [b2i_f (by rw [fitN_no hf v hu]; decide)]; rfl, rfl⟩
  have lp : ∀ (fuel : Nat) (u : Nat), v - u < fuel → (u ≤ v) → (fitN g q v n u = true) → G0 E X 0 0 5 [.ref 89, .int (nI v), .int (nI n), .int (nI 1), .int (nI u)] [] w := by
    intro fuel
    induction fuel with
    | zero => intro u q0; exact absurd q0 (Nat.not_lt_zero _)
    | succ fuel ih =>
      intro u q0 q1 q2
      refine g_iload4 hX d_M_fits_5 ?_
      refine g_iload1 hX d_M_fits_7 ?_
      refine g_icmpN_ge hX d_M_fits_8 (by omega) (by omega) (fun c0 => ?_) (fun c0 => ?_)
      · refine g_iload3 hX d_M_fits_74 ?_
        refine g_zret hX hF d_M_fits_75 (Or.inr rfl) (by omega) (by omega) ?_
        exact ⟨by rw [b2i_t (by rw [← q2]; congr 1; omega)]; rfl, rfl⟩
      · have hlu := hl u (by omega)
        have hk := hW.k32 hv
        have hnb := near_w hW n
        refine g_iload3 hX d_M_fits_11 ?_
        refine g_if_eq hX d_M_fits_12 (fun h => absurd h (by decide)) (fun c1 => ?_)
        refine g_aload0 hX d_M_fits_15 ?_
        refine g_getF hX d_M_fits_16 fl_M_111 (lv_89 _) ?_
        refine g_iload4 hX d_M_fits_19 ?_
        refine g_iald hX d_M_fits_21 (lv_113 _) rfl (by omega) ?_
        refine g_topi (show rI w 113 u = nI (gA q u) from (hl u (by omega)).1) ?_
        refine g_iload2 hX d_M_fits_22 ?_
        refine g_icmpN_eq hX d_M_fits_23 (by omega) (by omega) (fun e23 => ?_) (fun e23 => ?_)
        · refine g_iconst (v := nI 0) hX d_M_fits_66 rfl ?_
          refine g_istore3 hX d_M_fits_67 rfl (by decide) ?_
          refine g_iincN4 hX d_M_fits_68 rfl (by decide) ?_
          refine g_goto hX d_M_fits_71 ?_
          exact k0 (u + 1) (by omega) (fit_a e23)
        · refine g_aload0 hX d_M_fits_26 ?_
          refine g_getF hX d_M_fits_27 fl_M_13 (lv_89 _) ?_
          refine g_bipush (v := nI 26) hX d_M_fits_30 rfl ?_
          refine g_iload1 hX d_M_fits_32 ?_
          refine g_iaddN hX d_M_fits_33 ?_
          refine g_iald hX d_M_fits_34 (lv_91 _) rfl (by omega) ?_
          refine g_topi (hR.k v hv) ?_
          refine g_iload4 hX d_M_fits_35 ?_
          refine g_callS (As := [_, _]) hX hF.1 d_M_fits_37 ml_M_468 cf_M_is cs_M_is rfl (c_M_is (by omega) (by omega)) (by omega) (by omega) (by omega) (Nat.le_of_ble_eq_true rfl) ?_
          refine ret_k ?_
          refine g_ifB_eq hX d_M_fits_40 (fun e40 => ?_) (fun e40 => ?_)
          · refine g_iconst (v := nI 1) hX d_M_fits_62 rfl ?_
            refine g_goto hX d_M_fits_63 ?_
            refine g_istore3 hX d_M_fits_67 rfl (by decide) ?_
            refine g_iincN4 hX d_M_fits_68 rfl (by decide) ?_
            refine g_goto hX d_M_fits_71 ?_
            exact ih (u + 1) (by omega) (by omega) (fit_b q2 e23 e40)
          · refine g_aload0 hX d_M_fits_43 ?_
            refine g_getF hX d_M_fits_44 fl_M_102 (lv_89 _) ?_
            refine g_iload2 hX d_M_fits_47 ?_
            refine g_iald hX d_M_fits_48 (lv_110 _) rfl (by omega) ?_
            refine g_topi (hNr n hn) ?_
            refine g_aload0 hX d_M_fits_49 ?_
            refine g_getF hX d_M_fits_50 fl_M_111 (lv_89 _) ?_
            refine g_iload4 hX d_M_fits_53 ?_
            refine g_iald hX d_M_fits_55 (lv_113 _) rfl (by omega) ?_
            refine g_topi (show rI w 113 u = nI (gA q u) from (hl u (by omega)).1) ?_
            refine g_callS (As := [_, _]) hX hF.1 d_M_fits_56 ml_M_468 cf_M_is cs_M_is rfl (c_M_is (by omega) (by omega)) (by omega) (by omega) (by omega) (Nat.le_of_ble_eq_true rfl) ?_
            refine ret_k ?_
            refine g_ifB_eq hX d_M_fits_59 (fun e59 => ?_) (fun e59 => ?_)
            · refine g_iconst (v := nI 0) hX d_M_fits_66 rfl ?_
              refine g_istore3 hX d_M_fits_67 rfl (by decide) ?_
              refine g_iincN4 hX d_M_fits_68 rfl (by decide) ?_
              refine g_goto hX d_M_fits_71 ?_
              exact k0 (u + 1) (by omega) (fit_d e40 e59)
            · refine g_iconst (v := nI 1) hX d_M_fits_62 rfl ?_
              refine g_goto hX d_M_fits_63 ?_
              refine g_istore3 hX d_M_fits_67 rfl (by decide) ?_
              refine g_iincN4 hX d_M_fits_68 rfl (by decide) ?_
              refine g_goto hX d_M_fits_71 ?_
              exact ih (u + 1) (by omega) (by omega) (fit_c q2 e23 e59)
  refine g_iconst (v := nI 1) hX d_M_fits_0 rfl ?_
  refine g_istore3 hX d_M_fits_1 rfl (by decide) ?_
  refine g_iconst (v := nI 0) hX d_M_fits_2 rfl ?_
  refine g_istore4 hX d_M_fits_3 rfl (by decide) ?_
  exact lp (v + 1) 0 (by omega) (by omega) rfl
