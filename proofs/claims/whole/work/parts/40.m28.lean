def m_M_leastCost : MR := (⟨"SubgraphDeskModel", "leastCost", "()I"⟩, prog_14_method_95_code, 4, (some .int))
theorem cf_M_leastCost : CF m_M_leastCost 0 := ⟨gd 2070 (by decide +kernel) rfl, gd 151 (by decide +kernel) rfl, by decide +kernel, by decide, by decide +kernel⟩
theorem cv_M_leastCost : CV m_M_leastCost := ⟨gd 2069 (by decide +kernel) rfl, gd 115 (by decide +kernel) rfl⟩
theorem d_M_leastCost_0 : Dc prog_14_method_95_code 0 (.ldc_w 498) 3 3 := ⟨by decide +kernel, rfl⟩
theorem d_M_leastCost_3 : Dc prog_14_method_95_code 3 (.istore_n 1) 1 4 := ⟨by decide +kernel, rfl⟩
theorem d_M_leastCost_4 : Dc prog_14_method_95_code 4 (.aload_n 0) 1 5 := ⟨by decide +kernel, rfl⟩
theorem d_M_leastCost_5 : Dc prog_14_method_95_code 5 (.invokevirtual 474) 3 8 := ⟨by decide +kernel, rfl⟩
theorem d_M_leastCost_8 : Dc prog_14_method_95_code 8 (.aload_n 0) 1 9 := ⟨by decide +kernel, rfl⟩
theorem d_M_leastCost_9 : Dc prog_14_method_95_code 9 (.invokevirtual 477) 3 12 := ⟨by decide +kernel, rfl⟩
theorem d_M_leastCost_12 : Dj prog_14_method_95_code 12 (.ifCond .eq 82) 15 82 94 := ⟨by decide +kernel, rfl, rfl⟩
theorem d_M_leastCost_15 : Dc prog_14_method_95_code 15 (.iconst 0) 1 16 := ⟨by decide +kernel, rfl⟩
theorem d_M_leastCost_16 : Dc prog_14_method_95_code 16 (.istore_n 2) 1 17 := ⟨by decide +kernel, rfl⟩
theorem d_M_leastCost_17 : Dc prog_14_method_95_code 17 (.iconst 0) 1 18 := ⟨by decide +kernel, rfl⟩
theorem d_M_leastCost_18 : Dc prog_14_method_95_code 18 (.istore_n 3) 1 19 := ⟨by decide +kernel, rfl⟩
theorem d_M_leastCost_19 : Dc prog_14_method_95_code 19 (.iload_n 3) 1 20 := ⟨by decide +kernel, rfl⟩
theorem d_M_leastCost_20 : Dc prog_14_method_95_code 20 (.aload_n 0) 1 21 := ⟨by decide +kernel, rfl⟩
theorem d_M_leastCost_21 : Dc prog_14_method_95_code 21 (.getfield 13) 3 24 := ⟨by decide +kernel, rfl⟩
theorem d_M_leastCost_24 : Dc prog_14_method_95_code 24 (.iconst 1) 1 25 := ⟨by decide +kernel, rfl⟩
theorem d_M_leastCost_25 : Dc prog_14_method_95_code 25 (.iaload) 1 26 := ⟨by decide +kernel, rfl⟩
theorem d_M_leastCost_26 : Dj prog_14_method_95_code 26 (.if_icmp .ge 28) 29 28 54 := ⟨by decide +kernel, rfl, rfl⟩
theorem d_M_leastCost_29 : Dc prog_14_method_95_code 29 (.iload_n 2) 1 30 := ⟨by decide +kernel, rfl⟩
theorem d_M_leastCost_30 : Dc prog_14_method_95_code 30 (.aload_n 0) 1 31 := ⟨by decide +kernel, rfl⟩
theorem d_M_leastCost_31 : Dc prog_14_method_95_code 31 (.getfield 108) 3 34 := ⟨by decide +kernel, rfl⟩
theorem d_M_leastCost_34 : Dc prog_14_method_95_code 34 (.bipush 12) 2 36 := ⟨by decide +kernel, rfl⟩
theorem d_M_leastCost_36 : Dc prog_14_method_95_code 36 (.iload_n 3) 1 37 := ⟨by decide +kernel, rfl⟩
theorem d_M_leastCost_37 : Dc prog_14_method_95_code 37 (.imul) 1 38 := ⟨by decide +kernel, rfl⟩
theorem d_M_leastCost_38 : Dc prog_14_method_95_code 38 (.aload_n 0) 1 39 := ⟨by decide +kernel, rfl⟩
theorem d_M_leastCost_39 : Dc prog_14_method_95_code 39 (.getfield 111) 3 42 := ⟨by decide +kernel, rfl⟩
theorem d_M_leastCost_42 : Dc prog_14_method_95_code 42 (.iload_n 3) 1 43 := ⟨by decide +kernel, rfl⟩
theorem d_M_leastCost_43 : Dc prog_14_method_95_code 43 (.iaload) 1 44 := ⟨by decide +kernel, rfl⟩
theorem d_M_leastCost_44 : Dc prog_14_method_95_code 44 (.iadd) 1 45 := ⟨by decide +kernel, rfl⟩
theorem d_M_leastCost_45 : Dc prog_14_method_95_code 45 (.iaload) 1 46 := ⟨by decide +kernel, rfl⟩
theorem d_M_leastCost_46 : Dc prog_14_method_95_code 46 (.iadd) 1 47 := ⟨by decide +kernel, rfl⟩
theorem d_M_leastCost_47 : Dc prog_14_method_95_code 47 (.istore_n 2) 1 48 := ⟨by decide +kernel, rfl⟩
theorem d_M_leastCost_48 : Dc prog_14_method_95_code 48 (.iinc 3 1) 3 51 := ⟨by decide +kernel, rfl⟩
theorem d_M_leastCost_51 : Dj prog_14_method_95_code 51 (.goto (-32)) 54 (-32) 19 := ⟨by decide +kernel, rfl, rfl⟩
theorem d_M_leastCost_54 : Dc prog_14_method_95_code 54 (.iload_n 2) 1 55 := ⟨by decide +kernel, rfl⟩
theorem d_M_leastCost_55 : Dc prog_14_method_95_code 55 (.iload_n 1) 1 56 := ⟨by decide +kernel, rfl⟩
theorem d_M_leastCost_56 : Dj prog_14_method_95_code 56 (.if_icmp .ge 35) 59 35 91 := ⟨by decide +kernel, rfl, rfl⟩
theorem d_M_leastCost_59 : Dc prog_14_method_95_code 59 (.iload_n 2) 1 60 := ⟨by decide +kernel, rfl⟩
theorem d_M_leastCost_60 : Dc prog_14_method_95_code 60 (.istore_n 1) 1 61 := ⟨by decide +kernel, rfl⟩
theorem d_M_leastCost_61 : Dc prog_14_method_95_code 61 (.iconst 0) 1 62 := ⟨by decide +kernel, rfl⟩
theorem d_M_leastCost_62 : Dc prog_14_method_95_code 62 (.istore_n 3) 1 63 := ⟨by decide +kernel, rfl⟩
theorem d_M_leastCost_63 : Dc prog_14_method_95_code 63 (.iload_n 3) 1 64 := ⟨by decide +kernel, rfl⟩
theorem d_M_leastCost_64 : Dc prog_14_method_95_code 64 (.aload_n 0) 1 65 := ⟨by decide +kernel, rfl⟩
theorem d_M_leastCost_65 : Dc prog_14_method_95_code 65 (.getfield 13) 3 68 := ⟨by decide +kernel, rfl⟩
theorem d_M_leastCost_68 : Dc prog_14_method_95_code 68 (.iconst 1) 1 69 := ⟨by decide +kernel, rfl⟩
theorem d_M_leastCost_69 : Dc prog_14_method_95_code 69 (.iaload) 1 70 := ⟨by decide +kernel, rfl⟩
theorem d_M_leastCost_70 : Dj prog_14_method_95_code 70 (.if_icmp .ge 21) 73 21 91 := ⟨by decide +kernel, rfl, rfl⟩
theorem d_M_leastCost_73 : Dc prog_14_method_95_code 73 (.aload_n 0) 1 74 := ⟨by decide +kernel, rfl⟩
theorem d_M_leastCost_74 : Dc prog_14_method_95_code 74 (.getfield 120) 3 77 := ⟨by decide +kernel, rfl⟩
theorem d_M_leastCost_77 : Dc prog_14_method_95_code 77 (.iload_n 3) 1 78 := ⟨by decide +kernel, rfl⟩
theorem d_M_leastCost_78 : Dc prog_14_method_95_code 78 (.aload_n 0) 1 79 := ⟨by decide +kernel, rfl⟩
theorem d_M_leastCost_79 : Dc prog_14_method_95_code 79 (.getfield 111) 3 82 := ⟨by decide +kernel, rfl⟩
theorem d_M_leastCost_82 : Dc prog_14_method_95_code 82 (.iload_n 3) 1 83 := ⟨by decide +kernel, rfl⟩
theorem d_M_leastCost_83 : Dc prog_14_method_95_code 83 (.iaload) 1 84 := ⟨by decide +kernel, rfl⟩
theorem d_M_leastCost_84 : Dc prog_14_method_95_code 84 (.iastore) 1 85 := ⟨by decide +kernel, rfl⟩
theorem d_M_leastCost_85 : Dc prog_14_method_95_code 85 (.iinc 3 1) 3 88 := ⟨by decide +kernel, rfl⟩
theorem d_M_leastCost_88 : Dj prog_14_method_95_code 88 (.goto (-25)) 91 (-25) 63 := ⟨by decide +kernel, rfl, rfl⟩
theorem d_M_leastCost_91 : Dj prog_14_method_95_code 91 (.goto (-83)) 94 (-83) 8 := ⟨by decide +kernel, rfl, rfl⟩
theorem d_M_leastCost_94 : Dc prog_14_method_95_code 94 (.iload_n 1) 1 95 := ⟨by decide +kernel, rfl⟩
theorem d_M_leastCost_95 : Dc prog_14_method_95_code 95 (.ldc_w 498) 3 98 := ⟨by decide +kernel, rfl⟩
theorem d_M_leastCost_98 : Dj prog_14_method_95_code 98 (.if_icmp .ne 7) 101 7 105 := ⟨by decide +kernel, rfl, rfl⟩
theorem d_M_leastCost_101 : Dc prog_14_method_95_code 101 (.iconst (-1)) 1 102 := ⟨by decide +kernel, rfl⟩
theorem d_M_leastCost_102 : Dj prog_14_method_95_code 102 (.goto 4) 105 4 106 := ⟨by decide +kernel, rfl, rfl⟩
theorem d_M_leastCost_105 : Dc prog_14_method_95_code 105 (.iload_n 1) 1 106 := ⟨by decide +kernel, rfl⟩
theorem d_M_leastCost_106 : Dc prog_14_method_95_code 106 (.ireturn) 1 107 := ⟨by decide +kernel, rfl⟩
theorem fl_M_120 : FL "SubgraphDeskModel" 120 12 49 true (.array .int) (3, 27) := ⟨R_M, F_M, 69, ty_M, rfl, rfl, in_M, tyok_M, nm_M, by decide, gd 1521 (by decide +kernel) rfl, rfl, rfl, rfl⟩
theorem k_M_498 : Cond.constant "SubgraphDeskModel" 498 (100000000) ∈ lw_gd := gd 2071 (by decide +kernel) rfl
/-- what a way costs -/
def costN (g : GC) (q : List Nat) : Nat → Nat
  | 0 => 0
  | v + 1 => costN g q v + gCost g v (gA q v)
theorem costN_le (g : GC) (q : List Nat) : ∀ v, costN g q v ≤ 99 * v
  | 0 => Nat.le_refl _
  | v + 1 => by
    have := costN_le g q v
    have := gCost_le g v (gA q v)
    unfold costN
    omega
/-- the cheapest of the ways, the first of them that cost so little -/
def bestF (g : GC) (b : Nat × List Nat) (q : List Nat) : Nat × List Nat := if costN g q (gV g) < b.1 then (costN g q (gV g), q) else b
def bestG (g : GC) : Nat × List Nat := (waysL g).foldl (bestF g) (100000000, [])
def leastI (g : GC) : Int32 := if (bestG g).1 = 100000000 then -1 else nI (bestG g).1
theorem c_M_leastCost {E : EV} {w : Mem} {g : GC} (hG : MG w g) (hW : WG g) : T E m_M_leastCost 7 0 0 [.ref 89] w (fun r w2 => r = some (.int (leastI g)) ∧ Scr w w2 ∧ ((bestG g).1 ≠ 100000000 → ∀ v, v < gV g → rI w2 116 v = nI (gA (bestG g).2 v))) := by
  refine T_of (L := [.ref 89, un, un, un]) cf_M_leastCost rfl (Nat.le_of_ble_eq_true rfl) (fun X hX hF => ?_)
  have hgn := hW.n
  have hgv := hW.v
  have lpW : ∀ (fuel : Nat) (ws : List (List Nat)) (b : Nat × List Nat) (wk : Mem), ws.length < fuel → (Scr w wk) → (Laid wk g) → (ItW wk g ws) → (ws.foldl (bestF g) b = bestG g) → (b.1 ≤ 100000000) → (b.1 ≠ 100000000 → ∀ v, v < gV g → rI wk 116 v = nI (gA b.2 v)) → G0 E X 0 0 8 [.ref 89, .int (nI b.1), un, un] [] wk := by
    intro fuel
    induction fuel with
    | zero => intro ws b wk q0; exact absurd q0 (Nat.not_lt_zero _)
    | succ fuel ih =>
      intro ws b wk q0 q1 q2 q3 q4 q5 q6
      refine g_aload0 hX d_M_leastCost_8 ?_
      refine g_callV (As := []) hX hF.1 d_M_leastCost_9 ml_M_477 cf_M_isWay cv_M_isWay rfl rfl (c_M_isWay (hG.scr q1) hW q2 q3) (rcv_obj hX (lv_89 _) rfl rfl) (by omega) (by omega) (by omega) (Nat.le_of_ble_eq_true rfl) ?_
      rintro _ w2 ⟨hf, hp⟩
      obtain ⟨x, rfl, hx⟩ := hp.c
      show G0 _ _ _ _ _ _ _ _
      refine g_if_eq hX d_M_leastCost_12 (fun e12 => ?_) (fun e12 => ?_)
      · have e_ : ws = [] := by
          rcases hx with hx | hx
          · exact hx.2
          · exact absurd (hx.1.symm.trans e12) (by decide)
        have hbb : b = bestG g := by rw [← q4, e_]; rfl
        refine g_iload1 hX d_M_leastCost_94 ?_
        refine g_ldc_w (v := nI 100000000) hX d_M_leastCost_95 k_M_498 rfl ?_
        refine g_icmpN_ne hX d_M_leastCost_98 (by omega) (by omega) (fun e98 => ?_) (fun e98 => ?_)
        · refine g_iload1 hX d_M_leastCost_105 ?_
          refine g_iret hX hF d_M_leastCost_106 (by omega) (by omega) ?_
          refine ⟨?_, q1.tr hf.S, fun h1 j hj => ?_⟩
          · unfold leastI
            rw [← hbb]
            first
              | rw [if_pos e98]
              | rw [if_neg e98]
              | rw [if_pos (nI_inj (by omega) (by decide) e98)]
              | rw [if_neg (fun z => e98 (by rw [z]))]
          · rw [← hbb] at h1 ⊢
            rw [hf.1 116 (by decide) (by decide)]
            exact q6 h1 j hj
        · refine g_iconst (v := -1) hX d_M_leastCost_101 rfl ?_
          refine g_goto hX d_M_leastCost_102 ?_
          refine g_iret hX hF d_M_leastCost_106 (by omega) (by omega) ?_
          refine ⟨?_, q1.tr hf.S, fun h1 j hj => ?_⟩
          · unfold leastI
            rw [← hbb]
            first
              | rw [if_pos e98]
              | rw [if_neg e98]
              | rw [if_pos (nI_inj (by omega) (by decide) e98)]
              | rw [if_neg (fun z => e98 (by rw [z]))]
          · rw [← hbb] at h1 ⊢
            rw [hf.1 116 (by decide) (by decide)]
            exact q6 h1 j hj
      · obtain ⟨q, t, hqt, ql, qn, qL, qI⟩ : ∃ q t, ws = q :: t ∧ q.length = gV g ∧ (∀ n ∈ q, n < gN g) ∧ LieP w2 q ∧ ItW w2 g t := by
          rcases hx with hx | hx
          · exact absurd hx.1 e12
          · exact hx.2
        have hl : ws.length = t.length + 1 := by rw [hqt]; rfl
        have hS2 := q1.tr hf.S
        have q2' := q2.I hf
        have q4' := q4
        have q5' := q5
        have q6' := q6
        have ihW := ih
        have lpS : ∀ (fuel : Nat) (v : Nat), gV g - v < fuel → (v ≤ gV g) → G0 E X 0 0 19 [.ref 89, .int (nI b.1), .int (nI (costN g q v)), .int (nI v)] [] w2 := by
          intro fuel
          induction fuel with
          | zero => intro v q0; exact absurd q0 (Nat.not_lt_zero _)
          | succ fuel ih =>
            intro v q0 q1
            refine g_iload3 hX d_M_leastCost_19 ?_
            refine g_aload0 hX d_M_leastCost_20 ?_
            refine g_getF hX d_M_leastCost_21 fl_M_13 (lv_89 _) ?_
            refine g_iconst (v := nI 1) hX d_M_leastCost_24 rfl ?_
            refine g_iald hX d_M_leastCost_25 (lv_91 _) rfl (by decide) ?_
            refine g_topi (show rI w2 91 1 = nI (gV g) from (hG.scr hS2).1.v) ?_
            refine g_icmpN_ge hX d_M_leastCost_26 (by omega) (by omega) (fun c0 => ?_) (fun c0 => ?_)
            · have hve : v = gV g := by omega
              have hcl := costN_le g q v
              refine g_iload2 hX d_M_leastCost_54 ?_
              refine g_iload1 hX d_M_leastCost_55 ?_
              refine g_icmpN_ge hX d_M_leastCost_56 (by omega) (by omega) (fun e54 => ?_) (fun e54 => ?_)
              · rw [hve] at e54
                refine g_goto hX d_M_leastCost_91 ?_
                refine g_fget 2 ?_
                refine g_fget 3 ?_
                exact ihW t b w2 (by omega) hS2 q2' qI (by rw [← q4', hqt, List.foldl_cons, bestF, if_neg (by omega)]) q5' (fun h1 j hj => by rw [hf.1 116 (by decide) (by decide)]; exact q6' h1 j hj)
              · rw [hve] at e54
                rw [hve]
                have lpC : ∀ (fuel : Nat) (v : Nat) (f : Nat → Int32), gV g - v < fuel → (v ≤ gV g) → (∀ j, j < v → f j = nI (gA q j)) → G0 E X 0 0 63 [.ref 89, .int (nI (costN g q (gV g))), .int (nI (costN g q (gV g))), .int (nI v)] [] (sA w2 116 f) := by
                  intro fuel
                  induction fuel with
                  | zero => intro v f q0; exact absurd q0 (Nat.not_lt_zero _)
                  | succ fuel ih =>
                    intro v f q0 q1 q2
                    refine g_iload3 hX d_M_leastCost_63 ?_
                    refine g_aload0 hX d_M_leastCost_64 ?_
                    refine g_getF hX d_M_leastCost_65 fl_M_13 (lv_89 _) ?_
                    refine g_iconst (v := nI 1) hX d_M_leastCost_68 rfl ?_
                    refine g_iald hX d_M_leastCost_69 (lv_91 _) rfl (by decide) ?_
                    refine g_topi (show rI w2 91 1 = nI (gV g) from (hG.scr hS2).1.v) ?_
                    refine g_icmpN_ge hX d_M_leastCost_70 (by omega) (by omega) (fun c0 => ?_) (fun c0 => ?_)
                    · refine g_goto hX d_M_leastCost_91 ?_
                      refine g_fget 2 ?_
                      refine g_fget 3 ?_
                      refine ihW t (costN g q (gV g), q) _ (by omega) ((hS2).A (by decide)) ?_ ?_ ?_ (by have := costN_le g q (gV g); show costN g q (gV g) ≤ 100000000; omega) (fun _ j hj => ?_)
                      · exact (q2' : Laid w2 g)
                      · exact qI
                      · rw [← q4', hqt, List.foldl_cons, bestF, if_pos e54]
                      · rw [rI_sA]; exact q2 j (by omega)
                    · refine g_aload0 hX d_M_leastCost_73 ?_
                      refine g_getF hX d_M_leastCost_74 fl_M_120 (lv_89 _) ?_
                      refine g_iload3 hX d_M_leastCost_77 ?_
                      refine g_aload0 hX d_M_leastCost_78 ?_
                      refine g_getF hX d_M_leastCost_79 fl_M_111 (lv_89 _) ?_
                      refine g_iload3 hX d_M_leastCost_82 ?_
                      refine g_iald hX d_M_leastCost_83 (lv_113 _) rfl (by omega) ?_
                      refine g_topi (show rI w2 113 v = nI (gA q v) from qL v (by omega)) ?_
                      refine g_iast hX d_M_leastCost_84 (lv_116 _) rfl (by omega) ?_
                      refine g_iincN3 hX d_M_leastCost_85 rfl (by decide) ?_
                      refine g_goto hX d_M_leastCost_88 ?_
                      rw [sI_sA]
                      refine ih (v + 1) _ (by omega) (by omega) (fun j hj => ?_)
                      rw [upd_eq]
                      by_cases e : j = v
                      · rw [if_pos e, e]
                      · rw [if_neg e]; exact q2 j (by omega)
                refine g_iload2 hX d_M_leastCost_59 ?_
                refine g_istore1 hX d_M_leastCost_60 rfl (by decide) ?_
                refine g_iconst (v := nI 0) hX d_M_leastCost_61 rfl ?_
                refine g_istore3 hX d_M_leastCost_62 rfl (by decide) ?_
                refine g_mem (show w2 = sA w2 116 (rI w2 116) from (sA_self _ _).symm) ?_
                exact lpC (gV g + 1) 0 _ (by omega) (Nat.zero_le _) (fun j hj => absurd hj (Nat.not_lt_zero _))
            · have hqv : gA q v < gN g := qn _ (gA_mem (by omega))
              refine g_iload2 hX d_M_leastCost_29 ?_
              refine g_aload0 hX d_M_leastCost_30 ?_
              refine g_getF hX d_M_leastCost_31 fl_M_108 (lv_89 _) ?_
              refine g_bipush (v := nI 12) hX d_M_leastCost_34 rfl ?_
              refine g_iload3 hX d_M_leastCost_36 ?_
              refine g_imulN hX d_M_leastCost_37 ?_
              refine g_aload0 hX d_M_leastCost_38 ?_
              refine g_getF hX d_M_leastCost_39 fl_M_111 (lv_89 _) ?_
              refine g_iload3 hX d_M_leastCost_42 ?_
              refine g_iald hX d_M_leastCost_43 (lv_113 _) rfl (by omega) ?_
              refine g_topi (qL v (by omega)) ?_
              refine g_iaddN hX d_M_leastCost_44 ?_
              refine g_iald hX d_M_leastCost_45 (lv_112 _) rfl (by omega) ?_
              refine g_topi (q2'.2.2 v (by omega) _ hqv) ?_
              refine g_iaddN hX d_M_leastCost_46 ?_
              refine g_istore2 hX d_M_leastCost_47 rfl (by decide) ?_
              refine g_iincN3 hX d_M_leastCost_48 rfl (by decide) ?_
              refine g_goto hX d_M_leastCost_51 ?_
              exact ih (v + 1) (by omega) (by omega)
        refine g_iconst (v := nI 0) hX d_M_leastCost_15 rfl ?_
        refine g_istore2 hX d_M_leastCost_16 rfl (by decide) ?_
        refine g_iconst (v := nI 0) hX d_M_leastCost_17 rfl ?_
        refine g_istore3 hX d_M_leastCost_18 rfl (by decide) ?_
        exact lpS (gV g + 1) 0 (by omega) (Nat.zero_le _)
  refine g_ldc_w (v := nI 100000000) hX d_M_leastCost_0 k_M_498 rfl ?_
  refine g_istore1 hX d_M_leastCost_3 rfl (by decide) ?_
  refine g_aload0 hX d_M_leastCost_4 ?_
  refine g_callV (As := []) hX hF.1 d_M_leastCost_5 ml_M_474 cf_M_beginWays cv_M_beginWays rfl rfl (c_M_beginWays hG hW) (rcv_obj hX (lv_89 _) rfl rfl) (by omega) (by omega) (by omega) (Nat.le_of_ble_eq_true rfl) ?_
  rintro _ w1 ⟨rfl, hS, hLd, hIt⟩
  show G0 _ _ _ _ _ _ _ _
  exact lpW _ (waysL g) (100000000, []) w1 (Nat.lt_succ_self _) hS hLd hIt rfl (Nat.le_refl _) (fun z => absurd rfl z)
