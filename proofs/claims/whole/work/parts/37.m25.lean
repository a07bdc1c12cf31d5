def m_M_beginWays : MR := (⟨"SubgraphDeskModel", "beginWays", "()V"⟩, prog_14_method_82_code, 1, none)
theorem cf_M_beginWays : CF m_M_beginWays 0 := ⟨gd 2015 (by decide +kernel) rfl, gd 151 (by decide +kernel) rfl, by decide +kernel, by decide, by decide +kernel⟩
theorem cv_M_beginWays : CV m_M_beginWays := ⟨gd 2014 (by decide +kernel) rfl, gd 107 (by decide +kernel) rfl⟩
theorem d_M_beginWays_0 : Dc prog_14_method_82_code 0 (.aload_n 0) 1 1 := ⟨by decide +kernel, rfl⟩
theorem d_M_beginWays_1 : Dc prog_14_method_82_code 1 (.invokevirtual 462) 3 4 := ⟨by decide +kernel, rfl⟩
theorem d_M_beginWays_4 : Dc prog_14_method_82_code 4 (.aload_n 0) 1 5 := ⟨by decide +kernel, rfl⟩
theorem d_M_beginWays_5 : Dc prog_14_method_82_code 5 (.iconst (-1)) 1 6 := ⟨by decide +kernel, rfl⟩
theorem d_M_beginWays_6 : Dc prog_14_method_82_code 6 (.putfield 465) 3 9 := ⟨by decide +kernel, rfl⟩
theorem d_M_beginWays_9 : Dc prog_14_method_82_code 9 (.return_) 1 10 := ⟨by decide +kernel, rfl⟩
theorem ml_M_462 : Cond.methodLink "SubgraphDeskModel" 462 m_M_layAll.1 ∈ lw_gd := gd 2016 (by decide +kernel) rfl
/-- the ways that are still to come -/
def ItW (w : Mem) (g : GC) (ws : List (List Nat)) : Prop := (rI w 89 45 = -1 ∧ ws = waysL g) ∨ (gV g = 0 ∧ rI w 89 45 = nI 0 ∧ ws = []) ∨ (∃ q : List Nat, 0 < gV g ∧ q.length = gV g ∧ (∀ n ∈ q, n < gN g) ∧ LieP w q ∧ rI w 89 45 = nI (gV g - 1) ∧ ws = remUp g 0 q.reverse)
/-- the next way lies -/
def WayP (g : GC) (ws : List (List Nat)) (r : Option Value) (w2 : Mem) : Prop := match ws with
  | [] => r = some (.int (nI 0))
  | q :: t => r = some (.int (nI 1)) ∧ q.length = gV g ∧ (∀ n ∈ q, n < gN g) ∧ LieP w2 q ∧ ItW w2 g t
theorem c_M_beginWays {E : EV} {w : Mem} {g : GC} (hG : MG w g) (hW : WG g) : T E m_M_beginWays 6 0 0 [.ref 89] w (fun r w2 => r = none ∧ Scr w w2 ∧ Laid w2 g ∧ ItW w2 g (waysL g)) := by
  refine T_of (L := [.ref 89]) cf_M_beginWays rfl (Nat.le_of_ble_eq_true rfl) (fun X hX hF => ?_)
  refine g_aload0 hX d_M_beginWays_0 ?_
  refine g_callV (As := []) hX hF.1 d_M_beginWays_1 ml_M_462 cf_M_layAll cv_M_layAll rfl rfl (c_M_layAll hG hW) (rcv_obj hX (lv_89 _) rfl rfl) (by omega) (by omega) (by omega) (Nat.le_of_ble_eq_true rfl) ?_
  rintro _ w2 ⟨rfl, hS, hL⟩
  show G0 _ _ _ _ _ _ _ _
  refine g_aload0 hX d_M_beginWays_4 ?_
  refine g_iconst (v := -1) hX d_M_beginWays_5 rfl ?_
  refine g_putI hX d_M_beginWays_6 fl_M_465 (lv_89 _) ?_
  refine g_vret hX hF d_M_beginWays_9 (by omega) (by omega) ?_
  refine ⟨rfl, (hS.D).S, ⟨?_, ?_, ?_⟩, Or.inl ⟨by rw [rI_sI, upd_eq, if_pos rfl], rfl⟩⟩
  · intro i hi; rw [rI_sI_ne _ _ _ (by decide)]; exact hL.1 i hi
  · intro i hi; rw [rI_sI_ne _ _ _ (by decide)]; exact hL.2.1 i hi
  · intro u hu i hi; rw [rI_sI_ne _ _ _ (by decide)]; exact hL.2.2 u hu i hi
theorem c_M_beginWaysA {E : EV} {w : Mem} {g : GC} (hG : MG w g) (hW : WG g) : T E m_M_beginWays 6 0 0 [.ref 89] w (fun r w2 => r = none ∧ FrY w w2 ∧ Laid w2 g ∧ ItW w2 g (waysL g)) := by
  refine T_of (L := [.ref 89]) cf_M_beginWays rfl (Nat.le_of_ble_eq_true rfl) (fun X hX hF => ?_)
  refine g_aload0 hX d_M_beginWays_0 ?_
  refine g_callV (As := []) hX hF.1 d_M_beginWays_1 ml_M_462 cf_M_layAll cv_M_layAll rfl rfl (c_M_layAll hG hW) (rcv_obj hX (lv_89 _) rfl rfl) (by omega) (by omega) (by omega) (Nat.le_of_ble_eq_true rfl) ?_
  rintro _ w2 ⟨rfl, hS, hL⟩
  show G0 _ _ _ _ _ _ _ _
  refine g_aload0 hX d_M_beginWays_4 ?_
  refine g_iconst (v := -1) hX d_M_beginWays_5 rfl ?_
  refine g_putI hX d_M_beginWays_6 fl_M_465 (lv_89 _) ?_
  refine g_vret hX hF d_M_beginWays_9 (by omega) (by omega) ?_
  refine ⟨rfl, hS.D, ⟨?_, ?_, ?_⟩, Or.inl ⟨by rw [rI_sI, upd_eq, if_pos rfl], rfl⟩⟩
  · intro i hi; rw [rI_sI_ne _ _ _ (by decide)]; exact hL.1 i hi
  · intro i hi; rw [rI_sI_ne _ _ _ (by decide)]; exact hL.2.1 i hi
  · intro u hu i hi; rw [rI_sI_ne _ _ _ (by decide)]; exact hL.2.2 u hu i hi
