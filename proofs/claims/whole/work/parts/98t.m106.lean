def m_Hu_nextVertex : MR := (⟨"SubgraphDesk$Hunt", "nextVertex", "()I"⟩, prog_4_method_5_code, 5, (some .int))
theorem cf_Hu_nextVertex : CF m_Hu_nextVertex 0 := ⟨gd 1320 (by decide +kernel) rfl, gd 148 (by decide +kernel) rfl, by decide +kernel, by decide, by decide +kernel⟩
theorem cv_Hu_nextVertex : CV m_Hu_nextVertex := ⟨gd 1319 (by decide +kernel) rfl, gd 49 (by decide +kernel) rfl⟩
def m_Hu_openTo : MR := (⟨"SubgraphDesk$Hunt", "openTo", "(I)I"⟩, prog_4_method_6_code, 5, (some .int))
theorem cf_Hu_openTo : CF m_Hu_openTo 1 := ⟨gd 1324 (by decide +kernel) rfl, gd 148 (by decide +kernel) rfl, by decide +kernel, by decide, by decide +kernel⟩
theorem cv_Hu_openTo : CV m_Hu_openTo := ⟨gd 1323 (by decide +kernel) rfl, gd 50 (by decide +kernel) rfl⟩
theorem d_Hu_nextVertex_0 : Dc prog_4_method_5_code 0 (.iconst 0) 1 1 := ⟨by decide +kernel, rfl⟩
theorem d_Hu_nextVertex_1 : Dc prog_4_method_5_code 1 (.istore_n 1) 1 2 := ⟨by decide +kernel, rfl⟩
theorem d_Hu_nextVertex_2 : Dc prog_4_method_5_code 2 (.bipush 13) 2 4 := ⟨by decide +kernel, rfl⟩
theorem d_Hu_nextVertex_4 : Dc prog_4_method_5_code 4 (.istore_n 2) 1 5 := ⟨by decide +kernel, rfl⟩
theorem d_Hu_nextVertex_5 : Dc prog_4_method_5_code 5 (.iconst 0) 1 6 := ⟨by decide +kernel, rfl⟩
theorem d_Hu_nextVertex_6 : Dc prog_4_method_5_code 6 (.istore_n 3) 1 7 := ⟨by decide +kernel, rfl⟩
theorem d_Hu_nextVertex_7 : Dc prog_4_method_5_code 7 (.iload_n 3) 1 8 := ⟨by decide +kernel, rfl⟩
theorem d_Hu_nextVertex_8 : Dc prog_4_method_5_code 8 (.aload_n 0) 1 9 := ⟨by decide +kernel, rfl⟩
theorem d_Hu_nextVertex_9 : Dc prog_4_method_5_code 9 (.getfield 15) 3 12 := ⟨by decide +kernel, rfl⟩
theorem d_Hu_nextVertex_12 : Dc prog_4_method_5_code 12 (.getfield 38) 3 15 := ⟨by decide +kernel, rfl⟩
theorem d_Hu_nextVertex_15 : Dj prog_4_method_5_code 15 (.if_icmp .ge 41) 18 41 56 := ⟨by decide +kernel, rfl, rfl⟩
theorem d_Hu_nextVertex_18 : Dc prog_4_method_5_code 18 (.aload_n 0) 1 19 := ⟨by decide +kernel, rfl⟩
theorem d_Hu_nextVertex_19 : Dc prog_4_method_5_code 19 (.getfield 29) 3 22 := ⟨by decide +kernel, rfl⟩
theorem d_Hu_nextVertex_22 : Dc prog_4_method_5_code 22 (.iload_n 3) 1 23 := ⟨by decide +kernel, rfl⟩
theorem d_Hu_nextVertex_23 : Dc prog_4_method_5_code 23 (.ishr) 1 24 := ⟨by decide +kernel, rfl⟩
theorem d_Hu_nextVertex_24 : Dc prog_4_method_5_code 24 (.iconst 1) 1 25 := ⟨by decide +kernel, rfl⟩
theorem d_Hu_nextVertex_25 : Dc prog_4_method_5_code 25 (.iand) 1 26 := ⟨by decide +kernel, rfl⟩
theorem d_Hu_nextVertex_26 : Dj prog_4_method_5_code 26 (.ifCond .ne 24) 29 24 50 := ⟨by decide +kernel, rfl, rfl⟩
theorem d_Hu_nextVertex_29 : Dc prog_4_method_5_code 29 (.aload_n 0) 1 30 := ⟨by decide +kernel, rfl⟩
theorem d_Hu_nextVertex_30 : Dc prog_4_method_5_code 30 (.iload_n 3) 1 31 := ⟨by decide +kernel, rfl⟩
theorem d_Hu_nextVertex_31 : Dc prog_4_method_5_code 31 (.invokevirtual 51) 3 34 := ⟨by decide +kernel, rfl⟩
theorem d_Hu_nextVertex_34 : Dc prog_4_method_5_code 34 (.invokestatic 55) 3 37 := ⟨by decide +kernel, rfl⟩
theorem d_Hu_nextVertex_37 : Dc prog_4_method_5_code 37 (.istore 4) 2 39 := ⟨by decide +kernel, rfl⟩
theorem d_Hu_nextVertex_39 : Dc prog_4_method_5_code 39 (.iload 4) 2 41 := ⟨by decide +kernel, rfl⟩
theorem d_Hu_nextVertex_41 : Dc prog_4_method_5_code 41 (.iload_n 2) 1 42 := ⟨by decide +kernel, rfl⟩
theorem d_Hu_nextVertex_42 : Dj prog_4_method_5_code 42 (.if_icmp .ge 8) 45 8 50 := ⟨by decide +kernel, rfl, rfl⟩
theorem d_Hu_nextVertex_45 : Dc prog_4_method_5_code 45 (.iload 4) 2 47 := ⟨by decide +kernel, rfl⟩
theorem d_Hu_nextVertex_47 : Dc prog_4_method_5_code 47 (.istore_n 2) 1 48 := ⟨by decide +kernel, rfl⟩
theorem d_Hu_nextVertex_48 : Dc prog_4_method_5_code 48 (.iload_n 3) 1 49 := ⟨by decide +kernel, rfl⟩
theorem d_Hu_nextVertex_49 : Dc prog_4_method_5_code 49 (.istore_n 1) 1 50 := ⟨by decide +kernel, rfl⟩
theorem d_Hu_nextVertex_50 : Dc prog_4_method_5_code 50 (.iinc 3 1) 3 53 := ⟨by decide +kernel, rfl⟩
theorem d_Hu_nextVertex_53 : Dj prog_4_method_5_code 53 (.goto (-46)) 56 (-46) 7 := ⟨by decide +kernel, rfl, rfl⟩
theorem d_Hu_nextVertex_56 : Dc prog_4_method_5_code 56 (.iload_n 1) 1 57 := ⟨by decide +kernel, rfl⟩
theorem d_Hu_nextVertex_57 : Dc prog_4_method_5_code 57 (.ireturn) 1 58 := ⟨by decide +kernel, rfl⟩
theorem d_Hu_openTo_0 : Dc prog_4_method_6_code 0 (.aload_n 0) 1 1 := ⟨by decide +kernel, rfl⟩
theorem d_Hu_openTo_1 : Dc prog_4_method_6_code 1 (.getfield 19) 3 4 := ⟨by decide +kernel, rfl⟩
theorem d_Hu_openTo_4 : Dc prog_4_method_6_code 4 (.iload_n 1) 1 5 := ⟨by decide +kernel, rfl⟩
theorem d_Hu_openTo_5 : Dc prog_4_method_6_code 5 (.iaload) 1 6 := ⟨by decide +kernel, rfl⟩
theorem d_Hu_openTo_6 : Dc prog_4_method_6_code 6 (.aload_n 0) 1 7 := ⟨by decide +kernel, rfl⟩
theorem d_Hu_openTo_7 : Dc prog_4_method_6_code 7 (.getfield 26) 3 10 := ⟨by decide +kernel, rfl⟩
theorem d_Hu_openTo_10 : Dc prog_4_method_6_code 10 (.iconst (-1)) 1 11 := ⟨by decide +kernel, rfl⟩
theorem d_Hu_openTo_11 : Dc prog_4_method_6_code 11 (.ixor) 1 12 := ⟨by decide +kernel, rfl⟩
theorem d_Hu_openTo_12 : Dc prog_4_method_6_code 12 (.iand) 1 13 := ⟨by decide +kernel, rfl⟩
theorem d_Hu_openTo_13 : Dc prog_4_method_6_code 13 (.istore_n 2) 1 14 := ⟨by decide +kernel, rfl⟩
theorem d_Hu_openTo_14 : Dc prog_4_method_6_code 14 (.aload_n 0) 1 15 := ⟨by decide +kernel, rfl⟩
theorem d_Hu_openTo_15 : Dc prog_4_method_6_code 15 (.getfield 15) 3 18 := ⟨by decide +kernel, rfl⟩
theorem d_Hu_openTo_18 : Dc prog_4_method_6_code 18 (.getfield 73) 3 21 := ⟨by decide +kernel, rfl⟩
theorem d_Hu_openTo_21 : Dc prog_4_method_6_code 21 (.iload_n 1) 1 22 := ⟨by decide +kernel, rfl⟩
theorem d_Hu_openTo_22 : Dc prog_4_method_6_code 22 (.iaload) 1 23 := ⟨by decide +kernel, rfl⟩
theorem d_Hu_openTo_23 : Dc prog_4_method_6_code 23 (.aload_n 0) 1 24 := ⟨by decide +kernel, rfl⟩
theorem d_Hu_openTo_24 : Dc prog_4_method_6_code 24 (.getfield 29) 3 27 := ⟨by decide +kernel, rfl⟩
theorem d_Hu_openTo_27 : Dc prog_4_method_6_code 27 (.iand) 1 28 := ⟨by decide +kernel, rfl⟩
theorem d_Hu_openTo_28 : Dc prog_4_method_6_code 28 (.istore_n 3) 1 29 := ⟨by decide +kernel, rfl⟩
theorem d_Hu_openTo_29 : Dc prog_4_method_6_code 29 (.iconst 0) 1 30 := ⟨by decide +kernel, rfl⟩
theorem d_Hu_openTo_30 : Dc prog_4_method_6_code 30 (.istore 4) 2 32 := ⟨by decide +kernel, rfl⟩
theorem d_Hu_openTo_32 : Dc prog_4_method_6_code 32 (.iload 4) 2 34 := ⟨by decide +kernel, rfl⟩
theorem d_Hu_openTo_34 : Dc prog_4_method_6_code 34 (.aload_n 0) 1 35 := ⟨by decide +kernel, rfl⟩
theorem d_Hu_openTo_35 : Dc prog_4_method_6_code 35 (.getfield 15) 3 38 := ⟨by decide +kernel, rfl⟩
theorem d_Hu_openTo_38 : Dc prog_4_method_6_code 38 (.getfield 38) 3 41 := ⟨by decide +kernel, rfl⟩
theorem d_Hu_openTo_41 : Dj prog_4_method_6_code 41 (.if_icmp .ge 37) 44 37 78 := ⟨by decide +kernel, rfl, rfl⟩
theorem d_Hu_openTo_44 : Dc prog_4_method_6_code 44 (.iload_n 3) 1 45 := ⟨by decide +kernel, rfl⟩
theorem d_Hu_openTo_45 : Dc prog_4_method_6_code 45 (.iload 4) 2 47 := ⟨by decide +kernel, rfl⟩
theorem d_Hu_openTo_47 : Dc prog_4_method_6_code 47 (.ishr) 1 48 := ⟨by decide +kernel, rfl⟩
theorem d_Hu_openTo_48 : Dc prog_4_method_6_code 48 (.iconst 1) 1 49 := ⟨by decide +kernel, rfl⟩
theorem d_Hu_openTo_49 : Dc prog_4_method_6_code 49 (.iand) 1 50 := ⟨by decide +kernel, rfl⟩
theorem d_Hu_openTo_50 : Dc prog_4_method_6_code 50 (.iconst 1) 1 51 := ⟨by decide +kernel, rfl⟩
theorem d_Hu_openTo_51 : Dj prog_4_method_6_code 51 (.if_icmp .ne 21) 54 21 72 := ⟨by decide +kernel, rfl, rfl⟩
theorem d_Hu_openTo_54 : Dc prog_4_method_6_code 54 (.iload_n 2) 1 55 := ⟨by decide +kernel, rfl⟩
theorem d_Hu_openTo_55 : Dc prog_4_method_6_code 55 (.aload_n 0) 1 56 := ⟨by decide +kernel, rfl⟩
theorem d_Hu_openTo_56 : Dc prog_4_method_6_code 56 (.getfield 15) 3 59 := ⟨by decide +kernel, rfl⟩
theorem d_Hu_openTo_59 : Dc prog_4_method_6_code 59 (.getfield 76) 3 62 := ⟨by decide +kernel, rfl⟩
theorem d_Hu_openTo_62 : Dc prog_4_method_6_code 62 (.aload_n 0) 1 63 := ⟨by decide +kernel, rfl⟩
theorem d_Hu_openTo_63 : Dc prog_4_method_6_code 63 (.getfield 9) 3 66 := ⟨by decide +kernel, rfl⟩
theorem d_Hu_openTo_66 : Dc prog_4_method_6_code 66 (.iload 4) 2 68 := ⟨by decide +kernel, rfl⟩
theorem d_Hu_openTo_68 : Dc prog_4_method_6_code 68 (.iaload) 1 69 := ⟨by decide +kernel, rfl⟩
theorem d_Hu_openTo_69 : Dc prog_4_method_6_code 69 (.iaload) 1 70 := ⟨by decide +kernel, rfl⟩
theorem d_Hu_openTo_70 : Dc prog_4_method_6_code 70 (.iand) 1 71 := ⟨by decide +kernel, rfl⟩
theorem d_Hu_openTo_71 : Dc prog_4_method_6_code 71 (.istore_n 2) 1 72 := ⟨by decide +kernel, rfl⟩
theorem d_Hu_openTo_72 : Dc prog_4_method_6_code 72 (.iinc 4 1) 3 75 := ⟨by decide +kernel, rfl⟩
theorem d_Hu_openTo_75 : Dj prog_4_method_6_code 75 (.goto (-43)) 78 (-43) 32 := ⟨by decide +kernel, rfl, rfl⟩
theorem d_Hu_openTo_78 : Dc prog_4_method_6_code 78 (.iload_n 2) 1 79 := ⟨by decide +kernel, rfl⟩
theorem d_Hu_openTo_79 : Dc prog_4_method_6_code 79 (.ireturn) 1 80 := ⟨by decide +kernel, rfl⟩
theorem fl_Hu_9 : FL "SubgraphDesk$Hunt" 9 3 0 true (.array .int) (3, 1) := ⟨R_Hu, F_Hu, 8, ty_Hu, rfl, rfl, in_Hu, tyok_Hu, nm_Hu, by decide, gd 454 (by decide +kernel) rfl, rfl, rfl, rfl⟩
theorem fl_Hu_15 : FL "SubgraphDesk$Hunt" 15 3 1 false (.object "SubgraphDesk$Board") (4, 0) := ⟨R_Hu, F_Hu, 8, ty_Hu, rfl, rfl, in_Hu, tyok_Hu, nm_Hu, by decide, gd 455 (by decide +kernel) rfl, rfl, rfl, rfl⟩
theorem fl_Hu_19 : FL "SubgraphDesk$Hunt" 19 3 2 false (.array .int) (4, 0) := ⟨R_Hu, F_Hu, 8, ty_Hu, rfl, rfl, in_Hu, tyok_Hu, nm_Hu, by decide, gd 456 (by decide +kernel) rfl, rfl, rfl, rfl⟩
theorem fl_Hu_26 : FL "SubgraphDesk$Hunt" 26 3 3 false .int (0, 0) := ⟨R_Hu, F_Hu, 8, ty_Hu, rfl, rfl, in_Hu, tyok_Hu, nm_Hu, by decide, gd 457 (by decide +kernel) rfl, rfl, rfl, rfl⟩
theorem fl_Hu_29 : FL "SubgraphDesk$Hunt" 29 3 4 false .int (0, 0) := ⟨R_Hu, F_Hu, 8, ty_Hu, rfl, rfl, in_Hu, tyok_Hu, nm_Hu, by decide, gd 458 (by decide +kernel) rfl, rfl, rfl, rfl⟩
theorem fl_Hu_38 : FL "SubgraphDesk$Hunt" 38 2 5 false .int (0, 0) := ⟨R_Bo, F_Bo, 15, ty_Bo, rfl, rfl, in_Bo, tyok_Bo, nm_Bo, by decide, gd 202 (by decide +kernel) rfl, rfl, rfl, rfl⟩
theorem fl_Hu_73 : FL "SubgraphDesk$Hunt" 73 2 7 true (.array .int) (3, 5) := ⟨R_Bo, F_Bo, 15, ty_Bo, rfl, rfl, in_Bo, tyok_Bo, nm_Bo, by decide, gd 214 (by decide +kernel) rfl, rfl, rfl, rfl⟩
theorem fl_Hu_76 : FL "SubgraphDesk$Hunt" 76 2 2 true (.array .int) (3, 2) := ⟨R_Bo, F_Bo, 15, ty_Bo, rfl, rfl, in_Bo, tyok_Bo, nm_Bo, by decide, gd 190 (by decide +kernel) rfl, rfl, rfl, rfl⟩
theorem ml_Hu_51 : Cond.methodLink "SubgraphDesk$Hunt" 51 m_Hu_openTo.1 ∈ lw_gd := gd 1321 (by decide +kernel) rfl
theorem ml_Hu_55 : Cond.methodLink "SubgraphDesk$Hunt" 55 m_JInteger_bitCount.1 ∈ lw_gd := gd 1325 (by decide +kernel) rfl
/-! ===== the hunt ===== -/
def MskY (g : GC) (p : Nat → Option Nat) (y : Nat) : Prop := y < 32 ∧ ∀ u, u < gV g → (y.testBit u = true ↔ p u ≠ none)
def MskT (g : GC) (p : Nat → Option Nat) (t : Nat) : Prop := t < 4096 ∧ ∀ m, t.testBit m = true ↔ ∃ u, u < gV g ∧ p u = some m
def opH (g : GC) (c : Nat → Nat) (p : Nat → Option Nat) (t v : Nat) : Nat → Nat
  | 0 => sd (c v) t
  | u + 1 => if (gK g v).testBit u = true ∧ p u ≠ none then opH g c p t v u &&& nearB (gE g) ((p u).getD 0) else opH g c p t v u
theorem opH_tb {g : GC} {c : Nat → Nat} {p : Nat → Option Nat} {t v n : Nat} : ∀ u, (opH g c p t v u).testBit n = true ↔ ((c v).testBit n = true ∧ ¬ t.testBit n = true) ∧ ∀ x m, x < u → (gK g v).testBit x = true → p x = some m → (nearB (gE g) m).testBit n = true
  | 0 => by
    unfold opH
    rw [sd_tb, Bool.and_eq_true]
    constructor
    · rintro ⟨h1, h2⟩
      exact ⟨⟨h1, fun z => by rw [z] at h2; cases h2⟩, fun x m hx => absurd hx (Nat.not_lt_zero _)⟩
    · rintro ⟨⟨h1, h2⟩, -⟩
      exact ⟨h1, by rw [Bool.eq_false_iff.mpr h2]; rfl⟩
  | u + 1 => by
    unfold opH
    by_cases h : (gK g v).testBit u = true ∧ p u ≠ none
    · rw [if_pos h, Nat.testBit_and, Bool.and_eq_true, opH_tb u]
      obtain ⟨m0, hm0⟩ := Option.ne_none_iff_exists'.mp h.2
      constructor
      · rintro ⟨⟨h1, h2⟩, h3⟩
        refine ⟨h1, fun x m hx hk hp => ?_⟩
        by_cases e : x = u
        · subst e
          rw [hp] at h3
          exact h3
        · exact h2 x m (by omega) hk hp
      · rintro ⟨h1, h2⟩
        refine ⟨⟨h1, fun x m hx => h2 x m (by omega)⟩, ?_⟩
        rw [hm0]
        exact h2 u m0 (Nat.lt_succ_self u) h.1 hm0
    · rw [if_neg h, opH_tb u]
      constructor
      · rintro ⟨h1, h2⟩
        refine ⟨h1, fun x m hx hk hp => ?_⟩
        by_cases e : x = u
        · subst e
          exact absurd ⟨hk, by rw [hp]; simp⟩ h
        · exact h2 x m (by omega) hk hp
      · rintro ⟨h1, h2⟩
        exact ⟨h1, fun x m hx => h2 x m (by omega)⟩
theorem opK_iff {g : GC} {c : Nat → Nat} {p : Nat → Option Nat} {v n : Nat} : ∀ u, opK g c p v n u = true ↔ (c v).testBit n = true ∧ ∀ x, x < u → okU g p v n x = true
  | 0 => ⟨fun h => ⟨h, fun x hx => absurd hx (Nat.not_lt_zero _)⟩, fun h => h.1⟩
  | u + 1 => by
    unfold opK
    rw [Bool.and_eq_true, opK_iff u]
    constructor
    · rintro ⟨⟨h1, h2⟩, h3⟩
      refine ⟨h1, fun x hx => ?_⟩
      by_cases e : x = u
      · rw [e]; exact h3
      · exact h2 x (by omega)
    · rintro ⟨h1, h2⟩
      exact ⟨⟨h1, fun x hx => h2 x (by omega)⟩, h2 u (Nat.lt_succ_self u)⟩
theorem opH_open {g : GC} {c : Nat → Nat} {p : Nat → Option Nat} {t v n : Nat} (hW : WG g) (hT : MskT g p t) (hL : ∀ u m, u < gV g → p u = some m → m < gN g) (hpv : p v = none) (hn : n < gN g) : (opH g c p t v (gV g)).testBit n = true ↔ openH g c p v n = true := by
  unfold openH
  rw [opH_tb, opK_iff]
  constructor
  · rintro ⟨⟨h1, h2⟩, h3⟩
    refine ⟨h1, fun x hx => ?_⟩
    cases hp : p x with
    | none => exact okU_n hp
    | some m =>
      have hmn : ¬ m = n := fun e => h2 ((hT.2 n).mpr ⟨x, hx, e ▸ hp⟩)
      by_cases hk : (gK g v).testBit x = true
      · have := h3 x m hx hk hp
        rw [near_sym hW (hL x m hx hp) hn] at this
        exact okU_y hp hmn this
      · exact okU_k hp hmn hk
  · rintro ⟨h1, h2⟩
    have hne : ∀ x m, p x = some m → ¬ x = v := fun x m hp e => by rw [e, hpv] at hp; cases hp
    refine ⟨⟨h1, fun z => ?_⟩, fun x m hx hk hp => ?_⟩
    · obtain ⟨x, hx, hp⟩ := (hT.2 n).mp z
      have := h2 x hx
      rw [okU_m hp (hne x n hp) rfl] at this
      cases this
    · by_cases hb : (nearB (gE g) n).testBit m = true
      · rw [near_sym hW (hL x m hx hp) hn]; exact hb
      · have := h2 x hx
        rw [okU_z hp (hne x m hp) hk hb] at this
        cases this
theorem opH_le {g : GC} {c : Nat → Nat} {p : Nat → Option Nat} {t v : Nat} : ∀ u, opH g c p t v u ≤ c v
  | 0 => sd_le _ _
  | u + 1 => by
    unfold opH
    split
    · exact Nat.le_trans Nat.and_le_left (opH_le u)
    · exact opH_le u
theorem popk_hi {x N : Nat} (h : x < 2 ^ N) : ∀ m, popk x (N + m) = popk x N
  | 0 => rfl
  | m + 1 => by
    show popk x (N + m) + (x >>> (N + m) &&& 1) = _
    rw [popk_hi h m, (tb0 _ _).mpr (Bool.eq_false_iff.mpr (fun z => by have := tb_lt h z; omega))]
    rfl
theorem popk_num {g : GC} {c : Nat → Nat} {p : Nat → Option Nat} {v x : Nat} (h : ∀ n, n < gN g → (x.testBit n = true ↔ openH g c p v n = true)) : ∀ m, m ≤ gN g → popk x m = numH g c p v m
  | 0, _ => rfl
  | m + 1, hm => by
    unfold popk numH
    rw [popk_num h m (by omega)]
    congr 1
    have hb := h m (by omega)
    by_cases e : openH g c p v m = true
    · rw [if_pos e]; exact (tb1 _ _).mpr (hb.mpr e)
    · rw [if_neg e]; exact (tb0 _ _).mpr (Bool.eq_false_iff.mpr (fun z => e (hb.mp z)))
theorem pop_num {g : GC} {c : Nat → Nat} {p : Nat → Option Nat} {t v : Nat} (hW : WG g) (hT : MskT g p t) (hL : ∀ u m, u < gV g → p u = some m → m < gN g) (hpv : p v = none) (hc : c v < 2 ^ gN g) : pop (opH g c p t v (gV g)) = numH g c p v (gN g) := by
  have hn := hW.n
  have h1 := Nat.lt_of_le_of_lt (opH_le (g := g) (p := p) (t := t) (gV g)) hc
  unfold pop
  rw [show 12 = gN g + (12 - gN g) by omega, popk_hi h1, popk_num (fun n hn => opH_open hW hT hL hpv hn) _ (Nat.le_refl _)]
/-- the fewest so far, as the desk keeps it -/
def pkF (r : Option Nat × Nat) : Nat := match r.1 with
  | none => 13
  | some _ => r.2
theorem pick_none {g : GC} {c : Nat → Nat} {p : Nat → Option Nat} : ∀ m, (pickK g c p m).1 = none → (pickK g c p m).2 = 100000000
  | 0, _ => rfl
  | m + 1, hm => by
    unfold pickK at hm ⊢
    split
    · rename_i h5
      rw [if_pos h5] at hm
      cases hm
    · rename_i h5
      rw [if_neg h5] at hm
      exact pick_none m hm
theorem pk_skip {g : GC} {c : Nat → Nat} {p : Nat → Option Nat} {v : Nat} (h : p v ≠ none) : pickK g c p (v + 1) = pickK g c p v := by
  rw [pickK, if_neg (fun z => h z.1)]
theorem pk_yes {g : GC} {c : Nat → Nat} {p : Nat → Option Nat} {v : Nat} (hN : gN g ≤ 12) (h : p v = none) (h2 : numH g c p v (gN g) < pkF (pickK g c p v)) : pickK g c p (v + 1) = (some v, numH g c p v (gN g)) := by
  have h4 : numH g c p v (gN g) < (pickK g c p v).2 := by
    unfold pkF at h2
    split at h2
    · rename_i h3
      rw [pick_none _ h3]
      omega
    · exact h2
  rw [pickK, if_pos ⟨h, h4⟩]
theorem pk_no {g : GC} {c : Nat → Nat} {p : Nat → Option Nat} {v : Nat} (hN : gN g ≤ 12) (h2 : ¬ numH g c p v (gN g) < pkF (pickK g c p v)) : pickK g c p (v + 1) = pickK g c p v := by
  rw [pickK, if_neg]
  rintro ⟨-, h3⟩
  unfold pkF at h2
  split at h2
  · have := numH_le g c p v (gN g)
    omega
  · exact h2 h3
theorem pkF_le {g : GC} {c : Nat → Nat} {p : Nat → Option Nat} (hN : gN g ≤ 12) : ∀ v, pkF (pickK g c p v) ≤ 13
  | 0 => Nat.le_refl _
  | v + 1 => by
    by_cases h : p v = none ∧ numH g c p v (gN g) < (pickK g c p v).2
    · rw [pickK, if_pos h]
      show numH g c p v (gN g) ≤ 13
      have := numH_le g c p v (gN g)
      omega
    · rw [pickK, if_neg h]
      exact pkF_le hN v
theorem pick_gd {g : GC} {c : Nat → Nat} {p : Nat → Option Nat} : ∀ v, (pickK g c p v).1.getD 0 ≤ v
  | 0 => Nat.le_refl _
  | v + 1 => by
    unfold pickK
    split
    · exact Nat.le_succ v
    · exact Nat.le_succ_of_le (pick_gd v)
theorem numH_mono {g : GC} {c : Nat → Nat} {p : Nat → Option Nat} {v k : Nat} : ∀ m, numH g c p v k ≤ numH g c p v (k + m)
  | 0 => Nat.le_refl _
  | m + 1 => by
    show _ ≤ numH g c p v (k + m) + _
    have := numH_mono (g := g) (c := c) (p := p) (v := v) (k := k) m
    omega
theorem rem_last {g : GC} {cd : Nat → Nat} {most v : Nat} {p : Nat → Option Nat} : ∀ (d k : Nat) (st : Nat × Nat), k + d = gN g → st.1 ≤ most → remH g cd most 0 p v k st = (st.1 + min (numH g cd p v (gN g) - numH g cd p v k) (most - st.1), st.2 + min (numH g cd p v (gN g) - numH g cd p v k) (most - st.1))
  | 0, k, st, hk, _ => by
    rw [remH_N (by omega), show k = gN g by omega, Nat.sub_self, Nat.zero_min]
    rfl
  | d + 1, k, st, hk, hm => by
    have h1 := numH_mono (g := g) (c := cd) (p := p) (v := v) (k := k + 1) d
    rw [show k + 1 + d = gN g by omega] at h1
    by_cases ho : openH g cd p v k = true
    · have h2 : numH g cd p v (k + 1) = numH g cd p v k + 1 := by rw [numH, if_pos ho]
      by_cases hs : st.1 < most
      · rw [remH_yes (by omega) hs ho, rem_last d (k + 1) _ (by omega) (show st.1 + 1 ≤ most by omega)]
        show (st.1 + 1 + min _ (most - (st.1 + 1)), st.2 + 1 + min _ (most - (st.1 + 1))) = _
        rw [h2] at h1 ⊢
        congr 1 <;> omega
      · rw [remH_stop (by omega), show most - st.1 = 0 by omega, Nat.min_zero]
        rfl
    · have h2 : numH g cd p v (k + 1) = numH g cd p v k := by rw [numH, if_neg ho]; rfl
      rw [remH_no (by omega) ho, rem_last d (k + 1) st (by omega) hm, h2]
theorem hunt_rem {g : GC} {cd : Nat → Nat} {most r : Nat} {p : Nat → Option Nat} {st : Nat × Nat} : huntG g cd most (r + 1) p st = remH g cd most r p ((pickK g cd p (gV g)).1.getD 0) 0 st := by
  unfold huntG remH
  rfl
theorem hunt_last {g : GC} {cd : Nat → Nat} {most : Nat} {p : Nat → Option Nat} {st : Nat × Nat} (h : st.1 ≤ most) : huntG g cd most 1 p st = (st.1 + min (numH g cd p ((pickK g cd p (gV g)).1.getD 0) (gN g)) (most - st.1), st.2 + min (numH g cd p ((pickK g cd p (gV g)).1.getD 0) (gN g)) (most - st.1)) := by
  rw [hunt_rem, rem_last (gN g) 0 st (Nat.zero_add _) h]
  rfl
def huB : Nat → Nat
  | 0 => 0
  | r + 1 => 12 * (1 + huB r)
theorem hunt_same {g : GC} {cd : Nat → Nat} {M M2 : Nat} (hN : gN g ≤ 12) : ∀ (r : Nat) (p : Nat → Option Nat) (st : Nat × Nat), st.1 + huB r < M → st.1 + huB r < M2 → huntG g cd M r p st = huntG g cd M2 r p st ∧ (huntG g cd M r p st).1 ≤ st.1 + huB r
  | 0, p, st, _, _ => ⟨rfl, Nat.le_refl _⟩
  | r + 1, p, st, h1, h2 => by
    have key : ∀ (j k : Nat) (s : Nat × Nat), k + j = gN g → s.1 + j * (1 + huB r) < M → s.1 + j * (1 + huB r) < M2 → ∀ v, remH g cd M r p v k s = remH g cd M2 r p v k s ∧ (remH g cd M r p v k s).1 ≤ s.1 + j * (1 + huB r) := by
      intro j
      induction j with
      | zero => intro k s hk _ _ v; rw [remH_N (by omega), remH_N (by omega)]; exact ⟨rfl, by omega⟩
      | succ j ih =>
        intro k s hk g1 g2 v
        rw [Nat.succ_mul] at g1 g2 ⊢
        by_cases ho : openH g cd p v k = true
        · obtain ⟨e1, e2⟩ := hunt_same hN r (upP p v k) (s.1 + 1, s.2) (show s.1 + 1 + huB r < M by omega) (show s.1 + 1 + huB r < M2 by omega)
          replace e2 : (huntG g cd M r (upP p v k) (s.1 + 1, s.2)).1 ≤ s.1 + 1 + huB r := e2
          rw [remH_yes (by omega) (by omega) ho, remH_yes (by omega) (by omega) ho, ← e1]
          obtain ⟨f1, f2⟩ := ih (k + 1) (huntG g cd M r (upP p v k) (s.1 + 1, s.2)) (by omega) (by omega) (by omega) v
          exact ⟨f1, by omega⟩
        · rw [remH_no (by omega) ho, remH_no (by omega) ho]
          obtain ⟨f1, f2⟩ := ih (k + 1) s (by omega) (by omega) (by omega) v
          exact ⟨f1, by omega⟩
    have hb : gN g * (1 + huB r) ≤ huB (r + 1) := Nat.mul_le_mul_right _ hN
    obtain ⟨e1, e2⟩ := key (gN g) 0 st (Nat.zero_add _) (by omega) (by omega) ((pickK g cd p (gV g)).1.getD 0)
    rw [hunt_rem, hunt_rem]
    exact ⟨e1, by omega⟩
theorem MskY.up {g : GC} {p : Nat → Option Nat} {y v k : Nat} (h : MskY g p y) (hv : v < 5) : MskY g (upP p v k) (y ||| 1 <<< v) := by
  refine ⟨or_lt (n := 5) h.1 (shl_lt hv), fun u hu => ?_⟩
  rw [Nat.testBit_or, tb_one, Bool.or_eq_true, h.2 u hu, decide_eq_true_iff]
  unfold upP
  by_cases e : u = v
  · rw [if_pos e]; exact ⟨fun _ => by simp, fun _ => Or.inr e.symm⟩
  · rw [if_neg e]; exact ⟨fun z => z.elim id (fun z => absurd z.symm e), fun z => Or.inl z⟩
theorem MskT.up {g : GC} {p : Nat → Option Nat} {t v k : Nat} (h : MskT g p t) (hv : v < gV g) (hpv : p v = none) (hk : k < 12) : MskT g (upP p v k) (t ||| 1 <<< k) := by
  refine ⟨or_lt (n := 12) h.1 (shl_lt hk), fun m => ?_⟩
  rw [Nat.testBit_or, tb_one, Bool.or_eq_true, h.2 m, decide_eq_true_iff]
  unfold upP
  constructor
  · rintro (⟨u, hu, hp⟩ | e)
    · exact ⟨u, hu, by rw [if_neg (fun z => by rw [z, hpv] at hp; cases hp)]; exact hp⟩
    · exact ⟨v, hv, by rw [if_pos rfl, e]⟩
  · rintro ⟨u, hu, hp⟩
    by_cases e : u = v
    · rw [if_pos e] at hp; exact Or.inr (Option.some.inj hp)
    · rw [if_neg e] at hp; exact Or.inl ⟨u, hu, hp⟩
theorem sd_or {t k : Nat} (h : ¬ t.testBit k = true) : sd (t ||| 1 <<< k) (1 <<< k) = t := by
  apply Nat.eq_of_testBit_eq
  intro m
  rw [sd_tb, Nat.testBit_or, tb_one]
  by_cases e : k = m
  · subst e
    rw [Bool.eq_false_iff.mpr h, decide_eq_true rfl]; rfl
  · rw [decide_eq_false e, Bool.or_false, Bool.not_false, Bool.and_true]
/-- the hunt's world -/
def HuE (w : Mem) (g : GC) (c : Nat → Nat) (most : Nat) : Prop := BRow w 1 g ∧ WG g ∧ rR w 45 1 = some 1 ∧ rR w 45 2 = some 43 ∧ (∀ v, v < gV g → rI w 43 v = nI (c v) ∧ c v < 2 ^ gN g) ∧ rI w 45 5 = nI most ∧ most ≤ 1000000
def HuL (w : Mem) (g : GC) (p : Nat → Option Nat) : Prop := ∀ u m, u < gV g → p u = some m → rI w 46 u = nI m ∧ m < gN g
def FrHu (w w2 : Mem) : Prop := (∀ a, a ≠ 45 → a ≠ 46 → rI w2 a = rI w a) ∧ rI w2 45 5 = rI w 45 5 ∧ w2.2 = w.2
theorem FrHu.rf (w : Mem) : FrHu w w := ⟨fun _ _ _ => rfl, rfl, rfl⟩
theorem FrHu.tr {a b c : Mem} (h : FrHu a b) (h2 : FrHu b c) : FrHu a c := ⟨fun x h1 h3 => (h2.1 x h1 h3).trans (h.1 x h1 h3), h2.2.1.trans h.2.1, h2.2.2.trans h.2.2⟩
theorem FrHu.I {w w2 : Mem} {k : Nat} {x : Int32} (hk : k ≠ 5) (h : FrHu w w2) : FrHu w (sI w2 45 k x) := ⟨fun a h1 h2 => by rw [rI_sI_ne _ _ _ h1]; exact h.1 a h1 h2, by rw [rI_sI, upd_eq, if_neg (by omega)]; exact h.2.1, h.2.2⟩
theorem FrHu.L {w w2 : Mem} {k : Nat} {x : Int32} (h : FrHu w w2) : FrHu w (sI w2 46 k x) := ⟨fun a h1 h2 => by rw [rI_sI_ne _ _ _ h2]; exact h.1 a h1 h2, by rw [rI_sI_ne _ _ _ (by decide)]; exact h.2.1, h.2.2⟩
theorem HuE.fr {w w2 : Mem} {g : GC} {c : Nat → Nat} {most : Nat} (h : HuE w g c most) (f : FrHu w w2) : HuE w2 g c most := by
  obtain ⟨h1, h2, h3, h4, h5, h6, h7⟩ := h
  refine ⟨h1.fr (fun a a1 a2 => f.1 a (by omega) (by omega)), h2, ?_, ?_, fun v hv => by rw [f.1 43 (by decide) (by decide)]; exact h5 v hv, by rw [f.2.1]; exact h6, h7⟩
  · unfold rR; rw [f.2.2]; exact h3
  · unfold rR; rw [f.2.2]; exact h4
theorem c_Hu_openTo {E : EV} {w : Mem} {g : GC} {c : Nat → Nat} {most y t : Nat} {p : Nat → Option Nat} (hE : HuE w g c most) (hL : HuL w g p) (hY : MskY g p y) (hT : MskT g p t) (ht : rI w 45 3 = nI t) (hy : rI w 45 4 = nI y) {v : Nat} (hv : v < gV g) : T E m_Hu_openTo 0 0 0 [.ref 45, .int (nI v)] w (Ret (some (.int (nI (opH g c p t v (gV g))))) w) := by
  refine T_of (L := [.ref 45, .int (nI v), un, un, un]) cf_Hu_openTo rfl (Nat.le_of_ble_eq_true rfl) (fun X hX hF => ?_)
  have hW := hE.2.1
  have hn := hW.n
  have hgv := hW.v
  have hkv := hW.k32 hv
  have lp : ∀ (fuel : Nat) (u : Nat), gV g - u < fuel → (u ≤ gV g) → G0 E X 0 0 32 [.ref 45, .int (nI v), .int (nI (opH g c p t v u)), .int (nI (gK g v &&& y)), .int (nI u)] [] w := by
    intro fuel
    induction fuel with
    | zero => intro u q0; exact absurd q0 (Nat.not_lt_zero _)
    | succ fuel ih =>
      intro u q0 q1
      refine g_iload4 hX d_Hu_openTo_32 ?_
      refine g_aload0 hX d_Hu_openTo_34 ?_
      refine g_getR hX d_Hu_openTo_35 fl_Hu_15 (lv_45 _) hE.2.2.1 ?_
      refine g_getI hX d_Hu_openTo_38 fl_Hu_38 (lv_1 _) ?_
      refine g_topi hE.1.v ?_
      refine g_icmpN_ge hX d_Hu_openTo_41 (by omega) (by omega) (fun e41 => ?_) (fun e41 => ?_)
      · refine g_iload2 hX d_Hu_openTo_78 ?_
        refine g_iret hX hF d_Hu_openTo_79 (by omega) (by omega) ?_
        obtain rfl : u = gV g := by omega
        exact ⟨rfl, rfl⟩
      · have hkl : gK g v &&& y ≤ gK g v := Nat.and_le_left
        refine g_iload3 hX d_Hu_openTo_44 ?_
        refine g_iload4 hX d_Hu_openTo_45 ?_
        refine g_ishrN hX d_Hu_openTo_47 (by omega) (by omega) ?_
        refine g_iconst (v := nI 1) hX d_Hu_openTo_48 rfl ?_
        refine g_iandC hX d_Hu_openTo_49 (fun hm1 => ?_)
        refine g_iconst (v := nI 1) hX d_Hu_openTo_50 rfl ?_
        refine g_icmpN_ne hX d_Hu_openTo_51 (by omega) (by omega) (fun e51 => ?_) (fun e51 => ?_)
        · have e51 : (opH g c p t v (u + 1)) = (opH g c p t v u) := by
            rw [opH, if_neg]
            rintro ⟨z1, z2⟩
            refine e51 ((tb1 _ _).mpr ?_)
            rw [Nat.testBit_and, z1, (hY.2 u e41).mpr z2]
            rfl
          refine g_iincN4 hX d_Hu_openTo_72 rfl (by decide) ?_
          refine g_goto hX d_Hu_openTo_75 ?_
          rw [← e51]
          exact ih (u + 1) (by omega) (by omega)
        · have e51 := (tb1 _ _).mp e51
          rw [Nat.testBit_and, Bool.and_eq_true] at e51
          have hpu := (hY.2 u e41).mp e51.2
          obtain ⟨m, hm⟩ := Option.ne_none_iff_exists'.mp hpu
          obtain ⟨hl1, hl2⟩ := hL u m e41 hm
          have hex : (opH g c p t v (u + 1)) = (opH g c p t v u) &&& nearB (gE g) m := by rw [opH, if_pos ⟨e51.1, hpu⟩, hm]; rfl
          refine g_iload2 hX d_Hu_openTo_54 ?_
          refine g_aload0 hX d_Hu_openTo_55 ?_
          refine g_getR hX d_Hu_openTo_56 fl_Hu_15 (lv_45 _) hE.2.2.1 ?_
          refine g_getF hX d_Hu_openTo_59 fl_Hu_76 (lv_1 _) ?_
          refine g_aload0 hX d_Hu_openTo_62 ?_
          refine g_getF hX d_Hu_openTo_63 fl_Hu_9 (lv_45 _) ?_
          refine g_iload4 hX d_Hu_openTo_66 ?_
          refine g_iald hX d_Hu_openTo_68 (lv_46 _) rfl (by omega) ?_
          refine g_topi hl1 ?_
          refine g_iald hX d_Hu_openTo_69 (lv_3 _) rfl (by omega) ?_
          refine g_topi (hE.1.nr m hl2) ?_
          refine g_iandN hX d_Hu_openTo_70 ?_
          refine g_istore2 hX d_Hu_openTo_71 rfl (by decide) ?_
          refine g_iincN4 hX d_Hu_openTo_72 rfl (by decide) ?_
          refine g_goto hX d_Hu_openTo_75 ?_
          rw [← hex]
          exact ih (u + 1) (by omega) (by omega)
  refine g_aload0 hX d_Hu_openTo_0 ?_
  refine g_getR hX d_Hu_openTo_1 fl_Hu_19 (lv_45 _) hE.2.2.2.1 ?_
  refine g_iload1 hX d_Hu_openTo_4 ?_
  refine g_iald hX d_Hu_openTo_5 (lv_43 _) rfl (by omega) ?_
  refine g_topi (hE.2.2.2.2.1 v hv).1 ?_
  refine g_aload0 hX d_Hu_openTo_6 ?_
  refine g_getI hX d_Hu_openTo_7 fl_Hu_26 (lv_45 _) ?_
  refine g_topi ht ?_
  refine g_iconst (v := -1) hX d_Hu_openTo_10 rfl ?_
  refine g_ixor hX d_Hu_openTo_11 ?_
  refine g_iandX hX d_Hu_openTo_12 ?_
  refine g_istore2 hX d_Hu_openTo_13 rfl (by decide) ?_
  refine g_aload0 hX d_Hu_openTo_14 ?_
  refine g_getR hX d_Hu_openTo_15 fl_Hu_15 (lv_45 _) hE.2.2.1 ?_
  refine g_getF hX d_Hu_openTo_18 fl_Hu_73 (lv_1 _) ?_
  refine g_iload1 hX d_Hu_openTo_21 ?_
  refine g_iald hX d_Hu_openTo_22 (lv_6 _) rfl (by omega) ?_
  refine g_topi (hE.1.k v hv) ?_
  refine g_aload0 hX d_Hu_openTo_23 ?_
  refine g_getI hX d_Hu_openTo_24 fl_Hu_29 (lv_45 _) ?_
  refine g_topi hy ?_
  refine g_iandN hX d_Hu_openTo_27 ?_
  refine g_istore3 hX d_Hu_openTo_28 rfl (by decide) ?_
  refine g_iconst (v := nI 0) hX d_Hu_openTo_29 rfl ?_
  refine g_istore4 hX d_Hu_openTo_30 rfl (by decide) ?_
  exact lp (gV g + 1) 0 (by omega) (Nat.zero_le _)
theorem c_Hu_nextVertex {E : EV} {w : Mem} {g : GC} {c : Nat → Nat} {most y t : Nat} {p : Nat → Option Nat} (hE : HuE w g c most) (hL : HuL w g p) (hY : MskY g p y) (hT : MskT g p t) (ht : rI w 45 3 = nI t) (hy : rI w 45 4 = nI y) : T E m_Hu_nextVertex 1 0 0 [.ref 45] w (Ret (some (.int (nI ((pickK g c p (gV g)).1.getD 0)))) w) := by
  refine T_of (L := [.ref 45, un, un, un, un]) cf_Hu_nextVertex rfl (Nat.le_of_ble_eq_true rfl) (fun X hX hF => ?_)
  have hW := hE.2.1
  have hn := hW.n
  have hgv := hW.v
  have lp : ∀ (fuel : Nat) (v : Nat), gV g - v < fuel → (v ≤ gV g) → G0 E X 0 0 7 [.ref 45, .int (nI ((pickK g c p v).1.getD 0)), .int (nI (pkF (pickK g c p v))), .int (nI v), un] [] w := by
    intro fuel
    induction fuel with
    | zero => intro v q0; exact absurd q0 (Nat.not_lt_zero _)
    | succ fuel ih =>
      intro v q0 q1
      refine g_iload3 hX d_Hu_nextVertex_7 ?_
      refine g_aload0 hX d_Hu_nextVertex_8 ?_
      refine g_getR hX d_Hu_nextVertex_9 fl_Hu_15 (lv_45 _) hE.2.2.1 ?_
      refine g_getI hX d_Hu_nextVertex_12 fl_Hu_38 (lv_1 _) ?_
      refine g_topi hE.1.v ?_
      refine g_icmpN_ge hX d_Hu_nextVertex_15 (by omega) (by omega) (fun e15 => ?_) (fun e15 => ?_)
      · refine g_iload1 hX d_Hu_nextVertex_56 ?_
        refine g_iret hX hF d_Hu_nextVertex_57 (by omega) (by omega) ?_
        obtain rfl : v = gV g := by omega
        exact ⟨rfl, rfl⟩
      · have hpk := pkF_le (c := c) (p := p) hn v
        have hyl := hY.1
        refine g_aload0 hX d_Hu_nextVertex_18 ?_
        refine g_getI hX d_Hu_nextVertex_19 fl_Hu_29 (lv_45 _) ?_
        refine g_topi hy ?_
        refine g_iload3 hX d_Hu_nextVertex_22 ?_
        refine g_ishrN hX d_Hu_nextVertex_23 (by omega) (by omega) ?_
        refine g_iconst (v := nI 1) hX d_Hu_nextVertex_24 rfl ?_
        refine g_iandC hX d_Hu_nextVertex_25 (fun hm1 => ?_)
        refine g_if_ne hX d_Hu_nextVertex_26 (fun e26 => ?_) (fun e26 => ?_)
        · have e26 : p v ≠ none := by
            refine (hY.2 v e15).mp ?_
            cases hb : y.testBit v with
            | true => rfl
            | false => exact absurd (by rw [(tb0 _ _).mpr hb]; rfl) e26
          refine g_iincN3 hX d_Hu_nextVertex_50 rfl (by decide) ?_
          refine g_goto hX d_Hu_nextVertex_53 ?_
          refine g_fget 4 ?_
          rw [← pk_skip (c := c) e26]
          exact ih (v + 1) (by omega) (by omega)
        · have e26 : p v = none := by
            cases hp : p v with
            | none => rfl
            | some m => rw [(tb1 _ _).mpr ((hY.2 v e15).mpr (by rw [hp]; simp))] at e26; exact absurd e26 (by decide)
          have hcv := (hE.2.2.2.2.1 v e15).2
          have hop := Nat.lt_of_le_of_lt (opH_le (g := g) (p := p) (t := t) (gV g)) (Nat.lt_of_lt_of_le hcv (Nat.pow_le_pow_right (by decide) hn))
          have hpn := pop_num hW hT (fun u m h1 h2 => (hL u m h1 h2).2) e26 hcv
          have hnh := numH_le g c p v (gN g)
          refine g_aload0 hX d_Hu_nextVertex_29 ?_
          refine g_iload3 hX d_Hu_nextVertex_30 ?_
          refine g_callV (As := [_]) hX hF.1 d_Hu_nextVertex_31 ml_Hu_51 cf_Hu_openTo cv_Hu_openTo rfl rfl (c_Hu_openTo hE hL hY hT ht hy e15) (rcv_obj hX (lv_45 _) rfl rfl) (by omega) (by omega) (by omega) (Nat.le_of_ble_eq_true rfl) ?_
          refine ret_k ?_
          refine g_callS (As := [_]) hX hF.1 d_Hu_nextVertex_34 ml_Hu_55 cf_JInteger_bitCount cs_JInteger_bitCount rfl (c_JInteger_bitCount hop) (by omega) (by omega) (by omega) (Nat.le_of_ble_eq_true rfl) ?_
          rintro _ w5 ⟨rfl, hw5⟩
          have hw6 := hw5.symm
          subst hw6
          rw [hpn]
          show G0 _ _ _ _ _ _ _ _
          refine g_istore4 hX d_Hu_nextVertex_37 rfl (by decide) ?_
          refine g_iload4 hX d_Hu_nextVertex_39 ?_
          refine g_iload2 hX d_Hu_nextVertex_41 ?_
          refine g_icmpN_ge hX d_Hu_nextVertex_42 (by omega) (by omega) (fun e42 => ?_) (fun e42 => ?_)
          · refine g_iincN3 hX d_Hu_nextVertex_50 rfl (by decide) ?_
            refine g_goto hX d_Hu_nextVertex_53 ?_
            refine g_fget 4 ?_
            rw [← pk_no (v := v) hn (by omega)]
            exact ih (v + 1) (by omega) (by omega)
          · refine g_iload4 hX d_Hu_nextVertex_45 ?_
            refine g_istore2 hX d_Hu_nextVertex_47 rfl (by decide) ?_
            refine g_iload3 hX d_Hu_nextVertex_48 ?_
            refine g_istore1 hX d_Hu_nextVertex_49 rfl (by decide) ?_
            refine g_iincN3 hX d_Hu_nextVertex_50 rfl (by decide) ?_
            refine g_goto hX d_Hu_nextVertex_53 ?_
            refine g_fget 4 ?_
            refine g_loc (show [Value.ref 45, Value.int (nI v), Value.int (nI (numH g c p v (gN g))), Value.int (nI (v + 1)), un] = [Value.ref 45, Value.int (nI ((pickK g c p (v + 1)).1.getD 0)), Value.int (nI (pkF (pickK g c p (v + 1)))), Value.int (nI (v + 1)), un] by rw [pk_yes hn e26 (by omega)]; rfl) ?_
            exact ih (v + 1) (by omega) (by omega)
  refine g_iconst (v := nI 0) hX d_Hu_nextVertex_0 rfl ?_
  refine g_istore1 hX d_Hu_nextVertex_1 rfl (by decide) ?_
  refine g_bipush (v := nI 13) hX d_Hu_nextVertex_2 rfl ?_
  refine g_istore2 hX d_Hu_nextVertex_4 rfl (by decide) ?_
  refine g_iconst (v := nI 0) hX d_Hu_nextVertex_5 rfl ?_
  refine g_istore3 hX d_Hu_nextVertex_6 rfl (by decide) ?_
  exact lp (gV g + 1) 0 (by omega) (Nat.zero_le _)
