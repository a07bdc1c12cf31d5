def m_M_layTurns : MR := (⟨"SubgraphDeskModel", "layTurns", "()V"⟩, prog_14_method_89_code, 4, none)
theorem cf_M_layTurns : CF m_M_layTurns 0 := ⟨gd 2042 (by decide +kernel) rfl, gd 151 (by decide +kernel) rfl, by decide +kernel, by decide, by decide +kernel⟩
theorem cv_M_layTurns : CV m_M_layTurns := ⟨gd 2041 (by decide +kernel) rfl, gd 111 (by decide +kernel) rfl⟩
theorem d_M_layTurns_0 : Dc prog_14_method_89_code 0 (.aload_n 0) 1 1 := ⟨by decide +kernel, rfl⟩
theorem d_M_layTurns_1 : Dc prog_14_method_89_code 1 (.iconst 0) 1 2 := ⟨by decide +kernel, rfl⟩
theorem d_M_layTurns_2 : Dc prog_14_method_89_code 2 (.putfield 483) 3 5 := ⟨by decide +kernel, rfl⟩
theorem d_M_layTurns_5 : Dc prog_14_method_89_code 5 (.aload_n 0) 1 6 := ⟨by decide +kernel, rfl⟩
theorem d_M_layTurns_6 : Dc prog_14_method_89_code 6 (.getfield 13) 3 9 := ⟨by decide +kernel, rfl⟩
theorem d_M_layTurns_9 : Dc prog_14_method_89_code 9 (.iconst 1) 1 10 := ⟨by decide +kernel, rfl⟩
theorem d_M_layTurns_10 : Dc prog_14_method_89_code 10 (.iaload) 1 11 := ⟨by decide +kernel, rfl⟩
theorem d_M_layTurns_11 : Dc prog_14_method_89_code 11 (.istore_n 1) 1 12 := ⟨by decide +kernel, rfl⟩
theorem d_M_layTurns_12 : Dc prog_14_method_89_code 12 (.iconst 0) 1 13 := ⟨by decide +kernel, rfl⟩
theorem d_M_layTurns_13 : Dc prog_14_method_89_code 13 (.istore_n 2) 1 14 := ⟨by decide +kernel, rfl⟩
theorem d_M_layTurns_14 : Dc prog_14_method_89_code 14 (.aload_n 0) 1 15 := ⟨by decide +kernel, rfl⟩
theorem d_M_layTurns_15 : Dc prog_14_method_89_code 15 (.getfield 117) 3 18 := ⟨by decide +kernel, rfl⟩
theorem d_M_layTurns_18 : Dc prog_14_method_89_code 18 (.iconst 0) 1 19 := ⟨by decide +kernel, rfl⟩
theorem d_M_layTurns_19 : Dc prog_14_method_89_code 19 (.iconst (-1)) 1 20 := ⟨by decide +kernel, rfl⟩
theorem d_M_layTurns_20 : Dc prog_14_method_89_code 20 (.iastore) 1 21 := ⟨by decide +kernel, rfl⟩
theorem d_M_layTurns_21 : Dc prog_14_method_89_code 21 (.iload_n 2) 1 22 := ⟨by decide +kernel, rfl⟩
theorem d_M_layTurns_22 : Dj prog_14_method_89_code 22 (.ifCond .lt 135) 25 135 157 := ⟨by decide +kernel, rfl, rfl⟩
theorem d_M_layTurns_25 : Dc prog_14_method_89_code 25 (.iload_n 1) 1 26 := ⟨by decide +kernel, rfl⟩
theorem d_M_layTurns_26 : Dj prog_14_method_89_code 26 (.ifCond .le 131) 29 131 157 := ⟨by decide +kernel, rfl, rfl⟩
theorem d_M_layTurns_29 : Dc prog_14_method_89_code 29 (.aload_n 0) 1 30 := ⟨by decide +kernel, rfl⟩
theorem d_M_layTurns_30 : Dc prog_14_method_89_code 30 (.getfield 117) 3 33 := ⟨by decide +kernel, rfl⟩
theorem d_M_layTurns_33 : Dc prog_14_method_89_code 33 (.iload_n 2) 1 34 := ⟨by decide +kernel, rfl⟩
theorem d_M_layTurns_34 : Dc prog_14_method_89_code 34 (.dup2) 1 35 := ⟨by decide +kernel, rfl⟩
theorem d_M_layTurns_35 : Dc prog_14_method_89_code 35 (.iaload) 1 36 := ⟨by decide +kernel, rfl⟩
theorem d_M_layTurns_36 : Dc prog_14_method_89_code 36 (.iconst 1) 1 37 := ⟨by decide +kernel, rfl⟩
theorem d_M_layTurns_37 : Dc prog_14_method_89_code 37 (.iadd) 1 38 := ⟨by decide +kernel, rfl⟩
theorem d_M_layTurns_38 : Dc prog_14_method_89_code 38 (.iastore) 1 39 := ⟨by decide +kernel, rfl⟩
theorem d_M_layTurns_39 : Dc prog_14_method_89_code 39 (.aload_n 0) 1 40 := ⟨by decide +kernel, rfl⟩
theorem d_M_layTurns_40 : Dc prog_14_method_89_code 40 (.getfield 117) 3 43 := ⟨by decide +kernel, rfl⟩
theorem d_M_layTurns_43 : Dc prog_14_method_89_code 43 (.iload_n 2) 1 44 := ⟨by decide +kernel, rfl⟩
theorem d_M_layTurns_44 : Dc prog_14_method_89_code 44 (.iaload) 1 45 := ⟨by decide +kernel, rfl⟩
theorem d_M_layTurns_45 : Dc prog_14_method_89_code 45 (.iload_n 1) 1 46 := ⟨by decide +kernel, rfl⟩
theorem d_M_layTurns_46 : Dj prog_14_method_89_code 46 (.if_icmp .ge 30) 49 30 76 := ⟨by decide +kernel, rfl, rfl⟩
theorem d_M_layTurns_49 : Dc prog_14_method_89_code 49 (.aload_n 0) 1 50 := ⟨by decide +kernel, rfl⟩
theorem d_M_layTurns_50 : Dc prog_14_method_89_code 50 (.iload_n 2) 1 51 := ⟨by decide +kernel, rfl⟩
theorem d_M_layTurns_51 : Dc prog_14_method_89_code 51 (.aload_n 0) 1 52 := ⟨by decide +kernel, rfl⟩
theorem d_M_layTurns_52 : Dc prog_14_method_89_code 52 (.getfield 117) 3 55 := ⟨by decide +kernel, rfl⟩
theorem d_M_layTurns_55 : Dc prog_14_method_89_code 55 (.iload_n 2) 1 56 := ⟨by decide +kernel, rfl⟩
theorem d_M_layTurns_56 : Dc prog_14_method_89_code 56 (.iaload) 1 57 := ⟨by decide +kernel, rfl⟩
theorem d_M_layTurns_57 : Dc prog_14_method_89_code 57 (.invokevirtual 486) 3 60 := ⟨by decide +kernel, rfl⟩
theorem d_M_layTurns_60 : Dj prog_14_method_89_code 60 (.ifCond .ne 16) 63 16 76 := ⟨by decide +kernel, rfl, rfl⟩
theorem d_M_layTurns_63 : Dc prog_14_method_89_code 63 (.aload_n 0) 1 64 := ⟨by decide +kernel, rfl⟩
theorem d_M_layTurns_64 : Dc prog_14_method_89_code 64 (.getfield 117) 3 67 := ⟨by decide +kernel, rfl⟩
theorem d_M_layTurns_67 : Dc prog_14_method_89_code 67 (.iload_n 2) 1 68 := ⟨by decide +kernel, rfl⟩
theorem d_M_layTurns_68 : Dc prog_14_method_89_code 68 (.dup2) 1 69 := ⟨by decide +kernel, rfl⟩
theorem d_M_layTurns_69 : Dc prog_14_method_89_code 69 (.iaload) 1 70 := ⟨by decide +kernel, rfl⟩
theorem d_M_layTurns_70 : Dc prog_14_method_89_code 70 (.iconst 1) 1 71 := ⟨by decide +kernel, rfl⟩
theorem d_M_layTurns_71 : Dc prog_14_method_89_code 71 (.iadd) 1 72 := ⟨by decide +kernel, rfl⟩
theorem d_M_layTurns_72 : Dc prog_14_method_89_code 72 (.iastore) 1 73 := ⟨by decide +kernel, rfl⟩
theorem d_M_layTurns_73 : Dj prog_14_method_89_code 73 (.goto (-34)) 76 (-34) 39 := ⟨by decide +kernel, rfl, rfl⟩
theorem d_M_layTurns_76 : Dc prog_14_method_89_code 76 (.aload_n 0) 1 77 := ⟨by decide +kernel, rfl⟩
theorem d_M_layTurns_77 : Dc prog_14_method_89_code 77 (.getfield 117) 3 80 := ⟨by decide +kernel, rfl⟩
theorem d_M_layTurns_80 : Dc prog_14_method_89_code 80 (.iload_n 2) 1 81 := ⟨by decide +kernel, rfl⟩
theorem d_M_layTurns_81 : Dc prog_14_method_89_code 81 (.iaload) 1 82 := ⟨by decide +kernel, rfl⟩
theorem d_M_layTurns_82 : Dc prog_14_method_89_code 82 (.iload_n 1) 1 83 := ⟨by decide +kernel, rfl⟩
theorem d_M_layTurns_83 : Dj prog_14_method_89_code 83 (.if_icmp .ne 9) 86 9 92 := ⟨by decide +kernel, rfl, rfl⟩
theorem d_M_layTurns_86 : Dc prog_14_method_89_code 86 (.iinc 2 (-1)) 3 89 := ⟨by decide +kernel, rfl⟩
theorem d_M_layTurns_89 : Dj prog_14_method_89_code 89 (.goto (-68)) 92 (-68) 21 := ⟨by decide +kernel, rfl, rfl⟩
theorem d_M_layTurns_92 : Dc prog_14_method_89_code 92 (.iload_n 2) 1 93 := ⟨by decide +kernel, rfl⟩
theorem d_M_layTurns_93 : Dc prog_14_method_89_code 93 (.iload_n 1) 1 94 := ⟨by decide +kernel, rfl⟩
theorem d_M_layTurns_94 : Dc prog_14_method_89_code 94 (.iconst 1) 1 95 := ⟨by decide +kernel, rfl⟩
theorem d_M_layTurns_95 : Dc prog_14_method_89_code 95 (.isub) 1 96 := ⟨by decide +kernel, rfl⟩
theorem d_M_layTurns_96 : Dj prog_14_method_89_code 96 (.if_icmp .ne 48) 99 48 144 := ⟨by decide +kernel, rfl, rfl⟩
theorem d_M_layTurns_99 : Dc prog_14_method_89_code 99 (.iconst 0) 1 100 := ⟨by decide +kernel, rfl⟩
theorem d_M_layTurns_100 : Dc prog_14_method_89_code 100 (.istore_n 3) 1 101 := ⟨by decide +kernel, rfl⟩
theorem d_M_layTurns_101 : Dc prog_14_method_89_code 101 (.iload_n 3) 1 102 := ⟨by decide +kernel, rfl⟩
theorem d_M_layTurns_102 : Dc prog_14_method_89_code 102 (.iload_n 1) 1 103 := ⟨by decide +kernel, rfl⟩
theorem d_M_layTurns_103 : Dj prog_14_method_89_code 103 (.if_icmp .ge 28) 106 28 131 := ⟨by decide +kernel, rfl, rfl⟩
theorem d_M_layTurns_106 : Dc prog_14_method_89_code 106 (.aload_n 0) 1 107 := ⟨by decide +kernel, rfl⟩
theorem d_M_layTurns_107 : Dc prog_14_method_89_code 107 (.getfield 114) 3 110 := ⟨by decide +kernel, rfl⟩
theorem d_M_layTurns_110 : Dc prog_14_method_89_code 110 (.iconst 5) 1 111 := ⟨by decide +kernel, rfl⟩
theorem d_M_layTurns_111 : Dc prog_14_method_89_code 111 (.aload_n 0) 1 112 := ⟨by decide +kernel, rfl⟩
theorem d_M_layTurns_112 : Dc prog_14_method_89_code 112 (.getfield 483) 3 115 := ⟨by decide +kernel, rfl⟩
theorem d_M_layTurns_115 : Dc prog_14_method_89_code 115 (.imul) 1 116 := ⟨by decide +kernel, rfl⟩
theorem d_M_layTurns_116 : Dc prog_14_method_89_code 116 (.iload_n 3) 1 117 := ⟨by decide +kernel, rfl⟩
theorem d_M_layTurns_117 : Dc prog_14_method_89_code 117 (.iadd) 1 118 := ⟨by decide +kernel, rfl⟩
theorem d_M_layTurns_118 : Dc prog_14_method_89_code 118 (.aload_n 0) 1 119 := ⟨by decide +kernel, rfl⟩
theorem d_M_layTurns_119 : Dc prog_14_method_89_code 119 (.getfield 117) 3 122 := ⟨by decide +kernel, rfl⟩
theorem d_M_layTurns_122 : Dc prog_14_method_89_code 122 (.iload_n 3) 1 123 := ⟨by decide +kernel, rfl⟩
theorem d_M_layTurns_123 : Dc prog_14_method_89_code 123 (.iaload) 1 124 := ⟨by decide +kernel, rfl⟩
theorem d_M_layTurns_124 : Dc prog_14_method_89_code 124 (.iastore) 1 125 := ⟨by decide +kernel, rfl⟩
theorem d_M_layTurns_125 : Dc prog_14_method_89_code 125 (.iinc 3 1) 3 128 := ⟨by decide +kernel, rfl⟩
theorem d_M_layTurns_128 : Dj prog_14_method_89_code 128 (.goto (-27)) 131 (-27) 101 := ⟨by decide +kernel, rfl, rfl⟩
theorem d_M_layTurns_131 : Dc prog_14_method_89_code 131 (.aload_n 0) 1 132 := ⟨by decide +kernel, rfl⟩
theorem d_M_layTurns_132 : Dc prog_14_method_89_code 132 (.dup) 1 133 := ⟨by decide +kernel, rfl⟩
theorem d_M_layTurns_133 : Dc prog_14_method_89_code 133 (.getfield 483) 3 136 := ⟨by decide +kernel, rfl⟩
theorem d_M_layTurns_136 : Dc prog_14_method_89_code 136 (.iconst 1) 1 137 := ⟨by decide +kernel, rfl⟩
theorem d_M_layTurns_137 : Dc prog_14_method_89_code 137 (.iadd) 1 138 := ⟨by decide +kernel, rfl⟩
theorem d_M_layTurns_138 : Dc prog_14_method_89_code 138 (.putfield 483) 3 141 := ⟨by decide +kernel, rfl⟩
theorem d_M_layTurns_141 : Dj prog_14_method_89_code 141 (.goto (-120)) 144 (-120) 21 := ⟨by decide +kernel, rfl, rfl⟩
theorem d_M_layTurns_144 : Dc prog_14_method_89_code 144 (.iinc 2 1) 3 147 := ⟨by decide +kernel, rfl⟩
theorem d_M_layTurns_147 : Dc prog_14_method_89_code 147 (.aload_n 0) 1 148 := ⟨by decide +kernel, rfl⟩
theorem d_M_layTurns_148 : Dc prog_14_method_89_code 148 (.getfield 117) 3 151 := ⟨by decide +kernel, rfl⟩
theorem d_M_layTurns_151 : Dc prog_14_method_89_code 151 (.iload_n 2) 1 152 := ⟨by decide +kernel, rfl⟩
theorem d_M_layTurns_152 : Dc prog_14_method_89_code 152 (.iconst (-1)) 1 153 := ⟨by decide +kernel, rfl⟩
theorem d_M_layTurns_153 : Dc prog_14_method_89_code 153 (.iastore) 1 154 := ⟨by decide +kernel, rfl⟩
theorem d_M_layTurns_154 : Dj prog_14_method_89_code 154 (.goto (-133)) 157 (-133) 21 := ⟨by decide +kernel, rfl, rfl⟩
theorem d_M_layTurns_157 : Dc prog_14_method_89_code 157 (.return_) 1 158 := ⟨by decide +kernel, rfl⟩
theorem fl_M_114 : FL "SubgraphDeskModel" 114 12 46 true (.array .int) (3, 25) := ⟨R_M, F_M, 69, ty_M, rfl, rfl, in_M, tyok_M, nm_M, by decide, gd 1518 (by decide +kernel) rfl, rfl, rfl, rfl⟩
theorem fl_M_483 : FL "SubgraphDeskModel" 483 12 47 false .int (0, 0) := ⟨R_M, F_M, 69, ty_M, rfl, rfl, in_M, tyok_M, nm_M, by decide, gd 1519 (by decide +kernel) rfl, rfl, rfl, rfl⟩
theorem ml_M_486 : Cond.methodLink "SubgraphDeskModel" 486 m_M_canTurn.1 ∈ lw_gd := gd 2043 (by decide +kernel) rfl
/-- the product of 1 .. n -/
def fct : Nat → Nat
  | 0 => 1
  | n + 1 => (n + 1) * fct n
theorem flat_len {α : Type} (f : Nat → List α) (P : Nat → Bool) (B : Nat) : ∀ (l : List Nat), (∀ n ∈ l, P n = false → f n = []) → (∀ n ∈ l, P n = true → (f n).length ≤ B) → (l.flatMap f).length ≤ (l.filter P).length * B
  | [], _, _ => by simp
  | n :: t, h1, h2 => by
    have ih := flat_len f P B t (fun m hm => h1 m (List.mem_cons_of_mem _ hm)) (fun m hm => h2 m (List.mem_cons_of_mem _ hm))
    rw [List.flatMap_cons, List.length_append]
    by_cases e : P n = true
    · rw [List.filter_cons_of_pos e, List.length_cons, Nat.succ_mul]
      have := h2 n List.mem_cons_self e
      omega
    · rw [List.filter_cons_of_neg e, h1 n List.mem_cons_self (Bool.eq_false_iff.mpr e)]
      simpa using ih
theorem turn_ne {g : GC} {q : List Nat} {v o : Nat} : ∀ (m : Nat), turnN g q v o m = true → ∀ u, u < m → gA q u ≠ o
  | 0, _, u, hu => absurd hu (Nat.not_lt_zero _)
  | m + 1, h, u, hu => by
    unfold turnN at h
    rw [Bool.and_eq_true, Bool.and_eq_true] at h
    by_cases e : u = m
    · rw [e]; intro z; simp [z] at h
    · exact turn_ne m h.1 u (by omega)
theorem turn_notin {g : GC} {q : List Nat} {o : Nat} (h : turnN g q q.length o q.length = true) : o ∉ q := fun hm => by
  obtain ⟨u, hu, e⟩ := mem_gA hm
  exact turn_ne _ h u hu e
theorem extT_le {g : GC} : ∀ (r : Nat) (q : List Nat), q.Nodup → (∀ x ∈ q, x < gV g) → q.length + r = gV g → (extT g r q).length ≤ fct r
  | 0, q, _, _, _ => Nat.le_refl _
  | r + 1, q, hd, hq, hl => by
    unfold extT
    refine Nat.le_trans (flat_len _ (fun n => turnN g q q.length n q.length) (fct r) _ (fun n hn e => ?_) (fun n hn e => ?_)) ?_
    · show (if turnN g q q.length n q.length = true then _ else _) = _
      rw [show turnN g q q.length n q.length = false from e]; rfl
    · show (if turnN g q q.length n q.length = true then extT g r (q ++ [n]) else []).length ≤ _
      rw [show turnN g q q.length n q.length = true from e]
      refine extT_le r (q ++ [n]) ?_ ?_ ?_
      · rw [List.nodup_append]
        exact ⟨hd, by simp, fun a ha b hb z => turn_notin e (by rw [List.mem_singleton] at hb; rw [← hb, ← z]; exact ha)⟩
      · exact mem_snoc hq (List.mem_range.mp hn)
      · rw [List.length_append, List.length_singleton]; omega
    · refine Nat.mul_le_mul_right _ ?_
      have h1 : ((List.range (gV g)).filter (fun n => turnN g q q.length n q.length) ++ q).length ≤ (List.range (gV g)).length := by
        refine nodup_len _ _ ?_ (fun x hx => ?_)
        · rw [List.nodup_append]
          refine ⟨List.nodup_range.filter _, hd, fun a ha b hb z => ?_⟩
          rw [List.mem_filter] at ha
          exact turn_notin ha.2 (z ▸ hb)
        · rw [List.mem_append] at hx
          rcases hx with hx | hx
          · exact (List.mem_filter.mp hx).1
          · exact List.mem_range.mpr (hq x hx)
      rw [List.length_append, List.length_range] at h1
      omega
theorem fct_5 : ∀ n, n ≤ 5 → fct n ≤ 120 := by decide
theorem turns_le {g : GC} (hv : gV g ≤ 5) : (turnsL g).length ≤ 120 := Nat.le_trans (extT_le (gV g) [] (by simp) (by simp) (by simp)) (fct_5 _ hv)
theorem extT_mem {g : GC} : ∀ (r : Nat) (q : List Nat) (x : List Nat), (∀ n ∈ q, n < gV g) → x ∈ extT g r q → x.length = q.length + r ∧ ∀ n ∈ x, n < gV g
  | 0, q, x, hq, h => by
    rw [extT, List.mem_singleton] at h
    rw [h]; exact ⟨rfl, hq⟩
  | r + 1, q, x, hq, h => by
    rw [extT, List.mem_flatMap] at h
    obtain ⟨n, hn, hx⟩ := h
    rw [List.mem_range] at hn
    split at hx
    · have := extT_mem r (q ++ [n]) x (mem_snoc hq hn) hx
      rw [List.length_append, List.length_singleton] at this
      exact ⟨by omega, this.2⟩
    · simp at hx
theorem turns_mem {g : GC} {x : List Nat} (h : x ∈ turnsL g) : x.length = gV g ∧ ∀ n ∈ x, n < gV g := by
  have := extT_mem (gV g) [] x (by simp) h
  simpa using this
/-- what layTurns lays -/
def turnsM (g : GC) : List (List Nat) := if gV g = 0 then [] else turnsL g
theorem nI_nle0 {n : Nat} (h0 : 0 < n) (h : n < 2 ^ 31) : ¬ nI n ≤ 0 := by
  rw [Int32.le_iff_toInt_le, nI_toInt h]
  show ¬ (n : Int) ≤ 0
  omega
theorem m1_add (x : Int32) : x + Int32.ofInt (-1) = x - nI 1 := by
  rw [Int32.sub_eq_add_neg]
  rfl
def TriP (w : Mem) (q : List Nat) : Prop := ∀ u, u < q.length → rI w 115 u = nI (gA q u)
theorem TriP.snoc {w : Mem} {q : List Nat} {c : Nat} (h : TriP w q) (hc : rI w 115 q.length = nI c) : TriP w (q ++ [c]) := fun u hu => by
  rw [List.length_append, List.length_singleton] at hu
  by_cases e : u = q.length
  · rw [e, gA_snoc]; exact hc
  · rw [gA_snoc_l (by omega)]; exact h u (by omega)
theorem TriP.init {w : Mem} {q : List Nat} {c : Nat} (h : TriP w (q ++ [c])) : TriP w q ∧ rI w 115 q.length = nI c := by
  refine ⟨fun u hu => ?_, ?_⟩
  · have := h u (by rw [List.length_append, List.length_singleton]; omega)
    rw [gA_snoc_l hu] at this
    exact this
  · have := h q.length (by rw [List.length_append, List.length_singleton]; omega)
    rw [gA_snoc] at this
    exact this
theorem TriP.L {w : Mem} {q : List Nat} {k : Nat} {x : Int32} (h : TriP w q) (hk : q.length ≤ k) : TriP (sI w 115 k x) q := fun u hu => by
  rw [rI_sI, upd_eq, if_neg (by omega)]; exact h u hu
theorem TurnsP.L {w : Mem} {ts : List (List Nat)} {k : Nat} {x : Int32} (h : TurnsP w ts) : TurnsP (sI w 115 k x) ts := by
  refine ⟨by rw [rI_sI_ne _ _ _ (by decide)]; exact h.1, fun k q hk u hu => ?_⟩
  rw [rI_sI_ne _ _ _ (by decide)]; exact h.2 k q hk u hu
theorem TurnsP.nil {w : Mem} (h : rI w 89 47 = nI 0) : TurnsP w [] := ⟨h, fun k q hk => by simp at hk⟩
theorem TurnsP.snoc {w : Mem} {ts : List (List Nat)} {q : List Nat} {f : Nat → Int32} (h : TurnsP w ts) (hl : ∀ x ∈ ts, x.length ≤ 5) (h1 : ∀ j, j < q.length → f (5 * ts.length + j) = nI (gA q j)) (h2 : ∀ j, j < 5 * ts.length → f j = rI w 114 j) : TurnsP (sI (sA w 114 f) 89 47 (nI (ts.length + 1))) (ts ++ [q]) := by
  refine ⟨by rw [rI_sI, upd_eq, if_pos rfl, List.length_append]; rfl, fun k x hk u hu => ?_⟩
  rw [rI_sI_ne _ _ _ (by decide), rI_sA]
  by_cases e : k < ts.length
  · rw [List.getElem?_append_left e] at hk
    have h5 := hl x (List.mem_of_getElem? hk)
    rw [h2 _ (by omega)]
    exact h.2 k x hk u hu
  · rw [List.getElem?_append_right (by omega)] at hk
    have hk0 : k = ts.length := by
      by_cases e2 : k = ts.length
      · exact e2
      · rw [List.getElem?_eq_none (by rw [List.length_singleton]; omega)] at hk
        cases hk
    subst hk0
    rw [Nat.sub_self] at hk
    obtain rfl : q = x := by simpa using hk
    exact h1 u hu
def StT (w wk : Mem) (g : GC) (q : List Nat) (x : Int32) (ts : List (List Nat)) : Prop := FrU w wk ∧ TriP wk q ∧ rI wk 115 q.length = x ∧ TurnsP wk ts ∧ ∀ y ∈ ts, y.length ≤ 5
def BkT (w wk : Mem) (q : List Nat) (ts : List (List Nat)) : Prop := FrU w wk ∧ TriP wk q ∧ TurnsP wk ts ∧ ∀ y ∈ ts, y.length ≤ 5
theorem FrU.tr_A {w w2 : Mem} (h : FrU w w2) (f : Nat → Int32) : FrU w (sA w2 114 f) := ⟨fun a h1 h2 h3 => by rw [rI_sA_ne _ _ h2]; exact h.1 a h1 h2 h3, fun k hk => by rw [rI_sA_ne _ _ (by decide)]; exact h.2.1 k hk, h.2.2⟩
theorem c_M_layTurns {E : EV} {w : Mem} {g : GC} (hR : MRow (rI w 91) g) (hW : WG g) : T E m_M_layTurns 3 0 0 [.ref 89] w (fun r w2 => r = none ∧ FrU w w2 ∧ TurnsP w2 (turnsM g)) := by
  refine T_of (L := [.ref 89, un, un, un]) cf_M_layTurns rfl (Nat.le_of_ble_eq_true rfl) (fun X hX hF => ?_)
  have hgv := hW.v
  have hle := turns_le hgv
  have go21 : ∀ (q : List Nat) (c : Nat) (wk : Mem) (ts : List (List Nat)), q.length < gV g → StT w wk g q (nI c - nI 1) ts → (∀ w2, StT w w2 g q (nI c) ts → G0 E X 0 0 39 [.ref 89, .int (nI (gV g)), .int (nI q.length), un] [] w2) → G0 E X 0 0 21 [.ref 89, .int (nI (gV g)), .int (nI q.length), un] [] wk := by
    rintro q c wk ts hql ⟨h1, h3, h4, h5, h6⟩ hk
    refine g_iload2 hX d_M_layTurns_21 ?_
    refine g_if_lt hX d_M_layTurns_22 (fun h => absurd h (nI_pos (by omega))) (fun c0 => ?_)
    refine g_iload1 hX d_M_layTurns_25 ?_
    refine g_if_le hX d_M_layTurns_26 (fun h => absurd h (nI_nle0 (by omega) (by omega))) (fun c1 => ?_)
    refine g_aload0 hX d_M_layTurns_29 ?_
    refine g_getF hX d_M_layTurns_30 fl_M_117 (lv_89 _) ?_
    refine g_iload2 hX d_M_layTurns_33 ?_
    refine g_dup2 hX d_M_layTurns_34 rfl rfl ?_
    refine g_iald hX d_M_layTurns_35 (lv_115 _) rfl (by omega) ?_
    refine g_topi h4 ?_
    refine g_iconst (v := nI 1) hX d_M_layTurns_36 rfl ?_
    refine g_iadd hX d_M_layTurns_37 ?_
    refine g_topi (nI_sa c) ?_
    refine g_iast hX d_M_layTurns_38 (lv_115 _) rfl (by omega) ?_
    exact hk _ ⟨h1.L (Or.inr rfl), h3.L (Nat.le_refl _), by rw [rI_sI, upd_eq, if_pos rfl], h5.L, h6⟩
  have lev : ∀ (r : Nat) (d : Nat) (q : List Nat) (c : Nat) (wk : Mem) (ts : List (List Nat)), c + d = gV g → q.length + r + 1 = gV g → (∀ n ∈ q, n < gV g) → ts.length + (remT g r q c).length ≤ 120 → StT w wk g q (nI c) ts → (∀ w2 : Mem, BkT w w2 q (ts ++ remT g r q c) → G0 E X 0 0 21 [.ref 89, .int (nI (gV g)), .int (nI q.length - nI 1), un] [] w2) → G0 E X 0 0 39 [.ref 89, .int (nI (gV g)), .int (nI q.length), un] [] wk := by
    intro r
    induction r with
    | zero =>
      intro d
      induction d with
      | zero =>
        intro q c wk ts hcd hr hq hlen hs hb
        obtain ⟨h1, h3, h4, h5, h6⟩ := hs
        have hql : q.length < gV g := by omega
        have hRk : MRow (rI wk 91) g := by rw [h1.1 91 (by decide) (by decide) (by decide)]; exact hR
        refine g_aload0 hX d_M_layTurns_39 ?_
        refine g_getF hX d_M_layTurns_40 fl_M_117 (lv_89 _) ?_
        refine g_iload2 hX d_M_layTurns_43 ?_
        refine g_iald hX d_M_layTurns_44 (lv_115 _) rfl (by omega) ?_
        refine g_topi h4 ?_
        refine g_iload1 hX d_M_layTurns_45 ?_
        refine g_icmpN_ge hX d_M_layTurns_46 (by omega) (by omega) (fun c0 => ?_) (fun h => absurd h (by omega))
        refine g_aload0 hX d_M_layTurns_76 ?_
        refine g_getF hX d_M_layTurns_77 fl_M_117 (lv_89 _) ?_
        refine g_iload2 hX d_M_layTurns_80 ?_
        refine g_iald hX d_M_layTurns_81 (lv_115 _) rfl (by omega) ?_
        refine g_topi h4 ?_
        refine g_iload1 hX d_M_layTurns_82 ?_
        refine g_icmpN_ne hX d_M_layTurns_83 (by omega) (by omega) (fun h => absurd (by omega) h) (fun c1 => ?_)
        refine g_iinc2 hX d_M_layTurns_86 (m1_add _) rfl (by decide) ?_
        refine g_goto hX d_M_layTurns_89 ?_
        exact hb wk ⟨h1, h3, by rw [remT_N (by omega), List.append_nil]; exact h5, by rw [remT_N (by omega), List.append_nil]; exact h6⟩
      | succ d ihd =>
        intro q c wk ts hcd hr hq hlen hs hb
        have ihc := ihd q
        obtain ⟨h1, h3, h4, h5, h6⟩ := hs
        have hql : q.length < gV g := by omega
        have hRk : MRow (rI wk 91) g := by rw [h1.1 91 (by decide) (by decide) (by decide)]; exact hR
        refine g_aload0 hX d_M_layTurns_39 ?_
        refine g_getF hX d_M_layTurns_40 fl_M_117 (lv_89 _) ?_
        refine g_iload2 hX d_M_layTurns_43 ?_
        refine g_iald hX d_M_layTurns_44 (lv_115 _) rfl (by omega) ?_
        refine g_topi h4 ?_
        refine g_iload1 hX d_M_layTurns_45 ?_
        refine g_icmpN_ge hX d_M_layTurns_46 (by omega) (by omega) (fun h => absurd h (by omega)) (fun c0 => ?_)
        refine g_aload0 hX d_M_layTurns_49 ?_
        refine g_iload2 hX d_M_layTurns_50 ?_
        refine g_aload0 hX d_M_layTurns_51 ?_
        refine g_getF hX d_M_layTurns_52 fl_M_117 (lv_89 _) ?_
        refine g_iload2 hX d_M_layTurns_55 ?_
        refine g_iald hX d_M_layTurns_56 (lv_115 _) rfl (by omega) ?_
        refine g_topi h4 ?_
        refine g_callV (As := [_, _]) hX hF.1 d_M_layTurns_57 ml_M_486 cf_M_canTurn cv_M_canTurn rfl rfl (c_M_canTurn (w := wk) (g := g) (v := q.length) (o := c) (q := q) hRk hW hql (by omega) (fun u hu => ⟨h3 u hu, by have := hq _ (gA_mem hu); omega⟩)) (rcv_obj hX (lv_89 _) rfl rfl) (by omega) (by omega) (by omega) (Nat.le_of_ble_eq_true rfl) ?_
        refine ret_k ?_
        refine g_ifB_ne hX d_M_layTurns_60 (fun e60 => ?_) (fun e60 => ?_)
        · have hok : turnN g q q.length c q.length = true := e60
          refine g_aload0 hX d_M_layTurns_76 ?_
          refine g_getF hX d_M_layTurns_77 fl_M_117 (lv_89 _) ?_
          refine g_iload2 hX d_M_layTurns_80 ?_
          refine g_iald hX d_M_layTurns_81 (lv_115 _) rfl (by omega) ?_
          refine g_topi h4 ?_
          refine g_iload1 hX d_M_layTurns_82 ?_
          refine g_icmpN_ne hX d_M_layTurns_83 (by omega) (by omega) (fun c2 => ?_) (fun h => absurd h (by omega))
          refine g_iload2 hX d_M_layTurns_92 ?_
          refine g_iload1 hX d_M_layTurns_93 ?_
          refine g_iconst (v := nI 1) hX d_M_layTurns_94 rfl ?_
          refine g_isubN hX d_M_layTurns_95 (by omega) ?_
          refine g_icmpN_ne hX d_M_layTurns_96 (by omega) (by omega) (fun h => absurd (by omega) h) (fun c3 => ?_)
          have h7 := h3.snoc h4
          have hlen2 := hlen
          rw [remT_yes (by omega) hok, List.length_append, show (extT g 0 (q ++ [c])).length = 1 from rfl] at hlen2
          have lpC : ∀ (fuel : Nat) (v : Nat) (f : Nat → Int32), gV g - v < fuel → (v ≤ gV g) → (∀ j, j < v → f (5 * ts.length + j) = nI (gA (q ++ [c]) j)) → (∀ j, j < 5 * ts.length → f j = rI wk 114 j) → G0 E X 0 0 101 [.ref 89, .int (nI (gV g)), .int (nI q.length), .int (nI v)] [] (sA wk 114 f) := by
            intro fuel
            induction fuel with
            | zero => intro v f q0; exact absurd q0 (Nat.not_lt_zero _)
            | succ fuel ih =>
              intro v f q0 q1 q2 q3
              refine g_iload3 hX d_M_layTurns_101 ?_
              refine g_iload1 hX d_M_layTurns_102 ?_
              refine g_icmpN_ge hX d_M_layTurns_103 (by omega) (by omega) (fun c0 => ?_) (fun c0 => ?_)
              · refine g_aload0 hX d_M_layTurns_131 ?_
                refine g_dup hX d_M_layTurns_132 rfl ?_
                refine g_getI hX d_M_layTurns_133 fl_M_483 (lv_89 _) ?_
                refine g_topi (show rI (sA wk 114 f) 89 47 = nI ts.length from h5.1) ?_
                refine g_iconst (v := nI 1) hX d_M_layTurns_136 rfl ?_
                refine g_iaddN hX d_M_layTurns_137 ?_
                refine g_putI hX d_M_layTurns_138 fl_M_483 (lv_89 _) ?_
                refine g_goto hX d_M_layTurns_141 ?_
                refine g_fget 3 ?_
                refine go21 q (c + 1) _ (ts ++ [q ++ [c]]) (by omega) ⟨FrU.D (h1.tr_A f), fun u hu => by rw [rI_sI_ne _ _ _ (by decide), rI_sA_ne _ _ (by decide)]; exact h3 u hu, ?_, TurnsP.snoc h5 h6 (fun j hj => q2 j (by rw [List.length_append, List.length_singleton] at hj; omega)) q3, ?_⟩ (fun w2 hw2 => ihc (c + 1) w2 (ts ++ [q ++ [c]]) (by omega) (by omega) hq ?_ hw2 (fun w3 hw3 => hb w3 ?_))
                · rw [rI_sI_ne _ _ _ (by decide), rI_sA_ne _ _ (by decide), h4, m1_nI]
                · intro y hy
                  rw [List.mem_append, List.mem_singleton] at hy
                  rcases hy with hy | hy
                  · exact h6 y hy
                  · rw [hy, List.length_append, List.length_singleton]; omega
                · rw [remT_yes (by omega) hok] at hlen
                  rw [List.length_append, List.length_singleton]
                  rw [List.length_append, show (extT g 0 (q ++ [c])).length = 1 from rfl] at hlen
                  omega
                · rw [remT_yes (by omega) hok, ← List.append_assoc]
                  exact hw3
              · refine g_aload0 hX d_M_layTurns_106 ?_
                refine g_getF hX d_M_layTurns_107 fl_M_114 (lv_89 _) ?_
                refine g_iconst (v := nI 5) hX d_M_layTurns_110 rfl ?_
                refine g_aload0 hX d_M_layTurns_111 ?_
                refine g_getI hX d_M_layTurns_112 fl_M_483 (lv_89 _) ?_
                refine g_topi (show rI (sA wk 114 f) 89 47 = nI ts.length from h5.1) ?_
                refine g_imulN hX d_M_layTurns_115 ?_
                refine g_iload3 hX d_M_layTurns_116 ?_
                refine g_iaddN hX d_M_layTurns_117 ?_
                refine g_aload0 hX d_M_layTurns_118 ?_
                refine g_getF hX d_M_layTurns_119 fl_M_117 (lv_89 _) ?_
                refine g_iload3 hX d_M_layTurns_122 ?_
                refine g_iald hX d_M_layTurns_123 (lv_115 _) rfl (by omega) ?_
                refine g_topi (show rI (sA wk 114 f) 115 v = nI (gA (q ++ [c]) v) from h7 v (by rw [List.length_append, List.length_singleton]; omega)) ?_
                refine g_iast hX d_M_layTurns_124 (lv_114 _) rfl (by omega) ?_
                refine g_iincN3 hX d_M_layTurns_125 rfl (by decide) ?_
                refine g_goto hX d_M_layTurns_128 ?_
                rw [sI_sA]
                refine ih (v + 1) _ (by omega) (by omega) (fun j hj => ?_) (fun j hj => ?_)
                · rw [upd_eq]
                  by_cases e : j = v
                  · rw [if_pos (by omega), e]
                  · rw [if_neg (by omega)]; exact q2 j (by omega)
                · rw [upd_eq, if_neg (by omega)]; exact q3 j hj
          refine g_iconst (v := nI 0) hX d_M_layTurns_99 rfl ?_
          refine g_istore3 hX d_M_layTurns_100 rfl (by decide) ?_
          refine g_mem (show wk = sA wk 114 (rI wk 114) from (sA_self _ _).symm) ?_
          exact lpC (gV g + 1) 0 _ (by omega) (Nat.zero_le _) (fun j hj => absurd hj (Nat.not_lt_zero _)) (fun j hj => rfl)
        · refine g_aload0 hX d_M_layTurns_63 ?_
          refine g_getF hX d_M_layTurns_64 fl_M_117 (lv_89 _) ?_
          refine g_iload2 hX d_M_layTurns_67 ?_
          refine g_dup2 hX d_M_layTurns_68 rfl rfl ?_
          refine g_iald hX d_M_layTurns_69 (lv_115 _) rfl (by omega) ?_
          refine g_topi h4 ?_
          refine g_iconst (v := nI 1) hX d_M_layTurns_70 rfl ?_
          refine g_iaddN hX d_M_layTurns_71 ?_
          refine g_iast hX d_M_layTurns_72 (lv_115 _) rfl (by omega) ?_
          refine g_goto hX d_M_layTurns_73 ?_
          exact ihc (c + 1) _ ts (by omega) hr hq (by rw [remT_no (by omega) (Bool.eq_false_iff.mpr e60)] at hlen; exact hlen) ⟨h1.L (Or.inr rfl), h3.L (Nat.le_refl _), by rw [rI_sI, upd_eq, if_pos rfl], h5.L, h6⟩ (fun w2 z => hb w2 (by rw [remT_no (by omega) (Bool.eq_false_iff.mpr e60)]; exact z))
    | succ r ihr =>
      intro d
      induction d with
      | zero =>
        intro q c wk ts hcd hr hq hlen hs hb
        obtain ⟨h1, h3, h4, h5, h6⟩ := hs
        have hql : q.length < gV g := by omega
        have hRk : MRow (rI wk 91) g := by rw [h1.1 91 (by decide) (by decide) (by decide)]; exact hR
        refine g_aload0 hX d_M_layTurns_39 ?_
        refine g_getF hX d_M_layTurns_40 fl_M_117 (lv_89 _) ?_
        refine g_iload2 hX d_M_layTurns_43 ?_
        refine g_iald hX d_M_layTurns_44 (lv_115 _) rfl (by omega) ?_
        refine g_topi h4 ?_
        refine g_iload1 hX d_M_layTurns_45 ?_
        refine g_icmpN_ge hX d_M_layTurns_46 (by omega) (by omega) (fun c0 => ?_) (fun h => absurd h (by omega))
        refine g_aload0 hX d_M_layTurns_76 ?_
        refine g_getF hX d_M_layTurns_77 fl_M_117 (lv_89 _) ?_
        refine g_iload2 hX d_M_layTurns_80 ?_
        refine g_iald hX d_M_layTurns_81 (lv_115 _) rfl (by omega) ?_
        refine g_topi h4 ?_
        refine g_iload1 hX d_M_layTurns_82 ?_
        refine g_icmpN_ne hX d_M_layTurns_83 (by omega) (by omega) (fun h => absurd (by omega) h) (fun c1 => ?_)
        refine g_iinc2 hX d_M_layTurns_86 (m1_add _) rfl (by decide) ?_
        refine g_goto hX d_M_layTurns_89 ?_
        exact hb wk ⟨h1, h3, by rw [remT_N (by omega), List.append_nil]; exact h5, by rw [remT_N (by omega), List.append_nil]; exact h6⟩
      | succ d ihd =>
        intro q c wk ts hcd hr hq hlen hs hb
        have ihc := ihd q
        obtain ⟨h1, h3, h4, h5, h6⟩ := hs
        have hql : q.length < gV g := by omega
        have hRk : MRow (rI wk 91) g := by rw [h1.1 91 (by decide) (by decide) (by decide)]; exact hR
        refine g_aload0 hX d_M_layTurns_39 ?_
        refine g_getF hX d_M_layTurns_40 fl_M_117 (lv_89 _) ?_
        refine g_iload2 hX d_M_layTurns_43 ?_
        refine g_iald hX d_M_layTurns_44 (lv_115 _) rfl (by omega) ?_
        refine g_topi h4 ?_
        refine g_iload1 hX d_M_layTurns_45 ?_
        refine g_icmpN_ge hX d_M_layTurns_46 (by omega) (by omega) (fun h => absurd h (by omega)) (fun c0 => ?_)
        refine g_aload0 hX d_M_layTurns_49 ?_
        refine g_iload2 hX d_M_layTurns_50 ?_
        refine g_aload0 hX d_M_layTurns_51 ?_
        refine g_getF hX d_M_layTurns_52 fl_M_117 (lv_89 _) ?_
        refine g_iload2 hX d_M_layTurns_55 ?_
        refine g_iald hX d_M_layTurns_56 (lv_115 _) rfl (by omega) ?_
        refine g_topi h4 ?_
        refine g_callV (As := [_, _]) hX hF.1 d_M_layTurns_57 ml_M_486 cf_M_canTurn cv_M_canTurn rfl rfl (c_M_canTurn (w := wk) (g := g) (v := q.length) (o := c) (q := q) hRk hW hql (by omega) (fun u hu => ⟨h3 u hu, by have := hq _ (gA_mem hu); omega⟩)) (rcv_obj hX (lv_89 _) rfl rfl) (by omega) (by omega) (by omega) (Nat.le_of_ble_eq_true rfl) ?_
        refine ret_k ?_
        refine g_ifB_ne hX d_M_layTurns_60 (fun e60 => ?_) (fun e60 => ?_)
        · have hok : turnN g q q.length c q.length = true := e60
          refine g_aload0 hX d_M_layTurns_76 ?_
          refine g_getF hX d_M_layTurns_77 fl_M_117 (lv_89 _) ?_
          refine g_iload2 hX d_M_layTurns_80 ?_
          refine g_iald hX d_M_layTurns_81 (lv_115 _) rfl (by omega) ?_
          refine g_topi h4 ?_
          refine g_iload1 hX d_M_layTurns_82 ?_
          refine g_icmpN_ne hX d_M_layTurns_83 (by omega) (by omega) (fun c2 => ?_) (fun h => absurd h (by omega))
          refine g_iload2 hX d_M_layTurns_92 ?_
          refine g_iload1 hX d_M_layTurns_93 ?_
          refine g_iconst (v := nI 1) hX d_M_layTurns_94 rfl ?_
          refine g_isubN hX d_M_layTurns_95 (by omega) ?_
          refine g_icmpN_ne hX d_M_layTurns_96 (by omega) (by omega) (fun c3 => ?_) (fun h => absurd h (by omega))
          refine g_iincN2 hX d_M_layTurns_144 rfl (by decide) ?_
          refine g_aload0 hX d_M_layTurns_147 ?_
          refine g_getF hX d_M_layTurns_148 fl_M_117 (lv_89 _) ?_
          refine g_iload2 hX d_M_layTurns_151 ?_
          refine g_iconst (v := -1) hX d_M_layTurns_152 rfl ?_
          refine g_iast hX d_M_layTurns_153 (lv_115 _) rfl (by omega) ?_
          refine g_goto hX d_M_layTurns_154 ?_
          have hlen2 := hlen
          rw [remT_yes (by omega) hok, List.length_append] at hlen2
          refine g_loc (show _ = [.ref 89, .int (nI (gV g)), .int (nI (q ++ [c]).length), un] by rw [List.length_append]; rfl) ?_
          refine go21 (q ++ [c]) 0 _ ts (by rw [List.length_append, List.length_singleton]; omega) ⟨h1.L (Or.inr rfl), (h3.snoc h4).L (by rw [List.length_append, List.length_singleton]; exact Nat.le_refl _), by rw [List.length_append, List.length_singleton, rI_sI, upd_eq, if_pos rfl]; decide, h5.L, h6⟩ (fun w2 hw2 => ihr (gV g) (q ++ [c]) 0 w2 ts (by omega) (by rw [List.length_append, List.length_singleton]; omega) (mem_snoc hq (by omega)) (by rw [remT_0] at hlen2; omega) hw2 (fun w3 ⟨z1, z3, z5, z6⟩ => ?_))
          obtain ⟨y1, y2⟩ := z3.init
          rw [← remT_0] at z5 z6
          refine g_loc (show _ = [.ref 89, .int (nI (gV g)), .int (nI q.length), un] by rw [List.length_append, List.length_singleton, m1_nI]) ?_
          refine go21 q (c + 1) w3 _ hql ⟨z1, y1, by rw [y2, m1_nI], z5, z6⟩ (fun w4 hw4 => ihc (c + 1) w4 _ (by omega) hr hq ?_ hw4 (fun w5 x => hb w5 ?_))
          · rw [List.length_append]; omega
          · rw [remT_yes (by omega) hok, ← List.append_assoc]
            exact x
        · refine g_aload0 hX d_M_layTurns_63 ?_
          refine g_getF hX d_M_layTurns_64 fl_M_117 (lv_89 _) ?_
          refine g_iload2 hX d_M_layTurns_67 ?_
          refine g_dup2 hX d_M_layTurns_68 rfl rfl ?_
          refine g_iald hX d_M_layTurns_69 (lv_115 _) rfl (by omega) ?_
          refine g_topi h4 ?_
          refine g_iconst (v := nI 1) hX d_M_layTurns_70 rfl ?_
          refine g_iaddN hX d_M_layTurns_71 ?_
          refine g_iast hX d_M_layTurns_72 (lv_115 _) rfl (by omega) ?_
          refine g_goto hX d_M_layTurns_73 ?_
          exact ihc (c + 1) _ ts (by omega) hr hq (by rw [remT_no (by omega) (Bool.eq_false_iff.mpr e60)] at hlen; exact hlen) ⟨h1.L (Or.inr rfl), h3.L (Nat.le_refl _), by rw [rI_sI, upd_eq, if_pos rfl], h5.L, h6⟩ (fun w2 z => hb w2 (by rw [remT_no (by omega) (Bool.eq_false_iff.mpr e60)]; exact z))
  refine g_aload0 hX d_M_layTurns_0 ?_
  refine g_iconst (v := nI 0) hX d_M_layTurns_1 rfl ?_
  refine g_putI hX d_M_layTurns_2 fl_M_483 (lv_89 _) ?_
  refine g_aload0 hX d_M_layTurns_5 ?_
  refine g_getF hX d_M_layTurns_6 fl_M_13 (lv_89 _) ?_
  refine g_iconst (v := nI 1) hX d_M_layTurns_9 rfl ?_
  refine g_iald hX d_M_layTurns_10 (lv_91 _) rfl (by decide) ?_
  refine g_topi (show rI (sI w 89 47 (nI 0)) 91 1 = nI (gV g) from hR.v) ?_
  refine g_istore1 hX d_M_layTurns_11 rfl (by decide) ?_
  refine g_iconst (v := nI 0) hX d_M_layTurns_12 rfl ?_
  refine g_istore2 hX d_M_layTurns_13 rfl (by decide) ?_
  refine g_aload0 hX d_M_layTurns_14 ?_
  refine g_getF hX d_M_layTurns_15 fl_M_117 (lv_89 _) ?_
  refine g_iconst (v := nI 0) hX d_M_layTurns_18 rfl ?_
  refine g_iconst (v := -1) hX d_M_layTurns_19 rfl ?_
  refine g_iast hX d_M_layTurns_20 (lv_115 _) rfl (by decide) ?_
  have hfr : FrU w (sI (sI w 89 47 (nI 0)) 115 0 (-1)) := ((FrU.rf w).D).L (Or.inr rfl)
  have htp : TurnsP (sI (sI w 89 47 (nI 0)) 115 0 (-1)) [] := TurnsP.nil (by rw [rI_sI_ne _ _ _ (by decide), rI_sI, upd_eq, if_pos rfl])
  by_cases hv0 : gV g = 0
  · rw [hv0]
    refine g_iload2 hX d_M_layTurns_21 ?_
    refine g_if_lt hX d_M_layTurns_22 (fun h => absurd h (by decide)) (fun c0 => ?_)
    refine g_iload1 hX d_M_layTurns_25 ?_
    refine g_if_le hX d_M_layTurns_26 (fun c1 => ?_) (fun h => absurd (by decide) h)
    refine g_vret hX hF d_M_layTurns_157 (by omega) (by omega) ?_
    exact ⟨rfl, hfr, by unfold turnsM; rw [if_pos hv0]; exact htp⟩
  have e0 : turnsL g = remT g (gV g - 1) [] 0 := by
    rw [← remT_0, show gV g - 1 + 1 = gV g by omega]
    rfl
  refine go21 [] 0 _ [] (by show 0 < gV g; omega) ⟨hfr, fun u hu => absurd hu (Nat.not_lt_zero _), by show rI (sI _ 115 0 _) 115 0 = _; rw [rI_sI, upd_eq, if_pos rfl]; decide, htp, by simp⟩ (fun w2 hw2 => ?_)
  refine lev (gV g - 1) (gV g) [] 0 w2 [] (by omega) (by show 0 + (gV g - 1) + 1 = gV g; omega) (by simp) (by rw [← e0]; simpa using hle) hw2 (fun w3 ⟨z1, z3, z5, z6⟩ => ?_)
  refine g_iload2 hX d_M_layTurns_21 ?_
  refine g_if_lt hX d_M_layTurns_22 (fun c0 => ?_) (fun h => absurd (by decide) h)
  refine g_vret hX hF d_M_layTurns_157 (by omega) (by omega) ?_
  exact ⟨rfl, z1, by unfold turnsM; rw [if_neg hv0, e0]; exact z5⟩
