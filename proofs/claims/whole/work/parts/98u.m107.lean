def m_Hu_goOn : MR := (⟨"SubgraphDesk$Hunt", "goOn", "(I)V"⟩, prog_4_method_3_code, 5, none)
theorem cf_Hu_goOn : CF m_Hu_goOn 1 := ⟨gd 1316 (by decide +kernel) rfl, gd 148 (by decide +kernel) rfl, by decide +kernel, by decide, by decide +kernel⟩
theorem cv_Hu_goOn : CV m_Hu_goOn := ⟨gd 1315 (by decide +kernel) rfl, gd 48 (by decide +kernel) rfl⟩
def m_Hu_tryAll : MR := (⟨"SubgraphDesk$Hunt", "tryAll", "(III)V"⟩, prog_4_method_4_code, 5, none)
theorem cf_Hu_tryAll : CF m_Hu_tryAll 3 := ⟨gd 1330 (by decide +kernel) rfl, gd 148 (by decide +kernel) rfl, by decide +kernel, by decide, by decide +kernel⟩
theorem cv_Hu_tryAll : CV m_Hu_tryAll := ⟨gd 1329 (by decide +kernel) rfl, gd 51 (by decide +kernel) rfl⟩
theorem d_Hu_goOn_0 : Dc prog_4_method_3_code 0 (.iload_n 1) 1 1 := ⟨by decide +kernel, rfl⟩
theorem d_Hu_goOn_1 : Dc prog_4_method_3_code 1 (.aload_n 0) 1 2 := ⟨by decide +kernel, rfl⟩
theorem d_Hu_goOn_2 : Dc prog_4_method_3_code 2 (.getfield 15) 3 5 := ⟨by decide +kernel, rfl⟩
theorem d_Hu_goOn_5 : Dc prog_4_method_3_code 5 (.getfield 38) 3 8 := ⟨by decide +kernel, rfl⟩
theorem d_Hu_goOn_8 : Dj prog_4_method_3_code 8 (.if_icmp .lt 4) 11 4 12 := ⟨by decide +kernel, rfl, rfl⟩
theorem d_Hu_goOn_12 : Dc prog_4_method_3_code 12 (.aload_n 0) 1 13 := ⟨by decide +kernel, rfl⟩
theorem d_Hu_goOn_13 : Dc prog_4_method_3_code 13 (.invokevirtual 47) 3 16 := ⟨by decide +kernel, rfl⟩
theorem d_Hu_goOn_16 : Dc prog_4_method_3_code 16 (.istore_n 2) 1 17 := ⟨by decide +kernel, rfl⟩
theorem d_Hu_goOn_17 : Dc prog_4_method_3_code 17 (.aload_n 0) 1 18 := ⟨by decide +kernel, rfl⟩
theorem d_Hu_goOn_18 : Dc prog_4_method_3_code 18 (.iload_n 2) 1 19 := ⟨by decide +kernel, rfl⟩
theorem d_Hu_goOn_19 : Dc prog_4_method_3_code 19 (.invokevirtual 51) 3 22 := ⟨by decide +kernel, rfl⟩
theorem d_Hu_goOn_22 : Dc prog_4_method_3_code 22 (.istore_n 3) 1 23 := ⟨by decide +kernel, rfl⟩
theorem d_Hu_goOn_23 : Dc prog_4_method_3_code 23 (.iload_n 1) 1 24 := ⟨by decide +kernel, rfl⟩
theorem d_Hu_goOn_24 : Dc prog_4_method_3_code 24 (.aload_n 0) 1 25 := ⟨by decide +kernel, rfl⟩
theorem d_Hu_goOn_25 : Dc prog_4_method_3_code 25 (.getfield 15) 3 28 := ⟨by decide +kernel, rfl⟩
theorem d_Hu_goOn_28 : Dc prog_4_method_3_code 28 (.getfield 38) 3 31 := ⟨by decide +kernel, rfl⟩
theorem d_Hu_goOn_31 : Dc prog_4_method_3_code 31 (.iconst 1) 1 32 := ⟨by decide +kernel, rfl⟩
theorem d_Hu_goOn_32 : Dc prog_4_method_3_code 32 (.isub) 1 33 := ⟨by decide +kernel, rfl⟩
theorem d_Hu_goOn_33 : Dj prog_4_method_3_code 33 (.if_icmp .ne 44) 36 44 77 := ⟨by decide +kernel, rfl, rfl⟩
theorem d_Hu_goOn_36 : Dc prog_4_method_3_code 36 (.iload_n 3) 1 37 := ⟨by decide +kernel, rfl⟩
theorem d_Hu_goOn_37 : Dc prog_4_method_3_code 37 (.invokestatic 55) 3 40 := ⟨by decide +kernel, rfl⟩
theorem d_Hu_goOn_40 : Dc prog_4_method_3_code 40 (.aload_n 0) 1 41 := ⟨by decide +kernel, rfl⟩
theorem d_Hu_goOn_41 : Dc prog_4_method_3_code 41 (.getfield 22) 3 44 := ⟨by decide +kernel, rfl⟩
theorem d_Hu_goOn_44 : Dc prog_4_method_3_code 44 (.aload_n 0) 1 45 := ⟨by decide +kernel, rfl⟩
theorem d_Hu_goOn_45 : Dc prog_4_method_3_code 45 (.getfield 32) 3 48 := ⟨by decide +kernel, rfl⟩
theorem d_Hu_goOn_48 : Dc prog_4_method_3_code 48 (.isub) 1 49 := ⟨by decide +kernel, rfl⟩
theorem d_Hu_goOn_49 : Dc prog_4_method_3_code 49 (.invokestatic 60) 3 52 := ⟨by decide +kernel, rfl⟩
theorem d_Hu_goOn_52 : Dc prog_4_method_3_code 52 (.istore 4) 2 54 := ⟨by decide +kernel, rfl⟩
theorem d_Hu_goOn_54 : Dc prog_4_method_3_code 54 (.aload_n 0) 1 55 := ⟨by decide +kernel, rfl⟩
theorem d_Hu_goOn_55 : Dc prog_4_method_3_code 55 (.dup) 1 56 := ⟨by decide +kernel, rfl⟩
theorem d_Hu_goOn_56 : Dc prog_4_method_3_code 56 (.getfield 32) 3 59 := ⟨by decide +kernel, rfl⟩
theorem d_Hu_goOn_59 : Dc prog_4_method_3_code 59 (.iload 4) 2 61 := ⟨by decide +kernel, rfl⟩
theorem d_Hu_goOn_61 : Dc prog_4_method_3_code 61 (.iadd) 1 62 := ⟨by decide +kernel, rfl⟩
theorem d_Hu_goOn_62 : Dc prog_4_method_3_code 62 (.putfield 32) 3 65 := ⟨by decide +kernel, rfl⟩
theorem d_Hu_goOn_65 : Dc prog_4_method_3_code 65 (.aload_n 0) 1 66 := ⟨by decide +kernel, rfl⟩
theorem d_Hu_goOn_66 : Dc prog_4_method_3_code 66 (.dup) 1 67 := ⟨by decide +kernel, rfl⟩
theorem d_Hu_goOn_67 : Dc prog_4_method_3_code 67 (.getfield 35) 3 70 := ⟨by decide +kernel, rfl⟩
theorem d_Hu_goOn_70 : Dc prog_4_method_3_code 70 (.iload 4) 2 72 := ⟨by decide +kernel, rfl⟩
theorem d_Hu_goOn_72 : Dc prog_4_method_3_code 72 (.iadd) 1 73 := ⟨by decide +kernel, rfl⟩
theorem d_Hu_goOn_73 : Dc prog_4_method_3_code 73 (.putfield 35) 3 76 := ⟨by decide +kernel, rfl⟩
theorem d_Hu_goOn_76 : Dc prog_4_method_3_code 76 (.return_) 1 77 := ⟨by decide +kernel, rfl⟩
theorem d_Hu_goOn_77 : Dc prog_4_method_3_code 77 (.aload_n 0) 1 78 := ⟨by decide +kernel, rfl⟩
theorem d_Hu_goOn_78 : Dc prog_4_method_3_code 78 (.dup) 1 79 := ⟨by decide +kernel, rfl⟩
theorem d_Hu_goOn_79 : Dc prog_4_method_3_code 79 (.getfield 29) 3 82 := ⟨by decide +kernel, rfl⟩
theorem d_Hu_goOn_82 : Dc prog_4_method_3_code 82 (.iconst 1) 1 83 := ⟨by decide +kernel, rfl⟩
theorem d_Hu_goOn_83 : Dc prog_4_method_3_code 83 (.iload_n 2) 1 84 := ⟨by decide +kernel, rfl⟩
theorem d_Hu_goOn_84 : Dc prog_4_method_3_code 84 (.ishl) 1 85 := ⟨by decide +kernel, rfl⟩
theorem d_Hu_goOn_85 : Dc prog_4_method_3_code 85 (.ior) 1 86 := ⟨by decide +kernel, rfl⟩
theorem d_Hu_goOn_86 : Dc prog_4_method_3_code 86 (.putfield 29) 3 89 := ⟨by decide +kernel, rfl⟩
theorem d_Hu_goOn_89 : Dc prog_4_method_3_code 89 (.aload_n 0) 1 90 := ⟨by decide +kernel, rfl⟩
theorem d_Hu_goOn_90 : Dc prog_4_method_3_code 90 (.iload_n 2) 1 91 := ⟨by decide +kernel, rfl⟩
theorem d_Hu_goOn_91 : Dc prog_4_method_3_code 91 (.iload_n 3) 1 92 := ⟨by decide +kernel, rfl⟩
theorem d_Hu_goOn_92 : Dc prog_4_method_3_code 92 (.iload_n 1) 1 93 := ⟨by decide +kernel, rfl⟩
theorem d_Hu_goOn_93 : Dc prog_4_method_3_code 93 (.invokevirtual 66) 3 96 := ⟨by decide +kernel, rfl⟩
theorem d_Hu_goOn_96 : Dc prog_4_method_3_code 96 (.aload_n 0) 1 97 := ⟨by decide +kernel, rfl⟩
theorem d_Hu_goOn_97 : Dc prog_4_method_3_code 97 (.dup) 1 98 := ⟨by decide +kernel, rfl⟩
theorem d_Hu_goOn_98 : Dc prog_4_method_3_code 98 (.getfield 29) 3 101 := ⟨by decide +kernel, rfl⟩
theorem d_Hu_goOn_101 : Dc prog_4_method_3_code 101 (.iconst 1) 1 102 := ⟨by decide +kernel, rfl⟩
theorem d_Hu_goOn_102 : Dc prog_4_method_3_code 102 (.iload_n 2) 1 103 := ⟨by decide +kernel, rfl⟩
theorem d_Hu_goOn_103 : Dc prog_4_method_3_code 103 (.ishl) 1 104 := ⟨by decide +kernel, rfl⟩
theorem d_Hu_goOn_104 : Dc prog_4_method_3_code 104 (.iconst (-1)) 1 105 := ⟨by decide +kernel, rfl⟩
theorem d_Hu_goOn_105 : Dc prog_4_method_3_code 105 (.ixor) 1 106 := ⟨by decide +kernel, rfl⟩
theorem d_Hu_goOn_106 : Dc prog_4_method_3_code 106 (.iand) 1 107 := ⟨by decide +kernel, rfl⟩
theorem d_Hu_goOn_107 : Dc prog_4_method_3_code 107 (.putfield 29) 3 110 := ⟨by decide +kernel, rfl⟩
theorem d_Hu_goOn_110 : Dc prog_4_method_3_code 110 (.return_) 1 111 := ⟨by decide +kernel, rfl⟩
theorem d_Hu_tryAll_0 : Dc prog_4_method_4_code 0 (.iconst 0) 1 1 := ⟨by decide +kernel, rfl⟩
theorem d_Hu_tryAll_1 : Dc prog_4_method_4_code 1 (.istore 4) 2 3 := ⟨by decide +kernel, rfl⟩
theorem d_Hu_tryAll_3 : Dc prog_4_method_4_code 3 (.iload 4) 2 5 := ⟨by decide +kernel, rfl⟩
theorem d_Hu_tryAll_5 : Dc prog_4_method_4_code 5 (.aload_n 0) 1 6 := ⟨by decide +kernel, rfl⟩
theorem d_Hu_tryAll_6 : Dc prog_4_method_4_code 6 (.getfield 15) 3 9 := ⟨by decide +kernel, rfl⟩
theorem d_Hu_tryAll_9 : Dc prog_4_method_4_code 9 (.getfield 70) 3 12 := ⟨by decide +kernel, rfl⟩
theorem d_Hu_tryAll_12 : Dj prog_4_method_4_code 12 (.if_icmp .ge 83) 15 83 95 := ⟨by decide +kernel, rfl, rfl⟩
theorem d_Hu_tryAll_15 : Dc prog_4_method_4_code 15 (.aload_n 0) 1 16 := ⟨by decide +kernel, rfl⟩
theorem d_Hu_tryAll_16 : Dc prog_4_method_4_code 16 (.getfield 32) 3 19 := ⟨by decide +kernel, rfl⟩
theorem d_Hu_tryAll_19 : Dc prog_4_method_4_code 19 (.aload_n 0) 1 20 := ⟨by decide +kernel, rfl⟩
theorem d_Hu_tryAll_20 : Dc prog_4_method_4_code 20 (.getfield 22) 3 23 := ⟨by decide +kernel, rfl⟩
theorem d_Hu_tryAll_23 : Dj prog_4_method_4_code 23 (.if_icmp .ge 72) 26 72 95 := ⟨by decide +kernel, rfl, rfl⟩
theorem d_Hu_tryAll_26 : Dc prog_4_method_4_code 26 (.iload_n 2) 1 27 := ⟨by decide +kernel, rfl⟩
theorem d_Hu_tryAll_27 : Dc prog_4_method_4_code 27 (.iload 4) 2 29 := ⟨by decide +kernel, rfl⟩
theorem d_Hu_tryAll_29 : Dc prog_4_method_4_code 29 (.ishr) 1 30 := ⟨by decide +kernel, rfl⟩
theorem d_Hu_tryAll_30 : Dc prog_4_method_4_code 30 (.iconst 1) 1 31 := ⟨by decide +kernel, rfl⟩
theorem d_Hu_tryAll_31 : Dc prog_4_method_4_code 31 (.iand) 1 32 := ⟨by decide +kernel, rfl⟩
theorem d_Hu_tryAll_32 : Dc prog_4_method_4_code 32 (.iconst 1) 1 33 := ⟨by decide +kernel, rfl⟩
theorem d_Hu_tryAll_33 : Dj prog_4_method_4_code 33 (.if_icmp .ne 56) 36 56 89 := ⟨by decide +kernel, rfl, rfl⟩
theorem d_Hu_tryAll_36 : Dc prog_4_method_4_code 36 (.aload_n 0) 1 37 := ⟨by decide +kernel, rfl⟩
theorem d_Hu_tryAll_37 : Dc prog_4_method_4_code 37 (.dup) 1 38 := ⟨by decide +kernel, rfl⟩
theorem d_Hu_tryAll_38 : Dc prog_4_method_4_code 38 (.getfield 32) 3 41 := ⟨by decide +kernel, rfl⟩
theorem d_Hu_tryAll_41 : Dc prog_4_method_4_code 41 (.iconst 1) 1 42 := ⟨by decide +kernel, rfl⟩
theorem d_Hu_tryAll_42 : Dc prog_4_method_4_code 42 (.iadd) 1 43 := ⟨by decide +kernel, rfl⟩
theorem d_Hu_tryAll_43 : Dc prog_4_method_4_code 43 (.putfield 32) 3 46 := ⟨by decide +kernel, rfl⟩
theorem d_Hu_tryAll_46 : Dc prog_4_method_4_code 46 (.aload_n 0) 1 47 := ⟨by decide +kernel, rfl⟩
theorem d_Hu_tryAll_47 : Dc prog_4_method_4_code 47 (.getfield 9) 3 50 := ⟨by decide +kernel, rfl⟩
theorem d_Hu_tryAll_50 : Dc prog_4_method_4_code 50 (.iload_n 1) 1 51 := ⟨by decide +kernel, rfl⟩
theorem d_Hu_tryAll_51 : Dc prog_4_method_4_code 51 (.iload 4) 2 53 := ⟨by decide +kernel, rfl⟩
theorem d_Hu_tryAll_53 : Dc prog_4_method_4_code 53 (.iastore) 1 54 := ⟨by decide +kernel, rfl⟩
theorem d_Hu_tryAll_54 : Dc prog_4_method_4_code 54 (.aload_n 0) 1 55 := ⟨by decide +kernel, rfl⟩
theorem d_Hu_tryAll_55 : Dc prog_4_method_4_code 55 (.dup) 1 56 := ⟨by decide +kernel, rfl⟩
theorem d_Hu_tryAll_56 : Dc prog_4_method_4_code 56 (.getfield 26) 3 59 := ⟨by decide +kernel, rfl⟩
theorem d_Hu_tryAll_59 : Dc prog_4_method_4_code 59 (.iconst 1) 1 60 := ⟨by decide +kernel, rfl⟩
theorem d_Hu_tryAll_60 : Dc prog_4_method_4_code 60 (.iload 4) 2 62 := ⟨by decide +kernel, rfl⟩
theorem d_Hu_tryAll_62 : Dc prog_4_method_4_code 62 (.ishl) 1 63 := ⟨by decide +kernel, rfl⟩
theorem d_Hu_tryAll_63 : Dc prog_4_method_4_code 63 (.ior) 1 64 := ⟨by decide +kernel, rfl⟩
theorem d_Hu_tryAll_64 : Dc prog_4_method_4_code 64 (.putfield 26) 3 67 := ⟨by decide +kernel, rfl⟩
theorem d_Hu_tryAll_67 : Dc prog_4_method_4_code 67 (.aload_n 0) 1 68 := ⟨by decide +kernel, rfl⟩
theorem d_Hu_tryAll_68 : Dc prog_4_method_4_code 68 (.iload_n 3) 1 69 := ⟨by decide +kernel, rfl⟩
theorem d_Hu_tryAll_69 : Dc prog_4_method_4_code 69 (.iconst 1) 1 70 := ⟨by decide +kernel, rfl⟩
theorem d_Hu_tryAll_70 : Dc prog_4_method_4_code 70 (.iadd) 1 71 := ⟨by decide +kernel, rfl⟩
theorem d_Hu_tryAll_71 : Dc prog_4_method_4_code 71 (.invokevirtual 43) 3 74 := ⟨by decide +kernel, rfl⟩
theorem d_Hu_tryAll_74 : Dc prog_4_method_4_code 74 (.aload_n 0) 1 75 := ⟨by decide +kernel, rfl⟩
theorem d_Hu_tryAll_75 : Dc prog_4_method_4_code 75 (.dup) 1 76 := ⟨by decide +kernel, rfl⟩
theorem d_Hu_tryAll_76 : Dc prog_4_method_4_code 76 (.getfield 26) 3 79 := ⟨by decide +kernel, rfl⟩
theorem d_Hu_tryAll_79 : Dc prog_4_method_4_code 79 (.iconst 1) 1 80 := ⟨by decide +kernel, rfl⟩
theorem d_Hu_tryAll_80 : Dc prog_4_method_4_code 80 (.iload 4) 2 82 := ⟨by decide +kernel, rfl⟩
theorem d_Hu_tryAll_82 : Dc prog_4_method_4_code 82 (.ishl) 1 83 := ⟨by decide +kernel, rfl⟩
theorem d_Hu_tryAll_83 : Dc prog_4_method_4_code 83 (.iconst (-1)) 1 84 := ⟨by decide +kernel, rfl⟩
theorem d_Hu_tryAll_84 : Dc prog_4_method_4_code 84 (.ixor) 1 85 := ⟨by decide +kernel, rfl⟩
theorem d_Hu_tryAll_85 : Dc prog_4_method_4_code 85 (.iand) 1 86 := ⟨by decide +kernel, rfl⟩
theorem d_Hu_tryAll_86 : Dc prog_4_method_4_code 86 (.putfield 26) 3 89 := ⟨by decide +kernel, rfl⟩
theorem d_Hu_tryAll_89 : Dc prog_4_method_4_code 89 (.iinc 4 1) 3 92 := ⟨by decide +kernel, rfl⟩
theorem d_Hu_tryAll_92 : Dj prog_4_method_4_code 92 (.goto (-89)) 95 (-89) 3 := ⟨by decide +kernel, rfl, rfl⟩
theorem d_Hu_tryAll_95 : Dc prog_4_method_4_code 95 (.return_) 1 96 := ⟨by decide +kernel, rfl⟩
theorem fl_Hu_22 : FL "SubgraphDesk$Hunt" 22 3 5 false .int (0, 0) := ⟨R_Hu, F_Hu, 8, ty_Hu, rfl, rfl, in_Hu, tyok_Hu, nm_Hu, by decide, gd 459 (by decide +kernel) rfl, rfl, rfl, rfl⟩
theorem fl_Hu_32 : FL "SubgraphDesk$Hunt" 32 3 6 false .int (0, 0) := ⟨R_Hu, F_Hu, 8, ty_Hu, rfl, rfl, in_Hu, tyok_Hu, nm_Hu, by decide, gd 460 (by decide +kernel) rfl, rfl, rfl, rfl⟩
theorem fl_Hu_35 : FL "SubgraphDesk$Hunt" 35 3 7 false .int (0, 0) := ⟨R_Hu, F_Hu, 8, ty_Hu, rfl, rfl, in_Hu, tyok_Hu, nm_Hu, by decide, gd 462 (by decide +kernel) rfl, rfl, rfl, rfl⟩
theorem fl_Hu_70 : FL "SubgraphDesk$Hunt" 70 2 0 false .int (0, 0) := ⟨R_Bo, F_Bo, 15, ty_Bo, rfl, rfl, in_Bo, tyok_Bo, nm_Bo, by decide, gd 179 (by decide +kernel) rfl, rfl, rfl, rfl⟩
theorem ml_Hu_43 : Cond.methodLink "SubgraphDesk$Hunt" 43 m_Hu_goOn.1 ∈ lw_gd := gd 1313 (by decide +kernel) rfl
theorem ml_Hu_47 : Cond.methodLink "SubgraphDesk$Hunt" 47 m_Hu_nextVertex.1 ∈ lw_gd := gd 1317 (by decide +kernel) rfl
theorem ml_Hu_60 : Cond.methodLink "SubgraphDesk$Hunt" 60 m_JMath_min.1 ∈ lw_gd := gd 1326 (by decide +kernel) rfl
theorem ml_Hu_66 : Cond.methodLink "SubgraphDesk$Hunt" 66 m_Hu_tryAll.1 ∈ lw_gd := gd 1327 (by decide +kernel) rfl
theorem HuL.fr {w w2 : Mem} {g : GC} {p : Nat → Option Nat} (h : HuL w g p) (e : ∀ u, p u ≠ none → rI w2 46 u = rI w 46 u) : HuL w2 g p := fun u m hu hp => by
  rw [e u (by rw [hp]; simp)]
  exact h u m hu hp
theorem unlaid {g : GC} {p : Nat → Option Nat} {vs : List Nat} (h : ∀ u, p u ≠ none → u ∈ vs) (hl : vs.length < gV g) : ∃ x, x < gV g ∧ p x = none := by
  by_cases z : ∃ x, x < gV g ∧ p x = none
  · exact z
  · have := nodup_len (List.range (gV g)) vs List.nodup_range (fun x hx => h x (fun y => z ⟨x, List.mem_range.mp hx, y⟩))
    rw [List.length_range] at this
    omega
/-- behind a search that began at w -/
def HuR (w w2 : Mem) (p : Nat → Option Nat) (t y : Nat) (st : Nat × Nat) : Prop := rI w2 45 3 = nI t ∧ rI w2 45 4 = nI y ∧ rI w2 45 6 = nI st.1 ∧ rI w2 45 7 = nI st.2 ∧ (∀ u, p u ≠ none → rI w2 46 u = rI w 46 u) ∧ FrHu w w2
theorem c_Hu_tryAll {E : EV} {w : Mem} {g : GC} {c : Nat → Nat} {most y t : Nat} {p : Nat → Option Nat} {vs : List Nat} {st : Nat × Nat} {r v : Nat} {fin : Nat × Nat} (IH : ∀ (p : Nat → Option Nat) (vs : List Nat) (y t : Nat) (st : Nat × Nat) (w : Mem), (vs).length + (r) = gV g → 0 < (r) → (∀ u, (p) u ≠ none → u ∈ (vs)) → HuE w g c most → HuL w g (p) → MskY g (p) (y) → MskT g (p) (t) → HuR w w (p) (t) (y) (st) → (st).1 ≤ most → T E m_Hu_goOn (2 * (r) + 2) 0 0 [.ref 45, .int (nI (vs).length)] w (fun rr w2 => rr = none ∧ HuR w w2 (p) (t) (y) (huntG g c most (r) (p) (st)))) (hl : vs.length + (r + 1) = gV g) (hr : 0 < r) (hin : ∀ u, p u ≠ none → u ∈ vs) (hE : HuE w g c most) (hL : HuL w g p) (hY : MskY g p y) (hT : MskT g p t) (hv : v < gV g) (hpv : p v = none) (hR0 : HuR w w p t (y ||| 1 <<< v) st) (hst : st.1 ≤ most) (hf : remH g c most r p v 0 st = fin) : T E m_Hu_tryAll (2 * r + 3) 0 0 [.ref 45, .int (nI v), .int (nI (opH g c p t v (gV g))), .int (nI vs.length)] w (fun rr w2 => rr = none ∧ HuR w w2 p t (y ||| 1 <<< v) fin) := by
  refine T_of (L := [.ref 45, .int (nI v), .int (nI (opH g c p t v (gV g))), .int (nI vs.length), un]) cf_Hu_tryAll rfl (Nat.le_of_ble_eq_true rfl) (fun X hX hF => ?_)
  have hW := hE.2.1
  have hn := hW.n
  have hgv := hW.v
  have hmost := hE.2.2.2.2.2.2
  have hcv := (hE.2.2.2.2.1 v hv).2
  have hLn : ∀ u m, u < gV g → p u = some m → m < gN g := fun u m h1 h2 => (hL u m h1 h2).2
  have lp : ∀ (fuel : Nat) (k : Nat) (wk : Mem) (s1 : Nat × Nat), gN g - k < fuel → (HuR w wk p t (y ||| 1 <<< v) s1) → (s1.1 ≤ most) → (k ≤ gN g) → (remH g c most r p v k s1 = fin) → (FrHu w wk) → G0 E X 0 0 3 [.ref 45, .int (nI v), .int (nI (opH g c p t v (gV g))), .int (nI vs.length), .int (nI k)] [] wk := by
    intro fuel
    induction fuel with
    | zero => intro k wk s1 q0; exact absurd q0 (Nat.not_lt_zero _)
    | succ fuel ih =>
      intro k wk s1 q0 q1 q2 q3 q4 q5
      refine g_iload4 hX d_Hu_tryAll_3 ?_
      refine g_aload0 hX d_Hu_tryAll_5 ?_
      refine g_getR hX d_Hu_tryAll_6 fl_Hu_15 (lv_45 _) (hE.fr q5).2.2.1 ?_
      refine g_getI hX d_Hu_tryAll_9 fl_Hu_70 (lv_1 _) ?_
      refine g_topi (hE.fr q5).1.n ?_
      refine g_icmpN_ge hX d_Hu_tryAll_12 (by omega) (by omega) (fun e12 => ?_) (fun e12 => ?_)
      · refine g_vret hX hF d_Hu_tryAll_95 (by omega) (by omega) ?_
        have hfin : s1 = fin := by
          rw [← q4]
          first
          | exact (remH_N (by omega)).symm
          | exact (remH_stop (by omega)).symm
        rw [← hfin]
        exact ⟨rfl, q1⟩
      · have hop := Nat.lt_of_le_of_lt (opH_le (g := g) (p := p) (t := t) (gV g)) (Nat.lt_of_lt_of_le hcv (Nat.pow_le_pow_right (by decide) hn))
        refine g_aload0 hX d_Hu_tryAll_15 ?_
        refine g_getI hX d_Hu_tryAll_16 fl_Hu_32 (lv_45 _) ?_
        refine g_topi q1.2.2.1 ?_
        refine g_aload0 hX d_Hu_tryAll_19 ?_
        refine g_getI hX d_Hu_tryAll_20 fl_Hu_22 (lv_45 _) ?_
        refine g_topi (hE.fr q5).2.2.2.2.2.1 ?_
        refine g_icmpN_ge hX d_Hu_tryAll_23 (by omega) (by omega) (fun e23 => ?_) (fun e23 => ?_)
        · refine g_vret hX hF d_Hu_tryAll_95 (by omega) (by omega) ?_
          have hfin : s1 = fin := by
            rw [← q4]
            first
            | exact (remH_N (by omega)).symm
            | exact (remH_stop (by omega)).symm
          rw [← hfin]
          exact ⟨rfl, q1⟩
        · refine g_iload2 hX d_Hu_tryAll_26 ?_
          refine g_iload4 hX d_Hu_tryAll_27 ?_
          refine g_ishrN hX d_Hu_tryAll_29 (by omega) (by omega) ?_
          refine g_iconst (v := nI 1) hX d_Hu_tryAll_30 rfl ?_
          refine g_iandC hX d_Hu_tryAll_31 (fun hm2 => ?_)
          refine g_iconst (v := nI 1) hX d_Hu_tryAll_32 rfl ?_
          refine g_icmpN_ne hX d_Hu_tryAll_33 (by omega) (by omega) (fun e33 => ?_) (fun e33 => ?_)
          · have e33 : ¬ openH g c p v k = true := fun z => e33 ((tb1 _ _).mpr ((opH_open hW hT hLn hpv e12).mpr z))
            refine g_iincN4 hX d_Hu_tryAll_89 rfl (by decide) ?_
            refine g_goto hX d_Hu_tryAll_92 ?_
            exact ih (k + 1) wk s1 (by omega) q1 q2 (by omega) (by rw [← remH_no e12 e33]; exact q4) q5
          · have e34 := (tb1 _ _).mp e33
            have hkt : ¬ t.testBit k = true := ((opH_tb _).mp e34).1.2
            have e33 := (opH_open hW hT hLn hpv e12).mp e34
            refine g_aload0 hX d_Hu_tryAll_36 ?_
            refine g_dup hX d_Hu_tryAll_37 rfl ?_
            refine g_getI hX d_Hu_tryAll_38 fl_Hu_32 (lv_45 _) ?_
            refine g_topi q1.2.2.1 ?_
            refine g_iconst (v := nI 1) hX d_Hu_tryAll_41 rfl ?_
            refine g_iaddN hX d_Hu_tryAll_42 ?_
            refine g_putI hX d_Hu_tryAll_43 fl_Hu_32 (lv_45 _) ?_
            refine g_aload0 hX d_Hu_tryAll_46 ?_
            refine g_getF hX d_Hu_tryAll_47 fl_Hu_9 (lv_45 _) ?_
            refine g_iload1 hX d_Hu_tryAll_50 ?_
            refine g_iload4 hX d_Hu_tryAll_51 ?_
            refine g_iast hX d_Hu_tryAll_53 (lv_46 _) rfl (by omega) ?_
            refine g_aload0 hX d_Hu_tryAll_54 ?_
            refine g_dup hX d_Hu_tryAll_55 rfl ?_
            refine g_getI hX d_Hu_tryAll_56 fl_Hu_26 (lv_45 _) ?_
            refine g_topi (show rI (sI (sI wk 45 6 _) 46 v _) 45 3 = nI t by rw [rI_sI_ne _ _ _ (by decide), rI_sI, upd_eq, if_neg (by decide)]; exact q1.1) ?_
            refine g_iconst (v := nI 1) hX d_Hu_tryAll_59 rfl ?_
            refine g_iload4 hX d_Hu_tryAll_60 ?_
            refine g_ishlN hX d_Hu_tryAll_62 (by omega) ?_
            refine g_iorN hX d_Hu_tryAll_63 ?_
            refine g_putI hX d_Hu_tryAll_64 fl_Hu_26 (lv_45 _) ?_
            refine g_aload0 hX d_Hu_tryAll_67 ?_
            refine g_iload3 hX d_Hu_tryAll_68 ?_
            refine g_iconst (v := nI 1) hX d_Hu_tryAll_69 rfl ?_
            refine g_iaddN hX d_Hu_tryAll_70 ?_
            have hpu : ∀ u, p u ≠ none → u ≠ v := fun u hu e => hu (by rw [e]; exact hpv)
            have f5 : FrHu wk (sI (sI (sI wk 45 6 (nI (s1.1 + 1))) 46 v (nI k)) 45 3 (nI (t ||| 1 <<< k))) := (((FrHu.rf wk).I (by decide)).L).I (by decide)
            have hvs : (vs ++ [v]).length = vs.length + 1 := by rw [List.length_append, List.length_singleton]
            rw [← hvs]
            refine g_callV (As := [_]) hX hF.1 d_Hu_tryAll_71 ml_Hu_43 cf_Hu_goOn cv_Hu_goOn rfl rfl (IH (upP p v k) (vs ++ [v]) (y ||| 1 <<< v) (t ||| 1 <<< k) (s1.1 + 1, s1.2) (sI (sI (sI wk 45 6 (nI (s1.1 + 1))) 46 v (nI k)) 45 3 (nI (t ||| 1 <<< k))) (by omega) hr (upP_in hin) ((hE.fr q5).fr f5) (fun u m hu hm => by
              rw [rI_sI_ne _ _ _ (by decide), rI_sI, upd_eq]
              unfold upP at hm
              by_cases e : u = v
              · rw [if_pos e] at hm ⊢
                exact ⟨by rw [Option.some.inj hm], by have := Option.some.inj hm; omega⟩
              · rw [if_neg e] at hm ⊢
                rw [rI_sI_ne _ _ _ (by decide), q1.2.2.2.2.1 u (by rw [hm]; simp)]
                exact hL u m hu hm) (hY.up (by omega)) (hT.up hv hpv (by omega)) ⟨by rw [rI_sI, upd_eq, if_pos rfl], by rw [rI_sI, upd_eq, if_neg (by decide), rI_sI_ne _ _ _ (by decide), rI_sI, upd_eq, if_neg (by decide)]; exact q1.2.1, by rw [rI_sI, upd_eq, if_neg (by decide), rI_sI_ne _ _ _ (by decide), rI_sI, upd_eq, if_pos rfl], by rw [rI_sI, upd_eq, if_neg (by decide), rI_sI_ne _ _ _ (by decide), rI_sI, upd_eq, if_neg (by decide)]; exact q1.2.2.2.1, fun _ _ => rfl, FrHu.rf _⟩ (show s1.1 + 1 ≤ most by omega)) (rcv_obj hX (lv_45 _) rfl rfl) (by omega) (by omega) (by omega) (Nat.le_of_ble_eq_true rfl) ?_
            rintro _ w6 ⟨rfl, g1, g2, g3, g4, g5, g6⟩
            have f6 := f5.tr g6
            show G0 _ _ _ _ _ _ _ _
            refine g_aload0 hX d_Hu_tryAll_74 ?_
            refine g_dup hX d_Hu_tryAll_75 rfl ?_
            refine g_getI hX d_Hu_tryAll_76 fl_Hu_26 (lv_45 _) ?_
            refine g_topi g1 ?_
            refine g_iconst (v := nI 1) hX d_Hu_tryAll_79 rfl ?_
            refine g_iload4 hX d_Hu_tryAll_80 ?_
            refine g_ishlN hX d_Hu_tryAll_82 (by omega) ?_
            refine g_iconst (v := -1) hX d_Hu_tryAll_83 rfl ?_
            refine g_ixor hX d_Hu_tryAll_84 ?_
            refine g_iandX hX d_Hu_tryAll_85 ?_
            rw [sd_or hkt]
            refine g_putI hX d_Hu_tryAll_86 fl_Hu_26 (lv_45 _) ?_
            refine g_iincN4 hX d_Hu_tryAll_89 rfl (by decide) ?_
            refine g_goto hX d_Hu_tryAll_92 ?_
            have hrem := remH_yes (most := most) (r := r) (cd := c) e12 (show s1.1 < most by omega) e33
            exact ih (k + 1) _ (huntG g c most r (upP p v k) (s1.1 + 1, s1.2)) (by omega) ⟨by rw [rI_sI, upd_eq, if_pos rfl], by rw [rI_sI, upd_eq, if_neg (by decide)]; exact g2, by rw [rI_sI, upd_eq, if_neg (by decide)]; exact g3, by rw [rI_sI, upd_eq, if_neg (by decide)]; exact g4, fun u hu => by
              rw [rI_sI_ne _ _ _ (by decide), g5 u (by unfold upP; rw [if_neg (hpu u hu)]; exact hu), rI_sI_ne _ _ _ (by decide), rI_sI, upd_eq, if_neg (hpu u hu), rI_sI_ne _ _ _ (by decide)]
              exact q1.2.2.2.2.1 u hu, (q5.tr f6).I (by decide)⟩ (huntG_le r _ _ (show s1.1 + 1 ≤ most by omega)) (by omega) (by rw [← hrem]; exact q4) ((q5.tr f6).I (by decide))
  refine g_iconst (v := nI 0) hX d_Hu_tryAll_0 rfl ?_
  refine g_istore4 hX d_Hu_tryAll_1 rfl (by decide) ?_
  exact lp (gN g + 1) 0 w st (by omega) hR0 hst (Nat.zero_le _) hf (FrHu.rf w)
theorem c_Hu_goOn1 {E : EV} {w : Mem} {g : GC} {c : Nat → Nat} {most y t : Nat} {p : Nat → Option Nat} {vs : List Nat} {st : Nat × Nat} (hl : vs.length + (1) = gV g) (hin : ∀ u, p u ≠ none → u ∈ vs) (hE : HuE w g c most) (hL : HuL w g p) (hY : MskY g p y) (hT : MskT g p t) (hR0 : HuR w w p t y st) (hst : st.1 ≤ most) : T E m_Hu_goOn (2 * 1 + 2) 0 0 [.ref 45, .int (nI vs.length)] w (fun rr w2 => rr = none ∧ HuR w w2 p t y (huntG g c most (1) p st)) := by
  refine T_of (L := [.ref 45, .int (nI vs.length), un, un, un]) cf_Hu_goOn rfl (Nat.le_of_ble_eq_true rfl) (fun X hX hF => ?_)
  have hW := hE.2.1
  have hn := hW.n
  have hgv := hW.v
  have hmost := hE.2.2.2.2.2.2
  obtain ⟨x0, hx0, hpx0⟩ := unlaid (g := g) hin (by omega)
  obtain ⟨v, hpk⟩ := pickK_some hn (c := c) hpx0 (gV g) hx0
  obtain ⟨hv, hpv⟩ := pickK_lt (gV g) hpk
  have hgd : (pickK g c p (gV g)).1.getD 0 = v := by rw [hpk]; rfl
  have hcv := (hE.2.2.2.2.1 v hv).2
  have hop := Nat.lt_of_le_of_lt (opH_le (g := g) (p := p) (t := t) (gV g)) (Nat.lt_of_lt_of_le hcv (Nat.pow_le_pow_right (by decide) hn))
  have hLn : ∀ u m, u < gV g → p u = some m → m < gN g := fun u m h1 h2 => (hL u m h1 h2).2
  have hnum := pop_num hW hT hLn hpv hcv
  have hnl := numH_le g c p v (gN g)
  refine g_iload1 hX d_Hu_goOn_0 ?_
  refine g_aload0 hX d_Hu_goOn_1 ?_
  refine g_getR hX d_Hu_goOn_2 fl_Hu_15 (lv_45 _) hE.2.2.1 ?_
  refine g_getI hX d_Hu_goOn_5 fl_Hu_38 (lv_1 _) ?_
  refine g_topi hE.1.v ?_
  refine g_icmpN_lt hX d_Hu_goOn_8 (by omega) (by omega) (fun c0 => ?_) (fun h => absurd h (by omega))
  refine g_aload0 hX d_Hu_goOn_12 ?_
  refine g_callV (As := []) hX hF.1 d_Hu_goOn_13 ml_Hu_47 cf_Hu_nextVertex cv_Hu_nextVertex rfl rfl (c_Hu_nextVertex hE hL hY hT hR0.1 hR0.2.1) (rcv_obj hX (lv_45 _) rfl rfl) (by omega) (by omega) (by omega) (Nat.le_of_ble_eq_true rfl) ?_
  rintro _ w5 ⟨rfl, hw5⟩
  have hw6 := hw5.symm
  subst hw6
  rw [hgd]
  show G0 _ _ _ _ _ _ _ _
  refine g_istore2 hX d_Hu_goOn_16 rfl (by decide) ?_
  refine g_aload0 hX d_Hu_goOn_17 ?_
  refine g_iload2 hX d_Hu_goOn_18 ?_
  refine g_callV (As := [_]) hX hF.1 d_Hu_goOn_19 ml_Hu_51 cf_Hu_openTo cv_Hu_openTo rfl rfl (c_Hu_openTo hE hL hY hT hR0.1 hR0.2.1 hv) (rcv_obj hX (lv_45 _) rfl rfl) (by omega) (by omega) (by omega) (Nat.le_of_ble_eq_true rfl) ?_
  refine ret_k ?_
  refine g_istore3 hX d_Hu_goOn_22 rfl (by decide) ?_
  refine g_iload1 hX d_Hu_goOn_23 ?_
  refine g_aload0 hX d_Hu_goOn_24 ?_
  refine g_getR hX d_Hu_goOn_25 fl_Hu_15 (lv_45 _) hE.2.2.1 ?_
  refine g_getI hX d_Hu_goOn_28 fl_Hu_38 (lv_1 _) ?_
  refine g_topi hE.1.v ?_
  refine g_iconst (v := nI 1) hX d_Hu_goOn_31 rfl ?_
  refine g_isubN hX d_Hu_goOn_32 (by omega) ?_
  refine g_icmpN_ne hX d_Hu_goOn_33 (by omega) (by omega) (fun h => absurd (by omega) h) (fun c1 => ?_)
  refine g_iload3 hX d_Hu_goOn_36 ?_
  refine g_callS (As := [_]) hX hF.1 d_Hu_goOn_37 ml_Hu_55 cf_JInteger_bitCount cs_JInteger_bitCount rfl (c_JInteger_bitCount hop) (by omega) (by omega) (by omega) (Nat.le_of_ble_eq_true rfl) ?_
  rintro _ w5 ⟨rfl, hw5⟩
  have hw6 := hw5.symm
  subst hw6
  rw [hnum]
  show G0 _ _ _ _ _ _ _ _
  refine g_aload0 hX d_Hu_goOn_40 ?_
  refine g_getI hX d_Hu_goOn_41 fl_Hu_22 (lv_45 _) ?_
  refine g_topi hE.2.2.2.2.2.1 ?_
  refine g_aload0 hX d_Hu_goOn_44 ?_
  refine g_getI hX d_Hu_goOn_45 fl_Hu_32 (lv_45 _) ?_
  refine g_topi hR0.2.2.1 ?_
  refine g_isubN hX d_Hu_goOn_48 hst ?_
  refine g_Math_min hX hF.1 d_Hu_goOn_49 ml_Hu_60 (by omega) (by omega) (by omega) (Nat.le_of_ble_eq_true rfl) ?_
  refine g_topi (minI_n (by omega) (by omega)) ?_
  refine g_istore4 hX d_Hu_goOn_52 rfl (by decide) ?_
  refine g_aload0 hX d_Hu_goOn_54 ?_
  refine g_dup hX d_Hu_goOn_55 rfl ?_
  refine g_getI hX d_Hu_goOn_56 fl_Hu_32 (lv_45 _) ?_
  refine g_topi hR0.2.2.1 ?_
  refine g_iload4 hX d_Hu_goOn_59 ?_
  refine g_iaddN hX d_Hu_goOn_61 ?_
  refine g_putI hX d_Hu_goOn_62 fl_Hu_32 (lv_45 _) ?_
  refine g_aload0 hX d_Hu_goOn_65 ?_
  refine g_dup hX d_Hu_goOn_66 rfl ?_
  refine g_getI hX d_Hu_goOn_67 fl_Hu_35 (lv_45 _) ?_
  refine g_topi (show rI (sI w 45 6 _) 45 7 = nI st.2 by rw [rI_sI, upd_eq, if_neg (by decide)]; exact hR0.2.2.2.1) ?_
  refine g_iload4 hX d_Hu_goOn_70 ?_
  refine g_iaddN hX d_Hu_goOn_72 ?_
  refine g_putI hX d_Hu_goOn_73 fl_Hu_35 (lv_45 _) ?_
  refine g_vret hX hF d_Hu_goOn_76 (by omega) (by omega) ?_
  rw [hunt_last hst, hgd]
  exact ⟨rfl, by rw [rI_sI, upd_eq, if_neg (by decide), rI_sI, upd_eq, if_neg (by decide)]; exact hR0.1, by rw [rI_sI, upd_eq, if_neg (by decide), rI_sI, upd_eq, if_neg (by decide)]; exact hR0.2.1, by rw [rI_sI, upd_eq, if_neg (by decide), rI_sI, upd_eq, if_pos rfl], by rw [rI_sI, upd_eq, if_pos rfl], fun u hu => by rw [rI_sI_ne _ _ _ (by decide), rI_sI_ne _ _ _ (by decide)], ((FrHu.rf w).I (by decide)).I (by decide)⟩
theorem c_Hu_goOnS {E : EV} {w : Mem} {r : Nat} {g : GC} {c : Nat → Nat} {most y t : Nat} {p : Nat → Option Nat} {vs : List Nat} {st : Nat × Nat} (hl : vs.length + (r + 1) = gV g) (hin : ∀ u, p u ≠ none → u ∈ vs) (hE : HuE w g c most) (hL : HuL w g p) (hY : MskY g p y) (hT : MskT g p t) (hR0 : HuR w w p t y st) (hst : st.1 ≤ most) (IH : ∀ (p : Nat → Option Nat) (vs : List Nat) (y t : Nat) (st : Nat × Nat) (w : Mem), (vs).length + (r) = gV g → 0 < (r) → (∀ u, (p) u ≠ none → u ∈ (vs)) → HuE w g c most → HuL w g (p) → MskY g (p) (y) → MskT g (p) (t) → HuR w w (p) (t) (y) (st) → (st).1 ≤ most → T E m_Hu_goOn (2 * (r) + 2) 0 0 [.ref 45, .int (nI (vs).length)] w (fun rr w2 => rr = none ∧ HuR w w2 (p) (t) (y) (huntG g c most (r) (p) (st)))) (hr : 0 < r) : T E m_Hu_goOn (2 * (r + 1) + 2) 0 0 [.ref 45, .int (nI vs.length)] w (fun rr w2 => rr = none ∧ HuR w w2 p t y (huntG g c most (r + 1) p st)) := by
  refine T_of (L := [.ref 45, .int (nI vs.length), un, un, un]) cf_Hu_goOn rfl (Nat.le_of_ble_eq_true rfl) (fun X hX hF => ?_)
  have hW := hE.2.1
  have hn := hW.n
  have hgv := hW.v
  have hmost := hE.2.2.2.2.2.2
  obtain ⟨x0, hx0, hpx0⟩ := unlaid (g := g) hin (by omega)
  obtain ⟨v, hpk⟩ := pickK_some hn (c := c) hpx0 (gV g) hx0
  obtain ⟨hv, hpv⟩ := pickK_lt (gV g) hpk
  have hgd : (pickK g c p (gV g)).1.getD 0 = v := by rw [hpk]; rfl
  have hcv := (hE.2.2.2.2.1 v hv).2
  have hop := Nat.lt_of_le_of_lt (opH_le (g := g) (p := p) (t := t) (gV g)) (Nat.lt_of_lt_of_le hcv (Nat.pow_le_pow_right (by decide) hn))
  have hLn : ∀ u m, u < gV g → p u = some m → m < gN g := fun u m h1 h2 => (hL u m h1 h2).2
  have hyv : ¬ y.testBit v = true := fun z => (hY.2 v hv).mp z hpv
  refine g_iload1 hX d_Hu_goOn_0 ?_
  refine g_aload0 hX d_Hu_goOn_1 ?_
  refine g_getR hX d_Hu_goOn_2 fl_Hu_15 (lv_45 _) hE.2.2.1 ?_
  refine g_getI hX d_Hu_goOn_5 fl_Hu_38 (lv_1 _) ?_
  refine g_topi hE.1.v ?_
  refine g_icmpN_lt hX d_Hu_goOn_8 (by omega) (by omega) (fun c0 => ?_) (fun h => absurd h (by omega))
  refine g_aload0 hX d_Hu_goOn_12 ?_
  refine g_callV (As := []) hX hF.1 d_Hu_goOn_13 ml_Hu_47 cf_Hu_nextVertex cv_Hu_nextVertex rfl rfl (c_Hu_nextVertex hE hL hY hT hR0.1 hR0.2.1) (rcv_obj hX (lv_45 _) rfl rfl) (by omega) (by omega) (by omega) (Nat.le_of_ble_eq_true rfl) ?_
  rintro _ w5 ⟨rfl, hw5⟩
  have hw6 := hw5.symm
  subst hw6
  rw [hgd]
  show G0 _ _ _ _ _ _ _ _
  refine g_istore2 hX d_Hu_goOn_16 rfl (by decide) ?_
  refine g_aload0 hX d_Hu_goOn_17 ?_
  refine g_iload2 hX d_Hu_goOn_18 ?_
  refine g_callV (As := [_]) hX hF.1 d_Hu_goOn_19 ml_Hu_51 cf_Hu_openTo cv_Hu_openTo rfl rfl (c_Hu_openTo hE hL hY hT hR0.1 hR0.2.1 hv) (rcv_obj hX (lv_45 _) rfl rfl) (by omega) (by omega) (by omega) (Nat.le_of_ble_eq_true rfl) ?_
  refine ret_k ?_
  refine g_istore3 hX d_Hu_goOn_22 rfl (by decide) ?_
  refine g_iload1 hX d_Hu_goOn_23 ?_
  refine g_aload0 hX d_Hu_goOn_24 ?_
  refine g_getR hX d_Hu_goOn_25 fl_Hu_15 (lv_45 _) hE.2.2.1 ?_
  refine g_getI hX d_Hu_goOn_28 fl_Hu_38 (lv_1 _) ?_
  refine g_topi hE.1.v ?_
  refine g_iconst (v := nI 1) hX d_Hu_goOn_31 rfl ?_
  refine g_isubN hX d_Hu_goOn_32 (by omega) ?_
  refine g_icmpN_ne hX d_Hu_goOn_33 (by omega) (by omega) (fun c1 => ?_) (fun h => absurd h (by omega))
  refine g_aload0 hX d_Hu_goOn_77 ?_
  refine g_dup hX d_Hu_goOn_78 rfl ?_
  refine g_getI hX d_Hu_goOn_79 fl_Hu_29 (lv_45 _) ?_
  refine g_topi hR0.2.1 ?_
  refine g_iconst (v := nI 1) hX d_Hu_goOn_82 rfl ?_
  refine g_iload2 hX d_Hu_goOn_83 ?_
  refine g_ishlN hX d_Hu_goOn_84 (by omega) ?_
  refine g_iorN hX d_Hu_goOn_85 ?_
  refine g_putI hX d_Hu_goOn_86 fl_Hu_29 (lv_45 _) ?_
  refine g_aload0 hX d_Hu_goOn_89 ?_
  refine g_iload2 hX d_Hu_goOn_90 ?_
  refine g_iload3 hX d_Hu_goOn_91 ?_
  refine g_iload1 hX d_Hu_goOn_92 ?_
  have f1 : FrHu w (sI w 45 4 (nI (y ||| 1 <<< v))) := (FrHu.rf w).I (by decide)
  refine g_callV (As := [_, _, _]) hX hF.1 d_Hu_goOn_93 ml_Hu_66 cf_Hu_tryAll cv_Hu_tryAll rfl rfl (c_Hu_tryAll (w := sI w 45 4 (nI (y ||| 1 <<< v))) (y := y) IH hl hr hin (hE.fr f1) (hL.fr (fun u hu => by rw [rI_sI_ne _ _ _ (by decide)])) hY hT hv hpv ⟨by rw [rI_sI, upd_eq, if_neg (by decide)]; exact hR0.1, by rw [rI_sI, upd_eq, if_pos rfl], by rw [rI_sI, upd_eq, if_neg (by decide)]; exact hR0.2.2.1, by rw [rI_sI, upd_eq, if_neg (by decide)]; exact hR0.2.2.2.1, fun _ _ => rfl, FrHu.rf _⟩ hst (show remH g c most r p v 0 st = huntG g c most (r + 1) p st by rw [hunt_rem, hgd])) (rcv_obj hX (lv_45 _) rfl rfl) (by omega) (by omega) (by omega) (Nat.le_of_ble_eq_true rfl) ?_
  rintro _ w6 ⟨rfl, g1, g2, g3, g4, g5, g6⟩
  show G0 _ _ _ _ _ _ _ _
  refine g_aload0 hX d_Hu_goOn_96 ?_
  refine g_dup hX d_Hu_goOn_97 rfl ?_
  refine g_getI hX d_Hu_goOn_98 fl_Hu_29 (lv_45 _) ?_
  refine g_topi g2 ?_
  refine g_iconst (v := nI 1) hX d_Hu_goOn_101 rfl ?_
  refine g_iload2 hX d_Hu_goOn_102 ?_
  refine g_ishlN hX d_Hu_goOn_103 (by omega) ?_
  refine g_iconst (v := -1) hX d_Hu_goOn_104 rfl ?_
  refine g_ixor hX d_Hu_goOn_105 ?_
  refine g_iandX hX d_Hu_goOn_106 ?_
  rw [sd_or hyv]
  refine g_putI hX d_Hu_goOn_107 fl_Hu_29 (lv_45 _) ?_
  refine g_vret hX hF d_Hu_goOn_110 (by omega) (by omega) ?_
  exact ⟨rfl, by rw [rI_sI, upd_eq, if_neg (by decide)]; exact g1, by rw [rI_sI, upd_eq, if_pos rfl], by rw [rI_sI, upd_eq, if_neg (by decide)]; exact g3, by rw [rI_sI, upd_eq, if_neg (by decide)]; exact g4, fun u hu => by rw [rI_sI_ne _ _ _ (by decide), g5 u hu, rI_sI_ne _ _ _ (by decide)], (f1.tr g6).I (by decide)⟩
theorem c_Hu_goOn {E : EV} {g : GC} {c : Nat → Nat} {most : Nat} : ∀ (r : Nat) (p : Nat → Option Nat) (vs : List Nat) (y t : Nat) (st : Nat × Nat) (w : Mem), (vs).length + (r) = gV g → 0 < (r) → (∀ u, (p) u ≠ none → u ∈ (vs)) → HuE w g c most → HuL w g (p) → MskY g (p) (y) → MskT g (p) (t) → HuR w w (p) (t) (y) (st) → (st).1 ≤ most → T E m_Hu_goOn (2 * (r) + 2) 0 0 [.ref 45, .int (nI (vs).length)] w (fun rr w2 => rr = none ∧ HuR w w2 (p) (t) (y) (huntG g c most (r) (p) (st))) := by
  intro r
  induction r with
  | zero => intro p vs y t st w h1 h2; exact absurd h2 (Nat.lt_irrefl 0)
  | succ r ih =>
    intro p vs y t st w h1 h2 h3 h4 h5 h6 h7 h8 h9
    by_cases e : r = 0
    · subst e; exact c_Hu_goOn1 h1 h3 h4 h5 h6 h7 h8 h9
    · exact c_Hu_goOnS h1 h3 h4 h5 h6 h7 h8 h9 ih (by omega)
