
/-! ===== the start: what is given ===== -/
def nwL : List Cond := flatC (Jvm.Cond.and given_1 narrow_1)
theorem nw_at {args : Array Value} {s : State} (h : (Jvm.Cond.and given_1 narrow_1).before args s = true) {k : Nat} {c : Cond} (hk : nwL[k]? = some c) : c.before args s = true := flat_of_before _ h c (List.mem_of_getElem? hk)
def strS : List (String × Nat) := [("SubgraphDesk$Reader", 99), ("SubgraphDesk$Reader", 101), ("SubgraphDesk$Reader", 103), ("SubgraphDesk$Reader", 105), ("SubgraphDesk$Runner", 53), ("SubgraphDesk$Runner", 61), ("SubgraphDesk$Runner", 62), ("SubgraphDesk$Runner", 63), ("SubgraphDesk$Runner", 65), ("SubgraphDesk$Runner", 67), ("SubgraphDesk$Ledger", 25), ("SubgraphDesk$Ledger", 33), ("SubgraphDesk$Ledger", 35), ("SubgraphDesk$Ledger", 39), ("SubgraphDesk$Ledger", 43), ("SubgraphDesk$Reader", 92), ("SubgraphDesk$Reader", 94), ("SubgraphDesk$Reader", 107), ("SubgraphDesk$Reader", 70), ("SubgraphDesk$Reader", 76), ("SubgraphDesk$Reader", 125), ("SubgraphDesk$Reader", 156), ("SubgraphDesk$Reader", 145), ("SubgraphDesk$Reader", 133)]
def tmS (i : Nat) : Term := .string (strS.getD i ("", 0)).1 (strS.getD i ("", 0)).2
def ixS : List Nat := [35, 43, 50, 59, 66, 74, 82, 92, 101, 109, 119, 129, 137, 158, 176, 184, 190, 196, 205, 214, 222, 228, 235, 242]
def fvS (i : Nat) : Term := .field (tmS i) "java/lang/String" "value" "[B"
theorem nwEx : ∀ i : Nat, i < 24 → nwL[ixS.getD i 0]? = some (Cond.exactly (tmS i) "java/lang/String") := by decide +kernel
theorem nwCo : ∀ i : Nat, i < 24 → nwL[ixS.getD i 0 + 1]? = some (Cond.eq (.field (tmS i) "java/lang/String" "coder" "B") (.int 0)) := by decide +kernel
theorem nwAr : ∀ i : Nat, i < 24 → nwL[ixS.getD i 0 + 2]? = some (Cond.arrayOf (fvS i) .byte) := by decide +kernel
theorem nwLe : ∀ i : Nat, i < 24 → nwL[ixS.getD i 0 + 3]? = some (Cond.eq (.length (fvS i)) (.int (Int32.ofNat (strLen.getD i 0)))) := by decide +kernel
theorem nwEl : ∀ i : Nat, i < 24 → ∀ j : Nat, j < strLen.getD i 0 → nwL[ixS.getD i 0 + 4 + j]? = some (Cond.eq (.elem (fvS i) (.int (Int32.ofNat j))) (.int ((strByt.getD i []).getD j 0))) := by decide +kernel
theorem strLe : ∀ i : Nat, i < 24 → strLen.getD i 0 < 100 := by decide +kernel
theorem strInj : ∀ i : Nat, i < 24 → ∀ j : Nat, j < 24 → strLen.getD i 0 = strLen.getD j 0 → (∀ k : Nat, k < strLen.getD i 0 → (strByt.getD i []).getD k 0 = (strByt.getD j []).getD k 0) → i = j := by decide +kernel
theorem nwCS : nwL[4]? = some (Cond.eq (.static "java/lang/String" "COMPACT_STRINGS" "Z") (.int 1)) := by decide +kernel
theorem nwSI : nwL[5]? = some (Cond.isRef (.static "jdk/internal/util/Preconditions" "SIOOBE_FORMATTER" "Ljava/util/function/BiFunction;")) := by decide +kernel
theorem nwQ_157 : nwL[157]? = some (Cond.eq (.string "SubgraphDesk$Runner" 67) (.string "SubgraphDesk$Ledger" 37)) := by decide +kernel
theorem nwQ_175 : nwL[175]? = some (Cond.eq (.string "SubgraphDesk$Runner" 53) (.string "SubgraphDesk$Ledger" 41)) := by decide +kernel
/-- one String constant -/
theorem str1 {args : Array Value} {s : State} {A : Nat → Prop} (hg : (Jvm.Cond.and given_1 narrow_1).before args s = true) (hA : ∀ a : Nat, a < s.heap.size → ¬ A a) {i : Nat} (hi : i < 24) : ∃ q : Nat × Nat, (tmS i).eval args s none [] s = some (.ref q.1) ∧ va_O "java/lang/String" q.1 A s s.heap ∧ va_OF "java/lang/String" "coder" "B" (.int 0) q.1 A s s.heap ∧ va_OF "java/lang/String" "value" "[B" (.ref q.2) q.1 A s s.heap ∧ va_T .byte q.2 (strLen.getD i 0) (fun j => .int ((strByt.getD i []).getD j 0)) A s s.heap := by
  have e1 : ∀ k : Nat, k < 1 → [strLen.getD i 0].getD k 0 = strLen.getD i 0 := fun k hk => by
    obtain rfl : k = 0 := by omega
    rfl
  have e2 : ∀ k : Nat, k < 1 → [strByt.getD i []].getD k [] = strByt.getD i [] := fun k hk => by
    obtain rfl : k = 0 := by omega
    rfl
  obtain ⟨adK, adV, h1, h2⟩ := vk_Sof (args := args) (s := s) (N := 1) (tm := fun _ => tmS i) (len := [strLen.getD i 0]) (byt := [strByt.getD i []]) (A := A) (fun k hk => by rw [e1 k hk]; exact Nat.lt_trans (strLe i hi) (by decide)) (fun _ _ => nw_at hg (nwEx i hi)) (fun _ _ => nw_at hg (nwCo i hi)) (fun _ _ => nw_at hg (nwAr i hi)) (fun k hk => by rw [e1 k hk]; exact nw_at hg (nwLe i hi)) (fun k hk j hj => by rw [e1 k hk] at hj; rw [e2 k hk]; exact nw_at hg (nwEl i hi j hj)) (fun a b ha hb hab => absurd (show a = b by omega) hab) hA
  obtain ⟨g1, g2, g3, g4⟩ := h1.1 0 (by decide)
  exact ⟨(adK 0, adV 0), h2 0 (by decide), g1, g2, g3, g4⟩
theorem of_uniq {o n d : String} {v v2 : Value} {t : Nat} {A : Nat → Prop} {U : State} {H : Heap} (h : va_OF o n d v t A U H) (h2 : va_OF o n d v2 t A U H) : v = v2 := by
  obtain ⟨cf, k, i, f, cell, a1, -, a3, -, a5, -⟩ := h
  obtain ⟨cf2, k2, i2, f2, cell2, b1, -, b3, -, b5, -⟩ := h2
  cases a1.symm.trans b1
  cases a3.symm.trans b3
  exact Option.some.inj (a5.symm.trans b5)
theorem t_uniq {t N N2 : Nat} {f f2 : Nat → Value} {A : Nat → Prop} {U : State} {H : Heap} (h : va_T .byte t N f A U H) (h2 : va_T .byte t N2 f2 A U H) (hN : N < 100) (hN2 : N2 < 100) : N = N2 ∧ ∀ j, j < N → f j = f2 j := by
  obtain ⟨cell, a1, -, -, -, a5, a6, -⟩ := h
  obtain ⟨cell2, b1, -, -, -, b5, b6, -⟩ := h2
  cases a1.symm.trans b1
  have e : N = N2 := (nI_eq (Nat.lt_trans hN (by decide)) (Nat.lt_trans hN2 (by decide))).mp (a5.symm.trans b5)
  subst e
  exact ⟨rfl, fun j hj => Option.some.inj ((a6 j hj).symm.trans (b6 j hj))⟩
theorem str_ex {args : Array Value} {s : State} {A : Nat → Prop} (hg : (Jvm.Cond.and given_1 narrow_1).before args s = true) (hts : ∀ w ∈ lw_tbl, w.before args s = true) (hA : ∀ a : Nat, a < s.heap.size → ¬ A a) : ∃ adK adV : Nat → Nat, ∀ E : EV, eA E = A → (∀ i, i < 24 → eR E (900 + i) = adK i) → eV E = adV → StrOK E s := by
  have h0 : ∀ i : Nat, ∃ q : Nat × Nat, i < 24 → (tmS i).eval args s none [] s = some (.ref q.1) ∧ va_O "java/lang/String" q.1 A s s.heap ∧ va_OF "java/lang/String" "coder" "B" (.int 0) q.1 A s s.heap ∧ va_OF "java/lang/String" "value" "[B" (.ref q.2) q.1 A s s.heap ∧ va_T .byte q.2 (strLen.getD i 0) (fun j => .int ((strByt.getD i []).getD j 0)) A s s.heap := by
    intro i
    by_cases hi : i < 24
    · obtain ⟨q, hq⟩ := str1 hg hA hi
      exact ⟨q, fun _ => hq⟩
    · exact ⟨(0, 0), fun h => absurd h hi⟩
  obtain ⟨f, hf⟩ := Classical.axiomOfChoice h0
  refine ⟨fun i => (f i).1, fun i => (f i).2, fun E eA1 eR1 eV1 => ⟨⟨fun i hi => ?_, fun i j hi hj e => ?_⟩, ?_, ?_, ?_⟩⟩
  · show va_O "java/lang/String" (eR E (900 + i)) (eA E) s s.heap ∧ va_OF "java/lang/String" "coder" "B" (.int 0) (eR E (900 + i)) (eA E) s s.heap ∧ va_OF "java/lang/String" "value" "[B" (.ref (eV E i)) (eR E (900 + i)) (eA E) s s.heap ∧ va_T .byte (eV E i) (strLen.getD i 0) (fun j => .int ((strByt.getD i []).getD j 0)) (eA E) s s.heap
    rw [eR1 i hi, eA1, eV1]
    exact (hf i hi).2
  · have e : eR E (900 + i) = eR E (900 + j) := e
    rw [eR1 i hi, eR1 j hj] at e
    have e : (f i).1 = (f j).1 := e
    obtain ⟨-, -, -, a1, a2⟩ := hf i hi
    obtain ⟨-, -, -, b1, b2⟩ := hf j hj
    rw [← e] at b1
    have ev := of_uniq a1 b1
    have ev : (f i).2 = (f j).2 := by injection ev
    rw [← ev] at b2
    obtain ⟨c1, c2⟩ := t_uniq a2 b2 (strLe i hi) (strLe j hj)
    exact strInj i hi j hj c1 (fun k hk => by have := c2 k hk; injection this)
  · unfold strT
    refine List.forall_mem_cons.mpr ⟨vk_R.of (hts _ (List.mem_of_getElem? (i := 800) (by decide +kernel))) (show (Term.string "SubgraphDesk$Reader" 99).eval args s none [] s = some (.ref (eR E (900 + 0))) by rw [eR1 0 (by decide)]; exact (hf 0 (by decide)).1), List.forall_mem_cons.mpr ⟨vk_R.of (hts _ (List.mem_of_getElem? (i := 853) (by decide +kernel))) (show (Term.string "SubgraphDesk$Reader" 101).eval args s none [] s = some (.ref (eR E (900 + 1))) by rw [eR1 1 (by decide)]; exact (hf 1 (by decide)).1), List.forall_mem_cons.mpr ⟨vk_R.of (hts _ (List.mem_of_getElem? (i := 854) (by decide +kernel))) (show (Term.string "SubgraphDesk$Reader" 103).eval args s none [] s = some (.ref (eR E (900 + 2))) by rw [eR1 2 (by decide)]; exact (hf 2 (by decide)).1), List.forall_mem_cons.mpr ⟨vk_R.of (hts _ (List.mem_of_getElem? (i := 855) (by decide +kernel))) (show (Term.string "SubgraphDesk$Reader" 105).eval args s none [] s = some (.ref (eR E (900 + 3))) by rw [eR1 3 (by decide)]; exact (hf 3 (by decide)).1), List.forall_mem_cons.mpr ⟨vk_R.of (hts _ (List.mem_of_getElem? (i := 910) (by decide +kernel))) (show (Term.string "SubgraphDesk$Runner" 53).eval args s none [] s = some (.ref (eR E (900 + 4))) by rw [eR1 4 (by decide)]; exact (hf 4 (by decide)).1), List.forall_mem_cons.mpr ⟨vk_R.of (hts _ (List.mem_of_getElem? (i := 912) (by decide +kernel))) (show (Term.string "SubgraphDesk$Runner" 61).eval args s none [] s = some (.ref (eR E (900 + 5))) by rw [eR1 5 (by decide)]; exact (hf 5 (by decide)).1), List.forall_mem_cons.mpr ⟨vk_R.of (hts _ (List.mem_of_getElem? (i := 913) (by decide +kernel))) (show (Term.string "SubgraphDesk$Runner" 62).eval args s none [] s = some (.ref (eR E (900 + 6))) by rw [eR1 6 (by decide)]; exact (hf 6 (by decide)).1), List.forall_mem_cons.mpr ⟨vk_R.of (hts _ (List.mem_of_getElem? (i := 914) (by decide +kernel))) (show (Term.string "SubgraphDesk$Runner" 63).eval args s none [] s = some (.ref (eR E (900 + 7))) by rw [eR1 7 (by decide)]; exact (hf 7 (by decide)).1), List.forall_mem_cons.mpr ⟨vk_R.of (hts _ (List.mem_of_getElem? (i := 915) (by decide +kernel))) (show (Term.string "SubgraphDesk$Runner" 65).eval args s none [] s = some (.ref (eR E (900 + 8))) by rw [eR1 8 (by decide)]; exact (hf 8 (by decide)).1), List.forall_mem_cons.mpr ⟨vk_R.of (hts _ (List.mem_of_getElem? (i := 916) (by decide +kernel))) (show (Term.string "SubgraphDesk$Runner" 67).eval args s none [] s = some (.ref (eR E (900 + 9))) by rw [eR1 9 (by decide)]; exact (hf 9 (by decide)).1), List.forall_mem_cons.mpr ⟨vk_R.of (hts _ (List.mem_of_getElem? (i := 920) (by decide +kernel))) (show (Term.string "SubgraphDesk$Ledger" 25).eval args s none [] s = some (.ref (eR E (900 + 10))) by rw [eR1 10 (by decide)]; exact (hf 10 (by decide)).1), List.forall_mem_cons.mpr ⟨vk_R.of (hts _ (List.mem_of_getElem? (i := 922) (by decide +kernel))) (show (Term.string "SubgraphDesk$Ledger" 33).eval args s none [] s = some (.ref (eR E (900 + 11))) by rw [eR1 11 (by decide)]; exact (hf 11 (by decide)).1), List.forall_mem_cons.mpr ⟨vk_R.of (hts _ (List.mem_of_getElem? (i := 923) (by decide +kernel))) (show (Term.string "SubgraphDesk$Ledger" 35).eval args s none [] s = some (.ref (eR E (900 + 12))) by rw [eR1 12 (by decide)]; exact (hf 12 (by decide)).1), List.forall_mem_cons.mpr ⟨vk_R.of (hts _ (List.mem_of_getElem? (i := 924) (by decide +kernel))) (show (Term.string "SubgraphDesk$Ledger" 37).eval args s none [] s = some (.ref (eR E (900 + 9))) by rw [eR1 9 (by decide)]; exact va_eqR (nw_at hg nwQ_157) (hf 9 (by decide)).1), List.forall_mem_cons.mpr ⟨vk_R.of (hts _ (List.mem_of_getElem? (i := 925) (by decide +kernel))) (show (Term.string "SubgraphDesk$Ledger" 39).eval args s none [] s = some (.ref (eR E (900 + 13))) by rw [eR1 13 (by decide)]; exact (hf 13 (by decide)).1), List.forall_mem_cons.mpr ⟨vk_R.of (hts _ (List.mem_of_getElem? (i := 926) (by decide +kernel))) (show (Term.string "SubgraphDesk$Ledger" 41).eval args s none [] s = some (.ref (eR E (900 + 4))) by rw [eR1 4 (by decide)]; exact va_eqR (nw_at hg nwQ_175) (hf 4 (by decide)).1), List.forall_mem_cons.mpr ⟨vk_R.of (hts _ (List.mem_of_getElem? (i := 927) (by decide +kernel))) (show (Term.string "SubgraphDesk$Ledger" 43).eval args s none [] s = some (.ref (eR E (900 + 14))) by rw [eR1 14 (by decide)]; exact (hf 14 (by decide)).1), List.forall_mem_cons.mpr ⟨vk_R.of (hts _ (List.mem_of_getElem? (i := 932) (by decide +kernel))) (show (Term.string "SubgraphDesk$Reader" 92).eval args s none [] s = some (.ref (eR E (900 + 15))) by rw [eR1 15 (by decide)]; exact (hf 15 (by decide)).1), List.forall_mem_cons.mpr ⟨vk_R.of (hts _ (List.mem_of_getElem? (i := 933) (by decide +kernel))) (show (Term.string "SubgraphDesk$Reader" 94).eval args s none [] s = some (.ref (eR E (900 + 16))) by rw [eR1 16 (by decide)]; exact (hf 16 (by decide)).1), List.forall_mem_cons.mpr ⟨vk_R.of (hts _ (List.mem_of_getElem? (i := 938) (by decide +kernel))) (show (Term.string "SubgraphDesk$Reader" 107).eval args s none [] s = some (.ref (eR E (900 + 17))) by rw [eR1 17 (by decide)]; exact (hf 17 (by decide)).1), List.forall_mem_cons.mpr ⟨vk_R.of (hts _ (List.mem_of_getElem? (i := 943) (by decide +kernel))) (show (Term.string "SubgraphDesk$Reader" 70).eval args s none [] s = some (.ref (eR E (900 + 18))) by rw [eR1 18 (by decide)]; exact (hf 18 (by decide)).1), List.forall_mem_cons.mpr ⟨vk_R.of (hts _ (List.mem_of_getElem? (i := 944) (by decide +kernel))) (show (Term.string "SubgraphDesk$Reader" 76).eval args s none [] s = some (.ref (eR E (900 + 19))) by rw [eR1 19 (by decide)]; exact (hf 19 (by decide)).1), List.forall_mem_cons.mpr ⟨vk_R.of (hts _ (List.mem_of_getElem? (i := 949) (by decide +kernel))) (show (Term.string "SubgraphDesk$Reader" 125).eval args s none [] s = some (.ref (eR E (900 + 20))) by rw [eR1 20 (by decide)]; exact (hf 20 (by decide)).1), List.forall_mem_cons.mpr ⟨vk_R.of (hts _ (List.mem_of_getElem? (i := 966) (by decide +kernel))) (show (Term.string "SubgraphDesk$Reader" 156).eval args s none [] s = some (.ref (eR E (900 + 21))) by rw [eR1 21 (by decide)]; exact (hf 21 (by decide)).1), List.forall_mem_cons.mpr ⟨vk_R.of (hts _ (List.mem_of_getElem? (i := 975) (by decide +kernel))) (show (Term.string "SubgraphDesk$Reader" 145).eval args s none [] s = some (.ref (eR E (900 + 22))) by rw [eR1 22 (by decide)]; exact (hf 22 (by decide)).1), List.forall_mem_cons.mpr ⟨vk_R.of (hts _ (List.mem_of_getElem? (i := 980) (by decide +kernel))) (show (Term.string "SubgraphDesk$Reader" 133).eval args s none [] s = some (.ref (eR E (900 + 23))) by rw [eR1 23 (by decide)]; exact (hf 23 (by decide)).1), fun _ h => absurd h List.not_mem_nil⟩⟩⟩⟩⟩⟩⟩⟩⟩⟩⟩⟩⟩⟩⟩⟩⟩⟩⟩⟩⟩⟩⟩⟩⟩⟩
  · rw [eA1]
    exact va_Zof (hts _ (List.mem_of_getElem? (i := 814) (by decide +kernel))) (hts _ (List.mem_of_getElem? (i := 154) (by decide +kernel))) (va_eqi (nw_at hg nwCS)) hA
  · rw [eA1]
    rcases va_Zqof (hts _ (List.mem_of_getElem? (i := 830) (by decide +kernel))) (hts _ (List.mem_of_getElem? (i := 156) (by decide +kernel))) (nw_at hg nwSI) hA with h | ⟨t, h⟩
    · exact ⟨_, Or.inl rfl, h⟩
    · exact ⟨_, Or.inr ⟨t, rfl⟩, h⟩
theorem cls_ex {args : Array Value} {s : State} (hts : ∀ w ∈ lw_gd, w.before args s = true) : ∃ D : va_G, ∀ (c : Nat) (q : vw_C), classes[c]? = some q → u_Kn s q.1 q.2.1 q.2.2 (D.1 c) (D.2 c) := by
  have h : ∀ c : Nat, ∃ x : ClassId × (Nat → Nat), ∀ q : vw_C, classes[c]? = some q → u_Kn s q.1 q.2.1 q.2.2 x.1 x.2 := fun c => by
    by_cases hc : c < 13
    · rcases (show c = 0 ∨ c = 1 ∨ c = 2 ∨ c = 3 ∨ c = 4 ∨ c = 5 ∨ c = 6 ∨ c = 7 ∨ c = 8 ∨ c = 9 ∨ c = 10 ∨ c = 11 ∨ c = 12 by omega) with rfl | rfl | rfl | rfl | rfl | rfl | rfl | rfl | rfl | rfl | rfl | rfl | rfl
      · obtain ⟨c0, i0, h0⟩ := u_known (C := R_D) (T := F_D) (N := 15) (n := 15) hts in_D (hts _ zk_D)
        exact ⟨(c0, i0), fun q hq => by cases hq; exact h0⟩
      · obtain ⟨c0, i0, h0⟩ := u_known (C := R_Ac) (T := F_Ac) (N := 5) (n := 5) hts in_Ac (hts _ zk_Ac)
        exact ⟨(c0, i0), fun q hq => by cases hq; exact h0⟩
      · obtain ⟨c0, i0, h0⟩ := u_known (C := R_Bo) (T := F_Bo) (N := 15) (n := 15) hts in_Bo (hts _ zk_Bo)
        exact ⟨(c0, i0), fun q hq => by cases hq; exact h0⟩
      · obtain ⟨c0, i0, h0⟩ := u_known (C := R_Hu) (T := F_Hu) (N := 8) (n := 8) hts in_Hu (hts _ zk_Hu)
        exact ⟨(c0, i0), fun q hq => by cases hq; exact h0⟩
      · obtain ⟨c0, i0, h0⟩ := u_known (C := R_Le) (T := F_Le) (N := 4) (n := 4) hts in_Le (hts _ zk_Le)
        exact ⟨(c0, i0), fun q hq => by cases hq; exact h0⟩
      · obtain ⟨c0, i0, h0⟩ := u_known (C := R_Li) (T := F_Li) (N := 7) (n := 7) hts in_Li (hts _ zk_Li)
        exact ⟨(c0, i0), fun q hq => by cases hq; exact h0⟩
      · obtain ⟨c0, i0, h0⟩ := u_known (C := R_Pr) (T := F_Pr) (N := 4) (n := 4) hts in_Pr (hts _ zk_Pr)
        exact ⟨(c0, i0), fun q hq => by cases hq; exact h0⟩
      · obtain ⟨c0, i0, h0⟩ := u_known (C := R_Re) (T := F_Re) (N := 5) (n := 5) hts in_Re (hts _ zk_Re)
        exact ⟨(c0, i0), fun q hq => by cases hq; exact h0⟩
      · obtain ⟨c0, i0, h0⟩ := u_known (C := R_Ru) (T := F_Ru) (N := 10) (n := 10) hts in_Ru (hts _ zk_Ru)
        exact ⟨(c0, i0), fun q hq => by cases hq; exact h0⟩
      · obtain ⟨c0, i0, h0⟩ := u_known (C := R_Si) (T := F_Si) (N := 2) (n := 2) hts in_Si (hts _ zk_Si)
        exact ⟨(c0, i0), fun q hq => by cases hq; exact h0⟩
      · obtain ⟨c0, i0, h0⟩ := u_known (C := R_Ta) (T := F_Ta) (N := 7) (n := 7) hts in_Ta (hts _ zk_Ta)
        exact ⟨(c0, i0), fun q hq => by cases hq; exact h0⟩
      · obtain ⟨c0, i0, h0⟩ := u_known (C := R_Wa) (T := F_Wa) (N := 11) (n := 11) hts in_Wa (hts _ zk_Wa)
        exact ⟨(c0, i0), fun q hq => by cases hq; exact h0⟩
      · obtain ⟨c0, i0, h0⟩ := u_known (C := R_M) (T := F_M) (N := 69) (n := 69) hts in_M (hts _ zk_M)
        exact ⟨(c0, i0), fun q hq => by cases hq; exact h0⟩
    · exact ⟨(0, fun _ => 0), fun q hq => by
        rw [List.getElem?_eq_none (show classes.length ≤ c from Nat.le_of_not_lt hc)] at hq
        cases hq⟩
  obtain ⟨f, hf⟩ := Classical.axiomOfChoice h
  exact ⟨(fun c => (f c).1, fun c => (f c).2), hf⟩
theorem arrP {args : Array Value} {s : State} {ty : FieldType} (hn : ∀ C, ty ≠ .object C) (h : (Cond.arrayClass ty).before args s = true) : ∃ c : ClassId, ArrOfT s c ty ∧ s.vm.findClass ("[" ++ ty.toString) = some c := by
  obtain ⟨c, k, comp, h1, h2, h3⟩ := Cond.arrayClass_spec (args := args) (first := s) (o := none) (s := s) (idx := []) h
  exact ⟨c, fun n z => ⟨fun k h => (by cases h), k, h2, comp, h3⟩, h1⟩
theorem arrQ {args : Array Value} {s : State} {C : String} (h : (Cond.arrayOver (.object C)).before args s = true) : ∃ c : ClassId, ArrOfT s c (.object C) ∧ va_RA s c (.object C) := by
  obtain ⟨comp, c, k, h1, -, h3, h4, h5⟩ := Cond.arrayOver_spec (args := args) (first := s) (o := none) (s := s) (idx := []) h
  exact ⟨c, fun n z => ⟨fun k h => (by cases h), k, h3, comp, h4⟩, k, comp, h3, h4, h1, h5⟩
theorem lk_aoP : Cond.arrayOver (.object "SubgraphDesk$Program") ∈ lw_tbl := List.mem_of_getElem? (i := 175) (by decide +kernel)
theorem lk_aoB : Cond.arrayOver (.object "SubgraphDesk$Board") ∈ lw_tbl := List.mem_of_getElem? (i := 264) (by decide +kernel)
theorem gd_tbl {w : Cond} (h : w ∈ lw_gd) : w ∈ lw_tbl := (List.mem_filter.mp h).1
theorem tys_ex {args : Array Value} {s : State} (hts : ∀ w ∈ lw_tbl, w.before args s = true) : ∃ cc : Nat → ClassId, ∀ E : EV, eC E = cc → ∀ (k : Nat) (q : ClassId × FieldType), (tys E)[k]? = some q → ArrOfT s q.1 q.2 ∧ va_RA s q.1 q.2 := by
  obtain ⟨c0, a0, b0⟩ := arrP (ty := .int) (fun C h => by cases h) (hts _ (gd_tbl lk_arI))
  obtain ⟨c1, a1, b1⟩ := arrP (ty := .long) (fun C h => by cases h) (hts _ (gd_tbl lk_arJ))
  obtain ⟨c2, a2, b2⟩ := arrP (ty := .boolean) (fun C h => by cases h) (hts _ (gd_tbl lk_arZ))
  obtain ⟨c3, a3, b3⟩ := arrQ (hts _ lk_aoP)
  obtain ⟨c4, a4, b4⟩ := arrQ (hts _ lk_aoB)
  refine ⟨fun k => if k = 0 then c0 else if k = 1 then c1 else if k = 2 then c2 else if k = 3 then c3 else c4, fun E hE k q hq => ?_⟩
  unfold tys at hq
  rw [hE] at hq
  match k, hq with
  | 0, hq => cases hq; exact ⟨a0, b0⟩
  | 1, hq => cases hq; exact ⟨a1, b1⟩
  | 2, hq => cases hq; exact ⟨a2, b2⟩
  | 3, hq => cases hq; exact ⟨a3, b3⟩
  | 4, hq => cases hq; exact ⟨a4, b4⟩
  | k + 5, hq => cases hq
theorem nw_tbl : ∀ q ∈ lw_nw, q ∈ lw_tbl := by
  unfold lw_nw
  exact List.forall_mem_cons.mpr ⟨List.mem_of_getElem? (i := 267) (by decide +kernel), List.forall_mem_cons.mpr ⟨List.mem_of_getElem? (i := 290) (by decide +kernel), List.forall_mem_cons.mpr ⟨List.mem_of_getElem? (i := 296) (by decide +kernel), List.forall_mem_cons.mpr ⟨List.mem_of_getElem? (i := 370) (by decide +kernel), List.forall_mem_cons.mpr ⟨List.mem_of_getElem? (i := 394) (by decide +kernel), List.forall_mem_cons.mpr ⟨List.mem_of_getElem? (i := 436) (by decide +kernel), List.forall_mem_cons.mpr ⟨List.mem_of_getElem? (i := 450) (by decide +kernel), List.forall_mem_cons.mpr ⟨List.mem_of_getElem? (i := 483) (by decide +kernel), List.forall_mem_cons.mpr ⟨List.mem_of_getElem? (i := 513) (by decide +kernel), List.forall_mem_cons.mpr ⟨List.mem_of_getElem? (i := 520) (by decide +kernel), fun _ h => absurd h List.not_mem_nil⟩⟩⟩⟩⟩⟩⟩⟩⟩⟩
theorem nw_ex {args : Array Value} {s : State} (hts : ∀ w ∈ lw_tbl, w.before args s = true) : NW s := fun a i x hm => va_Nw.of rfl (hts _ (nw_tbl _ hm))
