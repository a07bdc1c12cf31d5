def m_Bo_insertEdge : MR := (⟨"SubgraphDesk$Board", "insertEdge", "(II)V"⟩, prog_3_method_17_code, 4, none)
theorem cf_Bo_insertEdge : CF m_Bo_insertEdge 2 := ⟨gd 763 (by decide +kernel) rfl, gd 140 (by decide +kernel) rfl, by decide +kernel, by decide, by decide +kernel⟩
theorem cv_Bo_insertEdge : CV m_Bo_insertEdge := ⟨gd 762 (by decide +kernel) rfl, gd 3 (by decide +kernel) rfl⟩
theorem d_Bo_insertEdge_0 : Dc prog_3_method_17_code 0 (.aload_n 0) 1 1 := ⟨by decide +kernel, rfl⟩
theorem d_Bo_insertEdge_1 : Dc prog_3_method_17_code 1 (.getfield 46) 3 4 := ⟨by decide +kernel, rfl⟩
theorem d_Bo_insertEdge_4 : Dc prog_3_method_17_code 4 (.bipush 66) 2 6 := ⟨by decide +kernel, rfl⟩
theorem d_Bo_insertEdge_6 : Dj prog_3_method_17_code 6 (.if_icmp .lt 4) 9 4 10 := ⟨by decide +kernel, rfl, rfl⟩
theorem d_Bo_insertEdge_10 : Dc prog_3_method_17_code 10 (.aload_n 0) 1 11 := ⟨by decide +kernel, rfl⟩
theorem d_Bo_insertEdge_11 : Dc prog_3_method_17_code 11 (.getfield 46) 3 14 := ⟨by decide +kernel, rfl⟩
theorem d_Bo_insertEdge_14 : Dc prog_3_method_17_code 14 (.istore_n 3) 1 15 := ⟨by decide +kernel, rfl⟩
theorem d_Bo_insertEdge_15 : Dc prog_3_method_17_code 15 (.iload_n 3) 1 16 := ⟨by decide +kernel, rfl⟩
theorem d_Bo_insertEdge_16 : Dc prog_3_method_17_code 16 (.iload_n 1) 1 17 := ⟨by decide +kernel, rfl⟩
theorem d_Bo_insertEdge_17 : Dj prog_3_method_17_code 17 (.if_icmp .le 23) 20 23 40 := ⟨by decide +kernel, rfl, rfl⟩
theorem d_Bo_insertEdge_20 : Dc prog_3_method_17_code 20 (.aload_n 0) 1 21 := ⟨by decide +kernel, rfl⟩
theorem d_Bo_insertEdge_21 : Dc prog_3_method_17_code 21 (.getfield 18) 3 24 := ⟨by decide +kernel, rfl⟩
theorem d_Bo_insertEdge_24 : Dc prog_3_method_17_code 24 (.iload_n 3) 1 25 := ⟨by decide +kernel, rfl⟩
theorem d_Bo_insertEdge_25 : Dc prog_3_method_17_code 25 (.aload_n 0) 1 26 := ⟨by decide +kernel, rfl⟩
theorem d_Bo_insertEdge_26 : Dc prog_3_method_17_code 26 (.getfield 18) 3 29 := ⟨by decide +kernel, rfl⟩
theorem d_Bo_insertEdge_29 : Dc prog_3_method_17_code 29 (.iload_n 3) 1 30 := ⟨by decide +kernel, rfl⟩
theorem d_Bo_insertEdge_30 : Dc prog_3_method_17_code 30 (.iconst 1) 1 31 := ⟨by decide +kernel, rfl⟩
theorem d_Bo_insertEdge_31 : Dc prog_3_method_17_code 31 (.isub) 1 32 := ⟨by decide +kernel, rfl⟩
theorem d_Bo_insertEdge_32 : Dc prog_3_method_17_code 32 (.iaload) 1 33 := ⟨by decide +kernel, rfl⟩
theorem d_Bo_insertEdge_33 : Dc prog_3_method_17_code 33 (.iastore) 1 34 := ⟨by decide +kernel, rfl⟩
theorem d_Bo_insertEdge_34 : Dc prog_3_method_17_code 34 (.iinc 3 (-1)) 3 37 := ⟨by decide +kernel, rfl⟩
theorem d_Bo_insertEdge_37 : Dj prog_3_method_17_code 37 (.goto (-22)) 40 (-22) 15 := ⟨by decide +kernel, rfl, rfl⟩
theorem d_Bo_insertEdge_40 : Dc prog_3_method_17_code 40 (.aload_n 0) 1 41 := ⟨by decide +kernel, rfl⟩
theorem d_Bo_insertEdge_41 : Dc prog_3_method_17_code 41 (.getfield 18) 3 44 := ⟨by decide +kernel, rfl⟩
theorem d_Bo_insertEdge_44 : Dc prog_3_method_17_code 44 (.iload_n 1) 1 45 := ⟨by decide +kernel, rfl⟩
theorem d_Bo_insertEdge_45 : Dc prog_3_method_17_code 45 (.iload_n 2) 1 46 := ⟨by decide +kernel, rfl⟩
theorem d_Bo_insertEdge_46 : Dc prog_3_method_17_code 46 (.iastore) 1 47 := ⟨by decide +kernel, rfl⟩
theorem d_Bo_insertEdge_47 : Dc prog_3_method_17_code 47 (.aload_n 0) 1 48 := ⟨by decide +kernel, rfl⟩
theorem d_Bo_insertEdge_48 : Dc prog_3_method_17_code 48 (.dup) 1 49 := ⟨by decide +kernel, rfl⟩
theorem d_Bo_insertEdge_49 : Dc prog_3_method_17_code 49 (.getfield 46) 3 52 := ⟨by decide +kernel, rfl⟩
theorem d_Bo_insertEdge_52 : Dc prog_3_method_17_code 52 (.iconst 1) 1 53 := ⟨by decide +kernel, rfl⟩
theorem d_Bo_insertEdge_53 : Dc prog_3_method_17_code 53 (.iadd) 1 54 := ⟨by decide +kernel, rfl⟩
theorem d_Bo_insertEdge_54 : Dc prog_3_method_17_code 54 (.putfield 46) 3 57 := ⟨by decide +kernel, rfl⟩
theorem d_Bo_insertEdge_57 : Dc prog_3_method_17_code 57 (.return_) 1 58 := ⟨by decide +kernel, rfl⟩
theorem fl_Bo_18 : FL "SubgraphDesk$Board" 18 2 4 true (.array .int) (3, 3) := ⟨R_Bo, F_Bo, 15, ty_Bo, rfl, rfl, in_Bo, tyok_Bo, nm_Bo, by decide, gd 196 (by decide +kernel) rfl, rfl, rfl, rfl⟩
theorem fl_Bo_46 : FL "SubgraphDesk$Board" 46 2 3 false .int (0, 0) := ⟨R_Bo, F_Bo, 15, ty_Bo, rfl, rfl, in_Bo, tyok_Bo, nm_Bo, by decide, gd 193 (by decide +kernel) rfl, rfl, rfl, rfl⟩
theorem codeOf_comm (a c : Nat) : codeOf a c = codeOf c a := by
  unfold codeOf
  by_cases h : a < c
  · rw [if_pos h, if_neg (by omega)]
  · rw [if_neg h]
    by_cases h2 : c < a
    · rw [if_pos h2]
    · rw [if_neg h2, show a = c by omega]
theorem codeOf_eq {a c k m : Nat} (ha : a < 12) (hc : c < 12) (hk : k < 12) (hm : m < 12) (h : codeOf k m = codeOf a c) : (k = a ∧ m = c) ∨ (k = c ∧ m = a) := by
  unfold codeOf at h
  split at h <;> split at h <;> omega
theorem code_mm {a c : Nat} : min a c * 12 + max a c = codeOf a c := by
  unfold codeOf
  split <;> omega
section
variable {es es2 : List Nat} {a c k N : Nat}
theorem near_a {X : Nat} (ha : a < 12) (hc : c < 12) (hN : N ≤ 12) (h : ∀ x ∈ es, okE N x) (h2 : ∀ x ∈ es2, okE N x) (hac : a ≠ c) (hm : ∀ x, x ≠ codeOf a c → (x ∈ es2 ↔ x ∈ es)) (hX : X < 4096) (hb : X.testBit c = true ↔ codeOf a c ∈ es2) (ho : ∀ m, m ≠ c → X.testBit m = (nearB es a).testBit m) : nearB es2 a = X := by
  apply Nat.eq_of_testBit_eq
  intro m
  by_cases h12 : m < 12
  · rw [Bool.eq_iff_iff, near_tb ha h12 hN h2]
    by_cases e : m = c
    · rw [e, hb]
      exact ⟨fun z => z.2, fun z => ⟨hac, z⟩⟩
    · rw [ho m e, near_tb ha h12 hN h]
      constructor
      · rintro ⟨z1, z2⟩
        exact ⟨z1, (hm _ (fun q => by rcases codeOf_eq ha hc ha h12 q with y | y <;> omega)).mp z2⟩
      · rintro ⟨z1, z2⟩
        exact ⟨z1, (hm _ (fun q => by rcases codeOf_eq ha hc ha h12 q with y | y <;> omega)).mpr z2⟩
  · rw [Nat.testBit_lt_two_pow (Nat.lt_of_lt_of_le (near_lt (fun x hx => okE_lt hN (h2 x hx))) (Nat.pow_le_pow_right (by decide) (show 12 ≤ m by omega))), Nat.testBit_lt_two_pow (Nat.lt_of_lt_of_le hX (Nat.pow_le_pow_right (show 0 < 2 by decide) (show 12 ≤ m by omega)))]
theorem near_o (ha : a < 12) (hc : c < 12) (hk : k < 12) (hN : N ≤ 12) (h : ∀ x ∈ es, okE N x) (h2 : ∀ x ∈ es2, okE N x) (hka : k ≠ a) (hkc : k ≠ c) (hm : ∀ x, x ≠ codeOf a c → (x ∈ es2 ↔ x ∈ es)) : nearB es2 k = nearB es k := by
  apply Nat.eq_of_testBit_eq
  intro m
  by_cases h12 : m < 12
  · rw [Bool.eq_iff_iff, near_tb hk h12 hN h2, near_tb hk h12 hN h]
    have hz := hm (codeOf k m) (fun q => by rcases codeOf_eq ha hc hk h12 q with y | y <;> omega)
    rw [hz]
  · rw [Nat.testBit_lt_two_pow (Nat.lt_of_lt_of_le (near_lt (fun x hx => okE_lt hN (h2 x hx))) (Nat.pow_le_pow_right (by decide) (show 12 ≤ m by omega))), Nat.testBit_lt_two_pow (Nat.lt_of_lt_of_le (near_lt (fun x hx => okE_lt hN (h x hx))) (Nat.pow_le_pow_right (by decide) (show 12 ≤ m by omega)))]
theorem mem_tog (hd : es.Nodup) (x : Nat) : x ∈ tog es c ↔ if x = c then c ∉ es else x ∈ es := by
  unfold tog
  by_cases h : c ∈ es
  · rw [if_pos h, hd.mem_erase_iff]
    by_cases e : x = c
    · rw [if_pos e]; exact ⟨fun z => absurd e z.1, fun z => absurd h z⟩
    · rw [if_neg e]; exact ⟨fun z => z.2, fun z => ⟨e, z⟩⟩
  · rw [if_neg h, List.mem_append, List.mem_singleton]
    by_cases e : x = c
    · rw [if_pos e]; exact ⟨fun _ => h, fun _ => Or.inr e⟩
    · rw [if_neg e]; exact ⟨fun z => z.resolve_right e, Or.inl⟩
end
theorem xor_bit {X c m : Nat} : (X ^^^ 1 <<< c).testBit m = if m = c then !X.testBit c else X.testBit m := by
  rw [Nat.testBit_xor, tb_one]
  by_cases e : m = c
  · rw [if_pos e, e]; simp
  · rw [if_neg e, decide_eq_false (fun q => e q.symm)]; simp
theorem or_bit {X c m : Nat} : (X ||| 1 <<< c).testBit m = if m = c then true else X.testBit m := by
  rw [Nat.testBit_or, tb_one]
  by_cases e : m = c
  · rw [if_pos e, e]; simp
  · rw [if_neg e, decide_eq_false (fun q => e q.symm)]; simp
/-- the edges are other ones -/
def gSetE (g : GC) (es : List Nat) : GC := (gN g, gC g, es, gV g, gY g, gK g, gS g, gT g, gL g, gF g)
theorem near_tog1 {g : GC} {a c : Nat} (hW : WG g) (ha : a < gN g) (hc : c < gN g) (hac : a ≠ c) : nearB (tog (gE g) (codeOf a c)) a = nearB (gE g) a ^^^ 1 <<< c := by
  have hn := hW.n
  have h2 : ∀ x ∈ tog (gE g) (codeOf a c), okE (gN g) x := (hW.join ha hc hac).eo
  refine near_a (by omega) (by omega) hn hW.eo h2 hac (fun x hx => by rw [mem_tog hW.ed, if_neg hx]) (Nat.xor_lt_two_pow (n := 12) (near12 hW a) (shl_lt (by omega))) ?_ (fun m hm => by rw [xor_bit, if_neg hm])
  rw [xor_bit, if_pos rfl, mem_tog hW.ed, if_pos rfl]
  cases hb : (nearB (gE g) a).testBit c with
  | true => exact ⟨fun z => (by cases z), fun z => absurd ((near_tb (by omega) (by omega) hn hW.eo).mp hb).2 z⟩
  | false => exact ⟨fun _ z => (by rw [(near_tb (by omega) (by omega) hn hW.eo).mpr ⟨hac, z⟩] at hb; cases hb), fun _ => rfl⟩
/-- with the code put in or out by turns, the ends' bits turn -/
theorem near_tog {g : GC} {a c k : Nat} (hW : WG g) (ha : a < gN g) (hc : c < gN g) (hk : k < gN g) (hac : a ≠ c) : nearB (tog (gE g) (codeOf a c)) k = if k = a then nearB (gE g) a ^^^ 1 <<< c else if k = c then nearB (gE g) c ^^^ 1 <<< a else nearB (gE g) k := by
  have hn := hW.n
  by_cases h1 : k = a
  · rw [if_pos h1, h1]; exact near_tog1 hW ha hc hac
  · rw [if_neg h1]
    by_cases h2 : k = c
    · rw [if_pos h2, h2, codeOf_comm]; exact near_tog1 hW hc ha (Ne.symm hac)
    · rw [if_neg h2]
      exact near_o (a := a) (c := c) (by omega) (by omega) (by omega) hn hW.eo (hW.join ha hc hac).eo h1 h2 (fun x hx => by rw [mem_tog hW.ed, if_neg hx])
theorem mem_ins {es : List Nat} {p c x : Nat} (hp : p ≤ es.length) : x ∈ es.insertIdx p c ↔ x = c ∨ x ∈ es := List.mem_insertIdx hp
/-- with a code that is put in, the ends' bits are set -/
theorem near_ins1 {g : GC} {a c p : Nat} (hW : WG g) (ha : a < gN g) (hc : c < gN g) (hac : a ≠ c) (hp : p ≤ (gE g).length) : nearB ((gE g).insertIdx p (codeOf a c)) a = nearB (gE g) a ||| 1 <<< c := by
  have hn := hW.n
  have hcd : okE (gN g) (codeOf a c) := by
    unfold codeOf okE
    split <;> omega
  have h2 : ∀ x ∈ (gE g).insertIdx p (codeOf a c), okE (gN g) x := fun x hx => by
    rcases (mem_ins hp).mp hx with z | z
    · rw [z]; exact hcd
    · exact hW.eo x z
  refine near_a (by omega) (by omega) hn hW.eo h2 hac (fun x hx => by rw [mem_ins hp]; exact ⟨fun z => z.resolve_left hx, Or.inr⟩) (Nat.or_lt_two_pow (n := 12) (near12 hW a) (shl_lt (by omega))) ?_ (fun m hm => by rw [or_bit, if_neg hm])
  rw [or_bit, if_pos rfl, mem_ins hp]
  exact ⟨fun _ => Or.inl rfl, fun _ => rfl⟩
theorem near_ins {g : GC} {a c k p : Nat} (hW : WG g) (ha : a < gN g) (hc : c < gN g) (hk : k < gN g) (hac : a ≠ c) (hp : p ≤ (gE g).length) : nearB ((gE g).insertIdx p (codeOf a c)) k = if k = a then nearB (gE g) a ||| 1 <<< c else if k = c then nearB (gE g) c ||| 1 <<< a else nearB (gE g) k := by
  have hn := hW.n
  by_cases h1 : k = a
  · rw [if_pos h1, h1]; exact near_ins1 hW ha hc hac hp
  · rw [if_neg h1]
    by_cases h2 : k = c
    · rw [if_pos h2, h2, codeOf_comm]; exact near_ins1 hW hc ha (Ne.symm hac) hp
    · rw [if_neg h2]
      have hcd : okE (gN g) (codeOf a c) := by
        unfold codeOf okE
        split <;> omega
      exact near_o (a := a) (c := c) (by omega) (by omega) (by omega) hn hW.eo (fun x hx => by
        rcases (mem_ins hp).mp hx with z | z
        · rw [z]; exact hcd
        · exact hW.eo x z) h1 h2 (fun x hx => by rw [mem_ins hp]; exact ⟨fun z => z.resolve_left hx, Or.inr⟩)
theorem BRow.setE {w w2 : Mem} {b : Nat} {g : GC} {es : List Nat} (h : BRow w b g) (e0 : ∀ k, k ≠ 3 → rI w2 b k = rI w b k) (e3 : rI w2 b 3 = nI es.length) (eo : ∀ k, k < es.length → rI w2 (b + 3) k = nI (gA es k)) (en : ∀ i, i < gN g → rI w2 (b + 2) i = nI (nearB es i)) (e : ∀ a, b < a → a ≤ b + 7 → a ≠ b + 2 → a ≠ b + 3 → rI w2 a = rI w a) : BRow w2 b (gSetE g es) := by
  unfold BRow
  rw [e0 0 (by decide), e0 5 (by decide), e0 8 (by decide), e0 11 (by decide), e0 12 (by decide), e (b + 1) (by omega) (by omega) (by omega) (by omega), e (b + 4) (by omega) (by omega) (by omega) (by omega), e (b + 5) (by omega) (by omega) (by omega) (by omega), e (b + 6) (by omega) (by omega) (by omega) (by omega), e (b + 7) (by omega) (by omega) (by omega) (by omega)]
  exact ⟨h.n, e3, h.v, h.sl, h.ll, h.fo, h.c, en, eo, h.y, h.k, h.sn, h.t⟩
/-- moved up by one from the end down to i -/
def mvU (f : Nat → Int32) (i l : Nat) : Nat → Int32 := fun k => if i < k ∧ k ≤ l then f (k - 1) else f k
theorem mvU_0 (f : Nat → Int32) (l : Nat) : mvU f l l = f := by
  funext k
  unfold mvU
  rw [if_neg (by omega)]
theorem mvU_s {f : Nat → Int32} {i l : Nat} (h : i < l) : upd (mvU f (i + 1) l) (i + 1) (f i) = mvU f i l := by
  funext k
  rw [upd_eq]
  unfold mvU
  by_cases e : k = i + 1
  · rw [if_pos e, e, if_pos (by omega), Nat.add_sub_cancel]
  · rw [if_neg e]
    by_cases e2 : i + 1 < k ∧ k ≤ l
    · rw [if_pos e2, if_pos (by omega)]
    · rw [if_neg e2, if_neg (by omega)]
/-- moved down by one from place q on, up to i -/
def mvD (f : Nat → Int32) (q i : Nat) : Nat → Int32 := fun k => if q ≤ k ∧ k < i then f (k + 1) else f k
theorem mvD_0 (f : Nat → Int32) (q : Nat) : mvD f q q = f := by
  funext k
  unfold mvD
  rw [if_neg (by omega)]
theorem mvD_s {f : Nat → Int32} {q i : Nat} (h : q ≤ i) : upd (mvD f q i) i (f (i + 1)) = mvD f q (i + 1) := by
  funext k
  rw [upd_eq]
  unfold mvD
  by_cases e : k = i
  · rw [if_pos e, e, if_pos (by omega)]
  · rw [if_neg e]
    by_cases e2 : q ≤ k ∧ k < i
    · rw [if_pos e2, if_pos (by omega)]
    · rw [if_neg e2, if_neg (by omega)]
theorem gA_ins {es : List Nat} {p c k : Nat} (hp : p ≤ es.length) : gA (es.insertIdx p c) k = if k < p then gA es k else if k = p then c else gA es (k - 1) := by
  unfold gA
  rw [List.getD_eq_getElem?_getD, List.getElem?_insertIdx]
  by_cases h1 : k < p
  · rw [if_pos h1, if_pos h1, List.getD_eq_getElem?_getD]
  · rw [if_neg h1, if_neg h1]
    by_cases h2 : k = p
    · rw [if_pos h2, if_pos h2, if_pos (by omega)]; rfl
    · rw [if_neg h2, if_neg h2, List.getD_eq_getElem?_getD]
theorem c_Bo_insertEdge {E : EV} {w : Mem} {b p l : Nat} {x : Int32} (hb : IsBo b) (hl : rI w b 3 = nI l) (h66 : l < 66) (hp : p ≤ l) : T E m_Bo_insertEdge 0 0 0 [.ref b, .int (nI p), .int x] w (Ret none (sI (sI (sA w (b + 3) (mvU (rI w (b + 3)) p l)) (b + 3) p x) b 3 (nI (l + 1)))) := by
  refine T_of (L := [.ref b, .int (nI p), .int x, un]) cf_Bo_insertEdge rfl (Nat.le_of_ble_eq_true rfl) (fun X hX hF => ?_)
  have lp : ∀ (fuel : Nat) (i : Nat), i < fuel → (p ≤ i) → (i ≤ l) → G0 E X 0 0 15 [.ref b, .int (nI p), .int x, .int (nI i)] [] (sA w (b + 3) (mvU (rI w (b + 3)) i l)) := by
    intro fuel
    induction fuel with
    | zero => intro i q0; exact absurd q0 (Nat.not_lt_zero _)
    | succ fuel ih =>
      intro i q0 q1 q2
      refine g_iload3 hX d_Bo_insertEdge_15 ?_
      refine g_iload1 hX d_Bo_insertEdge_16 ?_
      refine g_icmpN_le hX d_Bo_insertEdge_17 (by omega) (by omega) (fun c0 => ?_) (fun c0 => ?_)
      · obtain rfl : i = p := by omega
        refine g_aload0 hX d_Bo_insertEdge_40 ?_
        refine g_getF hX d_Bo_insertEdge_41 fl_Bo_18 (lvBo_0 hb _) ?_
        refine g_iload1 hX d_Bo_insertEdge_44 ?_
        refine g_iload2 hX d_Bo_insertEdge_45 ?_
        refine g_iast hX d_Bo_insertEdge_46 (lvBo_3 hb _) rfl (by omega) ?_
        refine g_aload0 hX d_Bo_insertEdge_47 ?_
        refine g_dup hX d_Bo_insertEdge_48 rfl ?_
        refine g_getI hX d_Bo_insertEdge_49 fl_Bo_46 (lvBo_0 hb _) ?_
        refine g_topi (show rI (sI (sA w (b + 3) (mvU (rI w (b + 3)) i l)) (b + 3) i x) b 3 = nI l by rw [rI_sI_ne _ _ _ (by omega), rI_sA_ne _ _ (by omega)]; exact hl) ?_
        refine g_iconst (v := nI 1) hX d_Bo_insertEdge_52 rfl ?_
        refine g_iaddN hX d_Bo_insertEdge_53 ?_
        refine g_putI hX d_Bo_insertEdge_54 fl_Bo_46 (lvBo_0 hb _) ?_
        refine g_vret hX hF d_Bo_insertEdge_57 (by omega) (by omega) ?_
        exact ⟨rfl, rfl⟩
      · obtain ⟨k, rfl⟩ : ∃ k, i = k + 1 := ⟨i - 1, by omega⟩
        refine g_aload0 hX d_Bo_insertEdge_20 ?_
        refine g_getF hX d_Bo_insertEdge_21 fl_Bo_18 (lvBo_0 hb _) ?_
        refine g_iload3 hX d_Bo_insertEdge_24 ?_
        refine g_aload0 hX d_Bo_insertEdge_25 ?_
        refine g_getF hX d_Bo_insertEdge_26 fl_Bo_18 (lvBo_0 hb _) ?_
        refine g_iload3 hX d_Bo_insertEdge_29 ?_
        refine g_iconst (v := nI 1) hX d_Bo_insertEdge_30 rfl ?_
        refine g_isubN hX d_Bo_insertEdge_31 (by omega) ?_
        refine g_iald hX d_Bo_insertEdge_32 (lvBo_3 hb _) rfl (by omega) ?_
        refine g_topi (show rI (sA w (b + 3) (mvU (rI w (b + 3)) (k + 1) l)) (b + 3) k = rI w (b + 3) k by rw [rI_sA]; unfold mvU; rw [if_neg (by omega)]) ?_
        refine g_iast hX d_Bo_insertEdge_33 (lvBo_3 hb _) rfl (by omega) ?_
        refine g_iinc3 hX d_Bo_insertEdge_34 (nI_dec k) rfl (by decide) ?_
        refine g_goto hX d_Bo_insertEdge_37 ?_
        refine g_mem (by rw [sI_sA, mvU_s (by omega)]) ?_
        exact ih k (by omega) (by omega) (by omega)
  refine g_aload0 hX d_Bo_insertEdge_0 ?_
  refine g_getI hX d_Bo_insertEdge_1 fl_Bo_46 (lvBo_0 hb _) ?_
  refine g_topi hl ?_
  refine g_bipush (v := nI 66) hX d_Bo_insertEdge_4 rfl ?_
  refine g_icmpN_lt hX d_Bo_insertEdge_6 (by omega) (by omega) (fun c0 => ?_) (fun h => absurd h (by omega))
  refine g_aload0 hX d_Bo_insertEdge_10 ?_
  refine g_getI hX d_Bo_insertEdge_11 fl_Bo_46 (lvBo_0 hb _) ?_
  refine g_topi hl ?_
  refine g_istore3 hX d_Bo_insertEdge_14 rfl (by decide) ?_
  refine g_mem (show w = sA w (b + 3) (mvU (rI w (b + 3)) l l) by rw [mvU_0, sA_self]) ?_
  exact lp (l + 1) l (by omega) hp (Nat.le_refl _)
