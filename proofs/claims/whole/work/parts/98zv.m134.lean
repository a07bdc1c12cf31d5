
/-! ===== the law's own body ===== -/
/-- instructions one behind another -/
def opsB (b : ByteArray) : Nat → List (Instr × Nat) → Bool
  | _, [] => true
  | pc, q :: t => decide (decode b pc = .ok q) && opsB b (pc + q.2) t
def opsP (b : ByteArray) : Nat → List (Instr × Nat) → Prop
  | _, [] => True
  | pc, q :: t => decode b pc = .ok q ∧ opsP b (pc + q.2) t
theorem opsP.of {b : ByteArray} : ∀ (l : List (Instr × Nat)) (pc : Nat), opsB b pc l = true → opsP b pc l
  | [], _, _ => trivial
  | q :: t, pc, h => by
    have h2 := (Bool.and_eq_true _ _).mp h
    exact ⟨of_decide_eq_true h2.1, opsP.of t _ h2.2⟩
def opsN (l : List (Instr × Nat)) : Nat := (l.map (fun q => q.2)).sum
theorem opsP.app {b : ByteArray} : ∀ (l t : List (Instr × Nat)) (pc : Nat), opsP b pc (l ++ t) → opsP b pc l ∧ opsP b (pc + opsN l) t
  | [], t, pc, h => ⟨trivial, h⟩
  | q :: l, t, pc, h => by
    obtain ⟨h1, h2⟩ := h
    obtain ⟨h3, h4⟩ := opsP.app l t _ h2
    refine ⟨⟨h1, h3⟩, ?_⟩
    have e : pc + opsN (q :: l) = pc + q.2 + opsN l := by
      unfold opsN
      rw [List.map_cons, List.sum_cons, Nat.add_assoc]
    rw [e]
    exact h4
/-- one argument: the script's cell i + j -/
def argO (j : Nat) : List (Instr × Nat) := [(.aload_n 0, 1), (.iload_n 3, 1), (.iconst (Int.ofNat j), 1), (.iadd, 1), (.iaload, 1)]
def argL : Nat → List (Instr × Nat)
  | 0 => []
  | n + 1 => argL n ++ argO (n + 1)
theorem argL_N : ∀ n : Nat, opsN (argL n) = 5 * n
  | 0 => rfl
  | n + 1 => by
    have h := argL_N n
    unfold opsN at h ⊢
    rw [argL, List.map_append, List.sum_append, h]
    show 5 * n + 5 = _
    omega
def caseO (n d m : Nat) (off : Int) : List (Instr × Nat) := (.aload_n 1, 1) :: (argL n ++ ((.invokevirtual d, 3) :: (.aload_n 2, 1) :: (argL n ++ [(.invokevirtual m, 3), (.if_icmp .eq off, 3)])))
def caseL (n d m : Nat) (off : Int) : List (Instr × Nat) := (.aload_n 1, 1) :: (argL n ++ ((.invokevirtual d, 3) :: (.aload_n 2, 1) :: (argL n ++ [(.invokevirtual m, 3), (.lcmp, 1), (.ifCond .eq off, 3)])))
/-- the law's frame: its script has Ls ints fs -/
def LwX (E : EV) (X : XT) (Ls : Nat) (fs : Nat → Int32) : Prop := CX E X code "SubgraphDeskLaw" 4 ∧ RX X 1300 600000 7302250 ∧ va_X (eR E 950) Ls fs (xs X) (xs X).heap ∧ eR E 950 < (xs X).heap.size ∧ ¬ eA E (eR E 950) ∧ Ls ≤ 3072
def asL (fs : Nat → Int32) (i : Nat) : Nat → List Value
  | 0 => []
  | n + 1 => asL fs i n ++ [.int (fs (i + (n + 1)))]
theorem asL_len (fs : Nat → Int32) (i : Nat) : ∀ n : Nat, (asL fs i n).length = n
  | 0 => rfl
  | n + 1 => by rw [asL, List.length_append, asL_len fs i n, List.length_singleton]
section LwR
variable {E : EV} {X : XT} {ca sa pc pc2 Ls i : Nat} {fs : Nat → Int32} {L st : List Value} {w : Mem}
theorem g_widen {ca2 sa2 : Nat} (h1 : ca ≤ ca2) (h2 : sa ≤ sa2) (k : G0 E X ca2 sa2 pc L st w) : G0 E X ca sa pc L st w := fun H locs ls hP hD hS hl => W.widen h1 h2 (k H locs ls hP hD hS hl)
theorem g_sld {k : Nat} (h : LwX E X Ls fs) (hd : Dc code pc .iaload 1 pc2) (hk : k < Ls) (kk : G0 E X ca sa pc2 L (.int (fs k) :: st) w) : G0 E X ca sa pc L (.int (nI k) :: .ref 950 :: st) w := by
  obtain ⟨hX, -, h1, h2, h3, h4⟩ := h
  obtain ⟨hd, rfl⟩ := hd
  intro H locs ls hP hD hS hl
  refine va_sld (rest := st.map (tr (eR E))) hX.1 hX.2.1 h1 h2 h3 hS (vp_in_nI hk (by omega)) hd ?_
  rw [nI_clamp (by omega)]
  exact kk H locs ls hP hD hS hl
theorem g_slen (h : LwX E X Ls fs) (hd : Dc code pc .arraylength 1 pc2) (kk : G0 E X ca sa pc2 L (.int (nI Ls) :: st) w) : G0 E X ca sa pc L (.ref 950 :: st) w := by
  obtain ⟨hX, -, h1, h2, h3, h4⟩ := h
  obtain ⟨hd, rfl⟩ := hd
  intro H locs ls hP hD hS hl
  exact va_slen (rest := st.map (tr (eR E))) hX.1 hX.2.1 h1 h2 h3 hS hd (kk H locs ls hP hD hS hl)
theorem lw_arg {j : Nat} (h : LwX E X Ls fs) (hj : j ≤ 5) (ho : opsP code pc (argO j)) (hij : i + j < Ls) (k : G0 E X ca sa (pc + 5) [.ref 950, .ref 0, .ref 89, .int (nI i)] (.int (fs (i + j)) :: st) w) : G0 E X ca sa pc [.ref 950, .ref 0, .ref 89, .int (nI i)] st w := by
  obtain ⟨h1, h2, h3, h4, h5, -⟩ := ho
  have hX := h.1
  refine g_aload0 hX ⟨h1, rfl⟩ ?_
  refine g_iload3 hX ⟨h2, rfl⟩ ?_
  refine g_iconst (v := nI j) hX ⟨h3, rfl⟩ ?_ ?_
  · rcases (show j = 0 ∨ j = 1 ∨ j = 2 ∨ j = 3 ∨ j = 4 ∨ j = 5 by omega) with rfl | rfl | rfl | rfl | rfl | rfl <;> rfl
  refine g_iaddN hX ⟨h4, rfl⟩ ?_
  exact g_sld h ⟨h5, rfl⟩ hij k
theorem lw_args (h : LwX E X Ls fs) : ∀ (n : Nat), n ≤ 5 → opsP code pc (argL n) → i + n < Ls → (k : G0 E X ca sa (pc + 5 * n) [.ref 950, .ref 0, .ref 89, .int (nI i)] ((asL fs i n).reverse ++ st) w) → G0 E X ca sa pc [.ref 950, .ref 0, .ref 89, .int (nI i)] st w
  | 0, _, _, _, k => k
  | n + 1, hn, ho, hi, k => by
    obtain ⟨h1, h2⟩ := opsP.app _ _ _ ho
    rw [argL_N] at h2
    refine lw_args h n (by omega) h1 (by omega) ?_
    refine lw_arg h hn h2 hi ?_
    rw [show pc + 5 * (n + 1) = pc + 5 * n + 5 by omega, asL, List.reverse_append] at k
    exact k
/-- a call of both sides -/
theorem lw_case {n d m dD mcD msD dM : Nat} {off : Int} {mD mM : MR} {ans : Int32} {s s2 : SG} (h : LwX E X Ls fs) (hn : n ≤ 5) (ho : opsB code pc (caseO n d m off) = true) (ht : ((pc + (10 * n + 8) : Nat) : Int) + off = (1334 : Nat)) (hi : i + n < Ls) (lD : Cond.methodLink "SubgraphDeskLaw" d mD.1 ∈ lw_gd) (lM : Cond.methodLink "SubgraphDeskLaw" m mM.1 ∈ lw_gd) (cD : CF mD n) (cM : CF mM n) (vD : CV mD) (vM : CV mM) (nD : mD.1.cls = "SubgraphDesk") (nM : mM.1.cls = "SubgraphDeskModel")
    (hI : DInv w s ∧ MInv w s ∧ MConst w) (hTD : T E mD dD mcD msD (.ref 0 :: asL fs i n) w (fun r w2 => r = some (.int ans) ∧ DInv w2 s2 ∧ DkD w w2)) (hTM : ∀ w2, MInv w2 s → MConst w2 → T E mM dM 0 0 (.ref 89 :: asL fs i n) w2 (fun r w3 => r = some (.int ans) ∧ MInv w3 s2 ∧ FrM w2 w3)) (hdD : dD ≤ 1000) (hdM : dM ≤ 1000) (hmc : mcD ≤ 3) (hms : msD ≤ 356) (hca : ca ≤ 590000) (hsa : sa ≤ 7300000)
    (k : ∀ w2, (DInv w2 s2 ∧ MInv w2 s2 ∧ MConst w2) → G0 E X (ca + 3) (sa + 356) 1334 [.ref 950, .ref 0, .ref 89, .int (nI i)] [] w2) : G0 E X ca sa pc [.ref 950, .ref 0, .ref 89, .int (nI i)] [] w := by
  obtain ⟨h1, h2⟩ := opsP.of _ _ ho
  obtain ⟨h3, h4⟩ := opsP.app _ _ _ h2
  rw [argL_N] at h4
  obtain ⟨h5, h6, h7⟩ := h4
  obtain ⟨h8, h9⟩ := opsP.app _ _ _ h7
  rw [argL_N] at h9
  obtain ⟨h10, h11, -⟩ := h9
  have hX := h.1
  refine g_aload1 hX ⟨h1, rfl⟩ ?_
  refine lw_args h n hn h3 hi ?_
  refine g_callV (As := asL fs i n) (C := "SubgraphDesk") hX h.2.1 ⟨h5, rfl⟩ lD cD vD nD (asL_len fs i n) hTD (rcv_obj hX (lv_0 _) rfl rfl) (by omega) (by omega) (by omega) (Nat.le_of_ble_eq_true rfl) ?_
  rintro _ w2 ⟨rfl, hD2, hk2⟩
  have hM2 : MInv w2 s := hI.2.1.d hk2
  have hC2 : MConst w2 := hI.2.2.d hk2
  show G0 _ _ _ _ _ _ [.int ans] _
  refine g_aload2 hX ⟨h6, rfl⟩ ?_
  refine lw_args h n hn h8 hi ?_
  refine g_callV (As := asL fs i n) (C := "SubgraphDeskModel") hX h.2.1 ⟨h10, rfl⟩ lM cM vM nM (asL_len fs i n) (hTM w2 hM2 hC2) (rcv_obj hX (lv_89 _) rfl rfl) (by omega) (by omega) (by omega) (Nat.le_of_ble_eq_true rfl) ?_
  rintro _ w3 ⟨rfl, hM3, hk3⟩
  show G0 _ _ _ _ _ _ [.int ans, .int ans] _
  refine g_icmp_eq (tgt := 1334) hX ⟨h11, rfl, ?_⟩ (fun _ => ?_) (fun z => absurd rfl z)
  · have e : pc + 1 + 5 * n + 3 + 1 + 5 * n + 3 = pc + (10 * n + 8) := by omega
    show ((pc + 1 + 5 * n + 3 + 1 + 5 * n + 3 : Nat) : Int) + off = ((1334 : Nat) : Int)
    rw [e]
    exact ht
  refine g_widen (ca2 := ca + 3) (sa2 := sa + 356) (by omega) (by omega) (k w3 ⟨hD2.m hk3, hM3, hC2.m hk3⟩)
/-- the same, the answers are longs -/
theorem lw_caseL {n d m dD mcD msD dM : Nat} {off : Int} {mD mM : MR} {ans : Int64} {s s2 : SG} (h : LwX E X Ls fs) (hn : n ≤ 5) (ho : opsB code pc (caseL n d m off) = true) (ht : ((pc + (10 * n + 9) : Nat) : Int) + off = (1334 : Nat)) (hi : i + n < Ls) (lD : Cond.methodLink "SubgraphDeskLaw" d mD.1 ∈ lw_gd) (lM : Cond.methodLink "SubgraphDeskLaw" m mM.1 ∈ lw_gd) (cD : CF mD n) (cM : CF mM n) (vD : CV mD) (vM : CV mM) (nD : mD.1.cls = "SubgraphDesk") (nM : mM.1.cls = "SubgraphDeskModel")
    (hI : DInv w s ∧ MInv w s ∧ MConst w) (hTD : T E mD dD mcD msD (.ref 0 :: asL fs i n) w (fun r w2 => r = some (.long ans) ∧ DInv w2 s2 ∧ DkD w w2)) (hTM : ∀ w2, MInv w2 s → MConst w2 → T E mM dM 0 0 (.ref 89 :: asL fs i n) w2 (fun r w3 => r = some (.long ans) ∧ MInv w3 s2 ∧ FrM w2 w3)) (hdD : dD ≤ 1000) (hdM : dM ≤ 1000) (hmc : mcD ≤ 3) (hms : msD ≤ 356) (hca : ca ≤ 590000) (hsa : sa ≤ 7300000)
    (k : ∀ w2, (DInv w2 s2 ∧ MInv w2 s2 ∧ MConst w2) → G0 E X (ca + 3) (sa + 356) 1334 [.ref 950, .ref 0, .ref 89, .int (nI i)] [] w2) : G0 E X ca sa pc [.ref 950, .ref 0, .ref 89, .int (nI i)] [] w := by
  obtain ⟨h1, h2⟩ := opsP.of _ _ ho
  obtain ⟨h3, h4⟩ := opsP.app _ _ _ h2
  rw [argL_N] at h4
  obtain ⟨h5, h6, h7⟩ := h4
  obtain ⟨h8, h9⟩ := opsP.app _ _ _ h7
  rw [argL_N] at h9
  obtain ⟨h10, h11, h12, -⟩ := h9
  have hX := h.1
  refine g_aload1 hX ⟨h1, rfl⟩ ?_
  refine lw_args h n hn h3 hi ?_
  refine g_callV (As := asL fs i n) (C := "SubgraphDesk") hX h.2.1 ⟨h5, rfl⟩ lD cD vD nD (asL_len fs i n) hTD (rcv_obj hX (lv_0 _) rfl rfl) (by omega) (by omega) (by omega) (Nat.le_of_ble_eq_true rfl) ?_
  rintro _ w2 ⟨rfl, hD2, hk2⟩
  have hM2 : MInv w2 s := hI.2.1.d hk2
  have hC2 : MConst w2 := hI.2.2.d hk2
  show G0 _ _ _ _ _ _ [.long ans] _
  refine g_aload2 hX ⟨h6, rfl⟩ ?_
  refine lw_args h n hn h8 hi ?_
  refine g_callV (As := asL fs i n) (C := "SubgraphDeskModel") hX h.2.1 ⟨h10, rfl⟩ lM cM vM nM (asL_len fs i n) (hTM w2 hM2 hC2) (rcv_obj hX (lv_89 _) rfl rfl) (by omega) (by omega) (by omega) (Nat.le_of_ble_eq_true rfl) ?_
  rintro _ w3 ⟨rfl, hM3, hk3⟩
  show G0 _ _ _ _ _ _ [.long ans, .long ans] _
  refine g_lcmp_eq (tgt := 1334) hX ⟨h11, rfl⟩ ⟨h12, rfl, ?_⟩ (fun _ => ?_) (fun z => absurd rfl z)
  · have e : pc + 1 + 5 * n + 3 + 1 + 5 * n + 3 + 1 = pc + (10 * n + 9) := by omega
    show ((pc + 1 + 5 * n + 3 + 1 + 5 * n + 3 + 1 : Nat) : Int) + off = ((1334 : Nat) : Int)
    rw [e]
    exact ht
  refine g_widen (ca2 := ca + 3) (sa2 := sa + 356) (by omega) (by omega) (k w3 ⟨hD2.m hk3, hM3, hC2.m hk3⟩)
end LwR
