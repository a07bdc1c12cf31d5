theorem ml_JSubgraphDeskLaw_9 : Cond.methodLink "SubgraphDeskLaw" 9 m_D_init.1 ∈ lw_gd := gd 162 (by decide +kernel) rfl
theorem ml_JSubgraphDeskLaw_12 : Cond.methodLink "SubgraphDeskLaw" 12 m_M_init.1 ∈ lw_gd := gd 1451 (by decide +kernel) rfl
/-! ===== the frame of the claim: the kit's skeleton ===== -/
def R_law : String := "SubgraphDeskLaw"
def lw_P (b : Addr) (xs : List Int32) (args : Array Value) (s : State) : Prop := args = #[.ref b] ∧ s.IntsAt b xs ∧ xs.length ≤ 3072 ∧ (Jvm.Cond.and given_1 narrow_1).before args s = true
def lw_Q (_ : Array Value) (s : State) (o : Outcome) (t : State) : Prop := o = .returned (some (.int 1)) ∧ Framed s o t [] 600000 7302250
def lw_Z (below : List Frame) (a : Array Value) (s : State) : State → Prop := fun t => ∃ o, t.status = .running ∧ Ended t below o ∧ lw_Q a s o t
/-- the law's own end, with 1 on the stack, nothing written that was there before, its room as the claim has it -/
theorem lw_ret {p : Program} {l : Launch} {e : Env} {s : State} {m : MethodId} {below : List Frame} {meth : Method} {c : Code} {b : Nat} (hx : p.tables.exec = Jvm.exec) (hb : c.code = code) (hr : meth.sig.returnType = ret) (hlocks : meth.locks = false) {pc : Nat} {H : Heap} {ls : Array Slot} (hdg : decode code pc = .ok (.ireturn, 1)) : W p l e room_1 s m #[Value.ref b] below meth c H [] 600000 7302250 (lw_Z below #[Value.ref b] s) (F0 m pc ls [.int 1]) := by
  intro T hT X
  obtain ⟨fs, hret, hrun, hended, hW, hframe⟩ := X.leave (v := some (.int 1)) (hlocks := hlocks) (fun h => by rw [hr] at h; cases h)
  have hmeth' : T.vm.method? m = some meth := X.method'
  refine ⟨T.setFrames fs, ?_, .returned (some (.int 1)), hrun, hended, rfl, ⟨_, rfl⟩, hW, hframe⟩
  jvm_step X.here [X.here.top, hx, hb, hdg, hmeth', hr, ret, narrow_b1]
  (try refine ⟨rfl, ?_⟩); (try refine ⟨rfl, ?_⟩)
  first | (intro acts; rw [hret _ acts rfl rfl rfl]) | rw [hret _ _ rfl rfl rfl]
  exact Steps.refl _
/-- what holds at the law's entry: the machine, the code, the tables' words (any of lw_tbl by 'hts w (by decide +kernel)'), the script of L ints xs at the cell b, what the Statement gives of the start (any of its parts by flat_of_before) -/
def lw_At (p : Program) (s : State) (m : MethodId) (meth : Method) (c : Code) (b L : Nat) (xs : Nat → Int32) : Prop :=
  p.tables.exec = Jvm.exec ∧ c.code = code ∧ meth.sig.returnType = ret ∧ c.maxLocals = 4 ∧ s.vm.findClass R_law = some m.cls ∧ (∀ w ∈ lw_tbl, w.before #[Value.ref b] s = true) ∧ va_X b L xs s s.heap ∧ b < s.heap.size ∧ meth.locks = false ∧ (Jvm.Cond.and given_1 narrow_1).before #[Value.ref b] s = true
theorem d_lw_0 : Dc code 0 (.new 7) 3 3 := ⟨by decide +kernel, rfl⟩
theorem d_lw_3 : Dc code 3 (.dup) 1 4 := ⟨by decide +kernel, rfl⟩
theorem d_lw_4 : Dc code 4 (.invokespecial 9) 3 7 := ⟨by decide +kernel, rfl⟩
theorem d_lw_7 : Dc code 7 (.astore_n 1) 1 8 := ⟨by decide +kernel, rfl⟩
theorem d_lw_8 : Dc code 8 (.new 10) 3 11 := ⟨by decide +kernel, rfl⟩
theorem d_lw_11 : Dc code 11 (.dup) 1 12 := ⟨by decide +kernel, rfl⟩
theorem d_lw_12 : Dc code 12 (.invokespecial 12) 3 15 := ⟨by decide +kernel, rfl⟩
theorem d_lw_15 : Dc code 15 (.astore_n 2) 1 16 := ⟨by decide +kernel, rfl⟩
theorem zl_L7 : Cond.classLink "SubgraphDeskLaw" 7 R_D ∈ lw_gd := gd 160 (by decide +kernel) rfl
theorem zl_L10 : Cond.classLink "SubgraphDeskLaw" 10 R_M ∈ lw_gd := gd 1449 (by decide +kernel) rfl
/-- the addresses by names: cells from B on, strings, the script at b -/
def oth (b : Nat) (adK : Nat → Nat) (k : Nat) : Nat := if k = 950 then b else if k < 1000 then adK (k - 900) else (k - 1000) / 2
theorem oth_rho (b : Nat) (adK : Nat → Nat) (l : Launch) (D : va_G) (B : Nat) (cc : Nat → ClassId) (A : Nat → Prop) (V : Nat → Nat) (q : Nat) : eR (mkE l D B (oth b adK) cc A V) (1000 + 2 * q) = q ∧ eR (mkE l D B (oth b adK) cc A V) (1001 + 2 * q) = q := by
  constructor
  · show (if 1000 + 2 * q < 200 then B + (1000 + 2 * q) else oth b adK (1000 + 2 * q)) = q
    unfold oth
    rw [if_neg (by omega), if_neg (by omega), if_neg (by omega)]
    omega
  · show (if 1001 + 2 * q < 200 then B + (1001 + 2 * q) else oth b adK (1001 + 2 * q)) = q
    unfold oth
    rw [if_neg (by omega), if_neg (by omega), if_neg (by omega)]
    omega
theorem whole_start {p : Program} {e : Env} {s : State} {m : MethodId} {below : List Frame} {meth : Method} {c : Code} (l : Launch) (hflags : l.flags = flags0) {b L : Nat} {xs : Nat → Int32} (hL : L ≤ 3072) (C0 : lw_At p s m meth c b L xs) : W p l e room_1 s m #[Value.ref b] below meth c s.heap [] 0 0 (lw_Z below #[Value.ref b] s) (entryFrame m ([Value.ref b] : List Value).toArray 4) := by
  obtain ⟨hx, hb, hr, hml, hown, hts, hX, hbl, hlocks, hgv⟩ := id C0
  have htg : ∀ w ∈ lw_gd, w.before #[Value.ref b] s = true := fun w hw => hts w (gd_tbl hw)
  obtain ⟨D, hD⟩ := cls_ex htg
  obtain ⟨cc, hcc⟩ := tys_ex (s := s) hts
  obtain ⟨adK, adV, hS⟩ := str_ex (A := fun q => s.heap.size ≤ q) hgv hts (fun a ha => Nat.not_le.mpr ha)
  have hE : ∃ E : EV, E = mkE l D s.heap.size (oth b adK) cc (fun q => s.heap.size ≤ q) adV := ⟨_, rfl⟩
  obtain ⟨E, hE⟩ := hE
  have r0 : ∀ k, k < 200 → eR E k = s.heap.size + k := fun k hk => by rw [hE]; exact if_pos hk
  have rb : eR E 950 = b := by
    rw [hE]
    show (if 950 < 200 then s.heap.size + 950 else oth b adK 950) = b
    rw [if_neg (by decide)]
    exact if_pos rfl
  have eD1 : eD E = D := by rw [hE]; rfl
  have eL1 : eL E = l := by rw [hE]; rfl
  have eA1 : eA E = fun q => s.heap.size ≤ q := by rw [hE]; rfl
  have eC1 : eC E = cc := by rw [hE]; rfl
  have r00 : eR E 0 = s.heap.size := by rw [r0 0 (by decide)]; rfl
  have hrs : ∀ i, i < 24 → eR E (900 + i) = adK i := fun i hi => by
    rw [hE]
    show (if 900 + i < 200 then s.heap.size + (900 + i) else oth b adK (900 + i)) = adK i
    rw [if_neg (by omega)]
    unfold oth
    rw [if_neg (by omega), if_pos (by omega), show 900 + i - 900 = i by omega]
  have hSt : StrOK E s := hS E eA1 hrs (by rw [hE]; rfl)
  have hK : va_K (eD E) classes (tys E) s := ⟨by rw [eD1]; exact hD, hcc E eC1⟩
  obtain ⟨X, hXe⟩ : ∃ X : XT, X = (p, e, room_1, s, m, #[Value.ref b], below, meth, c, lw_Z below #[Value.ref b] s) := ⟨_, rfl⟩
  have hCX : CX E X code "SubgraphDeskLaw" 4 := by
    subst hXe
    exact ⟨hx, hb, hown, htg, hK, fun q h => by rw [eA1]; exact h, hSt, hml, fun q => by rw [hE]; exact oth_rho b adK l D _ cc _ adV q⟩
  have hRX : RX X 1300 600000 7302250 := by
    subst hXe
    exact ⟨Nat.le_of_ble_eq_true rfl, Nat.le_of_ble_eq_true rfl, Nat.le_of_ble_eq_true rfl, Nat.le_of_ble_eq_true rfl⟩
  have hLw : LwX E X L xs := by
    refine ⟨hCX, hRX, ?_, ?_, ?_, hL⟩
    · rw [rb]; subst hXe; exact hX
    · rw [rb]; subst hXe; exact hbl
    · rw [rb, eA1]; exact Nat.not_le.mpr hbl
  have hCK : CK E (eR E) X code "SubgraphDeskLaw" 4 := by
    subst hXe
    exact ⟨hx, hb, hown, htg, hK, ⟨va_AO.of (hts _ lk_aoP), va_AO.of (hts _ lk_aoB), nw_ex hts⟩, Nat.le_of_eq r00, fun k hk => by rw [r0 k hk, r00], hml⟩
  have hend : ∀ (ca sa : Nat) (LL : List Value) (w : Mem), ca ≤ 600000 → sa ≤ 7302250 → G0 E X ca sa 1341 LL [.int (nI 1)] w := by
    intro ca sa LL w hca hsa H locs ls hP hD2 hS2 hl
    subst hXe
    show W p (eL E) e room_1 s m #[Value.ref b] below meth c H locs ca sa (lw_Z below #[Value.ref b] s) (F0 m 1341 ls [.int 1])
    refine va_forget (fun q hq => ?_) ?_
    · have := hS2.2.2 q hq
      rw [eA1] at this
      exact this
    refine W.widen hca hsa ?_
    exact lw_ret hx hb hr hlocks d_lw_1341.1
  have kG : G0 E X (0 + 1 + 88 + 1 + 38) (0 + 15 + 2701 + 69 + 23232) 16 [.ref 950, .ref 0, .ref 89, un] [] w0 := by
    refine g_iconst (v := nI 0) hCX d_lw_16 rfl ?_
    refine g_istore3 hCX d_lw_17 rfl (by decide) ?_
    refine g_widen (ca2 := 200 + 0) (sa2 := 30000 + 60 * 0) (by omega) (by omega) ?_
    exact lw_loop hLw hend (L + 7) 0 s00 w0 (by omega) (by omega) ⟨dinv0, minv0, mcon0⟩
  have hcc1 := hRX.2.2.1
  have hss1 := hRX.2.2.2
  have main : GK E (eR E) X 0 0 0 [.ref 950, un, un, un] [] [] := by
    refine z_new (ci := 0) (n := 0) (fs := dfl_D) hCK d_lw_0 in_D tyok_D zl_L7 zk_D zi_D rfl zd_D rfl (by decide) (by omega) (by omega) ?_
    refine z_dup hCK d_lw_3 rfl ?_
    refine z_call (As := []) hCK hRX d_lw_4 ml_JSubgraphDeskLaw_9 cf_D_init ci_D_init rfl rfl rfl (n0 := 0) rfl (by decide) (fun _ => rfl) (c_Dk (b0 := eR E 0 + 0)) (by omega) (by omega) (by omega) (Nat.le_of_ble_eq_true rfl) ?_
    refine z_eq (cs2 := blk_D E (eR E 0)) rfl ?_
    refine z_astore1 hCK d_lw_7 rfl (by decide) ?_
    refine z_new (ci := 12) (n := 89) (fs := dfl_M) hCK d_lw_8 in_M tyok_M zl_L10 zk_M zi_M rfl zd_M len_D (by decide) (by omega) (by omega) ?_
    refine z_dup hCK d_lw_11 rfl ?_
    refine z_call (As := []) hCK hRX d_lw_12 ml_JSubgraphDeskLaw_12 cf_M_init ci_M_init rfl rfl rfl (n0 := 89) len_D (by decide) (fun _ => rfl) (c_Mk (b0 := eR E 0 + 89)) (by omega) (by omega) (by omega) (Nat.le_of_ble_eq_true rfl) ?_
    refine z_astore2 hCK d_lw_15 rfl (by decide) ?_
    intro H locs ls hz hP hS2 hl
    have hws : wk (eR E 0) (blk_D E (eR E 0) ++ blk_M E (eR E 0 + 89)) = wsOf E w0 := by
      rw [r00, hE]
      exact b0_ws
    have hdd := wk_D (eR E 0) (blk_D E (eR E 0) ++ blk_M E (eR E 0 + 89))
    rw [hws] at hP hdd
    rw [r00] at hdd hS2
    rw [← eA1] at hdd hS2
    exact kG H locs ls hP hdd hS2 hl
  have hl := lv_entry ([.ref b]) (n := 4) (Nat.le_of_ble_eq_true rfl)
  rw [lg_entry_eq]
  generalize (lg_sl ([.ref b]) ++ List.replicate (4 - (lg_sl ([.ref b])).length) Slot.unset).toArray = ls at hl ⊢
  have hl : lv_has ls 4 [(0, .ref b)] := hl
  have hl2 : lv_has ls c.maxLocals (lvl (eR E) 0 [.ref 950, un, un, un]) := by
    show lv_has ls c.maxLocals [(0, Value.ref (eR E 950))]
    rw [rb, hml]
    exact hl
  have hS0 : va_S (fun q => eR E 0 ≤ q) s.heap s.heap [] := va_S.rf
  have fin : WX E X s.heap [] 0 0 (F0 (xm X) 0 ls []) := main s.heap [] ls (by rw [r00]; rfl) (fun k q h => by simp [wk] at h) (by subst hXe; exact hS0) (by subst hXe; exact hl2)
  subst hXe
  rw [← eL1]
  exact fin
