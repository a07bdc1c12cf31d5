/-! ===== bits of natural numbers, under Int32 ===== -/
theorem nx_bv (n : Nat) : (nI n).toBitVec = BitVec.ofNat 32 n := rfl
theorem i32_ext {x y : Int32} (h : x.toBitVec = y.toBitVec) : x = y := Int32.toBitVec_inj.mp h
theorem nx_cnt : ∀ k, k < 32 → ((nI k &&& 31).toBitVec.smod 32).toNat = k := by decide +kernel
theorem nx_shr {x k : Nat} (hx : x < 2 ^ 31) (hk : k < 32) : nI x >>> (nI k &&& 31) = nI (x >>> k) := by
  rw [pk_shrN hx _ k (nx_cnt k hk), Nat.shiftRight_eq_div_pow]
theorem nx_shl {x k : Nat} (hk : k < 32) : nI x <<< (nI k &&& 31) = nI (x <<< k) := by
  apply i32_ext
  apply BitVec.eq_of_toNat_eq
  rw [pk_shl _ _ k (nx_cnt k hk)]
  show (BitVec.ofNat 32 x).toNat * 2 ^ k % 2 ^ 32 = (BitVec.ofNat 32 (x <<< k)).toNat
  rw [BitVec.toNat_ofNat, BitVec.toNat_ofNat, Nat.shiftLeft_eq]
  exact Nat.mod_mul_mod _ _ _
/-- x without the bits of m -/
def sd (x m : Nat) : Nat := x ^^^ (x &&& m)
theorem sd_tb (x m i : Nat) : (sd x m).testBit i = (x.testBit i && !m.testBit i) := by
  unfold sd
  rw [Nat.testBit_xor, Nat.testBit_and]
  cases x.testBit i <;> cases m.testBit i <;> rfl
theorem nx_sd (x m : Nat) : nI x &&& (nI m ^^^ (-1)) = nI (sd x m) := by
  apply i32_ext
  show (BitVec.ofNat 32 x) &&& ((BitVec.ofNat 32 m) ^^^ (-1 : Int32).toBitVec) = BitVec.ofNat 32 (sd x m)
  apply BitVec.eq_of_getLsbD_eq
  intro i hi
  rw [BitVec.getLsbD_and, BitVec.getLsbD_xor, BitVec.getLsbD_ofNat, BitVec.getLsbD_ofNat, BitVec.getLsbD_ofNat, sd_tb]
  have e : (-1 : Int32).toBitVec.getLsbD i = true := by
    have : (-1 : Int32).toBitVec = BitVec.allOnes 32 := by decide
    rw [this, BitVec.getLsbD_allOnes]
    simpa using hi
  rw [e]
  cases x.testBit i <;> cases m.testBit i <;> simp [hi]
theorem sd_le (x m : Nat) : sd x m ≤ x := by
  have h : sd x m = sd x m &&& x := by
    apply Nat.eq_of_testBit_eq
    intro i
    rw [Nat.testBit_and, sd_tb]
    cases x.testBit i <;> simp
  rw [h]
  exact Nat.and_le_right
theorem tb1 (x k : Nat) : (x >>> k &&& 1 = 1) ↔ x.testBit k = true := by
  rw [Nat.and_one_is_mod, Nat.testBit, Nat.and_comm, Nat.and_one_is_mod]
  simp
theorem tb0 (x k : Nat) : (x >>> k &&& 1 = 0) ↔ x.testBit k = false := by
  have := tb1 x k
  have h2 : x >>> k &&& 1 < 2 := by rw [Nat.and_one_is_mod]; omega
  cases hb : x.testBit k
  · rw [hb] at this; simp at this ⊢; omega
  · rw [hb] at this; simp at this ⊢; omega
theorem tb_lt {x k n : Nat} (h : x < 2 ^ n) (hb : x.testBit k = true) : k < n := by
  rcases Nat.lt_or_ge k n with h1 | h1
  · exact h1
  · have := Nat.testBit_lt_two_pow (Nat.lt_of_lt_of_le h (Nat.pow_le_pow_right (by decide) h1))
    rw [this] at hb
    cases hb
theorem or_lt {a b n : Nat} (ha : a < 2 ^ n) (hb : b < 2 ^ n) : a ||| b < 2 ^ n := Nat.or_lt_two_pow ha hb
theorem shl_lt {k n : Nat} (h : k < n) : 1 <<< k < 2 ^ n := by
  rw [Nat.shiftLeft_eq, Nat.one_mul]
  exact Nat.pow_lt_pow_right (by decide) h
/-- how many of the first k bits -/
def popk (x : Nat) : Nat → Nat
  | 0 => 0
  | k + 1 => popk x k + (x >>> k &&& 1)
def pop (x : Nat) : Nat := popk x 12
theorem popk_le (x k : Nat) : popk x k ≤ k := by
  induction k with
  | zero => exact Nat.le_refl _
  | succ k ih =>
    have h2 : x >>> k &&& 1 < 2 := by rw [Nat.and_one_is_mod]; omega
    unfold popk
    omega
theorem pop_le (x : Nat) : pop x ≤ 12 := popk_le x 12
section G5
variable {E : EV} {X : XT} {b : ByteArray} {own : String} {nL : Nat} {ca sa pc pc2 pc3 tgt : Nat} {L st : List Value} {w : Mem}
theorem g_ishrN {x y : Nat} (hX : CX E X b own nL) (hd : Dc b pc .ishr 1 pc2) (hx : x < 2 ^ 31) (hy : y < 32) (k : G0 E X ca sa pc2 L (.int (nI (x >>> y)) :: st) w) : G0 E X ca sa pc L (.int (nI y) :: .int (nI x) :: st) w := by
  refine g_ishr hX hd ?_
  rw [nx_shr hx hy]
  exact k
theorem g_ishlN {x y : Nat} (hX : CX E X b own nL) (hd : Dc b pc .ishl 1 pc2) (hy : y < 32) (k : G0 E X ca sa pc2 L (.int (nI (x <<< y)) :: st) w) : G0 E X ca sa pc L (.int (nI y) :: .int (nI x) :: st) w := by
  refine g_ishl hX hd ?_
  rw [nx_shl hy]
  exact k
theorem g_iandX {x y : Nat} (hX : CX E X b own nL) (hd : Dc b pc .iand 1 pc2) (k : G0 E X ca sa pc2 L (.int (nI (sd x y)) :: st) w) : G0 E X ca sa pc L (.int (nI y ^^^ (-1)) :: .int (nI x) :: st) w := by
  refine g_iand hX hd ?_
  rw [nx_sd]
  exact k
theorem g_iandC {x y : Nat} (hX : CX E X b own nL) (hd : Dc b pc .iand 1 pc2) (k : x &&& y ≤ y → G0 E X ca sa pc2 L (.int (nI (x &&& y)) :: st) w) : G0 E X ca sa pc L (.int (nI y) :: .int (nI x) :: st) w := by
  refine g_iand hX hd ?_
  rw [nx_and]
  exact k Nat.and_le_right
theorem g_isubN {x y : Nat} (hX : CX E X b own nL) (hd : Dc b pc .isub 1 pc2) (h : y ≤ x) (k : G0 E X ca sa pc2 L (.int (nI (x - y)) :: st) w) : G0 E X ca sa pc L (.int (nI y) :: .int (nI x) :: st) w := by
  refine g_isub hX hd ?_
  rw [pk_sub h]
  exact k
theorem g_idivN {x y : Nat} (hX : CX E X b own nL) (hd : Dc b pc .idiv 1 pc2) (hx : x < 2 ^ 31) (h0 : 0 < y) (hy : y < 2 ^ 31) (k : G0 E X ca sa pc2 L (.int (nI (x / y)) :: st) w) : G0 E X ca sa pc L (.int (nI y) :: .int (nI x) :: st) w := by
  refine g_idiv hX hd (nI_ne0 h0 hy) ?_
  rw [pk_div hx h0 hy]
  exact k
theorem g_iremN {x y : Nat} (hX : CX E X b own nL) (hd : Dc b pc .irem 1 pc2) (hx : x < 2 ^ 31) (h0 : 0 < y) (hy : y < 2 ^ 31) (k : G0 E X ca sa pc2 L (.int (nI (x % y)) :: st) w) : G0 E X ca sa pc L (.int (nI y) :: .int (nI x) :: st) w := by
  refine g_irem hX hd (nI_ne0 h0 hy) ?_
  rw [pk_rem hx h0 hy]
  exact k
end G5
theorem sw_outR {x : Int32} {lo hi : Nat} (hh : hi < 2 ^ 31) (h : ∀ k : Nat, lo ≤ k → k ≤ hi → ¬ x = nI k) : x.toInt < (lo : Int) ∨ (hi : Int) < x.toInt := by
  by_cases h1 : x.toInt < (lo : Int)
  · exact Or.inl h1
  · by_cases h2 : (hi : Int) < x.toInt
    · exact Or.inr h2
    · refine absurd ?_ (h x.toInt.toNat (by omega) (by omega))
      apply Int32.toInt_inj.mp
      rw [nI_toInt (by omega)]
      omega
theorem ret_f {p : Prop} [Decidable p] {w : Mem} (h : ¬ p) : Ret (some (.int (b2i p))) w (some (.int (nI 0))) w := ⟨by rw [b2i_f h]; rfl, rfl⟩
theorem ret_t {p : Prop} [Decidable p] {w : Mem} (h : p) : Ret (some (.int (b2i p))) w (some (.int (nI 1))) w := ⟨by rw [b2i_t h]; rfl, rfl⟩
theorem in_nI {n : Int32} {N : Nat} (hN : N < 2 ^ 31) : (0 ≤ n ∧ n < nI N) ↔ ∃ j, j < N ∧ n = nI j := by
  constructor
  · rintro ⟨h1, h2⟩
    obtain ⟨j, hj, rfl⟩ := nI_of (x := n) (by simpa using h1)
    exact ⟨j, (nI_ltI hj hN).mp h2, rfl⟩
  · rintro ⟨j, hj, rfl⟩
    exact ⟨nI_pos' (by omega), nI_lt hj hN⟩
theorem nI_m1 {n : Nat} (h : n < 2 ^ 31) : ¬ nI n = -1 := by
  intro e
  have := congrArg Int32.toInt e
  rw [nI_toInt h] at this
  have e2 : (-1 : Int32).toInt = -1 := by decide
  rw [e2] at this
  omega
theorem nI_ge0 {n : Nat} (h : n < 2 ^ 31) : ¬ nI n < 0 := nI_pos h
theorem nI_inj {a b : Nat} (ha : a < 2 ^ 31) (hb : b < 2 ^ 31) (h : nI a = nI b) : a = b := (nI_eq ha hb).mp h
theorem i2l_N {n : Nat} (h : n < 2 ^ 31) : (nI n).toInt64 = lN n := nI_l h
