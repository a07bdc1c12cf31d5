
/-! ===== candidates, the row of vertices, passes ===== -/
def c0B (g : GC) (v : Nat) : Nat → Nat
  | 0 => 0
  | n + 1 => c0B g v n ||| (if gMay g v n = true ∧ pop (gK g v) ≤ pop (nearB (gE g) n) then 1 <<< n else 0)
def cFst (g : GC) (v : Nat) : Nat := c0B g v (gN g)
theorem c0B_lt (g : GC) (v : Nat) : ∀ n, n ≤ 12 → c0B g v n < 2 ^ 12
  | 0, _ => by unfold c0B; decide
  | n + 1, h => by
    unfold c0B
    refine or_lt (c0B_lt g v n (by omega)) ?_
    split
    · exact shl_lt (by omega)
    · decide
/-- of those not in o the lowest with the fewest candidates -/
def fewO (c : Nat → Nat) (o : List Nat) : Nat → Option Nat
  | 0 => none
  | v + 1 => if v ∈ o then fewO c o v else match fewO c o v with
    | none => some v
    | some u => if pop (c v) < pop (c u) then some v else some u
theorem fewO_in {c : Nat → Nat} {o : List Nat} {v : Nat} (h : v ∈ o) : fewO c o (v + 1) = fewO c o v := by rw [fewO, if_pos h]
theorem fewO_n {c : Nat → Nat} {o : List Nat} {v : Nat} (h : v ∉ o) (h2 : fewO c o v = none) : fewO c o (v + 1) = some v := by rw [fewO, if_neg h, h2]
theorem fewO_a {c : Nat → Nat} {o : List Nat} {v u : Nat} (h : v ∉ o) (h2 : fewO c o v = some u) (h3 : pop (c v) < pop (c u)) : fewO c o (v + 1) = some v := by rw [fewO, if_neg h, h2]; exact if_pos h3
theorem fewO_b {c : Nat → Nat} {o : List Nat} {v u : Nat} (h : v ∉ o) (h2 : fewO c o v = some u) (h3 : ¬ pop (c v) < pop (c u)) : fewO c o (v + 1) = some u := by rw [fewO, if_neg h, h2]; exact if_neg h3
theorem fewO_lt {c : Nat → Nat} {o : List Nat} {u : Nat} : ∀ v, fewO c o v = some u → u < v ∧ u ∉ o
  | 0, h => by cases h
  | v + 1, h => by
    by_cases hv : v ∈ o
    · rw [fewO_in hv] at h
      have := fewO_lt v h
      exact ⟨by omega, this.2⟩
    · cases hf : fewO c o v with
      | none =>
        rw [fewO_n hv hf] at h
        injection h with h
        exact ⟨by omega, h ▸ hv⟩
      | some x =>
        by_cases hp : pop (c v) < pop (c x)
        · rw [fewO_a hv hf hp] at h
          injection h with h
          exact ⟨by omega, h ▸ hv⟩
        · rw [fewO_b hv hf hp] at h
          injection h with h
          have := fewO_lt v hf
          exact ⟨by omega, h ▸ this.2⟩
theorem fewO_some {c : Nat → Nat} {o : List Nat} {x : Nat} (hx : x ∉ o) : ∀ v, x < v → ∃ u, fewO c o v = some u
  | 0, h => absurd h (Nat.not_lt_zero _)
  | v + 1, h => by
    by_cases hv : v ∈ o
    · rw [fewO_in hv]
      exact fewO_some hx v (by have : x ≠ v := fun e => hx (e ▸ hv); omega)
    · cases hf : fewO c o v with
      | none => exact ⟨v, fewO_n hv hf⟩
      | some y =>
        by_cases hp : pop (c v) < pop (c y)
        · exact ⟨v, fewO_a hv hf hp⟩
        · exact ⟨y, fewO_b hv hf hp⟩
def pickO (g : GC) (c : Nat → Nat) (o : List Nat) (i : Nat) : List Nat := if i = o.length then o ++ [(fewO c o (gV g)).getD 0] else o
def extL (g : GC) (i : Nat) (o : List Nat) : Nat → List Nat
  | 0 => o
  | v + 1 => if v ∉ o ∧ (gK g (gA o i)).testBit v = true then extL g i o v ++ [v] else extL g i o v
/-- the row of vertices behind i of its turns -/
def ordK (g : GC) (c : Nat → Nat) : Nat → List Nat
  | 0 => []
  | i + 1 => extL g i (pickO g c (ordK g c i) i) (gV g)
def orderG (g : GC) : List Nat := ordK g (cFst g) (gV g)
theorem extL_mem {g : GC} {i : Nat} {o : List Nat} {x : Nat} : ∀ v, x ∈ extL g i o v → x ∈ o ∨ x < v
  | 0, h => Or.inl h
  | v + 1, h => by
    unfold extL at h
    split at h
    · rw [List.mem_append, List.mem_singleton] at h
      rcases h with h | h
      · exact (extL_mem v h).imp_right (fun z => by omega)
      · exact Or.inr (by omega)
    · exact (extL_mem v h).imp_right (fun z => by omega)
theorem extL_sub {g : GC} {i : Nat} {o : List Nat} {x : Nat} (hx : x ∈ o) : ∀ v, x ∈ extL g i o v
  | 0 => hx
  | v + 1 => by
    unfold extL
    split
    · exact List.mem_append_left _ (extL_sub hx v)
    · exact extL_sub hx v
theorem extL_full {g : GC} {i : Nat} {o : List Nat} (h : ∀ x, x < gV g → x ∈ o) : ∀ v, v ≤ gV g → extL g i o v = o
  | 0, _ => rfl
  | v + 1, hv => by
    unfold extL
    rw [if_neg (fun z => z.1 (h v (by omega)))]
    exact extL_full h v (by omega)
/-- a row of different vertices -/
def OrdW (g : GC) (o : List Nat) : Prop := o.Nodup ∧ ∀ x ∈ o, x < gV g
theorem OrdW.len {g : GC} {o : List Nat} (h : OrdW g o) : o.length ≤ gV g := by
  have := nodup_len o (List.range (gV g)) h.1 (fun x hx => List.mem_range.mpr (h.2 x hx))
  rwa [List.length_range] at this
theorem OrdW.snoc {g : GC} {o : List Nat} {x : Nat} (h : OrdW g o) (hx : x < gV g) (hn : x ∉ o) : OrdW g (o ++ [x]) := by
  refine ⟨?_, mem_snoc h.2 hx⟩
  rw [List.nodup_append]
  exact ⟨h.1, by simp, fun a ha b hb z => hn (by rw [List.mem_singleton] at hb; rw [← hb, ← z]; exact ha)⟩
theorem OrdW.all {g : GC} {o : List Nat} (h : ∀ x, x < gV g → x ∈ o) : gV g ≤ o.length := by
  have := nodup_len (List.range (gV g)) o List.nodup_range (fun x hx => h x (List.mem_range.mp hx))
  rwa [List.length_range] at this
theorem ord_done {g : GC} {c : Nat → Nat} {i : Nat} (h : ∀ x, x < gV g → x ∈ ordK g c i) : ∀ m, i + m ≤ gV g → ordK g c (i + m) = ordK g c i
  | 0, _ => rfl
  | m + 1, hm => by
    have ih := ord_done h m (by omega)
    have hl := OrdW.all h
    show extL g (i + m) (pickO g c (ordK g c (i + m)) (i + m)) (gV g) = _
    rw [ih]
    unfold pickO
    rw [if_neg (by omega)]
    exact extL_full h _ (Nat.le_refl _)
/-- the bits x are the vertices that are not in o -/
def LeftP (g : GC) (x : Nat) (o : List Nat) : Prop := x < 2 ^ 5 ∧ ∀ v, x.testBit v = true ↔ (v < gV g ∧ v ∉ o)
theorem LeftP.snoc {g : GC} {x u : Nat} {o : List Nat} (h : LeftP g x o) : LeftP g (sd x (1 <<< u)) (o ++ [u]) := by
  refine ⟨Nat.lt_of_le_of_lt (sd_le _ _) h.1, fun v => ?_⟩
  rw [sd_tb, tb_one, Bool.and_eq_true, h.2 v, List.mem_append, List.mem_singleton]
  constructor
  · rintro ⟨⟨h1, h2⟩, h3⟩
    refine ⟨h1, fun z => z.elim h2 (fun e => ?_)⟩
    rw [decide_eq_true e.symm] at h3
    cases h3
  · rintro ⟨h1, h2⟩
    refine ⟨⟨h1, fun z => h2 (Or.inl z)⟩, ?_⟩
    rw [decide_eq_false (fun e => h2 (Or.inr e.symm))]
    rfl
theorem LeftP.zero {g : GC} {o : List Nat} (h : LeftP g 0 o) : ∀ x, x < gV g → x ∈ o := fun v hv => by
  by_cases e : v ∈ o
  · exact e
  · have := (h.2 v).mpr ⟨hv, e⟩
    rw [Nat.zero_testBit] at this
    cases this
theorem LeftP.some {g : GC} {x : Nat} {o : List Nat} (h : LeftP g x o) (hx : x ≠ 0) : ∃ v, v < gV g ∧ v ∉ o := by
  obtain ⟨i, hi⟩ := Nat.exists_testBit_of_ne_zero hx
  exact ⟨i, (h.2 i).mp hi⟩
theorem LeftP.init {g : GC} (hv : gV g ≤ 5) : LeftP g (1 <<< gV g - 1) [] := by
  rw [Nat.shiftLeft_eq, Nat.one_mul]
  refine ⟨?_, fun v => ?_⟩
  · have h1 := Nat.pow_le_pow_right (show 0 < 2 by decide) hv
    have := Nat.two_pow_pos (gV g)
    omega
  · rw [Nat.testBit_two_pow_sub_one, decide_eq_true_iff]
    simp
/-- a node is borne out by all that are linked to v -/
def supK (g : GC) (c : Nat → Nat) (v n : Nat) : Nat → Bool
  | 0 => true
  | o + 1 => supK g c v n o && (!(gK g v).testBit o || !decide (nearB (gE g) n &&& c o = 0))
def narN (g : GC) (c : Nat → Nat) (v : Nat) : Nat → Nat
  | 0 => c v
  | n + 1 => if supK g c v n (gV g) = true then narN g c v n else sd (narN g c v n) (1 <<< n)
def narC (g : GC) (c : Nat → Nat) (v : Nat) : Nat → Nat := fun u => if u = v then narN g c v (gN g) else c u
def pasK (g : GC) (p : Nat) (c : Nat → Nat) : Nat → Nat → Nat
  | 0 => c
  | k + 1 => narC g (pasK g p c k) (gA (orderG g) (if p % 2 = 0 then gV g - 1 - k else k))
/-- the candidates behind p passes -/
def candN (g : GC) : Nat → Nat → Nat
  | 0 => cFst g
  | p + 1 => pasK g p (candN g p) (gV g)
theorem narN_le (g : GC) (c : Nat → Nat) (v : Nat) : ∀ n, narN g c v n ≤ c v
  | 0 => Nat.le_refl _
  | n + 1 => by
    unfold narN
    split
    · exact narN_le g c v n
    · exact Nat.le_trans (sd_le _ _) (narN_le g c v n)
theorem narC_le (g : GC) (c : Nat → Nat) (v u : Nat) : narC g c v u ≤ c u := by
  unfold narC
  split
  · rename_i h; rw [h]; exact narN_le g c v _
  · exact Nat.le_refl _
theorem pasK_le (g : GC) (p : Nat) (c : Nat → Nat) (u : Nat) : ∀ k, pasK g p c k u ≤ c u
  | 0 => Nat.le_refl _
  | k + 1 => by
    unfold pasK
    exact Nat.le_trans (narC_le _ _ _ _) (pasK_le g p c u k)
theorem candN_lt {g : GC} (hN : gN g ≤ 12) (v : Nat) : ∀ p, candN g p v < 2 ^ 12
  | 0 => c0B_lt g v _ hN
  | p + 1 => by
    unfold candN
    exact Nat.lt_of_le_of_lt (pasK_le g p _ v _) (candN_lt hN v p)
noncomputable def opCand (v n : Int32) (g : GC) : Int32 := by
  classical
  exact if ¬ inN v (gV g) ∨ ¬ inN n 10 then -1 else nI (candN g (tn n) (tn v))
theorem cand_no {v n : Int32} {g : GC} (h : ¬ inN v (gV g) ∨ ¬ inN n 10) : opCand v n g = -1 := by unfold opCand; exact if_pos h
theorem cand_ok {v n : Nat} {g : GC} (hv : v < gV g) (hV : gV g ≤ 5) (hn : n < 10) : opCand (nI v) (nI n) g = nI (candN g n v) := by
  unfold opCand
  refine (if_neg ?_).trans ?_
  · rintro (h | h)
    · exact h (inN_nI hv (by omega))
    · exact h (inN_nI hn (by omega))
  · rw [tn_nI (by omega), tn_nI (by omega)]
/-- the reference's candidates, its row of vertices -/
def CandP (w : Mem) (g : GC) (c : Nat → Nat) : Prop := ∀ v, v < gV g → rI w 117 v = nI (c v)
def OrdP (w : Mem) (o : List Nat) : Prop := ∀ k, k < o.length → rI w 118 k = nI (gA o k)
def FrC (w w2 : Mem) : Prop := (∀ a, a ≠ 117 → a ≠ 118 → rI w2 a = rI w a) ∧ w2.2 = w.2
theorem FrC.rf (w : Mem) : FrC w w := ⟨fun _ _ _ => rfl, rfl⟩
theorem FrC.tr {a b c : Mem} (h : FrC a b) (h2 : FrC b c) : FrC a c := ⟨fun x h1 h3 => (h2.1 x h1 h3).trans (h.1 x h1 h3), h2.2.trans h.2⟩
theorem FrC.I {w w2 : Mem} {o k : Nat} {x : Int32} (ho : o = 117 ∨ o = 118) (h : FrC w w2) : FrC w (sI w2 o k x) := ⟨fun a h1 h2 => by rw [rI_sI_ne _ _ _ (by omega)]; exact h.1 a h1 h2, h.2⟩
theorem FrC.S {w w2 : Mem} (h : FrC w w2) : Scr w w2 := ⟨⟨fun a ha => h.1 a (by omega) (by omega), fun a ha => by unfold rJ; rw [h.2], by rw [h.2]⟩, fun a ha => h.1 a (by rintro rfl; exact absurd ha (by decide)) (by rintro rfl; exact absurd ha (by decide)), fun k hk => by rw [h.1 89 (by decide) (by decide)]⟩
theorem FrC.laid {w w2 : Mem} {g : GC} (h : FrC w w2) (hl : Laid w g) : Laid w2 g := by
  unfold Laid NearP MayP CostP
  rw [h.1 110 (by decide) (by decide), h.1 111 (by decide) (by decide), h.1 112 (by decide) (by decide)]
  exact hl
theorem OrdP.snoc {w : Mem} {o : List Nat} {x : Nat} (h : OrdP w o) : OrdP (sI w 118 o.length (nI x)) (o ++ [x]) := fun k hk => by
  rw [List.length_append, List.length_singleton] at hk
  rw [rI_sI, upd_eq]
  by_cases e : k = o.length
  · rw [if_pos e, e, gA_snoc]
  · rw [if_neg e, gA_snoc_l (by omega)]; exact h k (by omega)
theorem fInt_m1 {o : Option Nat} (h : ∀ u, o = some u → u < 2 ^ 31) (e : fInt o = -1) : o = none := by
  cases o with
  | none => rfl
  | some u => exact absurd e (nI_m1 (h u rfl))
theorem fInt_ne {o : Option Nat} (e : ¬ fInt o = -1) : ∃ u, o = some u := by
  cases o with
  | none => exact absurd rfl e
  | some u => exact ⟨u, rfl⟩
