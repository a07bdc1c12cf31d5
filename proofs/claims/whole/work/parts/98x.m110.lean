
theorem cwd_n (v : Nat) : cwd 0 v = 0 * 4096 + v := by unfold cwd dO dA; rw [if_pos rfl, if_pos rfl]
theorem cwd_w {k : Nat} (hk : k < 7) : cwd (k + 1) 0 = 1 * 4096 + k := by
  unfold cwd dO dA
  rw [if_neg (by omega), if_pos (by omega), if_neg (by omega)]
  by_cases e : k + 1 = 6
  · rw [if_pos e]; omega
  · rw [if_neg e, if_pos (by omega)]; omega
theorem cwd_d (v : Nat) : cwd 6 v = 1 * 4096 + (5 + v) := by unfold cwd dO dA; rw [if_neg (by decide), if_pos (by decide), if_neg (by decide), if_pos rfl]
theorem leafN (c : List (Nat × Nat)) (v : Nat) : SegL (c ++ [(0, v)]) c.length (c ++ [(0, v)]).length (fun _ => some (v : Int)) := by
  have h := seg_num (op := cO (c ++ [(0, v)])) (arg := cA (c ++ [(0, v)])) (a := c.length) cO_last.1
  rw [cO_last.2] at h
  rw [List.length_append, List.length_singleton]
  exact h
theorem leafW (c : List (Nat × Nat)) (k v : Nat) (hk : k < 7) : SegL (c ++ [(k + 1, v)]) c.length (c ++ [(k + 1, v)]).length (fun env => some (env (if k + 1 = 6 then 20 + v else k + 1))) := by
  have h := seg_word (op := cO (c ++ [(k + 1, v)])) (arg := cA (c ++ [(k + 1, v)])) (a := c.length) (by rw [cO_last.1]; exact Nat.succ_ne_zero k) (by rw [cO_last.1]; show k + 1 < 20; omega)
  rw [cO_last.1, cO_last.2] at h
  rw [List.length_append, List.length_singleton]
  exact h
theorem leafW0 (c : List (Nat × Nat)) (k : Nat) (hk : k < 7) : SegL (c ++ [(k + 1, 0)]) c.length (c ++ [(k + 1, 0)]).length (fun env => some (env (if k = 5 then 20 else k + 1))) := by
  have h := leafW c k 0 hk
  by_cases e : k = 5
  · rw [if_pos e]; rw [if_pos (by omega)] at h; exact h
  · rw [if_neg e]; rw [if_neg (by omega)] at h; exact h
