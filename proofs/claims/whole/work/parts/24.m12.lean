def m_M_back : MR := (⟨"SubgraphDeskModel", "back", "(I)I"⟩, prog_14_method_15_code, 3, (some .int))
theorem cf_M_back : CF m_M_back 1 := ⟨gd 1703 (by decide +kernel) rfl, gd 151 (by decide +kernel) rfl, by decide +kernel, by decide, by decide +kernel⟩
theorem cv_M_back : CV m_M_back := ⟨gd 1701 (by decide +kernel) rfl, gd 1702 (by decide +kernel) rfl⟩
def m_M_image : MR := (⟨"SubgraphDeskModel", "image", "(I)I"⟩, prog_14_method_14_code, 3, (some .int))
theorem cf_M_image : CF m_M_image 1 := ⟨gd 1696 (by decide +kernel) rfl, gd 151 (by decide +kernel) rfl, by decide +kernel, by decide, by decide +kernel⟩
theorem cv_M_image : CV m_M_image := ⟨gd 1694 (by decide +kernel) rfl, gd 1695 (by decide +kernel) rfl⟩
theorem d_M_back_0 : Dc prog_14_method_15_code 0 (.aload_n 0) 1 1 := ⟨by decide +kernel, rfl⟩
theorem d_M_back_1 : Dc prog_14_method_15_code 1 (.iconst 0) 1 2 := ⟨by decide +kernel, rfl⟩
theorem d_M_back_2 : Dc prog_14_method_15_code 2 (.putfield 170) 3 5 := ⟨by decide +kernel, rfl⟩
theorem d_M_back_5 : Dc prog_14_method_15_code 5 (.iload_n 1) 1 6 := ⟨by decide +kernel, rfl⟩
theorem d_M_back_6 : Dc prog_14_method_15_code 6 (.i2l) 1 7 := ⟨by decide +kernel, rfl⟩
theorem d_M_back_7 : Dc prog_14_method_15_code 7 (.lconst 0) 1 8 := ⟨by decide +kernel, rfl⟩
theorem d_M_back_8 : Dc prog_14_method_15_code 8 (.lconst 1) 1 9 := ⟨by decide +kernel, rfl⟩
theorem d_M_back_9 : Dc prog_14_method_15_code 9 (.invokestatic 190) 3 12 := ⟨by decide +kernel, rfl⟩
theorem d_M_back_12 : Dj prog_14_method_15_code 12 (.ifCond .ne 9) 15 9 21 := ⟨by decide +kernel, rfl, rfl⟩
theorem d_M_back_15 : Dc prog_14_method_15_code 15 (.aload_n 0) 1 16 := ⟨by decide +kernel, rfl⟩
theorem d_M_back_16 : Dc prog_14_method_15_code 16 (.iconst (-1)) 1 17 := ⟨by decide +kernel, rfl⟩
theorem d_M_back_17 : Dc prog_14_method_15_code 17 (.invokevirtual 179) 3 20 := ⟨by decide +kernel, rfl⟩
theorem d_M_back_20 : Dc prog_14_method_15_code 20 (.ireturn) 1 21 := ⟨by decide +kernel, rfl⟩
theorem d_M_back_21 : Dc prog_14_method_15_code 21 (.aload_n 0) 1 22 := ⟨by decide +kernel, rfl⟩
theorem d_M_back_22 : Dc prog_14_method_15_code 22 (.getfield 19) 3 25 := ⟨by decide +kernel, rfl⟩
theorem d_M_back_25 : Dc prog_14_method_15_code 25 (.iload_n 1) 1 26 := ⟨by decide +kernel, rfl⟩
theorem d_M_back_26 : Dc prog_14_method_15_code 26 (.baload) 1 27 := ⟨by decide +kernel, rfl⟩
theorem d_M_back_27 : Dj prog_14_method_15_code 27 (.ifCond .ne 10) 30 10 37 := ⟨by decide +kernel, rfl, rfl⟩
theorem d_M_back_30 : Dc prog_14_method_15_code 30 (.aload_n 0) 1 31 := ⟨by decide +kernel, rfl⟩
theorem d_M_back_31 : Dc prog_14_method_15_code 31 (.bipush (-2)) 2 33 := ⟨by decide +kernel, rfl⟩
theorem d_M_back_33 : Dc prog_14_method_15_code 33 (.invokevirtual 179) 3 36 := ⟨by decide +kernel, rfl⟩
theorem d_M_back_36 : Dc prog_14_method_15_code 36 (.ireturn) 1 37 := ⟨by decide +kernel, rfl⟩
theorem d_M_back_37 : Dc prog_14_method_15_code 37 (.iconst 0) 1 38 := ⟨by decide +kernel, rfl⟩
theorem d_M_back_38 : Dc prog_14_method_15_code 38 (.istore_n 2) 1 39 := ⟨by decide +kernel, rfl⟩
theorem d_M_back_39 : Dc prog_14_method_15_code 39 (.iload_n 2) 1 40 := ⟨by decide +kernel, rfl⟩
theorem d_M_back_40 : Dc prog_14_method_15_code 40 (.sipush 5510) 3 43 := ⟨by decide +kernel, rfl⟩
theorem d_M_back_43 : Dj prog_14_method_15_code 43 (.if_icmp .ge 27) 46 27 70 := ⟨by decide +kernel, rfl, rfl⟩
theorem d_M_back_46 : Dc prog_14_method_15_code 46 (.aload_n 0) 1 47 := ⟨by decide +kernel, rfl⟩
theorem d_M_back_47 : Dc prog_14_method_15_code 47 (.getfield 13) 3 50 := ⟨by decide +kernel, rfl⟩
theorem d_M_back_50 : Dc prog_14_method_15_code 50 (.iload_n 2) 1 51 := ⟨by decide +kernel, rfl⟩
theorem d_M_back_51 : Dc prog_14_method_15_code 51 (.aload_n 0) 1 52 := ⟨by decide +kernel, rfl⟩
theorem d_M_back_52 : Dc prog_14_method_15_code 52 (.getfield 16) 3 55 := ⟨by decide +kernel, rfl⟩
theorem d_M_back_55 : Dc prog_14_method_15_code 55 (.sipush 5510) 3 58 := ⟨by decide +kernel, rfl⟩
theorem d_M_back_58 : Dc prog_14_method_15_code 58 (.iload_n 1) 1 59 := ⟨by decide +kernel, rfl⟩
theorem d_M_back_59 : Dc prog_14_method_15_code 59 (.imul) 1 60 := ⟨by decide +kernel, rfl⟩
theorem d_M_back_60 : Dc prog_14_method_15_code 60 (.iload_n 2) 1 61 := ⟨by decide +kernel, rfl⟩
theorem d_M_back_61 : Dc prog_14_method_15_code 61 (.iadd) 1 62 := ⟨by decide +kernel, rfl⟩
theorem d_M_back_62 : Dc prog_14_method_15_code 62 (.iaload) 1 63 := ⟨by decide +kernel, rfl⟩
theorem d_M_back_63 : Dc prog_14_method_15_code 63 (.iastore) 1 64 := ⟨by decide +kernel, rfl⟩
theorem d_M_back_64 : Dc prog_14_method_15_code 64 (.iinc 2 1) 3 67 := ⟨by decide +kernel, rfl⟩
theorem d_M_back_67 : Dj prog_14_method_15_code 67 (.goto (-28)) 70 (-28) 39 := ⟨by decide +kernel, rfl, rfl⟩
theorem d_M_back_70 : Dc prog_14_method_15_code 70 (.aload_n 0) 1 71 := ⟨by decide +kernel, rfl⟩
theorem d_M_back_71 : Dc prog_14_method_15_code 71 (.iconst 0) 1 72 := ⟨by decide +kernel, rfl⟩
theorem d_M_back_72 : Dc prog_14_method_15_code 72 (.invokevirtual 194) 3 75 := ⟨by decide +kernel, rfl⟩
theorem d_M_back_75 : Dc prog_14_method_15_code 75 (.ireturn) 1 76 := ⟨by decide +kernel, rfl⟩
theorem d_M_image_0 : Dc prog_14_method_14_code 0 (.aload_n 0) 1 1 := ⟨by decide +kernel, rfl⟩
theorem d_M_image_1 : Dc prog_14_method_14_code 1 (.iconst 0) 1 2 := ⟨by decide +kernel, rfl⟩
theorem d_M_image_2 : Dc prog_14_method_14_code 2 (.putfield 170) 3 5 := ⟨by decide +kernel, rfl⟩
theorem d_M_image_5 : Dc prog_14_method_14_code 5 (.iload_n 1) 1 6 := ⟨by decide +kernel, rfl⟩
theorem d_M_image_6 : Dc prog_14_method_14_code 6 (.i2l) 1 7 := ⟨by decide +kernel, rfl⟩
theorem d_M_image_7 : Dc prog_14_method_14_code 7 (.lconst 0) 1 8 := ⟨by decide +kernel, rfl⟩
theorem d_M_image_8 : Dc prog_14_method_14_code 8 (.lconst 1) 1 9 := ⟨by decide +kernel, rfl⟩
theorem d_M_image_9 : Dc prog_14_method_14_code 9 (.invokestatic 190) 3 12 := ⟨by decide +kernel, rfl⟩
theorem d_M_image_12 : Dj prog_14_method_14_code 12 (.ifCond .ne 9) 15 9 21 := ⟨by decide +kernel, rfl, rfl⟩
theorem d_M_image_15 : Dc prog_14_method_14_code 15 (.aload_n 0) 1 16 := ⟨by decide +kernel, rfl⟩
theorem d_M_image_16 : Dc prog_14_method_14_code 16 (.iconst (-1)) 1 17 := ⟨by decide +kernel, rfl⟩
theorem d_M_image_17 : Dc prog_14_method_14_code 17 (.invokevirtual 179) 3 20 := ⟨by decide +kernel, rfl⟩
theorem d_M_image_20 : Dc prog_14_method_14_code 20 (.ireturn) 1 21 := ⟨by decide +kernel, rfl⟩
theorem d_M_image_21 : Dc prog_14_method_14_code 21 (.iconst 0) 1 22 := ⟨by decide +kernel, rfl⟩
theorem d_M_image_22 : Dc prog_14_method_14_code 22 (.istore_n 2) 1 23 := ⟨by decide +kernel, rfl⟩
theorem d_M_image_23 : Dc prog_14_method_14_code 23 (.iload_n 2) 1 24 := ⟨by decide +kernel, rfl⟩
theorem d_M_image_24 : Dc prog_14_method_14_code 24 (.sipush 5510) 3 27 := ⟨by decide +kernel, rfl⟩
theorem d_M_image_27 : Dj prog_14_method_14_code 27 (.if_icmp .ge 27) 30 27 54 := ⟨by decide +kernel, rfl, rfl⟩
theorem d_M_image_30 : Dc prog_14_method_14_code 30 (.aload_n 0) 1 31 := ⟨by decide +kernel, rfl⟩
theorem d_M_image_31 : Dc prog_14_method_14_code 31 (.getfield 16) 3 34 := ⟨by decide +kernel, rfl⟩
theorem d_M_image_34 : Dc prog_14_method_14_code 34 (.sipush 5510) 3 37 := ⟨by decide +kernel, rfl⟩
theorem d_M_image_37 : Dc prog_14_method_14_code 37 (.iload_n 1) 1 38 := ⟨by decide +kernel, rfl⟩
theorem d_M_image_38 : Dc prog_14_method_14_code 38 (.imul) 1 39 := ⟨by decide +kernel, rfl⟩
theorem d_M_image_39 : Dc prog_14_method_14_code 39 (.iload_n 2) 1 40 := ⟨by decide +kernel, rfl⟩
theorem d_M_image_40 : Dc prog_14_method_14_code 40 (.iadd) 1 41 := ⟨by decide +kernel, rfl⟩
theorem d_M_image_41 : Dc prog_14_method_14_code 41 (.aload_n 0) 1 42 := ⟨by decide +kernel, rfl⟩
theorem d_M_image_42 : Dc prog_14_method_14_code 42 (.getfield 13) 3 45 := ⟨by decide +kernel, rfl⟩
theorem d_M_image_45 : Dc prog_14_method_14_code 45 (.iload_n 2) 1 46 := ⟨by decide +kernel, rfl⟩
theorem d_M_image_46 : Dc prog_14_method_14_code 46 (.iaload) 1 47 := ⟨by decide +kernel, rfl⟩
theorem d_M_image_47 : Dc prog_14_method_14_code 47 (.iastore) 1 48 := ⟨by decide +kernel, rfl⟩
theorem d_M_image_48 : Dc prog_14_method_14_code 48 (.iinc 2 1) 3 51 := ⟨by decide +kernel, rfl⟩
theorem d_M_image_51 : Dj prog_14_method_14_code 51 (.goto (-28)) 54 (-28) 23 := ⟨by decide +kernel, rfl, rfl⟩
theorem d_M_image_54 : Dc prog_14_method_14_code 54 (.aload_n 0) 1 55 := ⟨by decide +kernel, rfl⟩
theorem d_M_image_55 : Dc prog_14_method_14_code 55 (.getfield 19) 3 58 := ⟨by decide +kernel, rfl⟩
theorem d_M_image_58 : Dc prog_14_method_14_code 58 (.iload_n 1) 1 59 := ⟨by decide +kernel, rfl⟩
theorem d_M_image_59 : Dc prog_14_method_14_code 59 (.iconst 1) 1 60 := ⟨by decide +kernel, rfl⟩
theorem d_M_image_60 : Dc prog_14_method_14_code 60 (.bastore) 1 61 := ⟨by decide +kernel, rfl⟩
theorem d_M_image_61 : Dc prog_14_method_14_code 61 (.aload_n 0) 1 62 := ⟨by decide +kernel, rfl⟩
theorem d_M_image_62 : Dc prog_14_method_14_code 62 (.iconst 0) 1 63 := ⟨by decide +kernel, rfl⟩
theorem d_M_image_63 : Dc prog_14_method_14_code 63 (.invokevirtual 179) 3 66 := ⟨by decide +kernel, rfl⟩
theorem d_M_image_66 : Dc prog_14_method_14_code 66 (.ireturn) 1 67 := ⟨by decide +kernel, rfl⟩
theorem fl_M_16 : FL "SubgraphDeskModel" 16 12 4 true (.array .int) (3, 3) := ⟨R_M, F_M, 69, ty_M, rfl, rfl, in_M, tyok_M, nm_M, by decide, gd 1476 (by decide +kernel) rfl, rfl, rfl, rfl⟩
theorem fl_M_19 : FL "SubgraphDeskModel" 19 12 5 true (.array .boolean) (3, 4) := ⟨R_M, F_M, 69, ty_M, rfl, rfl, in_M, tyok_M, nm_M, by decide, gd 1477 (by decide +kernel) rfl, rfl, rfl, rfl⟩
theorem cpy_in {f g : Nat → Int32} {sp dp n i : Nat} (h : i < n) : va_cpy f g sp dp n (dp + i) = f (sp + i) := by
  unfold va_cpy
  rw [if_pos (by omega), show dp + i - dp = i by omega]
theorem cpy_out {f g : Nat → Int32} {sp dp n i : Nat} (h : i < dp ∨ dp + n ≤ i) : va_cpy f g sp dp n i = g i := by
  unfold va_cpy
  rw [if_neg (by omega)]
/-- a row of the reference is only its first 5510 places -/
theorem MRow.cong {f f2 : Nat → Int32} {g : GC} (h : MRow f g) (hW : WG g) (e : ∀ i, i < 110 → f2 i = f i) : MRow f2 g := by
  have hn := hW.n
  have hv := hW.v
  have hs := hW.sl
  refine ⟨by rw [e _ (by omega)]; exact h.n, by rw [e _ (by omega)]; exact h.v, by rw [e _ (by omega)]; exact h.s, by rw [e _ (by omega)]; exact h.l, by rw [e _ (by omega)]; exact h.fo, fun i hi => ?_, fun i hi => ?_, fun v hv2 => ?_, fun v hv2 => ?_, h.e.congr hW.el (fun i h1 h2 => e i (by omega)), fun k q hq => ?_⟩
  · rw [e _ (by omega)]; exact h.t i hi
  · rw [e _ (by omega)]; exact h.c i hi
  · rw [e _ (by omega)]; exact h.y v hv2
  · rw [e _ (by omega)]; exact h.k v hv2
  · have hk := (List.getElem?_eq_some_iff.mp hq).1
    rw [e _ (by omega), e _ (by omega)]; exact h.sn k q hq
theorem SegM.lt {op arg : Nat → Nat} {a b : Nat} {f : Den} (h : SegM op arg a b f) : a < b := h.1
theorem MLaw.cong {h h2 : Nat → Int32} {q : LawT} (hq : MLaw h q) (e : ∀ i, i < 900 → h2 i = h i) : MLaw h2 q := by
  obtain ⟨h1, h3, op, arg, len, g1, g2, g3, g4, g5⟩ := hq
  refine ⟨h1, by rw [e _ (by omega)]; exact h3, op, arg, len, g1, g2, g3, fun j hj => ?_, fun c x hx => ?_⟩
  · rw [e _ (by omega), e _ (by omega)]; exact g4 j hj
  · have hc : c < 12 := by
      have := (List.getElem?_eq_some_iff.mp hx).1
      omega
    obtain ⟨k1, a, b, t, ee, k2, k3, k4, k5, k6⟩ := g5 c x hx
    exact ⟨by rw [e _ (by omega)]; exact k1, a, b, t, ee, by rw [e _ (by omega)]; exact k2, by rw [e _ (by omega)]; exact k3, by rw [e _ (by omega)]; exact k4, by rw [e _ (by omega)]; exact k5, k6⟩
theorem MLaws.cong {f f2 : Nat → Int32} {ls : List LawT} (h : MLaws f ls) (hl : ls.length ≤ 6) (e : ∀ i, i < 5510 → f2 i = f i) : MLaws f2 ls := by
  intro i q hi
  have hi2 := (List.getElem?_eq_some_iff.mp hi).1
  exact (h i q hi).cong (fun j hj => e _ (by omega))
theorem MImg.set {f kp f2 kp2 : Nat → Int32} {im : Nat → Option GC} {g : GC} {j : Nat} {r : Nat → Int32} (h : MImg f kp im) (hj : j < 2) (hR : MRow r g) (hL : MLaws r (gL g)) (hW : WG g) (e : ∀ i, i < 5510 → f2 (5510 * j + i) = r i) (eo : ∀ i, i < 5510 * j ∨ 5510 * j + 5510 ≤ i → f2 i = f i) (ek : kp2 j = nI 1) (eko : ∀ k, k ≠ j → kp2 k = kp k) : MImg f2 kp2 (fun k => if k = j then some g else im k) := by
  intro k hk
  by_cases hkj : k = j
  · subst hkj
    simp only [if_pos]
    refine ⟨by rw [ek]; rfl, fun g2 hg2 => ?_⟩
    cases hg2
    exact ⟨hR.cong hW (fun i hi => e i (by omega)), hL.cong hW.ll e, hW⟩
  · simp only [if_neg hkj]
    obtain ⟨h1, h2⟩ := h k hk
    refine ⟨by rw [eko k hkj]; exact h1, fun g2 hg2 => ?_⟩
    obtain ⟨r1, r2, r3⟩ := h2 g2 hg2
    have ee : ∀ i, i < 5510 → f2 (5510 * k + i) = f (5510 * k + i) := fun i hi => eo _ (by omega)
    exact ⟨r1.cong r3 (fun i hi => ee i (by omega)), r2.cong r3.ll ee, r3⟩
theorem opImage_no {k : Int32} {s : SG} (h : ¬ inN k 2) : opImage k s = sNo 1 s := by unfold opImage; exact if_neg h
theorem opImage_ok {k : Int32} {s : SG} (h : inN k 2) : opImage k s = sOk (nI 0) (wIm s (fun j => if j = tn k then some (sG s) else sIm s j)) := by unfold opImage; exact if_pos h
theorem opBack_no {k : Int32} {s : SG} (h : ¬ inN k 2) : opBack k s = sNo 1 s := by unfold opBack; exact if_pos h
theorem opBack_2 {k : Int32} {s : SG} (h : inN k 2) (h2 : sIm s (tn k) = none) : opBack k s = sNo 2 s := by unfold opBack; refine (if_neg (not_not_intro h)).trans ?_; rw [h2]
theorem opBack_ok {k : Int32} {s : SG} {g : GC} (h : inN k 2) (h2 : sIm s (tn k) = some g) : opBack k s = sOk (nI 0) (wU (wG s g) []) := by unfold opBack; refine (if_neg (not_not_intro h)).trans ?_; rw [h2]
theorem c_M_image {E : EV} {w : Mem} {k : Int32} {s : SG} (h : MInv w s) : T E m_M_image 1 0 0 [.ref 89, .int k] w (fun r w2 => r = some (.int (opImage k s).1) ∧ MInv w2 (opImage k s).2 ∧ FrM w w2) := by
  refine T_of (L := [.ref 89, .int k, un]) cf_M_image rfl (Nat.le_of_ble_eq_true rfl) (fun X hX hF => ?_)
  obtain ⟨⟨hR, hL, hW⟩, hU, hT, hI, hRf, hSt, hFa, hSm, hSp, hDr, hOr⟩ := id h
  refine g_aload0 hX d_M_image_0 ?_
  refine g_iconst (v := nI 0) hX d_M_image_1 rfl ?_
  refine g_putI hX d_M_image_2 fl_M_170 (lv_89 _) ?_
  refine g_iload1 hX d_M_image_5 ?_
  refine g_i2l hX d_M_image_6 ?_
  refine g_lconst (v := lN 0) hX d_M_image_7 rfl ?_
  refine g_lconst (v := lN 1) hX d_M_image_8 rfl ?_
  refine g_callS (As := [_, _, _]) hX hF.1 d_M_image_9 ml_M_190 cf_M_in cs_M_in rfl (c_M_in) (by omega) (by omega) (by omega) (Nat.le_of_ble_eq_true rfl) ?_
  refine ret_k ?_
  refine g_ifB_ne hX d_M_image_12 (fun e12 => ?_) (fun e12 => ?_)
  · have d0 := (in_le (by decide)).mp e12
    obtain ⟨j, hj, rfl, htn⟩ := inN_of d0 (by decide)
    have kC : ∀ i, i = 5510 → G0 E X 0 0 54 [.ref 89, .int (nI j), .int (nI i)] [] (sA (sI w 89 0 (nI 0)) 92 (va_cpy (rI (sI w 89 0 (nI 0)) 91) (rI (sI w 89 0 (nI 0)) 92) 0 (5510 * j) i)) := by
      rintro i rfl
      refine g_aload0 hX d_M_image_54 ?_
      refine g_getF hX d_M_image_55 fl_M_19 (lv_89 _) ?_
      refine g_iload1 hX d_M_image_58 ?_
      refine g_iconst (v := nI 1) hX d_M_image_59 rfl ?_
      refine g_zast hX d_M_image_60 (lv_93 _) rfl hj (by first | exact Or.inl rfl | exact Or.inr rfl) ?_
      refine g_aload0 hX d_M_image_61 ?_
      refine g_iconst (v := nI 0) hX d_M_image_62 rfl ?_
      refine g_callV (As := [_]) hX hF.1 d_M_image_63 ml_M_179 cf_M_tell cv_M_tell rfl rfl (c_M_tell (by omega)) (rcv_obj hX (lv_89 _) rfl rfl) (by omega) (by omega) (by omega) (Nat.le_of_ble_eq_true rfl) ?_
      refine ret_k ?_
      refine g_iret hX hF d_M_image_66 (by omega) (by omega) ?_
      rw [opImage_ok d0, htn]
      refine ⟨rfl, ⟨⟨hR, hL, hW⟩, hU, hT, ?_, hRf, rfl, hFa, hSm, hSp, hDr, hOr⟩, (by repeat (first | exact FrM.rf _ | refine FrM.I (by decide) ?_ | refine FrM.A (by decide) ?_ | refine FrM.J9 ?_ | refine FrM.J (by decide) ?_))⟩
      exact hI.set hj hR hL hW (fun i hi => (cpy_in hi).trans (by rw [Nat.zero_add]; rfl)) (fun i hi => cpy_out hi) (by show upd _ _ _ _ = _; rw [upd_eq, if_pos rfl]) (fun k hk => by show upd _ _ _ _ = _; rw [upd_eq, if_neg hk]; rfl)
    have lp : ∀ (fuel : Nat) (i : Nat), 5510 - i < fuel → (i ≤ 5510) → G0 E X 0 0 23 [.ref 89, .int (nI j), .int (nI i)] [] (sA (sI w 89 0 (nI 0)) 92 (va_cpy (rI (sI w 89 0 (nI 0)) 91) (rI (sI w 89 0 (nI 0)) 92) (0) (5510 * j) i)) := by
      intro fuel
      induction fuel with
      | zero => intro i q0; exact absurd q0 (Nat.not_lt_zero _)
      | succ fuel ih =>
        intro i q0 q1
        refine g_iload2 hX d_M_image_23 ?_
        refine g_sipush (v := nI 5510) hX d_M_image_24 rfl ?_
        refine g_icmpN_ge hX d_M_image_27 (by omega) (by omega) (fun c0 => ?_) (fun c0 => ?_)
        · exact kC i (by omega)
        · refine g_aload0 hX d_M_image_30 ?_
          refine g_getF hX d_M_image_31 fl_M_16 (lv_89 _) ?_
          refine g_sipush (v := nI 5510) hX d_M_image_34 rfl ?_
          refine g_iload1 hX d_M_image_37 ?_
          refine g_imulN hX d_M_image_38 ?_
          refine g_iload2 hX d_M_image_39 ?_
          refine g_iaddN hX d_M_image_40 ?_
          refine g_aload0 hX d_M_image_41 ?_
          refine g_getF hX d_M_image_42 fl_M_13 (lv_89 _) ?_
          refine g_iload2 hX d_M_image_45 ?_
          refine g_iald hX d_M_image_46 (lv_91 _) (congrArg nI (Nat.zero_add i).symm) (by omega) ?_
          refine g_topi (show rI (sA (sI w 89 0 (nI 0)) 92 (va_cpy (rI (sI w 89 0 (nI 0)) 91) (rI (sI w 89 0 (nI 0)) 92) (0) (5510 * j) i)) 91 (0 + i) = rI (sI w 89 0 (nI 0)) 91 (0 + i) from rfl) ?_
          refine g_iast hX d_M_image_47 (lv_92 _) rfl (by omega) ?_
          refine g_iincN2 hX d_M_image_48 rfl (by decide) ?_
          refine g_goto hX d_M_image_51 ?_
          refine g_mem (sI_sA _ _ _ _ _) ?_
          refine g_mem (by rw [cpy_s]) ?_
          exact ih (i + 1) (by omega) (by omega)
    refine g_iconst (v := nI 0) hX d_M_image_21 rfl ?_
    refine g_istore2 hX d_M_image_22 rfl (by decide) ?_
    refine g_mem (show (sI w 89 0 (nI 0)) = sA (sI w 89 0 (nI 0)) 92 (va_cpy (rI (sI w 89 0 (nI 0)) 91) (rI (sI w 89 0 (nI 0)) 92) 0 (5510 * j) 0) by rw [cpy_0]; exact (sA_self _ 92).symm) ?_
    exact lp 5511 0 (by omega) (by omega)
  · have d0 := mt (in_le (by decide)).mpr e12
    refine g_aload0 hX d_M_image_15 ?_
    refine g_iconst (v := -1) hX d_M_image_16 rfl ?_
    refine g_callV (As := [_]) hX hF.1 d_M_image_17 ml_M_179 cf_M_tell cv_M_tell rfl rfl (c_M_tellN (k := 1) (by decide) (by decide)) (rcv_obj hX (lv_89 _) rfl rfl) (by omega) (by omega) (by omega) (Nat.le_of_ble_eq_true rfl) ?_
    refine ret_k ?_
    refine g_iret hX hF d_M_image_20 (by omega) (by omega) ?_
    rw [opImage_no d0]
    exact ⟨rfl, (h.thr (x := nI 0)).no (k := 1) (by decide), (by repeat (first | exact FrM.rf _ | refine FrM.I (by decide) ?_ | refine FrM.A (by decide) ?_ | refine FrM.J9 ?_ | refine FrM.J (by decide) ?_))⟩
theorem c_M_back {E : EV} {w : Mem} {k : Int32} {s : SG} (h : MInv w s) : T E m_M_back 2 0 0 [.ref 89, .int k] w (fun r w2 => r = some (.int (opBack k s).1) ∧ MInv w2 (opBack k s).2 ∧ FrM w w2) := by
  refine T_of (L := [.ref 89, .int k, un]) cf_M_back rfl (Nat.le_of_ble_eq_true rfl) (fun X hX hF => ?_)
  obtain ⟨⟨hR, hL, hW⟩, hU, hT, hI, hRf, hSt, hFa, hSm, hSp, hDr, hOr⟩ := id h
  refine g_aload0 hX d_M_back_0 ?_
  refine g_iconst (v := nI 0) hX d_M_back_1 rfl ?_
  refine g_putI hX d_M_back_2 fl_M_170 (lv_89 _) ?_
  refine g_iload1 hX d_M_back_5 ?_
  refine g_i2l hX d_M_back_6 ?_
  refine g_lconst (v := lN 0) hX d_M_back_7 rfl ?_
  refine g_lconst (v := lN 1) hX d_M_back_8 rfl ?_
  refine g_callS (As := [_, _, _]) hX hF.1 d_M_back_9 ml_M_190 cf_M_in cs_M_in rfl (c_M_in) (by omega) (by omega) (by omega) (Nat.le_of_ble_eq_true rfl) ?_
  refine ret_k ?_
  refine g_ifB_ne hX d_M_back_12 (fun e12 => ?_) (fun e12 => ?_)
  · have d0 := (in_le (by decide)).mp e12
    obtain ⟨j, hj, rfl, htn⟩ := inN_of d0 (by decide)
    obtain ⟨hI1, hI2⟩ := hI j hj
    refine g_aload0 hX d_M_back_21 ?_
    refine g_getF hX d_M_back_22 fl_M_19 (lv_89 _) ?_
    refine g_iload1 hX d_M_back_25 ?_
    refine g_zald hX d_M_back_26 (lv_93 _) rfl hj ?_
    refine g_topi hI1 ?_
    refine g_ifB_ne hX d_M_back_27 (fun e27 => ?_) (fun e27 => ?_)
    · obtain ⟨g, hg⟩ := Option.isSome_iff_exists.mp e27
      obtain ⟨hg1, hg2, hg3⟩ := hI2 g hg
      have kC : ∀ i, i = 5510 → G0 E X 0 0 70 [.ref 89, .int (nI j), .int (nI i)] [] (sA (sI w 89 0 (nI 0)) 91 (va_cpy (rI (sI w 89 0 (nI 0)) 92) (rI (sI w 89 0 (nI 0)) 91) (5510 * j) 0 i)) := by
        rintro i rfl
        refine g_aload0 hX d_M_back_70 ?_
        refine g_iconst (v := nI 0) hX d_M_back_71 rfl ?_
        refine g_callV (As := [_]) hX hF.1 d_M_back_72 ml_M_194 cf_M_lasting cv_M_lasting rfl rfl (c_M_lasting (by omega)) (rcv_obj hX (lv_89 _) rfl rfl) (by omega) (by omega) (by omega) (Nat.le_of_ble_eq_true rfl) ?_
        refine ret_k ?_
        refine g_iret hX hF d_M_back_75 (by omega) (by omega) ?_
        rw [opBack_ok d0 (by rw [htn]; exact hg)]
        have e : ∀ i, i < 5510 → va_cpy (rI (sI w 89 0 (nI 0)) 92) (rI (sI w 89 0 (nI 0)) 91) (5510 * j) 0 5510 i = rI w 92 (5510 * j + i) := fun i hi => by
          have := cpy_in (f := rI (sI w 89 0 (nI 0)) 92) (g := rI (sI w 89 0 (nI 0)) 91) (sp := 5510 * j) (dp := 0) hi
          rw [Nat.zero_add] at this
          exact this
        exact ⟨rfl, ⟨⟨hg1.cong hg3 (fun i hi => e i (by omega)), hg2.cong hg3.ll e, hg3⟩, MUndo.nil, hT, hI, hRf, rfl, hFa, hSm, hSp, hDr, hOr⟩, (by repeat (first | exact FrM.rf _ | refine FrM.I (by decide) ?_ | refine FrM.A (by decide) ?_ | refine FrM.J9 ?_ | refine FrM.J (by decide) ?_))⟩
      have lp : ∀ (fuel : Nat) (i : Nat), 5510 - i < fuel → (i ≤ 5510) → G0 E X 0 0 39 [.ref 89, .int (nI j), .int (nI i)] [] (sA (sI w 89 0 (nI 0)) 91 (va_cpy (rI (sI w 89 0 (nI 0)) 92) (rI (sI w 89 0 (nI 0)) 91) (5510 * j) (0) i)) := by
        intro fuel
        induction fuel with
        | zero => intro i q0; exact absurd q0 (Nat.not_lt_zero _)
        | succ fuel ih =>
          intro i q0 q1
          refine g_iload2 hX d_M_back_39 ?_
          refine g_sipush (v := nI 5510) hX d_M_back_40 rfl ?_
          refine g_icmpN_ge hX d_M_back_43 (by omega) (by omega) (fun c0 => ?_) (fun c0 => ?_)
          · exact kC i (by omega)
          · refine g_aload0 hX d_M_back_46 ?_
            refine g_getF hX d_M_back_47 fl_M_13 (lv_89 _) ?_
            refine g_iload2 hX d_M_back_50 ?_
            refine g_aload0 hX d_M_back_51 ?_
            refine g_getF hX d_M_back_52 fl_M_16 (lv_89 _) ?_
            refine g_sipush (v := nI 5510) hX d_M_back_55 rfl ?_
            refine g_iload1 hX d_M_back_58 ?_
            refine g_imulN hX d_M_back_59 ?_
            refine g_iload2 hX d_M_back_60 ?_
            refine g_iaddN hX d_M_back_61 ?_
            refine g_iald hX d_M_back_62 (lv_92 _) rfl (by omega) ?_
            refine g_topi (show rI (sA (sI w 89 0 (nI 0)) 91 (va_cpy (rI (sI w 89 0 (nI 0)) 92) (rI (sI w 89 0 (nI 0)) 91) (5510 * j) (0) i)) 92 (5510 * j + i) = rI (sI w 89 0 (nI 0)) 92 (5510 * j + i) from rfl) ?_
            refine g_iast hX d_M_back_63 (lv_91 _) (congrArg nI (Nat.zero_add i).symm) (by omega) ?_
            refine g_iincN2 hX d_M_back_64 rfl (by decide) ?_
            refine g_goto hX d_M_back_67 ?_
            refine g_mem (sI_sA _ _ _ _ _) ?_
            refine g_mem (by rw [cpy_s]) ?_
            exact ih (i + 1) (by omega) (by omega)
      refine g_iconst (v := nI 0) hX d_M_back_37 rfl ?_
      refine g_istore2 hX d_M_back_38 rfl (by decide) ?_
      refine g_mem (show (sI w 89 0 (nI 0)) = sA (sI w 89 0 (nI 0)) 91 (va_cpy (rI (sI w 89 0 (nI 0)) 92) (rI (sI w 89 0 (nI 0)) 91) (5510 * j) 0 0) by rw [cpy_0]; exact (sA_self _ 91).symm) ?_
      exact lp 5511 0 (by omega) (by omega)
    · refine g_aload0 hX d_M_back_30 ?_
      refine g_bipush (v := -2) hX d_M_back_31 rfl ?_
      refine g_callV (As := [_]) hX hF.1 d_M_back_33 ml_M_179 cf_M_tell cv_M_tell rfl rfl (c_M_tellN (k := 2) (by decide) (by decide)) (rcv_obj hX (lv_89 _) rfl rfl) (by omega) (by omega) (by omega) (Nat.le_of_ble_eq_true rfl) ?_
      refine ret_k ?_
      refine g_iret hX hF d_M_back_36 (by omega) (by omega) ?_
      rw [opBack_2 d0 (by rw [htn]; cases hz : sIm s j with | none => rfl | some g => rw [hz] at e27; exact absurd rfl e27)]
      exact ⟨rfl, (h.thr (x := nI 0)).no (k := 2) (by decide), (by repeat (first | exact FrM.rf _ | refine FrM.I (by decide) ?_ | refine FrM.A (by decide) ?_ | refine FrM.J9 ?_ | refine FrM.J (by decide) ?_))⟩
  · have d0 := mt (in_le (by decide)).mpr e12
    refine g_aload0 hX d_M_back_15 ?_
    refine g_iconst (v := -1) hX d_M_back_16 rfl ?_
    refine g_callV (As := [_]) hX hF.1 d_M_back_17 ml_M_179 cf_M_tell cv_M_tell rfl rfl (c_M_tellN (k := 1) (by decide) (by decide)) (rcv_obj hX (lv_89 _) rfl rfl) (by omega) (by omega) (by omega) (Nat.le_of_ble_eq_true rfl) ?_
    refine ret_k ?_
    refine g_iret hX hF d_M_back_20 (by omega) (by omega) ?_
    rw [opBack_no d0]
    exact ⟨rfl, (h.thr (x := nI 0)).no (k := 1) (by decide), (by repeat (first | exact FrM.rf _ | refine FrM.I (by decide) ?_ | refine FrM.A (by decide) ?_ | refine FrM.J9 ?_ | refine FrM.J (by decide) ?_))⟩
