
def zI : Nat → Int32 := fun _ => 0
def zJ : Nat → Int64 := fun _ => 0
def zR : Nat → Option Nat := fun _ => none
def w0I : List (Nat → Int32) := [zI, (upd zI 12 (-1)), zI, zI, zI, zI, zI, zI, (upd zI 1 (nI 1)), zI, zI, (upd zI 12 (-1)), zI, zI, zI, zI, zI, zI, (upd zI 1 (nI 1)), zI, zI, zI, zI, zI, zI, (upd zI 4 (-1)), zI, zI, zI, zI, zI, zI, zI, zI, zI, zI, zI, zI, zI, zI, zI, zI, zI, zI, zI, zI, zI, zI, zI, zI, zI, zI, zI, (upd zI 9 (-1)), (upd zI 12 (-1)), zI, zI, zI, zI, zI, zI, (upd zI 1 (nI 1)), zI, zI, zI, zI, zI, zI, zI, zI, zI, (upd zI 12 (-1)), zI, zI, zI, zI, zI, zI, (upd zI 1 (nI 1)), zI, (upd zI 12 (-1)), zI, zI, zI, zI, zI, zI, (upd zI 1 (nI 1)), zI, (upd (upd (upd zI 18 (-1)) 64 (-1)) 68 (-1)), zI, (upd (upd zI 4 (-1)) 7 (nI 1)), zI, zI, zI, zI, zI, zI, zI, zI, zI, zI, zI, zI, zI, zI, zI, zI, zI, zI, zI, zI, zI, zI, zI, zI, zI, zI, zI, zI, zI, zI, zI, zI, zI, zI, zI, zI]
def w0J : List (Nat → Int64) := [zJ, zJ, zJ, zJ, zJ, zJ, zJ, zJ, zJ, zJ, zJ, zJ, zJ, zJ, zJ, zJ, zJ, zJ, zJ, zJ, zJ, zJ, zJ, zJ, zJ, zJ, zJ, zJ, zJ, zJ, zJ, zJ, zJ, zJ, zJ, zJ, zJ, zJ, zJ, zJ, zJ, zJ, zJ, zJ, zJ, zJ, zJ, zJ, zJ, zJ, zJ, zJ, zJ, zJ, zJ, zJ, zJ, zJ, zJ, zJ, zJ, zJ, zJ, zJ, zJ, zJ, zJ, zJ, zJ, zJ, zJ, zJ, zJ, zJ, zJ, zJ, zJ, zJ, zJ, zJ, zJ, zJ, zJ, zJ, zJ, zJ, zJ, zJ, zJ, zJ, zJ, zJ, zJ, zJ, zJ, zJ, zJ, zJ, zJ, zJ, zJ, zJ, zJ, zJ, (vp_updL (vp_updL (vp_updL (vp_updL (vp_updL (vp_updL (vp_updL (zJ) 0 744050872) 1 474245) 2 116801202) 3 139708581) 4 12892531) 5 664997) 6 441828), (vp_updL (vp_updL (vp_updL (vp_updL (vp_updL (vp_updL (zJ) 0 664997) 1 146885) 2 404362868) 3 5381299) 4 755507) 5 139708581), (vp_updL (vp_updL (zJ) 0 3657363) 1 67155), zJ, zJ, zJ, zJ, zJ, zJ, zJ, zJ, zJ, zJ, zJ, zJ, zJ, zJ, zJ, zJ, zJ, zJ, (vp_updL (vp_updL (vp_updL (vp_updL (zJ) 0 343342) 1 20773) 2 16819668) 3 4901), zJ, zJ]
def w0R : List (Nat → Option Nat) := [zR, zR, zR, zR, zR, zR, zR, zR, zR, zR, (va_up (va_up zR 0 (some 71)) 1 (some 80)), zR, zR, zR, zR, zR, zR, zR, zR, zR, zR, zR, zR, zR, zR, zR, zR, zR, (va_up (va_up zR 2 (some 29)) 3 (some 30)), zR, zR, zR, zR, zR, zR, zR, zR, zR, zR, zR, zR, zR, zR, zR, zR, zR, zR, zR, zR, zR, zR, zR, zR, zR, zR, zR, zR, zR, zR, zR, zR, zR, zR, zR, zR, zR, zR, zR, zR, zR, zR, zR, zR, zR, zR, zR, zR, zR, zR, zR, zR, zR, zR, zR, zR, zR, zR, zR, zR, zR, zR, zR, zR, zR, zR, zR, zR, zR, zR, zR, zR, zR, zR, zR, zR, zR, zR, zR, zR, zR, zR, zR, zR, zR, zR, zR, zR, zR, zR, zR, zR, zR, zR, zR, zR, zR, zR, zR]
/-- the first world -/
def w0 : Mem := (fun a => w0I.getD a zI, fun a => w0J.getD a zJ, fun a => w0R.getD a zR, [], fun _ => 0)
def mkE (l : Launch) (D : va_G) (B : Nat) (o : Nat → Nat) (cc : Nat → ClassId) (A : Nat → Prop) (V : Nat → Nat) : EV := (l, D, fun k => if k < 200 then B + k else o k, cc, A, V)
section W0
variable {l : Launch} {D : va_G} {B : Nat} {o : Nat → Nat} {cc : Nat → ClassId} {A : Nat → Prop} {V : Nat → Nat}
theorem b0_Bo_1 : blk_Bo (mkE l D B o cc A V) (B + 1) = [cellOf (mkE l D B o cc A V) w0 1, cellOf (mkE l D B o cc A V) w0 2, cellOf (mkE l D B o cc A V) w0 3, cellOf (mkE l D B o cc A V) w0 4, cellOf (mkE l D B o cc A V) w0 5, cellOf (mkE l D B o cc A V) w0 6, cellOf (mkE l D B o cc A V) w0 7, cellOf (mkE l D B o cc A V) w0 8, cellOf (mkE l D B o cc A V) w0 9] := by
  unfold blk_Bo
  rfl
theorem b0_Bo_11 : blk_Bo (mkE l D B o cc A V) (B + 11) = [cellOf (mkE l D B o cc A V) w0 11, cellOf (mkE l D B o cc A V) w0 12, cellOf (mkE l D B o cc A V) w0 13, cellOf (mkE l D B o cc A V) w0 14, cellOf (mkE l D B o cc A V) w0 15, cellOf (mkE l D B o cc A V) w0 16, cellOf (mkE l D B o cc A V) w0 17, cellOf (mkE l D B o cc A V) w0 18, cellOf (mkE l D B o cc A V) w0 19] := by
  unfold blk_Bo
  rfl
theorem b0_Bo_54 : blk_Bo (mkE l D B o cc A V) (B + 54) = [cellOf (mkE l D B o cc A V) w0 54, cellOf (mkE l D B o cc A V) w0 55, cellOf (mkE l D B o cc A V) w0 56, cellOf (mkE l D B o cc A V) w0 57, cellOf (mkE l D B o cc A V) w0 58, cellOf (mkE l D B o cc A V) w0 59, cellOf (mkE l D B o cc A V) w0 60, cellOf (mkE l D B o cc A V) w0 61, cellOf (mkE l D B o cc A V) w0 62] := by
  unfold blk_Bo
  rfl
theorem b0_Bo_71 : blk_Bo (mkE l D B o cc A V) (B + 71) = [cellOf (mkE l D B o cc A V) w0 71, cellOf (mkE l D B o cc A V) w0 72, cellOf (mkE l D B o cc A V) w0 73, cellOf (mkE l D B o cc A V) w0 74, cellOf (mkE l D B o cc A V) w0 75, cellOf (mkE l D B o cc A V) w0 76, cellOf (mkE l D B o cc A V) w0 77, cellOf (mkE l D B o cc A V) w0 78, cellOf (mkE l D B o cc A V) w0 79] := by
  unfold blk_Bo
  rfl
theorem b0_Bo_80 : blk_Bo (mkE l D B o cc A V) (B + 80) = [cellOf (mkE l D B o cc A V) w0 80, cellOf (mkE l D B o cc A V) w0 81, cellOf (mkE l D B o cc A V) w0 82, cellOf (mkE l D B o cc A V) w0 83, cellOf (mkE l D B o cc A V) w0 84, cellOf (mkE l D B o cc A V) w0 85, cellOf (mkE l D B o cc A V) w0 86, cellOf (mkE l D B o cc A V) w0 87, cellOf (mkE l D B o cc A V) w0 88] := by
  unfold blk_Bo
  rfl
theorem b0_Ac_20 : blk_Ac (mkE l D B o cc A V) (B + 20) = [cellOf (mkE l D B o cc A V) w0 20, cellOf (mkE l D B o cc A V) w0 21, cellOf (mkE l D B o cc A V) w0 22, cellOf (mkE l D B o cc A V) w0 23, cellOf (mkE l D B o cc A V) w0 24] := by
  unfold blk_Ac
  rfl
theorem b0_Ac_63 : blk_Ac (mkE l D B o cc A V) (B + 63) = [cellOf (mkE l D B o cc A V) w0 63, cellOf (mkE l D B o cc A V) w0 64, cellOf (mkE l D B o cc A V) w0 65, cellOf (mkE l D B o cc A V) w0 66, cellOf (mkE l D B o cc A V) w0 67] := by
  unfold blk_Ac
  rfl
theorem b0_Ta_26 : blk_Ta (mkE l D B o cc A V) (B + 26) = [cellOf (mkE l D B o cc A V) w0 26, cellOf (mkE l D B o cc A V) w0 27] := by
  unfold blk_Ta
  rfl
theorem b0_Pr_28 : blk_Pr (mkE l D B o cc A V) (B + 28) = [cellOf (mkE l D B o cc A V) w0 28, cellOf (mkE l D B o cc A V) w0 29, cellOf (mkE l D B o cc A V) w0 30] := by
  unfold blk_Pr
  rfl
theorem b0_Le_31 : blk_Le (mkE l D B o cc A V) (B + 31) = [cellOf (mkE l D B o cc A V) w0 31, cellOf (mkE l D B o cc A V) w0 32, cellOf (mkE l D B o cc A V) w0 33, cellOf (mkE l D B o cc A V) w0 34, cellOf (mkE l D B o cc A V) w0 35] := by
  unfold blk_Le
  rfl
theorem b0_Wa_36 : blk_Wa (mkE l D B o cc A V) (B + 36) = [cellOf (mkE l D B o cc A V) w0 36, cellOf (mkE l D B o cc A V) w0 37, cellOf (mkE l D B o cc A V) w0 38, cellOf (mkE l D B o cc A V) w0 39, cellOf (mkE l D B o cc A V) w0 40, cellOf (mkE l D B o cc A V) w0 41] := by
  unfold blk_Wa
  rfl
theorem b0_Si_42 : blk_Si (mkE l D B o cc A V) (B + 42) = [cellOf (mkE l D B o cc A V) w0 42, cellOf (mkE l D B o cc A V) w0 43, cellOf (mkE l D B o cc A V) w0 44] := by
  unfold blk_Si
  rfl
theorem b0_Hu_45 : blk_Hu (mkE l D B o cc A V) (B + 45) = [cellOf (mkE l D B o cc A V) w0 45, cellOf (mkE l D B o cc A V) w0 46] := by
  unfold blk_Hu
  rfl
theorem b0_Li_47 : blk_Li (mkE l D B o cc A V) (B + 47) = [cellOf (mkE l D B o cc A V) w0 47, cellOf (mkE l D B o cc A V) w0 48, cellOf (mkE l D B o cc A V) w0 49, cellOf (mkE l D B o cc A V) w0 50, cellOf (mkE l D B o cc A V) w0 51, cellOf (mkE l D B o cc A V) w0 52] := by
  unfold blk_Li
  rfl
theorem b0_Re_25 : blk_Re (mkE l D B o cc A V) (B + 25) = [cellOf (mkE l D B o cc A V) w0 25, cellOf (mkE l D B o cc A V) w0 26, cellOf (mkE l D B o cc A V) w0 27, cellOf (mkE l D B o cc A V) w0 28, cellOf (mkE l D B o cc A V) w0 29, cellOf (mkE l D B o cc A V) w0 30] := by
  unfold blk_Re
  rw [show blk_Ta (mkE l D B o cc A V) (B + 25 + 1) = _ from b0_Ta_26]
  rw [show blk_Pr (mkE l D B o cc A V) (B + 25 + 3) = _ from b0_Pr_28]
  rfl
theorem b0_Ru_53 : blk_Ru (mkE l D B o cc A V) (B + 53) = [cellOf (mkE l D B o cc A V) w0 53, cellOf (mkE l D B o cc A V) w0 54, cellOf (mkE l D B o cc A V) w0 55, cellOf (mkE l D B o cc A V) w0 56, cellOf (mkE l D B o cc A V) w0 57, cellOf (mkE l D B o cc A V) w0 58, cellOf (mkE l D B o cc A V) w0 59, cellOf (mkE l D B o cc A V) w0 60, cellOf (mkE l D B o cc A V) w0 61, cellOf (mkE l D B o cc A V) w0 62, cellOf (mkE l D B o cc A V) w0 63, cellOf (mkE l D B o cc A V) w0 64, cellOf (mkE l D B o cc A V) w0 65, cellOf (mkE l D B o cc A V) w0 66, cellOf (mkE l D B o cc A V) w0 67, cellOf (mkE l D B o cc A V) w0 68] := by
  unfold blk_Ru
  rw [show blk_Bo (mkE l D B o cc A V) (B + 53 + 1) = _ from b0_Bo_54]
  rw [show blk_Ac (mkE l D B o cc A V) (B + 53 + 10) = _ from b0_Ac_63]
  rfl
theorem b0_D : blk_D (mkE l D B o cc A V) B = [cellOf (mkE l D B o cc A V) w0 0, cellOf (mkE l D B o cc A V) w0 1, cellOf (mkE l D B o cc A V) w0 2, cellOf (mkE l D B o cc A V) w0 3, cellOf (mkE l D B o cc A V) w0 4, cellOf (mkE l D B o cc A V) w0 5, cellOf (mkE l D B o cc A V) w0 6, cellOf (mkE l D B o cc A V) w0 7, cellOf (mkE l D B o cc A V) w0 8, cellOf (mkE l D B o cc A V) w0 9, cellOf (mkE l D B o cc A V) w0 10, cellOf (mkE l D B o cc A V) w0 11, cellOf (mkE l D B o cc A V) w0 12, cellOf (mkE l D B o cc A V) w0 13, cellOf (mkE l D B o cc A V) w0 14, cellOf (mkE l D B o cc A V) w0 15, cellOf (mkE l D B o cc A V) w0 16, cellOf (mkE l D B o cc A V) w0 17, cellOf (mkE l D B o cc A V) w0 18, cellOf (mkE l D B o cc A V) w0 19, cellOf (mkE l D B o cc A V) w0 20, cellOf (mkE l D B o cc A V) w0 21, cellOf (mkE l D B o cc A V) w0 22, cellOf (mkE l D B o cc A V) w0 23, cellOf (mkE l D B o cc A V) w0 24, cellOf (mkE l D B o cc A V) w0 25, cellOf (mkE l D B o cc A V) w0 26, cellOf (mkE l D B o cc A V) w0 27, cellOf (mkE l D B o cc A V) w0 28, cellOf (mkE l D B o cc A V) w0 29, cellOf (mkE l D B o cc A V) w0 30, cellOf (mkE l D B o cc A V) w0 31, cellOf (mkE l D B o cc A V) w0 32, cellOf (mkE l D B o cc A V) w0 33, cellOf (mkE l D B o cc A V) w0 34, cellOf (mkE l D B o cc A V) w0 35, cellOf (mkE l D B o cc A V) w0 36, cellOf (mkE l D B o cc A V) w0 37, cellOf (mkE l D B o cc A V) w0 38, cellOf (mkE l D B o cc A V) w0 39, cellOf (mkE l D B o cc A V) w0 40, cellOf (mkE l D B o cc A V) w0 41, cellOf (mkE l D B o cc A V) w0 42, cellOf (mkE l D B o cc A V) w0 43, cellOf (mkE l D B o cc A V) w0 44, cellOf (mkE l D B o cc A V) w0 45, cellOf (mkE l D B o cc A V) w0 46, cellOf (mkE l D B o cc A V) w0 47, cellOf (mkE l D B o cc A V) w0 48, cellOf (mkE l D B o cc A V) w0 49, cellOf (mkE l D B o cc A V) w0 50, cellOf (mkE l D B o cc A V) w0 51, cellOf (mkE l D B o cc A V) w0 52, cellOf (mkE l D B o cc A V) w0 53, cellOf (mkE l D B o cc A V) w0 54, cellOf (mkE l D B o cc A V) w0 55, cellOf (mkE l D B o cc A V) w0 56, cellOf (mkE l D B o cc A V) w0 57, cellOf (mkE l D B o cc A V) w0 58, cellOf (mkE l D B o cc A V) w0 59, cellOf (mkE l D B o cc A V) w0 60, cellOf (mkE l D B o cc A V) w0 61, cellOf (mkE l D B o cc A V) w0 62, cellOf (mkE l D B o cc A V) w0 63, cellOf (mkE l D B o cc A V) w0 64, cellOf (mkE l D B o cc A V) w0 65, cellOf (mkE l D B o cc A V) w0 66, cellOf (mkE l D B o cc A V) w0 67, cellOf (mkE l D B o cc A V) w0 68, cellOf (mkE l D B o cc A V) w0 69, cellOf (mkE l D B o cc A V) w0 70, cellOf (mkE l D B o cc A V) w0 71, cellOf (mkE l D B o cc A V) w0 72, cellOf (mkE l D B o cc A V) w0 73, cellOf (mkE l D B o cc A V) w0 74, cellOf (mkE l D B o cc A V) w0 75, cellOf (mkE l D B o cc A V) w0 76, cellOf (mkE l D B o cc A V) w0 77, cellOf (mkE l D B o cc A V) w0 78, cellOf (mkE l D B o cc A V) w0 79, cellOf (mkE l D B o cc A V) w0 80, cellOf (mkE l D B o cc A V) w0 81, cellOf (mkE l D B o cc A V) w0 82, cellOf (mkE l D B o cc A V) w0 83, cellOf (mkE l D B o cc A V) w0 84, cellOf (mkE l D B o cc A V) w0 85, cellOf (mkE l D B o cc A V) w0 86, cellOf (mkE l D B o cc A V) w0 87, cellOf (mkE l D B o cc A V) w0 88] := by
  unfold blk_D
  rw [b0_Bo_1, b0_Bo_11, b0_Ac_20, b0_Re_25, b0_Le_31, b0_Wa_36, b0_Si_42, b0_Hu_45, b0_Li_47, b0_Ru_53, b0_Bo_71, b0_Bo_80]
  rfl
theorem b0_mcB : mcB (mkE l D B o cc A V) = [cellOf (mkE l D B o cc A V) w0 90, cellOf (mkE l D B o cc A V) w0 91, cellOf (mkE l D B o cc A V) w0 92, cellOf (mkE l D B o cc A V) w0 93, cellOf (mkE l D B o cc A V) w0 94, cellOf (mkE l D B o cc A V) w0 95, cellOf (mkE l D B o cc A V) w0 96, cellOf (mkE l D B o cc A V) w0 97, cellOf (mkE l D B o cc A V) w0 98, cellOf (mkE l D B o cc A V) w0 99, cellOf (mkE l D B o cc A V) w0 100, cellOf (mkE l D B o cc A V) w0 101, cellOf (mkE l D B o cc A V) w0 102, cellOf (mkE l D B o cc A V) w0 103, cellOf (mkE l D B o cc A V) w0 104, cellOf (mkE l D B o cc A V) w0 105, cellOf (mkE l D B o cc A V) w0 106, cellOf (mkE l D B o cc A V) w0 107, cellOf (mkE l D B o cc A V) w0 108, cellOf (mkE l D B o cc A V) w0 109, cellOf (mkE l D B o cc A V) w0 110, cellOf (mkE l D B o cc A V) w0 111, cellOf (mkE l D B o cc A V) w0 112, cellOf (mkE l D B o cc A V) w0 113, cellOf (mkE l D B o cc A V) w0 114, cellOf (mkE l D B o cc A V) w0 115, cellOf (mkE l D B o cc A V) w0 116, cellOf (mkE l D B o cc A V) w0 117, cellOf (mkE l D B o cc A V) w0 118, cellOf (mkE l D B o cc A V) w0 119, cellOf (mkE l D B o cc A V) w0 120, cellOf (mkE l D B o cc A V) w0 121, cellOf (mkE l D B o cc A V) w0 122, cellOf (mkE l D B o cc A V) w0 123, cellOf (mkE l D B o cc A V) w0 124, cellOf (mkE l D B o cc A V) w0 125, cellOf (mkE l D B o cc A V) w0 126, cellOf (mkE l D B o cc A V) w0 127] := by
  unfold mcB mcA mc_38 mc_37 mc_36 mc_35 mc_34 mc_33 mc_32 mc_31 mc_30 mc_29 mc_28 mc_27 mc_26 mc_25 mc_24 mc_23 mc_22 mc_21 mc_20 mc_19 mc_18 mc_17 mc_16 mc_15 mc_14 mc_13 mc_12 mc_11 mc_10 mc_9 mc_8 mc_7 mc_6 mc_5 mc_4 mc_3 mc_2 mc_1 mc_0
  rfl
theorem b0_M : blk_M (mkE l D B o cc A V) (B + 89) = [cellOf (mkE l D B o cc A V) w0 89, cellOf (mkE l D B o cc A V) w0 90, cellOf (mkE l D B o cc A V) w0 91, cellOf (mkE l D B o cc A V) w0 92, cellOf (mkE l D B o cc A V) w0 93, cellOf (mkE l D B o cc A V) w0 94, cellOf (mkE l D B o cc A V) w0 95, cellOf (mkE l D B o cc A V) w0 96, cellOf (mkE l D B o cc A V) w0 97, cellOf (mkE l D B o cc A V) w0 98, cellOf (mkE l D B o cc A V) w0 99, cellOf (mkE l D B o cc A V) w0 100, cellOf (mkE l D B o cc A V) w0 101, cellOf (mkE l D B o cc A V) w0 102, cellOf (mkE l D B o cc A V) w0 103, cellOf (mkE l D B o cc A V) w0 104, cellOf (mkE l D B o cc A V) w0 105, cellOf (mkE l D B o cc A V) w0 106, cellOf (mkE l D B o cc A V) w0 107, cellOf (mkE l D B o cc A V) w0 108, cellOf (mkE l D B o cc A V) w0 109, cellOf (mkE l D B o cc A V) w0 110, cellOf (mkE l D B o cc A V) w0 111, cellOf (mkE l D B o cc A V) w0 112, cellOf (mkE l D B o cc A V) w0 113, cellOf (mkE l D B o cc A V) w0 114, cellOf (mkE l D B o cc A V) w0 115, cellOf (mkE l D B o cc A V) w0 116, cellOf (mkE l D B o cc A V) w0 117, cellOf (mkE l D B o cc A V) w0 118, cellOf (mkE l D B o cc A V) w0 119, cellOf (mkE l D B o cc A V) w0 120, cellOf (mkE l D B o cc A V) w0 121, cellOf (mkE l D B o cc A V) w0 122, cellOf (mkE l D B o cc A V) w0 123, cellOf (mkE l D B o cc A V) w0 124, cellOf (mkE l D B o cc A V) w0 125, cellOf (mkE l D B o cc A V) w0 126, cellOf (mkE l D B o cc A V) w0 127] := by
  unfold blk_M
  rw [b0_mcB]
  refine congrArg (fun x => x :: _) ?_
  unfold mf_41 mf_40 mf_39 mf_38 mf_37 mf_36 mf_35 mf_34 mf_33 mf_32 mf_31 mf_30 mf_29 mf_28 mf_27 mf_26 mf_25 mf_24 mf_23 mf_22 mf_21 mf_20 mf_19 mf_18 mf_17 mf_16 mf_15 mf_14 mf_13 mf_12 mf_11 mf_10 mf_9 mf_8 mf_7 mf_6 mf_5 mf_4 mf_3 mf_2 mf_1 mf_0 dfl_M
  rfl
theorem b0_all : blk_D (mkE l D B o cc A V) B ++ blk_M (mkE l D B o cc A V) (B + 89) = (List.range 128).map (cellOf (mkE l D B o cc A V) w0) := by
  rw [b0_D, b0_M]
  rfl
theorem b0_ws : wk B (blk_D (mkE l D B o cc A V) B ++ blk_M (mkE l D B o cc A V) (B + 89)) = wsOf (mkE l D B o cc A V) w0 := by
  rw [b0_all]
  apply List.ext_getElem?
  intro i
  rw [wk_get]
  unfold wsOf
  have hn : nms w0 = List.range 128 := List.append_nil _
  rw [hn, List.getElem?_map, List.getElem?_map]
  by_cases hi : i < 128
  · rw [List.getElem?_range hi]
    show some (B + i, _) = some (eR (mkE l D B o cc A V) i, _)
    have e : eR (mkE l D B o cc A V) i = B + i := if_pos (by omega)
    rw [e]
  · rw [List.getElem?_eq_none (by simpa using hi)]
    rfl
end W0
def g00 : GC := (0, fun _ => 0, [], 0, fun _ => 0, fun _ => 0, [], fun i => if i = 1 then 1 else 0, [], none)
/-- the plain state of a new object -/
def s00 : SG := (g00, [], [], fun _ => none, fun _ => 0, 0, -1, 0, -1, none)
theorem wg00 : WG g00 := ⟨Nat.zero_le _, fun i hi => absurd hi (Nat.not_lt_zero _), List.nodup_nil, fun c hc => absurd hc List.not_mem_nil, Nat.zero_le _, fun i hi => absurd hi (Nat.not_lt_zero _), fun i hi => absurd hi (Nat.not_lt_zero _), fun v u hv _ => absurd hv (Nat.not_lt_zero _), fun v hv => absurd hv (Nat.not_lt_zero _), Nat.zero_le _, fun q hq => absurd hq List.not_mem_nil, ⟨Nat.le_of_ble_eq_true rfl, Nat.le_of_ble_eq_true rfl, Nat.le_of_ble_eq_true rfl⟩, Nat.zero_le _, fun i hi => by cases hi⟩
theorem t00 {f : Nat → Int32} {a : Nat} (h0 : f a = 0) (h1 : f (a + 1) = nI 1) (h2 : f (a + 2) = 0) : ∀ i, i < 3 → f (a + i) = nI (gT g00 i) := fun i hi => by
  rcases (show i = 0 ∨ i = 1 ∨ i = 2 by omega) with rfl | rfl | rfl
  · exact h0
  · exact h1
  · exact h2
theorem txt00 {b : Nat} (h : rR w0 (b + 8) = zR) : TxtOK w0 b := fun k hk r hr => by
  rw [h] at hr
  cases hr
theorem dinv0 : DInv w0 s00 := by
  refine ⟨⟨⟨rfl, rfl, rfl, rfl, rfl, rfl, fun i hi => absurd hi (Nat.not_lt_zero _), fun i hi => absurd hi (Nat.not_lt_zero _), fun i hi => absurd hi (Nat.not_lt_zero _), fun i hi => absurd hi (Nat.not_lt_zero _), fun i hi => absurd hi (Nat.not_lt_zero _), fun k q hq => ?_, fun i hi => ?_⟩, wg00, ⟨Nat.zero_le _, rfl, fun k q hq => ?_⟩⟩, fun i q hq => ?_, ⟨Nat.zero_le _, rfl, fun k hk => absurd hk (Nat.not_lt_zero _)⟩, fun k hk => ?_, ⟨rfl, rfl, rfl, rfl, rfl, rfl⟩, ⟨rfl, rfl, rfl⟩, rfl, ⟨⟨rfl, rfl⟩, rfl, rfl, txt00 rfl, txt00 rfl, txt00 rfl, txt00 rfl, txt00 rfl⟩⟩
  · have hq : ([] : List (Nat × Nat))[k]? = some q := hq
    rw [List.getElem?_nil] at hq; cases hq
  · rcases (show i = 0 ∨ i = 1 ∨ i = 2 by omega) with rfl | rfl | rfl <;> rfl
  · have hq : ([] : List (Nat × Snap))[k]? = some q := hq
    rw [List.getElem?_nil] at hq; cases hq
  · have hq : ([] : List LawT)[i]? = some q := hq
    rw [List.getElem?_nil] at hq; cases hq
  · rcases (show k = 0 ∨ k = 1 by omega) with rfl | rfl
    · exact ⟨rfl, fun g hg => by cases hg⟩
    · exact ⟨rfl, fun g hg => by cases hg⟩
theorem minv0 : MInv w0 s00 := by
  refine ⟨⟨⟨rfl, rfl, rfl, rfl, rfl, t00 rfl rfl rfl, fun i hi => absurd hi (Nat.not_lt_zero _), fun i hi => absurd hi (Nat.not_lt_zero _), fun i hi => absurd hi (Nat.not_lt_zero _), ⟨rfl, fun k hk => absurd hk (Nat.not_lt_zero _)⟩, fun k q hq => ?_⟩, fun i q hq => ?_, wg00⟩, ⟨Nat.zero_le _, rfl, fun k q hq => ?_⟩, ⟨Nat.zero_le _, rfl, fun k hk => absurd hk (Nat.not_lt_zero _)⟩, fun k hk => ?_, fun k hk => rfl, rfl, rfl, rfl, rfl, rfl, rfl⟩
  · have hq : ([] : List (Nat × Nat))[k]? = some q := hq
    rw [List.getElem?_nil] at hq; cases hq
  · have hq : ([] : List LawT)[i]? = some q := hq
    rw [List.getElem?_nil] at hq; cases hq
  · have hq : ([] : List (Nat × Snap))[k]? = some q := hq
    rw [List.getElem?_nil] at hq; cases hq
  · rcases (show k = 0 ∨ k = 1 by omega) with rfl | rfl
    · exact ⟨rfl, fun g hg => by cases hg⟩
    · exact ⟨rfl, fun g hg => by cases hg⟩
theorem mcon0 : MConst w0 := by
  refine ⟨fun k hk => ?_, fun k hk => ?_, fun k hk => ?_, fun k hk => ?_⟩
  · rcases (show k = 0 ∨ k = 1 ∨ k = 2 ∨ k = 3 ∨ k = 4 ∨ k = 5 ∨ k = 6 by omega) with rfl | rfl | rfl | rfl | rfl | rfl | rfl <;> rfl
  · rcases (show k = 0 ∨ k = 1 ∨ k = 2 ∨ k = 3 ∨ k = 4 ∨ k = 5 by omega) with rfl | rfl | rfl | rfl | rfl | rfl <;> rfl
  · rcases (show k = 0 ∨ k = 1 by omega) with rfl | rfl <;> rfl
  · rcases (show k = 0 ∨ k = 1 ∨ k = 2 ∨ k = 3 by omega) with rfl | rfl | rfl | rfl <;> rfl
