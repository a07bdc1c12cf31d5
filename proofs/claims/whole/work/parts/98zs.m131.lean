def m_Ac_init : MR := (⟨"SubgraphDesk$Acts", "<init>", "()V"⟩, prog_2_method_1_code, 1, none)
theorem cf_Ac_init : CF m_Ac_init 0 := ⟨gd 269 (by decide +kernel) rfl, gd 141 (by decide +kernel) rfl, by decide +kernel, by decide, by decide +kernel⟩
theorem ci_Ac_init : Cond.instanceMethod m_Ac_init.1 ∈ lw_gd := gd 268 (by decide +kernel) rfl
def m_Bo_init : MR := (⟨"SubgraphDesk$Board", "<init>", "()V"⟩, prog_3_method_1_code, 1, none)
theorem cf_Bo_init : CF m_Bo_init 0 := ⟨gd 172 (by decide +kernel) rfl, gd 140 (by decide +kernel) rfl, by decide +kernel, by decide, by decide +kernel⟩
theorem ci_Bo_init : Cond.instanceMethod m_Bo_init.1 ∈ lw_gd := gd 171 (by decide +kernel) rfl
def m_Hu_init : MR := (⟨"SubgraphDesk$Hunt", "<init>", "()V"⟩, prog_4_method_1_code, 1, none)
theorem cf_Hu_init : CF m_Hu_init 0 := ⟨gd 452 (by decide +kernel) rfl, gd 148 (by decide +kernel) rfl, by decide +kernel, by decide, by decide +kernel⟩
theorem ci_Hu_init : Cond.instanceMethod m_Hu_init.1 ∈ lw_gd := gd 451 (by decide +kernel) rfl
def m_Le_init : MR := (⟨"SubgraphDesk$Ledger", "<init>", "()V"⟩, prog_5_method_1_code, 1, none)
theorem cf_Le_init : CF m_Le_init 0 := ⟨gd 372 (by decide +kernel) rfl, gd 145 (by decide +kernel) rfl, by decide +kernel, by decide, by decide +kernel⟩
theorem ci_Le_init : Cond.instanceMethod m_Le_init.1 ∈ lw_gd := gd 371 (by decide +kernel) rfl
def m_Li_init : MR := (⟨"SubgraphDesk$Likeness", "<init>", "()V"⟩, prog_6_method_1_code, 1, none)
theorem cf_Li_init : CF m_Li_init 0 := ⟨gd 485 (by decide +kernel) rfl, gd 149 (by decide +kernel) rfl, by decide +kernel, by decide, by decide +kernel⟩
theorem ci_Li_init : Cond.instanceMethod m_Li_init.1 ∈ lw_gd := gd 484 (by decide +kernel) rfl
def m_Re_init : MR := (⟨"SubgraphDesk$Reader", "<init>", "()V"⟩, prog_8_method_1_code, 1, none)
theorem cf_Re_init : CF m_Re_init 0 := ⟨gd 292 (by decide +kernel) rfl, gd 142 (by decide +kernel) rfl, by decide +kernel, by decide, by decide +kernel⟩
theorem ci_Re_init : Cond.instanceMethod m_Re_init.1 ∈ lw_gd := gd 291 (by decide +kernel) rfl
def m_Ru_init : MR := (⟨"SubgraphDesk$Runner", "<init>", "()V"⟩, prog_9_method_1_code, 1, none)
theorem cf_Ru_init : CF m_Ru_init 0 := ⟨gd 515 (by decide +kernel) rfl, gd 150 (by decide +kernel) rfl, by decide +kernel, by decide, by decide +kernel⟩
theorem ci_Ru_init : Cond.instanceMethod m_Ru_init.1 ∈ lw_gd := gd 514 (by decide +kernel) rfl
def m_Si_init : MR := (⟨"SubgraphDesk$Sieve", "<init>", "()V"⟩, prog_10_method_1_code, 1, none)
theorem cf_Si_init : CF m_Si_init 0 := ⟨gd 438 (by decide +kernel) rfl, gd 147 (by decide +kernel) rfl, by decide +kernel, by decide, by decide +kernel⟩
theorem ci_Si_init : Cond.instanceMethod m_Si_init.1 ∈ lw_gd := gd 437 (by decide +kernel) rfl
def m_Ta_init : MR := (⟨"SubgraphDesk$Tape", "<init>", "()V"⟩, prog_11_method_1_code, 1, none)
theorem cf_Ta_init : CF m_Ta_init 0 := ⟨gd 298 (by decide +kernel) rfl, gd 143 (by decide +kernel) rfl, by decide +kernel, by decide, by decide +kernel⟩
theorem ci_Ta_init : Cond.instanceMethod m_Ta_init.1 ∈ lw_gd := gd 297 (by decide +kernel) rfl
def m_Wa_init : MR := (⟨"SubgraphDesk$Walker", "<init>", "()V"⟩, prog_12_method_1_code, 1, none)
theorem cf_Wa_init : CF m_Wa_init 0 := ⟨gd 396 (by decide +kernel) rfl, gd 146 (by decide +kernel) rfl, by decide +kernel, by decide, by decide +kernel⟩
theorem ci_Wa_init : Cond.instanceMethod m_Wa_init.1 ∈ lw_gd := gd 395 (by decide +kernel) rfl
theorem d_Ac_init_0 : Dc prog_2_method_1_code 0 (.aload_n 0) 1 1 := ⟨by decide +kernel, rfl⟩
theorem d_Ac_init_1 : Dc prog_2_method_1_code 1 (.invokespecial 3) 3 4 := ⟨by decide +kernel, rfl⟩
theorem d_Ac_init_4 : Dc prog_2_method_1_code 4 (.aload_n 0) 1 5 := ⟨by decide +kernel, rfl⟩
theorem d_Ac_init_5 : Dc prog_2_method_1_code 5 (.bipush 16) 2 7 := ⟨by decide +kernel, rfl⟩
theorem d_Ac_init_7 : Dc prog_2_method_1_code 7 (.newarray .int) 2 9 := ⟨by decide +kernel, rfl⟩
theorem d_Ac_init_9 : Dc prog_2_method_1_code 9 (.putfield 11) 3 12 := ⟨by decide +kernel, rfl⟩
theorem d_Ac_init_12 : Dc prog_2_method_1_code 12 (.aload_n 0) 1 13 := ⟨by decide +kernel, rfl⟩
theorem d_Ac_init_13 : Dc prog_2_method_1_code 13 (.bipush 16) 2 15 := ⟨by decide +kernel, rfl⟩
theorem d_Ac_init_15 : Dc prog_2_method_1_code 15 (.newarray .int) 2 17 := ⟨by decide +kernel, rfl⟩
theorem d_Ac_init_17 : Dc prog_2_method_1_code 17 (.putfield 15) 3 20 := ⟨by decide +kernel, rfl⟩
theorem d_Ac_init_20 : Dc prog_2_method_1_code 20 (.aload_n 0) 1 21 := ⟨by decide +kernel, rfl⟩
theorem d_Ac_init_21 : Dc prog_2_method_1_code 21 (.bipush 16) 2 23 := ⟨by decide +kernel, rfl⟩
theorem d_Ac_init_23 : Dc prog_2_method_1_code 23 (.newarray .int) 2 25 := ⟨by decide +kernel, rfl⟩
theorem d_Ac_init_25 : Dc prog_2_method_1_code 25 (.putfield 18) 3 28 := ⟨by decide +kernel, rfl⟩
theorem d_Ac_init_28 : Dc prog_2_method_1_code 28 (.aload_n 0) 1 29 := ⟨by decide +kernel, rfl⟩
theorem d_Ac_init_29 : Dc prog_2_method_1_code 29 (.bipush 16) 2 31 := ⟨by decide +kernel, rfl⟩
theorem d_Ac_init_31 : Dc prog_2_method_1_code 31 (.newarray .int) 2 33 := ⟨by decide +kernel, rfl⟩
theorem d_Ac_init_33 : Dc prog_2_method_1_code 33 (.putfield 21) 3 36 := ⟨by decide +kernel, rfl⟩
theorem d_Ac_init_36 : Dc prog_2_method_1_code 36 (.return_) 1 37 := ⟨by decide +kernel, rfl⟩
theorem d_Bo_init_0 : Dc prog_3_method_1_code 0 (.aload_n 0) 1 1 := ⟨by decide +kernel, rfl⟩
theorem d_Bo_init_1 : Dc prog_3_method_1_code 1 (.invokespecial 3) 3 4 := ⟨by decide +kernel, rfl⟩
theorem d_Bo_init_4 : Dc prog_3_method_1_code 4 (.aload_n 0) 1 5 := ⟨by decide +kernel, rfl⟩
theorem d_Bo_init_5 : Dc prog_3_method_1_code 5 (.bipush 12) 2 7 := ⟨by decide +kernel, rfl⟩
theorem d_Bo_init_7 : Dc prog_3_method_1_code 7 (.newarray .int) 2 9 := ⟨by decide +kernel, rfl⟩
theorem d_Bo_init_9 : Dc prog_3_method_1_code 9 (.putfield 9) 3 12 := ⟨by decide +kernel, rfl⟩
theorem d_Bo_init_12 : Dc prog_3_method_1_code 12 (.aload_n 0) 1 13 := ⟨by decide +kernel, rfl⟩
theorem d_Bo_init_13 : Dc prog_3_method_1_code 13 (.bipush 12) 2 15 := ⟨by decide +kernel, rfl⟩
theorem d_Bo_init_15 : Dc prog_3_method_1_code 15 (.newarray .int) 2 17 := ⟨by decide +kernel, rfl⟩
theorem d_Bo_init_17 : Dc prog_3_method_1_code 17 (.putfield 15) 3 20 := ⟨by decide +kernel, rfl⟩
theorem d_Bo_init_20 : Dc prog_3_method_1_code 20 (.aload_n 0) 1 21 := ⟨by decide +kernel, rfl⟩
theorem d_Bo_init_21 : Dc prog_3_method_1_code 21 (.bipush 66) 2 23 := ⟨by decide +kernel, rfl⟩
theorem d_Bo_init_23 : Dc prog_3_method_1_code 23 (.newarray .int) 2 25 := ⟨by decide +kernel, rfl⟩
theorem d_Bo_init_25 : Dc prog_3_method_1_code 25 (.putfield 18) 3 28 := ⟨by decide +kernel, rfl⟩
theorem d_Bo_init_28 : Dc prog_3_method_1_code 28 (.aload_n 0) 1 29 := ⟨by decide +kernel, rfl⟩
theorem d_Bo_init_29 : Dc prog_3_method_1_code 29 (.iconst 5) 1 30 := ⟨by decide +kernel, rfl⟩
theorem d_Bo_init_30 : Dc prog_3_method_1_code 30 (.newarray .int) 2 32 := ⟨by decide +kernel, rfl⟩
theorem d_Bo_init_32 : Dc prog_3_method_1_code 32 (.putfield 21) 3 35 := ⟨by decide +kernel, rfl⟩
theorem d_Bo_init_35 : Dc prog_3_method_1_code 35 (.aload_n 0) 1 36 := ⟨by decide +kernel, rfl⟩
theorem d_Bo_init_36 : Dc prog_3_method_1_code 36 (.iconst 5) 1 37 := ⟨by decide +kernel, rfl⟩
theorem d_Bo_init_37 : Dc prog_3_method_1_code 37 (.newarray .int) 2 39 := ⟨by decide +kernel, rfl⟩
theorem d_Bo_init_39 : Dc prog_3_method_1_code 39 (.putfield 24) 3 42 := ⟨by decide +kernel, rfl⟩
theorem d_Bo_init_42 : Dc prog_3_method_1_code 42 (.aload_n 0) 1 43 := ⟨by decide +kernel, rfl⟩
theorem d_Bo_init_43 : Dc prog_3_method_1_code 43 (.bipush 6) 2 45 := ⟨by decide +kernel, rfl⟩
theorem d_Bo_init_45 : Dc prog_3_method_1_code 45 (.newarray .int) 2 47 := ⟨by decide +kernel, rfl⟩
theorem d_Bo_init_47 : Dc prog_3_method_1_code 47 (.putfield 27) 3 50 := ⟨by decide +kernel, rfl⟩
theorem d_Bo_init_50 : Dc prog_3_method_1_code 50 (.aload_n 0) 1 51 := ⟨by decide +kernel, rfl⟩
theorem d_Bo_init_51 : Dc prog_3_method_1_code 51 (.iconst 3) 1 52 := ⟨by decide +kernel, rfl⟩
theorem d_Bo_init_52 : Dc prog_3_method_1_code 52 (.newarray .int) 2 54 := ⟨by decide +kernel, rfl⟩
theorem d_Bo_init_54 : Dc prog_3_method_1_code 54 (.putfield 30) 3 57 := ⟨by decide +kernel, rfl⟩
theorem d_Bo_init_57 : Dc prog_3_method_1_code 57 (.aload_n 0) 1 58 := ⟨by decide +kernel, rfl⟩
theorem d_Bo_init_58 : Dc prog_3_method_1_code 58 (.iconst (-1)) 1 59 := ⟨by decide +kernel, rfl⟩
theorem d_Bo_init_59 : Dc prog_3_method_1_code 59 (.putfield 33) 3 62 := ⟨by decide +kernel, rfl⟩
theorem d_Bo_init_62 : Dc prog_3_method_1_code 62 (.aload_n 0) 1 63 := ⟨by decide +kernel, rfl⟩
theorem d_Bo_init_63 : Dc prog_3_method_1_code 63 (.bipush 6) 2 65 := ⟨by decide +kernel, rfl⟩
theorem d_Bo_init_65 : Dc prog_3_method_1_code 65 (.anewarray 37) 3 68 := ⟨by decide +kernel, rfl⟩
theorem d_Bo_init_68 : Dc prog_3_method_1_code 68 (.putfield 39) 3 71 := ⟨by decide +kernel, rfl⟩
theorem d_Bo_init_71 : Dc prog_3_method_1_code 71 (.aload_n 0) 1 72 := ⟨by decide +kernel, rfl⟩
theorem d_Bo_init_72 : Dc prog_3_method_1_code 72 (.getfield 30) 3 75 := ⟨by decide +kernel, rfl⟩
theorem d_Bo_init_75 : Dc prog_3_method_1_code 75 (.iconst 1) 1 76 := ⟨by decide +kernel, rfl⟩
theorem d_Bo_init_76 : Dc prog_3_method_1_code 76 (.iconst 1) 1 77 := ⟨by decide +kernel, rfl⟩
theorem d_Bo_init_77 : Dc prog_3_method_1_code 77 (.iastore) 1 78 := ⟨by decide +kernel, rfl⟩
theorem d_Bo_init_78 : Dc prog_3_method_1_code 78 (.return_) 1 79 := ⟨by decide +kernel, rfl⟩
theorem d_Hu_init_0 : Dc prog_4_method_1_code 0 (.aload_n 0) 1 1 := ⟨by decide +kernel, rfl⟩
theorem d_Hu_init_1 : Dc prog_4_method_1_code 1 (.invokespecial 3) 3 4 := ⟨by decide +kernel, rfl⟩
theorem d_Hu_init_4 : Dc prog_4_method_1_code 4 (.aload_n 0) 1 5 := ⟨by decide +kernel, rfl⟩
theorem d_Hu_init_5 : Dc prog_4_method_1_code 5 (.iconst 5) 1 6 := ⟨by decide +kernel, rfl⟩
theorem d_Hu_init_6 : Dc prog_4_method_1_code 6 (.newarray .int) 2 8 := ⟨by decide +kernel, rfl⟩
theorem d_Hu_init_8 : Dc prog_4_method_1_code 8 (.putfield 9) 3 11 := ⟨by decide +kernel, rfl⟩
theorem d_Hu_init_11 : Dc prog_4_method_1_code 11 (.return_) 1 12 := ⟨by decide +kernel, rfl⟩
theorem d_Le_init_0 : Dc prog_5_method_1_code 0 (.aload_n 0) 1 1 := ⟨by decide +kernel, rfl⟩
theorem d_Le_init_1 : Dc prog_5_method_1_code 1 (.invokespecial 3) 3 4 := ⟨by decide +kernel, rfl⟩
theorem d_Le_init_4 : Dc prog_5_method_1_code 4 (.aload_n 0) 1 5 := ⟨by decide +kernel, rfl⟩
theorem d_Le_init_5 : Dc prog_5_method_1_code 5 (.iconst 5) 1 6 := ⟨by decide +kernel, rfl⟩
theorem d_Le_init_6 : Dc prog_5_method_1_code 6 (.newarray .int) 2 8 := ⟨by decide +kernel, rfl⟩
theorem d_Le_init_8 : Dc prog_5_method_1_code 8 (.putfield 9) 3 11 := ⟨by decide +kernel, rfl⟩
theorem d_Le_init_11 : Dc prog_5_method_1_code 11 (.aload_n 0) 1 12 := ⟨by decide +kernel, rfl⟩
theorem d_Le_init_12 : Dc prog_5_method_1_code 12 (.bipush 60) 2 14 := ⟨by decide +kernel, rfl⟩
theorem d_Le_init_14 : Dc prog_5_method_1_code 14 (.newarray .int) 2 16 := ⟨by decide +kernel, rfl⟩
theorem d_Le_init_16 : Dc prog_5_method_1_code 16 (.putfield 15) 3 19 := ⟨by decide +kernel, rfl⟩
theorem d_Le_init_19 : Dc prog_5_method_1_code 19 (.aload_n 0) 1 20 := ⟨by decide +kernel, rfl⟩
theorem d_Le_init_20 : Dc prog_5_method_1_code 20 (.bipush 7) 2 22 := ⟨by decide +kernel, rfl⟩
theorem d_Le_init_22 : Dc prog_5_method_1_code 22 (.newarray .int) 2 24 := ⟨by decide +kernel, rfl⟩
theorem d_Le_init_24 : Dc prog_5_method_1_code 24 (.putfield 18) 3 27 := ⟨by decide +kernel, rfl⟩
theorem d_Le_init_27 : Dc prog_5_method_1_code 27 (.aload_n 0) 1 28 := ⟨by decide +kernel, rfl⟩
theorem d_Le_init_28 : Dc prog_5_method_1_code 28 (.bipush 64) 2 30 := ⟨by decide +kernel, rfl⟩
theorem d_Le_init_30 : Dc prog_5_method_1_code 30 (.newarray .long) 2 32 := ⟨by decide +kernel, rfl⟩
theorem d_Le_init_32 : Dc prog_5_method_1_code 32 (.putfield 21) 3 35 := ⟨by decide +kernel, rfl⟩
theorem d_Le_init_35 : Dc prog_5_method_1_code 35 (.return_) 1 36 := ⟨by decide +kernel, rfl⟩
theorem d_Li_init_0 : Dc prog_6_method_1_code 0 (.aload_n 0) 1 1 := ⟨by decide +kernel, rfl⟩
theorem d_Li_init_1 : Dc prog_6_method_1_code 1 (.invokespecial 3) 3 4 := ⟨by decide +kernel, rfl⟩
theorem d_Li_init_4 : Dc prog_6_method_1_code 4 (.aload_n 0) 1 5 := ⟨by decide +kernel, rfl⟩
theorem d_Li_init_5 : Dc prog_6_method_1_code 5 (.sipush 600) 3 8 := ⟨by decide +kernel, rfl⟩
theorem d_Li_init_8 : Dc prog_6_method_1_code 8 (.newarray .int) 2 10 := ⟨by decide +kernel, rfl⟩
theorem d_Li_init_10 : Dc prog_6_method_1_code 10 (.putfield 11) 3 13 := ⟨by decide +kernel, rfl⟩
theorem d_Li_init_13 : Dc prog_6_method_1_code 13 (.aload_n 0) 1 14 := ⟨by decide +kernel, rfl⟩
theorem d_Li_init_14 : Dc prog_6_method_1_code 14 (.iconst 5) 1 15 := ⟨by decide +kernel, rfl⟩
theorem d_Li_init_15 : Dc prog_6_method_1_code 15 (.newarray .int) 2 17 := ⟨by decide +kernel, rfl⟩
theorem d_Li_init_17 : Dc prog_6_method_1_code 17 (.putfield 15) 3 20 := ⟨by decide +kernel, rfl⟩
theorem d_Li_init_20 : Dc prog_6_method_1_code 20 (.aload_n 0) 1 21 := ⟨by decide +kernel, rfl⟩
theorem d_Li_init_21 : Dc prog_6_method_1_code 21 (.bipush 12) 2 23 := ⟨by decide +kernel, rfl⟩
theorem d_Li_init_23 : Dc prog_6_method_1_code 23 (.newarray .int) 2 25 := ⟨by decide +kernel, rfl⟩
theorem d_Li_init_25 : Dc prog_6_method_1_code 25 (.putfield 18) 3 28 := ⟨by decide +kernel, rfl⟩
theorem d_Li_init_28 : Dc prog_6_method_1_code 28 (.aload_n 0) 1 29 := ⟨by decide +kernel, rfl⟩
theorem d_Li_init_29 : Dc prog_6_method_1_code 29 (.bipush 12) 2 31 := ⟨by decide +kernel, rfl⟩
theorem d_Li_init_31 : Dc prog_6_method_1_code 31 (.newarray .int) 2 33 := ⟨by decide +kernel, rfl⟩
theorem d_Li_init_33 : Dc prog_6_method_1_code 33 (.putfield 21) 3 36 := ⟨by decide +kernel, rfl⟩
theorem d_Li_init_36 : Dc prog_6_method_1_code 36 (.aload_n 0) 1 37 := ⟨by decide +kernel, rfl⟩
theorem d_Li_init_37 : Dc prog_6_method_1_code 37 (.sipush 144) 3 40 := ⟨by decide +kernel, rfl⟩
theorem d_Li_init_40 : Dc prog_6_method_1_code 40 (.newarray .int) 2 42 := ⟨by decide +kernel, rfl⟩
theorem d_Li_init_42 : Dc prog_6_method_1_code 42 (.putfield 24) 3 45 := ⟨by decide +kernel, rfl⟩
theorem d_Li_init_45 : Dc prog_6_method_1_code 45 (.return_) 1 46 := ⟨by decide +kernel, rfl⟩
theorem d_Re_init_0 : Dc prog_8_method_1_code 0 (.aload_n 0) 1 1 := ⟨by decide +kernel, rfl⟩
theorem d_Re_init_1 : Dc prog_8_method_1_code 1 (.invokespecial 3) 3 4 := ⟨by decide +kernel, rfl⟩
theorem d_Re_init_4 : Dc prog_8_method_1_code 4 (.aload_n 0) 1 5 := ⟨by decide +kernel, rfl⟩
theorem d_Re_init_5 : Dc prog_8_method_1_code 5 (.new 9) 3 8 := ⟨by decide +kernel, rfl⟩
theorem d_Re_init_8 : Dc prog_8_method_1_code 8 (.dup) 1 9 := ⟨by decide +kernel, rfl⟩
theorem d_Re_init_9 : Dc prog_8_method_1_code 9 (.invokespecial 11) 3 12 := ⟨by decide +kernel, rfl⟩
theorem d_Re_init_12 : Dc prog_8_method_1_code 12 (.putfield 12) 3 15 := ⟨by decide +kernel, rfl⟩
theorem d_Re_init_15 : Dc prog_8_method_1_code 15 (.aload_n 0) 1 16 := ⟨by decide +kernel, rfl⟩
theorem d_Re_init_16 : Dc prog_8_method_1_code 16 (.new 18) 3 19 := ⟨by decide +kernel, rfl⟩
theorem d_Re_init_19 : Dc prog_8_method_1_code 19 (.dup) 1 20 := ⟨by decide +kernel, rfl⟩
theorem d_Re_init_20 : Dc prog_8_method_1_code 20 (.bipush 96) 2 22 := ⟨by decide +kernel, rfl⟩
theorem d_Re_init_22 : Dc prog_8_method_1_code 22 (.sipush 256) 3 25 := ⟨by decide +kernel, rfl⟩
theorem d_Re_init_25 : Dc prog_8_method_1_code 25 (.invokespecial 20) 3 28 := ⟨by decide +kernel, rfl⟩
theorem d_Re_init_28 : Dc prog_8_method_1_code 28 (.putfield 23) 3 31 := ⟨by decide +kernel, rfl⟩
theorem d_Re_init_31 : Dc prog_8_method_1_code 31 (.aload_n 0) 1 32 := ⟨by decide +kernel, rfl⟩
theorem d_Re_init_32 : Dc prog_8_method_1_code 32 (.iconst (-1)) 1 33 := ⟨by decide +kernel, rfl⟩
theorem d_Re_init_33 : Dc prog_8_method_1_code 33 (.putfield 27) 3 36 := ⟨by decide +kernel, rfl⟩
theorem d_Re_init_36 : Dc prog_8_method_1_code 36 (.return_) 1 37 := ⟨by decide +kernel, rfl⟩
theorem d_Ru_init_0 : Dc prog_9_method_1_code 0 (.aload_n 0) 1 1 := ⟨by decide +kernel, rfl⟩
theorem d_Ru_init_1 : Dc prog_9_method_1_code 1 (.invokespecial 3) 3 4 := ⟨by decide +kernel, rfl⟩
theorem d_Ru_init_4 : Dc prog_9_method_1_code 4 (.aload_n 0) 1 5 := ⟨by decide +kernel, rfl⟩
theorem d_Ru_init_5 : Dc prog_9_method_1_code 5 (.new 9) 3 8 := ⟨by decide +kernel, rfl⟩
theorem d_Ru_init_8 : Dc prog_9_method_1_code 8 (.dup) 1 9 := ⟨by decide +kernel, rfl⟩
theorem d_Ru_init_9 : Dc prog_9_method_1_code 9 (.invokespecial 11) 3 12 := ⟨by decide +kernel, rfl⟩
theorem d_Ru_init_12 : Dc prog_9_method_1_code 12 (.putfield 12) 3 15 := ⟨by decide +kernel, rfl⟩
theorem d_Ru_init_15 : Dc prog_9_method_1_code 15 (.aload_n 0) 1 16 := ⟨by decide +kernel, rfl⟩
theorem d_Ru_init_16 : Dc prog_9_method_1_code 16 (.new 18) 3 19 := ⟨by decide +kernel, rfl⟩
theorem d_Ru_init_19 : Dc prog_9_method_1_code 19 (.dup) 1 20 := ⟨by decide +kernel, rfl⟩
theorem d_Ru_init_20 : Dc prog_9_method_1_code 20 (.invokespecial 20) 3 23 := ⟨by decide +kernel, rfl⟩
theorem d_Ru_init_23 : Dc prog_9_method_1_code 23 (.putfield 21) 3 26 := ⟨by decide +kernel, rfl⟩
theorem d_Ru_init_26 : Dc prog_9_method_1_code 26 (.aload_n 0) 1 27 := ⟨by decide +kernel, rfl⟩
theorem d_Ru_init_27 : Dc prog_9_method_1_code 27 (.bipush 17) 2 29 := ⟨by decide +kernel, rfl⟩
theorem d_Ru_init_29 : Dc prog_9_method_1_code 29 (.newarray .int) 2 31 := ⟨by decide +kernel, rfl⟩
theorem d_Ru_init_31 : Dc prog_9_method_1_code 31 (.putfield 25) 3 34 := ⟨by decide +kernel, rfl⟩
theorem d_Ru_init_34 : Dc prog_9_method_1_code 34 (.aload_n 0) 1 35 := ⟨by decide +kernel, rfl⟩
theorem d_Ru_init_35 : Dc prog_9_method_1_code 35 (.iconst (-1)) 1 36 := ⟨by decide +kernel, rfl⟩
theorem d_Ru_init_36 : Dc prog_9_method_1_code 36 (.putfield 29) 3 39 := ⟨by decide +kernel, rfl⟩
theorem d_Ru_init_39 : Dc prog_9_method_1_code 39 (.return_) 1 40 := ⟨by decide +kernel, rfl⟩
theorem d_Si_init_0 : Dc prog_10_method_1_code 0 (.aload_n 0) 1 1 := ⟨by decide +kernel, rfl⟩
theorem d_Si_init_1 : Dc prog_10_method_1_code 1 (.invokespecial 3) 3 4 := ⟨by decide +kernel, rfl⟩
theorem d_Si_init_4 : Dc prog_10_method_1_code 4 (.aload_n 0) 1 5 := ⟨by decide +kernel, rfl⟩
theorem d_Si_init_5 : Dc prog_10_method_1_code 5 (.iconst 5) 1 6 := ⟨by decide +kernel, rfl⟩
theorem d_Si_init_6 : Dc prog_10_method_1_code 6 (.newarray .int) 2 8 := ⟨by decide +kernel, rfl⟩
theorem d_Si_init_8 : Dc prog_10_method_1_code 8 (.putfield 9) 3 11 := ⟨by decide +kernel, rfl⟩
theorem d_Si_init_11 : Dc prog_10_method_1_code 11 (.aload_n 0) 1 12 := ⟨by decide +kernel, rfl⟩
theorem d_Si_init_12 : Dc prog_10_method_1_code 12 (.iconst 5) 1 13 := ⟨by decide +kernel, rfl⟩
theorem d_Si_init_13 : Dc prog_10_method_1_code 13 (.newarray .int) 2 15 := ⟨by decide +kernel, rfl⟩
theorem d_Si_init_15 : Dc prog_10_method_1_code 15 (.putfield 15) 3 18 := ⟨by decide +kernel, rfl⟩
theorem d_Si_init_18 : Dc prog_10_method_1_code 18 (.return_) 1 19 := ⟨by decide +kernel, rfl⟩
theorem d_Ta_init_0 : Dc prog_11_method_1_code 0 (.aload_n 0) 1 1 := ⟨by decide +kernel, rfl⟩
theorem d_Ta_init_1 : Dc prog_11_method_1_code 1 (.invokespecial 3) 3 4 := ⟨by decide +kernel, rfl⟩
theorem d_Ta_init_4 : Dc prog_11_method_1_code 4 (.aload_n 0) 1 5 := ⟨by decide +kernel, rfl⟩
theorem d_Ta_init_5 : Dc prog_11_method_1_code 5 (.sipush 400) 3 8 := ⟨by decide +kernel, rfl⟩
theorem d_Ta_init_8 : Dc prog_11_method_1_code 8 (.newarray .int) 2 10 := ⟨by decide +kernel, rfl⟩
theorem d_Ta_init_10 : Dc prog_11_method_1_code 10 (.putfield 9) 3 13 := ⟨by decide +kernel, rfl⟩
theorem d_Ta_init_13 : Dc prog_11_method_1_code 13 (.return_) 1 14 := ⟨by decide +kernel, rfl⟩
theorem d_Wa_init_0 : Dc prog_12_method_1_code 0 (.aload_n 0) 1 1 := ⟨by decide +kernel, rfl⟩
theorem d_Wa_init_1 : Dc prog_12_method_1_code 1 (.invokespecial 3) 3 4 := ⟨by decide +kernel, rfl⟩
theorem d_Wa_init_4 : Dc prog_12_method_1_code 4 (.aload_n 0) 1 5 := ⟨by decide +kernel, rfl⟩
theorem d_Wa_init_5 : Dc prog_12_method_1_code 5 (.iconst 5) 1 6 := ⟨by decide +kernel, rfl⟩
theorem d_Wa_init_6 : Dc prog_12_method_1_code 6 (.newarray .int) 2 8 := ⟨by decide +kernel, rfl⟩
theorem d_Wa_init_8 : Dc prog_12_method_1_code 8 (.putfield 9) 3 11 := ⟨by decide +kernel, rfl⟩
theorem d_Wa_init_11 : Dc prog_12_method_1_code 11 (.aload_n 0) 1 12 := ⟨by decide +kernel, rfl⟩
theorem d_Wa_init_12 : Dc prog_12_method_1_code 12 (.iconst 5) 1 13 := ⟨by decide +kernel, rfl⟩
theorem d_Wa_init_13 : Dc prog_12_method_1_code 13 (.newarray .int) 2 15 := ⟨by decide +kernel, rfl⟩
theorem d_Wa_init_15 : Dc prog_12_method_1_code 15 (.putfield 15) 3 18 := ⟨by decide +kernel, rfl⟩
theorem d_Wa_init_18 : Dc prog_12_method_1_code 18 (.aload_n 0) 1 19 := ⟨by decide +kernel, rfl⟩
theorem d_Wa_init_19 : Dc prog_12_method_1_code 19 (.iconst 5) 1 20 := ⟨by decide +kernel, rfl⟩
theorem d_Wa_init_20 : Dc prog_12_method_1_code 20 (.newarray .int) 2 22 := ⟨by decide +kernel, rfl⟩
theorem d_Wa_init_22 : Dc prog_12_method_1_code 22 (.putfield 18) 3 25 := ⟨by decide +kernel, rfl⟩
theorem d_Wa_init_25 : Dc prog_12_method_1_code 25 (.aload_n 0) 1 26 := ⟨by decide +kernel, rfl⟩
theorem d_Wa_init_26 : Dc prog_12_method_1_code 26 (.bipush 60) 2 28 := ⟨by decide +kernel, rfl⟩
theorem d_Wa_init_28 : Dc prog_12_method_1_code 28 (.newarray .int) 2 30 := ⟨by decide +kernel, rfl⟩
theorem d_Wa_init_30 : Dc prog_12_method_1_code 30 (.putfield 21) 3 33 := ⟨by decide +kernel, rfl⟩
theorem d_Wa_init_33 : Dc prog_12_method_1_code 33 (.aload_n 0) 1 34 := ⟨by decide +kernel, rfl⟩
theorem d_Wa_init_34 : Dc prog_12_method_1_code 34 (.bipush 60) 2 36 := ⟨by decide +kernel, rfl⟩
theorem d_Wa_init_36 : Dc prog_12_method_1_code 36 (.newarray .int) 2 38 := ⟨by decide +kernel, rfl⟩
theorem d_Wa_init_38 : Dc prog_12_method_1_code 38 (.putfield 24) 3 41 := ⟨by decide +kernel, rfl⟩
theorem d_Wa_init_41 : Dc prog_12_method_1_code 41 (.return_) 1 42 := ⟨by decide +kernel, rfl⟩
theorem ml_Re_20 : Cond.methodLink "SubgraphDesk$Reader" 20 m_Pr_init.1 ∈ lw_gd := gd 329 (by decide +kernel) rfl
theorem ml_Ru_11 : Cond.methodLink "SubgraphDesk$Runner" 11 m_Bo_init.1 ∈ lw_gd := gd 518 (by decide +kernel) rfl
theorem zi_Pr : Cond.initialized R_Pr ∈ lw_gd := gd 144 (by decide +kernel) rfl
theorem zk_Pr : Cond.instantiable R_Pr 4 ∈ lw_gd := gd 328 (by decide +kernel) rfl
def dfl_Pr : List Value := [.int 0, .int 0, .null, .null]
theorem zd_Pr : ∀ j, j < 4 → defaultValue (ty_Pr j) = vp_V dfl_Pr j := fun j hj => by
  rcases (show j = 0 ∨ j = 1 ∨ j = 2 ∨ j = 3 by omega) with rfl | rfl | rfl | rfl <;> rfl
theorem cd_Ta {k : Nat} : ∀ (C : String) (F : u_T) (N : Nat), classes[10]? = some (C, F, N) → (F k).1 = "SubgraphDesk$Tape" := by
  intro C F N h
  obtain ⟨h1, h2⟩ := Prod.mk.inj (Option.some.inj h)
  obtain ⟨h3, h4⟩ := Prod.mk.inj h2
  subst h3
  unfold F_Ta
  split <;> rfl
theorem zi_Ta : Cond.initialized R_Ta ∈ lw_gd := gd 143 (by decide +kernel) rfl
theorem zk_Ta : Cond.instantiable R_Ta 7 ∈ lw_gd := gd 295 (by decide +kernel) rfl
def dfl_Ta : List Value := [.null, .int 0, .int 0, .int 0, .int 0, .int 0, .int 0]
theorem zd_Ta : ∀ j, j < 7 → defaultValue (ty_Ta j) = vp_V dfl_Ta j := fun j hj => by
  rcases (show j = 0 ∨ j = 1 ∨ j = 2 ∨ j = 3 ∨ j = 4 ∨ j = 5 ∨ j = 6 by omega) with rfl | rfl | rfl | rfl | rfl | rfl | rfl <;> rfl
theorem cd_Bo {k : Nat} : ∀ (C : String) (F : u_T) (N : Nat), classes[2]? = some (C, F, N) → (F k).1 = "SubgraphDesk$Board" := by
  intro C F N h
  obtain ⟨h1, h2⟩ := Prod.mk.inj (Option.some.inj h)
  obtain ⟨h3, h4⟩ := Prod.mk.inj h2
  subst h3
  unfold F_Bo
  split <;> rfl
theorem zi_Bo : Cond.initialized R_Bo ∈ lw_gd := gd 140 (by decide +kernel) rfl
theorem zk_Bo : Cond.instantiable R_Bo 15 ∈ lw_gd := gd 169 (by decide +kernel) rfl
def dfl_Bo : List Value := [.int 0, .null, .null, .int 0, .null, .int 0, .null, .null, .int 0, .null, .null, .int 0, .int 0, .null, .int 0]
theorem zd_Bo : ∀ j, j < 15 → defaultValue (ty_Bo j) = vp_V dfl_Bo j := fun j hj => by
  rcases (show j = 0 ∨ j = 1 ∨ j = 2 ∨ j = 3 ∨ j = 4 ∨ j = 5 ∨ j = 6 ∨ j = 7 ∨ j = 8 ∨ j = 9 ∨ j = 10 ∨ j = 11 ∨ j = 12 ∨ j = 13 ∨ j = 14 by omega) with rfl | rfl | rfl | rfl | rfl | rfl | rfl | rfl | rfl | rfl | rfl | rfl | rfl | rfl | rfl <;> rfl
theorem cd_Ac {k : Nat} : ∀ (C : String) (F : u_T) (N : Nat), classes[1]? = some (C, F, N) → (F k).1 = "SubgraphDesk$Acts" := by
  intro C F N h
  obtain ⟨h1, h2⟩ := Prod.mk.inj (Option.some.inj h)
  obtain ⟨h3, h4⟩ := Prod.mk.inj h2
  subst h3
  unfold F_Ac
  split <;> rfl
theorem zi_Ac : Cond.initialized R_Ac ∈ lw_gd := gd 141 (by decide +kernel) rfl
theorem zk_Ac : Cond.instantiable R_Ac 5 ∈ lw_gd := gd 266 (by decide +kernel) rfl
def dfl_Ac : List Value := [.int 0, .null, .null, .null, .null]
theorem zd_Ac : ∀ j, j < 5 → defaultValue (ty_Ac j) = vp_V dfl_Ac j := fun j hj => by
  rcases (show j = 0 ∨ j = 1 ∨ j = 2 ∨ j = 3 ∨ j = 4 by omega) with rfl | rfl | rfl | rfl | rfl <;> rfl
theorem cd_Le {k : Nat} : ∀ (C : String) (F : u_T) (N : Nat), classes[4]? = some (C, F, N) → (F k).1 = "SubgraphDesk$Ledger" := by
  intro C F N h
  obtain ⟨h1, h2⟩ := Prod.mk.inj (Option.some.inj h)
  obtain ⟨h3, h4⟩ := Prod.mk.inj h2
  subst h3
  unfold F_Le
  split <;> rfl
theorem zi_Le : Cond.initialized R_Le ∈ lw_gd := gd 145 (by decide +kernel) rfl
theorem zk_Le : Cond.instantiable R_Le 4 ∈ lw_gd := gd 369 (by decide +kernel) rfl
def dfl_Le : List Value := [.null, .null, .null, .null]
theorem zd_Le : ∀ j, j < 4 → defaultValue (ty_Le j) = vp_V dfl_Le j := fun j hj => by
  rcases (show j = 0 ∨ j = 1 ∨ j = 2 ∨ j = 3 by omega) with rfl | rfl | rfl | rfl <;> rfl
theorem cd_Wa {k : Nat} : ∀ (C : String) (F : u_T) (N : Nat), classes[11]? = some (C, F, N) → (F k).1 = "SubgraphDesk$Walker" := by
  intro C F N h
  obtain ⟨h1, h2⟩ := Prod.mk.inj (Option.some.inj h)
  obtain ⟨h3, h4⟩ := Prod.mk.inj h2
  subst h3
  unfold F_Wa
  split <;> rfl
theorem zi_Wa : Cond.initialized R_Wa ∈ lw_gd := gd 146 (by decide +kernel) rfl
theorem zk_Wa : Cond.instantiable R_Wa 11 ∈ lw_gd := gd 393 (by decide +kernel) rfl
def dfl_Wa : List Value := [.null, .null, .null, .null, .null, .null, .null, .int 0, .int 0, .int 0, .int 0]
theorem zd_Wa : ∀ j, j < 11 → defaultValue (ty_Wa j) = vp_V dfl_Wa j := fun j hj => by
  rcases (show j = 0 ∨ j = 1 ∨ j = 2 ∨ j = 3 ∨ j = 4 ∨ j = 5 ∨ j = 6 ∨ j = 7 ∨ j = 8 ∨ j = 9 ∨ j = 10 by omega) with rfl | rfl | rfl | rfl | rfl | rfl | rfl | rfl | rfl | rfl | rfl <;> rfl
theorem cd_Si {k : Nat} : ∀ (C : String) (F : u_T) (N : Nat), classes[9]? = some (C, F, N) → (F k).1 = "SubgraphDesk$Sieve" := by
  intro C F N h
  obtain ⟨h1, h2⟩ := Prod.mk.inj (Option.some.inj h)
  obtain ⟨h3, h4⟩ := Prod.mk.inj h2
  subst h3
  unfold F_Si
  split <;> rfl
theorem zi_Si : Cond.initialized R_Si ∈ lw_gd := gd 147 (by decide +kernel) rfl
theorem zk_Si : Cond.instantiable R_Si 2 ∈ lw_gd := gd 435 (by decide +kernel) rfl
def dfl_Si : List Value := [.null, .null]
theorem zd_Si : ∀ j, j < 2 → defaultValue (ty_Si j) = vp_V dfl_Si j := fun j hj => by
  rcases (show j = 0 ∨ j = 1 by omega) with rfl | rfl <;> rfl
theorem cd_Hu {k : Nat} : ∀ (C : String) (F : u_T) (N : Nat), classes[3]? = some (C, F, N) → (F k).1 = "SubgraphDesk$Hunt" := by
  intro C F N h
  obtain ⟨h1, h2⟩ := Prod.mk.inj (Option.some.inj h)
  obtain ⟨h3, h4⟩ := Prod.mk.inj h2
  subst h3
  unfold F_Hu
  split <;> rfl
theorem zi_Hu : Cond.initialized R_Hu ∈ lw_gd := gd 148 (by decide +kernel) rfl
theorem zk_Hu : Cond.instantiable R_Hu 8 ∈ lw_gd := gd 449 (by decide +kernel) rfl
def dfl_Hu : List Value := [.null, .null, .null, .int 0, .int 0, .int 0, .int 0, .int 0]
theorem zd_Hu : ∀ j, j < 8 → defaultValue (ty_Hu j) = vp_V dfl_Hu j := fun j hj => by
  rcases (show j = 0 ∨ j = 1 ∨ j = 2 ∨ j = 3 ∨ j = 4 ∨ j = 5 ∨ j = 6 ∨ j = 7 by omega) with rfl | rfl | rfl | rfl | rfl | rfl | rfl | rfl <;> rfl
theorem cd_Li {k : Nat} : ∀ (C : String) (F : u_T) (N : Nat), classes[5]? = some (C, F, N) → (F k).1 = "SubgraphDesk$Likeness" := by
  intro C F N h
  obtain ⟨h1, h2⟩ := Prod.mk.inj (Option.some.inj h)
  obtain ⟨h3, h4⟩ := Prod.mk.inj h2
  subst h3
  unfold F_Li
  split <;> rfl
theorem zi_Li : Cond.initialized R_Li ∈ lw_gd := gd 149 (by decide +kernel) rfl
theorem zk_Li : Cond.instantiable R_Li 7 ∈ lw_gd := gd 482 (by decide +kernel) rfl
def dfl_Li : List Value := [.null, .null, .int 0, .int 0, .null, .null, .null]
theorem zd_Li : ∀ j, j < 7 → defaultValue (ty_Li j) = vp_V dfl_Li j := fun j hj => by
  rcases (show j = 0 ∨ j = 1 ∨ j = 2 ∨ j = 3 ∨ j = 4 ∨ j = 5 ∨ j = 6 by omega) with rfl | rfl | rfl | rfl | rfl | rfl | rfl <;> rfl
theorem cd_Re {k : Nat} : ∀ (C : String) (F : u_T) (N : Nat), classes[7]? = some (C, F, N) → (F k).1 = "SubgraphDesk$Reader" := by
  intro C F N h
  obtain ⟨h1, h2⟩ := Prod.mk.inj (Option.some.inj h)
  obtain ⟨h3, h4⟩ := Prod.mk.inj h2
  subst h3
  unfold F_Re
  split <;> rfl
theorem zi_Re : Cond.initialized R_Re ∈ lw_gd := gd 142 (by decide +kernel) rfl
theorem zk_Re : Cond.instantiable R_Re 5 ∈ lw_gd := gd 289 (by decide +kernel) rfl
def dfl_Re : List Value := [.null, .null, .int 0, .int 0, .int 0]
theorem zd_Re : ∀ j, j < 5 → defaultValue (ty_Re j) = vp_V dfl_Re j := fun j hj => by
  rcases (show j = 0 ∨ j = 1 ∨ j = 2 ∨ j = 3 ∨ j = 4 by omega) with rfl | rfl | rfl | rfl | rfl <;> rfl
theorem cd_Ru {k : Nat} : ∀ (C : String) (F : u_T) (N : Nat), classes[8]? = some (C, F, N) → (F k).1 = "SubgraphDesk$Runner" := by
  intro C F N h
  obtain ⟨h1, h2⟩ := Prod.mk.inj (Option.some.inj h)
  obtain ⟨h3, h4⟩ := Prod.mk.inj h2
  subst h3
  unfold F_Ru
  split <;> rfl
theorem zi_Ru : Cond.initialized R_Ru ∈ lw_gd := gd 150 (by decide +kernel) rfl
theorem zk_Ru : Cond.instantiable R_Ru 10 ∈ lw_gd := gd 512 (by decide +kernel) rfl
def dfl_Ru : List Value := [.null, .null, .null, .null, .null, .null, .null, .int 0, .int 0, .int 0]
theorem zd_Ru : ∀ j, j < 10 → defaultValue (ty_Ru j) = vp_V dfl_Ru j := fun j hj => by
  rcases (show j = 0 ∨ j = 1 ∨ j = 2 ∨ j = 3 ∨ j = 4 ∨ j = 5 ∨ j = 6 ∨ j = 7 ∨ j = 8 ∨ j = 9 by omega) with rfl | rfl | rfl | rfl | rfl | rfl | rfl | rfl | rfl | rfl <;> rfl
theorem cd_M {k : Nat} : ∀ (C : String) (F : u_T) (N : Nat), classes[12]? = some (C, F, N) → (F k).1 = "SubgraphDeskModel" := by
  intro C F N h
  obtain ⟨h1, h2⟩ := Prod.mk.inj (Option.some.inj h)
  obtain ⟨h3, h4⟩ := Prod.mk.inj h2
  subst h3
  unfold F_M
  split <;> rfl
theorem zi_M : Cond.initialized R_M ∈ lw_gd := gd 151 (by decide +kernel) rfl
theorem zk_M : Cond.instantiable R_M 69 ∈ lw_gd := gd 1450 (by decide +kernel) rfl
def dfl_M : List Value := [.int 0, .int 0, .null, .null, .null, .null, .null, .null, .int 0, .null, .null, .int 0, .null, .int 0, .int 0, .int 0, .int 0, .long 0, .int 0, .int 0, .int 0, .int 0, .null, .int 0, .null, .null, .int 0, .null, .null, .int 0, .int 0, .null, .null, .null, .int 0, .null, .null, .null, .int 0, .long 0, .long 0, .null, .null, .null, .null, .int 0, .null, .int 0, .null, .null, .null, .null, .null, .int 0, .int 0, .null, .null, .null, .null, .null, .null, .null, .int 0, .int 0, .int 0, .int 0, .long 0, .null, .int 0]
theorem zd_M : ∀ j, j < 69 → defaultValue (ty_M j) = vp_V dfl_M j := fun j hj => by
  rcases (show j = 0 ∨ j = 1 ∨ j = 2 ∨ j = 3 ∨ j = 4 ∨ j = 5 ∨ j = 6 ∨ j = 7 ∨ j = 8 ∨ j = 9 ∨ j = 10 ∨ j = 11 ∨ j = 12 ∨ j = 13 ∨ j = 14 ∨ j = 15 ∨ j = 16 ∨ j = 17 ∨ j = 18 ∨ j = 19 ∨ j = 20 ∨ j = 21 ∨ j = 22 ∨ j = 23 ∨ j = 24 ∨ j = 25 ∨ j = 26 ∨ j = 27 ∨ j = 28 ∨ j = 29 ∨ j = 30 ∨ j = 31 ∨ j = 32 ∨ j = 33 ∨ j = 34 ∨ j = 35 ∨ j = 36 ∨ j = 37 ∨ j = 38 ∨ j = 39 ∨ j = 40 ∨ j = 41 ∨ j = 42 ∨ j = 43 ∨ j = 44 ∨ j = 45 ∨ j = 46 ∨ j = 47 ∨ j = 48 ∨ j = 49 ∨ j = 50 ∨ j = 51 ∨ j = 52 ∨ j = 53 ∨ j = 54 ∨ j = 55 ∨ j = 56 ∨ j = 57 ∨ j = 58 ∨ j = 59 ∨ j = 60 ∨ j = 61 ∨ j = 62 ∨ j = 63 ∨ j = 64 ∨ j = 65 ∨ j = 66 ∨ j = 67 ∨ j = 68 by omega) with rfl | rfl | rfl | rfl | rfl | rfl | rfl | rfl | rfl | rfl | rfl | rfl | rfl | rfl | rfl | rfl | rfl | rfl | rfl | rfl | rfl | rfl | rfl | rfl | rfl | rfl | rfl | rfl | rfl | rfl | rfl | rfl | rfl | rfl | rfl | rfl | rfl | rfl | rfl | rfl | rfl | rfl | rfl | rfl | rfl | rfl | rfl | rfl | rfl | rfl | rfl | rfl | rfl | rfl | rfl | rfl | rfl | rfl | rfl | rfl | rfl | rfl | rfl | rfl | rfl | rfl | rfl | rfl | rfl <;> rfl
theorem cd_D {k : Nat} : ∀ (C : String) (F : u_T) (N : Nat), classes[0]? = some (C, F, N) → (F k).1 = "SubgraphDesk" := by
  intro C F N h
  obtain ⟨h1, h2⟩ := Prod.mk.inj (Option.some.inj h)
  obtain ⟨h3, h4⟩ := Prod.mk.inj h2
  subst h3
  unfold F_D
  split <;> rfl
theorem zi_D : Cond.initialized R_D ∈ lw_gd := gd 139 (by decide +kernel) rfl
theorem zk_D : Cond.instantiable R_D 15 ∈ lw_gd := gd 161 (by decide +kernel) rfl
def dfl_D : List Value := [.null, .null, .null, .null, .null, .null, .null, .null, .null, .null, .null, .null, .null, .int 0, .int 0]
theorem zd_D : ∀ j, j < 15 → defaultValue (ty_D j) = vp_V dfl_D j := fun j hj => by
  rcases (show j = 0 ∨ j = 1 ∨ j = 2 ∨ j = 3 ∨ j = 4 ∨ j = 5 ∨ j = 6 ∨ j = 7 ∨ j = 8 ∨ j = 9 ∨ j = 10 ∨ j = 11 ∨ j = 12 ∨ j = 13 ∨ j = 14 by omega) with rfl | rfl | rfl | rfl | rfl | rfl | rfl | rfl | rfl | rfl | rfl | rfl | rfl | rfl | rfl <;> rfl
theorem zl_D_23 : Cond.classLink "SubgraphDesk" 23 R_Ac ∈ lw_gd := gd 265 (by decide +kernel) rfl
theorem zl_Ru_18 : Cond.classLink "SubgraphDesk$Runner" 18 R_Ac ∈ lw_gd := gd 519 (by decide +kernel) rfl
theorem zl_D_7 : Cond.classLink "SubgraphDesk" 7 R_Bo ∈ lw_gd := gd 168 (by decide +kernel) rfl
theorem zl_Ru_9 : Cond.classLink "SubgraphDesk$Runner" 9 R_Bo ∈ lw_gd := gd 517 (by decide +kernel) rfl
theorem zl_D_58 : Cond.classLink "SubgraphDesk" 58 R_Hu ∈ lw_gd := gd 448 (by decide +kernel) rfl
theorem zl_D_37 : Cond.classLink "SubgraphDesk" 37 R_Le ∈ lw_gd := gd 368 (by decide +kernel) rfl
theorem zl_D_65 : Cond.classLink "SubgraphDesk" 65 R_Li ∈ lw_gd := gd 481 (by decide +kernel) rfl
theorem zl_Bo_37 : Cond.classLink "SubgraphDesk$Board" 37 R_Pr ∈ lw_gd := gd 174 (by decide +kernel) rfl
theorem zl_Re_18 : Cond.classLink "SubgraphDesk$Reader" 18 R_Pr ∈ lw_gd := gd 327 (by decide +kernel) rfl
theorem zl_Pr_1 : Cond.classLink "SubgraphDesk$Program" 1 R_Pr ∈ lw_gd := gd 985 (by decide +kernel) rfl
theorem zl_D_30 : Cond.classLink "SubgraphDesk" 30 R_Re ∈ lw_gd := gd 288 (by decide +kernel) rfl
theorem zl_D_72 : Cond.classLink "SubgraphDesk" 72 R_Ru ∈ lw_gd := gd 511 (by decide +kernel) rfl
theorem zl_D_51 : Cond.classLink "SubgraphDesk" 51 R_Si ∈ lw_gd := gd 434 (by decide +kernel) rfl
theorem zl_Re_9 : Cond.classLink "SubgraphDesk$Reader" 9 R_Ta ∈ lw_gd := gd 294 (by decide +kernel) rfl
theorem zl_D_44 : Cond.classLink "SubgraphDesk" 44 R_Wa ∈ lw_gd := gd 392 (by decide +kernel) rfl
theorem zo_Pr : Cond.methodLink "SubgraphDesk$Program" 5 Lib.objectInit ∈ lw_gd := gd 332 (by decide +kernel) rfl
theorem zo_Ta : Cond.methodLink "SubgraphDesk$Tape" 3 Lib.objectInit ∈ lw_gd := gd 299 (by decide +kernel) rfl
theorem zo_Bo : Cond.methodLink "SubgraphDesk$Board" 3 Lib.objectInit ∈ lw_gd := gd 173 (by decide +kernel) rfl
theorem zo_Ac : Cond.methodLink "SubgraphDesk$Acts" 3 Lib.objectInit ∈ lw_gd := gd 270 (by decide +kernel) rfl
theorem zo_Le : Cond.methodLink "SubgraphDesk$Ledger" 3 Lib.objectInit ∈ lw_gd := gd 373 (by decide +kernel) rfl
theorem zo_Wa : Cond.methodLink "SubgraphDesk$Walker" 3 Lib.objectInit ∈ lw_gd := gd 397 (by decide +kernel) rfl
theorem zo_Si : Cond.methodLink "SubgraphDesk$Sieve" 3 Lib.objectInit ∈ lw_gd := gd 439 (by decide +kernel) rfl
theorem zo_Hu : Cond.methodLink "SubgraphDesk$Hunt" 3 Lib.objectInit ∈ lw_gd := gd 453 (by decide +kernel) rfl
theorem zo_Li : Cond.methodLink "SubgraphDesk$Likeness" 3 Lib.objectInit ∈ lw_gd := gd 486 (by decide +kernel) rfl
theorem zo_Re : Cond.methodLink "SubgraphDesk$Reader" 3 Lib.objectInit ∈ lw_gd := gd 293 (by decide +kernel) rfl
theorem zo_Ru : Cond.methodLink "SubgraphDesk$Runner" 3 Lib.objectInit ∈ lw_gd := gd 516 (by decide +kernel) rfl
theorem zo_M : Cond.methodLink "SubgraphDeskModel" 1 Lib.objectInit ∈ lw_gd := gd 1454 (by decide +kernel) rfl
theorem zo_D : Cond.methodLink "SubgraphDesk" 1 Lib.objectInit ∈ lw_gd := gd 165 (by decide +kernel) rfl
def blk_Pr (E : EV) (b0 : Nat) : List va_E := .inr (6, [.int 0, .int 0, .ref (b0 + 1), .ref (b0 + 2)]) :: ([.inl (eC E 0, 96, .inl (fun _ => 0))] ++ [.inl (eC E 0, 256, .inl (fun _ => 0))])
theorem c_Prk {E : EV} {b0 : Nat} : KT E m_Pr_init 1 2 352 b0 [.ref 0, .int (nI 96), .int (nI 256)] [.inr (6, dfl_Pr)] (blk_Pr E b0) := by
  refine KT_of (L := [.ref 0, .int (nI 96), .int (nI 256)]) cf_Pr_init rfl rfl rfl (Nat.le_of_ble_eq_true rfl) (fun X hX hF hin => ?_)
  have hcc := hF.1.2.2.1
  have hss := hF.1.2.2.2
  refine z_eq (cs2 := .inr (6, [.int 0, .int 0, .null, .null]) :: ([])) rfl ?_
  refine z_aload0 hX d_Pr_init_0 ?_
  refine z_objI hX hF.1 d_Pr_init_1 zo_Pr (by omega) (Nat.le_of_ble_eq_true rfl) ?_
  refine z_aload0 hX d_Pr_init_4 ?_
  refine z_iload1 hX d_Pr_init_5 ?_
  refine z_newI (n := 1) (N := 96) hX d_Pr_init_6 rfl (Nat.le_of_ble_eq_true rfl) rfl (Nat.le_of_ble_eq_true rfl) (by omega) (by omega) ?_
  refine z_eq (cs2 := .inr (6, [.int 0, .int 0, .null, .null]) :: ([.inl (eC E 0, 96, .inl (fun _ => 0))])) rfl ?_
  refine z_putF (v2 := .ref (b0 + 1)) hX hin d_Pr_init_8 fl_Pr_11 cd_Pr rfl rfl rfl (Nat.le_of_ble_eq_true rfl) ?_
  refine z_eq (cs2 := .inr (6, [.int 0, .int 0, .ref (b0 + 1), .null]) :: ([.inl (eC E 0, 96, .inl (fun _ => 0))])) rfl ?_
  refine z_aload0 hX d_Pr_init_11 ?_
  refine z_iload2 hX d_Pr_init_12 ?_
  refine z_newI (n := 2) (N := 256) hX d_Pr_init_13 rfl (Nat.le_of_ble_eq_true rfl) rfl (Nat.le_of_ble_eq_true rfl) (by omega) (by omega) ?_
  refine z_eq (cs2 := .inr (6, [.int 0, .int 0, .ref (b0 + 1), .null]) :: ([.inl (eC E 0, 96, .inl (fun _ => 0))] ++ [.inl (eC E 0, 256, .inl (fun _ => 0))])) rfl ?_
  refine z_putF (v2 := .ref (b0 + 2)) hX hin d_Pr_init_15 fl_Pr_15 cd_Pr rfl rfl rfl (Nat.le_of_ble_eq_true rfl) ?_
  refine z_eq (cs2 := .inr (6, [.int 0, .int 0, .ref (b0 + 1), .ref (b0 + 2)]) :: ([.inl (eC E 0, 96, .inl (fun _ => 0))] ++ [.inl (eC E 0, 256, .inl (fun _ => 0))])) rfl ?_
  exact z_vret hX hF d_Pr_init_18 (by omega) (by omega)
def blk_Ta (E : EV) (b0 : Nat) : List va_E := .inr (10, [.ref (b0 + 1), .int 0, .int 0, .int 0, .int 0, .int 0, .int 0]) :: ([.inl (eC E 0, 400, .inl (fun _ => 0))])
theorem c_Tak {E : EV} {b0 : Nat} : KT E m_Ta_init 1 1 400 b0 [.ref 0] [.inr (10, dfl_Ta)] (blk_Ta E b0) := by
  refine KT_of (L := [.ref 0]) cf_Ta_init rfl rfl rfl (Nat.le_of_ble_eq_true rfl) (fun X hX hF hin => ?_)
  have hcc := hF.1.2.2.1
  have hss := hF.1.2.2.2
  refine z_eq (cs2 := .inr (10, [.null, .int 0, .int 0, .int 0, .int 0, .int 0, .int 0]) :: ([])) rfl ?_
  refine z_aload0 hX d_Ta_init_0 ?_
  refine z_objI hX hF.1 d_Ta_init_1 zo_Ta (by omega) (Nat.le_of_ble_eq_true rfl) ?_
  refine z_aload0 hX d_Ta_init_4 ?_
  refine z_sipush (v := nI 400) hX d_Ta_init_5 rfl ?_
  refine z_newI (n := 1) (N := 400) hX d_Ta_init_8 rfl (Nat.le_of_ble_eq_true rfl) rfl (Nat.le_of_ble_eq_true rfl) (by omega) (by omega) ?_
  refine z_eq (cs2 := .inr (10, [.null, .int 0, .int 0, .int 0, .int 0, .int 0, .int 0]) :: ([.inl (eC E 0, 400, .inl (fun _ => 0))])) rfl ?_
  refine z_putF (v2 := .ref (b0 + 1)) hX hin d_Ta_init_10 fl_Ta_9 cd_Ta rfl rfl rfl (Nat.le_of_ble_eq_true rfl) ?_
  refine z_eq (cs2 := .inr (10, [.ref (b0 + 1), .int 0, .int 0, .int 0, .int 0, .int 0, .int 0]) :: ([.inl (eC E 0, 400, .inl (fun _ => 0))])) rfl ?_
  exact z_vret hX hF d_Ta_init_13 (by omega) (by omega)
def blk_Bo (E : EV) (b0 : Nat) : List va_E := .inr (2, [.int 0, .ref (b0 + 1), .ref (b0 + 2), .int 0, .ref (b0 + 3), .int 0, .ref (b0 + 4), .ref (b0 + 5), .int 0, .ref (b0 + 6), .ref (b0 + 7), .int 0, .int (-1), .ref (b0 + 8), .int 0]) :: ([.inl (eC E 0, 12, .inl (fun _ => 0))] ++ [.inl (eC E 0, 12, .inl (fun _ => 0))] ++ [.inl (eC E 0, 66, .inl (fun _ => 0))] ++ [.inl (eC E 0, 5, .inl (fun _ => 0))] ++ [.inl (eC E 0, 5, .inl (fun _ => 0))] ++ [.inl (eC E 0, 6, .inl (fun _ => 0))] ++ [.inl (eC E 0, 3, .inl (upd (fun _ => 0) 1 (nI 1)))] ++ [.inl (eC E 3, 6, .inr (.inr (.inr (.inr (fun _ => none)))))])
theorem c_Bok {E : EV} {b0 : Nat} : KT E m_Bo_init 1 8 115 b0 [.ref 0] [.inr (2, dfl_Bo)] (blk_Bo E b0) := by
  refine KT_of (L := [.ref 0]) cf_Bo_init rfl rfl rfl (Nat.le_of_ble_eq_true rfl) (fun X hX hF hin => ?_)
  have hcc := hF.1.2.2.1
  have hss := hF.1.2.2.2
  refine z_eq (cs2 := .inr (2, [.int 0, .null, .null, .int 0, .null, .int 0, .null, .null, .int 0, .null, .null, .int 0, .int 0, .null, .int 0]) :: ([])) rfl ?_
  refine z_aload0 hX d_Bo_init_0 ?_
  refine z_objI hX hF.1 d_Bo_init_1 zo_Bo (by omega) (Nat.le_of_ble_eq_true rfl) ?_
  refine z_aload0 hX d_Bo_init_4 ?_
  refine z_bipush (v := nI 12) hX d_Bo_init_5 rfl ?_
  refine z_newI (n := 1) (N := 12) hX d_Bo_init_7 rfl (Nat.le_of_ble_eq_true rfl) rfl (Nat.le_of_ble_eq_true rfl) (by omega) (by omega) ?_
  refine z_eq (cs2 := .inr (2, [.int 0, .null, .null, .int 0, .null, .int 0, .null, .null, .int 0, .null, .null, .int 0, .int 0, .null, .int 0]) :: ([.inl (eC E 0, 12, .inl (fun _ => 0))])) rfl ?_
  refine z_putF (v2 := .ref (b0 + 1)) hX hin d_Bo_init_9 fl_Bo_9 cd_Bo rfl rfl rfl (Nat.le_of_ble_eq_true rfl) ?_
  refine z_eq (cs2 := .inr (2, [.int 0, .ref (b0 + 1), .null, .int 0, .null, .int 0, .null, .null, .int 0, .null, .null, .int 0, .int 0, .null, .int 0]) :: ([.inl (eC E 0, 12, .inl (fun _ => 0))])) rfl ?_
  refine z_aload0 hX d_Bo_init_12 ?_
  refine z_bipush (v := nI 12) hX d_Bo_init_13 rfl ?_
  refine z_newI (n := 2) (N := 12) hX d_Bo_init_15 rfl (Nat.le_of_ble_eq_true rfl) rfl (Nat.le_of_ble_eq_true rfl) (by omega) (by omega) ?_
  refine z_eq (cs2 := .inr (2, [.int 0, .ref (b0 + 1), .null, .int 0, .null, .int 0, .null, .null, .int 0, .null, .null, .int 0, .int 0, .null, .int 0]) :: ([.inl (eC E 0, 12, .inl (fun _ => 0))] ++ [.inl (eC E 0, 12, .inl (fun _ => 0))])) rfl ?_
  refine z_putF (v2 := .ref (b0 + 2)) hX hin d_Bo_init_17 fl_Bo_15 cd_Bo rfl rfl rfl (Nat.le_of_ble_eq_true rfl) ?_
  refine z_eq (cs2 := .inr (2, [.int 0, .ref (b0 + 1), .ref (b0 + 2), .int 0, .null, .int 0, .null, .null, .int 0, .null, .null, .int 0, .int 0, .null, .int 0]) :: ([.inl (eC E 0, 12, .inl (fun _ => 0))] ++ [.inl (eC E 0, 12, .inl (fun _ => 0))])) rfl ?_
  refine z_aload0 hX d_Bo_init_20 ?_
  refine z_bipush (v := nI 66) hX d_Bo_init_21 rfl ?_
  refine z_newI (n := 3) (N := 66) hX d_Bo_init_23 rfl (Nat.le_of_ble_eq_true rfl) rfl (Nat.le_of_ble_eq_true rfl) (by omega) (by omega) ?_
  refine z_eq (cs2 := .inr (2, [.int 0, .ref (b0 + 1), .ref (b0 + 2), .int 0, .null, .int 0, .null, .null, .int 0, .null, .null, .int 0, .int 0, .null, .int 0]) :: ([.inl (eC E 0, 12, .inl (fun _ => 0))] ++ [.inl (eC E 0, 12, .inl (fun _ => 0))] ++ [.inl (eC E 0, 66, .inl (fun _ => 0))])) rfl ?_
  refine z_putF (v2 := .ref (b0 + 3)) hX hin d_Bo_init_25 fl_Bo_18 cd_Bo rfl rfl rfl (Nat.le_of_ble_eq_true rfl) ?_
  refine z_eq (cs2 := .inr (2, [.int 0, .ref (b0 + 1), .ref (b0 + 2), .int 0, .ref (b0 + 3), .int 0, .null, .null, .int 0, .null, .null, .int 0, .int 0, .null, .int 0]) :: ([.inl (eC E 0, 12, .inl (fun _ => 0))] ++ [.inl (eC E 0, 12, .inl (fun _ => 0))] ++ [.inl (eC E 0, 66, .inl (fun _ => 0))])) rfl ?_
  refine z_aload0 hX d_Bo_init_28 ?_
  refine z_iconst (v := nI 5) hX d_Bo_init_29 rfl ?_
  refine z_newI (n := 4) (N := 5) hX d_Bo_init_30 rfl (Nat.le_of_ble_eq_true rfl) rfl (Nat.le_of_ble_eq_true rfl) (by omega) (by omega) ?_
  refine z_eq (cs2 := .inr (2, [.int 0, .ref (b0 + 1), .ref (b0 + 2), .int 0, .ref (b0 + 3), .int 0, .null, .null, .int 0, .null, .null, .int 0, .int 0, .null, .int 0]) :: ([.inl (eC E 0, 12, .inl (fun _ => 0))] ++ [.inl (eC E 0, 12, .inl (fun _ => 0))] ++ [.inl (eC E 0, 66, .inl (fun _ => 0))] ++ [.inl (eC E 0, 5, .inl (fun _ => 0))])) rfl ?_
  refine z_putF (v2 := .ref (b0 + 4)) hX hin d_Bo_init_32 fl_Bo_21 cd_Bo rfl rfl rfl (Nat.le_of_ble_eq_true rfl) ?_
  refine z_eq (cs2 := .inr (2, [.int 0, .ref (b0 + 1), .ref (b0 + 2), .int 0, .ref (b0 + 3), .int 0, .ref (b0 + 4), .null, .int 0, .null, .null, .int 0, .int 0, .null, .int 0]) :: ([.inl (eC E 0, 12, .inl (fun _ => 0))] ++ [.inl (eC E 0, 12, .inl (fun _ => 0))] ++ [.inl (eC E 0, 66, .inl (fun _ => 0))] ++ [.inl (eC E 0, 5, .inl (fun _ => 0))])) rfl ?_
  refine z_aload0 hX d_Bo_init_35 ?_
  refine z_iconst (v := nI 5) hX d_Bo_init_36 rfl ?_
  refine z_newI (n := 5) (N := 5) hX d_Bo_init_37 rfl (Nat.le_of_ble_eq_true rfl) rfl (Nat.le_of_ble_eq_true rfl) (by omega) (by omega) ?_
  refine z_eq (cs2 := .inr (2, [.int 0, .ref (b0 + 1), .ref (b0 + 2), .int 0, .ref (b0 + 3), .int 0, .ref (b0 + 4), .null, .int 0, .null, .null, .int 0, .int 0, .null, .int 0]) :: ([.inl (eC E 0, 12, .inl (fun _ => 0))] ++ [.inl (eC E 0, 12, .inl (fun _ => 0))] ++ [.inl (eC E 0, 66, .inl (fun _ => 0))] ++ [.inl (eC E 0, 5, .inl (fun _ => 0))] ++ [.inl (eC E 0, 5, .inl (fun _ => 0))])) rfl ?_
  refine z_putF (v2 := .ref (b0 + 5)) hX hin d_Bo_init_39 fl_Bo_24 cd_Bo rfl rfl rfl (Nat.le_of_ble_eq_true rfl) ?_
  refine z_eq (cs2 := .inr (2, [.int 0, .ref (b0 + 1), .ref (b0 + 2), .int 0, .ref (b0 + 3), .int 0, .ref (b0 + 4), .ref (b0 + 5), .int 0, .null, .null, .int 0, .int 0, .null, .int 0]) :: ([.inl (eC E 0, 12, .inl (fun _ => 0))] ++ [.inl (eC E 0, 12, .inl (fun _ => 0))] ++ [.inl (eC E 0, 66, .inl (fun _ => 0))] ++ [.inl (eC E 0, 5, .inl (fun _ => 0))] ++ [.inl (eC E 0, 5, .inl (fun _ => 0))])) rfl ?_
  refine z_aload0 hX d_Bo_init_42 ?_
  refine z_bipush (v := nI 6) hX d_Bo_init_43 rfl ?_
  refine z_newI (n := 6) (N := 6) hX d_Bo_init_45 rfl (Nat.le_of_ble_eq_true rfl) rfl (Nat.le_of_ble_eq_true rfl) (by omega) (by omega) ?_
  refine z_eq (cs2 := .inr (2, [.int 0, .ref (b0 + 1), .ref (b0 + 2), .int 0, .ref (b0 + 3), .int 0, .ref (b0 + 4), .ref (b0 + 5), .int 0, .null, .null, .int 0, .int 0, .null, .int 0]) :: ([.inl (eC E 0, 12, .inl (fun _ => 0))] ++ [.inl (eC E 0, 12, .inl (fun _ => 0))] ++ [.inl (eC E 0, 66, .inl (fun _ => 0))] ++ [.inl (eC E 0, 5, .inl (fun _ => 0))] ++ [.inl (eC E 0, 5, .inl (fun _ => 0))] ++ [.inl (eC E 0, 6, .inl (fun _ => 0))])) rfl ?_
  refine z_putF (v2 := .ref (b0 + 6)) hX hin d_Bo_init_47 fl_Bo_27 cd_Bo rfl rfl rfl (Nat.le_of_ble_eq_true rfl) ?_
  refine z_eq (cs2 := .inr (2, [.int 0, .ref (b0 + 1), .ref (b0 + 2), .int 0, .ref (b0 + 3), .int 0, .ref (b0 + 4), .ref (b0 + 5), .int 0, .ref (b0 + 6), .null, .int 0, .int 0, .null, .int 0]) :: ([.inl (eC E 0, 12, .inl (fun _ => 0))] ++ [.inl (eC E 0, 12, .inl (fun _ => 0))] ++ [.inl (eC E 0, 66, .inl (fun _ => 0))] ++ [.inl (eC E 0, 5, .inl (fun _ => 0))] ++ [.inl (eC E 0, 5, .inl (fun _ => 0))] ++ [.inl (eC E 0, 6, .inl (fun _ => 0))])) rfl ?_
  refine z_aload0 hX d_Bo_init_50 ?_
  refine z_iconst (v := nI 3) hX d_Bo_init_51 rfl ?_
  refine z_newI (n := 7) (N := 3) hX d_Bo_init_52 rfl (Nat.le_of_ble_eq_true rfl) rfl (Nat.le_of_ble_eq_true rfl) (by omega) (by omega) ?_
  refine z_eq (cs2 := .inr (2, [.int 0, .ref (b0 + 1), .ref (b0 + 2), .int 0, .ref (b0 + 3), .int 0, .ref (b0 + 4), .ref (b0 + 5), .int 0, .ref (b0 + 6), .null, .int 0, .int 0, .null, .int 0]) :: ([.inl (eC E 0, 12, .inl (fun _ => 0))] ++ [.inl (eC E 0, 12, .inl (fun _ => 0))] ++ [.inl (eC E 0, 66, .inl (fun _ => 0))] ++ [.inl (eC E 0, 5, .inl (fun _ => 0))] ++ [.inl (eC E 0, 5, .inl (fun _ => 0))] ++ [.inl (eC E 0, 6, .inl (fun _ => 0))] ++ [.inl (eC E 0, 3, .inl (fun _ => 0))])) rfl ?_
  refine z_putF (v2 := .ref (b0 + 7)) hX hin d_Bo_init_54 fl_Bo_30 cd_Bo rfl rfl rfl (Nat.le_of_ble_eq_true rfl) ?_
  refine z_eq (cs2 := .inr (2, [.int 0, .ref (b0 + 1), .ref (b0 + 2), .int 0, .ref (b0 + 3), .int 0, .ref (b0 + 4), .ref (b0 + 5), .int 0, .ref (b0 + 6), .ref (b0 + 7), .int 0, .int 0, .null, .int 0]) :: ([.inl (eC E 0, 12, .inl (fun _ => 0))] ++ [.inl (eC E 0, 12, .inl (fun _ => 0))] ++ [.inl (eC E 0, 66, .inl (fun _ => 0))] ++ [.inl (eC E 0, 5, .inl (fun _ => 0))] ++ [.inl (eC E 0, 5, .inl (fun _ => 0))] ++ [.inl (eC E 0, 6, .inl (fun _ => 0))] ++ [.inl (eC E 0, 3, .inl (fun _ => 0))])) rfl ?_
  refine z_aload0 hX d_Bo_init_57 ?_
  refine z_iconst (v := -1) hX d_Bo_init_58 rfl ?_
  refine z_put (v2 := .int (-1)) hX d_Bo_init_59 fl_Bo_33 rfl rfl rfl (Nat.le_of_ble_eq_true rfl) ?_
  refine z_eq (cs2 := .inr (2, [.int 0, .ref (b0 + 1), .ref (b0 + 2), .int 0, .ref (b0 + 3), .int 0, .ref (b0 + 4), .ref (b0 + 5), .int 0, .ref (b0 + 6), .ref (b0 + 7), .int 0, .int (-1), .null, .int 0]) :: ([.inl (eC E 0, 12, .inl (fun _ => 0))] ++ [.inl (eC E 0, 12, .inl (fun _ => 0))] ++ [.inl (eC E 0, 66, .inl (fun _ => 0))] ++ [.inl (eC E 0, 5, .inl (fun _ => 0))] ++ [.inl (eC E 0, 5, .inl (fun _ => 0))] ++ [.inl (eC E 0, 6, .inl (fun _ => 0))] ++ [.inl (eC E 0, 3, .inl (fun _ => 0))])) rfl ?_
  refine z_aload0 hX d_Bo_init_62 ?_
  refine z_bipush (v := nI 6) hX d_Bo_init_63 rfl ?_
  refine z_newq (n := 8) (N := 6) (t0 := 3) hX d_Bo_init_65 zl_Bo_37 hX.ao.1 rfl rfl (by decide) rfl (by decide) (by omega) (by omega) ?_
  refine z_eq (cs2 := .inr (2, [.int 0, .ref (b0 + 1), .ref (b0 + 2), .int 0, .ref (b0 + 3), .int 0, .ref (b0 + 4), .ref (b0 + 5), .int 0, .ref (b0 + 6), .ref (b0 + 7), .int 0, .int (-1), .null, .int 0]) :: ([.inl (eC E 0, 12, .inl (fun _ => 0))] ++ [.inl (eC E 0, 12, .inl (fun _ => 0))] ++ [.inl (eC E 0, 66, .inl (fun _ => 0))] ++ [.inl (eC E 0, 5, .inl (fun _ => 0))] ++ [.inl (eC E 0, 5, .inl (fun _ => 0))] ++ [.inl (eC E 0, 6, .inl (fun _ => 0))] ++ [.inl (eC E 0, 3, .inl (fun _ => 0))] ++ [.inl (eC E 3, 6, .inr (.inr (.inr (.inr (fun _ => none)))))])) rfl ?_
  refine z_putF (v2 := .ref (b0 + 8)) hX hin d_Bo_init_68 fl_Bo_39 cd_Bo rfl rfl rfl (Nat.le_of_ble_eq_true rfl) ?_
  refine z_eq (cs2 := .inr (2, [.int 0, .ref (b0 + 1), .ref (b0 + 2), .int 0, .ref (b0 + 3), .int 0, .ref (b0 + 4), .ref (b0 + 5), .int 0, .ref (b0 + 6), .ref (b0 + 7), .int 0, .int (-1), .ref (b0 + 8), .int 0]) :: ([.inl (eC E 0, 12, .inl (fun _ => 0))] ++ [.inl (eC E 0, 12, .inl (fun _ => 0))] ++ [.inl (eC E 0, 66, .inl (fun _ => 0))] ++ [.inl (eC E 0, 5, .inl (fun _ => 0))] ++ [.inl (eC E 0, 5, .inl (fun _ => 0))] ++ [.inl (eC E 0, 6, .inl (fun _ => 0))] ++ [.inl (eC E 0, 3, .inl (fun _ => 0))] ++ [.inl (eC E 3, 6, .inr (.inr (.inr (.inr (fun _ => none)))))])) rfl ?_
  refine z_aload0 hX d_Bo_init_71 ?_
  refine z_get (v := .ref 7) hX d_Bo_init_72 fl_Bo_30 rfl ?_
  refine z_iconst (v := nI 1) hX d_Bo_init_75 rfl ?_
  refine z_iconst (v := nI 1) hX d_Bo_init_76 rfl ?_
  refine z_iast (n := 7) (N := 3) (j := 1) (f := fun _ => 0) hX d_Bo_init_77 rfl rfl rfl (by decide) (by decide) ?_
  refine z_eq (cs2 := .inr (2, [.int 0, .ref (b0 + 1), .ref (b0 + 2), .int 0, .ref (b0 + 3), .int 0, .ref (b0 + 4), .ref (b0 + 5), .int 0, .ref (b0 + 6), .ref (b0 + 7), .int 0, .int (-1), .ref (b0 + 8), .int 0]) :: ([.inl (eC E 0, 12, .inl (fun _ => 0))] ++ [.inl (eC E 0, 12, .inl (fun _ => 0))] ++ [.inl (eC E 0, 66, .inl (fun _ => 0))] ++ [.inl (eC E 0, 5, .inl (fun _ => 0))] ++ [.inl (eC E 0, 5, .inl (fun _ => 0))] ++ [.inl (eC E 0, 6, .inl (fun _ => 0))] ++ [.inl (eC E 0, 3, .inl (upd (fun _ => 0) 1 (nI 1)))] ++ [.inl (eC E 3, 6, .inr (.inr (.inr (.inr (fun _ => none)))))])) rfl ?_
  exact z_vret hX hF d_Bo_init_78 (by omega) (by omega)
def blk_Ac (E : EV) (b0 : Nat) : List va_E := .inr (1, [.int 0, .ref (b0 + 1), .ref (b0 + 2), .ref (b0 + 3), .ref (b0 + 4)]) :: ([.inl (eC E 0, 16, .inl (fun _ => 0))] ++ [.inl (eC E 0, 16, .inl (fun _ => 0))] ++ [.inl (eC E 0, 16, .inl (fun _ => 0))] ++ [.inl (eC E 0, 16, .inl (fun _ => 0))])
theorem c_Ack {E : EV} {b0 : Nat} : KT E m_Ac_init 1 4 64 b0 [.ref 0] [.inr (1, dfl_Ac)] (blk_Ac E b0) := by
  refine KT_of (L := [.ref 0]) cf_Ac_init rfl rfl rfl (Nat.le_of_ble_eq_true rfl) (fun X hX hF hin => ?_)
  have hcc := hF.1.2.2.1
  have hss := hF.1.2.2.2
  refine z_eq (cs2 := .inr (1, [.int 0, .null, .null, .null, .null]) :: ([])) rfl ?_
  refine z_aload0 hX d_Ac_init_0 ?_
  refine z_objI hX hF.1 d_Ac_init_1 zo_Ac (by omega) (Nat.le_of_ble_eq_true rfl) ?_
  refine z_aload0 hX d_Ac_init_4 ?_
  refine z_bipush (v := nI 16) hX d_Ac_init_5 rfl ?_
  refine z_newI (n := 1) (N := 16) hX d_Ac_init_7 rfl (Nat.le_of_ble_eq_true rfl) rfl (Nat.le_of_ble_eq_true rfl) (by omega) (by omega) ?_
  refine z_eq (cs2 := .inr (1, [.int 0, .null, .null, .null, .null]) :: ([.inl (eC E 0, 16, .inl (fun _ => 0))])) rfl ?_
  refine z_putF (v2 := .ref (b0 + 1)) hX hin d_Ac_init_9 fl_Ac_11 cd_Ac rfl rfl rfl (Nat.le_of_ble_eq_true rfl) ?_
  refine z_eq (cs2 := .inr (1, [.int 0, .ref (b0 + 1), .null, .null, .null]) :: ([.inl (eC E 0, 16, .inl (fun _ => 0))])) rfl ?_
  refine z_aload0 hX d_Ac_init_12 ?_
  refine z_bipush (v := nI 16) hX d_Ac_init_13 rfl ?_
  refine z_newI (n := 2) (N := 16) hX d_Ac_init_15 rfl (Nat.le_of_ble_eq_true rfl) rfl (Nat.le_of_ble_eq_true rfl) (by omega) (by omega) ?_
  refine z_eq (cs2 := .inr (1, [.int 0, .ref (b0 + 1), .null, .null, .null]) :: ([.inl (eC E 0, 16, .inl (fun _ => 0))] ++ [.inl (eC E 0, 16, .inl (fun _ => 0))])) rfl ?_
  refine z_putF (v2 := .ref (b0 + 2)) hX hin d_Ac_init_17 fl_Ac_15 cd_Ac rfl rfl rfl (Nat.le_of_ble_eq_true rfl) ?_
  refine z_eq (cs2 := .inr (1, [.int 0, .ref (b0 + 1), .ref (b0 + 2), .null, .null]) :: ([.inl (eC E 0, 16, .inl (fun _ => 0))] ++ [.inl (eC E 0, 16, .inl (fun _ => 0))])) rfl ?_
  refine z_aload0 hX d_Ac_init_20 ?_
  refine z_bipush (v := nI 16) hX d_Ac_init_21 rfl ?_
  refine z_newI (n := 3) (N := 16) hX d_Ac_init_23 rfl (Nat.le_of_ble_eq_true rfl) rfl (Nat.le_of_ble_eq_true rfl) (by omega) (by omega) ?_
  refine z_eq (cs2 := .inr (1, [.int 0, .ref (b0 + 1), .ref (b0 + 2), .null, .null]) :: ([.inl (eC E 0, 16, .inl (fun _ => 0))] ++ [.inl (eC E 0, 16, .inl (fun _ => 0))] ++ [.inl (eC E 0, 16, .inl (fun _ => 0))])) rfl ?_
  refine z_putF (v2 := .ref (b0 + 3)) hX hin d_Ac_init_25 fl_Ac_18 cd_Ac rfl rfl rfl (Nat.le_of_ble_eq_true rfl) ?_
  refine z_eq (cs2 := .inr (1, [.int 0, .ref (b0 + 1), .ref (b0 + 2), .ref (b0 + 3), .null]) :: ([.inl (eC E 0, 16, .inl (fun _ => 0))] ++ [.inl (eC E 0, 16, .inl (fun _ => 0))] ++ [.inl (eC E 0, 16, .inl (fun _ => 0))])) rfl ?_
  refine z_aload0 hX d_Ac_init_28 ?_
  refine z_bipush (v := nI 16) hX d_Ac_init_29 rfl ?_
  refine z_newI (n := 4) (N := 16) hX d_Ac_init_31 rfl (Nat.le_of_ble_eq_true rfl) rfl (Nat.le_of_ble_eq_true rfl) (by omega) (by omega) ?_
  refine z_eq (cs2 := .inr (1, [.int 0, .ref (b0 + 1), .ref (b0 + 2), .ref (b0 + 3), .null]) :: ([.inl (eC E 0, 16, .inl (fun _ => 0))] ++ [.inl (eC E 0, 16, .inl (fun _ => 0))] ++ [.inl (eC E 0, 16, .inl (fun _ => 0))] ++ [.inl (eC E 0, 16, .inl (fun _ => 0))])) rfl ?_
  refine z_putF (v2 := .ref (b0 + 4)) hX hin d_Ac_init_33 fl_Ac_21 cd_Ac rfl rfl rfl (Nat.le_of_ble_eq_true rfl) ?_
  refine z_eq (cs2 := .inr (1, [.int 0, .ref (b0 + 1), .ref (b0 + 2), .ref (b0 + 3), .ref (b0 + 4)]) :: ([.inl (eC E 0, 16, .inl (fun _ => 0))] ++ [.inl (eC E 0, 16, .inl (fun _ => 0))] ++ [.inl (eC E 0, 16, .inl (fun _ => 0))] ++ [.inl (eC E 0, 16, .inl (fun _ => 0))])) rfl ?_
  exact z_vret hX hF d_Ac_init_36 (by omega) (by omega)
def blk_Le (E : EV) (b0 : Nat) : List va_E := .inr (4, [.ref (b0 + 1), .ref (b0 + 2), .ref (b0 + 3), .ref (b0 + 4)]) :: ([.inl (eC E 0, 5, .inl (fun _ => 0))] ++ [.inl (eC E 0, 60, .inl (fun _ => 0))] ++ [.inl (eC E 0, 7, .inl (fun _ => 0))] ++ [.inl (eC E 1, 64, .inr (.inl (fun _ => 0)))])
theorem c_Lek {E : EV} {b0 : Nat} : KT E m_Le_init 1 4 136 b0 [.ref 0] [.inr (4, dfl_Le)] (blk_Le E b0) := by
  refine KT_of (L := [.ref 0]) cf_Le_init rfl rfl rfl (Nat.le_of_ble_eq_true rfl) (fun X hX hF hin => ?_)
  have hcc := hF.1.2.2.1
  have hss := hF.1.2.2.2
  refine z_eq (cs2 := .inr (4, [.null, .null, .null, .null]) :: ([])) rfl ?_
  refine z_aload0 hX d_Le_init_0 ?_
  refine z_objI hX hF.1 d_Le_init_1 zo_Le (by omega) (Nat.le_of_ble_eq_true rfl) ?_
  refine z_aload0 hX d_Le_init_4 ?_
  refine z_iconst (v := nI 5) hX d_Le_init_5 rfl ?_
  refine z_newI (n := 1) (N := 5) hX d_Le_init_6 rfl (Nat.le_of_ble_eq_true rfl) rfl (Nat.le_of_ble_eq_true rfl) (by omega) (by omega) ?_
  refine z_eq (cs2 := .inr (4, [.null, .null, .null, .null]) :: ([.inl (eC E 0, 5, .inl (fun _ => 0))])) rfl ?_
  refine z_putF (v2 := .ref (b0 + 1)) hX hin d_Le_init_8 fl_Le_9 cd_Le rfl rfl rfl (Nat.le_of_ble_eq_true rfl) ?_
  refine z_eq (cs2 := .inr (4, [.ref (b0 + 1), .null, .null, .null]) :: ([.inl (eC E 0, 5, .inl (fun _ => 0))])) rfl ?_
  refine z_aload0 hX d_Le_init_11 ?_
  refine z_bipush (v := nI 60) hX d_Le_init_12 rfl ?_
  refine z_newI (n := 2) (N := 60) hX d_Le_init_14 rfl (Nat.le_of_ble_eq_true rfl) rfl (Nat.le_of_ble_eq_true rfl) (by omega) (by omega) ?_
  refine z_eq (cs2 := .inr (4, [.ref (b0 + 1), .null, .null, .null]) :: ([.inl (eC E 0, 5, .inl (fun _ => 0))] ++ [.inl (eC E 0, 60, .inl (fun _ => 0))])) rfl ?_
  refine z_putF (v2 := .ref (b0 + 2)) hX hin d_Le_init_16 fl_Le_15 cd_Le rfl rfl rfl (Nat.le_of_ble_eq_true rfl) ?_
  refine z_eq (cs2 := .inr (4, [.ref (b0 + 1), .ref (b0 + 2), .null, .null]) :: ([.inl (eC E 0, 5, .inl (fun _ => 0))] ++ [.inl (eC E 0, 60, .inl (fun _ => 0))])) rfl ?_
  refine z_aload0 hX d_Le_init_19 ?_
  refine z_bipush (v := nI 7) hX d_Le_init_20 rfl ?_
  refine z_newI (n := 3) (N := 7) hX d_Le_init_22 rfl (Nat.le_of_ble_eq_true rfl) rfl (Nat.le_of_ble_eq_true rfl) (by omega) (by omega) ?_
  refine z_eq (cs2 := .inr (4, [.ref (b0 + 1), .ref (b0 + 2), .null, .null]) :: ([.inl (eC E 0, 5, .inl (fun _ => 0))] ++ [.inl (eC E 0, 60, .inl (fun _ => 0))] ++ [.inl (eC E 0, 7, .inl (fun _ => 0))])) rfl ?_
  refine z_putF (v2 := .ref (b0 + 3)) hX hin d_Le_init_24 fl_Le_18 cd_Le rfl rfl rfl (Nat.le_of_ble_eq_true rfl) ?_
  refine z_eq (cs2 := .inr (4, [.ref (b0 + 1), .ref (b0 + 2), .ref (b0 + 3), .null]) :: ([.inl (eC E 0, 5, .inl (fun _ => 0))] ++ [.inl (eC E 0, 60, .inl (fun _ => 0))] ++ [.inl (eC E 0, 7, .inl (fun _ => 0))])) rfl ?_
  refine z_aload0 hX d_Le_init_27 ?_
  refine z_bipush (v := nI 64) hX d_Le_init_28 rfl ?_
  refine z_newJ (n := 4) (N := 64) hX d_Le_init_30 rfl (Nat.le_of_ble_eq_true rfl) rfl (Nat.le_of_ble_eq_true rfl) (by omega) (by omega) ?_
  refine z_eq (cs2 := .inr (4, [.ref (b0 + 1), .ref (b0 + 2), .ref (b0 + 3), .null]) :: ([.inl (eC E 0, 5, .inl (fun _ => 0))] ++ [.inl (eC E 0, 60, .inl (fun _ => 0))] ++ [.inl (eC E 0, 7, .inl (fun _ => 0))] ++ [.inl (eC E 1, 64, .inr (.inl (fun _ => 0)))])) rfl ?_
  refine z_putF (v2 := .ref (b0 + 4)) hX hin d_Le_init_32 fl_Le_21 cd_Le rfl rfl rfl (Nat.le_of_ble_eq_true rfl) ?_
  refine z_eq (cs2 := .inr (4, [.ref (b0 + 1), .ref (b0 + 2), .ref (b0 + 3), .ref (b0 + 4)]) :: ([.inl (eC E 0, 5, .inl (fun _ => 0))] ++ [.inl (eC E 0, 60, .inl (fun _ => 0))] ++ [.inl (eC E 0, 7, .inl (fun _ => 0))] ++ [.inl (eC E 1, 64, .inr (.inl (fun _ => 0)))])) rfl ?_
  exact z_vret hX hF d_Le_init_35 (by omega) (by omega)
def blk_Wa (E : EV) (b0 : Nat) : List va_E := .inr (11, [.ref (b0 + 1), .ref (b0 + 2), .ref (b0 + 3), .ref (b0 + 4), .ref (b0 + 5), .null, .null, .int 0, .int 0, .int 0, .int 0]) :: ([.inl (eC E 0, 5, .inl (fun _ => 0))] ++ [.inl (eC E 0, 5, .inl (fun _ => 0))] ++ [.inl (eC E 0, 5, .inl (fun _ => 0))] ++ [.inl (eC E 0, 60, .inl (fun _ => 0))] ++ [.inl (eC E 0, 60, .inl (fun _ => 0))])
theorem c_Wak {E : EV} {b0 : Nat} : KT E m_Wa_init 1 5 135 b0 [.ref 0] [.inr (11, dfl_Wa)] (blk_Wa E b0) := by
  refine KT_of (L := [.ref 0]) cf_Wa_init rfl rfl rfl (Nat.le_of_ble_eq_true rfl) (fun X hX hF hin => ?_)
  have hcc := hF.1.2.2.1
  have hss := hF.1.2.2.2
  refine z_eq (cs2 := .inr (11, [.null, .null, .null, .null, .null, .null, .null, .int 0, .int 0, .int 0, .int 0]) :: ([])) rfl ?_
  refine z_aload0 hX d_Wa_init_0 ?_
  refine z_objI hX hF.1 d_Wa_init_1 zo_Wa (by omega) (Nat.le_of_ble_eq_true rfl) ?_
  refine z_aload0 hX d_Wa_init_4 ?_
  refine z_iconst (v := nI 5) hX d_Wa_init_5 rfl ?_
  refine z_newI (n := 1) (N := 5) hX d_Wa_init_6 rfl (Nat.le_of_ble_eq_true rfl) rfl (Nat.le_of_ble_eq_true rfl) (by omega) (by omega) ?_
  refine z_eq (cs2 := .inr (11, [.null, .null, .null, .null, .null, .null, .null, .int 0, .int 0, .int 0, .int 0]) :: ([.inl (eC E 0, 5, .inl (fun _ => 0))])) rfl ?_
  refine z_putF (v2 := .ref (b0 + 1)) hX hin d_Wa_init_8 fl_Wa_9 cd_Wa rfl rfl rfl (Nat.le_of_ble_eq_true rfl) ?_
  refine z_eq (cs2 := .inr (11, [.ref (b0 + 1), .null, .null, .null, .null, .null, .null, .int 0, .int 0, .int 0, .int 0]) :: ([.inl (eC E 0, 5, .inl (fun _ => 0))])) rfl ?_
  refine z_aload0 hX d_Wa_init_11 ?_
  refine z_iconst (v := nI 5) hX d_Wa_init_12 rfl ?_
  refine z_newI (n := 2) (N := 5) hX d_Wa_init_13 rfl (Nat.le_of_ble_eq_true rfl) rfl (Nat.le_of_ble_eq_true rfl) (by omega) (by omega) ?_
  refine z_eq (cs2 := .inr (11, [.ref (b0 + 1), .null, .null, .null, .null, .null, .null, .int 0, .int 0, .int 0, .int 0]) :: ([.inl (eC E 0, 5, .inl (fun _ => 0))] ++ [.inl (eC E 0, 5, .inl (fun _ => 0))])) rfl ?_
  refine z_putF (v2 := .ref (b0 + 2)) hX hin d_Wa_init_15 fl_Wa_15 cd_Wa rfl rfl rfl (Nat.le_of_ble_eq_true rfl) ?_
  refine z_eq (cs2 := .inr (11, [.ref (b0 + 1), .ref (b0 + 2), .null, .null, .null, .null, .null, .int 0, .int 0, .int 0, .int 0]) :: ([.inl (eC E 0, 5, .inl (fun _ => 0))] ++ [.inl (eC E 0, 5, .inl (fun _ => 0))])) rfl ?_
  refine z_aload0 hX d_Wa_init_18 ?_
  refine z_iconst (v := nI 5) hX d_Wa_init_19 rfl ?_
  refine z_newI (n := 3) (N := 5) hX d_Wa_init_20 rfl (Nat.le_of_ble_eq_true rfl) rfl (Nat.le_of_ble_eq_true rfl) (by omega) (by omega) ?_
  refine z_eq (cs2 := .inr (11, [.ref (b0 + 1), .ref (b0 + 2), .null, .null, .null, .null, .null, .int 0, .int 0, .int 0, .int 0]) :: ([.inl (eC E 0, 5, .inl (fun _ => 0))] ++ [.inl (eC E 0, 5, .inl (fun _ => 0))] ++ [.inl (eC E 0, 5, .inl (fun _ => 0))])) rfl ?_
  refine z_putF (v2 := .ref (b0 + 3)) hX hin d_Wa_init_22 fl_Wa_18 cd_Wa rfl rfl rfl (Nat.le_of_ble_eq_true rfl) ?_
  refine z_eq (cs2 := .inr (11, [.ref (b0 + 1), .ref (b0 + 2), .ref (b0 + 3), .null, .null, .null, .null, .int 0, .int 0, .int 0, .int 0]) :: ([.inl (eC E 0, 5, .inl (fun _ => 0))] ++ [.inl (eC E 0, 5, .inl (fun _ => 0))] ++ [.inl (eC E 0, 5, .inl (fun _ => 0))])) rfl ?_
  refine z_aload0 hX d_Wa_init_25 ?_
  refine z_bipush (v := nI 60) hX d_Wa_init_26 rfl ?_
  refine z_newI (n := 4) (N := 60) hX d_Wa_init_28 rfl (Nat.le_of_ble_eq_true rfl) rfl (Nat.le_of_ble_eq_true rfl) (by omega) (by omega) ?_
  refine z_eq (cs2 := .inr (11, [.ref (b0 + 1), .ref (b0 + 2), .ref (b0 + 3), .null, .null, .null, .null, .int 0, .int 0, .int 0, .int 0]) :: ([.inl (eC E 0, 5, .inl (fun _ => 0))] ++ [.inl (eC E 0, 5, .inl (fun _ => 0))] ++ [.inl (eC E 0, 5, .inl (fun _ => 0))] ++ [.inl (eC E 0, 60, .inl (fun _ => 0))])) rfl ?_
  refine z_putF (v2 := .ref (b0 + 4)) hX hin d_Wa_init_30 fl_Wa_21 cd_Wa rfl rfl rfl (Nat.le_of_ble_eq_true rfl) ?_
  refine z_eq (cs2 := .inr (11, [.ref (b0 + 1), .ref (b0 + 2), .ref (b0 + 3), .ref (b0 + 4), .null, .null, .null, .int 0, .int 0, .int 0, .int 0]) :: ([.inl (eC E 0, 5, .inl (fun _ => 0))] ++ [.inl (eC E 0, 5, .inl (fun _ => 0))] ++ [.inl (eC E 0, 5, .inl (fun _ => 0))] ++ [.inl (eC E 0, 60, .inl (fun _ => 0))])) rfl ?_
  refine z_aload0 hX d_Wa_init_33 ?_
  refine z_bipush (v := nI 60) hX d_Wa_init_34 rfl ?_
  refine z_newI (n := 5) (N := 60) hX d_Wa_init_36 rfl (Nat.le_of_ble_eq_true rfl) rfl (Nat.le_of_ble_eq_true rfl) (by omega) (by omega) ?_
  refine z_eq (cs2 := .inr (11, [.ref (b0 + 1), .ref (b0 + 2), .ref (b0 + 3), .ref (b0 + 4), .null, .null, .null, .int 0, .int 0, .int 0, .int 0]) :: ([.inl (eC E 0, 5, .inl (fun _ => 0))] ++ [.inl (eC E 0, 5, .inl (fun _ => 0))] ++ [.inl (eC E 0, 5, .inl (fun _ => 0))] ++ [.inl (eC E 0, 60, .inl (fun _ => 0))] ++ [.inl (eC E 0, 60, .inl (fun _ => 0))])) rfl ?_
  refine z_putF (v2 := .ref (b0 + 5)) hX hin d_Wa_init_38 fl_Wa_24 cd_Wa rfl rfl rfl (Nat.le_of_ble_eq_true rfl) ?_
  refine z_eq (cs2 := .inr (11, [.ref (b0 + 1), .ref (b0 + 2), .ref (b0 + 3), .ref (b0 + 4), .ref (b0 + 5), .null, .null, .int 0, .int 0, .int 0, .int 0]) :: ([.inl (eC E 0, 5, .inl (fun _ => 0))] ++ [.inl (eC E 0, 5, .inl (fun _ => 0))] ++ [.inl (eC E 0, 5, .inl (fun _ => 0))] ++ [.inl (eC E 0, 60, .inl (fun _ => 0))] ++ [.inl (eC E 0, 60, .inl (fun _ => 0))])) rfl ?_
  exact z_vret hX hF d_Wa_init_41 (by omega) (by omega)
def blk_Si (E : EV) (b0 : Nat) : List va_E := .inr (9, [.ref (b0 + 1), .ref (b0 + 2)]) :: ([.inl (eC E 0, 5, .inl (fun _ => 0))] ++ [.inl (eC E 0, 5, .inl (fun _ => 0))])
theorem c_Sik {E : EV} {b0 : Nat} : KT E m_Si_init 1 2 10 b0 [.ref 0] [.inr (9, dfl_Si)] (blk_Si E b0) := by
  refine KT_of (L := [.ref 0]) cf_Si_init rfl rfl rfl (Nat.le_of_ble_eq_true rfl) (fun X hX hF hin => ?_)
  have hcc := hF.1.2.2.1
  have hss := hF.1.2.2.2
  refine z_eq (cs2 := .inr (9, [.null, .null]) :: ([])) rfl ?_
  refine z_aload0 hX d_Si_init_0 ?_
  refine z_objI hX hF.1 d_Si_init_1 zo_Si (by omega) (Nat.le_of_ble_eq_true rfl) ?_
  refine z_aload0 hX d_Si_init_4 ?_
  refine z_iconst (v := nI 5) hX d_Si_init_5 rfl ?_
  refine z_newI (n := 1) (N := 5) hX d_Si_init_6 rfl (Nat.le_of_ble_eq_true rfl) rfl (Nat.le_of_ble_eq_true rfl) (by omega) (by omega) ?_
  refine z_eq (cs2 := .inr (9, [.null, .null]) :: ([.inl (eC E 0, 5, .inl (fun _ => 0))])) rfl ?_
  refine z_putF (v2 := .ref (b0 + 1)) hX hin d_Si_init_8 fl_Si_9 cd_Si rfl rfl rfl (Nat.le_of_ble_eq_true rfl) ?_
  refine z_eq (cs2 := .inr (9, [.ref (b0 + 1), .null]) :: ([.inl (eC E 0, 5, .inl (fun _ => 0))])) rfl ?_
  refine z_aload0 hX d_Si_init_11 ?_
  refine z_iconst (v := nI 5) hX d_Si_init_12 rfl ?_
  refine z_newI (n := 2) (N := 5) hX d_Si_init_13 rfl (Nat.le_of_ble_eq_true rfl) rfl (Nat.le_of_ble_eq_true rfl) (by omega) (by omega) ?_
  refine z_eq (cs2 := .inr (9, [.ref (b0 + 1), .null]) :: ([.inl (eC E 0, 5, .inl (fun _ => 0))] ++ [.inl (eC E 0, 5, .inl (fun _ => 0))])) rfl ?_
  refine z_putF (v2 := .ref (b0 + 2)) hX hin d_Si_init_15 fl_Si_15 cd_Si rfl rfl rfl (Nat.le_of_ble_eq_true rfl) ?_
  refine z_eq (cs2 := .inr (9, [.ref (b0 + 1), .ref (b0 + 2)]) :: ([.inl (eC E 0, 5, .inl (fun _ => 0))] ++ [.inl (eC E 0, 5, .inl (fun _ => 0))])) rfl ?_
  exact z_vret hX hF d_Si_init_18 (by omega) (by omega)
def blk_Hu (E : EV) (b0 : Nat) : List va_E := .inr (3, [.ref (b0 + 1), .null, .null, .int 0, .int 0, .int 0, .int 0, .int 0]) :: ([.inl (eC E 0, 5, .inl (fun _ => 0))])
theorem c_Huk {E : EV} {b0 : Nat} : KT E m_Hu_init 1 1 5 b0 [.ref 0] [.inr (3, dfl_Hu)] (blk_Hu E b0) := by
  refine KT_of (L := [.ref 0]) cf_Hu_init rfl rfl rfl (Nat.le_of_ble_eq_true rfl) (fun X hX hF hin => ?_)
  have hcc := hF.1.2.2.1
  have hss := hF.1.2.2.2
  refine z_eq (cs2 := .inr (3, [.null, .null, .null, .int 0, .int 0, .int 0, .int 0, .int 0]) :: ([])) rfl ?_
  refine z_aload0 hX d_Hu_init_0 ?_
  refine z_objI hX hF.1 d_Hu_init_1 zo_Hu (by omega) (Nat.le_of_ble_eq_true rfl) ?_
  refine z_aload0 hX d_Hu_init_4 ?_
  refine z_iconst (v := nI 5) hX d_Hu_init_5 rfl ?_
  refine z_newI (n := 1) (N := 5) hX d_Hu_init_6 rfl (Nat.le_of_ble_eq_true rfl) rfl (Nat.le_of_ble_eq_true rfl) (by omega) (by omega) ?_
  refine z_eq (cs2 := .inr (3, [.null, .null, .null, .int 0, .int 0, .int 0, .int 0, .int 0]) :: ([.inl (eC E 0, 5, .inl (fun _ => 0))])) rfl ?_
  refine z_putF (v2 := .ref (b0 + 1)) hX hin d_Hu_init_8 fl_Hu_9 cd_Hu rfl rfl rfl (Nat.le_of_ble_eq_true rfl) ?_
  refine z_eq (cs2 := .inr (3, [.ref (b0 + 1), .null, .null, .int 0, .int 0, .int 0, .int 0, .int 0]) :: ([.inl (eC E 0, 5, .inl (fun _ => 0))])) rfl ?_
  exact z_vret hX hF d_Hu_init_11 (by omega) (by omega)
def blk_Li (E : EV) (b0 : Nat) : List va_E := .inr (5, [.ref (b0 + 1), .ref (b0 + 2), .int 0, .int 0, .ref (b0 + 3), .ref (b0 + 4), .ref (b0 + 5)]) :: ([.inl (eC E 0, 600, .inl (fun _ => 0))] ++ [.inl (eC E 0, 5, .inl (fun _ => 0))] ++ [.inl (eC E 0, 12, .inl (fun _ => 0))] ++ [.inl (eC E 0, 12, .inl (fun _ => 0))] ++ [.inl (eC E 0, 144, .inl (fun _ => 0))])
theorem c_Lik {E : EV} {b0 : Nat} : KT E m_Li_init 1 5 773 b0 [.ref 0] [.inr (5, dfl_Li)] (blk_Li E b0) := by
  refine KT_of (L := [.ref 0]) cf_Li_init rfl rfl rfl (Nat.le_of_ble_eq_true rfl) (fun X hX hF hin => ?_)
  have hcc := hF.1.2.2.1
  have hss := hF.1.2.2.2
  refine z_eq (cs2 := .inr (5, [.null, .null, .int 0, .int 0, .null, .null, .null]) :: ([])) rfl ?_
  refine z_aload0 hX d_Li_init_0 ?_
  refine z_objI hX hF.1 d_Li_init_1 zo_Li (by omega) (Nat.le_of_ble_eq_true rfl) ?_
  refine z_aload0 hX d_Li_init_4 ?_
  refine z_sipush (v := nI 600) hX d_Li_init_5 rfl ?_
  refine z_newI (n := 1) (N := 600) hX d_Li_init_8 rfl (Nat.le_of_ble_eq_true rfl) rfl (Nat.le_of_ble_eq_true rfl) (by omega) (by omega) ?_
  refine z_eq (cs2 := .inr (5, [.null, .null, .int 0, .int 0, .null, .null, .null]) :: ([.inl (eC E 0, 600, .inl (fun _ => 0))])) rfl ?_
  refine z_putF (v2 := .ref (b0 + 1)) hX hin d_Li_init_10 fl_Li_11 cd_Li rfl rfl rfl (Nat.le_of_ble_eq_true rfl) ?_
  refine z_eq (cs2 := .inr (5, [.ref (b0 + 1), .null, .int 0, .int 0, .null, .null, .null]) :: ([.inl (eC E 0, 600, .inl (fun _ => 0))])) rfl ?_
  refine z_aload0 hX d_Li_init_13 ?_
  refine z_iconst (v := nI 5) hX d_Li_init_14 rfl ?_
  refine z_newI (n := 2) (N := 5) hX d_Li_init_15 rfl (Nat.le_of_ble_eq_true rfl) rfl (Nat.le_of_ble_eq_true rfl) (by omega) (by omega) ?_
  refine z_eq (cs2 := .inr (5, [.ref (b0 + 1), .null, .int 0, .int 0, .null, .null, .null]) :: ([.inl (eC E 0, 600, .inl (fun _ => 0))] ++ [.inl (eC E 0, 5, .inl (fun _ => 0))])) rfl ?_
  refine z_putF (v2 := .ref (b0 + 2)) hX hin d_Li_init_17 fl_Li_15 cd_Li rfl rfl rfl (Nat.le_of_ble_eq_true rfl) ?_
  refine z_eq (cs2 := .inr (5, [.ref (b0 + 1), .ref (b0 + 2), .int 0, .int 0, .null, .null, .null]) :: ([.inl (eC E 0, 600, .inl (fun _ => 0))] ++ [.inl (eC E 0, 5, .inl (fun _ => 0))])) rfl ?_
  refine z_aload0 hX d_Li_init_20 ?_
  refine z_bipush (v := nI 12) hX d_Li_init_21 rfl ?_
  refine z_newI (n := 3) (N := 12) hX d_Li_init_23 rfl (Nat.le_of_ble_eq_true rfl) rfl (Nat.le_of_ble_eq_true rfl) (by omega) (by omega) ?_
  refine z_eq (cs2 := .inr (5, [.ref (b0 + 1), .ref (b0 + 2), .int 0, .int 0, .null, .null, .null]) :: ([.inl (eC E 0, 600, .inl (fun _ => 0))] ++ [.inl (eC E 0, 5, .inl (fun _ => 0))] ++ [.inl (eC E 0, 12, .inl (fun _ => 0))])) rfl ?_
  refine z_putF (v2 := .ref (b0 + 3)) hX hin d_Li_init_25 fl_Li_18 cd_Li rfl rfl rfl (Nat.le_of_ble_eq_true rfl) ?_
  refine z_eq (cs2 := .inr (5, [.ref (b0 + 1), .ref (b0 + 2), .int 0, .int 0, .ref (b0 + 3), .null, .null]) :: ([.inl (eC E 0, 600, .inl (fun _ => 0))] ++ [.inl (eC E 0, 5, .inl (fun _ => 0))] ++ [.inl (eC E 0, 12, .inl (fun _ => 0))])) rfl ?_
  refine z_aload0 hX d_Li_init_28 ?_
  refine z_bipush (v := nI 12) hX d_Li_init_29 rfl ?_
  refine z_newI (n := 4) (N := 12) hX d_Li_init_31 rfl (Nat.le_of_ble_eq_true rfl) rfl (Nat.le_of_ble_eq_true rfl) (by omega) (by omega) ?_
  refine z_eq (cs2 := .inr (5, [.ref (b0 + 1), .ref (b0 + 2), .int 0, .int 0, .ref (b0 + 3), .null, .null]) :: ([.inl (eC E 0, 600, .inl (fun _ => 0))] ++ [.inl (eC E 0, 5, .inl (fun _ => 0))] ++ [.inl (eC E 0, 12, .inl (fun _ => 0))] ++ [.inl (eC E 0, 12, .inl (fun _ => 0))])) rfl ?_
  refine z_putF (v2 := .ref (b0 + 4)) hX hin d_Li_init_33 fl_Li_21 cd_Li rfl rfl rfl (Nat.le_of_ble_eq_true rfl) ?_
  refine z_eq (cs2 := .inr (5, [.ref (b0 + 1), .ref (b0 + 2), .int 0, .int 0, .ref (b0 + 3), .ref (b0 + 4), .null]) :: ([.inl (eC E 0, 600, .inl (fun _ => 0))] ++ [.inl (eC E 0, 5, .inl (fun _ => 0))] ++ [.inl (eC E 0, 12, .inl (fun _ => 0))] ++ [.inl (eC E 0, 12, .inl (fun _ => 0))])) rfl ?_
  refine z_aload0 hX d_Li_init_36 ?_
  refine z_sipush (v := nI 144) hX d_Li_init_37 rfl ?_
  refine z_newI (n := 5) (N := 144) hX d_Li_init_40 rfl (Nat.le_of_ble_eq_true rfl) rfl (Nat.le_of_ble_eq_true rfl) (by omega) (by omega) ?_
  refine z_eq (cs2 := .inr (5, [.ref (b0 + 1), .ref (b0 + 2), .int 0, .int 0, .ref (b0 + 3), .ref (b0 + 4), .null]) :: ([.inl (eC E 0, 600, .inl (fun _ => 0))] ++ [.inl (eC E 0, 5, .inl (fun _ => 0))] ++ [.inl (eC E 0, 12, .inl (fun _ => 0))] ++ [.inl (eC E 0, 12, .inl (fun _ => 0))] ++ [.inl (eC E 0, 144, .inl (fun _ => 0))])) rfl ?_
  refine z_putF (v2 := .ref (b0 + 5)) hX hin d_Li_init_42 fl_Li_24 cd_Li rfl rfl rfl (Nat.le_of_ble_eq_true rfl) ?_
  refine z_eq (cs2 := .inr (5, [.ref (b0 + 1), .ref (b0 + 2), .int 0, .int 0, .ref (b0 + 3), .ref (b0 + 4), .ref (b0 + 5)]) :: ([.inl (eC E 0, 600, .inl (fun _ => 0))] ++ [.inl (eC E 0, 5, .inl (fun _ => 0))] ++ [.inl (eC E 0, 12, .inl (fun _ => 0))] ++ [.inl (eC E 0, 12, .inl (fun _ => 0))] ++ [.inl (eC E 0, 144, .inl (fun _ => 0))])) rfl ?_
  exact z_vret hX hF d_Li_init_45 (by omega) (by omega)
def blk_Re (E : EV) (b0 : Nat) : List va_E := .inr (7, [.ref (b0 + 1), .ref (b0 + 3), .int 0, .int 0, .int (-1)]) :: (blk_Ta E (b0 + 1) ++ blk_Pr E (b0 + 3))
theorem c_Rek {E : EV} {b0 : Nat} : KT E m_Re_init 2 5 763 b0 [.ref 0] [.inr (7, dfl_Re)] (blk_Re E b0) := by
  refine KT_of (L := [.ref 0]) cf_Re_init rfl rfl rfl (Nat.le_of_ble_eq_true rfl) (fun X hX hF hin => ?_)
  have hcc := hF.1.2.2.1
  have hss := hF.1.2.2.2
  refine z_eq (cs2 := .inr (7, [.null, .null, .int 0, .int 0, .int 0]) :: ([])) rfl ?_
  refine z_aload0 hX d_Re_init_0 ?_
  refine z_objI hX hF.1 d_Re_init_1 zo_Re (by omega) (Nat.le_of_ble_eq_true rfl) ?_
  refine z_aload0 hX d_Re_init_4 ?_
  refine z_new (ci := 10) (n := 1) (fs := dfl_Ta) hX d_Re_init_5 in_Ta tyok_Ta zl_Re_9 zk_Ta zi_Ta rfl zd_Ta rfl (by decide) (by omega) (by omega) ?_
  refine z_dup hX d_Re_init_8 rfl ?_
  refine z_callN (As := []) hX hF.1 d_Re_init_9 (List.mem_of_getElem? (i := 2) rfl) cf_Ta_init ci_Ta_init rfl rfl rfl (n0 := 1) rfl (by decide) (fun _ => rfl) (c_Tak (b0 := b0 + 1)) (by omega) (by omega) (by omega) (Nat.le_of_ble_eq_true rfl) ?_
  refine z_eq (cs2 := .inr (7, [.null, .null, .int 0, .int 0, .int 0]) :: (blk_Ta E (b0 + 1))) rfl ?_
  refine z_putF (v2 := .ref (b0 + 1)) hX hin d_Re_init_12 fl_Re_12 cd_Re rfl rfl rfl (Nat.le_of_ble_eq_true rfl) ?_
  refine z_eq (cs2 := .inr (7, [.ref (b0 + 1), .null, .int 0, .int 0, .int 0]) :: (blk_Ta E (b0 + 1))) rfl ?_
  refine z_aload0 hX d_Re_init_15 ?_
  refine z_new (ci := 6) (n := 3) (fs := dfl_Pr) hX d_Re_init_16 in_Pr tyok_Pr zl_Re_18 zk_Pr zi_Pr rfl zd_Pr rfl (by decide) (by omega) (by omega) ?_
  refine z_dup hX d_Re_init_19 rfl ?_
  refine z_bipush (v := nI 96) hX d_Re_init_20 rfl ?_
  refine z_sipush (v := nI 256) hX d_Re_init_22 rfl ?_
  refine z_call (As := [.int (nI 96), .int (nI 256)]) hX hF.1 d_Re_init_25 ml_Re_20 cf_Pr_init ci_Pr_init rfl rfl rfl (n0 := 3) rfl (by decide) (fun _ => rfl) (c_Prk (b0 := b0 + 3)) (by omega) (by omega) (by omega) (Nat.le_of_ble_eq_true rfl) ?_
  refine z_eq (cs2 := .inr (7, [.ref (b0 + 1), .null, .int 0, .int 0, .int 0]) :: (blk_Ta E (b0 + 1) ++ blk_Pr E (b0 + 3))) rfl ?_
  refine z_putF (v2 := .ref (b0 + 3)) hX hin d_Re_init_28 fl_Re_23 cd_Re rfl rfl rfl (Nat.le_of_ble_eq_true rfl) ?_
  refine z_eq (cs2 := .inr (7, [.ref (b0 + 1), .ref (b0 + 3), .int 0, .int 0, .int 0]) :: (blk_Ta E (b0 + 1) ++ blk_Pr E (b0 + 3))) rfl ?_
  refine z_aload0 hX d_Re_init_31 ?_
  refine z_iconst (v := -1) hX d_Re_init_32 rfl ?_
  refine z_put (v2 := .int (-1)) hX d_Re_init_33 fl_Re_27 rfl rfl rfl (Nat.le_of_ble_eq_true rfl) ?_
  refine z_eq (cs2 := .inr (7, [.ref (b0 + 1), .ref (b0 + 3), .int 0, .int 0, .int (-1)]) :: (blk_Ta E (b0 + 1) ++ blk_Pr E (b0 + 3))) rfl ?_
  exact z_vret hX hF d_Re_init_36 (by omega) (by omega)
def blk_Ru (E : EV) (b0 : Nat) : List va_E := .inr (8, [.null, .null, .null, .null, .ref (b0 + 1), .ref (b0 + 10), .ref (b0 + 15), .int 0, .int 0, .int (-1)]) :: (blk_Bo E (b0 + 1) ++ blk_Ac E (b0 + 10) ++ [.inl (eC E 0, 17, .inl (fun _ => 0))])
theorem c_Ruk {E : EV} {b0 : Nat} : KT E m_Ru_init 2 15 216 b0 [.ref 0] [.inr (8, dfl_Ru)] (blk_Ru E b0) := by
  refine KT_of (L := [.ref 0]) cf_Ru_init rfl rfl rfl (Nat.le_of_ble_eq_true rfl) (fun X hX hF hin => ?_)
  have hcc := hF.1.2.2.1
  have hss := hF.1.2.2.2
  refine z_eq (cs2 := .inr (8, [.null, .null, .null, .null, .null, .null, .null, .int 0, .int 0, .int 0]) :: ([])) rfl ?_
  refine z_aload0 hX d_Ru_init_0 ?_
  refine z_objI hX hF.1 d_Ru_init_1 zo_Ru (by omega) (Nat.le_of_ble_eq_true rfl) ?_
  refine z_aload0 hX d_Ru_init_4 ?_
  refine z_new (ci := 2) (n := 1) (fs := dfl_Bo) hX d_Ru_init_5 in_Bo tyok_Bo zl_Ru_9 zk_Bo zi_Bo rfl zd_Bo rfl (by decide) (by omega) (by omega) ?_
  refine z_dup hX d_Ru_init_8 rfl ?_
  refine z_call (As := []) hX hF.1 d_Ru_init_9 ml_Ru_11 cf_Bo_init ci_Bo_init rfl rfl rfl (n0 := 1) rfl (by decide) (fun _ => rfl) (c_Bok (b0 := b0 + 1)) (by omega) (by omega) (by omega) (Nat.le_of_ble_eq_true rfl) ?_
  refine z_eq (cs2 := .inr (8, [.null, .null, .null, .null, .null, .null, .null, .int 0, .int 0, .int 0]) :: (blk_Bo E (b0 + 1))) rfl ?_
  refine z_putF (v2 := .ref (b0 + 1)) hX hin d_Ru_init_12 fl_Ru_12 cd_Ru rfl rfl rfl (Nat.le_of_ble_eq_true rfl) ?_
  refine z_eq (cs2 := .inr (8, [.null, .null, .null, .null, .ref (b0 + 1), .null, .null, .int 0, .int 0, .int 0]) :: (blk_Bo E (b0 + 1))) rfl ?_
  refine z_aload0 hX d_Ru_init_15 ?_
  refine z_new (ci := 1) (n := 10) (fs := dfl_Ac) hX d_Ru_init_16 in_Ac tyok_Ac zl_Ru_18 zk_Ac zi_Ac rfl zd_Ac rfl (by decide) (by omega) (by omega) ?_
  refine z_dup hX d_Ru_init_19 rfl ?_
  refine z_callN (As := []) hX hF.1 d_Ru_init_20 (List.mem_of_getElem? (i := 9) rfl) cf_Ac_init ci_Ac_init rfl rfl rfl (n0 := 10) rfl (by decide) (fun _ => rfl) (c_Ack (b0 := b0 + 10)) (by omega) (by omega) (by omega) (Nat.le_of_ble_eq_true rfl) ?_
  refine z_eq (cs2 := .inr (8, [.null, .null, .null, .null, .ref (b0 + 1), .null, .null, .int 0, .int 0, .int 0]) :: (blk_Bo E (b0 + 1) ++ blk_Ac E (b0 + 10))) rfl ?_
  refine z_putF (v2 := .ref (b0 + 10)) hX hin d_Ru_init_23 fl_Ru_21 cd_Ru rfl rfl rfl (Nat.le_of_ble_eq_true rfl) ?_
  refine z_eq (cs2 := .inr (8, [.null, .null, .null, .null, .ref (b0 + 1), .ref (b0 + 10), .null, .int 0, .int 0, .int 0]) :: (blk_Bo E (b0 + 1) ++ blk_Ac E (b0 + 10))) rfl ?_
  refine z_aload0 hX d_Ru_init_26 ?_
  refine z_bipush (v := nI 17) hX d_Ru_init_27 rfl ?_
  refine z_newI (n := 15) (N := 17) hX d_Ru_init_29 rfl (Nat.le_of_ble_eq_true rfl) rfl (Nat.le_of_ble_eq_true rfl) (by omega) (by omega) ?_
  refine z_eq (cs2 := .inr (8, [.null, .null, .null, .null, .ref (b0 + 1), .ref (b0 + 10), .null, .int 0, .int 0, .int 0]) :: (blk_Bo E (b0 + 1) ++ blk_Ac E (b0 + 10) ++ [.inl (eC E 0, 17, .inl (fun _ => 0))])) rfl ?_
  refine z_putF (v2 := .ref (b0 + 15)) hX hin d_Ru_init_31 fl_Ru_25 cd_Ru rfl rfl rfl (Nat.le_of_ble_eq_true rfl) ?_
  refine z_eq (cs2 := .inr (8, [.null, .null, .null, .null, .ref (b0 + 1), .ref (b0 + 10), .ref (b0 + 15), .int 0, .int 0, .int 0]) :: (blk_Bo E (b0 + 1) ++ blk_Ac E (b0 + 10) ++ [.inl (eC E 0, 17, .inl (fun _ => 0))])) rfl ?_
  refine z_aload0 hX d_Ru_init_34 ?_
  refine z_iconst (v := -1) hX d_Ru_init_35 rfl ?_
  refine z_put (v2 := .int (-1)) hX d_Ru_init_36 fl_Ru_29 rfl rfl rfl (Nat.le_of_ble_eq_true rfl) ?_
  refine z_eq (cs2 := .inr (8, [.null, .null, .null, .null, .ref (b0 + 1), .ref (b0 + 10), .ref (b0 + 15), .int 0, .int 0, .int (-1)]) :: (blk_Bo E (b0 + 1) ++ blk_Ac E (b0 + 10) ++ [.inl (eC E 0, 17, .inl (fun _ => 0))])) rfl ?_
  exact z_vret hX hF d_Ru_init_39 (by omega) (by omega)
