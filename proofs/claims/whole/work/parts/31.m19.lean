def m_M_tells : MR := (⟨"SubgraphDeskModel", "tells", "(IIIJ)J"⟩, prog_14_method_69_code, 10, (some .long))
theorem cf_M_tells : CF m_M_tells 4 := ⟨gd 1760 (by decide +kernel) rfl, gd 151 (by decide +kernel) rfl, by decide +kernel, by decide, by decide +kernel⟩
theorem cv_M_tells : CV m_M_tells := ⟨gd 1759 (by decide +kernel) rfl, gd 66 (by decide +kernel) rfl⟩
theorem d_M_tells_0 : Dc prog_14_method_69_code 0 (.aload_n 0) 1 1 := ⟨by decide +kernel, rfl⟩
theorem d_M_tells_1 : Dc prog_14_method_69_code 1 (.getfield 13) 3 4 := ⟨by decide +kernel, rfl⟩
theorem d_M_tells_4 : Dc prog_14_method_69_code 4 (.iconst 4) 1 5 := ⟨by decide +kernel, rfl⟩
theorem d_M_tells_5 : Dc prog_14_method_69_code 5 (.iaload) 1 6 := ⟨by decide +kernel, rfl⟩
theorem d_M_tells_6 : Dc prog_14_method_69_code 6 (.iconst (-1)) 1 7 := ⟨by decide +kernel, rfl⟩
theorem d_M_tells_7 : Dj prog_14_method_69_code 7 (.if_icmp .ne 6) 10 6 13 := ⟨by decide +kernel, rfl, rfl⟩
theorem d_M_tells_10 : Dc prog_14_method_69_code 10 (.lload 4) 2 12 := ⟨by decide +kernel, rfl⟩
theorem d_M_tells_12 : Dc prog_14_method_69_code 12 (.lreturn) 1 13 := ⟨by decide +kernel, rfl⟩
theorem d_M_tells_13 : Dc prog_14_method_69_code 13 (.aload_n 0) 1 14 := ⟨by decide +kernel, rfl⟩
theorem d_M_tells_14 : Dc prog_14_method_69_code 14 (.bipush 110) 2 16 := ⟨by decide +kernel, rfl⟩
theorem d_M_tells_16 : Dc prog_14_method_69_code 16 (.sipush 900) 3 19 := ⟨by decide +kernel, rfl⟩
theorem d_M_tells_19 : Dc prog_14_method_69_code 19 (.aload_n 0) 1 20 := ⟨by decide +kernel, rfl⟩
theorem d_M_tells_20 : Dc prog_14_method_69_code 20 (.getfield 13) 3 23 := ⟨by decide +kernel, rfl⟩
theorem d_M_tells_23 : Dc prog_14_method_69_code 23 (.iconst 4) 1 24 := ⟨by decide +kernel, rfl⟩
theorem d_M_tells_24 : Dc prog_14_method_69_code 24 (.iaload) 1 25 := ⟨by decide +kernel, rfl⟩
theorem d_M_tells_25 : Dc prog_14_method_69_code 25 (.imul) 1 26 := ⟨by decide +kernel, rfl⟩
theorem d_M_tells_26 : Dc prog_14_method_69_code 26 (.iadd) 1 27 := ⟨by decide +kernel, rfl⟩
theorem d_M_tells_27 : Dc prog_14_method_69_code 27 (.putfield 412) 3 30 := ⟨by decide +kernel, rfl⟩
theorem d_M_tells_30 : Dc prog_14_method_69_code 30 (.aload_n 0) 1 31 := ⟨by decide +kernel, rfl⟩
theorem d_M_tells_31 : Dc prog_14_method_69_code 31 (.getfield 93) 3 34 := ⟨by decide +kernel, rfl⟩
theorem d_M_tells_34 : Dc prog_14_method_69_code 34 (.iconst 1) 1 35 := ⟨by decide +kernel, rfl⟩
theorem d_M_tells_35 : Dc prog_14_method_69_code 35 (.iload_n 2) 1 36 := ⟨by decide +kernel, rfl⟩
theorem d_M_tells_36 : Dc prog_14_method_69_code 36 (.i2l) 1 37 := ⟨by decide +kernel, rfl⟩
theorem d_M_tells_37 : Dc prog_14_method_69_code 37 (.lastore) 1 38 := ⟨by decide +kernel, rfl⟩
theorem d_M_tells_38 : Dc prog_14_method_69_code 38 (.aload_n 0) 1 39 := ⟨by decide +kernel, rfl⟩
theorem d_M_tells_39 : Dc prog_14_method_69_code 39 (.getfield 93) 3 42 := ⟨by decide +kernel, rfl⟩
theorem d_M_tells_42 : Dc prog_14_method_69_code 42 (.iconst 2) 1 43 := ⟨by decide +kernel, rfl⟩
theorem d_M_tells_43 : Dc prog_14_method_69_code 43 (.iload_n 3) 1 44 := ⟨by decide +kernel, rfl⟩
theorem d_M_tells_44 : Dc prog_14_method_69_code 44 (.i2l) 1 45 := ⟨by decide +kernel, rfl⟩
theorem d_M_tells_45 : Dc prog_14_method_69_code 45 (.lastore) 1 46 := ⟨by decide +kernel, rfl⟩
theorem d_M_tells_46 : Dc prog_14_method_69_code 46 (.aload_n 0) 1 47 := ⟨by decide +kernel, rfl⟩
theorem d_M_tells_47 : Dc prog_14_method_69_code 47 (.getfield 93) 3 50 := ⟨by decide +kernel, rfl⟩
theorem d_M_tells_50 : Dc prog_14_method_69_code 50 (.iconst 3) 1 51 := ⟨by decide +kernel, rfl⟩
theorem d_M_tells_51 : Dc prog_14_method_69_code 51 (.aload_n 0) 1 52 := ⟨by decide +kernel, rfl⟩
theorem d_M_tells_52 : Dc prog_14_method_69_code 52 (.getfield 13) 3 55 := ⟨by decide +kernel, rfl⟩
theorem d_M_tells_55 : Dc prog_14_method_69_code 55 (.bipush 9) 2 57 := ⟨by decide +kernel, rfl⟩
theorem d_M_tells_57 : Dc prog_14_method_69_code 57 (.iload_n 3) 1 58 := ⟨by decide +kernel, rfl⟩
theorem d_M_tells_58 : Dc prog_14_method_69_code 58 (.iadd) 1 59 := ⟨by decide +kernel, rfl⟩
theorem d_M_tells_59 : Dc prog_14_method_69_code 59 (.iaload) 1 60 := ⟨by decide +kernel, rfl⟩
theorem d_M_tells_60 : Dc prog_14_method_69_code 60 (.i2l) 1 61 := ⟨by decide +kernel, rfl⟩
theorem d_M_tells_61 : Dc prog_14_method_69_code 61 (.lastore) 1 62 := ⟨by decide +kernel, rfl⟩
theorem d_M_tells_62 : Dc prog_14_method_69_code 62 (.aload_n 0) 1 63 := ⟨by decide +kernel, rfl⟩
theorem d_M_tells_63 : Dc prog_14_method_69_code 63 (.getfield 93) 3 66 := ⟨by decide +kernel, rfl⟩
theorem d_M_tells_66 : Dc prog_14_method_69_code 66 (.iconst 4) 1 67 := ⟨by decide +kernel, rfl⟩
theorem d_M_tells_67 : Dc prog_14_method_69_code 67 (.aload_n 0) 1 68 := ⟨by decide +kernel, rfl⟩
theorem d_M_tells_68 : Dc prog_14_method_69_code 68 (.iload_n 3) 1 69 := ⟨by decide +kernel, rfl⟩
theorem d_M_tells_69 : Dc prog_14_method_69_code 69 (.invokevirtual 218) 3 72 := ⟨by decide +kernel, rfl⟩
theorem d_M_tells_72 : Dc prog_14_method_69_code 72 (.i2l) 1 73 := ⟨by decide +kernel, rfl⟩
theorem d_M_tells_73 : Dc prog_14_method_69_code 73 (.lastore) 1 74 := ⟨by decide +kernel, rfl⟩
theorem d_M_tells_74 : Dc prog_14_method_69_code 74 (.aload_n 0) 1 75 := ⟨by decide +kernel, rfl⟩
theorem d_M_tells_75 : Dc prog_14_method_69_code 75 (.getfield 93) 3 78 := ⟨by decide +kernel, rfl⟩
theorem d_M_tells_78 : Dc prog_14_method_69_code 78 (.iconst 5) 1 79 := ⟨by decide +kernel, rfl⟩
theorem d_M_tells_79 : Dc prog_14_method_69_code 79 (.aload_n 0) 1 80 := ⟨by decide +kernel, rfl⟩
theorem d_M_tells_80 : Dc prog_14_method_69_code 80 (.getfield 13) 3 83 := ⟨by decide +kernel, rfl⟩
theorem d_M_tells_83 : Dc prog_14_method_69_code 83 (.bipush 26) 2 85 := ⟨by decide +kernel, rfl⟩
theorem d_M_tells_85 : Dc prog_14_method_69_code 85 (.iload_n 2) 1 86 := ⟨by decide +kernel, rfl⟩
theorem d_M_tells_86 : Dc prog_14_method_69_code 86 (.iadd) 1 87 := ⟨by decide +kernel, rfl⟩
theorem d_M_tells_87 : Dc prog_14_method_69_code 87 (.iaload) 1 88 := ⟨by decide +kernel, rfl⟩
theorem d_M_tells_88 : Dc prog_14_method_69_code 88 (.invokestatic 204) 3 91 := ⟨by decide +kernel, rfl⟩
theorem d_M_tells_91 : Dc prog_14_method_69_code 91 (.i2l) 1 92 := ⟨by decide +kernel, rfl⟩
theorem d_M_tells_92 : Dc prog_14_method_69_code 92 (.lastore) 1 93 := ⟨by decide +kernel, rfl⟩
theorem d_M_tells_93 : Dc prog_14_method_69_code 93 (.aload_n 0) 1 94 := ⟨by decide +kernel, rfl⟩
theorem d_M_tells_94 : Dc prog_14_method_69_code 94 (.getfield 93) 3 97 := ⟨by decide +kernel, rfl⟩
theorem d_M_tells_97 : Dc prog_14_method_69_code 97 (.bipush 6) 2 99 := ⟨by decide +kernel, rfl⟩
theorem d_M_tells_99 : Dc prog_14_method_69_code 99 (.aload_n 0) 1 100 := ⟨by decide +kernel, rfl⟩
theorem d_M_tells_100 : Dc prog_14_method_69_code 100 (.getfield 13) 3 103 := ⟨by decide +kernel, rfl⟩
theorem d_M_tells_103 : Dc prog_14_method_69_code 103 (.bipush 6) 2 105 := ⟨by decide +kernel, rfl⟩
theorem d_M_tells_105 : Dc prog_14_method_69_code 105 (.iaload) 1 106 := ⟨by decide +kernel, rfl⟩
theorem d_M_tells_106 : Dc prog_14_method_69_code 106 (.i2l) 1 107 := ⟨by decide +kernel, rfl⟩
theorem d_M_tells_107 : Dc prog_14_method_69_code 107 (.lastore) 1 108 := ⟨by decide +kernel, rfl⟩
theorem d_M_tells_108 : Dc prog_14_method_69_code 108 (.aload_n 0) 1 109 := ⟨by decide +kernel, rfl⟩
theorem d_M_tells_109 : Dc prog_14_method_69_code 109 (.getfield 93) 3 112 := ⟨by decide +kernel, rfl⟩
theorem d_M_tells_112 : Dc prog_14_method_69_code 112 (.bipush 7) 2 114 := ⟨by decide +kernel, rfl⟩
theorem d_M_tells_114 : Dc prog_14_method_69_code 114 (.aload_n 0) 1 115 := ⟨by decide +kernel, rfl⟩
theorem d_M_tells_115 : Dc prog_14_method_69_code 115 (.getfield 13) 3 118 := ⟨by decide +kernel, rfl⟩
theorem d_M_tells_118 : Dc prog_14_method_69_code 118 (.bipush 8) 2 120 := ⟨by decide +kernel, rfl⟩
theorem d_M_tells_120 : Dc prog_14_method_69_code 120 (.iaload) 1 121 := ⟨by decide +kernel, rfl⟩
theorem d_M_tells_121 : Dc prog_14_method_69_code 121 (.i2l) 1 122 := ⟨by decide +kernel, rfl⟩
theorem d_M_tells_122 : Dc prog_14_method_69_code 122 (.lastore) 1 123 := ⟨by decide +kernel, rfl⟩
theorem d_M_tells_123 : Dc prog_14_method_69_code 123 (.lload 4) 2 125 := ⟨by decide +kernel, rfl⟩
theorem d_M_tells_125 : Dc prog_14_method_69_code 125 (.lstore 6) 2 127 := ⟨by decide +kernel, rfl⟩
theorem d_M_tells_127 : Dc prog_14_method_69_code 127 (.iconst 0) 1 128 := ⟨by decide +kernel, rfl⟩
theorem d_M_tells_128 : Dc prog_14_method_69_code 128 (.istore 8) 2 130 := ⟨by decide +kernel, rfl⟩
theorem d_M_tells_130 : Dc prog_14_method_69_code 130 (.iload 8) 2 132 := ⟨by decide +kernel, rfl⟩
theorem d_M_tells_132 : Dc prog_14_method_69_code 132 (.aload_n 0) 1 133 := ⟨by decide +kernel, rfl⟩
theorem d_M_tells_133 : Dc prog_14_method_69_code 133 (.getfield 13) 3 136 := ⟨by decide +kernel, rfl⟩
theorem d_M_tells_136 : Dc prog_14_method_69_code 136 (.aload_n 0) 1 137 := ⟨by decide +kernel, rfl⟩
theorem d_M_tells_137 : Dc prog_14_method_69_code 137 (.getfield 412) 3 140 := ⟨by decide +kernel, rfl⟩
theorem d_M_tells_140 : Dc prog_14_method_69_code 140 (.iconst 1) 1 141 := ⟨by decide +kernel, rfl⟩
theorem d_M_tells_141 : Dc prog_14_method_69_code 141 (.iadd) 1 142 := ⟨by decide +kernel, rfl⟩
theorem d_M_tells_142 : Dc prog_14_method_69_code 142 (.iaload) 1 143 := ⟨by decide +kernel, rfl⟩
theorem d_M_tells_143 : Dj prog_14_method_69_code 143 (.if_icmp .ge 57) 146 57 200 := ⟨by decide +kernel, rfl, rfl⟩
theorem d_M_tells_146 : Dc prog_14_method_69_code 146 (.aload_n 0) 1 147 := ⟨by decide +kernel, rfl⟩
theorem d_M_tells_147 : Dc prog_14_method_69_code 147 (.getfield 412) 3 150 := ⟨by decide +kernel, rfl⟩
theorem d_M_tells_150 : Dc prog_14_method_69_code 150 (.iconst 2) 1 151 := ⟨by decide +kernel, rfl⟩
theorem d_M_tells_151 : Dc prog_14_method_69_code 151 (.iadd) 1 152 := ⟨by decide +kernel, rfl⟩
theorem d_M_tells_152 : Dc prog_14_method_69_code 152 (.bipush 8) 2 154 := ⟨by decide +kernel, rfl⟩
theorem d_M_tells_154 : Dc prog_14_method_69_code 154 (.iload 8) 2 156 := ⟨by decide +kernel, rfl⟩
theorem d_M_tells_156 : Dc prog_14_method_69_code 156 (.imul) 1 157 := ⟨by decide +kernel, rfl⟩
theorem d_M_tells_157 : Dc prog_14_method_69_code 157 (.iadd) 1 158 := ⟨by decide +kernel, rfl⟩
theorem d_M_tells_158 : Dc prog_14_method_69_code 158 (.istore 9) 2 160 := ⟨by decide +kernel, rfl⟩
theorem d_M_tells_160 : Dc prog_14_method_69_code 160 (.aload_n 0) 1 161 := ⟨by decide +kernel, rfl⟩
theorem d_M_tells_161 : Dc prog_14_method_69_code 161 (.getfield 13) 3 164 := ⟨by decide +kernel, rfl⟩
theorem d_M_tells_164 : Dc prog_14_method_69_code 164 (.iload 9) 2 166 := ⟨by decide +kernel, rfl⟩
theorem d_M_tells_166 : Dc prog_14_method_69_code 166 (.iaload) 1 167 := ⟨by decide +kernel, rfl⟩
theorem d_M_tells_167 : Dc prog_14_method_69_code 167 (.iload_n 1) 1 168 := ⟨by decide +kernel, rfl⟩
theorem d_M_tells_168 : Dj prog_14_method_69_code 168 (.if_icmp .ne 26) 171 26 194 := ⟨by decide +kernel, rfl, rfl⟩
theorem d_M_tells_171 : Dc prog_14_method_69_code 171 (.aload_n 0) 1 172 := ⟨by decide +kernel, rfl⟩
theorem d_M_tells_172 : Dc prog_14_method_69_code 172 (.iload 9) 2 174 := ⟨by decide +kernel, rfl⟩
theorem d_M_tells_174 : Dc prog_14_method_69_code 174 (.invokevirtual 432) 3 177 := ⟨by decide +kernel, rfl⟩
theorem d_M_tells_177 : Dj prog_14_method_69_code 177 (.ifCond .eq 17) 180 17 194 := ⟨by decide +kernel, rfl, rfl⟩
theorem d_M_tells_180 : Dc prog_14_method_69_code 180 (.iload_n 1) 1 181 := ⟨by decide +kernel, rfl⟩
theorem d_M_tells_181 : Dj prog_14_method_69_code 181 (.ifCond .ne 10) 184 10 191 := ⟨by decide +kernel, rfl, rfl⟩
theorem d_M_tells_184 : Dc prog_14_method_69_code 184 (.aload_n 0) 1 185 := ⟨by decide +kernel, rfl⟩
theorem d_M_tells_185 : Dc prog_14_method_69_code 185 (.getfield 429) 3 188 := ⟨by decide +kernel, rfl⟩
theorem d_M_tells_188 : Dj prog_14_method_69_code 188 (.goto 4) 191 4 192 := ⟨by decide +kernel, rfl, rfl⟩
theorem d_M_tells_191 : Dc prog_14_method_69_code 191 (.lconst 1) 1 192 := ⟨by decide +kernel, rfl⟩
theorem d_M_tells_192 : Dc prog_14_method_69_code 192 (.lstore 6) 2 194 := ⟨by decide +kernel, rfl⟩
theorem d_M_tells_194 : Dc prog_14_method_69_code 194 (.iinc 8 1) 3 197 := ⟨by decide +kernel, rfl⟩
theorem d_M_tells_197 : Dj prog_14_method_69_code 197 (.goto (-67)) 200 (-67) 130 := ⟨by decide +kernel, rfl, rfl⟩
theorem d_M_tells_200 : Dc prog_14_method_69_code 200 (.lload 6) 2 202 := ⟨by decide +kernel, rfl⟩
theorem d_M_tells_202 : Dc prog_14_method_69_code 202 (.lreturn) 1 203 := ⟨by decide +kernel, rfl⟩
theorem ml_M_432 : Cond.methodLink "SubgraphDeskModel" 432 m_M_isSo.1 ∈ lw_gd := gd 1761 (by decide +kernel) rfl
/-- the words of a law at a vertex and a node -/
def envL (g : GC) (v n : Nat) : Nat → Int := fun k => if k = 1 then (v : Int) else if k = 2 then (n : Int) else if k = 3 then (gC g n : Int) else if k = 4 then (pop (nearB (gE g) n) : Int) else if k = 5 then (pop (gK g v) : Int) else if k = 7 then (gT g 2 : Int) else (gT g 0 : Int)
def tg (b : Bool) : Nat := if b then 0 else 1
/-- what a clause makes of what was told before it: 0 costs, 1 bars -/
def tellS (env : Nat → Int) (kd : Nat) (r : Int) (q : Bool × Den × Option Den) : Int := if tg q.1 = kd then (match clSo env q with | none => r | some z => if kd = 0 then z else 1) else r
def gTell (g : GC) (kd v n : Nat) (d : Int) : Int := match gF g with
  | none => d
  | some i => ((gL g).getD i []).foldl (tellS (envL g v n) kd) d
/-- while it is told -/
def FrT (w w2 : Mem) : Prop := (∀ a, a ≠ 89 → rI w2 a = rI w a) ∧ (∀ k, k ≠ 38 → k ≠ 34 → rI w2 89 k = rI w 89 k) ∧ (∀ a, a ≠ 89 → a ≠ 109 → a ≠ 107 → rJ w2 a = rJ w a) ∧ (∀ k, k ≠ 39 → k ≠ 40 → rJ w2 89 k = rJ w 89 k) ∧ w2.2.2 = w.2.2
theorem FrT.rf (w : Mem) : FrT w w := ⟨fun _ _ => rfl, fun _ _ _ => rfl, fun _ _ _ _ => rfl, fun _ _ _ => rfl, rfl⟩
theorem FrE.T {w w2 : Mem} (h : FrE w w2) : FrT w w2 := ⟨h.1, fun k h1 _ => h.2.1 k h1, fun a h1 h2 _ => h.2.2.1 a h1 h2, h.2.2.2.1, h.2.2.2.2⟩
theorem FrT.tr {a b c : Mem} (h : FrT a b) (h2 : FrT b c) : FrT a c := ⟨fun x hx => (h2.1 x hx).trans (h.1 x hx), fun x hx hy => (h2.2.1 x hx hy).trans (h.2.1 x hx hy), fun x hx hy hz => (h2.2.2.1 x hx hy hz).trans (h.2.2.1 x hx hy hz), fun x hx hy => (h2.2.2.2.1 x hx hy).trans (h.2.2.2.1 x hx hy), h2.2.2.2.2.trans h.2.2.2.2⟩
theorem FrT.I {w w2 : Mem} {x : Int32} (h : FrT w w2) : FrT w (sI w2 89 34 x) := ⟨fun a ha => by rw [rI_sI_ne _ _ _ ha]; exact h.1 a ha, fun k hk hk2 => by rw [rI_sI, upd_eq, if_neg hk2]; exact h.2.1 k hk hk2, h.2.2⟩
theorem FrT.J {w w2 : Mem} {k : Nat} {x : Int64} (h : FrT w w2) : FrT w (sJ w2 107 k x) := ⟨h.1, h.2.1, fun a h1 h2 h3 => by rw [rJ_sJ_ne _ _ _ h3]; exact h.2.2.1 a h1 h2 h3, fun k hk hk2 => by rw [rJ_sJ_ne _ _ _ (by decide)]; exact h.2.2.2.1 k hk hk2, h.2.2.2.2⟩
theorem FrT.M {w w2 : Mem} (h : FrT w w2) : FrM w w2 := ⟨fun a ha => h.1 a (by omega), fun a ha => h.2.2.1 a (by omega) (by omega) (by omega), h.2.2.2.2⟩
theorem FrT.S {w w2 : Mem} (h : FrT w w2) : Scr w w2 := ⟨h.M, fun a ha => h.1 a (by rintro rfl; exact absurd ha (by decide)), fun k hk => h.2.1 k (by rintro rfl; exact absurd hk (by decide)) (by rintro rfl; exact absurd hk (by decide))⟩
theorem envL_t {g : GC} {v n x : Nat} : envL g v n (20 + x) = (gT g 0 : Int) := by
  unfold envL
  rw [if_neg (by omega), if_neg (by omega), if_neg (by omega), if_neg (by omega), if_neg (by omega), if_neg (by omega)]
theorem bd_nat {x : Nat} (h : x ≤ 1000000000) : bd (x : Int) := ⟨by omega, by omega⟩
theorem envL_bd {g : GC} {v n : Nat} (hW : WG g) (hv : v < gV g) (hn : n < gN g) (k : Nat) : bd (envL g v n k) := by
  have h1 := hW.n
  have h2 := hW.v
  have h3 := hW.c n hn
  have h4 := hW.t
  have h5 := pop_le (nearB (gE g) n)
  have h6 := pop_le (gK g v)
  unfold envL
  split
  · exact bd_nat (by omega)
  · split
    · exact bd_nat (by omega)
    · split
      · exact bd_nat (by omega)
      · split
        · exact bd_nat (by omega)
        · split
          · exact bd_nat (by omega)
          · split
            · exact bd_nat (by omega)
            · exact bd_nat (by omega)
theorem drop_at {α : Type} {l : List α} {i : Nat} {q : α} (h : l[i]? = some q) : l.drop i = q :: l.drop (i + 1) := by
  obtain ⟨h1, h2⟩ := List.getElem?_eq_some_iff.mp h
  rw [List.drop_eq_getElem_cons h1, h2]
theorem tell_skip {env : Nat → Int} {kd : Nat} {r : Int} {q : Bool × Den × Option Den} (h : ¬ tg q.1 = kd) : tellS env kd r q = r := if_neg h
theorem tell_no {env : Nat → Int} {kd : Nat} {r : Int} {q : Bool × Den × Option Den} (h : tg q.1 = kd) (h2 : clSo env q = none) : tellS env kd r q = r := by unfold tellS; rw [if_pos h, h2]
theorem tell_yes {env : Nat → Int} {kd : Nat} {r z : Int} {q : Bool × Den × Option Den} (h : tg q.1 = kd) (h2 : clSo env q = some z) : tellS env kd r q = if kd = 0 then z else 1 := by unfold tellS; rw [if_pos h, h2]
theorem so_no {q : Bool × Den × Option Den} {c : Option Int} {x : Int32} {w2 : Mem} (h : SoP q c (some (.int x)) w2) (hx : x = 0) : c = none := by
  cases c with
  | none => rfl
  | some z =>
    have h2 : x = nI 1 := by
      have := h.1
      injection this with this
      injection this
    rw [h2] at hx
    exact absurd hx (by decide)
theorem so_yes {q : Bool × Den × Option Den} {c : Option Int} {x : Int32} {w2 : Mem} (h : SoP q c (some (.int x)) w2) (hx : ¬ x = 0) : ∃ z, c = some z ∧ (q.1 = true → rJ w2 89 40 = lI z ∧ bd z) := by
  cases c with
  | none =>
    have h2 : x = nI 0 := by
      have h3 : (some (.int x) : Option Value) = some (.int (nI 0)) := h
      injection h3 with h3
      injection h3
    exact absurd h2 hx
  | some z => exact ⟨z, rfl, h.2⟩
theorem SoP.int {q : Bool × Den × Option Den} {c : Option Int} {r : Option Value} {w2 : Mem} (h : SoP q c r w2) : ∃ x, r = some (.int x) := by
  cases c with
  | none => exact ⟨_, h⟩
  | some z => exact ⟨_, h.1⟩
theorem tg_0 {b : Bool} (h : tg b = 0) : b = true := by
  cases b with
  | true => rfl
  | false => exact absurd h (by decide)
theorem upd_s (f : Nat → Int32) (k : Nat) (x : Int32) : upd f k x k = x := by rw [upd_eq, if_pos rfl]
theorem c_M_tells {E : EV} {w : Mem} {g : GC} (hR : MRow (rI w 91) g) (hL : MLaws (rI w 91) (gL g)) (hW : WG g) (hOr : rI w 89 20 = nI 0) {v n kd : Nat} {d : Int} (hv : v < gV g) (hn : n < gN g) (hkd : kd < 2) (hd : bd d) : T E m_M_tells 3 0 0 [.ref 89, .int (nI kd), .int (nI v), .int (nI n), .long (lI d)] w (fun r w2 => r = some (.long (lI (gTell g kd v n d))) ∧ bd (gTell g kd v n d) ∧ FrT w w2) := by
  refine T_of (L := [.ref 89, .int (nI kd), .int (nI v), .int (nI n), .long (lI d), un, un, un, un, un]) cf_M_tells rfl (Nat.le_of_ble_eq_true rfl) (fun X hX hF => ?_)
  have hgn := hW.n
  have hgv := hW.v
  have hgt := hW.t
  have hgc := hW.c n hn
  have hgk := hW.k32 hv
  have hp1 := pop_le (nearB (gE g) n)
  have hp2 := pop_le (gK g v)
  have hll := hW.ll
  cases hgf : gF g with
  | none =>
    refine g_aload0 hX d_M_tells_0 ?_
    refine g_getF hX d_M_tells_1 fl_M_13 (lv_89 _) ?_
    refine g_iconst (v := nI 4) hX d_M_tells_4 rfl ?_
    refine g_iald hX d_M_tells_5 (lv_91 _) rfl (by decide) ?_
    refine g_topi (show rI w 91 4 = -1 by rw [hR.fo, hgf]; rfl) ?_
    refine g_iconst (v := -1) hX d_M_tells_6 rfl ?_
    refine g_icmp_ne hX d_M_tells_7 (fun h => absurd rfl h) (fun c0 => ?_)
    refine g_lload4 hX d_M_tells_10 ?_
    refine g_lret hX hF d_M_tells_12 (by omega) (by omega) ?_
    have hres : gTell g kd v n d = d := by unfold gTell; rw [hgf]
    exact ⟨by rw [hres], by rw [hres]; exact hd, FrT.rf _⟩
  | some i0 =>
    have hi0 := hW.fo i0 hgf
    obtain ⟨ls, hls⟩ : ∃ ls, (gL g)[i0]? = some ls := ⟨_, List.getElem?_eq_getElem hi0⟩
    obtain ⟨hll12, hlen0, op, arg, len, hlen4, hok, hws, hcode0, hcl0⟩ := hL i0 ls hls
    have hcode : ∀ j, j < len → rI w 91 ((110 + 900 * i0) + 98 + 2 * j) = nI (op j) ∧ rI w 91 ((110 + 900 * i0) + 98 + 2 * j + 1) = nI (arg j) := fun j hj => by
      have := hcode0 j hj
      rw [show (110 + 900 * i0) + 98 + 2 * j + 1 = (110 + 900 * i0) + (98 + 2 * j + 1) by omega, show (110 + 900 * i0) + 98 + 2 * j = (110 + 900 * i0) + (98 + 2 * j) by omega]
      exact this
    refine g_aload0 hX d_M_tells_0 ?_
    refine g_getF hX d_M_tells_1 fl_M_13 (lv_89 _) ?_
    refine g_iconst (v := nI 4) hX d_M_tells_4 rfl ?_
    refine g_iald hX d_M_tells_5 (lv_91 _) rfl (by decide) ?_
    refine g_topi (show rI w 91 4 = nI i0 by rw [hR.fo, hgf]; rfl) ?_
    refine g_iconst (v := -1) hX d_M_tells_6 rfl ?_
    refine g_icmp_ne hX d_M_tells_7 (fun c0 => ?_) (fun h => absurd h (nI_m1 (by omega)))
    refine g_aload0 hX d_M_tells_13 ?_
    refine g_bipush (v := nI 110) hX d_M_tells_14 rfl ?_
    refine g_sipush (v := nI 900) hX d_M_tells_16 rfl ?_
    refine g_aload0 hX d_M_tells_19 ?_
    refine g_getF hX d_M_tells_20 fl_M_13 (lv_89 _) ?_
    refine g_iconst (v := nI 4) hX d_M_tells_23 rfl ?_
    refine g_iald hX d_M_tells_24 (lv_91 _) rfl (by decide) ?_
    refine g_topi (show rI w 91 4 = nI i0 by rw [hR.fo, hgf]; rfl) ?_
    refine g_imulN hX d_M_tells_25 ?_
    refine g_iaddN hX d_M_tells_26 ?_
    refine g_putI hX d_M_tells_27 fl_M_412 (lv_89 _) ?_
    refine g_aload0 hX d_M_tells_30 ?_
    refine g_getF hX d_M_tells_31 fl_M_93 (lv_89 _) ?_
    refine g_iconst (v := nI 1) hX d_M_tells_34 rfl ?_
    refine g_iload2 hX d_M_tells_35 ?_
    refine g_i2l hX d_M_tells_36 ?_
    refine g_topl ((nI_l (by omega)).trans (lI_nat v)) ?_
    refine g_last hX d_M_tells_37 (lv_107 _) rfl (by decide) ?_
    refine g_aload0 hX d_M_tells_38 ?_
    refine g_getF hX d_M_tells_39 fl_M_93 (lv_89 _) ?_
    refine g_iconst (v := nI 2) hX d_M_tells_42 rfl ?_
    refine g_iload3 hX d_M_tells_43 ?_
    refine g_i2l hX d_M_tells_44 ?_
    refine g_topl ((nI_l (by omega)).trans (lI_nat n)) ?_
    refine g_last hX d_M_tells_45 (lv_107 _) rfl (by decide) ?_
    refine g_aload0 hX d_M_tells_46 ?_
    refine g_getF hX d_M_tells_47 fl_M_93 (lv_89 _) ?_
    refine g_iconst (v := nI 3) hX d_M_tells_50 rfl ?_
    refine g_aload0 hX d_M_tells_51 ?_
    refine g_getF hX d_M_tells_52 fl_M_13 (lv_89 _) ?_
    refine g_bipush (v := nI 9) hX d_M_tells_55 rfl ?_
    refine g_iload3 hX d_M_tells_57 ?_
    refine g_iaddN hX d_M_tells_58 ?_
    refine g_iald hX d_M_tells_59 (lv_91 _) rfl (by omega) ?_
    refine g_topi (hR.c n hn) ?_
    refine g_i2l hX d_M_tells_60 ?_
    refine g_topl ((nI_l (by omega)).trans (lI_nat (gC g n))) ?_
    refine g_last hX d_M_tells_61 (lv_107 _) rfl (by decide) ?_
    refine g_aload0 hX d_M_tells_62 ?_
    refine g_getF hX d_M_tells_63 fl_M_93 (lv_89 _) ?_
    refine g_iconst (v := nI 4) hX d_M_tells_66 rfl ?_
    refine g_aload0 hX d_M_tells_67 ?_
    refine g_iload3 hX d_M_tells_68 ?_
    refine g_callV (As := [_]) hX hF.1 d_M_tells_69 ml_M_218 cf_M_degreeOf cv_M_degreeOf rfl rfl (c_M_degreeOf (g := g) hR hW (by omega)) (rcv_obj hX (lv_89 _) rfl rfl) (by omega) (by omega) (by omega) (Nat.le_of_ble_eq_true rfl) ?_
    refine ret_k ?_
    refine g_i2l hX d_M_tells_72 ?_
    refine g_topl ((nI_l (by omega)).trans (lI_nat _)) ?_
    refine g_last hX d_M_tells_73 (lv_107 _) rfl (by decide) ?_
    refine g_aload0 hX d_M_tells_74 ?_
    refine g_getF hX d_M_tells_75 fl_M_93 (lv_89 _) ?_
    refine g_iconst (v := nI 5) hX d_M_tells_78 rfl ?_
    refine g_aload0 hX d_M_tells_79 ?_
    refine g_getF hX d_M_tells_80 fl_M_13 (lv_89 _) ?_
    refine g_bipush (v := nI 26) hX d_M_tells_83 rfl ?_
    refine g_iload2 hX d_M_tells_85 ?_
    refine g_iaddN hX d_M_tells_86 ?_
    refine g_iald hX d_M_tells_87 (lv_91 _) rfl (by omega) ?_
    refine g_topi (hR.k v hv) ?_
    refine g_callS (As := [_]) hX hF.1 d_M_tells_88 ml_M_204 cf_M_many cs_M_many rfl (c_M_many (by omega)) (by omega) (by omega) (by omega) (Nat.le_of_ble_eq_true rfl) ?_
    refine ret_k ?_
    refine g_i2l hX d_M_tells_91 ?_
    refine g_topl ((nI_l (by omega)).trans (lI_nat _)) ?_
    refine g_last hX d_M_tells_92 (lv_107 _) rfl (by decide) ?_
    refine g_aload0 hX d_M_tells_93 ?_
    refine g_getF hX d_M_tells_94 fl_M_93 (lv_89 _) ?_
    refine g_bipush (v := nI 6) hX d_M_tells_97 rfl ?_
    refine g_aload0 hX d_M_tells_99 ?_
    refine g_getF hX d_M_tells_100 fl_M_13 (lv_89 _) ?_
    refine g_bipush (v := nI 6) hX d_M_tells_103 rfl ?_
    refine g_iald hX d_M_tells_105 (lv_91 _) rfl (by decide) ?_
    refine g_topi (show rI w 91 (6 + 0) = _ from hR.t 0 (by decide)) ?_
    refine g_i2l hX d_M_tells_106 ?_
    refine g_topl ((nI_l (by omega)).trans (lI_nat _)) ?_
    refine g_last hX d_M_tells_107 (lv_107 _) rfl (by decide) ?_
    refine g_aload0 hX d_M_tells_108 ?_
    refine g_getF hX d_M_tells_109 fl_M_93 (lv_89 _) ?_
    refine g_bipush (v := nI 7) hX d_M_tells_112 rfl ?_
    refine g_aload0 hX d_M_tells_114 ?_
    refine g_getF hX d_M_tells_115 fl_M_13 (lv_89 _) ?_
    refine g_bipush (v := nI 8) hX d_M_tells_118 rfl ?_
    refine g_iald hX d_M_tells_120 (lv_91 _) rfl (by decide) ?_
    refine g_topi (show rI w 91 (6 + 2) = _ from hR.t 2 (by decide)) ?_
    refine g_i2l hX d_M_tells_121 ?_
    refine g_topl ((nI_l (by omega)).trans (lI_nat _)) ?_
    refine g_last hX d_M_tells_122 (lv_107 _) rfl (by decide) ?_
    refine g_lload4 hX d_M_tells_123 ?_
    refine g_lstore6 hX d_M_tells_125 rfl (by decide) ?_
    refine g_iconst (v := nI 0) hX d_M_tells_127 rfl ?_
    refine g_istore8 hX d_M_tells_128 rfl (by decide) ?_
    obtain ⟨w1, hw1⟩ : ∃ w1, (sJ (sJ (sJ (sJ (sJ (sJ (sJ (sI w 89 34 (nI (110 + 900 * i0))) 107 1 (lI (v : Int))) 107 2 (lI (n : Int))) 107 3 (lI (gC g n : Int))) 107 4 (lI (pop (nearB (gE g) n) : Int))) 107 5 (lI (pop (gK g v) : Int))) 107 6 (lI (gT g 0 : Int))) 107 7 (lI (gT g 2 : Int))) = w1 := ⟨_, rfl⟩
    rw [hw1]
    have hT1 : FrT w w1 := by
      rw [← hw1]
      exact (FrT.rf w).I.J.J.J.J.J.J.J
    have hA : LawAt w1 (110 + 900 * i0) op arg len (envL g v n) := by
      refine ⟨by rw [← hw1]; exact (rI_sI w 89 34 _ ▸ upd_s _ _ _ : rI (sI w 89 34 (nI (110 + 900 * i0))) 89 34 = nI (110 + 900 * i0)), by omega, hlen4, hok, by rw [hT1.1 91 (by decide)]; exact hcode, by rw [hT1.2.1 20 (by decide) (by decide)]; exact hOr, fun j hj h0 h20 => ?_⟩
      have h7 := hws j hj
      refine ⟨by omega, ?_, envL_bd hW hv hn _⟩
      have hcs : op j = 1 ∨ op j = 2 ∨ op j = 3 ∨ op j = 4 ∨ op j = 5 ∨ op j = 6 ∨ op j = 7 := by omega
      rw [← hw1]
      rcases hcs with z | z | z | z | z | z | z
      · rw [z]; rfl
      · rw [z]; rfl
      · rw [z]; rfl
      · rw [z]; rfl
      · rw [z]; rfl
      · rw [z, if_pos rfl, envL_t]; rfl
      · rw [z]; rfl
    have hlen : rI w1 91 ((110 + 900 * i0) + 1) = nI ls.length := by rw [hT1.1 91 (by decide)]; exact hlen0
    have hcl : ∀ (c : Nat) (x : Bool × Den × Option Den), ls[c]? = some x → MClause (fun j => rI w1 91 ((110 + 900 * i0) + j)) op arg len (2 + 8 * c) x := by rw [hT1.1 91 (by decide)]; exact hcl0
    obtain ⟨fin, hfin⟩ : ∃ f, ls.foldl (tellS (envL g v n) kd) d = f := ⟨_, rfl⟩
    have hres : gTell g kd v n d = fin := by
      rw [← hfin]
      unfold gTell
      rw [hgf]
      show List.foldl _ d ((gL g).getD i0 []) = _
      rw [List.getD_eq_getElem?_getD, hls]
      rfl
    have lp : ∀ (fuel : Nat) (i : Nat) (r : Int) (wk : Mem), ls.length - i < fuel → (FrE w1 wk) → (bd r) → ((ls.drop i).foldl (tellS (envL g v n) kd) r = fin) → (i ≤ ls.length) → G0 E X 0 0 130 [.ref 89, .int (nI kd), .int (nI v), .int (nI n), .long (lI d), un, .long (lI r), un, .int (nI i), un] [] wk := by
      intro fuel
      induction fuel with
      | zero => intro i r wk q0; exact absurd q0 (Nat.not_lt_zero _)
      | succ fuel ih =>
        intro i r wk q0 q1 q2 q3 q4
        refine g_iload8 hX d_M_tells_130 ?_
        refine g_aload0 hX d_M_tells_132 ?_
        refine g_getF hX d_M_tells_133 fl_M_13 (lv_89 _) ?_
        refine g_aload0 hX d_M_tells_136 ?_
        refine g_getI hX d_M_tells_137 fl_M_412 (lv_89 _) ?_
        refine g_topi (show rI wk 89 34 = nI (110 + 900 * i0) by rw [q1.2.1 34 (by decide)]; exact hA.1) ?_
        refine g_iconst (v := nI 1) hX d_M_tells_140 rfl ?_
        refine g_iaddN hX d_M_tells_141 ?_
        refine g_iald hX d_M_tells_142 (lv_91 _) rfl (by omega) ?_
        refine g_topi (show rI wk 91 ((110 + 900 * i0) + 1) = nI ls.length by rw [q1.1 91 (by decide)]; exact hlen) ?_
        refine g_icmpN_ge hX d_M_tells_143 (by omega) (by omega) (fun c0 => ?_) (fun c0 => ?_)
        · refine g_lload6 hX d_M_tells_200 ?_
          refine g_lret hX hF d_M_tells_202 (by omega) (by omega) ?_
          have hz : r = fin := by rw [← q3, List.drop_of_length_le (by omega)]; rfl
          refine ⟨?_, ?_, hT1.tr q1.T⟩
          · rw [hres, ← hz]
          · rw [hres, ← hz]; exact q2
        · have hil : i < ls.length := by omega
          obtain ⟨q, hq⟩ : ∃ q, ls[i]? = some q := ⟨_, List.getElem?_eq_getElem hil⟩
          have hst : (ls.drop (i + 1)).foldl (tellS (envL g v n) kd) (tellS (envL g v n) kd r q) = fin := by
            rw [← q3, drop_at hq]
            rfl
          have hMC : MClause (fun j => rI wk 91 ((110 + 900 * i0) + j)) op arg len (2 + 8 * i) q := by
            rw [q1.1 91 (by decide)]; exact hcl i q hq
          have htg : rI wk 91 ((110 + 900 * i0) + (2 + 8 * i)) = nI (tg q.1) := by
            refine hMC.1.trans ?_
            unfold tg
            cases q.1 <;> rfl
          have htl : tg q.1 < 2 := by unfold tg; split <;> decide
          refine g_aload0 hX d_M_tells_146 ?_
          refine g_getI hX d_M_tells_147 fl_M_412 (lv_89 _) ?_
          refine g_topi (show rI wk 89 34 = nI (110 + 900 * i0) by rw [q1.2.1 34 (by decide)]; exact hA.1) ?_
          refine g_iconst (v := nI 2) hX d_M_tells_150 rfl ?_
          refine g_iaddN hX d_M_tells_151 ?_
          refine g_bipush (v := nI 8) hX d_M_tells_152 rfl ?_
          refine g_iload8 hX d_M_tells_154 ?_
          refine g_imulN hX d_M_tells_156 ?_
          refine g_iaddN hX d_M_tells_157 ?_
          refine g_istore9 hX d_M_tells_158 rfl (by decide) ?_
          refine g_aload0 hX d_M_tells_160 ?_
          refine g_getF hX d_M_tells_161 fl_M_13 (lv_89 _) ?_
          refine g_iload9 hX d_M_tells_164 ?_
          refine g_iald hX d_M_tells_166 (lv_91 _) rfl (by omega) ?_
          refine g_topi (show rI wk 91 ((110 + 900 * i0) + 2 + 8 * i) = nI (tg q.1) by rw [Nat.add_assoc]; exact htg) ?_
          refine g_iload1 hX d_M_tells_167 ?_
          refine g_icmpN_ne hX d_M_tells_168 (by omega) (by omega) (fun e168 => ?_) (fun e168 => ?_)
          · refine g_iincN8 hX d_M_tells_194 rfl (by decide) ?_
            refine g_goto hX d_M_tells_197 ?_
            refine g_fget 9 ?_
            exact ih (i + 1) _ _ (by omega) q1 q2 ((congrArg (fun z => List.foldl (tellS (envL g v n) kd) z (ls.drop (i + 1))) (tell_skip e168)).symm.trans hst) (by omega)
          · refine g_aload0 hX d_M_tells_171 ?_
            refine g_iload9 hX d_M_tells_172 ?_
            refine g_topi (show nI ((110 + 900 * i0) + 2 + 8 * i) = nI ((110 + 900 * i0) + (2 + 8 * i)) by rw [Nat.add_assoc]) ?_
            refine g_callV (As := [_]) hX hF.1 d_M_tells_174 ml_M_432 cf_M_isSo cv_M_isSo rfl rfl (c_M_isSo (hA.fr q1) hMC (by omega)) (rcv_obj hX (lv_89 _) rfl rfl) (by omega) (by omega) (by omega) (Nat.le_of_ble_eq_true rfl) ?_
            rintro _ w2 ⟨hw2, hso⟩
            obtain ⟨x, rfl⟩ := hso.int
            show G0 _ _ _ _ _ _ _ _
            refine g_if_eq hX d_M_tells_177 (fun e177 => ?_) (fun e177 => ?_)
            · refine g_iincN8 hX d_M_tells_194 rfl (by decide) ?_
              refine g_goto hX d_M_tells_197 ?_
              refine g_fget 9 ?_
              exact ih (i + 1) _ _ (by omega) (q1.tr hw2) q2 ((congrArg (fun z => List.foldl (tellS (envL g v n) kd) z (ls.drop (i + 1))) (tell_no e168 (so_no hso e177))).symm.trans hst) (by omega)
            · obtain ⟨z, hz1, hz2⟩ := so_yes hso e177
              refine g_iload1 hX d_M_tells_180 ?_
              refine g_if_ne hX d_M_tells_181 (fun e181 => ?_) (fun e181 => ?_)
              · refine g_lconst (v := lN 1) hX d_M_tells_191 rfl ?_
                refine g_lstore6 hX d_M_tells_192 rfl (by decide) ?_
                refine g_iincN8 hX d_M_tells_194 rfl (by decide) ?_
                refine g_goto hX d_M_tells_197 ?_
                refine g_fget 9 ?_
                exact ih (i + 1) _ _ (by omega) (q1.tr hw2) (show bd 1 by omega) ((congrArg (fun z => List.foldl (tellS (envL g v n) kd) z (ls.drop (i + 1))) ((tell_yes e168 hz1).trans (if_neg (fun y => e181 (by rw [y]; rfl))))).symm.trans hst) (by omega)
              · have hk0 : kd = 0 := nI_inj (by omega) (by decide) e181
                obtain ⟨hz3, hz4⟩ := hz2 (tg_0 (e168.trans hk0))
                refine g_aload0 hX d_M_tells_184 ?_
                refine g_getJ hX d_M_tells_185 fl_M_429 (lv_89 _) ?_
                refine g_topl hz3 ?_
                refine g_goto hX d_M_tells_188 ?_
                refine g_lstore6 hX d_M_tells_192 rfl (by decide) ?_
                refine g_iincN8 hX d_M_tells_194 rfl (by decide) ?_
                refine g_goto hX d_M_tells_197 ?_
                refine g_fget 9 ?_
                exact ih (i + 1) _ _ (by omega) (q1.tr hw2) hz4 ((congrArg (fun z => List.foldl (tellS (envL g v n) kd) z (ls.drop (i + 1))) ((tell_yes e168 hz1).trans (if_pos hk0))).symm.trans hst) (by omega)
    exact lp (ls.length + 1) 0 d w1 (by omega) (FrE.rf _) hd hfin (by omega)
