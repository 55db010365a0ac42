/-- a partition step of the reference: of the upper levels, of the last -/
def pAN (fr a b S : Nat) (x : Nat × Nat) : Nat × Nat := if b ≤ fr - 2 then (x.1 + (b + a), max x.2 (b + 2)) else (x.1 + (a + b) + S, max x.2 fr)
def pAB (fr a b : Nat) (x : Nat × Nat) : Nat × Nat := if b ≤ fr - 2 then (x.1 + (b + a), max x.2 (b + 2)) else (x.1 + (b + a * ((b + fr - 3) / (fr - 2))), max x.2 fr)
theorem pAN_lt {fr a b S : Nat} {x : Nat × Nat} (hf : fr ≤ 8) (h : x.2 < 500) : (pAN fr a b S x).2 < 500 := by
  unfold pAN
  by_cases q : b ≤ fr - 2
  · rw [if_pos q]; exact Nat.max_lt.mpr ⟨h, by omega⟩
  · rw [if_neg q]; exact Nat.max_lt.mpr ⟨h, by omega⟩
theorem pAB_lt {fr a b : Nat} {x : Nat × Nat} (hf : fr ≤ 8) (h : x.2 < 500) : (pAB fr a b x).2 < 500 := by
  unfold pAB
  by_cases q : b ≤ fr - 2
  · rw [if_pos q]; exact Nat.max_lt.mpr ⟨h, by omega⟩
  · rw [if_neg q]; exact Nat.max_lt.mpr ⟨h, by omega⟩
theorem pt_an {fr a b S tr ms : Nat} {x : Int32} {u : Nat × Nat} (h : (b ≤ fr - 2 ∧ x = zb false ∧ u.1 = tr + (b + a) ∧ u.2 = max ms (b + 2)) ∨ (fr - 2 < b ∧ x = zb true ∧ u.1 = tr + (a + b) + S ∧ u.2 = max ms fr)) : x = zb (decide (fr - 2 < b)) ∧ u = pAN fr a b S (tr, ms) := by
  obtain ⟨u1, u2⟩ := u
  unfold pAN
  rcases h with ⟨h1, h2, h3, h4⟩ | ⟨h1, h2, h3, h4⟩
  · rw [if_pos h1, decide_eq_false (by omega)]; exact ⟨h2, Prod.ext h3 h4⟩
  · rw [if_neg (by omega), decide_eq_true h1]; exact ⟨h2, Prod.ext h3 h4⟩
theorem pt_ab {fr a b tr ms : Nat} {x : Int32} {u : Nat × Nat} (h : (b ≤ fr - 2 ∧ x = zb false ∧ u.1 = tr + (b + a) ∧ u.2 = max ms (b + 2)) ∨ (fr - 2 < b ∧ x = zb false ∧ u.1 = tr + (b + a * ((b + fr - 3) / (fr - 2))) ∧ u.2 = max ms fr)) : x = zb false ∧ u = pAB fr a b (tr, ms) := by
  obtain ⟨u1, u2⟩ := u
  unfold pAB
  rcases h with ⟨h1, h2, h3, h4⟩ | ⟨h1, h2, h3, h4⟩
  · rw [if_pos h1]; exact ⟨h2, Prod.ext h3 h4⟩
  · rw [if_neg (by omega)]; exact ⟨h2, Prod.ext h3 h4⟩
def mBT (fr a b S : Nat) (there : Bool) (sub : Nat × Nat → Nat × Nat) (x : Nat × Nat) : Nat × Nat := if there = true then (if fr - 2 < b then sub (pAN fr a b S x) else pAN fr a b S x) else x
/-- a stretch of a function is replaced -/
def mPut {α : Type} (f : Nat → α) (base : Nat) (r : Nat → α) (d : Nat) : Nat → α := fun z => if base ≤ z ∧ z < base + d then r (z - base) else f z
theorem mPut_0 {α : Type} {f : Nat → α} {base : Nat} {r : Nat → α} : mPut f base r 0 = f := by
  funext z
  unfold mPut
  rw [if_neg (by omega)]
theorem mPut_s {α : Type} {f : Nat → α} {base d : Nat} {r : Nat → α} : va_up (mPut f base r d) (base + d) (r d) = mPut f base r (d + 1) := by
  funext z
  unfold va_up mPut
  by_cases h : z = base + d
  · rw [if_pos h, if_pos (by omega), h, Nat.add_sub_cancel_left]
  · rw [if_neg h]
    by_cases h2 : base ≤ z ∧ z < base + d
    · rw [if_pos h2, if_pos (by omega)]
    · rw [if_neg h2, if_neg (by omega)]
theorem mPut_i {f : Nat → Int32} {base d : Nat} {r : Nat → Int32} : upd (mPut f base r d) (base + d) (r d) = mPut f base r (d + 1) := mPut_s
/-- the cells of a row that the reference makes -/
def mIs (ho : Nat → Int32) (a : Nat) (b : Option Nat) (c : Nat) : Bool := if c < 3 then hBit (ho (24 * 0 + a)) c else if c < 6 then (match b with
  | none => false
  | some b => hBit (ho (24 * 1 + b)) (c - 3)) else false
def mVl (ho gv : Nat → Int32) (a : Nat) (b : Option Nat) (c : Nat) : Int32 := if mIs ho a b c = true then (if c < 3 then gv (72 * 0 + 3 * a + c) else match b with
  | none => nI 0
  | some b => gv (72 * 1 + 3 * b + (c - 3))) else nI 0
theorem d_Mo_make_0 : decode b_Mo_make 0 = .ok (.iconst 0, 1) := by decide +kernel
theorem d_Mo_make_1 : decode b_Mo_make 1 = .ok (.istore_n 3, 1) := by decide +kernel
theorem d_Mo_make_2 : decode b_Mo_make 2 = .ok (.iload_n 3, 1) := by decide +kernel
theorem d_Mo_make_3 : decode b_Mo_make 3 = .ok (.bipush 9, 2) := by decide +kernel
theorem d_Mo_make_5 : decode b_Mo_make 5 = .ok (.if_icmp .ge 136, 3) := by decide +kernel
theorem d_Mo_make_8 : decode b_Mo_make 8 = .ok (.iload_n 3, 1) := by decide +kernel
theorem d_Mo_make_9 : decode b_Mo_make 9 = .ok (.iconst 3, 1) := by decide +kernel
theorem d_Mo_make_10 : decode b_Mo_make 10 = .ok (.if_icmp .ge 7, 3) := by decide +kernel
theorem d_Mo_make_13 : decode b_Mo_make 13 = .ok (.iconst 1, 1) := by decide +kernel
theorem d_Mo_make_14 : decode b_Mo_make 14 = .ok (.goto 4, 3) := by decide +kernel
theorem d_Mo_make_17 : decode b_Mo_make 17 = .ok (.iconst 0, 1) := by decide +kernel
theorem d_Mo_make_18 : decode b_Mo_make 18 = .ok (.istore 4, 2) := by decide +kernel
theorem d_Mo_make_20 : decode b_Mo_make 20 = .ok (.iload 4, 2) := by decide +kernel
theorem d_Mo_make_22 : decode b_Mo_make 22 = .ok (.ifCond .eq 13, 3) := by decide +kernel
theorem d_Mo_make_25 : decode b_Mo_make 25 = .ok (.aload_n 0, 1) := by decide +kernel
theorem d_Mo_make_26 : decode b_Mo_make 26 = .ok (.iconst 0, 1) := by decide +kernel
theorem d_Mo_make_27 : decode b_Mo_make 27 = .ok (.iload_n 1, 1) := by decide +kernel
theorem d_Mo_make_28 : decode b_Mo_make 28 = .ok (.iload_n 3, 1) := by decide +kernel
theorem d_Mo_make_29 : decode b_Mo_make 29 = .ok (.invokevirtual 113, 3) := by decide +kernel
theorem d_Mo_make_32 : decode b_Mo_make 32 = .ok (.goto 30, 3) := by decide +kernel
theorem d_Mo_make_35 : decode b_Mo_make 35 = .ok (.iload_n 3, 1) := by decide +kernel
theorem d_Mo_make_36 : decode b_Mo_make 36 = .ok (.bipush 6, 2) := by decide +kernel
theorem d_Mo_make_38 : decode b_Mo_make 38 = .ok (.if_icmp .ge 23, 3) := by decide +kernel
theorem d_Mo_make_41 : decode b_Mo_make 41 = .ok (.iload_n 2, 1) := by decide +kernel
theorem d_Mo_make_42 : decode b_Mo_make 42 = .ok (.ifCond .lt 19, 3) := by decide +kernel
theorem d_Mo_make_45 : decode b_Mo_make 45 = .ok (.aload_n 0, 1) := by decide +kernel
theorem d_Mo_make_46 : decode b_Mo_make 46 = .ok (.iconst 1, 1) := by decide +kernel
theorem d_Mo_make_47 : decode b_Mo_make 47 = .ok (.iload_n 2, 1) := by decide +kernel
theorem d_Mo_make_48 : decode b_Mo_make 48 = .ok (.iload_n 3, 1) := by decide +kernel
theorem d_Mo_make_49 : decode b_Mo_make 49 = .ok (.iconst 3, 1) := by decide +kernel
theorem d_Mo_make_50 : decode b_Mo_make 50 = .ok (.isub, 1) := by decide +kernel
theorem d_Mo_make_51 : decode b_Mo_make 51 = .ok (.invokevirtual 113, 3) := by decide +kernel
theorem d_Mo_make_54 : decode b_Mo_make 54 = .ok (.ifCond .eq 7, 3) := by decide +kernel
theorem d_Mo_make_57 : decode b_Mo_make 57 = .ok (.iconst 1, 1) := by decide +kernel
theorem d_Mo_make_58 : decode b_Mo_make 58 = .ok (.goto 4, 3) := by decide +kernel
theorem d_Mo_make_61 : decode b_Mo_make 61 = .ok (.iconst 0, 1) := by decide +kernel
theorem d_Mo_make_62 : decode b_Mo_make 62 = .ok (.istore 5, 2) := by decide +kernel
theorem d_Mo_make_64 : decode b_Mo_make 64 = .ok (.aload_n 0, 1) := by decide +kernel
theorem d_Mo_make_65 : decode b_Mo_make 65 = .ok (.getfield 56, 3) := by decide +kernel
theorem d_Mo_make_68 : decode b_Mo_make 68 = .ok (.bipush 9, 2) := by decide +kernel
theorem d_Mo_make_70 : decode b_Mo_make 70 = .ok (.aload_n 0, 1) := by decide +kernel
theorem d_Mo_make_71 : decode b_Mo_make 71 = .ok (.getfield 152, 3) := by decide +kernel
theorem d_Mo_make_74 : decode b_Mo_make 74 = .ok (.imul, 1) := by decide +kernel
theorem d_Mo_make_75 : decode b_Mo_make 75 = .ok (.iload_n 3, 1) := by decide +kernel
theorem d_Mo_make_76 : decode b_Mo_make 76 = .ok (.iadd, 1) := by decide +kernel
theorem d_Mo_make_77 : decode b_Mo_make 77 = .ok (.iload 5, 2) := by decide +kernel
theorem d_Mo_make_79 : decode b_Mo_make 79 = .ok (.ifCond .ne 7, 3) := by decide +kernel
theorem d_Mo_make_82 : decode b_Mo_make 82 = .ok (.iconst 1, 1) := by decide +kernel
theorem d_Mo_make_83 : decode b_Mo_make 83 = .ok (.goto 4, 3) := by decide +kernel
theorem d_Mo_make_86 : decode b_Mo_make 86 = .ok (.iconst 0, 1) := by decide +kernel
theorem d_Mo_make_87 : decode b_Mo_make 87 = .ok (.bastore, 1) := by decide +kernel
theorem d_Mo_make_88 : decode b_Mo_make 88 = .ok (.aload_n 0, 1) := by decide +kernel
theorem d_Mo_make_89 : decode b_Mo_make 89 = .ok (.getfield 53, 3) := by decide +kernel
theorem d_Mo_make_92 : decode b_Mo_make 92 = .ok (.bipush 9, 2) := by decide +kernel
theorem d_Mo_make_94 : decode b_Mo_make 94 = .ok (.aload_n 0, 1) := by decide +kernel
theorem d_Mo_make_95 : decode b_Mo_make 95 = .ok (.getfield 152, 3) := by decide +kernel
theorem d_Mo_make_98 : decode b_Mo_make 98 = .ok (.imul, 1) := by decide +kernel
theorem d_Mo_make_99 : decode b_Mo_make 99 = .ok (.iload_n 3, 1) := by decide +kernel
theorem d_Mo_make_100 : decode b_Mo_make 100 = .ok (.iadd, 1) := by decide +kernel
theorem d_Mo_make_101 : decode b_Mo_make 101 = .ok (.iload 5, 2) := by decide +kernel
theorem d_Mo_make_103 : decode b_Mo_make 103 = .ok (.ifCond .ne 7, 3) := by decide +kernel
theorem d_Mo_make_106 : decode b_Mo_make 106 = .ok (.iconst 0, 1) := by decide +kernel
theorem d_Mo_make_107 : decode b_Mo_make 107 = .ok (.goto 27, 3) := by decide +kernel
theorem d_Mo_make_110 : decode b_Mo_make 110 = .ok (.iload 4, 2) := by decide +kernel
theorem d_Mo_make_112 : decode b_Mo_make 112 = .ok (.ifCond .eq 13, 3) := by decide +kernel
theorem d_Mo_make_115 : decode b_Mo_make 115 = .ok (.aload_n 0, 1) := by decide +kernel
theorem d_Mo_make_116 : decode b_Mo_make 116 = .ok (.iconst 0, 1) := by decide +kernel
theorem d_Mo_make_117 : decode b_Mo_make 117 = .ok (.iload_n 1, 1) := by decide +kernel
theorem d_Mo_make_118 : decode b_Mo_make 118 = .ok (.iload_n 3, 1) := by decide +kernel
theorem d_Mo_make_119 : decode b_Mo_make 119 = .ok (.invokevirtual 115, 3) := by decide +kernel
theorem d_Mo_make_122 : decode b_Mo_make 122 = .ok (.goto 12, 3) := by decide +kernel
theorem d_Mo_make_125 : decode b_Mo_make 125 = .ok (.aload_n 0, 1) := by decide +kernel
theorem d_Mo_make_126 : decode b_Mo_make 126 = .ok (.iconst 1, 1) := by decide +kernel
theorem d_Mo_make_127 : decode b_Mo_make 127 = .ok (.iload_n 2, 1) := by decide +kernel
theorem d_Mo_make_128 : decode b_Mo_make 128 = .ok (.iload_n 3, 1) := by decide +kernel
theorem d_Mo_make_129 : decode b_Mo_make 129 = .ok (.iconst 3, 1) := by decide +kernel
theorem d_Mo_make_130 : decode b_Mo_make 130 = .ok (.isub, 1) := by decide +kernel
theorem d_Mo_make_131 : decode b_Mo_make 131 = .ok (.invokevirtual 115, 3) := by decide +kernel
theorem d_Mo_make_134 : decode b_Mo_make 134 = .ok (.iastore, 1) := by decide +kernel
theorem d_Mo_make_135 : decode b_Mo_make 135 = .ok (.iinc 3 1, 3) := by decide +kernel
theorem d_Mo_make_138 : decode b_Mo_make 138 = .ok (.goto (-136), 3) := by decide +kernel
theorem d_Mo_make_141 : decode b_Mo_make 141 = .ok (.aload_n 0, 1) := by decide +kernel
theorem d_Mo_make_142 : decode b_Mo_make 142 = .ok (.getfield 59, 3) := by decide +kernel
theorem d_Mo_make_145 : decode b_Mo_make 145 = .ok (.aload_n 0, 1) := by decide +kernel
theorem d_Mo_make_146 : decode b_Mo_make 146 = .ok (.getfield 152, 3) := by decide +kernel
theorem d_Mo_make_149 : decode b_Mo_make 149 = .ok (.iload_n 1, 1) := by decide +kernel
theorem d_Mo_make_150 : decode b_Mo_make 150 = .ok (.iastore, 1) := by decide +kernel
theorem d_Mo_make_151 : decode b_Mo_make 151 = .ok (.aload_n 0, 1) := by decide +kernel
theorem d_Mo_make_152 : decode b_Mo_make 152 = .ok (.getfield 62, 3) := by decide +kernel
theorem d_Mo_make_155 : decode b_Mo_make 155 = .ok (.aload_n 0, 1) := by decide +kernel
theorem d_Mo_make_156 : decode b_Mo_make 156 = .ok (.getfield 152, 3) := by decide +kernel
theorem d_Mo_make_159 : decode b_Mo_make 159 = .ok (.iload_n 2, 1) := by decide +kernel
theorem d_Mo_make_160 : decode b_Mo_make 160 = .ok (.iastore, 1) := by decide +kernel
theorem d_Mo_make_161 : decode b_Mo_make 161 = .ok (.aload_n 0, 1) := by decide +kernel
theorem d_Mo_make_162 : decode b_Mo_make 162 = .ok (.getfield 65, 3) := by decide +kernel
theorem d_Mo_make_165 : decode b_Mo_make 165 = .ok (.aload_n 0, 1) := by decide +kernel
theorem d_Mo_make_166 : decode b_Mo_make 166 = .ok (.getfield 152, 3) := by decide +kernel
theorem d_Mo_make_169 : decode b_Mo_make 169 = .ok (.aload_n 0, 1) := by decide +kernel
theorem d_Mo_make_170 : decode b_Mo_make 170 = .ok (.getfield 152, 3) := by decide +kernel
theorem d_Mo_make_173 : decode b_Mo_make 173 = .ok (.iastore, 1) := by decide +kernel
theorem d_Mo_make_174 : decode b_Mo_make 174 = .ok (.aload_n 0, 1) := by decide +kernel
theorem d_Mo_make_175 : decode b_Mo_make 175 = .ok (.dup, 1) := by decide +kernel
theorem d_Mo_make_176 : decode b_Mo_make 176 = .ok (.getfield 152, 3) := by decide +kernel
theorem d_Mo_make_179 : decode b_Mo_make 179 = .ok (.iconst 1, 1) := by decide +kernel
theorem d_Mo_make_180 : decode b_Mo_make 180 = .ok (.iadd, 1) := by decide +kernel
theorem d_Mo_make_181 : decode b_Mo_make 181 = .ok (.putfield 152, 3) := by decide +kernel
theorem d_Mo_make_184 : decode b_Mo_make 184 = .ok (.return_, 1) := by decide +kernel
theorem d_Mo_runJoin_0 : decode b_Mo_runJoin 0 = .ok (.iconst 0, 1) := by decide +kernel
theorem d_Mo_runJoin_1 : decode b_Mo_runJoin 1 = .ok (.istore_n 1, 1) := by decide +kernel
theorem d_Mo_runJoin_2 : decode b_Mo_runJoin 2 = .ok (.iload_n 1, 1) := by decide +kernel
theorem d_Mo_runJoin_3 : decode b_Mo_runJoin 3 = .ok (.aload_n 0, 1) := by decide +kernel
theorem d_Mo_runJoin_4 : decode b_Mo_runJoin 4 = .ok (.getfield 119, 3) := by decide +kernel
theorem d_Mo_runJoin_7 : decode b_Mo_runJoin 7 = .ok (.if_icmp .ge 144, 3) := by decide +kernel
theorem d_Mo_runJoin_10 : decode b_Mo_runJoin 10 = .ok (.aload_n 0, 1) := by decide +kernel
theorem d_Mo_runJoin_11 : decode b_Mo_runJoin 11 = .ok (.getfield 155, 3) := by decide +kernel
theorem d_Mo_runJoin_14 : decode b_Mo_runJoin 14 = .ok (.ifCond .ne 137, 3) := by decide +kernel
theorem d_Mo_runJoin_17 : decode b_Mo_runJoin 17 = .ok (.aload_n 0, 1) := by decide +kernel
theorem d_Mo_runJoin_18 : decode b_Mo_runJoin 18 = .ok (.getfield 50, 3) := by decide +kernel
theorem d_Mo_runJoin_21 : decode b_Mo_runJoin 21 = .ok (.iload_n 1, 1) := by decide +kernel
theorem d_Mo_runJoin_22 : decode b_Mo_runJoin 22 = .ok (.iaload, 1) := by decide +kernel
theorem d_Mo_runJoin_23 : decode b_Mo_runJoin 23 = .ok (.istore_n 2, 1) := by decide +kernel
theorem d_Mo_runJoin_24 : decode b_Mo_runJoin 24 = .ok (.iconst 0, 1) := by decide +kernel
theorem d_Mo_runJoin_25 : decode b_Mo_runJoin 25 = .ok (.istore_n 3, 1) := by decide +kernel
theorem d_Mo_runJoin_26 : decode b_Mo_runJoin 26 = .ok (.iload_n 3, 1) := by decide +kernel
theorem d_Mo_runJoin_27 : decode b_Mo_runJoin 27 = .ok (.aload_n 0, 1) := by decide +kernel
theorem d_Mo_runJoin_28 : decode b_Mo_runJoin 28 = .ok (.getfield 7, 3) := by decide +kernel
theorem d_Mo_runJoin_31 : decode b_Mo_runJoin 31 = .ok (.iconst 1, 1) := by decide +kernel
theorem d_Mo_runJoin_32 : decode b_Mo_runJoin 32 = .ok (.iaload, 1) := by decide +kernel
theorem d_Mo_runJoin_33 : decode b_Mo_runJoin 33 = .ok (.if_icmp .ge 112, 3) := by decide +kernel
theorem d_Mo_runJoin_36 : decode b_Mo_runJoin 36 = .ok (.aload_n 0, 1) := by decide +kernel
theorem d_Mo_runJoin_37 : decode b_Mo_runJoin 37 = .ok (.getfield 155, 3) := by decide +kernel
theorem d_Mo_runJoin_40 : decode b_Mo_runJoin 40 = .ok (.ifCond .ne 105, 3) := by decide +kernel
theorem d_Mo_runJoin_43 : decode b_Mo_runJoin 43 = .ok (.aload_n 0, 1) := by decide +kernel
theorem d_Mo_runJoin_44 : decode b_Mo_runJoin 44 = .ok (.iconst 0, 1) := by decide +kernel
theorem d_Mo_runJoin_45 : decode b_Mo_runJoin 45 = .ok (.iload_n 2, 1) := by decide +kernel
theorem d_Mo_runJoin_46 : decode b_Mo_runJoin 46 = .ok (.aload_n 0, 1) := by decide +kernel
theorem d_Mo_runJoin_47 : decode b_Mo_runJoin 47 = .ok (.getfield 98, 3) := by decide +kernel
theorem d_Mo_runJoin_50 : decode b_Mo_runJoin 50 = .ok (.invokevirtual 113, 3) := by decide +kernel
theorem d_Mo_runJoin_53 : decode b_Mo_runJoin 53 = .ok (.ifCond .eq 43, 3) := by decide +kernel
theorem d_Mo_runJoin_56 : decode b_Mo_runJoin 56 = .ok (.aload_n 0, 1) := by decide +kernel
theorem d_Mo_runJoin_57 : decode b_Mo_runJoin 57 = .ok (.iconst 1, 1) := by decide +kernel
theorem d_Mo_runJoin_58 : decode b_Mo_runJoin 58 = .ok (.iload_n 3, 1) := by decide +kernel
theorem d_Mo_runJoin_59 : decode b_Mo_runJoin 59 = .ok (.aload_n 0, 1) := by decide +kernel
theorem d_Mo_runJoin_60 : decode b_Mo_runJoin 60 = .ok (.getfield 101, 3) := by decide +kernel
theorem d_Mo_runJoin_63 : decode b_Mo_runJoin 63 = .ok (.invokevirtual 113, 3) := by decide +kernel
theorem d_Mo_runJoin_66 : decode b_Mo_runJoin 66 = .ok (.ifCond .eq 30, 3) := by decide +kernel
theorem d_Mo_runJoin_69 : decode b_Mo_runJoin 69 = .ok (.aload_n 0, 1) := by decide +kernel
theorem d_Mo_runJoin_70 : decode b_Mo_runJoin 70 = .ok (.iconst 0, 1) := by decide +kernel
theorem d_Mo_runJoin_71 : decode b_Mo_runJoin 71 = .ok (.iload_n 2, 1) := by decide +kernel
theorem d_Mo_runJoin_72 : decode b_Mo_runJoin 72 = .ok (.aload_n 0, 1) := by decide +kernel
theorem d_Mo_runJoin_73 : decode b_Mo_runJoin 73 = .ok (.getfield 98, 3) := by decide +kernel
theorem d_Mo_runJoin_76 : decode b_Mo_runJoin 76 = .ok (.invokevirtual 115, 3) := by decide +kernel
theorem d_Mo_runJoin_79 : decode b_Mo_runJoin 79 = .ok (.aload_n 0, 1) := by decide +kernel
theorem d_Mo_runJoin_80 : decode b_Mo_runJoin 80 = .ok (.iconst 1, 1) := by decide +kernel
theorem d_Mo_runJoin_81 : decode b_Mo_runJoin 81 = .ok (.iload_n 3, 1) := by decide +kernel
theorem d_Mo_runJoin_82 : decode b_Mo_runJoin 82 = .ok (.aload_n 0, 1) := by decide +kernel
theorem d_Mo_runJoin_83 : decode b_Mo_runJoin 83 = .ok (.getfield 101, 3) := by decide +kernel
theorem d_Mo_runJoin_86 : decode b_Mo_runJoin 86 = .ok (.invokevirtual 115, 3) := by decide +kernel
theorem d_Mo_runJoin_89 : decode b_Mo_runJoin 89 = .ok (.if_icmp .ne 7, 3) := by decide +kernel
theorem d_Mo_runJoin_92 : decode b_Mo_runJoin 92 = .ok (.iconst 1, 1) := by decide +kernel
theorem d_Mo_runJoin_93 : decode b_Mo_runJoin 93 = .ok (.goto 4, 3) := by decide +kernel
theorem d_Mo_runJoin_96 : decode b_Mo_runJoin 96 = .ok (.iconst 0, 1) := by decide +kernel
theorem d_Mo_runJoin_97 : decode b_Mo_runJoin 97 = .ok (.istore 4, 2) := by decide +kernel
theorem d_Mo_runJoin_99 : decode b_Mo_runJoin 99 = .ok (.iload 4, 2) := by decide +kernel
theorem d_Mo_runJoin_101 : decode b_Mo_runJoin 101 = .ok (.ifCond .eq 18, 3) := by decide +kernel
theorem d_Mo_runJoin_104 : decode b_Mo_runJoin 104 = .ok (.aload_n 0, 1) := by decide +kernel
theorem d_Mo_runJoin_105 : decode b_Mo_runJoin 105 = .ok (.getfield 152, 3) := by decide +kernel
theorem d_Mo_runJoin_108 : decode b_Mo_runJoin 108 = .ok (.bipush 60, 2) := by decide +kernel
theorem d_Mo_runJoin_110 : decode b_Mo_runJoin 110 = .ok (.if_icmp .ne 9, 3) := by decide +kernel
theorem d_Mo_runJoin_113 : decode b_Mo_runJoin 113 = .ok (.aload_n 0, 1) := by decide +kernel
theorem d_Mo_runJoin_114 : decode b_Mo_runJoin 114 = .ok (.bipush (-2), 2) := by decide +kernel
theorem d_Mo_runJoin_116 : decode b_Mo_runJoin 116 = .ok (.putfield 155, 3) := by decide +kernel
theorem d_Mo_runJoin_119 : decode b_Mo_runJoin 119 = .ok (.iload 4, 2) := by decide +kernel
theorem d_Mo_runJoin_121 : decode b_Mo_runJoin 121 = .ok (.ifCond .eq 18, 3) := by decide +kernel
theorem d_Mo_runJoin_124 : decode b_Mo_runJoin 124 = .ok (.aload_n 0, 1) := by decide +kernel
theorem d_Mo_runJoin_125 : decode b_Mo_runJoin 125 = .ok (.getfield 152, 3) := by decide +kernel
theorem d_Mo_runJoin_128 : decode b_Mo_runJoin 128 = .ok (.bipush 60, 2) := by decide +kernel
theorem d_Mo_runJoin_130 : decode b_Mo_runJoin 130 = .ok (.if_icmp .ge 9, 3) := by decide +kernel
theorem d_Mo_runJoin_133 : decode b_Mo_runJoin 133 = .ok (.aload_n 0, 1) := by decide +kernel
theorem d_Mo_runJoin_134 : decode b_Mo_runJoin 134 = .ok (.iload_n 2, 1) := by decide +kernel
theorem d_Mo_runJoin_135 : decode b_Mo_runJoin 135 = .ok (.iload_n 3, 1) := by decide +kernel
theorem d_Mo_runJoin_136 : decode b_Mo_runJoin 136 = .ok (.invokevirtual 158, 3) := by decide +kernel
theorem d_Mo_runJoin_139 : decode b_Mo_runJoin 139 = .ok (.iinc 3 1, 3) := by decide +kernel
theorem d_Mo_runJoin_142 : decode b_Mo_runJoin 142 = .ok (.goto (-116), 3) := by decide +kernel
theorem d_Mo_runJoin_145 : decode b_Mo_runJoin 145 = .ok (.iinc 1 1, 3) := by decide +kernel
theorem d_Mo_runJoin_148 : decode b_Mo_runJoin 148 = .ok (.goto (-146), 3) := by decide +kernel
theorem d_Mo_runJoin_151 : decode b_Mo_runJoin 151 = .ok (.aload_n 0, 1) := by decide +kernel
theorem d_Mo_runJoin_152 : decode b_Mo_runJoin 152 = .ok (.getfield 155, 3) := by decide +kernel
theorem d_Mo_runJoin_155 : decode b_Mo_runJoin 155 = .ok (.ifCond .ne 19, 3) := by decide +kernel
theorem d_Mo_runJoin_158 : decode b_Mo_runJoin 158 = .ok (.aload_n 0, 1) := by decide +kernel
theorem d_Mo_runJoin_159 : decode b_Mo_runJoin 159 = .ok (.getfield 119, 3) := by decide +kernel
theorem d_Mo_runJoin_162 : decode b_Mo_runJoin 162 = .ok (.ifCond .eq 12, 3) := by decide +kernel
theorem d_Mo_runJoin_165 : decode b_Mo_runJoin 165 = .ok (.aload_n 0, 1) := by decide +kernel
theorem d_Mo_runJoin_166 : decode b_Mo_runJoin 166 = .ok (.getfield 7, 3) := by decide +kernel
theorem d_Mo_runJoin_169 : decode b_Mo_runJoin 169 = .ok (.iconst 1, 1) := by decide +kernel
theorem d_Mo_runJoin_170 : decode b_Mo_runJoin 170 = .ok (.iaload, 1) := by decide +kernel
theorem d_Mo_runJoin_171 : decode b_Mo_runJoin 171 = .ok (.ifCond .ne 4, 3) := by decide +kernel
theorem d_Mo_runJoin_174 : decode b_Mo_runJoin 174 = .ok (.return_, 1) := by decide +kernel
theorem d_Mo_runJoin_175 : decode b_Mo_runJoin 175 = .ok (.aload_n 0, 1) := by decide +kernel
theorem d_Mo_runJoin_176 : decode b_Mo_runJoin 176 = .ok (.invokevirtual 162, 3) := by decide +kernel
theorem d_Mo_runJoin_179 : decode b_Mo_runJoin 179 = .ok (.aload_n 0, 1) := by decide +kernel
theorem d_Mo_runJoin_180 : decode b_Mo_runJoin 180 = .ok (.dup, 1) := by decide +kernel
theorem d_Mo_runJoin_181 : decode b_Mo_runJoin 181 = .ok (.getfield 126, 3) := by decide +kernel
theorem d_Mo_runJoin_184 : decode b_Mo_runJoin 184 = .ok (.aload_n 0, 1) := by decide +kernel
theorem d_Mo_runJoin_185 : decode b_Mo_runJoin 185 = .ok (.getfield 152, 3) := by decide +kernel
theorem d_Mo_runJoin_188 : decode b_Mo_runJoin 188 = .ok (.invokestatic 129, 3) := by decide +kernel
theorem d_Mo_runJoin_191 : decode b_Mo_runJoin 191 = .ok (.iadd, 1) := by decide +kernel
theorem d_Mo_runJoin_192 : decode b_Mo_runJoin 192 = .ok (.putfield 126, 3) := by decide +kernel
theorem d_Mo_runJoin_195 : decode b_Mo_runJoin 195 = .ok (.return_, 1) := by decide +kernel
set_option maxHeartbeats 4000000 in
set_option maxRecDepth 100000 in
theorem c_Mo_make_n (l : Launch) (D : va_G) (cI cL cZ cW cR : ClassId) (sz : Nat) (o : Nat) (ϕ : Nat → Value) (a_given a_holes a_value a_hole a_first a_second a_list : Nat) (nn : Nat) (gv : Nat → Int32) (ho : Nat → Int32) (vl : Nat → Int32) (hl_ : Nat → Bool) (fi : Nat → Nat) (se : Nat → Int32) (li : Nat → Nat) (a0 : Nat) (ha0 : a0 < 24) (hnn : nn < 60) : Met l y_Mo_make ws_Mo_make rm1_30 (zPw D vwCl (zT cI cL cZ cW cR) [(o, .inr (9, [(ϕ 0), (ϕ 1), .ref a_given, .ref a_holes, (ϕ 4), (ϕ 5), (ϕ 6), (ϕ 7), (ϕ 8), (ϕ 9), (ϕ 10), (ϕ 11), (ϕ 12), (ϕ 13), (ϕ 14), (ϕ 15), (ϕ 16), (ϕ 17), (ϕ 18), (ϕ 19), (ϕ 20), (ϕ 21), (ϕ 22), (ϕ 23), .int (nI nn), .ref a_value, .ref a_hole, .ref a_first, .ref a_second, .ref a_list, (ϕ 30), (ϕ 31), (ϕ 32), (ϕ 33), (ϕ 34), (ϕ 35), (ϕ 36), (ϕ 37), (ϕ 38), (ϕ 39), (ϕ 40), (ϕ 41), (ϕ 42), (ϕ 43)])), (a_given, .inl (cI, 144, .inl gv)), (a_holes, .inl (cI, 48, .inl ho)), (a_value, .inl (cI, 540, .inl vl)), (a_hole, .inl (cZ, 540, .inl (zZ hl_))), (a_first, .inl (cI, 60, .inl (zN fi))), (a_second, .inl (cI, 60, .inl se)), (a_list, .inl (cI, 60, .inl (zN li)))] sz [.ref o, .int (nI a0), .int (-1)]) (zQv D vwCl (zT cI cL cZ cW cR) [(o, .inr (9, [(ϕ 0), (ϕ 1), .ref a_given, .ref a_holes, (ϕ 4), (ϕ 5), (ϕ 6), (ϕ 7), (ϕ 8), (ϕ 9), (ϕ 10), (ϕ 11), (ϕ 12), (ϕ 13), (ϕ 14), (ϕ 15), (ϕ 16), (ϕ 17), (ϕ 18), (ϕ 19), (ϕ 20), (ϕ 21), (ϕ 22), (ϕ 23), .int (nI nn), .ref a_value, .ref a_hole, .ref a_first, .ref a_second, .ref a_list, (ϕ 30), (ϕ 31), (ϕ 32), (ϕ 33), (ϕ 34), (ϕ 35), (ϕ 36), (ϕ 37), (ϕ 38), (ϕ 39), (ϕ 40), (ϕ 41), (ϕ 42), (ϕ 43)])), (a_given, .inl (cI, 144, .inl gv)), (a_holes, .inl (cI, 48, .inl ho)), (a_value, .inl (cI, 540, .inl vl)), (a_hole, .inl (cZ, 540, .inl (zZ hl_))), (a_first, .inl (cI, 60, .inl (zN fi))), (a_second, .inl (cI, 60, .inl se)), (a_list, .inl (cI, 60, .inl (zN li)))] sz (fun _ : Unit => True) (fun _ => [(o, .inr (9, [(ϕ 0), (ϕ 1), .ref a_given, .ref a_holes, (ϕ 4), (ϕ 5), (ϕ 6), (ϕ 7), (ϕ 8), (ϕ 9), (ϕ 10), (ϕ 11), (ϕ 12), (ϕ 13), (ϕ 14), (ϕ 15), (ϕ 16), (ϕ 17), (ϕ 18), (ϕ 19), (ϕ 20), (ϕ 21), (ϕ 22), (ϕ 23), .int (nI (nn + 1)), .ref a_value, .ref a_hole, .ref a_first, .ref a_second, .ref a_list, (ϕ 30), (ϕ 31), (ϕ 32), (ϕ 33), (ϕ 34), (ϕ 35), (ϕ 36), (ϕ 37), (ϕ 38), (ϕ 39), (ϕ 40), (ϕ 41), (ϕ 42), (ϕ 43)])), (a_given, .inl (cI, 144, .inl gv)), (a_holes, .inl (cI, 48, .inl ho)), (a_value, .inl (cI, 540, .inl (mPut vl (9 * nn) (fun c => mVl ho gv a0 none c) 9))), (a_hole, .inl (cZ, 540, .inl (zZ (mPut hl_ (9 * nn) (fun c => !mIs ho a0 none c) 9)))), (a_first, .inl (cI, 60, .inl (zN (va_up fi nn a0)))), (a_second, .inl (cI, 60, .inl (upd se nn ((-1))))), (a_list, .inl (cI, 60, .inl (zN (va_up li nn nn))))])) 0 0 (va_A [(o, .inr (9, [(ϕ 0), (ϕ 1), .ref a_given, .ref a_holes, (ϕ 4), (ϕ 5), (ϕ 6), (ϕ 7), (ϕ 8), (ϕ 9), (ϕ 10), (ϕ 11), (ϕ 12), (ϕ 13), (ϕ 14), (ϕ 15), (ϕ 16), (ϕ 17), (ϕ 18), (ϕ 19), (ϕ 20), (ϕ 21), (ϕ 22), (ϕ 23), .int (nI nn), .ref a_value, .ref a_hole, .ref a_first, .ref a_second, .ref a_list, (ϕ 30), (ϕ 31), (ϕ 32), (ϕ 33), (ϕ 34), (ϕ 35), (ϕ 36), (ϕ 37), (ϕ 38), (ϕ 39), (ϕ 40), (ϕ 41), (ϕ 42), (ϕ 43)])), (a_given, .inl (cI, 144, .inl gv)), (a_holes, .inl (cI, 48, .inl ho)), (a_value, .inl (cI, 540, .inl vl)), (a_hole, .inl (cZ, 540, .inl (zZ hl_))), (a_first, .inl (cI, 60, .inl (zN fi))), (a_second, .inl (cI, 60, .inl se)), (a_list, .inl (cI, 60, .inl (zN li)))] sz) := by
  refine zk_enterW (cc := b_Mo_make) (maxL := 6) (ret := none) (by decide) rfl (Nat.le_of_ble_eq_true rfl) ?_
  intro p e s m args below meth c ls Q hx hb hml hr hlk hown hts hP hK hN hl hin hsz A hAe hA hD hS hQ
  subst hsz
  have hl : lv_has ls 6 [(0, .ref o), (1, .int (nI a0)), (2, .int (-1))] := hl
  refine lv_iconst (v := nI 0) hx hb d_Mo_make_0 (by decide) ?_
  refine lv_istore_n (lv' := [(3, .int (nI 0)), (0, .ref o), (1, .int (nI a0)), (2, .int (-1))]) hx hb d_Mo_make_1 rfl hl (by decide) rfl (fun ls hl => ?_)
  have lb2 : ∀ (fuel2 : Nat) (c1 : Nat), (c1 ≤ 9) → 9 - c1 < fuel2 → ∀ (ls : Array Slot) (H : Heap) (locs : List Loc), lv_has ls 6 [(0, .ref o), (1, .int (nI a0)), (2, .int (-1)), (3, .int (nI c1))] → va_P D vwCl [(o, .inr (9, [(ϕ 0), (ϕ 1), .ref a_given, .ref a_holes, (ϕ 4), (ϕ 5), (ϕ 6), (ϕ 7), (ϕ 8), (ϕ 9), (ϕ 10), (ϕ 11), (ϕ 12), (ϕ 13), (ϕ 14), (ϕ 15), (ϕ 16), (ϕ 17), (ϕ 18), (ϕ 19), (ϕ 20), (ϕ 21), (ϕ 22), (ϕ 23), .int (nI nn), .ref a_value, .ref a_hole, .ref a_first, .ref a_second, .ref a_list, (ϕ 30), (ϕ 31), (ϕ 32), (ϕ 33), (ϕ 34), (ϕ 35), (ϕ 36), (ϕ 37), (ϕ 38), (ϕ 39), (ϕ 40), (ϕ 41), (ϕ 42), (ϕ 43)])), (a_given, .inl (cI, 144, .inl gv)), (a_holes, .inl (cI, 48, .inl ho)), (a_value, .inl (cI, 540, .inl (mPut vl (9 * nn) (fun c => mVl ho gv a0 none c) c1))), (a_hole, .inl (cZ, 540, .inl (zZ (mPut hl_ (9 * nn) (fun c => !mIs ho a0 none c) c1)))), (a_first, .inl (cI, 60, .inl (zN fi))), (a_second, .inl (cI, 60, .inl se)), (a_list, .inl (cI, 60, .inl (zN li)))] H → va_D A [(o, .inr (9, [(ϕ 0), (ϕ 1), .ref a_given, .ref a_holes, (ϕ 4), (ϕ 5), (ϕ 6), (ϕ 7), (ϕ 8), (ϕ 9), (ϕ 10), (ϕ 11), (ϕ 12), (ϕ 13), (ϕ 14), (ϕ 15), (ϕ 16), (ϕ 17), (ϕ 18), (ϕ 19), (ϕ 20), (ϕ 21), (ϕ 22), (ϕ 23), .int (nI nn), .ref a_value, .ref a_hole, .ref a_first, .ref a_second, .ref a_list, (ϕ 30), (ϕ 31), (ϕ 32), (ϕ 33), (ϕ 34), (ϕ 35), (ϕ 36), (ϕ 37), (ϕ 38), (ϕ 39), (ϕ 40), (ϕ 41), (ϕ 42), (ϕ 43)])), (a_given, .inl (cI, 144, .inl gv)), (a_holes, .inl (cI, 48, .inl ho)), (a_value, .inl (cI, 540, .inl (mPut vl (9 * nn) (fun c => mVl ho gv a0 none c) c1))), (a_hole, .inl (cZ, 540, .inl (zZ (mPut hl_ (9 * nn) (fun c => !mIs ho a0 none c) c1)))), (a_first, .inl (cI, 60, .inl (zN fi))), (a_second, .inl (cI, 60, .inl se)), (a_list, .inl (cI, 60, .inl (zN li)))] → va_S A s.heap H locs → W p l e rm1_30 s m args below meth c H locs 0 0 Q (F0 m 2 ls []) := by
    intro fuel2
    induction fuel2 with
    | zero => intro c1 hc1 hfu2; exact absurd hfu2 (Nat.not_lt_zero _)
    | succ fuel2 ih2 =>
      intro c1 hc1 hfu2 ls H locs hl hP hD hS
      refine lv_iload_n hx hb d_Mo_make_2 rfl (lv_at hl 3 rfl) ?_
      refine lv_bipush (v := nI 9) hx hb d_Mo_make_3 (by decide) ?_
      refine zk_icmp_ge (tgt := 141) hx hb d_Mo_make_5 rfl (by omega) (by omega) (fun h5 => ?_) (fun h5 => ?_)
      · skip
        have hc9 : c1 = 9 := by omega
        refine lv_aload_n hx hb d_Mo_make_141 rfl (lv_at hl 0 rfl) ?_
        refine va_get (C := R_Mo) (T := F_Mo) (N := 44) hx hb hts (fun w h => List.mem_cons_of_mem _ (hin_Mo w h)) hown hK hP 0 rfl rfl 27 (by decide) (hts _ (List.mem_cons_of_mem _ fl_Mo_59)) (fun _ h => h) rfl d_Mo_make_142 ?_
        refine lv_aload_n hx hb d_Mo_make_145 rfl (lv_at hl 0 rfl) ?_
        refine va_get (C := R_Mo) (T := F_Mo) (N := 44) hx hb hts (fun w h => List.mem_cons_of_mem _ (hin_Mo w h)) hown hK hP 0 rfl rfl 24 (by decide) (hts _ (List.mem_cons_of_mem _ fl_Mo_152)) (fun _ h => h) rfl d_Mo_make_146 ?_
        refine lv_iload_n hx hb d_Mo_make_149 rfl (lv_at hl 1 rfl) ?_
        refine zk_nast hx hb hK hP hD hS 5 0 rfl rfl (by omega) (by omega) d_Mo_make_150 (fun H locs hP hD hS => ?_)
        have hP : va_P D vwCl [(o, .inr (9, [(ϕ 0), (ϕ 1), .ref a_given, .ref a_holes, (ϕ 4), (ϕ 5), (ϕ 6), (ϕ 7), (ϕ 8), (ϕ 9), (ϕ 10), (ϕ 11), (ϕ 12), (ϕ 13), (ϕ 14), (ϕ 15), (ϕ 16), (ϕ 17), (ϕ 18), (ϕ 19), (ϕ 20), (ϕ 21), (ϕ 22), (ϕ 23), .int (nI nn), .ref a_value, .ref a_hole, .ref a_first, .ref a_second, .ref a_list, (ϕ 30), (ϕ 31), (ϕ 32), (ϕ 33), (ϕ 34), (ϕ 35), (ϕ 36), (ϕ 37), (ϕ 38), (ϕ 39), (ϕ 40), (ϕ 41), (ϕ 42), (ϕ 43)])), (a_given, .inl (cI, 144, .inl gv)), (a_holes, .inl (cI, 48, .inl ho)), (a_value, .inl (cI, 540, .inl (mPut vl (9 * nn) (fun c => mVl ho gv a0 none c) c1))), (a_hole, .inl (cZ, 540, .inl (zZ (mPut hl_ (9 * nn) (fun c => !mIs ho a0 none c) c1)))), (a_first, .inl (cI, 60, .inl (zN (va_up fi nn a0)))), (a_second, .inl (cI, 60, .inl se)), (a_list, .inl (cI, 60, .inl (zN li)))] H := hP
        have hD : va_D A [(o, .inr (9, [(ϕ 0), (ϕ 1), .ref a_given, .ref a_holes, (ϕ 4), (ϕ 5), (ϕ 6), (ϕ 7), (ϕ 8), (ϕ 9), (ϕ 10), (ϕ 11), (ϕ 12), (ϕ 13), (ϕ 14), (ϕ 15), (ϕ 16), (ϕ 17), (ϕ 18), (ϕ 19), (ϕ 20), (ϕ 21), (ϕ 22), (ϕ 23), .int (nI nn), .ref a_value, .ref a_hole, .ref a_first, .ref a_second, .ref a_list, (ϕ 30), (ϕ 31), (ϕ 32), (ϕ 33), (ϕ 34), (ϕ 35), (ϕ 36), (ϕ 37), (ϕ 38), (ϕ 39), (ϕ 40), (ϕ 41), (ϕ 42), (ϕ 43)])), (a_given, .inl (cI, 144, .inl gv)), (a_holes, .inl (cI, 48, .inl ho)), (a_value, .inl (cI, 540, .inl (mPut vl (9 * nn) (fun c => mVl ho gv a0 none c) c1))), (a_hole, .inl (cZ, 540, .inl (zZ (mPut hl_ (9 * nn) (fun c => !mIs ho a0 none c) c1)))), (a_first, .inl (cI, 60, .inl (zN (va_up fi nn a0)))), (a_second, .inl (cI, 60, .inl se)), (a_list, .inl (cI, 60, .inl (zN li)))] := hD
        refine lv_aload_n hx hb d_Mo_make_151 rfl (lv_at hl 0 rfl) ?_
        refine va_get (C := R_Mo) (T := F_Mo) (N := 44) hx hb hts (fun w h => List.mem_cons_of_mem _ (hin_Mo w h)) hown hK hP 0 rfl rfl 28 (by decide) (hts _ (List.mem_cons_of_mem _ fl_Mo_62)) (fun _ h => h) rfl d_Mo_make_152 ?_
        refine lv_aload_n hx hb d_Mo_make_155 rfl (lv_at hl 0 rfl) ?_
        refine va_get (C := R_Mo) (T := F_Mo) (N := 44) hx hb hts (fun w h => List.mem_cons_of_mem _ (hin_Mo w h)) hown hK hP 0 rfl rfl 24 (by decide) (hts _ (List.mem_cons_of_mem _ fl_Mo_152)) (fun _ h => h) rfl d_Mo_make_156 ?_
        refine lv_iload_n hx hb d_Mo_make_159 rfl (lv_at hl 2 rfl) ?_
        refine zk_iast hx hb hK hP hD hS 6 0 rfl rfl (by omega) (by omega) d_Mo_make_160 (fun H locs hP hD hS => ?_)
        have hP : va_P D vwCl [(o, .inr (9, [(ϕ 0), (ϕ 1), .ref a_given, .ref a_holes, (ϕ 4), (ϕ 5), (ϕ 6), (ϕ 7), (ϕ 8), (ϕ 9), (ϕ 10), (ϕ 11), (ϕ 12), (ϕ 13), (ϕ 14), (ϕ 15), (ϕ 16), (ϕ 17), (ϕ 18), (ϕ 19), (ϕ 20), (ϕ 21), (ϕ 22), (ϕ 23), .int (nI nn), .ref a_value, .ref a_hole, .ref a_first, .ref a_second, .ref a_list, (ϕ 30), (ϕ 31), (ϕ 32), (ϕ 33), (ϕ 34), (ϕ 35), (ϕ 36), (ϕ 37), (ϕ 38), (ϕ 39), (ϕ 40), (ϕ 41), (ϕ 42), (ϕ 43)])), (a_given, .inl (cI, 144, .inl gv)), (a_holes, .inl (cI, 48, .inl ho)), (a_value, .inl (cI, 540, .inl (mPut vl (9 * nn) (fun c => mVl ho gv a0 none c) c1))), (a_hole, .inl (cZ, 540, .inl (zZ (mPut hl_ (9 * nn) (fun c => !mIs ho a0 none c) c1)))), (a_first, .inl (cI, 60, .inl (zN (va_up fi nn a0)))), (a_second, .inl (cI, 60, .inl (upd se nn (-1)))), (a_list, .inl (cI, 60, .inl (zN li)))] H := hP
        have hD : va_D A [(o, .inr (9, [(ϕ 0), (ϕ 1), .ref a_given, .ref a_holes, (ϕ 4), (ϕ 5), (ϕ 6), (ϕ 7), (ϕ 8), (ϕ 9), (ϕ 10), (ϕ 11), (ϕ 12), (ϕ 13), (ϕ 14), (ϕ 15), (ϕ 16), (ϕ 17), (ϕ 18), (ϕ 19), (ϕ 20), (ϕ 21), (ϕ 22), (ϕ 23), .int (nI nn), .ref a_value, .ref a_hole, .ref a_first, .ref a_second, .ref a_list, (ϕ 30), (ϕ 31), (ϕ 32), (ϕ 33), (ϕ 34), (ϕ 35), (ϕ 36), (ϕ 37), (ϕ 38), (ϕ 39), (ϕ 40), (ϕ 41), (ϕ 42), (ϕ 43)])), (a_given, .inl (cI, 144, .inl gv)), (a_holes, .inl (cI, 48, .inl ho)), (a_value, .inl (cI, 540, .inl (mPut vl (9 * nn) (fun c => mVl ho gv a0 none c) c1))), (a_hole, .inl (cZ, 540, .inl (zZ (mPut hl_ (9 * nn) (fun c => !mIs ho a0 none c) c1)))), (a_first, .inl (cI, 60, .inl (zN (va_up fi nn a0)))), (a_second, .inl (cI, 60, .inl (upd se nn (-1)))), (a_list, .inl (cI, 60, .inl (zN li)))] := hD
        refine lv_aload_n hx hb d_Mo_make_161 rfl (lv_at hl 0 rfl) ?_
        refine va_get (C := R_Mo) (T := F_Mo) (N := 44) hx hb hts (fun w h => List.mem_cons_of_mem _ (hin_Mo w h)) hown hK hP 0 rfl rfl 29 (by decide) (hts _ (List.mem_cons_of_mem _ fl_Mo_65)) (fun _ h => h) rfl d_Mo_make_162 ?_
        refine lv_aload_n hx hb d_Mo_make_165 rfl (lv_at hl 0 rfl) ?_
        refine va_get (C := R_Mo) (T := F_Mo) (N := 44) hx hb hts (fun w h => List.mem_cons_of_mem _ (hin_Mo w h)) hown hK hP 0 rfl rfl 24 (by decide) (hts _ (List.mem_cons_of_mem _ fl_Mo_152)) (fun _ h => h) rfl d_Mo_make_166 ?_
        refine lv_aload_n hx hb d_Mo_make_169 rfl (lv_at hl 0 rfl) ?_
        refine va_get (C := R_Mo) (T := F_Mo) (N := 44) hx hb hts (fun w h => List.mem_cons_of_mem _ (hin_Mo w h)) hown hK hP 0 rfl rfl 24 (by decide) (hts _ (List.mem_cons_of_mem _ fl_Mo_152)) (fun _ h => h) rfl d_Mo_make_170 ?_
        refine zk_nast hx hb hK hP hD hS 7 0 rfl rfl (by omega) (by omega) d_Mo_make_173 (fun H locs hP hD hS => ?_)
        have hP : va_P D vwCl [(o, .inr (9, [(ϕ 0), (ϕ 1), .ref a_given, .ref a_holes, (ϕ 4), (ϕ 5), (ϕ 6), (ϕ 7), (ϕ 8), (ϕ 9), (ϕ 10), (ϕ 11), (ϕ 12), (ϕ 13), (ϕ 14), (ϕ 15), (ϕ 16), (ϕ 17), (ϕ 18), (ϕ 19), (ϕ 20), (ϕ 21), (ϕ 22), (ϕ 23), .int (nI nn), .ref a_value, .ref a_hole, .ref a_first, .ref a_second, .ref a_list, (ϕ 30), (ϕ 31), (ϕ 32), (ϕ 33), (ϕ 34), (ϕ 35), (ϕ 36), (ϕ 37), (ϕ 38), (ϕ 39), (ϕ 40), (ϕ 41), (ϕ 42), (ϕ 43)])), (a_given, .inl (cI, 144, .inl gv)), (a_holes, .inl (cI, 48, .inl ho)), (a_value, .inl (cI, 540, .inl (mPut vl (9 * nn) (fun c => mVl ho gv a0 none c) c1))), (a_hole, .inl (cZ, 540, .inl (zZ (mPut hl_ (9 * nn) (fun c => !mIs ho a0 none c) c1)))), (a_first, .inl (cI, 60, .inl (zN (va_up fi nn a0)))), (a_second, .inl (cI, 60, .inl (upd se nn (-1)))), (a_list, .inl (cI, 60, .inl (zN (va_up li nn nn))))] H := hP
        have hD : va_D A [(o, .inr (9, [(ϕ 0), (ϕ 1), .ref a_given, .ref a_holes, (ϕ 4), (ϕ 5), (ϕ 6), (ϕ 7), (ϕ 8), (ϕ 9), (ϕ 10), (ϕ 11), (ϕ 12), (ϕ 13), (ϕ 14), (ϕ 15), (ϕ 16), (ϕ 17), (ϕ 18), (ϕ 19), (ϕ 20), (ϕ 21), (ϕ 22), (ϕ 23), .int (nI nn), .ref a_value, .ref a_hole, .ref a_first, .ref a_second, .ref a_list, (ϕ 30), (ϕ 31), (ϕ 32), (ϕ 33), (ϕ 34), (ϕ 35), (ϕ 36), (ϕ 37), (ϕ 38), (ϕ 39), (ϕ 40), (ϕ 41), (ϕ 42), (ϕ 43)])), (a_given, .inl (cI, 144, .inl gv)), (a_holes, .inl (cI, 48, .inl ho)), (a_value, .inl (cI, 540, .inl (mPut vl (9 * nn) (fun c => mVl ho gv a0 none c) c1))), (a_hole, .inl (cZ, 540, .inl (zZ (mPut hl_ (9 * nn) (fun c => !mIs ho a0 none c) c1)))), (a_first, .inl (cI, 60, .inl (zN (va_up fi nn a0)))), (a_second, .inl (cI, 60, .inl (upd se nn (-1)))), (a_list, .inl (cI, 60, .inl (zN (va_up li nn nn))))] := hD
        refine lv_aload_n hx hb d_Mo_make_174 rfl (lv_at hl 0 rfl) ?_
        refine lv_dup hx hb d_Mo_make_175 rfl ?_
        refine va_get (C := R_Mo) (T := F_Mo) (N := 44) hx hb hts (fun w h => List.mem_cons_of_mem _ (hin_Mo w h)) hown hK hP 0 rfl rfl 24 (by decide) (hts _ (List.mem_cons_of_mem _ fl_Mo_152)) (fun _ h => h) rfl d_Mo_make_176 ?_
        refine lv_iconst (v := nI 1) hx hb d_Mo_make_179 (by decide) ?_
        refine lv_iadd hx hb d_Mo_make_180 ?_
        refine zk_topi (show ((nI nn) + (nI 1)) = nI (nn + 1) from nI_add nn 1) ?_
        refine va_put (D := D) (v := .int (nI (nn + 1))) (ty := .int) (C := R_Mo) (T := F_Mo) (N := 44) hx hb hts (fun w h => List.mem_cons_of_mem _ (hin_Mo w h)) t_Mo t_Mo_ok n_Mo hown hK hP hD hS 0 rfl rfl 24 (by decide) (hts _ (List.mem_cons_of_mem _ fl_Mo_152)) (fun _ h => h) rfl (by decide +kernel) rfl rfl (Nat.le_of_ble_eq_true rfl) d_Mo_make_181 (fun H locs hP hD hS => ?_)
        have hP : va_P D vwCl [(o, .inr (9, [(ϕ 0), (ϕ 1), .ref a_given, .ref a_holes, (ϕ 4), (ϕ 5), (ϕ 6), (ϕ 7), (ϕ 8), (ϕ 9), (ϕ 10), (ϕ 11), (ϕ 12), (ϕ 13), (ϕ 14), (ϕ 15), (ϕ 16), (ϕ 17), (ϕ 18), (ϕ 19), (ϕ 20), (ϕ 21), (ϕ 22), (ϕ 23), .int (nI (nn + 1)), .ref a_value, .ref a_hole, .ref a_first, .ref a_second, .ref a_list, (ϕ 30), (ϕ 31), (ϕ 32), (ϕ 33), (ϕ 34), (ϕ 35), (ϕ 36), (ϕ 37), (ϕ 38), (ϕ 39), (ϕ 40), (ϕ 41), (ϕ 42), (ϕ 43)])), (a_given, .inl (cI, 144, .inl gv)), (a_holes, .inl (cI, 48, .inl ho)), (a_value, .inl (cI, 540, .inl (mPut vl (9 * nn) (fun c => mVl ho gv a0 none c) c1))), (a_hole, .inl (cZ, 540, .inl (zZ (mPut hl_ (9 * nn) (fun c => !mIs ho a0 none c) c1)))), (a_first, .inl (cI, 60, .inl (zN (va_up fi nn a0)))), (a_second, .inl (cI, 60, .inl (upd se nn (-1)))), (a_list, .inl (cI, 60, .inl (zN (va_up li nn nn))))] H := hP
        have hD : va_D A [(o, .inr (9, [(ϕ 0), (ϕ 1), .ref a_given, .ref a_holes, (ϕ 4), (ϕ 5), (ϕ 6), (ϕ 7), (ϕ 8), (ϕ 9), (ϕ 10), (ϕ 11), (ϕ 12), (ϕ 13), (ϕ 14), (ϕ 15), (ϕ 16), (ϕ 17), (ϕ 18), (ϕ 19), (ϕ 20), (ϕ 21), (ϕ 22), (ϕ 23), .int (nI (nn + 1)), .ref a_value, .ref a_hole, .ref a_first, .ref a_second, .ref a_list, (ϕ 30), (ϕ 31), (ϕ 32), (ϕ 33), (ϕ 34), (ϕ 35), (ϕ 36), (ϕ 37), (ϕ 38), (ϕ 39), (ϕ 40), (ϕ 41), (ϕ 42), (ϕ 43)])), (a_given, .inl (cI, 144, .inl gv)), (a_holes, .inl (cI, 48, .inl ho)), (a_value, .inl (cI, 540, .inl (mPut vl (9 * nn) (fun c => mVl ho gv a0 none c) c1))), (a_hole, .inl (cZ, 540, .inl (zZ (mPut hl_ (9 * nn) (fun c => !mIs ho a0 none c) c1)))), (a_first, .inl (cI, 60, .inl (zN (va_up fi nn a0)))), (a_second, .inl (cI, 60, .inl (upd se nn (-1)))), (a_list, .inl (cI, 60, .inl (zN (va_up li nn nn))))] := hD
        rw [hc9] at hP hD
        exact zk_vretW hx hb hr hlk hAe hQ hK (()) (trivial) hP hD hS d_Mo_make_184
      · skip
        refine lv_iload_n hx hb d_Mo_make_8 rfl (lv_at hl 3 rfl) ?_
        refine lv_iconst (v := nI 3) hx hb d_Mo_make_9 (by decide) ?_
        refine zk_icmp_ge (tgt := 17) hx hb d_Mo_make_10 rfl (by omega) (by omega) (fun h10 => ?_) (fun h10 => ?_)
        · skip
          refine lv_iconst (v := zb false) hx hb d_Mo_make_17 (by decide) ?_
          refine lv_istore (lv' := [(4, .int (zb false)), (0, .ref o), (1, .int (nI a0)), (2, .int (-1)), (3, .int (nI c1))]) hx hb d_Mo_make_18 hl (by decide) rfl (fun ls hl => ?_)
          refine lv_iload hx hb d_Mo_make_20 (lv_at hl 0 rfl) ?_
          refine zk_ifb_eq (tgt := 35) hx hb d_Mo_make_22 rfl (fun _ => ?_) (fun hq => absurd hq (by decide))
          refine lv_iload_n hx hb d_Mo_make_35 rfl (lv_at hl 4 rfl) ?_
          refine lv_bipush (v := nI 6) hx hb d_Mo_make_36 (by decide) ?_
          refine zk_icmp_ge (tgt := 61) hx hb d_Mo_make_38 rfl (by omega) (by omega) (fun h38 => ?_) (fun h38 => ?_)
          · skip
            refine lv_iconst (v := zb false) hx hb d_Mo_make_61 (by decide) ?_
            have his : false = mIs ho a0 none c1 := by unfold mIs; first | (rw [if_neg (by omega), if_neg (by omega)]; done) | (rw [if_neg (by omega), if_pos (by omega)]; first | done | rfl | exact h54.symm)
            refine lv_istore (lv' := [(5, .int (zb false)), (4, .int (zb false)), (0, .ref o), (1, .int (nI a0)), (2, .int (-1)), (3, .int (nI c1))]) hx hb d_Mo_make_62 hl (by decide) rfl (fun ls hl => ?_)
            refine lv_aload_n hx hb d_Mo_make_64 rfl (lv_at hl 2 rfl) ?_
            refine va_get (C := R_Mo) (T := F_Mo) (N := 44) hx hb hts (fun w h => List.mem_cons_of_mem _ (hin_Mo w h)) hown hK hP 0 rfl rfl 26 (by decide) (hts _ (List.mem_cons_of_mem _ fl_Mo_56)) (fun _ h => h) rfl d_Mo_make_65 ?_
            refine lv_bipush (v := nI 9) hx hb d_Mo_make_68 (by decide) ?_
            refine lv_aload_n hx hb d_Mo_make_70 rfl (lv_at hl 2 rfl) ?_
            refine va_get (C := R_Mo) (T := F_Mo) (N := 44) hx hb hts (fun w h => List.mem_cons_of_mem _ (hin_Mo w h)) hown hK hP 0 rfl rfl 24 (by decide) (hts _ (List.mem_cons_of_mem _ fl_Mo_152)) (fun _ h => h) rfl d_Mo_make_71 ?_
            refine lv_imul hx hb d_Mo_make_74 ?_
            refine zk_topi (show ((nI 9) * (nI nn)) = nI (9 * nn) from pk_mul 9 nn) ?_
            refine lv_iload_n hx hb d_Mo_make_75 rfl (lv_at hl 5 rfl) ?_
            refine lv_iadd hx hb d_Mo_make_76 ?_
            refine zk_topi (show ((nI (9 * nn)) + (nI c1)) = nI (9 * nn + c1) from nI_add (9 * nn) c1) ?_
            refine lv_iload hx hb d_Mo_make_77 (lv_at hl 0 rfl) ?_
            refine zk_ifb_ne (tgt := 86) hx hb d_Mo_make_79 rfl (fun hq => absurd hq (by decide)) (fun _ => ?_)
            refine lv_iconst (v := zb true) hx hb d_Mo_make_82 (by decide) ?_
            refine zk_topi (show (zb true) = zb (!mIs ho a0 none c1) from by rw [← his]; first | (rw [h79]; rfl) | rfl) ?_
            refine lv_goto (tgt := 87) hx hb d_Mo_make_83 rfl ?_
            refine zk_bast hx hb hK hP hD hS 4 2 rfl rfl (by omega) (by omega) d_Mo_make_87 (fun H locs hP hD hS => ?_)
            have hP : va_P D vwCl [(o, .inr (9, [(ϕ 0), (ϕ 1), .ref a_given, .ref a_holes, (ϕ 4), (ϕ 5), (ϕ 6), (ϕ 7), (ϕ 8), (ϕ 9), (ϕ 10), (ϕ 11), (ϕ 12), (ϕ 13), (ϕ 14), (ϕ 15), (ϕ 16), (ϕ 17), (ϕ 18), (ϕ 19), (ϕ 20), (ϕ 21), (ϕ 22), (ϕ 23), .int (nI nn), .ref a_value, .ref a_hole, .ref a_first, .ref a_second, .ref a_list, (ϕ 30), (ϕ 31), (ϕ 32), (ϕ 33), (ϕ 34), (ϕ 35), (ϕ 36), (ϕ 37), (ϕ 38), (ϕ 39), (ϕ 40), (ϕ 41), (ϕ 42), (ϕ 43)])), (a_given, .inl (cI, 144, .inl gv)), (a_holes, .inl (cI, 48, .inl ho)), (a_value, .inl (cI, 540, .inl (mPut vl (9 * nn) (fun c => mVl ho gv a0 none c) c1))), (a_hole, .inl (cZ, 540, .inl (zZ (va_up (mPut hl_ (9 * nn) (fun c => !mIs ho a0 none c) c1) (9 * nn + c1) (!mIs ho a0 none c1))))), (a_first, .inl (cI, 60, .inl (zN fi))), (a_second, .inl (cI, 60, .inl se)), (a_list, .inl (cI, 60, .inl (zN li)))] H := hP
            have hD : va_D A [(o, .inr (9, [(ϕ 0), (ϕ 1), .ref a_given, .ref a_holes, (ϕ 4), (ϕ 5), (ϕ 6), (ϕ 7), (ϕ 8), (ϕ 9), (ϕ 10), (ϕ 11), (ϕ 12), (ϕ 13), (ϕ 14), (ϕ 15), (ϕ 16), (ϕ 17), (ϕ 18), (ϕ 19), (ϕ 20), (ϕ 21), (ϕ 22), (ϕ 23), .int (nI nn), .ref a_value, .ref a_hole, .ref a_first, .ref a_second, .ref a_list, (ϕ 30), (ϕ 31), (ϕ 32), (ϕ 33), (ϕ 34), (ϕ 35), (ϕ 36), (ϕ 37), (ϕ 38), (ϕ 39), (ϕ 40), (ϕ 41), (ϕ 42), (ϕ 43)])), (a_given, .inl (cI, 144, .inl gv)), (a_holes, .inl (cI, 48, .inl ho)), (a_value, .inl (cI, 540, .inl (mPut vl (9 * nn) (fun c => mVl ho gv a0 none c) c1))), (a_hole, .inl (cZ, 540, .inl (zZ (va_up (mPut hl_ (9 * nn) (fun c => !mIs ho a0 none c) c1) (9 * nn + c1) (!mIs ho a0 none c1))))), (a_first, .inl (cI, 60, .inl (zN fi))), (a_second, .inl (cI, 60, .inl se)), (a_list, .inl (cI, 60, .inl (zN li)))] := hD
            refine lv_aload_n hx hb d_Mo_make_88 rfl (lv_at hl 2 rfl) ?_
            refine va_get (C := R_Mo) (T := F_Mo) (N := 44) hx hb hts (fun w h => List.mem_cons_of_mem _ (hin_Mo w h)) hown hK hP 0 rfl rfl 25 (by decide) (hts _ (List.mem_cons_of_mem _ fl_Mo_53)) (fun _ h => h) rfl d_Mo_make_89 ?_
            refine lv_bipush (v := nI 9) hx hb d_Mo_make_92 (by decide) ?_
            refine lv_aload_n hx hb d_Mo_make_94 rfl (lv_at hl 2 rfl) ?_
            refine va_get (C := R_Mo) (T := F_Mo) (N := 44) hx hb hts (fun w h => List.mem_cons_of_mem _ (hin_Mo w h)) hown hK hP 0 rfl rfl 24 (by decide) (hts _ (List.mem_cons_of_mem _ fl_Mo_152)) (fun _ h => h) rfl d_Mo_make_95 ?_
            refine lv_imul hx hb d_Mo_make_98 ?_
            refine zk_topi (show ((nI 9) * (nI nn)) = nI (9 * nn) from pk_mul 9 nn) ?_
            refine lv_iload_n hx hb d_Mo_make_99 rfl (lv_at hl 5 rfl) ?_
            refine lv_iadd hx hb d_Mo_make_100 ?_
            refine zk_topi (show ((nI (9 * nn)) + (nI c1)) = nI (9 * nn + c1) from nI_add (9 * nn) c1) ?_
            refine lv_iload hx hb d_Mo_make_101 (lv_at hl 0 rfl) ?_
            refine zk_ifb_ne (tgt := 110) hx hb d_Mo_make_103 rfl (fun hq => absurd hq (by decide)) (fun _ => ?_)
            refine lv_iconst (v := nI 0) hx hb d_Mo_make_106 (by decide) ?_
            refine zk_topi (show (nI 0) = mVl ho gv a0 none c1 from by unfold mVl; rw [← his]; first | rfl | (rw [h103]; first | rfl | exact (if_pos h10).symm | exact (if_neg (by omega)).symm) | (rw [if_pos rfl]; first | exact (if_pos h10).symm | exact (if_neg (by omega)).symm)) ?_
            refine lv_goto (tgt := 134) hx hb d_Mo_make_107 rfl ?_
            refine zk_iast hx hb hK hP hD hS 3 0 rfl rfl (by omega) (by omega) d_Mo_make_134 (fun H locs hP hD hS => ?_)
            have hP : va_P D vwCl [(o, .inr (9, [(ϕ 0), (ϕ 1), .ref a_given, .ref a_holes, (ϕ 4), (ϕ 5), (ϕ 6), (ϕ 7), (ϕ 8), (ϕ 9), (ϕ 10), (ϕ 11), (ϕ 12), (ϕ 13), (ϕ 14), (ϕ 15), (ϕ 16), (ϕ 17), (ϕ 18), (ϕ 19), (ϕ 20), (ϕ 21), (ϕ 22), (ϕ 23), .int (nI nn), .ref a_value, .ref a_hole, .ref a_first, .ref a_second, .ref a_list, (ϕ 30), (ϕ 31), (ϕ 32), (ϕ 33), (ϕ 34), (ϕ 35), (ϕ 36), (ϕ 37), (ϕ 38), (ϕ 39), (ϕ 40), (ϕ 41), (ϕ 42), (ϕ 43)])), (a_given, .inl (cI, 144, .inl gv)), (a_holes, .inl (cI, 48, .inl ho)), (a_value, .inl (cI, 540, .inl (upd (mPut vl (9 * nn) (fun c => mVl ho gv a0 none c) c1) (9 * nn + c1) (mVl ho gv a0 none c1)))), (a_hole, .inl (cZ, 540, .inl (zZ (va_up (mPut hl_ (9 * nn) (fun c => !mIs ho a0 none c) c1) (9 * nn + c1) (!mIs ho a0 none c1))))), (a_first, .inl (cI, 60, .inl (zN fi))), (a_second, .inl (cI, 60, .inl se)), (a_list, .inl (cI, 60, .inl (zN li)))] H := hP
            have hD : va_D A [(o, .inr (9, [(ϕ 0), (ϕ 1), .ref a_given, .ref a_holes, (ϕ 4), (ϕ 5), (ϕ 6), (ϕ 7), (ϕ 8), (ϕ 9), (ϕ 10), (ϕ 11), (ϕ 12), (ϕ 13), (ϕ 14), (ϕ 15), (ϕ 16), (ϕ 17), (ϕ 18), (ϕ 19), (ϕ 20), (ϕ 21), (ϕ 22), (ϕ 23), .int (nI nn), .ref a_value, .ref a_hole, .ref a_first, .ref a_second, .ref a_list, (ϕ 30), (ϕ 31), (ϕ 32), (ϕ 33), (ϕ 34), (ϕ 35), (ϕ 36), (ϕ 37), (ϕ 38), (ϕ 39), (ϕ 40), (ϕ 41), (ϕ 42), (ϕ 43)])), (a_given, .inl (cI, 144, .inl gv)), (a_holes, .inl (cI, 48, .inl ho)), (a_value, .inl (cI, 540, .inl (upd (mPut vl (9 * nn) (fun c => mVl ho gv a0 none c) c1) (9 * nn + c1) (mVl ho gv a0 none c1)))), (a_hole, .inl (cZ, 540, .inl (zZ (va_up (mPut hl_ (9 * nn) (fun c => !mIs ho a0 none c) c1) (9 * nn + c1) (!mIs ho a0 none c1))))), (a_first, .inl (cI, 60, .inl (zN fi))), (a_second, .inl (cI, 60, .inl se)), (a_list, .inl (cI, 60, .inl (zN li)))] := hD
            refine lv_iinc (k := 5) (v := nI (c1 + 1)) (lv' := [(3, .int (nI (c1 + 1))), (5, .int (zb false)), (4, .int (zb false)), (0, .ref o), (1, .int (nI a0)), (2, .int (-1))]) hx hb d_Mo_make_135 hl rfl (nI_add c1 1) (by decide) rfl (fun ls hl => ?_)
            refine lv_goto (tgt := 2) hx hb d_Mo_make_138 rfl ?_
            have hP : va_P D vwCl [(o, .inr (9, [(ϕ 0), (ϕ 1), .ref a_given, .ref a_holes, (ϕ 4), (ϕ 5), (ϕ 6), (ϕ 7), (ϕ 8), (ϕ 9), (ϕ 10), (ϕ 11), (ϕ 12), (ϕ 13), (ϕ 14), (ϕ 15), (ϕ 16), (ϕ 17), (ϕ 18), (ϕ 19), (ϕ 20), (ϕ 21), (ϕ 22), (ϕ 23), .int (nI nn), .ref a_value, .ref a_hole, .ref a_first, .ref a_second, .ref a_list, (ϕ 30), (ϕ 31), (ϕ 32), (ϕ 33), (ϕ 34), (ϕ 35), (ϕ 36), (ϕ 37), (ϕ 38), (ϕ 39), (ϕ 40), (ϕ 41), (ϕ 42), (ϕ 43)])), (a_given, .inl (cI, 144, .inl gv)), (a_holes, .inl (cI, 48, .inl ho)), (a_value, .inl (cI, 540, .inl (mPut vl (9 * nn) (fun c => mVl ho gv a0 none c) (c1 + 1)))), (a_hole, .inl (cZ, 540, .inl (zZ (mPut hl_ (9 * nn) (fun c => !mIs ho a0 none c) (c1 + 1))))), (a_first, .inl (cI, 60, .inl (zN fi))), (a_second, .inl (cI, 60, .inl se)), (a_list, .inl (cI, 60, .inl (zN li)))] H := by rw [← mPut_i (f := vl), ← mPut_s (f := hl_)]; exact hP
            have hD : va_D A [(o, .inr (9, [(ϕ 0), (ϕ 1), .ref a_given, .ref a_holes, (ϕ 4), (ϕ 5), (ϕ 6), (ϕ 7), (ϕ 8), (ϕ 9), (ϕ 10), (ϕ 11), (ϕ 12), (ϕ 13), (ϕ 14), (ϕ 15), (ϕ 16), (ϕ 17), (ϕ 18), (ϕ 19), (ϕ 20), (ϕ 21), (ϕ 22), (ϕ 23), .int (nI nn), .ref a_value, .ref a_hole, .ref a_first, .ref a_second, .ref a_list, (ϕ 30), (ϕ 31), (ϕ 32), (ϕ 33), (ϕ 34), (ϕ 35), (ϕ 36), (ϕ 37), (ϕ 38), (ϕ 39), (ϕ 40), (ϕ 41), (ϕ 42), (ϕ 43)])), (a_given, .inl (cI, 144, .inl gv)), (a_holes, .inl (cI, 48, .inl ho)), (a_value, .inl (cI, 540, .inl (mPut vl (9 * nn) (fun c => mVl ho gv a0 none c) (c1 + 1)))), (a_hole, .inl (cZ, 540, .inl (zZ (mPut hl_ (9 * nn) (fun c => !mIs ho a0 none c) (c1 + 1))))), (a_first, .inl (cI, 60, .inl (zN fi))), (a_second, .inl (cI, 60, .inl se)), (a_list, .inl (cI, 60, .inl (zN li)))] := by rw [← mPut_i (f := vl), ← mPut_s (f := hl_)]; exact hD
            exact ih2 (c1 + 1) (by omega) (by omega) ls _ _ (lv_sub hl [3, 4, 5, 0] rfl) hP hD hS
          · skip
            refine lv_iload_n hx hb d_Mo_make_41 rfl (lv_at hl 3 rfl) ?_
            refine lv_if_lt (tgt := 61) hx hb d_Mo_make_42 rfl (fun _ => ?_) (fun hq => absurd hq (fun q => q (by decide)))
            refine lv_iconst (v := zb false) hx hb d_Mo_make_61 (by decide) ?_
            have his : false = mIs ho a0 none c1 := by unfold mIs; first | (rw [if_neg (by omega), if_neg (by omega)]; done) | (rw [if_neg (by omega), if_pos (by omega)]; first | done | rfl | exact h54.symm)
            refine lv_istore (lv' := [(5, .int (zb false)), (4, .int (zb false)), (0, .ref o), (1, .int (nI a0)), (2, .int (-1)), (3, .int (nI c1))]) hx hb d_Mo_make_62 hl (by decide) rfl (fun ls hl => ?_)
            refine lv_aload_n hx hb d_Mo_make_64 rfl (lv_at hl 2 rfl) ?_
            refine va_get (C := R_Mo) (T := F_Mo) (N := 44) hx hb hts (fun w h => List.mem_cons_of_mem _ (hin_Mo w h)) hown hK hP 0 rfl rfl 26 (by decide) (hts _ (List.mem_cons_of_mem _ fl_Mo_56)) (fun _ h => h) rfl d_Mo_make_65 ?_
            refine lv_bipush (v := nI 9) hx hb d_Mo_make_68 (by decide) ?_
            refine lv_aload_n hx hb d_Mo_make_70 rfl (lv_at hl 2 rfl) ?_
            refine va_get (C := R_Mo) (T := F_Mo) (N := 44) hx hb hts (fun w h => List.mem_cons_of_mem _ (hin_Mo w h)) hown hK hP 0 rfl rfl 24 (by decide) (hts _ (List.mem_cons_of_mem _ fl_Mo_152)) (fun _ h => h) rfl d_Mo_make_71 ?_
            refine lv_imul hx hb d_Mo_make_74 ?_
            refine zk_topi (show ((nI 9) * (nI nn)) = nI (9 * nn) from pk_mul 9 nn) ?_
            refine lv_iload_n hx hb d_Mo_make_75 rfl (lv_at hl 5 rfl) ?_
            refine lv_iadd hx hb d_Mo_make_76 ?_
            refine zk_topi (show ((nI (9 * nn)) + (nI c1)) = nI (9 * nn + c1) from nI_add (9 * nn) c1) ?_
            refine lv_iload hx hb d_Mo_make_77 (lv_at hl 0 rfl) ?_
            refine zk_ifb_ne (tgt := 86) hx hb d_Mo_make_79 rfl (fun hq => absurd hq (by decide)) (fun _ => ?_)
            refine lv_iconst (v := zb true) hx hb d_Mo_make_82 (by decide) ?_
            refine zk_topi (show (zb true) = zb (!mIs ho a0 none c1) from by rw [← his]; first | (rw [h79]; rfl) | rfl) ?_
            refine lv_goto (tgt := 87) hx hb d_Mo_make_83 rfl ?_
            refine zk_bast hx hb hK hP hD hS 4 2 rfl rfl (by omega) (by omega) d_Mo_make_87 (fun H locs hP hD hS => ?_)
            have hP : va_P D vwCl [(o, .inr (9, [(ϕ 0), (ϕ 1), .ref a_given, .ref a_holes, (ϕ 4), (ϕ 5), (ϕ 6), (ϕ 7), (ϕ 8), (ϕ 9), (ϕ 10), (ϕ 11), (ϕ 12), (ϕ 13), (ϕ 14), (ϕ 15), (ϕ 16), (ϕ 17), (ϕ 18), (ϕ 19), (ϕ 20), (ϕ 21), (ϕ 22), (ϕ 23), .int (nI nn), .ref a_value, .ref a_hole, .ref a_first, .ref a_second, .ref a_list, (ϕ 30), (ϕ 31), (ϕ 32), (ϕ 33), (ϕ 34), (ϕ 35), (ϕ 36), (ϕ 37), (ϕ 38), (ϕ 39), (ϕ 40), (ϕ 41), (ϕ 42), (ϕ 43)])), (a_given, .inl (cI, 144, .inl gv)), (a_holes, .inl (cI, 48, .inl ho)), (a_value, .inl (cI, 540, .inl (mPut vl (9 * nn) (fun c => mVl ho gv a0 none c) c1))), (a_hole, .inl (cZ, 540, .inl (zZ (va_up (mPut hl_ (9 * nn) (fun c => !mIs ho a0 none c) c1) (9 * nn + c1) (!mIs ho a0 none c1))))), (a_first, .inl (cI, 60, .inl (zN fi))), (a_second, .inl (cI, 60, .inl se)), (a_list, .inl (cI, 60, .inl (zN li)))] H := hP
            have hD : va_D A [(o, .inr (9, [(ϕ 0), (ϕ 1), .ref a_given, .ref a_holes, (ϕ 4), (ϕ 5), (ϕ 6), (ϕ 7), (ϕ 8), (ϕ 9), (ϕ 10), (ϕ 11), (ϕ 12), (ϕ 13), (ϕ 14), (ϕ 15), (ϕ 16), (ϕ 17), (ϕ 18), (ϕ 19), (ϕ 20), (ϕ 21), (ϕ 22), (ϕ 23), .int (nI nn), .ref a_value, .ref a_hole, .ref a_first, .ref a_second, .ref a_list, (ϕ 30), (ϕ 31), (ϕ 32), (ϕ 33), (ϕ 34), (ϕ 35), (ϕ 36), (ϕ 37), (ϕ 38), (ϕ 39), (ϕ 40), (ϕ 41), (ϕ 42), (ϕ 43)])), (a_given, .inl (cI, 144, .inl gv)), (a_holes, .inl (cI, 48, .inl ho)), (a_value, .inl (cI, 540, .inl (mPut vl (9 * nn) (fun c => mVl ho gv a0 none c) c1))), (a_hole, .inl (cZ, 540, .inl (zZ (va_up (mPut hl_ (9 * nn) (fun c => !mIs ho a0 none c) c1) (9 * nn + c1) (!mIs ho a0 none c1))))), (a_first, .inl (cI, 60, .inl (zN fi))), (a_second, .inl (cI, 60, .inl se)), (a_list, .inl (cI, 60, .inl (zN li)))] := hD
            refine lv_aload_n hx hb d_Mo_make_88 rfl (lv_at hl 2 rfl) ?_
            refine va_get (C := R_Mo) (T := F_Mo) (N := 44) hx hb hts (fun w h => List.mem_cons_of_mem _ (hin_Mo w h)) hown hK hP 0 rfl rfl 25 (by decide) (hts _ (List.mem_cons_of_mem _ fl_Mo_53)) (fun _ h => h) rfl d_Mo_make_89 ?_
            refine lv_bipush (v := nI 9) hx hb d_Mo_make_92 (by decide) ?_
            refine lv_aload_n hx hb d_Mo_make_94 rfl (lv_at hl 2 rfl) ?_
            refine va_get (C := R_Mo) (T := F_Mo) (N := 44) hx hb hts (fun w h => List.mem_cons_of_mem _ (hin_Mo w h)) hown hK hP 0 rfl rfl 24 (by decide) (hts _ (List.mem_cons_of_mem _ fl_Mo_152)) (fun _ h => h) rfl d_Mo_make_95 ?_
            refine lv_imul hx hb d_Mo_make_98 ?_
            refine zk_topi (show ((nI 9) * (nI nn)) = nI (9 * nn) from pk_mul 9 nn) ?_
            refine lv_iload_n hx hb d_Mo_make_99 rfl (lv_at hl 5 rfl) ?_
            refine lv_iadd hx hb d_Mo_make_100 ?_
            refine zk_topi (show ((nI (9 * nn)) + (nI c1)) = nI (9 * nn + c1) from nI_add (9 * nn) c1) ?_
            refine lv_iload hx hb d_Mo_make_101 (lv_at hl 0 rfl) ?_
            refine zk_ifb_ne (tgt := 110) hx hb d_Mo_make_103 rfl (fun hq => absurd hq (by decide)) (fun _ => ?_)
            refine lv_iconst (v := nI 0) hx hb d_Mo_make_106 (by decide) ?_
            refine zk_topi (show (nI 0) = mVl ho gv a0 none c1 from by unfold mVl; rw [← his]; first | rfl | (rw [h103]; first | rfl | exact (if_pos h10).symm | exact (if_neg (by omega)).symm) | (rw [if_pos rfl]; first | exact (if_pos h10).symm | exact (if_neg (by omega)).symm)) ?_
            refine lv_goto (tgt := 134) hx hb d_Mo_make_107 rfl ?_
            refine zk_iast hx hb hK hP hD hS 3 0 rfl rfl (by omega) (by omega) d_Mo_make_134 (fun H locs hP hD hS => ?_)
            have hP : va_P D vwCl [(o, .inr (9, [(ϕ 0), (ϕ 1), .ref a_given, .ref a_holes, (ϕ 4), (ϕ 5), (ϕ 6), (ϕ 7), (ϕ 8), (ϕ 9), (ϕ 10), (ϕ 11), (ϕ 12), (ϕ 13), (ϕ 14), (ϕ 15), (ϕ 16), (ϕ 17), (ϕ 18), (ϕ 19), (ϕ 20), (ϕ 21), (ϕ 22), (ϕ 23), .int (nI nn), .ref a_value, .ref a_hole, .ref a_first, .ref a_second, .ref a_list, (ϕ 30), (ϕ 31), (ϕ 32), (ϕ 33), (ϕ 34), (ϕ 35), (ϕ 36), (ϕ 37), (ϕ 38), (ϕ 39), (ϕ 40), (ϕ 41), (ϕ 42), (ϕ 43)])), (a_given, .inl (cI, 144, .inl gv)), (a_holes, .inl (cI, 48, .inl ho)), (a_value, .inl (cI, 540, .inl (upd (mPut vl (9 * nn) (fun c => mVl ho gv a0 none c) c1) (9 * nn + c1) (mVl ho gv a0 none c1)))), (a_hole, .inl (cZ, 540, .inl (zZ (va_up (mPut hl_ (9 * nn) (fun c => !mIs ho a0 none c) c1) (9 * nn + c1) (!mIs ho a0 none c1))))), (a_first, .inl (cI, 60, .inl (zN fi))), (a_second, .inl (cI, 60, .inl se)), (a_list, .inl (cI, 60, .inl (zN li)))] H := hP
            have hD : va_D A [(o, .inr (9, [(ϕ 0), (ϕ 1), .ref a_given, .ref a_holes, (ϕ 4), (ϕ 5), (ϕ 6), (ϕ 7), (ϕ 8), (ϕ 9), (ϕ 10), (ϕ 11), (ϕ 12), (ϕ 13), (ϕ 14), (ϕ 15), (ϕ 16), (ϕ 17), (ϕ 18), (ϕ 19), (ϕ 20), (ϕ 21), (ϕ 22), (ϕ 23), .int (nI nn), .ref a_value, .ref a_hole, .ref a_first, .ref a_second, .ref a_list, (ϕ 30), (ϕ 31), (ϕ 32), (ϕ 33), (ϕ 34), (ϕ 35), (ϕ 36), (ϕ 37), (ϕ 38), (ϕ 39), (ϕ 40), (ϕ 41), (ϕ 42), (ϕ 43)])), (a_given, .inl (cI, 144, .inl gv)), (a_holes, .inl (cI, 48, .inl ho)), (a_value, .inl (cI, 540, .inl (upd (mPut vl (9 * nn) (fun c => mVl ho gv a0 none c) c1) (9 * nn + c1) (mVl ho gv a0 none c1)))), (a_hole, .inl (cZ, 540, .inl (zZ (va_up (mPut hl_ (9 * nn) (fun c => !mIs ho a0 none c) c1) (9 * nn + c1) (!mIs ho a0 none c1))))), (a_first, .inl (cI, 60, .inl (zN fi))), (a_second, .inl (cI, 60, .inl se)), (a_list, .inl (cI, 60, .inl (zN li)))] := hD
            refine lv_iinc (k := 5) (v := nI (c1 + 1)) (lv' := [(3, .int (nI (c1 + 1))), (5, .int (zb false)), (4, .int (zb false)), (0, .ref o), (1, .int (nI a0)), (2, .int (-1))]) hx hb d_Mo_make_135 hl rfl (nI_add c1 1) (by decide) rfl (fun ls hl => ?_)
            refine lv_goto (tgt := 2) hx hb d_Mo_make_138 rfl ?_
            have hP : va_P D vwCl [(o, .inr (9, [(ϕ 0), (ϕ 1), .ref a_given, .ref a_holes, (ϕ 4), (ϕ 5), (ϕ 6), (ϕ 7), (ϕ 8), (ϕ 9), (ϕ 10), (ϕ 11), (ϕ 12), (ϕ 13), (ϕ 14), (ϕ 15), (ϕ 16), (ϕ 17), (ϕ 18), (ϕ 19), (ϕ 20), (ϕ 21), (ϕ 22), (ϕ 23), .int (nI nn), .ref a_value, .ref a_hole, .ref a_first, .ref a_second, .ref a_list, (ϕ 30), (ϕ 31), (ϕ 32), (ϕ 33), (ϕ 34), (ϕ 35), (ϕ 36), (ϕ 37), (ϕ 38), (ϕ 39), (ϕ 40), (ϕ 41), (ϕ 42), (ϕ 43)])), (a_given, .inl (cI, 144, .inl gv)), (a_holes, .inl (cI, 48, .inl ho)), (a_value, .inl (cI, 540, .inl (mPut vl (9 * nn) (fun c => mVl ho gv a0 none c) (c1 + 1)))), (a_hole, .inl (cZ, 540, .inl (zZ (mPut hl_ (9 * nn) (fun c => !mIs ho a0 none c) (c1 + 1))))), (a_first, .inl (cI, 60, .inl (zN fi))), (a_second, .inl (cI, 60, .inl se)), (a_list, .inl (cI, 60, .inl (zN li)))] H := by rw [← mPut_i (f := vl), ← mPut_s (f := hl_)]; exact hP
            have hD : va_D A [(o, .inr (9, [(ϕ 0), (ϕ 1), .ref a_given, .ref a_holes, (ϕ 4), (ϕ 5), (ϕ 6), (ϕ 7), (ϕ 8), (ϕ 9), (ϕ 10), (ϕ 11), (ϕ 12), (ϕ 13), (ϕ 14), (ϕ 15), (ϕ 16), (ϕ 17), (ϕ 18), (ϕ 19), (ϕ 20), (ϕ 21), (ϕ 22), (ϕ 23), .int (nI nn), .ref a_value, .ref a_hole, .ref a_first, .ref a_second, .ref a_list, (ϕ 30), (ϕ 31), (ϕ 32), (ϕ 33), (ϕ 34), (ϕ 35), (ϕ 36), (ϕ 37), (ϕ 38), (ϕ 39), (ϕ 40), (ϕ 41), (ϕ 42), (ϕ 43)])), (a_given, .inl (cI, 144, .inl gv)), (a_holes, .inl (cI, 48, .inl ho)), (a_value, .inl (cI, 540, .inl (mPut vl (9 * nn) (fun c => mVl ho gv a0 none c) (c1 + 1)))), (a_hole, .inl (cZ, 540, .inl (zZ (mPut hl_ (9 * nn) (fun c => !mIs ho a0 none c) (c1 + 1))))), (a_first, .inl (cI, 60, .inl (zN fi))), (a_second, .inl (cI, 60, .inl se)), (a_list, .inl (cI, 60, .inl (zN li)))] := by rw [← mPut_i (f := vl), ← mPut_s (f := hl_)]; exact hD
            exact ih2 (c1 + 1) (by omega) (by omega) ls _ _ (lv_sub hl [3, 4, 5, 0] rfl) hP hD hS
        · skip
          refine lv_iconst (v := zb true) hx hb d_Mo_make_13 (by decide) ?_
          refine lv_goto (tgt := 18) hx hb d_Mo_make_14 rfl ?_
          refine lv_istore (lv' := [(4, .int (zb true)), (0, .ref o), (1, .int (nI a0)), (2, .int (-1)), (3, .int (nI c1))]) hx hb d_Mo_make_18 hl (by decide) rfl (fun ls hl => ?_)
          refine lv_iload hx hb d_Mo_make_20 (lv_at hl 0 rfl) ?_
          refine zk_ifb_eq (tgt := 35) hx hb d_Mo_make_22 rfl (fun hq => absurd hq (by decide)) (fun _ => ?_)
          refine lv_aload_n hx hb d_Mo_make_25 rfl (lv_at hl 1 rfl) ?_
          refine lv_iconst (v := nI 0) hx hb d_Mo_make_26 (by decide) ?_
          refine lv_iload_n hx hb d_Mo_make_27 rfl (lv_at hl 2 rfl) ?_
          refine lv_iload_n hx hb d_Mo_make_28 rfl (lv_at hl 4 rfl) ?_
          have hPc := hP.sub (ws' := [(o, .inr (9, [(ϕ 0), (ϕ 1), .ref a_given, .ref a_holes, (ϕ 4), (ϕ 5), (ϕ 6), (ϕ 7), (ϕ 8), (ϕ 9), (ϕ 10), (ϕ 11), (ϕ 12), (ϕ 13), (ϕ 14), (ϕ 15), (ϕ 16), (ϕ 17), (ϕ 18), (ϕ 19), (ϕ 20), (ϕ 21), (ϕ 22), (ϕ 23), .int (nI nn), .ref a_value, .ref a_hole, .ref a_first, .ref a_second, .ref a_list, (ϕ 30), (ϕ 31), (ϕ 32), (ϕ 33), (ϕ 34), (ϕ 35), (ϕ 36), (ϕ 37), (ϕ 38), (ϕ 39), (ϕ 40), (ϕ 41), (ϕ 42), (ϕ 43)])), (a_holes, .inl (cI, 48, .inl ho))]) [0, 2] rfl
          refine zk_ri (va_runV (As := [.int (nI 0), .int (nI a0), .int (nI c1)]) (rest := []) ⟨hx, hb, hml, hown, hts⟩ (c_Mo_given l D cI cL cZ cW cR o (vp_V [(ϕ 0), (ϕ 1), .ref a_given, .ref a_holes, (ϕ 4), (ϕ 5), (ϕ 6), (ϕ 7), (ϕ 8), (ϕ 9), (ϕ 10), (ϕ 11), (ϕ 12), (ϕ 13), (ϕ 14), (ϕ 15), (ϕ 16), (ϕ 17), (ϕ 18), (ϕ 19), (ϕ 20), (ϕ 21), (ϕ 22), (ϕ 23), .int (nI nn), .ref a_value, .ref a_hole, .ref a_first, .ref a_second, .ref a_list, (ϕ 30), (ϕ 31), (ϕ 32), (ϕ 33), (ϕ 34), (ϕ 35), (ϕ 36), (ϕ 37), (ϕ 38), (ϕ 39), (ϕ 40), (ϕ 41), (ϕ 42), (ϕ 43)]) a_holes ho 0 a0 c1 (by decide) (by omega) (by omega)) (cwV 3 hts (zk_gV (fun _ h => List.mem_cons_of_mem _ h) ml_Mo_113 im_Mo_given se_Mo_given in_Mo co_Mo_given) rfl rfl rfl ⟨rfl, hd_Mo_given⟩ ⟨Nat.le_of_ble_eq_true rfl, Nat.le_of_ble_eq_true rfl⟩) (zk_vr (q0 := 0) hN hK hPc rfl rfl) rfl rfl hl.1 rfl (lv_room (Nat.le_of_ble_eq_true rfl)) d_Mo_make_29 ⟨Nat.zero_le _, Nat.zero_le _⟩) ?_
          have his : hBit (ho (24 * 0 + a0)) c1 = mIs ho a0 none c1 := (if_pos h10).symm
          refine lv_goto (tgt := 62) hx hb d_Mo_make_32 rfl ?_
          refine lv_istore (lv' := [(5, .int (zb (hBit (ho (24 * 0 + a0)) c1))), (4, .int (zb true)), (0, .ref o), (1, .int (nI a0)), (2, .int (-1)), (3, .int (nI c1))]) hx hb d_Mo_make_62 hl (by decide) rfl (fun ls hl => ?_)
          refine lv_aload_n hx hb d_Mo_make_64 rfl (lv_at hl 2 rfl) ?_
          refine va_get (C := R_Mo) (T := F_Mo) (N := 44) hx hb hts (fun w h => List.mem_cons_of_mem _ (hin_Mo w h)) hown hK hP 0 rfl rfl 26 (by decide) (hts _ (List.mem_cons_of_mem _ fl_Mo_56)) (fun _ h => h) rfl d_Mo_make_65 ?_
          refine lv_bipush (v := nI 9) hx hb d_Mo_make_68 (by decide) ?_
          refine lv_aload_n hx hb d_Mo_make_70 rfl (lv_at hl 2 rfl) ?_
          refine va_get (C := R_Mo) (T := F_Mo) (N := 44) hx hb hts (fun w h => List.mem_cons_of_mem _ (hin_Mo w h)) hown hK hP 0 rfl rfl 24 (by decide) (hts _ (List.mem_cons_of_mem _ fl_Mo_152)) (fun _ h => h) rfl d_Mo_make_71 ?_
          refine lv_imul hx hb d_Mo_make_74 ?_
          refine zk_topi (show ((nI 9) * (nI nn)) = nI (9 * nn) from pk_mul 9 nn) ?_
          refine lv_iload_n hx hb d_Mo_make_75 rfl (lv_at hl 5 rfl) ?_
          refine lv_iadd hx hb d_Mo_make_76 ?_
          refine zk_topi (show ((nI (9 * nn)) + (nI c1)) = nI (9 * nn + c1) from nI_add (9 * nn) c1) ?_
          refine lv_iload hx hb d_Mo_make_77 (lv_at hl 0 rfl) ?_
          refine zk_ifb_ne (tgt := 86) hx hb d_Mo_make_79 rfl (fun h79 => ?_) (fun h79 => ?_)
          · skip
            refine lv_iconst (v := zb false) hx hb d_Mo_make_86 (by decide) ?_
            refine zk_topi (show (zb false) = zb (!mIs ho a0 none c1) from by rw [← his]; first | (rw [h79]; rfl) | rfl) ?_
            refine zk_bast hx hb hK hP hD hS 4 2 rfl rfl (by omega) (by omega) d_Mo_make_87 (fun H locs hP hD hS => ?_)
            have hP : va_P D vwCl [(o, .inr (9, [(ϕ 0), (ϕ 1), .ref a_given, .ref a_holes, (ϕ 4), (ϕ 5), (ϕ 6), (ϕ 7), (ϕ 8), (ϕ 9), (ϕ 10), (ϕ 11), (ϕ 12), (ϕ 13), (ϕ 14), (ϕ 15), (ϕ 16), (ϕ 17), (ϕ 18), (ϕ 19), (ϕ 20), (ϕ 21), (ϕ 22), (ϕ 23), .int (nI nn), .ref a_value, .ref a_hole, .ref a_first, .ref a_second, .ref a_list, (ϕ 30), (ϕ 31), (ϕ 32), (ϕ 33), (ϕ 34), (ϕ 35), (ϕ 36), (ϕ 37), (ϕ 38), (ϕ 39), (ϕ 40), (ϕ 41), (ϕ 42), (ϕ 43)])), (a_given, .inl (cI, 144, .inl gv)), (a_holes, .inl (cI, 48, .inl ho)), (a_value, .inl (cI, 540, .inl (mPut vl (9 * nn) (fun c => mVl ho gv a0 none c) c1))), (a_hole, .inl (cZ, 540, .inl (zZ (va_up (mPut hl_ (9 * nn) (fun c => !mIs ho a0 none c) c1) (9 * nn + c1) (!mIs ho a0 none c1))))), (a_first, .inl (cI, 60, .inl (zN fi))), (a_second, .inl (cI, 60, .inl se)), (a_list, .inl (cI, 60, .inl (zN li)))] H := hP
            have hD : va_D A [(o, .inr (9, [(ϕ 0), (ϕ 1), .ref a_given, .ref a_holes, (ϕ 4), (ϕ 5), (ϕ 6), (ϕ 7), (ϕ 8), (ϕ 9), (ϕ 10), (ϕ 11), (ϕ 12), (ϕ 13), (ϕ 14), (ϕ 15), (ϕ 16), (ϕ 17), (ϕ 18), (ϕ 19), (ϕ 20), (ϕ 21), (ϕ 22), (ϕ 23), .int (nI nn), .ref a_value, .ref a_hole, .ref a_first, .ref a_second, .ref a_list, (ϕ 30), (ϕ 31), (ϕ 32), (ϕ 33), (ϕ 34), (ϕ 35), (ϕ 36), (ϕ 37), (ϕ 38), (ϕ 39), (ϕ 40), (ϕ 41), (ϕ 42), (ϕ 43)])), (a_given, .inl (cI, 144, .inl gv)), (a_holes, .inl (cI, 48, .inl ho)), (a_value, .inl (cI, 540, .inl (mPut vl (9 * nn) (fun c => mVl ho gv a0 none c) c1))), (a_hole, .inl (cZ, 540, .inl (zZ (va_up (mPut hl_ (9 * nn) (fun c => !mIs ho a0 none c) c1) (9 * nn + c1) (!mIs ho a0 none c1))))), (a_first, .inl (cI, 60, .inl (zN fi))), (a_second, .inl (cI, 60, .inl se)), (a_list, .inl (cI, 60, .inl (zN li)))] := hD
            refine lv_aload_n hx hb d_Mo_make_88 rfl (lv_at hl 2 rfl) ?_
            refine va_get (C := R_Mo) (T := F_Mo) (N := 44) hx hb hts (fun w h => List.mem_cons_of_mem _ (hin_Mo w h)) hown hK hP 0 rfl rfl 25 (by decide) (hts _ (List.mem_cons_of_mem _ fl_Mo_53)) (fun _ h => h) rfl d_Mo_make_89 ?_
            refine lv_bipush (v := nI 9) hx hb d_Mo_make_92 (by decide) ?_
            refine lv_aload_n hx hb d_Mo_make_94 rfl (lv_at hl 2 rfl) ?_
            refine va_get (C := R_Mo) (T := F_Mo) (N := 44) hx hb hts (fun w h => List.mem_cons_of_mem _ (hin_Mo w h)) hown hK hP 0 rfl rfl 24 (by decide) (hts _ (List.mem_cons_of_mem _ fl_Mo_152)) (fun _ h => h) rfl d_Mo_make_95 ?_
            refine lv_imul hx hb d_Mo_make_98 ?_
            refine zk_topi (show ((nI 9) * (nI nn)) = nI (9 * nn) from pk_mul 9 nn) ?_
            refine lv_iload_n hx hb d_Mo_make_99 rfl (lv_at hl 5 rfl) ?_
            refine lv_iadd hx hb d_Mo_make_100 ?_
            refine zk_topi (show ((nI (9 * nn)) + (nI c1)) = nI (9 * nn + c1) from nI_add (9 * nn) c1) ?_
            refine lv_iload hx hb d_Mo_make_101 (lv_at hl 0 rfl) ?_
            refine zk_ifb_ne (tgt := 110) hx hb d_Mo_make_103 rfl (fun h103 => ?_) (fun h103 => ?_)
            · skip
              refine lv_iload hx hb d_Mo_make_110 (lv_at hl 1 rfl) ?_
              refine zk_ifb_eq (tgt := 125) hx hb d_Mo_make_112 rfl (fun hq => absurd hq (by decide)) (fun _ => ?_)
              refine lv_aload_n hx hb d_Mo_make_115 rfl (lv_at hl 2 rfl) ?_
              refine lv_iconst (v := nI 0) hx hb d_Mo_make_116 (by decide) ?_
              refine lv_iload_n hx hb d_Mo_make_117 rfl (lv_at hl 3 rfl) ?_
              refine lv_iload_n hx hb d_Mo_make_118 rfl (lv_at hl 5 rfl) ?_
              have hPc := hP.sub (ws' := [(o, .inr (9, [(ϕ 0), (ϕ 1), .ref a_given, .ref a_holes, (ϕ 4), (ϕ 5), (ϕ 6), (ϕ 7), (ϕ 8), (ϕ 9), (ϕ 10), (ϕ 11), (ϕ 12), (ϕ 13), (ϕ 14), (ϕ 15), (ϕ 16), (ϕ 17), (ϕ 18), (ϕ 19), (ϕ 20), (ϕ 21), (ϕ 22), (ϕ 23), .int (nI nn), .ref a_value, .ref a_hole, .ref a_first, .ref a_second, .ref a_list, (ϕ 30), (ϕ 31), (ϕ 32), (ϕ 33), (ϕ 34), (ϕ 35), (ϕ 36), (ϕ 37), (ϕ 38), (ϕ 39), (ϕ 40), (ϕ 41), (ϕ 42), (ϕ 43)])), (a_given, .inl (cI, 144, .inl gv))]) [0, 1] rfl
              refine zk_ri (va_runV (As := [.int (nI 0), .int (nI a0), .int (nI c1)]) (rest := [.int (nI (9 * nn + c1)), .ref a_value]) ⟨hx, hb, hml, hown, hts⟩ (c_Mo_givenValue l D cI cL cZ cW cR o (vp_V [(ϕ 0), (ϕ 1), .ref a_given, .ref a_holes, (ϕ 4), (ϕ 5), (ϕ 6), (ϕ 7), (ϕ 8), (ϕ 9), (ϕ 10), (ϕ 11), (ϕ 12), (ϕ 13), (ϕ 14), (ϕ 15), (ϕ 16), (ϕ 17), (ϕ 18), (ϕ 19), (ϕ 20), (ϕ 21), (ϕ 22), (ϕ 23), .int (nI nn), .ref a_value, .ref a_hole, .ref a_first, .ref a_second, .ref a_list, (ϕ 30), (ϕ 31), (ϕ 32), (ϕ 33), (ϕ 34), (ϕ 35), (ϕ 36), (ϕ 37), (ϕ 38), (ϕ 39), (ϕ 40), (ϕ 41), (ϕ 42), (ϕ 43)]) a_given gv 0 a0 c1 (by decide) (by omega) (by omega)) (cwV 3 hts (zk_gV (fun _ h => List.mem_cons_of_mem _ h) ml_Mo_115 im_Mo_givenValue se_Mo_givenValue in_Mo co_Mo_givenValue) rfl rfl rfl ⟨rfl, hd_Mo_givenValue⟩ ⟨Nat.le_of_ble_eq_true rfl, Nat.le_of_ble_eq_true rfl⟩) (zk_vr (q0 := 0) hN hK hPc rfl rfl) rfl rfl hl.1 rfl (lv_room (Nat.le_of_ble_eq_true rfl)) d_Mo_make_119 ⟨Nat.zero_le _, Nat.zero_le _⟩) ?_
              refine zk_topi (show (gv (72 * 0 + 3 * a0 + c1)) = mVl ho gv a0 none c1 from by unfold mVl; rw [← his]; first | rfl | (rw [h103]; first | rfl | exact (if_pos h10).symm | exact (if_neg (by omega)).symm) | (rw [if_pos rfl]; first | exact (if_pos h10).symm | exact (if_neg (by omega)).symm)) ?_
              refine lv_goto (tgt := 134) hx hb d_Mo_make_122 rfl ?_
              refine zk_iast hx hb hK hP hD hS 3 0 rfl rfl (by omega) (by omega) d_Mo_make_134 (fun H locs hP hD hS => ?_)
              have hP : va_P D vwCl [(o, .inr (9, [(ϕ 0), (ϕ 1), .ref a_given, .ref a_holes, (ϕ 4), (ϕ 5), (ϕ 6), (ϕ 7), (ϕ 8), (ϕ 9), (ϕ 10), (ϕ 11), (ϕ 12), (ϕ 13), (ϕ 14), (ϕ 15), (ϕ 16), (ϕ 17), (ϕ 18), (ϕ 19), (ϕ 20), (ϕ 21), (ϕ 22), (ϕ 23), .int (nI nn), .ref a_value, .ref a_hole, .ref a_first, .ref a_second, .ref a_list, (ϕ 30), (ϕ 31), (ϕ 32), (ϕ 33), (ϕ 34), (ϕ 35), (ϕ 36), (ϕ 37), (ϕ 38), (ϕ 39), (ϕ 40), (ϕ 41), (ϕ 42), (ϕ 43)])), (a_given, .inl (cI, 144, .inl gv)), (a_holes, .inl (cI, 48, .inl ho)), (a_value, .inl (cI, 540, .inl (upd (mPut vl (9 * nn) (fun c => mVl ho gv a0 none c) c1) (9 * nn + c1) (mVl ho gv a0 none c1)))), (a_hole, .inl (cZ, 540, .inl (zZ (va_up (mPut hl_ (9 * nn) (fun c => !mIs ho a0 none c) c1) (9 * nn + c1) (!mIs ho a0 none c1))))), (a_first, .inl (cI, 60, .inl (zN fi))), (a_second, .inl (cI, 60, .inl se)), (a_list, .inl (cI, 60, .inl (zN li)))] H := hP
              have hD : va_D A [(o, .inr (9, [(ϕ 0), (ϕ 1), .ref a_given, .ref a_holes, (ϕ 4), (ϕ 5), (ϕ 6), (ϕ 7), (ϕ 8), (ϕ 9), (ϕ 10), (ϕ 11), (ϕ 12), (ϕ 13), (ϕ 14), (ϕ 15), (ϕ 16), (ϕ 17), (ϕ 18), (ϕ 19), (ϕ 20), (ϕ 21), (ϕ 22), (ϕ 23), .int (nI nn), .ref a_value, .ref a_hole, .ref a_first, .ref a_second, .ref a_list, (ϕ 30), (ϕ 31), (ϕ 32), (ϕ 33), (ϕ 34), (ϕ 35), (ϕ 36), (ϕ 37), (ϕ 38), (ϕ 39), (ϕ 40), (ϕ 41), (ϕ 42), (ϕ 43)])), (a_given, .inl (cI, 144, .inl gv)), (a_holes, .inl (cI, 48, .inl ho)), (a_value, .inl (cI, 540, .inl (upd (mPut vl (9 * nn) (fun c => mVl ho gv a0 none c) c1) (9 * nn + c1) (mVl ho gv a0 none c1)))), (a_hole, .inl (cZ, 540, .inl (zZ (va_up (mPut hl_ (9 * nn) (fun c => !mIs ho a0 none c) c1) (9 * nn + c1) (!mIs ho a0 none c1))))), (a_first, .inl (cI, 60, .inl (zN fi))), (a_second, .inl (cI, 60, .inl se)), (a_list, .inl (cI, 60, .inl (zN li)))] := hD
              refine lv_iinc (k := 5) (v := nI (c1 + 1)) (lv' := [(3, .int (nI (c1 + 1))), (5, .int (zb (hBit (ho (24 * 0 + a0)) c1))), (4, .int (zb true)), (0, .ref o), (1, .int (nI a0)), (2, .int (-1))]) hx hb d_Mo_make_135 hl rfl (nI_add c1 1) (by decide) rfl (fun ls hl => ?_)
              refine lv_goto (tgt := 2) hx hb d_Mo_make_138 rfl ?_
              have hP : va_P D vwCl [(o, .inr (9, [(ϕ 0), (ϕ 1), .ref a_given, .ref a_holes, (ϕ 4), (ϕ 5), (ϕ 6), (ϕ 7), (ϕ 8), (ϕ 9), (ϕ 10), (ϕ 11), (ϕ 12), (ϕ 13), (ϕ 14), (ϕ 15), (ϕ 16), (ϕ 17), (ϕ 18), (ϕ 19), (ϕ 20), (ϕ 21), (ϕ 22), (ϕ 23), .int (nI nn), .ref a_value, .ref a_hole, .ref a_first, .ref a_second, .ref a_list, (ϕ 30), (ϕ 31), (ϕ 32), (ϕ 33), (ϕ 34), (ϕ 35), (ϕ 36), (ϕ 37), (ϕ 38), (ϕ 39), (ϕ 40), (ϕ 41), (ϕ 42), (ϕ 43)])), (a_given, .inl (cI, 144, .inl gv)), (a_holes, .inl (cI, 48, .inl ho)), (a_value, .inl (cI, 540, .inl (mPut vl (9 * nn) (fun c => mVl ho gv a0 none c) (c1 + 1)))), (a_hole, .inl (cZ, 540, .inl (zZ (mPut hl_ (9 * nn) (fun c => !mIs ho a0 none c) (c1 + 1))))), (a_first, .inl (cI, 60, .inl (zN fi))), (a_second, .inl (cI, 60, .inl se)), (a_list, .inl (cI, 60, .inl (zN li)))] H := by rw [← mPut_i (f := vl), ← mPut_s (f := hl_)]; exact hP
              have hD : va_D A [(o, .inr (9, [(ϕ 0), (ϕ 1), .ref a_given, .ref a_holes, (ϕ 4), (ϕ 5), (ϕ 6), (ϕ 7), (ϕ 8), (ϕ 9), (ϕ 10), (ϕ 11), (ϕ 12), (ϕ 13), (ϕ 14), (ϕ 15), (ϕ 16), (ϕ 17), (ϕ 18), (ϕ 19), (ϕ 20), (ϕ 21), (ϕ 22), (ϕ 23), .int (nI nn), .ref a_value, .ref a_hole, .ref a_first, .ref a_second, .ref a_list, (ϕ 30), (ϕ 31), (ϕ 32), (ϕ 33), (ϕ 34), (ϕ 35), (ϕ 36), (ϕ 37), (ϕ 38), (ϕ 39), (ϕ 40), (ϕ 41), (ϕ 42), (ϕ 43)])), (a_given, .inl (cI, 144, .inl gv)), (a_holes, .inl (cI, 48, .inl ho)), (a_value, .inl (cI, 540, .inl (mPut vl (9 * nn) (fun c => mVl ho gv a0 none c) (c1 + 1)))), (a_hole, .inl (cZ, 540, .inl (zZ (mPut hl_ (9 * nn) (fun c => !mIs ho a0 none c) (c1 + 1))))), (a_first, .inl (cI, 60, .inl (zN fi))), (a_second, .inl (cI, 60, .inl se)), (a_list, .inl (cI, 60, .inl (zN li)))] := by rw [← mPut_i (f := vl), ← mPut_s (f := hl_)]; exact hD
              exact ih2 (c1 + 1) (by omega) (by omega) ls _ _ (lv_sub hl [3, 4, 5, 0] rfl) hP hD hS
            · skip
              refine lv_iconst (v := nI 0) hx hb d_Mo_make_106 (by decide) ?_
              refine zk_topi (show (nI 0) = mVl ho gv a0 none c1 from by unfold mVl; rw [← his]; first | rfl | (rw [h103]; first | rfl | exact (if_pos h10).symm | exact (if_neg (by omega)).symm) | (rw [if_pos rfl]; first | exact (if_pos h10).symm | exact (if_neg (by omega)).symm)) ?_
              refine lv_goto (tgt := 134) hx hb d_Mo_make_107 rfl ?_
              refine zk_iast hx hb hK hP hD hS 3 0 rfl rfl (by omega) (by omega) d_Mo_make_134 (fun H locs hP hD hS => ?_)
              have hP : va_P D vwCl [(o, .inr (9, [(ϕ 0), (ϕ 1), .ref a_given, .ref a_holes, (ϕ 4), (ϕ 5), (ϕ 6), (ϕ 7), (ϕ 8), (ϕ 9), (ϕ 10), (ϕ 11), (ϕ 12), (ϕ 13), (ϕ 14), (ϕ 15), (ϕ 16), (ϕ 17), (ϕ 18), (ϕ 19), (ϕ 20), (ϕ 21), (ϕ 22), (ϕ 23), .int (nI nn), .ref a_value, .ref a_hole, .ref a_first, .ref a_second, .ref a_list, (ϕ 30), (ϕ 31), (ϕ 32), (ϕ 33), (ϕ 34), (ϕ 35), (ϕ 36), (ϕ 37), (ϕ 38), (ϕ 39), (ϕ 40), (ϕ 41), (ϕ 42), (ϕ 43)])), (a_given, .inl (cI, 144, .inl gv)), (a_holes, .inl (cI, 48, .inl ho)), (a_value, .inl (cI, 540, .inl (upd (mPut vl (9 * nn) (fun c => mVl ho gv a0 none c) c1) (9 * nn + c1) (mVl ho gv a0 none c1)))), (a_hole, .inl (cZ, 540, .inl (zZ (va_up (mPut hl_ (9 * nn) (fun c => !mIs ho a0 none c) c1) (9 * nn + c1) (!mIs ho a0 none c1))))), (a_first, .inl (cI, 60, .inl (zN fi))), (a_second, .inl (cI, 60, .inl se)), (a_list, .inl (cI, 60, .inl (zN li)))] H := hP
              have hD : va_D A [(o, .inr (9, [(ϕ 0), (ϕ 1), .ref a_given, .ref a_holes, (ϕ 4), (ϕ 5), (ϕ 6), (ϕ 7), (ϕ 8), (ϕ 9), (ϕ 10), (ϕ 11), (ϕ 12), (ϕ 13), (ϕ 14), (ϕ 15), (ϕ 16), (ϕ 17), (ϕ 18), (ϕ 19), (ϕ 20), (ϕ 21), (ϕ 22), (ϕ 23), .int (nI nn), .ref a_value, .ref a_hole, .ref a_first, .ref a_second, .ref a_list, (ϕ 30), (ϕ 31), (ϕ 32), (ϕ 33), (ϕ 34), (ϕ 35), (ϕ 36), (ϕ 37), (ϕ 38), (ϕ 39), (ϕ 40), (ϕ 41), (ϕ 42), (ϕ 43)])), (a_given, .inl (cI, 144, .inl gv)), (a_holes, .inl (cI, 48, .inl ho)), (a_value, .inl (cI, 540, .inl (upd (mPut vl (9 * nn) (fun c => mVl ho gv a0 none c) c1) (9 * nn + c1) (mVl ho gv a0 none c1)))), (a_hole, .inl (cZ, 540, .inl (zZ (va_up (mPut hl_ (9 * nn) (fun c => !mIs ho a0 none c) c1) (9 * nn + c1) (!mIs ho a0 none c1))))), (a_first, .inl (cI, 60, .inl (zN fi))), (a_second, .inl (cI, 60, .inl se)), (a_list, .inl (cI, 60, .inl (zN li)))] := hD
              refine lv_iinc (k := 5) (v := nI (c1 + 1)) (lv' := [(3, .int (nI (c1 + 1))), (5, .int (zb (hBit (ho (24 * 0 + a0)) c1))), (4, .int (zb true)), (0, .ref o), (1, .int (nI a0)), (2, .int (-1))]) hx hb d_Mo_make_135 hl rfl (nI_add c1 1) (by decide) rfl (fun ls hl => ?_)
              refine lv_goto (tgt := 2) hx hb d_Mo_make_138 rfl ?_
              have hP : va_P D vwCl [(o, .inr (9, [(ϕ 0), (ϕ 1), .ref a_given, .ref a_holes, (ϕ 4), (ϕ 5), (ϕ 6), (ϕ 7), (ϕ 8), (ϕ 9), (ϕ 10), (ϕ 11), (ϕ 12), (ϕ 13), (ϕ 14), (ϕ 15), (ϕ 16), (ϕ 17), (ϕ 18), (ϕ 19), (ϕ 20), (ϕ 21), (ϕ 22), (ϕ 23), .int (nI nn), .ref a_value, .ref a_hole, .ref a_first, .ref a_second, .ref a_list, (ϕ 30), (ϕ 31), (ϕ 32), (ϕ 33), (ϕ 34), (ϕ 35), (ϕ 36), (ϕ 37), (ϕ 38), (ϕ 39), (ϕ 40), (ϕ 41), (ϕ 42), (ϕ 43)])), (a_given, .inl (cI, 144, .inl gv)), (a_holes, .inl (cI, 48, .inl ho)), (a_value, .inl (cI, 540, .inl (mPut vl (9 * nn) (fun c => mVl ho gv a0 none c) (c1 + 1)))), (a_hole, .inl (cZ, 540, .inl (zZ (mPut hl_ (9 * nn) (fun c => !mIs ho a0 none c) (c1 + 1))))), (a_first, .inl (cI, 60, .inl (zN fi))), (a_second, .inl (cI, 60, .inl se)), (a_list, .inl (cI, 60, .inl (zN li)))] H := by rw [← mPut_i (f := vl), ← mPut_s (f := hl_)]; exact hP
              have hD : va_D A [(o, .inr (9, [(ϕ 0), (ϕ 1), .ref a_given, .ref a_holes, (ϕ 4), (ϕ 5), (ϕ 6), (ϕ 7), (ϕ 8), (ϕ 9), (ϕ 10), (ϕ 11), (ϕ 12), (ϕ 13), (ϕ 14), (ϕ 15), (ϕ 16), (ϕ 17), (ϕ 18), (ϕ 19), (ϕ 20), (ϕ 21), (ϕ 22), (ϕ 23), .int (nI nn), .ref a_value, .ref a_hole, .ref a_first, .ref a_second, .ref a_list, (ϕ 30), (ϕ 31), (ϕ 32), (ϕ 33), (ϕ 34), (ϕ 35), (ϕ 36), (ϕ 37), (ϕ 38), (ϕ 39), (ϕ 40), (ϕ 41), (ϕ 42), (ϕ 43)])), (a_given, .inl (cI, 144, .inl gv)), (a_holes, .inl (cI, 48, .inl ho)), (a_value, .inl (cI, 540, .inl (mPut vl (9 * nn) (fun c => mVl ho gv a0 none c) (c1 + 1)))), (a_hole, .inl (cZ, 540, .inl (zZ (mPut hl_ (9 * nn) (fun c => !mIs ho a0 none c) (c1 + 1))))), (a_first, .inl (cI, 60, .inl (zN fi))), (a_second, .inl (cI, 60, .inl se)), (a_list, .inl (cI, 60, .inl (zN li)))] := by rw [← mPut_i (f := vl), ← mPut_s (f := hl_)]; exact hD
              exact ih2 (c1 + 1) (by omega) (by omega) ls _ _ (lv_sub hl [3, 4, 5, 0] rfl) hP hD hS
          · skip
            refine lv_iconst (v := zb true) hx hb d_Mo_make_82 (by decide) ?_
            refine zk_topi (show (zb true) = zb (!mIs ho a0 none c1) from by rw [← his]; first | (rw [h79]; rfl) | rfl) ?_
            refine lv_goto (tgt := 87) hx hb d_Mo_make_83 rfl ?_
            refine zk_bast hx hb hK hP hD hS 4 2 rfl rfl (by omega) (by omega) d_Mo_make_87 (fun H locs hP hD hS => ?_)
            have hP : va_P D vwCl [(o, .inr (9, [(ϕ 0), (ϕ 1), .ref a_given, .ref a_holes, (ϕ 4), (ϕ 5), (ϕ 6), (ϕ 7), (ϕ 8), (ϕ 9), (ϕ 10), (ϕ 11), (ϕ 12), (ϕ 13), (ϕ 14), (ϕ 15), (ϕ 16), (ϕ 17), (ϕ 18), (ϕ 19), (ϕ 20), (ϕ 21), (ϕ 22), (ϕ 23), .int (nI nn), .ref a_value, .ref a_hole, .ref a_first, .ref a_second, .ref a_list, (ϕ 30), (ϕ 31), (ϕ 32), (ϕ 33), (ϕ 34), (ϕ 35), (ϕ 36), (ϕ 37), (ϕ 38), (ϕ 39), (ϕ 40), (ϕ 41), (ϕ 42), (ϕ 43)])), (a_given, .inl (cI, 144, .inl gv)), (a_holes, .inl (cI, 48, .inl ho)), (a_value, .inl (cI, 540, .inl (mPut vl (9 * nn) (fun c => mVl ho gv a0 none c) c1))), (a_hole, .inl (cZ, 540, .inl (zZ (va_up (mPut hl_ (9 * nn) (fun c => !mIs ho a0 none c) c1) (9 * nn + c1) (!mIs ho a0 none c1))))), (a_first, .inl (cI, 60, .inl (zN fi))), (a_second, .inl (cI, 60, .inl se)), (a_list, .inl (cI, 60, .inl (zN li)))] H := hP
            have hD : va_D A [(o, .inr (9, [(ϕ 0), (ϕ 1), .ref a_given, .ref a_holes, (ϕ 4), (ϕ 5), (ϕ 6), (ϕ 7), (ϕ 8), (ϕ 9), (ϕ 10), (ϕ 11), (ϕ 12), (ϕ 13), (ϕ 14), (ϕ 15), (ϕ 16), (ϕ 17), (ϕ 18), (ϕ 19), (ϕ 20), (ϕ 21), (ϕ 22), (ϕ 23), .int (nI nn), .ref a_value, .ref a_hole, .ref a_first, .ref a_second, .ref a_list, (ϕ 30), (ϕ 31), (ϕ 32), (ϕ 33), (ϕ 34), (ϕ 35), (ϕ 36), (ϕ 37), (ϕ 38), (ϕ 39), (ϕ 40), (ϕ 41), (ϕ 42), (ϕ 43)])), (a_given, .inl (cI, 144, .inl gv)), (a_holes, .inl (cI, 48, .inl ho)), (a_value, .inl (cI, 540, .inl (mPut vl (9 * nn) (fun c => mVl ho gv a0 none c) c1))), (a_hole, .inl (cZ, 540, .inl (zZ (va_up (mPut hl_ (9 * nn) (fun c => !mIs ho a0 none c) c1) (9 * nn + c1) (!mIs ho a0 none c1))))), (a_first, .inl (cI, 60, .inl (zN fi))), (a_second, .inl (cI, 60, .inl se)), (a_list, .inl (cI, 60, .inl (zN li)))] := hD
            refine lv_aload_n hx hb d_Mo_make_88 rfl (lv_at hl 2 rfl) ?_
            refine va_get (C := R_Mo) (T := F_Mo) (N := 44) hx hb hts (fun w h => List.mem_cons_of_mem _ (hin_Mo w h)) hown hK hP 0 rfl rfl 25 (by decide) (hts _ (List.mem_cons_of_mem _ fl_Mo_53)) (fun _ h => h) rfl d_Mo_make_89 ?_
            refine lv_bipush (v := nI 9) hx hb d_Mo_make_92 (by decide) ?_
            refine lv_aload_n hx hb d_Mo_make_94 rfl (lv_at hl 2 rfl) ?_
            refine va_get (C := R_Mo) (T := F_Mo) (N := 44) hx hb hts (fun w h => List.mem_cons_of_mem _ (hin_Mo w h)) hown hK hP 0 rfl rfl 24 (by decide) (hts _ (List.mem_cons_of_mem _ fl_Mo_152)) (fun _ h => h) rfl d_Mo_make_95 ?_
            refine lv_imul hx hb d_Mo_make_98 ?_
            refine zk_topi (show ((nI 9) * (nI nn)) = nI (9 * nn) from pk_mul 9 nn) ?_
            refine lv_iload_n hx hb d_Mo_make_99 rfl (lv_at hl 5 rfl) ?_
            refine lv_iadd hx hb d_Mo_make_100 ?_
            refine zk_topi (show ((nI (9 * nn)) + (nI c1)) = nI (9 * nn + c1) from nI_add (9 * nn) c1) ?_
            refine lv_iload hx hb d_Mo_make_101 (lv_at hl 0 rfl) ?_
            refine zk_ifb_ne (tgt := 110) hx hb d_Mo_make_103 rfl (fun h103 => ?_) (fun h103 => ?_)
            · skip
              refine lv_iload hx hb d_Mo_make_110 (lv_at hl 1 rfl) ?_
              refine zk_ifb_eq (tgt := 125) hx hb d_Mo_make_112 rfl (fun hq => absurd hq (by decide)) (fun _ => ?_)
              refine lv_aload_n hx hb d_Mo_make_115 rfl (lv_at hl 2 rfl) ?_
              refine lv_iconst (v := nI 0) hx hb d_Mo_make_116 (by decide) ?_
              refine lv_iload_n hx hb d_Mo_make_117 rfl (lv_at hl 3 rfl) ?_
              refine lv_iload_n hx hb d_Mo_make_118 rfl (lv_at hl 5 rfl) ?_
              have hPc := hP.sub (ws' := [(o, .inr (9, [(ϕ 0), (ϕ 1), .ref a_given, .ref a_holes, (ϕ 4), (ϕ 5), (ϕ 6), (ϕ 7), (ϕ 8), (ϕ 9), (ϕ 10), (ϕ 11), (ϕ 12), (ϕ 13), (ϕ 14), (ϕ 15), (ϕ 16), (ϕ 17), (ϕ 18), (ϕ 19), (ϕ 20), (ϕ 21), (ϕ 22), (ϕ 23), .int (nI nn), .ref a_value, .ref a_hole, .ref a_first, .ref a_second, .ref a_list, (ϕ 30), (ϕ 31), (ϕ 32), (ϕ 33), (ϕ 34), (ϕ 35), (ϕ 36), (ϕ 37), (ϕ 38), (ϕ 39), (ϕ 40), (ϕ 41), (ϕ 42), (ϕ 43)])), (a_given, .inl (cI, 144, .inl gv))]) [0, 1] rfl
              refine zk_ri (va_runV (As := [.int (nI 0), .int (nI a0), .int (nI c1)]) (rest := [.int (nI (9 * nn + c1)), .ref a_value]) ⟨hx, hb, hml, hown, hts⟩ (c_Mo_givenValue l D cI cL cZ cW cR o (vp_V [(ϕ 0), (ϕ 1), .ref a_given, .ref a_holes, (ϕ 4), (ϕ 5), (ϕ 6), (ϕ 7), (ϕ 8), (ϕ 9), (ϕ 10), (ϕ 11), (ϕ 12), (ϕ 13), (ϕ 14), (ϕ 15), (ϕ 16), (ϕ 17), (ϕ 18), (ϕ 19), (ϕ 20), (ϕ 21), (ϕ 22), (ϕ 23), .int (nI nn), .ref a_value, .ref a_hole, .ref a_first, .ref a_second, .ref a_list, (ϕ 30), (ϕ 31), (ϕ 32), (ϕ 33), (ϕ 34), (ϕ 35), (ϕ 36), (ϕ 37), (ϕ 38), (ϕ 39), (ϕ 40), (ϕ 41), (ϕ 42), (ϕ 43)]) a_given gv 0 a0 c1 (by decide) (by omega) (by omega)) (cwV 3 hts (zk_gV (fun _ h => List.mem_cons_of_mem _ h) ml_Mo_115 im_Mo_givenValue se_Mo_givenValue in_Mo co_Mo_givenValue) rfl rfl rfl ⟨rfl, hd_Mo_givenValue⟩ ⟨Nat.le_of_ble_eq_true rfl, Nat.le_of_ble_eq_true rfl⟩) (zk_vr (q0 := 0) hN hK hPc rfl rfl) rfl rfl hl.1 rfl (lv_room (Nat.le_of_ble_eq_true rfl)) d_Mo_make_119 ⟨Nat.zero_le _, Nat.zero_le _⟩) ?_
              refine zk_topi (show (gv (72 * 0 + 3 * a0 + c1)) = mVl ho gv a0 none c1 from by unfold mVl; rw [← his]; first | rfl | (rw [h103]; first | rfl | exact (if_pos h10).symm | exact (if_neg (by omega)).symm) | (rw [if_pos rfl]; first | exact (if_pos h10).symm | exact (if_neg (by omega)).symm)) ?_
              refine lv_goto (tgt := 134) hx hb d_Mo_make_122 rfl ?_
              refine zk_iast hx hb hK hP hD hS 3 0 rfl rfl (by omega) (by omega) d_Mo_make_134 (fun H locs hP hD hS => ?_)
              have hP : va_P D vwCl [(o, .inr (9, [(ϕ 0), (ϕ 1), .ref a_given, .ref a_holes, (ϕ 4), (ϕ 5), (ϕ 6), (ϕ 7), (ϕ 8), (ϕ 9), (ϕ 10), (ϕ 11), (ϕ 12), (ϕ 13), (ϕ 14), (ϕ 15), (ϕ 16), (ϕ 17), (ϕ 18), (ϕ 19), (ϕ 20), (ϕ 21), (ϕ 22), (ϕ 23), .int (nI nn), .ref a_value, .ref a_hole, .ref a_first, .ref a_second, .ref a_list, (ϕ 30), (ϕ 31), (ϕ 32), (ϕ 33), (ϕ 34), (ϕ 35), (ϕ 36), (ϕ 37), (ϕ 38), (ϕ 39), (ϕ 40), (ϕ 41), (ϕ 42), (ϕ 43)])), (a_given, .inl (cI, 144, .inl gv)), (a_holes, .inl (cI, 48, .inl ho)), (a_value, .inl (cI, 540, .inl (upd (mPut vl (9 * nn) (fun c => mVl ho gv a0 none c) c1) (9 * nn + c1) (mVl ho gv a0 none c1)))), (a_hole, .inl (cZ, 540, .inl (zZ (va_up (mPut hl_ (9 * nn) (fun c => !mIs ho a0 none c) c1) (9 * nn + c1) (!mIs ho a0 none c1))))), (a_first, .inl (cI, 60, .inl (zN fi))), (a_second, .inl (cI, 60, .inl se)), (a_list, .inl (cI, 60, .inl (zN li)))] H := hP
              have hD : va_D A [(o, .inr (9, [(ϕ 0), (ϕ 1), .ref a_given, .ref a_holes, (ϕ 4), (ϕ 5), (ϕ 6), (ϕ 7), (ϕ 8), (ϕ 9), (ϕ 10), (ϕ 11), (ϕ 12), (ϕ 13), (ϕ 14), (ϕ 15), (ϕ 16), (ϕ 17), (ϕ 18), (ϕ 19), (ϕ 20), (ϕ 21), (ϕ 22), (ϕ 23), .int (nI nn), .ref a_value, .ref a_hole, .ref a_first, .ref a_second, .ref a_list, (ϕ 30), (ϕ 31), (ϕ 32), (ϕ 33), (ϕ 34), (ϕ 35), (ϕ 36), (ϕ 37), (ϕ 38), (ϕ 39), (ϕ 40), (ϕ 41), (ϕ 42), (ϕ 43)])), (a_given, .inl (cI, 144, .inl gv)), (a_holes, .inl (cI, 48, .inl ho)), (a_value, .inl (cI, 540, .inl (upd (mPut vl (9 * nn) (fun c => mVl ho gv a0 none c) c1) (9 * nn + c1) (mVl ho gv a0 none c1)))), (a_hole, .inl (cZ, 540, .inl (zZ (va_up (mPut hl_ (9 * nn) (fun c => !mIs ho a0 none c) c1) (9 * nn + c1) (!mIs ho a0 none c1))))), (a_first, .inl (cI, 60, .inl (zN fi))), (a_second, .inl (cI, 60, .inl se)), (a_list, .inl (cI, 60, .inl (zN li)))] := hD
              refine lv_iinc (k := 5) (v := nI (c1 + 1)) (lv' := [(3, .int (nI (c1 + 1))), (5, .int (zb (hBit (ho (24 * 0 + a0)) c1))), (4, .int (zb true)), (0, .ref o), (1, .int (nI a0)), (2, .int (-1))]) hx hb d_Mo_make_135 hl rfl (nI_add c1 1) (by decide) rfl (fun ls hl => ?_)
              refine lv_goto (tgt := 2) hx hb d_Mo_make_138 rfl ?_
              have hP : va_P D vwCl [(o, .inr (9, [(ϕ 0), (ϕ 1), .ref a_given, .ref a_holes, (ϕ 4), (ϕ 5), (ϕ 6), (ϕ 7), (ϕ 8), (ϕ 9), (ϕ 10), (ϕ 11), (ϕ 12), (ϕ 13), (ϕ 14), (ϕ 15), (ϕ 16), (ϕ 17), (ϕ 18), (ϕ 19), (ϕ 20), (ϕ 21), (ϕ 22), (ϕ 23), .int (nI nn), .ref a_value, .ref a_hole, .ref a_first, .ref a_second, .ref a_list, (ϕ 30), (ϕ 31), (ϕ 32), (ϕ 33), (ϕ 34), (ϕ 35), (ϕ 36), (ϕ 37), (ϕ 38), (ϕ 39), (ϕ 40), (ϕ 41), (ϕ 42), (ϕ 43)])), (a_given, .inl (cI, 144, .inl gv)), (a_holes, .inl (cI, 48, .inl ho)), (a_value, .inl (cI, 540, .inl (mPut vl (9 * nn) (fun c => mVl ho gv a0 none c) (c1 + 1)))), (a_hole, .inl (cZ, 540, .inl (zZ (mPut hl_ (9 * nn) (fun c => !mIs ho a0 none c) (c1 + 1))))), (a_first, .inl (cI, 60, .inl (zN fi))), (a_second, .inl (cI, 60, .inl se)), (a_list, .inl (cI, 60, .inl (zN li)))] H := by rw [← mPut_i (f := vl), ← mPut_s (f := hl_)]; exact hP
              have hD : va_D A [(o, .inr (9, [(ϕ 0), (ϕ 1), .ref a_given, .ref a_holes, (ϕ 4), (ϕ 5), (ϕ 6), (ϕ 7), (ϕ 8), (ϕ 9), (ϕ 10), (ϕ 11), (ϕ 12), (ϕ 13), (ϕ 14), (ϕ 15), (ϕ 16), (ϕ 17), (ϕ 18), (ϕ 19), (ϕ 20), (ϕ 21), (ϕ 22), (ϕ 23), .int (nI nn), .ref a_value, .ref a_hole, .ref a_first, .ref a_second, .ref a_list, (ϕ 30), (ϕ 31), (ϕ 32), (ϕ 33), (ϕ 34), (ϕ 35), (ϕ 36), (ϕ 37), (ϕ 38), (ϕ 39), (ϕ 40), (ϕ 41), (ϕ 42), (ϕ 43)])), (a_given, .inl (cI, 144, .inl gv)), (a_holes, .inl (cI, 48, .inl ho)), (a_value, .inl (cI, 540, .inl (mPut vl (9 * nn) (fun c => mVl ho gv a0 none c) (c1 + 1)))), (a_hole, .inl (cZ, 540, .inl (zZ (mPut hl_ (9 * nn) (fun c => !mIs ho a0 none c) (c1 + 1))))), (a_first, .inl (cI, 60, .inl (zN fi))), (a_second, .inl (cI, 60, .inl se)), (a_list, .inl (cI, 60, .inl (zN li)))] := by rw [← mPut_i (f := vl), ← mPut_s (f := hl_)]; exact hD
              exact ih2 (c1 + 1) (by omega) (by omega) ls _ _ (lv_sub hl [3, 4, 5, 0] rfl) hP hD hS
            · skip
              refine lv_iconst (v := nI 0) hx hb d_Mo_make_106 (by decide) ?_
              refine zk_topi (show (nI 0) = mVl ho gv a0 none c1 from by unfold mVl; rw [← his]; first | rfl | (rw [h103]; first | rfl | exact (if_pos h10).symm | exact (if_neg (by omega)).symm) | (rw [if_pos rfl]; first | exact (if_pos h10).symm | exact (if_neg (by omega)).symm)) ?_
              refine lv_goto (tgt := 134) hx hb d_Mo_make_107 rfl ?_
              refine zk_iast hx hb hK hP hD hS 3 0 rfl rfl (by omega) (by omega) d_Mo_make_134 (fun H locs hP hD hS => ?_)
              have hP : va_P D vwCl [(o, .inr (9, [(ϕ 0), (ϕ 1), .ref a_given, .ref a_holes, (ϕ 4), (ϕ 5), (ϕ 6), (ϕ 7), (ϕ 8), (ϕ 9), (ϕ 10), (ϕ 11), (ϕ 12), (ϕ 13), (ϕ 14), (ϕ 15), (ϕ 16), (ϕ 17), (ϕ 18), (ϕ 19), (ϕ 20), (ϕ 21), (ϕ 22), (ϕ 23), .int (nI nn), .ref a_value, .ref a_hole, .ref a_first, .ref a_second, .ref a_list, (ϕ 30), (ϕ 31), (ϕ 32), (ϕ 33), (ϕ 34), (ϕ 35), (ϕ 36), (ϕ 37), (ϕ 38), (ϕ 39), (ϕ 40), (ϕ 41), (ϕ 42), (ϕ 43)])), (a_given, .inl (cI, 144, .inl gv)), (a_holes, .inl (cI, 48, .inl ho)), (a_value, .inl (cI, 540, .inl (upd (mPut vl (9 * nn) (fun c => mVl ho gv a0 none c) c1) (9 * nn + c1) (mVl ho gv a0 none c1)))), (a_hole, .inl (cZ, 540, .inl (zZ (va_up (mPut hl_ (9 * nn) (fun c => !mIs ho a0 none c) c1) (9 * nn + c1) (!mIs ho a0 none c1))))), (a_first, .inl (cI, 60, .inl (zN fi))), (a_second, .inl (cI, 60, .inl se)), (a_list, .inl (cI, 60, .inl (zN li)))] H := hP
              have hD : va_D A [(o, .inr (9, [(ϕ 0), (ϕ 1), .ref a_given, .ref a_holes, (ϕ 4), (ϕ 5), (ϕ 6), (ϕ 7), (ϕ 8), (ϕ 9), (ϕ 10), (ϕ 11), (ϕ 12), (ϕ 13), (ϕ 14), (ϕ 15), (ϕ 16), (ϕ 17), (ϕ 18), (ϕ 19), (ϕ 20), (ϕ 21), (ϕ 22), (ϕ 23), .int (nI nn), .ref a_value, .ref a_hole, .ref a_first, .ref a_second, .ref a_list, (ϕ 30), (ϕ 31), (ϕ 32), (ϕ 33), (ϕ 34), (ϕ 35), (ϕ 36), (ϕ 37), (ϕ 38), (ϕ 39), (ϕ 40), (ϕ 41), (ϕ 42), (ϕ 43)])), (a_given, .inl (cI, 144, .inl gv)), (a_holes, .inl (cI, 48, .inl ho)), (a_value, .inl (cI, 540, .inl (upd (mPut vl (9 * nn) (fun c => mVl ho gv a0 none c) c1) (9 * nn + c1) (mVl ho gv a0 none c1)))), (a_hole, .inl (cZ, 540, .inl (zZ (va_up (mPut hl_ (9 * nn) (fun c => !mIs ho a0 none c) c1) (9 * nn + c1) (!mIs ho a0 none c1))))), (a_first, .inl (cI, 60, .inl (zN fi))), (a_second, .inl (cI, 60, .inl se)), (a_list, .inl (cI, 60, .inl (zN li)))] := hD
              refine lv_iinc (k := 5) (v := nI (c1 + 1)) (lv' := [(3, .int (nI (c1 + 1))), (5, .int (zb (hBit (ho (24 * 0 + a0)) c1))), (4, .int (zb true)), (0, .ref o), (1, .int (nI a0)), (2, .int (-1))]) hx hb d_Mo_make_135 hl rfl (nI_add c1 1) (by decide) rfl (fun ls hl => ?_)
              refine lv_goto (tgt := 2) hx hb d_Mo_make_138 rfl ?_
              have hP : va_P D vwCl [(o, .inr (9, [(ϕ 0), (ϕ 1), .ref a_given, .ref a_holes, (ϕ 4), (ϕ 5), (ϕ 6), (ϕ 7), (ϕ 8), (ϕ 9), (ϕ 10), (ϕ 11), (ϕ 12), (ϕ 13), (ϕ 14), (ϕ 15), (ϕ 16), (ϕ 17), (ϕ 18), (ϕ 19), (ϕ 20), (ϕ 21), (ϕ 22), (ϕ 23), .int (nI nn), .ref a_value, .ref a_hole, .ref a_first, .ref a_second, .ref a_list, (ϕ 30), (ϕ 31), (ϕ 32), (ϕ 33), (ϕ 34), (ϕ 35), (ϕ 36), (ϕ 37), (ϕ 38), (ϕ 39), (ϕ 40), (ϕ 41), (ϕ 42), (ϕ 43)])), (a_given, .inl (cI, 144, .inl gv)), (a_holes, .inl (cI, 48, .inl ho)), (a_value, .inl (cI, 540, .inl (mPut vl (9 * nn) (fun c => mVl ho gv a0 none c) (c1 + 1)))), (a_hole, .inl (cZ, 540, .inl (zZ (mPut hl_ (9 * nn) (fun c => !mIs ho a0 none c) (c1 + 1))))), (a_first, .inl (cI, 60, .inl (zN fi))), (a_second, .inl (cI, 60, .inl se)), (a_list, .inl (cI, 60, .inl (zN li)))] H := by rw [← mPut_i (f := vl), ← mPut_s (f := hl_)]; exact hP
              have hD : va_D A [(o, .inr (9, [(ϕ 0), (ϕ 1), .ref a_given, .ref a_holes, (ϕ 4), (ϕ 5), (ϕ 6), (ϕ 7), (ϕ 8), (ϕ 9), (ϕ 10), (ϕ 11), (ϕ 12), (ϕ 13), (ϕ 14), (ϕ 15), (ϕ 16), (ϕ 17), (ϕ 18), (ϕ 19), (ϕ 20), (ϕ 21), (ϕ 22), (ϕ 23), .int (nI nn), .ref a_value, .ref a_hole, .ref a_first, .ref a_second, .ref a_list, (ϕ 30), (ϕ 31), (ϕ 32), (ϕ 33), (ϕ 34), (ϕ 35), (ϕ 36), (ϕ 37), (ϕ 38), (ϕ 39), (ϕ 40), (ϕ 41), (ϕ 42), (ϕ 43)])), (a_given, .inl (cI, 144, .inl gv)), (a_holes, .inl (cI, 48, .inl ho)), (a_value, .inl (cI, 540, .inl (mPut vl (9 * nn) (fun c => mVl ho gv a0 none c) (c1 + 1)))), (a_hole, .inl (cZ, 540, .inl (zZ (mPut hl_ (9 * nn) (fun c => !mIs ho a0 none c) (c1 + 1))))), (a_first, .inl (cI, 60, .inl (zN fi))), (a_second, .inl (cI, 60, .inl se)), (a_list, .inl (cI, 60, .inl (zN li)))] := by rw [← mPut_i (f := vl), ← mPut_s (f := hl_)]; exact hD
              exact ih2 (c1 + 1) (by omega) (by omega) ls _ _ (lv_sub hl [3, 4, 5, 0] rfl) hP hD hS
  have hP : va_P D vwCl [(o, .inr (9, [(ϕ 0), (ϕ 1), .ref a_given, .ref a_holes, (ϕ 4), (ϕ 5), (ϕ 6), (ϕ 7), (ϕ 8), (ϕ 9), (ϕ 10), (ϕ 11), (ϕ 12), (ϕ 13), (ϕ 14), (ϕ 15), (ϕ 16), (ϕ 17), (ϕ 18), (ϕ 19), (ϕ 20), (ϕ 21), (ϕ 22), (ϕ 23), .int (nI nn), .ref a_value, .ref a_hole, .ref a_first, .ref a_second, .ref a_list, (ϕ 30), (ϕ 31), (ϕ 32), (ϕ 33), (ϕ 34), (ϕ 35), (ϕ 36), (ϕ 37), (ϕ 38), (ϕ 39), (ϕ 40), (ϕ 41), (ϕ 42), (ϕ 43)])), (a_given, .inl (cI, 144, .inl gv)), (a_holes, .inl (cI, 48, .inl ho)), (a_value, .inl (cI, 540, .inl (mPut vl (9 * nn) (fun c => mVl ho gv a0 none c) 0))), (a_hole, .inl (cZ, 540, .inl (zZ (mPut hl_ (9 * nn) (fun c => !mIs ho a0 none c) 0)))), (a_first, .inl (cI, 60, .inl (zN fi))), (a_second, .inl (cI, 60, .inl se)), (a_list, .inl (cI, 60, .inl (zN li)))] s.heap := by rw [mPut_0, mPut_0]; exact hP
  have hD : va_D A [(o, .inr (9, [(ϕ 0), (ϕ 1), .ref a_given, .ref a_holes, (ϕ 4), (ϕ 5), (ϕ 6), (ϕ 7), (ϕ 8), (ϕ 9), (ϕ 10), (ϕ 11), (ϕ 12), (ϕ 13), (ϕ 14), (ϕ 15), (ϕ 16), (ϕ 17), (ϕ 18), (ϕ 19), (ϕ 20), (ϕ 21), (ϕ 22), (ϕ 23), .int (nI nn), .ref a_value, .ref a_hole, .ref a_first, .ref a_second, .ref a_list, (ϕ 30), (ϕ 31), (ϕ 32), (ϕ 33), (ϕ 34), (ϕ 35), (ϕ 36), (ϕ 37), (ϕ 38), (ϕ 39), (ϕ 40), (ϕ 41), (ϕ 42), (ϕ 43)])), (a_given, .inl (cI, 144, .inl gv)), (a_holes, .inl (cI, 48, .inl ho)), (a_value, .inl (cI, 540, .inl (mPut vl (9 * nn) (fun c => mVl ho gv a0 none c) 0))), (a_hole, .inl (cZ, 540, .inl (zZ (mPut hl_ (9 * nn) (fun c => !mIs ho a0 none c) 0)))), (a_first, .inl (cI, 60, .inl (zN fi))), (a_second, .inl (cI, 60, .inl se)), (a_list, .inl (cI, 60, .inl (zN li)))] := by rw [mPut_0, mPut_0]; exact hD
  exact lb2 _ 0 (Nat.zero_le _) (Nat.lt_succ_self _) ls _ _ (lv_sub hl [1, 2, 3, 0] rfl) hP hD hS
set_option maxHeartbeats 4000000 in
set_option maxRecDepth 100000 in
theorem c_Mo_make_s (l : Launch) (D : va_G) (cI cL cZ cW cR : ClassId) (sz : Nat) (o : Nat) (ϕ : Nat → Value) (a_given a_holes a_value a_hole a_first a_second a_list : Nat) (nn : Nat) (gv : Nat → Int32) (ho : Nat → Int32) (vl : Nat → Int32) (hl_ : Nat → Bool) (fi : Nat → Nat) (se : Nat → Int32) (li : Nat → Nat) (a0 : Nat) (ha0 : a0 < 24) (hnn : nn < 60) (b0 : Nat) (hb0 : b0 < 24) : Met l y_Mo_make ws_Mo_make rm1_30 (zPw D vwCl (zT cI cL cZ cW cR) [(o, .inr (9, [(ϕ 0), (ϕ 1), .ref a_given, .ref a_holes, (ϕ 4), (ϕ 5), (ϕ 6), (ϕ 7), (ϕ 8), (ϕ 9), (ϕ 10), (ϕ 11), (ϕ 12), (ϕ 13), (ϕ 14), (ϕ 15), (ϕ 16), (ϕ 17), (ϕ 18), (ϕ 19), (ϕ 20), (ϕ 21), (ϕ 22), (ϕ 23), .int (nI nn), .ref a_value, .ref a_hole, .ref a_first, .ref a_second, .ref a_list, (ϕ 30), (ϕ 31), (ϕ 32), (ϕ 33), (ϕ 34), (ϕ 35), (ϕ 36), (ϕ 37), (ϕ 38), (ϕ 39), (ϕ 40), (ϕ 41), (ϕ 42), (ϕ 43)])), (a_given, .inl (cI, 144, .inl gv)), (a_holes, .inl (cI, 48, .inl ho)), (a_value, .inl (cI, 540, .inl vl)), (a_hole, .inl (cZ, 540, .inl (zZ hl_))), (a_first, .inl (cI, 60, .inl (zN fi))), (a_second, .inl (cI, 60, .inl se)), (a_list, .inl (cI, 60, .inl (zN li)))] sz [.ref o, .int (nI a0), .int (nI b0)]) (zQv D vwCl (zT cI cL cZ cW cR) [(o, .inr (9, [(ϕ 0), (ϕ 1), .ref a_given, .ref a_holes, (ϕ 4), (ϕ 5), (ϕ 6), (ϕ 7), (ϕ 8), (ϕ 9), (ϕ 10), (ϕ 11), (ϕ 12), (ϕ 13), (ϕ 14), (ϕ 15), (ϕ 16), (ϕ 17), (ϕ 18), (ϕ 19), (ϕ 20), (ϕ 21), (ϕ 22), (ϕ 23), .int (nI nn), .ref a_value, .ref a_hole, .ref a_first, .ref a_second, .ref a_list, (ϕ 30), (ϕ 31), (ϕ 32), (ϕ 33), (ϕ 34), (ϕ 35), (ϕ 36), (ϕ 37), (ϕ 38), (ϕ 39), (ϕ 40), (ϕ 41), (ϕ 42), (ϕ 43)])), (a_given, .inl (cI, 144, .inl gv)), (a_holes, .inl (cI, 48, .inl ho)), (a_value, .inl (cI, 540, .inl vl)), (a_hole, .inl (cZ, 540, .inl (zZ hl_))), (a_first, .inl (cI, 60, .inl (zN fi))), (a_second, .inl (cI, 60, .inl se)), (a_list, .inl (cI, 60, .inl (zN li)))] sz (fun _ : Unit => True) (fun _ => [(o, .inr (9, [(ϕ 0), (ϕ 1), .ref a_given, .ref a_holes, (ϕ 4), (ϕ 5), (ϕ 6), (ϕ 7), (ϕ 8), (ϕ 9), (ϕ 10), (ϕ 11), (ϕ 12), (ϕ 13), (ϕ 14), (ϕ 15), (ϕ 16), (ϕ 17), (ϕ 18), (ϕ 19), (ϕ 20), (ϕ 21), (ϕ 22), (ϕ 23), .int (nI (nn + 1)), .ref a_value, .ref a_hole, .ref a_first, .ref a_second, .ref a_list, (ϕ 30), (ϕ 31), (ϕ 32), (ϕ 33), (ϕ 34), (ϕ 35), (ϕ 36), (ϕ 37), (ϕ 38), (ϕ 39), (ϕ 40), (ϕ 41), (ϕ 42), (ϕ 43)])), (a_given, .inl (cI, 144, .inl gv)), (a_holes, .inl (cI, 48, .inl ho)), (a_value, .inl (cI, 540, .inl (mPut vl (9 * nn) (fun c => mVl ho gv a0 (some b0) c) 9))), (a_hole, .inl (cZ, 540, .inl (zZ (mPut hl_ (9 * nn) (fun c => !mIs ho a0 (some b0) c) 9)))), (a_first, .inl (cI, 60, .inl (zN (va_up fi nn a0)))), (a_second, .inl (cI, 60, .inl (upd se nn (nI b0)))), (a_list, .inl (cI, 60, .inl (zN (va_up li nn nn))))])) 0 0 (va_A [(o, .inr (9, [(ϕ 0), (ϕ 1), .ref a_given, .ref a_holes, (ϕ 4), (ϕ 5), (ϕ 6), (ϕ 7), (ϕ 8), (ϕ 9), (ϕ 10), (ϕ 11), (ϕ 12), (ϕ 13), (ϕ 14), (ϕ 15), (ϕ 16), (ϕ 17), (ϕ 18), (ϕ 19), (ϕ 20), (ϕ 21), (ϕ 22), (ϕ 23), .int (nI nn), .ref a_value, .ref a_hole, .ref a_first, .ref a_second, .ref a_list, (ϕ 30), (ϕ 31), (ϕ 32), (ϕ 33), (ϕ 34), (ϕ 35), (ϕ 36), (ϕ 37), (ϕ 38), (ϕ 39), (ϕ 40), (ϕ 41), (ϕ 42), (ϕ 43)])), (a_given, .inl (cI, 144, .inl gv)), (a_holes, .inl (cI, 48, .inl ho)), (a_value, .inl (cI, 540, .inl vl)), (a_hole, .inl (cZ, 540, .inl (zZ hl_))), (a_first, .inl (cI, 60, .inl (zN fi))), (a_second, .inl (cI, 60, .inl se)), (a_list, .inl (cI, 60, .inl (zN li)))] sz) := by
  refine zk_enterW (cc := b_Mo_make) (maxL := 6) (ret := none) (by decide) rfl (Nat.le_of_ble_eq_true rfl) ?_
  intro p e s m args below meth c ls Q hx hb hml hr hlk hown hts hP hK hN hl hin hsz A hAe hA hD hS hQ
  subst hsz
  have hl : lv_has ls 6 [(0, .ref o), (1, .int (nI a0)), (2, .int (nI b0))] := hl
  refine lv_iconst (v := nI 0) hx hb d_Mo_make_0 (by decide) ?_
  refine lv_istore_n (lv' := [(3, .int (nI 0)), (0, .ref o), (1, .int (nI a0)), (2, .int (nI b0))]) hx hb d_Mo_make_1 rfl hl (by decide) rfl (fun ls hl => ?_)
  have lb2 : ∀ (fuel2 : Nat) (c1 : Nat), (c1 ≤ 9) → 9 - c1 < fuel2 → ∀ (ls : Array Slot) (H : Heap) (locs : List Loc), lv_has ls 6 [(0, .ref o), (1, .int (nI a0)), (2, .int (nI b0)), (3, .int (nI c1))] → va_P D vwCl [(o, .inr (9, [(ϕ 0), (ϕ 1), .ref a_given, .ref a_holes, (ϕ 4), (ϕ 5), (ϕ 6), (ϕ 7), (ϕ 8), (ϕ 9), (ϕ 10), (ϕ 11), (ϕ 12), (ϕ 13), (ϕ 14), (ϕ 15), (ϕ 16), (ϕ 17), (ϕ 18), (ϕ 19), (ϕ 20), (ϕ 21), (ϕ 22), (ϕ 23), .int (nI nn), .ref a_value, .ref a_hole, .ref a_first, .ref a_second, .ref a_list, (ϕ 30), (ϕ 31), (ϕ 32), (ϕ 33), (ϕ 34), (ϕ 35), (ϕ 36), (ϕ 37), (ϕ 38), (ϕ 39), (ϕ 40), (ϕ 41), (ϕ 42), (ϕ 43)])), (a_given, .inl (cI, 144, .inl gv)), (a_holes, .inl (cI, 48, .inl ho)), (a_value, .inl (cI, 540, .inl (mPut vl (9 * nn) (fun c => mVl ho gv a0 (some b0) c) c1))), (a_hole, .inl (cZ, 540, .inl (zZ (mPut hl_ (9 * nn) (fun c => !mIs ho a0 (some b0) c) c1)))), (a_first, .inl (cI, 60, .inl (zN fi))), (a_second, .inl (cI, 60, .inl se)), (a_list, .inl (cI, 60, .inl (zN li)))] H → va_D A [(o, .inr (9, [(ϕ 0), (ϕ 1), .ref a_given, .ref a_holes, (ϕ 4), (ϕ 5), (ϕ 6), (ϕ 7), (ϕ 8), (ϕ 9), (ϕ 10), (ϕ 11), (ϕ 12), (ϕ 13), (ϕ 14), (ϕ 15), (ϕ 16), (ϕ 17), (ϕ 18), (ϕ 19), (ϕ 20), (ϕ 21), (ϕ 22), (ϕ 23), .int (nI nn), .ref a_value, .ref a_hole, .ref a_first, .ref a_second, .ref a_list, (ϕ 30), (ϕ 31), (ϕ 32), (ϕ 33), (ϕ 34), (ϕ 35), (ϕ 36), (ϕ 37), (ϕ 38), (ϕ 39), (ϕ 40), (ϕ 41), (ϕ 42), (ϕ 43)])), (a_given, .inl (cI, 144, .inl gv)), (a_holes, .inl (cI, 48, .inl ho)), (a_value, .inl (cI, 540, .inl (mPut vl (9 * nn) (fun c => mVl ho gv a0 (some b0) c) c1))), (a_hole, .inl (cZ, 540, .inl (zZ (mPut hl_ (9 * nn) (fun c => !mIs ho a0 (some b0) c) c1)))), (a_first, .inl (cI, 60, .inl (zN fi))), (a_second, .inl (cI, 60, .inl se)), (a_list, .inl (cI, 60, .inl (zN li)))] → va_S A s.heap H locs → W p l e rm1_30 s m args below meth c H locs 0 0 Q (F0 m 2 ls []) := by
    intro fuel2
    induction fuel2 with
    | zero => intro c1 hc1 hfu2; exact absurd hfu2 (Nat.not_lt_zero _)
    | succ fuel2 ih2 =>
      intro c1 hc1 hfu2 ls H locs hl hP hD hS
      refine lv_iload_n hx hb d_Mo_make_2 rfl (lv_at hl 3 rfl) ?_
      refine lv_bipush (v := nI 9) hx hb d_Mo_make_3 (by decide) ?_
      refine zk_icmp_ge (tgt := 141) hx hb d_Mo_make_5 rfl (by omega) (by omega) (fun h5 => ?_) (fun h5 => ?_)
      · skip
        have hc9 : c1 = 9 := by omega
        refine lv_aload_n hx hb d_Mo_make_141 rfl (lv_at hl 0 rfl) ?_
        refine va_get (C := R_Mo) (T := F_Mo) (N := 44) hx hb hts (fun w h => List.mem_cons_of_mem _ (hin_Mo w h)) hown hK hP 0 rfl rfl 27 (by decide) (hts _ (List.mem_cons_of_mem _ fl_Mo_59)) (fun _ h => h) rfl d_Mo_make_142 ?_
        refine lv_aload_n hx hb d_Mo_make_145 rfl (lv_at hl 0 rfl) ?_
        refine va_get (C := R_Mo) (T := F_Mo) (N := 44) hx hb hts (fun w h => List.mem_cons_of_mem _ (hin_Mo w h)) hown hK hP 0 rfl rfl 24 (by decide) (hts _ (List.mem_cons_of_mem _ fl_Mo_152)) (fun _ h => h) rfl d_Mo_make_146 ?_
        refine lv_iload_n hx hb d_Mo_make_149 rfl (lv_at hl 1 rfl) ?_
        refine zk_nast hx hb hK hP hD hS 5 0 rfl rfl (by omega) (by omega) d_Mo_make_150 (fun H locs hP hD hS => ?_)
        have hP : va_P D vwCl [(o, .inr (9, [(ϕ 0), (ϕ 1), .ref a_given, .ref a_holes, (ϕ 4), (ϕ 5), (ϕ 6), (ϕ 7), (ϕ 8), (ϕ 9), (ϕ 10), (ϕ 11), (ϕ 12), (ϕ 13), (ϕ 14), (ϕ 15), (ϕ 16), (ϕ 17), (ϕ 18), (ϕ 19), (ϕ 20), (ϕ 21), (ϕ 22), (ϕ 23), .int (nI nn), .ref a_value, .ref a_hole, .ref a_first, .ref a_second, .ref a_list, (ϕ 30), (ϕ 31), (ϕ 32), (ϕ 33), (ϕ 34), (ϕ 35), (ϕ 36), (ϕ 37), (ϕ 38), (ϕ 39), (ϕ 40), (ϕ 41), (ϕ 42), (ϕ 43)])), (a_given, .inl (cI, 144, .inl gv)), (a_holes, .inl (cI, 48, .inl ho)), (a_value, .inl (cI, 540, .inl (mPut vl (9 * nn) (fun c => mVl ho gv a0 (some b0) c) c1))), (a_hole, .inl (cZ, 540, .inl (zZ (mPut hl_ (9 * nn) (fun c => !mIs ho a0 (some b0) c) c1)))), (a_first, .inl (cI, 60, .inl (zN (va_up fi nn a0)))), (a_second, .inl (cI, 60, .inl se)), (a_list, .inl (cI, 60, .inl (zN li)))] H := hP
        have hD : va_D A [(o, .inr (9, [(ϕ 0), (ϕ 1), .ref a_given, .ref a_holes, (ϕ 4), (ϕ 5), (ϕ 6), (ϕ 7), (ϕ 8), (ϕ 9), (ϕ 10), (ϕ 11), (ϕ 12), (ϕ 13), (ϕ 14), (ϕ 15), (ϕ 16), (ϕ 17), (ϕ 18), (ϕ 19), (ϕ 20), (ϕ 21), (ϕ 22), (ϕ 23), .int (nI nn), .ref a_value, .ref a_hole, .ref a_first, .ref a_second, .ref a_list, (ϕ 30), (ϕ 31), (ϕ 32), (ϕ 33), (ϕ 34), (ϕ 35), (ϕ 36), (ϕ 37), (ϕ 38), (ϕ 39), (ϕ 40), (ϕ 41), (ϕ 42), (ϕ 43)])), (a_given, .inl (cI, 144, .inl gv)), (a_holes, .inl (cI, 48, .inl ho)), (a_value, .inl (cI, 540, .inl (mPut vl (9 * nn) (fun c => mVl ho gv a0 (some b0) c) c1))), (a_hole, .inl (cZ, 540, .inl (zZ (mPut hl_ (9 * nn) (fun c => !mIs ho a0 (some b0) c) c1)))), (a_first, .inl (cI, 60, .inl (zN (va_up fi nn a0)))), (a_second, .inl (cI, 60, .inl se)), (a_list, .inl (cI, 60, .inl (zN li)))] := hD
        refine lv_aload_n hx hb d_Mo_make_151 rfl (lv_at hl 0 rfl) ?_
        refine va_get (C := R_Mo) (T := F_Mo) (N := 44) hx hb hts (fun w h => List.mem_cons_of_mem _ (hin_Mo w h)) hown hK hP 0 rfl rfl 28 (by decide) (hts _ (List.mem_cons_of_mem _ fl_Mo_62)) (fun _ h => h) rfl d_Mo_make_152 ?_
        refine lv_aload_n hx hb d_Mo_make_155 rfl (lv_at hl 0 rfl) ?_
        refine va_get (C := R_Mo) (T := F_Mo) (N := 44) hx hb hts (fun w h => List.mem_cons_of_mem _ (hin_Mo w h)) hown hK hP 0 rfl rfl 24 (by decide) (hts _ (List.mem_cons_of_mem _ fl_Mo_152)) (fun _ h => h) rfl d_Mo_make_156 ?_
        refine lv_iload_n hx hb d_Mo_make_159 rfl (lv_at hl 2 rfl) ?_
        refine zk_iast hx hb hK hP hD hS 6 0 rfl rfl (by omega) (by omega) d_Mo_make_160 (fun H locs hP hD hS => ?_)
        have hP : va_P D vwCl [(o, .inr (9, [(ϕ 0), (ϕ 1), .ref a_given, .ref a_holes, (ϕ 4), (ϕ 5), (ϕ 6), (ϕ 7), (ϕ 8), (ϕ 9), (ϕ 10), (ϕ 11), (ϕ 12), (ϕ 13), (ϕ 14), (ϕ 15), (ϕ 16), (ϕ 17), (ϕ 18), (ϕ 19), (ϕ 20), (ϕ 21), (ϕ 22), (ϕ 23), .int (nI nn), .ref a_value, .ref a_hole, .ref a_first, .ref a_second, .ref a_list, (ϕ 30), (ϕ 31), (ϕ 32), (ϕ 33), (ϕ 34), (ϕ 35), (ϕ 36), (ϕ 37), (ϕ 38), (ϕ 39), (ϕ 40), (ϕ 41), (ϕ 42), (ϕ 43)])), (a_given, .inl (cI, 144, .inl gv)), (a_holes, .inl (cI, 48, .inl ho)), (a_value, .inl (cI, 540, .inl (mPut vl (9 * nn) (fun c => mVl ho gv a0 (some b0) c) c1))), (a_hole, .inl (cZ, 540, .inl (zZ (mPut hl_ (9 * nn) (fun c => !mIs ho a0 (some b0) c) c1)))), (a_first, .inl (cI, 60, .inl (zN (va_up fi nn a0)))), (a_second, .inl (cI, 60, .inl (upd se nn (nI b0)))), (a_list, .inl (cI, 60, .inl (zN li)))] H := hP
        have hD : va_D A [(o, .inr (9, [(ϕ 0), (ϕ 1), .ref a_given, .ref a_holes, (ϕ 4), (ϕ 5), (ϕ 6), (ϕ 7), (ϕ 8), (ϕ 9), (ϕ 10), (ϕ 11), (ϕ 12), (ϕ 13), (ϕ 14), (ϕ 15), (ϕ 16), (ϕ 17), (ϕ 18), (ϕ 19), (ϕ 20), (ϕ 21), (ϕ 22), (ϕ 23), .int (nI nn), .ref a_value, .ref a_hole, .ref a_first, .ref a_second, .ref a_list, (ϕ 30), (ϕ 31), (ϕ 32), (ϕ 33), (ϕ 34), (ϕ 35), (ϕ 36), (ϕ 37), (ϕ 38), (ϕ 39), (ϕ 40), (ϕ 41), (ϕ 42), (ϕ 43)])), (a_given, .inl (cI, 144, .inl gv)), (a_holes, .inl (cI, 48, .inl ho)), (a_value, .inl (cI, 540, .inl (mPut vl (9 * nn) (fun c => mVl ho gv a0 (some b0) c) c1))), (a_hole, .inl (cZ, 540, .inl (zZ (mPut hl_ (9 * nn) (fun c => !mIs ho a0 (some b0) c) c1)))), (a_first, .inl (cI, 60, .inl (zN (va_up fi nn a0)))), (a_second, .inl (cI, 60, .inl (upd se nn (nI b0)))), (a_list, .inl (cI, 60, .inl (zN li)))] := hD
        refine lv_aload_n hx hb d_Mo_make_161 rfl (lv_at hl 0 rfl) ?_
        refine va_get (C := R_Mo) (T := F_Mo) (N := 44) hx hb hts (fun w h => List.mem_cons_of_mem _ (hin_Mo w h)) hown hK hP 0 rfl rfl 29 (by decide) (hts _ (List.mem_cons_of_mem _ fl_Mo_65)) (fun _ h => h) rfl d_Mo_make_162 ?_
        refine lv_aload_n hx hb d_Mo_make_165 rfl (lv_at hl 0 rfl) ?_
        refine va_get (C := R_Mo) (T := F_Mo) (N := 44) hx hb hts (fun w h => List.mem_cons_of_mem _ (hin_Mo w h)) hown hK hP 0 rfl rfl 24 (by decide) (hts _ (List.mem_cons_of_mem _ fl_Mo_152)) (fun _ h => h) rfl d_Mo_make_166 ?_
        refine lv_aload_n hx hb d_Mo_make_169 rfl (lv_at hl 0 rfl) ?_
        refine va_get (C := R_Mo) (T := F_Mo) (N := 44) hx hb hts (fun w h => List.mem_cons_of_mem _ (hin_Mo w h)) hown hK hP 0 rfl rfl 24 (by decide) (hts _ (List.mem_cons_of_mem _ fl_Mo_152)) (fun _ h => h) rfl d_Mo_make_170 ?_
        refine zk_nast hx hb hK hP hD hS 7 0 rfl rfl (by omega) (by omega) d_Mo_make_173 (fun H locs hP hD hS => ?_)
        have hP : va_P D vwCl [(o, .inr (9, [(ϕ 0), (ϕ 1), .ref a_given, .ref a_holes, (ϕ 4), (ϕ 5), (ϕ 6), (ϕ 7), (ϕ 8), (ϕ 9), (ϕ 10), (ϕ 11), (ϕ 12), (ϕ 13), (ϕ 14), (ϕ 15), (ϕ 16), (ϕ 17), (ϕ 18), (ϕ 19), (ϕ 20), (ϕ 21), (ϕ 22), (ϕ 23), .int (nI nn), .ref a_value, .ref a_hole, .ref a_first, .ref a_second, .ref a_list, (ϕ 30), (ϕ 31), (ϕ 32), (ϕ 33), (ϕ 34), (ϕ 35), (ϕ 36), (ϕ 37), (ϕ 38), (ϕ 39), (ϕ 40), (ϕ 41), (ϕ 42), (ϕ 43)])), (a_given, .inl (cI, 144, .inl gv)), (a_holes, .inl (cI, 48, .inl ho)), (a_value, .inl (cI, 540, .inl (mPut vl (9 * nn) (fun c => mVl ho gv a0 (some b0) c) c1))), (a_hole, .inl (cZ, 540, .inl (zZ (mPut hl_ (9 * nn) (fun c => !mIs ho a0 (some b0) c) c1)))), (a_first, .inl (cI, 60, .inl (zN (va_up fi nn a0)))), (a_second, .inl (cI, 60, .inl (upd se nn (nI b0)))), (a_list, .inl (cI, 60, .inl (zN (va_up li nn nn))))] H := hP
        have hD : va_D A [(o, .inr (9, [(ϕ 0), (ϕ 1), .ref a_given, .ref a_holes, (ϕ 4), (ϕ 5), (ϕ 6), (ϕ 7), (ϕ 8), (ϕ 9), (ϕ 10), (ϕ 11), (ϕ 12), (ϕ 13), (ϕ 14), (ϕ 15), (ϕ 16), (ϕ 17), (ϕ 18), (ϕ 19), (ϕ 20), (ϕ 21), (ϕ 22), (ϕ 23), .int (nI nn), .ref a_value, .ref a_hole, .ref a_first, .ref a_second, .ref a_list, (ϕ 30), (ϕ 31), (ϕ 32), (ϕ 33), (ϕ 34), (ϕ 35), (ϕ 36), (ϕ 37), (ϕ 38), (ϕ 39), (ϕ 40), (ϕ 41), (ϕ 42), (ϕ 43)])), (a_given, .inl (cI, 144, .inl gv)), (a_holes, .inl (cI, 48, .inl ho)), (a_value, .inl (cI, 540, .inl (mPut vl (9 * nn) (fun c => mVl ho gv a0 (some b0) c) c1))), (a_hole, .inl (cZ, 540, .inl (zZ (mPut hl_ (9 * nn) (fun c => !mIs ho a0 (some b0) c) c1)))), (a_first, .inl (cI, 60, .inl (zN (va_up fi nn a0)))), (a_second, .inl (cI, 60, .inl (upd se nn (nI b0)))), (a_list, .inl (cI, 60, .inl (zN (va_up li nn nn))))] := hD
        refine lv_aload_n hx hb d_Mo_make_174 rfl (lv_at hl 0 rfl) ?_
        refine lv_dup hx hb d_Mo_make_175 rfl ?_
        refine va_get (C := R_Mo) (T := F_Mo) (N := 44) hx hb hts (fun w h => List.mem_cons_of_mem _ (hin_Mo w h)) hown hK hP 0 rfl rfl 24 (by decide) (hts _ (List.mem_cons_of_mem _ fl_Mo_152)) (fun _ h => h) rfl d_Mo_make_176 ?_
        refine lv_iconst (v := nI 1) hx hb d_Mo_make_179 (by decide) ?_
        refine lv_iadd hx hb d_Mo_make_180 ?_
        refine zk_topi (show ((nI nn) + (nI 1)) = nI (nn + 1) from nI_add nn 1) ?_
        refine va_put (D := D) (v := .int (nI (nn + 1))) (ty := .int) (C := R_Mo) (T := F_Mo) (N := 44) hx hb hts (fun w h => List.mem_cons_of_mem _ (hin_Mo w h)) t_Mo t_Mo_ok n_Mo hown hK hP hD hS 0 rfl rfl 24 (by decide) (hts _ (List.mem_cons_of_mem _ fl_Mo_152)) (fun _ h => h) rfl (by decide +kernel) rfl rfl (Nat.le_of_ble_eq_true rfl) d_Mo_make_181 (fun H locs hP hD hS => ?_)
        have hP : va_P D vwCl [(o, .inr (9, [(ϕ 0), (ϕ 1), .ref a_given, .ref a_holes, (ϕ 4), (ϕ 5), (ϕ 6), (ϕ 7), (ϕ 8), (ϕ 9), (ϕ 10), (ϕ 11), (ϕ 12), (ϕ 13), (ϕ 14), (ϕ 15), (ϕ 16), (ϕ 17), (ϕ 18), (ϕ 19), (ϕ 20), (ϕ 21), (ϕ 22), (ϕ 23), .int (nI (nn + 1)), .ref a_value, .ref a_hole, .ref a_first, .ref a_second, .ref a_list, (ϕ 30), (ϕ 31), (ϕ 32), (ϕ 33), (ϕ 34), (ϕ 35), (ϕ 36), (ϕ 37), (ϕ 38), (ϕ 39), (ϕ 40), (ϕ 41), (ϕ 42), (ϕ 43)])), (a_given, .inl (cI, 144, .inl gv)), (a_holes, .inl (cI, 48, .inl ho)), (a_value, .inl (cI, 540, .inl (mPut vl (9 * nn) (fun c => mVl ho gv a0 (some b0) c) c1))), (a_hole, .inl (cZ, 540, .inl (zZ (mPut hl_ (9 * nn) (fun c => !mIs ho a0 (some b0) c) c1)))), (a_first, .inl (cI, 60, .inl (zN (va_up fi nn a0)))), (a_second, .inl (cI, 60, .inl (upd se nn (nI b0)))), (a_list, .inl (cI, 60, .inl (zN (va_up li nn nn))))] H := hP
        have hD : va_D A [(o, .inr (9, [(ϕ 0), (ϕ 1), .ref a_given, .ref a_holes, (ϕ 4), (ϕ 5), (ϕ 6), (ϕ 7), (ϕ 8), (ϕ 9), (ϕ 10), (ϕ 11), (ϕ 12), (ϕ 13), (ϕ 14), (ϕ 15), (ϕ 16), (ϕ 17), (ϕ 18), (ϕ 19), (ϕ 20), (ϕ 21), (ϕ 22), (ϕ 23), .int (nI (nn + 1)), .ref a_value, .ref a_hole, .ref a_first, .ref a_second, .ref a_list, (ϕ 30), (ϕ 31), (ϕ 32), (ϕ 33), (ϕ 34), (ϕ 35), (ϕ 36), (ϕ 37), (ϕ 38), (ϕ 39), (ϕ 40), (ϕ 41), (ϕ 42), (ϕ 43)])), (a_given, .inl (cI, 144, .inl gv)), (a_holes, .inl (cI, 48, .inl ho)), (a_value, .inl (cI, 540, .inl (mPut vl (9 * nn) (fun c => mVl ho gv a0 (some b0) c) c1))), (a_hole, .inl (cZ, 540, .inl (zZ (mPut hl_ (9 * nn) (fun c => !mIs ho a0 (some b0) c) c1)))), (a_first, .inl (cI, 60, .inl (zN (va_up fi nn a0)))), (a_second, .inl (cI, 60, .inl (upd se nn (nI b0)))), (a_list, .inl (cI, 60, .inl (zN (va_up li nn nn))))] := hD
        rw [hc9] at hP hD
        exact zk_vretW hx hb hr hlk hAe hQ hK (()) (trivial) hP hD hS d_Mo_make_184
      · skip
        refine lv_iload_n hx hb d_Mo_make_8 rfl (lv_at hl 3 rfl) ?_
        refine lv_iconst (v := nI 3) hx hb d_Mo_make_9 (by decide) ?_
        refine zk_icmp_ge (tgt := 17) hx hb d_Mo_make_10 rfl (by omega) (by omega) (fun h10 => ?_) (fun h10 => ?_)
        · skip
          refine lv_iconst (v := zb false) hx hb d_Mo_make_17 (by decide) ?_
          refine lv_istore (lv' := [(4, .int (zb false)), (0, .ref o), (1, .int (nI a0)), (2, .int (nI b0)), (3, .int (nI c1))]) hx hb d_Mo_make_18 hl (by decide) rfl (fun ls hl => ?_)
          refine lv_iload hx hb d_Mo_make_20 (lv_at hl 0 rfl) ?_
          refine zk_ifb_eq (tgt := 35) hx hb d_Mo_make_22 rfl (fun _ => ?_) (fun hq => absurd hq (by decide))
          refine lv_iload_n hx hb d_Mo_make_35 rfl (lv_at hl 4 rfl) ?_
          refine lv_bipush (v := nI 6) hx hb d_Mo_make_36 (by decide) ?_
          refine zk_icmp_ge (tgt := 61) hx hb d_Mo_make_38 rfl (by omega) (by omega) (fun h38 => ?_) (fun h38 => ?_)
          · skip
            refine lv_iconst (v := zb false) hx hb d_Mo_make_61 (by decide) ?_
            have his : false = mIs ho a0 (some b0) c1 := by unfold mIs; first | (rw [if_neg (by omega), if_neg (by omega)]; done) | (rw [if_neg (by omega), if_pos (by omega)]; first | done | rfl | exact h54.symm)
            refine lv_istore (lv' := [(5, .int (zb false)), (4, .int (zb false)), (0, .ref o), (1, .int (nI a0)), (2, .int (nI b0)), (3, .int (nI c1))]) hx hb d_Mo_make_62 hl (by decide) rfl (fun ls hl => ?_)
            refine lv_aload_n hx hb d_Mo_make_64 rfl (lv_at hl 2 rfl) ?_
            refine va_get (C := R_Mo) (T := F_Mo) (N := 44) hx hb hts (fun w h => List.mem_cons_of_mem _ (hin_Mo w h)) hown hK hP 0 rfl rfl 26 (by decide) (hts _ (List.mem_cons_of_mem _ fl_Mo_56)) (fun _ h => h) rfl d_Mo_make_65 ?_
            refine lv_bipush (v := nI 9) hx hb d_Mo_make_68 (by decide) ?_
            refine lv_aload_n hx hb d_Mo_make_70 rfl (lv_at hl 2 rfl) ?_
            refine va_get (C := R_Mo) (T := F_Mo) (N := 44) hx hb hts (fun w h => List.mem_cons_of_mem _ (hin_Mo w h)) hown hK hP 0 rfl rfl 24 (by decide) (hts _ (List.mem_cons_of_mem _ fl_Mo_152)) (fun _ h => h) rfl d_Mo_make_71 ?_
            refine lv_imul hx hb d_Mo_make_74 ?_
            refine zk_topi (show ((nI 9) * (nI nn)) = nI (9 * nn) from pk_mul 9 nn) ?_
            refine lv_iload_n hx hb d_Mo_make_75 rfl (lv_at hl 5 rfl) ?_
            refine lv_iadd hx hb d_Mo_make_76 ?_
            refine zk_topi (show ((nI (9 * nn)) + (nI c1)) = nI (9 * nn + c1) from nI_add (9 * nn) c1) ?_
            refine lv_iload hx hb d_Mo_make_77 (lv_at hl 0 rfl) ?_
            refine zk_ifb_ne (tgt := 86) hx hb d_Mo_make_79 rfl (fun hq => absurd hq (by decide)) (fun _ => ?_)
            refine lv_iconst (v := zb true) hx hb d_Mo_make_82 (by decide) ?_
            refine zk_topi (show (zb true) = zb (!mIs ho a0 (some b0) c1) from by rw [← his]; first | (rw [h79]; rfl) | rfl) ?_
            refine lv_goto (tgt := 87) hx hb d_Mo_make_83 rfl ?_
            refine zk_bast hx hb hK hP hD hS 4 2 rfl rfl (by omega) (by omega) d_Mo_make_87 (fun H locs hP hD hS => ?_)
            have hP : va_P D vwCl [(o, .inr (9, [(ϕ 0), (ϕ 1), .ref a_given, .ref a_holes, (ϕ 4), (ϕ 5), (ϕ 6), (ϕ 7), (ϕ 8), (ϕ 9), (ϕ 10), (ϕ 11), (ϕ 12), (ϕ 13), (ϕ 14), (ϕ 15), (ϕ 16), (ϕ 17), (ϕ 18), (ϕ 19), (ϕ 20), (ϕ 21), (ϕ 22), (ϕ 23), .int (nI nn), .ref a_value, .ref a_hole, .ref a_first, .ref a_second, .ref a_list, (ϕ 30), (ϕ 31), (ϕ 32), (ϕ 33), (ϕ 34), (ϕ 35), (ϕ 36), (ϕ 37), (ϕ 38), (ϕ 39), (ϕ 40), (ϕ 41), (ϕ 42), (ϕ 43)])), (a_given, .inl (cI, 144, .inl gv)), (a_holes, .inl (cI, 48, .inl ho)), (a_value, .inl (cI, 540, .inl (mPut vl (9 * nn) (fun c => mVl ho gv a0 (some b0) c) c1))), (a_hole, .inl (cZ, 540, .inl (zZ (va_up (mPut hl_ (9 * nn) (fun c => !mIs ho a0 (some b0) c) c1) (9 * nn + c1) (!mIs ho a0 (some b0) c1))))), (a_first, .inl (cI, 60, .inl (zN fi))), (a_second, .inl (cI, 60, .inl se)), (a_list, .inl (cI, 60, .inl (zN li)))] H := hP
            have hD : va_D A [(o, .inr (9, [(ϕ 0), (ϕ 1), .ref a_given, .ref a_holes, (ϕ 4), (ϕ 5), (ϕ 6), (ϕ 7), (ϕ 8), (ϕ 9), (ϕ 10), (ϕ 11), (ϕ 12), (ϕ 13), (ϕ 14), (ϕ 15), (ϕ 16), (ϕ 17), (ϕ 18), (ϕ 19), (ϕ 20), (ϕ 21), (ϕ 22), (ϕ 23), .int (nI nn), .ref a_value, .ref a_hole, .ref a_first, .ref a_second, .ref a_list, (ϕ 30), (ϕ 31), (ϕ 32), (ϕ 33), (ϕ 34), (ϕ 35), (ϕ 36), (ϕ 37), (ϕ 38), (ϕ 39), (ϕ 40), (ϕ 41), (ϕ 42), (ϕ 43)])), (a_given, .inl (cI, 144, .inl gv)), (a_holes, .inl (cI, 48, .inl ho)), (a_value, .inl (cI, 540, .inl (mPut vl (9 * nn) (fun c => mVl ho gv a0 (some b0) c) c1))), (a_hole, .inl (cZ, 540, .inl (zZ (va_up (mPut hl_ (9 * nn) (fun c => !mIs ho a0 (some b0) c) c1) (9 * nn + c1) (!mIs ho a0 (some b0) c1))))), (a_first, .inl (cI, 60, .inl (zN fi))), (a_second, .inl (cI, 60, .inl se)), (a_list, .inl (cI, 60, .inl (zN li)))] := hD
            refine lv_aload_n hx hb d_Mo_make_88 rfl (lv_at hl 2 rfl) ?_
            refine va_get (C := R_Mo) (T := F_Mo) (N := 44) hx hb hts (fun w h => List.mem_cons_of_mem _ (hin_Mo w h)) hown hK hP 0 rfl rfl 25 (by decide) (hts _ (List.mem_cons_of_mem _ fl_Mo_53)) (fun _ h => h) rfl d_Mo_make_89 ?_
            refine lv_bipush (v := nI 9) hx hb d_Mo_make_92 (by decide) ?_
            refine lv_aload_n hx hb d_Mo_make_94 rfl (lv_at hl 2 rfl) ?_
            refine va_get (C := R_Mo) (T := F_Mo) (N := 44) hx hb hts (fun w h => List.mem_cons_of_mem _ (hin_Mo w h)) hown hK hP 0 rfl rfl 24 (by decide) (hts _ (List.mem_cons_of_mem _ fl_Mo_152)) (fun _ h => h) rfl d_Mo_make_95 ?_
            refine lv_imul hx hb d_Mo_make_98 ?_
            refine zk_topi (show ((nI 9) * (nI nn)) = nI (9 * nn) from pk_mul 9 nn) ?_
            refine lv_iload_n hx hb d_Mo_make_99 rfl (lv_at hl 5 rfl) ?_
            refine lv_iadd hx hb d_Mo_make_100 ?_
            refine zk_topi (show ((nI (9 * nn)) + (nI c1)) = nI (9 * nn + c1) from nI_add (9 * nn) c1) ?_
            refine lv_iload hx hb d_Mo_make_101 (lv_at hl 0 rfl) ?_
            refine zk_ifb_ne (tgt := 110) hx hb d_Mo_make_103 rfl (fun hq => absurd hq (by decide)) (fun _ => ?_)
            refine lv_iconst (v := nI 0) hx hb d_Mo_make_106 (by decide) ?_
            refine zk_topi (show (nI 0) = mVl ho gv a0 (some b0) c1 from by unfold mVl; rw [← his]; first | rfl | (rw [h103]; first | rfl | exact (if_pos h10).symm | exact (if_neg (by omega)).symm) | (rw [if_pos rfl]; first | exact (if_pos h10).symm | exact (if_neg (by omega)).symm)) ?_
            refine lv_goto (tgt := 134) hx hb d_Mo_make_107 rfl ?_
            refine zk_iast hx hb hK hP hD hS 3 0 rfl rfl (by omega) (by omega) d_Mo_make_134 (fun H locs hP hD hS => ?_)
            have hP : va_P D vwCl [(o, .inr (9, [(ϕ 0), (ϕ 1), .ref a_given, .ref a_holes, (ϕ 4), (ϕ 5), (ϕ 6), (ϕ 7), (ϕ 8), (ϕ 9), (ϕ 10), (ϕ 11), (ϕ 12), (ϕ 13), (ϕ 14), (ϕ 15), (ϕ 16), (ϕ 17), (ϕ 18), (ϕ 19), (ϕ 20), (ϕ 21), (ϕ 22), (ϕ 23), .int (nI nn), .ref a_value, .ref a_hole, .ref a_first, .ref a_second, .ref a_list, (ϕ 30), (ϕ 31), (ϕ 32), (ϕ 33), (ϕ 34), (ϕ 35), (ϕ 36), (ϕ 37), (ϕ 38), (ϕ 39), (ϕ 40), (ϕ 41), (ϕ 42), (ϕ 43)])), (a_given, .inl (cI, 144, .inl gv)), (a_holes, .inl (cI, 48, .inl ho)), (a_value, .inl (cI, 540, .inl (upd (mPut vl (9 * nn) (fun c => mVl ho gv a0 (some b0) c) c1) (9 * nn + c1) (mVl ho gv a0 (some b0) c1)))), (a_hole, .inl (cZ, 540, .inl (zZ (va_up (mPut hl_ (9 * nn) (fun c => !mIs ho a0 (some b0) c) c1) (9 * nn + c1) (!mIs ho a0 (some b0) c1))))), (a_first, .inl (cI, 60, .inl (zN fi))), (a_second, .inl (cI, 60, .inl se)), (a_list, .inl (cI, 60, .inl (zN li)))] H := hP
            have hD : va_D A [(o, .inr (9, [(ϕ 0), (ϕ 1), .ref a_given, .ref a_holes, (ϕ 4), (ϕ 5), (ϕ 6), (ϕ 7), (ϕ 8), (ϕ 9), (ϕ 10), (ϕ 11), (ϕ 12), (ϕ 13), (ϕ 14), (ϕ 15), (ϕ 16), (ϕ 17), (ϕ 18), (ϕ 19), (ϕ 20), (ϕ 21), (ϕ 22), (ϕ 23), .int (nI nn), .ref a_value, .ref a_hole, .ref a_first, .ref a_second, .ref a_list, (ϕ 30), (ϕ 31), (ϕ 32), (ϕ 33), (ϕ 34), (ϕ 35), (ϕ 36), (ϕ 37), (ϕ 38), (ϕ 39), (ϕ 40), (ϕ 41), (ϕ 42), (ϕ 43)])), (a_given, .inl (cI, 144, .inl gv)), (a_holes, .inl (cI, 48, .inl ho)), (a_value, .inl (cI, 540, .inl (upd (mPut vl (9 * nn) (fun c => mVl ho gv a0 (some b0) c) c1) (9 * nn + c1) (mVl ho gv a0 (some b0) c1)))), (a_hole, .inl (cZ, 540, .inl (zZ (va_up (mPut hl_ (9 * nn) (fun c => !mIs ho a0 (some b0) c) c1) (9 * nn + c1) (!mIs ho a0 (some b0) c1))))), (a_first, .inl (cI, 60, .inl (zN fi))), (a_second, .inl (cI, 60, .inl se)), (a_list, .inl (cI, 60, .inl (zN li)))] := hD
            refine lv_iinc (k := 5) (v := nI (c1 + 1)) (lv' := [(3, .int (nI (c1 + 1))), (5, .int (zb false)), (4, .int (zb false)), (0, .ref o), (1, .int (nI a0)), (2, .int (nI b0))]) hx hb d_Mo_make_135 hl rfl (nI_add c1 1) (by decide) rfl (fun ls hl => ?_)
            refine lv_goto (tgt := 2) hx hb d_Mo_make_138 rfl ?_
            have hP : va_P D vwCl [(o, .inr (9, [(ϕ 0), (ϕ 1), .ref a_given, .ref a_holes, (ϕ 4), (ϕ 5), (ϕ 6), (ϕ 7), (ϕ 8), (ϕ 9), (ϕ 10), (ϕ 11), (ϕ 12), (ϕ 13), (ϕ 14), (ϕ 15), (ϕ 16), (ϕ 17), (ϕ 18), (ϕ 19), (ϕ 20), (ϕ 21), (ϕ 22), (ϕ 23), .int (nI nn), .ref a_value, .ref a_hole, .ref a_first, .ref a_second, .ref a_list, (ϕ 30), (ϕ 31), (ϕ 32), (ϕ 33), (ϕ 34), (ϕ 35), (ϕ 36), (ϕ 37), (ϕ 38), (ϕ 39), (ϕ 40), (ϕ 41), (ϕ 42), (ϕ 43)])), (a_given, .inl (cI, 144, .inl gv)), (a_holes, .inl (cI, 48, .inl ho)), (a_value, .inl (cI, 540, .inl (mPut vl (9 * nn) (fun c => mVl ho gv a0 (some b0) c) (c1 + 1)))), (a_hole, .inl (cZ, 540, .inl (zZ (mPut hl_ (9 * nn) (fun c => !mIs ho a0 (some b0) c) (c1 + 1))))), (a_first, .inl (cI, 60, .inl (zN fi))), (a_second, .inl (cI, 60, .inl se)), (a_list, .inl (cI, 60, .inl (zN li)))] H := by rw [← mPut_i (f := vl), ← mPut_s (f := hl_)]; exact hP
            have hD : va_D A [(o, .inr (9, [(ϕ 0), (ϕ 1), .ref a_given, .ref a_holes, (ϕ 4), (ϕ 5), (ϕ 6), (ϕ 7), (ϕ 8), (ϕ 9), (ϕ 10), (ϕ 11), (ϕ 12), (ϕ 13), (ϕ 14), (ϕ 15), (ϕ 16), (ϕ 17), (ϕ 18), (ϕ 19), (ϕ 20), (ϕ 21), (ϕ 22), (ϕ 23), .int (nI nn), .ref a_value, .ref a_hole, .ref a_first, .ref a_second, .ref a_list, (ϕ 30), (ϕ 31), (ϕ 32), (ϕ 33), (ϕ 34), (ϕ 35), (ϕ 36), (ϕ 37), (ϕ 38), (ϕ 39), (ϕ 40), (ϕ 41), (ϕ 42), (ϕ 43)])), (a_given, .inl (cI, 144, .inl gv)), (a_holes, .inl (cI, 48, .inl ho)), (a_value, .inl (cI, 540, .inl (mPut vl (9 * nn) (fun c => mVl ho gv a0 (some b0) c) (c1 + 1)))), (a_hole, .inl (cZ, 540, .inl (zZ (mPut hl_ (9 * nn) (fun c => !mIs ho a0 (some b0) c) (c1 + 1))))), (a_first, .inl (cI, 60, .inl (zN fi))), (a_second, .inl (cI, 60, .inl se)), (a_list, .inl (cI, 60, .inl (zN li)))] := by rw [← mPut_i (f := vl), ← mPut_s (f := hl_)]; exact hD
            exact ih2 (c1 + 1) (by omega) (by omega) ls _ _ (lv_sub hl [3, 4, 5, 0] rfl) hP hD hS
          · skip
            refine lv_iload_n hx hb d_Mo_make_41 rfl (lv_at hl 3 rfl) ?_
            refine zk_if_lt (tgt := 61) hx hb d_Mo_make_42 rfl (by omega) ?_
            refine lv_aload_n hx hb d_Mo_make_45 rfl (lv_at hl 1 rfl) ?_
            refine lv_iconst (v := nI 1) hx hb d_Mo_make_46 (by decide) ?_
            refine lv_iload_n hx hb d_Mo_make_47 rfl (lv_at hl 3 rfl) ?_
            refine lv_iload_n hx hb d_Mo_make_48 rfl (lv_at hl 4 rfl) ?_
            refine lv_iconst (v := nI 3) hx hb d_Mo_make_49 (by decide) ?_
            refine lv_isub hx hb d_Mo_make_50 ?_
            refine zk_topi (show ((nI c1) - (nI 3)) = nI (c1 - 3) from pk_sub (by omega)) ?_
            have hPc := hP.sub (ws' := [(o, .inr (9, [(ϕ 0), (ϕ 1), .ref a_given, .ref a_holes, (ϕ 4), (ϕ 5), (ϕ 6), (ϕ 7), (ϕ 8), (ϕ 9), (ϕ 10), (ϕ 11), (ϕ 12), (ϕ 13), (ϕ 14), (ϕ 15), (ϕ 16), (ϕ 17), (ϕ 18), (ϕ 19), (ϕ 20), (ϕ 21), (ϕ 22), (ϕ 23), .int (nI nn), .ref a_value, .ref a_hole, .ref a_first, .ref a_second, .ref a_list, (ϕ 30), (ϕ 31), (ϕ 32), (ϕ 33), (ϕ 34), (ϕ 35), (ϕ 36), (ϕ 37), (ϕ 38), (ϕ 39), (ϕ 40), (ϕ 41), (ϕ 42), (ϕ 43)])), (a_holes, .inl (cI, 48, .inl ho))]) [0, 2] rfl
            refine zk_ri (va_runV (As := [.int (nI 1), .int (nI b0), .int (nI (c1 - 3))]) (rest := []) ⟨hx, hb, hml, hown, hts⟩ (c_Mo_given l D cI cL cZ cW cR o (vp_V [(ϕ 0), (ϕ 1), .ref a_given, .ref a_holes, (ϕ 4), (ϕ 5), (ϕ 6), (ϕ 7), (ϕ 8), (ϕ 9), (ϕ 10), (ϕ 11), (ϕ 12), (ϕ 13), (ϕ 14), (ϕ 15), (ϕ 16), (ϕ 17), (ϕ 18), (ϕ 19), (ϕ 20), (ϕ 21), (ϕ 22), (ϕ 23), .int (nI nn), .ref a_value, .ref a_hole, .ref a_first, .ref a_second, .ref a_list, (ϕ 30), (ϕ 31), (ϕ 32), (ϕ 33), (ϕ 34), (ϕ 35), (ϕ 36), (ϕ 37), (ϕ 38), (ϕ 39), (ϕ 40), (ϕ 41), (ϕ 42), (ϕ 43)]) a_holes ho 1 b0 (c1 - 3) (by decide) (by omega) (by omega)) (cwV 3 hts (zk_gV (fun _ h => List.mem_cons_of_mem _ h) ml_Mo_113 im_Mo_given se_Mo_given in_Mo co_Mo_given) rfl rfl rfl ⟨rfl, hd_Mo_given⟩ ⟨Nat.le_of_ble_eq_true rfl, Nat.le_of_ble_eq_true rfl⟩) (zk_vr (q0 := 0) hN hK hPc rfl rfl) rfl rfl hl.1 rfl (lv_room (Nat.le_of_ble_eq_true rfl)) d_Mo_make_51 ⟨Nat.zero_le _, Nat.zero_le _⟩) ?_
            refine zk_ifb_eq (tgt := 61) hx hb d_Mo_make_54 rfl (fun h54 => ?_) (fun h54 => ?_)
            · skip
              refine lv_iconst (v := zb false) hx hb d_Mo_make_61 (by decide) ?_
              have his : false = mIs ho a0 (some b0) c1 := by unfold mIs; first | (rw [if_neg (by omega), if_neg (by omega)]; done) | (rw [if_neg (by omega), if_pos (by omega)]; first | done | rfl | exact h54.symm)
              refine lv_istore (lv' := [(5, .int (zb false)), (4, .int (zb false)), (0, .ref o), (1, .int (nI a0)), (2, .int (nI b0)), (3, .int (nI c1))]) hx hb d_Mo_make_62 hl (by decide) rfl (fun ls hl => ?_)
              refine lv_aload_n hx hb d_Mo_make_64 rfl (lv_at hl 2 rfl) ?_
              refine va_get (C := R_Mo) (T := F_Mo) (N := 44) hx hb hts (fun w h => List.mem_cons_of_mem _ (hin_Mo w h)) hown hK hP 0 rfl rfl 26 (by decide) (hts _ (List.mem_cons_of_mem _ fl_Mo_56)) (fun _ h => h) rfl d_Mo_make_65 ?_
              refine lv_bipush (v := nI 9) hx hb d_Mo_make_68 (by decide) ?_
              refine lv_aload_n hx hb d_Mo_make_70 rfl (lv_at hl 2 rfl) ?_
              refine va_get (C := R_Mo) (T := F_Mo) (N := 44) hx hb hts (fun w h => List.mem_cons_of_mem _ (hin_Mo w h)) hown hK hP 0 rfl rfl 24 (by decide) (hts _ (List.mem_cons_of_mem _ fl_Mo_152)) (fun _ h => h) rfl d_Mo_make_71 ?_
              refine lv_imul hx hb d_Mo_make_74 ?_
              refine zk_topi (show ((nI 9) * (nI nn)) = nI (9 * nn) from pk_mul 9 nn) ?_
              refine lv_iload_n hx hb d_Mo_make_75 rfl (lv_at hl 5 rfl) ?_
              refine lv_iadd hx hb d_Mo_make_76 ?_
              refine zk_topi (show ((nI (9 * nn)) + (nI c1)) = nI (9 * nn + c1) from nI_add (9 * nn) c1) ?_
              refine lv_iload hx hb d_Mo_make_77 (lv_at hl 0 rfl) ?_
              refine zk_ifb_ne (tgt := 86) hx hb d_Mo_make_79 rfl (fun hq => absurd hq (by decide)) (fun _ => ?_)
              refine lv_iconst (v := zb true) hx hb d_Mo_make_82 (by decide) ?_
              refine zk_topi (show (zb true) = zb (!mIs ho a0 (some b0) c1) from by rw [← his]; first | (rw [h79]; rfl) | rfl) ?_
              refine lv_goto (tgt := 87) hx hb d_Mo_make_83 rfl ?_
              refine zk_bast hx hb hK hP hD hS 4 2 rfl rfl (by omega) (by omega) d_Mo_make_87 (fun H locs hP hD hS => ?_)
              have hP : va_P D vwCl [(o, .inr (9, [(ϕ 0), (ϕ 1), .ref a_given, .ref a_holes, (ϕ 4), (ϕ 5), (ϕ 6), (ϕ 7), (ϕ 8), (ϕ 9), (ϕ 10), (ϕ 11), (ϕ 12), (ϕ 13), (ϕ 14), (ϕ 15), (ϕ 16), (ϕ 17), (ϕ 18), (ϕ 19), (ϕ 20), (ϕ 21), (ϕ 22), (ϕ 23), .int (nI nn), .ref a_value, .ref a_hole, .ref a_first, .ref a_second, .ref a_list, (ϕ 30), (ϕ 31), (ϕ 32), (ϕ 33), (ϕ 34), (ϕ 35), (ϕ 36), (ϕ 37), (ϕ 38), (ϕ 39), (ϕ 40), (ϕ 41), (ϕ 42), (ϕ 43)])), (a_given, .inl (cI, 144, .inl gv)), (a_holes, .inl (cI, 48, .inl ho)), (a_value, .inl (cI, 540, .inl (mPut vl (9 * nn) (fun c => mVl ho gv a0 (some b0) c) c1))), (a_hole, .inl (cZ, 540, .inl (zZ (va_up (mPut hl_ (9 * nn) (fun c => !mIs ho a0 (some b0) c) c1) (9 * nn + c1) (!mIs ho a0 (some b0) c1))))), (a_first, .inl (cI, 60, .inl (zN fi))), (a_second, .inl (cI, 60, .inl se)), (a_list, .inl (cI, 60, .inl (zN li)))] H := hP
              have hD : va_D A [(o, .inr (9, [(ϕ 0), (ϕ 1), .ref a_given, .ref a_holes, (ϕ 4), (ϕ 5), (ϕ 6), (ϕ 7), (ϕ 8), (ϕ 9), (ϕ 10), (ϕ 11), (ϕ 12), (ϕ 13), (ϕ 14), (ϕ 15), (ϕ 16), (ϕ 17), (ϕ 18), (ϕ 19), (ϕ 20), (ϕ 21), (ϕ 22), (ϕ 23), .int (nI nn), .ref a_value, .ref a_hole, .ref a_first, .ref a_second, .ref a_list, (ϕ 30), (ϕ 31), (ϕ 32), (ϕ 33), (ϕ 34), (ϕ 35), (ϕ 36), (ϕ 37), (ϕ 38), (ϕ 39), (ϕ 40), (ϕ 41), (ϕ 42), (ϕ 43)])), (a_given, .inl (cI, 144, .inl gv)), (a_holes, .inl (cI, 48, .inl ho)), (a_value, .inl (cI, 540, .inl (mPut vl (9 * nn) (fun c => mVl ho gv a0 (some b0) c) c1))), (a_hole, .inl (cZ, 540, .inl (zZ (va_up (mPut hl_ (9 * nn) (fun c => !mIs ho a0 (some b0) c) c1) (9 * nn + c1) (!mIs ho a0 (some b0) c1))))), (a_first, .inl (cI, 60, .inl (zN fi))), (a_second, .inl (cI, 60, .inl se)), (a_list, .inl (cI, 60, .inl (zN li)))] := hD
              refine lv_aload_n hx hb d_Mo_make_88 rfl (lv_at hl 2 rfl) ?_
              refine va_get (C := R_Mo) (T := F_Mo) (N := 44) hx hb hts (fun w h => List.mem_cons_of_mem _ (hin_Mo w h)) hown hK hP 0 rfl rfl 25 (by decide) (hts _ (List.mem_cons_of_mem _ fl_Mo_53)) (fun _ h => h) rfl d_Mo_make_89 ?_
              refine lv_bipush (v := nI 9) hx hb d_Mo_make_92 (by decide) ?_
              refine lv_aload_n hx hb d_Mo_make_94 rfl (lv_at hl 2 rfl) ?_
              refine va_get (C := R_Mo) (T := F_Mo) (N := 44) hx hb hts (fun w h => List.mem_cons_of_mem _ (hin_Mo w h)) hown hK hP 0 rfl rfl 24 (by decide) (hts _ (List.mem_cons_of_mem _ fl_Mo_152)) (fun _ h => h) rfl d_Mo_make_95 ?_
              refine lv_imul hx hb d_Mo_make_98 ?_
              refine zk_topi (show ((nI 9) * (nI nn)) = nI (9 * nn) from pk_mul 9 nn) ?_
              refine lv_iload_n hx hb d_Mo_make_99 rfl (lv_at hl 5 rfl) ?_
              refine lv_iadd hx hb d_Mo_make_100 ?_
              refine zk_topi (show ((nI (9 * nn)) + (nI c1)) = nI (9 * nn + c1) from nI_add (9 * nn) c1) ?_
              refine lv_iload hx hb d_Mo_make_101 (lv_at hl 0 rfl) ?_
              refine zk_ifb_ne (tgt := 110) hx hb d_Mo_make_103 rfl (fun hq => absurd hq (by decide)) (fun _ => ?_)
              refine lv_iconst (v := nI 0) hx hb d_Mo_make_106 (by decide) ?_
              refine zk_topi (show (nI 0) = mVl ho gv a0 (some b0) c1 from by unfold mVl; rw [← his]; first | rfl | (rw [h103]; first | rfl | exact (if_pos h10).symm | exact (if_neg (by omega)).symm) | (rw [if_pos rfl]; first | exact (if_pos h10).symm | exact (if_neg (by omega)).symm)) ?_
              refine lv_goto (tgt := 134) hx hb d_Mo_make_107 rfl ?_
              refine zk_iast hx hb hK hP hD hS 3 0 rfl rfl (by omega) (by omega) d_Mo_make_134 (fun H locs hP hD hS => ?_)
              have hP : va_P D vwCl [(o, .inr (9, [(ϕ 0), (ϕ 1), .ref a_given, .ref a_holes, (ϕ 4), (ϕ 5), (ϕ 6), (ϕ 7), (ϕ 8), (ϕ 9), (ϕ 10), (ϕ 11), (ϕ 12), (ϕ 13), (ϕ 14), (ϕ 15), (ϕ 16), (ϕ 17), (ϕ 18), (ϕ 19), (ϕ 20), (ϕ 21), (ϕ 22), (ϕ 23), .int (nI nn), .ref a_value, .ref a_hole, .ref a_first, .ref a_second, .ref a_list, (ϕ 30), (ϕ 31), (ϕ 32), (ϕ 33), (ϕ 34), (ϕ 35), (ϕ 36), (ϕ 37), (ϕ 38), (ϕ 39), (ϕ 40), (ϕ 41), (ϕ 42), (ϕ 43)])), (a_given, .inl (cI, 144, .inl gv)), (a_holes, .inl (cI, 48, .inl ho)), (a_value, .inl (cI, 540, .inl (upd (mPut vl (9 * nn) (fun c => mVl ho gv a0 (some b0) c) c1) (9 * nn + c1) (mVl ho gv a0 (some b0) c1)))), (a_hole, .inl (cZ, 540, .inl (zZ (va_up (mPut hl_ (9 * nn) (fun c => !mIs ho a0 (some b0) c) c1) (9 * nn + c1) (!mIs ho a0 (some b0) c1))))), (a_first, .inl (cI, 60, .inl (zN fi))), (a_second, .inl (cI, 60, .inl se)), (a_list, .inl (cI, 60, .inl (zN li)))] H := hP
              have hD : va_D A [(o, .inr (9, [(ϕ 0), (ϕ 1), .ref a_given, .ref a_holes, (ϕ 4), (ϕ 5), (ϕ 6), (ϕ 7), (ϕ 8), (ϕ 9), (ϕ 10), (ϕ 11), (ϕ 12), (ϕ 13), (ϕ 14), (ϕ 15), (ϕ 16), (ϕ 17), (ϕ 18), (ϕ 19), (ϕ 20), (ϕ 21), (ϕ 22), (ϕ 23), .int (nI nn), .ref a_value, .ref a_hole, .ref a_first, .ref a_second, .ref a_list, (ϕ 30), (ϕ 31), (ϕ 32), (ϕ 33), (ϕ 34), (ϕ 35), (ϕ 36), (ϕ 37), (ϕ 38), (ϕ 39), (ϕ 40), (ϕ 41), (ϕ 42), (ϕ 43)])), (a_given, .inl (cI, 144, .inl gv)), (a_holes, .inl (cI, 48, .inl ho)), (a_value, .inl (cI, 540, .inl (upd (mPut vl (9 * nn) (fun c => mVl ho gv a0 (some b0) c) c1) (9 * nn + c1) (mVl ho gv a0 (some b0) c1)))), (a_hole, .inl (cZ, 540, .inl (zZ (va_up (mPut hl_ (9 * nn) (fun c => !mIs ho a0 (some b0) c) c1) (9 * nn + c1) (!mIs ho a0 (some b0) c1))))), (a_first, .inl (cI, 60, .inl (zN fi))), (a_second, .inl (cI, 60, .inl se)), (a_list, .inl (cI, 60, .inl (zN li)))] := hD
              refine lv_iinc (k := 5) (v := nI (c1 + 1)) (lv' := [(3, .int (nI (c1 + 1))), (5, .int (zb false)), (4, .int (zb false)), (0, .ref o), (1, .int (nI a0)), (2, .int (nI b0))]) hx hb d_Mo_make_135 hl rfl (nI_add c1 1) (by decide) rfl (fun ls hl => ?_)
              refine lv_goto (tgt := 2) hx hb d_Mo_make_138 rfl ?_
              have hP : va_P D vwCl [(o, .inr (9, [(ϕ 0), (ϕ 1), .ref a_given, .ref a_holes, (ϕ 4), (ϕ 5), (ϕ 6), (ϕ 7), (ϕ 8), (ϕ 9), (ϕ 10), (ϕ 11), (ϕ 12), (ϕ 13), (ϕ 14), (ϕ 15), (ϕ 16), (ϕ 17), (ϕ 18), (ϕ 19), (ϕ 20), (ϕ 21), (ϕ 22), (ϕ 23), .int (nI nn), .ref a_value, .ref a_hole, .ref a_first, .ref a_second, .ref a_list, (ϕ 30), (ϕ 31), (ϕ 32), (ϕ 33), (ϕ 34), (ϕ 35), (ϕ 36), (ϕ 37), (ϕ 38), (ϕ 39), (ϕ 40), (ϕ 41), (ϕ 42), (ϕ 43)])), (a_given, .inl (cI, 144, .inl gv)), (a_holes, .inl (cI, 48, .inl ho)), (a_value, .inl (cI, 540, .inl (mPut vl (9 * nn) (fun c => mVl ho gv a0 (some b0) c) (c1 + 1)))), (a_hole, .inl (cZ, 540, .inl (zZ (mPut hl_ (9 * nn) (fun c => !mIs ho a0 (some b0) c) (c1 + 1))))), (a_first, .inl (cI, 60, .inl (zN fi))), (a_second, .inl (cI, 60, .inl se)), (a_list, .inl (cI, 60, .inl (zN li)))] H := by rw [← mPut_i (f := vl), ← mPut_s (f := hl_)]; exact hP
              have hD : va_D A [(o, .inr (9, [(ϕ 0), (ϕ 1), .ref a_given, .ref a_holes, (ϕ 4), (ϕ 5), (ϕ 6), (ϕ 7), (ϕ 8), (ϕ 9), (ϕ 10), (ϕ 11), (ϕ 12), (ϕ 13), (ϕ 14), (ϕ 15), (ϕ 16), (ϕ 17), (ϕ 18), (ϕ 19), (ϕ 20), (ϕ 21), (ϕ 22), (ϕ 23), .int (nI nn), .ref a_value, .ref a_hole, .ref a_first, .ref a_second, .ref a_list, (ϕ 30), (ϕ 31), (ϕ 32), (ϕ 33), (ϕ 34), (ϕ 35), (ϕ 36), (ϕ 37), (ϕ 38), (ϕ 39), (ϕ 40), (ϕ 41), (ϕ 42), (ϕ 43)])), (a_given, .inl (cI, 144, .inl gv)), (a_holes, .inl (cI, 48, .inl ho)), (a_value, .inl (cI, 540, .inl (mPut vl (9 * nn) (fun c => mVl ho gv a0 (some b0) c) (c1 + 1)))), (a_hole, .inl (cZ, 540, .inl (zZ (mPut hl_ (9 * nn) (fun c => !mIs ho a0 (some b0) c) (c1 + 1))))), (a_first, .inl (cI, 60, .inl (zN fi))), (a_second, .inl (cI, 60, .inl se)), (a_list, .inl (cI, 60, .inl (zN li)))] := by rw [← mPut_i (f := vl), ← mPut_s (f := hl_)]; exact hD
              exact ih2 (c1 + 1) (by omega) (by omega) ls _ _ (lv_sub hl [3, 4, 5, 0] rfl) hP hD hS
            · skip
              refine lv_iconst (v := zb true) hx hb d_Mo_make_57 (by decide) ?_
              have his : true = mIs ho a0 (some b0) c1 := by unfold mIs; rw [if_neg (by omega), if_pos (by omega)]; first | done | exact h54.symm
              refine lv_goto (tgt := 62) hx hb d_Mo_make_58 rfl ?_
              refine lv_istore (lv' := [(5, .int (zb true)), (4, .int (zb false)), (0, .ref o), (1, .int (nI a0)), (2, .int (nI b0)), (3, .int (nI c1))]) hx hb d_Mo_make_62 hl (by decide) rfl (fun ls hl => ?_)
              refine lv_aload_n hx hb d_Mo_make_64 rfl (lv_at hl 2 rfl) ?_
              refine va_get (C := R_Mo) (T := F_Mo) (N := 44) hx hb hts (fun w h => List.mem_cons_of_mem _ (hin_Mo w h)) hown hK hP 0 rfl rfl 26 (by decide) (hts _ (List.mem_cons_of_mem _ fl_Mo_56)) (fun _ h => h) rfl d_Mo_make_65 ?_
              refine lv_bipush (v := nI 9) hx hb d_Mo_make_68 (by decide) ?_
              refine lv_aload_n hx hb d_Mo_make_70 rfl (lv_at hl 2 rfl) ?_
              refine va_get (C := R_Mo) (T := F_Mo) (N := 44) hx hb hts (fun w h => List.mem_cons_of_mem _ (hin_Mo w h)) hown hK hP 0 rfl rfl 24 (by decide) (hts _ (List.mem_cons_of_mem _ fl_Mo_152)) (fun _ h => h) rfl d_Mo_make_71 ?_
              refine lv_imul hx hb d_Mo_make_74 ?_
              refine zk_topi (show ((nI 9) * (nI nn)) = nI (9 * nn) from pk_mul 9 nn) ?_
              refine lv_iload_n hx hb d_Mo_make_75 rfl (lv_at hl 5 rfl) ?_
              refine lv_iadd hx hb d_Mo_make_76 ?_
              refine zk_topi (show ((nI (9 * nn)) + (nI c1)) = nI (9 * nn + c1) from nI_add (9 * nn) c1) ?_
              refine lv_iload hx hb d_Mo_make_77 (lv_at hl 0 rfl) ?_
              refine zk_ifb_ne (tgt := 86) hx hb d_Mo_make_79 rfl (fun _ => ?_) (fun hq => absurd hq (by decide))
              refine lv_iconst (v := zb false) hx hb d_Mo_make_86 (by decide) ?_
              refine zk_topi (show (zb false) = zb (!mIs ho a0 (some b0) c1) from by rw [← his]; first | (rw [h79]; rfl) | rfl) ?_
              refine zk_bast hx hb hK hP hD hS 4 2 rfl rfl (by omega) (by omega) d_Mo_make_87 (fun H locs hP hD hS => ?_)
              have hP : va_P D vwCl [(o, .inr (9, [(ϕ 0), (ϕ 1), .ref a_given, .ref a_holes, (ϕ 4), (ϕ 5), (ϕ 6), (ϕ 7), (ϕ 8), (ϕ 9), (ϕ 10), (ϕ 11), (ϕ 12), (ϕ 13), (ϕ 14), (ϕ 15), (ϕ 16), (ϕ 17), (ϕ 18), (ϕ 19), (ϕ 20), (ϕ 21), (ϕ 22), (ϕ 23), .int (nI nn), .ref a_value, .ref a_hole, .ref a_first, .ref a_second, .ref a_list, (ϕ 30), (ϕ 31), (ϕ 32), (ϕ 33), (ϕ 34), (ϕ 35), (ϕ 36), (ϕ 37), (ϕ 38), (ϕ 39), (ϕ 40), (ϕ 41), (ϕ 42), (ϕ 43)])), (a_given, .inl (cI, 144, .inl gv)), (a_holes, .inl (cI, 48, .inl ho)), (a_value, .inl (cI, 540, .inl (mPut vl (9 * nn) (fun c => mVl ho gv a0 (some b0) c) c1))), (a_hole, .inl (cZ, 540, .inl (zZ (va_up (mPut hl_ (9 * nn) (fun c => !mIs ho a0 (some b0) c) c1) (9 * nn + c1) (!mIs ho a0 (some b0) c1))))), (a_first, .inl (cI, 60, .inl (zN fi))), (a_second, .inl (cI, 60, .inl se)), (a_list, .inl (cI, 60, .inl (zN li)))] H := hP
              have hD : va_D A [(o, .inr (9, [(ϕ 0), (ϕ 1), .ref a_given, .ref a_holes, (ϕ 4), (ϕ 5), (ϕ 6), (ϕ 7), (ϕ 8), (ϕ 9), (ϕ 10), (ϕ 11), (ϕ 12), (ϕ 13), (ϕ 14), (ϕ 15), (ϕ 16), (ϕ 17), (ϕ 18), (ϕ 19), (ϕ 20), (ϕ 21), (ϕ 22), (ϕ 23), .int (nI nn), .ref a_value, .ref a_hole, .ref a_first, .ref a_second, .ref a_list, (ϕ 30), (ϕ 31), (ϕ 32), (ϕ 33), (ϕ 34), (ϕ 35), (ϕ 36), (ϕ 37), (ϕ 38), (ϕ 39), (ϕ 40), (ϕ 41), (ϕ 42), (ϕ 43)])), (a_given, .inl (cI, 144, .inl gv)), (a_holes, .inl (cI, 48, .inl ho)), (a_value, .inl (cI, 540, .inl (mPut vl (9 * nn) (fun c => mVl ho gv a0 (some b0) c) c1))), (a_hole, .inl (cZ, 540, .inl (zZ (va_up (mPut hl_ (9 * nn) (fun c => !mIs ho a0 (some b0) c) c1) (9 * nn + c1) (!mIs ho a0 (some b0) c1))))), (a_first, .inl (cI, 60, .inl (zN fi))), (a_second, .inl (cI, 60, .inl se)), (a_list, .inl (cI, 60, .inl (zN li)))] := hD
              refine lv_aload_n hx hb d_Mo_make_88 rfl (lv_at hl 2 rfl) ?_
              refine va_get (C := R_Mo) (T := F_Mo) (N := 44) hx hb hts (fun w h => List.mem_cons_of_mem _ (hin_Mo w h)) hown hK hP 0 rfl rfl 25 (by decide) (hts _ (List.mem_cons_of_mem _ fl_Mo_53)) (fun _ h => h) rfl d_Mo_make_89 ?_
              refine lv_bipush (v := nI 9) hx hb d_Mo_make_92 (by decide) ?_
              refine lv_aload_n hx hb d_Mo_make_94 rfl (lv_at hl 2 rfl) ?_
              refine va_get (C := R_Mo) (T := F_Mo) (N := 44) hx hb hts (fun w h => List.mem_cons_of_mem _ (hin_Mo w h)) hown hK hP 0 rfl rfl 24 (by decide) (hts _ (List.mem_cons_of_mem _ fl_Mo_152)) (fun _ h => h) rfl d_Mo_make_95 ?_
              refine lv_imul hx hb d_Mo_make_98 ?_
              refine zk_topi (show ((nI 9) * (nI nn)) = nI (9 * nn) from pk_mul 9 nn) ?_
              refine lv_iload_n hx hb d_Mo_make_99 rfl (lv_at hl 5 rfl) ?_
              refine lv_iadd hx hb d_Mo_make_100 ?_
              refine zk_topi (show ((nI (9 * nn)) + (nI c1)) = nI (9 * nn + c1) from nI_add (9 * nn) c1) ?_
              refine lv_iload hx hb d_Mo_make_101 (lv_at hl 0 rfl) ?_
              refine zk_ifb_ne (tgt := 110) hx hb d_Mo_make_103 rfl (fun _ => ?_) (fun hq => absurd hq (by decide))
              refine lv_iload hx hb d_Mo_make_110 (lv_at hl 1 rfl) ?_
              refine zk_ifb_eq (tgt := 125) hx hb d_Mo_make_112 rfl (fun _ => ?_) (fun hq => absurd hq (by decide))
              refine lv_aload_n hx hb d_Mo_make_125 rfl (lv_at hl 2 rfl) ?_
              refine lv_iconst (v := nI 1) hx hb d_Mo_make_126 (by decide) ?_
              refine lv_iload_n hx hb d_Mo_make_127 rfl (lv_at hl 4 rfl) ?_
              refine lv_iload_n hx hb d_Mo_make_128 rfl (lv_at hl 5 rfl) ?_
              refine lv_iconst (v := nI 3) hx hb d_Mo_make_129 (by decide) ?_
              refine lv_isub hx hb d_Mo_make_130 ?_
              refine zk_topi (show ((nI c1) - (nI 3)) = nI (c1 - 3) from pk_sub (by omega)) ?_
              have hPc := hP.sub (ws' := [(o, .inr (9, [(ϕ 0), (ϕ 1), .ref a_given, .ref a_holes, (ϕ 4), (ϕ 5), (ϕ 6), (ϕ 7), (ϕ 8), (ϕ 9), (ϕ 10), (ϕ 11), (ϕ 12), (ϕ 13), (ϕ 14), (ϕ 15), (ϕ 16), (ϕ 17), (ϕ 18), (ϕ 19), (ϕ 20), (ϕ 21), (ϕ 22), (ϕ 23), .int (nI nn), .ref a_value, .ref a_hole, .ref a_first, .ref a_second, .ref a_list, (ϕ 30), (ϕ 31), (ϕ 32), (ϕ 33), (ϕ 34), (ϕ 35), (ϕ 36), (ϕ 37), (ϕ 38), (ϕ 39), (ϕ 40), (ϕ 41), (ϕ 42), (ϕ 43)])), (a_given, .inl (cI, 144, .inl gv))]) [0, 1] rfl
              refine zk_ri (va_runV (As := [.int (nI 1), .int (nI b0), .int (nI (c1 - 3))]) (rest := [.int (nI (9 * nn + c1)), .ref a_value]) ⟨hx, hb, hml, hown, hts⟩ (c_Mo_givenValue l D cI cL cZ cW cR o (vp_V [(ϕ 0), (ϕ 1), .ref a_given, .ref a_holes, (ϕ 4), (ϕ 5), (ϕ 6), (ϕ 7), (ϕ 8), (ϕ 9), (ϕ 10), (ϕ 11), (ϕ 12), (ϕ 13), (ϕ 14), (ϕ 15), (ϕ 16), (ϕ 17), (ϕ 18), (ϕ 19), (ϕ 20), (ϕ 21), (ϕ 22), (ϕ 23), .int (nI nn), .ref a_value, .ref a_hole, .ref a_first, .ref a_second, .ref a_list, (ϕ 30), (ϕ 31), (ϕ 32), (ϕ 33), (ϕ 34), (ϕ 35), (ϕ 36), (ϕ 37), (ϕ 38), (ϕ 39), (ϕ 40), (ϕ 41), (ϕ 42), (ϕ 43)]) a_given gv 1 b0 (c1 - 3) (by decide) (by omega) (by omega)) (cwV 3 hts (zk_gV (fun _ h => List.mem_cons_of_mem _ h) ml_Mo_115 im_Mo_givenValue se_Mo_givenValue in_Mo co_Mo_givenValue) rfl rfl rfl ⟨rfl, hd_Mo_givenValue⟩ ⟨Nat.le_of_ble_eq_true rfl, Nat.le_of_ble_eq_true rfl⟩) (zk_vr (q0 := 0) hN hK hPc rfl rfl) rfl rfl hl.1 rfl (lv_room (Nat.le_of_ble_eq_true rfl)) d_Mo_make_131 ⟨Nat.zero_le _, Nat.zero_le _⟩) ?_
              refine zk_topi (show (gv (72 * 1 + 3 * b0 + (c1 - 3))) = mVl ho gv a0 (some b0) c1 from by unfold mVl; rw [← his]; first | rfl | (rw [h103]; first | rfl | exact (if_pos h10).symm | exact (if_neg (by omega)).symm) | (rw [if_pos rfl]; first | exact (if_pos h10).symm | exact (if_neg (by omega)).symm)) ?_
              refine zk_iast hx hb hK hP hD hS 3 0 rfl rfl (by omega) (by omega) d_Mo_make_134 (fun H locs hP hD hS => ?_)
              have hP : va_P D vwCl [(o, .inr (9, [(ϕ 0), (ϕ 1), .ref a_given, .ref a_holes, (ϕ 4), (ϕ 5), (ϕ 6), (ϕ 7), (ϕ 8), (ϕ 9), (ϕ 10), (ϕ 11), (ϕ 12), (ϕ 13), (ϕ 14), (ϕ 15), (ϕ 16), (ϕ 17), (ϕ 18), (ϕ 19), (ϕ 20), (ϕ 21), (ϕ 22), (ϕ 23), .int (nI nn), .ref a_value, .ref a_hole, .ref a_first, .ref a_second, .ref a_list, (ϕ 30), (ϕ 31), (ϕ 32), (ϕ 33), (ϕ 34), (ϕ 35), (ϕ 36), (ϕ 37), (ϕ 38), (ϕ 39), (ϕ 40), (ϕ 41), (ϕ 42), (ϕ 43)])), (a_given, .inl (cI, 144, .inl gv)), (a_holes, .inl (cI, 48, .inl ho)), (a_value, .inl (cI, 540, .inl (upd (mPut vl (9 * nn) (fun c => mVl ho gv a0 (some b0) c) c1) (9 * nn + c1) (mVl ho gv a0 (some b0) c1)))), (a_hole, .inl (cZ, 540, .inl (zZ (va_up (mPut hl_ (9 * nn) (fun c => !mIs ho a0 (some b0) c) c1) (9 * nn + c1) (!mIs ho a0 (some b0) c1))))), (a_first, .inl (cI, 60, .inl (zN fi))), (a_second, .inl (cI, 60, .inl se)), (a_list, .inl (cI, 60, .inl (zN li)))] H := hP
              have hD : va_D A [(o, .inr (9, [(ϕ 0), (ϕ 1), .ref a_given, .ref a_holes, (ϕ 4), (ϕ 5), (ϕ 6), (ϕ 7), (ϕ 8), (ϕ 9), (ϕ 10), (ϕ 11), (ϕ 12), (ϕ 13), (ϕ 14), (ϕ 15), (ϕ 16), (ϕ 17), (ϕ 18), (ϕ 19), (ϕ 20), (ϕ 21), (ϕ 22), (ϕ 23), .int (nI nn), .ref a_value, .ref a_hole, .ref a_first, .ref a_second, .ref a_list, (ϕ 30), (ϕ 31), (ϕ 32), (ϕ 33), (ϕ 34), (ϕ 35), (ϕ 36), (ϕ 37), (ϕ 38), (ϕ 39), (ϕ 40), (ϕ 41), (ϕ 42), (ϕ 43)])), (a_given, .inl (cI, 144, .inl gv)), (a_holes, .inl (cI, 48, .inl ho)), (a_value, .inl (cI, 540, .inl (upd (mPut vl (9 * nn) (fun c => mVl ho gv a0 (some b0) c) c1) (9 * nn + c1) (mVl ho gv a0 (some b0) c1)))), (a_hole, .inl (cZ, 540, .inl (zZ (va_up (mPut hl_ (9 * nn) (fun c => !mIs ho a0 (some b0) c) c1) (9 * nn + c1) (!mIs ho a0 (some b0) c1))))), (a_first, .inl (cI, 60, .inl (zN fi))), (a_second, .inl (cI, 60, .inl se)), (a_list, .inl (cI, 60, .inl (zN li)))] := hD
              refine lv_iinc (k := 5) (v := nI (c1 + 1)) (lv' := [(3, .int (nI (c1 + 1))), (5, .int (zb true)), (4, .int (zb false)), (0, .ref o), (1, .int (nI a0)), (2, .int (nI b0))]) hx hb d_Mo_make_135 hl rfl (nI_add c1 1) (by decide) rfl (fun ls hl => ?_)
              refine lv_goto (tgt := 2) hx hb d_Mo_make_138 rfl ?_
              have hP : va_P D vwCl [(o, .inr (9, [(ϕ 0), (ϕ 1), .ref a_given, .ref a_holes, (ϕ 4), (ϕ 5), (ϕ 6), (ϕ 7), (ϕ 8), (ϕ 9), (ϕ 10), (ϕ 11), (ϕ 12), (ϕ 13), (ϕ 14), (ϕ 15), (ϕ 16), (ϕ 17), (ϕ 18), (ϕ 19), (ϕ 20), (ϕ 21), (ϕ 22), (ϕ 23), .int (nI nn), .ref a_value, .ref a_hole, .ref a_first, .ref a_second, .ref a_list, (ϕ 30), (ϕ 31), (ϕ 32), (ϕ 33), (ϕ 34), (ϕ 35), (ϕ 36), (ϕ 37), (ϕ 38), (ϕ 39), (ϕ 40), (ϕ 41), (ϕ 42), (ϕ 43)])), (a_given, .inl (cI, 144, .inl gv)), (a_holes, .inl (cI, 48, .inl ho)), (a_value, .inl (cI, 540, .inl (mPut vl (9 * nn) (fun c => mVl ho gv a0 (some b0) c) (c1 + 1)))), (a_hole, .inl (cZ, 540, .inl (zZ (mPut hl_ (9 * nn) (fun c => !mIs ho a0 (some b0) c) (c1 + 1))))), (a_first, .inl (cI, 60, .inl (zN fi))), (a_second, .inl (cI, 60, .inl se)), (a_list, .inl (cI, 60, .inl (zN li)))] H := by rw [← mPut_i (f := vl), ← mPut_s (f := hl_)]; exact hP
              have hD : va_D A [(o, .inr (9, [(ϕ 0), (ϕ 1), .ref a_given, .ref a_holes, (ϕ 4), (ϕ 5), (ϕ 6), (ϕ 7), (ϕ 8), (ϕ 9), (ϕ 10), (ϕ 11), (ϕ 12), (ϕ 13), (ϕ 14), (ϕ 15), (ϕ 16), (ϕ 17), (ϕ 18), (ϕ 19), (ϕ 20), (ϕ 21), (ϕ 22), (ϕ 23), .int (nI nn), .ref a_value, .ref a_hole, .ref a_first, .ref a_second, .ref a_list, (ϕ 30), (ϕ 31), (ϕ 32), (ϕ 33), (ϕ 34), (ϕ 35), (ϕ 36), (ϕ 37), (ϕ 38), (ϕ 39), (ϕ 40), (ϕ 41), (ϕ 42), (ϕ 43)])), (a_given, .inl (cI, 144, .inl gv)), (a_holes, .inl (cI, 48, .inl ho)), (a_value, .inl (cI, 540, .inl (mPut vl (9 * nn) (fun c => mVl ho gv a0 (some b0) c) (c1 + 1)))), (a_hole, .inl (cZ, 540, .inl (zZ (mPut hl_ (9 * nn) (fun c => !mIs ho a0 (some b0) c) (c1 + 1))))), (a_first, .inl (cI, 60, .inl (zN fi))), (a_second, .inl (cI, 60, .inl se)), (a_list, .inl (cI, 60, .inl (zN li)))] := by rw [← mPut_i (f := vl), ← mPut_s (f := hl_)]; exact hD
              exact ih2 (c1 + 1) (by omega) (by omega) ls _ _ (lv_sub hl [3, 4, 5, 0] rfl) hP hD hS
        · skip
          refine lv_iconst (v := zb true) hx hb d_Mo_make_13 (by decide) ?_
          refine lv_goto (tgt := 18) hx hb d_Mo_make_14 rfl ?_
          refine lv_istore (lv' := [(4, .int (zb true)), (0, .ref o), (1, .int (nI a0)), (2, .int (nI b0)), (3, .int (nI c1))]) hx hb d_Mo_make_18 hl (by decide) rfl (fun ls hl => ?_)
          refine lv_iload hx hb d_Mo_make_20 (lv_at hl 0 rfl) ?_
          refine zk_ifb_eq (tgt := 35) hx hb d_Mo_make_22 rfl (fun hq => absurd hq (by decide)) (fun _ => ?_)
          refine lv_aload_n hx hb d_Mo_make_25 rfl (lv_at hl 1 rfl) ?_
          refine lv_iconst (v := nI 0) hx hb d_Mo_make_26 (by decide) ?_
          refine lv_iload_n hx hb d_Mo_make_27 rfl (lv_at hl 2 rfl) ?_
          refine lv_iload_n hx hb d_Mo_make_28 rfl (lv_at hl 4 rfl) ?_
          have hPc := hP.sub (ws' := [(o, .inr (9, [(ϕ 0), (ϕ 1), .ref a_given, .ref a_holes, (ϕ 4), (ϕ 5), (ϕ 6), (ϕ 7), (ϕ 8), (ϕ 9), (ϕ 10), (ϕ 11), (ϕ 12), (ϕ 13), (ϕ 14), (ϕ 15), (ϕ 16), (ϕ 17), (ϕ 18), (ϕ 19), (ϕ 20), (ϕ 21), (ϕ 22), (ϕ 23), .int (nI nn), .ref a_value, .ref a_hole, .ref a_first, .ref a_second, .ref a_list, (ϕ 30), (ϕ 31), (ϕ 32), (ϕ 33), (ϕ 34), (ϕ 35), (ϕ 36), (ϕ 37), (ϕ 38), (ϕ 39), (ϕ 40), (ϕ 41), (ϕ 42), (ϕ 43)])), (a_holes, .inl (cI, 48, .inl ho))]) [0, 2] rfl
          refine zk_ri (va_runV (As := [.int (nI 0), .int (nI a0), .int (nI c1)]) (rest := []) ⟨hx, hb, hml, hown, hts⟩ (c_Mo_given l D cI cL cZ cW cR o (vp_V [(ϕ 0), (ϕ 1), .ref a_given, .ref a_holes, (ϕ 4), (ϕ 5), (ϕ 6), (ϕ 7), (ϕ 8), (ϕ 9), (ϕ 10), (ϕ 11), (ϕ 12), (ϕ 13), (ϕ 14), (ϕ 15), (ϕ 16), (ϕ 17), (ϕ 18), (ϕ 19), (ϕ 20), (ϕ 21), (ϕ 22), (ϕ 23), .int (nI nn), .ref a_value, .ref a_hole, .ref a_first, .ref a_second, .ref a_list, (ϕ 30), (ϕ 31), (ϕ 32), (ϕ 33), (ϕ 34), (ϕ 35), (ϕ 36), (ϕ 37), (ϕ 38), (ϕ 39), (ϕ 40), (ϕ 41), (ϕ 42), (ϕ 43)]) a_holes ho 0 a0 c1 (by decide) (by omega) (by omega)) (cwV 3 hts (zk_gV (fun _ h => List.mem_cons_of_mem _ h) ml_Mo_113 im_Mo_given se_Mo_given in_Mo co_Mo_given) rfl rfl rfl ⟨rfl, hd_Mo_given⟩ ⟨Nat.le_of_ble_eq_true rfl, Nat.le_of_ble_eq_true rfl⟩) (zk_vr (q0 := 0) hN hK hPc rfl rfl) rfl rfl hl.1 rfl (lv_room (Nat.le_of_ble_eq_true rfl)) d_Mo_make_29 ⟨Nat.zero_le _, Nat.zero_le _⟩) ?_
          have his : hBit (ho (24 * 0 + a0)) c1 = mIs ho a0 (some b0) c1 := (if_pos h10).symm
          refine lv_goto (tgt := 62) hx hb d_Mo_make_32 rfl ?_
          refine lv_istore (lv' := [(5, .int (zb (hBit (ho (24 * 0 + a0)) c1))), (4, .int (zb true)), (0, .ref o), (1, .int (nI a0)), (2, .int (nI b0)), (3, .int (nI c1))]) hx hb d_Mo_make_62 hl (by decide) rfl (fun ls hl => ?_)
          refine lv_aload_n hx hb d_Mo_make_64 rfl (lv_at hl 2 rfl) ?_
          refine va_get (C := R_Mo) (T := F_Mo) (N := 44) hx hb hts (fun w h => List.mem_cons_of_mem _ (hin_Mo w h)) hown hK hP 0 rfl rfl 26 (by decide) (hts _ (List.mem_cons_of_mem _ fl_Mo_56)) (fun _ h => h) rfl d_Mo_make_65 ?_
          refine lv_bipush (v := nI 9) hx hb d_Mo_make_68 (by decide) ?_
          refine lv_aload_n hx hb d_Mo_make_70 rfl (lv_at hl 2 rfl) ?_
          refine va_get (C := R_Mo) (T := F_Mo) (N := 44) hx hb hts (fun w h => List.mem_cons_of_mem _ (hin_Mo w h)) hown hK hP 0 rfl rfl 24 (by decide) (hts _ (List.mem_cons_of_mem _ fl_Mo_152)) (fun _ h => h) rfl d_Mo_make_71 ?_
          refine lv_imul hx hb d_Mo_make_74 ?_
          refine zk_topi (show ((nI 9) * (nI nn)) = nI (9 * nn) from pk_mul 9 nn) ?_
          refine lv_iload_n hx hb d_Mo_make_75 rfl (lv_at hl 5 rfl) ?_
          refine lv_iadd hx hb d_Mo_make_76 ?_
          refine zk_topi (show ((nI (9 * nn)) + (nI c1)) = nI (9 * nn + c1) from nI_add (9 * nn) c1) ?_
          refine lv_iload hx hb d_Mo_make_77 (lv_at hl 0 rfl) ?_
          refine zk_ifb_ne (tgt := 86) hx hb d_Mo_make_79 rfl (fun h79 => ?_) (fun h79 => ?_)
          · skip
            refine lv_iconst (v := zb false) hx hb d_Mo_make_86 (by decide) ?_
            refine zk_topi (show (zb false) = zb (!mIs ho a0 (some b0) c1) from by rw [← his]; first | (rw [h79]; rfl) | rfl) ?_
            refine zk_bast hx hb hK hP hD hS 4 2 rfl rfl (by omega) (by omega) d_Mo_make_87 (fun H locs hP hD hS => ?_)
            have hP : va_P D vwCl [(o, .inr (9, [(ϕ 0), (ϕ 1), .ref a_given, .ref a_holes, (ϕ 4), (ϕ 5), (ϕ 6), (ϕ 7), (ϕ 8), (ϕ 9), (ϕ 10), (ϕ 11), (ϕ 12), (ϕ 13), (ϕ 14), (ϕ 15), (ϕ 16), (ϕ 17), (ϕ 18), (ϕ 19), (ϕ 20), (ϕ 21), (ϕ 22), (ϕ 23), .int (nI nn), .ref a_value, .ref a_hole, .ref a_first, .ref a_second, .ref a_list, (ϕ 30), (ϕ 31), (ϕ 32), (ϕ 33), (ϕ 34), (ϕ 35), (ϕ 36), (ϕ 37), (ϕ 38), (ϕ 39), (ϕ 40), (ϕ 41), (ϕ 42), (ϕ 43)])), (a_given, .inl (cI, 144, .inl gv)), (a_holes, .inl (cI, 48, .inl ho)), (a_value, .inl (cI, 540, .inl (mPut vl (9 * nn) (fun c => mVl ho gv a0 (some b0) c) c1))), (a_hole, .inl (cZ, 540, .inl (zZ (va_up (mPut hl_ (9 * nn) (fun c => !mIs ho a0 (some b0) c) c1) (9 * nn + c1) (!mIs ho a0 (some b0) c1))))), (a_first, .inl (cI, 60, .inl (zN fi))), (a_second, .inl (cI, 60, .inl se)), (a_list, .inl (cI, 60, .inl (zN li)))] H := hP
            have hD : va_D A [(o, .inr (9, [(ϕ 0), (ϕ 1), .ref a_given, .ref a_holes, (ϕ 4), (ϕ 5), (ϕ 6), (ϕ 7), (ϕ 8), (ϕ 9), (ϕ 10), (ϕ 11), (ϕ 12), (ϕ 13), (ϕ 14), (ϕ 15), (ϕ 16), (ϕ 17), (ϕ 18), (ϕ 19), (ϕ 20), (ϕ 21), (ϕ 22), (ϕ 23), .int (nI nn), .ref a_value, .ref a_hole, .ref a_first, .ref a_second, .ref a_list, (ϕ 30), (ϕ 31), (ϕ 32), (ϕ 33), (ϕ 34), (ϕ 35), (ϕ 36), (ϕ 37), (ϕ 38), (ϕ 39), (ϕ 40), (ϕ 41), (ϕ 42), (ϕ 43)])), (a_given, .inl (cI, 144, .inl gv)), (a_holes, .inl (cI, 48, .inl ho)), (a_value, .inl (cI, 540, .inl (mPut vl (9 * nn) (fun c => mVl ho gv a0 (some b0) c) c1))), (a_hole, .inl (cZ, 540, .inl (zZ (va_up (mPut hl_ (9 * nn) (fun c => !mIs ho a0 (some b0) c) c1) (9 * nn + c1) (!mIs ho a0 (some b0) c1))))), (a_first, .inl (cI, 60, .inl (zN fi))), (a_second, .inl (cI, 60, .inl se)), (a_list, .inl (cI, 60, .inl (zN li)))] := hD
            refine lv_aload_n hx hb d_Mo_make_88 rfl (lv_at hl 2 rfl) ?_
            refine va_get (C := R_Mo) (T := F_Mo) (N := 44) hx hb hts (fun w h => List.mem_cons_of_mem _ (hin_Mo w h)) hown hK hP 0 rfl rfl 25 (by decide) (hts _ (List.mem_cons_of_mem _ fl_Mo_53)) (fun _ h => h) rfl d_Mo_make_89 ?_
            refine lv_bipush (v := nI 9) hx hb d_Mo_make_92 (by decide) ?_
            refine lv_aload_n hx hb d_Mo_make_94 rfl (lv_at hl 2 rfl) ?_
            refine va_get (C := R_Mo) (T := F_Mo) (N := 44) hx hb hts (fun w h => List.mem_cons_of_mem _ (hin_Mo w h)) hown hK hP 0 rfl rfl 24 (by decide) (hts _ (List.mem_cons_of_mem _ fl_Mo_152)) (fun _ h => h) rfl d_Mo_make_95 ?_
            refine lv_imul hx hb d_Mo_make_98 ?_
            refine zk_topi (show ((nI 9) * (nI nn)) = nI (9 * nn) from pk_mul 9 nn) ?_
            refine lv_iload_n hx hb d_Mo_make_99 rfl (lv_at hl 5 rfl) ?_
            refine lv_iadd hx hb d_Mo_make_100 ?_
            refine zk_topi (show ((nI (9 * nn)) + (nI c1)) = nI (9 * nn + c1) from nI_add (9 * nn) c1) ?_
            refine lv_iload hx hb d_Mo_make_101 (lv_at hl 0 rfl) ?_
            refine zk_ifb_ne (tgt := 110) hx hb d_Mo_make_103 rfl (fun h103 => ?_) (fun h103 => ?_)
            · skip
              refine lv_iload hx hb d_Mo_make_110 (lv_at hl 1 rfl) ?_
              refine zk_ifb_eq (tgt := 125) hx hb d_Mo_make_112 rfl (fun hq => absurd hq (by decide)) (fun _ => ?_)
              refine lv_aload_n hx hb d_Mo_make_115 rfl (lv_at hl 2 rfl) ?_
              refine lv_iconst (v := nI 0) hx hb d_Mo_make_116 (by decide) ?_
              refine lv_iload_n hx hb d_Mo_make_117 rfl (lv_at hl 3 rfl) ?_
              refine lv_iload_n hx hb d_Mo_make_118 rfl (lv_at hl 5 rfl) ?_
              have hPc := hP.sub (ws' := [(o, .inr (9, [(ϕ 0), (ϕ 1), .ref a_given, .ref a_holes, (ϕ 4), (ϕ 5), (ϕ 6), (ϕ 7), (ϕ 8), (ϕ 9), (ϕ 10), (ϕ 11), (ϕ 12), (ϕ 13), (ϕ 14), (ϕ 15), (ϕ 16), (ϕ 17), (ϕ 18), (ϕ 19), (ϕ 20), (ϕ 21), (ϕ 22), (ϕ 23), .int (nI nn), .ref a_value, .ref a_hole, .ref a_first, .ref a_second, .ref a_list, (ϕ 30), (ϕ 31), (ϕ 32), (ϕ 33), (ϕ 34), (ϕ 35), (ϕ 36), (ϕ 37), (ϕ 38), (ϕ 39), (ϕ 40), (ϕ 41), (ϕ 42), (ϕ 43)])), (a_given, .inl (cI, 144, .inl gv))]) [0, 1] rfl
              refine zk_ri (va_runV (As := [.int (nI 0), .int (nI a0), .int (nI c1)]) (rest := [.int (nI (9 * nn + c1)), .ref a_value]) ⟨hx, hb, hml, hown, hts⟩ (c_Mo_givenValue l D cI cL cZ cW cR o (vp_V [(ϕ 0), (ϕ 1), .ref a_given, .ref a_holes, (ϕ 4), (ϕ 5), (ϕ 6), (ϕ 7), (ϕ 8), (ϕ 9), (ϕ 10), (ϕ 11), (ϕ 12), (ϕ 13), (ϕ 14), (ϕ 15), (ϕ 16), (ϕ 17), (ϕ 18), (ϕ 19), (ϕ 20), (ϕ 21), (ϕ 22), (ϕ 23), .int (nI nn), .ref a_value, .ref a_hole, .ref a_first, .ref a_second, .ref a_list, (ϕ 30), (ϕ 31), (ϕ 32), (ϕ 33), (ϕ 34), (ϕ 35), (ϕ 36), (ϕ 37), (ϕ 38), (ϕ 39), (ϕ 40), (ϕ 41), (ϕ 42), (ϕ 43)]) a_given gv 0 a0 c1 (by decide) (by omega) (by omega)) (cwV 3 hts (zk_gV (fun _ h => List.mem_cons_of_mem _ h) ml_Mo_115 im_Mo_givenValue se_Mo_givenValue in_Mo co_Mo_givenValue) rfl rfl rfl ⟨rfl, hd_Mo_givenValue⟩ ⟨Nat.le_of_ble_eq_true rfl, Nat.le_of_ble_eq_true rfl⟩) (zk_vr (q0 := 0) hN hK hPc rfl rfl) rfl rfl hl.1 rfl (lv_room (Nat.le_of_ble_eq_true rfl)) d_Mo_make_119 ⟨Nat.zero_le _, Nat.zero_le _⟩) ?_
              refine zk_topi (show (gv (72 * 0 + 3 * a0 + c1)) = mVl ho gv a0 (some b0) c1 from by unfold mVl; rw [← his]; first | rfl | (rw [h103]; first | rfl | exact (if_pos h10).symm | exact (if_neg (by omega)).symm) | (rw [if_pos rfl]; first | exact (if_pos h10).symm | exact (if_neg (by omega)).symm)) ?_
              refine lv_goto (tgt := 134) hx hb d_Mo_make_122 rfl ?_
              refine zk_iast hx hb hK hP hD hS 3 0 rfl rfl (by omega) (by omega) d_Mo_make_134 (fun H locs hP hD hS => ?_)
              have hP : va_P D vwCl [(o, .inr (9, [(ϕ 0), (ϕ 1), .ref a_given, .ref a_holes, (ϕ 4), (ϕ 5), (ϕ 6), (ϕ 7), (ϕ 8), (ϕ 9), (ϕ 10), (ϕ 11), (ϕ 12), (ϕ 13), (ϕ 14), (ϕ 15), (ϕ 16), (ϕ 17), (ϕ 18), (ϕ 19), (ϕ 20), (ϕ 21), (ϕ 22), (ϕ 23), .int (nI nn), .ref a_value, .ref a_hole, .ref a_first, .ref a_second, .ref a_list, (ϕ 30), (ϕ 31), (ϕ 32), (ϕ 33), (ϕ 34), (ϕ 35), (ϕ 36), (ϕ 37), (ϕ 38), (ϕ 39), (ϕ 40), (ϕ 41), (ϕ 42), (ϕ 43)])), (a_given, .inl (cI, 144, .inl gv)), (a_holes, .inl (cI, 48, .inl ho)), (a_value, .inl (cI, 540, .inl (upd (mPut vl (9 * nn) (fun c => mVl ho gv a0 (some b0) c) c1) (9 * nn + c1) (mVl ho gv a0 (some b0) c1)))), (a_hole, .inl (cZ, 540, .inl (zZ (va_up (mPut hl_ (9 * nn) (fun c => !mIs ho a0 (some b0) c) c1) (9 * nn + c1) (!mIs ho a0 (some b0) c1))))), (a_first, .inl (cI, 60, .inl (zN fi))), (a_second, .inl (cI, 60, .inl se)), (a_list, .inl (cI, 60, .inl (zN li)))] H := hP
              have hD : va_D A [(o, .inr (9, [(ϕ 0), (ϕ 1), .ref a_given, .ref a_holes, (ϕ 4), (ϕ 5), (ϕ 6), (ϕ 7), (ϕ 8), (ϕ 9), (ϕ 10), (ϕ 11), (ϕ 12), (ϕ 13), (ϕ 14), (ϕ 15), (ϕ 16), (ϕ 17), (ϕ 18), (ϕ 19), (ϕ 20), (ϕ 21), (ϕ 22), (ϕ 23), .int (nI nn), .ref a_value, .ref a_hole, .ref a_first, .ref a_second, .ref a_list, (ϕ 30), (ϕ 31), (ϕ 32), (ϕ 33), (ϕ 34), (ϕ 35), (ϕ 36), (ϕ 37), (ϕ 38), (ϕ 39), (ϕ 40), (ϕ 41), (ϕ 42), (ϕ 43)])), (a_given, .inl (cI, 144, .inl gv)), (a_holes, .inl (cI, 48, .inl ho)), (a_value, .inl (cI, 540, .inl (upd (mPut vl (9 * nn) (fun c => mVl ho gv a0 (some b0) c) c1) (9 * nn + c1) (mVl ho gv a0 (some b0) c1)))), (a_hole, .inl (cZ, 540, .inl (zZ (va_up (mPut hl_ (9 * nn) (fun c => !mIs ho a0 (some b0) c) c1) (9 * nn + c1) (!mIs ho a0 (some b0) c1))))), (a_first, .inl (cI, 60, .inl (zN fi))), (a_second, .inl (cI, 60, .inl se)), (a_list, .inl (cI, 60, .inl (zN li)))] := hD
              refine lv_iinc (k := 5) (v := nI (c1 + 1)) (lv' := [(3, .int (nI (c1 + 1))), (5, .int (zb (hBit (ho (24 * 0 + a0)) c1))), (4, .int (zb true)), (0, .ref o), (1, .int (nI a0)), (2, .int (nI b0))]) hx hb d_Mo_make_135 hl rfl (nI_add c1 1) (by decide) rfl (fun ls hl => ?_)
              refine lv_goto (tgt := 2) hx hb d_Mo_make_138 rfl ?_
              have hP : va_P D vwCl [(o, .inr (9, [(ϕ 0), (ϕ 1), .ref a_given, .ref a_holes, (ϕ 4), (ϕ 5), (ϕ 6), (ϕ 7), (ϕ 8), (ϕ 9), (ϕ 10), (ϕ 11), (ϕ 12), (ϕ 13), (ϕ 14), (ϕ 15), (ϕ 16), (ϕ 17), (ϕ 18), (ϕ 19), (ϕ 20), (ϕ 21), (ϕ 22), (ϕ 23), .int (nI nn), .ref a_value, .ref a_hole, .ref a_first, .ref a_second, .ref a_list, (ϕ 30), (ϕ 31), (ϕ 32), (ϕ 33), (ϕ 34), (ϕ 35), (ϕ 36), (ϕ 37), (ϕ 38), (ϕ 39), (ϕ 40), (ϕ 41), (ϕ 42), (ϕ 43)])), (a_given, .inl (cI, 144, .inl gv)), (a_holes, .inl (cI, 48, .inl ho)), (a_value, .inl (cI, 540, .inl (mPut vl (9 * nn) (fun c => mVl ho gv a0 (some b0) c) (c1 + 1)))), (a_hole, .inl (cZ, 540, .inl (zZ (mPut hl_ (9 * nn) (fun c => !mIs ho a0 (some b0) c) (c1 + 1))))), (a_first, .inl (cI, 60, .inl (zN fi))), (a_second, .inl (cI, 60, .inl se)), (a_list, .inl (cI, 60, .inl (zN li)))] H := by rw [← mPut_i (f := vl), ← mPut_s (f := hl_)]; exact hP
              have hD : va_D A [(o, .inr (9, [(ϕ 0), (ϕ 1), .ref a_given, .ref a_holes, (ϕ 4), (ϕ 5), (ϕ 6), (ϕ 7), (ϕ 8), (ϕ 9), (ϕ 10), (ϕ 11), (ϕ 12), (ϕ 13), (ϕ 14), (ϕ 15), (ϕ 16), (ϕ 17), (ϕ 18), (ϕ 19), (ϕ 20), (ϕ 21), (ϕ 22), (ϕ 23), .int (nI nn), .ref a_value, .ref a_hole, .ref a_first, .ref a_second, .ref a_list, (ϕ 30), (ϕ 31), (ϕ 32), (ϕ 33), (ϕ 34), (ϕ 35), (ϕ 36), (ϕ 37), (ϕ 38), (ϕ 39), (ϕ 40), (ϕ 41), (ϕ 42), (ϕ 43)])), (a_given, .inl (cI, 144, .inl gv)), (a_holes, .inl (cI, 48, .inl ho)), (a_value, .inl (cI, 540, .inl (mPut vl (9 * nn) (fun c => mVl ho gv a0 (some b0) c) (c1 + 1)))), (a_hole, .inl (cZ, 540, .inl (zZ (mPut hl_ (9 * nn) (fun c => !mIs ho a0 (some b0) c) (c1 + 1))))), (a_first, .inl (cI, 60, .inl (zN fi))), (a_second, .inl (cI, 60, .inl se)), (a_list, .inl (cI, 60, .inl (zN li)))] := by rw [← mPut_i (f := vl), ← mPut_s (f := hl_)]; exact hD
              exact ih2 (c1 + 1) (by omega) (by omega) ls _ _ (lv_sub hl [3, 4, 5, 0] rfl) hP hD hS
            · skip
              refine lv_iconst (v := nI 0) hx hb d_Mo_make_106 (by decide) ?_
              refine zk_topi (show (nI 0) = mVl ho gv a0 (some b0) c1 from by unfold mVl; rw [← his]; first | rfl | (rw [h103]; first | rfl | exact (if_pos h10).symm | exact (if_neg (by omega)).symm) | (rw [if_pos rfl]; first | exact (if_pos h10).symm | exact (if_neg (by omega)).symm)) ?_
              refine lv_goto (tgt := 134) hx hb d_Mo_make_107 rfl ?_
              refine zk_iast hx hb hK hP hD hS 3 0 rfl rfl (by omega) (by omega) d_Mo_make_134 (fun H locs hP hD hS => ?_)
              have hP : va_P D vwCl [(o, .inr (9, [(ϕ 0), (ϕ 1), .ref a_given, .ref a_holes, (ϕ 4), (ϕ 5), (ϕ 6), (ϕ 7), (ϕ 8), (ϕ 9), (ϕ 10), (ϕ 11), (ϕ 12), (ϕ 13), (ϕ 14), (ϕ 15), (ϕ 16), (ϕ 17), (ϕ 18), (ϕ 19), (ϕ 20), (ϕ 21), (ϕ 22), (ϕ 23), .int (nI nn), .ref a_value, .ref a_hole, .ref a_first, .ref a_second, .ref a_list, (ϕ 30), (ϕ 31), (ϕ 32), (ϕ 33), (ϕ 34), (ϕ 35), (ϕ 36), (ϕ 37), (ϕ 38), (ϕ 39), (ϕ 40), (ϕ 41), (ϕ 42), (ϕ 43)])), (a_given, .inl (cI, 144, .inl gv)), (a_holes, .inl (cI, 48, .inl ho)), (a_value, .inl (cI, 540, .inl (upd (mPut vl (9 * nn) (fun c => mVl ho gv a0 (some b0) c) c1) (9 * nn + c1) (mVl ho gv a0 (some b0) c1)))), (a_hole, .inl (cZ, 540, .inl (zZ (va_up (mPut hl_ (9 * nn) (fun c => !mIs ho a0 (some b0) c) c1) (9 * nn + c1) (!mIs ho a0 (some b0) c1))))), (a_first, .inl (cI, 60, .inl (zN fi))), (a_second, .inl (cI, 60, .inl se)), (a_list, .inl (cI, 60, .inl (zN li)))] H := hP
              have hD : va_D A [(o, .inr (9, [(ϕ 0), (ϕ 1), .ref a_given, .ref a_holes, (ϕ 4), (ϕ 5), (ϕ 6), (ϕ 7), (ϕ 8), (ϕ 9), (ϕ 10), (ϕ 11), (ϕ 12), (ϕ 13), (ϕ 14), (ϕ 15), (ϕ 16), (ϕ 17), (ϕ 18), (ϕ 19), (ϕ 20), (ϕ 21), (ϕ 22), (ϕ 23), .int (nI nn), .ref a_value, .ref a_hole, .ref a_first, .ref a_second, .ref a_list, (ϕ 30), (ϕ 31), (ϕ 32), (ϕ 33), (ϕ 34), (ϕ 35), (ϕ 36), (ϕ 37), (ϕ 38), (ϕ 39), (ϕ 40), (ϕ 41), (ϕ 42), (ϕ 43)])), (a_given, .inl (cI, 144, .inl gv)), (a_holes, .inl (cI, 48, .inl ho)), (a_value, .inl (cI, 540, .inl (upd (mPut vl (9 * nn) (fun c => mVl ho gv a0 (some b0) c) c1) (9 * nn + c1) (mVl ho gv a0 (some b0) c1)))), (a_hole, .inl (cZ, 540, .inl (zZ (va_up (mPut hl_ (9 * nn) (fun c => !mIs ho a0 (some b0) c) c1) (9 * nn + c1) (!mIs ho a0 (some b0) c1))))), (a_first, .inl (cI, 60, .inl (zN fi))), (a_second, .inl (cI, 60, .inl se)), (a_list, .inl (cI, 60, .inl (zN li)))] := hD
              refine lv_iinc (k := 5) (v := nI (c1 + 1)) (lv' := [(3, .int (nI (c1 + 1))), (5, .int (zb (hBit (ho (24 * 0 + a0)) c1))), (4, .int (zb true)), (0, .ref o), (1, .int (nI a0)), (2, .int (nI b0))]) hx hb d_Mo_make_135 hl rfl (nI_add c1 1) (by decide) rfl (fun ls hl => ?_)
              refine lv_goto (tgt := 2) hx hb d_Mo_make_138 rfl ?_
              have hP : va_P D vwCl [(o, .inr (9, [(ϕ 0), (ϕ 1), .ref a_given, .ref a_holes, (ϕ 4), (ϕ 5), (ϕ 6), (ϕ 7), (ϕ 8), (ϕ 9), (ϕ 10), (ϕ 11), (ϕ 12), (ϕ 13), (ϕ 14), (ϕ 15), (ϕ 16), (ϕ 17), (ϕ 18), (ϕ 19), (ϕ 20), (ϕ 21), (ϕ 22), (ϕ 23), .int (nI nn), .ref a_value, .ref a_hole, .ref a_first, .ref a_second, .ref a_list, (ϕ 30), (ϕ 31), (ϕ 32), (ϕ 33), (ϕ 34), (ϕ 35), (ϕ 36), (ϕ 37), (ϕ 38), (ϕ 39), (ϕ 40), (ϕ 41), (ϕ 42), (ϕ 43)])), (a_given, .inl (cI, 144, .inl gv)), (a_holes, .inl (cI, 48, .inl ho)), (a_value, .inl (cI, 540, .inl (mPut vl (9 * nn) (fun c => mVl ho gv a0 (some b0) c) (c1 + 1)))), (a_hole, .inl (cZ, 540, .inl (zZ (mPut hl_ (9 * nn) (fun c => !mIs ho a0 (some b0) c) (c1 + 1))))), (a_first, .inl (cI, 60, .inl (zN fi))), (a_second, .inl (cI, 60, .inl se)), (a_list, .inl (cI, 60, .inl (zN li)))] H := by rw [← mPut_i (f := vl), ← mPut_s (f := hl_)]; exact hP
              have hD : va_D A [(o, .inr (9, [(ϕ 0), (ϕ 1), .ref a_given, .ref a_holes, (ϕ 4), (ϕ 5), (ϕ 6), (ϕ 7), (ϕ 8), (ϕ 9), (ϕ 10), (ϕ 11), (ϕ 12), (ϕ 13), (ϕ 14), (ϕ 15), (ϕ 16), (ϕ 17), (ϕ 18), (ϕ 19), (ϕ 20), (ϕ 21), (ϕ 22), (ϕ 23), .int (nI nn), .ref a_value, .ref a_hole, .ref a_first, .ref a_second, .ref a_list, (ϕ 30), (ϕ 31), (ϕ 32), (ϕ 33), (ϕ 34), (ϕ 35), (ϕ 36), (ϕ 37), (ϕ 38), (ϕ 39), (ϕ 40), (ϕ 41), (ϕ 42), (ϕ 43)])), (a_given, .inl (cI, 144, .inl gv)), (a_holes, .inl (cI, 48, .inl ho)), (a_value, .inl (cI, 540, .inl (mPut vl (9 * nn) (fun c => mVl ho gv a0 (some b0) c) (c1 + 1)))), (a_hole, .inl (cZ, 540, .inl (zZ (mPut hl_ (9 * nn) (fun c => !mIs ho a0 (some b0) c) (c1 + 1))))), (a_first, .inl (cI, 60, .inl (zN fi))), (a_second, .inl (cI, 60, .inl se)), (a_list, .inl (cI, 60, .inl (zN li)))] := by rw [← mPut_i (f := vl), ← mPut_s (f := hl_)]; exact hD
              exact ih2 (c1 + 1) (by omega) (by omega) ls _ _ (lv_sub hl [3, 4, 5, 0] rfl) hP hD hS
          · skip
            refine lv_iconst (v := zb true) hx hb d_Mo_make_82 (by decide) ?_
            refine zk_topi (show (zb true) = zb (!mIs ho a0 (some b0) c1) from by rw [← his]; first | (rw [h79]; rfl) | rfl) ?_
            refine lv_goto (tgt := 87) hx hb d_Mo_make_83 rfl ?_
            refine zk_bast hx hb hK hP hD hS 4 2 rfl rfl (by omega) (by omega) d_Mo_make_87 (fun H locs hP hD hS => ?_)
            have hP : va_P D vwCl [(o, .inr (9, [(ϕ 0), (ϕ 1), .ref a_given, .ref a_holes, (ϕ 4), (ϕ 5), (ϕ 6), (ϕ 7), (ϕ 8), (ϕ 9), (ϕ 10), (ϕ 11), (ϕ 12), (ϕ 13), (ϕ 14), (ϕ 15), (ϕ 16), (ϕ 17), (ϕ 18), (ϕ 19), (ϕ 20), (ϕ 21), (ϕ 22), (ϕ 23), .int (nI nn), .ref a_value, .ref a_hole, .ref a_first, .ref a_second, .ref a_list, (ϕ 30), (ϕ 31), (ϕ 32), (ϕ 33), (ϕ 34), (ϕ 35), (ϕ 36), (ϕ 37), (ϕ 38), (ϕ 39), (ϕ 40), (ϕ 41), (ϕ 42), (ϕ 43)])), (a_given, .inl (cI, 144, .inl gv)), (a_holes, .inl (cI, 48, .inl ho)), (a_value, .inl (cI, 540, .inl (mPut vl (9 * nn) (fun c => mVl ho gv a0 (some b0) c) c1))), (a_hole, .inl (cZ, 540, .inl (zZ (va_up (mPut hl_ (9 * nn) (fun c => !mIs ho a0 (some b0) c) c1) (9 * nn + c1) (!mIs ho a0 (some b0) c1))))), (a_first, .inl (cI, 60, .inl (zN fi))), (a_second, .inl (cI, 60, .inl se)), (a_list, .inl (cI, 60, .inl (zN li)))] H := hP
            have hD : va_D A [(o, .inr (9, [(ϕ 0), (ϕ 1), .ref a_given, .ref a_holes, (ϕ 4), (ϕ 5), (ϕ 6), (ϕ 7), (ϕ 8), (ϕ 9), (ϕ 10), (ϕ 11), (ϕ 12), (ϕ 13), (ϕ 14), (ϕ 15), (ϕ 16), (ϕ 17), (ϕ 18), (ϕ 19), (ϕ 20), (ϕ 21), (ϕ 22), (ϕ 23), .int (nI nn), .ref a_value, .ref a_hole, .ref a_first, .ref a_second, .ref a_list, (ϕ 30), (ϕ 31), (ϕ 32), (ϕ 33), (ϕ 34), (ϕ 35), (ϕ 36), (ϕ 37), (ϕ 38), (ϕ 39), (ϕ 40), (ϕ 41), (ϕ 42), (ϕ 43)])), (a_given, .inl (cI, 144, .inl gv)), (a_holes, .inl (cI, 48, .inl ho)), (a_value, .inl (cI, 540, .inl (mPut vl (9 * nn) (fun c => mVl ho gv a0 (some b0) c) c1))), (a_hole, .inl (cZ, 540, .inl (zZ (va_up (mPut hl_ (9 * nn) (fun c => !mIs ho a0 (some b0) c) c1) (9 * nn + c1) (!mIs ho a0 (some b0) c1))))), (a_first, .inl (cI, 60, .inl (zN fi))), (a_second, .inl (cI, 60, .inl se)), (a_list, .inl (cI, 60, .inl (zN li)))] := hD
            refine lv_aload_n hx hb d_Mo_make_88 rfl (lv_at hl 2 rfl) ?_
            refine va_get (C := R_Mo) (T := F_Mo) (N := 44) hx hb hts (fun w h => List.mem_cons_of_mem _ (hin_Mo w h)) hown hK hP 0 rfl rfl 25 (by decide) (hts _ (List.mem_cons_of_mem _ fl_Mo_53)) (fun _ h => h) rfl d_Mo_make_89 ?_
            refine lv_bipush (v := nI 9) hx hb d_Mo_make_92 (by decide) ?_
            refine lv_aload_n hx hb d_Mo_make_94 rfl (lv_at hl 2 rfl) ?_
            refine va_get (C := R_Mo) (T := F_Mo) (N := 44) hx hb hts (fun w h => List.mem_cons_of_mem _ (hin_Mo w h)) hown hK hP 0 rfl rfl 24 (by decide) (hts _ (List.mem_cons_of_mem _ fl_Mo_152)) (fun _ h => h) rfl d_Mo_make_95 ?_
            refine lv_imul hx hb d_Mo_make_98 ?_
            refine zk_topi (show ((nI 9) * (nI nn)) = nI (9 * nn) from pk_mul 9 nn) ?_
            refine lv_iload_n hx hb d_Mo_make_99 rfl (lv_at hl 5 rfl) ?_
            refine lv_iadd hx hb d_Mo_make_100 ?_
            refine zk_topi (show ((nI (9 * nn)) + (nI c1)) = nI (9 * nn + c1) from nI_add (9 * nn) c1) ?_
            refine lv_iload hx hb d_Mo_make_101 (lv_at hl 0 rfl) ?_
            refine zk_ifb_ne (tgt := 110) hx hb d_Mo_make_103 rfl (fun h103 => ?_) (fun h103 => ?_)
            · skip
              refine lv_iload hx hb d_Mo_make_110 (lv_at hl 1 rfl) ?_
              refine zk_ifb_eq (tgt := 125) hx hb d_Mo_make_112 rfl (fun hq => absurd hq (by decide)) (fun _ => ?_)
              refine lv_aload_n hx hb d_Mo_make_115 rfl (lv_at hl 2 rfl) ?_
              refine lv_iconst (v := nI 0) hx hb d_Mo_make_116 (by decide) ?_
              refine lv_iload_n hx hb d_Mo_make_117 rfl (lv_at hl 3 rfl) ?_
              refine lv_iload_n hx hb d_Mo_make_118 rfl (lv_at hl 5 rfl) ?_
              have hPc := hP.sub (ws' := [(o, .inr (9, [(ϕ 0), (ϕ 1), .ref a_given, .ref a_holes, (ϕ 4), (ϕ 5), (ϕ 6), (ϕ 7), (ϕ 8), (ϕ 9), (ϕ 10), (ϕ 11), (ϕ 12), (ϕ 13), (ϕ 14), (ϕ 15), (ϕ 16), (ϕ 17), (ϕ 18), (ϕ 19), (ϕ 20), (ϕ 21), (ϕ 22), (ϕ 23), .int (nI nn), .ref a_value, .ref a_hole, .ref a_first, .ref a_second, .ref a_list, (ϕ 30), (ϕ 31), (ϕ 32), (ϕ 33), (ϕ 34), (ϕ 35), (ϕ 36), (ϕ 37), (ϕ 38), (ϕ 39), (ϕ 40), (ϕ 41), (ϕ 42), (ϕ 43)])), (a_given, .inl (cI, 144, .inl gv))]) [0, 1] rfl
              refine zk_ri (va_runV (As := [.int (nI 0), .int (nI a0), .int (nI c1)]) (rest := [.int (nI (9 * nn + c1)), .ref a_value]) ⟨hx, hb, hml, hown, hts⟩ (c_Mo_givenValue l D cI cL cZ cW cR o (vp_V [(ϕ 0), (ϕ 1), .ref a_given, .ref a_holes, (ϕ 4), (ϕ 5), (ϕ 6), (ϕ 7), (ϕ 8), (ϕ 9), (ϕ 10), (ϕ 11), (ϕ 12), (ϕ 13), (ϕ 14), (ϕ 15), (ϕ 16), (ϕ 17), (ϕ 18), (ϕ 19), (ϕ 20), (ϕ 21), (ϕ 22), (ϕ 23), .int (nI nn), .ref a_value, .ref a_hole, .ref a_first, .ref a_second, .ref a_list, (ϕ 30), (ϕ 31), (ϕ 32), (ϕ 33), (ϕ 34), (ϕ 35), (ϕ 36), (ϕ 37), (ϕ 38), (ϕ 39), (ϕ 40), (ϕ 41), (ϕ 42), (ϕ 43)]) a_given gv 0 a0 c1 (by decide) (by omega) (by omega)) (cwV 3 hts (zk_gV (fun _ h => List.mem_cons_of_mem _ h) ml_Mo_115 im_Mo_givenValue se_Mo_givenValue in_Mo co_Mo_givenValue) rfl rfl rfl ⟨rfl, hd_Mo_givenValue⟩ ⟨Nat.le_of_ble_eq_true rfl, Nat.le_of_ble_eq_true rfl⟩) (zk_vr (q0 := 0) hN hK hPc rfl rfl) rfl rfl hl.1 rfl (lv_room (Nat.le_of_ble_eq_true rfl)) d_Mo_make_119 ⟨Nat.zero_le _, Nat.zero_le _⟩) ?_
              refine zk_topi (show (gv (72 * 0 + 3 * a0 + c1)) = mVl ho gv a0 (some b0) c1 from by unfold mVl; rw [← his]; first | rfl | (rw [h103]; first | rfl | exact (if_pos h10).symm | exact (if_neg (by omega)).symm) | (rw [if_pos rfl]; first | exact (if_pos h10).symm | exact (if_neg (by omega)).symm)) ?_
              refine lv_goto (tgt := 134) hx hb d_Mo_make_122 rfl ?_
              refine zk_iast hx hb hK hP hD hS 3 0 rfl rfl (by omega) (by omega) d_Mo_make_134 (fun H locs hP hD hS => ?_)
              have hP : va_P D vwCl [(o, .inr (9, [(ϕ 0), (ϕ 1), .ref a_given, .ref a_holes, (ϕ 4), (ϕ 5), (ϕ 6), (ϕ 7), (ϕ 8), (ϕ 9), (ϕ 10), (ϕ 11), (ϕ 12), (ϕ 13), (ϕ 14), (ϕ 15), (ϕ 16), (ϕ 17), (ϕ 18), (ϕ 19), (ϕ 20), (ϕ 21), (ϕ 22), (ϕ 23), .int (nI nn), .ref a_value, .ref a_hole, .ref a_first, .ref a_second, .ref a_list, (ϕ 30), (ϕ 31), (ϕ 32), (ϕ 33), (ϕ 34), (ϕ 35), (ϕ 36), (ϕ 37), (ϕ 38), (ϕ 39), (ϕ 40), (ϕ 41), (ϕ 42), (ϕ 43)])), (a_given, .inl (cI, 144, .inl gv)), (a_holes, .inl (cI, 48, .inl ho)), (a_value, .inl (cI, 540, .inl (upd (mPut vl (9 * nn) (fun c => mVl ho gv a0 (some b0) c) c1) (9 * nn + c1) (mVl ho gv a0 (some b0) c1)))), (a_hole, .inl (cZ, 540, .inl (zZ (va_up (mPut hl_ (9 * nn) (fun c => !mIs ho a0 (some b0) c) c1) (9 * nn + c1) (!mIs ho a0 (some b0) c1))))), (a_first, .inl (cI, 60, .inl (zN fi))), (a_second, .inl (cI, 60, .inl se)), (a_list, .inl (cI, 60, .inl (zN li)))] H := hP
              have hD : va_D A [(o, .inr (9, [(ϕ 0), (ϕ 1), .ref a_given, .ref a_holes, (ϕ 4), (ϕ 5), (ϕ 6), (ϕ 7), (ϕ 8), (ϕ 9), (ϕ 10), (ϕ 11), (ϕ 12), (ϕ 13), (ϕ 14), (ϕ 15), (ϕ 16), (ϕ 17), (ϕ 18), (ϕ 19), (ϕ 20), (ϕ 21), (ϕ 22), (ϕ 23), .int (nI nn), .ref a_value, .ref a_hole, .ref a_first, .ref a_second, .ref a_list, (ϕ 30), (ϕ 31), (ϕ 32), (ϕ 33), (ϕ 34), (ϕ 35), (ϕ 36), (ϕ 37), (ϕ 38), (ϕ 39), (ϕ 40), (ϕ 41), (ϕ 42), (ϕ 43)])), (a_given, .inl (cI, 144, .inl gv)), (a_holes, .inl (cI, 48, .inl ho)), (a_value, .inl (cI, 540, .inl (upd (mPut vl (9 * nn) (fun c => mVl ho gv a0 (some b0) c) c1) (9 * nn + c1) (mVl ho gv a0 (some b0) c1)))), (a_hole, .inl (cZ, 540, .inl (zZ (va_up (mPut hl_ (9 * nn) (fun c => !mIs ho a0 (some b0) c) c1) (9 * nn + c1) (!mIs ho a0 (some b0) c1))))), (a_first, .inl (cI, 60, .inl (zN fi))), (a_second, .inl (cI, 60, .inl se)), (a_list, .inl (cI, 60, .inl (zN li)))] := hD
              refine lv_iinc (k := 5) (v := nI (c1 + 1)) (lv' := [(3, .int (nI (c1 + 1))), (5, .int (zb (hBit (ho (24 * 0 + a0)) c1))), (4, .int (zb true)), (0, .ref o), (1, .int (nI a0)), (2, .int (nI b0))]) hx hb d_Mo_make_135 hl rfl (nI_add c1 1) (by decide) rfl (fun ls hl => ?_)
              refine lv_goto (tgt := 2) hx hb d_Mo_make_138 rfl ?_
              have hP : va_P D vwCl [(o, .inr (9, [(ϕ 0), (ϕ 1), .ref a_given, .ref a_holes, (ϕ 4), (ϕ 5), (ϕ 6), (ϕ 7), (ϕ 8), (ϕ 9), (ϕ 10), (ϕ 11), (ϕ 12), (ϕ 13), (ϕ 14), (ϕ 15), (ϕ 16), (ϕ 17), (ϕ 18), (ϕ 19), (ϕ 20), (ϕ 21), (ϕ 22), (ϕ 23), .int (nI nn), .ref a_value, .ref a_hole, .ref a_first, .ref a_second, .ref a_list, (ϕ 30), (ϕ 31), (ϕ 32), (ϕ 33), (ϕ 34), (ϕ 35), (ϕ 36), (ϕ 37), (ϕ 38), (ϕ 39), (ϕ 40), (ϕ 41), (ϕ 42), (ϕ 43)])), (a_given, .inl (cI, 144, .inl gv)), (a_holes, .inl (cI, 48, .inl ho)), (a_value, .inl (cI, 540, .inl (mPut vl (9 * nn) (fun c => mVl ho gv a0 (some b0) c) (c1 + 1)))), (a_hole, .inl (cZ, 540, .inl (zZ (mPut hl_ (9 * nn) (fun c => !mIs ho a0 (some b0) c) (c1 + 1))))), (a_first, .inl (cI, 60, .inl (zN fi))), (a_second, .inl (cI, 60, .inl se)), (a_list, .inl (cI, 60, .inl (zN li)))] H := by rw [← mPut_i (f := vl), ← mPut_s (f := hl_)]; exact hP
              have hD : va_D A [(o, .inr (9, [(ϕ 0), (ϕ 1), .ref a_given, .ref a_holes, (ϕ 4), (ϕ 5), (ϕ 6), (ϕ 7), (ϕ 8), (ϕ 9), (ϕ 10), (ϕ 11), (ϕ 12), (ϕ 13), (ϕ 14), (ϕ 15), (ϕ 16), (ϕ 17), (ϕ 18), (ϕ 19), (ϕ 20), (ϕ 21), (ϕ 22), (ϕ 23), .int (nI nn), .ref a_value, .ref a_hole, .ref a_first, .ref a_second, .ref a_list, (ϕ 30), (ϕ 31), (ϕ 32), (ϕ 33), (ϕ 34), (ϕ 35), (ϕ 36), (ϕ 37), (ϕ 38), (ϕ 39), (ϕ 40), (ϕ 41), (ϕ 42), (ϕ 43)])), (a_given, .inl (cI, 144, .inl gv)), (a_holes, .inl (cI, 48, .inl ho)), (a_value, .inl (cI, 540, .inl (mPut vl (9 * nn) (fun c => mVl ho gv a0 (some b0) c) (c1 + 1)))), (a_hole, .inl (cZ, 540, .inl (zZ (mPut hl_ (9 * nn) (fun c => !mIs ho a0 (some b0) c) (c1 + 1))))), (a_first, .inl (cI, 60, .inl (zN fi))), (a_second, .inl (cI, 60, .inl se)), (a_list, .inl (cI, 60, .inl (zN li)))] := by rw [← mPut_i (f := vl), ← mPut_s (f := hl_)]; exact hD
              exact ih2 (c1 + 1) (by omega) (by omega) ls _ _ (lv_sub hl [3, 4, 5, 0] rfl) hP hD hS
            · skip
              refine lv_iconst (v := nI 0) hx hb d_Mo_make_106 (by decide) ?_
              refine zk_topi (show (nI 0) = mVl ho gv a0 (some b0) c1 from by unfold mVl; rw [← his]; first | rfl | (rw [h103]; first | rfl | exact (if_pos h10).symm | exact (if_neg (by omega)).symm) | (rw [if_pos rfl]; first | exact (if_pos h10).symm | exact (if_neg (by omega)).symm)) ?_
              refine lv_goto (tgt := 134) hx hb d_Mo_make_107 rfl ?_
              refine zk_iast hx hb hK hP hD hS 3 0 rfl rfl (by omega) (by omega) d_Mo_make_134 (fun H locs hP hD hS => ?_)
              have hP : va_P D vwCl [(o, .inr (9, [(ϕ 0), (ϕ 1), .ref a_given, .ref a_holes, (ϕ 4), (ϕ 5), (ϕ 6), (ϕ 7), (ϕ 8), (ϕ 9), (ϕ 10), (ϕ 11), (ϕ 12), (ϕ 13), (ϕ 14), (ϕ 15), (ϕ 16), (ϕ 17), (ϕ 18), (ϕ 19), (ϕ 20), (ϕ 21), (ϕ 22), (ϕ 23), .int (nI nn), .ref a_value, .ref a_hole, .ref a_first, .ref a_second, .ref a_list, (ϕ 30), (ϕ 31), (ϕ 32), (ϕ 33), (ϕ 34), (ϕ 35), (ϕ 36), (ϕ 37), (ϕ 38), (ϕ 39), (ϕ 40), (ϕ 41), (ϕ 42), (ϕ 43)])), (a_given, .inl (cI, 144, .inl gv)), (a_holes, .inl (cI, 48, .inl ho)), (a_value, .inl (cI, 540, .inl (upd (mPut vl (9 * nn) (fun c => mVl ho gv a0 (some b0) c) c1) (9 * nn + c1) (mVl ho gv a0 (some b0) c1)))), (a_hole, .inl (cZ, 540, .inl (zZ (va_up (mPut hl_ (9 * nn) (fun c => !mIs ho a0 (some b0) c) c1) (9 * nn + c1) (!mIs ho a0 (some b0) c1))))), (a_first, .inl (cI, 60, .inl (zN fi))), (a_second, .inl (cI, 60, .inl se)), (a_list, .inl (cI, 60, .inl (zN li)))] H := hP
              have hD : va_D A [(o, .inr (9, [(ϕ 0), (ϕ 1), .ref a_given, .ref a_holes, (ϕ 4), (ϕ 5), (ϕ 6), (ϕ 7), (ϕ 8), (ϕ 9), (ϕ 10), (ϕ 11), (ϕ 12), (ϕ 13), (ϕ 14), (ϕ 15), (ϕ 16), (ϕ 17), (ϕ 18), (ϕ 19), (ϕ 20), (ϕ 21), (ϕ 22), (ϕ 23), .int (nI nn), .ref a_value, .ref a_hole, .ref a_first, .ref a_second, .ref a_list, (ϕ 30), (ϕ 31), (ϕ 32), (ϕ 33), (ϕ 34), (ϕ 35), (ϕ 36), (ϕ 37), (ϕ 38), (ϕ 39), (ϕ 40), (ϕ 41), (ϕ 42), (ϕ 43)])), (a_given, .inl (cI, 144, .inl gv)), (a_holes, .inl (cI, 48, .inl ho)), (a_value, .inl (cI, 540, .inl (upd (mPut vl (9 * nn) (fun c => mVl ho gv a0 (some b0) c) c1) (9 * nn + c1) (mVl ho gv a0 (some b0) c1)))), (a_hole, .inl (cZ, 540, .inl (zZ (va_up (mPut hl_ (9 * nn) (fun c => !mIs ho a0 (some b0) c) c1) (9 * nn + c1) (!mIs ho a0 (some b0) c1))))), (a_first, .inl (cI, 60, .inl (zN fi))), (a_second, .inl (cI, 60, .inl se)), (a_list, .inl (cI, 60, .inl (zN li)))] := hD
              refine lv_iinc (k := 5) (v := nI (c1 + 1)) (lv' := [(3, .int (nI (c1 + 1))), (5, .int (zb (hBit (ho (24 * 0 + a0)) c1))), (4, .int (zb true)), (0, .ref o), (1, .int (nI a0)), (2, .int (nI b0))]) hx hb d_Mo_make_135 hl rfl (nI_add c1 1) (by decide) rfl (fun ls hl => ?_)
              refine lv_goto (tgt := 2) hx hb d_Mo_make_138 rfl ?_
              have hP : va_P D vwCl [(o, .inr (9, [(ϕ 0), (ϕ 1), .ref a_given, .ref a_holes, (ϕ 4), (ϕ 5), (ϕ 6), (ϕ 7), (ϕ 8), (ϕ 9), (ϕ 10), (ϕ 11), (ϕ 12), (ϕ 13), (ϕ 14), (ϕ 15), (ϕ 16), (ϕ 17), (ϕ 18), (ϕ 19), (ϕ 20), (ϕ 21), (ϕ 22), (ϕ 23), .int (nI nn), .ref a_value, .ref a_hole, .ref a_first, .ref a_second, .ref a_list, (ϕ 30), (ϕ 31), (ϕ 32), (ϕ 33), (ϕ 34), (ϕ 35), (ϕ 36), (ϕ 37), (ϕ 38), (ϕ 39), (ϕ 40), (ϕ 41), (ϕ 42), (ϕ 43)])), (a_given, .inl (cI, 144, .inl gv)), (a_holes, .inl (cI, 48, .inl ho)), (a_value, .inl (cI, 540, .inl (mPut vl (9 * nn) (fun c => mVl ho gv a0 (some b0) c) (c1 + 1)))), (a_hole, .inl (cZ, 540, .inl (zZ (mPut hl_ (9 * nn) (fun c => !mIs ho a0 (some b0) c) (c1 + 1))))), (a_first, .inl (cI, 60, .inl (zN fi))), (a_second, .inl (cI, 60, .inl se)), (a_list, .inl (cI, 60, .inl (zN li)))] H := by rw [← mPut_i (f := vl), ← mPut_s (f := hl_)]; exact hP
              have hD : va_D A [(o, .inr (9, [(ϕ 0), (ϕ 1), .ref a_given, .ref a_holes, (ϕ 4), (ϕ 5), (ϕ 6), (ϕ 7), (ϕ 8), (ϕ 9), (ϕ 10), (ϕ 11), (ϕ 12), (ϕ 13), (ϕ 14), (ϕ 15), (ϕ 16), (ϕ 17), (ϕ 18), (ϕ 19), (ϕ 20), (ϕ 21), (ϕ 22), (ϕ 23), .int (nI nn), .ref a_value, .ref a_hole, .ref a_first, .ref a_second, .ref a_list, (ϕ 30), (ϕ 31), (ϕ 32), (ϕ 33), (ϕ 34), (ϕ 35), (ϕ 36), (ϕ 37), (ϕ 38), (ϕ 39), (ϕ 40), (ϕ 41), (ϕ 42), (ϕ 43)])), (a_given, .inl (cI, 144, .inl gv)), (a_holes, .inl (cI, 48, .inl ho)), (a_value, .inl (cI, 540, .inl (mPut vl (9 * nn) (fun c => mVl ho gv a0 (some b0) c) (c1 + 1)))), (a_hole, .inl (cZ, 540, .inl (zZ (mPut hl_ (9 * nn) (fun c => !mIs ho a0 (some b0) c) (c1 + 1))))), (a_first, .inl (cI, 60, .inl (zN fi))), (a_second, .inl (cI, 60, .inl se)), (a_list, .inl (cI, 60, .inl (zN li)))] := by rw [← mPut_i (f := vl), ← mPut_s (f := hl_)]; exact hD
              exact ih2 (c1 + 1) (by omega) (by omega) ls _ _ (lv_sub hl [3, 4, 5, 0] rfl) hP hD hS
  have hP : va_P D vwCl [(o, .inr (9, [(ϕ 0), (ϕ 1), .ref a_given, .ref a_holes, (ϕ 4), (ϕ 5), (ϕ 6), (ϕ 7), (ϕ 8), (ϕ 9), (ϕ 10), (ϕ 11), (ϕ 12), (ϕ 13), (ϕ 14), (ϕ 15), (ϕ 16), (ϕ 17), (ϕ 18), (ϕ 19), (ϕ 20), (ϕ 21), (ϕ 22), (ϕ 23), .int (nI nn), .ref a_value, .ref a_hole, .ref a_first, .ref a_second, .ref a_list, (ϕ 30), (ϕ 31), (ϕ 32), (ϕ 33), (ϕ 34), (ϕ 35), (ϕ 36), (ϕ 37), (ϕ 38), (ϕ 39), (ϕ 40), (ϕ 41), (ϕ 42), (ϕ 43)])), (a_given, .inl (cI, 144, .inl gv)), (a_holes, .inl (cI, 48, .inl ho)), (a_value, .inl (cI, 540, .inl (mPut vl (9 * nn) (fun c => mVl ho gv a0 (some b0) c) 0))), (a_hole, .inl (cZ, 540, .inl (zZ (mPut hl_ (9 * nn) (fun c => !mIs ho a0 (some b0) c) 0)))), (a_first, .inl (cI, 60, .inl (zN fi))), (a_second, .inl (cI, 60, .inl se)), (a_list, .inl (cI, 60, .inl (zN li)))] s.heap := by rw [mPut_0, mPut_0]; exact hP
  have hD : va_D A [(o, .inr (9, [(ϕ 0), (ϕ 1), .ref a_given, .ref a_holes, (ϕ 4), (ϕ 5), (ϕ 6), (ϕ 7), (ϕ 8), (ϕ 9), (ϕ 10), (ϕ 11), (ϕ 12), (ϕ 13), (ϕ 14), (ϕ 15), (ϕ 16), (ϕ 17), (ϕ 18), (ϕ 19), (ϕ 20), (ϕ 21), (ϕ 22), (ϕ 23), .int (nI nn), .ref a_value, .ref a_hole, .ref a_first, .ref a_second, .ref a_list, (ϕ 30), (ϕ 31), (ϕ 32), (ϕ 33), (ϕ 34), (ϕ 35), (ϕ 36), (ϕ 37), (ϕ 38), (ϕ 39), (ϕ 40), (ϕ 41), (ϕ 42), (ϕ 43)])), (a_given, .inl (cI, 144, .inl gv)), (a_holes, .inl (cI, 48, .inl ho)), (a_value, .inl (cI, 540, .inl (mPut vl (9 * nn) (fun c => mVl ho gv a0 (some b0) c) 0))), (a_hole, .inl (cZ, 540, .inl (zZ (mPut hl_ (9 * nn) (fun c => !mIs ho a0 (some b0) c) 0)))), (a_first, .inl (cI, 60, .inl (zN fi))), (a_second, .inl (cI, 60, .inl se)), (a_list, .inl (cI, 60, .inl (zN li)))] := by rw [mPut_0, mPut_0]; exact hD
  exact lb2 _ 0 (Nat.zero_le _) (Nat.lt_succ_self _) ls _ _ (lv_sub hl [1, 2, 3, 0] rfl) hP hD hS
