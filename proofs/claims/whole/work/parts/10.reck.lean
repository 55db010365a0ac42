/-! a window over one partition: what each row gets; u is a column, read by the row's place in the list -/
def pEq (o : Option (Nat → Int64)) (i j : Nat) : Bool := match o with
  | none => true
  | some u => decide (u i = u j)
def wRb (low high : Int32) (x : Int64) : Bool := decide ((low = -10 ∨ low.toInt64 ≤ x) ∧ (high = 10 ∨ x ≤ high.toInt64))
theorem wRb_iff {low high : Int32} {x : Int64} : wRb low high x = true ↔ wRe low high x := decide_eq_true_iff
def inF (o : Option (Nat → Int64)) (wd wg : Bool) (wl wh : Int32) (i j : Nat) : Bool := match wg, o with
  | true, some u => if u i = -1099511627776 ∨ u j = -1099511627776 then decide (u i = u j) else wRb wl wh (if wd = true then u i - u j else u j - u i)
  | _, _ => wRb wl wh (nI j - nI i).toInt64
/-- the first place from a on, at most d further, where P holds -/
def scn (P : Nat → Bool) : Nat → Nat → Nat
  | 0, a => a
  | d + 1, a => if P a = true then a else scn P d (a + 1)
theorem scn_le (P : Nat → Bool) : ∀ d a, a ≤ scn P d a ∧ scn P d a ≤ a + d := by
  intro d
  induction d with
  | zero => intro a; exact ⟨Nat.le_refl _, Nat.le_refl _⟩
  | succ d ih =>
    intro a
    simp only [scn]
    by_cases h : P a = true
    · rw [if_pos h]; omega
    · rw [if_neg h]; have := ih (a + 1); omega
def sumF (u : Nat → Int64) (a : Nat) : Nat → Int64 × Bool
  | 0 => (0, false)
  | d + 1 => if u (a + d) = -1099511627776 then sumF u a d else ((sumF u a d).1 + u (a + d), true)
def cntF (u : Nat → Int64) (a : Nat) : Nat → Nat
  | 0 => 0
  | d + 1 => if u (a + d) = -1099511627776 then cntF u a d else cntF u a d + 1
def lstF (u : Nat → Int64) (a : Nat) : Nat → Int64
  | 0 => -1099511627776
  | d + 1 => if u (a + d) ≠ -1099511627776 ∧ (lstF u a d = -1099511627776 ∨ u (a + d) < lstF u a d) then u (a + d) else lstF u a d
def grtF (u : Nat → Int64) (a : Nat) : Nat → Int64
  | 0 => -1099511627776
  | d + 1 => if u (a + d) < grtF u a d then grtF u a d else u (a + d)
theorem cntF_le {u : Nat → Int64} {a : Nat} : ∀ d, cntF u a d ≤ d := by
  intro d
  induction d with
  | zero => exact Nat.le_refl _
  | succ d ih =>
    simp only [cntF]
    by_cases h : u (a + d) = -1099511627776
    · rw [if_pos h]; omega
    · rw [if_neg h]; omega
def argN (u : Nat → Int64) (j a e : Nat) : Int64 := if a ≤ j ∧ j < e then u j else -1099511627776
def tileN (i m t : Nat) : Nat := if m / t = 0 ∨ i < m % t * (m / t + 1) then 1 + i / (m / t + 1) else 1 + m % t + (i - m % t * (m / t + 1)) / (m / t)

theorem zk_neg {x : Int32} {j : Nat} (h : x < 0) (hj : j < 2 ^ 31) : x < nI j := by
  rw [Int32.lt_iff_toInt_lt] at h ⊢
  rw [nI_toInt hj]
  have h0 : (0 : Int32).toInt = 0 := by decide
  omega
abbrev rm1_40 : Room := { frames := 1, cells := 0, slots := 0, locals := 40 }
theorem d_Reckoner_init_0 : decode b_Reckoner_init 0 = .ok (.aload_n 0, 1) := by decide +kernel
theorem d_Reckoner_init_1 : decode b_Reckoner_init 1 = .ok (.invokespecial 3, 3) := by decide +kernel
theorem d_Reckoner_init_4 : decode b_Reckoner_init 4 = .ok (.aload_n 0, 1) := by decide +kernel
theorem d_Reckoner_init_5 : decode b_Reckoner_init 5 = .ok (.aload_n 1, 1) := by decide +kernel
theorem d_Reckoner_init_6 : decode b_Reckoner_init 6 = .ok (.putfield 9, 3) := by decide +kernel
theorem d_Reckoner_init_9 : decode b_Reckoner_init 9 = .ok (.return_, 1) := by decide +kernel
theorem d_Reckoner_reckon_0 : decode b_Reckoner_reckon 0 = .ok (.aload_n 0, 1) := by decide +kernel
theorem d_Reckoner_reckon_1 : decode b_Reckoner_reckon 1 = .ok (.aload_n 1, 1) := by decide +kernel
theorem d_Reckoner_reckon_2 : decode b_Reckoner_reckon 2 = .ok (.putfield 15, 3) := by decide +kernel
theorem d_Reckoner_reckon_5 : decode b_Reckoner_reckon 5 = .ok (.aload_n 0, 1) := by decide +kernel
theorem d_Reckoner_reckon_6 : decode b_Reckoner_reckon 6 = .ok (.iload_n 2, 1) := by decide +kernel
theorem d_Reckoner_reckon_7 : decode b_Reckoner_reckon 7 = .ok (.putfield 19, 3) := by decide +kernel
theorem d_Reckoner_reckon_10 : decode b_Reckoner_reckon 10 = .ok (.aload_n 0, 1) := by decide +kernel
theorem d_Reckoner_reckon_11 : decode b_Reckoner_reckon 11 = .ok (.iload_n 3, 1) := by decide +kernel
theorem d_Reckoner_reckon_12 : decode b_Reckoner_reckon 12 = .ok (.putfield 23, 3) := by decide +kernel
theorem d_Reckoner_reckon_15 : decode b_Reckoner_reckon 15 = .ok (.aload_n 0, 1) := by decide +kernel
theorem d_Reckoner_reckon_16 : decode b_Reckoner_reckon 16 = .ok (.iconst 0, 1) := by decide +kernel
theorem d_Reckoner_reckon_17 : decode b_Reckoner_reckon 17 = .ok (.putfield 26, 3) := by decide +kernel
theorem d_Reckoner_reckon_20 : decode b_Reckoner_reckon 20 = .ok (.aload_n 0, 1) := by decide +kernel
theorem d_Reckoner_reckon_21 : decode b_Reckoner_reckon 21 = .ok (.getfield 19, 3) := by decide +kernel
theorem d_Reckoner_reckon_24 : decode b_Reckoner_reckon 24 = .ok (.istore 5, 2) := by decide +kernel
theorem d_Reckoner_reckon_26 : decode b_Reckoner_reckon 26 = .ok (.iload 5, 2) := by decide +kernel
theorem d_Reckoner_reckon_28 : decode b_Reckoner_reckon 28 = .ok (.aload_n 0, 1) := by decide +kernel
theorem d_Reckoner_reckon_29 : decode b_Reckoner_reckon 29 = .ok (.getfield 23, 3) := by decide +kernel
theorem d_Reckoner_reckon_32 : decode b_Reckoner_reckon 32 = .ok (.if_icmp .ge 105, 3) := by decide +kernel
theorem d_Reckoner_reckon_35 : decode b_Reckoner_reckon 35 = .ok (.iload 5, 2) := by decide +kernel
theorem d_Reckoner_reckon_37 : decode b_Reckoner_reckon 37 = .ok (.aload_n 0, 1) := by decide +kernel
theorem d_Reckoner_reckon_38 : decode b_Reckoner_reckon 38 = .ok (.getfield 19, 3) := by decide +kernel
theorem d_Reckoner_reckon_41 : decode b_Reckoner_reckon 41 = .ok (.if_icmp .eq 16, 3) := by decide +kernel
theorem d_Reckoner_reckon_44 : decode b_Reckoner_reckon 44 = .ok (.aload_n 0, 1) := by decide +kernel
theorem d_Reckoner_reckon_45 : decode b_Reckoner_reckon 45 = .ok (.iload 5, 2) := by decide +kernel
theorem d_Reckoner_reckon_47 : decode b_Reckoner_reckon 47 = .ok (.iconst 1, 1) := by decide +kernel
theorem d_Reckoner_reckon_48 : decode b_Reckoner_reckon 48 = .ok (.isub, 1) := by decide +kernel
theorem d_Reckoner_reckon_49 : decode b_Reckoner_reckon 49 = .ok (.iload 5, 2) := by decide +kernel
theorem d_Reckoner_reckon_51 : decode b_Reckoner_reckon 51 = .ok (.invokevirtual 29, 3) := by decide +kernel
theorem d_Reckoner_reckon_54 : decode b_Reckoner_reckon 54 = .ok (.ifCond .ne 19, 3) := by decide +kernel
theorem d_Reckoner_reckon_57 : decode b_Reckoner_reckon 57 = .ok (.aload_n 0, 1) := by decide +kernel
theorem d_Reckoner_reckon_58 : decode b_Reckoner_reckon 58 = .ok (.iload 5, 2) := by decide +kernel
theorem d_Reckoner_reckon_60 : decode b_Reckoner_reckon 60 = .ok (.putfield 33, 3) := by decide +kernel
theorem d_Reckoner_reckon_63 : decode b_Reckoner_reckon 63 = .ok (.aload_n 0, 1) := by decide +kernel
theorem d_Reckoner_reckon_64 : decode b_Reckoner_reckon 64 = .ok (.dup, 1) := by decide +kernel
theorem d_Reckoner_reckon_65 : decode b_Reckoner_reckon 65 = .ok (.getfield 26, 3) := by decide +kernel
theorem d_Reckoner_reckon_68 : decode b_Reckoner_reckon 68 = .ok (.iconst 1, 1) := by decide +kernel
theorem d_Reckoner_reckon_69 : decode b_Reckoner_reckon 69 = .ok (.iadd, 1) := by decide +kernel
theorem d_Reckoner_reckon_70 : decode b_Reckoner_reckon 70 = .ok (.putfield 26, 3) := by decide +kernel
theorem d_Reckoner_reckon_73 : decode b_Reckoner_reckon 73 = .ok (.aload_n 1, 1) := by decide +kernel
theorem d_Reckoner_reckon_74 : decode b_Reckoner_reckon 74 = .ok (.getfield 36, 3) := by decide +kernel
theorem d_Reckoner_reckon_77 : decode b_Reckoner_reckon 77 = .ok (.bipush 6, 2) := by decide +kernel
theorem d_Reckoner_reckon_79 : decode b_Reckoner_reckon 79 = .ok (.if_icmp .lt 9, 3) := by decide +kernel
theorem d_Reckoner_reckon_82 : decode b_Reckoner_reckon 82 = .ok (.aload_n 0, 1) := by decide +kernel
theorem d_Reckoner_reckon_83 : decode b_Reckoner_reckon 83 = .ok (.iload 5, 2) := by decide +kernel
theorem d_Reckoner_reckon_85 : decode b_Reckoner_reckon 85 = .ok (.invokevirtual 41, 3) := by decide +kernel
theorem d_Reckoner_reckon_88 : decode b_Reckoner_reckon 88 = .ok (.aload_n 0, 1) := by decide +kernel
theorem d_Reckoner_reckon_89 : decode b_Reckoner_reckon 89 = .ok (.iload 5, 2) := by decide +kernel
theorem d_Reckoner_reckon_91 : decode b_Reckoner_reckon 91 = .ok (.invokevirtual 45, 3) := by decide +kernel
theorem d_Reckoner_reckon_94 : decode b_Reckoner_reckon 94 = .ok (.lstore 6, 2) := by decide +kernel
theorem d_Reckoner_reckon_96 : decode b_Reckoner_reckon 96 = .ok (.lload 6, 2) := by decide +kernel
theorem d_Reckoner_reckon_98 : decode b_Reckoner_reckon 98 = .ok (.ldc2_w 49, 3) := by decide +kernel
theorem d_Reckoner_reckon_101 : decode b_Reckoner_reckon 101 = .ok (.lcmp, 1) := by decide +kernel
theorem d_Reckoner_reckon_102 : decode b_Reckoner_reckon 102 = .ok (.ifCond .eq 16, 3) := by decide +kernel
theorem d_Reckoner_reckon_105 : decode b_Reckoner_reckon 105 = .ok (.lload 6, 2) := by decide +kernel
theorem d_Reckoner_reckon_107 : decode b_Reckoner_reckon 107 = .ok (.lload 6, 2) := by decide +kernel
theorem d_Reckoner_reckon_109 : decode b_Reckoner_reckon 109 = .ok (.l2i, 1) := by decide +kernel
theorem d_Reckoner_reckon_110 : decode b_Reckoner_reckon 110 = .ok (.i2l, 1) := by decide +kernel
theorem d_Reckoner_reckon_111 : decode b_Reckoner_reckon 111 = .ok (.lcmp, 1) := by decide +kernel
theorem d_Reckoner_reckon_112 : decode b_Reckoner_reckon 112 = .ok (.ifCond .eq 6, 3) := by decide +kernel
theorem d_Reckoner_reckon_115 : decode b_Reckoner_reckon 115 = .ok (.bipush (-3), 2) := by decide +kernel
theorem d_Reckoner_reckon_117 : decode b_Reckoner_reckon 117 = .ok (.ireturn, 1) := by decide +kernel
theorem d_Reckoner_reckon_118 : decode b_Reckoner_reckon 118 = .ok (.aload_n 0, 1) := by decide +kernel
theorem d_Reckoner_reckon_119 : decode b_Reckoner_reckon 119 = .ok (.getfield 9, 3) := by decide +kernel
theorem d_Reckoner_reckon_122 : decode b_Reckoner_reckon 122 = .ok (.iload 5, 2) := by decide +kernel
theorem d_Reckoner_reckon_124 : decode b_Reckoner_reckon 124 = .ok (.iload 4, 2) := by decide +kernel
theorem d_Reckoner_reckon_126 : decode b_Reckoner_reckon 126 = .ok (.lload 6, 2) := by decide +kernel
theorem d_Reckoner_reckon_128 : decode b_Reckoner_reckon 128 = .ok (.invokevirtual 51, 3) := by decide +kernel
theorem d_Reckoner_reckon_131 : decode b_Reckoner_reckon 131 = .ok (.iinc 5 1, 3) := by decide +kernel
theorem d_Reckoner_reckon_134 : decode b_Reckoner_reckon 134 = .ok (.goto (-108), 3) := by decide +kernel
theorem d_Reckoner_reckon_137 : decode b_Reckoner_reckon 137 = .ok (.iconst 0, 1) := by decide +kernel
theorem d_Reckoner_reckon_138 : decode b_Reckoner_reckon 138 = .ok (.ireturn, 1) := by decide +kernel
theorem d_Reckoner_arePeers_0 : decode b_Reckoner_arePeers 0 = .ok (.aload_n 0, 1) := by decide +kernel
theorem d_Reckoner_arePeers_1 : decode b_Reckoner_arePeers 1 = .ok (.getfield 15, 3) := by decide +kernel
theorem d_Reckoner_arePeers_4 : decode b_Reckoner_arePeers 4 = .ok (.getfield 57, 3) := by decide +kernel
theorem d_Reckoner_arePeers_7 : decode b_Reckoner_arePeers 7 = .ok (.istore_n 3, 1) := by decide +kernel
theorem d_Reckoner_arePeers_8 : decode b_Reckoner_arePeers 8 = .ok (.iload_n 3, 1) := by decide +kernel
theorem d_Reckoner_arePeers_9 : decode b_Reckoner_arePeers 9 = .ok (.iconst (-1), 1) := by decide +kernel
theorem d_Reckoner_arePeers_10 : decode b_Reckoner_arePeers 10 = .ok (.if_icmp .eq 25, 3) := by decide +kernel
theorem d_Reckoner_arePeers_13 : decode b_Reckoner_arePeers 13 = .ok (.aload_n 0, 1) := by decide +kernel
theorem d_Reckoner_arePeers_14 : decode b_Reckoner_arePeers 14 = .ok (.getfield 9, 3) := by decide +kernel
theorem d_Reckoner_arePeers_17 : decode b_Reckoner_arePeers 17 = .ok (.iload_n 1, 1) := by decide +kernel
theorem d_Reckoner_arePeers_18 : decode b_Reckoner_arePeers 18 = .ok (.iload_n 3, 1) := by decide +kernel
theorem d_Reckoner_arePeers_19 : decode b_Reckoner_arePeers 19 = .ok (.invokevirtual 60, 3) := by decide +kernel
theorem d_Reckoner_arePeers_22 : decode b_Reckoner_arePeers 22 = .ok (.aload_n 0, 1) := by decide +kernel
theorem d_Reckoner_arePeers_23 : decode b_Reckoner_arePeers 23 = .ok (.getfield 9, 3) := by decide +kernel
theorem d_Reckoner_arePeers_26 : decode b_Reckoner_arePeers 26 = .ok (.iload_n 2, 1) := by decide +kernel
theorem d_Reckoner_arePeers_27 : decode b_Reckoner_arePeers 27 = .ok (.iload_n 3, 1) := by decide +kernel
theorem d_Reckoner_arePeers_28 : decode b_Reckoner_arePeers 28 = .ok (.invokevirtual 60, 3) := by decide +kernel
theorem d_Reckoner_arePeers_31 : decode b_Reckoner_arePeers 31 = .ok (.lcmp, 1) := by decide +kernel
theorem d_Reckoner_arePeers_32 : decode b_Reckoner_arePeers 32 = .ok (.ifCond .ne 7, 3) := by decide +kernel
theorem d_Reckoner_arePeers_35 : decode b_Reckoner_arePeers 35 = .ok (.iconst 1, 1) := by decide +kernel
theorem d_Reckoner_arePeers_36 : decode b_Reckoner_arePeers 36 = .ok (.goto 4, 3) := by decide +kernel
theorem d_Reckoner_arePeers_39 : decode b_Reckoner_arePeers 39 = .ok (.iconst 0, 1) := by decide +kernel
theorem d_Reckoner_arePeers_40 : decode b_Reckoner_arePeers 40 = .ok (.ireturn, 1) := by decide +kernel
theorem d_Reckoner_findFrame_0 : decode b_Reckoner_findFrame 0 = .ok (.aload_n 0, 1) := by decide +kernel
theorem d_Reckoner_findFrame_1 : decode b_Reckoner_findFrame 1 = .ok (.aload_n 0, 1) := by decide +kernel
theorem d_Reckoner_findFrame_2 : decode b_Reckoner_findFrame 2 = .ok (.getfield 19, 3) := by decide +kernel
theorem d_Reckoner_findFrame_5 : decode b_Reckoner_findFrame 5 = .ok (.putfield 64, 3) := by decide +kernel
theorem d_Reckoner_findFrame_8 : decode b_Reckoner_findFrame 8 = .ok (.aload_n 0, 1) := by decide +kernel
theorem d_Reckoner_findFrame_9 : decode b_Reckoner_findFrame 9 = .ok (.getfield 64, 3) := by decide +kernel
theorem d_Reckoner_findFrame_12 : decode b_Reckoner_findFrame 12 = .ok (.aload_n 0, 1) := by decide +kernel
theorem d_Reckoner_findFrame_13 : decode b_Reckoner_findFrame 13 = .ok (.getfield 23, 3) := by decide +kernel
theorem d_Reckoner_findFrame_16 : decode b_Reckoner_findFrame 16 = .ok (.if_icmp .ge 28, 3) := by decide +kernel
theorem d_Reckoner_findFrame_19 : decode b_Reckoner_findFrame 19 = .ok (.aload_n 0, 1) := by decide +kernel
theorem d_Reckoner_findFrame_20 : decode b_Reckoner_findFrame 20 = .ok (.iload_n 1, 1) := by decide +kernel
theorem d_Reckoner_findFrame_21 : decode b_Reckoner_findFrame 21 = .ok (.aload_n 0, 1) := by decide +kernel
theorem d_Reckoner_findFrame_22 : decode b_Reckoner_findFrame 22 = .ok (.getfield 64, 3) := by decide +kernel
theorem d_Reckoner_findFrame_25 : decode b_Reckoner_findFrame 25 = .ok (.invokevirtual 67, 3) := by decide +kernel
theorem d_Reckoner_findFrame_28 : decode b_Reckoner_findFrame 28 = .ok (.ifCond .ne 16, 3) := by decide +kernel
theorem d_Reckoner_findFrame_31 : decode b_Reckoner_findFrame 31 = .ok (.aload_n 0, 1) := by decide +kernel
theorem d_Reckoner_findFrame_32 : decode b_Reckoner_findFrame 32 = .ok (.dup, 1) := by decide +kernel
theorem d_Reckoner_findFrame_33 : decode b_Reckoner_findFrame 33 = .ok (.getfield 64, 3) := by decide +kernel
theorem d_Reckoner_findFrame_36 : decode b_Reckoner_findFrame 36 = .ok (.iconst 1, 1) := by decide +kernel
theorem d_Reckoner_findFrame_37 : decode b_Reckoner_findFrame 37 = .ok (.iadd, 1) := by decide +kernel
theorem d_Reckoner_findFrame_38 : decode b_Reckoner_findFrame 38 = .ok (.putfield 64, 3) := by decide +kernel
theorem d_Reckoner_findFrame_41 : decode b_Reckoner_findFrame 41 = .ok (.goto (-33), 3) := by decide +kernel
theorem d_Reckoner_findFrame_44 : decode b_Reckoner_findFrame 44 = .ok (.aload_n 0, 1) := by decide +kernel
theorem d_Reckoner_findFrame_45 : decode b_Reckoner_findFrame 45 = .ok (.aload_n 0, 1) := by decide +kernel
theorem d_Reckoner_findFrame_46 : decode b_Reckoner_findFrame 46 = .ok (.getfield 64, 3) := by decide +kernel
theorem d_Reckoner_findFrame_49 : decode b_Reckoner_findFrame 49 = .ok (.putfield 70, 3) := by decide +kernel
theorem d_Reckoner_findFrame_52 : decode b_Reckoner_findFrame 52 = .ok (.aload_n 0, 1) := by decide +kernel
theorem d_Reckoner_findFrame_53 : decode b_Reckoner_findFrame 53 = .ok (.getfield 70, 3) := by decide +kernel
theorem d_Reckoner_findFrame_56 : decode b_Reckoner_findFrame 56 = .ok (.aload_n 0, 1) := by decide +kernel
theorem d_Reckoner_findFrame_57 : decode b_Reckoner_findFrame 57 = .ok (.getfield 23, 3) := by decide +kernel
theorem d_Reckoner_findFrame_60 : decode b_Reckoner_findFrame 60 = .ok (.if_icmp .ge 28, 3) := by decide +kernel
theorem d_Reckoner_findFrame_63 : decode b_Reckoner_findFrame 63 = .ok (.aload_n 0, 1) := by decide +kernel
theorem d_Reckoner_findFrame_64 : decode b_Reckoner_findFrame 64 = .ok (.iload_n 1, 1) := by decide +kernel
theorem d_Reckoner_findFrame_65 : decode b_Reckoner_findFrame 65 = .ok (.aload_n 0, 1) := by decide +kernel
theorem d_Reckoner_findFrame_66 : decode b_Reckoner_findFrame 66 = .ok (.getfield 70, 3) := by decide +kernel
theorem d_Reckoner_findFrame_69 : decode b_Reckoner_findFrame 69 = .ok (.invokevirtual 67, 3) := by decide +kernel
theorem d_Reckoner_findFrame_72 : decode b_Reckoner_findFrame 72 = .ok (.ifCond .eq 16, 3) := by decide +kernel
theorem d_Reckoner_findFrame_75 : decode b_Reckoner_findFrame 75 = .ok (.aload_n 0, 1) := by decide +kernel
theorem d_Reckoner_findFrame_76 : decode b_Reckoner_findFrame 76 = .ok (.dup, 1) := by decide +kernel
theorem d_Reckoner_findFrame_77 : decode b_Reckoner_findFrame 77 = .ok (.getfield 70, 3) := by decide +kernel
theorem d_Reckoner_findFrame_80 : decode b_Reckoner_findFrame 80 = .ok (.iconst 1, 1) := by decide +kernel
theorem d_Reckoner_findFrame_81 : decode b_Reckoner_findFrame 81 = .ok (.iadd, 1) := by decide +kernel
theorem d_Reckoner_findFrame_82 : decode b_Reckoner_findFrame 82 = .ok (.putfield 70, 3) := by decide +kernel
theorem d_Reckoner_findFrame_85 : decode b_Reckoner_findFrame 85 = .ok (.goto (-33), 3) := by decide +kernel
theorem d_Reckoner_findFrame_88 : decode b_Reckoner_findFrame 88 = .ok (.return_, 1) := by decide +kernel
theorem d_Reckoner_isInFrame_0 : decode b_Reckoner_isInFrame 0 = .ok (.aload_n 0, 1) := by decide +kernel
theorem d_Reckoner_isInFrame_1 : decode b_Reckoner_isInFrame 1 = .ok (.getfield 15, 3) := by decide +kernel
theorem d_Reckoner_isInFrame_4 : decode b_Reckoner_isInFrame 4 = .ok (.getfield 73, 3) := by decide +kernel
theorem d_Reckoner_isInFrame_7 : decode b_Reckoner_isInFrame 7 = .ok (.ifCond .eq 14, 3) := by decide +kernel
theorem d_Reckoner_isInFrame_10 : decode b_Reckoner_isInFrame 10 = .ok (.aload_n 0, 1) := by decide +kernel
theorem d_Reckoner_isInFrame_11 : decode b_Reckoner_isInFrame 11 = .ok (.getfield 15, 3) := by decide +kernel
theorem d_Reckoner_isInFrame_14 : decode b_Reckoner_isInFrame 14 = .ok (.getfield 57, 3) := by decide +kernel
theorem d_Reckoner_isInFrame_17 : decode b_Reckoner_isInFrame 17 = .ok (.iconst (-1), 1) := by decide +kernel
theorem d_Reckoner_isInFrame_18 : decode b_Reckoner_isInFrame 18 = .ok (.if_icmp .ne 15, 3) := by decide +kernel
theorem d_Reckoner_isInFrame_21 : decode b_Reckoner_isInFrame 21 = .ok (.aload_n 0, 1) := by decide +kernel
theorem d_Reckoner_isInFrame_22 : decode b_Reckoner_isInFrame 22 = .ok (.getfield 15, 3) := by decide +kernel
theorem d_Reckoner_isInFrame_25 : decode b_Reckoner_isInFrame 25 = .ok (.iload_n 2, 1) := by decide +kernel
theorem d_Reckoner_isInFrame_26 : decode b_Reckoner_isInFrame 26 = .ok (.iload_n 1, 1) := by decide +kernel
theorem d_Reckoner_isInFrame_27 : decode b_Reckoner_isInFrame 27 = .ok (.isub, 1) := by decide +kernel
theorem d_Reckoner_isInFrame_28 : decode b_Reckoner_isInFrame 28 = .ok (.i2l, 1) := by decide +kernel
theorem d_Reckoner_isInFrame_29 : decode b_Reckoner_isInFrame 29 = .ok (.invokevirtual 77, 3) := by decide +kernel
theorem d_Reckoner_isInFrame_32 : decode b_Reckoner_isInFrame 32 = .ok (.ireturn, 1) := by decide +kernel
theorem d_Reckoner_isInFrame_33 : decode b_Reckoner_isInFrame 33 = .ok (.aload_n 0, 1) := by decide +kernel
theorem d_Reckoner_isInFrame_34 : decode b_Reckoner_isInFrame 34 = .ok (.getfield 9, 3) := by decide +kernel
theorem d_Reckoner_isInFrame_37 : decode b_Reckoner_isInFrame 37 = .ok (.iload_n 1, 1) := by decide +kernel
theorem d_Reckoner_isInFrame_38 : decode b_Reckoner_isInFrame 38 = .ok (.aload_n 0, 1) := by decide +kernel
theorem d_Reckoner_isInFrame_39 : decode b_Reckoner_isInFrame 39 = .ok (.getfield 15, 3) := by decide +kernel
theorem d_Reckoner_isInFrame_42 : decode b_Reckoner_isInFrame 42 = .ok (.getfield 57, 3) := by decide +kernel
theorem d_Reckoner_isInFrame_45 : decode b_Reckoner_isInFrame 45 = .ok (.invokevirtual 60, 3) := by decide +kernel
theorem d_Reckoner_isInFrame_48 : decode b_Reckoner_isInFrame 48 = .ok (.lstore_n 3, 1) := by decide +kernel
theorem d_Reckoner_isInFrame_49 : decode b_Reckoner_isInFrame 49 = .ok (.aload_n 0, 1) := by decide +kernel
theorem d_Reckoner_isInFrame_50 : decode b_Reckoner_isInFrame 50 = .ok (.getfield 9, 3) := by decide +kernel
theorem d_Reckoner_isInFrame_53 : decode b_Reckoner_isInFrame 53 = .ok (.iload_n 2, 1) := by decide +kernel
theorem d_Reckoner_isInFrame_54 : decode b_Reckoner_isInFrame 54 = .ok (.aload_n 0, 1) := by decide +kernel
theorem d_Reckoner_isInFrame_55 : decode b_Reckoner_isInFrame 55 = .ok (.getfield 15, 3) := by decide +kernel
theorem d_Reckoner_isInFrame_58 : decode b_Reckoner_isInFrame 58 = .ok (.getfield 57, 3) := by decide +kernel
theorem d_Reckoner_isInFrame_61 : decode b_Reckoner_isInFrame 61 = .ok (.invokevirtual 60, 3) := by decide +kernel
theorem d_Reckoner_isInFrame_64 : decode b_Reckoner_isInFrame 64 = .ok (.lstore 5, 2) := by decide +kernel
theorem d_Reckoner_isInFrame_66 : decode b_Reckoner_isInFrame 66 = .ok (.lload_n 3, 1) := by decide +kernel
theorem d_Reckoner_isInFrame_67 : decode b_Reckoner_isInFrame 67 = .ok (.ldc2_w 49, 3) := by decide +kernel
theorem d_Reckoner_isInFrame_70 : decode b_Reckoner_isInFrame 70 = .ok (.lcmp, 1) := by decide +kernel
theorem d_Reckoner_isInFrame_71 : decode b_Reckoner_isInFrame 71 = .ok (.ifCond .eq 12, 3) := by decide +kernel
theorem d_Reckoner_isInFrame_74 : decode b_Reckoner_isInFrame 74 = .ok (.lload 5, 2) := by decide +kernel
theorem d_Reckoner_isInFrame_76 : decode b_Reckoner_isInFrame 76 = .ok (.ldc2_w 49, 3) := by decide +kernel
theorem d_Reckoner_isInFrame_79 : decode b_Reckoner_isInFrame 79 = .ok (.lcmp, 1) := by decide +kernel
theorem d_Reckoner_isInFrame_80 : decode b_Reckoner_isInFrame 80 = .ok (.ifCond .ne 16, 3) := by decide +kernel
theorem d_Reckoner_isInFrame_83 : decode b_Reckoner_isInFrame 83 = .ok (.lload_n 3, 1) := by decide +kernel
theorem d_Reckoner_isInFrame_84 : decode b_Reckoner_isInFrame 84 = .ok (.lload 5, 2) := by decide +kernel
theorem d_Reckoner_isInFrame_86 : decode b_Reckoner_isInFrame 86 = .ok (.lcmp, 1) := by decide +kernel
theorem d_Reckoner_isInFrame_87 : decode b_Reckoner_isInFrame 87 = .ok (.ifCond .ne 7, 3) := by decide +kernel
theorem d_Reckoner_isInFrame_90 : decode b_Reckoner_isInFrame 90 = .ok (.iconst 1, 1) := by decide +kernel
theorem d_Reckoner_isInFrame_91 : decode b_Reckoner_isInFrame 91 = .ok (.goto 4, 3) := by decide +kernel
theorem d_Reckoner_isInFrame_94 : decode b_Reckoner_isInFrame 94 = .ok (.iconst 0, 1) := by decide +kernel
theorem d_Reckoner_isInFrame_95 : decode b_Reckoner_isInFrame 95 = .ok (.ireturn, 1) := by decide +kernel
theorem d_Reckoner_isInFrame_96 : decode b_Reckoner_isInFrame 96 = .ok (.aload_n 0, 1) := by decide +kernel
theorem d_Reckoner_isInFrame_97 : decode b_Reckoner_isInFrame 97 = .ok (.getfield 15, 3) := by decide +kernel
theorem d_Reckoner_isInFrame_100 : decode b_Reckoner_isInFrame 100 = .ok (.aload_n 0, 1) := by decide +kernel
theorem d_Reckoner_isInFrame_101 : decode b_Reckoner_isInFrame 101 = .ok (.getfield 15, 3) := by decide +kernel
theorem d_Reckoner_isInFrame_104 : decode b_Reckoner_isInFrame 104 = .ok (.getfield 81, 3) := by decide +kernel
theorem d_Reckoner_isInFrame_107 : decode b_Reckoner_isInFrame 107 = .ok (.ifCond .eq 10, 3) := by decide +kernel
theorem d_Reckoner_isInFrame_110 : decode b_Reckoner_isInFrame 110 = .ok (.lload_n 3, 1) := by decide +kernel
theorem d_Reckoner_isInFrame_111 : decode b_Reckoner_isInFrame 111 = .ok (.lload 5, 2) := by decide +kernel
theorem d_Reckoner_isInFrame_113 : decode b_Reckoner_isInFrame 113 = .ok (.lsub, 1) := by decide +kernel
theorem d_Reckoner_isInFrame_114 : decode b_Reckoner_isInFrame 114 = .ok (.goto 7, 3) := by decide +kernel
theorem d_Reckoner_isInFrame_117 : decode b_Reckoner_isInFrame 117 = .ok (.lload 5, 2) := by decide +kernel
theorem d_Reckoner_isInFrame_119 : decode b_Reckoner_isInFrame 119 = .ok (.lload_n 3, 1) := by decide +kernel
theorem d_Reckoner_isInFrame_120 : decode b_Reckoner_isInFrame 120 = .ok (.lsub, 1) := by decide +kernel
theorem d_Reckoner_isInFrame_121 : decode b_Reckoner_isInFrame 121 = .ok (.invokevirtual 77, 3) := by decide +kernel
theorem d_Reckoner_isInFrame_124 : decode b_Reckoner_isInFrame 124 = .ok (.ireturn, 1) := by decide +kernel
theorem d_Reckoner_valueFor_0 : decode b_Reckoner_valueFor 0 = .ok (.aload_n 0, 1) := by decide +kernel
theorem d_Reckoner_valueFor_1 : decode b_Reckoner_valueFor 1 = .ok (.getfield 15, 3) := by decide +kernel
theorem d_Reckoner_valueFor_4 : decode b_Reckoner_valueFor 4 = .ok (.getfield 36, 3) := by decide +kernel
theorem d_Reckoner_valueFor_7 : decode b_Reckoner_valueFor 7 = .ok (.tableswitch 209 0 10 #[57, 67, 80, 86, 113, 135, 157, 174, 193, 198, 204], 57) := by decide +kernel
theorem d_Reckoner_valueFor_64 : decode b_Reckoner_valueFor 64 = .ok (.iload_n 1, 1) := by decide +kernel
theorem d_Reckoner_valueFor_65 : decode b_Reckoner_valueFor 65 = .ok (.aload_n 0, 1) := by decide +kernel
theorem d_Reckoner_valueFor_66 : decode b_Reckoner_valueFor 66 = .ok (.getfield 19, 3) := by decide +kernel
theorem d_Reckoner_valueFor_69 : decode b_Reckoner_valueFor 69 = .ok (.isub, 1) := by decide +kernel
theorem d_Reckoner_valueFor_70 : decode b_Reckoner_valueFor 70 = .ok (.iconst 1, 1) := by decide +kernel
theorem d_Reckoner_valueFor_71 : decode b_Reckoner_valueFor 71 = .ok (.iadd, 1) := by decide +kernel
theorem d_Reckoner_valueFor_72 : decode b_Reckoner_valueFor 72 = .ok (.i2l, 1) := by decide +kernel
theorem d_Reckoner_valueFor_73 : decode b_Reckoner_valueFor 73 = .ok (.lreturn, 1) := by decide +kernel
theorem d_Reckoner_valueFor_74 : decode b_Reckoner_valueFor 74 = .ok (.aload_n 0, 1) := by decide +kernel
theorem d_Reckoner_valueFor_75 : decode b_Reckoner_valueFor 75 = .ok (.getfield 33, 3) := by decide +kernel
theorem d_Reckoner_valueFor_78 : decode b_Reckoner_valueFor 78 = .ok (.aload_n 0, 1) := by decide +kernel
theorem d_Reckoner_valueFor_79 : decode b_Reckoner_valueFor 79 = .ok (.getfield 19, 3) := by decide +kernel
theorem d_Reckoner_valueFor_82 : decode b_Reckoner_valueFor 82 = .ok (.isub, 1) := by decide +kernel
theorem d_Reckoner_valueFor_83 : decode b_Reckoner_valueFor 83 = .ok (.iconst 1, 1) := by decide +kernel
theorem d_Reckoner_valueFor_84 : decode b_Reckoner_valueFor 84 = .ok (.iadd, 1) := by decide +kernel
theorem d_Reckoner_valueFor_85 : decode b_Reckoner_valueFor 85 = .ok (.i2l, 1) := by decide +kernel
theorem d_Reckoner_valueFor_86 : decode b_Reckoner_valueFor 86 = .ok (.lreturn, 1) := by decide +kernel
theorem d_Reckoner_valueFor_87 : decode b_Reckoner_valueFor 87 = .ok (.aload_n 0, 1) := by decide +kernel
theorem d_Reckoner_valueFor_88 : decode b_Reckoner_valueFor 88 = .ok (.getfield 26, 3) := by decide +kernel
theorem d_Reckoner_valueFor_91 : decode b_Reckoner_valueFor 91 = .ok (.i2l, 1) := by decide +kernel
theorem d_Reckoner_valueFor_92 : decode b_Reckoner_valueFor 92 = .ok (.lreturn, 1) := by decide +kernel
theorem d_Reckoner_valueFor_93 : decode b_Reckoner_valueFor 93 = .ok (.iload_n 1, 1) := by decide +kernel
theorem d_Reckoner_valueFor_94 : decode b_Reckoner_valueFor 94 = .ok (.aload_n 0, 1) := by decide +kernel
theorem d_Reckoner_valueFor_95 : decode b_Reckoner_valueFor 95 = .ok (.getfield 19, 3) := by decide +kernel
theorem d_Reckoner_valueFor_98 : decode b_Reckoner_valueFor 98 = .ok (.isub, 1) := by decide +kernel
theorem d_Reckoner_valueFor_99 : decode b_Reckoner_valueFor 99 = .ok (.aload_n 0, 1) := by decide +kernel
theorem d_Reckoner_valueFor_100 : decode b_Reckoner_valueFor 100 = .ok (.getfield 23, 3) := by decide +kernel
theorem d_Reckoner_valueFor_103 : decode b_Reckoner_valueFor 103 = .ok (.aload_n 0, 1) := by decide +kernel
theorem d_Reckoner_valueFor_104 : decode b_Reckoner_valueFor 104 = .ok (.getfield 19, 3) := by decide +kernel
theorem d_Reckoner_valueFor_107 : decode b_Reckoner_valueFor 107 = .ok (.isub, 1) := by decide +kernel
theorem d_Reckoner_valueFor_108 : decode b_Reckoner_valueFor 108 = .ok (.aload_n 0, 1) := by decide +kernel
theorem d_Reckoner_valueFor_109 : decode b_Reckoner_valueFor 109 = .ok (.getfield 15, 3) := by decide +kernel
theorem d_Reckoner_valueFor_112 : decode b_Reckoner_valueFor 112 = .ok (.getfield 84, 3) := by decide +kernel
theorem d_Reckoner_valueFor_115 : decode b_Reckoner_valueFor 115 = .ok (.invokestatic 87, 3) := by decide +kernel
theorem d_Reckoner_valueFor_118 : decode b_Reckoner_valueFor 118 = .ok (.i2l, 1) := by decide +kernel
theorem d_Reckoner_valueFor_119 : decode b_Reckoner_valueFor 119 = .ok (.lreturn, 1) := by decide +kernel
theorem d_Reckoner_valueFor_120 : decode b_Reckoner_valueFor 120 = .ok (.aload_n 0, 1) := by decide +kernel
theorem d_Reckoner_valueFor_121 : decode b_Reckoner_valueFor 121 = .ok (.iload_n 1, 1) := by decide +kernel
theorem d_Reckoner_valueFor_122 : decode b_Reckoner_valueFor 122 = .ok (.aload_n 0, 1) := by decide +kernel
theorem d_Reckoner_valueFor_123 : decode b_Reckoner_valueFor 123 = .ok (.getfield 15, 3) := by decide +kernel
theorem d_Reckoner_valueFor_126 : decode b_Reckoner_valueFor 126 = .ok (.getfield 84, 3) := by decide +kernel
theorem d_Reckoner_valueFor_129 : decode b_Reckoner_valueFor 129 = .ok (.isub, 1) := by decide +kernel
theorem d_Reckoner_valueFor_130 : decode b_Reckoner_valueFor 130 = .ok (.aload_n 0, 1) := by decide +kernel
theorem d_Reckoner_valueFor_131 : decode b_Reckoner_valueFor 131 = .ok (.getfield 19, 3) := by decide +kernel
theorem d_Reckoner_valueFor_134 : decode b_Reckoner_valueFor 134 = .ok (.aload_n 0, 1) := by decide +kernel
theorem d_Reckoner_valueFor_135 : decode b_Reckoner_valueFor 135 = .ok (.getfield 23, 3) := by decide +kernel
theorem d_Reckoner_valueFor_138 : decode b_Reckoner_valueFor 138 = .ok (.invokevirtual 91, 3) := by decide +kernel
theorem d_Reckoner_valueFor_141 : decode b_Reckoner_valueFor 141 = .ok (.lreturn, 1) := by decide +kernel
theorem d_Reckoner_valueFor_142 : decode b_Reckoner_valueFor 142 = .ok (.aload_n 0, 1) := by decide +kernel
theorem d_Reckoner_valueFor_143 : decode b_Reckoner_valueFor 143 = .ok (.iload_n 1, 1) := by decide +kernel
theorem d_Reckoner_valueFor_144 : decode b_Reckoner_valueFor 144 = .ok (.aload_n 0, 1) := by decide +kernel
theorem d_Reckoner_valueFor_145 : decode b_Reckoner_valueFor 145 = .ok (.getfield 15, 3) := by decide +kernel
theorem d_Reckoner_valueFor_148 : decode b_Reckoner_valueFor 148 = .ok (.getfield 84, 3) := by decide +kernel
theorem d_Reckoner_valueFor_151 : decode b_Reckoner_valueFor 151 = .ok (.iadd, 1) := by decide +kernel
theorem d_Reckoner_valueFor_152 : decode b_Reckoner_valueFor 152 = .ok (.aload_n 0, 1) := by decide +kernel
theorem d_Reckoner_valueFor_153 : decode b_Reckoner_valueFor 153 = .ok (.getfield 19, 3) := by decide +kernel
theorem d_Reckoner_valueFor_156 : decode b_Reckoner_valueFor 156 = .ok (.aload_n 0, 1) := by decide +kernel
theorem d_Reckoner_valueFor_157 : decode b_Reckoner_valueFor 157 = .ok (.getfield 23, 3) := by decide +kernel
theorem d_Reckoner_valueFor_160 : decode b_Reckoner_valueFor 160 = .ok (.invokevirtual 91, 3) := by decide +kernel
theorem d_Reckoner_valueFor_163 : decode b_Reckoner_valueFor 163 = .ok (.lreturn, 1) := by decide +kernel
theorem d_Reckoner_valueFor_164 : decode b_Reckoner_valueFor 164 = .ok (.aload_n 0, 1) := by decide +kernel
theorem d_Reckoner_valueFor_165 : decode b_Reckoner_valueFor 165 = .ok (.aload_n 0, 1) := by decide +kernel
theorem d_Reckoner_valueFor_166 : decode b_Reckoner_valueFor 166 = .ok (.getfield 64, 3) := by decide +kernel
theorem d_Reckoner_valueFor_169 : decode b_Reckoner_valueFor 169 = .ok (.aload_n 0, 1) := by decide +kernel
theorem d_Reckoner_valueFor_170 : decode b_Reckoner_valueFor 170 = .ok (.getfield 64, 3) := by decide +kernel
theorem d_Reckoner_valueFor_173 : decode b_Reckoner_valueFor 173 = .ok (.aload_n 0, 1) := by decide +kernel
theorem d_Reckoner_valueFor_174 : decode b_Reckoner_valueFor 174 = .ok (.getfield 70, 3) := by decide +kernel
theorem d_Reckoner_valueFor_177 : decode b_Reckoner_valueFor 177 = .ok (.invokevirtual 91, 3) := by decide +kernel
theorem d_Reckoner_valueFor_180 : decode b_Reckoner_valueFor 180 = .ok (.lreturn, 1) := by decide +kernel
theorem d_Reckoner_valueFor_181 : decode b_Reckoner_valueFor 181 = .ok (.aload_n 0, 1) := by decide +kernel
theorem d_Reckoner_valueFor_182 : decode b_Reckoner_valueFor 182 = .ok (.aload_n 0, 1) := by decide +kernel
theorem d_Reckoner_valueFor_183 : decode b_Reckoner_valueFor 183 = .ok (.getfield 70, 3) := by decide +kernel
theorem d_Reckoner_valueFor_186 : decode b_Reckoner_valueFor 186 = .ok (.iconst 1, 1) := by decide +kernel
theorem d_Reckoner_valueFor_187 : decode b_Reckoner_valueFor 187 = .ok (.isub, 1) := by decide +kernel
theorem d_Reckoner_valueFor_188 : decode b_Reckoner_valueFor 188 = .ok (.aload_n 0, 1) := by decide +kernel
theorem d_Reckoner_valueFor_189 : decode b_Reckoner_valueFor 189 = .ok (.getfield 64, 3) := by decide +kernel
theorem d_Reckoner_valueFor_192 : decode b_Reckoner_valueFor 192 = .ok (.aload_n 0, 1) := by decide +kernel
theorem d_Reckoner_valueFor_193 : decode b_Reckoner_valueFor 193 = .ok (.getfield 70, 3) := by decide +kernel
theorem d_Reckoner_valueFor_196 : decode b_Reckoner_valueFor 196 = .ok (.invokevirtual 91, 3) := by decide +kernel
theorem d_Reckoner_valueFor_199 : decode b_Reckoner_valueFor 199 = .ok (.lreturn, 1) := by decide +kernel
theorem d_Reckoner_valueFor_200 : decode b_Reckoner_valueFor 200 = .ok (.aload_n 0, 1) := by decide +kernel
theorem d_Reckoner_valueFor_201 : decode b_Reckoner_valueFor 201 = .ok (.invokevirtual 95, 3) := by decide +kernel
theorem d_Reckoner_valueFor_204 : decode b_Reckoner_valueFor 204 = .ok (.lreturn, 1) := by decide +kernel
theorem d_Reckoner_valueFor_205 : decode b_Reckoner_valueFor 205 = .ok (.aload_n 0, 1) := by decide +kernel
theorem d_Reckoner_valueFor_206 : decode b_Reckoner_valueFor 206 = .ok (.invokevirtual 99, 3) := by decide +kernel
theorem d_Reckoner_valueFor_209 : decode b_Reckoner_valueFor 209 = .ok (.i2l, 1) := by decide +kernel
theorem d_Reckoner_valueFor_210 : decode b_Reckoner_valueFor 210 = .ok (.lreturn, 1) := by decide +kernel
theorem d_Reckoner_valueFor_211 : decode b_Reckoner_valueFor 211 = .ok (.aload_n 0, 1) := by decide +kernel
theorem d_Reckoner_valueFor_212 : decode b_Reckoner_valueFor 212 = .ok (.invokevirtual 103, 3) := by decide +kernel
theorem d_Reckoner_valueFor_215 : decode b_Reckoner_valueFor 215 = .ok (.lreturn, 1) := by decide +kernel
theorem d_Reckoner_valueFor_216 : decode b_Reckoner_valueFor 216 = .ok (.aload_n 0, 1) := by decide +kernel
theorem d_Reckoner_valueFor_217 : decode b_Reckoner_valueFor 217 = .ok (.invokevirtual 106, 3) := by decide +kernel
theorem d_Reckoner_valueFor_220 : decode b_Reckoner_valueFor 220 = .ok (.lreturn, 1) := by decide +kernel
theorem d_Reckoner_tileOf_0 : decode b_Reckoner_tileOf 0 = .ok (.iload_n 1, 1) := by decide +kernel
theorem d_Reckoner_tileOf_1 : decode b_Reckoner_tileOf 1 = .ok (.iload_n 2, 1) := by decide +kernel
theorem d_Reckoner_tileOf_2 : decode b_Reckoner_tileOf 2 = .ok (.idiv, 1) := by decide +kernel
theorem d_Reckoner_tileOf_3 : decode b_Reckoner_tileOf 3 = .ok (.istore_n 3, 1) := by decide +kernel
theorem d_Reckoner_tileOf_4 : decode b_Reckoner_tileOf 4 = .ok (.iload_n 1, 1) := by decide +kernel
theorem d_Reckoner_tileOf_5 : decode b_Reckoner_tileOf 5 = .ok (.iload_n 2, 1) := by decide +kernel
theorem d_Reckoner_tileOf_6 : decode b_Reckoner_tileOf 6 = .ok (.irem, 1) := by decide +kernel
theorem d_Reckoner_tileOf_7 : decode b_Reckoner_tileOf 7 = .ok (.istore 4, 2) := by decide +kernel
theorem d_Reckoner_tileOf_9 : decode b_Reckoner_tileOf 9 = .ok (.iload 4, 2) := by decide +kernel
theorem d_Reckoner_tileOf_11 : decode b_Reckoner_tileOf 11 = .ok (.iload_n 3, 1) := by decide +kernel
theorem d_Reckoner_tileOf_12 : decode b_Reckoner_tileOf 12 = .ok (.iconst 1, 1) := by decide +kernel
theorem d_Reckoner_tileOf_13 : decode b_Reckoner_tileOf 13 = .ok (.iadd, 1) := by decide +kernel
theorem d_Reckoner_tileOf_14 : decode b_Reckoner_tileOf 14 = .ok (.imul, 1) := by decide +kernel
theorem d_Reckoner_tileOf_15 : decode b_Reckoner_tileOf 15 = .ok (.istore 5, 2) := by decide +kernel
theorem d_Reckoner_tileOf_17 : decode b_Reckoner_tileOf 17 = .ok (.iload_n 3, 1) := by decide +kernel
theorem d_Reckoner_tileOf_18 : decode b_Reckoner_tileOf 18 = .ok (.ifCond .eq 9, 3) := by decide +kernel
theorem d_Reckoner_tileOf_21 : decode b_Reckoner_tileOf 21 = .ok (.iload_n 0, 1) := by decide +kernel
theorem d_Reckoner_tileOf_22 : decode b_Reckoner_tileOf 22 = .ok (.iload 5, 2) := by decide +kernel
theorem d_Reckoner_tileOf_24 : decode b_Reckoner_tileOf 24 = .ok (.if_icmp .ge 11, 3) := by decide +kernel
theorem d_Reckoner_tileOf_27 : decode b_Reckoner_tileOf 27 = .ok (.iconst 1, 1) := by decide +kernel
theorem d_Reckoner_tileOf_28 : decode b_Reckoner_tileOf 28 = .ok (.iload_n 0, 1) := by decide +kernel
theorem d_Reckoner_tileOf_29 : decode b_Reckoner_tileOf 29 = .ok (.iload_n 3, 1) := by decide +kernel
theorem d_Reckoner_tileOf_30 : decode b_Reckoner_tileOf 30 = .ok (.iconst 1, 1) := by decide +kernel
theorem d_Reckoner_tileOf_31 : decode b_Reckoner_tileOf 31 = .ok (.iadd, 1) := by decide +kernel
theorem d_Reckoner_tileOf_32 : decode b_Reckoner_tileOf 32 = .ok (.idiv, 1) := by decide +kernel
theorem d_Reckoner_tileOf_33 : decode b_Reckoner_tileOf 33 = .ok (.iadd, 1) := by decide +kernel
theorem d_Reckoner_tileOf_34 : decode b_Reckoner_tileOf 34 = .ok (.ireturn, 1) := by decide +kernel
theorem d_Reckoner_tileOf_35 : decode b_Reckoner_tileOf 35 = .ok (.iconst 1, 1) := by decide +kernel
theorem d_Reckoner_tileOf_36 : decode b_Reckoner_tileOf 36 = .ok (.iload 4, 2) := by decide +kernel
theorem d_Reckoner_tileOf_38 : decode b_Reckoner_tileOf 38 = .ok (.iadd, 1) := by decide +kernel
theorem d_Reckoner_tileOf_39 : decode b_Reckoner_tileOf 39 = .ok (.iload_n 0, 1) := by decide +kernel
theorem d_Reckoner_tileOf_40 : decode b_Reckoner_tileOf 40 = .ok (.iload 5, 2) := by decide +kernel
theorem d_Reckoner_tileOf_42 : decode b_Reckoner_tileOf 42 = .ok (.isub, 1) := by decide +kernel
theorem d_Reckoner_tileOf_43 : decode b_Reckoner_tileOf 43 = .ok (.iload_n 3, 1) := by decide +kernel
theorem d_Reckoner_tileOf_44 : decode b_Reckoner_tileOf 44 = .ok (.idiv, 1) := by decide +kernel
theorem d_Reckoner_tileOf_45 : decode b_Reckoner_tileOf 45 = .ok (.iadd, 1) := by decide +kernel
theorem d_Reckoner_tileOf_46 : decode b_Reckoner_tileOf 46 = .ok (.ireturn, 1) := by decide +kernel
theorem d_Reckoner_argumentIn_0 : decode b_Reckoner_argumentIn 0 = .ok (.iload_n 1, 1) := by decide +kernel
theorem d_Reckoner_argumentIn_1 : decode b_Reckoner_argumentIn 1 = .ok (.iload_n 2, 1) := by decide +kernel
theorem d_Reckoner_argumentIn_2 : decode b_Reckoner_argumentIn 2 = .ok (.if_icmp .lt 26, 3) := by decide +kernel
theorem d_Reckoner_argumentIn_5 : decode b_Reckoner_argumentIn 5 = .ok (.iload_n 1, 1) := by decide +kernel
theorem d_Reckoner_argumentIn_6 : decode b_Reckoner_argumentIn 6 = .ok (.iload_n 3, 1) := by decide +kernel
theorem d_Reckoner_argumentIn_7 : decode b_Reckoner_argumentIn 7 = .ok (.if_icmp .ge 21, 3) := by decide +kernel
theorem d_Reckoner_argumentIn_10 : decode b_Reckoner_argumentIn 10 = .ok (.aload_n 0, 1) := by decide +kernel
theorem d_Reckoner_argumentIn_11 : decode b_Reckoner_argumentIn 11 = .ok (.getfield 9, 3) := by decide +kernel
theorem d_Reckoner_argumentIn_14 : decode b_Reckoner_argumentIn 14 = .ok (.iload_n 1, 1) := by decide +kernel
theorem d_Reckoner_argumentIn_15 : decode b_Reckoner_argumentIn 15 = .ok (.aload_n 0, 1) := by decide +kernel
theorem d_Reckoner_argumentIn_16 : decode b_Reckoner_argumentIn 16 = .ok (.getfield 15, 3) := by decide +kernel
theorem d_Reckoner_argumentIn_19 : decode b_Reckoner_argumentIn 19 = .ok (.getfield 109, 3) := by decide +kernel
theorem d_Reckoner_argumentIn_22 : decode b_Reckoner_argumentIn 22 = .ok (.invokevirtual 60, 3) := by decide +kernel
theorem d_Reckoner_argumentIn_25 : decode b_Reckoner_argumentIn 25 = .ok (.goto 6, 3) := by decide +kernel
theorem d_Reckoner_argumentIn_28 : decode b_Reckoner_argumentIn 28 = .ok (.ldc2_w 49, 3) := by decide +kernel
theorem d_Reckoner_argumentIn_31 : decode b_Reckoner_argumentIn 31 = .ok (.lreturn, 1) := by decide +kernel
theorem d_Reckoner_sumOfFrame_0 : decode b_Reckoner_sumOfFrame 0 = .ok (.lconst 0, 1) := by decide +kernel
theorem d_Reckoner_sumOfFrame_1 : decode b_Reckoner_sumOfFrame 1 = .ok (.lstore_n 1, 1) := by decide +kernel
theorem d_Reckoner_sumOfFrame_2 : decode b_Reckoner_sumOfFrame 2 = .ok (.iconst 0, 1) := by decide +kernel
theorem d_Reckoner_sumOfFrame_3 : decode b_Reckoner_sumOfFrame 3 = .ok (.istore_n 3, 1) := by decide +kernel
theorem d_Reckoner_sumOfFrame_4 : decode b_Reckoner_sumOfFrame 4 = .ok (.aload_n 0, 1) := by decide +kernel
theorem d_Reckoner_sumOfFrame_5 : decode b_Reckoner_sumOfFrame 5 = .ok (.getfield 64, 3) := by decide +kernel
theorem d_Reckoner_sumOfFrame_8 : decode b_Reckoner_sumOfFrame 8 = .ok (.istore 4, 2) := by decide +kernel
theorem d_Reckoner_sumOfFrame_10 : decode b_Reckoner_sumOfFrame 10 = .ok (.iload 4, 2) := by decide +kernel
theorem d_Reckoner_sumOfFrame_12 : decode b_Reckoner_sumOfFrame 12 = .ok (.aload_n 0, 1) := by decide +kernel
theorem d_Reckoner_sumOfFrame_13 : decode b_Reckoner_sumOfFrame 13 = .ok (.getfield 70, 3) := by decide +kernel
theorem d_Reckoner_sumOfFrame_16 : decode b_Reckoner_sumOfFrame 16 = .ok (.if_icmp .ge 43, 3) := by decide +kernel
theorem d_Reckoner_sumOfFrame_19 : decode b_Reckoner_sumOfFrame 19 = .ok (.aload_n 0, 1) := by decide +kernel
theorem d_Reckoner_sumOfFrame_20 : decode b_Reckoner_sumOfFrame 20 = .ok (.getfield 9, 3) := by decide +kernel
theorem d_Reckoner_sumOfFrame_23 : decode b_Reckoner_sumOfFrame 23 = .ok (.iload 4, 2) := by decide +kernel
theorem d_Reckoner_sumOfFrame_25 : decode b_Reckoner_sumOfFrame 25 = .ok (.aload_n 0, 1) := by decide +kernel
theorem d_Reckoner_sumOfFrame_26 : decode b_Reckoner_sumOfFrame 26 = .ok (.getfield 15, 3) := by decide +kernel
theorem d_Reckoner_sumOfFrame_29 : decode b_Reckoner_sumOfFrame 29 = .ok (.getfield 109, 3) := by decide +kernel
theorem d_Reckoner_sumOfFrame_32 : decode b_Reckoner_sumOfFrame 32 = .ok (.invokevirtual 60, 3) := by decide +kernel
theorem d_Reckoner_sumOfFrame_35 : decode b_Reckoner_sumOfFrame 35 = .ok (.lstore 5, 2) := by decide +kernel
theorem d_Reckoner_sumOfFrame_37 : decode b_Reckoner_sumOfFrame 37 = .ok (.lload 5, 2) := by decide +kernel
theorem d_Reckoner_sumOfFrame_39 : decode b_Reckoner_sumOfFrame 39 = .ok (.ldc2_w 49, 3) := by decide +kernel
theorem d_Reckoner_sumOfFrame_42 : decode b_Reckoner_sumOfFrame 42 = .ok (.lcmp, 1) := by decide +kernel
theorem d_Reckoner_sumOfFrame_43 : decode b_Reckoner_sumOfFrame 43 = .ok (.ifCond .eq 10, 3) := by decide +kernel
theorem d_Reckoner_sumOfFrame_46 : decode b_Reckoner_sumOfFrame 46 = .ok (.lload_n 1, 1) := by decide +kernel
theorem d_Reckoner_sumOfFrame_47 : decode b_Reckoner_sumOfFrame 47 = .ok (.lload 5, 2) := by decide +kernel
theorem d_Reckoner_sumOfFrame_49 : decode b_Reckoner_sumOfFrame 49 = .ok (.ladd, 1) := by decide +kernel
theorem d_Reckoner_sumOfFrame_50 : decode b_Reckoner_sumOfFrame 50 = .ok (.lstore_n 1, 1) := by decide +kernel
theorem d_Reckoner_sumOfFrame_51 : decode b_Reckoner_sumOfFrame 51 = .ok (.iconst 1, 1) := by decide +kernel
theorem d_Reckoner_sumOfFrame_52 : decode b_Reckoner_sumOfFrame 52 = .ok (.istore_n 3, 1) := by decide +kernel
theorem d_Reckoner_sumOfFrame_53 : decode b_Reckoner_sumOfFrame 53 = .ok (.iinc 4 1, 3) := by decide +kernel
theorem d_Reckoner_sumOfFrame_56 : decode b_Reckoner_sumOfFrame 56 = .ok (.goto (-46), 3) := by decide +kernel
theorem d_Reckoner_sumOfFrame_59 : decode b_Reckoner_sumOfFrame 59 = .ok (.iload_n 3, 1) := by decide +kernel
theorem d_Reckoner_sumOfFrame_60 : decode b_Reckoner_sumOfFrame 60 = .ok (.ifCond .eq 7, 3) := by decide +kernel
theorem d_Reckoner_sumOfFrame_63 : decode b_Reckoner_sumOfFrame 63 = .ok (.lload_n 1, 1) := by decide +kernel
theorem d_Reckoner_sumOfFrame_64 : decode b_Reckoner_sumOfFrame 64 = .ok (.goto 6, 3) := by decide +kernel
theorem d_Reckoner_sumOfFrame_67 : decode b_Reckoner_sumOfFrame 67 = .ok (.ldc2_w 49, 3) := by decide +kernel
theorem d_Reckoner_sumOfFrame_70 : decode b_Reckoner_sumOfFrame 70 = .ok (.lreturn, 1) := by decide +kernel
theorem d_Reckoner_countInFrame_0 : decode b_Reckoner_countInFrame 0 = .ok (.iconst 0, 1) := by decide +kernel
theorem d_Reckoner_countInFrame_1 : decode b_Reckoner_countInFrame 1 = .ok (.istore_n 1, 1) := by decide +kernel
theorem d_Reckoner_countInFrame_2 : decode b_Reckoner_countInFrame 2 = .ok (.aload_n 0, 1) := by decide +kernel
theorem d_Reckoner_countInFrame_3 : decode b_Reckoner_countInFrame 3 = .ok (.getfield 64, 3) := by decide +kernel
theorem d_Reckoner_countInFrame_6 : decode b_Reckoner_countInFrame 6 = .ok (.istore_n 2, 1) := by decide +kernel
theorem d_Reckoner_countInFrame_7 : decode b_Reckoner_countInFrame 7 = .ok (.iload_n 2, 1) := by decide +kernel
theorem d_Reckoner_countInFrame_8 : decode b_Reckoner_countInFrame 8 = .ok (.aload_n 0, 1) := by decide +kernel
theorem d_Reckoner_countInFrame_9 : decode b_Reckoner_countInFrame 9 = .ok (.getfield 70, 3) := by decide +kernel
theorem d_Reckoner_countInFrame_12 : decode b_Reckoner_countInFrame 12 = .ok (.if_icmp .ge 34, 3) := by decide +kernel
theorem d_Reckoner_countInFrame_15 : decode b_Reckoner_countInFrame 15 = .ok (.aload_n 0, 1) := by decide +kernel
theorem d_Reckoner_countInFrame_16 : decode b_Reckoner_countInFrame 16 = .ok (.getfield 9, 3) := by decide +kernel
theorem d_Reckoner_countInFrame_19 : decode b_Reckoner_countInFrame 19 = .ok (.iload_n 2, 1) := by decide +kernel
theorem d_Reckoner_countInFrame_20 : decode b_Reckoner_countInFrame 20 = .ok (.aload_n 0, 1) := by decide +kernel
theorem d_Reckoner_countInFrame_21 : decode b_Reckoner_countInFrame 21 = .ok (.getfield 15, 3) := by decide +kernel
theorem d_Reckoner_countInFrame_24 : decode b_Reckoner_countInFrame 24 = .ok (.getfield 109, 3) := by decide +kernel
theorem d_Reckoner_countInFrame_27 : decode b_Reckoner_countInFrame 27 = .ok (.invokevirtual 60, 3) := by decide +kernel
theorem d_Reckoner_countInFrame_30 : decode b_Reckoner_countInFrame 30 = .ok (.ldc2_w 49, 3) := by decide +kernel
theorem d_Reckoner_countInFrame_33 : decode b_Reckoner_countInFrame 33 = .ok (.lcmp, 1) := by decide +kernel
theorem d_Reckoner_countInFrame_34 : decode b_Reckoner_countInFrame 34 = .ok (.ifCond .eq 6, 3) := by decide +kernel
theorem d_Reckoner_countInFrame_37 : decode b_Reckoner_countInFrame 37 = .ok (.iinc 1 1, 3) := by decide +kernel
theorem d_Reckoner_countInFrame_40 : decode b_Reckoner_countInFrame 40 = .ok (.iinc 2 1, 3) := by decide +kernel
theorem d_Reckoner_countInFrame_43 : decode b_Reckoner_countInFrame 43 = .ok (.goto (-36), 3) := by decide +kernel
theorem d_Reckoner_countInFrame_46 : decode b_Reckoner_countInFrame 46 = .ok (.iload_n 1, 1) := by decide +kernel
theorem d_Reckoner_countInFrame_47 : decode b_Reckoner_countInFrame 47 = .ok (.ireturn, 1) := by decide +kernel
theorem d_Reckoner_leastInFrame_0 : decode b_Reckoner_leastInFrame 0 = .ok (.ldc2_w 49, 3) := by decide +kernel
theorem d_Reckoner_leastInFrame_3 : decode b_Reckoner_leastInFrame 3 = .ok (.lstore_n 1, 1) := by decide +kernel
theorem d_Reckoner_leastInFrame_4 : decode b_Reckoner_leastInFrame 4 = .ok (.aload_n 0, 1) := by decide +kernel
theorem d_Reckoner_leastInFrame_5 : decode b_Reckoner_leastInFrame 5 = .ok (.getfield 64, 3) := by decide +kernel
theorem d_Reckoner_leastInFrame_8 : decode b_Reckoner_leastInFrame 8 = .ok (.istore_n 3, 1) := by decide +kernel
theorem d_Reckoner_leastInFrame_9 : decode b_Reckoner_leastInFrame 9 = .ok (.iload_n 3, 1) := by decide +kernel
theorem d_Reckoner_leastInFrame_10 : decode b_Reckoner_leastInFrame 10 = .ok (.aload_n 0, 1) := by decide +kernel
theorem d_Reckoner_leastInFrame_11 : decode b_Reckoner_leastInFrame 11 = .ok (.getfield 70, 3) := by decide +kernel
theorem d_Reckoner_leastInFrame_14 : decode b_Reckoner_leastInFrame 14 = .ok (.if_icmp .ge 53, 3) := by decide +kernel
theorem d_Reckoner_leastInFrame_17 : decode b_Reckoner_leastInFrame 17 = .ok (.aload_n 0, 1) := by decide +kernel
theorem d_Reckoner_leastInFrame_18 : decode b_Reckoner_leastInFrame 18 = .ok (.getfield 9, 3) := by decide +kernel
theorem d_Reckoner_leastInFrame_21 : decode b_Reckoner_leastInFrame 21 = .ok (.iload_n 3, 1) := by decide +kernel
theorem d_Reckoner_leastInFrame_22 : decode b_Reckoner_leastInFrame 22 = .ok (.aload_n 0, 1) := by decide +kernel
theorem d_Reckoner_leastInFrame_23 : decode b_Reckoner_leastInFrame 23 = .ok (.getfield 15, 3) := by decide +kernel
theorem d_Reckoner_leastInFrame_26 : decode b_Reckoner_leastInFrame 26 = .ok (.getfield 109, 3) := by decide +kernel
theorem d_Reckoner_leastInFrame_29 : decode b_Reckoner_leastInFrame 29 = .ok (.invokevirtual 60, 3) := by decide +kernel
theorem d_Reckoner_leastInFrame_32 : decode b_Reckoner_leastInFrame 32 = .ok (.lstore 4, 2) := by decide +kernel
theorem d_Reckoner_leastInFrame_34 : decode b_Reckoner_leastInFrame 34 = .ok (.lload 4, 2) := by decide +kernel
theorem d_Reckoner_leastInFrame_36 : decode b_Reckoner_leastInFrame 36 = .ok (.ldc2_w 49, 3) := by decide +kernel
theorem d_Reckoner_leastInFrame_39 : decode b_Reckoner_leastInFrame 39 = .ok (.lcmp, 1) := by decide +kernel
theorem d_Reckoner_leastInFrame_40 : decode b_Reckoner_leastInFrame 40 = .ok (.ifCond .eq 21, 3) := by decide +kernel
theorem d_Reckoner_leastInFrame_43 : decode b_Reckoner_leastInFrame 43 = .ok (.lload_n 1, 1) := by decide +kernel
theorem d_Reckoner_leastInFrame_44 : decode b_Reckoner_leastInFrame 44 = .ok (.ldc2_w 49, 3) := by decide +kernel
theorem d_Reckoner_leastInFrame_47 : decode b_Reckoner_leastInFrame 47 = .ok (.lcmp, 1) := by decide +kernel
theorem d_Reckoner_leastInFrame_48 : decode b_Reckoner_leastInFrame 48 = .ok (.ifCond .eq 10, 3) := by decide +kernel
theorem d_Reckoner_leastInFrame_51 : decode b_Reckoner_leastInFrame 51 = .ok (.lload 4, 2) := by decide +kernel
theorem d_Reckoner_leastInFrame_53 : decode b_Reckoner_leastInFrame 53 = .ok (.lload_n 1, 1) := by decide +kernel
theorem d_Reckoner_leastInFrame_54 : decode b_Reckoner_leastInFrame 54 = .ok (.lcmp, 1) := by decide +kernel
theorem d_Reckoner_leastInFrame_55 : decode b_Reckoner_leastInFrame 55 = .ok (.ifCond .ge 6, 3) := by decide +kernel
theorem d_Reckoner_leastInFrame_58 : decode b_Reckoner_leastInFrame 58 = .ok (.lload 4, 2) := by decide +kernel
theorem d_Reckoner_leastInFrame_60 : decode b_Reckoner_leastInFrame 60 = .ok (.lstore_n 1, 1) := by decide +kernel
theorem d_Reckoner_leastInFrame_61 : decode b_Reckoner_leastInFrame 61 = .ok (.iinc 3 1, 3) := by decide +kernel
theorem d_Reckoner_leastInFrame_64 : decode b_Reckoner_leastInFrame 64 = .ok (.goto (-55), 3) := by decide +kernel
theorem d_Reckoner_leastInFrame_67 : decode b_Reckoner_leastInFrame 67 = .ok (.lload_n 1, 1) := by decide +kernel
theorem d_Reckoner_leastInFrame_68 : decode b_Reckoner_leastInFrame 68 = .ok (.lreturn, 1) := by decide +kernel
theorem d_Reckoner_greatestInFrame_0 : decode b_Reckoner_greatestInFrame 0 = .ok (.ldc2_w 49, 3) := by decide +kernel
theorem d_Reckoner_greatestInFrame_3 : decode b_Reckoner_greatestInFrame 3 = .ok (.lstore_n 1, 1) := by decide +kernel
theorem d_Reckoner_greatestInFrame_4 : decode b_Reckoner_greatestInFrame 4 = .ok (.aload_n 0, 1) := by decide +kernel
theorem d_Reckoner_greatestInFrame_5 : decode b_Reckoner_greatestInFrame 5 = .ok (.getfield 64, 3) := by decide +kernel
theorem d_Reckoner_greatestInFrame_8 : decode b_Reckoner_greatestInFrame 8 = .ok (.istore_n 3, 1) := by decide +kernel
theorem d_Reckoner_greatestInFrame_9 : decode b_Reckoner_greatestInFrame 9 = .ok (.iload_n 3, 1) := by decide +kernel
theorem d_Reckoner_greatestInFrame_10 : decode b_Reckoner_greatestInFrame 10 = .ok (.aload_n 0, 1) := by decide +kernel
theorem d_Reckoner_greatestInFrame_11 : decode b_Reckoner_greatestInFrame 11 = .ok (.getfield 70, 3) := by decide +kernel
theorem d_Reckoner_greatestInFrame_14 : decode b_Reckoner_greatestInFrame 14 = .ok (.if_icmp .ge 29, 3) := by decide +kernel
theorem d_Reckoner_greatestInFrame_17 : decode b_Reckoner_greatestInFrame 17 = .ok (.lload_n 1, 1) := by decide +kernel
theorem d_Reckoner_greatestInFrame_18 : decode b_Reckoner_greatestInFrame 18 = .ok (.aload_n 0, 1) := by decide +kernel
theorem d_Reckoner_greatestInFrame_19 : decode b_Reckoner_greatestInFrame 19 = .ok (.getfield 9, 3) := by decide +kernel
theorem d_Reckoner_greatestInFrame_22 : decode b_Reckoner_greatestInFrame 22 = .ok (.iload_n 3, 1) := by decide +kernel
theorem d_Reckoner_greatestInFrame_23 : decode b_Reckoner_greatestInFrame 23 = .ok (.aload_n 0, 1) := by decide +kernel
theorem d_Reckoner_greatestInFrame_24 : decode b_Reckoner_greatestInFrame 24 = .ok (.getfield 15, 3) := by decide +kernel
theorem d_Reckoner_greatestInFrame_27 : decode b_Reckoner_greatestInFrame 27 = .ok (.getfield 109, 3) := by decide +kernel
theorem d_Reckoner_greatestInFrame_30 : decode b_Reckoner_greatestInFrame 30 = .ok (.invokevirtual 60, 3) := by decide +kernel
theorem d_Reckoner_greatestInFrame_33 : decode b_Reckoner_greatestInFrame 33 = .ok (.invokestatic 112, 3) := by decide +kernel
theorem d_Reckoner_greatestInFrame_36 : decode b_Reckoner_greatestInFrame 36 = .ok (.lstore_n 1, 1) := by decide +kernel
theorem d_Reckoner_greatestInFrame_37 : decode b_Reckoner_greatestInFrame 37 = .ok (.iinc 3 1, 3) := by decide +kernel
theorem d_Reckoner_greatestInFrame_40 : decode b_Reckoner_greatestInFrame 40 = .ok (.goto (-31), 3) := by decide +kernel
theorem d_Reckoner_greatestInFrame_43 : decode b_Reckoner_greatestInFrame 43 = .ok (.lload_n 1, 1) := by decide +kernel
theorem d_Reckoner_greatestInFrame_44 : decode b_Reckoner_greatestInFrame 44 = .ok (.lreturn, 1) := by decide +kernel
set_option maxHeartbeats 4000000 in
set_option maxRecDepth 100000 in
theorem c_Reckoner_arePeers_n (l : Launch) (D : va_G) (cI cL cZ cW cR : ClassId) (ro st en fp pg fs fe wo ko wf wa wn : Nat) (wp : Int32) (wd wg : Bool) (wl wh : Int32) (r v a b k n nv ns : Nat) (f : Nat → Int64) (g h : Nat → Nat) (i j : Nat) (hi : i < ns) (hj : j < ns) (hns : ns < 1000) (hnv : nv < 100000) (hg : ∀ z, z < ns → g z * k + k ≤ nv) : Met l y_Reckoner_arePeers ws_Reckoner_arePeers rm1_30 (zPr D vwCl (zT cI cL cZ cW cR) [(ro, .inr (6, [.ref r, .ref wo, .int (nI st), .int (nI en), .int (nI fp), .int (nI pg), .int (nI fs), .int (nI fe)])), (wo, .inr (2, [.ref ko, .int (nI wf), .int (nI wa), .int (nI wn), .int wp, .int (-1), .int (zb wd), .int (zb wg), .int wl, .int wh])), (r, .inr (0, [.int (nI k), .ref v, .ref a, .ref b, .int (nI n)])), (v, .inl (cL, nv, .inr (.inl f))), (a, .inl (cI, ns, .inl (zN g))), (b, .inl (cI, ns, .inl (zN h)))] [.ref ro, .int (nI i), .int (nI j)]) (zSi (zb (pEq none i j))) 0 0 (fun _ => False) := by
  refine zk_enterR (cc := b_Reckoner_arePeers) (maxL := 4) (ret := some .boolean) (by decide) rfl (Nat.le_of_ble_eq_true rfl) ?_
  intro p e s m args below meth c ls Q hx hb hml hr hlk hown hts hP hK hN hl hQ
  have hl : lv_has ls 4 [(0, .ref ro), (1, .int (nI i)), (2, .int (nI j))] := hl
  refine lv_aload_n hx hb d_Reckoner_arePeers_0 rfl (lv_at hl 0 rfl) ?_
  refine va_get (C := R_Reckoner) (T := F_Reckoner) (N := 8) hx hb hts (fun w h => List.mem_cons_of_mem _ (hin_Reckoner w h)) hown hK hP 0 rfl rfl 1 (by decide) (hts _ (List.mem_cons_of_mem _ fl_Reckoner_15)) (fun _ h => h) rfl d_Reckoner_arePeers_1 ?_
  refine va_get (C := R_Window) (T := F_Window) (N := 10) hx hb hts (fun w h => List.mem_cons_of_mem _ (hin_Window w h)) hown hK hP 1 rfl rfl 5 (by decide) (hts _ (List.mem_cons_of_mem _ fl_Reckoner_57)) (fun _ h => h) rfl d_Reckoner_arePeers_4 ?_
  refine lv_istore_n (lv' := [(3, .int (-1)), (0, .ref ro), (1, .int (nI i)), (2, .int (nI j))]) hx hb d_Reckoner_arePeers_7 rfl hl (by decide) rfl (fun ls hl => ?_)
  refine lv_iload_n hx hb d_Reckoner_arePeers_8 rfl (lv_at hl 0 rfl) ?_
  refine lv_iconst (v := (-1)) hx hb d_Reckoner_arePeers_9 (by decide) ?_
  have hgk := hg i hi
  refine lv_icmp_eq (tgt := 35) hx hb d_Reckoner_arePeers_10 rfl (fun _ => ?_) (fun hq => absurd hq (fun q => q rfl))
  refine lv_iconst (v := nI 1) hx hb d_Reckoner_arePeers_35 (by decide) ?_
  refine lv_goto (tgt := 40) hx hb d_Reckoner_arePeers_36 rfl ?_
  exact zk_zretR hx hb hr hlk hQ (rfl) d_Reckoner_arePeers_40
set_option maxHeartbeats 4000000 in
set_option maxRecDepth 100000 in
theorem c_Reckoner_arePeers_s (l : Launch) (D : va_G) (cI cL cZ cW cR : ClassId) (ro st en fp pg fs fe wo ko wf wa wn : Nat) (wp : Int32) (wd wg : Bool) (wl wh : Int32) (r v a b k n nv ns : Nat) (f : Nat → Int64) (g h : Nat → Nat) (oj : Nat) (hoj : oj < k) (i j : Nat) (hi : i < ns) (hj : j < ns) (hns : ns < 1000) (hnv : nv < 100000) (hg : ∀ z, z < ns → g z * k + k ≤ nv) : Met l y_Reckoner_arePeers ws_Reckoner_arePeers rm1_30 (zPr D vwCl (zT cI cL cZ cW cR) [(ro, .inr (6, [.ref r, .ref wo, .int (nI st), .int (nI en), .int (nI fp), .int (nI pg), .int (nI fs), .int (nI fe)])), (wo, .inr (2, [.ref ko, .int (nI wf), .int (nI wa), .int (nI wn), .int wp, .int (nI oj), .int (zb wd), .int (zb wg), .int wl, .int wh])), (r, .inr (0, [.int (nI k), .ref v, .ref a, .ref b, .int (nI n)])), (v, .inl (cL, nv, .inr (.inl f))), (a, .inl (cI, ns, .inl (zN g))), (b, .inl (cI, ns, .inl (zN h)))] [.ref ro, .int (nI i), .int (nI j)]) (zSi (zb (pEq (some (fun z => f (g z * k + oj))) i j))) 0 0 (fun _ => False) := by
  refine zk_enterR (cc := b_Reckoner_arePeers) (maxL := 4) (ret := some .boolean) (by decide) rfl (Nat.le_of_ble_eq_true rfl) ?_
  intro p e s m args below meth c ls Q hx hb hml hr hlk hown hts hP hK hN hl hQ
  have hl : lv_has ls 4 [(0, .ref ro), (1, .int (nI i)), (2, .int (nI j))] := hl
  refine lv_aload_n hx hb d_Reckoner_arePeers_0 rfl (lv_at hl 0 rfl) ?_
  refine va_get (C := R_Reckoner) (T := F_Reckoner) (N := 8) hx hb hts (fun w h => List.mem_cons_of_mem _ (hin_Reckoner w h)) hown hK hP 0 rfl rfl 1 (by decide) (hts _ (List.mem_cons_of_mem _ fl_Reckoner_15)) (fun _ h => h) rfl d_Reckoner_arePeers_1 ?_
  refine va_get (C := R_Window) (T := F_Window) (N := 10) hx hb hts (fun w h => List.mem_cons_of_mem _ (hin_Window w h)) hown hK hP 1 rfl rfl 5 (by decide) (hts _ (List.mem_cons_of_mem _ fl_Reckoner_57)) (fun _ h => h) rfl d_Reckoner_arePeers_4 ?_
  refine lv_istore_n (lv' := [(3, .int (nI oj)), (0, .ref ro), (1, .int (nI i)), (2, .int (nI j))]) hx hb d_Reckoner_arePeers_7 rfl hl (by decide) rfl (fun ls hl => ?_)
  refine lv_iload_n hx hb d_Reckoner_arePeers_8 rfl (lv_at hl 0 rfl) ?_
  refine lv_iconst (v := (-1)) hx hb d_Reckoner_arePeers_9 (by decide) ?_
  have hgk := hg i hi
  refine lv_icmp_eq (tgt := 35) hx hb d_Reckoner_arePeers_10 rfl (fun hq => absurd hq (zk_nm1 (by omega))) (fun _ => ?_)
  refine lv_aload_n hx hb d_Reckoner_arePeers_13 rfl (lv_at hl 1 rfl) ?_
  refine va_get (C := R_Reckoner) (T := F_Reckoner) (N := 8) hx hb hts (fun w h => List.mem_cons_of_mem _ (hin_Reckoner w h)) hown hK hP 0 rfl rfl 0 (by decide) (hts _ (List.mem_cons_of_mem _ fl_Reckoner_9)) (fun _ h => h) rfl d_Reckoner_arePeers_14 ?_
  refine lv_iload_n hx hb d_Reckoner_arePeers_17 rfl (lv_at hl 2 rfl) ?_
  refine lv_iload_n hx hb d_Reckoner_arePeers_18 rfl (lv_at hl 0 rfl) ?_
  have hPc := hP.sub (ws' := [(r, .inr (0, [.int (nI k), .ref v, .ref a, .ref b, .int (nI n)])), (v, .inl (cL, nv, .inr (.inl f))), (a, .inl (cI, ns, .inl (zN g))), (b, .inl (cI, ns, .inl (zN h)))]) [2, 3, 4, 5] rfl
  refine zk_rl (va_runV (As := [.int (nI i), .int (nI oj)]) (rest := []) ⟨hx, hb, hml, hown, hts⟩ (c_Rows_at l D cI cL cZ cW cR r v a b k n nv ns f g h i oj hi hns (by have := hg i hi; omega) hnv) (cwV 2 hts (zk_gV (fun _ h => List.mem_cons_of_mem _ h) ml_Reckoner_60 im_Rows_at se_Rows_at in_Rows co_Rows_at) rfl rfl rfl ⟨rfl, hd_Rows_at⟩ ⟨Nat.le_of_ble_eq_true rfl, Nat.le_of_ble_eq_true rfl⟩) (zk_vr (q0 := 0) hN hK hPc rfl rfl) rfl rfl hl.1 rfl (lv_room (Nat.le_of_ble_eq_true rfl)) d_Reckoner_arePeers_19 ⟨Nat.zero_le _, Nat.zero_le _⟩) ?_
  refine lv_aload_n hx hb d_Reckoner_arePeers_22 rfl (lv_at hl 1 rfl) ?_
  refine va_get (C := R_Reckoner) (T := F_Reckoner) (N := 8) hx hb hts (fun w h => List.mem_cons_of_mem _ (hin_Reckoner w h)) hown hK hP 0 rfl rfl 0 (by decide) (hts _ (List.mem_cons_of_mem _ fl_Reckoner_9)) (fun _ h => h) rfl d_Reckoner_arePeers_23 ?_
  refine lv_iload_n hx hb d_Reckoner_arePeers_26 rfl (lv_at hl 3 rfl) ?_
  refine lv_iload_n hx hb d_Reckoner_arePeers_27 rfl (lv_at hl 0 rfl) ?_
  have hPc := hP.sub (ws' := [(r, .inr (0, [.int (nI k), .ref v, .ref a, .ref b, .int (nI n)])), (v, .inl (cL, nv, .inr (.inl f))), (a, .inl (cI, ns, .inl (zN g))), (b, .inl (cI, ns, .inl (zN h)))]) [2, 3, 4, 5] rfl
  refine zk_rl (va_runV (As := [.int (nI j), .int (nI oj)]) (rest := [.long (f (g i * k + oj))]) ⟨hx, hb, hml, hown, hts⟩ (c_Rows_at l D cI cL cZ cW cR r v a b k n nv ns f g h j oj hj hns (by have := hg j hj; omega) hnv) (cwV 2 hts (zk_gV (fun _ h => List.mem_cons_of_mem _ h) ml_Reckoner_60 im_Rows_at se_Rows_at in_Rows co_Rows_at) rfl rfl rfl ⟨rfl, hd_Rows_at⟩ ⟨Nat.le_of_ble_eq_true rfl, Nat.le_of_ble_eq_true rfl⟩) (zk_vr (q0 := 0) hN hK hPc rfl rfl) rfl rfl hl.1 rfl (lv_room (Nat.le_of_ble_eq_true rfl)) d_Reckoner_arePeers_28 ⟨Nat.zero_le _, Nat.zero_le _⟩) ?_
  refine W.lcmp hx hb d_Reckoner_arePeers_31 ?_
  refine lv_if_ne (tgt := 39) hx hb d_Reckoner_arePeers_32 rfl (fun h32 => ?_) (fun h32 => ?_)
  · skip
    refine lv_iconst (v := nI 0) hx hb d_Reckoner_arePeers_39 (by decide) ?_
    exact zk_zretR hx hb hr hlk hQ (by first | exact zk_f (fun q => h32 ((lg_cmp_eq _ _).mpr q)) | exact zk_t ((lg_cmp_eq _ _).mp h32)) d_Reckoner_arePeers_40
  · skip
    refine lv_iconst (v := nI 1) hx hb d_Reckoner_arePeers_35 (by decide) ?_
    refine lv_goto (tgt := 40) hx hb d_Reckoner_arePeers_36 rfl ?_
    exact zk_zretR hx hb hr hlk hQ (by first | exact zk_f (fun q => h32 ((lg_cmp_eq _ _).mpr q)) | exact zk_t ((lg_cmp_eq _ _).mp h32)) d_Reckoner_arePeers_40
theorem c_Reckoner_arePeers (l : Launch) (D : va_G) (cI cL cZ cW cR : ClassId) (ro st en fp pg fs fe wo ko wf wa wn : Nat) (wp : Int32) (wd wg : Bool) (wl wh : Int32) (r v a b k n nv ns : Nat) (f : Nat → Int64) (g h : Nat → Nat) (oo : Option Nat) (hoo : ∀ q, oo = some q → q < k) (i j : Nat) (hi : i < ns) (hj : j < ns) (hns : ns < 1000) (hnv : nv < 100000) (hg : ∀ z, z < ns → g z * k + k ≤ nv) : Met l y_Reckoner_arePeers ws_Reckoner_arePeers rm1_30 (zPr D vwCl (zT cI cL cZ cW cR) [(ro, .inr (6, [.ref r, .ref wo, .int (nI st), .int (nI en), .int (nI fp), .int (nI pg), .int (nI fs), .int (nI fe)])), (wo, .inr (2, [.ref ko, .int (nI wf), .int (nI wa), .int (nI wn), .int wp, .int (oI oo), .int (zb wd), .int (zb wg), .int wl, .int wh])), (r, .inr (0, [.int (nI k), .ref v, .ref a, .ref b, .int (nI n)])), (v, .inl (cL, nv, .inr (.inl f))), (a, .inl (cI, ns, .inl (zN g))), (b, .inl (cI, ns, .inl (zN h)))] [.ref ro, .int (nI i), .int (nI j)]) (zSi (zb (pEq (oo.map (fun q z => f (g z * k + q))) i j))) 0 0 (fun _ => False) :=
  match oo, hoo with
  | none, _ => c_Reckoner_arePeers_n l D cI cL cZ cW cR ro st en fp pg fs fe wo ko wf wa wn wp wd wg wl wh r v a b k n nv ns f g h i j hi hj hns hnv hg
  | some oj, h0 => c_Reckoner_arePeers_s l D cI cL cZ cW cR ro st en fp pg fs fe wo ko wf wa wn wp wd wg wl wh r v a b k n nv ns f g h oj (h0 oj rfl) i j hi hj hns hnv hg
set_option maxHeartbeats 4000000 in
set_option maxRecDepth 100000 in
theorem c_Reckoner_isInFrame_n (l : Launch) (D : va_G) (cI cL cZ cW cR : ClassId) (ro st en fp pg fs fe wo ko wf wa wn : Nat) (wp : Int32) (wd wg : Bool) (wl wh : Int32) (r v a b k n nv ns : Nat) (f : Nat → Int64) (g h : Nat → Nat) (i j : Nat) (hi : i < ns) (hj : j < ns) (hns : ns < 1000) (hnv : nv < 100000) (hg : ∀ z, z < ns → g z * k + k ≤ nv) : Met l y_Reckoner_isInFrame ws_Reckoner_isInFrame rm2_60 (zPr D vwCl (zT cI cL cZ cW cR) [(ro, .inr (6, [.ref r, .ref wo, .int (nI st), .int (nI en), .int (nI fp), .int (nI pg), .int (nI fs), .int (nI fe)])), (wo, .inr (2, [.ref ko, .int (nI wf), .int (nI wa), .int (nI wn), .int wp, .int (-1), .int (zb wd), .int (zb wg), .int wl, .int wh])), (r, .inr (0, [.int (nI k), .ref v, .ref a, .ref b, .int (nI n)])), (v, .inl (cL, nv, .inr (.inl f))), (a, .inl (cI, ns, .inl (zN g))), (b, .inl (cI, ns, .inl (zN h)))] [.ref ro, .int (nI i), .int (nI j)]) (zSi (zb (inF none wd wg wl wh i j))) 0 0 (fun _ => False) := by
  refine zk_enterR (cc := b_Reckoner_isInFrame) (maxL := 7) (ret := some .boolean) (by decide) rfl (Nat.le_of_ble_eq_true rfl) ?_
  intro p e s m args below meth c ls Q hx hb hml hr hlk hown hts hP hK hN hl hQ
  have hl : lv_has ls 7 [(0, .ref ro), (1, .int (nI i)), (2, .int (nI j))] := hl
  refine lv_aload_n hx hb d_Reckoner_isInFrame_0 rfl (lv_at hl 0 rfl) ?_
  refine va_get (C := R_Reckoner) (T := F_Reckoner) (N := 8) hx hb hts (fun w h => List.mem_cons_of_mem _ (hin_Reckoner w h)) hown hK hP 0 rfl rfl 1 (by decide) (hts _ (List.mem_cons_of_mem _ fl_Reckoner_15)) (fun _ h => h) rfl d_Reckoner_isInFrame_1 ?_
  refine va_get (C := R_Window) (T := F_Window) (N := 10) hx hb hts (fun w h => List.mem_cons_of_mem _ (hin_Window w h)) hown hK hP 1 rfl rfl 7 (by decide) (hts _ (List.mem_cons_of_mem _ fl_Reckoner_73)) (fun _ h => h) rfl d_Reckoner_isInFrame_4 ?_
  refine zk_ifb_eq (tgt := 21) hx hb d_Reckoner_isInFrame_7 rfl (fun h7 => ?_) (fun h7 => ?_)
  · skip
    refine lv_aload_n hx hb d_Reckoner_isInFrame_21 rfl (lv_at hl 0 rfl) ?_
    refine va_get (C := R_Reckoner) (T := F_Reckoner) (N := 8) hx hb hts (fun w h => List.mem_cons_of_mem _ (hin_Reckoner w h)) hown hK hP 0 rfl rfl 1 (by decide) (hts _ (List.mem_cons_of_mem _ fl_Reckoner_15)) (fun _ h => h) rfl d_Reckoner_isInFrame_22 ?_
    refine lv_iload_n hx hb d_Reckoner_isInFrame_25 rfl (lv_at hl 2 rfl) ?_
    refine lv_iload_n hx hb d_Reckoner_isInFrame_26 rfl (lv_at hl 1 rfl) ?_
    refine lv_isub hx hb d_Reckoner_isInFrame_27 ?_
    refine lv_i2l (v := ((nI j) - (nI i)).toInt64) hx hb d_Reckoner_isInFrame_28 (rfl) ?_
    have hPc := hP.sub (ws' := [(wo, .inr (2, [.ref ko, .int (nI wf), .int (nI wa), .int (nI wn), .int wp, .int (-1), .int (zb wd), .int (zb wg), .int wl, .int wh]))]) [1] rfl
    refine zk_ri (va_runV (As := [.long (((nI j) - (nI i)).toInt64)]) (rest := []) ⟨hx, hb, hml, hown, hts⟩ (c_Window_reaches l D cI cL cZ cW cR wo ko wf wa wn wp (-1) wd wg wl wh (((nI j) - (nI i)).toInt64) (wRb wl wh (((nI j) - (nI i)).toInt64)) wRb_iff) (cwV 1 hts (zk_gV (fun _ h => List.mem_cons_of_mem _ h) ml_Reckoner_77 im_Window_reaches se_Window_reaches in_Window co_Window_reaches) rfl rfl rfl ⟨rfl, hd_Window_reaches⟩ ⟨Nat.le_of_ble_eq_true rfl, Nat.le_of_ble_eq_true rfl⟩) (zk_vr (q0 := 0) hN hK hPc rfl rfl) rfl rfl hl.1 rfl (lv_room (Nat.le_of_ble_eq_true rfl)) d_Reckoner_isInFrame_29 ⟨Nat.zero_le _, Nat.zero_le _⟩) ?_
    exact zk_zretR hx hb hr hlk hQ (by cases wg <;> rfl) d_Reckoner_isInFrame_32
  · skip
    refine lv_aload_n hx hb d_Reckoner_isInFrame_10 rfl (lv_at hl 0 rfl) ?_
    refine va_get (C := R_Reckoner) (T := F_Reckoner) (N := 8) hx hb hts (fun w h => List.mem_cons_of_mem _ (hin_Reckoner w h)) hown hK hP 0 rfl rfl 1 (by decide) (hts _ (List.mem_cons_of_mem _ fl_Reckoner_15)) (fun _ h => h) rfl d_Reckoner_isInFrame_11 ?_
    refine va_get (C := R_Window) (T := F_Window) (N := 10) hx hb hts (fun w h => List.mem_cons_of_mem _ (hin_Window w h)) hown hK hP 1 rfl rfl 5 (by decide) (hts _ (List.mem_cons_of_mem _ fl_Reckoner_57)) (fun _ h => h) rfl d_Reckoner_isInFrame_14 ?_
    refine lv_iconst (v := (-1)) hx hb d_Reckoner_isInFrame_17 (by decide) ?_
    have hgk := hg i hi
    refine lv_icmp_ne (tgt := 33) hx hb d_Reckoner_isInFrame_18 rfl (fun hq => absurd hq (fun q => q rfl)) (fun _ => ?_)
    refine lv_aload_n hx hb d_Reckoner_isInFrame_21 rfl (lv_at hl 0 rfl) ?_
    refine va_get (C := R_Reckoner) (T := F_Reckoner) (N := 8) hx hb hts (fun w h => List.mem_cons_of_mem _ (hin_Reckoner w h)) hown hK hP 0 rfl rfl 1 (by decide) (hts _ (List.mem_cons_of_mem _ fl_Reckoner_15)) (fun _ h => h) rfl d_Reckoner_isInFrame_22 ?_
    refine lv_iload_n hx hb d_Reckoner_isInFrame_25 rfl (lv_at hl 2 rfl) ?_
    refine lv_iload_n hx hb d_Reckoner_isInFrame_26 rfl (lv_at hl 1 rfl) ?_
    refine lv_isub hx hb d_Reckoner_isInFrame_27 ?_
    refine lv_i2l (v := ((nI j) - (nI i)).toInt64) hx hb d_Reckoner_isInFrame_28 (rfl) ?_
    have hPc := hP.sub (ws' := [(wo, .inr (2, [.ref ko, .int (nI wf), .int (nI wa), .int (nI wn), .int wp, .int (-1), .int (zb wd), .int (zb wg), .int wl, .int wh]))]) [1] rfl
    refine zk_ri (va_runV (As := [.long (((nI j) - (nI i)).toInt64)]) (rest := []) ⟨hx, hb, hml, hown, hts⟩ (c_Window_reaches l D cI cL cZ cW cR wo ko wf wa wn wp (-1) wd wg wl wh (((nI j) - (nI i)).toInt64) (wRb wl wh (((nI j) - (nI i)).toInt64)) wRb_iff) (cwV 1 hts (zk_gV (fun _ h => List.mem_cons_of_mem _ h) ml_Reckoner_77 im_Window_reaches se_Window_reaches in_Window co_Window_reaches) rfl rfl rfl ⟨rfl, hd_Window_reaches⟩ ⟨Nat.le_of_ble_eq_true rfl, Nat.le_of_ble_eq_true rfl⟩) (zk_vr (q0 := 0) hN hK hPc rfl rfl) rfl rfl hl.1 rfl (lv_room (Nat.le_of_ble_eq_true rfl)) d_Reckoner_isInFrame_29 ⟨Nat.zero_le _, Nat.zero_le _⟩) ?_
    exact zk_zretR hx hb hr hlk hQ (by cases wg <;> rfl) d_Reckoner_isInFrame_32
set_option maxHeartbeats 4000000 in
set_option maxRecDepth 100000 in
theorem c_Reckoner_isInFrame_s (l : Launch) (D : va_G) (cI cL cZ cW cR : ClassId) (ro st en fp pg fs fe wo ko wf wa wn : Nat) (wp : Int32) (wd wg : Bool) (wl wh : Int32) (r v a b k n nv ns : Nat) (f : Nat → Int64) (g h : Nat → Nat) (oj : Nat) (hoj : oj < k) (i j : Nat) (hi : i < ns) (hj : j < ns) (hns : ns < 1000) (hnv : nv < 100000) (hg : ∀ z, z < ns → g z * k + k ≤ nv) : Met l y_Reckoner_isInFrame ws_Reckoner_isInFrame rm2_60 (zPr D vwCl (zT cI cL cZ cW cR) [(ro, .inr (6, [.ref r, .ref wo, .int (nI st), .int (nI en), .int (nI fp), .int (nI pg), .int (nI fs), .int (nI fe)])), (wo, .inr (2, [.ref ko, .int (nI wf), .int (nI wa), .int (nI wn), .int wp, .int (nI oj), .int (zb wd), .int (zb wg), .int wl, .int wh])), (r, .inr (0, [.int (nI k), .ref v, .ref a, .ref b, .int (nI n)])), (v, .inl (cL, nv, .inr (.inl f))), (a, .inl (cI, ns, .inl (zN g))), (b, .inl (cI, ns, .inl (zN h)))] [.ref ro, .int (nI i), .int (nI j)]) (zSi (zb (inF (some (fun z => f (g z * k + oj))) wd wg wl wh i j))) 0 0 (fun _ => False) := by
  refine zk_enterR (cc := b_Reckoner_isInFrame) (maxL := 7) (ret := some .boolean) (by decide) rfl (Nat.le_of_ble_eq_true rfl) ?_
  intro p e s m args below meth c ls Q hx hb hml hr hlk hown hts hP hK hN hl hQ
  have hl : lv_has ls 7 [(0, .ref ro), (1, .int (nI i)), (2, .int (nI j))] := hl
  refine lv_aload_n hx hb d_Reckoner_isInFrame_0 rfl (lv_at hl 0 rfl) ?_
  refine va_get (C := R_Reckoner) (T := F_Reckoner) (N := 8) hx hb hts (fun w h => List.mem_cons_of_mem _ (hin_Reckoner w h)) hown hK hP 0 rfl rfl 1 (by decide) (hts _ (List.mem_cons_of_mem _ fl_Reckoner_15)) (fun _ h => h) rfl d_Reckoner_isInFrame_1 ?_
  refine va_get (C := R_Window) (T := F_Window) (N := 10) hx hb hts (fun w h => List.mem_cons_of_mem _ (hin_Window w h)) hown hK hP 1 rfl rfl 7 (by decide) (hts _ (List.mem_cons_of_mem _ fl_Reckoner_73)) (fun _ h => h) rfl d_Reckoner_isInFrame_4 ?_
  refine zk_ifb_eq (tgt := 21) hx hb d_Reckoner_isInFrame_7 rfl (fun h7 => ?_) (fun h7 => ?_)
  · skip
    refine lv_aload_n hx hb d_Reckoner_isInFrame_21 rfl (lv_at hl 0 rfl) ?_
    refine va_get (C := R_Reckoner) (T := F_Reckoner) (N := 8) hx hb hts (fun w h => List.mem_cons_of_mem _ (hin_Reckoner w h)) hown hK hP 0 rfl rfl 1 (by decide) (hts _ (List.mem_cons_of_mem _ fl_Reckoner_15)) (fun _ h => h) rfl d_Reckoner_isInFrame_22 ?_
    refine lv_iload_n hx hb d_Reckoner_isInFrame_25 rfl (lv_at hl 2 rfl) ?_
    refine lv_iload_n hx hb d_Reckoner_isInFrame_26 rfl (lv_at hl 1 rfl) ?_
    refine lv_isub hx hb d_Reckoner_isInFrame_27 ?_
    refine lv_i2l (v := ((nI j) - (nI i)).toInt64) hx hb d_Reckoner_isInFrame_28 (rfl) ?_
    have hPc := hP.sub (ws' := [(wo, .inr (2, [.ref ko, .int (nI wf), .int (nI wa), .int (nI wn), .int wp, .int (nI oj), .int (zb wd), .int (zb wg), .int wl, .int wh]))]) [1] rfl
    refine zk_ri (va_runV (As := [.long (((nI j) - (nI i)).toInt64)]) (rest := []) ⟨hx, hb, hml, hown, hts⟩ (c_Window_reaches l D cI cL cZ cW cR wo ko wf wa wn wp (nI oj) wd wg wl wh (((nI j) - (nI i)).toInt64) (wRb wl wh (((nI j) - (nI i)).toInt64)) wRb_iff) (cwV 1 hts (zk_gV (fun _ h => List.mem_cons_of_mem _ h) ml_Reckoner_77 im_Window_reaches se_Window_reaches in_Window co_Window_reaches) rfl rfl rfl ⟨rfl, hd_Window_reaches⟩ ⟨Nat.le_of_ble_eq_true rfl, Nat.le_of_ble_eq_true rfl⟩) (zk_vr (q0 := 0) hN hK hPc rfl rfl) rfl rfl hl.1 rfl (lv_room (Nat.le_of_ble_eq_true rfl)) d_Reckoner_isInFrame_29 ⟨Nat.zero_le _, Nat.zero_le _⟩) ?_
    exact zk_zretR hx hb hr hlk hQ (by rw [h7]; rfl) d_Reckoner_isInFrame_32
  · skip
    refine lv_aload_n hx hb d_Reckoner_isInFrame_10 rfl (lv_at hl 0 rfl) ?_
    refine va_get (C := R_Reckoner) (T := F_Reckoner) (N := 8) hx hb hts (fun w h => List.mem_cons_of_mem _ (hin_Reckoner w h)) hown hK hP 0 rfl rfl 1 (by decide) (hts _ (List.mem_cons_of_mem _ fl_Reckoner_15)) (fun _ h => h) rfl d_Reckoner_isInFrame_11 ?_
    refine va_get (C := R_Window) (T := F_Window) (N := 10) hx hb hts (fun w h => List.mem_cons_of_mem _ (hin_Window w h)) hown hK hP 1 rfl rfl 5 (by decide) (hts _ (List.mem_cons_of_mem _ fl_Reckoner_57)) (fun _ h => h) rfl d_Reckoner_isInFrame_14 ?_
    refine lv_iconst (v := (-1)) hx hb d_Reckoner_isInFrame_17 (by decide) ?_
    have hgk := hg i hi
    refine lv_icmp_ne (tgt := 33) hx hb d_Reckoner_isInFrame_18 rfl (fun _ => ?_) (fun hq => absurd hq (zk_nm1 (by omega)))
    refine lv_aload_n hx hb d_Reckoner_isInFrame_33 rfl (lv_at hl 0 rfl) ?_
    refine va_get (C := R_Reckoner) (T := F_Reckoner) (N := 8) hx hb hts (fun w h => List.mem_cons_of_mem _ (hin_Reckoner w h)) hown hK hP 0 rfl rfl 0 (by decide) (hts _ (List.mem_cons_of_mem _ fl_Reckoner_9)) (fun _ h => h) rfl d_Reckoner_isInFrame_34 ?_
    refine lv_iload_n hx hb d_Reckoner_isInFrame_37 rfl (lv_at hl 1 rfl) ?_
    refine lv_aload_n hx hb d_Reckoner_isInFrame_38 rfl (lv_at hl 0 rfl) ?_
    refine va_get (C := R_Reckoner) (T := F_Reckoner) (N := 8) hx hb hts (fun w h => List.mem_cons_of_mem _ (hin_Reckoner w h)) hown hK hP 0 rfl rfl 1 (by decide) (hts _ (List.mem_cons_of_mem _ fl_Reckoner_15)) (fun _ h => h) rfl d_Reckoner_isInFrame_39 ?_
    refine va_get (C := R_Window) (T := F_Window) (N := 10) hx hb hts (fun w h => List.mem_cons_of_mem _ (hin_Window w h)) hown hK hP 1 rfl rfl 5 (by decide) (hts _ (List.mem_cons_of_mem _ fl_Reckoner_57)) (fun _ h => h) rfl d_Reckoner_isInFrame_42 ?_
    have hPc := hP.sub (ws' := [(r, .inr (0, [.int (nI k), .ref v, .ref a, .ref b, .int (nI n)])), (v, .inl (cL, nv, .inr (.inl f))), (a, .inl (cI, ns, .inl (zN g))), (b, .inl (cI, ns, .inl (zN h)))]) [2, 3, 4, 5] rfl
    refine zk_rl (va_runV (As := [.int (nI i), .int (nI oj)]) (rest := []) ⟨hx, hb, hml, hown, hts⟩ (c_Rows_at l D cI cL cZ cW cR r v a b k n nv ns f g h i oj hi hns (by have := hg i hi; omega) hnv) (cwV 2 hts (zk_gV (fun _ h => List.mem_cons_of_mem _ h) ml_Reckoner_60 im_Rows_at se_Rows_at in_Rows co_Rows_at) rfl rfl rfl ⟨rfl, hd_Rows_at⟩ ⟨Nat.le_of_ble_eq_true rfl, Nat.le_of_ble_eq_true rfl⟩) (zk_vr (q0 := 0) hN hK hPc rfl rfl) rfl rfl hl.1 rfl (lv_room (Nat.le_of_ble_eq_true rfl)) d_Reckoner_isInFrame_45 ⟨Nat.zero_le _, Nat.zero_le _⟩) ?_
    refine lv_lstore_n (lv' := [(3, .long (f (g i * k + oj))), (0, .ref ro), (1, .int (nI i)), (2, .int (nI j))]) hx hb d_Reckoner_isInFrame_48 rfl hl (by decide) rfl (fun ls hl => ?_)
    refine lv_aload_n hx hb d_Reckoner_isInFrame_49 rfl (lv_at hl 1 rfl) ?_
    refine va_get (C := R_Reckoner) (T := F_Reckoner) (N := 8) hx hb hts (fun w h => List.mem_cons_of_mem _ (hin_Reckoner w h)) hown hK hP 0 rfl rfl 0 (by decide) (hts _ (List.mem_cons_of_mem _ fl_Reckoner_9)) (fun _ h => h) rfl d_Reckoner_isInFrame_50 ?_
    refine lv_iload_n hx hb d_Reckoner_isInFrame_53 rfl (lv_at hl 3 rfl) ?_
    refine lv_aload_n hx hb d_Reckoner_isInFrame_54 rfl (lv_at hl 1 rfl) ?_
    refine va_get (C := R_Reckoner) (T := F_Reckoner) (N := 8) hx hb hts (fun w h => List.mem_cons_of_mem _ (hin_Reckoner w h)) hown hK hP 0 rfl rfl 1 (by decide) (hts _ (List.mem_cons_of_mem _ fl_Reckoner_15)) (fun _ h => h) rfl d_Reckoner_isInFrame_55 ?_
    refine va_get (C := R_Window) (T := F_Window) (N := 10) hx hb hts (fun w h => List.mem_cons_of_mem _ (hin_Window w h)) hown hK hP 1 rfl rfl 5 (by decide) (hts _ (List.mem_cons_of_mem _ fl_Reckoner_57)) (fun _ h => h) rfl d_Reckoner_isInFrame_58 ?_
    have hPc := hP.sub (ws' := [(r, .inr (0, [.int (nI k), .ref v, .ref a, .ref b, .int (nI n)])), (v, .inl (cL, nv, .inr (.inl f))), (a, .inl (cI, ns, .inl (zN g))), (b, .inl (cI, ns, .inl (zN h)))]) [2, 3, 4, 5] rfl
    refine zk_rl (va_runV (As := [.int (nI j), .int (nI oj)]) (rest := []) ⟨hx, hb, hml, hown, hts⟩ (c_Rows_at l D cI cL cZ cW cR r v a b k n nv ns f g h j oj hj hns (by have := hg j hj; omega) hnv) (cwV 2 hts (zk_gV (fun _ h => List.mem_cons_of_mem _ h) ml_Reckoner_60 im_Rows_at se_Rows_at in_Rows co_Rows_at) rfl rfl rfl ⟨rfl, hd_Rows_at⟩ ⟨Nat.le_of_ble_eq_true rfl, Nat.le_of_ble_eq_true rfl⟩) (zk_vr (q0 := 0) hN hK hPc rfl rfl) rfl rfl hl.1 rfl (lv_room (Nat.le_of_ble_eq_true rfl)) d_Reckoner_isInFrame_61 ⟨Nat.zero_le _, Nat.zero_le _⟩) ?_
    refine lv_lstore (lv' := [(5, .long (f (g j * k + oj))), (3, .long (f (g i * k + oj))), (0, .ref ro), (1, .int (nI i)), (2, .int (nI j))]) hx hb d_Reckoner_isInFrame_64 hl (by decide) rfl (fun ls hl => ?_)
    refine lv_lload_n hx hb d_Reckoner_isInFrame_66 rfl (lv_at hl 1 rfl) ?_
    refine lv_ldc2 (v := (-1099511627776 : Int64)) hx hb hown (hts _ (List.mem_cons_of_mem _ cst_Reckoner_49)) d_Reckoner_isInFrame_67 ?_
    refine W.lcmp hx hb d_Reckoner_isInFrame_70 ?_
    refine lv_if_eq (tgt := 83) hx hb d_Reckoner_isInFrame_71 rfl (fun h71 => ?_) (fun h71 => ?_)
    · skip
      refine lv_lload_n hx hb d_Reckoner_isInFrame_83 rfl (lv_at hl 1 rfl) ?_
      refine lv_lload hx hb d_Reckoner_isInFrame_84 (lv_at hl 0 rfl) ?_
      refine W.lcmp hx hb d_Reckoner_isInFrame_86 ?_
      refine lv_if_ne (tgt := 94) hx hb d_Reckoner_isInFrame_87 rfl (fun h87 => ?_) (fun h87 => ?_)
      · skip
        refine lv_iconst (v := nI 0) hx hb d_Reckoner_isInFrame_94 (by decide) ?_
        exact zk_zretR hx hb hr hlk hQ (by rw [h7]; first | exact (zk_t ((lg_cmp_eq _ _).mp h87)).trans (congrArg zb (if_pos (Or.inl ((lg_cmp_eq _ _).mp h71))).symm) | exact (zk_f (fun q => h87 ((lg_cmp_eq _ _).mpr q))).trans (congrArg zb (if_pos (Or.inl ((lg_cmp_eq _ _).mp h71))).symm) | exact (zk_t ((lg_cmp_eq _ _).mp h87)).trans (congrArg zb (if_pos (Or.inr ((lg_cmp_eq _ _).mp h80))).symm) | exact (zk_f (fun q => h87 ((lg_cmp_eq _ _).mpr q))).trans (congrArg zb (if_pos (Or.inr ((lg_cmp_eq _ _).mp h80))).symm)) d_Reckoner_isInFrame_95
      · skip
        refine lv_iconst (v := nI 1) hx hb d_Reckoner_isInFrame_90 (by decide) ?_
        refine lv_goto (tgt := 95) hx hb d_Reckoner_isInFrame_91 rfl ?_
        exact zk_zretR hx hb hr hlk hQ (by rw [h7]; first | exact (zk_t ((lg_cmp_eq _ _).mp h87)).trans (congrArg zb (if_pos (Or.inl ((lg_cmp_eq _ _).mp h71))).symm) | exact (zk_f (fun q => h87 ((lg_cmp_eq _ _).mpr q))).trans (congrArg zb (if_pos (Or.inl ((lg_cmp_eq _ _).mp h71))).symm) | exact (zk_t ((lg_cmp_eq _ _).mp h87)).trans (congrArg zb (if_pos (Or.inr ((lg_cmp_eq _ _).mp h80))).symm) | exact (zk_f (fun q => h87 ((lg_cmp_eq _ _).mpr q))).trans (congrArg zb (if_pos (Or.inr ((lg_cmp_eq _ _).mp h80))).symm)) d_Reckoner_isInFrame_95
    · skip
      refine lv_lload hx hb d_Reckoner_isInFrame_74 (lv_at hl 0 rfl) ?_
      refine lv_ldc2 (v := (-1099511627776 : Int64)) hx hb hown (hts _ (List.mem_cons_of_mem _ cst_Reckoner_49)) d_Reckoner_isInFrame_76 ?_
      refine W.lcmp hx hb d_Reckoner_isInFrame_79 ?_
      refine lv_if_ne (tgt := 96) hx hb d_Reckoner_isInFrame_80 rfl (fun h80 => ?_) (fun h80 => ?_)
      · skip
        refine lv_aload_n hx hb d_Reckoner_isInFrame_96 rfl (lv_at hl 2 rfl) ?_
        refine va_get (C := R_Reckoner) (T := F_Reckoner) (N := 8) hx hb hts (fun w h => List.mem_cons_of_mem _ (hin_Reckoner w h)) hown hK hP 0 rfl rfl 1 (by decide) (hts _ (List.mem_cons_of_mem _ fl_Reckoner_15)) (fun _ h => h) rfl d_Reckoner_isInFrame_97 ?_
        refine lv_aload_n hx hb d_Reckoner_isInFrame_100 rfl (lv_at hl 2 rfl) ?_
        refine va_get (C := R_Reckoner) (T := F_Reckoner) (N := 8) hx hb hts (fun w h => List.mem_cons_of_mem _ (hin_Reckoner w h)) hown hK hP 0 rfl rfl 1 (by decide) (hts _ (List.mem_cons_of_mem _ fl_Reckoner_15)) (fun _ h => h) rfl d_Reckoner_isInFrame_101 ?_
        refine va_get (C := R_Window) (T := F_Window) (N := 10) hx hb hts (fun w h => List.mem_cons_of_mem _ (hin_Window w h)) hown hK hP 1 rfl rfl 6 (by decide) (hts _ (List.mem_cons_of_mem _ fl_Reckoner_81)) (fun _ h => h) rfl d_Reckoner_isInFrame_104 ?_
        refine zk_ifb_eq (tgt := 117) hx hb d_Reckoner_isInFrame_107 rfl (fun h107 => ?_) (fun h107 => ?_)
        · skip
          refine lv_lload hx hb d_Reckoner_isInFrame_117 (lv_at hl 0 rfl) ?_
          refine lv_lload_n hx hb d_Reckoner_isInFrame_119 rfl (lv_at hl 1 rfl) ?_
          refine lv_lsub hx hb d_Reckoner_isInFrame_120 ?_
          have hPc := hP.sub (ws' := [(wo, .inr (2, [.ref ko, .int (nI wf), .int (nI wa), .int (nI wn), .int wp, .int (nI oj), .int (zb wd), .int (zb wg), .int wl, .int wh]))]) [1] rfl
          refine zk_ri (va_runV (As := [.long ((f (g j * k + oj)) - (f (g i * k + oj)))]) (rest := []) ⟨hx, hb, hml, hown, hts⟩ (c_Window_reaches l D cI cL cZ cW cR wo ko wf wa wn wp (nI oj) wd wg wl wh ((f (g j * k + oj)) - (f (g i * k + oj))) (wRb wl wh ((f (g j * k + oj)) - (f (g i * k + oj)))) wRb_iff) (cwV 1 hts (zk_gV (fun _ h => List.mem_cons_of_mem _ h) ml_Reckoner_77 im_Window_reaches se_Window_reaches in_Window co_Window_reaches) rfl rfl rfl ⟨rfl, hd_Window_reaches⟩ ⟨Nat.le_of_ble_eq_true rfl, Nat.le_of_ble_eq_true rfl⟩) (zk_vr (q0 := 0) hN hK hPc rfl rfl) rfl rfl hl.1 rfl (lv_room (Nat.le_of_ble_eq_true rfl)) d_Reckoner_isInFrame_121 ⟨Nat.zero_le _, Nat.zero_le _⟩) ?_
          have hz : ¬ (f (g i * k + oj) = -1099511627776 ∨ f (g j * k + oj) = -1099511627776) := fun q => q.elim (fun y => h71 ((lg_cmp_eq _ _).mpr y)) (fun y => h80 ((lg_cmp_eq _ _).mpr y))
          exact zk_zretR hx hb hr hlk hQ (by rw [h7]; refine Eq.trans ?_ (congrArg zb (if_neg hz).symm); rw [h107]; rfl) d_Reckoner_isInFrame_124
        · skip
          refine lv_lload_n hx hb d_Reckoner_isInFrame_110 rfl (lv_at hl 1 rfl) ?_
          refine lv_lload hx hb d_Reckoner_isInFrame_111 (lv_at hl 0 rfl) ?_
          refine lv_lsub hx hb d_Reckoner_isInFrame_113 ?_
          refine lv_goto (tgt := 121) hx hb d_Reckoner_isInFrame_114 rfl ?_
          have hPc := hP.sub (ws' := [(wo, .inr (2, [.ref ko, .int (nI wf), .int (nI wa), .int (nI wn), .int wp, .int (nI oj), .int (zb wd), .int (zb wg), .int wl, .int wh]))]) [1] rfl
          refine zk_ri (va_runV (As := [.long ((f (g i * k + oj)) - (f (g j * k + oj)))]) (rest := []) ⟨hx, hb, hml, hown, hts⟩ (c_Window_reaches l D cI cL cZ cW cR wo ko wf wa wn wp (nI oj) wd wg wl wh ((f (g i * k + oj)) - (f (g j * k + oj))) (wRb wl wh ((f (g i * k + oj)) - (f (g j * k + oj)))) wRb_iff) (cwV 1 hts (zk_gV (fun _ h => List.mem_cons_of_mem _ h) ml_Reckoner_77 im_Window_reaches se_Window_reaches in_Window co_Window_reaches) rfl rfl rfl ⟨rfl, hd_Window_reaches⟩ ⟨Nat.le_of_ble_eq_true rfl, Nat.le_of_ble_eq_true rfl⟩) (zk_vr (q0 := 0) hN hK hPc rfl rfl) rfl rfl hl.1 rfl (lv_room (Nat.le_of_ble_eq_true rfl)) d_Reckoner_isInFrame_121 ⟨Nat.zero_le _, Nat.zero_le _⟩) ?_
          have hz : ¬ (f (g i * k + oj) = -1099511627776 ∨ f (g j * k + oj) = -1099511627776) := fun q => q.elim (fun y => h71 ((lg_cmp_eq _ _).mpr y)) (fun y => h80 ((lg_cmp_eq _ _).mpr y))
          exact zk_zretR hx hb hr hlk hQ (by rw [h7]; refine Eq.trans ?_ (congrArg zb (if_neg hz).symm); rw [h107]; rfl) d_Reckoner_isInFrame_124
      · skip
        refine lv_lload_n hx hb d_Reckoner_isInFrame_83 rfl (lv_at hl 1 rfl) ?_
        refine lv_lload hx hb d_Reckoner_isInFrame_84 (lv_at hl 0 rfl) ?_
        refine W.lcmp hx hb d_Reckoner_isInFrame_86 ?_
        refine lv_if_ne (tgt := 94) hx hb d_Reckoner_isInFrame_87 rfl (fun h87 => ?_) (fun h87 => ?_)
        · skip
          refine lv_iconst (v := nI 0) hx hb d_Reckoner_isInFrame_94 (by decide) ?_
          exact zk_zretR hx hb hr hlk hQ (by rw [h7]; first | exact (zk_t ((lg_cmp_eq _ _).mp h87)).trans (congrArg zb (if_pos (Or.inl ((lg_cmp_eq _ _).mp h71))).symm) | exact (zk_f (fun q => h87 ((lg_cmp_eq _ _).mpr q))).trans (congrArg zb (if_pos (Or.inl ((lg_cmp_eq _ _).mp h71))).symm) | exact (zk_t ((lg_cmp_eq _ _).mp h87)).trans (congrArg zb (if_pos (Or.inr ((lg_cmp_eq _ _).mp h80))).symm) | exact (zk_f (fun q => h87 ((lg_cmp_eq _ _).mpr q))).trans (congrArg zb (if_pos (Or.inr ((lg_cmp_eq _ _).mp h80))).symm)) d_Reckoner_isInFrame_95
        · skip
          refine lv_iconst (v := nI 1) hx hb d_Reckoner_isInFrame_90 (by decide) ?_
          refine lv_goto (tgt := 95) hx hb d_Reckoner_isInFrame_91 rfl ?_
          exact zk_zretR hx hb hr hlk hQ (by rw [h7]; first | exact (zk_t ((lg_cmp_eq _ _).mp h87)).trans (congrArg zb (if_pos (Or.inl ((lg_cmp_eq _ _).mp h71))).symm) | exact (zk_f (fun q => h87 ((lg_cmp_eq _ _).mpr q))).trans (congrArg zb (if_pos (Or.inl ((lg_cmp_eq _ _).mp h71))).symm) | exact (zk_t ((lg_cmp_eq _ _).mp h87)).trans (congrArg zb (if_pos (Or.inr ((lg_cmp_eq _ _).mp h80))).symm) | exact (zk_f (fun q => h87 ((lg_cmp_eq _ _).mpr q))).trans (congrArg zb (if_pos (Or.inr ((lg_cmp_eq _ _).mp h80))).symm)) d_Reckoner_isInFrame_95
theorem c_Reckoner_isInFrame (l : Launch) (D : va_G) (cI cL cZ cW cR : ClassId) (ro st en fp pg fs fe wo ko wf wa wn : Nat) (wp : Int32) (wd wg : Bool) (wl wh : Int32) (r v a b k n nv ns : Nat) (f : Nat → Int64) (g h : Nat → Nat) (oo : Option Nat) (hoo : ∀ q, oo = some q → q < k) (i j : Nat) (hi : i < ns) (hj : j < ns) (hns : ns < 1000) (hnv : nv < 100000) (hg : ∀ z, z < ns → g z * k + k ≤ nv) : Met l y_Reckoner_isInFrame ws_Reckoner_isInFrame rm2_60 (zPr D vwCl (zT cI cL cZ cW cR) [(ro, .inr (6, [.ref r, .ref wo, .int (nI st), .int (nI en), .int (nI fp), .int (nI pg), .int (nI fs), .int (nI fe)])), (wo, .inr (2, [.ref ko, .int (nI wf), .int (nI wa), .int (nI wn), .int wp, .int (oI oo), .int (zb wd), .int (zb wg), .int wl, .int wh])), (r, .inr (0, [.int (nI k), .ref v, .ref a, .ref b, .int (nI n)])), (v, .inl (cL, nv, .inr (.inl f))), (a, .inl (cI, ns, .inl (zN g))), (b, .inl (cI, ns, .inl (zN h)))] [.ref ro, .int (nI i), .int (nI j)]) (zSi (zb (inF (oo.map (fun q z => f (g z * k + q))) wd wg wl wh i j))) 0 0 (fun _ => False) :=
  match oo, hoo with
  | none, _ => c_Reckoner_isInFrame_n l D cI cL cZ cW cR ro st en fp pg fs fe wo ko wf wa wn wp wd wg wl wh r v a b k n nv ns f g h i j hi hj hns hnv hg
  | some oj, h0 => c_Reckoner_isInFrame_s l D cI cL cZ cW cR ro st en fp pg fs fe wo ko wf wa wn wp wd wg wl wh r v a b k n nv ns f g h oj (h0 oj rfl) i j hi hj hns hnv hg
set_option maxHeartbeats 4000000 in
set_option maxRecDepth 100000 in
theorem c_Reckoner_findFrame (l : Launch) (D : va_G) (cI cL cZ cW cR : ClassId) (sz : Nat) (ro st en fp pg fs fe wo ko wf wa wn : Nat) (wp : Int32) (wd wg : Bool) (wl wh : Int32) (r v a b k n nv ns : Nat) (f : Nat → Int64) (g h : Nat → Nat) (oo : Option Nat) (hoo : ∀ q, oo = some q → q < k) (i : Nat) (hi : i < ns) (hse : st ≤ en) (hen : en ≤ ns) (hns : ns < 1000) (hnv : nv < 100000) (hg : ∀ z, z < ns → g z * k + k ≤ nv) : Met l y_Reckoner_findFrame ws_Reckoner_findFrame rm3_90 (zPw D vwCl (zT cI cL cZ cW cR) [(ro, .inr (6, [.ref r, .ref wo, .int (nI st), .int (nI en), .int (nI fp), .int (nI pg), .int (nI fs), .int (nI fe)])), (wo, .inr (2, [.ref ko, .int (nI wf), .int (nI wa), .int (nI wn), .int wp, .int (oI oo), .int (zb wd), .int (zb wg), .int wl, .int wh])), (r, .inr (0, [.int (nI k), .ref v, .ref a, .ref b, .int (nI n)])), (v, .inl (cL, nv, .inr (.inl f))), (a, .inl (cI, ns, .inl (zN g))), (b, .inl (cI, ns, .inl (zN h)))] sz [.ref ro, .int (nI i)]) (zQv D vwCl (zT cI cL cZ cW cR) [(ro, .inr (6, [.ref r, .ref wo, .int (nI st), .int (nI en), .int (nI fp), .int (nI pg), .int (nI fs), .int (nI fe)])), (wo, .inr (2, [.ref ko, .int (nI wf), .int (nI wa), .int (nI wn), .int wp, .int (oI oo), .int (zb wd), .int (zb wg), .int wl, .int wh])), (r, .inr (0, [.int (nI k), .ref v, .ref a, .ref b, .int (nI n)])), (v, .inl (cL, nv, .inr (.inl f))), (a, .inl (cI, ns, .inl (zN g))), (b, .inl (cI, ns, .inl (zN h)))] sz (fun _ : Unit => True) (fun _ => [(ro, .inr (6, [.ref r, .ref wo, .int (nI st), .int (nI en), .int (nI fp), .int (nI pg), .int (nI (scn (inF (oo.map (fun q z => f (g z * k + q))) wd wg wl wh i) (en - st) st)), .int (nI (scn (fun j => !(inF (oo.map (fun q z => f (g z * k + q))) wd wg wl wh i) j) (en - (scn (inF (oo.map (fun q z => f (g z * k + q))) wd wg wl wh i) (en - st) st)) (scn (inF (oo.map (fun q z => f (g z * k + q))) wd wg wl wh i) (en - st) st)))])), (wo, .inr (2, [.ref ko, .int (nI wf), .int (nI wa), .int (nI wn), .int wp, .int (oI oo), .int (zb wd), .int (zb wg), .int wl, .int wh])), (r, .inr (0, [.int (nI k), .ref v, .ref a, .ref b, .int (nI n)])), (v, .inl (cL, nv, .inr (.inl f))), (a, .inl (cI, ns, .inl (zN g))), (b, .inl (cI, ns, .inl (zN h)))])) 0 0 (va_A [(ro, .inr (6, [.ref r, .ref wo, .int (nI st), .int (nI en), .int (nI fp), .int (nI pg), .int (nI fs), .int (nI fe)])), (wo, .inr (2, [.ref ko, .int (nI wf), .int (nI wa), .int (nI wn), .int wp, .int (oI oo), .int (zb wd), .int (zb wg), .int wl, .int wh])), (r, .inr (0, [.int (nI k), .ref v, .ref a, .ref b, .int (nI n)])), (v, .inl (cL, nv, .inr (.inl f))), (a, .inl (cI, ns, .inl (zN g))), (b, .inl (cI, ns, .inl (zN h)))] sz) := by
  refine zk_enterW (cc := b_Reckoner_findFrame) (maxL := 2) (ret := none) (by decide) rfl (Nat.le_of_ble_eq_true rfl) ?_
  intro p e s m args below meth c ls Q hx hb hml hr hlk hown hts hP hK hN hl hin hsz A hAe hA hD hS hQ
  subst hsz
  have hl : lv_has ls 2 [(0, .ref ro), (1, .int (nI i))] := hl
  refine lv_aload_n hx hb d_Reckoner_findFrame_0 rfl (lv_at hl 0 rfl) ?_
  refine lv_aload_n hx hb d_Reckoner_findFrame_1 rfl (lv_at hl 0 rfl) ?_
  refine va_get (C := R_Reckoner) (T := F_Reckoner) (N := 8) hx hb hts (fun w h => List.mem_cons_of_mem _ (hin_Reckoner w h)) hown hK hP 0 rfl rfl 2 (by decide) (hts _ (List.mem_cons_of_mem _ fl_Reckoner_19)) (fun _ h => h) rfl d_Reckoner_findFrame_2 ?_
  refine va_put (D := D) (v := .int (nI st)) (ty := .int) (C := R_Reckoner) (T := F_Reckoner) (N := 8) hx hb hts (fun w h => List.mem_cons_of_mem _ (hin_Reckoner w h)) t_Reckoner t_Reckoner_ok n_Reckoner hown hK hP hD hS 0 rfl rfl 6 (by decide) (hts _ (List.mem_cons_of_mem _ fl_Reckoner_64)) (fun _ h => h) rfl (by decide +kernel) rfl rfl (Nat.le_of_ble_eq_true rfl) d_Reckoner_findFrame_5 (fun H locs hP hD hS => ?_)
  have hP : va_P D vwCl [(ro, .inr (6, [.ref r, .ref wo, .int (nI st), .int (nI en), .int (nI fp), .int (nI pg), .int (nI st), .int (nI fe)])), (wo, .inr (2, [.ref ko, .int (nI wf), .int (nI wa), .int (nI wn), .int wp, .int (oI oo), .int (zb wd), .int (zb wg), .int wl, .int wh])), (r, .inr (0, [.int (nI k), .ref v, .ref a, .ref b, .int (nI n)])), (v, .inl (cL, nv, .inr (.inl f))), (a, .inl (cI, ns, .inl (zN g))), (b, .inl (cI, ns, .inl (zN h)))] H := hP
  have hD : va_D A [(ro, .inr (6, [.ref r, .ref wo, .int (nI st), .int (nI en), .int (nI fp), .int (nI pg), .int (nI st), .int (nI fe)])), (wo, .inr (2, [.ref ko, .int (nI wf), .int (nI wa), .int (nI wn), .int wp, .int (oI oo), .int (zb wd), .int (zb wg), .int wl, .int wh])), (r, .inr (0, [.int (nI k), .ref v, .ref a, .ref b, .int (nI n)])), (v, .inl (cL, nv, .inr (.inl f))), (a, .inl (cI, ns, .inl (zN g))), (b, .inl (cI, ns, .inl (zN h)))] := hD
  have lb8 : ∀ (fuel8 : Nat) (t : Nat), (st ≤ t) → (t ≤ en) → (scn (inF (oo.map (fun q z => f (g z * k + q))) wd wg wl wh i) (en - t) t = (scn (inF (oo.map (fun q z => f (g z * k + q))) wd wg wl wh i) (en - st) st)) → en - t < fuel8 → ∀ (ls : Array Slot) (H : Heap) (locs : List Loc), lv_has ls 2 [(0, .ref ro), (1, .int (nI i))] → va_P D vwCl [(ro, .inr (6, [.ref r, .ref wo, .int (nI st), .int (nI en), .int (nI fp), .int (nI pg), .int (nI t), .int (nI fe)])), (wo, .inr (2, [.ref ko, .int (nI wf), .int (nI wa), .int (nI wn), .int wp, .int (oI oo), .int (zb wd), .int (zb wg), .int wl, .int wh])), (r, .inr (0, [.int (nI k), .ref v, .ref a, .ref b, .int (nI n)])), (v, .inl (cL, nv, .inr (.inl f))), (a, .inl (cI, ns, .inl (zN g))), (b, .inl (cI, ns, .inl (zN h)))] H → va_D A [(ro, .inr (6, [.ref r, .ref wo, .int (nI st), .int (nI en), .int (nI fp), .int (nI pg), .int (nI t), .int (nI fe)])), (wo, .inr (2, [.ref ko, .int (nI wf), .int (nI wa), .int (nI wn), .int wp, .int (oI oo), .int (zb wd), .int (zb wg), .int wl, .int wh])), (r, .inr (0, [.int (nI k), .ref v, .ref a, .ref b, .int (nI n)])), (v, .inl (cL, nv, .inr (.inl f))), (a, .inl (cI, ns, .inl (zN g))), (b, .inl (cI, ns, .inl (zN h)))] → va_S A s.heap H locs → W p l e rm3_90 s m args below meth c H locs 0 0 Q (F0 m 8 ls []) := by
    intro fuel8
    induction fuel8 with
    | zero => intro t ht ht2 he hfu8; exact absurd hfu8 (Nat.not_lt_zero _)
    | succ fuel8 ih8 =>
      intro t ht ht2 he hfu8 ls H locs hl hP hD hS
      refine lv_aload_n hx hb d_Reckoner_findFrame_8 rfl (lv_at hl 0 rfl) ?_
      refine va_get (C := R_Reckoner) (T := F_Reckoner) (N := 8) hx hb hts (fun w h => List.mem_cons_of_mem _ (hin_Reckoner w h)) hown hK hP 0 rfl rfl 6 (by decide) (hts _ (List.mem_cons_of_mem _ fl_Reckoner_64)) (fun _ h => h) rfl d_Reckoner_findFrame_9 ?_
      refine lv_aload_n hx hb d_Reckoner_findFrame_12 rfl (lv_at hl 0 rfl) ?_
      refine va_get (C := R_Reckoner) (T := F_Reckoner) (N := 8) hx hb hts (fun w h => List.mem_cons_of_mem _ (hin_Reckoner w h)) hown hK hP 0 rfl rfl 3 (by decide) (hts _ (List.mem_cons_of_mem _ fl_Reckoner_23)) (fun _ h => h) rfl d_Reckoner_findFrame_13 ?_
      have lb44 : ∀  (t0 : Nat), (t0 = (scn (inF (oo.map (fun q z => f (g z * k + q))) wd wg wl wh i) (en - st) st)) → (st ≤ t0) → (t0 ≤ en) → ∀ (ls : Array Slot) (H : Heap) (locs : List Loc), lv_has ls 2 [(0, .ref ro), (1, .int (nI i))] → va_P D vwCl [(ro, .inr (6, [.ref r, .ref wo, .int (nI st), .int (nI en), .int (nI fp), .int (nI pg), .int (nI t0), .int (nI fe)])), (wo, .inr (2, [.ref ko, .int (nI wf), .int (nI wa), .int (nI wn), .int wp, .int (oI oo), .int (zb wd), .int (zb wg), .int wl, .int wh])), (r, .inr (0, [.int (nI k), .ref v, .ref a, .ref b, .int (nI n)])), (v, .inl (cL, nv, .inr (.inl f))), (a, .inl (cI, ns, .inl (zN g))), (b, .inl (cI, ns, .inl (zN h)))] H → va_D A [(ro, .inr (6, [.ref r, .ref wo, .int (nI st), .int (nI en), .int (nI fp), .int (nI pg), .int (nI t0), .int (nI fe)])), (wo, .inr (2, [.ref ko, .int (nI wf), .int (nI wa), .int (nI wn), .int wp, .int (oI oo), .int (zb wd), .int (zb wg), .int wl, .int wh])), (r, .inr (0, [.int (nI k), .ref v, .ref a, .ref b, .int (nI n)])), (v, .inl (cL, nv, .inr (.inl f))), (a, .inl (cI, ns, .inl (zN g))), (b, .inl (cI, ns, .inl (zN h)))] → va_S A s.heap H locs → W p l e rm3_90 s m args below meth c H locs 0 0 Q (F0 m 44 ls []) := by
        intro t0 ht0 ht1 ht2 ls H locs hl hP hD hS
        refine lv_aload_n hx hb d_Reckoner_findFrame_44 rfl (lv_at hl 0 rfl) ?_
        refine lv_aload_n hx hb d_Reckoner_findFrame_45 rfl (lv_at hl 0 rfl) ?_
        refine va_get (C := R_Reckoner) (T := F_Reckoner) (N := 8) hx hb hts (fun w h => List.mem_cons_of_mem _ (hin_Reckoner w h)) hown hK hP 0 rfl rfl 6 (by decide) (hts _ (List.mem_cons_of_mem _ fl_Reckoner_64)) (fun _ h => h) rfl d_Reckoner_findFrame_46 ?_
        refine va_put (D := D) (v := .int (nI t0)) (ty := .int) (C := R_Reckoner) (T := F_Reckoner) (N := 8) hx hb hts (fun w h => List.mem_cons_of_mem _ (hin_Reckoner w h)) t_Reckoner t_Reckoner_ok n_Reckoner hown hK hP hD hS 0 rfl rfl 7 (by decide) (hts _ (List.mem_cons_of_mem _ fl_Reckoner_70)) (fun _ h => h) rfl (by decide +kernel) rfl rfl (Nat.le_of_ble_eq_true rfl) d_Reckoner_findFrame_49 (fun H locs hP hD hS => ?_)
        have hP : va_P D vwCl [(ro, .inr (6, [.ref r, .ref wo, .int (nI st), .int (nI en), .int (nI fp), .int (nI pg), .int (nI t0), .int (nI t0)])), (wo, .inr (2, [.ref ko, .int (nI wf), .int (nI wa), .int (nI wn), .int wp, .int (oI oo), .int (zb wd), .int (zb wg), .int wl, .int wh])), (r, .inr (0, [.int (nI k), .ref v, .ref a, .ref b, .int (nI n)])), (v, .inl (cL, nv, .inr (.inl f))), (a, .inl (cI, ns, .inl (zN g))), (b, .inl (cI, ns, .inl (zN h)))] H := hP
        have hD : va_D A [(ro, .inr (6, [.ref r, .ref wo, .int (nI st), .int (nI en), .int (nI fp), .int (nI pg), .int (nI t0), .int (nI t0)])), (wo, .inr (2, [.ref ko, .int (nI wf), .int (nI wa), .int (nI wn), .int wp, .int (oI oo), .int (zb wd), .int (zb wg), .int wl, .int wh])), (r, .inr (0, [.int (nI k), .ref v, .ref a, .ref b, .int (nI n)])), (v, .inl (cL, nv, .inr (.inl f))), (a, .inl (cI, ns, .inl (zN g))), (b, .inl (cI, ns, .inl (zN h)))] := hD
        have lb52 : ∀ (fuel52 : Nat) (t : Nat), (t0 ≤ t) → (t ≤ en) → (scn (fun j => !(inF (oo.map (fun q z => f (g z * k + q))) wd wg wl wh i) j) (en - t) t = scn (fun j => !(inF (oo.map (fun q z => f (g z * k + q))) wd wg wl wh i) j) (en - t0) t0) → en - t < fuel52 → ∀ (ls : Array Slot) (H : Heap) (locs : List Loc), lv_has ls 2 [(0, .ref ro), (1, .int (nI i))] → va_P D vwCl [(ro, .inr (6, [.ref r, .ref wo, .int (nI st), .int (nI en), .int (nI fp), .int (nI pg), .int (nI t0), .int (nI t)])), (wo, .inr (2, [.ref ko, .int (nI wf), .int (nI wa), .int (nI wn), .int wp, .int (oI oo), .int (zb wd), .int (zb wg), .int wl, .int wh])), (r, .inr (0, [.int (nI k), .ref v, .ref a, .ref b, .int (nI n)])), (v, .inl (cL, nv, .inr (.inl f))), (a, .inl (cI, ns, .inl (zN g))), (b, .inl (cI, ns, .inl (zN h)))] H → va_D A [(ro, .inr (6, [.ref r, .ref wo, .int (nI st), .int (nI en), .int (nI fp), .int (nI pg), .int (nI t0), .int (nI t)])), (wo, .inr (2, [.ref ko, .int (nI wf), .int (nI wa), .int (nI wn), .int wp, .int (oI oo), .int (zb wd), .int (zb wg), .int wl, .int wh])), (r, .inr (0, [.int (nI k), .ref v, .ref a, .ref b, .int (nI n)])), (v, .inl (cL, nv, .inr (.inl f))), (a, .inl (cI, ns, .inl (zN g))), (b, .inl (cI, ns, .inl (zN h)))] → va_S A s.heap H locs → W p l e rm3_90 s m args below meth c H locs 0 0 Q (F0 m 52 ls []) := by
          intro fuel52
          induction fuel52 with
          | zero => intro t ht ht3 he hfu52; exact absurd hfu52 (Nat.not_lt_zero _)
          | succ fuel52 ih52 =>
            intro t ht ht3 he hfu52 ls H locs hl hP hD hS
            refine lv_aload_n hx hb d_Reckoner_findFrame_52 rfl (lv_at hl 0 rfl) ?_
            refine va_get (C := R_Reckoner) (T := F_Reckoner) (N := 8) hx hb hts (fun w h => List.mem_cons_of_mem _ (hin_Reckoner w h)) hown hK hP 0 rfl rfl 7 (by decide) (hts _ (List.mem_cons_of_mem _ fl_Reckoner_70)) (fun _ h => h) rfl d_Reckoner_findFrame_53 ?_
            refine lv_aload_n hx hb d_Reckoner_findFrame_56 rfl (lv_at hl 0 rfl) ?_
            refine va_get (C := R_Reckoner) (T := F_Reckoner) (N := 8) hx hb hts (fun w h => List.mem_cons_of_mem _ (hin_Reckoner w h)) hown hK hP 0 rfl rfl 3 (by decide) (hts _ (List.mem_cons_of_mem _ fl_Reckoner_23)) (fun _ h => h) rfl d_Reckoner_findFrame_57 ?_
            refine zk_icmp_ge (tgt := 88) hx hb d_Reckoner_findFrame_60 rfl (by omega) (by omega) (fun h60 => ?_) (fun h60 => ?_)
            · skip
              have hfe : t = scn (fun j => !(inF (oo.map (fun q z => f (g z * k + q))) wd wg wl wh i) j) (en - t0) t0 := by rw [← he, show en - t = 0 by omega]; rfl
              rw [← ht0, ← hfe] at hQ
              exact zk_vretW hx hb hr hlk hAe hQ hK (()) (trivial) hP hD hS d_Reckoner_findFrame_88
            · skip
              refine lv_aload_n hx hb d_Reckoner_findFrame_63 rfl (lv_at hl 0 rfl) ?_
              refine lv_iload_n hx hb d_Reckoner_findFrame_64 rfl (lv_at hl 1 rfl) ?_
              refine lv_aload_n hx hb d_Reckoner_findFrame_65 rfl (lv_at hl 0 rfl) ?_
              refine va_get (C := R_Reckoner) (T := F_Reckoner) (N := 8) hx hb hts (fun w h => List.mem_cons_of_mem _ (hin_Reckoner w h)) hown hK hP 0 rfl rfl 7 (by decide) (hts _ (List.mem_cons_of_mem _ fl_Reckoner_70)) (fun _ h => h) rfl d_Reckoner_findFrame_66 ?_
              have hPc := hP.sub (ws' := [(ro, .inr (6, [.ref r, .ref wo, .int (nI st), .int (nI en), .int (nI fp), .int (nI pg), .int (nI t0), .int (nI t)])), (wo, .inr (2, [.ref ko, .int (nI wf), .int (nI wa), .int (nI wn), .int wp, .int (oI oo), .int (zb wd), .int (zb wg), .int wl, .int wh])), (r, .inr (0, [.int (nI k), .ref v, .ref a, .ref b, .int (nI n)])), (v, .inl (cL, nv, .inr (.inl f))), (a, .inl (cI, ns, .inl (zN g))), (b, .inl (cI, ns, .inl (zN h)))]) [0, 1, 2, 3, 4, 5] rfl
              refine zk_ri (va_runV (As := [.int (nI i), .int (nI t)]) (rest := []) ⟨hx, hb, hml, hown, hts⟩ (c_Reckoner_isInFrame l D cI cL cZ cW cR ro st en fp pg t0 t wo ko wf wa wn wp wd wg wl wh r v a b k n nv ns f g h oo hoo i t hi (by omega) hns hnv hg) (cwV 2 hts (zk_gV (fun _ h => List.mem_cons_of_mem _ h) ml_Reckoner_67 im_Reckoner_isInFrame se_Reckoner_isInFrame in_Reckoner co_Reckoner_isInFrame) rfl rfl rfl ⟨rfl, hd_Reckoner_isInFrame⟩ ⟨Nat.le_of_ble_eq_true rfl, Nat.le_of_ble_eq_true rfl⟩) (zk_vr (q0 := 0) hN hK hPc rfl rfl) rfl rfl hl.1 rfl (lv_room (Nat.le_of_ble_eq_true rfl)) d_Reckoner_findFrame_69 ⟨Nat.zero_le _, Nat.zero_le _⟩) ?_
              refine zk_ifb_eq (tgt := 88) hx hb d_Reckoner_findFrame_72 rfl (fun h72 => ?_) (fun h72 => ?_)
              · skip
                have hfe : t = scn (fun j => !(inF (oo.map (fun q z => f (g z * k + q))) wd wg wl wh i) j) (en - t0) t0 := by rw [← he, show en - t = (en - (t + 1)) + 1 by omega]; simp only [scn]; rw [if_pos (by rw [h72]; rfl)]
                rw [← ht0, ← hfe] at hQ
                exact zk_vretW hx hb hr hlk hAe hQ hK (()) (trivial) hP hD hS d_Reckoner_findFrame_88
              · skip
                refine lv_aload_n hx hb d_Reckoner_findFrame_75 rfl (lv_at hl 0 rfl) ?_
                refine lv_dup hx hb d_Reckoner_findFrame_76 rfl ?_
                refine va_get (C := R_Reckoner) (T := F_Reckoner) (N := 8) hx hb hts (fun w h => List.mem_cons_of_mem _ (hin_Reckoner w h)) hown hK hP 0 rfl rfl 7 (by decide) (hts _ (List.mem_cons_of_mem _ fl_Reckoner_70)) (fun _ h => h) rfl d_Reckoner_findFrame_77 ?_
                refine lv_iconst (v := nI 1) hx hb d_Reckoner_findFrame_80 (by decide) ?_
                refine lv_iadd hx hb d_Reckoner_findFrame_81 ?_
                refine zk_topi (show ((nI t) + (nI 1)) = nI (t + 1) from nI_add t 1) ?_
                refine va_put (D := D) (v := .int (nI (t + 1))) (ty := .int) (C := R_Reckoner) (T := F_Reckoner) (N := 8) hx hb hts (fun w h => List.mem_cons_of_mem _ (hin_Reckoner w h)) t_Reckoner t_Reckoner_ok n_Reckoner hown hK hP hD hS 0 rfl rfl 7 (by decide) (hts _ (List.mem_cons_of_mem _ fl_Reckoner_70)) (fun _ h => h) rfl (by decide +kernel) rfl rfl (Nat.le_of_ble_eq_true rfl) d_Reckoner_findFrame_82 (fun H locs hP hD hS => ?_)
                have hP : va_P D vwCl [(ro, .inr (6, [.ref r, .ref wo, .int (nI st), .int (nI en), .int (nI fp), .int (nI pg), .int (nI t0), .int (nI (t + 1))])), (wo, .inr (2, [.ref ko, .int (nI wf), .int (nI wa), .int (nI wn), .int wp, .int (oI oo), .int (zb wd), .int (zb wg), .int wl, .int wh])), (r, .inr (0, [.int (nI k), .ref v, .ref a, .ref b, .int (nI n)])), (v, .inl (cL, nv, .inr (.inl f))), (a, .inl (cI, ns, .inl (zN g))), (b, .inl (cI, ns, .inl (zN h)))] H := hP
                have hD : va_D A [(ro, .inr (6, [.ref r, .ref wo, .int (nI st), .int (nI en), .int (nI fp), .int (nI pg), .int (nI t0), .int (nI (t + 1))])), (wo, .inr (2, [.ref ko, .int (nI wf), .int (nI wa), .int (nI wn), .int wp, .int (oI oo), .int (zb wd), .int (zb wg), .int wl, .int wh])), (r, .inr (0, [.int (nI k), .ref v, .ref a, .ref b, .int (nI n)])), (v, .inl (cL, nv, .inr (.inl f))), (a, .inl (cI, ns, .inl (zN g))), (b, .inl (cI, ns, .inl (zN h)))] := hD
                refine lv_goto (tgt := 52) hx hb d_Reckoner_findFrame_85 rfl ?_
                exact ih52 (t + 1) (by omega) (by omega) (by rw [← he, show en - t = (en - (t + 1)) + 1 by omega]; simp only [scn]; rw [if_neg (by rw [h72]; decide)]) (by omega) ls _ _ (lv_sub hl [0, 1] rfl) hP hD hS
        exact lb52 _ t0 (Nat.le_refl _) ht2 rfl (Nat.lt_succ_self _) ls _ _ (lv_sub hl [0, 1] rfl) hP hD hS
      refine zk_icmp_ge (tgt := 44) hx hb d_Reckoner_findFrame_16 rfl (by omega) (by omega) (fun h16 => ?_) (fun h16 => ?_)
      · skip
        have hfs : t = (scn (inF (oo.map (fun q z => f (g z * k + q))) wd wg wl wh i) (en - st) st) := by rw [← he, show en - t = 0 by omega]; rfl
        exact lb44 t hfs (by omega) (by omega) ls _ _ (lv_sub hl [0, 1] rfl) hP hD hS
      · skip
        refine lv_aload_n hx hb d_Reckoner_findFrame_19 rfl (lv_at hl 0 rfl) ?_
        refine lv_iload_n hx hb d_Reckoner_findFrame_20 rfl (lv_at hl 1 rfl) ?_
        refine lv_aload_n hx hb d_Reckoner_findFrame_21 rfl (lv_at hl 0 rfl) ?_
        refine va_get (C := R_Reckoner) (T := F_Reckoner) (N := 8) hx hb hts (fun w h => List.mem_cons_of_mem _ (hin_Reckoner w h)) hown hK hP 0 rfl rfl 6 (by decide) (hts _ (List.mem_cons_of_mem _ fl_Reckoner_64)) (fun _ h => h) rfl d_Reckoner_findFrame_22 ?_
        have hPc := hP.sub (ws' := [(ro, .inr (6, [.ref r, .ref wo, .int (nI st), .int (nI en), .int (nI fp), .int (nI pg), .int (nI t), .int (nI fe)])), (wo, .inr (2, [.ref ko, .int (nI wf), .int (nI wa), .int (nI wn), .int wp, .int (oI oo), .int (zb wd), .int (zb wg), .int wl, .int wh])), (r, .inr (0, [.int (nI k), .ref v, .ref a, .ref b, .int (nI n)])), (v, .inl (cL, nv, .inr (.inl f))), (a, .inl (cI, ns, .inl (zN g))), (b, .inl (cI, ns, .inl (zN h)))]) [0, 1, 2, 3, 4, 5] rfl
        refine zk_ri (va_runV (As := [.int (nI i), .int (nI t)]) (rest := []) ⟨hx, hb, hml, hown, hts⟩ (c_Reckoner_isInFrame l D cI cL cZ cW cR ro st en fp pg t fe wo ko wf wa wn wp wd wg wl wh r v a b k n nv ns f g h oo hoo i t hi (by omega) hns hnv hg) (cwV 2 hts (zk_gV (fun _ h => List.mem_cons_of_mem _ h) ml_Reckoner_67 im_Reckoner_isInFrame se_Reckoner_isInFrame in_Reckoner co_Reckoner_isInFrame) rfl rfl rfl ⟨rfl, hd_Reckoner_isInFrame⟩ ⟨Nat.le_of_ble_eq_true rfl, Nat.le_of_ble_eq_true rfl⟩) (zk_vr (q0 := 0) hN hK hPc rfl rfl) rfl rfl hl.1 rfl (lv_room (Nat.le_of_ble_eq_true rfl)) d_Reckoner_findFrame_25 ⟨Nat.zero_le _, Nat.zero_le _⟩) ?_
        refine zk_ifb_ne (tgt := 44) hx hb d_Reckoner_findFrame_28 rfl (fun h28 => ?_) (fun h28 => ?_)
        · skip
          have hfs : t = (scn (inF (oo.map (fun q z => f (g z * k + q))) wd wg wl wh i) (en - st) st) := by rw [← he, show en - t = (en - (t + 1)) + 1 by omega]; simp only [scn]; rw [if_pos h28]
          exact lb44 t hfs (by omega) (by omega) ls _ _ (lv_sub hl [0, 1] rfl) hP hD hS
        · skip
          refine lv_aload_n hx hb d_Reckoner_findFrame_31 rfl (lv_at hl 0 rfl) ?_
          refine lv_dup hx hb d_Reckoner_findFrame_32 rfl ?_
          refine va_get (C := R_Reckoner) (T := F_Reckoner) (N := 8) hx hb hts (fun w h => List.mem_cons_of_mem _ (hin_Reckoner w h)) hown hK hP 0 rfl rfl 6 (by decide) (hts _ (List.mem_cons_of_mem _ fl_Reckoner_64)) (fun _ h => h) rfl d_Reckoner_findFrame_33 ?_
          refine lv_iconst (v := nI 1) hx hb d_Reckoner_findFrame_36 (by decide) ?_
          refine lv_iadd hx hb d_Reckoner_findFrame_37 ?_
          refine zk_topi (show ((nI t) + (nI 1)) = nI (t + 1) from nI_add t 1) ?_
          refine va_put (D := D) (v := .int (nI (t + 1))) (ty := .int) (C := R_Reckoner) (T := F_Reckoner) (N := 8) hx hb hts (fun w h => List.mem_cons_of_mem _ (hin_Reckoner w h)) t_Reckoner t_Reckoner_ok n_Reckoner hown hK hP hD hS 0 rfl rfl 6 (by decide) (hts _ (List.mem_cons_of_mem _ fl_Reckoner_64)) (fun _ h => h) rfl (by decide +kernel) rfl rfl (Nat.le_of_ble_eq_true rfl) d_Reckoner_findFrame_38 (fun H locs hP hD hS => ?_)
          have hP : va_P D vwCl [(ro, .inr (6, [.ref r, .ref wo, .int (nI st), .int (nI en), .int (nI fp), .int (nI pg), .int (nI (t + 1)), .int (nI fe)])), (wo, .inr (2, [.ref ko, .int (nI wf), .int (nI wa), .int (nI wn), .int wp, .int (oI oo), .int (zb wd), .int (zb wg), .int wl, .int wh])), (r, .inr (0, [.int (nI k), .ref v, .ref a, .ref b, .int (nI n)])), (v, .inl (cL, nv, .inr (.inl f))), (a, .inl (cI, ns, .inl (zN g))), (b, .inl (cI, ns, .inl (zN h)))] H := hP
          have hD : va_D A [(ro, .inr (6, [.ref r, .ref wo, .int (nI st), .int (nI en), .int (nI fp), .int (nI pg), .int (nI (t + 1)), .int (nI fe)])), (wo, .inr (2, [.ref ko, .int (nI wf), .int (nI wa), .int (nI wn), .int wp, .int (oI oo), .int (zb wd), .int (zb wg), .int wl, .int wh])), (r, .inr (0, [.int (nI k), .ref v, .ref a, .ref b, .int (nI n)])), (v, .inl (cL, nv, .inr (.inl f))), (a, .inl (cI, ns, .inl (zN g))), (b, .inl (cI, ns, .inl (zN h)))] := hD
          refine lv_goto (tgt := 8) hx hb d_Reckoner_findFrame_41 rfl ?_
          exact ih8 (t + 1) (by omega) (by omega) (by rw [← he, show en - t = (en - (t + 1)) + 1 by omega]; simp only [scn]; rw [if_neg (by rw [h28]; decide)]) (by omega) ls _ _ (lv_sub hl [0, 1] rfl) hP hD hS
  exact lb8 _ st (Nat.le_refl _) hse rfl (Nat.lt_succ_self _) ls _ _ (lv_sub hl [0, 1] rfl) hP hD hS
set_option maxHeartbeats 4000000 in
set_option maxRecDepth 100000 in
theorem c_Reckoner_tileOf (l : Launch) (D : va_G) (cI cL cZ cW cR : ClassId) (i m0 t : Nat) (hi : i < 1000) (hm : m0 < 1000) (ht : 0 < t) (ht2 : t < 1000) : Met l y_Reckoner_tileOf ws_Reckoner_tileOf rm0_0 (zPr D vwCl (zT cI cL cZ cW cR) [] [.int (nI i), .int (nI m0), .int (nI t)]) (zSi (nI (tileN i m0 t))) 0 0 (fun _ => False) := by
  refine zk_enterR (cc := b_Reckoner_tileOf) (maxL := 6) (ret := some .int) (by decide) rfl (Nat.le_of_ble_eq_true rfl) ?_
  intro p e s m args below meth c ls Q hx hb hml hr hlk hown hts hP hK hN hl hQ
  have hl : lv_has ls 6 [(0, .int (nI i)), (1, .int (nI m0)), (2, .int (nI t))] := hl
  have hd : m0 / t ≤ m0 := Nat.div_le_self _ _
  have hr9 : m0 % t < t := Nat.mod_lt _ ht
  have hp9 : m0 % t * (m0 / t + 1) ≤ 1000 * 1001 := Nat.mul_le_mul (by omega) (by omega)
  refine lv_iload_n hx hb d_Reckoner_tileOf_0 rfl (lv_at hl 1 rfl) ?_
  refine lv_iload_n hx hb d_Reckoner_tileOf_1 rfl (lv_at hl 2 rfl) ?_
  refine lv_idiv hx hb d_Reckoner_tileOf_2 (nI_ne0 (by omega) (by omega)) ?_
  refine zk_topi (show ((nI m0) / (nI t)) = nI (m0 / t) from pk_div (by omega) (by omega) (by omega)) ?_
  refine lv_istore_n (lv' := [(3, .int (nI (m0 / t))), (0, .int (nI i)), (1, .int (nI m0)), (2, .int (nI t))]) hx hb d_Reckoner_tileOf_3 rfl hl (by decide) rfl (fun ls hl => ?_)
  refine lv_iload_n hx hb d_Reckoner_tileOf_4 rfl (lv_at hl 2 rfl) ?_
  refine lv_iload_n hx hb d_Reckoner_tileOf_5 rfl (lv_at hl 3 rfl) ?_
  refine lv_irem hx hb d_Reckoner_tileOf_6 (nI_ne0 (by omega) (by omega)) ?_
  refine zk_topi (show ((nI m0) - (nI m0) / (nI t) * (nI t)) = nI (m0 % t) from pk_rem (by omega) (by omega) (by omega)) ?_
  refine lv_istore (lv' := [(4, .int (nI (m0 % t))), (3, .int (nI (m0 / t))), (0, .int (nI i)), (1, .int (nI m0)), (2, .int (nI t))]) hx hb d_Reckoner_tileOf_7 hl (by decide) rfl (fun ls hl => ?_)
  refine lv_iload hx hb d_Reckoner_tileOf_9 (lv_at hl 0 rfl) ?_
  refine lv_iload_n hx hb d_Reckoner_tileOf_11 rfl (lv_at hl 1 rfl) ?_
  refine lv_iconst (v := nI 1) hx hb d_Reckoner_tileOf_12 (by decide) ?_
  refine lv_iadd hx hb d_Reckoner_tileOf_13 ?_
  refine zk_topi (show ((nI (m0 / t)) + (nI 1)) = nI (m0 / t + 1) from nI_add (m0 / t) 1) ?_
  refine lv_imul hx hb d_Reckoner_tileOf_14 ?_
  refine zk_topi (show ((nI (m0 % t)) * (nI (m0 / t + 1))) = nI ((m0 % t) * (m0 / t + 1)) from pk_mul (m0 % t) (m0 / t + 1)) ?_
  refine lv_istore (lv' := [(5, .int (nI ((m0 % t) * (m0 / t + 1)))), (4, .int (nI (m0 % t))), (3, .int (nI (m0 / t))), (0, .int (nI i)), (1, .int (nI m0)), (2, .int (nI t))]) hx hb d_Reckoner_tileOf_15 hl (by decide) rfl (fun ls hl => ?_)
  refine lv_iload_n hx hb d_Reckoner_tileOf_17 rfl (lv_at hl 2 rfl) ?_
  refine zk_if_eq (tgt := 27) hx hb d_Reckoner_tileOf_18 rfl (by omega) (fun h18 => ?_) (fun h18 => ?_)
  · skip
    refine lv_iconst (v := nI 1) hx hb d_Reckoner_tileOf_27 (by decide) ?_
    refine lv_iload_n hx hb d_Reckoner_tileOf_28 rfl (lv_at hl 3 rfl) ?_
    refine lv_iload_n hx hb d_Reckoner_tileOf_29 rfl (lv_at hl 2 rfl) ?_
    refine lv_iconst (v := nI 1) hx hb d_Reckoner_tileOf_30 (by decide) ?_
    refine lv_iadd hx hb d_Reckoner_tileOf_31 ?_
    refine zk_topi (show ((nI (m0 / t)) + (nI 1)) = nI (m0 / t + 1) from nI_add (m0 / t) 1) ?_
    refine lv_idiv hx hb d_Reckoner_tileOf_32 (nI_ne0 (Nat.succ_pos _) (by omega)) ?_
    refine zk_topi (show ((nI i) / (nI (m0 / t + 1))) = nI (i / (m0 / t + 1)) from pk_div (by omega) (Nat.succ_pos _) (by omega)) ?_
    refine lv_iadd hx hb d_Reckoner_tileOf_33 ?_
    refine zk_topi (show ((nI 1) + (nI (i / (m0 / t + 1)))) = nI (1 + (i / (m0 / t + 1))) from nI_add 1 (i / (m0 / t + 1))) ?_
    exact zk_iretR hx hb hr hlk hQ (by first | exact congrArg nI (if_pos (Or.inl h18)).symm | exact congrArg nI (if_pos (Or.inr h24)).symm) d_Reckoner_tileOf_34
  · skip
    refine lv_iload_n hx hb d_Reckoner_tileOf_21 rfl (lv_at hl 3 rfl) ?_
    refine lv_iload hx hb d_Reckoner_tileOf_22 (lv_at hl 0 rfl) ?_
    refine zk_icmp_ge (tgt := 35) hx hb d_Reckoner_tileOf_24 rfl (by omega) (by omega) (fun h24 => ?_) (fun h24 => ?_)
    · skip
      refine lv_iconst (v := nI 1) hx hb d_Reckoner_tileOf_35 (by decide) ?_
      refine lv_iload hx hb d_Reckoner_tileOf_36 (lv_at hl 1 rfl) ?_
      refine lv_iadd hx hb d_Reckoner_tileOf_38 ?_
      refine zk_topi (show ((nI 1) + (nI (m0 % t))) = nI (1 + (m0 % t)) from nI_add 1 (m0 % t)) ?_
      refine lv_iload_n hx hb d_Reckoner_tileOf_39 rfl (lv_at hl 3 rfl) ?_
      refine lv_iload hx hb d_Reckoner_tileOf_40 (lv_at hl 0 rfl) ?_
      refine lv_isub hx hb d_Reckoner_tileOf_42 ?_
      refine zk_topi (show ((nI i) - (nI ((m0 % t) * (m0 / t + 1)))) = nI (i - ((m0 % t) * (m0 / t + 1))) from pk_sub (by omega)) ?_
      refine lv_iload_n hx hb d_Reckoner_tileOf_43 rfl (lv_at hl 2 rfl) ?_
      refine lv_idiv hx hb d_Reckoner_tileOf_44 (nI_ne0 (Nat.pos_of_ne_zero h18) (by omega)) ?_
      refine zk_topi (show ((nI (i - ((m0 % t) * (m0 / t + 1)))) / (nI (m0 / t))) = nI ((i - m0 % t * (m0 / t + 1)) / (m0 / t)) from pk_div (by omega) (Nat.pos_of_ne_zero h18) (by omega)) ?_
      refine lv_iadd hx hb d_Reckoner_tileOf_45 ?_
      refine zk_topi (show ((nI (1 + (m0 % t))) + (nI ((i - m0 % t * (m0 / t + 1)) / (m0 / t)))) = nI (1 + (m0 % t) + ((i - m0 % t * (m0 / t + 1)) / (m0 / t))) from nI_add (1 + (m0 % t)) ((i - m0 % t * (m0 / t + 1)) / (m0 / t))) ?_
      exact zk_iretR hx hb hr hlk hQ (congrArg nI (if_neg (fun q => q.elim h18 (by omega))).symm) d_Reckoner_tileOf_46
    · skip
      refine lv_iconst (v := nI 1) hx hb d_Reckoner_tileOf_27 (by decide) ?_
      refine lv_iload_n hx hb d_Reckoner_tileOf_28 rfl (lv_at hl 3 rfl) ?_
      refine lv_iload_n hx hb d_Reckoner_tileOf_29 rfl (lv_at hl 2 rfl) ?_
      refine lv_iconst (v := nI 1) hx hb d_Reckoner_tileOf_30 (by decide) ?_
      refine lv_iadd hx hb d_Reckoner_tileOf_31 ?_
      refine zk_topi (show ((nI (m0 / t)) + (nI 1)) = nI (m0 / t + 1) from nI_add (m0 / t) 1) ?_
      refine lv_idiv hx hb d_Reckoner_tileOf_32 (nI_ne0 (Nat.succ_pos _) (by omega)) ?_
      refine zk_topi (show ((nI i) / (nI (m0 / t + 1))) = nI (i / (m0 / t + 1)) from pk_div (by omega) (Nat.succ_pos _) (by omega)) ?_
      refine lv_iadd hx hb d_Reckoner_tileOf_33 ?_
      refine zk_topi (show ((nI 1) + (nI (i / (m0 / t + 1)))) = nI (1 + (i / (m0 / t + 1))) from nI_add 1 (i / (m0 / t + 1))) ?_
      exact zk_iretR hx hb hr hlk hQ (by first | exact congrArg nI (if_pos (Or.inl h18)).symm | exact congrArg nI (if_pos (Or.inr h24)).symm) d_Reckoner_tileOf_34
set_option maxHeartbeats 4000000 in
set_option maxRecDepth 100000 in
theorem c_Reckoner_argumentIn_n (l : Launch) (D : va_G) (cI cL cZ cW cR : ClassId) (ro st en fp pg fs fe wo ko wf wa wn : Nat) (wp wr : Int32) (wd wg : Bool) (wl wh : Int32) (r v a b k n nv ns : Nat) (f : Nat → Int64) (g h : Nat → Nat) (j a0 e0 : Nat) (hj : j < 2147483648) (ha0 : a0 < 1000) (he0 : e0 ≤ ns) (hwa : wa < k) (hns : ns < 1000) (hnv : nv < 100000) (hg : ∀ z, z < ns → g z * k + k ≤ nv) : Met l y_Reckoner_argumentIn ws_Reckoner_argumentIn rm1_30 (zPr D vwCl (zT cI cL cZ cW cR) [(ro, .inr (6, [.ref r, .ref wo, .int (nI st), .int (nI en), .int (nI fp), .int (nI pg), .int (nI fs), .int (nI fe)])), (wo, .inr (2, [.ref ko, .int (nI wf), .int (nI wa), .int (nI wn), .int wp, .int wr, .int (zb wd), .int (zb wg), .int wl, .int wh])), (r, .inr (0, [.int (nI k), .ref v, .ref a, .ref b, .int (nI n)])), (v, .inl (cL, nv, .inr (.inl f))), (a, .inl (cI, ns, .inl (zN g))), (b, .inl (cI, ns, .inl (zN h)))] [.ref ro, .int (nI j), .int (nI a0), .int (nI e0)]) (zSl (argN (fun z => f (g z * k + wa)) j a0 e0)) 0 0 (fun _ => False) := by
  refine zk_enterR (cc := b_Reckoner_argumentIn) (maxL := 4) (ret := some .long) (by decide) rfl (Nat.le_of_ble_eq_true rfl) ?_
  intro p e s m args below meth c ls Q hx hb hml hr hlk hown hts hP hK hN hl hQ
  have hl : lv_has ls 4 [(0, .ref ro), (1, .int (nI j)), (2, .int (nI a0)), (3, .int (nI e0))] := hl
  refine lv_iload_n hx hb d_Reckoner_argumentIn_0 rfl (lv_at hl 1 rfl) ?_
  refine lv_iload_n hx hb d_Reckoner_argumentIn_1 rfl (lv_at hl 2 rfl) ?_
  refine zk_icmp_lt (tgt := 28) hx hb d_Reckoner_argumentIn_2 rfl (by omega) (by omega) (fun h2 => ?_) (fun h2 => ?_)
  · skip
    refine lv_ldc2 (v := (-1099511627776 : Int64)) hx hb hown (hts _ (List.mem_cons_of_mem _ cst_Reckoner_49)) d_Reckoner_argumentIn_28 ?_
    exact zk_lretR hx hb hr hlk hQ (by first | exact (if_pos (by omega)).symm | exact (if_neg (by omega)).symm) d_Reckoner_argumentIn_31
  · skip
    refine lv_iload_n hx hb d_Reckoner_argumentIn_5 rfl (lv_at hl 1 rfl) ?_
    refine lv_iload_n hx hb d_Reckoner_argumentIn_6 rfl (lv_at hl 3 rfl) ?_
    refine zk_icmp_ge (tgt := 28) hx hb d_Reckoner_argumentIn_7 rfl (by omega) (by omega) (fun h7 => ?_) (fun h7 => ?_)
    · skip
      refine lv_ldc2 (v := (-1099511627776 : Int64)) hx hb hown (hts _ (List.mem_cons_of_mem _ cst_Reckoner_49)) d_Reckoner_argumentIn_28 ?_
      exact zk_lretR hx hb hr hlk hQ (by first | exact (if_pos (by omega)).symm | exact (if_neg (by omega)).symm) d_Reckoner_argumentIn_31
    · skip
      refine lv_aload_n hx hb d_Reckoner_argumentIn_10 rfl (lv_at hl 0 rfl) ?_
      refine va_get (C := R_Reckoner) (T := F_Reckoner) (N := 8) hx hb hts (fun w h => List.mem_cons_of_mem _ (hin_Reckoner w h)) hown hK hP 0 rfl rfl 0 (by decide) (hts _ (List.mem_cons_of_mem _ fl_Reckoner_9)) (fun _ h => h) rfl d_Reckoner_argumentIn_11 ?_
      refine lv_iload_n hx hb d_Reckoner_argumentIn_14 rfl (lv_at hl 1 rfl) ?_
      refine lv_aload_n hx hb d_Reckoner_argumentIn_15 rfl (lv_at hl 0 rfl) ?_
      refine va_get (C := R_Reckoner) (T := F_Reckoner) (N := 8) hx hb hts (fun w h => List.mem_cons_of_mem _ (hin_Reckoner w h)) hown hK hP 0 rfl rfl 1 (by decide) (hts _ (List.mem_cons_of_mem _ fl_Reckoner_15)) (fun _ h => h) rfl d_Reckoner_argumentIn_16 ?_
      refine va_get (C := R_Window) (T := F_Window) (N := 10) hx hb hts (fun w h => List.mem_cons_of_mem _ (hin_Window w h)) hown hK hP 1 rfl rfl 2 (by decide) (hts _ (List.mem_cons_of_mem _ fl_Reckoner_109)) (fun _ h => h) rfl d_Reckoner_argumentIn_19 ?_
      have hPc := hP.sub (ws' := [(r, .inr (0, [.int (nI k), .ref v, .ref a, .ref b, .int (nI n)])), (v, .inl (cL, nv, .inr (.inl f))), (a, .inl (cI, ns, .inl (zN g))), (b, .inl (cI, ns, .inl (zN h)))]) [2, 3, 4, 5] rfl
      refine zk_rl (va_runV (As := [.int (nI j), .int (nI wa)]) (rest := []) ⟨hx, hb, hml, hown, hts⟩ (c_Rows_at l D cI cL cZ cW cR r v a b k n nv ns f g h j wa (by omega) hns (by have := hg j (by omega); omega) hnv) (cwV 2 hts (zk_gV (fun _ h => List.mem_cons_of_mem _ h) ml_Reckoner_60 im_Rows_at se_Rows_at in_Rows co_Rows_at) rfl rfl rfl ⟨rfl, hd_Rows_at⟩ ⟨Nat.le_of_ble_eq_true rfl, Nat.le_of_ble_eq_true rfl⟩) (zk_vr (q0 := 0) hN hK hPc rfl rfl) rfl rfl hl.1 rfl (lv_room (Nat.le_of_ble_eq_true rfl)) d_Reckoner_argumentIn_22 ⟨Nat.zero_le _, Nat.zero_le _⟩) ?_
      refine lv_goto (tgt := 31) hx hb d_Reckoner_argumentIn_25 rfl ?_
      exact zk_lretR hx hb hr hlk hQ (by first | exact (if_pos (by omega)).symm | exact (if_neg (by omega)).symm) d_Reckoner_argumentIn_31
set_option maxHeartbeats 4000000 in
set_option maxRecDepth 100000 in
theorem c_Reckoner_argumentIn_m (l : Launch) (D : va_G) (cI cL cZ cW cR : ClassId) (ro st en fp pg fs fe wo ko wf wa wn : Nat) (wp wr : Int32) (wd wg : Bool) (wl wh : Int32) (r v a b k n nv ns : Nat) (f : Nat → Int64) (g h : Nat → Nat) (x : Int32) (a0 e0 : Nat) (hx0 : x < 0) (ha0 : a0 < 1000) (hns : ns < 1000) (hnv : nv < 100000) (hg : ∀ z, z < ns → g z * k + k ≤ nv) : Met l y_Reckoner_argumentIn ws_Reckoner_argumentIn rm1_30 (zPr D vwCl (zT cI cL cZ cW cR) [(ro, .inr (6, [.ref r, .ref wo, .int (nI st), .int (nI en), .int (nI fp), .int (nI pg), .int (nI fs), .int (nI fe)])), (wo, .inr (2, [.ref ko, .int (nI wf), .int (nI wa), .int (nI wn), .int wp, .int wr, .int (zb wd), .int (zb wg), .int wl, .int wh])), (r, .inr (0, [.int (nI k), .ref v, .ref a, .ref b, .int (nI n)])), (v, .inl (cL, nv, .inr (.inl f))), (a, .inl (cI, ns, .inl (zN g))), (b, .inl (cI, ns, .inl (zN h)))] [.ref ro, .int x, .int (nI a0), .int (nI e0)]) (zSl (-1099511627776 : Int64)) 0 0 (fun _ => False) := by
  refine zk_enterR (cc := b_Reckoner_argumentIn) (maxL := 4) (ret := some .long) (by decide) rfl (Nat.le_of_ble_eq_true rfl) ?_
  intro p e s m args below meth c ls Q hx hb hml hr hlk hown hts hP hK hN hl hQ
  have hl : lv_has ls 4 [(0, .ref ro), (1, .int x), (2, .int (nI a0)), (3, .int (nI e0))] := hl
  refine lv_iload_n hx hb d_Reckoner_argumentIn_0 rfl (lv_at hl 1 rfl) ?_
  refine lv_iload_n hx hb d_Reckoner_argumentIn_1 rfl (lv_at hl 2 rfl) ?_
  refine lv_icmp_lt (tgt := 28) hx hb d_Reckoner_argumentIn_2 rfl (fun _ => ?_) (fun hq => absurd hq (fun q => q (zk_neg hx0 (by omega))))
  refine lv_ldc2 (v := (-1099511627776 : Int64)) hx hb hown (hts _ (List.mem_cons_of_mem _ cst_Reckoner_49)) d_Reckoner_argumentIn_28 ?_
  exact zk_lretR hx hb hr hlk hQ (rfl) d_Reckoner_argumentIn_31
set_option maxHeartbeats 4000000 in
set_option maxRecDepth 100000 in
theorem c_Reckoner_sumOfFrame (l : Launch) (D : va_G) (cI cL cZ cW cR : ClassId) (ro st en fp pg fs fe wo ko wf wa wn : Nat) (wp wr : Int32) (wd wg : Bool) (wl wh : Int32) (r v a b k n nv ns : Nat) (f : Nat → Int64) (g h : Nat → Nat) (hse : fs ≤ fe) (hen : fe ≤ ns) (hwa : wa < k) (hns : ns < 1000) (hnv : nv < 100000) (hg : ∀ z, z < ns → g z * k + k ≤ nv) : Met l y_Reckoner_sumOfFrame ws_Reckoner_sumOfFrame rm1_30 (zPr D vwCl (zT cI cL cZ cW cR) [(ro, .inr (6, [.ref r, .ref wo, .int (nI st), .int (nI en), .int (nI fp), .int (nI pg), .int (nI fs), .int (nI fe)])), (wo, .inr (2, [.ref ko, .int (nI wf), .int (nI wa), .int (nI wn), .int wp, .int wr, .int (zb wd), .int (zb wg), .int wl, .int wh])), (r, .inr (0, [.int (nI k), .ref v, .ref a, .ref b, .int (nI n)])), (v, .inl (cL, nv, .inr (.inl f))), (a, .inl (cI, ns, .inl (zN g))), (b, .inl (cI, ns, .inl (zN h)))] [.ref ro]) (zSl (if (sumF (fun z => f (g z * k + wa)) fs (fe - fs)).2 = true then (sumF (fun z => f (g z * k + wa)) fs (fe - fs)).1 else (-1099511627776 : Int64))) 0 0 (fun _ => False) := by
  refine zk_enterR (cc := b_Reckoner_sumOfFrame) (maxL := 7) (ret := some .long) (by decide) rfl (Nat.le_of_ble_eq_true rfl) ?_
  intro p e s m args below meth c ls Q hx hb hml hr hlk hown hts hP hK hN hl hQ
  have hl : lv_has ls 7 [(0, .ref ro)] := hl
  refine lv_lconst (v := 0) hx hb d_Reckoner_sumOfFrame_0 (by decide) ?_
  refine lv_lstore_n (lv' := [(1, .long 0), (0, .ref ro)]) hx hb d_Reckoner_sumOfFrame_1 rfl hl (by decide) rfl (fun ls hl => ?_)
  refine lv_iconst (v := zb false) hx hb d_Reckoner_sumOfFrame_2 (by decide) ?_
  refine lv_istore_n (lv' := [(3, .int (zb false)), (1, .long 0), (0, .ref ro)]) hx hb d_Reckoner_sumOfFrame_3 rfl hl (by decide) rfl (fun ls hl => ?_)
  refine lv_aload_n hx hb d_Reckoner_sumOfFrame_4 rfl (lv_at hl 2 rfl) ?_
  refine va_get (C := R_Reckoner) (T := F_Reckoner) (N := 8) hx hb hts (fun w h => List.mem_cons_of_mem _ (hin_Reckoner w h)) hown hK hP 0 rfl rfl 6 (by decide) (hts _ (List.mem_cons_of_mem _ fl_Reckoner_64)) (fun _ h => h) rfl d_Reckoner_sumOfFrame_5 ?_
  refine lv_istore (lv' := [(4, .int (nI fs)), (3, .int (zb false)), (1, .long 0), (0, .ref ro)]) hx hb d_Reckoner_sumOfFrame_8 hl (by decide) rfl (fun ls hl => ?_)
  have lb10 : ∀ (fuel10 : Nat) (t : Nat) (y : Int64) (z : Bool), (fs + t ≤ fe) → ((y, z) = sumF (fun z => f (g z * k + wa)) fs t) → fe - (fs + t) < fuel10 → ∀ (ls : Array Slot), lv_has ls 7 [(0, .ref ro), (1, .long y), (3, .int (zb z)), (4, .int (nI (fs + t)))] → W p l e rm1_30 s m args below meth c s.heap [] 0 0 Q (F0 m 10 ls []) := by
    intro fuel10
    induction fuel10 with
    | zero => intro t y z ht hy hfu10; exact absurd hfu10 (Nat.not_lt_zero _)
    | succ fuel10 ih10 =>
      intro t y z ht hy hfu10 ls hl
      refine lv_iload hx hb d_Reckoner_sumOfFrame_10 (lv_at hl 3 rfl) ?_
      refine lv_aload_n hx hb d_Reckoner_sumOfFrame_12 rfl (lv_at hl 0 rfl) ?_
      refine va_get (C := R_Reckoner) (T := F_Reckoner) (N := 8) hx hb hts (fun w h => List.mem_cons_of_mem _ (hin_Reckoner w h)) hown hK hP 0 rfl rfl 7 (by decide) (hts _ (List.mem_cons_of_mem _ fl_Reckoner_70)) (fun _ h => h) rfl d_Reckoner_sumOfFrame_13 ?_
      refine zk_icmp_ge (tgt := 59) hx hb d_Reckoner_sumOfFrame_16 rfl (by omega) (by omega) (fun h16 => ?_) (fun h16 => ?_)
      · skip
        obtain rfl : t = fe - fs := by omega
        refine lv_iload_n hx hb d_Reckoner_sumOfFrame_59 rfl (lv_at hl 2 rfl) ?_
        refine zk_ifb_eq (tgt := 67) hx hb d_Reckoner_sumOfFrame_60 rfl (fun h60 => ?_) (fun h60 => ?_)
        · skip
          refine lv_ldc2 (v := (-1099511627776 : Int64)) hx hb hown (hts _ (List.mem_cons_of_mem _ cst_Reckoner_49)) d_Reckoner_sumOfFrame_67 ?_
          exact zk_lretR hx hb hr hlk hQ (by rw [← hy]; first | exact (if_pos h60).symm | exact (if_neg (by rw [h60]; exact Bool.false_ne_true)).symm) d_Reckoner_sumOfFrame_70
        · skip
          refine lv_lload_n hx hb d_Reckoner_sumOfFrame_63 rfl (lv_at hl 1 rfl) ?_
          refine lv_goto (tgt := 70) hx hb d_Reckoner_sumOfFrame_64 rfl ?_
          exact zk_lretR hx hb hr hlk hQ (by rw [← hy]; first | exact (if_pos h60).symm | exact (if_neg (by rw [h60]; exact Bool.false_ne_true)).symm) d_Reckoner_sumOfFrame_70
      · skip
        refine lv_aload_n hx hb d_Reckoner_sumOfFrame_19 rfl (lv_at hl 0 rfl) ?_
        refine va_get (C := R_Reckoner) (T := F_Reckoner) (N := 8) hx hb hts (fun w h => List.mem_cons_of_mem _ (hin_Reckoner w h)) hown hK hP 0 rfl rfl 0 (by decide) (hts _ (List.mem_cons_of_mem _ fl_Reckoner_9)) (fun _ h => h) rfl d_Reckoner_sumOfFrame_20 ?_
        refine lv_iload hx hb d_Reckoner_sumOfFrame_23 (lv_at hl 3 rfl) ?_
        refine lv_aload_n hx hb d_Reckoner_sumOfFrame_25 rfl (lv_at hl 0 rfl) ?_
        refine va_get (C := R_Reckoner) (T := F_Reckoner) (N := 8) hx hb hts (fun w h => List.mem_cons_of_mem _ (hin_Reckoner w h)) hown hK hP 0 rfl rfl 1 (by decide) (hts _ (List.mem_cons_of_mem _ fl_Reckoner_15)) (fun _ h => h) rfl d_Reckoner_sumOfFrame_26 ?_
        refine va_get (C := R_Window) (T := F_Window) (N := 10) hx hb hts (fun w h => List.mem_cons_of_mem _ (hin_Window w h)) hown hK hP 1 rfl rfl 2 (by decide) (hts _ (List.mem_cons_of_mem _ fl_Reckoner_109)) (fun _ h => h) rfl d_Reckoner_sumOfFrame_29 ?_
        have hPc := hP.sub (ws' := [(r, .inr (0, [.int (nI k), .ref v, .ref a, .ref b, .int (nI n)])), (v, .inl (cL, nv, .inr (.inl f))), (a, .inl (cI, ns, .inl (zN g))), (b, .inl (cI, ns, .inl (zN h)))]) [2, 3, 4, 5] rfl
        refine zk_rl (va_runV (As := [.int (nI (fs + t)), .int (nI wa)]) (rest := []) ⟨hx, hb, hml, hown, hts⟩ (c_Rows_at l D cI cL cZ cW cR r v a b k n nv ns f g h (fs + t) wa (by omega) hns (by have := hg (fs + t) (by omega); omega) hnv) (cwV 2 hts (zk_gV (fun _ h => List.mem_cons_of_mem _ h) ml_Reckoner_60 im_Rows_at se_Rows_at in_Rows co_Rows_at) rfl rfl rfl ⟨rfl, hd_Rows_at⟩ ⟨Nat.le_of_ble_eq_true rfl, Nat.le_of_ble_eq_true rfl⟩) (zk_vr (q0 := 0) hN hK hPc rfl rfl) rfl rfl hl.1 rfl (lv_room (Nat.le_of_ble_eq_true rfl)) d_Reckoner_sumOfFrame_32 ⟨Nat.zero_le _, Nat.zero_le _⟩) ?_
        refine lv_lstore (lv' := [(5, .long (f (g (fs + t) * k + wa))), (0, .ref ro), (1, .long y), (3, .int (zb z)), (4, .int (nI (fs + t)))]) hx hb d_Reckoner_sumOfFrame_35 hl (by decide) rfl (fun ls hl => ?_)
        refine lv_lload hx hb d_Reckoner_sumOfFrame_37 (lv_at hl 0 rfl) ?_
        refine lv_ldc2 (v := (-1099511627776 : Int64)) hx hb hown (hts _ (List.mem_cons_of_mem _ cst_Reckoner_49)) d_Reckoner_sumOfFrame_39 ?_
        refine W.lcmp hx hb d_Reckoner_sumOfFrame_42 ?_
        refine lv_if_eq (tgt := 53) hx hb d_Reckoner_sumOfFrame_43 rfl (fun h43 => ?_) (fun h43 => ?_)
        · skip
          have hz : (y, z) = sumF (fun z => f (g z * k + wa)) fs (t + 1) := hy.trans (if_pos ((lg_cmp_eq _ _).mp h43)).symm
          refine lv_iinc (k := 4) (v := nI (fs + t + 1)) (lv' := [(4, .int (nI (fs + t + 1))), (5, .long (f (g (fs + t) * k + wa))), (0, .ref ro), (1, .long y), (3, .int (zb z))]) hx hb d_Reckoner_sumOfFrame_53 hl rfl (nI_add (fs + t) 1) (by decide) rfl (fun ls hl => ?_)
          refine lv_goto (tgt := 10) hx hb d_Reckoner_sumOfFrame_56 rfl ?_
          exact ih10 (t + 1) y z (by omega) hz (by omega) ls (lv_sub hl [2, 3, 4, 0] rfl)
        · skip
          have hz : (y + f (g (fs + t) * k + wa), true) = sumF (fun z => f (g z * k + wa)) fs (t + 1) := by rw [show sumF (fun z => f (g z * k + wa)) fs (t + 1) = ((sumF (fun z => f (g z * k + wa)) fs t).1 + f (g (fs + t) * k + wa), true) from if_neg (fun q => h43 ((lg_cmp_eq _ _).mpr q)), ← hy]
          refine lv_lload_n hx hb d_Reckoner_sumOfFrame_46 rfl (lv_at hl 2 rfl) ?_
          refine lv_lload hx hb d_Reckoner_sumOfFrame_47 (lv_at hl 0 rfl) ?_
          refine lv_ladd hx hb d_Reckoner_sumOfFrame_49 ?_
          refine lv_lstore_n (lv' := [(1, .long (y + (f (g (fs + t) * k + wa)))), (5, .long (f (g (fs + t) * k + wa))), (0, .ref ro), (3, .int (zb z)), (4, .int (nI (fs + t)))]) hx hb d_Reckoner_sumOfFrame_50 rfl hl (by decide) rfl (fun ls hl => ?_)
          refine lv_iconst (v := zb true) hx hb d_Reckoner_sumOfFrame_51 (by decide) ?_
          refine lv_istore_n (lv' := [(3, .int (zb true)), (1, .long (y + (f (g (fs + t) * k + wa)))), (5, .long (f (g (fs + t) * k + wa))), (0, .ref ro), (4, .int (nI (fs + t)))]) hx hb d_Reckoner_sumOfFrame_52 rfl hl (by decide) rfl (fun ls hl => ?_)
          refine lv_iinc (k := 4) (v := nI (fs + t + 1)) (lv' := [(4, .int (nI (fs + t + 1))), (3, .int (zb true)), (1, .long (y + (f (g (fs + t) * k + wa)))), (5, .long (f (g (fs + t) * k + wa))), (0, .ref ro)]) hx hb d_Reckoner_sumOfFrame_53 hl rfl (nI_add (fs + t) 1) (by decide) rfl (fun ls hl => ?_)
          refine lv_goto (tgt := 10) hx hb d_Reckoner_sumOfFrame_56 rfl ?_
          exact ih10 (t + 1) (y + (f (g (fs + t) * k + wa))) true (by omega) hz (by omega) ls (lv_sub hl [4, 2, 1, 0] rfl)
  exact lb10 _ 0 0 false (by omega) rfl (Nat.lt_succ_self _) ls (lv_sub hl [3, 2, 1, 0] rfl)
set_option maxHeartbeats 4000000 in
set_option maxRecDepth 100000 in
theorem c_Reckoner_countInFrame (l : Launch) (D : va_G) (cI cL cZ cW cR : ClassId) (ro st en fp pg fs fe wo ko wf wa wn : Nat) (wp wr : Int32) (wd wg : Bool) (wl wh : Int32) (r v a b k n nv ns : Nat) (f : Nat → Int64) (g h : Nat → Nat) (hse : fs ≤ fe) (hen : fe ≤ ns) (hwa : wa < k) (hns : ns < 1000) (hnv : nv < 100000) (hg : ∀ z, z < ns → g z * k + k ≤ nv) : Met l y_Reckoner_countInFrame ws_Reckoner_countInFrame rm1_30 (zPr D vwCl (zT cI cL cZ cW cR) [(ro, .inr (6, [.ref r, .ref wo, .int (nI st), .int (nI en), .int (nI fp), .int (nI pg), .int (nI fs), .int (nI fe)])), (wo, .inr (2, [.ref ko, .int (nI wf), .int (nI wa), .int (nI wn), .int wp, .int wr, .int (zb wd), .int (zb wg), .int wl, .int wh])), (r, .inr (0, [.int (nI k), .ref v, .ref a, .ref b, .int (nI n)])), (v, .inl (cL, nv, .inr (.inl f))), (a, .inl (cI, ns, .inl (zN g))), (b, .inl (cI, ns, .inl (zN h)))] [.ref ro]) (zSi (nI (cntF (fun z => f (g z * k + wa)) fs (fe - fs)))) 0 0 (fun _ => False) := by
  refine zk_enterR (cc := b_Reckoner_countInFrame) (maxL := 3) (ret := some .int) (by decide) rfl (Nat.le_of_ble_eq_true rfl) ?_
  intro p e s m args below meth c ls Q hx hb hml hr hlk hown hts hP hK hN hl hQ
  have hl : lv_has ls 3 [(0, .ref ro)] := hl
  refine lv_iconst (v := nI 0) hx hb d_Reckoner_countInFrame_0 (by decide) ?_
  refine lv_istore_n (lv' := [(1, .int (nI 0)), (0, .ref ro)]) hx hb d_Reckoner_countInFrame_1 rfl hl (by decide) rfl (fun ls hl => ?_)
  refine lv_aload_n hx hb d_Reckoner_countInFrame_2 rfl (lv_at hl 1 rfl) ?_
  refine va_get (C := R_Reckoner) (T := F_Reckoner) (N := 8) hx hb hts (fun w h => List.mem_cons_of_mem _ (hin_Reckoner w h)) hown hK hP 0 rfl rfl 6 (by decide) (hts _ (List.mem_cons_of_mem _ fl_Reckoner_64)) (fun _ h => h) rfl d_Reckoner_countInFrame_3 ?_
  refine lv_istore_n (lv' := [(2, .int (nI fs)), (1, .int (nI 0)), (0, .ref ro)]) hx hb d_Reckoner_countInFrame_6 rfl hl (by decide) rfl (fun ls hl => ?_)
  have lb7 : ∀ (fuel7 : Nat) (t : Nat) (y : Nat), (fs + t ≤ fe) → (y = cntF (fun z => f (g z * k + wa)) fs t) → fe - (fs + t) < fuel7 → ∀ (ls : Array Slot), lv_has ls 3 [(0, .ref ro), (1, .int (nI y)), (2, .int (nI (fs + t)))] → W p l e rm1_30 s m args below meth c s.heap [] 0 0 Q (F0 m 7 ls []) := by
    intro fuel7
    induction fuel7 with
    | zero => intro t y ht hy hfu7; exact absurd hfu7 (Nat.not_lt_zero _)
    | succ fuel7 ih7 =>
      intro t y ht hy hfu7 ls hl
      refine lv_iload_n hx hb d_Reckoner_countInFrame_7 rfl (lv_at hl 2 rfl) ?_
      refine lv_aload_n hx hb d_Reckoner_countInFrame_8 rfl (lv_at hl 0 rfl) ?_
      refine va_get (C := R_Reckoner) (T := F_Reckoner) (N := 8) hx hb hts (fun w h => List.mem_cons_of_mem _ (hin_Reckoner w h)) hown hK hP 0 rfl rfl 7 (by decide) (hts _ (List.mem_cons_of_mem _ fl_Reckoner_70)) (fun _ h => h) rfl d_Reckoner_countInFrame_9 ?_
      refine zk_icmp_ge (tgt := 46) hx hb d_Reckoner_countInFrame_12 rfl (by omega) (by omega) (fun h12 => ?_) (fun h12 => ?_)
      · skip
        obtain rfl : t = fe - fs := by omega
        refine lv_iload_n hx hb d_Reckoner_countInFrame_46 rfl (lv_at hl 1 rfl) ?_
        exact zk_iretR hx hb hr hlk hQ (by rw [hy]) d_Reckoner_countInFrame_47
      · skip
        refine lv_aload_n hx hb d_Reckoner_countInFrame_15 rfl (lv_at hl 0 rfl) ?_
        refine va_get (C := R_Reckoner) (T := F_Reckoner) (N := 8) hx hb hts (fun w h => List.mem_cons_of_mem _ (hin_Reckoner w h)) hown hK hP 0 rfl rfl 0 (by decide) (hts _ (List.mem_cons_of_mem _ fl_Reckoner_9)) (fun _ h => h) rfl d_Reckoner_countInFrame_16 ?_
        refine lv_iload_n hx hb d_Reckoner_countInFrame_19 rfl (lv_at hl 2 rfl) ?_
        refine lv_aload_n hx hb d_Reckoner_countInFrame_20 rfl (lv_at hl 0 rfl) ?_
        refine va_get (C := R_Reckoner) (T := F_Reckoner) (N := 8) hx hb hts (fun w h => List.mem_cons_of_mem _ (hin_Reckoner w h)) hown hK hP 0 rfl rfl 1 (by decide) (hts _ (List.mem_cons_of_mem _ fl_Reckoner_15)) (fun _ h => h) rfl d_Reckoner_countInFrame_21 ?_
        refine va_get (C := R_Window) (T := F_Window) (N := 10) hx hb hts (fun w h => List.mem_cons_of_mem _ (hin_Window w h)) hown hK hP 1 rfl rfl 2 (by decide) (hts _ (List.mem_cons_of_mem _ fl_Reckoner_109)) (fun _ h => h) rfl d_Reckoner_countInFrame_24 ?_
        have hPc := hP.sub (ws' := [(r, .inr (0, [.int (nI k), .ref v, .ref a, .ref b, .int (nI n)])), (v, .inl (cL, nv, .inr (.inl f))), (a, .inl (cI, ns, .inl (zN g))), (b, .inl (cI, ns, .inl (zN h)))]) [2, 3, 4, 5] rfl
        refine zk_rl (va_runV (As := [.int (nI (fs + t)), .int (nI wa)]) (rest := []) ⟨hx, hb, hml, hown, hts⟩ (c_Rows_at l D cI cL cZ cW cR r v a b k n nv ns f g h (fs + t) wa (by omega) hns (by have := hg (fs + t) (by omega); omega) hnv) (cwV 2 hts (zk_gV (fun _ h => List.mem_cons_of_mem _ h) ml_Reckoner_60 im_Rows_at se_Rows_at in_Rows co_Rows_at) rfl rfl rfl ⟨rfl, hd_Rows_at⟩ ⟨Nat.le_of_ble_eq_true rfl, Nat.le_of_ble_eq_true rfl⟩) (zk_vr (q0 := 0) hN hK hPc rfl rfl) rfl rfl hl.1 rfl (lv_room (Nat.le_of_ble_eq_true rfl)) d_Reckoner_countInFrame_27 ⟨Nat.zero_le _, Nat.zero_le _⟩) ?_
        refine lv_ldc2 (v := (-1099511627776 : Int64)) hx hb hown (hts _ (List.mem_cons_of_mem _ cst_Reckoner_49)) d_Reckoner_countInFrame_30 ?_
        refine W.lcmp hx hb d_Reckoner_countInFrame_33 ?_
        refine lv_if_eq (tgt := 40) hx hb d_Reckoner_countInFrame_34 rfl (fun h34 => ?_) (fun h34 => ?_)
        · skip
          have hz : cntF (fun z => f (g z * k + wa)) fs t = cntF (fun z => f (g z * k + wa)) fs (t + 1) := (if_pos ((lg_cmp_eq _ _).mp h34)).symm
          refine lv_iinc (k := 2) (v := nI (fs + t + 1)) (lv' := [(2, .int (nI (fs + t + 1))), (0, .ref ro), (1, .int (nI y))]) hx hb d_Reckoner_countInFrame_40 hl rfl (nI_add (fs + t) 1) (by decide) rfl (fun ls hl => ?_)
          refine lv_goto (tgt := 7) hx hb d_Reckoner_countInFrame_43 rfl ?_
          exact ih7 (t + 1) y (by omega) (by rw [hy]; exact hz) (by omega) ls (lv_sub hl [1, 2, 0] rfl)
        · skip
          have hz : cntF (fun z => f (g z * k + wa)) fs t + 1 = cntF (fun z => f (g z * k + wa)) fs (t + 1) := (if_neg (fun q => h34 ((lg_cmp_eq _ _).mpr q))).symm
          refine lv_iinc (k := 1) (v := nI (y + 1)) (lv' := [(1, .int (nI (y + 1))), (0, .ref ro), (2, .int (nI (fs + t)))]) hx hb d_Reckoner_countInFrame_37 hl rfl (nI_add y 1) (by decide) rfl (fun ls hl => ?_)
          refine lv_iinc (k := 2) (v := nI (fs + t + 1)) (lv' := [(2, .int (nI (fs + t + 1))), (1, .int (nI (y + 1))), (0, .ref ro)]) hx hb d_Reckoner_countInFrame_40 hl rfl (nI_add (fs + t) 1) (by decide) rfl (fun ls hl => ?_)
          refine lv_goto (tgt := 7) hx hb d_Reckoner_countInFrame_43 rfl ?_
          exact ih7 (t + 1) (y + 1) (by omega) (by rw [hy]; exact hz) (by omega) ls (lv_sub hl [2, 1, 0] rfl)
  exact lb7 _ 0 0 (by omega) rfl (Nat.lt_succ_self _) ls (lv_sub hl [2, 1, 0] rfl)
set_option maxHeartbeats 4000000 in
set_option maxRecDepth 100000 in
theorem c_Reckoner_leastInFrame (l : Launch) (D : va_G) (cI cL cZ cW cR : ClassId) (ro st en fp pg fs fe wo ko wf wa wn : Nat) (wp wr : Int32) (wd wg : Bool) (wl wh : Int32) (r v a b k n nv ns : Nat) (f : Nat → Int64) (g h : Nat → Nat) (hse : fs ≤ fe) (hen : fe ≤ ns) (hwa : wa < k) (hns : ns < 1000) (hnv : nv < 100000) (hg : ∀ z, z < ns → g z * k + k ≤ nv) : Met l y_Reckoner_leastInFrame ws_Reckoner_leastInFrame rm1_30 (zPr D vwCl (zT cI cL cZ cW cR) [(ro, .inr (6, [.ref r, .ref wo, .int (nI st), .int (nI en), .int (nI fp), .int (nI pg), .int (nI fs), .int (nI fe)])), (wo, .inr (2, [.ref ko, .int (nI wf), .int (nI wa), .int (nI wn), .int wp, .int wr, .int (zb wd), .int (zb wg), .int wl, .int wh])), (r, .inr (0, [.int (nI k), .ref v, .ref a, .ref b, .int (nI n)])), (v, .inl (cL, nv, .inr (.inl f))), (a, .inl (cI, ns, .inl (zN g))), (b, .inl (cI, ns, .inl (zN h)))] [.ref ro]) (zSl (lstF (fun z => f (g z * k + wa)) fs (fe - fs))) 0 0 (fun _ => False) := by
  refine zk_enterR (cc := b_Reckoner_leastInFrame) (maxL := 6) (ret := some .long) (by decide) rfl (Nat.le_of_ble_eq_true rfl) ?_
  intro p e s m args below meth c ls Q hx hb hml hr hlk hown hts hP hK hN hl hQ
  have hl : lv_has ls 6 [(0, .ref ro)] := hl
  refine lv_ldc2 (v := (-1099511627776 : Int64)) hx hb hown (hts _ (List.mem_cons_of_mem _ cst_Reckoner_49)) d_Reckoner_leastInFrame_0 ?_
  refine lv_lstore_n (lv' := [(1, .long (-1099511627776 : Int64)), (0, .ref ro)]) hx hb d_Reckoner_leastInFrame_3 rfl hl (by decide) rfl (fun ls hl => ?_)
  refine lv_aload_n hx hb d_Reckoner_leastInFrame_4 rfl (lv_at hl 1 rfl) ?_
  refine va_get (C := R_Reckoner) (T := F_Reckoner) (N := 8) hx hb hts (fun w h => List.mem_cons_of_mem _ (hin_Reckoner w h)) hown hK hP 0 rfl rfl 6 (by decide) (hts _ (List.mem_cons_of_mem _ fl_Reckoner_64)) (fun _ h => h) rfl d_Reckoner_leastInFrame_5 ?_
  refine lv_istore_n (lv' := [(3, .int (nI fs)), (1, .long (-1099511627776 : Int64)), (0, .ref ro)]) hx hb d_Reckoner_leastInFrame_8 rfl hl (by decide) rfl (fun ls hl => ?_)
  have lb9 : ∀ (fuel9 : Nat) (t : Nat) (y : Int64), (fs + t ≤ fe) → (y = lstF (fun z => f (g z * k + wa)) fs t) → fe - (fs + t) < fuel9 → ∀ (ls : Array Slot), lv_has ls 6 [(0, .ref ro), (1, .long y), (3, .int (nI (fs + t)))] → W p l e rm1_30 s m args below meth c s.heap [] 0 0 Q (F0 m 9 ls []) := by
    intro fuel9
    induction fuel9 with
    | zero => intro t y ht hy hfu9; exact absurd hfu9 (Nat.not_lt_zero _)
    | succ fuel9 ih9 =>
      intro t y ht hy hfu9 ls hl
      refine lv_iload_n hx hb d_Reckoner_leastInFrame_9 rfl (lv_at hl 2 rfl) ?_
      refine lv_aload_n hx hb d_Reckoner_leastInFrame_10 rfl (lv_at hl 0 rfl) ?_
      refine va_get (C := R_Reckoner) (T := F_Reckoner) (N := 8) hx hb hts (fun w h => List.mem_cons_of_mem _ (hin_Reckoner w h)) hown hK hP 0 rfl rfl 7 (by decide) (hts _ (List.mem_cons_of_mem _ fl_Reckoner_70)) (fun _ h => h) rfl d_Reckoner_leastInFrame_11 ?_
      refine zk_icmp_ge (tgt := 67) hx hb d_Reckoner_leastInFrame_14 rfl (by omega) (by omega) (fun h14 => ?_) (fun h14 => ?_)
      · skip
        obtain rfl : t = fe - fs := by omega
        refine lv_lload_n hx hb d_Reckoner_leastInFrame_67 rfl (lv_at hl 1 rfl) ?_
        exact zk_lretR hx hb hr hlk hQ (hy) d_Reckoner_leastInFrame_68
      · skip
        refine lv_aload_n hx hb d_Reckoner_leastInFrame_17 rfl (lv_at hl 0 rfl) ?_
        refine va_get (C := R_Reckoner) (T := F_Reckoner) (N := 8) hx hb hts (fun w h => List.mem_cons_of_mem _ (hin_Reckoner w h)) hown hK hP 0 rfl rfl 0 (by decide) (hts _ (List.mem_cons_of_mem _ fl_Reckoner_9)) (fun _ h => h) rfl d_Reckoner_leastInFrame_18 ?_
        refine lv_iload_n hx hb d_Reckoner_leastInFrame_21 rfl (lv_at hl 2 rfl) ?_
        refine lv_aload_n hx hb d_Reckoner_leastInFrame_22 rfl (lv_at hl 0 rfl) ?_
        refine va_get (C := R_Reckoner) (T := F_Reckoner) (N := 8) hx hb hts (fun w h => List.mem_cons_of_mem _ (hin_Reckoner w h)) hown hK hP 0 rfl rfl 1 (by decide) (hts _ (List.mem_cons_of_mem _ fl_Reckoner_15)) (fun _ h => h) rfl d_Reckoner_leastInFrame_23 ?_
        refine va_get (C := R_Window) (T := F_Window) (N := 10) hx hb hts (fun w h => List.mem_cons_of_mem _ (hin_Window w h)) hown hK hP 1 rfl rfl 2 (by decide) (hts _ (List.mem_cons_of_mem _ fl_Reckoner_109)) (fun _ h => h) rfl d_Reckoner_leastInFrame_26 ?_
        have hPc := hP.sub (ws' := [(r, .inr (0, [.int (nI k), .ref v, .ref a, .ref b, .int (nI n)])), (v, .inl (cL, nv, .inr (.inl f))), (a, .inl (cI, ns, .inl (zN g))), (b, .inl (cI, ns, .inl (zN h)))]) [2, 3, 4, 5] rfl
        refine zk_rl (va_runV (As := [.int (nI (fs + t)), .int (nI wa)]) (rest := []) ⟨hx, hb, hml, hown, hts⟩ (c_Rows_at l D cI cL cZ cW cR r v a b k n nv ns f g h (fs + t) wa (by omega) hns (by have := hg (fs + t) (by omega); omega) hnv) (cwV 2 hts (zk_gV (fun _ h => List.mem_cons_of_mem _ h) ml_Reckoner_60 im_Rows_at se_Rows_at in_Rows co_Rows_at) rfl rfl rfl ⟨rfl, hd_Rows_at⟩ ⟨Nat.le_of_ble_eq_true rfl, Nat.le_of_ble_eq_true rfl⟩) (zk_vr (q0 := 0) hN hK hPc rfl rfl) rfl rfl hl.1 rfl (lv_room (Nat.le_of_ble_eq_true rfl)) d_Reckoner_leastInFrame_29 ⟨Nat.zero_le _, Nat.zero_le _⟩) ?_
        refine lv_lstore (lv' := [(4, .long (f (g (fs + t) * k + wa))), (0, .ref ro), (1, .long y), (3, .int (nI (fs + t)))]) hx hb d_Reckoner_leastInFrame_32 hl (by decide) rfl (fun ls hl => ?_)
        refine lv_lload hx hb d_Reckoner_leastInFrame_34 (lv_at hl 0 rfl) ?_
        refine lv_ldc2 (v := (-1099511627776 : Int64)) hx hb hown (hts _ (List.mem_cons_of_mem _ cst_Reckoner_49)) d_Reckoner_leastInFrame_36 ?_
        refine W.lcmp hx hb d_Reckoner_leastInFrame_39 ?_
        refine lv_if_eq (tgt := 61) hx hb d_Reckoner_leastInFrame_40 rfl (fun h40 => ?_) (fun h40 => ?_)
        · skip
          have hz : y = lstF (fun z => f (g z * k + wa)) fs (t + 1) := hy.trans (if_neg (fun q => q.1 ((lg_cmp_eq _ _).mp h40))).symm
          refine lv_iinc (k := 3) (v := nI (fs + t + 1)) (lv' := [(3, .int (nI (fs + t + 1))), (4, .long (f (g (fs + t) * k + wa))), (0, .ref ro), (1, .long y)]) hx hb d_Reckoner_leastInFrame_61 hl rfl (nI_add (fs + t) 1) (by decide) rfl (fun ls hl => ?_)
          refine lv_goto (tgt := 9) hx hb d_Reckoner_leastInFrame_64 rfl ?_
          exact ih9 (t + 1) y (by omega) hz (by omega) ls (lv_sub hl [2, 3, 0] rfl)
        · skip
          refine lv_lload_n hx hb d_Reckoner_leastInFrame_43 rfl (lv_at hl 2 rfl) ?_
          refine lv_ldc2 (v := (-1099511627776 : Int64)) hx hb hown (hts _ (List.mem_cons_of_mem _ cst_Reckoner_49)) d_Reckoner_leastInFrame_44 ?_
          refine W.lcmp hx hb d_Reckoner_leastInFrame_47 ?_
          refine lv_if_eq (tgt := 58) hx hb d_Reckoner_leastInFrame_48 rfl (fun h48 => ?_) (fun h48 => ?_)
          · skip
            have hz : f (g (fs + t) * k + wa) = lstF (fun z => f (g z * k + wa)) fs (t + 1) := (if_pos ⟨fun q => h40 ((lg_cmp_eq _ _).mpr q), Or.inl (hy ▸ (lg_cmp_eq _ _).mp h48)⟩).symm
            refine lv_lload hx hb d_Reckoner_leastInFrame_58 (lv_at hl 0 rfl) ?_
            refine lv_lstore_n (lv' := [(1, .long (f (g (fs + t) * k + wa))), (4, .long (f (g (fs + t) * k + wa))), (0, .ref ro), (3, .int (nI (fs + t)))]) hx hb d_Reckoner_leastInFrame_60 rfl hl (by decide) rfl (fun ls hl => ?_)
            refine lv_iinc (k := 3) (v := nI (fs + t + 1)) (lv' := [(3, .int (nI (fs + t + 1))), (1, .long (f (g (fs + t) * k + wa))), (4, .long (f (g (fs + t) * k + wa))), (0, .ref ro)]) hx hb d_Reckoner_leastInFrame_61 hl rfl (nI_add (fs + t) 1) (by decide) rfl (fun ls hl => ?_)
            refine lv_goto (tgt := 9) hx hb d_Reckoner_leastInFrame_64 rfl ?_
            exact ih9 (t + 1) (f (g (fs + t) * k + wa)) (by omega) hz (by omega) ls (lv_sub hl [3, 1, 0] rfl)
          · skip
            refine lv_lload hx hb d_Reckoner_leastInFrame_51 (lv_at hl 0 rfl) ?_
            refine lv_lload_n hx hb d_Reckoner_leastInFrame_53 rfl (lv_at hl 2 rfl) ?_
            refine W.lcmp hx hb d_Reckoner_leastInFrame_54 ?_
            refine lv_if_ge (tgt := 61) hx hb d_Reckoner_leastInFrame_55 rfl (fun h55 => ?_) (fun h55 => ?_)
            · skip
              have hz : y = lstF (fun z => f (g z * k + wa)) fs (t + 1) := hy.trans (if_neg (fun q => q.2.elim (fun z => h48 ((lg_cmp_eq _ _).mpr (hy.trans z))) (fun z => absurd ((lg_cmp_ge _ _).mp h55) (Int64.not_le.mpr (hy ▸ z))))).symm
              refine lv_iinc (k := 3) (v := nI (fs + t + 1)) (lv' := [(3, .int (nI (fs + t + 1))), (4, .long (f (g (fs + t) * k + wa))), (0, .ref ro), (1, .long y)]) hx hb d_Reckoner_leastInFrame_61 hl rfl (nI_add (fs + t) 1) (by decide) rfl (fun ls hl => ?_)
              refine lv_goto (tgt := 9) hx hb d_Reckoner_leastInFrame_64 rfl ?_
              exact ih9 (t + 1) y (by omega) hz (by omega) ls (lv_sub hl [2, 3, 0] rfl)
            · skip
              have hz : f (g (fs + t) * k + wa) = lstF (fun z => f (g z * k + wa)) fs (t + 1) := (if_pos ⟨fun q => h40 ((lg_cmp_eq _ _).mpr q), Or.inr (hy ▸ Int64.not_le.mp (fun z => h55 ((lg_cmp_ge _ _).mpr z)))⟩).symm
              refine lv_lload hx hb d_Reckoner_leastInFrame_58 (lv_at hl 0 rfl) ?_
              refine lv_lstore_n (lv' := [(1, .long (f (g (fs + t) * k + wa))), (4, .long (f (g (fs + t) * k + wa))), (0, .ref ro), (3, .int (nI (fs + t)))]) hx hb d_Reckoner_leastInFrame_60 rfl hl (by decide) rfl (fun ls hl => ?_)
              refine lv_iinc (k := 3) (v := nI (fs + t + 1)) (lv' := [(3, .int (nI (fs + t + 1))), (1, .long (f (g (fs + t) * k + wa))), (4, .long (f (g (fs + t) * k + wa))), (0, .ref ro)]) hx hb d_Reckoner_leastInFrame_61 hl rfl (nI_add (fs + t) 1) (by decide) rfl (fun ls hl => ?_)
              refine lv_goto (tgt := 9) hx hb d_Reckoner_leastInFrame_64 rfl ?_
              exact ih9 (t + 1) (f (g (fs + t) * k + wa)) (by omega) hz (by omega) ls (lv_sub hl [3, 1, 0] rfl)
  exact lb9 _ 0 (-1099511627776 : Int64) (by omega) rfl (Nat.lt_succ_self _) ls (lv_sub hl [2, 1, 0] rfl)
set_option maxHeartbeats 4000000 in
set_option maxRecDepth 100000 in
theorem c_Reckoner_greatestInFrame (l : Launch) (D : va_G) (cI cL cZ cW cR : ClassId) (ro st en fp pg fs fe wo ko wf wa wn : Nat) (wp wr : Int32) (wd wg : Bool) (wl wh : Int32) (r v a b k n nv ns : Nat) (f : Nat → Int64) (g h : Nat → Nat) (hse : fs ≤ fe) (hen : fe ≤ ns) (hwa : wa < k) (hns : ns < 1000) (hnv : nv < 100000) (hg : ∀ z, z < ns → g z * k + k ≤ nv) : Met l y_Reckoner_greatestInFrame ws_Reckoner_greatestInFrame rm1_40 (zPr D vwCl (zT cI cL cZ cW cR) [(ro, .inr (6, [.ref r, .ref wo, .int (nI st), .int (nI en), .int (nI fp), .int (nI pg), .int (nI fs), .int (nI fe)])), (wo, .inr (2, [.ref ko, .int (nI wf), .int (nI wa), .int (nI wn), .int wp, .int wr, .int (zb wd), .int (zb wg), .int wl, .int wh])), (r, .inr (0, [.int (nI k), .ref v, .ref a, .ref b, .int (nI n)])), (v, .inl (cL, nv, .inr (.inl f))), (a, .inl (cI, ns, .inl (zN g))), (b, .inl (cI, ns, .inl (zN h)))] [.ref ro]) (zSl (grtF (fun z => f (g z * k + wa)) fs (fe - fs))) 0 0 (fun _ => False) := by
  refine zk_enterR (cc := b_Reckoner_greatestInFrame) (maxL := 4) (ret := some .long) (by decide) rfl (Nat.le_of_ble_eq_true rfl) ?_
  intro p e s m args below meth c ls Q hx hb hml hr hlk hown hts hP hK hN hl hQ
  have hl : lv_has ls 4 [(0, .ref ro)] := hl
  refine lv_ldc2 (v := (-1099511627776 : Int64)) hx hb hown (hts _ (List.mem_cons_of_mem _ cst_Reckoner_49)) d_Reckoner_greatestInFrame_0 ?_
  refine lv_lstore_n (lv' := [(1, .long (-1099511627776 : Int64)), (0, .ref ro)]) hx hb d_Reckoner_greatestInFrame_3 rfl hl (by decide) rfl (fun ls hl => ?_)
  refine lv_aload_n hx hb d_Reckoner_greatestInFrame_4 rfl (lv_at hl 1 rfl) ?_
  refine va_get (C := R_Reckoner) (T := F_Reckoner) (N := 8) hx hb hts (fun w h => List.mem_cons_of_mem _ (hin_Reckoner w h)) hown hK hP 0 rfl rfl 6 (by decide) (hts _ (List.mem_cons_of_mem _ fl_Reckoner_64)) (fun _ h => h) rfl d_Reckoner_greatestInFrame_5 ?_
  refine lv_istore_n (lv' := [(3, .int (nI fs)), (1, .long (-1099511627776 : Int64)), (0, .ref ro)]) hx hb d_Reckoner_greatestInFrame_8 rfl hl (by decide) rfl (fun ls hl => ?_)
  have lb9 : ∀ (fuel9 : Nat) (t : Nat), (fs + t ≤ fe) → fe - (fs + t) < fuel9 → ∀ (ls : Array Slot), lv_has ls 4 [(0, .ref ro), (1, .long (grtF (fun z => f (g z * k + wa)) fs t)), (3, .int (nI (fs + t)))] → W p l e rm1_40 s m args below meth c s.heap [] 0 0 Q (F0 m 9 ls []) := by
    intro fuel9
    induction fuel9 with
    | zero => intro t ht hfu9; exact absurd hfu9 (Nat.not_lt_zero _)
    | succ fuel9 ih9 =>
      intro t ht hfu9 ls hl
      refine lv_iload_n hx hb d_Reckoner_greatestInFrame_9 rfl (lv_at hl 2 rfl) ?_
      refine lv_aload_n hx hb d_Reckoner_greatestInFrame_10 rfl (lv_at hl 0 rfl) ?_
      refine va_get (C := R_Reckoner) (T := F_Reckoner) (N := 8) hx hb hts (fun w h => List.mem_cons_of_mem _ (hin_Reckoner w h)) hown hK hP 0 rfl rfl 7 (by decide) (hts _ (List.mem_cons_of_mem _ fl_Reckoner_70)) (fun _ h => h) rfl d_Reckoner_greatestInFrame_11 ?_
      refine zk_icmp_ge (tgt := 43) hx hb d_Reckoner_greatestInFrame_14 rfl (by omega) (by omega) (fun h14 => ?_) (fun h14 => ?_)
      · skip
        obtain rfl : t = fe - fs := by omega
        refine lv_lload_n hx hb d_Reckoner_greatestInFrame_43 rfl (lv_at hl 1 rfl) ?_
        exact zk_lretR hx hb hr hlk hQ (rfl) d_Reckoner_greatestInFrame_44
      · skip
        refine lv_lload_n hx hb d_Reckoner_greatestInFrame_17 rfl (lv_at hl 1 rfl) ?_
        refine lv_aload_n hx hb d_Reckoner_greatestInFrame_18 rfl (lv_at hl 0 rfl) ?_
        refine va_get (C := R_Reckoner) (T := F_Reckoner) (N := 8) hx hb hts (fun w h => List.mem_cons_of_mem _ (hin_Reckoner w h)) hown hK hP 0 rfl rfl 0 (by decide) (hts _ (List.mem_cons_of_mem _ fl_Reckoner_9)) (fun _ h => h) rfl d_Reckoner_greatestInFrame_19 ?_
        refine lv_iload_n hx hb d_Reckoner_greatestInFrame_22 rfl (lv_at hl 2 rfl) ?_
        refine lv_aload_n hx hb d_Reckoner_greatestInFrame_23 rfl (lv_at hl 0 rfl) ?_
        refine va_get (C := R_Reckoner) (T := F_Reckoner) (N := 8) hx hb hts (fun w h => List.mem_cons_of_mem _ (hin_Reckoner w h)) hown hK hP 0 rfl rfl 1 (by decide) (hts _ (List.mem_cons_of_mem _ fl_Reckoner_15)) (fun _ h => h) rfl d_Reckoner_greatestInFrame_24 ?_
        refine va_get (C := R_Window) (T := F_Window) (N := 10) hx hb hts (fun w h => List.mem_cons_of_mem _ (hin_Window w h)) hown hK hP 1 rfl rfl 2 (by decide) (hts _ (List.mem_cons_of_mem _ fl_Reckoner_109)) (fun _ h => h) rfl d_Reckoner_greatestInFrame_27 ?_
        have hPc := hP.sub (ws' := [(r, .inr (0, [.int (nI k), .ref v, .ref a, .ref b, .int (nI n)])), (v, .inl (cL, nv, .inr (.inl f))), (a, .inl (cI, ns, .inl (zN g))), (b, .inl (cI, ns, .inl (zN h)))]) [2, 3, 4, 5] rfl
        refine zk_rl (va_runV (As := [.int (nI (fs + t)), .int (nI wa)]) (rest := [.long (grtF (fun z => f (g z * k + wa)) fs t)]) ⟨hx, hb, hml, hown, hts⟩ (c_Rows_at l D cI cL cZ cW cR r v a b k n nv ns f g h (fs + t) wa (by omega) hns (by have := hg (fs + t) (by omega); omega) hnv) (cwV 2 hts (zk_gV (fun _ h => List.mem_cons_of_mem _ h) ml_Reckoner_60 im_Rows_at se_Rows_at in_Rows co_Rows_at) rfl rfl rfl ⟨rfl, hd_Rows_at⟩ ⟨Nat.le_of_ble_eq_true rfl, Nat.le_of_ble_eq_true rfl⟩) (zk_vr (q0 := 0) hN hK hPc rfl rfl) rfl rfl hl.1 rfl (lv_room (Nat.le_of_ble_eq_true rfl)) d_Reckoner_greatestInFrame_30 ⟨Nat.zero_le _, Nat.zero_le _⟩) ?_
        refine va_mmax_long hx hb (hml.trans hl.1.symm) hown (hts _ (List.mem_cons_of_mem _ ml_Reckoner_112)) (hts _ (List.mem_cons_of_mem _ sm_Math_maxL)) (hts _ (List.mem_cons_of_mem _ in_Math)) (hts _ (List.mem_cons_of_mem _ co_Math_maxL)) (Nat.le_of_ble_eq_true rfl) (Nat.le_of_ble_eq_true rfl) (Nat.le_of_ble_eq_true rfl) (Nat.le_of_ble_eq_true rfl) d_Reckoner_greatestInFrame_33 ?_
        refine zk_topl (show (if f (g (fs + t) * k + wa) < grtF (fun z => f (g z * k + wa)) fs t then grtF (fun z => f (g z * k + wa)) fs t else f (g (fs + t) * k + wa)) = grtF (fun z => f (g z * k + wa)) fs (t + 1) from rfl) ?_
        refine lv_lstore_n (lv' := [(1, .long (grtF (fun z => f (g z * k + wa)) fs (t + 1))), (0, .ref ro), (3, .int (nI (fs + t)))]) hx hb d_Reckoner_greatestInFrame_36 rfl hl (by decide) rfl (fun ls hl => ?_)
        refine lv_iinc (k := 2) (v := nI (fs + t + 1)) (lv' := [(3, .int (nI (fs + t + 1))), (1, .long (grtF (fun z => f (g z * k + wa)) fs (t + 1))), (0, .ref ro)]) hx hb d_Reckoner_greatestInFrame_37 hl rfl (nI_add (fs + t) 1) (by decide) rfl (fun ls hl => ?_)
        refine lv_goto (tgt := 9) hx hb d_Reckoner_greatestInFrame_40 rfl ?_
        exact ih9 (t + 1) (by omega) (by omega) ls (lv_sub hl [2, 1, 0] rfl)
  exact lb9 _ 0 (by omega) (Nat.lt_succ_self _) ls (lv_sub hl [2, 1, 0] rfl)
