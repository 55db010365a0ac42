/-! counting a join by hashing -/
def hsh (x : Int32) : Int32 := (x ^^^ (x.toUInt32 >>> ((nI 16).toUInt32 &&& Int32.toUInt32 31)).toInt32) * 73244475
def prt (pt : Nat) (x : Int32) (lv : Nat) : Nat := ((hsh x).toBitVec.toNat / 2 ^ (3 + 7 * lv)) % pt
def gOf (pt : Nat) (x : Int32) : Nat → Nat
  | 0 => 0
  | lv + 1 => gOf pt x lv * pt + prt pt x lv
theorem zk_sh : ∀ n, n < 32 → (((nI n).toUInt32 &&& Int32.toUInt32 31).toBitVec % 32).toNat = n := by decide +kernel
theorem zk_ofTn {z : Int32} {n : Nat} (h : z.toBitVec.toNat = n) : z = nI n := by
  apply Int32.toBitVec_inj.mp
  apply BitVec.eq_of_toNat_eq
  subst h
  show _ = (BitVec.ofNat 32 z.toBitVec.toNat).toNat
  rw [BitVec.toNat_ofNat, Nat.mod_eq_of_lt z.toBitVec.isLt]
theorem zk_hs {x : Int32} {lv : Nat} (h : lv < 4) : ((hsh x).toUInt32 >>> ((nI (3 + 7 * lv)).toUInt32 &&& Int32.toUInt32 31)).toInt32 = nI ((hsh x).toBitVec.toNat / 2 ^ (3 + 7 * lv)) := zk_ofTn (pk_ushr _ _ _ (zk_sh _ (by omega)))
theorem zk_hl {x : Int32} {lv : Nat} : (hsh x).toBitVec.toNat / 2 ^ (3 + 7 * lv) < 2147483648 := by
  refine Nat.div_lt_of_lt_mul ?_
  have h1 : 2 ^ 3 ≤ 2 ^ (3 + 7 * lv) := Nat.pow_le_pow_right (by decide) (by omega)
  have h2 := (hsh x).toBitVec.isLt
  omega
theorem prt_lt {pt : Nat} {x : Int32} {lv : Nat} (h : 0 < pt) : prt pt x lv < pt := Nat.mod_lt _ h
theorem gOf_lt {pt : Nat} {x : Int32} (h : 0 < pt) (h2 : pt ≤ 7) : ∀ lv, lv ≤ 2 → gOf pt x lv < 1000 := by
  intro lv hl
  match lv, hl with
  | 0, _ => exact Nat.zero_lt_succ _
  | 1, _ =>
    show 0 * pt + prt pt x 0 < 1000
    have := prt_lt (x := x) (lv := 0) h
    omega
  | 2, _ =>
    show (0 * pt + prt pt x 0) * pt + prt pt x 1 < 1000
    have h3 := prt_lt (x := x) (lv := 0) h
    have h4 := prt_lt (x := x) (lv := 1) h
    have h5 : (0 * pt + prt pt x 0) * pt ≤ 7 * 7 := Nat.mul_le_mul (by omega) h2
    omega
def cntB (P : Nat → Bool) : Nat → Nat
  | 0 => 0
  | n + 1 => cntB P n + (if P n = true then 1 else 0)
theorem cntB_le (P : Nat → Bool) : ∀ n, cntB P n ≤ n := by
  intro n
  induction n with
  | zero => exact Nat.le_refl _
  | succ n ih =>
    show cntB P n + (if P n = true then 1 else 0) ≤ n + 1
    by_cases h : P n = true
    · rw [if_pos h]; omega
    · rw [if_neg h]; omega
/-- is a value in the group of the level -/
def inG (pt lv gr : Nat) (x : Int64) : Bool := decide (x ≠ -1099511627776 ∧ gOf pt x.toInt32 lv = gr)
def bk (n : Nat) : Nat := (n + 3) / 4
def stp (x : Nat × Nat) (b h : Nat) : Nat × Nat := (x.1 + b, max x.2 h)
def itr {α : Type} (F : Nat → α → α) : Nat → α → α
  | 0, x => x
  | n + 1, x => F n (itr F n x)
/-- the last level's group -/
def mG2 (fr lr rr : Nat) (x : Nat × Nat) : Nat × Nat := if lr = 0 ∨ rr = 0 then x else if bk rr ≤ fr - 2 then stp x (bk rr + bk lr) (bk rr + 2) else stp x (bk rr + bk lr * ((bk rr + (fr - 2) - 1) / (fr - 2))) fr
/-- a group of a level above: its parts by sub -/
def mGs (fr : Nat) (sub : Nat → Nat × Nat → Nat × Nat) (gr lr rr : Nat) (x : Nat × Nat) : Nat × Nat := if lr = 0 ∨ rr = 0 then x else if bk rr ≤ fr - 2 then stp x (bk rr + bk lr) (bk rr + 2) else itr (fun i y => sub (gr * (fr - 1) + i) y) (fr - 1) (stp x (bk lr + bk rr) fr)
def mP (fr : Nat) (cl cr : Nat → Nat) (G : Nat → Nat → Nat → Nat × Nat → Nat × Nat) (gr : Nat) (x : Nat × Nat) : Nat × Nat := G gr (cl gr) (cr gr) (stp x (bk (cl gr) + bk (cr gr)) fr)
/-- how many rows of a list are in a group -/
def cG (f : Nat → Int64) (g : Nat → Nat) (k c pt n lv gr : Nat) : Nat := cntB (fun i => inG pt lv gr (f (g i * k + c))) n
theorem stp_lt {x : Nat × Nat} {b h : Nat} (h1 : x.2 < 500) (h2 : h < 500) : (stp x b h).2 < 500 := Nat.max_lt.mpr ⟨h1, h2⟩
theorem mG2_lt {fr lr rr : Nat} {x : Nat × Nat} (hf : fr ≤ 8) (h : x.2 < 500) : (mG2 fr lr rr x).2 < 500 := by
  unfold mG2
  by_cases h1 : lr = 0 ∨ rr = 0
  · rw [if_pos h1]; exact h
  · rw [if_neg h1]
    by_cases h2 : bk rr ≤ fr - 2
    · rw [if_pos h2]; exact stp_lt h (by omega)
    · rw [if_neg h2]; exact stp_lt h (by omega)
theorem itr_lt {F : Nat → Nat × Nat → Nat × Nat} (hF : ∀ i y, y.2 < 500 → (F i y).2 < 500) : ∀ n (x : Nat × Nat), x.2 < 500 → (itr F n x).2 < 500 := by
  intro n
  induction n with
  | zero => intro x h; exact h
  | succ n ih => intro x h; exact hF n _ (ih x h)
theorem mGs_lt {fr : Nat} {sub : Nat → Nat × Nat → Nat × Nat} {gr lr rr : Nat} {x : Nat × Nat} (hf : fr ≤ 8) (hs : ∀ g y, y.2 < 500 → (sub g y).2 < 500) (h : x.2 < 500) : (mGs fr sub gr lr rr x).2 < 500 := by
  unfold mGs
  by_cases h1 : lr = 0 ∨ rr = 0
  · rw [if_pos h1]; exact h
  · rw [if_neg h1]
    by_cases h2 : bk rr ≤ fr - 2
    · rw [if_pos h2]; exact stp_lt h (by omega)
    · rw [if_neg h2]; exact itr_lt (fun i y hy => hs _ y hy) _ _ (stp_lt h (by omega))

theorem cg_no {P : Nat → Bool} {t : Nat} (h : P t = false) : cntB P t = cntB P (t + 1) := by
  show _ = cntB P t + (if P t = true then 1 else 0)
  rw [h]; rfl
theorem cg_yes {P : Nat → Bool} {t : Nat} (h : P t = true) : cntB P t + 1 = cntB P (t + 1) := by
  show _ = cntB P t + (if P t = true then 1 else 0)
  rw [h]; rfl
abbrev rm2_70 : Room := { frames := 2, cells := 0, slots := 0, locals := 70 }
abbrev rm3_110 : Room := { frames := 3, cells := 0, slots := 0, locals := 110 }
abbrev rm5_190 : Room := { frames := 5, cells := 0, slots := 0, locals := 190 }
abbrev rm6_240 : Room := { frames := 6, cells := 0, slots := 0, locals := 240 }
abbrev rm8_320 : Room := { frames := 8, cells := 0, slots := 0, locals := 320 }
abbrev rm9_360 : Room := { frames := 9, cells := 0, slots := 0, locals := 360 }
theorem d_Matcher_init_0 : decode b_Matcher_init 0 = .ok (.aload_n 0, 1) := by decide +kernel
theorem d_Matcher_init_1 : decode b_Matcher_init 1 = .ok (.invokespecial 3, 3) := by decide +kernel
theorem d_Matcher_init_4 : decode b_Matcher_init 4 = .ok (.aload_n 0, 1) := by decide +kernel
theorem d_Matcher_init_5 : decode b_Matcher_init 5 = .ok (.aload_n 1, 1) := by decide +kernel
theorem d_Matcher_init_6 : decode b_Matcher_init 6 = .ok (.putfield 9, 3) := by decide +kernel
theorem d_Matcher_init_9 : decode b_Matcher_init 9 = .ok (.aload_n 0, 1) := by decide +kernel
theorem d_Matcher_init_10 : decode b_Matcher_init 10 = .ok (.aload_n 2, 1) := by decide +kernel
theorem d_Matcher_init_11 : decode b_Matcher_init 11 = .ok (.putfield 15, 3) := by decide +kernel
theorem d_Matcher_init_14 : decode b_Matcher_init 14 = .ok (.aload_n 0, 1) := by decide +kernel
theorem d_Matcher_init_15 : decode b_Matcher_init 15 = .ok (.aload_n 3, 1) := by decide +kernel
theorem d_Matcher_init_16 : decode b_Matcher_init 16 = .ok (.putfield 19, 3) := by decide +kernel
theorem d_Matcher_init_19 : decode b_Matcher_init 19 = .ok (.aload_n 0, 1) := by decide +kernel
theorem d_Matcher_init_20 : decode b_Matcher_init 20 = .ok (.aload_n 1, 1) := by decide +kernel
theorem d_Matcher_init_21 : decode b_Matcher_init 21 = .ok (.getfield 22, 3) := by decide +kernel
theorem d_Matcher_init_24 : decode b_Matcher_init 24 = .ok (.iconst 1, 1) := by decide +kernel
theorem d_Matcher_init_25 : decode b_Matcher_init 25 = .ok (.isub, 1) := by decide +kernel
theorem d_Matcher_init_26 : decode b_Matcher_init 26 = .ok (.putfield 28, 3) := by decide +kernel
theorem d_Matcher_init_29 : decode b_Matcher_init 29 = .ok (.return_, 1) := by decide +kernel
theorem d_Matcher_matchAll_0 : decode b_Matcher_matchAll 0 = .ok (.aload_n 0, 1) := by decide +kernel
theorem d_Matcher_matchAll_1 : decode b_Matcher_matchAll 1 = .ok (.iload_n 1, 1) := by decide +kernel
theorem d_Matcher_matchAll_2 : decode b_Matcher_matchAll 2 = .ok (.putfield 31, 3) := by decide +kernel
theorem d_Matcher_matchAll_5 : decode b_Matcher_matchAll 5 = .ok (.aload_n 0, 1) := by decide +kernel
theorem d_Matcher_matchAll_6 : decode b_Matcher_matchAll 6 = .ok (.iload_n 2, 1) := by decide +kernel
theorem d_Matcher_matchAll_7 : decode b_Matcher_matchAll 7 = .ok (.putfield 34, 3) := by decide +kernel
theorem d_Matcher_matchAll_10 : decode b_Matcher_matchAll 10 = .ok (.aload_n 0, 1) := by decide +kernel
theorem d_Matcher_matchAll_11 : decode b_Matcher_matchAll 11 = .ok (.iconst 0, 1) := by decide +kernel
theorem d_Matcher_matchAll_12 : decode b_Matcher_matchAll 12 = .ok (.iconst 0, 1) := by decide +kernel
theorem d_Matcher_matchAll_13 : decode b_Matcher_matchAll 13 = .ok (.aload_n 0, 1) := by decide +kernel
theorem d_Matcher_matchAll_14 : decode b_Matcher_matchAll 14 = .ok (.getfield 15, 3) := by decide +kernel
theorem d_Matcher_matchAll_17 : decode b_Matcher_matchAll 17 = .ok (.getfield 37, 3) := by decide +kernel
theorem d_Matcher_matchAll_20 : decode b_Matcher_matchAll 20 = .ok (.aload_n 0, 1) := by decide +kernel
theorem d_Matcher_matchAll_21 : decode b_Matcher_matchAll 21 = .ok (.getfield 19, 3) := by decide +kernel
theorem d_Matcher_matchAll_24 : decode b_Matcher_matchAll 24 = .ok (.getfield 37, 3) := by decide +kernel
theorem d_Matcher_matchAll_27 : decode b_Matcher_matchAll 27 = .ok (.invokevirtual 42, 3) := by decide +kernel
theorem d_Matcher_matchAll_30 : decode b_Matcher_matchAll 30 = .ok (.return_, 1) := by decide +kernel
theorem d_Matcher_matchGroup_0 : decode b_Matcher_matchGroup 0 = .ok (.iload_n 3, 1) := by decide +kernel
theorem d_Matcher_matchGroup_1 : decode b_Matcher_matchGroup 1 = .ok (.ifCond .eq 8, 3) := by decide +kernel
theorem d_Matcher_matchGroup_4 : decode b_Matcher_matchGroup 4 = .ok (.iload 4, 2) := by decide +kernel
theorem d_Matcher_matchGroup_6 : decode b_Matcher_matchGroup 6 = .ok (.ifCond .ne 4, 3) := by decide +kernel
theorem d_Matcher_matchGroup_9 : decode b_Matcher_matchGroup 9 = .ok (.return_, 1) := by decide +kernel
theorem d_Matcher_matchGroup_10 : decode b_Matcher_matchGroup 10 = .ok (.iload_n 3, 1) := by decide +kernel
theorem d_Matcher_matchGroup_11 : decode b_Matcher_matchGroup 11 = .ok (.invokestatic 46, 3) := by decide +kernel
theorem d_Matcher_matchGroup_14 : decode b_Matcher_matchGroup 14 = .ok (.istore 5, 2) := by decide +kernel
theorem d_Matcher_matchGroup_16 : decode b_Matcher_matchGroup 16 = .ok (.iload 4, 2) := by decide +kernel
theorem d_Matcher_matchGroup_18 : decode b_Matcher_matchGroup 18 = .ok (.invokestatic 46, 3) := by decide +kernel
theorem d_Matcher_matchGroup_21 : decode b_Matcher_matchGroup 21 = .ok (.istore 6, 2) := by decide +kernel
theorem d_Matcher_matchGroup_23 : decode b_Matcher_matchGroup 23 = .ok (.aload_n 0, 1) := by decide +kernel
theorem d_Matcher_matchGroup_24 : decode b_Matcher_matchGroup 24 = .ok (.getfield 9, 3) := by decide +kernel
theorem d_Matcher_matchGroup_27 : decode b_Matcher_matchGroup 27 = .ok (.getfield 22, 3) := by decide +kernel
theorem d_Matcher_matchGroup_30 : decode b_Matcher_matchGroup 30 = .ok (.iconst 2, 1) := by decide +kernel
theorem d_Matcher_matchGroup_31 : decode b_Matcher_matchGroup 31 = .ok (.isub, 1) := by decide +kernel
theorem d_Matcher_matchGroup_32 : decode b_Matcher_matchGroup 32 = .ok (.istore 7, 2) := by decide +kernel
theorem d_Matcher_matchGroup_34 : decode b_Matcher_matchGroup 34 = .ok (.iload 6, 2) := by decide +kernel
theorem d_Matcher_matchGroup_36 : decode b_Matcher_matchGroup 36 = .ok (.iload 7, 2) := by decide +kernel
theorem d_Matcher_matchGroup_38 : decode b_Matcher_matchGroup 38 = .ok (.if_icmp .gt 22, 3) := by decide +kernel
theorem d_Matcher_matchGroup_41 : decode b_Matcher_matchGroup 41 = .ok (.aload_n 0, 1) := by decide +kernel
theorem d_Matcher_matchGroup_42 : decode b_Matcher_matchGroup 42 = .ok (.getfield 9, 3) := by decide +kernel
theorem d_Matcher_matchGroup_45 : decode b_Matcher_matchGroup 45 = .ok (.iload 6, 2) := by decide +kernel
theorem d_Matcher_matchGroup_47 : decode b_Matcher_matchGroup 47 = .ok (.iload 5, 2) := by decide +kernel
theorem d_Matcher_matchGroup_49 : decode b_Matcher_matchGroup 49 = .ok (.iadd, 1) := by decide +kernel
theorem d_Matcher_matchGroup_50 : decode b_Matcher_matchGroup 50 = .ok (.iload 6, 2) := by decide +kernel
theorem d_Matcher_matchGroup_52 : decode b_Matcher_matchGroup 52 = .ok (.iconst 2, 1) := by decide +kernel
theorem d_Matcher_matchGroup_53 : decode b_Matcher_matchGroup 53 = .ok (.iadd, 1) := by decide +kernel
theorem d_Matcher_matchGroup_54 : decode b_Matcher_matchGroup 54 = .ok (.invokevirtual 50, 3) := by decide +kernel
theorem d_Matcher_matchGroup_57 : decode b_Matcher_matchGroup 57 = .ok (.goto 91, 3) := by decide +kernel
theorem d_Matcher_matchGroup_60 : decode b_Matcher_matchGroup 60 = .ok (.iload_n 1, 1) := by decide +kernel
theorem d_Matcher_matchGroup_61 : decode b_Matcher_matchGroup 61 = .ok (.iconst 2, 1) := by decide +kernel
theorem d_Matcher_matchGroup_62 : decode b_Matcher_matchGroup 62 = .ok (.if_icmp .lt 33, 3) := by decide +kernel
theorem d_Matcher_matchGroup_65 : decode b_Matcher_matchGroup 65 = .ok (.aload_n 0, 1) := by decide +kernel
theorem d_Matcher_matchGroup_66 : decode b_Matcher_matchGroup 66 = .ok (.getfield 9, 3) := by decide +kernel
theorem d_Matcher_matchGroup_69 : decode b_Matcher_matchGroup 69 = .ok (.iload 6, 2) := by decide +kernel
theorem d_Matcher_matchGroup_71 : decode b_Matcher_matchGroup 71 = .ok (.iload 5, 2) := by decide +kernel
theorem d_Matcher_matchGroup_73 : decode b_Matcher_matchGroup 73 = .ok (.iload 6, 2) := by decide +kernel
theorem d_Matcher_matchGroup_75 : decode b_Matcher_matchGroup 75 = .ok (.iload 7, 2) := by decide +kernel
theorem d_Matcher_matchGroup_77 : decode b_Matcher_matchGroup 77 = .ok (.invokestatic 54, 3) := by decide +kernel
theorem d_Matcher_matchGroup_80 : decode b_Matcher_matchGroup 80 = .ok (.imul, 1) := by decide +kernel
theorem d_Matcher_matchGroup_81 : decode b_Matcher_matchGroup 81 = .ok (.iadd, 1) := by decide +kernel
theorem d_Matcher_matchGroup_82 : decode b_Matcher_matchGroup 82 = .ok (.aload_n 0, 1) := by decide +kernel
theorem d_Matcher_matchGroup_83 : decode b_Matcher_matchGroup 83 = .ok (.getfield 9, 3) := by decide +kernel
theorem d_Matcher_matchGroup_86 : decode b_Matcher_matchGroup 86 = .ok (.getfield 22, 3) := by decide +kernel
theorem d_Matcher_matchGroup_89 : decode b_Matcher_matchGroup 89 = .ok (.invokevirtual 50, 3) := by decide +kernel
theorem d_Matcher_matchGroup_92 : decode b_Matcher_matchGroup 92 = .ok (.goto 56, 3) := by decide +kernel
theorem d_Matcher_matchGroup_95 : decode b_Matcher_matchGroup 95 = .ok (.aload_n 0, 1) := by decide +kernel
theorem d_Matcher_matchGroup_96 : decode b_Matcher_matchGroup 96 = .ok (.getfield 9, 3) := by decide +kernel
theorem d_Matcher_matchGroup_99 : decode b_Matcher_matchGroup 99 = .ok (.iload 5, 2) := by decide +kernel
theorem d_Matcher_matchGroup_101 : decode b_Matcher_matchGroup 101 = .ok (.iload 6, 2) := by decide +kernel
theorem d_Matcher_matchGroup_103 : decode b_Matcher_matchGroup 103 = .ok (.iadd, 1) := by decide +kernel
theorem d_Matcher_matchGroup_104 : decode b_Matcher_matchGroup 104 = .ok (.aload_n 0, 1) := by decide +kernel
theorem d_Matcher_matchGroup_105 : decode b_Matcher_matchGroup 105 = .ok (.getfield 9, 3) := by decide +kernel
theorem d_Matcher_matchGroup_108 : decode b_Matcher_matchGroup 108 = .ok (.getfield 22, 3) := by decide +kernel
theorem d_Matcher_matchGroup_111 : decode b_Matcher_matchGroup 111 = .ok (.invokevirtual 50, 3) := by decide +kernel
theorem d_Matcher_matchGroup_114 : decode b_Matcher_matchGroup 114 = .ok (.iconst 0, 1) := by decide +kernel
theorem d_Matcher_matchGroup_115 : decode b_Matcher_matchGroup 115 = .ok (.istore 8, 2) := by decide +kernel
theorem d_Matcher_matchGroup_117 : decode b_Matcher_matchGroup 117 = .ok (.iload 8, 2) := by decide +kernel
theorem d_Matcher_matchGroup_119 : decode b_Matcher_matchGroup 119 = .ok (.aload_n 0, 1) := by decide +kernel
theorem d_Matcher_matchGroup_120 : decode b_Matcher_matchGroup 120 = .ok (.getfield 28, 3) := by decide +kernel
theorem d_Matcher_matchGroup_123 : decode b_Matcher_matchGroup 123 = .ok (.if_icmp .ge 25, 3) := by decide +kernel
theorem d_Matcher_matchGroup_126 : decode b_Matcher_matchGroup 126 = .ok (.aload_n 0, 1) := by decide +kernel
theorem d_Matcher_matchGroup_127 : decode b_Matcher_matchGroup 127 = .ok (.iload_n 1, 1) := by decide +kernel
theorem d_Matcher_matchGroup_128 : decode b_Matcher_matchGroup 128 = .ok (.iconst 1, 1) := by decide +kernel
theorem d_Matcher_matchGroup_129 : decode b_Matcher_matchGroup 129 = .ok (.iadd, 1) := by decide +kernel
theorem d_Matcher_matchGroup_130 : decode b_Matcher_matchGroup 130 = .ok (.iload_n 2, 1) := by decide +kernel
theorem d_Matcher_matchGroup_131 : decode b_Matcher_matchGroup 131 = .ok (.aload_n 0, 1) := by decide +kernel
theorem d_Matcher_matchGroup_132 : decode b_Matcher_matchGroup 132 = .ok (.getfield 28, 3) := by decide +kernel
theorem d_Matcher_matchGroup_135 : decode b_Matcher_matchGroup 135 = .ok (.imul, 1) := by decide +kernel
theorem d_Matcher_matchGroup_136 : decode b_Matcher_matchGroup 136 = .ok (.iload 8, 2) := by decide +kernel
theorem d_Matcher_matchGroup_138 : decode b_Matcher_matchGroup 138 = .ok (.iadd, 1) := by decide +kernel
theorem d_Matcher_matchGroup_139 : decode b_Matcher_matchGroup 139 = .ok (.invokevirtual 58, 3) := by decide +kernel
theorem d_Matcher_matchGroup_142 : decode b_Matcher_matchGroup 142 = .ok (.iinc 8 1, 3) := by decide +kernel
theorem d_Matcher_matchGroup_145 : decode b_Matcher_matchGroup 145 = .ok (.goto (-28), 3) := by decide +kernel
theorem d_Matcher_matchGroup_148 : decode b_Matcher_matchGroup 148 = .ok (.return_, 1) := by decide +kernel
theorem d_Matcher_matchPart_0 : decode b_Matcher_matchPart 0 = .ok (.aload_n 0, 1) := by decide +kernel
theorem d_Matcher_matchPart_1 : decode b_Matcher_matchPart 1 = .ok (.aload_n 0, 1) := by decide +kernel
theorem d_Matcher_matchPart_2 : decode b_Matcher_matchPart 2 = .ok (.getfield 15, 3) := by decide +kernel
theorem d_Matcher_matchPart_5 : decode b_Matcher_matchPart 5 = .ok (.aload_n 0, 1) := by decide +kernel
theorem d_Matcher_matchPart_6 : decode b_Matcher_matchPart 6 = .ok (.getfield 31, 3) := by decide +kernel
theorem d_Matcher_matchPart_9 : decode b_Matcher_matchPart 9 = .ok (.iload_n 1, 1) := by decide +kernel
theorem d_Matcher_matchPart_10 : decode b_Matcher_matchPart 10 = .ok (.iload_n 2, 1) := by decide +kernel
theorem d_Matcher_matchPart_11 : decode b_Matcher_matchPart 11 = .ok (.invokevirtual 61, 3) := by decide +kernel
theorem d_Matcher_matchPart_14 : decode b_Matcher_matchPart 14 = .ok (.istore_n 3, 1) := by decide +kernel
theorem d_Matcher_matchPart_15 : decode b_Matcher_matchPart 15 = .ok (.aload_n 0, 1) := by decide +kernel
theorem d_Matcher_matchPart_16 : decode b_Matcher_matchPart 16 = .ok (.aload_n 0, 1) := by decide +kernel
theorem d_Matcher_matchPart_17 : decode b_Matcher_matchPart 17 = .ok (.getfield 19, 3) := by decide +kernel
theorem d_Matcher_matchPart_20 : decode b_Matcher_matchPart 20 = .ok (.aload_n 0, 1) := by decide +kernel
theorem d_Matcher_matchPart_21 : decode b_Matcher_matchPart 21 = .ok (.getfield 34, 3) := by decide +kernel
theorem d_Matcher_matchPart_24 : decode b_Matcher_matchPart 24 = .ok (.iload_n 1, 1) := by decide +kernel
theorem d_Matcher_matchPart_25 : decode b_Matcher_matchPart 25 = .ok (.iload_n 2, 1) := by decide +kernel
theorem d_Matcher_matchPart_26 : decode b_Matcher_matchPart 26 = .ok (.invokevirtual 61, 3) := by decide +kernel
theorem d_Matcher_matchPart_29 : decode b_Matcher_matchPart 29 = .ok (.istore 4, 2) := by decide +kernel
theorem d_Matcher_matchPart_31 : decode b_Matcher_matchPart 31 = .ok (.aload_n 0, 1) := by decide +kernel
theorem d_Matcher_matchPart_32 : decode b_Matcher_matchPart 32 = .ok (.getfield 9, 3) := by decide +kernel
theorem d_Matcher_matchPart_35 : decode b_Matcher_matchPart 35 = .ok (.iload_n 3, 1) := by decide +kernel
theorem d_Matcher_matchPart_36 : decode b_Matcher_matchPart 36 = .ok (.invokestatic 46, 3) := by decide +kernel
theorem d_Matcher_matchPart_39 : decode b_Matcher_matchPart 39 = .ok (.iload 4, 2) := by decide +kernel
theorem d_Matcher_matchPart_41 : decode b_Matcher_matchPart 41 = .ok (.invokestatic 46, 3) := by decide +kernel
theorem d_Matcher_matchPart_44 : decode b_Matcher_matchPart 44 = .ok (.iadd, 1) := by decide +kernel
theorem d_Matcher_matchPart_45 : decode b_Matcher_matchPart 45 = .ok (.aload_n 0, 1) := by decide +kernel
theorem d_Matcher_matchPart_46 : decode b_Matcher_matchPart 46 = .ok (.getfield 9, 3) := by decide +kernel
theorem d_Matcher_matchPart_49 : decode b_Matcher_matchPart 49 = .ok (.getfield 22, 3) := by decide +kernel
theorem d_Matcher_matchPart_52 : decode b_Matcher_matchPart 52 = .ok (.invokevirtual 50, 3) := by decide +kernel
theorem d_Matcher_matchPart_55 : decode b_Matcher_matchPart 55 = .ok (.aload_n 0, 1) := by decide +kernel
theorem d_Matcher_matchPart_56 : decode b_Matcher_matchPart 56 = .ok (.iload_n 1, 1) := by decide +kernel
theorem d_Matcher_matchPart_57 : decode b_Matcher_matchPart 57 = .ok (.iload_n 2, 1) := by decide +kernel
theorem d_Matcher_matchPart_58 : decode b_Matcher_matchPart 58 = .ok (.iload_n 3, 1) := by decide +kernel
theorem d_Matcher_matchPart_59 : decode b_Matcher_matchPart 59 = .ok (.iload 4, 2) := by decide +kernel
theorem d_Matcher_matchPart_61 : decode b_Matcher_matchPart 61 = .ok (.invokevirtual 42, 3) := by decide +kernel
theorem d_Matcher_matchPart_64 : decode b_Matcher_matchPart 64 = .ok (.return_, 1) := by decide +kernel
theorem d_Matcher_rowsInGroup_0 : decode b_Matcher_rowsInGroup 0 = .ok (.iconst 0, 1) := by decide +kernel
theorem d_Matcher_rowsInGroup_1 : decode b_Matcher_rowsInGroup 1 = .ok (.istore 5, 2) := by decide +kernel
theorem d_Matcher_rowsInGroup_3 : decode b_Matcher_rowsInGroup 3 = .ok (.iconst 0, 1) := by decide +kernel
theorem d_Matcher_rowsInGroup_4 : decode b_Matcher_rowsInGroup 4 = .ok (.istore 6, 2) := by decide +kernel
theorem d_Matcher_rowsInGroup_6 : decode b_Matcher_rowsInGroup 6 = .ok (.iload 6, 2) := by decide +kernel
theorem d_Matcher_rowsInGroup_8 : decode b_Matcher_rowsInGroup 8 = .ok (.aload_n 1, 1) := by decide +kernel
theorem d_Matcher_rowsInGroup_9 : decode b_Matcher_rowsInGroup 9 = .ok (.getfield 37, 3) := by decide +kernel
theorem d_Matcher_rowsInGroup_12 : decode b_Matcher_rowsInGroup 12 = .ok (.if_icmp .ge 43, 3) := by decide +kernel
theorem d_Matcher_rowsInGroup_15 : decode b_Matcher_rowsInGroup 15 = .ok (.aload_n 1, 1) := by decide +kernel
theorem d_Matcher_rowsInGroup_16 : decode b_Matcher_rowsInGroup 16 = .ok (.iload 6, 2) := by decide +kernel
theorem d_Matcher_rowsInGroup_18 : decode b_Matcher_rowsInGroup 18 = .ok (.iload_n 2, 1) := by decide +kernel
theorem d_Matcher_rowsInGroup_19 : decode b_Matcher_rowsInGroup 19 = .ok (.invokevirtual 65, 3) := by decide +kernel
theorem d_Matcher_rowsInGroup_22 : decode b_Matcher_rowsInGroup 22 = .ok (.lstore 7, 2) := by decide +kernel
theorem d_Matcher_rowsInGroup_24 : decode b_Matcher_rowsInGroup 24 = .ok (.lload 7, 2) := by decide +kernel
theorem d_Matcher_rowsInGroup_26 : decode b_Matcher_rowsInGroup 26 = .ok (.ldc2_w 69, 3) := by decide +kernel
theorem d_Matcher_rowsInGroup_29 : decode b_Matcher_rowsInGroup 29 = .ok (.lcmp, 1) := by decide +kernel
theorem d_Matcher_rowsInGroup_30 : decode b_Matcher_rowsInGroup 30 = .ok (.ifCond .eq 19, 3) := by decide +kernel
theorem d_Matcher_rowsInGroup_33 : decode b_Matcher_rowsInGroup 33 = .ok (.aload_n 0, 1) := by decide +kernel
theorem d_Matcher_rowsInGroup_34 : decode b_Matcher_rowsInGroup 34 = .ok (.lload 7, 2) := by decide +kernel
theorem d_Matcher_rowsInGroup_36 : decode b_Matcher_rowsInGroup 36 = .ok (.l2i, 1) := by decide +kernel
theorem d_Matcher_rowsInGroup_37 : decode b_Matcher_rowsInGroup 37 = .ok (.iload_n 3, 1) := by decide +kernel
theorem d_Matcher_rowsInGroup_38 : decode b_Matcher_rowsInGroup 38 = .ok (.invokevirtual 71, 3) := by decide +kernel
theorem d_Matcher_rowsInGroup_41 : decode b_Matcher_rowsInGroup 41 = .ok (.iload 4, 2) := by decide +kernel
theorem d_Matcher_rowsInGroup_43 : decode b_Matcher_rowsInGroup 43 = .ok (.if_icmp .ne 6, 3) := by decide +kernel
theorem d_Matcher_rowsInGroup_46 : decode b_Matcher_rowsInGroup 46 = .ok (.iinc 5 1, 3) := by decide +kernel
theorem d_Matcher_rowsInGroup_49 : decode b_Matcher_rowsInGroup 49 = .ok (.iinc 6 1, 3) := by decide +kernel
theorem d_Matcher_rowsInGroup_52 : decode b_Matcher_rowsInGroup 52 = .ok (.goto (-46), 3) := by decide +kernel
theorem d_Matcher_rowsInGroup_55 : decode b_Matcher_rowsInGroup 55 = .ok (.iload 5, 2) := by decide +kernel
theorem d_Matcher_rowsInGroup_57 : decode b_Matcher_rowsInGroup 57 = .ok (.ireturn, 1) := by decide +kernel
theorem d_Matcher_groupOf_0 : decode b_Matcher_groupOf 0 = .ok (.iload_n 1, 1) := by decide +kernel
theorem d_Matcher_groupOf_1 : decode b_Matcher_groupOf 1 = .ok (.iload_n 1, 1) := by decide +kernel
theorem d_Matcher_groupOf_2 : decode b_Matcher_groupOf 2 = .ok (.bipush 16, 2) := by decide +kernel
theorem d_Matcher_groupOf_4 : decode b_Matcher_groupOf 4 = .ok (.iushr, 1) := by decide +kernel
theorem d_Matcher_groupOf_5 : decode b_Matcher_groupOf 5 = .ok (.ixor, 1) := by decide +kernel
theorem d_Matcher_groupOf_6 : decode b_Matcher_groupOf 6 = .ok (.ldc 74, 2) := by decide +kernel
theorem d_Matcher_groupOf_8 : decode b_Matcher_groupOf 8 = .ok (.imul, 1) := by decide +kernel
theorem d_Matcher_groupOf_9 : decode b_Matcher_groupOf 9 = .ok (.istore_n 3, 1) := by decide +kernel
theorem d_Matcher_groupOf_10 : decode b_Matcher_groupOf 10 = .ok (.iconst 0, 1) := by decide +kernel
theorem d_Matcher_groupOf_11 : decode b_Matcher_groupOf 11 = .ok (.istore 4, 2) := by decide +kernel
theorem d_Matcher_groupOf_13 : decode b_Matcher_groupOf 13 = .ok (.iconst 0, 1) := by decide +kernel
theorem d_Matcher_groupOf_14 : decode b_Matcher_groupOf 14 = .ok (.istore 5, 2) := by decide +kernel
theorem d_Matcher_groupOf_16 : decode b_Matcher_groupOf 16 = .ok (.iload 5, 2) := by decide +kernel
theorem d_Matcher_groupOf_18 : decode b_Matcher_groupOf 18 = .ok (.iload_n 2, 1) := by decide +kernel
theorem d_Matcher_groupOf_19 : decode b_Matcher_groupOf 19 = .ok (.if_icmp .ge 33, 3) := by decide +kernel
theorem d_Matcher_groupOf_22 : decode b_Matcher_groupOf 22 = .ok (.iload 4, 2) := by decide +kernel
theorem d_Matcher_groupOf_24 : decode b_Matcher_groupOf 24 = .ok (.aload_n 0, 1) := by decide +kernel
theorem d_Matcher_groupOf_25 : decode b_Matcher_groupOf 25 = .ok (.getfield 28, 3) := by decide +kernel
theorem d_Matcher_groupOf_28 : decode b_Matcher_groupOf 28 = .ok (.imul, 1) := by decide +kernel
theorem d_Matcher_groupOf_29 : decode b_Matcher_groupOf 29 = .ok (.iload_n 3, 1) := by decide +kernel
theorem d_Matcher_groupOf_30 : decode b_Matcher_groupOf 30 = .ok (.iconst 3, 1) := by decide +kernel
theorem d_Matcher_groupOf_31 : decode b_Matcher_groupOf 31 = .ok (.bipush 7, 2) := by decide +kernel
theorem d_Matcher_groupOf_33 : decode b_Matcher_groupOf 33 = .ok (.iload 5, 2) := by decide +kernel
theorem d_Matcher_groupOf_35 : decode b_Matcher_groupOf 35 = .ok (.imul, 1) := by decide +kernel
theorem d_Matcher_groupOf_36 : decode b_Matcher_groupOf 36 = .ok (.iadd, 1) := by decide +kernel
theorem d_Matcher_groupOf_37 : decode b_Matcher_groupOf 37 = .ok (.iushr, 1) := by decide +kernel
theorem d_Matcher_groupOf_38 : decode b_Matcher_groupOf 38 = .ok (.aload_n 0, 1) := by decide +kernel
theorem d_Matcher_groupOf_39 : decode b_Matcher_groupOf 39 = .ok (.getfield 28, 3) := by decide +kernel
theorem d_Matcher_groupOf_42 : decode b_Matcher_groupOf 42 = .ok (.irem, 1) := by decide +kernel
theorem d_Matcher_groupOf_43 : decode b_Matcher_groupOf 43 = .ok (.iadd, 1) := by decide +kernel
theorem d_Matcher_groupOf_44 : decode b_Matcher_groupOf 44 = .ok (.istore 4, 2) := by decide +kernel
theorem d_Matcher_groupOf_46 : decode b_Matcher_groupOf 46 = .ok (.iinc 5 1, 3) := by decide +kernel
theorem d_Matcher_groupOf_49 : decode b_Matcher_groupOf 49 = .ok (.goto (-33), 3) := by decide +kernel
theorem d_Matcher_groupOf_52 : decode b_Matcher_groupOf 52 = .ok (.iload 4, 2) := by decide +kernel
theorem d_Matcher_groupOf_54 : decode b_Matcher_groupOf 54 = .ok (.ireturn, 1) := by decide +kernel
set_option maxHeartbeats 4000000 in
set_option maxRecDepth 100000 in
theorem c_Matcher_groupOf (l : Launch) (D : va_G) (cI cL cZ cW cR : ClassId) (ma mo r r2 pt lc rc lv : Nat) (x : Int32) (hpt : 0 < pt) (hpt2 : pt ≤ 7) (hlv : lv ≤ 2) : Met l y_Matcher_groupOf ws_Matcher_groupOf rm0_0 (zPr D vwCl (zT cI cL cZ cW cR) [(ma, .inr (5, [.ref mo, .ref r, .ref r2, .int (nI pt), .int (nI lc), .int (nI rc)]))] [.ref ma, .int x, .int (nI lv)]) (zSi (nI (gOf pt x lv))) 0 0 (fun _ => False) := by
  refine zk_enterR (cc := b_Matcher_groupOf) (maxL := 6) (ret := some .int) (by decide) rfl (Nat.le_of_ble_eq_true rfl) ?_
  intro p e s m args below meth c ls Q hx hb hml hr hlk hown hts hP hK hN hl hQ
  have hl : lv_has ls 6 [(0, .ref ma), (1, .int x), (2, .int (nI lv))] := hl
  refine lv_iload_n hx hb d_Matcher_groupOf_0 rfl (lv_at hl 1 rfl) ?_
  refine lv_iload_n hx hb d_Matcher_groupOf_1 rfl (lv_at hl 1 rfl) ?_
  refine lv_bipush (v := nI 16) hx hb d_Matcher_groupOf_2 (by decide) ?_
  refine lv_iushr (v := (x.toUInt32 >>> ((nI 16).toUInt32 &&& Int32.toUInt32 31)).toInt32) hx hb d_Matcher_groupOf_4 (rfl) ?_
  refine lv_ixor hx hb d_Matcher_groupOf_5 ?_
  refine lv_ldc (v := 73244475) hx hb hown (hts _ (List.mem_cons_of_mem _ cst_Matcher_74)) d_Matcher_groupOf_6 ?_
  refine lv_imul hx hb d_Matcher_groupOf_8 ?_
  refine lv_istore_n (lv' := [(3, .int ((x ^^^ ((x.toUInt32 >>> ((nI 16).toUInt32 &&& Int32.toUInt32 31)).toInt32)) * 73244475)), (0, .ref ma), (1, .int x), (2, .int (nI lv))]) hx hb d_Matcher_groupOf_9 rfl hl (by decide) rfl (fun ls hl => ?_)
  refine lv_iconst (v := nI 0) hx hb d_Matcher_groupOf_10 (by decide) ?_
  refine lv_istore (lv' := [(4, .int (nI 0)), (3, .int ((x ^^^ ((x.toUInt32 >>> ((nI 16).toUInt32 &&& Int32.toUInt32 31)).toInt32)) * 73244475)), (0, .ref ma), (1, .int x), (2, .int (nI lv))]) hx hb d_Matcher_groupOf_11 hl (by decide) rfl (fun ls hl => ?_)
  refine lv_iconst (v := nI 0) hx hb d_Matcher_groupOf_13 (by decide) ?_
  refine lv_istore (lv' := [(5, .int (nI 0)), (4, .int (nI 0)), (3, .int ((x ^^^ ((x.toUInt32 >>> ((nI 16).toUInt32 &&& Int32.toUInt32 31)).toInt32)) * 73244475)), (0, .ref ma), (1, .int x), (2, .int (nI lv))]) hx hb d_Matcher_groupOf_14 hl (by decide) rfl (fun ls hl => ?_)
  have lb16 : ∀ (fuel16 : Nat) (t : Nat), (t ≤ lv) → lv - t < fuel16 → ∀ (ls : Array Slot), lv_has ls 6 [(0, .ref ma), (1, .int x), (2, .int (nI lv)), (3, .int (hsh x)), (4, .int (nI (gOf pt x t))), (5, .int (nI t))] → W p l e rm0_0 s m args below meth c s.heap [] 0 0 Q (F0 m 16 ls []) := by
    intro fuel16
    induction fuel16 with
    | zero => intro t ht hfu16; exact absurd hfu16 (Nat.not_lt_zero _)
    | succ fuel16 ih16 =>
      intro t ht hfu16 ls hl
      refine lv_iload hx hb d_Matcher_groupOf_16 (lv_at hl 5 rfl) ?_
      refine lv_iload_n hx hb d_Matcher_groupOf_18 rfl (lv_at hl 2 rfl) ?_
      refine zk_icmp_ge (tgt := 52) hx hb d_Matcher_groupOf_19 rfl (by omega) (by omega) (fun h19 => ?_) (fun h19 => ?_)
      · skip
        obtain rfl : t = lv := by omega
        refine lv_iload hx hb d_Matcher_groupOf_52 (lv_at hl 4 rfl) ?_
        exact zk_iretR hx hb hr hlk hQ (rfl) d_Matcher_groupOf_54
      · skip
        refine lv_iload hx hb d_Matcher_groupOf_22 (lv_at hl 4 rfl) ?_
        refine lv_aload_n hx hb d_Matcher_groupOf_24 rfl (lv_at hl 0 rfl) ?_
        refine va_get (C := R_Matcher) (T := F_Matcher) (N := 6) hx hb hts (fun w h => List.mem_cons_of_mem _ (hin_Matcher w h)) hown hK hP 0 rfl rfl 3 (by decide) (hts _ (List.mem_cons_of_mem _ fl_Matcher_28)) (fun _ h => h) rfl d_Matcher_groupOf_25 ?_
        refine lv_imul hx hb d_Matcher_groupOf_28 ?_
        refine zk_topi (show ((nI (gOf pt x t)) * (nI pt)) = nI ((gOf pt x t) * pt) from pk_mul (gOf pt x t) pt) ?_
        refine lv_iload_n hx hb d_Matcher_groupOf_29 rfl (lv_at hl 3 rfl) ?_
        refine lv_iconst (v := nI 3) hx hb d_Matcher_groupOf_30 (by decide) ?_
        refine lv_bipush (v := nI 7) hx hb d_Matcher_groupOf_31 (by decide) ?_
        refine lv_iload hx hb d_Matcher_groupOf_33 (lv_at hl 5 rfl) ?_
        refine lv_imul hx hb d_Matcher_groupOf_35 ?_
        refine zk_topi (show ((nI 7) * (nI t)) = nI (7 * t) from pk_mul 7 t) ?_
        refine lv_iadd hx hb d_Matcher_groupOf_36 ?_
        refine zk_topi (show ((nI 3) + (nI (7 * t))) = nI (3 + (7 * t)) from nI_add 3 (7 * t)) ?_
        refine lv_iushr (v := nI ((hsh x).toBitVec.toNat / 2 ^ (3 + 7 * t))) hx hb d_Matcher_groupOf_37 (zk_hs (by omega)) ?_
        refine lv_aload_n hx hb d_Matcher_groupOf_38 rfl (lv_at hl 0 rfl) ?_
        refine va_get (C := R_Matcher) (T := F_Matcher) (N := 6) hx hb hts (fun w h => List.mem_cons_of_mem _ (hin_Matcher w h)) hown hK hP 0 rfl rfl 3 (by decide) (hts _ (List.mem_cons_of_mem _ fl_Matcher_28)) (fun _ h => h) rfl d_Matcher_groupOf_39 ?_
        refine lv_irem hx hb d_Matcher_groupOf_42 (nI_ne0 (by omega) (by omega)) ?_
        refine zk_topi (show ((nI ((hsh x).toBitVec.toNat / 2 ^ (3 + 7 * t))) - (nI ((hsh x).toBitVec.toNat / 2 ^ (3 + 7 * t))) / (nI pt) * (nI pt)) = nI (prt pt x t) from pk_rem zk_hl (by omega) (by omega)) ?_
        refine lv_iadd hx hb d_Matcher_groupOf_43 ?_
        refine zk_topi (show ((nI ((gOf pt x t) * pt)) + (nI (prt pt x t))) = nI (gOf pt x (t + 1)) from nI_add _ _) ?_
        refine lv_istore (lv' := [(4, .int (nI (gOf pt x (t + 1)))), (0, .ref ma), (1, .int x), (2, .int (nI lv)), (3, .int (hsh x)), (5, .int (nI t))]) hx hb d_Matcher_groupOf_44 hl (by decide) rfl (fun ls hl => ?_)
        refine lv_iinc (k := 5) (v := nI (t + 1)) (lv' := [(5, .int (nI (t + 1))), (4, .int (nI (gOf pt x (t + 1)))), (0, .ref ma), (1, .int x), (2, .int (nI lv)), (3, .int (hsh x))]) hx hb d_Matcher_groupOf_46 hl rfl (nI_add t 1) (by decide) rfl (fun ls hl => ?_)
        refine lv_goto (tgt := 16) hx hb d_Matcher_groupOf_49 rfl ?_
        exact ih16 (t + 1) (by omega) (by omega) ls (lv_sub hl [2, 3, 4, 5, 1, 0] rfl)
  exact lb16 _ 0 (Nat.zero_le _) (Nat.lt_succ_self _) ls (lv_sub hl [3, 4, 5, 2, 1, 0] rfl)
set_option maxHeartbeats 4000000 in
set_option maxRecDepth 100000 in
theorem c_Matcher_rowsInGroup (l : Launch) (D : va_G) (cI cL cZ cW cR : ClassId) (ma mo xl xr pt lc rc : Nat) (r v a b k n nv ns : Nat) (f : Nat → Int64) (g h : Nat → Nat) (c0 lv gr : Nat) (hpt : 0 < pt) (hpt2 : pt ≤ 7) (hlv : lv ≤ 2) (hgr : gr < 1000) (hn : n ≤ ns) (hns : ns < 1000) (hnv : nv < 100000) (hg : ∀ z, z < n → g z * k + c0 < nv) : Met l y_Matcher_rowsInGroup ws_Matcher_rowsInGroup rm1_30 (zPr D vwCl (zT cI cL cZ cW cR) [(ma, .inr (5, [.ref mo, .ref xl, .ref xr, .int (nI pt), .int (nI lc), .int (nI rc)])), (r, .inr (0, [.int (nI k), .ref v, .ref a, .ref b, .int (nI n)])), (v, .inl (cL, nv, .inr (.inl f))), (a, .inl (cI, ns, .inl (zN g))), (b, .inl (cI, ns, .inl (zN h)))] [.ref ma, .ref r, .int (nI c0), .int (nI lv), .int (nI gr)]) (zSi (nI (cG f g k c0 pt n lv gr))) 0 0 (fun _ => False) := by
  refine zk_enterR (cc := b_Matcher_rowsInGroup) (maxL := 9) (ret := some .int) (by decide) rfl (Nat.le_of_ble_eq_true rfl) ?_
  intro p e s m args below meth c ls Q hx hb hml hr hlk hown hts hP hK hN hl hQ
  have hl : lv_has ls 9 [(0, .ref ma), (1, .ref r), (2, .int (nI c0)), (3, .int (nI lv)), (4, .int (nI gr))] := hl
  refine lv_iconst (v := nI 0) hx hb d_Matcher_rowsInGroup_0 (by decide) ?_
  refine lv_istore (lv' := [(5, .int (nI 0)), (0, .ref ma), (1, .ref r), (2, .int (nI c0)), (3, .int (nI lv)), (4, .int (nI gr))]) hx hb d_Matcher_rowsInGroup_1 hl (by decide) rfl (fun ls hl => ?_)
  refine lv_iconst (v := nI 0) hx hb d_Matcher_rowsInGroup_3 (by decide) ?_
  refine lv_istore (lv' := [(6, .int (nI 0)), (5, .int (nI 0)), (0, .ref ma), (1, .ref r), (2, .int (nI c0)), (3, .int (nI lv)), (4, .int (nI gr))]) hx hb d_Matcher_rowsInGroup_4 hl (by decide) rfl (fun ls hl => ?_)
  have lb6 : ∀ (fuel6 : Nat) (t : Nat) (y : Nat), (t ≤ n) → (y = cntB (fun i => inG pt lv gr (f (g i * k + c0))) t) → n - t < fuel6 → ∀ (ls : Array Slot), lv_has ls 9 [(0, .ref ma), (1, .ref r), (2, .int (nI c0)), (3, .int (nI lv)), (4, .int (nI gr)), (5, .int (nI y)), (6, .int (nI t))] → W p l e rm1_30 s m args below meth c s.heap [] 0 0 Q (F0 m 6 ls []) := by
    intro fuel6
    induction fuel6 with
    | zero => intro t y ht hy hfu6; exact absurd hfu6 (Nat.not_lt_zero _)
    | succ fuel6 ih6 =>
      intro t y ht hy hfu6 ls hl
      refine lv_iload hx hb d_Matcher_rowsInGroup_6 (lv_at hl 6 rfl) ?_
      refine lv_aload_n hx hb d_Matcher_rowsInGroup_8 rfl (lv_at hl 1 rfl) ?_
      refine va_get (C := R_Rows) (T := F_Rows) (N := 5) hx hb hts (fun w h => List.mem_cons_of_mem _ (hin_Rows w h)) hown hK hP 1 rfl rfl 4 (by decide) (hts _ (List.mem_cons_of_mem _ fl_Matcher_37)) (fun _ h => h) rfl d_Matcher_rowsInGroup_9 ?_
      refine zk_icmp_ge (tgt := 55) hx hb d_Matcher_rowsInGroup_12 rfl (by omega) (by omega) (fun h12 => ?_) (fun h12 => ?_)
      · skip
        obtain rfl : t = n := by omega
        refine lv_iload hx hb d_Matcher_rowsInGroup_55 (lv_at hl 5 rfl) ?_
        exact zk_iretR hx hb hr hlk hQ (by rw [hy]; rfl) d_Matcher_rowsInGroup_57
      · skip
        refine lv_aload_n hx hb d_Matcher_rowsInGroup_15 rfl (lv_at hl 1 rfl) ?_
        refine lv_iload hx hb d_Matcher_rowsInGroup_16 (lv_at hl 6 rfl) ?_
        refine lv_iload_n hx hb d_Matcher_rowsInGroup_18 rfl (lv_at hl 2 rfl) ?_
        have hPc := hP.sub (ws' := [(r, .inr (0, [.int (nI k), .ref v, .ref a, .ref b, .int (nI n)])), (v, .inl (cL, nv, .inr (.inl f))), (a, .inl (cI, ns, .inl (zN g))), (b, .inl (cI, ns, .inl (zN h)))]) [1, 2, 3, 4] rfl
        refine zk_rl (va_runV (As := [.int (nI t), .int (nI c0)]) (rest := []) ⟨hx, hb, hml, hown, hts⟩ (c_Rows_at l D cI cL cZ cW cR r v a b k n nv ns f g h t c0 (by omega) hns (hg t h12) hnv) (cwV 2 hts (zk_gV (fun _ h => List.mem_cons_of_mem _ h) ml_Matcher_65 im_Rows_at se_Rows_at in_Rows co_Rows_at) rfl rfl rfl ⟨rfl, hd_Rows_at⟩ ⟨Nat.le_of_ble_eq_true rfl, Nat.le_of_ble_eq_true rfl⟩) (zk_vr (q0 := 0) hN hK hPc rfl rfl) rfl rfl hl.1 rfl (lv_room (Nat.le_of_ble_eq_true rfl)) d_Matcher_rowsInGroup_19 ⟨Nat.zero_le _, Nat.zero_le _⟩) ?_
        refine lv_lstore (lv' := [(7, .long (f (g t * k + c0))), (0, .ref ma), (1, .ref r), (2, .int (nI c0)), (3, .int (nI lv)), (4, .int (nI gr)), (5, .int (nI y)), (6, .int (nI t))]) hx hb d_Matcher_rowsInGroup_22 hl (by decide) rfl (fun ls hl => ?_)
        refine lv_lload hx hb d_Matcher_rowsInGroup_24 (lv_at hl 0 rfl) ?_
        refine lv_ldc2 (v := (-1099511627776 : Int64)) hx hb hown (hts _ (List.mem_cons_of_mem _ cst_Matcher_69)) d_Matcher_rowsInGroup_26 ?_
        refine W.lcmp hx hb d_Matcher_rowsInGroup_29 ?_
        refine lv_if_eq (tgt := 49) hx hb d_Matcher_rowsInGroup_30 rfl (fun h30 => ?_) (fun h30 => ?_)
        · skip
          have hz := cg_no (P := fun i => inG pt lv gr (f (g i * k + c0))) (t := t) (decide_eq_false (fun q => q.1 ((lg_cmp_eq _ _).mp h30)))
          refine lv_iinc (k := 7) (v := nI (t + 1)) (lv' := [(6, .int (nI (t + 1))), (7, .long (f (g t * k + c0))), (0, .ref ma), (1, .ref r), (2, .int (nI c0)), (3, .int (nI lv)), (4, .int (nI gr)), (5, .int (nI y))]) hx hb d_Matcher_rowsInGroup_49 hl rfl (nI_add t 1) (by decide) rfl (fun ls hl => ?_)
          refine lv_goto (tgt := 6) hx hb d_Matcher_rowsInGroup_52 rfl ?_
          exact ih6 (t + 1) y (by omega) (by rw [hy]; exact hz) (by omega) ls (lv_sub hl [2, 3, 4, 5, 6, 7, 0] rfl)
        · skip
          refine lv_aload_n hx hb d_Matcher_rowsInGroup_33 rfl (lv_at hl 1 rfl) ?_
          refine lv_lload hx hb d_Matcher_rowsInGroup_34 (lv_at hl 0 rfl) ?_
          refine lv_l2i (v := (f (g t * k + c0)).toInt32) hx hb d_Matcher_rowsInGroup_36 (rfl) ?_
          refine lv_iload_n hx hb d_Matcher_rowsInGroup_37 rfl (lv_at hl 4 rfl) ?_
          have hPc := hP.sub (ws' := [(ma, .inr (5, [.ref mo, .ref xl, .ref xr, .int (nI pt), .int (nI lc), .int (nI rc)]))]) [0] rfl
          refine zk_ri (va_runV (As := [.int ((f (g t * k + c0)).toInt32), .int (nI lv)]) (rest := []) ⟨hx, hb, hml, hown, hts⟩ (c_Matcher_groupOf l D cI cL cZ cW cR ma mo xl xr pt lc rc lv ((f (g t * k + c0)).toInt32) hpt hpt2 hlv) (cwV 2 hts (zk_gV (fun _ h => List.mem_cons_of_mem _ h) ml_Matcher_71 im_Matcher_groupOf se_Matcher_groupOf in_Matcher co_Matcher_groupOf) rfl rfl rfl ⟨rfl, hd_Matcher_groupOf⟩ ⟨Nat.le_of_ble_eq_true rfl, Nat.le_of_ble_eq_true rfl⟩) (zk_vr (q0 := 0) hN hK hPc rfl rfl) rfl rfl hl.1 rfl (lv_room (Nat.le_of_ble_eq_true rfl)) d_Matcher_rowsInGroup_38 ⟨Nat.zero_le _, Nat.zero_le _⟩) ?_
          refine lv_iload hx hb d_Matcher_rowsInGroup_41 (lv_at hl 5 rfl) ?_
          have hgl := gOf_lt (pt := pt) (x := (f (g t * k + c0)).toInt32) hpt hpt2 lv hlv
          refine zk_icmp_ne (tgt := 49) hx hb d_Matcher_rowsInGroup_43 rfl (by omega) (by omega) (fun h43 => ?_) (fun h43 => ?_)
          · skip
            have hz := cg_no (P := fun i => inG pt lv gr (f (g i * k + c0))) (t := t) (decide_eq_false (fun q => h43 q.2))
            refine lv_iinc (k := 7) (v := nI (t + 1)) (lv' := [(6, .int (nI (t + 1))), (7, .long (f (g t * k + c0))), (0, .ref ma), (1, .ref r), (2, .int (nI c0)), (3, .int (nI lv)), (4, .int (nI gr)), (5, .int (nI y))]) hx hb d_Matcher_rowsInGroup_49 hl rfl (nI_add t 1) (by decide) rfl (fun ls hl => ?_)
            refine lv_goto (tgt := 6) hx hb d_Matcher_rowsInGroup_52 rfl ?_
            exact ih6 (t + 1) y (by omega) (by rw [hy]; exact hz) (by omega) ls (lv_sub hl [2, 3, 4, 5, 6, 7, 0] rfl)
          · skip
            have hz := cg_yes (P := fun i => inG pt lv gr (f (g i * k + c0))) (t := t) (decide_eq_true ⟨fun q => h30 ((lg_cmp_eq _ _).mpr q), h43⟩)
            refine lv_iinc (k := 6) (v := nI (y + 1)) (lv' := [(5, .int (nI (y + 1))), (7, .long (f (g t * k + c0))), (0, .ref ma), (1, .ref r), (2, .int (nI c0)), (3, .int (nI lv)), (4, .int (nI gr)), (6, .int (nI t))]) hx hb d_Matcher_rowsInGroup_46 hl rfl (nI_add y 1) (by decide) rfl (fun ls hl => ?_)
            refine lv_iinc (k := 7) (v := nI (t + 1)) (lv' := [(6, .int (nI (t + 1))), (5, .int (nI (y + 1))), (7, .long (f (g t * k + c0))), (0, .ref ma), (1, .ref r), (2, .int (nI c0)), (3, .int (nI lv)), (4, .int (nI gr))]) hx hb d_Matcher_rowsInGroup_49 hl rfl (nI_add t 1) (by decide) rfl (fun ls hl => ?_)
            refine lv_goto (tgt := 6) hx hb d_Matcher_rowsInGroup_52 rfl ?_
            exact ih6 (t + 1) (y + 1) (by omega) (by rw [hy]; exact hz) (by omega) ls (lv_sub hl [3, 4, 5, 6, 7, 1, 0] rfl)
  exact lb6 _ 0 0 (Nat.zero_le _) rfl (Nat.lt_succ_self _) ls (lv_sub hl [2, 3, 4, 5, 6, 1, 0] rfl)
set_option maxHeartbeats 4000000 in
set_option maxRecDepth 100000 in
theorem c_Matcher_matchGroup_2 (l : Launch) (D : va_G) (cI cL cZ cW cR : ClassId) (sz : Nat) (ma lc rc : Nat) (mo fr tr mh sm : Nat) (r v a b k n nv ns : Nat) (f : Nat → Int64) (g h : Nat → Nat) (r2 v2 a2 b2 k2 n2 nv2 ns2 : Nat) (f2 : Nat → Int64) (g2 h2 : Nat → Nat) (gr lr rr : Nat) (hgr : gr < 1000) (hlr : lr < 1000) (hrr : rr < 1000) (hfr : 3 ≤ fr) (hfr2 : fr ≤ 8) (hmh : mh < 500) (hn : n ≤ ns) (hns : ns < 1000) (hnv : nv < 100000) (hg : ∀ z, z < n → g z * k + lc < nv) (hn2 : n2 ≤ ns2) (hns2 : ns2 < 1000) (hnv2 : nv2 < 100000) (hg2 : ∀ z, z < n2 → g2 z * k2 + rc < nv2) : Met l y_Matcher_matchGroup ws_Matcher_matchGroup rm2_70 (zPw D vwCl (zT cI cL cZ cW cR) [(ma, .inr (5, [.ref mo, .ref r, .ref r2, .int (nI (fr - 1)), .int (nI lc), .int (nI rc)])), (mo, .inr (4, [.int (nI fr), .int (nI tr), .int (nI mh), .int (nI sm)])), (r, .inr (0, [.int (nI k), .ref v, .ref a, .ref b, .int (nI n)])), (v, .inl (cL, nv, .inr (.inl f))), (a, .inl (cI, ns, .inl (zN g))), (b, .inl (cI, ns, .inl (zN h))), (r2, .inr (0, [.int (nI k2), .ref v2, .ref a2, .ref b2, .int (nI n2)])), (v2, .inl (cL, nv2, .inr (.inl f2))), (a2, .inl (cI, ns2, .inl (zN g2))), (b2, .inl (cI, ns2, .inl (zN h2)))] sz [.ref ma, .int (nI 2), .int (nI gr), .int (nI lr), .int (nI rr)]) (zQv D vwCl (zT cI cL cZ cW cR) [(ma, .inr (5, [.ref mo, .ref r, .ref r2, .int (nI (fr - 1)), .int (nI lc), .int (nI rc)])), (mo, .inr (4, [.int (nI fr), .int (nI tr), .int (nI mh), .int (nI sm)])), (r, .inr (0, [.int (nI k), .ref v, .ref a, .ref b, .int (nI n)])), (v, .inl (cL, nv, .inr (.inl f))), (a, .inl (cI, ns, .inl (zN g))), (b, .inl (cI, ns, .inl (zN h))), (r2, .inr (0, [.int (nI k2), .ref v2, .ref a2, .ref b2, .int (nI n2)])), (v2, .inl (cL, nv2, .inr (.inl f2))), (a2, .inl (cI, ns2, .inl (zN g2))), (b2, .inl (cI, ns2, .inl (zN h2)))] sz (fun _ : Unit => True) (fun _ => [(ma, .inr (5, [.ref mo, .ref r, .ref r2, .int (nI (fr - 1)), .int (nI lc), .int (nI rc)])), (mo, .inr (4, [.int (nI fr), .int (nI ((mG2 fr lr rr (tr, mh)).1)), .int (nI ((mG2 fr lr rr (tr, mh)).2)), .int (nI sm)])), (r, .inr (0, [.int (nI k), .ref v, .ref a, .ref b, .int (nI n)])), (v, .inl (cL, nv, .inr (.inl f))), (a, .inl (cI, ns, .inl (zN g))), (b, .inl (cI, ns, .inl (zN h))), (r2, .inr (0, [.int (nI k2), .ref v2, .ref a2, .ref b2, .int (nI n2)])), (v2, .inl (cL, nv2, .inr (.inl f2))), (a2, .inl (cI, ns2, .inl (zN g2))), (b2, .inl (cI, ns2, .inl (zN h2)))])) 0 0 (va_A [(ma, .inr (5, [.ref mo, .ref r, .ref r2, .int (nI (fr - 1)), .int (nI lc), .int (nI rc)])), (mo, .inr (4, [.int (nI fr), .int (nI tr), .int (nI mh), .int (nI sm)])), (r, .inr (0, [.int (nI k), .ref v, .ref a, .ref b, .int (nI n)])), (v, .inl (cL, nv, .inr (.inl f))), (a, .inl (cI, ns, .inl (zN g))), (b, .inl (cI, ns, .inl (zN h))), (r2, .inr (0, [.int (nI k2), .ref v2, .ref a2, .ref b2, .int (nI n2)])), (v2, .inl (cL, nv2, .inr (.inl f2))), (a2, .inl (cI, ns2, .inl (zN g2))), (b2, .inl (cI, ns2, .inl (zN h2)))] sz) := by
  refine zk_enterW (cc := b_Matcher_matchGroup) (maxL := 9) (ret := none) (by decide) rfl (Nat.le_of_ble_eq_true rfl) ?_
  intro p e s m args below meth c ls Q hx hb hml hr hlk hown hts hP hK hN hl hin hsz A hAe hA hD hS hQ
  subst hsz
  have hl : lv_has ls 9 [(0, .ref ma), (1, .int (nI 2)), (2, .int (nI gr)), (3, .int (nI lr)), (4, .int (nI rr))] := hl
  have hb1 : bk lr < 1000 := by unfold bk; omega
  have hb2 : bk rr < 1000 := by unfold bk; omega
  have hmh1 : mh < 1000 := by omega
  refine lv_iload_n hx hb d_Matcher_matchGroup_0 rfl (lv_at hl 3 rfl) ?_
  refine zk_if_eq (tgt := 9) hx hb d_Matcher_matchGroup_1 rfl (by omega) (fun h1 => ?_) (fun h1 => ?_)
  · skip
    have hz : mG2 fr lr rr (tr, mh) = (tr, mh) := if_pos (Or.inl h1)
    rw [hz] at hQ
    exact zk_vretW hx hb hr hlk hAe hQ hK (()) (trivial) hP hD hS d_Matcher_matchGroup_9
  · skip
    refine lv_iload hx hb d_Matcher_matchGroup_4 (lv_at hl 4 rfl) ?_
    refine zk_if_ne (tgt := 10) hx hb d_Matcher_matchGroup_6 rfl (by omega) (fun h6 => ?_) (fun h6 => ?_)
    · skip
      have h16 : ¬ (lr = 0 ∨ rr = 0) := fun q => q.elim h1 h6
      refine lv_iload_n hx hb d_Matcher_matchGroup_10 rfl (lv_at hl 3 rfl) ?_
      have hPc := hP.sub (ws' := []) [] rfl
      refine zk_ri (va_runSN (As := [.int (nI lr)]) (rest := []) ⟨hx, hb, hml, hown, hts⟩ (c_FQ_blocksOf l D cI cL cZ cW cR lr (by omega)) ⟨(va_cnB 1 hts (zk_gC (fun _ h => List.mem_cons_of_mem _ h) co_FQ_blocksOf) rfl rfl rfl (hN.1 _ nl_Matcher_46) (hts _ (List.mem_cons_of_mem _ in_FQ)) hd_FQ_blocksOf ⟨Nat.le_of_ble_eq_true rfl, Nat.le_of_ble_eq_true rfl⟩), (hts _ (List.mem_cons_of_mem _ sm_FQ_blocksOf)), trivial⟩ (zk_sr hN hK hPc) rfl rfl hl.1 rfl (lv_room (Nat.le_of_ble_eq_true rfl)) d_Matcher_matchGroup_11 ⟨Nat.zero_le _, Nat.zero_le _⟩) ?_
      refine lv_istore (lv' := [(5, .int (nI (bk lr))), (0, .ref ma), (1, .int (nI 2)), (2, .int (nI gr)), (3, .int (nI lr)), (4, .int (nI rr))]) hx hb d_Matcher_matchGroup_14 hl (by decide) rfl (fun ls hl => ?_)
      refine lv_iload hx hb d_Matcher_matchGroup_16 (lv_at hl 5 rfl) ?_
      have hPc := hP.sub (ws' := []) [] rfl
      refine zk_ri (va_runSN (As := [.int (nI rr)]) (rest := []) ⟨hx, hb, hml, hown, hts⟩ (c_FQ_blocksOf l D cI cL cZ cW cR rr (by omega)) ⟨(va_cnB 1 hts (zk_gC (fun _ h => List.mem_cons_of_mem _ h) co_FQ_blocksOf) rfl rfl rfl (hN.1 _ nl_Matcher_46) (hts _ (List.mem_cons_of_mem _ in_FQ)) hd_FQ_blocksOf ⟨Nat.le_of_ble_eq_true rfl, Nat.le_of_ble_eq_true rfl⟩), (hts _ (List.mem_cons_of_mem _ sm_FQ_blocksOf)), trivial⟩ (zk_sr hN hK hPc) rfl rfl hl.1 rfl (lv_room (Nat.le_of_ble_eq_true rfl)) d_Matcher_matchGroup_18 ⟨Nat.zero_le _, Nat.zero_le _⟩) ?_
      refine lv_istore (lv' := [(6, .int (nI (bk rr))), (5, .int (nI (bk lr))), (0, .ref ma), (1, .int (nI 2)), (2, .int (nI gr)), (3, .int (nI lr)), (4, .int (nI rr))]) hx hb d_Matcher_matchGroup_21 hl (by decide) rfl (fun ls hl => ?_)
      refine lv_aload_n hx hb d_Matcher_matchGroup_23 rfl (lv_at hl 2 rfl) ?_
      refine va_get (C := R_Matcher) (T := F_Matcher) (N := 6) hx hb hts (fun w h => List.mem_cons_of_mem _ (hin_Matcher w h)) hown hK hP 0 rfl rfl 0 (by decide) (hts _ (List.mem_cons_of_mem _ fl_Matcher_9)) (fun _ h => h) rfl d_Matcher_matchGroup_24 ?_
      refine va_get (C := R_Meter) (T := F_Meter) (N := 4) hx hb hts (fun w h => List.mem_cons_of_mem _ (hin_Meter w h)) hown hK hP 1 rfl rfl 0 (by decide) (hts _ (List.mem_cons_of_mem _ fl_Matcher_22)) (fun _ h => h) rfl d_Matcher_matchGroup_27 ?_
      refine lv_iconst (v := nI 2) hx hb d_Matcher_matchGroup_30 (by decide) ?_
      refine lv_isub hx hb d_Matcher_matchGroup_31 ?_
      refine zk_topi (show ((nI fr) - (nI 2)) = nI (fr - 2) from pk_sub (by omega)) ?_
      refine lv_istore (lv' := [(7, .int (nI (fr - 2))), (6, .int (nI (bk rr))), (5, .int (nI (bk lr))), (0, .ref ma), (1, .int (nI 2)), (2, .int (nI gr)), (3, .int (nI lr)), (4, .int (nI rr))]) hx hb d_Matcher_matchGroup_32 hl (by decide) rfl (fun ls hl => ?_)
      refine lv_iload hx hb d_Matcher_matchGroup_34 (lv_at hl 1 rfl) ?_
      refine lv_iload hx hb d_Matcher_matchGroup_36 (lv_at hl 0 rfl) ?_
      refine zk_icmp_gt (tgt := 60) hx hb d_Matcher_matchGroup_38 rfl (by omega) (by omega) (fun h38 => ?_) (fun h38 => ?_)
      · skip
        refine lv_iload_n hx hb d_Matcher_matchGroup_60 rfl (lv_at hl 4 rfl) ?_
        refine lv_iconst (v := nI 2) hx hb d_Matcher_matchGroup_61 (by decide) ?_
        refine zk_icmp_lt (tgt := 95) hx hb d_Matcher_matchGroup_62 rfl (by omega) (by omega) (fun hq => absurd hq (by omega)) (fun _ => ?_)
        refine lv_aload_n hx hb d_Matcher_matchGroup_65 rfl (lv_at hl 3 rfl) ?_
        refine va_get (C := R_Matcher) (T := F_Matcher) (N := 6) hx hb hts (fun w h => List.mem_cons_of_mem _ (hin_Matcher w h)) hown hK hP 0 rfl rfl 0 (by decide) (hts _ (List.mem_cons_of_mem _ fl_Matcher_9)) (fun _ h => h) rfl d_Matcher_matchGroup_66 ?_
        refine lv_iload hx hb d_Matcher_matchGroup_69 (lv_at hl 1 rfl) ?_
        refine lv_iload hx hb d_Matcher_matchGroup_71 (lv_at hl 2 rfl) ?_
        refine lv_iload hx hb d_Matcher_matchGroup_73 (lv_at hl 1 rfl) ?_
        refine lv_iload hx hb d_Matcher_matchGroup_75 (lv_at hl 0 rfl) ?_
        have hPc := hP.sub (ws' := []) [] rfl
        refine zk_ri (va_runSN (As := [.int (nI (bk rr)), .int (nI (fr - 2))]) (rest := [.int (nI (bk lr)), .int (nI (bk rr)), .ref mo]) ⟨hx, hb, hml, hown, hts⟩ (c_FQ_quotientUp l D cI cL cZ cW cR (bk rr) (fr - 2) (by omega) (by omega)) ⟨(va_cnB 2 hts (zk_gC (fun _ h => List.mem_cons_of_mem _ h) co_FQ_quotientUp) rfl rfl rfl (hN.1 _ nl_Matcher_54) (hts _ (List.mem_cons_of_mem _ in_FQ)) hd_FQ_quotientUp ⟨Nat.le_of_ble_eq_true rfl, Nat.le_of_ble_eq_true rfl⟩), (hts _ (List.mem_cons_of_mem _ sm_FQ_quotientUp)), trivial⟩ (zk_sr hN hK hPc) rfl rfl hl.1 rfl (lv_room (Nat.le_of_ble_eq_true rfl)) d_Matcher_matchGroup_77 ⟨Nat.zero_le _, Nat.zero_le _⟩) ?_
        refine lv_imul hx hb d_Matcher_matchGroup_80 ?_
        refine zk_topi (show ((nI (bk lr)) * (nI ((bk rr + (fr - 2) - 1) / (fr - 2)))) = nI ((bk lr) * ((bk rr + (fr - 2) - 1) / (fr - 2))) from pk_mul (bk lr) ((bk rr + (fr - 2) - 1) / (fr - 2))) ?_
        refine lv_iadd hx hb d_Matcher_matchGroup_81 ?_
        refine zk_topi (show ((nI (bk rr)) + (nI ((bk lr) * ((bk rr + (fr - 2) - 1) / (fr - 2))))) = nI (bk rr + ((bk lr) * ((bk rr + (fr - 2) - 1) / (fr - 2)))) from nI_add (bk rr) ((bk lr) * ((bk rr + (fr - 2) - 1) / (fr - 2)))) ?_
        refine lv_aload_n hx hb d_Matcher_matchGroup_82 rfl (lv_at hl 3 rfl) ?_
        refine va_get (C := R_Matcher) (T := F_Matcher) (N := 6) hx hb hts (fun w h => List.mem_cons_of_mem _ (hin_Matcher w h)) hown hK hP 0 rfl rfl 0 (by decide) (hts _ (List.mem_cons_of_mem _ fl_Matcher_9)) (fun _ h => h) rfl d_Matcher_matchGroup_83 ?_
        refine va_get (C := R_Meter) (T := F_Meter) (N := 4) hx hb hts (fun w h => List.mem_cons_of_mem _ (hin_Meter w h)) hown hK hP 1 rfl rfl 0 (by decide) (hts _ (List.mem_cons_of_mem _ fl_Matcher_22)) (fun _ h => h) rfl d_Matcher_matchGroup_86 ?_
        have hPc := hP.sub (ws' := [(mo, .inr (4, [.int (nI fr), .int (nI tr), .int (nI mh), .int (nI sm)]))]) [1] rfl
        have hDc := hD.sub (ws' := [(mo, .inr (4, [.int (nI fr), .int (nI tr), .int (nI mh), .int (nI sm)]))]) [1] (by decide) rfl
        refine zk_wv (wr := [(ma, .inr (5, [.ref mo, .ref r, .ref r2, .int (nI (fr - 1)), .int (nI lc), .int (nI rc)])), (r, .inr (0, [.int (nI k), .ref v, .ref a, .ref b, .int (nI n)])), (v, .inl (cL, nv, .inr (.inl f))), (a, .inl (cI, ns, .inl (zN g))), (b, .inl (cI, ns, .inl (zN h))), (r2, .inr (0, [.int (nI k2), .ref v2, .ref a2, .ref b2, .int (nI n2)])), (v2, .inl (cL, nv2, .inr (.inl f2))), (a2, .inl (cI, ns2, .inl (zN g2))), (b2, .inl (cI, ns2, .inl (zN h2)))]) (w2 := (fun _ => [(ma, .inr (5, [.ref mo, .ref r, .ref r2, .int (nI (fr - 1)), .int (nI lc), .int (nI rc)])), (mo, .inr (4, [.int (nI fr), .int (nI (tr + (bk rr + ((bk lr) * ((bk rr + (fr - 2) - 1) / (fr - 2)))))), .int (nI (max mh fr)), .int (nI sm)])), (r, .inr (0, [.int (nI k), .ref v, .ref a, .ref b, .int (nI n)])), (v, .inl (cL, nv, .inr (.inl f))), (a, .inl (cI, ns, .inl (zN g))), (b, .inl (cI, ns, .inl (zN h))), (r2, .inr (0, [.int (nI k2), .ref v2, .ref a2, .ref b2, .int (nI n2)])), (v2, .inl (cL, nv2, .inr (.inl f2))), (a2, .inl (cI, ns2, .inl (zN g2))), (b2, .inl (cI, ns2, .inl (zN h2)))])) hP hD hS hA [1] [0, 2, 3, 4, 5, 6, 7, 8, 9] [0, 9, 1, 2, 3, 4, 5, 6, 7, 8] rfl rfl (by decide) (by decide) (fun _ => rfl) (by decide) (va_runV (As := [.int (nI (bk rr + ((bk lr) * ((bk rr + (fr - 2) - 1) / (fr - 2))))), .int (nI fr)]) (rest := []) ⟨hx, hb, hml, hown, hts⟩ (c_Meter_addStep l D cI cL cZ cW cR _ mo fr tr mh sm (bk rr + ((bk lr) * ((bk rr + (fr - 2) - 1) / (fr - 2)))) fr hmh1 (by omega)) (cwV 2 hts (zk_gV (fun _ h => List.mem_cons_of_mem _ h) ml_Matcher_50 im_Meter_addStep se_Meter_addStep in_Meter co_Meter_addStep) rfl rfl rfl ⟨rfl, hd_Meter_addStep⟩ ⟨Nat.le_of_ble_eq_true rfl, Nat.le_of_ble_eq_true rfl⟩) (zk_vw (q0 := 0) hN hK hPc hDc rfl rfl) rfl rfl hl.1 rfl (lv_room (Nat.le_of_ble_eq_true rfl)) d_Matcher_matchGroup_89 ⟨Nat.zero_le _, Nat.zero_le _⟩) (fun u H locs hpost hP hD hS => ?_)
        have hP : va_P D vwCl [(ma, .inr (5, [.ref mo, .ref r, .ref r2, .int (nI (fr - 1)), .int (nI lc), .int (nI rc)])), (mo, .inr (4, [.int (nI fr), .int (nI (tr + (bk rr + ((bk lr) * ((bk rr + (fr - 2) - 1) / (fr - 2)))))), .int (nI (max mh fr)), .int (nI sm)])), (r, .inr (0, [.int (nI k), .ref v, .ref a, .ref b, .int (nI n)])), (v, .inl (cL, nv, .inr (.inl f))), (a, .inl (cI, ns, .inl (zN g))), (b, .inl (cI, ns, .inl (zN h))), (r2, .inr (0, [.int (nI k2), .ref v2, .ref a2, .ref b2, .int (nI n2)])), (v2, .inl (cL, nv2, .inr (.inl f2))), (a2, .inl (cI, ns2, .inl (zN g2))), (b2, .inl (cI, ns2, .inl (zN h2)))] H := hP
        have hD : va_D A [(ma, .inr (5, [.ref mo, .ref r, .ref r2, .int (nI (fr - 1)), .int (nI lc), .int (nI rc)])), (mo, .inr (4, [.int (nI fr), .int (nI (tr + (bk rr + ((bk lr) * ((bk rr + (fr - 2) - 1) / (fr - 2)))))), .int (nI (max mh fr)), .int (nI sm)])), (r, .inr (0, [.int (nI k), .ref v, .ref a, .ref b, .int (nI n)])), (v, .inl (cL, nv, .inr (.inl f))), (a, .inl (cI, ns, .inl (zN g))), (b, .inl (cI, ns, .inl (zN h))), (r2, .inr (0, [.int (nI k2), .ref v2, .ref a2, .ref b2, .int (nI n2)])), (v2, .inl (cL, nv2, .inr (.inl f2))), (a2, .inl (cI, ns2, .inl (zN g2))), (b2, .inl (cI, ns2, .inl (zN h2)))] := hD
        have hz : mG2 fr lr rr (tr, mh) = stp (tr, mh) (bk rr + bk lr * ((bk rr + (fr - 2) - 1) / (fr - 2))) fr := (if_neg h16).trans (if_neg (by omega))
        refine lv_goto (tgt := 148) hx hb d_Matcher_matchGroup_92 rfl ?_
        rw [hz] at hQ
        exact zk_vretW hx hb hr hlk hAe hQ hK (()) (trivial) hP hD hS d_Matcher_matchGroup_148
      · skip
        have hz : mG2 fr lr rr (tr, mh) = stp (tr, mh) (bk rr + bk lr) (bk rr + 2) := (if_neg h16).trans (if_pos (by omega))
        refine lv_aload_n hx hb d_Matcher_matchGroup_41 rfl (lv_at hl 3 rfl) ?_
        refine va_get (C := R_Matcher) (T := F_Matcher) (N := 6) hx hb hts (fun w h => List.mem_cons_of_mem _ (hin_Matcher w h)) hown hK hP 0 rfl rfl 0 (by decide) (hts _ (List.mem_cons_of_mem _ fl_Matcher_9)) (fun _ h => h) rfl d_Matcher_matchGroup_42 ?_
        refine lv_iload hx hb d_Matcher_matchGroup_45 (lv_at hl 1 rfl) ?_
        refine lv_iload hx hb d_Matcher_matchGroup_47 (lv_at hl 2 rfl) ?_
        refine lv_iadd hx hb d_Matcher_matchGroup_49 ?_
        refine zk_topi (show ((nI (bk rr)) + (nI (bk lr))) = nI (bk rr + (bk lr)) from nI_add (bk rr) (bk lr)) ?_
        refine lv_iload hx hb d_Matcher_matchGroup_50 (lv_at hl 1 rfl) ?_
        refine lv_iconst (v := nI 2) hx hb d_Matcher_matchGroup_52 (by decide) ?_
        refine lv_iadd hx hb d_Matcher_matchGroup_53 ?_
        refine zk_topi (show ((nI (bk rr)) + (nI 2)) = nI (bk rr + 2) from nI_add (bk rr) 2) ?_
        have hPc := hP.sub (ws' := [(mo, .inr (4, [.int (nI fr), .int (nI tr), .int (nI mh), .int (nI sm)]))]) [1] rfl
        have hDc := hD.sub (ws' := [(mo, .inr (4, [.int (nI fr), .int (nI tr), .int (nI mh), .int (nI sm)]))]) [1] (by decide) rfl
        refine zk_wv (wr := [(ma, .inr (5, [.ref mo, .ref r, .ref r2, .int (nI (fr - 1)), .int (nI lc), .int (nI rc)])), (r, .inr (0, [.int (nI k), .ref v, .ref a, .ref b, .int (nI n)])), (v, .inl (cL, nv, .inr (.inl f))), (a, .inl (cI, ns, .inl (zN g))), (b, .inl (cI, ns, .inl (zN h))), (r2, .inr (0, [.int (nI k2), .ref v2, .ref a2, .ref b2, .int (nI n2)])), (v2, .inl (cL, nv2, .inr (.inl f2))), (a2, .inl (cI, ns2, .inl (zN g2))), (b2, .inl (cI, ns2, .inl (zN h2)))]) (w2 := (fun _ => [(ma, .inr (5, [.ref mo, .ref r, .ref r2, .int (nI (fr - 1)), .int (nI lc), .int (nI rc)])), (mo, .inr (4, [.int (nI fr), .int (nI (tr + (bk rr + (bk lr)))), .int (nI (max mh (bk rr + 2))), .int (nI sm)])), (r, .inr (0, [.int (nI k), .ref v, .ref a, .ref b, .int (nI n)])), (v, .inl (cL, nv, .inr (.inl f))), (a, .inl (cI, ns, .inl (zN g))), (b, .inl (cI, ns, .inl (zN h))), (r2, .inr (0, [.int (nI k2), .ref v2, .ref a2, .ref b2, .int (nI n2)])), (v2, .inl (cL, nv2, .inr (.inl f2))), (a2, .inl (cI, ns2, .inl (zN g2))), (b2, .inl (cI, ns2, .inl (zN h2)))])) hP hD hS hA [1] [0, 2, 3, 4, 5, 6, 7, 8, 9] [0, 9, 1, 2, 3, 4, 5, 6, 7, 8] rfl rfl (by decide) (by decide) (fun _ => rfl) (by decide) (va_runV (As := [.int (nI (bk rr + (bk lr))), .int (nI (bk rr + 2))]) (rest := []) ⟨hx, hb, hml, hown, hts⟩ (c_Meter_addStep l D cI cL cZ cW cR _ mo fr tr mh sm (bk rr + (bk lr)) (bk rr + 2) hmh1 (by omega)) (cwV 2 hts (zk_gV (fun _ h => List.mem_cons_of_mem _ h) ml_Matcher_50 im_Meter_addStep se_Meter_addStep in_Meter co_Meter_addStep) rfl rfl rfl ⟨rfl, hd_Meter_addStep⟩ ⟨Nat.le_of_ble_eq_true rfl, Nat.le_of_ble_eq_true rfl⟩) (zk_vw (q0 := 0) hN hK hPc hDc rfl rfl) rfl rfl hl.1 rfl (lv_room (Nat.le_of_ble_eq_true rfl)) d_Matcher_matchGroup_54 ⟨Nat.zero_le _, Nat.zero_le _⟩) (fun u H locs hpost hP hD hS => ?_)
        have hP : va_P D vwCl [(ma, .inr (5, [.ref mo, .ref r, .ref r2, .int (nI (fr - 1)), .int (nI lc), .int (nI rc)])), (mo, .inr (4, [.int (nI fr), .int (nI (tr + (bk rr + (bk lr)))), .int (nI (max mh (bk rr + 2))), .int (nI sm)])), (r, .inr (0, [.int (nI k), .ref v, .ref a, .ref b, .int (nI n)])), (v, .inl (cL, nv, .inr (.inl f))), (a, .inl (cI, ns, .inl (zN g))), (b, .inl (cI, ns, .inl (zN h))), (r2, .inr (0, [.int (nI k2), .ref v2, .ref a2, .ref b2, .int (nI n2)])), (v2, .inl (cL, nv2, .inr (.inl f2))), (a2, .inl (cI, ns2, .inl (zN g2))), (b2, .inl (cI, ns2, .inl (zN h2)))] H := hP
        have hD : va_D A [(ma, .inr (5, [.ref mo, .ref r, .ref r2, .int (nI (fr - 1)), .int (nI lc), .int (nI rc)])), (mo, .inr (4, [.int (nI fr), .int (nI (tr + (bk rr + (bk lr)))), .int (nI (max mh (bk rr + 2))), .int (nI sm)])), (r, .inr (0, [.int (nI k), .ref v, .ref a, .ref b, .int (nI n)])), (v, .inl (cL, nv, .inr (.inl f))), (a, .inl (cI, ns, .inl (zN g))), (b, .inl (cI, ns, .inl (zN h))), (r2, .inr (0, [.int (nI k2), .ref v2, .ref a2, .ref b2, .int (nI n2)])), (v2, .inl (cL, nv2, .inr (.inl f2))), (a2, .inl (cI, ns2, .inl (zN g2))), (b2, .inl (cI, ns2, .inl (zN h2)))] := hD
        refine lv_goto (tgt := 148) hx hb d_Matcher_matchGroup_57 rfl ?_
        rw [hz] at hQ
        exact zk_vretW hx hb hr hlk hAe hQ hK (()) (trivial) hP hD hS d_Matcher_matchGroup_148
    · skip
      have hz : mG2 fr lr rr (tr, mh) = (tr, mh) := if_pos (Or.inr h6)
      rw [hz] at hQ
      exact zk_vretW hx hb hr hlk hAe hQ hK (()) (trivial) hP hD hS d_Matcher_matchGroup_9
set_option maxHeartbeats 4000000 in
set_option maxRecDepth 100000 in
theorem c_Matcher_matchPart_2 (l : Launch) (D : va_G) (cI cL cZ cW cR : ClassId) (sz : Nat) (ma lc rc : Nat) (mo fr tr mh sm : Nat) (r v a b k n nv ns : Nat) (f : Nat → Int64) (g h : Nat → Nat) (r2 v2 a2 b2 k2 n2 nv2 ns2 : Nat) (f2 : Nat → Int64) (g2 h2 : Nat → Nat) (gr : Nat) (hgr : gr < 1000) (hfr : 3 ≤ fr) (hfr2 : fr ≤ 8) (hmh : mh < 500) (hn : n ≤ ns) (hns : ns < 1000) (hnv : nv < 100000) (hg : ∀ z, z < n → g z * k + lc < nv) (hn2 : n2 ≤ ns2) (hns2 : ns2 < 1000) (hnv2 : nv2 < 100000) (hg2 : ∀ z, z < n2 → g2 z * k2 + rc < nv2) : Met l y_Matcher_matchPart ws_Matcher_matchPart rm3_110 (zPw D vwCl (zT cI cL cZ cW cR) [(ma, .inr (5, [.ref mo, .ref r, .ref r2, .int (nI (fr - 1)), .int (nI lc), .int (nI rc)])), (mo, .inr (4, [.int (nI fr), .int (nI tr), .int (nI mh), .int (nI sm)])), (r, .inr (0, [.int (nI k), .ref v, .ref a, .ref b, .int (nI n)])), (v, .inl (cL, nv, .inr (.inl f))), (a, .inl (cI, ns, .inl (zN g))), (b, .inl (cI, ns, .inl (zN h))), (r2, .inr (0, [.int (nI k2), .ref v2, .ref a2, .ref b2, .int (nI n2)])), (v2, .inl (cL, nv2, .inr (.inl f2))), (a2, .inl (cI, ns2, .inl (zN g2))), (b2, .inl (cI, ns2, .inl (zN h2)))] sz [.ref ma, .int (nI 2), .int (nI gr)]) (zQv D vwCl (zT cI cL cZ cW cR) [(ma, .inr (5, [.ref mo, .ref r, .ref r2, .int (nI (fr - 1)), .int (nI lc), .int (nI rc)])), (mo, .inr (4, [.int (nI fr), .int (nI tr), .int (nI mh), .int (nI sm)])), (r, .inr (0, [.int (nI k), .ref v, .ref a, .ref b, .int (nI n)])), (v, .inl (cL, nv, .inr (.inl f))), (a, .inl (cI, ns, .inl (zN g))), (b, .inl (cI, ns, .inl (zN h))), (r2, .inr (0, [.int (nI k2), .ref v2, .ref a2, .ref b2, .int (nI n2)])), (v2, .inl (cL, nv2, .inr (.inl f2))), (a2, .inl (cI, ns2, .inl (zN g2))), (b2, .inl (cI, ns2, .inl (zN h2)))] sz (fun _ : Unit => True) (fun _ => [(ma, .inr (5, [.ref mo, .ref r, .ref r2, .int (nI (fr - 1)), .int (nI lc), .int (nI rc)])), (mo, .inr (4, [.int (nI fr), .int (nI (((mP fr (cG f g k lc (fr - 1) n 2) (cG f2 g2 k2 rc (fr - 1) n2 2) (fun _ => mG2 fr)) gr (tr, mh)).1)), .int (nI (((mP fr (cG f g k lc (fr - 1) n 2) (cG f2 g2 k2 rc (fr - 1) n2 2) (fun _ => mG2 fr)) gr (tr, mh)).2)), .int (nI sm)])), (r, .inr (0, [.int (nI k), .ref v, .ref a, .ref b, .int (nI n)])), (v, .inl (cL, nv, .inr (.inl f))), (a, .inl (cI, ns, .inl (zN g))), (b, .inl (cI, ns, .inl (zN h))), (r2, .inr (0, [.int (nI k2), .ref v2, .ref a2, .ref b2, .int (nI n2)])), (v2, .inl (cL, nv2, .inr (.inl f2))), (a2, .inl (cI, ns2, .inl (zN g2))), (b2, .inl (cI, ns2, .inl (zN h2)))])) 0 0 (va_A [(ma, .inr (5, [.ref mo, .ref r, .ref r2, .int (nI (fr - 1)), .int (nI lc), .int (nI rc)])), (mo, .inr (4, [.int (nI fr), .int (nI tr), .int (nI mh), .int (nI sm)])), (r, .inr (0, [.int (nI k), .ref v, .ref a, .ref b, .int (nI n)])), (v, .inl (cL, nv, .inr (.inl f))), (a, .inl (cI, ns, .inl (zN g))), (b, .inl (cI, ns, .inl (zN h))), (r2, .inr (0, [.int (nI k2), .ref v2, .ref a2, .ref b2, .int (nI n2)])), (v2, .inl (cL, nv2, .inr (.inl f2))), (a2, .inl (cI, ns2, .inl (zN g2))), (b2, .inl (cI, ns2, .inl (zN h2)))] sz) := by
  refine zk_enterW (cc := b_Matcher_matchPart) (maxL := 5) (ret := none) (by decide) rfl (Nat.le_of_ble_eq_true rfl) ?_
  intro p e s m args below meth c ls Q hx hb hml hr hlk hown hts hP hK hN hl hin hsz A hAe hA hD hS hQ
  subst hsz
  have hl : lv_has ls 5 [(0, .ref ma), (1, .int (nI 2)), (2, .int (nI gr))] := hl
  have hc1 : (cG f g k lc (fr - 1) n 2) gr ≤ n := cntB_le _ _
  have hc2 : (cG f2 g2 k2 rc (fr - 1) n2 2) gr ≤ n2 := cntB_le _ _
  have hc3 : bk ((cG f g k lc (fr - 1) n 2) gr) < 1000 := by unfold bk; omega
  have hc4 : bk ((cG f2 g2 k2 rc (fr - 1) n2 2) gr) < 1000 := by unfold bk; omega
  refine lv_aload_n hx hb d_Matcher_matchPart_0 rfl (lv_at hl 0 rfl) ?_
  refine lv_aload_n hx hb d_Matcher_matchPart_1 rfl (lv_at hl 0 rfl) ?_
  refine va_get (C := R_Matcher) (T := F_Matcher) (N := 6) hx hb hts (fun w h => List.mem_cons_of_mem _ (hin_Matcher w h)) hown hK hP 0 rfl rfl 1 (by decide) (hts _ (List.mem_cons_of_mem _ fl_Matcher_15)) (fun _ h => h) rfl d_Matcher_matchPart_2 ?_
  refine lv_aload_n hx hb d_Matcher_matchPart_5 rfl (lv_at hl 0 rfl) ?_
  refine va_get (C := R_Matcher) (T := F_Matcher) (N := 6) hx hb hts (fun w h => List.mem_cons_of_mem _ (hin_Matcher w h)) hown hK hP 0 rfl rfl 4 (by decide) (hts _ (List.mem_cons_of_mem _ fl_Matcher_31)) (fun _ h => h) rfl d_Matcher_matchPart_6 ?_
  refine lv_iload_n hx hb d_Matcher_matchPart_9 rfl (lv_at hl 1 rfl) ?_
  refine lv_iload_n hx hb d_Matcher_matchPart_10 rfl (lv_at hl 2 rfl) ?_
  have hPc := hP.sub (ws' := [(ma, .inr (5, [.ref mo, .ref r, .ref r2, .int (nI (fr - 1)), .int (nI lc), .int (nI rc)])), (r, .inr (0, [.int (nI k), .ref v, .ref a, .ref b, .int (nI n)])), (v, .inl (cL, nv, .inr (.inl f))), (a, .inl (cI, ns, .inl (zN g))), (b, .inl (cI, ns, .inl (zN h)))]) [0, 2, 3, 4, 5] rfl
  refine zk_ri (va_runV (As := [.ref r, .int (nI lc), .int (nI 2), .int (nI gr)]) (rest := []) ⟨hx, hb, hml, hown, hts⟩ (c_Matcher_rowsInGroup l D cI cL cZ cW cR ma mo r r2 (fr - 1) lc rc r v a b k n nv ns f g h lc 2 gr (by omega) (by omega) (by omega) (by omega) hn hns hnv hg) (cwV 4 hts (zk_gV (fun _ h => List.mem_cons_of_mem _ h) ml_Matcher_61 im_Matcher_rowsInGroup se_Matcher_rowsInGroup in_Matcher co_Matcher_rowsInGroup) rfl rfl rfl ⟨rfl, hd_Matcher_rowsInGroup⟩ ⟨Nat.le_of_ble_eq_true rfl, Nat.le_of_ble_eq_true rfl⟩) (zk_vr (q0 := 0) hN hK hPc rfl rfl) rfl rfl hl.1 rfl (lv_room (Nat.le_of_ble_eq_true rfl)) d_Matcher_matchPart_11 ⟨Nat.zero_le _, Nat.zero_le _⟩) ?_
  refine lv_istore_n (lv' := [(3, .int (nI ((cG f g k lc (fr - 1) n 2) gr))), (0, .ref ma), (1, .int (nI 2)), (2, .int (nI gr))]) hx hb d_Matcher_matchPart_14 rfl hl (by decide) rfl (fun ls hl => ?_)
  refine lv_aload_n hx hb d_Matcher_matchPart_15 rfl (lv_at hl 1 rfl) ?_
  refine lv_aload_n hx hb d_Matcher_matchPart_16 rfl (lv_at hl 1 rfl) ?_
  refine va_get (C := R_Matcher) (T := F_Matcher) (N := 6) hx hb hts (fun w h => List.mem_cons_of_mem _ (hin_Matcher w h)) hown hK hP 0 rfl rfl 2 (by decide) (hts _ (List.mem_cons_of_mem _ fl_Matcher_19)) (fun _ h => h) rfl d_Matcher_matchPart_17 ?_
  refine lv_aload_n hx hb d_Matcher_matchPart_20 rfl (lv_at hl 1 rfl) ?_
  refine va_get (C := R_Matcher) (T := F_Matcher) (N := 6) hx hb hts (fun w h => List.mem_cons_of_mem _ (hin_Matcher w h)) hown hK hP 0 rfl rfl 5 (by decide) (hts _ (List.mem_cons_of_mem _ fl_Matcher_34)) (fun _ h => h) rfl d_Matcher_matchPart_21 ?_
  refine lv_iload_n hx hb d_Matcher_matchPart_24 rfl (lv_at hl 2 rfl) ?_
  refine lv_iload_n hx hb d_Matcher_matchPart_25 rfl (lv_at hl 3 rfl) ?_
  have hPc := hP.sub (ws' := [(ma, .inr (5, [.ref mo, .ref r, .ref r2, .int (nI (fr - 1)), .int (nI lc), .int (nI rc)])), (r2, .inr (0, [.int (nI k2), .ref v2, .ref a2, .ref b2, .int (nI n2)])), (v2, .inl (cL, nv2, .inr (.inl f2))), (a2, .inl (cI, ns2, .inl (zN g2))), (b2, .inl (cI, ns2, .inl (zN h2)))]) [0, 6, 7, 8, 9] rfl
  refine zk_ri (va_runV (As := [.ref r2, .int (nI rc), .int (nI 2), .int (nI gr)]) (rest := []) ⟨hx, hb, hml, hown, hts⟩ (c_Matcher_rowsInGroup l D cI cL cZ cW cR ma mo r r2 (fr - 1) lc rc r2 v2 a2 b2 k2 n2 nv2 ns2 f2 g2 h2 rc 2 gr (by omega) (by omega) (by omega) (by omega) hn2 hns2 hnv2 hg2) (cwV 4 hts (zk_gV (fun _ h => List.mem_cons_of_mem _ h) ml_Matcher_61 im_Matcher_rowsInGroup se_Matcher_rowsInGroup in_Matcher co_Matcher_rowsInGroup) rfl rfl rfl ⟨rfl, hd_Matcher_rowsInGroup⟩ ⟨Nat.le_of_ble_eq_true rfl, Nat.le_of_ble_eq_true rfl⟩) (zk_vr (q0 := 0) hN hK hPc rfl rfl) rfl rfl hl.1 rfl (lv_room (Nat.le_of_ble_eq_true rfl)) d_Matcher_matchPart_26 ⟨Nat.zero_le _, Nat.zero_le _⟩) ?_
  refine lv_istore (lv' := [(4, .int (nI ((cG f2 g2 k2 rc (fr - 1) n2 2) gr))), (3, .int (nI ((cG f g k lc (fr - 1) n 2) gr))), (0, .ref ma), (1, .int (nI 2)), (2, .int (nI gr))]) hx hb d_Matcher_matchPart_29 hl (by decide) rfl (fun ls hl => ?_)
  refine lv_aload_n hx hb d_Matcher_matchPart_31 rfl (lv_at hl 2 rfl) ?_
  refine va_get (C := R_Matcher) (T := F_Matcher) (N := 6) hx hb hts (fun w h => List.mem_cons_of_mem _ (hin_Matcher w h)) hown hK hP 0 rfl rfl 0 (by decide) (hts _ (List.mem_cons_of_mem _ fl_Matcher_9)) (fun _ h => h) rfl d_Matcher_matchPart_32 ?_
  refine lv_iload_n hx hb d_Matcher_matchPart_35 rfl (lv_at hl 1 rfl) ?_
  have hPc := hP.sub (ws' := []) [] rfl
  refine zk_ri (va_runSN (As := [.int (nI ((cG f g k lc (fr - 1) n 2) gr))]) (rest := [.ref mo]) ⟨hx, hb, hml, hown, hts⟩ (c_FQ_blocksOf l D cI cL cZ cW cR ((cG f g k lc (fr - 1) n 2) gr) (by omega)) ⟨(va_cnB 1 hts (zk_gC (fun _ h => List.mem_cons_of_mem _ h) co_FQ_blocksOf) rfl rfl rfl (hN.1 _ nl_Matcher_46) (hts _ (List.mem_cons_of_mem _ in_FQ)) hd_FQ_blocksOf ⟨Nat.le_of_ble_eq_true rfl, Nat.le_of_ble_eq_true rfl⟩), (hts _ (List.mem_cons_of_mem _ sm_FQ_blocksOf)), trivial⟩ (zk_sr hN hK hPc) rfl rfl hl.1 rfl (lv_room (Nat.le_of_ble_eq_true rfl)) d_Matcher_matchPart_36 ⟨Nat.zero_le _, Nat.zero_le _⟩) ?_
  refine lv_iload hx hb d_Matcher_matchPart_39 (lv_at hl 0 rfl) ?_
  have hPc := hP.sub (ws' := []) [] rfl
  refine zk_ri (va_runSN (As := [.int (nI ((cG f2 g2 k2 rc (fr - 1) n2 2) gr))]) (rest := [.int (nI (bk ((cG f g k lc (fr - 1) n 2) gr))), .ref mo]) ⟨hx, hb, hml, hown, hts⟩ (c_FQ_blocksOf l D cI cL cZ cW cR ((cG f2 g2 k2 rc (fr - 1) n2 2) gr) (by omega)) ⟨(va_cnB 1 hts (zk_gC (fun _ h => List.mem_cons_of_mem _ h) co_FQ_blocksOf) rfl rfl rfl (hN.1 _ nl_Matcher_46) (hts _ (List.mem_cons_of_mem _ in_FQ)) hd_FQ_blocksOf ⟨Nat.le_of_ble_eq_true rfl, Nat.le_of_ble_eq_true rfl⟩), (hts _ (List.mem_cons_of_mem _ sm_FQ_blocksOf)), trivial⟩ (zk_sr hN hK hPc) rfl rfl hl.1 rfl (lv_room (Nat.le_of_ble_eq_true rfl)) d_Matcher_matchPart_41 ⟨Nat.zero_le _, Nat.zero_le _⟩) ?_
  refine lv_iadd hx hb d_Matcher_matchPart_44 ?_
  refine zk_topi (show ((nI (bk ((cG f g k lc (fr - 1) n 2) gr))) + (nI (bk ((cG f2 g2 k2 rc (fr - 1) n2 2) gr)))) = nI (bk ((cG f g k lc (fr - 1) n 2) gr) + (bk ((cG f2 g2 k2 rc (fr - 1) n2 2) gr))) from nI_add (bk ((cG f g k lc (fr - 1) n 2) gr)) (bk ((cG f2 g2 k2 rc (fr - 1) n2 2) gr))) ?_
  refine lv_aload_n hx hb d_Matcher_matchPart_45 rfl (lv_at hl 2 rfl) ?_
  refine va_get (C := R_Matcher) (T := F_Matcher) (N := 6) hx hb hts (fun w h => List.mem_cons_of_mem _ (hin_Matcher w h)) hown hK hP 0 rfl rfl 0 (by decide) (hts _ (List.mem_cons_of_mem _ fl_Matcher_9)) (fun _ h => h) rfl d_Matcher_matchPart_46 ?_
  refine va_get (C := R_Meter) (T := F_Meter) (N := 4) hx hb hts (fun w h => List.mem_cons_of_mem _ (hin_Meter w h)) hown hK hP 1 rfl rfl 0 (by decide) (hts _ (List.mem_cons_of_mem _ fl_Matcher_22)) (fun _ h => h) rfl d_Matcher_matchPart_49 ?_
  have hPc := hP.sub (ws' := [(mo, .inr (4, [.int (nI fr), .int (nI tr), .int (nI mh), .int (nI sm)]))]) [1] rfl
  have hDc := hD.sub (ws' := [(mo, .inr (4, [.int (nI fr), .int (nI tr), .int (nI mh), .int (nI sm)]))]) [1] (by decide) rfl
  refine zk_wv (wr := [(ma, .inr (5, [.ref mo, .ref r, .ref r2, .int (nI (fr - 1)), .int (nI lc), .int (nI rc)])), (r, .inr (0, [.int (nI k), .ref v, .ref a, .ref b, .int (nI n)])), (v, .inl (cL, nv, .inr (.inl f))), (a, .inl (cI, ns, .inl (zN g))), (b, .inl (cI, ns, .inl (zN h))), (r2, .inr (0, [.int (nI k2), .ref v2, .ref a2, .ref b2, .int (nI n2)])), (v2, .inl (cL, nv2, .inr (.inl f2))), (a2, .inl (cI, ns2, .inl (zN g2))), (b2, .inl (cI, ns2, .inl (zN h2)))]) (w2 := (fun _ => [(ma, .inr (5, [.ref mo, .ref r, .ref r2, .int (nI (fr - 1)), .int (nI lc), .int (nI rc)])), (mo, .inr (4, [.int (nI fr), .int (nI (tr + (bk ((cG f g k lc (fr - 1) n 2) gr) + (bk ((cG f2 g2 k2 rc (fr - 1) n2 2) gr))))), .int (nI (max mh fr)), .int (nI sm)])), (r, .inr (0, [.int (nI k), .ref v, .ref a, .ref b, .int (nI n)])), (v, .inl (cL, nv, .inr (.inl f))), (a, .inl (cI, ns, .inl (zN g))), (b, .inl (cI, ns, .inl (zN h))), (r2, .inr (0, [.int (nI k2), .ref v2, .ref a2, .ref b2, .int (nI n2)])), (v2, .inl (cL, nv2, .inr (.inl f2))), (a2, .inl (cI, ns2, .inl (zN g2))), (b2, .inl (cI, ns2, .inl (zN h2)))])) hP hD hS hA [1] [0, 2, 3, 4, 5, 6, 7, 8, 9] [0, 9, 1, 2, 3, 4, 5, 6, 7, 8] rfl rfl (by decide) (by decide) (fun _ => rfl) (by decide) (va_runV (As := [.int (nI (bk ((cG f g k lc (fr - 1) n 2) gr) + (bk ((cG f2 g2 k2 rc (fr - 1) n2 2) gr)))), .int (nI fr)]) (rest := []) ⟨hx, hb, hml, hown, hts⟩ (c_Meter_addStep l D cI cL cZ cW cR _ mo fr tr mh sm (bk ((cG f g k lc (fr - 1) n 2) gr) + (bk ((cG f2 g2 k2 rc (fr - 1) n2 2) gr))) fr (by omega) (by omega)) (cwV 2 hts (zk_gV (fun _ h => List.mem_cons_of_mem _ h) ml_Matcher_50 im_Meter_addStep se_Meter_addStep in_Meter co_Meter_addStep) rfl rfl rfl ⟨rfl, hd_Meter_addStep⟩ ⟨Nat.le_of_ble_eq_true rfl, Nat.le_of_ble_eq_true rfl⟩) (zk_vw (q0 := 0) hN hK hPc hDc rfl rfl) rfl rfl hl.1 rfl (lv_room (Nat.le_of_ble_eq_true rfl)) d_Matcher_matchPart_52 ⟨Nat.zero_le _, Nat.zero_le _⟩) (fun u H locs hpost hP hD hS => ?_)
  have hP : va_P D vwCl [(ma, .inr (5, [.ref mo, .ref r, .ref r2, .int (nI (fr - 1)), .int (nI lc), .int (nI rc)])), (mo, .inr (4, [.int (nI fr), .int (nI (tr + (bk ((cG f g k lc (fr - 1) n 2) gr) + (bk ((cG f2 g2 k2 rc (fr - 1) n2 2) gr))))), .int (nI (max mh fr)), .int (nI sm)])), (r, .inr (0, [.int (nI k), .ref v, .ref a, .ref b, .int (nI n)])), (v, .inl (cL, nv, .inr (.inl f))), (a, .inl (cI, ns, .inl (zN g))), (b, .inl (cI, ns, .inl (zN h))), (r2, .inr (0, [.int (nI k2), .ref v2, .ref a2, .ref b2, .int (nI n2)])), (v2, .inl (cL, nv2, .inr (.inl f2))), (a2, .inl (cI, ns2, .inl (zN g2))), (b2, .inl (cI, ns2, .inl (zN h2)))] H := hP
  have hD : va_D A [(ma, .inr (5, [.ref mo, .ref r, .ref r2, .int (nI (fr - 1)), .int (nI lc), .int (nI rc)])), (mo, .inr (4, [.int (nI fr), .int (nI (tr + (bk ((cG f g k lc (fr - 1) n 2) gr) + (bk ((cG f2 g2 k2 rc (fr - 1) n2 2) gr))))), .int (nI (max mh fr)), .int (nI sm)])), (r, .inr (0, [.int (nI k), .ref v, .ref a, .ref b, .int (nI n)])), (v, .inl (cL, nv, .inr (.inl f))), (a, .inl (cI, ns, .inl (zN g))), (b, .inl (cI, ns, .inl (zN h))), (r2, .inr (0, [.int (nI k2), .ref v2, .ref a2, .ref b2, .int (nI n2)])), (v2, .inl (cL, nv2, .inr (.inl f2))), (a2, .inl (cI, ns2, .inl (zN g2))), (b2, .inl (cI, ns2, .inl (zN h2)))] := hD
  refine lv_aload_n hx hb d_Matcher_matchPart_55 rfl (lv_at hl 2 rfl) ?_
  refine lv_iload_n hx hb d_Matcher_matchPart_56 rfl (lv_at hl 3 rfl) ?_
  refine lv_iload_n hx hb d_Matcher_matchPart_57 rfl (lv_at hl 4 rfl) ?_
  refine lv_iload_n hx hb d_Matcher_matchPart_58 rfl (lv_at hl 1 rfl) ?_
  refine lv_iload hx hb d_Matcher_matchPart_59 (lv_at hl 0 rfl) ?_
  have hPc := hP.sub (ws' := [(ma, .inr (5, [.ref mo, .ref r, .ref r2, .int (nI (fr - 1)), .int (nI lc), .int (nI rc)])), (mo, .inr (4, [.int (nI fr), .int (nI (tr + (bk ((cG f g k lc (fr - 1) n 2) gr) + (bk ((cG f2 g2 k2 rc (fr - 1) n2 2) gr))))), .int (nI (max mh fr)), .int (nI sm)])), (r, .inr (0, [.int (nI k), .ref v, .ref a, .ref b, .int (nI n)])), (v, .inl (cL, nv, .inr (.inl f))), (a, .inl (cI, ns, .inl (zN g))), (b, .inl (cI, ns, .inl (zN h))), (r2, .inr (0, [.int (nI k2), .ref v2, .ref a2, .ref b2, .int (nI n2)])), (v2, .inl (cL, nv2, .inr (.inl f2))), (a2, .inl (cI, ns2, .inl (zN g2))), (b2, .inl (cI, ns2, .inl (zN h2)))]) [0, 1, 2, 3, 4, 5, 6, 7, 8, 9] rfl
  have hDc := hD.sub (ws' := [(ma, .inr (5, [.ref mo, .ref r, .ref r2, .int (nI (fr - 1)), .int (nI lc), .int (nI rc)])), (mo, .inr (4, [.int (nI fr), .int (nI (tr + (bk ((cG f g k lc (fr - 1) n 2) gr) + (bk ((cG f2 g2 k2 rc (fr - 1) n2 2) gr))))), .int (nI (max mh fr)), .int (nI sm)])), (r, .inr (0, [.int (nI k), .ref v, .ref a, .ref b, .int (nI n)])), (v, .inl (cL, nv, .inr (.inl f))), (a, .inl (cI, ns, .inl (zN g))), (b, .inl (cI, ns, .inl (zN h))), (r2, .inr (0, [.int (nI k2), .ref v2, .ref a2, .ref b2, .int (nI n2)])), (v2, .inl (cL, nv2, .inr (.inl f2))), (a2, .inl (cI, ns2, .inl (zN g2))), (b2, .inl (cI, ns2, .inl (zN h2)))]) [0, 1, 2, 3, 4, 5, 6, 7, 8, 9] (by decide) rfl
  refine zk_wv (wr := []) (w2 := (fun _ => [(ma, .inr (5, [.ref mo, .ref r, .ref r2, .int (nI (fr - 1)), .int (nI lc), .int (nI rc)])), (mo, .inr (4, [.int (nI fr), .int (nI ((mG2 fr ((cG f g k lc (fr - 1) n 2) gr) ((cG f2 g2 k2 rc (fr - 1) n2 2) gr) (tr + (bk ((cG f g k lc (fr - 1) n 2) gr) + (bk ((cG f2 g2 k2 rc (fr - 1) n2 2) gr))), max mh fr)).1)), .int (nI ((mG2 fr ((cG f g k lc (fr - 1) n 2) gr) ((cG f2 g2 k2 rc (fr - 1) n2 2) gr) (tr + (bk ((cG f g k lc (fr - 1) n 2) gr) + (bk ((cG f2 g2 k2 rc (fr - 1) n2 2) gr))), max mh fr)).2)), .int (nI sm)])), (r, .inr (0, [.int (nI k), .ref v, .ref a, .ref b, .int (nI n)])), (v, .inl (cL, nv, .inr (.inl f))), (a, .inl (cI, ns, .inl (zN g))), (b, .inl (cI, ns, .inl (zN h))), (r2, .inr (0, [.int (nI k2), .ref v2, .ref a2, .ref b2, .int (nI n2)])), (v2, .inl (cL, nv2, .inr (.inl f2))), (a2, .inl (cI, ns2, .inl (zN g2))), (b2, .inl (cI, ns2, .inl (zN h2)))])) hP hD hS hA [0, 1, 2, 3, 4, 5, 6, 7, 8, 9] [] [0, 1, 2, 3, 4, 5, 6, 7, 8, 9] rfl rfl (by decide) (by decide) (fun _ => rfl) (by decide) (va_runV (As := [.int (nI 2), .int (nI gr), .int (nI ((cG f g k lc (fr - 1) n 2) gr)), .int (nI ((cG f2 g2 k2 rc (fr - 1) n2 2) gr))]) (rest := []) ⟨hx, hb, hml, hown, hts⟩ (c_Matcher_matchGroup_2 l D cI cL cZ cW cR _ ma lc rc mo fr (tr + (bk ((cG f g k lc (fr - 1) n 2) gr) + (bk ((cG f2 g2 k2 rc (fr - 1) n2 2) gr)))) (max mh fr) sm r v a b k n nv ns f g h r2 v2 a2 b2 k2 n2 nv2 ns2 f2 g2 h2 gr ((cG f g k lc (fr - 1) n 2) gr) ((cG f2 g2 k2 rc (fr - 1) n2 2) gr) hgr (by omega) (by omega) hfr hfr2 (by omega) hn hns hnv hg hn2 hns2 hnv2 hg2) (cwV 4 hts (zk_gV (fun _ h => List.mem_cons_of_mem _ h) ml_Matcher_42 im_Matcher_matchGroup se_Matcher_matchGroup in_Matcher co_Matcher_matchGroup) rfl rfl rfl ⟨rfl, hd_Matcher_matchGroup⟩ ⟨Nat.le_of_ble_eq_true rfl, Nat.le_of_ble_eq_true rfl⟩) (zk_vw (q0 := 0) hN hK hPc hDc rfl rfl) rfl rfl hl.1 rfl (lv_room (Nat.le_of_ble_eq_true rfl)) d_Matcher_matchPart_61 ⟨Nat.zero_le _, Nat.zero_le _⟩) (fun u H locs hpost hP hD hS => ?_)
  have hP : va_P D vwCl [(ma, .inr (5, [.ref mo, .ref r, .ref r2, .int (nI (fr - 1)), .int (nI lc), .int (nI rc)])), (mo, .inr (4, [.int (nI fr), .int (nI ((mG2 fr ((cG f g k lc (fr - 1) n 2) gr) ((cG f2 g2 k2 rc (fr - 1) n2 2) gr) (tr + (bk ((cG f g k lc (fr - 1) n 2) gr) + (bk ((cG f2 g2 k2 rc (fr - 1) n2 2) gr))), max mh fr)).1)), .int (nI ((mG2 fr ((cG f g k lc (fr - 1) n 2) gr) ((cG f2 g2 k2 rc (fr - 1) n2 2) gr) (tr + (bk ((cG f g k lc (fr - 1) n 2) gr) + (bk ((cG f2 g2 k2 rc (fr - 1) n2 2) gr))), max mh fr)).2)), .int (nI sm)])), (r, .inr (0, [.int (nI k), .ref v, .ref a, .ref b, .int (nI n)])), (v, .inl (cL, nv, .inr (.inl f))), (a, .inl (cI, ns, .inl (zN g))), (b, .inl (cI, ns, .inl (zN h))), (r2, .inr (0, [.int (nI k2), .ref v2, .ref a2, .ref b2, .int (nI n2)])), (v2, .inl (cL, nv2, .inr (.inl f2))), (a2, .inl (cI, ns2, .inl (zN g2))), (b2, .inl (cI, ns2, .inl (zN h2)))] H := hP
  have hD : va_D A [(ma, .inr (5, [.ref mo, .ref r, .ref r2, .int (nI (fr - 1)), .int (nI lc), .int (nI rc)])), (mo, .inr (4, [.int (nI fr), .int (nI ((mG2 fr ((cG f g k lc (fr - 1) n 2) gr) ((cG f2 g2 k2 rc (fr - 1) n2 2) gr) (tr + (bk ((cG f g k lc (fr - 1) n 2) gr) + (bk ((cG f2 g2 k2 rc (fr - 1) n2 2) gr))), max mh fr)).1)), .int (nI ((mG2 fr ((cG f g k lc (fr - 1) n 2) gr) ((cG f2 g2 k2 rc (fr - 1) n2 2) gr) (tr + (bk ((cG f g k lc (fr - 1) n 2) gr) + (bk ((cG f2 g2 k2 rc (fr - 1) n2 2) gr))), max mh fr)).2)), .int (nI sm)])), (r, .inr (0, [.int (nI k), .ref v, .ref a, .ref b, .int (nI n)])), (v, .inl (cL, nv, .inr (.inl f))), (a, .inl (cI, ns, .inl (zN g))), (b, .inl (cI, ns, .inl (zN h))), (r2, .inr (0, [.int (nI k2), .ref v2, .ref a2, .ref b2, .int (nI n2)])), (v2, .inl (cL, nv2, .inr (.inl f2))), (a2, .inl (cI, ns2, .inl (zN g2))), (b2, .inl (cI, ns2, .inl (zN h2)))] := hD
  exact zk_vretW hx hb hr hlk hAe hQ hK (()) (trivial) hP hD hS d_Matcher_matchPart_64
theorem mP2_lt {f f2 : Nat → Int64} {g g2 : Nat → Nat} {k k2 lc rc n n2 fr gr : Nat} {x : Nat × Nat} (hf : fr ≤ 8) (h : x.2 < 500) : ((mP fr (cG f g k lc (fr - 1) n 2) (cG f2 g2 k2 rc (fr - 1) n2 2) (fun _ => mG2 fr)) gr x).2 < 500 := mG2_lt hf (stp_lt h (by omega))
set_option maxHeartbeats 4000000 in
set_option maxRecDepth 100000 in
theorem c_Matcher_matchGroup_1 (l : Launch) (D : va_G) (cI cL cZ cW cR : ClassId) (sz : Nat) (ma lc rc : Nat) (mo fr tr mh sm : Nat) (r v a b k n nv ns : Nat) (f : Nat → Int64) (g h : Nat → Nat) (r2 v2 a2 b2 k2 n2 nv2 ns2 : Nat) (f2 : Nat → Int64) (g2 h2 : Nat → Nat) (gr lr rr : Nat) (hgr : gr < 100) (hlr : lr < 1000) (hrr : rr < 1000) (hfr : 3 ≤ fr) (hfr2 : fr ≤ 8) (hmh : mh < 500) (hn : n ≤ ns) (hns : ns < 1000) (hnv : nv < 100000) (hg : ∀ z, z < n → g z * k + lc < nv) (hn2 : n2 ≤ ns2) (hns2 : ns2 < 1000) (hnv2 : nv2 < 100000) (hg2 : ∀ z, z < n2 → g2 z * k2 + rc < nv2) : Met l y_Matcher_matchGroup ws_Matcher_matchGroup rm5_190 (zPw D vwCl (zT cI cL cZ cW cR) [(ma, .inr (5, [.ref mo, .ref r, .ref r2, .int (nI (fr - 1)), .int (nI lc), .int (nI rc)])), (mo, .inr (4, [.int (nI fr), .int (nI tr), .int (nI mh), .int (nI sm)])), (r, .inr (0, [.int (nI k), .ref v, .ref a, .ref b, .int (nI n)])), (v, .inl (cL, nv, .inr (.inl f))), (a, .inl (cI, ns, .inl (zN g))), (b, .inl (cI, ns, .inl (zN h))), (r2, .inr (0, [.int (nI k2), .ref v2, .ref a2, .ref b2, .int (nI n2)])), (v2, .inl (cL, nv2, .inr (.inl f2))), (a2, .inl (cI, ns2, .inl (zN g2))), (b2, .inl (cI, ns2, .inl (zN h2)))] sz [.ref ma, .int (nI 1), .int (nI gr), .int (nI lr), .int (nI rr)]) (zQv D vwCl (zT cI cL cZ cW cR) [(ma, .inr (5, [.ref mo, .ref r, .ref r2, .int (nI (fr - 1)), .int (nI lc), .int (nI rc)])), (mo, .inr (4, [.int (nI fr), .int (nI tr), .int (nI mh), .int (nI sm)])), (r, .inr (0, [.int (nI k), .ref v, .ref a, .ref b, .int (nI n)])), (v, .inl (cL, nv, .inr (.inl f))), (a, .inl (cI, ns, .inl (zN g))), (b, .inl (cI, ns, .inl (zN h))), (r2, .inr (0, [.int (nI k2), .ref v2, .ref a2, .ref b2, .int (nI n2)])), (v2, .inl (cL, nv2, .inr (.inl f2))), (a2, .inl (cI, ns2, .inl (zN g2))), (b2, .inl (cI, ns2, .inl (zN h2)))] sz (fun _ : Unit => True) (fun _ => [(ma, .inr (5, [.ref mo, .ref r, .ref r2, .int (nI (fr - 1)), .int (nI lc), .int (nI rc)])), (mo, .inr (4, [.int (nI fr), .int (nI ((mGs fr (mP fr (cG f g k lc (fr - 1) n 2) (cG f2 g2 k2 rc (fr - 1) n2 2) (fun _ => mG2 fr)) gr lr rr (tr, mh)).1)), .int (nI ((mGs fr (mP fr (cG f g k lc (fr - 1) n 2) (cG f2 g2 k2 rc (fr - 1) n2 2) (fun _ => mG2 fr)) gr lr rr (tr, mh)).2)), .int (nI sm)])), (r, .inr (0, [.int (nI k), .ref v, .ref a, .ref b, .int (nI n)])), (v, .inl (cL, nv, .inr (.inl f))), (a, .inl (cI, ns, .inl (zN g))), (b, .inl (cI, ns, .inl (zN h))), (r2, .inr (0, [.int (nI k2), .ref v2, .ref a2, .ref b2, .int (nI n2)])), (v2, .inl (cL, nv2, .inr (.inl f2))), (a2, .inl (cI, ns2, .inl (zN g2))), (b2, .inl (cI, ns2, .inl (zN h2)))])) 0 0 (va_A [(ma, .inr (5, [.ref mo, .ref r, .ref r2, .int (nI (fr - 1)), .int (nI lc), .int (nI rc)])), (mo, .inr (4, [.int (nI fr), .int (nI tr), .int (nI mh), .int (nI sm)])), (r, .inr (0, [.int (nI k), .ref v, .ref a, .ref b, .int (nI n)])), (v, .inl (cL, nv, .inr (.inl f))), (a, .inl (cI, ns, .inl (zN g))), (b, .inl (cI, ns, .inl (zN h))), (r2, .inr (0, [.int (nI k2), .ref v2, .ref a2, .ref b2, .int (nI n2)])), (v2, .inl (cL, nv2, .inr (.inl f2))), (a2, .inl (cI, ns2, .inl (zN g2))), (b2, .inl (cI, ns2, .inl (zN h2)))] sz) := by
  refine zk_enterW (cc := b_Matcher_matchGroup) (maxL := 9) (ret := none) (by decide) rfl (Nat.le_of_ble_eq_true rfl) ?_
  intro p e s m args below meth c ls Q hx hb hml hr hlk hown hts hP hK hN hl hin hsz A hAe hA hD hS hQ
  subst hsz
  have hl : lv_has ls 9 [(0, .ref ma), (1, .int (nI 1)), (2, .int (nI gr)), (3, .int (nI lr)), (4, .int (nI rr))] := hl
  have hb1 : bk lr < 1000 := by unfold bk; omega
  have hb2 : bk rr < 1000 := by unfold bk; omega
  have hmh1 : mh < 1000 := by omega
  have hgm : gr * (fr - 1) ≤ 99 * 7 := Nat.mul_le_mul (by omega) (by omega)
  refine lv_iload_n hx hb d_Matcher_matchGroup_0 rfl (lv_at hl 3 rfl) ?_
  refine zk_if_eq (tgt := 9) hx hb d_Matcher_matchGroup_1 rfl (by omega) (fun h1 => ?_) (fun h1 => ?_)
  · skip
    have hz : mGs fr (mP fr (cG f g k lc (fr - 1) n 2) (cG f2 g2 k2 rc (fr - 1) n2 2) (fun _ => mG2 fr)) gr lr rr (tr, mh) = (tr, mh) := if_pos (Or.inl h1)
    rw [hz] at hQ
    exact zk_vretW hx hb hr hlk hAe hQ hK (()) (trivial) hP hD hS d_Matcher_matchGroup_9
  · skip
    refine lv_iload hx hb d_Matcher_matchGroup_4 (lv_at hl 4 rfl) ?_
    refine zk_if_ne (tgt := 10) hx hb d_Matcher_matchGroup_6 rfl (by omega) (fun h6 => ?_) (fun h6 => ?_)
    · skip
      have h16 : ¬ (lr = 0 ∨ rr = 0) := fun q => q.elim h1 h6
      refine lv_iload_n hx hb d_Matcher_matchGroup_10 rfl (lv_at hl 3 rfl) ?_
      have hPc := hP.sub (ws' := []) [] rfl
      refine zk_ri (va_runSN (As := [.int (nI lr)]) (rest := []) ⟨hx, hb, hml, hown, hts⟩ (c_FQ_blocksOf l D cI cL cZ cW cR lr (by omega)) ⟨(va_cnB 1 hts (zk_gC (fun _ h => List.mem_cons_of_mem _ h) co_FQ_blocksOf) rfl rfl rfl (hN.1 _ nl_Matcher_46) (hts _ (List.mem_cons_of_mem _ in_FQ)) hd_FQ_blocksOf ⟨Nat.le_of_ble_eq_true rfl, Nat.le_of_ble_eq_true rfl⟩), (hts _ (List.mem_cons_of_mem _ sm_FQ_blocksOf)), trivial⟩ (zk_sr hN hK hPc) rfl rfl hl.1 rfl (lv_room (Nat.le_of_ble_eq_true rfl)) d_Matcher_matchGroup_11 ⟨Nat.zero_le _, Nat.zero_le _⟩) ?_
      refine lv_istore (lv' := [(5, .int (nI (bk lr))), (0, .ref ma), (1, .int (nI 1)), (2, .int (nI gr)), (3, .int (nI lr)), (4, .int (nI rr))]) hx hb d_Matcher_matchGroup_14 hl (by decide) rfl (fun ls hl => ?_)
      refine lv_iload hx hb d_Matcher_matchGroup_16 (lv_at hl 5 rfl) ?_
      have hPc := hP.sub (ws' := []) [] rfl
      refine zk_ri (va_runSN (As := [.int (nI rr)]) (rest := []) ⟨hx, hb, hml, hown, hts⟩ (c_FQ_blocksOf l D cI cL cZ cW cR rr (by omega)) ⟨(va_cnB 1 hts (zk_gC (fun _ h => List.mem_cons_of_mem _ h) co_FQ_blocksOf) rfl rfl rfl (hN.1 _ nl_Matcher_46) (hts _ (List.mem_cons_of_mem _ in_FQ)) hd_FQ_blocksOf ⟨Nat.le_of_ble_eq_true rfl, Nat.le_of_ble_eq_true rfl⟩), (hts _ (List.mem_cons_of_mem _ sm_FQ_blocksOf)), trivial⟩ (zk_sr hN hK hPc) rfl rfl hl.1 rfl (lv_room (Nat.le_of_ble_eq_true rfl)) d_Matcher_matchGroup_18 ⟨Nat.zero_le _, Nat.zero_le _⟩) ?_
      refine lv_istore (lv' := [(6, .int (nI (bk rr))), (5, .int (nI (bk lr))), (0, .ref ma), (1, .int (nI 1)), (2, .int (nI gr)), (3, .int (nI lr)), (4, .int (nI rr))]) hx hb d_Matcher_matchGroup_21 hl (by decide) rfl (fun ls hl => ?_)
      refine lv_aload_n hx hb d_Matcher_matchGroup_23 rfl (lv_at hl 2 rfl) ?_
      refine va_get (C := R_Matcher) (T := F_Matcher) (N := 6) hx hb hts (fun w h => List.mem_cons_of_mem _ (hin_Matcher w h)) hown hK hP 0 rfl rfl 0 (by decide) (hts _ (List.mem_cons_of_mem _ fl_Matcher_9)) (fun _ h => h) rfl d_Matcher_matchGroup_24 ?_
      refine va_get (C := R_Meter) (T := F_Meter) (N := 4) hx hb hts (fun w h => List.mem_cons_of_mem _ (hin_Meter w h)) hown hK hP 1 rfl rfl 0 (by decide) (hts _ (List.mem_cons_of_mem _ fl_Matcher_22)) (fun _ h => h) rfl d_Matcher_matchGroup_27 ?_
      refine lv_iconst (v := nI 2) hx hb d_Matcher_matchGroup_30 (by decide) ?_
      refine lv_isub hx hb d_Matcher_matchGroup_31 ?_
      refine zk_topi (show ((nI fr) - (nI 2)) = nI (fr - 2) from pk_sub (by omega)) ?_
      refine lv_istore (lv' := [(7, .int (nI (fr - 2))), (6, .int (nI (bk rr))), (5, .int (nI (bk lr))), (0, .ref ma), (1, .int (nI 1)), (2, .int (nI gr)), (3, .int (nI lr)), (4, .int (nI rr))]) hx hb d_Matcher_matchGroup_32 hl (by decide) rfl (fun ls hl => ?_)
      refine lv_iload hx hb d_Matcher_matchGroup_34 (lv_at hl 1 rfl) ?_
      refine lv_iload hx hb d_Matcher_matchGroup_36 (lv_at hl 0 rfl) ?_
      refine zk_icmp_gt (tgt := 60) hx hb d_Matcher_matchGroup_38 rfl (by omega) (by omega) (fun h38 => ?_) (fun h38 => ?_)
      · skip
        refine lv_iload_n hx hb d_Matcher_matchGroup_60 rfl (lv_at hl 4 rfl) ?_
        refine lv_iconst (v := nI 2) hx hb d_Matcher_matchGroup_61 (by decide) ?_
        refine zk_icmp_lt (tgt := 95) hx hb d_Matcher_matchGroup_62 rfl (by omega) (by omega) (fun _ => ?_) (fun hq => absurd hq (by omega))
        refine lv_aload_n hx hb d_Matcher_matchGroup_95 rfl (lv_at hl 3 rfl) ?_
        refine va_get (C := R_Matcher) (T := F_Matcher) (N := 6) hx hb hts (fun w h => List.mem_cons_of_mem _ (hin_Matcher w h)) hown hK hP 0 rfl rfl 0 (by decide) (hts _ (List.mem_cons_of_mem _ fl_Matcher_9)) (fun _ h => h) rfl d_Matcher_matchGroup_96 ?_
        refine lv_iload hx hb d_Matcher_matchGroup_99 (lv_at hl 2 rfl) ?_
        refine lv_iload hx hb d_Matcher_matchGroup_101 (lv_at hl 1 rfl) ?_
        refine lv_iadd hx hb d_Matcher_matchGroup_103 ?_
        refine zk_topi (show ((nI (bk lr)) + (nI (bk rr))) = nI (bk lr + (bk rr)) from nI_add (bk lr) (bk rr)) ?_
        refine lv_aload_n hx hb d_Matcher_matchGroup_104 rfl (lv_at hl 3 rfl) ?_
        refine va_get (C := R_Matcher) (T := F_Matcher) (N := 6) hx hb hts (fun w h => List.mem_cons_of_mem _ (hin_Matcher w h)) hown hK hP 0 rfl rfl 0 (by decide) (hts _ (List.mem_cons_of_mem _ fl_Matcher_9)) (fun _ h => h) rfl d_Matcher_matchGroup_105 ?_
        refine va_get (C := R_Meter) (T := F_Meter) (N := 4) hx hb hts (fun w h => List.mem_cons_of_mem _ (hin_Meter w h)) hown hK hP 1 rfl rfl 0 (by decide) (hts _ (List.mem_cons_of_mem _ fl_Matcher_22)) (fun _ h => h) rfl d_Matcher_matchGroup_108 ?_
        have hPc := hP.sub (ws' := [(mo, .inr (4, [.int (nI fr), .int (nI tr), .int (nI mh), .int (nI sm)]))]) [1] rfl
        have hDc := hD.sub (ws' := [(mo, .inr (4, [.int (nI fr), .int (nI tr), .int (nI mh), .int (nI sm)]))]) [1] (by decide) rfl
        refine zk_wv (wr := [(ma, .inr (5, [.ref mo, .ref r, .ref r2, .int (nI (fr - 1)), .int (nI lc), .int (nI rc)])), (r, .inr (0, [.int (nI k), .ref v, .ref a, .ref b, .int (nI n)])), (v, .inl (cL, nv, .inr (.inl f))), (a, .inl (cI, ns, .inl (zN g))), (b, .inl (cI, ns, .inl (zN h))), (r2, .inr (0, [.int (nI k2), .ref v2, .ref a2, .ref b2, .int (nI n2)])), (v2, .inl (cL, nv2, .inr (.inl f2))), (a2, .inl (cI, ns2, .inl (zN g2))), (b2, .inl (cI, ns2, .inl (zN h2)))]) (w2 := (fun _ => [(ma, .inr (5, [.ref mo, .ref r, .ref r2, .int (nI (fr - 1)), .int (nI lc), .int (nI rc)])), (mo, .inr (4, [.int (nI fr), .int (nI (tr + (bk lr + (bk rr)))), .int (nI (max mh fr)), .int (nI sm)])), (r, .inr (0, [.int (nI k), .ref v, .ref a, .ref b, .int (nI n)])), (v, .inl (cL, nv, .inr (.inl f))), (a, .inl (cI, ns, .inl (zN g))), (b, .inl (cI, ns, .inl (zN h))), (r2, .inr (0, [.int (nI k2), .ref v2, .ref a2, .ref b2, .int (nI n2)])), (v2, .inl (cL, nv2, .inr (.inl f2))), (a2, .inl (cI, ns2, .inl (zN g2))), (b2, .inl (cI, ns2, .inl (zN h2)))])) hP hD hS hA [1] [0, 2, 3, 4, 5, 6, 7, 8, 9] [0, 9, 1, 2, 3, 4, 5, 6, 7, 8] rfl rfl (by decide) (by decide) (fun _ => rfl) (by decide) (va_runV (As := [.int (nI (bk lr + (bk rr))), .int (nI fr)]) (rest := []) ⟨hx, hb, hml, hown, hts⟩ (c_Meter_addStep l D cI cL cZ cW cR _ mo fr tr mh sm (bk lr + (bk rr)) fr hmh1 (by omega)) (cwV 2 hts (zk_gV (fun _ h => List.mem_cons_of_mem _ h) ml_Matcher_50 im_Meter_addStep se_Meter_addStep in_Meter co_Meter_addStep) rfl rfl rfl ⟨rfl, hd_Meter_addStep⟩ ⟨Nat.le_of_ble_eq_true rfl, Nat.le_of_ble_eq_true rfl⟩) (zk_vw (q0 := 0) hN hK hPc hDc rfl rfl) rfl rfl hl.1 rfl (lv_room (Nat.le_of_ble_eq_true rfl)) d_Matcher_matchGroup_111 ⟨Nat.zero_le _, Nat.zero_le _⟩) (fun u H locs hpost hP hD hS => ?_)
        have hP : va_P D vwCl [(ma, .inr (5, [.ref mo, .ref r, .ref r2, .int (nI (fr - 1)), .int (nI lc), .int (nI rc)])), (mo, .inr (4, [.int (nI fr), .int (nI (tr + (bk lr + (bk rr)))), .int (nI (max mh fr)), .int (nI sm)])), (r, .inr (0, [.int (nI k), .ref v, .ref a, .ref b, .int (nI n)])), (v, .inl (cL, nv, .inr (.inl f))), (a, .inl (cI, ns, .inl (zN g))), (b, .inl (cI, ns, .inl (zN h))), (r2, .inr (0, [.int (nI k2), .ref v2, .ref a2, .ref b2, .int (nI n2)])), (v2, .inl (cL, nv2, .inr (.inl f2))), (a2, .inl (cI, ns2, .inl (zN g2))), (b2, .inl (cI, ns2, .inl (zN h2)))] H := hP
        have hD : va_D A [(ma, .inr (5, [.ref mo, .ref r, .ref r2, .int (nI (fr - 1)), .int (nI lc), .int (nI rc)])), (mo, .inr (4, [.int (nI fr), .int (nI (tr + (bk lr + (bk rr)))), .int (nI (max mh fr)), .int (nI sm)])), (r, .inr (0, [.int (nI k), .ref v, .ref a, .ref b, .int (nI n)])), (v, .inl (cL, nv, .inr (.inl f))), (a, .inl (cI, ns, .inl (zN g))), (b, .inl (cI, ns, .inl (zN h))), (r2, .inr (0, [.int (nI k2), .ref v2, .ref a2, .ref b2, .int (nI n2)])), (v2, .inl (cL, nv2, .inr (.inl f2))), (a2, .inl (cI, ns2, .inl (zN g2))), (b2, .inl (cI, ns2, .inl (zN h2)))] := hD
        refine lv_iconst (v := nI 0) hx hb d_Matcher_matchGroup_114 (by decide) ?_
        refine lv_istore (lv' := [(8, .int (nI 0)), (7, .int (nI (fr - 2))), (6, .int (nI (bk rr))), (5, .int (nI (bk lr))), (0, .ref ma), (1, .int (nI 1)), (2, .int (nI gr)), (3, .int (nI lr)), (4, .int (nI rr))]) hx hb d_Matcher_matchGroup_115 hl (by decide) rfl (fun ls hl => ?_)
        have lb117 : ∀ (fuel117 : Nat) (t : Nat) (y1 : Nat) (y2 : Nat), (t ≤ fr - 1) → ((y1, y2) = itr (fun i y => (mP fr (cG f g k lc (fr - 1) n 2) (cG f2 g2 k2 rc (fr - 1) n2 2) (fun _ => mG2 fr)) (gr * (fr - 1) + i) y) t (stp (tr, mh) (bk lr + bk rr) fr)) → (y2 < 500) → fr - 1 - t < fuel117 → ∀ (ls : Array Slot) (H : Heap) (locs : List Loc), lv_has ls 9 [(0, .ref ma), (1, .int (nI 1)), (2, .int (nI gr)), (8, .int (nI t))] → va_P D vwCl [(ma, .inr (5, [.ref mo, .ref r, .ref r2, .int (nI (fr - 1)), .int (nI lc), .int (nI rc)])), (mo, .inr (4, [.int (nI fr), .int (nI y1), .int (nI y2), .int (nI sm)])), (r, .inr (0, [.int (nI k), .ref v, .ref a, .ref b, .int (nI n)])), (v, .inl (cL, nv, .inr (.inl f))), (a, .inl (cI, ns, .inl (zN g))), (b, .inl (cI, ns, .inl (zN h))), (r2, .inr (0, [.int (nI k2), .ref v2, .ref a2, .ref b2, .int (nI n2)])), (v2, .inl (cL, nv2, .inr (.inl f2))), (a2, .inl (cI, ns2, .inl (zN g2))), (b2, .inl (cI, ns2, .inl (zN h2)))] H → va_D A [(ma, .inr (5, [.ref mo, .ref r, .ref r2, .int (nI (fr - 1)), .int (nI lc), .int (nI rc)])), (mo, .inr (4, [.int (nI fr), .int (nI y1), .int (nI y2), .int (nI sm)])), (r, .inr (0, [.int (nI k), .ref v, .ref a, .ref b, .int (nI n)])), (v, .inl (cL, nv, .inr (.inl f))), (a, .inl (cI, ns, .inl (zN g))), (b, .inl (cI, ns, .inl (zN h))), (r2, .inr (0, [.int (nI k2), .ref v2, .ref a2, .ref b2, .int (nI n2)])), (v2, .inl (cL, nv2, .inr (.inl f2))), (a2, .inl (cI, ns2, .inl (zN g2))), (b2, .inl (cI, ns2, .inl (zN h2)))] → va_S A s.heap H locs → W p l e rm5_190 s m args below meth c H locs 0 0 Q (F0 m 117 ls []) := by
          intro fuel117
          induction fuel117 with
          | zero => intro t y1 y2 ht hy hy2 hfu117; exact absurd hfu117 (Nat.not_lt_zero _)
          | succ fuel117 ih117 =>
            intro t y1 y2 ht hy hy2 hfu117 ls H locs hl hP hD hS
            refine lv_iload hx hb d_Matcher_matchGroup_117 (lv_at hl 3 rfl) ?_
            refine lv_aload_n hx hb d_Matcher_matchGroup_119 rfl (lv_at hl 0 rfl) ?_
            refine va_get (C := R_Matcher) (T := F_Matcher) (N := 6) hx hb hts (fun w h => List.mem_cons_of_mem _ (hin_Matcher w h)) hown hK hP 0 rfl rfl 3 (by decide) (hts _ (List.mem_cons_of_mem _ fl_Matcher_28)) (fun _ h => h) rfl d_Matcher_matchGroup_120 ?_
            refine zk_icmp_ge (tgt := 148) hx hb d_Matcher_matchGroup_123 rfl (by omega) (by omega) (fun h123 => ?_) (fun h123 => ?_)
            · skip
              obtain rfl : t = fr - 1 := by omega
              have hz : mGs fr (mP fr (cG f g k lc (fr - 1) n 2) (cG f2 g2 k2 rc (fr - 1) n2 2) (fun _ => mG2 fr)) gr lr rr (tr, mh) = (y1, y2) := ((if_neg h16).trans (if_neg (by omega))).trans hy.symm
              rw [hz] at hQ
              exact zk_vretW hx hb hr hlk hAe hQ hK (()) (trivial) hP hD hS d_Matcher_matchGroup_148
            · skip
              refine lv_aload_n hx hb d_Matcher_matchGroup_126 rfl (lv_at hl 0 rfl) ?_
              refine lv_iload_n hx hb d_Matcher_matchGroup_127 rfl (lv_at hl 1 rfl) ?_
              refine lv_iconst (v := nI 1) hx hb d_Matcher_matchGroup_128 (by decide) ?_
              refine lv_iadd hx hb d_Matcher_matchGroup_129 ?_
              refine zk_topi (show ((nI 1) + (nI 1)) = nI (1 + 1) from nI_add 1 1) ?_
              refine lv_iload_n hx hb d_Matcher_matchGroup_130 rfl (lv_at hl 2 rfl) ?_
              refine lv_aload_n hx hb d_Matcher_matchGroup_131 rfl (lv_at hl 0 rfl) ?_
              refine va_get (C := R_Matcher) (T := F_Matcher) (N := 6) hx hb hts (fun w h => List.mem_cons_of_mem _ (hin_Matcher w h)) hown hK hP 0 rfl rfl 3 (by decide) (hts _ (List.mem_cons_of_mem _ fl_Matcher_28)) (fun _ h => h) rfl d_Matcher_matchGroup_132 ?_
              refine lv_imul hx hb d_Matcher_matchGroup_135 ?_
              refine zk_topi (show ((nI gr) * (nI (fr - 1))) = nI (gr * (fr - 1)) from pk_mul gr (fr - 1)) ?_
              refine lv_iload hx hb d_Matcher_matchGroup_136 (lv_at hl 3 rfl) ?_
              refine lv_iadd hx hb d_Matcher_matchGroup_138 ?_
              refine zk_topi (show ((nI (gr * (fr - 1))) + (nI t)) = nI (gr * (fr - 1) + t) from nI_add (gr * (fr - 1)) t) ?_
              have hPc := hP.sub (ws' := [(ma, .inr (5, [.ref mo, .ref r, .ref r2, .int (nI (fr - 1)), .int (nI lc), .int (nI rc)])), (mo, .inr (4, [.int (nI fr), .int (nI y1), .int (nI y2), .int (nI sm)])), (r, .inr (0, [.int (nI k), .ref v, .ref a, .ref b, .int (nI n)])), (v, .inl (cL, nv, .inr (.inl f))), (a, .inl (cI, ns, .inl (zN g))), (b, .inl (cI, ns, .inl (zN h))), (r2, .inr (0, [.int (nI k2), .ref v2, .ref a2, .ref b2, .int (nI n2)])), (v2, .inl (cL, nv2, .inr (.inl f2))), (a2, .inl (cI, ns2, .inl (zN g2))), (b2, .inl (cI, ns2, .inl (zN h2)))]) [0, 1, 2, 3, 4, 5, 6, 7, 8, 9] rfl
              have hDc := hD.sub (ws' := [(ma, .inr (5, [.ref mo, .ref r, .ref r2, .int (nI (fr - 1)), .int (nI lc), .int (nI rc)])), (mo, .inr (4, [.int (nI fr), .int (nI y1), .int (nI y2), .int (nI sm)])), (r, .inr (0, [.int (nI k), .ref v, .ref a, .ref b, .int (nI n)])), (v, .inl (cL, nv, .inr (.inl f))), (a, .inl (cI, ns, .inl (zN g))), (b, .inl (cI, ns, .inl (zN h))), (r2, .inr (0, [.int (nI k2), .ref v2, .ref a2, .ref b2, .int (nI n2)])), (v2, .inl (cL, nv2, .inr (.inl f2))), (a2, .inl (cI, ns2, .inl (zN g2))), (b2, .inl (cI, ns2, .inl (zN h2)))]) [0, 1, 2, 3, 4, 5, 6, 7, 8, 9] (by decide) rfl
              refine zk_wv (wr := []) (w2 := (fun _ => [(ma, .inr (5, [.ref mo, .ref r, .ref r2, .int (nI (fr - 1)), .int (nI lc), .int (nI rc)])), (mo, .inr (4, [.int (nI fr), .int (nI (((mP fr (cG f g k lc (fr - 1) n 2) (cG f2 g2 k2 rc (fr - 1) n2 2) (fun _ => mG2 fr)) (gr * (fr - 1) + t) (y1, y2)).1)), .int (nI (((mP fr (cG f g k lc (fr - 1) n 2) (cG f2 g2 k2 rc (fr - 1) n2 2) (fun _ => mG2 fr)) (gr * (fr - 1) + t) (y1, y2)).2)), .int (nI sm)])), (r, .inr (0, [.int (nI k), .ref v, .ref a, .ref b, .int (nI n)])), (v, .inl (cL, nv, .inr (.inl f))), (a, .inl (cI, ns, .inl (zN g))), (b, .inl (cI, ns, .inl (zN h))), (r2, .inr (0, [.int (nI k2), .ref v2, .ref a2, .ref b2, .int (nI n2)])), (v2, .inl (cL, nv2, .inr (.inl f2))), (a2, .inl (cI, ns2, .inl (zN g2))), (b2, .inl (cI, ns2, .inl (zN h2)))])) hP hD hS hA [0, 1, 2, 3, 4, 5, 6, 7, 8, 9] [] [0, 1, 2, 3, 4, 5, 6, 7, 8, 9] rfl rfl (by decide) (by decide) (fun _ => rfl) (by decide) (va_runV (As := [.int (nI (1 + 1)), .int (nI (gr * (fr - 1) + t))]) (rest := []) ⟨hx, hb, hml, hown, hts⟩ (c_Matcher_matchPart_2 l D cI cL cZ cW cR _ ma lc rc mo fr y1 y2 sm r v a b k n nv ns f g h r2 v2 a2 b2 k2 n2 nv2 ns2 f2 g2 h2 (gr * (fr - 1) + t) (by omega) hfr hfr2 hy2 hn hns hnv hg hn2 hns2 hnv2 hg2) (cwV 2 hts (zk_gV (fun _ h => List.mem_cons_of_mem _ h) ml_Matcher_58 im_Matcher_matchPart se_Matcher_matchPart in_Matcher co_Matcher_matchPart) rfl rfl rfl ⟨rfl, hd_Matcher_matchPart⟩ ⟨Nat.le_of_ble_eq_true rfl, Nat.le_of_ble_eq_true rfl⟩) (zk_vw (q0 := 0) hN hK hPc hDc rfl rfl) rfl rfl hl.1 rfl (lv_room (Nat.le_of_ble_eq_true rfl)) d_Matcher_matchGroup_139 ⟨Nat.zero_le _, Nat.zero_le _⟩) (fun u H locs hpost hP hD hS => ?_)
              have hP : va_P D vwCl [(ma, .inr (5, [.ref mo, .ref r, .ref r2, .int (nI (fr - 1)), .int (nI lc), .int (nI rc)])), (mo, .inr (4, [.int (nI fr), .int (nI (((mP fr (cG f g k lc (fr - 1) n 2) (cG f2 g2 k2 rc (fr - 1) n2 2) (fun _ => mG2 fr)) (gr * (fr - 1) + t) (y1, y2)).1)), .int (nI (((mP fr (cG f g k lc (fr - 1) n 2) (cG f2 g2 k2 rc (fr - 1) n2 2) (fun _ => mG2 fr)) (gr * (fr - 1) + t) (y1, y2)).2)), .int (nI sm)])), (r, .inr (0, [.int (nI k), .ref v, .ref a, .ref b, .int (nI n)])), (v, .inl (cL, nv, .inr (.inl f))), (a, .inl (cI, ns, .inl (zN g))), (b, .inl (cI, ns, .inl (zN h))), (r2, .inr (0, [.int (nI k2), .ref v2, .ref a2, .ref b2, .int (nI n2)])), (v2, .inl (cL, nv2, .inr (.inl f2))), (a2, .inl (cI, ns2, .inl (zN g2))), (b2, .inl (cI, ns2, .inl (zN h2)))] H := hP
              have hD : va_D A [(ma, .inr (5, [.ref mo, .ref r, .ref r2, .int (nI (fr - 1)), .int (nI lc), .int (nI rc)])), (mo, .inr (4, [.int (nI fr), .int (nI (((mP fr (cG f g k lc (fr - 1) n 2) (cG f2 g2 k2 rc (fr - 1) n2 2) (fun _ => mG2 fr)) (gr * (fr - 1) + t) (y1, y2)).1)), .int (nI (((mP fr (cG f g k lc (fr - 1) n 2) (cG f2 g2 k2 rc (fr - 1) n2 2) (fun _ => mG2 fr)) (gr * (fr - 1) + t) (y1, y2)).2)), .int (nI sm)])), (r, .inr (0, [.int (nI k), .ref v, .ref a, .ref b, .int (nI n)])), (v, .inl (cL, nv, .inr (.inl f))), (a, .inl (cI, ns, .inl (zN g))), (b, .inl (cI, ns, .inl (zN h))), (r2, .inr (0, [.int (nI k2), .ref v2, .ref a2, .ref b2, .int (nI n2)])), (v2, .inl (cL, nv2, .inr (.inl f2))), (a2, .inl (cI, ns2, .inl (zN g2))), (b2, .inl (cI, ns2, .inl (zN h2)))] := hD
              refine lv_iinc (k := 3) (v := nI (t + 1)) (lv' := [(8, .int (nI (t + 1))), (0, .ref ma), (1, .int (nI 1)), (2, .int (nI gr))]) hx hb d_Matcher_matchGroup_142 hl rfl (nI_add t 1) (by decide) rfl (fun ls hl => ?_)
              refine lv_goto (tgt := 117) hx hb d_Matcher_matchGroup_145 rfl ?_
              exact ih117 (t + 1) (((mP fr (cG f g k lc (fr - 1) n 2) (cG f2 g2 k2 rc (fr - 1) n2 2) (fun _ => mG2 fr)) (gr * (fr - 1) + t) (y1, y2)).1) (((mP fr (cG f g k lc (fr - 1) n 2) (cG f2 g2 k2 rc (fr - 1) n2 2) (fun _ => mG2 fr)) (gr * (fr - 1) + t) (y1, y2)).2) (by omega) (congrArg ((mP fr (cG f g k lc (fr - 1) n 2) (cG f2 g2 k2 rc (fr - 1) n2 2) (fun _ => mG2 fr)) (gr * (fr - 1) + t)) hy) (mP2_lt hfr2 hy2) (by omega) ls _ _ (lv_sub hl [1, 2, 3, 0] rfl) hP hD hS
        exact lb117 _ 0 (tr + (bk lr + bk rr)) (max mh fr) (Nat.zero_le _) rfl (by omega) (Nat.lt_succ_self _) ls _ _ (lv_sub hl [4, 5, 6, 0] rfl) hP hD hS
      · skip
        have hz : mGs fr (mP fr (cG f g k lc (fr - 1) n 2) (cG f2 g2 k2 rc (fr - 1) n2 2) (fun _ => mG2 fr)) gr lr rr (tr, mh) = stp (tr, mh) (bk rr + bk lr) (bk rr + 2) := (if_neg h16).trans (if_pos (by omega))
        refine lv_aload_n hx hb d_Matcher_matchGroup_41 rfl (lv_at hl 3 rfl) ?_
        refine va_get (C := R_Matcher) (T := F_Matcher) (N := 6) hx hb hts (fun w h => List.mem_cons_of_mem _ (hin_Matcher w h)) hown hK hP 0 rfl rfl 0 (by decide) (hts _ (List.mem_cons_of_mem _ fl_Matcher_9)) (fun _ h => h) rfl d_Matcher_matchGroup_42 ?_
        refine lv_iload hx hb d_Matcher_matchGroup_45 (lv_at hl 1 rfl) ?_
        refine lv_iload hx hb d_Matcher_matchGroup_47 (lv_at hl 2 rfl) ?_
        refine lv_iadd hx hb d_Matcher_matchGroup_49 ?_
        refine zk_topi (show ((nI (bk rr)) + (nI (bk lr))) = nI (bk rr + (bk lr)) from nI_add (bk rr) (bk lr)) ?_
        refine lv_iload hx hb d_Matcher_matchGroup_50 (lv_at hl 1 rfl) ?_
        refine lv_iconst (v := nI 2) hx hb d_Matcher_matchGroup_52 (by decide) ?_
        refine lv_iadd hx hb d_Matcher_matchGroup_53 ?_
        refine zk_topi (show ((nI (bk rr)) + (nI 2)) = nI (bk rr + 2) from nI_add (bk rr) 2) ?_
        have hPc := hP.sub (ws' := [(mo, .inr (4, [.int (nI fr), .int (nI tr), .int (nI mh), .int (nI sm)]))]) [1] rfl
        have hDc := hD.sub (ws' := [(mo, .inr (4, [.int (nI fr), .int (nI tr), .int (nI mh), .int (nI sm)]))]) [1] (by decide) rfl
        refine zk_wv (wr := [(ma, .inr (5, [.ref mo, .ref r, .ref r2, .int (nI (fr - 1)), .int (nI lc), .int (nI rc)])), (r, .inr (0, [.int (nI k), .ref v, .ref a, .ref b, .int (nI n)])), (v, .inl (cL, nv, .inr (.inl f))), (a, .inl (cI, ns, .inl (zN g))), (b, .inl (cI, ns, .inl (zN h))), (r2, .inr (0, [.int (nI k2), .ref v2, .ref a2, .ref b2, .int (nI n2)])), (v2, .inl (cL, nv2, .inr (.inl f2))), (a2, .inl (cI, ns2, .inl (zN g2))), (b2, .inl (cI, ns2, .inl (zN h2)))]) (w2 := (fun _ => [(ma, .inr (5, [.ref mo, .ref r, .ref r2, .int (nI (fr - 1)), .int (nI lc), .int (nI rc)])), (mo, .inr (4, [.int (nI fr), .int (nI (tr + (bk rr + (bk lr)))), .int (nI (max mh (bk rr + 2))), .int (nI sm)])), (r, .inr (0, [.int (nI k), .ref v, .ref a, .ref b, .int (nI n)])), (v, .inl (cL, nv, .inr (.inl f))), (a, .inl (cI, ns, .inl (zN g))), (b, .inl (cI, ns, .inl (zN h))), (r2, .inr (0, [.int (nI k2), .ref v2, .ref a2, .ref b2, .int (nI n2)])), (v2, .inl (cL, nv2, .inr (.inl f2))), (a2, .inl (cI, ns2, .inl (zN g2))), (b2, .inl (cI, ns2, .inl (zN h2)))])) hP hD hS hA [1] [0, 2, 3, 4, 5, 6, 7, 8, 9] [0, 9, 1, 2, 3, 4, 5, 6, 7, 8] rfl rfl (by decide) (by decide) (fun _ => rfl) (by decide) (va_runV (As := [.int (nI (bk rr + (bk lr))), .int (nI (bk rr + 2))]) (rest := []) ⟨hx, hb, hml, hown, hts⟩ (c_Meter_addStep l D cI cL cZ cW cR _ mo fr tr mh sm (bk rr + (bk lr)) (bk rr + 2) hmh1 (by omega)) (cwV 2 hts (zk_gV (fun _ h => List.mem_cons_of_mem _ h) ml_Matcher_50 im_Meter_addStep se_Meter_addStep in_Meter co_Meter_addStep) rfl rfl rfl ⟨rfl, hd_Meter_addStep⟩ ⟨Nat.le_of_ble_eq_true rfl, Nat.le_of_ble_eq_true rfl⟩) (zk_vw (q0 := 0) hN hK hPc hDc rfl rfl) rfl rfl hl.1 rfl (lv_room (Nat.le_of_ble_eq_true rfl)) d_Matcher_matchGroup_54 ⟨Nat.zero_le _, Nat.zero_le _⟩) (fun u H locs hpost hP hD hS => ?_)
        have hP : va_P D vwCl [(ma, .inr (5, [.ref mo, .ref r, .ref r2, .int (nI (fr - 1)), .int (nI lc), .int (nI rc)])), (mo, .inr (4, [.int (nI fr), .int (nI (tr + (bk rr + (bk lr)))), .int (nI (max mh (bk rr + 2))), .int (nI sm)])), (r, .inr (0, [.int (nI k), .ref v, .ref a, .ref b, .int (nI n)])), (v, .inl (cL, nv, .inr (.inl f))), (a, .inl (cI, ns, .inl (zN g))), (b, .inl (cI, ns, .inl (zN h))), (r2, .inr (0, [.int (nI k2), .ref v2, .ref a2, .ref b2, .int (nI n2)])), (v2, .inl (cL, nv2, .inr (.inl f2))), (a2, .inl (cI, ns2, .inl (zN g2))), (b2, .inl (cI, ns2, .inl (zN h2)))] H := hP
        have hD : va_D A [(ma, .inr (5, [.ref mo, .ref r, .ref r2, .int (nI (fr - 1)), .int (nI lc), .int (nI rc)])), (mo, .inr (4, [.int (nI fr), .int (nI (tr + (bk rr + (bk lr)))), .int (nI (max mh (bk rr + 2))), .int (nI sm)])), (r, .inr (0, [.int (nI k), .ref v, .ref a, .ref b, .int (nI n)])), (v, .inl (cL, nv, .inr (.inl f))), (a, .inl (cI, ns, .inl (zN g))), (b, .inl (cI, ns, .inl (zN h))), (r2, .inr (0, [.int (nI k2), .ref v2, .ref a2, .ref b2, .int (nI n2)])), (v2, .inl (cL, nv2, .inr (.inl f2))), (a2, .inl (cI, ns2, .inl (zN g2))), (b2, .inl (cI, ns2, .inl (zN h2)))] := hD
        refine lv_goto (tgt := 148) hx hb d_Matcher_matchGroup_57 rfl ?_
        rw [hz] at hQ
        exact zk_vretW hx hb hr hlk hAe hQ hK (()) (trivial) hP hD hS d_Matcher_matchGroup_148
    · skip
      have hz : mGs fr (mP fr (cG f g k lc (fr - 1) n 2) (cG f2 g2 k2 rc (fr - 1) n2 2) (fun _ => mG2 fr)) gr lr rr (tr, mh) = (tr, mh) := if_pos (Or.inr h6)
      rw [hz] at hQ
      exact zk_vretW hx hb hr hlk hAe hQ hK (()) (trivial) hP hD hS d_Matcher_matchGroup_9
set_option maxHeartbeats 4000000 in
set_option maxRecDepth 100000 in
theorem c_Matcher_matchPart_1 (l : Launch) (D : va_G) (cI cL cZ cW cR : ClassId) (sz : Nat) (ma lc rc : Nat) (mo fr tr mh sm : Nat) (r v a b k n nv ns : Nat) (f : Nat → Int64) (g h : Nat → Nat) (r2 v2 a2 b2 k2 n2 nv2 ns2 : Nat) (f2 : Nat → Int64) (g2 h2 : Nat → Nat) (gr : Nat) (hgr : gr < 100) (hfr : 3 ≤ fr) (hfr2 : fr ≤ 8) (hmh : mh < 500) (hn : n ≤ ns) (hns : ns < 1000) (hnv : nv < 100000) (hg : ∀ z, z < n → g z * k + lc < nv) (hn2 : n2 ≤ ns2) (hns2 : ns2 < 1000) (hnv2 : nv2 < 100000) (hg2 : ∀ z, z < n2 → g2 z * k2 + rc < nv2) : Met l y_Matcher_matchPart ws_Matcher_matchPart rm6_240 (zPw D vwCl (zT cI cL cZ cW cR) [(ma, .inr (5, [.ref mo, .ref r, .ref r2, .int (nI (fr - 1)), .int (nI lc), .int (nI rc)])), (mo, .inr (4, [.int (nI fr), .int (nI tr), .int (nI mh), .int (nI sm)])), (r, .inr (0, [.int (nI k), .ref v, .ref a, .ref b, .int (nI n)])), (v, .inl (cL, nv, .inr (.inl f))), (a, .inl (cI, ns, .inl (zN g))), (b, .inl (cI, ns, .inl (zN h))), (r2, .inr (0, [.int (nI k2), .ref v2, .ref a2, .ref b2, .int (nI n2)])), (v2, .inl (cL, nv2, .inr (.inl f2))), (a2, .inl (cI, ns2, .inl (zN g2))), (b2, .inl (cI, ns2, .inl (zN h2)))] sz [.ref ma, .int (nI 1), .int (nI gr)]) (zQv D vwCl (zT cI cL cZ cW cR) [(ma, .inr (5, [.ref mo, .ref r, .ref r2, .int (nI (fr - 1)), .int (nI lc), .int (nI rc)])), (mo, .inr (4, [.int (nI fr), .int (nI tr), .int (nI mh), .int (nI sm)])), (r, .inr (0, [.int (nI k), .ref v, .ref a, .ref b, .int (nI n)])), (v, .inl (cL, nv, .inr (.inl f))), (a, .inl (cI, ns, .inl (zN g))), (b, .inl (cI, ns, .inl (zN h))), (r2, .inr (0, [.int (nI k2), .ref v2, .ref a2, .ref b2, .int (nI n2)])), (v2, .inl (cL, nv2, .inr (.inl f2))), (a2, .inl (cI, ns2, .inl (zN g2))), (b2, .inl (cI, ns2, .inl (zN h2)))] sz (fun _ : Unit => True) (fun _ => [(ma, .inr (5, [.ref mo, .ref r, .ref r2, .int (nI (fr - 1)), .int (nI lc), .int (nI rc)])), (mo, .inr (4, [.int (nI fr), .int (nI (((mP fr (cG f g k lc (fr - 1) n 1) (cG f2 g2 k2 rc (fr - 1) n2 1) (mGs fr (mP fr (cG f g k lc (fr - 1) n 2) (cG f2 g2 k2 rc (fr - 1) n2 2) (fun _ => mG2 fr)))) gr (tr, mh)).1)), .int (nI (((mP fr (cG f g k lc (fr - 1) n 1) (cG f2 g2 k2 rc (fr - 1) n2 1) (mGs fr (mP fr (cG f g k lc (fr - 1) n 2) (cG f2 g2 k2 rc (fr - 1) n2 2) (fun _ => mG2 fr)))) gr (tr, mh)).2)), .int (nI sm)])), (r, .inr (0, [.int (nI k), .ref v, .ref a, .ref b, .int (nI n)])), (v, .inl (cL, nv, .inr (.inl f))), (a, .inl (cI, ns, .inl (zN g))), (b, .inl (cI, ns, .inl (zN h))), (r2, .inr (0, [.int (nI k2), .ref v2, .ref a2, .ref b2, .int (nI n2)])), (v2, .inl (cL, nv2, .inr (.inl f2))), (a2, .inl (cI, ns2, .inl (zN g2))), (b2, .inl (cI, ns2, .inl (zN h2)))])) 0 0 (va_A [(ma, .inr (5, [.ref mo, .ref r, .ref r2, .int (nI (fr - 1)), .int (nI lc), .int (nI rc)])), (mo, .inr (4, [.int (nI fr), .int (nI tr), .int (nI mh), .int (nI sm)])), (r, .inr (0, [.int (nI k), .ref v, .ref a, .ref b, .int (nI n)])), (v, .inl (cL, nv, .inr (.inl f))), (a, .inl (cI, ns, .inl (zN g))), (b, .inl (cI, ns, .inl (zN h))), (r2, .inr (0, [.int (nI k2), .ref v2, .ref a2, .ref b2, .int (nI n2)])), (v2, .inl (cL, nv2, .inr (.inl f2))), (a2, .inl (cI, ns2, .inl (zN g2))), (b2, .inl (cI, ns2, .inl (zN h2)))] sz) := by
  refine zk_enterW (cc := b_Matcher_matchPart) (maxL := 5) (ret := none) (by decide) rfl (Nat.le_of_ble_eq_true rfl) ?_
  intro p e s m args below meth c ls Q hx hb hml hr hlk hown hts hP hK hN hl hin hsz A hAe hA hD hS hQ
  subst hsz
  have hl : lv_has ls 5 [(0, .ref ma), (1, .int (nI 1)), (2, .int (nI gr))] := hl
  have hc1 : (cG f g k lc (fr - 1) n 1) gr ≤ n := cntB_le _ _
  have hc2 : (cG f2 g2 k2 rc (fr - 1) n2 1) gr ≤ n2 := cntB_le _ _
  have hc3 : bk ((cG f g k lc (fr - 1) n 1) gr) < 1000 := by unfold bk; omega
  have hc4 : bk ((cG f2 g2 k2 rc (fr - 1) n2 1) gr) < 1000 := by unfold bk; omega
  refine lv_aload_n hx hb d_Matcher_matchPart_0 rfl (lv_at hl 0 rfl) ?_
  refine lv_aload_n hx hb d_Matcher_matchPart_1 rfl (lv_at hl 0 rfl) ?_
  refine va_get (C := R_Matcher) (T := F_Matcher) (N := 6) hx hb hts (fun w h => List.mem_cons_of_mem _ (hin_Matcher w h)) hown hK hP 0 rfl rfl 1 (by decide) (hts _ (List.mem_cons_of_mem _ fl_Matcher_15)) (fun _ h => h) rfl d_Matcher_matchPart_2 ?_
  refine lv_aload_n hx hb d_Matcher_matchPart_5 rfl (lv_at hl 0 rfl) ?_
  refine va_get (C := R_Matcher) (T := F_Matcher) (N := 6) hx hb hts (fun w h => List.mem_cons_of_mem _ (hin_Matcher w h)) hown hK hP 0 rfl rfl 4 (by decide) (hts _ (List.mem_cons_of_mem _ fl_Matcher_31)) (fun _ h => h) rfl d_Matcher_matchPart_6 ?_
  refine lv_iload_n hx hb d_Matcher_matchPart_9 rfl (lv_at hl 1 rfl) ?_
  refine lv_iload_n hx hb d_Matcher_matchPart_10 rfl (lv_at hl 2 rfl) ?_
  have hPc := hP.sub (ws' := [(ma, .inr (5, [.ref mo, .ref r, .ref r2, .int (nI (fr - 1)), .int (nI lc), .int (nI rc)])), (r, .inr (0, [.int (nI k), .ref v, .ref a, .ref b, .int (nI n)])), (v, .inl (cL, nv, .inr (.inl f))), (a, .inl (cI, ns, .inl (zN g))), (b, .inl (cI, ns, .inl (zN h)))]) [0, 2, 3, 4, 5] rfl
  refine zk_ri (va_runV (As := [.ref r, .int (nI lc), .int (nI 1), .int (nI gr)]) (rest := []) ⟨hx, hb, hml, hown, hts⟩ (c_Matcher_rowsInGroup l D cI cL cZ cW cR ma mo r r2 (fr - 1) lc rc r v a b k n nv ns f g h lc 1 gr (by omega) (by omega) (by omega) (by omega) hn hns hnv hg) (cwV 4 hts (zk_gV (fun _ h => List.mem_cons_of_mem _ h) ml_Matcher_61 im_Matcher_rowsInGroup se_Matcher_rowsInGroup in_Matcher co_Matcher_rowsInGroup) rfl rfl rfl ⟨rfl, hd_Matcher_rowsInGroup⟩ ⟨Nat.le_of_ble_eq_true rfl, Nat.le_of_ble_eq_true rfl⟩) (zk_vr (q0 := 0) hN hK hPc rfl rfl) rfl rfl hl.1 rfl (lv_room (Nat.le_of_ble_eq_true rfl)) d_Matcher_matchPart_11 ⟨Nat.zero_le _, Nat.zero_le _⟩) ?_
  refine lv_istore_n (lv' := [(3, .int (nI ((cG f g k lc (fr - 1) n 1) gr))), (0, .ref ma), (1, .int (nI 1)), (2, .int (nI gr))]) hx hb d_Matcher_matchPart_14 rfl hl (by decide) rfl (fun ls hl => ?_)
  refine lv_aload_n hx hb d_Matcher_matchPart_15 rfl (lv_at hl 1 rfl) ?_
  refine lv_aload_n hx hb d_Matcher_matchPart_16 rfl (lv_at hl 1 rfl) ?_
  refine va_get (C := R_Matcher) (T := F_Matcher) (N := 6) hx hb hts (fun w h => List.mem_cons_of_mem _ (hin_Matcher w h)) hown hK hP 0 rfl rfl 2 (by decide) (hts _ (List.mem_cons_of_mem _ fl_Matcher_19)) (fun _ h => h) rfl d_Matcher_matchPart_17 ?_
  refine lv_aload_n hx hb d_Matcher_matchPart_20 rfl (lv_at hl 1 rfl) ?_
  refine va_get (C := R_Matcher) (T := F_Matcher) (N := 6) hx hb hts (fun w h => List.mem_cons_of_mem _ (hin_Matcher w h)) hown hK hP 0 rfl rfl 5 (by decide) (hts _ (List.mem_cons_of_mem _ fl_Matcher_34)) (fun _ h => h) rfl d_Matcher_matchPart_21 ?_
  refine lv_iload_n hx hb d_Matcher_matchPart_24 rfl (lv_at hl 2 rfl) ?_
  refine lv_iload_n hx hb d_Matcher_matchPart_25 rfl (lv_at hl 3 rfl) ?_
  have hPc := hP.sub (ws' := [(ma, .inr (5, [.ref mo, .ref r, .ref r2, .int (nI (fr - 1)), .int (nI lc), .int (nI rc)])), (r2, .inr (0, [.int (nI k2), .ref v2, .ref a2, .ref b2, .int (nI n2)])), (v2, .inl (cL, nv2, .inr (.inl f2))), (a2, .inl (cI, ns2, .inl (zN g2))), (b2, .inl (cI, ns2, .inl (zN h2)))]) [0, 6, 7, 8, 9] rfl
  refine zk_ri (va_runV (As := [.ref r2, .int (nI rc), .int (nI 1), .int (nI gr)]) (rest := []) ⟨hx, hb, hml, hown, hts⟩ (c_Matcher_rowsInGroup l D cI cL cZ cW cR ma mo r r2 (fr - 1) lc rc r2 v2 a2 b2 k2 n2 nv2 ns2 f2 g2 h2 rc 1 gr (by omega) (by omega) (by omega) (by omega) hn2 hns2 hnv2 hg2) (cwV 4 hts (zk_gV (fun _ h => List.mem_cons_of_mem _ h) ml_Matcher_61 im_Matcher_rowsInGroup se_Matcher_rowsInGroup in_Matcher co_Matcher_rowsInGroup) rfl rfl rfl ⟨rfl, hd_Matcher_rowsInGroup⟩ ⟨Nat.le_of_ble_eq_true rfl, Nat.le_of_ble_eq_true rfl⟩) (zk_vr (q0 := 0) hN hK hPc rfl rfl) rfl rfl hl.1 rfl (lv_room (Nat.le_of_ble_eq_true rfl)) d_Matcher_matchPart_26 ⟨Nat.zero_le _, Nat.zero_le _⟩) ?_
  refine lv_istore (lv' := [(4, .int (nI ((cG f2 g2 k2 rc (fr - 1) n2 1) gr))), (3, .int (nI ((cG f g k lc (fr - 1) n 1) gr))), (0, .ref ma), (1, .int (nI 1)), (2, .int (nI gr))]) hx hb d_Matcher_matchPart_29 hl (by decide) rfl (fun ls hl => ?_)
  refine lv_aload_n hx hb d_Matcher_matchPart_31 rfl (lv_at hl 2 rfl) ?_
  refine va_get (C := R_Matcher) (T := F_Matcher) (N := 6) hx hb hts (fun w h => List.mem_cons_of_mem _ (hin_Matcher w h)) hown hK hP 0 rfl rfl 0 (by decide) (hts _ (List.mem_cons_of_mem _ fl_Matcher_9)) (fun _ h => h) rfl d_Matcher_matchPart_32 ?_
  refine lv_iload_n hx hb d_Matcher_matchPart_35 rfl (lv_at hl 1 rfl) ?_
  have hPc := hP.sub (ws' := []) [] rfl
  refine zk_ri (va_runSN (As := [.int (nI ((cG f g k lc (fr - 1) n 1) gr))]) (rest := [.ref mo]) ⟨hx, hb, hml, hown, hts⟩ (c_FQ_blocksOf l D cI cL cZ cW cR ((cG f g k lc (fr - 1) n 1) gr) (by omega)) ⟨(va_cnB 1 hts (zk_gC (fun _ h => List.mem_cons_of_mem _ h) co_FQ_blocksOf) rfl rfl rfl (hN.1 _ nl_Matcher_46) (hts _ (List.mem_cons_of_mem _ in_FQ)) hd_FQ_blocksOf ⟨Nat.le_of_ble_eq_true rfl, Nat.le_of_ble_eq_true rfl⟩), (hts _ (List.mem_cons_of_mem _ sm_FQ_blocksOf)), trivial⟩ (zk_sr hN hK hPc) rfl rfl hl.1 rfl (lv_room (Nat.le_of_ble_eq_true rfl)) d_Matcher_matchPart_36 ⟨Nat.zero_le _, Nat.zero_le _⟩) ?_
  refine lv_iload hx hb d_Matcher_matchPart_39 (lv_at hl 0 rfl) ?_
  have hPc := hP.sub (ws' := []) [] rfl
  refine zk_ri (va_runSN (As := [.int (nI ((cG f2 g2 k2 rc (fr - 1) n2 1) gr))]) (rest := [.int (nI (bk ((cG f g k lc (fr - 1) n 1) gr))), .ref mo]) ⟨hx, hb, hml, hown, hts⟩ (c_FQ_blocksOf l D cI cL cZ cW cR ((cG f2 g2 k2 rc (fr - 1) n2 1) gr) (by omega)) ⟨(va_cnB 1 hts (zk_gC (fun _ h => List.mem_cons_of_mem _ h) co_FQ_blocksOf) rfl rfl rfl (hN.1 _ nl_Matcher_46) (hts _ (List.mem_cons_of_mem _ in_FQ)) hd_FQ_blocksOf ⟨Nat.le_of_ble_eq_true rfl, Nat.le_of_ble_eq_true rfl⟩), (hts _ (List.mem_cons_of_mem _ sm_FQ_blocksOf)), trivial⟩ (zk_sr hN hK hPc) rfl rfl hl.1 rfl (lv_room (Nat.le_of_ble_eq_true rfl)) d_Matcher_matchPart_41 ⟨Nat.zero_le _, Nat.zero_le _⟩) ?_
  refine lv_iadd hx hb d_Matcher_matchPart_44 ?_
  refine zk_topi (show ((nI (bk ((cG f g k lc (fr - 1) n 1) gr))) + (nI (bk ((cG f2 g2 k2 rc (fr - 1) n2 1) gr)))) = nI (bk ((cG f g k lc (fr - 1) n 1) gr) + (bk ((cG f2 g2 k2 rc (fr - 1) n2 1) gr))) from nI_add (bk ((cG f g k lc (fr - 1) n 1) gr)) (bk ((cG f2 g2 k2 rc (fr - 1) n2 1) gr))) ?_
  refine lv_aload_n hx hb d_Matcher_matchPart_45 rfl (lv_at hl 2 rfl) ?_
  refine va_get (C := R_Matcher) (T := F_Matcher) (N := 6) hx hb hts (fun w h => List.mem_cons_of_mem _ (hin_Matcher w h)) hown hK hP 0 rfl rfl 0 (by decide) (hts _ (List.mem_cons_of_mem _ fl_Matcher_9)) (fun _ h => h) rfl d_Matcher_matchPart_46 ?_
  refine va_get (C := R_Meter) (T := F_Meter) (N := 4) hx hb hts (fun w h => List.mem_cons_of_mem _ (hin_Meter w h)) hown hK hP 1 rfl rfl 0 (by decide) (hts _ (List.mem_cons_of_mem _ fl_Matcher_22)) (fun _ h => h) rfl d_Matcher_matchPart_49 ?_
  have hPc := hP.sub (ws' := [(mo, .inr (4, [.int (nI fr), .int (nI tr), .int (nI mh), .int (nI sm)]))]) [1] rfl
  have hDc := hD.sub (ws' := [(mo, .inr (4, [.int (nI fr), .int (nI tr), .int (nI mh), .int (nI sm)]))]) [1] (by decide) rfl
  refine zk_wv (wr := [(ma, .inr (5, [.ref mo, .ref r, .ref r2, .int (nI (fr - 1)), .int (nI lc), .int (nI rc)])), (r, .inr (0, [.int (nI k), .ref v, .ref a, .ref b, .int (nI n)])), (v, .inl (cL, nv, .inr (.inl f))), (a, .inl (cI, ns, .inl (zN g))), (b, .inl (cI, ns, .inl (zN h))), (r2, .inr (0, [.int (nI k2), .ref v2, .ref a2, .ref b2, .int (nI n2)])), (v2, .inl (cL, nv2, .inr (.inl f2))), (a2, .inl (cI, ns2, .inl (zN g2))), (b2, .inl (cI, ns2, .inl (zN h2)))]) (w2 := (fun _ => [(ma, .inr (5, [.ref mo, .ref r, .ref r2, .int (nI (fr - 1)), .int (nI lc), .int (nI rc)])), (mo, .inr (4, [.int (nI fr), .int (nI (tr + (bk ((cG f g k lc (fr - 1) n 1) gr) + (bk ((cG f2 g2 k2 rc (fr - 1) n2 1) gr))))), .int (nI (max mh fr)), .int (nI sm)])), (r, .inr (0, [.int (nI k), .ref v, .ref a, .ref b, .int (nI n)])), (v, .inl (cL, nv, .inr (.inl f))), (a, .inl (cI, ns, .inl (zN g))), (b, .inl (cI, ns, .inl (zN h))), (r2, .inr (0, [.int (nI k2), .ref v2, .ref a2, .ref b2, .int (nI n2)])), (v2, .inl (cL, nv2, .inr (.inl f2))), (a2, .inl (cI, ns2, .inl (zN g2))), (b2, .inl (cI, ns2, .inl (zN h2)))])) hP hD hS hA [1] [0, 2, 3, 4, 5, 6, 7, 8, 9] [0, 9, 1, 2, 3, 4, 5, 6, 7, 8] rfl rfl (by decide) (by decide) (fun _ => rfl) (by decide) (va_runV (As := [.int (nI (bk ((cG f g k lc (fr - 1) n 1) gr) + (bk ((cG f2 g2 k2 rc (fr - 1) n2 1) gr)))), .int (nI fr)]) (rest := []) ⟨hx, hb, hml, hown, hts⟩ (c_Meter_addStep l D cI cL cZ cW cR _ mo fr tr mh sm (bk ((cG f g k lc (fr - 1) n 1) gr) + (bk ((cG f2 g2 k2 rc (fr - 1) n2 1) gr))) fr (by omega) (by omega)) (cwV 2 hts (zk_gV (fun _ h => List.mem_cons_of_mem _ h) ml_Matcher_50 im_Meter_addStep se_Meter_addStep in_Meter co_Meter_addStep) rfl rfl rfl ⟨rfl, hd_Meter_addStep⟩ ⟨Nat.le_of_ble_eq_true rfl, Nat.le_of_ble_eq_true rfl⟩) (zk_vw (q0 := 0) hN hK hPc hDc rfl rfl) rfl rfl hl.1 rfl (lv_room (Nat.le_of_ble_eq_true rfl)) d_Matcher_matchPart_52 ⟨Nat.zero_le _, Nat.zero_le _⟩) (fun u H locs hpost hP hD hS => ?_)
  have hP : va_P D vwCl [(ma, .inr (5, [.ref mo, .ref r, .ref r2, .int (nI (fr - 1)), .int (nI lc), .int (nI rc)])), (mo, .inr (4, [.int (nI fr), .int (nI (tr + (bk ((cG f g k lc (fr - 1) n 1) gr) + (bk ((cG f2 g2 k2 rc (fr - 1) n2 1) gr))))), .int (nI (max mh fr)), .int (nI sm)])), (r, .inr (0, [.int (nI k), .ref v, .ref a, .ref b, .int (nI n)])), (v, .inl (cL, nv, .inr (.inl f))), (a, .inl (cI, ns, .inl (zN g))), (b, .inl (cI, ns, .inl (zN h))), (r2, .inr (0, [.int (nI k2), .ref v2, .ref a2, .ref b2, .int (nI n2)])), (v2, .inl (cL, nv2, .inr (.inl f2))), (a2, .inl (cI, ns2, .inl (zN g2))), (b2, .inl (cI, ns2, .inl (zN h2)))] H := hP
  have hD : va_D A [(ma, .inr (5, [.ref mo, .ref r, .ref r2, .int (nI (fr - 1)), .int (nI lc), .int (nI rc)])), (mo, .inr (4, [.int (nI fr), .int (nI (tr + (bk ((cG f g k lc (fr - 1) n 1) gr) + (bk ((cG f2 g2 k2 rc (fr - 1) n2 1) gr))))), .int (nI (max mh fr)), .int (nI sm)])), (r, .inr (0, [.int (nI k), .ref v, .ref a, .ref b, .int (nI n)])), (v, .inl (cL, nv, .inr (.inl f))), (a, .inl (cI, ns, .inl (zN g))), (b, .inl (cI, ns, .inl (zN h))), (r2, .inr (0, [.int (nI k2), .ref v2, .ref a2, .ref b2, .int (nI n2)])), (v2, .inl (cL, nv2, .inr (.inl f2))), (a2, .inl (cI, ns2, .inl (zN g2))), (b2, .inl (cI, ns2, .inl (zN h2)))] := hD
  refine lv_aload_n hx hb d_Matcher_matchPart_55 rfl (lv_at hl 2 rfl) ?_
  refine lv_iload_n hx hb d_Matcher_matchPart_56 rfl (lv_at hl 3 rfl) ?_
  refine lv_iload_n hx hb d_Matcher_matchPart_57 rfl (lv_at hl 4 rfl) ?_
  refine lv_iload_n hx hb d_Matcher_matchPart_58 rfl (lv_at hl 1 rfl) ?_
  refine lv_iload hx hb d_Matcher_matchPart_59 (lv_at hl 0 rfl) ?_
  have hPc := hP.sub (ws' := [(ma, .inr (5, [.ref mo, .ref r, .ref r2, .int (nI (fr - 1)), .int (nI lc), .int (nI rc)])), (mo, .inr (4, [.int (nI fr), .int (nI (tr + (bk ((cG f g k lc (fr - 1) n 1) gr) + (bk ((cG f2 g2 k2 rc (fr - 1) n2 1) gr))))), .int (nI (max mh fr)), .int (nI sm)])), (r, .inr (0, [.int (nI k), .ref v, .ref a, .ref b, .int (nI n)])), (v, .inl (cL, nv, .inr (.inl f))), (a, .inl (cI, ns, .inl (zN g))), (b, .inl (cI, ns, .inl (zN h))), (r2, .inr (0, [.int (nI k2), .ref v2, .ref a2, .ref b2, .int (nI n2)])), (v2, .inl (cL, nv2, .inr (.inl f2))), (a2, .inl (cI, ns2, .inl (zN g2))), (b2, .inl (cI, ns2, .inl (zN h2)))]) [0, 1, 2, 3, 4, 5, 6, 7, 8, 9] rfl
  have hDc := hD.sub (ws' := [(ma, .inr (5, [.ref mo, .ref r, .ref r2, .int (nI (fr - 1)), .int (nI lc), .int (nI rc)])), (mo, .inr (4, [.int (nI fr), .int (nI (tr + (bk ((cG f g k lc (fr - 1) n 1) gr) + (bk ((cG f2 g2 k2 rc (fr - 1) n2 1) gr))))), .int (nI (max mh fr)), .int (nI sm)])), (r, .inr (0, [.int (nI k), .ref v, .ref a, .ref b, .int (nI n)])), (v, .inl (cL, nv, .inr (.inl f))), (a, .inl (cI, ns, .inl (zN g))), (b, .inl (cI, ns, .inl (zN h))), (r2, .inr (0, [.int (nI k2), .ref v2, .ref a2, .ref b2, .int (nI n2)])), (v2, .inl (cL, nv2, .inr (.inl f2))), (a2, .inl (cI, ns2, .inl (zN g2))), (b2, .inl (cI, ns2, .inl (zN h2)))]) [0, 1, 2, 3, 4, 5, 6, 7, 8, 9] (by decide) rfl
  refine zk_wv (wr := []) (w2 := (fun _ => [(ma, .inr (5, [.ref mo, .ref r, .ref r2, .int (nI (fr - 1)), .int (nI lc), .int (nI rc)])), (mo, .inr (4, [.int (nI fr), .int (nI ((mGs fr (mP fr (cG f g k lc (fr - 1) n 2) (cG f2 g2 k2 rc (fr - 1) n2 2) (fun _ => mG2 fr)) gr ((cG f g k lc (fr - 1) n 1) gr) ((cG f2 g2 k2 rc (fr - 1) n2 1) gr) (tr + (bk ((cG f g k lc (fr - 1) n 1) gr) + (bk ((cG f2 g2 k2 rc (fr - 1) n2 1) gr))), max mh fr)).1)), .int (nI ((mGs fr (mP fr (cG f g k lc (fr - 1) n 2) (cG f2 g2 k2 rc (fr - 1) n2 2) (fun _ => mG2 fr)) gr ((cG f g k lc (fr - 1) n 1) gr) ((cG f2 g2 k2 rc (fr - 1) n2 1) gr) (tr + (bk ((cG f g k lc (fr - 1) n 1) gr) + (bk ((cG f2 g2 k2 rc (fr - 1) n2 1) gr))), max mh fr)).2)), .int (nI sm)])), (r, .inr (0, [.int (nI k), .ref v, .ref a, .ref b, .int (nI n)])), (v, .inl (cL, nv, .inr (.inl f))), (a, .inl (cI, ns, .inl (zN g))), (b, .inl (cI, ns, .inl (zN h))), (r2, .inr (0, [.int (nI k2), .ref v2, .ref a2, .ref b2, .int (nI n2)])), (v2, .inl (cL, nv2, .inr (.inl f2))), (a2, .inl (cI, ns2, .inl (zN g2))), (b2, .inl (cI, ns2, .inl (zN h2)))])) hP hD hS hA [0, 1, 2, 3, 4, 5, 6, 7, 8, 9] [] [0, 1, 2, 3, 4, 5, 6, 7, 8, 9] rfl rfl (by decide) (by decide) (fun _ => rfl) (by decide) (va_runV (As := [.int (nI 1), .int (nI gr), .int (nI ((cG f g k lc (fr - 1) n 1) gr)), .int (nI ((cG f2 g2 k2 rc (fr - 1) n2 1) gr))]) (rest := []) ⟨hx, hb, hml, hown, hts⟩ (c_Matcher_matchGroup_1 l D cI cL cZ cW cR _ ma lc rc mo fr (tr + (bk ((cG f g k lc (fr - 1) n 1) gr) + (bk ((cG f2 g2 k2 rc (fr - 1) n2 1) gr)))) (max mh fr) sm r v a b k n nv ns f g h r2 v2 a2 b2 k2 n2 nv2 ns2 f2 g2 h2 gr ((cG f g k lc (fr - 1) n 1) gr) ((cG f2 g2 k2 rc (fr - 1) n2 1) gr) hgr (by omega) (by omega) hfr hfr2 (by omega) hn hns hnv hg hn2 hns2 hnv2 hg2) (cwV 4 hts (zk_gV (fun _ h => List.mem_cons_of_mem _ h) ml_Matcher_42 im_Matcher_matchGroup se_Matcher_matchGroup in_Matcher co_Matcher_matchGroup) rfl rfl rfl ⟨rfl, hd_Matcher_matchGroup⟩ ⟨Nat.le_of_ble_eq_true rfl, Nat.le_of_ble_eq_true rfl⟩) (zk_vw (q0 := 0) hN hK hPc hDc rfl rfl) rfl rfl hl.1 rfl (lv_room (Nat.le_of_ble_eq_true rfl)) d_Matcher_matchPart_61 ⟨Nat.zero_le _, Nat.zero_le _⟩) (fun u H locs hpost hP hD hS => ?_)
  have hP : va_P D vwCl [(ma, .inr (5, [.ref mo, .ref r, .ref r2, .int (nI (fr - 1)), .int (nI lc), .int (nI rc)])), (mo, .inr (4, [.int (nI fr), .int (nI ((mGs fr (mP fr (cG f g k lc (fr - 1) n 2) (cG f2 g2 k2 rc (fr - 1) n2 2) (fun _ => mG2 fr)) gr ((cG f g k lc (fr - 1) n 1) gr) ((cG f2 g2 k2 rc (fr - 1) n2 1) gr) (tr + (bk ((cG f g k lc (fr - 1) n 1) gr) + (bk ((cG f2 g2 k2 rc (fr - 1) n2 1) gr))), max mh fr)).1)), .int (nI ((mGs fr (mP fr (cG f g k lc (fr - 1) n 2) (cG f2 g2 k2 rc (fr - 1) n2 2) (fun _ => mG2 fr)) gr ((cG f g k lc (fr - 1) n 1) gr) ((cG f2 g2 k2 rc (fr - 1) n2 1) gr) (tr + (bk ((cG f g k lc (fr - 1) n 1) gr) + (bk ((cG f2 g2 k2 rc (fr - 1) n2 1) gr))), max mh fr)).2)), .int (nI sm)])), (r, .inr (0, [.int (nI k), .ref v, .ref a, .ref b, .int (nI n)])), (v, .inl (cL, nv, .inr (.inl f))), (a, .inl (cI, ns, .inl (zN g))), (b, .inl (cI, ns, .inl (zN h))), (r2, .inr (0, [.int (nI k2), .ref v2, .ref a2, .ref b2, .int (nI n2)])), (v2, .inl (cL, nv2, .inr (.inl f2))), (a2, .inl (cI, ns2, .inl (zN g2))), (b2, .inl (cI, ns2, .inl (zN h2)))] H := hP
  have hD : va_D A [(ma, .inr (5, [.ref mo, .ref r, .ref r2, .int (nI (fr - 1)), .int (nI lc), .int (nI rc)])), (mo, .inr (4, [.int (nI fr), .int (nI ((mGs fr (mP fr (cG f g k lc (fr - 1) n 2) (cG f2 g2 k2 rc (fr - 1) n2 2) (fun _ => mG2 fr)) gr ((cG f g k lc (fr - 1) n 1) gr) ((cG f2 g2 k2 rc (fr - 1) n2 1) gr) (tr + (bk ((cG f g k lc (fr - 1) n 1) gr) + (bk ((cG f2 g2 k2 rc (fr - 1) n2 1) gr))), max mh fr)).1)), .int (nI ((mGs fr (mP fr (cG f g k lc (fr - 1) n 2) (cG f2 g2 k2 rc (fr - 1) n2 2) (fun _ => mG2 fr)) gr ((cG f g k lc (fr - 1) n 1) gr) ((cG f2 g2 k2 rc (fr - 1) n2 1) gr) (tr + (bk ((cG f g k lc (fr - 1) n 1) gr) + (bk ((cG f2 g2 k2 rc (fr - 1) n2 1) gr))), max mh fr)).2)), .int (nI sm)])), (r, .inr (0, [.int (nI k), .ref v, .ref a, .ref b, .int (nI n)])), (v, .inl (cL, nv, .inr (.inl f))), (a, .inl (cI, ns, .inl (zN g))), (b, .inl (cI, ns, .inl (zN h))), (r2, .inr (0, [.int (nI k2), .ref v2, .ref a2, .ref b2, .int (nI n2)])), (v2, .inl (cL, nv2, .inr (.inl f2))), (a2, .inl (cI, ns2, .inl (zN g2))), (b2, .inl (cI, ns2, .inl (zN h2)))] := hD
  exact zk_vretW hx hb hr hlk hAe hQ hK (()) (trivial) hP hD hS d_Matcher_matchPart_64
theorem mP1_lt {f f2 : Nat → Int64} {g g2 : Nat → Nat} {k k2 lc rc n n2 fr gr : Nat} {x : Nat × Nat} (hf : fr ≤ 8) (h : x.2 < 500) : ((mP fr (cG f g k lc (fr - 1) n 1) (cG f2 g2 k2 rc (fr - 1) n2 1) (mGs fr (mP fr (cG f g k lc (fr - 1) n 2) (cG f2 g2 k2 rc (fr - 1) n2 2) (fun _ => mG2 fr)))) gr x).2 < 500 := mGs_lt hf (fun _ _ hy => mP2_lt hf hy) (stp_lt h (by omega))
set_option maxHeartbeats 4000000 in
set_option maxRecDepth 100000 in
theorem c_Matcher_matchGroup_0 (l : Launch) (D : va_G) (cI cL cZ cW cR : ClassId) (sz : Nat) (ma lc rc : Nat) (mo fr tr mh sm : Nat) (r v a b k n nv ns : Nat) (f : Nat → Int64) (g h : Nat → Nat) (r2 v2 a2 b2 k2 n2 nv2 ns2 : Nat) (f2 : Nat → Int64) (g2 h2 : Nat → Nat) (gr lr rr : Nat) (hgr : gr < 10) (hlr : lr < 1000) (hrr : rr < 1000) (hfr : 3 ≤ fr) (hfr2 : fr ≤ 8) (hmh : mh < 500) (hn : n ≤ ns) (hns : ns < 1000) (hnv : nv < 100000) (hg : ∀ z, z < n → g z * k + lc < nv) (hn2 : n2 ≤ ns2) (hns2 : ns2 < 1000) (hnv2 : nv2 < 100000) (hg2 : ∀ z, z < n2 → g2 z * k2 + rc < nv2) : Met l y_Matcher_matchGroup ws_Matcher_matchGroup rm8_320 (zPw D vwCl (zT cI cL cZ cW cR) [(ma, .inr (5, [.ref mo, .ref r, .ref r2, .int (nI (fr - 1)), .int (nI lc), .int (nI rc)])), (mo, .inr (4, [.int (nI fr), .int (nI tr), .int (nI mh), .int (nI sm)])), (r, .inr (0, [.int (nI k), .ref v, .ref a, .ref b, .int (nI n)])), (v, .inl (cL, nv, .inr (.inl f))), (a, .inl (cI, ns, .inl (zN g))), (b, .inl (cI, ns, .inl (zN h))), (r2, .inr (0, [.int (nI k2), .ref v2, .ref a2, .ref b2, .int (nI n2)])), (v2, .inl (cL, nv2, .inr (.inl f2))), (a2, .inl (cI, ns2, .inl (zN g2))), (b2, .inl (cI, ns2, .inl (zN h2)))] sz [.ref ma, .int (nI 0), .int (nI gr), .int (nI lr), .int (nI rr)]) (zQv D vwCl (zT cI cL cZ cW cR) [(ma, .inr (5, [.ref mo, .ref r, .ref r2, .int (nI (fr - 1)), .int (nI lc), .int (nI rc)])), (mo, .inr (4, [.int (nI fr), .int (nI tr), .int (nI mh), .int (nI sm)])), (r, .inr (0, [.int (nI k), .ref v, .ref a, .ref b, .int (nI n)])), (v, .inl (cL, nv, .inr (.inl f))), (a, .inl (cI, ns, .inl (zN g))), (b, .inl (cI, ns, .inl (zN h))), (r2, .inr (0, [.int (nI k2), .ref v2, .ref a2, .ref b2, .int (nI n2)])), (v2, .inl (cL, nv2, .inr (.inl f2))), (a2, .inl (cI, ns2, .inl (zN g2))), (b2, .inl (cI, ns2, .inl (zN h2)))] sz (fun _ : Unit => True) (fun _ => [(ma, .inr (5, [.ref mo, .ref r, .ref r2, .int (nI (fr - 1)), .int (nI lc), .int (nI rc)])), (mo, .inr (4, [.int (nI fr), .int (nI ((mGs fr (mP fr (cG f g k lc (fr - 1) n 1) (cG f2 g2 k2 rc (fr - 1) n2 1) (mGs fr (mP fr (cG f g k lc (fr - 1) n 2) (cG f2 g2 k2 rc (fr - 1) n2 2) (fun _ => mG2 fr)))) gr lr rr (tr, mh)).1)), .int (nI ((mGs fr (mP fr (cG f g k lc (fr - 1) n 1) (cG f2 g2 k2 rc (fr - 1) n2 1) (mGs fr (mP fr (cG f g k lc (fr - 1) n 2) (cG f2 g2 k2 rc (fr - 1) n2 2) (fun _ => mG2 fr)))) gr lr rr (tr, mh)).2)), .int (nI sm)])), (r, .inr (0, [.int (nI k), .ref v, .ref a, .ref b, .int (nI n)])), (v, .inl (cL, nv, .inr (.inl f))), (a, .inl (cI, ns, .inl (zN g))), (b, .inl (cI, ns, .inl (zN h))), (r2, .inr (0, [.int (nI k2), .ref v2, .ref a2, .ref b2, .int (nI n2)])), (v2, .inl (cL, nv2, .inr (.inl f2))), (a2, .inl (cI, ns2, .inl (zN g2))), (b2, .inl (cI, ns2, .inl (zN h2)))])) 0 0 (va_A [(ma, .inr (5, [.ref mo, .ref r, .ref r2, .int (nI (fr - 1)), .int (nI lc), .int (nI rc)])), (mo, .inr (4, [.int (nI fr), .int (nI tr), .int (nI mh), .int (nI sm)])), (r, .inr (0, [.int (nI k), .ref v, .ref a, .ref b, .int (nI n)])), (v, .inl (cL, nv, .inr (.inl f))), (a, .inl (cI, ns, .inl (zN g))), (b, .inl (cI, ns, .inl (zN h))), (r2, .inr (0, [.int (nI k2), .ref v2, .ref a2, .ref b2, .int (nI n2)])), (v2, .inl (cL, nv2, .inr (.inl f2))), (a2, .inl (cI, ns2, .inl (zN g2))), (b2, .inl (cI, ns2, .inl (zN h2)))] sz) := by
  refine zk_enterW (cc := b_Matcher_matchGroup) (maxL := 9) (ret := none) (by decide) rfl (Nat.le_of_ble_eq_true rfl) ?_
  intro p e s m args below meth c ls Q hx hb hml hr hlk hown hts hP hK hN hl hin hsz A hAe hA hD hS hQ
  subst hsz
  have hl : lv_has ls 9 [(0, .ref ma), (1, .int (nI 0)), (2, .int (nI gr)), (3, .int (nI lr)), (4, .int (nI rr))] := hl
  have hb1 : bk lr < 1000 := by unfold bk; omega
  have hb2 : bk rr < 1000 := by unfold bk; omega
  have hmh1 : mh < 1000 := by omega
  have hgm : gr * (fr - 1) ≤ 9 * 7 := Nat.mul_le_mul (by omega) (by omega)
  refine lv_iload_n hx hb d_Matcher_matchGroup_0 rfl (lv_at hl 3 rfl) ?_
  refine zk_if_eq (tgt := 9) hx hb d_Matcher_matchGroup_1 rfl (by omega) (fun h1 => ?_) (fun h1 => ?_)
  · skip
    have hz : mGs fr (mP fr (cG f g k lc (fr - 1) n 1) (cG f2 g2 k2 rc (fr - 1) n2 1) (mGs fr (mP fr (cG f g k lc (fr - 1) n 2) (cG f2 g2 k2 rc (fr - 1) n2 2) (fun _ => mG2 fr)))) gr lr rr (tr, mh) = (tr, mh) := if_pos (Or.inl h1)
    rw [hz] at hQ
    exact zk_vretW hx hb hr hlk hAe hQ hK (()) (trivial) hP hD hS d_Matcher_matchGroup_9
  · skip
    refine lv_iload hx hb d_Matcher_matchGroup_4 (lv_at hl 4 rfl) ?_
    refine zk_if_ne (tgt := 10) hx hb d_Matcher_matchGroup_6 rfl (by omega) (fun h6 => ?_) (fun h6 => ?_)
    · skip
      have h16 : ¬ (lr = 0 ∨ rr = 0) := fun q => q.elim h1 h6
      refine lv_iload_n hx hb d_Matcher_matchGroup_10 rfl (lv_at hl 3 rfl) ?_
      have hPc := hP.sub (ws' := []) [] rfl
      refine zk_ri (va_runSN (As := [.int (nI lr)]) (rest := []) ⟨hx, hb, hml, hown, hts⟩ (c_FQ_blocksOf l D cI cL cZ cW cR lr (by omega)) ⟨(va_cnB 1 hts (zk_gC (fun _ h => List.mem_cons_of_mem _ h) co_FQ_blocksOf) rfl rfl rfl (hN.1 _ nl_Matcher_46) (hts _ (List.mem_cons_of_mem _ in_FQ)) hd_FQ_blocksOf ⟨Nat.le_of_ble_eq_true rfl, Nat.le_of_ble_eq_true rfl⟩), (hts _ (List.mem_cons_of_mem _ sm_FQ_blocksOf)), trivial⟩ (zk_sr hN hK hPc) rfl rfl hl.1 rfl (lv_room (Nat.le_of_ble_eq_true rfl)) d_Matcher_matchGroup_11 ⟨Nat.zero_le _, Nat.zero_le _⟩) ?_
      refine lv_istore (lv' := [(5, .int (nI (bk lr))), (0, .ref ma), (1, .int (nI 0)), (2, .int (nI gr)), (3, .int (nI lr)), (4, .int (nI rr))]) hx hb d_Matcher_matchGroup_14 hl (by decide) rfl (fun ls hl => ?_)
      refine lv_iload hx hb d_Matcher_matchGroup_16 (lv_at hl 5 rfl) ?_
      have hPc := hP.sub (ws' := []) [] rfl
      refine zk_ri (va_runSN (As := [.int (nI rr)]) (rest := []) ⟨hx, hb, hml, hown, hts⟩ (c_FQ_blocksOf l D cI cL cZ cW cR rr (by omega)) ⟨(va_cnB 1 hts (zk_gC (fun _ h => List.mem_cons_of_mem _ h) co_FQ_blocksOf) rfl rfl rfl (hN.1 _ nl_Matcher_46) (hts _ (List.mem_cons_of_mem _ in_FQ)) hd_FQ_blocksOf ⟨Nat.le_of_ble_eq_true rfl, Nat.le_of_ble_eq_true rfl⟩), (hts _ (List.mem_cons_of_mem _ sm_FQ_blocksOf)), trivial⟩ (zk_sr hN hK hPc) rfl rfl hl.1 rfl (lv_room (Nat.le_of_ble_eq_true rfl)) d_Matcher_matchGroup_18 ⟨Nat.zero_le _, Nat.zero_le _⟩) ?_
      refine lv_istore (lv' := [(6, .int (nI (bk rr))), (5, .int (nI (bk lr))), (0, .ref ma), (1, .int (nI 0)), (2, .int (nI gr)), (3, .int (nI lr)), (4, .int (nI rr))]) hx hb d_Matcher_matchGroup_21 hl (by decide) rfl (fun ls hl => ?_)
      refine lv_aload_n hx hb d_Matcher_matchGroup_23 rfl (lv_at hl 2 rfl) ?_
      refine va_get (C := R_Matcher) (T := F_Matcher) (N := 6) hx hb hts (fun w h => List.mem_cons_of_mem _ (hin_Matcher w h)) hown hK hP 0 rfl rfl 0 (by decide) (hts _ (List.mem_cons_of_mem _ fl_Matcher_9)) (fun _ h => h) rfl d_Matcher_matchGroup_24 ?_
      refine va_get (C := R_Meter) (T := F_Meter) (N := 4) hx hb hts (fun w h => List.mem_cons_of_mem _ (hin_Meter w h)) hown hK hP 1 rfl rfl 0 (by decide) (hts _ (List.mem_cons_of_mem _ fl_Matcher_22)) (fun _ h => h) rfl d_Matcher_matchGroup_27 ?_
      refine lv_iconst (v := nI 2) hx hb d_Matcher_matchGroup_30 (by decide) ?_
      refine lv_isub hx hb d_Matcher_matchGroup_31 ?_
      refine zk_topi (show ((nI fr) - (nI 2)) = nI (fr - 2) from pk_sub (by omega)) ?_
      refine lv_istore (lv' := [(7, .int (nI (fr - 2))), (6, .int (nI (bk rr))), (5, .int (nI (bk lr))), (0, .ref ma), (1, .int (nI 0)), (2, .int (nI gr)), (3, .int (nI lr)), (4, .int (nI rr))]) hx hb d_Matcher_matchGroup_32 hl (by decide) rfl (fun ls hl => ?_)
      refine lv_iload hx hb d_Matcher_matchGroup_34 (lv_at hl 1 rfl) ?_
      refine lv_iload hx hb d_Matcher_matchGroup_36 (lv_at hl 0 rfl) ?_
      refine zk_icmp_gt (tgt := 60) hx hb d_Matcher_matchGroup_38 rfl (by omega) (by omega) (fun h38 => ?_) (fun h38 => ?_)
      · skip
        refine lv_iload_n hx hb d_Matcher_matchGroup_60 rfl (lv_at hl 4 rfl) ?_
        refine lv_iconst (v := nI 2) hx hb d_Matcher_matchGroup_61 (by decide) ?_
        refine zk_icmp_lt (tgt := 95) hx hb d_Matcher_matchGroup_62 rfl (by omega) (by omega) (fun _ => ?_) (fun hq => absurd hq (by omega))
        refine lv_aload_n hx hb d_Matcher_matchGroup_95 rfl (lv_at hl 3 rfl) ?_
        refine va_get (C := R_Matcher) (T := F_Matcher) (N := 6) hx hb hts (fun w h => List.mem_cons_of_mem _ (hin_Matcher w h)) hown hK hP 0 rfl rfl 0 (by decide) (hts _ (List.mem_cons_of_mem _ fl_Matcher_9)) (fun _ h => h) rfl d_Matcher_matchGroup_96 ?_
        refine lv_iload hx hb d_Matcher_matchGroup_99 (lv_at hl 2 rfl) ?_
        refine lv_iload hx hb d_Matcher_matchGroup_101 (lv_at hl 1 rfl) ?_
        refine lv_iadd hx hb d_Matcher_matchGroup_103 ?_
        refine zk_topi (show ((nI (bk lr)) + (nI (bk rr))) = nI (bk lr + (bk rr)) from nI_add (bk lr) (bk rr)) ?_
        refine lv_aload_n hx hb d_Matcher_matchGroup_104 rfl (lv_at hl 3 rfl) ?_
        refine va_get (C := R_Matcher) (T := F_Matcher) (N := 6) hx hb hts (fun w h => List.mem_cons_of_mem _ (hin_Matcher w h)) hown hK hP 0 rfl rfl 0 (by decide) (hts _ (List.mem_cons_of_mem _ fl_Matcher_9)) (fun _ h => h) rfl d_Matcher_matchGroup_105 ?_
        refine va_get (C := R_Meter) (T := F_Meter) (N := 4) hx hb hts (fun w h => List.mem_cons_of_mem _ (hin_Meter w h)) hown hK hP 1 rfl rfl 0 (by decide) (hts _ (List.mem_cons_of_mem _ fl_Matcher_22)) (fun _ h => h) rfl d_Matcher_matchGroup_108 ?_
        have hPc := hP.sub (ws' := [(mo, .inr (4, [.int (nI fr), .int (nI tr), .int (nI mh), .int (nI sm)]))]) [1] rfl
        have hDc := hD.sub (ws' := [(mo, .inr (4, [.int (nI fr), .int (nI tr), .int (nI mh), .int (nI sm)]))]) [1] (by decide) rfl
        refine zk_wv (wr := [(ma, .inr (5, [.ref mo, .ref r, .ref r2, .int (nI (fr - 1)), .int (nI lc), .int (nI rc)])), (r, .inr (0, [.int (nI k), .ref v, .ref a, .ref b, .int (nI n)])), (v, .inl (cL, nv, .inr (.inl f))), (a, .inl (cI, ns, .inl (zN g))), (b, .inl (cI, ns, .inl (zN h))), (r2, .inr (0, [.int (nI k2), .ref v2, .ref a2, .ref b2, .int (nI n2)])), (v2, .inl (cL, nv2, .inr (.inl f2))), (a2, .inl (cI, ns2, .inl (zN g2))), (b2, .inl (cI, ns2, .inl (zN h2)))]) (w2 := (fun _ => [(ma, .inr (5, [.ref mo, .ref r, .ref r2, .int (nI (fr - 1)), .int (nI lc), .int (nI rc)])), (mo, .inr (4, [.int (nI fr), .int (nI (tr + (bk lr + (bk rr)))), .int (nI (max mh fr)), .int (nI sm)])), (r, .inr (0, [.int (nI k), .ref v, .ref a, .ref b, .int (nI n)])), (v, .inl (cL, nv, .inr (.inl f))), (a, .inl (cI, ns, .inl (zN g))), (b, .inl (cI, ns, .inl (zN h))), (r2, .inr (0, [.int (nI k2), .ref v2, .ref a2, .ref b2, .int (nI n2)])), (v2, .inl (cL, nv2, .inr (.inl f2))), (a2, .inl (cI, ns2, .inl (zN g2))), (b2, .inl (cI, ns2, .inl (zN h2)))])) hP hD hS hA [1] [0, 2, 3, 4, 5, 6, 7, 8, 9] [0, 9, 1, 2, 3, 4, 5, 6, 7, 8] rfl rfl (by decide) (by decide) (fun _ => rfl) (by decide) (va_runV (As := [.int (nI (bk lr + (bk rr))), .int (nI fr)]) (rest := []) ⟨hx, hb, hml, hown, hts⟩ (c_Meter_addStep l D cI cL cZ cW cR _ mo fr tr mh sm (bk lr + (bk rr)) fr hmh1 (by omega)) (cwV 2 hts (zk_gV (fun _ h => List.mem_cons_of_mem _ h) ml_Matcher_50 im_Meter_addStep se_Meter_addStep in_Meter co_Meter_addStep) rfl rfl rfl ⟨rfl, hd_Meter_addStep⟩ ⟨Nat.le_of_ble_eq_true rfl, Nat.le_of_ble_eq_true rfl⟩) (zk_vw (q0 := 0) hN hK hPc hDc rfl rfl) rfl rfl hl.1 rfl (lv_room (Nat.le_of_ble_eq_true rfl)) d_Matcher_matchGroup_111 ⟨Nat.zero_le _, Nat.zero_le _⟩) (fun u H locs hpost hP hD hS => ?_)
        have hP : va_P D vwCl [(ma, .inr (5, [.ref mo, .ref r, .ref r2, .int (nI (fr - 1)), .int (nI lc), .int (nI rc)])), (mo, .inr (4, [.int (nI fr), .int (nI (tr + (bk lr + (bk rr)))), .int (nI (max mh fr)), .int (nI sm)])), (r, .inr (0, [.int (nI k), .ref v, .ref a, .ref b, .int (nI n)])), (v, .inl (cL, nv, .inr (.inl f))), (a, .inl (cI, ns, .inl (zN g))), (b, .inl (cI, ns, .inl (zN h))), (r2, .inr (0, [.int (nI k2), .ref v2, .ref a2, .ref b2, .int (nI n2)])), (v2, .inl (cL, nv2, .inr (.inl f2))), (a2, .inl (cI, ns2, .inl (zN g2))), (b2, .inl (cI, ns2, .inl (zN h2)))] H := hP
        have hD : va_D A [(ma, .inr (5, [.ref mo, .ref r, .ref r2, .int (nI (fr - 1)), .int (nI lc), .int (nI rc)])), (mo, .inr (4, [.int (nI fr), .int (nI (tr + (bk lr + (bk rr)))), .int (nI (max mh fr)), .int (nI sm)])), (r, .inr (0, [.int (nI k), .ref v, .ref a, .ref b, .int (nI n)])), (v, .inl (cL, nv, .inr (.inl f))), (a, .inl (cI, ns, .inl (zN g))), (b, .inl (cI, ns, .inl (zN h))), (r2, .inr (0, [.int (nI k2), .ref v2, .ref a2, .ref b2, .int (nI n2)])), (v2, .inl (cL, nv2, .inr (.inl f2))), (a2, .inl (cI, ns2, .inl (zN g2))), (b2, .inl (cI, ns2, .inl (zN h2)))] := hD
        refine lv_iconst (v := nI 0) hx hb d_Matcher_matchGroup_114 (by decide) ?_
        refine lv_istore (lv' := [(8, .int (nI 0)), (7, .int (nI (fr - 2))), (6, .int (nI (bk rr))), (5, .int (nI (bk lr))), (0, .ref ma), (1, .int (nI 0)), (2, .int (nI gr)), (3, .int (nI lr)), (4, .int (nI rr))]) hx hb d_Matcher_matchGroup_115 hl (by decide) rfl (fun ls hl => ?_)
        have lb117 : ∀ (fuel117 : Nat) (t : Nat) (y1 : Nat) (y2 : Nat), (t ≤ fr - 1) → ((y1, y2) = itr (fun i y => (mP fr (cG f g k lc (fr - 1) n 1) (cG f2 g2 k2 rc (fr - 1) n2 1) (mGs fr (mP fr (cG f g k lc (fr - 1) n 2) (cG f2 g2 k2 rc (fr - 1) n2 2) (fun _ => mG2 fr)))) (gr * (fr - 1) + i) y) t (stp (tr, mh) (bk lr + bk rr) fr)) → (y2 < 500) → fr - 1 - t < fuel117 → ∀ (ls : Array Slot) (H : Heap) (locs : List Loc), lv_has ls 9 [(0, .ref ma), (1, .int (nI 0)), (2, .int (nI gr)), (8, .int (nI t))] → va_P D vwCl [(ma, .inr (5, [.ref mo, .ref r, .ref r2, .int (nI (fr - 1)), .int (nI lc), .int (nI rc)])), (mo, .inr (4, [.int (nI fr), .int (nI y1), .int (nI y2), .int (nI sm)])), (r, .inr (0, [.int (nI k), .ref v, .ref a, .ref b, .int (nI n)])), (v, .inl (cL, nv, .inr (.inl f))), (a, .inl (cI, ns, .inl (zN g))), (b, .inl (cI, ns, .inl (zN h))), (r2, .inr (0, [.int (nI k2), .ref v2, .ref a2, .ref b2, .int (nI n2)])), (v2, .inl (cL, nv2, .inr (.inl f2))), (a2, .inl (cI, ns2, .inl (zN g2))), (b2, .inl (cI, ns2, .inl (zN h2)))] H → va_D A [(ma, .inr (5, [.ref mo, .ref r, .ref r2, .int (nI (fr - 1)), .int (nI lc), .int (nI rc)])), (mo, .inr (4, [.int (nI fr), .int (nI y1), .int (nI y2), .int (nI sm)])), (r, .inr (0, [.int (nI k), .ref v, .ref a, .ref b, .int (nI n)])), (v, .inl (cL, nv, .inr (.inl f))), (a, .inl (cI, ns, .inl (zN g))), (b, .inl (cI, ns, .inl (zN h))), (r2, .inr (0, [.int (nI k2), .ref v2, .ref a2, .ref b2, .int (nI n2)])), (v2, .inl (cL, nv2, .inr (.inl f2))), (a2, .inl (cI, ns2, .inl (zN g2))), (b2, .inl (cI, ns2, .inl (zN h2)))] → va_S A s.heap H locs → W p l e rm8_320 s m args below meth c H locs 0 0 Q (F0 m 117 ls []) := by
          intro fuel117
          induction fuel117 with
          | zero => intro t y1 y2 ht hy hy2 hfu117; exact absurd hfu117 (Nat.not_lt_zero _)
          | succ fuel117 ih117 =>
            intro t y1 y2 ht hy hy2 hfu117 ls H locs hl hP hD hS
            refine lv_iload hx hb d_Matcher_matchGroup_117 (lv_at hl 3 rfl) ?_
            refine lv_aload_n hx hb d_Matcher_matchGroup_119 rfl (lv_at hl 0 rfl) ?_
            refine va_get (C := R_Matcher) (T := F_Matcher) (N := 6) hx hb hts (fun w h => List.mem_cons_of_mem _ (hin_Matcher w h)) hown hK hP 0 rfl rfl 3 (by decide) (hts _ (List.mem_cons_of_mem _ fl_Matcher_28)) (fun _ h => h) rfl d_Matcher_matchGroup_120 ?_
            refine zk_icmp_ge (tgt := 148) hx hb d_Matcher_matchGroup_123 rfl (by omega) (by omega) (fun h123 => ?_) (fun h123 => ?_)
            · skip
              obtain rfl : t = fr - 1 := by omega
              have hz : mGs fr (mP fr (cG f g k lc (fr - 1) n 1) (cG f2 g2 k2 rc (fr - 1) n2 1) (mGs fr (mP fr (cG f g k lc (fr - 1) n 2) (cG f2 g2 k2 rc (fr - 1) n2 2) (fun _ => mG2 fr)))) gr lr rr (tr, mh) = (y1, y2) := ((if_neg h16).trans (if_neg (by omega))).trans hy.symm
              rw [hz] at hQ
              exact zk_vretW hx hb hr hlk hAe hQ hK (()) (trivial) hP hD hS d_Matcher_matchGroup_148
            · skip
              refine lv_aload_n hx hb d_Matcher_matchGroup_126 rfl (lv_at hl 0 rfl) ?_
              refine lv_iload_n hx hb d_Matcher_matchGroup_127 rfl (lv_at hl 1 rfl) ?_
              refine lv_iconst (v := nI 1) hx hb d_Matcher_matchGroup_128 (by decide) ?_
              refine lv_iadd hx hb d_Matcher_matchGroup_129 ?_
              refine zk_topi (show ((nI 0) + (nI 1)) = nI (0 + 1) from nI_add 0 1) ?_
              refine lv_iload_n hx hb d_Matcher_matchGroup_130 rfl (lv_at hl 2 rfl) ?_
              refine lv_aload_n hx hb d_Matcher_matchGroup_131 rfl (lv_at hl 0 rfl) ?_
              refine va_get (C := R_Matcher) (T := F_Matcher) (N := 6) hx hb hts (fun w h => List.mem_cons_of_mem _ (hin_Matcher w h)) hown hK hP 0 rfl rfl 3 (by decide) (hts _ (List.mem_cons_of_mem _ fl_Matcher_28)) (fun _ h => h) rfl d_Matcher_matchGroup_132 ?_
              refine lv_imul hx hb d_Matcher_matchGroup_135 ?_
              refine zk_topi (show ((nI gr) * (nI (fr - 1))) = nI (gr * (fr - 1)) from pk_mul gr (fr - 1)) ?_
              refine lv_iload hx hb d_Matcher_matchGroup_136 (lv_at hl 3 rfl) ?_
              refine lv_iadd hx hb d_Matcher_matchGroup_138 ?_
              refine zk_topi (show ((nI (gr * (fr - 1))) + (nI t)) = nI (gr * (fr - 1) + t) from nI_add (gr * (fr - 1)) t) ?_
              have hPc := hP.sub (ws' := [(ma, .inr (5, [.ref mo, .ref r, .ref r2, .int (nI (fr - 1)), .int (nI lc), .int (nI rc)])), (mo, .inr (4, [.int (nI fr), .int (nI y1), .int (nI y2), .int (nI sm)])), (r, .inr (0, [.int (nI k), .ref v, .ref a, .ref b, .int (nI n)])), (v, .inl (cL, nv, .inr (.inl f))), (a, .inl (cI, ns, .inl (zN g))), (b, .inl (cI, ns, .inl (zN h))), (r2, .inr (0, [.int (nI k2), .ref v2, .ref a2, .ref b2, .int (nI n2)])), (v2, .inl (cL, nv2, .inr (.inl f2))), (a2, .inl (cI, ns2, .inl (zN g2))), (b2, .inl (cI, ns2, .inl (zN h2)))]) [0, 1, 2, 3, 4, 5, 6, 7, 8, 9] rfl
              have hDc := hD.sub (ws' := [(ma, .inr (5, [.ref mo, .ref r, .ref r2, .int (nI (fr - 1)), .int (nI lc), .int (nI rc)])), (mo, .inr (4, [.int (nI fr), .int (nI y1), .int (nI y2), .int (nI sm)])), (r, .inr (0, [.int (nI k), .ref v, .ref a, .ref b, .int (nI n)])), (v, .inl (cL, nv, .inr (.inl f))), (a, .inl (cI, ns, .inl (zN g))), (b, .inl (cI, ns, .inl (zN h))), (r2, .inr (0, [.int (nI k2), .ref v2, .ref a2, .ref b2, .int (nI n2)])), (v2, .inl (cL, nv2, .inr (.inl f2))), (a2, .inl (cI, ns2, .inl (zN g2))), (b2, .inl (cI, ns2, .inl (zN h2)))]) [0, 1, 2, 3, 4, 5, 6, 7, 8, 9] (by decide) rfl
              refine zk_wv (wr := []) (w2 := (fun _ => [(ma, .inr (5, [.ref mo, .ref r, .ref r2, .int (nI (fr - 1)), .int (nI lc), .int (nI rc)])), (mo, .inr (4, [.int (nI fr), .int (nI (((mP fr (cG f g k lc (fr - 1) n 1) (cG f2 g2 k2 rc (fr - 1) n2 1) (mGs fr (mP fr (cG f g k lc (fr - 1) n 2) (cG f2 g2 k2 rc (fr - 1) n2 2) (fun _ => mG2 fr)))) (gr * (fr - 1) + t) (y1, y2)).1)), .int (nI (((mP fr (cG f g k lc (fr - 1) n 1) (cG f2 g2 k2 rc (fr - 1) n2 1) (mGs fr (mP fr (cG f g k lc (fr - 1) n 2) (cG f2 g2 k2 rc (fr - 1) n2 2) (fun _ => mG2 fr)))) (gr * (fr - 1) + t) (y1, y2)).2)), .int (nI sm)])), (r, .inr (0, [.int (nI k), .ref v, .ref a, .ref b, .int (nI n)])), (v, .inl (cL, nv, .inr (.inl f))), (a, .inl (cI, ns, .inl (zN g))), (b, .inl (cI, ns, .inl (zN h))), (r2, .inr (0, [.int (nI k2), .ref v2, .ref a2, .ref b2, .int (nI n2)])), (v2, .inl (cL, nv2, .inr (.inl f2))), (a2, .inl (cI, ns2, .inl (zN g2))), (b2, .inl (cI, ns2, .inl (zN h2)))])) hP hD hS hA [0, 1, 2, 3, 4, 5, 6, 7, 8, 9] [] [0, 1, 2, 3, 4, 5, 6, 7, 8, 9] rfl rfl (by decide) (by decide) (fun _ => rfl) (by decide) (va_runV (As := [.int (nI (0 + 1)), .int (nI (gr * (fr - 1) + t))]) (rest := []) ⟨hx, hb, hml, hown, hts⟩ (c_Matcher_matchPart_1 l D cI cL cZ cW cR _ ma lc rc mo fr y1 y2 sm r v a b k n nv ns f g h r2 v2 a2 b2 k2 n2 nv2 ns2 f2 g2 h2 (gr * (fr - 1) + t) (by omega) hfr hfr2 hy2 hn hns hnv hg hn2 hns2 hnv2 hg2) (cwV 2 hts (zk_gV (fun _ h => List.mem_cons_of_mem _ h) ml_Matcher_58 im_Matcher_matchPart se_Matcher_matchPart in_Matcher co_Matcher_matchPart) rfl rfl rfl ⟨rfl, hd_Matcher_matchPart⟩ ⟨Nat.le_of_ble_eq_true rfl, Nat.le_of_ble_eq_true rfl⟩) (zk_vw (q0 := 0) hN hK hPc hDc rfl rfl) rfl rfl hl.1 rfl (lv_room (Nat.le_of_ble_eq_true rfl)) d_Matcher_matchGroup_139 ⟨Nat.zero_le _, Nat.zero_le _⟩) (fun u H locs hpost hP hD hS => ?_)
              have hP : va_P D vwCl [(ma, .inr (5, [.ref mo, .ref r, .ref r2, .int (nI (fr - 1)), .int (nI lc), .int (nI rc)])), (mo, .inr (4, [.int (nI fr), .int (nI (((mP fr (cG f g k lc (fr - 1) n 1) (cG f2 g2 k2 rc (fr - 1) n2 1) (mGs fr (mP fr (cG f g k lc (fr - 1) n 2) (cG f2 g2 k2 rc (fr - 1) n2 2) (fun _ => mG2 fr)))) (gr * (fr - 1) + t) (y1, y2)).1)), .int (nI (((mP fr (cG f g k lc (fr - 1) n 1) (cG f2 g2 k2 rc (fr - 1) n2 1) (mGs fr (mP fr (cG f g k lc (fr - 1) n 2) (cG f2 g2 k2 rc (fr - 1) n2 2) (fun _ => mG2 fr)))) (gr * (fr - 1) + t) (y1, y2)).2)), .int (nI sm)])), (r, .inr (0, [.int (nI k), .ref v, .ref a, .ref b, .int (nI n)])), (v, .inl (cL, nv, .inr (.inl f))), (a, .inl (cI, ns, .inl (zN g))), (b, .inl (cI, ns, .inl (zN h))), (r2, .inr (0, [.int (nI k2), .ref v2, .ref a2, .ref b2, .int (nI n2)])), (v2, .inl (cL, nv2, .inr (.inl f2))), (a2, .inl (cI, ns2, .inl (zN g2))), (b2, .inl (cI, ns2, .inl (zN h2)))] H := hP
              have hD : va_D A [(ma, .inr (5, [.ref mo, .ref r, .ref r2, .int (nI (fr - 1)), .int (nI lc), .int (nI rc)])), (mo, .inr (4, [.int (nI fr), .int (nI (((mP fr (cG f g k lc (fr - 1) n 1) (cG f2 g2 k2 rc (fr - 1) n2 1) (mGs fr (mP fr (cG f g k lc (fr - 1) n 2) (cG f2 g2 k2 rc (fr - 1) n2 2) (fun _ => mG2 fr)))) (gr * (fr - 1) + t) (y1, y2)).1)), .int (nI (((mP fr (cG f g k lc (fr - 1) n 1) (cG f2 g2 k2 rc (fr - 1) n2 1) (mGs fr (mP fr (cG f g k lc (fr - 1) n 2) (cG f2 g2 k2 rc (fr - 1) n2 2) (fun _ => mG2 fr)))) (gr * (fr - 1) + t) (y1, y2)).2)), .int (nI sm)])), (r, .inr (0, [.int (nI k), .ref v, .ref a, .ref b, .int (nI n)])), (v, .inl (cL, nv, .inr (.inl f))), (a, .inl (cI, ns, .inl (zN g))), (b, .inl (cI, ns, .inl (zN h))), (r2, .inr (0, [.int (nI k2), .ref v2, .ref a2, .ref b2, .int (nI n2)])), (v2, .inl (cL, nv2, .inr (.inl f2))), (a2, .inl (cI, ns2, .inl (zN g2))), (b2, .inl (cI, ns2, .inl (zN h2)))] := hD
              refine lv_iinc (k := 3) (v := nI (t + 1)) (lv' := [(8, .int (nI (t + 1))), (0, .ref ma), (1, .int (nI 0)), (2, .int (nI gr))]) hx hb d_Matcher_matchGroup_142 hl rfl (nI_add t 1) (by decide) rfl (fun ls hl => ?_)
              refine lv_goto (tgt := 117) hx hb d_Matcher_matchGroup_145 rfl ?_
              exact ih117 (t + 1) (((mP fr (cG f g k lc (fr - 1) n 1) (cG f2 g2 k2 rc (fr - 1) n2 1) (mGs fr (mP fr (cG f g k lc (fr - 1) n 2) (cG f2 g2 k2 rc (fr - 1) n2 2) (fun _ => mG2 fr)))) (gr * (fr - 1) + t) (y1, y2)).1) (((mP fr (cG f g k lc (fr - 1) n 1) (cG f2 g2 k2 rc (fr - 1) n2 1) (mGs fr (mP fr (cG f g k lc (fr - 1) n 2) (cG f2 g2 k2 rc (fr - 1) n2 2) (fun _ => mG2 fr)))) (gr * (fr - 1) + t) (y1, y2)).2) (by omega) (congrArg ((mP fr (cG f g k lc (fr - 1) n 1) (cG f2 g2 k2 rc (fr - 1) n2 1) (mGs fr (mP fr (cG f g k lc (fr - 1) n 2) (cG f2 g2 k2 rc (fr - 1) n2 2) (fun _ => mG2 fr)))) (gr * (fr - 1) + t)) hy) (mP1_lt hfr2 hy2) (by omega) ls _ _ (lv_sub hl [1, 2, 3, 0] rfl) hP hD hS
        exact lb117 _ 0 (tr + (bk lr + bk rr)) (max mh fr) (Nat.zero_le _) rfl (by omega) (Nat.lt_succ_self _) ls _ _ (lv_sub hl [4, 5, 6, 0] rfl) hP hD hS
      · skip
        have hz : mGs fr (mP fr (cG f g k lc (fr - 1) n 1) (cG f2 g2 k2 rc (fr - 1) n2 1) (mGs fr (mP fr (cG f g k lc (fr - 1) n 2) (cG f2 g2 k2 rc (fr - 1) n2 2) (fun _ => mG2 fr)))) gr lr rr (tr, mh) = stp (tr, mh) (bk rr + bk lr) (bk rr + 2) := (if_neg h16).trans (if_pos (by omega))
        refine lv_aload_n hx hb d_Matcher_matchGroup_41 rfl (lv_at hl 3 rfl) ?_
        refine va_get (C := R_Matcher) (T := F_Matcher) (N := 6) hx hb hts (fun w h => List.mem_cons_of_mem _ (hin_Matcher w h)) hown hK hP 0 rfl rfl 0 (by decide) (hts _ (List.mem_cons_of_mem _ fl_Matcher_9)) (fun _ h => h) rfl d_Matcher_matchGroup_42 ?_
        refine lv_iload hx hb d_Matcher_matchGroup_45 (lv_at hl 1 rfl) ?_
        refine lv_iload hx hb d_Matcher_matchGroup_47 (lv_at hl 2 rfl) ?_
        refine lv_iadd hx hb d_Matcher_matchGroup_49 ?_
        refine zk_topi (show ((nI (bk rr)) + (nI (bk lr))) = nI (bk rr + (bk lr)) from nI_add (bk rr) (bk lr)) ?_
        refine lv_iload hx hb d_Matcher_matchGroup_50 (lv_at hl 1 rfl) ?_
        refine lv_iconst (v := nI 2) hx hb d_Matcher_matchGroup_52 (by decide) ?_
        refine lv_iadd hx hb d_Matcher_matchGroup_53 ?_
        refine zk_topi (show ((nI (bk rr)) + (nI 2)) = nI (bk rr + 2) from nI_add (bk rr) 2) ?_
        have hPc := hP.sub (ws' := [(mo, .inr (4, [.int (nI fr), .int (nI tr), .int (nI mh), .int (nI sm)]))]) [1] rfl
        have hDc := hD.sub (ws' := [(mo, .inr (4, [.int (nI fr), .int (nI tr), .int (nI mh), .int (nI sm)]))]) [1] (by decide) rfl
        refine zk_wv (wr := [(ma, .inr (5, [.ref mo, .ref r, .ref r2, .int (nI (fr - 1)), .int (nI lc), .int (nI rc)])), (r, .inr (0, [.int (nI k), .ref v, .ref a, .ref b, .int (nI n)])), (v, .inl (cL, nv, .inr (.inl f))), (a, .inl (cI, ns, .inl (zN g))), (b, .inl (cI, ns, .inl (zN h))), (r2, .inr (0, [.int (nI k2), .ref v2, .ref a2, .ref b2, .int (nI n2)])), (v2, .inl (cL, nv2, .inr (.inl f2))), (a2, .inl (cI, ns2, .inl (zN g2))), (b2, .inl (cI, ns2, .inl (zN h2)))]) (w2 := (fun _ => [(ma, .inr (5, [.ref mo, .ref r, .ref r2, .int (nI (fr - 1)), .int (nI lc), .int (nI rc)])), (mo, .inr (4, [.int (nI fr), .int (nI (tr + (bk rr + (bk lr)))), .int (nI (max mh (bk rr + 2))), .int (nI sm)])), (r, .inr (0, [.int (nI k), .ref v, .ref a, .ref b, .int (nI n)])), (v, .inl (cL, nv, .inr (.inl f))), (a, .inl (cI, ns, .inl (zN g))), (b, .inl (cI, ns, .inl (zN h))), (r2, .inr (0, [.int (nI k2), .ref v2, .ref a2, .ref b2, .int (nI n2)])), (v2, .inl (cL, nv2, .inr (.inl f2))), (a2, .inl (cI, ns2, .inl (zN g2))), (b2, .inl (cI, ns2, .inl (zN h2)))])) hP hD hS hA [1] [0, 2, 3, 4, 5, 6, 7, 8, 9] [0, 9, 1, 2, 3, 4, 5, 6, 7, 8] rfl rfl (by decide) (by decide) (fun _ => rfl) (by decide) (va_runV (As := [.int (nI (bk rr + (bk lr))), .int (nI (bk rr + 2))]) (rest := []) ⟨hx, hb, hml, hown, hts⟩ (c_Meter_addStep l D cI cL cZ cW cR _ mo fr tr mh sm (bk rr + (bk lr)) (bk rr + 2) hmh1 (by omega)) (cwV 2 hts (zk_gV (fun _ h => List.mem_cons_of_mem _ h) ml_Matcher_50 im_Meter_addStep se_Meter_addStep in_Meter co_Meter_addStep) rfl rfl rfl ⟨rfl, hd_Meter_addStep⟩ ⟨Nat.le_of_ble_eq_true rfl, Nat.le_of_ble_eq_true rfl⟩) (zk_vw (q0 := 0) hN hK hPc hDc rfl rfl) rfl rfl hl.1 rfl (lv_room (Nat.le_of_ble_eq_true rfl)) d_Matcher_matchGroup_54 ⟨Nat.zero_le _, Nat.zero_le _⟩) (fun u H locs hpost hP hD hS => ?_)
        have hP : va_P D vwCl [(ma, .inr (5, [.ref mo, .ref r, .ref r2, .int (nI (fr - 1)), .int (nI lc), .int (nI rc)])), (mo, .inr (4, [.int (nI fr), .int (nI (tr + (bk rr + (bk lr)))), .int (nI (max mh (bk rr + 2))), .int (nI sm)])), (r, .inr (0, [.int (nI k), .ref v, .ref a, .ref b, .int (nI n)])), (v, .inl (cL, nv, .inr (.inl f))), (a, .inl (cI, ns, .inl (zN g))), (b, .inl (cI, ns, .inl (zN h))), (r2, .inr (0, [.int (nI k2), .ref v2, .ref a2, .ref b2, .int (nI n2)])), (v2, .inl (cL, nv2, .inr (.inl f2))), (a2, .inl (cI, ns2, .inl (zN g2))), (b2, .inl (cI, ns2, .inl (zN h2)))] H := hP
        have hD : va_D A [(ma, .inr (5, [.ref mo, .ref r, .ref r2, .int (nI (fr - 1)), .int (nI lc), .int (nI rc)])), (mo, .inr (4, [.int (nI fr), .int (nI (tr + (bk rr + (bk lr)))), .int (nI (max mh (bk rr + 2))), .int (nI sm)])), (r, .inr (0, [.int (nI k), .ref v, .ref a, .ref b, .int (nI n)])), (v, .inl (cL, nv, .inr (.inl f))), (a, .inl (cI, ns, .inl (zN g))), (b, .inl (cI, ns, .inl (zN h))), (r2, .inr (0, [.int (nI k2), .ref v2, .ref a2, .ref b2, .int (nI n2)])), (v2, .inl (cL, nv2, .inr (.inl f2))), (a2, .inl (cI, ns2, .inl (zN g2))), (b2, .inl (cI, ns2, .inl (zN h2)))] := hD
        refine lv_goto (tgt := 148) hx hb d_Matcher_matchGroup_57 rfl ?_
        rw [hz] at hQ
        exact zk_vretW hx hb hr hlk hAe hQ hK (()) (trivial) hP hD hS d_Matcher_matchGroup_148
    · skip
      have hz : mGs fr (mP fr (cG f g k lc (fr - 1) n 1) (cG f2 g2 k2 rc (fr - 1) n2 1) (mGs fr (mP fr (cG f g k lc (fr - 1) n 2) (cG f2 g2 k2 rc (fr - 1) n2 2) (fun _ => mG2 fr)))) gr lr rr (tr, mh) = (tr, mh) := if_pos (Or.inr h6)
      rw [hz] at hQ
      exact zk_vretW hx hb hr hlk hAe hQ hK (()) (trivial) hP hD hS d_Matcher_matchGroup_9
set_option maxHeartbeats 4000000 in
set_option maxRecDepth 100000 in
theorem c_Matcher_matchAll (l : Launch) (D : va_G) (cI cL cZ cW cR : ClassId) (sz : Nat) (ma lc rc : Nat) (mo fr tr mh sm : Nat) (r v a b k n nv ns : Nat) (f : Nat → Int64) (g h : Nat → Nat) (r2 v2 a2 b2 k2 n2 nv2 ns2 : Nat) (f2 : Nat → Int64) (g2 h2 : Nat → Nat) (x0 y0 : Nat) (hfr : 3 ≤ fr) (hfr2 : fr ≤ 8) (hmh : mh < 500) (hn : n ≤ ns) (hns : ns < 1000) (hnv : nv < 100000) (hg : ∀ z, z < n → g z * k + x0 < nv) (hn2 : n2 ≤ ns2) (hns2 : ns2 < 1000) (hnv2 : nv2 < 100000) (hg2 : ∀ z, z < n2 → g2 z * k2 + y0 < nv2) : Met l y_Matcher_matchAll ws_Matcher_matchAll rm9_360 (zPw D vwCl (zT cI cL cZ cW cR) [(ma, .inr (5, [.ref mo, .ref r, .ref r2, .int (nI (fr - 1)), .int (nI lc), .int (nI rc)])), (mo, .inr (4, [.int (nI fr), .int (nI tr), .int (nI mh), .int (nI sm)])), (r, .inr (0, [.int (nI k), .ref v, .ref a, .ref b, .int (nI n)])), (v, .inl (cL, nv, .inr (.inl f))), (a, .inl (cI, ns, .inl (zN g))), (b, .inl (cI, ns, .inl (zN h))), (r2, .inr (0, [.int (nI k2), .ref v2, .ref a2, .ref b2, .int (nI n2)])), (v2, .inl (cL, nv2, .inr (.inl f2))), (a2, .inl (cI, ns2, .inl (zN g2))), (b2, .inl (cI, ns2, .inl (zN h2)))] sz [.ref ma, .int (nI x0), .int (nI y0)]) (zQv D vwCl (zT cI cL cZ cW cR) [(ma, .inr (5, [.ref mo, .ref r, .ref r2, .int (nI (fr - 1)), .int (nI lc), .int (nI rc)])), (mo, .inr (4, [.int (nI fr), .int (nI tr), .int (nI mh), .int (nI sm)])), (r, .inr (0, [.int (nI k), .ref v, .ref a, .ref b, .int (nI n)])), (v, .inl (cL, nv, .inr (.inl f))), (a, .inl (cI, ns, .inl (zN g))), (b, .inl (cI, ns, .inl (zN h))), (r2, .inr (0, [.int (nI k2), .ref v2, .ref a2, .ref b2, .int (nI n2)])), (v2, .inl (cL, nv2, .inr (.inl f2))), (a2, .inl (cI, ns2, .inl (zN g2))), (b2, .inl (cI, ns2, .inl (zN h2)))] sz (fun _ : Unit => True) (fun _ => [(ma, .inr (5, [.ref mo, .ref r, .ref r2, .int (nI (fr - 1)), .int (nI x0), .int (nI y0)])), (mo, .inr (4, [.int (nI fr), .int (nI ((mGs fr (mP fr (cG f g k x0 (fr - 1) n 1) (cG f2 g2 k2 y0 (fr - 1) n2 1) (mGs fr (mP fr (cG f g k x0 (fr - 1) n 2) (cG f2 g2 k2 y0 (fr - 1) n2 2) (fun _ => mG2 fr)))) 0 n n2 (tr, mh)).1)), .int (nI ((mGs fr (mP fr (cG f g k x0 (fr - 1) n 1) (cG f2 g2 k2 y0 (fr - 1) n2 1) (mGs fr (mP fr (cG f g k x0 (fr - 1) n 2) (cG f2 g2 k2 y0 (fr - 1) n2 2) (fun _ => mG2 fr)))) 0 n n2 (tr, mh)).2)), .int (nI sm)])), (r, .inr (0, [.int (nI k), .ref v, .ref a, .ref b, .int (nI n)])), (v, .inl (cL, nv, .inr (.inl f))), (a, .inl (cI, ns, .inl (zN g))), (b, .inl (cI, ns, .inl (zN h))), (r2, .inr (0, [.int (nI k2), .ref v2, .ref a2, .ref b2, .int (nI n2)])), (v2, .inl (cL, nv2, .inr (.inl f2))), (a2, .inl (cI, ns2, .inl (zN g2))), (b2, .inl (cI, ns2, .inl (zN h2)))])) 0 0 (va_A [(ma, .inr (5, [.ref mo, .ref r, .ref r2, .int (nI (fr - 1)), .int (nI lc), .int (nI rc)])), (mo, .inr (4, [.int (nI fr), .int (nI tr), .int (nI mh), .int (nI sm)])), (r, .inr (0, [.int (nI k), .ref v, .ref a, .ref b, .int (nI n)])), (v, .inl (cL, nv, .inr (.inl f))), (a, .inl (cI, ns, .inl (zN g))), (b, .inl (cI, ns, .inl (zN h))), (r2, .inr (0, [.int (nI k2), .ref v2, .ref a2, .ref b2, .int (nI n2)])), (v2, .inl (cL, nv2, .inr (.inl f2))), (a2, .inl (cI, ns2, .inl (zN g2))), (b2, .inl (cI, ns2, .inl (zN h2)))] sz) := by
  refine zk_enterW (cc := b_Matcher_matchAll) (maxL := 3) (ret := none) (by decide) rfl (Nat.le_of_ble_eq_true rfl) ?_
  intro p e s m args below meth c ls Q hx hb hml hr hlk hown hts hP hK hN hl hin hsz A hAe hA hD hS hQ
  subst hsz
  have hl : lv_has ls 3 [(0, .ref ma), (1, .int (nI x0)), (2, .int (nI y0))] := hl
  refine lv_aload_n hx hb d_Matcher_matchAll_0 rfl (lv_at hl 0 rfl) ?_
  refine lv_iload_n hx hb d_Matcher_matchAll_1 rfl (lv_at hl 1 rfl) ?_
  refine va_put (D := D) (v := .int (nI x0)) (ty := .int) (C := R_Matcher) (T := F_Matcher) (N := 6) hx hb hts (fun w h => List.mem_cons_of_mem _ (hin_Matcher w h)) t_Matcher t_Matcher_ok n_Matcher hown hK hP hD hS 0 rfl rfl 4 (by decide) (hts _ (List.mem_cons_of_mem _ fl_Matcher_31)) (fun _ h => h) rfl (by decide +kernel) rfl rfl (Nat.le_of_ble_eq_true rfl) d_Matcher_matchAll_2 (fun H locs hP hD hS => ?_)
  have hP : va_P D vwCl [(ma, .inr (5, [.ref mo, .ref r, .ref r2, .int (nI (fr - 1)), .int (nI x0), .int (nI rc)])), (mo, .inr (4, [.int (nI fr), .int (nI tr), .int (nI mh), .int (nI sm)])), (r, .inr (0, [.int (nI k), .ref v, .ref a, .ref b, .int (nI n)])), (v, .inl (cL, nv, .inr (.inl f))), (a, .inl (cI, ns, .inl (zN g))), (b, .inl (cI, ns, .inl (zN h))), (r2, .inr (0, [.int (nI k2), .ref v2, .ref a2, .ref b2, .int (nI n2)])), (v2, .inl (cL, nv2, .inr (.inl f2))), (a2, .inl (cI, ns2, .inl (zN g2))), (b2, .inl (cI, ns2, .inl (zN h2)))] H := hP
  have hD : va_D A [(ma, .inr (5, [.ref mo, .ref r, .ref r2, .int (nI (fr - 1)), .int (nI x0), .int (nI rc)])), (mo, .inr (4, [.int (nI fr), .int (nI tr), .int (nI mh), .int (nI sm)])), (r, .inr (0, [.int (nI k), .ref v, .ref a, .ref b, .int (nI n)])), (v, .inl (cL, nv, .inr (.inl f))), (a, .inl (cI, ns, .inl (zN g))), (b, .inl (cI, ns, .inl (zN h))), (r2, .inr (0, [.int (nI k2), .ref v2, .ref a2, .ref b2, .int (nI n2)])), (v2, .inl (cL, nv2, .inr (.inl f2))), (a2, .inl (cI, ns2, .inl (zN g2))), (b2, .inl (cI, ns2, .inl (zN h2)))] := hD
  refine lv_aload_n hx hb d_Matcher_matchAll_5 rfl (lv_at hl 0 rfl) ?_
  refine lv_iload_n hx hb d_Matcher_matchAll_6 rfl (lv_at hl 2 rfl) ?_
  refine va_put (D := D) (v := .int (nI y0)) (ty := .int) (C := R_Matcher) (T := F_Matcher) (N := 6) hx hb hts (fun w h => List.mem_cons_of_mem _ (hin_Matcher w h)) t_Matcher t_Matcher_ok n_Matcher hown hK hP hD hS 0 rfl rfl 5 (by decide) (hts _ (List.mem_cons_of_mem _ fl_Matcher_34)) (fun _ h => h) rfl (by decide +kernel) rfl rfl (Nat.le_of_ble_eq_true rfl) d_Matcher_matchAll_7 (fun H locs hP hD hS => ?_)
  have hP : va_P D vwCl [(ma, .inr (5, [.ref mo, .ref r, .ref r2, .int (nI (fr - 1)), .int (nI x0), .int (nI y0)])), (mo, .inr (4, [.int (nI fr), .int (nI tr), .int (nI mh), .int (nI sm)])), (r, .inr (0, [.int (nI k), .ref v, .ref a, .ref b, .int (nI n)])), (v, .inl (cL, nv, .inr (.inl f))), (a, .inl (cI, ns, .inl (zN g))), (b, .inl (cI, ns, .inl (zN h))), (r2, .inr (0, [.int (nI k2), .ref v2, .ref a2, .ref b2, .int (nI n2)])), (v2, .inl (cL, nv2, .inr (.inl f2))), (a2, .inl (cI, ns2, .inl (zN g2))), (b2, .inl (cI, ns2, .inl (zN h2)))] H := hP
  have hD : va_D A [(ma, .inr (5, [.ref mo, .ref r, .ref r2, .int (nI (fr - 1)), .int (nI x0), .int (nI y0)])), (mo, .inr (4, [.int (nI fr), .int (nI tr), .int (nI mh), .int (nI sm)])), (r, .inr (0, [.int (nI k), .ref v, .ref a, .ref b, .int (nI n)])), (v, .inl (cL, nv, .inr (.inl f))), (a, .inl (cI, ns, .inl (zN g))), (b, .inl (cI, ns, .inl (zN h))), (r2, .inr (0, [.int (nI k2), .ref v2, .ref a2, .ref b2, .int (nI n2)])), (v2, .inl (cL, nv2, .inr (.inl f2))), (a2, .inl (cI, ns2, .inl (zN g2))), (b2, .inl (cI, ns2, .inl (zN h2)))] := hD
  refine lv_aload_n hx hb d_Matcher_matchAll_10 rfl (lv_at hl 0 rfl) ?_
  refine lv_iconst (v := nI 0) hx hb d_Matcher_matchAll_11 (by decide) ?_
  refine lv_iconst (v := nI 0) hx hb d_Matcher_matchAll_12 (by decide) ?_
  refine lv_aload_n hx hb d_Matcher_matchAll_13 rfl (lv_at hl 0 rfl) ?_
  refine va_get (C := R_Matcher) (T := F_Matcher) (N := 6) hx hb hts (fun w h => List.mem_cons_of_mem _ (hin_Matcher w h)) hown hK hP 0 rfl rfl 1 (by decide) (hts _ (List.mem_cons_of_mem _ fl_Matcher_15)) (fun _ h => h) rfl d_Matcher_matchAll_14 ?_
  refine va_get (C := R_Rows) (T := F_Rows) (N := 5) hx hb hts (fun w h => List.mem_cons_of_mem _ (hin_Rows w h)) hown hK hP 2 rfl rfl 4 (by decide) (hts _ (List.mem_cons_of_mem _ fl_Matcher_37)) (fun _ h => h) rfl d_Matcher_matchAll_17 ?_
  refine lv_aload_n hx hb d_Matcher_matchAll_20 rfl (lv_at hl 0 rfl) ?_
  refine va_get (C := R_Matcher) (T := F_Matcher) (N := 6) hx hb hts (fun w h => List.mem_cons_of_mem _ (hin_Matcher w h)) hown hK hP 0 rfl rfl 2 (by decide) (hts _ (List.mem_cons_of_mem _ fl_Matcher_19)) (fun _ h => h) rfl d_Matcher_matchAll_21 ?_
  refine va_get (C := R_Rows) (T := F_Rows) (N := 5) hx hb hts (fun w h => List.mem_cons_of_mem _ (hin_Rows w h)) hown hK hP 6 rfl rfl 4 (by decide) (hts _ (List.mem_cons_of_mem _ fl_Matcher_37)) (fun _ h => h) rfl d_Matcher_matchAll_24 ?_
  have hPc := hP.sub (ws' := [(ma, .inr (5, [.ref mo, .ref r, .ref r2, .int (nI (fr - 1)), .int (nI x0), .int (nI y0)])), (mo, .inr (4, [.int (nI fr), .int (nI tr), .int (nI mh), .int (nI sm)])), (r, .inr (0, [.int (nI k), .ref v, .ref a, .ref b, .int (nI n)])), (v, .inl (cL, nv, .inr (.inl f))), (a, .inl (cI, ns, .inl (zN g))), (b, .inl (cI, ns, .inl (zN h))), (r2, .inr (0, [.int (nI k2), .ref v2, .ref a2, .ref b2, .int (nI n2)])), (v2, .inl (cL, nv2, .inr (.inl f2))), (a2, .inl (cI, ns2, .inl (zN g2))), (b2, .inl (cI, ns2, .inl (zN h2)))]) [0, 1, 2, 3, 4, 5, 6, 7, 8, 9] rfl
  have hDc := hD.sub (ws' := [(ma, .inr (5, [.ref mo, .ref r, .ref r2, .int (nI (fr - 1)), .int (nI x0), .int (nI y0)])), (mo, .inr (4, [.int (nI fr), .int (nI tr), .int (nI mh), .int (nI sm)])), (r, .inr (0, [.int (nI k), .ref v, .ref a, .ref b, .int (nI n)])), (v, .inl (cL, nv, .inr (.inl f))), (a, .inl (cI, ns, .inl (zN g))), (b, .inl (cI, ns, .inl (zN h))), (r2, .inr (0, [.int (nI k2), .ref v2, .ref a2, .ref b2, .int (nI n2)])), (v2, .inl (cL, nv2, .inr (.inl f2))), (a2, .inl (cI, ns2, .inl (zN g2))), (b2, .inl (cI, ns2, .inl (zN h2)))]) [0, 1, 2, 3, 4, 5, 6, 7, 8, 9] (by decide) rfl
  refine zk_wv (wr := []) (w2 := (fun _ => [(ma, .inr (5, [.ref mo, .ref r, .ref r2, .int (nI (fr - 1)), .int (nI x0), .int (nI y0)])), (mo, .inr (4, [.int (nI fr), .int (nI ((mGs fr (mP fr (cG f g k x0 (fr - 1) n 1) (cG f2 g2 k2 y0 (fr - 1) n2 1) (mGs fr (mP fr (cG f g k x0 (fr - 1) n 2) (cG f2 g2 k2 y0 (fr - 1) n2 2) (fun _ => mG2 fr)))) 0 n n2 (tr, mh)).1)), .int (nI ((mGs fr (mP fr (cG f g k x0 (fr - 1) n 1) (cG f2 g2 k2 y0 (fr - 1) n2 1) (mGs fr (mP fr (cG f g k x0 (fr - 1) n 2) (cG f2 g2 k2 y0 (fr - 1) n2 2) (fun _ => mG2 fr)))) 0 n n2 (tr, mh)).2)), .int (nI sm)])), (r, .inr (0, [.int (nI k), .ref v, .ref a, .ref b, .int (nI n)])), (v, .inl (cL, nv, .inr (.inl f))), (a, .inl (cI, ns, .inl (zN g))), (b, .inl (cI, ns, .inl (zN h))), (r2, .inr (0, [.int (nI k2), .ref v2, .ref a2, .ref b2, .int (nI n2)])), (v2, .inl (cL, nv2, .inr (.inl f2))), (a2, .inl (cI, ns2, .inl (zN g2))), (b2, .inl (cI, ns2, .inl (zN h2)))])) hP hD hS hA [0, 1, 2, 3, 4, 5, 6, 7, 8, 9] [] [0, 1, 2, 3, 4, 5, 6, 7, 8, 9] rfl rfl (by decide) (by decide) (fun _ => rfl) (by decide) (va_runV (As := [.int (nI 0), .int (nI 0), .int (nI n), .int (nI n2)]) (rest := []) ⟨hx, hb, hml, hown, hts⟩ (c_Matcher_matchGroup_0 l D cI cL cZ cW cR _ ma x0 y0 mo fr tr mh sm r v a b k n nv ns f g h r2 v2 a2 b2 k2 n2 nv2 ns2 f2 g2 h2 0 n n2 (by omega) (by omega) (by omega) hfr hfr2 hmh hn hns hnv hg hn2 hns2 hnv2 hg2) (cwV 4 hts (zk_gV (fun _ h => List.mem_cons_of_mem _ h) ml_Matcher_42 im_Matcher_matchGroup se_Matcher_matchGroup in_Matcher co_Matcher_matchGroup) rfl rfl rfl ⟨rfl, hd_Matcher_matchGroup⟩ ⟨Nat.le_of_ble_eq_true rfl, Nat.le_of_ble_eq_true rfl⟩) (zk_vw (q0 := 0) hN hK hPc hDc rfl rfl) rfl rfl hl.1 rfl (lv_room (Nat.le_of_ble_eq_true rfl)) d_Matcher_matchAll_27 ⟨Nat.zero_le _, Nat.zero_le _⟩) (fun u H locs hpost hP hD hS => ?_)
  have hP : va_P D vwCl [(ma, .inr (5, [.ref mo, .ref r, .ref r2, .int (nI (fr - 1)), .int (nI x0), .int (nI y0)])), (mo, .inr (4, [.int (nI fr), .int (nI ((mGs fr (mP fr (cG f g k x0 (fr - 1) n 1) (cG f2 g2 k2 y0 (fr - 1) n2 1) (mGs fr (mP fr (cG f g k x0 (fr - 1) n 2) (cG f2 g2 k2 y0 (fr - 1) n2 2) (fun _ => mG2 fr)))) 0 n n2 (tr, mh)).1)), .int (nI ((mGs fr (mP fr (cG f g k x0 (fr - 1) n 1) (cG f2 g2 k2 y0 (fr - 1) n2 1) (mGs fr (mP fr (cG f g k x0 (fr - 1) n 2) (cG f2 g2 k2 y0 (fr - 1) n2 2) (fun _ => mG2 fr)))) 0 n n2 (tr, mh)).2)), .int (nI sm)])), (r, .inr (0, [.int (nI k), .ref v, .ref a, .ref b, .int (nI n)])), (v, .inl (cL, nv, .inr (.inl f))), (a, .inl (cI, ns, .inl (zN g))), (b, .inl (cI, ns, .inl (zN h))), (r2, .inr (0, [.int (nI k2), .ref v2, .ref a2, .ref b2, .int (nI n2)])), (v2, .inl (cL, nv2, .inr (.inl f2))), (a2, .inl (cI, ns2, .inl (zN g2))), (b2, .inl (cI, ns2, .inl (zN h2)))] H := hP
  have hD : va_D A [(ma, .inr (5, [.ref mo, .ref r, .ref r2, .int (nI (fr - 1)), .int (nI x0), .int (nI y0)])), (mo, .inr (4, [.int (nI fr), .int (nI ((mGs fr (mP fr (cG f g k x0 (fr - 1) n 1) (cG f2 g2 k2 y0 (fr - 1) n2 1) (mGs fr (mP fr (cG f g k x0 (fr - 1) n 2) (cG f2 g2 k2 y0 (fr - 1) n2 2) (fun _ => mG2 fr)))) 0 n n2 (tr, mh)).1)), .int (nI ((mGs fr (mP fr (cG f g k x0 (fr - 1) n 1) (cG f2 g2 k2 y0 (fr - 1) n2 1) (mGs fr (mP fr (cG f g k x0 (fr - 1) n 2) (cG f2 g2 k2 y0 (fr - 1) n2 2) (fun _ => mG2 fr)))) 0 n n2 (tr, mh)).2)), .int (nI sm)])), (r, .inr (0, [.int (nI k), .ref v, .ref a, .ref b, .int (nI n)])), (v, .inl (cL, nv, .inr (.inl f))), (a, .inl (cI, ns, .inl (zN g))), (b, .inl (cI, ns, .inl (zN h))), (r2, .inr (0, [.int (nI k2), .ref v2, .ref a2, .ref b2, .int (nI n2)])), (v2, .inl (cL, nv2, .inr (.inl f2))), (a2, .inl (cI, ns2, .inl (zN g2))), (b2, .inl (cI, ns2, .inl (zN h2)))] := hD
  exact zk_vretW hx hb hr hlk hAe hQ hK (()) (trivial) hP hD hS d_Matcher_matchAll_30
