theorem zk_nm1 {j : Nat} (h : j < 2 ^ 31) : ¬ nI j = -1 := fun q => by
  have h1 := congrArg Int32.toInt q
  rw [nI_toInt h] at h1
  have h2 : (-1 : Int32).toInt = -1 := by decide
  omega
def oI (o : Option Nat) : Int32 := match o with
  | none => -1
  | some j => nI j
def kN : Option Nat → Option Nat → Nat
  | none, none => 0
  | some _, none => 1
  | none, some _ => 1
  | some _, some _ => 2
def kF (kf : Nat → Nat) : Option Nat → Option Nat → Nat → Nat
  | none, none => kf
  | some a, none => va_up kf 0 a
  | none, some b => va_up kf 0 b
  | some a, some b => va_up (va_up kf 0 a) 1 b
def kG (kg : Nat → Bool) (d : Bool) : Option Nat → Option Nat → Nat → Bool
  | none, none => kg
  | some _, none => va_up kg 0 false
  | none, some _ => va_up kg 0 d
  | some _, some _ => va_up (va_up kg 0 false) 1 d
/-- do the keys begin with the others -/
def kPre (kn : Nat) (kf : Nat → Nat) (kg : Nat → Bool) (kn2 : Nat) (kf2 : Nat → Nat) (kg2 : Nat → Bool) : Prop := kn2 ≤ kn ∧ ∀ t, t < kn2 → kf t = kf2 t ∧ kg t = kg2 t
/-- is a distance within the bounds -/
def wRe (low high : Int32) (x : Int64) : Prop := (low = -10 ∨ low.toInt64 ≤ x) ∧ (high = 10 ∨ x ≤ high.toInt64)
/-- the passes of a sort: what they transfer and hold -/
def sLoop (ways bl : Nat) : Nat → Nat → Nat → Nat → Nat × Nat
  | 0, _, tr, mh => (tr, mh)
  | d + 1, runs, tr, mh => if runs ≤ 1 then (tr, mh) else sLoop ways bl d ((runs + ways - 1) / ways) (tr + 2 * bl) (max mh (1 + min runs ways))
/-- does the filter keep a value -/
def fKeep (op : Int32) (num : Int32) (x : Int64) : Bool := if op = 0 then decide (x ≠ -1099511627776 ∧ x < num.toInt64) else if op = 1 then decide (x ≠ -1099511627776 ∧ x = num.toInt64) else if op = 2 then decide (x ≠ -1099511627776 ∧ num.toInt64 < x) else if op = 3 then decide (x = -1099511627776) else if op = 4 then decide (x ≠ -1099511627776) else true

theorem zk_win {x : Int32} {wc : Nat} {b0 : Bool} (hwc : wc ≤ 3) (hb0 : b0 = true ↔ ∃ j, j < wc ∧ x = nI j) : decide (nI 0 ≤ x ∧ x ≤ nI wc - nI 1) = b0 := by
  have e : (nI 0 ≤ x ∧ x ≤ nI wc - nI 1) ↔ b0 = true := by
    rw [hb0]
    have h0 : (nI 0).toInt = 0 := by decide
    have h1 : (nI wc - nI 1).toInt = (wc : Int) - 1 := pk_sub_toInt (by omega) (by decide)
    rw [Int32.le_iff_toInt_le, Int32.le_iff_toInt_le, h0, h1]
    constructor
    · rintro ⟨q1, q2⟩
      refine ⟨x.toInt.toNat, by omega, Int32.toInt_inj.mp ?_⟩
      rw [nI_toInt (by omega)]
      omega
    · rintro ⟨j, q1, rfl⟩
      rw [nI_toInt (by omega)]
      omega
  cases b0
  · exact decide_eq_false (fun q => absurd (e.mp q) (by decide))
  · exact decide_eq_true (e.mpr rfl)
theorem zk_bt {b : Bool} (h : b = true) : nI 1 = zb b := by rw [h]; rfl
theorem zk_bf {b : Bool} (h : ¬ b = true) : nI 0 = zb b := by cases b; rfl; exact absurd rfl h
theorem zk_bi {a b : Bool} (h : zb a = zb b) : a = b := by cases a <;> cases b <;> first | rfl | exact absurd h (by decide)
theorem zk_dlt {a d : Nat} (h : a + d < 500) (hd : 0 < d) : (a + d - 1) / d < 500 := Nat.lt_of_le_of_lt (Nat.div_le_self _ _) (by omega)
theorem zk_dlt2 {a d : Nat} (hd : 2 ≤ d) (h1 : 2 ≤ a) (h : a < 500) : (a + d - 1) / d < 500 := by
  refine Nat.lt_of_le_of_lt (m := a) ?_ h
  apply Nat.le_of_lt_succ
  rw [Nat.div_lt_iff_lt_mul (by omega)]
  have := Nat.mul_le_mul_left a hd
  have h3 : a.succ * d = a * d + d := Nat.succ_mul a d
  omega
abbrev rm3_90 : Room := { frames := 3, cells := 0, slots := 0, locals := 90 }
theorem d_Query_init_0 : decode b_Query_init 0 = .ok (.aload_n 0, 1) := by decide +kernel
theorem d_Query_init_1 : decode b_Query_init 1 = .ok (.invokespecial 3, 3) := by decide +kernel
theorem d_Query_init_4 : decode b_Query_init 4 = .ok (.aload_n 0, 1) := by decide +kernel
theorem d_Query_init_5 : decode b_Query_init 5 = .ok (.iconst 3, 1) := by decide +kernel
theorem d_Query_init_6 : decode b_Query_init 6 = .ok (.anewarray 9, 3) := by decide +kernel
theorem d_Query_init_9 : decode b_Query_init 9 = .ok (.dup, 1) := by decide +kernel
theorem d_Query_init_10 : decode b_Query_init 10 = .ok (.iconst 0, 1) := by decide +kernel
theorem d_Query_init_11 : decode b_Query_init 11 = .ok (.new 9, 3) := by decide +kernel
theorem d_Query_init_14 : decode b_Query_init 14 = .ok (.dup, 1) := by decide +kernel
theorem d_Query_init_15 : decode b_Query_init 15 = .ok (.invokespecial 11, 3) := by decide +kernel
theorem d_Query_init_18 : decode b_Query_init 18 = .ok (.aastore, 1) := by decide +kernel
theorem d_Query_init_19 : decode b_Query_init 19 = .ok (.dup, 1) := by decide +kernel
theorem d_Query_init_20 : decode b_Query_init 20 = .ok (.iconst 1, 1) := by decide +kernel
theorem d_Query_init_21 : decode b_Query_init 21 = .ok (.new 9, 3) := by decide +kernel
theorem d_Query_init_24 : decode b_Query_init 24 = .ok (.dup, 1) := by decide +kernel
theorem d_Query_init_25 : decode b_Query_init 25 = .ok (.invokespecial 11, 3) := by decide +kernel
theorem d_Query_init_28 : decode b_Query_init 28 = .ok (.aastore, 1) := by decide +kernel
theorem d_Query_init_29 : decode b_Query_init 29 = .ok (.dup, 1) := by decide +kernel
theorem d_Query_init_30 : decode b_Query_init 30 = .ok (.iconst 2, 1) := by decide +kernel
theorem d_Query_init_31 : decode b_Query_init 31 = .ok (.new 9, 3) := by decide +kernel
theorem d_Query_init_34 : decode b_Query_init 34 = .ok (.dup, 1) := by decide +kernel
theorem d_Query_init_35 : decode b_Query_init 35 = .ok (.invokespecial 11, 3) := by decide +kernel
theorem d_Query_init_38 : decode b_Query_init 38 = .ok (.aastore, 1) := by decide +kernel
theorem d_Query_init_39 : decode b_Query_init 39 = .ok (.putfield 12, 3) := by decide +kernel
theorem d_Query_init_42 : decode b_Query_init 42 = .ok (.aload_n 0, 1) := by decide +kernel
theorem d_Query_init_43 : decode b_Query_init 43 = .ok (.new 18, 3) := by decide +kernel
theorem d_Query_init_46 : decode b_Query_init 46 = .ok (.dup, 1) := by decide +kernel
theorem d_Query_init_47 : decode b_Query_init 47 = .ok (.invokespecial 20, 3) := by decide +kernel
theorem d_Query_init_50 : decode b_Query_init 50 = .ok (.putfield 21, 3) := by decide +kernel
theorem d_Query_init_53 : decode b_Query_init 53 = .ok (.aload_n 0, 1) := by decide +kernel
theorem d_Query_init_54 : decode b_Query_init 54 = .ok (.iconst (-1), 1) := by decide +kernel
theorem d_Query_init_55 : decode b_Query_init 55 = .ok (.putfield 25, 3) := by decide +kernel
theorem d_Query_init_58 : decode b_Query_init 58 = .ok (.aload_n 0, 1) := by decide +kernel
theorem d_Query_init_59 : decode b_Query_init 59 = .ok (.iconst (-1), 1) := by decide +kernel
theorem d_Query_init_60 : decode b_Query_init 60 = .ok (.putfield 29, 3) := by decide +kernel
theorem d_Query_init_63 : decode b_Query_init 63 = .ok (.aload_n 0, 1) := by decide +kernel
theorem d_Query_init_64 : decode b_Query_init 64 = .ok (.iconst (-1), 1) := by decide +kernel
theorem d_Query_init_65 : decode b_Query_init 65 = .ok (.putfield 32, 3) := by decide +kernel
theorem d_Query_init_68 : decode b_Query_init 68 = .ok (.return_, 1) := by decide +kernel
theorem d_Window_init_0 : decode b_Window_init 0 = .ok (.aload_n 0, 1) := by decide +kernel
theorem d_Window_init_1 : decode b_Window_init 1 = .ok (.invokespecial 3, 3) := by decide +kernel
theorem d_Window_init_4 : decode b_Window_init 4 = .ok (.aload_n 0, 1) := by decide +kernel
theorem d_Window_init_5 : decode b_Window_init 5 = .ok (.new 9, 3) := by decide +kernel
theorem d_Window_init_8 : decode b_Window_init 8 = .ok (.dup, 1) := by decide +kernel
theorem d_Window_init_9 : decode b_Window_init 9 = .ok (.invokespecial 11, 3) := by decide +kernel
theorem d_Window_init_12 : decode b_Window_init 12 = .ok (.putfield 12, 3) := by decide +kernel
theorem d_Window_init_15 : decode b_Window_init 15 = .ok (.aload_n 0, 1) := by decide +kernel
theorem d_Window_init_16 : decode b_Window_init 16 = .ok (.iconst 1, 1) := by decide +kernel
theorem d_Window_init_17 : decode b_Window_init 17 = .ok (.putfield 18, 3) := by decide +kernel
theorem d_Window_init_20 : decode b_Window_init 20 = .ok (.aload_n 0, 1) := by decide +kernel
theorem d_Window_init_21 : decode b_Window_init 21 = .ok (.iconst (-1), 1) := by decide +kernel
theorem d_Window_init_22 : decode b_Window_init 22 = .ok (.putfield 22, 3) := by decide +kernel
theorem d_Window_init_25 : decode b_Window_init 25 = .ok (.aload_n 0, 1) := by decide +kernel
theorem d_Window_init_26 : decode b_Window_init 26 = .ok (.iconst (-1), 1) := by decide +kernel
theorem d_Window_init_27 : decode b_Window_init 27 = .ok (.putfield 25, 3) := by decide +kernel
theorem d_Window_init_30 : decode b_Window_init 30 = .ok (.aload_n 0, 1) := by decide +kernel
theorem d_Window_init_31 : decode b_Window_init 31 = .ok (.bipush (-10), 2) := by decide +kernel
theorem d_Window_init_33 : decode b_Window_init 33 = .ok (.putfield 28, 3) := by decide +kernel
theorem d_Window_init_36 : decode b_Window_init 36 = .ok (.aload_n 0, 1) := by decide +kernel
theorem d_Window_init_37 : decode b_Window_init 37 = .ok (.bipush 10, 2) := by decide +kernel
theorem d_Window_init_39 : decode b_Window_init 39 = .ok (.putfield 31, 3) := by decide +kernel
theorem d_Window_init_42 : decode b_Window_init 42 = .ok (.return_, 1) := by decide +kernel
theorem d_Keys_init_0 : decode b_Keys_init 0 = .ok (.aload_n 0, 1) := by decide +kernel
theorem d_Keys_init_1 : decode b_Keys_init 1 = .ok (.invokespecial 1, 3) := by decide +kernel
theorem d_Keys_init_4 : decode b_Keys_init 4 = .ok (.aload_n 0, 1) := by decide +kernel
theorem d_Keys_init_5 : decode b_Keys_init 5 = .ok (.iconst 2, 1) := by decide +kernel
theorem d_Keys_init_6 : decode b_Keys_init 6 = .ok (.newarray .int, 2) := by decide +kernel
theorem d_Keys_init_8 : decode b_Keys_init 8 = .ok (.putfield 9, 3) := by decide +kernel
theorem d_Keys_init_11 : decode b_Keys_init 11 = .ok (.aload_n 0, 1) := by decide +kernel
theorem d_Keys_init_12 : decode b_Keys_init 12 = .ok (.iconst 2, 1) := by decide +kernel
theorem d_Keys_init_13 : decode b_Keys_init 13 = .ok (.newarray .boolean, 2) := by decide +kernel
theorem d_Keys_init_15 : decode b_Keys_init 15 = .ok (.putfield 13, 3) := by decide +kernel
theorem d_Keys_init_18 : decode b_Keys_init 18 = .ok (.return_, 1) := by decide +kernel
theorem d_Meter_init_0 : decode b_Meter_init 0 = .ok (.aload_n 0, 1) := by decide +kernel
theorem d_Meter_init_1 : decode b_Meter_init 1 = .ok (.invokespecial 1, 3) := by decide +kernel
theorem d_Meter_init_4 : decode b_Meter_init 4 = .ok (.aload_n 0, 1) := by decide +kernel
theorem d_Meter_init_5 : decode b_Meter_init 5 = .ok (.iload_n 1, 1) := by decide +kernel
theorem d_Meter_init_6 : decode b_Meter_init 6 = .ok (.putfield 7, 3) := by decide +kernel
theorem d_Meter_init_9 : decode b_Meter_init 9 = .ok (.return_, 1) := by decide +kernel
theorem d_Query_reset_0 : decode b_Query_reset 0 = .ok (.aload_n 0, 1) := by decide +kernel
theorem d_Query_reset_1 : decode b_Query_reset 1 = .ok (.iconst 0, 1) := by decide +kernel
theorem d_Query_reset_2 : decode b_Query_reset 2 = .ok (.putfield 35, 3) := by decide +kernel
theorem d_Query_reset_5 : decode b_Query_reset 5 = .ok (.aload_n 0, 1) := by decide +kernel
theorem d_Query_reset_6 : decode b_Query_reset 6 = .ok (.iconst (-1), 1) := by decide +kernel
theorem d_Query_reset_7 : decode b_Query_reset 7 = .ok (.putfield 25, 3) := by decide +kernel
theorem d_Query_reset_10 : decode b_Query_reset 10 = .ok (.aload_n 0, 1) := by decide +kernel
theorem d_Query_reset_11 : decode b_Query_reset 11 = .ok (.iconst (-1), 1) := by decide +kernel
theorem d_Query_reset_12 : decode b_Query_reset 12 = .ok (.putfield 29, 3) := by decide +kernel
theorem d_Query_reset_15 : decode b_Query_reset 15 = .ok (.aload_n 0, 1) := by decide +kernel
theorem d_Query_reset_16 : decode b_Query_reset 16 = .ok (.iconst (-1), 1) := by decide +kernel
theorem d_Query_reset_17 : decode b_Query_reset 17 = .ok (.putfield 32, 3) := by decide +kernel
theorem d_Query_reset_20 : decode b_Query_reset 20 = .ok (.aload_n 0, 1) := by decide +kernel
theorem d_Query_reset_21 : decode b_Query_reset 21 = .ok (.getfield 21, 3) := by decide +kernel
theorem d_Query_reset_24 : decode b_Query_reset 24 = .ok (.invokevirtual 38, 3) := by decide +kernel
theorem d_Query_reset_27 : decode b_Query_reset 27 = .ok (.return_, 1) := by decide +kernel
theorem d_Keys_removeAll_0 : decode b_Keys_removeAll 0 = .ok (.aload_n 0, 1) := by decide +kernel
theorem d_Keys_removeAll_1 : decode b_Keys_removeAll 1 = .ok (.iconst 0, 1) := by decide +kernel
theorem d_Keys_removeAll_2 : decode b_Keys_removeAll 2 = .ok (.putfield 17, 3) := by decide +kernel
theorem d_Keys_removeAll_5 : decode b_Keys_removeAll 5 = .ok (.return_, 1) := by decide +kernel
theorem d_Query_hasAllWindows_0 : decode b_Query_hasAllWindows 0 = .ok (.aload_n 0, 1) := by decide +kernel
theorem d_Query_hasAllWindows_1 : decode b_Query_hasAllWindows 1 = .ok (.getfield 35, 3) := by decide +kernel
theorem d_Query_hasAllWindows_4 : decode b_Query_hasAllWindows 4 = .ok (.aload_n 0, 1) := by decide +kernel
theorem d_Query_hasAllWindows_5 : decode b_Query_hasAllWindows 5 = .ok (.getfield 12, 3) := by decide +kernel
theorem d_Query_hasAllWindows_8 : decode b_Query_hasAllWindows 8 = .ok (.arraylength, 1) := by decide +kernel
theorem d_Query_hasAllWindows_9 : decode b_Query_hasAllWindows 9 = .ok (.if_icmp .lt 7, 3) := by decide +kernel
theorem d_Query_hasAllWindows_12 : decode b_Query_hasAllWindows 12 = .ok (.iconst 1, 1) := by decide +kernel
theorem d_Query_hasAllWindows_13 : decode b_Query_hasAllWindows 13 = .ok (.goto 4, 3) := by decide +kernel
theorem d_Query_hasAllWindows_16 : decode b_Query_hasAllWindows 16 = .ok (.iconst 0, 1) := by decide +kernel
theorem d_Query_hasAllWindows_17 : decode b_Query_hasAllWindows 17 = .ok (.ireturn, 1) := by decide +kernel
theorem d_Window_begin_0 : decode b_Window_begin 0 = .ok (.aload_n 0, 1) := by decide +kernel
theorem d_Window_begin_1 : decode b_Window_begin 1 = .ok (.iload_n 1, 1) := by decide +kernel
theorem d_Window_begin_2 : decode b_Window_begin 2 = .ok (.putfield 34, 3) := by decide +kernel
theorem d_Window_begin_5 : decode b_Window_begin 5 = .ok (.aload_n 0, 1) := by decide +kernel
theorem d_Window_begin_6 : decode b_Window_begin 6 = .ok (.iload_n 2, 1) := by decide +kernel
theorem d_Window_begin_7 : decode b_Window_begin 7 = .ok (.putfield 37, 3) := by decide +kernel
theorem d_Window_begin_10 : decode b_Window_begin 10 = .ok (.aload_n 0, 1) := by decide +kernel
theorem d_Window_begin_11 : decode b_Window_begin 11 = .ok (.iload_n 3, 1) := by decide +kernel
theorem d_Window_begin_12 : decode b_Window_begin 12 = .ok (.putfield 18, 3) := by decide +kernel
theorem d_Window_begin_15 : decode b_Window_begin 15 = .ok (.aload_n 0, 1) := by decide +kernel
theorem d_Window_begin_16 : decode b_Window_begin 16 = .ok (.iconst 0, 1) := by decide +kernel
theorem d_Window_begin_17 : decode b_Window_begin 17 = .ok (.putfield 40, 3) := by decide +kernel
theorem d_Window_begin_20 : decode b_Window_begin 20 = .ok (.aload_n 0, 1) := by decide +kernel
theorem d_Window_begin_21 : decode b_Window_begin 21 = .ok (.bipush (-10), 2) := by decide +kernel
theorem d_Window_begin_23 : decode b_Window_begin 23 = .ok (.putfield 28, 3) := by decide +kernel
theorem d_Window_begin_26 : decode b_Window_begin 26 = .ok (.aload_n 0, 1) := by decide +kernel
theorem d_Window_begin_27 : decode b_Window_begin 27 = .ok (.bipush 10, 2) := by decide +kernel
theorem d_Window_begin_29 : decode b_Window_begin 29 = .ok (.putfield 31, 3) := by decide +kernel
theorem d_Window_begin_32 : decode b_Window_begin 32 = .ok (.aload_n 0, 1) := by decide +kernel
theorem d_Window_begin_33 : decode b_Window_begin 33 = .ok (.iconst (-1), 1) := by decide +kernel
theorem d_Window_begin_34 : decode b_Window_begin 34 = .ok (.iconst (-1), 1) := by decide +kernel
theorem d_Window_begin_35 : decode b_Window_begin 35 = .ok (.iconst 0, 1) := by decide +kernel
theorem d_Window_begin_36 : decode b_Window_begin 36 = .ok (.invokevirtual 44, 3) := by decide +kernel
theorem d_Window_begin_39 : decode b_Window_begin 39 = .ok (.return_, 1) := by decide +kernel
theorem d_Window_setKeys_0 : decode b_Window_setKeys 0 = .ok (.aload_n 0, 1) := by decide +kernel
theorem d_Window_setKeys_1 : decode b_Window_setKeys 1 = .ok (.iload_n 1, 1) := by decide +kernel
theorem d_Window_setKeys_2 : decode b_Window_setKeys 2 = .ok (.putfield 22, 3) := by decide +kernel
theorem d_Window_setKeys_5 : decode b_Window_setKeys 5 = .ok (.aload_n 0, 1) := by decide +kernel
theorem d_Window_setKeys_6 : decode b_Window_setKeys 6 = .ok (.iload_n 2, 1) := by decide +kernel
theorem d_Window_setKeys_7 : decode b_Window_setKeys 7 = .ok (.putfield 25, 3) := by decide +kernel
theorem d_Window_setKeys_10 : decode b_Window_setKeys 10 = .ok (.aload_n 0, 1) := by decide +kernel
theorem d_Window_setKeys_11 : decode b_Window_setKeys 11 = .ok (.iload_n 3, 1) := by decide +kernel
theorem d_Window_setKeys_12 : decode b_Window_setKeys 12 = .ok (.putfield 48, 3) := by decide +kernel
theorem d_Window_setKeys_15 : decode b_Window_setKeys 15 = .ok (.aload_n 0, 1) := by decide +kernel
theorem d_Window_setKeys_16 : decode b_Window_setKeys 16 = .ok (.getfield 12, 3) := by decide +kernel
theorem d_Window_setKeys_19 : decode b_Window_setKeys 19 = .ok (.invokevirtual 51, 3) := by decide +kernel
theorem d_Window_setKeys_22 : decode b_Window_setKeys 22 = .ok (.aload_n 0, 1) := by decide +kernel
theorem d_Window_setKeys_23 : decode b_Window_setKeys 23 = .ok (.getfield 22, 3) := by decide +kernel
theorem d_Window_setKeys_26 : decode b_Window_setKeys 26 = .ok (.iconst (-1), 1) := by decide +kernel
theorem d_Window_setKeys_27 : decode b_Window_setKeys 27 = .ok (.if_icmp .eq 15, 3) := by decide +kernel
theorem d_Window_setKeys_30 : decode b_Window_setKeys 30 = .ok (.aload_n 0, 1) := by decide +kernel
theorem d_Window_setKeys_31 : decode b_Window_setKeys 31 = .ok (.getfield 12, 3) := by decide +kernel
theorem d_Window_setKeys_34 : decode b_Window_setKeys 34 = .ok (.aload_n 0, 1) := by decide +kernel
theorem d_Window_setKeys_35 : decode b_Window_setKeys 35 = .ok (.getfield 22, 3) := by decide +kernel
theorem d_Window_setKeys_38 : decode b_Window_setKeys 38 = .ok (.iconst 0, 1) := by decide +kernel
theorem d_Window_setKeys_39 : decode b_Window_setKeys 39 = .ok (.invokevirtual 54, 3) := by decide +kernel
theorem d_Window_setKeys_42 : decode b_Window_setKeys 42 = .ok (.aload_n 0, 1) := by decide +kernel
theorem d_Window_setKeys_43 : decode b_Window_setKeys 43 = .ok (.getfield 25, 3) := by decide +kernel
theorem d_Window_setKeys_46 : decode b_Window_setKeys 46 = .ok (.iconst (-1), 1) := by decide +kernel
theorem d_Window_setKeys_47 : decode b_Window_setKeys 47 = .ok (.if_icmp .eq 18, 3) := by decide +kernel
theorem d_Window_setKeys_50 : decode b_Window_setKeys 50 = .ok (.aload_n 0, 1) := by decide +kernel
theorem d_Window_setKeys_51 : decode b_Window_setKeys 51 = .ok (.getfield 12, 3) := by decide +kernel
theorem d_Window_setKeys_54 : decode b_Window_setKeys 54 = .ok (.aload_n 0, 1) := by decide +kernel
theorem d_Window_setKeys_55 : decode b_Window_setKeys 55 = .ok (.getfield 25, 3) := by decide +kernel
theorem d_Window_setKeys_58 : decode b_Window_setKeys 58 = .ok (.aload_n 0, 1) := by decide +kernel
theorem d_Window_setKeys_59 : decode b_Window_setKeys 59 = .ok (.getfield 48, 3) := by decide +kernel
theorem d_Window_setKeys_62 : decode b_Window_setKeys 62 = .ok (.invokevirtual 54, 3) := by decide +kernel
theorem d_Window_setKeys_65 : decode b_Window_setKeys 65 = .ok (.return_, 1) := by decide +kernel
theorem d_Keys_add_0 : decode b_Keys_add 0 = .ok (.aload_n 0, 1) := by decide +kernel
theorem d_Keys_add_1 : decode b_Keys_add 1 = .ok (.getfield 17, 3) := by decide +kernel
theorem d_Keys_add_4 : decode b_Keys_add 4 = .ok (.iconst 2, 1) := by decide +kernel
theorem d_Keys_add_5 : decode b_Keys_add 5 = .ok (.if_icmp .ge 33, 3) := by decide +kernel
theorem d_Keys_add_8 : decode b_Keys_add 8 = .ok (.aload_n 0, 1) := by decide +kernel
theorem d_Keys_add_9 : decode b_Keys_add 9 = .ok (.getfield 9, 3) := by decide +kernel
theorem d_Keys_add_12 : decode b_Keys_add 12 = .ok (.aload_n 0, 1) := by decide +kernel
theorem d_Keys_add_13 : decode b_Keys_add 13 = .ok (.getfield 17, 3) := by decide +kernel
theorem d_Keys_add_16 : decode b_Keys_add 16 = .ok (.iload_n 1, 1) := by decide +kernel
theorem d_Keys_add_17 : decode b_Keys_add 17 = .ok (.iastore, 1) := by decide +kernel
theorem d_Keys_add_18 : decode b_Keys_add 18 = .ok (.aload_n 0, 1) := by decide +kernel
theorem d_Keys_add_19 : decode b_Keys_add 19 = .ok (.getfield 13, 3) := by decide +kernel
theorem d_Keys_add_22 : decode b_Keys_add 22 = .ok (.aload_n 0, 1) := by decide +kernel
theorem d_Keys_add_23 : decode b_Keys_add 23 = .ok (.getfield 17, 3) := by decide +kernel
theorem d_Keys_add_26 : decode b_Keys_add 26 = .ok (.iload_n 2, 1) := by decide +kernel
theorem d_Keys_add_27 : decode b_Keys_add 27 = .ok (.bastore, 1) := by decide +kernel
theorem d_Keys_add_28 : decode b_Keys_add 28 = .ok (.aload_n 0, 1) := by decide +kernel
theorem d_Keys_add_29 : decode b_Keys_add 29 = .ok (.dup, 1) := by decide +kernel
theorem d_Keys_add_30 : decode b_Keys_add 30 = .ok (.getfield 17, 3) := by decide +kernel
theorem d_Keys_add_33 : decode b_Keys_add 33 = .ok (.iconst 1, 1) := by decide +kernel
theorem d_Keys_add_34 : decode b_Keys_add 34 = .ok (.iadd, 1) := by decide +kernel
theorem d_Keys_add_35 : decode b_Keys_add 35 = .ok (.putfield 17, 3) := by decide +kernel
theorem d_Keys_add_38 : decode b_Keys_add 38 = .ok (.return_, 1) := by decide +kernel
theorem d_Query_hasWindow_0 : decode b_Query_hasWindow 0 = .ok (.iload_n 1, 1) := by decide +kernel
theorem d_Query_hasWindow_1 : decode b_Query_hasWindow 1 = .ok (.iconst 0, 1) := by decide +kernel
theorem d_Query_hasWindow_2 : decode b_Query_hasWindow 2 = .ok (.aload_n 0, 1) := by decide +kernel
theorem d_Query_hasWindow_3 : decode b_Query_hasWindow 3 = .ok (.getfield 35, 3) := by decide +kernel
theorem d_Query_hasWindow_6 : decode b_Query_hasWindow 6 = .ok (.iconst 1, 1) := by decide +kernel
theorem d_Query_hasWindow_7 : decode b_Query_hasWindow 7 = .ok (.isub, 1) := by decide +kernel
theorem d_Query_hasWindow_8 : decode b_Query_hasWindow 8 = .ok (.invokestatic 41, 3) := by decide +kernel
theorem d_Query_hasWindow_11 : decode b_Query_hasWindow 11 = .ok (.ireturn, 1) := by decide +kernel
theorem d_Meter_reset_0 : decode b_Meter_reset 0 = .ok (.aload_n 0, 1) := by decide +kernel
theorem d_Meter_reset_1 : decode b_Meter_reset 1 = .ok (.iconst 0, 1) := by decide +kernel
theorem d_Meter_reset_2 : decode b_Meter_reset 2 = .ok (.putfield 13, 3) := by decide +kernel
theorem d_Meter_reset_5 : decode b_Meter_reset 5 = .ok (.aload_n 0, 1) := by decide +kernel
theorem d_Meter_reset_6 : decode b_Meter_reset 6 = .ok (.iconst 0, 1) := by decide +kernel
theorem d_Meter_reset_7 : decode b_Meter_reset 7 = .ok (.putfield 16, 3) := by decide +kernel
theorem d_Meter_reset_10 : decode b_Meter_reset 10 = .ok (.aload_n 0, 1) := by decide +kernel
theorem d_Meter_reset_11 : decode b_Meter_reset 11 = .ok (.iconst 0, 1) := by decide +kernel
theorem d_Meter_reset_12 : decode b_Meter_reset 12 = .ok (.putfield 19, 3) := by decide +kernel
theorem d_Meter_reset_15 : decode b_Meter_reset 15 = .ok (.return_, 1) := by decide +kernel
theorem d_Query_keeps_0 : decode b_Query_keeps 0 = .ok (.aload_n 1, 1) := by decide +kernel
theorem d_Query_keeps_1 : decode b_Query_keeps 1 = .ok (.iload_n 2, 1) := by decide +kernel
theorem d_Query_keeps_2 : decode b_Query_keeps 2 = .ok (.aload_n 0, 1) := by decide +kernel
theorem d_Query_keeps_3 : decode b_Query_keeps 3 = .ok (.getfield 45, 3) := by decide +kernel
theorem d_Query_keeps_6 : decode b_Query_keeps 6 = .ok (.invokevirtual 48, 3) := by decide +kernel
theorem d_Query_keeps_9 : decode b_Query_keeps 9 = .ok (.lstore_n 3, 1) := by decide +kernel
theorem d_Query_keeps_10 : decode b_Query_keeps 10 = .ok (.aload_n 0, 1) := by decide +kernel
theorem d_Query_keeps_11 : decode b_Query_keeps 11 = .ok (.getfield 25, 3) := by decide +kernel
theorem d_Query_keeps_14 : decode b_Query_keeps 14 = .ok (.tableswitch 134 0 4 #[34, 58, 82, 106, 120], 34) := by decide +kernel
theorem d_Query_keeps_48 : decode b_Query_keeps 48 = .ok (.lload_n 3, 1) := by decide +kernel
theorem d_Query_keeps_49 : decode b_Query_keeps 49 = .ok (.ldc2_w 54, 3) := by decide +kernel
theorem d_Query_keeps_52 : decode b_Query_keeps 52 = .ok (.lcmp, 1) := by decide +kernel
theorem d_Query_keeps_53 : decode b_Query_keeps 53 = .ok (.ifCond .eq 17, 3) := by decide +kernel
theorem d_Query_keeps_56 : decode b_Query_keeps 56 = .ok (.lload_n 3, 1) := by decide +kernel
theorem d_Query_keeps_57 : decode b_Query_keeps 57 = .ok (.aload_n 0, 1) := by decide +kernel
theorem d_Query_keeps_58 : decode b_Query_keeps 58 = .ok (.getfield 56, 3) := by decide +kernel
theorem d_Query_keeps_61 : decode b_Query_keeps 61 = .ok (.i2l, 1) := by decide +kernel
theorem d_Query_keeps_62 : decode b_Query_keeps 62 = .ok (.lcmp, 1) := by decide +kernel
theorem d_Query_keeps_63 : decode b_Query_keeps 63 = .ok (.ifCond .ge 7, 3) := by decide +kernel
theorem d_Query_keeps_66 : decode b_Query_keeps 66 = .ok (.iconst 1, 1) := by decide +kernel
theorem d_Query_keeps_67 : decode b_Query_keeps 67 = .ok (.goto 4, 3) := by decide +kernel
theorem d_Query_keeps_70 : decode b_Query_keeps 70 = .ok (.iconst 0, 1) := by decide +kernel
theorem d_Query_keeps_71 : decode b_Query_keeps 71 = .ok (.ireturn, 1) := by decide +kernel
theorem d_Query_keeps_72 : decode b_Query_keeps 72 = .ok (.lload_n 3, 1) := by decide +kernel
theorem d_Query_keeps_73 : decode b_Query_keeps 73 = .ok (.ldc2_w 54, 3) := by decide +kernel
theorem d_Query_keeps_76 : decode b_Query_keeps 76 = .ok (.lcmp, 1) := by decide +kernel
theorem d_Query_keeps_77 : decode b_Query_keeps 77 = .ok (.ifCond .eq 17, 3) := by decide +kernel
theorem d_Query_keeps_80 : decode b_Query_keeps 80 = .ok (.lload_n 3, 1) := by decide +kernel
theorem d_Query_keeps_81 : decode b_Query_keeps 81 = .ok (.aload_n 0, 1) := by decide +kernel
theorem d_Query_keeps_82 : decode b_Query_keeps 82 = .ok (.getfield 56, 3) := by decide +kernel
theorem d_Query_keeps_85 : decode b_Query_keeps 85 = .ok (.i2l, 1) := by decide +kernel
theorem d_Query_keeps_86 : decode b_Query_keeps 86 = .ok (.lcmp, 1) := by decide +kernel
theorem d_Query_keeps_87 : decode b_Query_keeps 87 = .ok (.ifCond .ne 7, 3) := by decide +kernel
theorem d_Query_keeps_90 : decode b_Query_keeps 90 = .ok (.iconst 1, 1) := by decide +kernel
theorem d_Query_keeps_91 : decode b_Query_keeps 91 = .ok (.goto 4, 3) := by decide +kernel
theorem d_Query_keeps_94 : decode b_Query_keeps 94 = .ok (.iconst 0, 1) := by decide +kernel
theorem d_Query_keeps_95 : decode b_Query_keeps 95 = .ok (.ireturn, 1) := by decide +kernel
theorem d_Query_keeps_96 : decode b_Query_keeps 96 = .ok (.lload_n 3, 1) := by decide +kernel
theorem d_Query_keeps_97 : decode b_Query_keeps 97 = .ok (.ldc2_w 54, 3) := by decide +kernel
theorem d_Query_keeps_100 : decode b_Query_keeps 100 = .ok (.lcmp, 1) := by decide +kernel
theorem d_Query_keeps_101 : decode b_Query_keeps 101 = .ok (.ifCond .eq 17, 3) := by decide +kernel
theorem d_Query_keeps_104 : decode b_Query_keeps 104 = .ok (.lload_n 3, 1) := by decide +kernel
theorem d_Query_keeps_105 : decode b_Query_keeps 105 = .ok (.aload_n 0, 1) := by decide +kernel
theorem d_Query_keeps_106 : decode b_Query_keeps 106 = .ok (.getfield 56, 3) := by decide +kernel
theorem d_Query_keeps_109 : decode b_Query_keeps 109 = .ok (.i2l, 1) := by decide +kernel
theorem d_Query_keeps_110 : decode b_Query_keeps 110 = .ok (.lcmp, 1) := by decide +kernel
theorem d_Query_keeps_111 : decode b_Query_keeps 111 = .ok (.ifCond .le 7, 3) := by decide +kernel
theorem d_Query_keeps_114 : decode b_Query_keeps 114 = .ok (.iconst 1, 1) := by decide +kernel
theorem d_Query_keeps_115 : decode b_Query_keeps 115 = .ok (.goto 4, 3) := by decide +kernel
theorem d_Query_keeps_118 : decode b_Query_keeps 118 = .ok (.iconst 0, 1) := by decide +kernel
theorem d_Query_keeps_119 : decode b_Query_keeps 119 = .ok (.ireturn, 1) := by decide +kernel
theorem d_Query_keeps_120 : decode b_Query_keeps 120 = .ok (.lload_n 3, 1) := by decide +kernel
theorem d_Query_keeps_121 : decode b_Query_keeps 121 = .ok (.ldc2_w 54, 3) := by decide +kernel
theorem d_Query_keeps_124 : decode b_Query_keeps 124 = .ok (.lcmp, 1) := by decide +kernel
theorem d_Query_keeps_125 : decode b_Query_keeps 125 = .ok (.ifCond .ne 7, 3) := by decide +kernel
theorem d_Query_keeps_128 : decode b_Query_keeps 128 = .ok (.iconst 1, 1) := by decide +kernel
theorem d_Query_keeps_129 : decode b_Query_keeps 129 = .ok (.goto 4, 3) := by decide +kernel
theorem d_Query_keeps_132 : decode b_Query_keeps 132 = .ok (.iconst 0, 1) := by decide +kernel
theorem d_Query_keeps_133 : decode b_Query_keeps 133 = .ok (.ireturn, 1) := by decide +kernel
theorem d_Query_keeps_134 : decode b_Query_keeps 134 = .ok (.lload_n 3, 1) := by decide +kernel
theorem d_Query_keeps_135 : decode b_Query_keeps 135 = .ok (.ldc2_w 54, 3) := by decide +kernel
theorem d_Query_keeps_138 : decode b_Query_keeps 138 = .ok (.lcmp, 1) := by decide +kernel
theorem d_Query_keeps_139 : decode b_Query_keeps 139 = .ok (.ifCond .eq 7, 3) := by decide +kernel
theorem d_Query_keeps_142 : decode b_Query_keeps 142 = .ok (.iconst 1, 1) := by decide +kernel
theorem d_Query_keeps_143 : decode b_Query_keeps 143 = .ok (.goto 4, 3) := by decide +kernel
theorem d_Query_keeps_146 : decode b_Query_keeps 146 = .ok (.iconst 0, 1) := by decide +kernel
theorem d_Query_keeps_147 : decode b_Query_keeps 147 = .ok (.ireturn, 1) := by decide +kernel
theorem d_Query_keeps_148 : decode b_Query_keeps 148 = .ok (.iconst 1, 1) := by decide +kernel
theorem d_Query_keeps_149 : decode b_Query_keeps 149 = .ok (.ireturn, 1) := by decide +kernel
theorem d_Meter_addStep_0 : decode b_Meter_addStep 0 = .ok (.aload_n 0, 1) := by decide +kernel
theorem d_Meter_addStep_1 : decode b_Meter_addStep 1 = .ok (.dup, 1) := by decide +kernel
theorem d_Meter_addStep_2 : decode b_Meter_addStep 2 = .ok (.getfield 13, 3) := by decide +kernel
theorem d_Meter_addStep_5 : decode b_Meter_addStep 5 = .ok (.iload_n 1, 1) := by decide +kernel
theorem d_Meter_addStep_6 : decode b_Meter_addStep 6 = .ok (.iadd, 1) := by decide +kernel
theorem d_Meter_addStep_7 : decode b_Meter_addStep 7 = .ok (.putfield 13, 3) := by decide +kernel
theorem d_Meter_addStep_10 : decode b_Meter_addStep 10 = .ok (.aload_n 0, 1) := by decide +kernel
theorem d_Meter_addStep_11 : decode b_Meter_addStep 11 = .ok (.aload_n 0, 1) := by decide +kernel
theorem d_Meter_addStep_12 : decode b_Meter_addStep 12 = .ok (.getfield 16, 3) := by decide +kernel
theorem d_Meter_addStep_15 : decode b_Meter_addStep 15 = .ok (.iload_n 2, 1) := by decide +kernel
theorem d_Meter_addStep_16 : decode b_Meter_addStep 16 = .ok (.invokestatic 22, 3) := by decide +kernel
theorem d_Meter_addStep_19 : decode b_Meter_addStep 19 = .ok (.putfield 16, 3) := by decide +kernel
theorem d_Meter_addStep_22 : decode b_Meter_addStep 22 = .ok (.return_, 1) := by decide +kernel
theorem d_Query_hasJoin_0 : decode b_Query_hasJoin 0 = .ok (.aload_n 0, 1) := by decide +kernel
theorem d_Query_hasJoin_1 : decode b_Query_hasJoin 1 = .ok (.getfield 29, 3) := by decide +kernel
theorem d_Query_hasJoin_4 : decode b_Query_hasJoin 4 = .ok (.iconst (-1), 1) := by decide +kernel
theorem d_Query_hasJoin_5 : decode b_Query_hasJoin 5 = .ok (.if_icmp .eq 15, 3) := by decide +kernel
theorem d_Query_hasJoin_8 : decode b_Query_hasJoin 8 = .ok (.aload_n 0, 1) := by decide +kernel
theorem d_Query_hasJoin_9 : decode b_Query_hasJoin 9 = .ok (.getfield 32, 3) := by decide +kernel
theorem d_Query_hasJoin_12 : decode b_Query_hasJoin 12 = .ok (.iconst (-1), 1) := by decide +kernel
theorem d_Query_hasJoin_13 : decode b_Query_hasJoin 13 = .ok (.if_icmp .eq 7, 3) := by decide +kernel
theorem d_Query_hasJoin_16 : decode b_Query_hasJoin 16 = .ok (.iconst 1, 1) := by decide +kernel
theorem d_Query_hasJoin_17 : decode b_Query_hasJoin 17 = .ok (.goto 4, 3) := by decide +kernel
theorem d_Query_hasJoin_20 : decode b_Query_hasJoin 20 = .ok (.iconst 0, 1) := by decide +kernel
theorem d_Query_hasJoin_21 : decode b_Query_hasJoin 21 = .ok (.ireturn, 1) := by decide +kernel
theorem d_Keys_beginWith_0 : decode b_Keys_beginWith 0 = .ok (.aload_n 1, 1) := by decide +kernel
theorem d_Keys_beginWith_1 : decode b_Keys_beginWith 1 = .ok (.getfield 17, 3) := by decide +kernel
theorem d_Keys_beginWith_4 : decode b_Keys_beginWith 4 = .ok (.aload_n 0, 1) := by decide +kernel
theorem d_Keys_beginWith_5 : decode b_Keys_beginWith 5 = .ok (.getfield 17, 3) := by decide +kernel
theorem d_Keys_beginWith_8 : decode b_Keys_beginWith 8 = .ok (.if_icmp .le 5, 3) := by decide +kernel
theorem d_Keys_beginWith_11 : decode b_Keys_beginWith 11 = .ok (.iconst 0, 1) := by decide +kernel
theorem d_Keys_beginWith_12 : decode b_Keys_beginWith 12 = .ok (.ireturn, 1) := by decide +kernel
theorem d_Keys_beginWith_13 : decode b_Keys_beginWith 13 = .ok (.iconst 0, 1) := by decide +kernel
theorem d_Keys_beginWith_14 : decode b_Keys_beginWith 14 = .ok (.istore_n 2, 1) := by decide +kernel
theorem d_Keys_beginWith_15 : decode b_Keys_beginWith 15 = .ok (.iload_n 2, 1) := by decide +kernel
theorem d_Keys_beginWith_16 : decode b_Keys_beginWith 16 = .ok (.aload_n 1, 1) := by decide +kernel
theorem d_Keys_beginWith_17 : decode b_Keys_beginWith 17 = .ok (.getfield 17, 3) := by decide +kernel
theorem d_Keys_beginWith_20 : decode b_Keys_beginWith 20 = .ok (.if_icmp .ge 41, 3) := by decide +kernel
theorem d_Keys_beginWith_23 : decode b_Keys_beginWith 23 = .ok (.aload_n 0, 1) := by decide +kernel
theorem d_Keys_beginWith_24 : decode b_Keys_beginWith 24 = .ok (.getfield 9, 3) := by decide +kernel
theorem d_Keys_beginWith_27 : decode b_Keys_beginWith 27 = .ok (.iload_n 2, 1) := by decide +kernel
theorem d_Keys_beginWith_28 : decode b_Keys_beginWith 28 = .ok (.iaload, 1) := by decide +kernel
theorem d_Keys_beginWith_29 : decode b_Keys_beginWith 29 = .ok (.aload_n 1, 1) := by decide +kernel
theorem d_Keys_beginWith_30 : decode b_Keys_beginWith 30 = .ok (.getfield 9, 3) := by decide +kernel
theorem d_Keys_beginWith_33 : decode b_Keys_beginWith 33 = .ok (.iload_n 2, 1) := by decide +kernel
theorem d_Keys_beginWith_34 : decode b_Keys_beginWith 34 = .ok (.iaload, 1) := by decide +kernel
theorem d_Keys_beginWith_35 : decode b_Keys_beginWith 35 = .ok (.if_icmp .ne 18, 3) := by decide +kernel
theorem d_Keys_beginWith_38 : decode b_Keys_beginWith 38 = .ok (.aload_n 0, 1) := by decide +kernel
theorem d_Keys_beginWith_39 : decode b_Keys_beginWith 39 = .ok (.getfield 13, 3) := by decide +kernel
theorem d_Keys_beginWith_42 : decode b_Keys_beginWith 42 = .ok (.iload_n 2, 1) := by decide +kernel
theorem d_Keys_beginWith_43 : decode b_Keys_beginWith 43 = .ok (.baload, 1) := by decide +kernel
theorem d_Keys_beginWith_44 : decode b_Keys_beginWith 44 = .ok (.aload_n 1, 1) := by decide +kernel
theorem d_Keys_beginWith_45 : decode b_Keys_beginWith 45 = .ok (.getfield 13, 3) := by decide +kernel
theorem d_Keys_beginWith_48 : decode b_Keys_beginWith 48 = .ok (.iload_n 2, 1) := by decide +kernel
theorem d_Keys_beginWith_49 : decode b_Keys_beginWith 49 = .ok (.baload, 1) := by decide +kernel
theorem d_Keys_beginWith_50 : decode b_Keys_beginWith 50 = .ok (.if_icmp .eq 5, 3) := by decide +kernel
theorem d_Keys_beginWith_53 : decode b_Keys_beginWith 53 = .ok (.iconst 0, 1) := by decide +kernel
theorem d_Keys_beginWith_54 : decode b_Keys_beginWith 54 = .ok (.ireturn, 1) := by decide +kernel
theorem d_Keys_beginWith_55 : decode b_Keys_beginWith 55 = .ok (.iinc 2 1, 3) := by decide +kernel
theorem d_Keys_beginWith_58 : decode b_Keys_beginWith 58 = .ok (.goto (-43), 3) := by decide +kernel
theorem d_Keys_beginWith_61 : decode b_Keys_beginWith 61 = .ok (.iconst 1, 1) := by decide +kernel
theorem d_Keys_beginWith_62 : decode b_Keys_beginWith 62 = .ok (.ireturn, 1) := by decide +kernel
theorem d_Meter_addSort_0 : decode b_Meter_addSort 0 = .ok (.aload_n 0, 1) := by decide +kernel
theorem d_Meter_addSort_1 : decode b_Meter_addSort 1 = .ok (.dup, 1) := by decide +kernel
theorem d_Meter_addSort_2 : decode b_Meter_addSort 2 = .ok (.getfield 19, 3) := by decide +kernel
theorem d_Meter_addSort_5 : decode b_Meter_addSort 5 = .ok (.iconst 1, 1) := by decide +kernel
theorem d_Meter_addSort_6 : decode b_Meter_addSort 6 = .ok (.iadd, 1) := by decide +kernel
theorem d_Meter_addSort_7 : decode b_Meter_addSort 7 = .ok (.putfield 19, 3) := by decide +kernel
theorem d_Meter_addSort_10 : decode b_Meter_addSort 10 = .ok (.iload_n 1, 1) := by decide +kernel
theorem d_Meter_addSort_11 : decode b_Meter_addSort 11 = .ok (.invokestatic 28, 3) := by decide +kernel
theorem d_Meter_addSort_14 : decode b_Meter_addSort 14 = .ok (.istore_n 2, 1) := by decide +kernel
theorem d_Meter_addSort_15 : decode b_Meter_addSort 15 = .ok (.aload_n 0, 1) := by decide +kernel
theorem d_Meter_addSort_16 : decode b_Meter_addSort 16 = .ok (.getfield 7, 3) := by decide +kernel
theorem d_Meter_addSort_19 : decode b_Meter_addSort 19 = .ok (.iconst 1, 1) := by decide +kernel
theorem d_Meter_addSort_20 : decode b_Meter_addSort 20 = .ok (.isub, 1) := by decide +kernel
theorem d_Meter_addSort_21 : decode b_Meter_addSort 21 = .ok (.istore_n 3, 1) := by decide +kernel
theorem d_Meter_addSort_22 : decode b_Meter_addSort 22 = .ok (.aload_n 0, 1) := by decide +kernel
theorem d_Meter_addSort_23 : decode b_Meter_addSort 23 = .ok (.iconst 2, 1) := by decide +kernel
theorem d_Meter_addSort_24 : decode b_Meter_addSort 24 = .ok (.iload_n 2, 1) := by decide +kernel
theorem d_Meter_addSort_25 : decode b_Meter_addSort 25 = .ok (.imul, 1) := by decide +kernel
theorem d_Meter_addSort_26 : decode b_Meter_addSort 26 = .ok (.aload_n 0, 1) := by decide +kernel
theorem d_Meter_addSort_27 : decode b_Meter_addSort 27 = .ok (.getfield 7, 3) := by decide +kernel
theorem d_Meter_addSort_30 : decode b_Meter_addSort 30 = .ok (.iload_n 2, 1) := by decide +kernel
theorem d_Meter_addSort_31 : decode b_Meter_addSort 31 = .ok (.invokestatic 34, 3) := by decide +kernel
theorem d_Meter_addSort_34 : decode b_Meter_addSort 34 = .ok (.invokevirtual 37, 3) := by decide +kernel
theorem d_Meter_addSort_37 : decode b_Meter_addSort 37 = .ok (.iload_n 2, 1) := by decide +kernel
theorem d_Meter_addSort_38 : decode b_Meter_addSort 38 = .ok (.aload_n 0, 1) := by decide +kernel
theorem d_Meter_addSort_39 : decode b_Meter_addSort 39 = .ok (.getfield 7, 3) := by decide +kernel
theorem d_Meter_addSort_42 : decode b_Meter_addSort 42 = .ok (.invokestatic 41, 3) := by decide +kernel
theorem d_Meter_addSort_45 : decode b_Meter_addSort 45 = .ok (.istore 4, 2) := by decide +kernel
theorem d_Meter_addSort_47 : decode b_Meter_addSort 47 = .ok (.iconst 1, 1) := by decide +kernel
theorem d_Meter_addSort_48 : decode b_Meter_addSort 48 = .ok (.istore 5, 2) := by decide +kernel
theorem d_Meter_addSort_50 : decode b_Meter_addSort 50 = .ok (.iload 5, 2) := by decide +kernel
theorem d_Meter_addSort_52 : decode b_Meter_addSort 52 = .ok (.iload_n 2, 1) := by decide +kernel
theorem d_Meter_addSort_53 : decode b_Meter_addSort 53 = .ok (.if_icmp .ge 38, 3) := by decide +kernel
theorem d_Meter_addSort_56 : decode b_Meter_addSort 56 = .ok (.iload 4, 2) := by decide +kernel
theorem d_Meter_addSort_58 : decode b_Meter_addSort 58 = .ok (.iconst 1, 1) := by decide +kernel
theorem d_Meter_addSort_59 : decode b_Meter_addSort 59 = .ok (.if_icmp .le 32, 3) := by decide +kernel
theorem d_Meter_addSort_62 : decode b_Meter_addSort 62 = .ok (.aload_n 0, 1) := by decide +kernel
theorem d_Meter_addSort_63 : decode b_Meter_addSort 63 = .ok (.iconst 2, 1) := by decide +kernel
theorem d_Meter_addSort_64 : decode b_Meter_addSort 64 = .ok (.iload_n 2, 1) := by decide +kernel
theorem d_Meter_addSort_65 : decode b_Meter_addSort 65 = .ok (.imul, 1) := by decide +kernel
theorem d_Meter_addSort_66 : decode b_Meter_addSort 66 = .ok (.iconst 1, 1) := by decide +kernel
theorem d_Meter_addSort_67 : decode b_Meter_addSort 67 = .ok (.iload 4, 2) := by decide +kernel
theorem d_Meter_addSort_69 : decode b_Meter_addSort 69 = .ok (.iload_n 3, 1) := by decide +kernel
theorem d_Meter_addSort_70 : decode b_Meter_addSort 70 = .ok (.invokestatic 34, 3) := by decide +kernel
theorem d_Meter_addSort_73 : decode b_Meter_addSort 73 = .ok (.iadd, 1) := by decide +kernel
theorem d_Meter_addSort_74 : decode b_Meter_addSort 74 = .ok (.invokevirtual 37, 3) := by decide +kernel
theorem d_Meter_addSort_77 : decode b_Meter_addSort 77 = .ok (.iload 4, 2) := by decide +kernel
theorem d_Meter_addSort_79 : decode b_Meter_addSort 79 = .ok (.iload_n 3, 1) := by decide +kernel
theorem d_Meter_addSort_80 : decode b_Meter_addSort 80 = .ok (.invokestatic 41, 3) := by decide +kernel
theorem d_Meter_addSort_83 : decode b_Meter_addSort 83 = .ok (.istore 4, 2) := by decide +kernel
theorem d_Meter_addSort_85 : decode b_Meter_addSort 85 = .ok (.iinc 5 1, 3) := by decide +kernel
theorem d_Meter_addSort_88 : decode b_Meter_addSort 88 = .ok (.goto (-38), 3) := by decide +kernel
theorem d_Meter_addSort_91 : decode b_Meter_addSort 91 = .ok (.return_, 1) := by decide +kernel
theorem d_Window_reaches_0 : decode b_Window_reaches 0 = .ok (.aload_n 0, 1) := by decide +kernel
theorem d_Window_reaches_1 : decode b_Window_reaches 1 = .ok (.getfield 28, 3) := by decide +kernel
theorem d_Window_reaches_4 : decode b_Window_reaches 4 = .ok (.bipush (-10), 2) := by decide +kernel
theorem d_Window_reaches_6 : decode b_Window_reaches 6 = .ok (.if_icmp .eq 13, 3) := by decide +kernel
theorem d_Window_reaches_9 : decode b_Window_reaches 9 = .ok (.lload_n 1, 1) := by decide +kernel
theorem d_Window_reaches_10 : decode b_Window_reaches 10 = .ok (.aload_n 0, 1) := by decide +kernel
theorem d_Window_reaches_11 : decode b_Window_reaches 11 = .ok (.getfield 28, 3) := by decide +kernel
theorem d_Window_reaches_14 : decode b_Window_reaches 14 = .ok (.i2l, 1) := by decide +kernel
theorem d_Window_reaches_15 : decode b_Window_reaches 15 = .ok (.lcmp, 1) := by decide +kernel
theorem d_Window_reaches_16 : decode b_Window_reaches 16 = .ok (.ifCond .lt 26, 3) := by decide +kernel
theorem d_Window_reaches_19 : decode b_Window_reaches 19 = .ok (.aload_n 0, 1) := by decide +kernel
theorem d_Window_reaches_20 : decode b_Window_reaches 20 = .ok (.getfield 31, 3) := by decide +kernel
theorem d_Window_reaches_23 : decode b_Window_reaches 23 = .ok (.bipush 10, 2) := by decide +kernel
theorem d_Window_reaches_25 : decode b_Window_reaches 25 = .ok (.if_icmp .eq 13, 3) := by decide +kernel
theorem d_Window_reaches_28 : decode b_Window_reaches 28 = .ok (.lload_n 1, 1) := by decide +kernel
theorem d_Window_reaches_29 : decode b_Window_reaches 29 = .ok (.aload_n 0, 1) := by decide +kernel
theorem d_Window_reaches_30 : decode b_Window_reaches 30 = .ok (.getfield 31, 3) := by decide +kernel
theorem d_Window_reaches_33 : decode b_Window_reaches 33 = .ok (.i2l, 1) := by decide +kernel
theorem d_Window_reaches_34 : decode b_Window_reaches 34 = .ok (.lcmp, 1) := by decide +kernel
theorem d_Window_reaches_35 : decode b_Window_reaches 35 = .ok (.ifCond .gt 7, 3) := by decide +kernel
theorem d_Window_reaches_38 : decode b_Window_reaches 38 = .ok (.iconst 1, 1) := by decide +kernel
theorem d_Window_reaches_39 : decode b_Window_reaches 39 = .ok (.goto 4, 3) := by decide +kernel
theorem d_Window_reaches_42 : decode b_Window_reaches 42 = .ok (.iconst 0, 1) := by decide +kernel
theorem d_Window_reaches_43 : decode b_Window_reaches 43 = .ok (.ireturn, 1) := by decide +kernel
set_option maxHeartbeats 4000000 in
set_option maxRecDepth 100000 in
theorem c_Keys_removeAll (l : Launch) (D : va_G) (cI cL cZ cW cR : ClassId) (sz : Nat) (ko kc kd kn : Nat) (kf : Nat → Nat) (kg : Nat → Bool) : Met l y_Keys_removeAll ws_Keys_removeAll rm0_0 (zPw D vwCl (zT cI cL cZ cW cR) [(ko, .inr (1, [.ref kc, .ref kd, .int (nI kn)])), (kc, .inl (cI, 2, .inl (zN kf))), (kd, .inl (cZ, 2, .inl (zZ kg)))] sz [.ref ko]) (zQv D vwCl (zT cI cL cZ cW cR) [(ko, .inr (1, [.ref kc, .ref kd, .int (nI kn)])), (kc, .inl (cI, 2, .inl (zN kf))), (kd, .inl (cZ, 2, .inl (zZ kg)))] sz (fun _ : Unit => True) (fun _ => [(ko, .inr (1, [.ref kc, .ref kd, .int (nI 0)])), (kc, .inl (cI, 2, .inl (zN kf))), (kd, .inl (cZ, 2, .inl (zZ kg)))])) 0 0 (va_A [(ko, .inr (1, [.ref kc, .ref kd, .int (nI kn)])), (kc, .inl (cI, 2, .inl (zN kf))), (kd, .inl (cZ, 2, .inl (zZ kg)))] sz) := by
  refine zk_enterW (cc := b_Keys_removeAll) (maxL := 1) (ret := none) (by decide) rfl (Nat.le_of_ble_eq_true rfl) ?_
  intro p e s m args below meth c ls Q hx hb hml hr hlk hown hts hP hK hN hl hin hsz A hAe hA hD hS hQ
  subst hsz
  have hl : lv_has ls 1 [(0, .ref ko)] := hl
  refine lv_aload_n hx hb d_Keys_removeAll_0 rfl (lv_at hl 0 rfl) ?_
  refine lv_iconst (v := nI 0) hx hb d_Keys_removeAll_1 (by decide) ?_
  refine va_put (D := D) (v := .int (nI 0)) (ty := .int) (C := R_Keys) (T := F_Keys) (N := 3) hx hb hts (fun w h => List.mem_cons_of_mem _ (hin_Keys w h)) t_Keys t_Keys_ok n_Keys hown hK hP hD hS 0 rfl rfl 2 (by decide) (hts _ (List.mem_cons_of_mem _ fl_Keys_17)) (fun _ h => h) rfl (by decide +kernel) rfl rfl (Nat.le_of_ble_eq_true rfl) d_Keys_removeAll_2 (fun H locs hP hD hS => ?_)
  have hP : va_P D vwCl [(ko, .inr (1, [.ref kc, .ref kd, .int (nI 0)])), (kc, .inl (cI, 2, .inl (zN kf))), (kd, .inl (cZ, 2, .inl (zZ kg)))] H := hP
  have hD : va_D A [(ko, .inr (1, [.ref kc, .ref kd, .int (nI 0)])), (kc, .inl (cI, 2, .inl (zN kf))), (kd, .inl (cZ, 2, .inl (zZ kg)))] := hD
  exact zk_vretW hx hb hr hlk hAe hQ hK (()) (trivial) hP hD hS d_Keys_removeAll_5
set_option maxHeartbeats 4000000 in
set_option maxRecDepth 100000 in
theorem c_Keys_add (l : Launch) (D : va_G) (cI cL cZ cW cR : ClassId) (sz : Nat) (ko kc kd kn : Nat) (kf : Nat → Nat) (kg : Nat → Bool) (c0 : Nat) (d0 : Bool) (hkn : kn < 2) : Met l y_Keys_add ws_Keys_add rm0_0 (zPw D vwCl (zT cI cL cZ cW cR) [(ko, .inr (1, [.ref kc, .ref kd, .int (nI kn)])), (kc, .inl (cI, 2, .inl (zN kf))), (kd, .inl (cZ, 2, .inl (zZ kg)))] sz [.ref ko, .int (nI c0), .int (zb d0)]) (zQv D vwCl (zT cI cL cZ cW cR) [(ko, .inr (1, [.ref kc, .ref kd, .int (nI kn)])), (kc, .inl (cI, 2, .inl (zN kf))), (kd, .inl (cZ, 2, .inl (zZ kg)))] sz (fun _ : Unit => True) (fun _ => [(ko, .inr (1, [.ref kc, .ref kd, .int (nI (kn + 1))])), (kc, .inl (cI, 2, .inl (zN (va_up kf kn c0)))), (kd, .inl (cZ, 2, .inl (zZ (va_up kg kn d0))))])) 0 0 (va_A [(ko, .inr (1, [.ref kc, .ref kd, .int (nI kn)])), (kc, .inl (cI, 2, .inl (zN kf))), (kd, .inl (cZ, 2, .inl (zZ kg)))] sz) := by
  refine zk_enterW (cc := b_Keys_add) (maxL := 3) (ret := none) (by decide) rfl (Nat.le_of_ble_eq_true rfl) ?_
  intro p e s m args below meth c ls Q hx hb hml hr hlk hown hts hP hK hN hl hin hsz A hAe hA hD hS hQ
  subst hsz
  have hl : lv_has ls 3 [(0, .ref ko), (1, .int (nI c0)), (2, .int (zb d0))] := hl
  refine lv_aload_n hx hb d_Keys_add_0 rfl (lv_at hl 0 rfl) ?_
  refine va_get (C := R_Keys) (T := F_Keys) (N := 3) hx hb hts (fun w h => List.mem_cons_of_mem _ (hin_Keys w h)) hown hK hP 0 rfl rfl 2 (by decide) (hts _ (List.mem_cons_of_mem _ fl_Keys_17)) (fun _ h => h) rfl d_Keys_add_1 ?_
  refine lv_iconst (v := nI 2) hx hb d_Keys_add_4 (by decide) ?_
  refine zk_icmp_ge (tgt := 38) hx hb d_Keys_add_5 rfl (by omega) (by omega) (fun hq => absurd hq (by omega)) (fun _ => ?_)
  refine lv_aload_n hx hb d_Keys_add_8 rfl (lv_at hl 0 rfl) ?_
  refine va_get (C := R_Keys) (T := F_Keys) (N := 3) hx hb hts (fun w h => List.mem_cons_of_mem _ (hin_Keys w h)) hown hK hP 0 rfl rfl 0 (by decide) (hts _ (List.mem_cons_of_mem _ fl_Keys_9)) (fun _ h => h) rfl d_Keys_add_9 ?_
  refine lv_aload_n hx hb d_Keys_add_12 rfl (lv_at hl 0 rfl) ?_
  refine va_get (C := R_Keys) (T := F_Keys) (N := 3) hx hb hts (fun w h => List.mem_cons_of_mem _ (hin_Keys w h)) hown hK hP 0 rfl rfl 2 (by decide) (hts _ (List.mem_cons_of_mem _ fl_Keys_17)) (fun _ h => h) rfl d_Keys_add_13 ?_
  refine lv_iload_n hx hb d_Keys_add_16 rfl (lv_at hl 1 rfl) ?_
  refine zk_nast hx hb hK hP hD hS 1 0 rfl rfl (by omega) (by omega) d_Keys_add_17 (fun H locs hP hD hS => ?_)
  have hP : va_P D vwCl [(ko, .inr (1, [.ref kc, .ref kd, .int (nI kn)])), (kc, .inl (cI, 2, .inl (zN (va_up kf kn c0)))), (kd, .inl (cZ, 2, .inl (zZ kg)))] H := hP
  have hD : va_D A [(ko, .inr (1, [.ref kc, .ref kd, .int (nI kn)])), (kc, .inl (cI, 2, .inl (zN (va_up kf kn c0)))), (kd, .inl (cZ, 2, .inl (zZ kg)))] := hD
  refine lv_aload_n hx hb d_Keys_add_18 rfl (lv_at hl 0 rfl) ?_
  refine va_get (C := R_Keys) (T := F_Keys) (N := 3) hx hb hts (fun w h => List.mem_cons_of_mem _ (hin_Keys w h)) hown hK hP 0 rfl rfl 1 (by decide) (hts _ (List.mem_cons_of_mem _ fl_Keys_13)) (fun _ h => h) rfl d_Keys_add_19 ?_
  refine lv_aload_n hx hb d_Keys_add_22 rfl (lv_at hl 0 rfl) ?_
  refine va_get (C := R_Keys) (T := F_Keys) (N := 3) hx hb hts (fun w h => List.mem_cons_of_mem _ (hin_Keys w h)) hown hK hP 0 rfl rfl 2 (by decide) (hts _ (List.mem_cons_of_mem _ fl_Keys_17)) (fun _ h => h) rfl d_Keys_add_23 ?_
  refine lv_iload_n hx hb d_Keys_add_26 rfl (lv_at hl 2 rfl) ?_
  refine zk_bast hx hb hK hP hD hS 2 2 rfl rfl (by omega) (by omega) d_Keys_add_27 (fun H locs hP hD hS => ?_)
  have hP : va_P D vwCl [(ko, .inr (1, [.ref kc, .ref kd, .int (nI kn)])), (kc, .inl (cI, 2, .inl (zN (va_up kf kn c0)))), (kd, .inl (cZ, 2, .inl (zZ (va_up kg kn d0))))] H := hP
  have hD : va_D A [(ko, .inr (1, [.ref kc, .ref kd, .int (nI kn)])), (kc, .inl (cI, 2, .inl (zN (va_up kf kn c0)))), (kd, .inl (cZ, 2, .inl (zZ (va_up kg kn d0))))] := hD
  refine lv_aload_n hx hb d_Keys_add_28 rfl (lv_at hl 0 rfl) ?_
  refine lv_dup hx hb d_Keys_add_29 rfl ?_
  refine va_get (C := R_Keys) (T := F_Keys) (N := 3) hx hb hts (fun w h => List.mem_cons_of_mem _ (hin_Keys w h)) hown hK hP 0 rfl rfl 2 (by decide) (hts _ (List.mem_cons_of_mem _ fl_Keys_17)) (fun _ h => h) rfl d_Keys_add_30 ?_
  refine lv_iconst (v := nI 1) hx hb d_Keys_add_33 (by decide) ?_
  refine lv_iadd hx hb d_Keys_add_34 ?_
  refine zk_topi (show ((nI kn) + (nI 1)) = nI (kn + 1) from nI_add kn 1) ?_
  refine va_put (D := D) (v := .int (nI (kn + 1))) (ty := .int) (C := R_Keys) (T := F_Keys) (N := 3) hx hb hts (fun w h => List.mem_cons_of_mem _ (hin_Keys w h)) t_Keys t_Keys_ok n_Keys hown hK hP hD hS 0 rfl rfl 2 (by decide) (hts _ (List.mem_cons_of_mem _ fl_Keys_17)) (fun _ h => h) rfl (by decide +kernel) rfl rfl (Nat.le_of_ble_eq_true rfl) d_Keys_add_35 (fun H locs hP hD hS => ?_)
  have hP : va_P D vwCl [(ko, .inr (1, [.ref kc, .ref kd, .int (nI (kn + 1))])), (kc, .inl (cI, 2, .inl (zN (va_up kf kn c0)))), (kd, .inl (cZ, 2, .inl (zZ (va_up kg kn d0))))] H := hP
  have hD : va_D A [(ko, .inr (1, [.ref kc, .ref kd, .int (nI (kn + 1))])), (kc, .inl (cI, 2, .inl (zN (va_up kf kn c0)))), (kd, .inl (cZ, 2, .inl (zZ (va_up kg kn d0))))] := hD
  exact zk_vretW hx hb hr hlk hAe hQ hK (()) (trivial) hP hD hS d_Keys_add_38
set_option maxHeartbeats 4000000 in
set_option maxRecDepth 100000 in
theorem c_Keys_beginWith (l : Launch) (D : va_G) (cI cL cZ cW cR : ClassId) (ko kc kd kn : Nat) (kf : Nat → Nat) (kg : Nat → Bool) (ko2 kc2 kd2 kn2 : Nat) (kf2 : Nat → Nat) (kg2 : Nat → Bool) (b0 : Bool) (hb0 : b0 = true ↔ kPre kn kf kg kn2 kf2 kg2) (hkn : kn ≤ 2) (hkn2 : kn2 ≤ 2) (hkf : ∀ t, t < 2 → kf t < 1000) (hkf2 : ∀ t, t < 2 → kf2 t < 1000) : Met l y_Keys_beginWith ws_Keys_beginWith rm0_0 (zPr D vwCl (zT cI cL cZ cW cR) [(ko, .inr (1, [.ref kc, .ref kd, .int (nI kn)])), (kc, .inl (cI, 2, .inl (zN kf))), (kd, .inl (cZ, 2, .inl (zZ kg))), (ko2, .inr (1, [.ref kc2, .ref kd2, .int (nI kn2)])), (kc2, .inl (cI, 2, .inl (zN kf2))), (kd2, .inl (cZ, 2, .inl (zZ kg2)))] [.ref ko, .ref ko2]) (zSi (zb b0)) 0 0 (fun _ => False) := by
  refine zk_enterR (cc := b_Keys_beginWith) (maxL := 3) (ret := some .boolean) (by decide) rfl (Nat.le_of_ble_eq_true rfl) ?_
  intro p e s m args below meth c ls Q hx hb hml hr hlk hown hts hP hK hN hl hQ
  have hl : lv_has ls 3 [(0, .ref ko), (1, .ref ko2)] := hl
  refine lv_aload_n hx hb d_Keys_beginWith_0 rfl (lv_at hl 1 rfl) ?_
  refine va_get (C := R_Keys) (T := F_Keys) (N := 3) hx hb hts (fun w h => List.mem_cons_of_mem _ (hin_Keys w h)) hown hK hP 3 rfl rfl 2 (by decide) (hts _ (List.mem_cons_of_mem _ fl_Keys_17)) (fun _ h => h) rfl d_Keys_beginWith_1 ?_
  refine lv_aload_n hx hb d_Keys_beginWith_4 rfl (lv_at hl 0 rfl) ?_
  refine va_get (C := R_Keys) (T := F_Keys) (N := 3) hx hb hts (fun w h => List.mem_cons_of_mem _ (hin_Keys w h)) hown hK hP 0 rfl rfl 2 (by decide) (hts _ (List.mem_cons_of_mem _ fl_Keys_17)) (fun _ h => h) rfl d_Keys_beginWith_5 ?_
  refine zk_icmp_le (tgt := 13) hx hb d_Keys_beginWith_8 rfl (by omega) (by omega) (fun h8 => ?_) (fun h8 => ?_)
  · skip
    refine lv_iconst (v := nI 0) hx hb d_Keys_beginWith_13 (by decide) ?_
    refine lv_istore_n (lv' := [(2, .int (nI 0)), (0, .ref ko), (1, .ref ko2)]) hx hb d_Keys_beginWith_14 rfl hl (by decide) rfl (fun ls hl => ?_)
    have lb15 : ∀ (fuel : Nat) (t : Nat), (t ≤ kn2) → (∀ z, z < t → kf z = kf2 z ∧ kg z = kg2 z) → kn2 - t < fuel → ∀ (ls : Array Slot), lv_has ls 3 [(0, .ref ko), (1, .ref ko2), (2, .int (nI t))] → W p l e rm0_0 s m args below meth c s.heap [] 0 0 Q (F0 m 15 ls []) := by
      intro fuel
      induction fuel with
      | zero => intro t ht he hfu; exact absurd hfu (Nat.not_lt_zero _)
      | succ fuel ih =>
        intro t ht he hfu ls hl
        refine lv_iload_n hx hb d_Keys_beginWith_15 rfl (lv_at hl 2 rfl) ?_
        refine lv_aload_n hx hb d_Keys_beginWith_16 rfl (lv_at hl 1 rfl) ?_
        refine va_get (C := R_Keys) (T := F_Keys) (N := 3) hx hb hts (fun w h => List.mem_cons_of_mem _ (hin_Keys w h)) hown hK hP 3 rfl rfl 2 (by decide) (hts _ (List.mem_cons_of_mem _ fl_Keys_17)) (fun _ h => h) rfl d_Keys_beginWith_17 ?_
        refine zk_icmp_ge (tgt := 61) hx hb d_Keys_beginWith_20 rfl (by omega) (by omega) (fun h20 => ?_) (fun h20 => ?_)
        · skip
          refine lv_iconst (v := nI 1) hx hb d_Keys_beginWith_61 (by decide) ?_
          exact zk_zretR hx hb hr hlk hQ ((zk_bt (hb0.mpr ⟨by omega, fun z hz => he z (by omega)⟩))) d_Keys_beginWith_62
        · skip
          refine lv_aload_n hx hb d_Keys_beginWith_23 rfl (lv_at hl 0 rfl) ?_
          refine va_get (C := R_Keys) (T := F_Keys) (N := 3) hx hb hts (fun w h => List.mem_cons_of_mem _ (hin_Keys w h)) hown hK hP 0 rfl rfl 0 (by decide) (hts _ (List.mem_cons_of_mem _ fl_Keys_9)) (fun _ h => h) rfl d_Keys_beginWith_24 ?_
          refine lv_iload_n hx hb d_Keys_beginWith_27 rfl (lv_at hl 2 rfl) ?_
          refine zk_nald hx hb hK hP 1 0 rfl rfl (by omega) (by omega) d_Keys_beginWith_28 ?_
          refine lv_aload_n hx hb d_Keys_beginWith_29 rfl (lv_at hl 1 rfl) ?_
          refine va_get (C := R_Keys) (T := F_Keys) (N := 3) hx hb hts (fun w h => List.mem_cons_of_mem _ (hin_Keys w h)) hown hK hP 3 rfl rfl 0 (by decide) (hts _ (List.mem_cons_of_mem _ fl_Keys_9)) (fun _ h => h) rfl d_Keys_beginWith_30 ?_
          refine lv_iload_n hx hb d_Keys_beginWith_33 rfl (lv_at hl 2 rfl) ?_
          refine zk_nald hx hb hK hP 4 0 rfl rfl (by omega) (by omega) d_Keys_beginWith_34 ?_
          have hz1 := hkf t (by omega)
          have hz2 := hkf2 t (by omega)
          refine zk_icmp_ne (tgt := 53) hx hb d_Keys_beginWith_35 rfl (by omega) (by omega) (fun h35 => ?_) (fun h35 => ?_)
          · skip
            refine lv_iconst (v := nI 0) hx hb d_Keys_beginWith_53 (by decide) ?_
            exact zk_zretR hx hb hr hlk hQ (by first | exact zk_bf (fun q => h35 ((hb0.mp q).2 t h20).1) | exact zk_bf (fun q => h50 (congrArg zb ((hb0.mp q).2 t h20).2))) d_Keys_beginWith_54
          · skip
            refine lv_aload_n hx hb d_Keys_beginWith_38 rfl (lv_at hl 0 rfl) ?_
            refine va_get (C := R_Keys) (T := F_Keys) (N := 3) hx hb hts (fun w h => List.mem_cons_of_mem _ (hin_Keys w h)) hown hK hP 0 rfl rfl 1 (by decide) (hts _ (List.mem_cons_of_mem _ fl_Keys_13)) (fun _ h => h) rfl d_Keys_beginWith_39 ?_
            refine lv_iload_n hx hb d_Keys_beginWith_42 rfl (lv_at hl 2 rfl) ?_
            refine zk_bald hx hb hK hP 2 2 rfl rfl (by omega) (by omega) d_Keys_beginWith_43 ?_
            refine lv_aload_n hx hb d_Keys_beginWith_44 rfl (lv_at hl 1 rfl) ?_
            refine va_get (C := R_Keys) (T := F_Keys) (N := 3) hx hb hts (fun w h => List.mem_cons_of_mem _ (hin_Keys w h)) hown hK hP 3 rfl rfl 1 (by decide) (hts _ (List.mem_cons_of_mem _ fl_Keys_13)) (fun _ h => h) rfl d_Keys_beginWith_45 ?_
            refine lv_iload_n hx hb d_Keys_beginWith_48 rfl (lv_at hl 2 rfl) ?_
            refine zk_bald hx hb hK hP 5 2 rfl rfl (by omega) (by omega) d_Keys_beginWith_49 ?_
            refine lv_icmp_eq (tgt := 55) hx hb d_Keys_beginWith_50 rfl (fun h50 => ?_) (fun h50 => ?_)
            · skip
              refine lv_iinc (k := 2) (v := nI (t + 1)) (lv' := [(2, .int (nI (t + 1))), (0, .ref ko), (1, .ref ko2)]) hx hb d_Keys_beginWith_55 hl rfl (nI_add t 1) (by decide) rfl (fun ls hl => ?_)
              refine lv_goto (tgt := 15) hx hb d_Keys_beginWith_58 rfl ?_
              exact ih (t + 1) (by omega) (fun z hz => by rcases Nat.lt_succ_iff_lt_or_eq.mp hz with q | q; exact he z q; subst q; exact ⟨h35, zk_bi h50⟩) (by omega) ls (lv_sub hl [1, 2, 0] rfl)
            · skip
              refine lv_iconst (v := nI 0) hx hb d_Keys_beginWith_53 (by decide) ?_
              exact zk_zretR hx hb hr hlk hQ (by first | exact zk_bf (fun q => h35 ((hb0.mp q).2 t h20).1) | exact zk_bf (fun q => h50 (congrArg zb ((hb0.mp q).2 t h20).2))) d_Keys_beginWith_54
    exact lb15 _ 0 (Nat.zero_le _) (fun z hz => absurd hz (Nat.not_lt_zero z)) (Nat.lt_succ_self _) ls (lv_sub hl [1, 2, 0] rfl)
  · skip
    refine lv_iconst (v := nI 0) hx hb d_Keys_beginWith_11 (by decide) ?_
    exact zk_zretR hx hb hr hlk hQ ((zk_bf (fun q => absurd (hb0.mp q).1 (by omega)))) d_Keys_beginWith_12
set_option maxHeartbeats 4000000 in
set_option maxRecDepth 100000 in
theorem c_Window_setKeys_nn (l : Launch) (D : va_G) (cI cL cZ cW cR : ClassId) (sz : Nat) (wo wf wa wn : Nat) (wp wr : Int32) (wd wg : Bool) (wl wh : Int32) (ko kc kd kn : Nat) (kf : Nat → Nat) (kg : Nat → Bool) (d0 : Bool) : Met l y_Window_setKeys ws_Window_setKeys rm1_30 (zPw D vwCl (zT cI cL cZ cW cR) [(wo, .inr (2, [.ref ko, .int (nI wf), .int (nI wa), .int (nI wn), .int wp, .int wr, .int (zb wd), .int (zb wg), .int wl, .int wh])), (ko, .inr (1, [.ref kc, .ref kd, .int (nI kn)])), (kc, .inl (cI, 2, .inl (zN kf))), (kd, .inl (cZ, 2, .inl (zZ kg)))] sz [.ref wo, .int (-1), .int (-1), .int (zb d0)]) (zQv D vwCl (zT cI cL cZ cW cR) [(wo, .inr (2, [.ref ko, .int (nI wf), .int (nI wa), .int (nI wn), .int wp, .int wr, .int (zb wd), .int (zb wg), .int wl, .int wh])), (ko, .inr (1, [.ref kc, .ref kd, .int (nI kn)])), (kc, .inl (cI, 2, .inl (zN kf))), (kd, .inl (cZ, 2, .inl (zZ kg)))] sz (fun _ : Unit => True) (fun _ => [(wo, .inr (2, [.ref ko, .int (nI wf), .int (nI wa), .int (nI wn), .int (-1), .int (-1), .int (zb d0), .int (zb wg), .int wl, .int wh])), (ko, .inr (1, [.ref kc, .ref kd, .int (nI 0)])), (kc, .inl (cI, 2, .inl (zN kf))), (kd, .inl (cZ, 2, .inl (zZ kg)))])) 0 0 (va_A [(wo, .inr (2, [.ref ko, .int (nI wf), .int (nI wa), .int (nI wn), .int wp, .int wr, .int (zb wd), .int (zb wg), .int wl, .int wh])), (ko, .inr (1, [.ref kc, .ref kd, .int (nI kn)])), (kc, .inl (cI, 2, .inl (zN kf))), (kd, .inl (cZ, 2, .inl (zZ kg)))] sz) := by
  refine zk_enterW (cc := b_Window_setKeys) (maxL := 4) (ret := none) (by decide) rfl (Nat.le_of_ble_eq_true rfl) ?_
  intro p e s m args below meth c ls Q hx hb hml hr hlk hown hts hP hK hN hl hin hsz A hAe hA hD hS hQ
  subst hsz
  have hl : lv_has ls 4 [(0, .ref wo), (1, .int (-1)), (2, .int (-1)), (3, .int (zb d0))] := hl
  refine lv_aload_n hx hb d_Window_setKeys_0 rfl (lv_at hl 0 rfl) ?_
  refine lv_iload_n hx hb d_Window_setKeys_1 rfl (lv_at hl 1 rfl) ?_
  refine va_put (D := D) (v := .int (-1)) (ty := .int) (C := R_Window) (T := F_Window) (N := 10) hx hb hts (fun w h => List.mem_cons_of_mem _ (hin_Window w h)) t_Window t_Window_ok n_Window hown hK hP hD hS 0 rfl rfl 4 (by decide) (hts _ (List.mem_cons_of_mem _ fl_Window_22)) (fun _ h => h) rfl (by decide +kernel) rfl rfl (Nat.le_of_ble_eq_true rfl) d_Window_setKeys_2 (fun H locs hP hD hS => ?_)
  have hP : va_P D vwCl [(wo, .inr (2, [.ref ko, .int (nI wf), .int (nI wa), .int (nI wn), .int (-1), .int wr, .int (zb wd), .int (zb wg), .int wl, .int wh])), (ko, .inr (1, [.ref kc, .ref kd, .int (nI kn)])), (kc, .inl (cI, 2, .inl (zN kf))), (kd, .inl (cZ, 2, .inl (zZ kg)))] H := hP
  have hD : va_D A [(wo, .inr (2, [.ref ko, .int (nI wf), .int (nI wa), .int (nI wn), .int (-1), .int wr, .int (zb wd), .int (zb wg), .int wl, .int wh])), (ko, .inr (1, [.ref kc, .ref kd, .int (nI kn)])), (kc, .inl (cI, 2, .inl (zN kf))), (kd, .inl (cZ, 2, .inl (zZ kg)))] := hD
  refine lv_aload_n hx hb d_Window_setKeys_5 rfl (lv_at hl 0 rfl) ?_
  refine lv_iload_n hx hb d_Window_setKeys_6 rfl (lv_at hl 2 rfl) ?_
  refine va_put (D := D) (v := .int (-1)) (ty := .int) (C := R_Window) (T := F_Window) (N := 10) hx hb hts (fun w h => List.mem_cons_of_mem _ (hin_Window w h)) t_Window t_Window_ok n_Window hown hK hP hD hS 0 rfl rfl 5 (by decide) (hts _ (List.mem_cons_of_mem _ fl_Window_25)) (fun _ h => h) rfl (by decide +kernel) rfl rfl (Nat.le_of_ble_eq_true rfl) d_Window_setKeys_7 (fun H locs hP hD hS => ?_)
  have hP : va_P D vwCl [(wo, .inr (2, [.ref ko, .int (nI wf), .int (nI wa), .int (nI wn), .int (-1), .int (-1), .int (zb wd), .int (zb wg), .int wl, .int wh])), (ko, .inr (1, [.ref kc, .ref kd, .int (nI kn)])), (kc, .inl (cI, 2, .inl (zN kf))), (kd, .inl (cZ, 2, .inl (zZ kg)))] H := hP
  have hD : va_D A [(wo, .inr (2, [.ref ko, .int (nI wf), .int (nI wa), .int (nI wn), .int (-1), .int (-1), .int (zb wd), .int (zb wg), .int wl, .int wh])), (ko, .inr (1, [.ref kc, .ref kd, .int (nI kn)])), (kc, .inl (cI, 2, .inl (zN kf))), (kd, .inl (cZ, 2, .inl (zZ kg)))] := hD
  refine lv_aload_n hx hb d_Window_setKeys_10 rfl (lv_at hl 0 rfl) ?_
  refine lv_iload_n hx hb d_Window_setKeys_11 rfl (lv_at hl 3 rfl) ?_
  refine va_put (D := D) (v := .int (zb d0)) (ty := .boolean) (C := R_Window) (T := F_Window) (N := 10) hx hb hts (fun w h => List.mem_cons_of_mem _ (hin_Window w h)) t_Window t_Window_ok n_Window hown hK hP hD hS 0 rfl rfl 6 (by decide) (hts _ (List.mem_cons_of_mem _ fl_Window_48)) (fun _ h => h) rfl (by decide +kernel) (zb_nar d0) (zb_fit d0) (Nat.le_of_ble_eq_true rfl) d_Window_setKeys_12 (fun H locs hP hD hS => ?_)
  have hP : va_P D vwCl [(wo, .inr (2, [.ref ko, .int (nI wf), .int (nI wa), .int (nI wn), .int (-1), .int (-1), .int (zb d0), .int (zb wg), .int wl, .int wh])), (ko, .inr (1, [.ref kc, .ref kd, .int (nI kn)])), (kc, .inl (cI, 2, .inl (zN kf))), (kd, .inl (cZ, 2, .inl (zZ kg)))] H := hP
  have hD : va_D A [(wo, .inr (2, [.ref ko, .int (nI wf), .int (nI wa), .int (nI wn), .int (-1), .int (-1), .int (zb d0), .int (zb wg), .int wl, .int wh])), (ko, .inr (1, [.ref kc, .ref kd, .int (nI kn)])), (kc, .inl (cI, 2, .inl (zN kf))), (kd, .inl (cZ, 2, .inl (zZ kg)))] := hD
  refine lv_aload_n hx hb d_Window_setKeys_15 rfl (lv_at hl 0 rfl) ?_
  refine va_get (C := R_Window) (T := F_Window) (N := 10) hx hb hts (fun w h => List.mem_cons_of_mem _ (hin_Window w h)) hown hK hP 0 rfl rfl 0 (by decide) (hts _ (List.mem_cons_of_mem _ fl_Window_12)) (fun _ h => h) rfl d_Window_setKeys_16 ?_
  have hPc := hP.sub (ws' := [(ko, .inr (1, [.ref kc, .ref kd, .int (nI kn)])), (kc, .inl (cI, 2, .inl (zN kf))), (kd, .inl (cZ, 2, .inl (zZ kg)))]) [1, 2, 3] rfl
  have hDc := hD.sub (ws' := [(ko, .inr (1, [.ref kc, .ref kd, .int (nI kn)])), (kc, .inl (cI, 2, .inl (zN kf))), (kd, .inl (cZ, 2, .inl (zZ kg)))]) [1, 2, 3] (by decide) rfl
  refine zk_wv (wr := [(wo, .inr (2, [.ref ko, .int (nI wf), .int (nI wa), .int (nI wn), .int (-1), .int (-1), .int (zb d0), .int (zb wg), .int wl, .int wh]))]) (w2 := (fun _ => [(wo, .inr (2, [.ref ko, .int (nI wf), .int (nI wa), .int (nI wn), .int (-1), .int (-1), .int (zb d0), .int (zb wg), .int wl, .int wh])), (ko, .inr (1, [.ref kc, .ref kd, .int (nI 0)])), (kc, .inl (cI, 2, .inl (zN kf))), (kd, .inl (cZ, 2, .inl (zZ kg)))])) hP hD hS hA [1, 2, 3] [0] [0, 1, 2, 3] rfl rfl (by decide) (by decide) (fun _ => rfl) (by decide) (va_runV (As := []) (rest := []) ⟨hx, hb, hml, hown, hts⟩ (c_Keys_removeAll l D cI cL cZ cW cR _ ko kc kd kn kf kg) (cwV 0 hts (zk_gV (fun _ h => List.mem_cons_of_mem _ h) ml_Window_51 im_Keys_removeAll se_Keys_removeAll in_Keys co_Keys_removeAll) rfl rfl rfl ⟨rfl, hd_Keys_removeAll⟩ ⟨Nat.le_of_ble_eq_true rfl, Nat.le_of_ble_eq_true rfl⟩) (zk_vw (q0 := 0) hN hK hPc hDc rfl rfl) rfl rfl hl.1 rfl (lv_room (Nat.le_of_ble_eq_true rfl)) d_Window_setKeys_19 ⟨Nat.zero_le _, Nat.zero_le _⟩) (fun u H locs hpost hP hD hS => ?_)
  have hP : va_P D vwCl [(wo, .inr (2, [.ref ko, .int (nI wf), .int (nI wa), .int (nI wn), .int (-1), .int (-1), .int (zb d0), .int (zb wg), .int wl, .int wh])), (ko, .inr (1, [.ref kc, .ref kd, .int (nI 0)])), (kc, .inl (cI, 2, .inl (zN kf))), (kd, .inl (cZ, 2, .inl (zZ kg)))] H := hP
  have hD : va_D A [(wo, .inr (2, [.ref ko, .int (nI wf), .int (nI wa), .int (nI wn), .int (-1), .int (-1), .int (zb d0), .int (zb wg), .int wl, .int wh])), (ko, .inr (1, [.ref kc, .ref kd, .int (nI 0)])), (kc, .inl (cI, 2, .inl (zN kf))), (kd, .inl (cZ, 2, .inl (zZ kg)))] := hD
  refine lv_aload_n hx hb d_Window_setKeys_22 rfl (lv_at hl 0 rfl) ?_
  refine va_get (C := R_Window) (T := F_Window) (N := 10) hx hb hts (fun w h => List.mem_cons_of_mem _ (hin_Window w h)) hown hK hP 0 rfl rfl 4 (by decide) (hts _ (List.mem_cons_of_mem _ fl_Window_22)) (fun _ h => h) rfl d_Window_setKeys_23 ?_
  refine lv_iconst (v := (-1)) hx hb d_Window_setKeys_26 (by decide) ?_
  refine lv_icmp_eq (tgt := 42) hx hb d_Window_setKeys_27 rfl (fun _ => ?_) (fun hq => absurd hq (fun q => q rfl))
  refine lv_aload_n hx hb d_Window_setKeys_42 rfl (lv_at hl 0 rfl) ?_
  refine va_get (C := R_Window) (T := F_Window) (N := 10) hx hb hts (fun w h => List.mem_cons_of_mem _ (hin_Window w h)) hown hK hP 0 rfl rfl 5 (by decide) (hts _ (List.mem_cons_of_mem _ fl_Window_25)) (fun _ h => h) rfl d_Window_setKeys_43 ?_
  refine lv_iconst (v := (-1)) hx hb d_Window_setKeys_46 (by decide) ?_
  refine lv_icmp_eq (tgt := 65) hx hb d_Window_setKeys_47 rfl (fun _ => ?_) (fun hq => absurd hq (fun q => q rfl))
  exact zk_vretW hx hb hr hlk hAe hQ hK (()) (trivial) hP hD hS d_Window_setKeys_65
set_option maxHeartbeats 4000000 in
set_option maxRecDepth 100000 in
theorem c_Window_setKeys_pn (l : Launch) (D : va_G) (cI cL cZ cW cR : ClassId) (sz : Nat) (wo wf wa wn : Nat) (wp wr : Int32) (wd wg : Bool) (wl wh : Int32) (ko kc kd kn : Nat) (kf : Nat → Nat) (kg : Nat → Bool) (pj : Nat) (hpj : pj < 1000) (d0 : Bool) : Met l y_Window_setKeys ws_Window_setKeys rm1_30 (zPw D vwCl (zT cI cL cZ cW cR) [(wo, .inr (2, [.ref ko, .int (nI wf), .int (nI wa), .int (nI wn), .int wp, .int wr, .int (zb wd), .int (zb wg), .int wl, .int wh])), (ko, .inr (1, [.ref kc, .ref kd, .int (nI kn)])), (kc, .inl (cI, 2, .inl (zN kf))), (kd, .inl (cZ, 2, .inl (zZ kg)))] sz [.ref wo, .int (nI pj), .int (-1), .int (zb d0)]) (zQv D vwCl (zT cI cL cZ cW cR) [(wo, .inr (2, [.ref ko, .int (nI wf), .int (nI wa), .int (nI wn), .int wp, .int wr, .int (zb wd), .int (zb wg), .int wl, .int wh])), (ko, .inr (1, [.ref kc, .ref kd, .int (nI kn)])), (kc, .inl (cI, 2, .inl (zN kf))), (kd, .inl (cZ, 2, .inl (zZ kg)))] sz (fun _ : Unit => True) (fun _ => [(wo, .inr (2, [.ref ko, .int (nI wf), .int (nI wa), .int (nI wn), .int (nI pj), .int (-1), .int (zb d0), .int (zb wg), .int wl, .int wh])), (ko, .inr (1, [.ref kc, .ref kd, .int (nI 1)])), (kc, .inl (cI, 2, .inl (zN (va_up kf 0 pj)))), (kd, .inl (cZ, 2, .inl (zZ (va_up kg 0 false))))])) 0 0 (va_A [(wo, .inr (2, [.ref ko, .int (nI wf), .int (nI wa), .int (nI wn), .int wp, .int wr, .int (zb wd), .int (zb wg), .int wl, .int wh])), (ko, .inr (1, [.ref kc, .ref kd, .int (nI kn)])), (kc, .inl (cI, 2, .inl (zN kf))), (kd, .inl (cZ, 2, .inl (zZ kg)))] sz) := by
  refine zk_enterW (cc := b_Window_setKeys) (maxL := 4) (ret := none) (by decide) rfl (Nat.le_of_ble_eq_true rfl) ?_
  intro p e s m args below meth c ls Q hx hb hml hr hlk hown hts hP hK hN hl hin hsz A hAe hA hD hS hQ
  subst hsz
  have hl : lv_has ls 4 [(0, .ref wo), (1, .int (nI pj)), (2, .int (-1)), (3, .int (zb d0))] := hl
  refine lv_aload_n hx hb d_Window_setKeys_0 rfl (lv_at hl 0 rfl) ?_
  refine lv_iload_n hx hb d_Window_setKeys_1 rfl (lv_at hl 1 rfl) ?_
  refine va_put (D := D) (v := .int (nI pj)) (ty := .int) (C := R_Window) (T := F_Window) (N := 10) hx hb hts (fun w h => List.mem_cons_of_mem _ (hin_Window w h)) t_Window t_Window_ok n_Window hown hK hP hD hS 0 rfl rfl 4 (by decide) (hts _ (List.mem_cons_of_mem _ fl_Window_22)) (fun _ h => h) rfl (by decide +kernel) rfl rfl (Nat.le_of_ble_eq_true rfl) d_Window_setKeys_2 (fun H locs hP hD hS => ?_)
  have hP : va_P D vwCl [(wo, .inr (2, [.ref ko, .int (nI wf), .int (nI wa), .int (nI wn), .int (nI pj), .int wr, .int (zb wd), .int (zb wg), .int wl, .int wh])), (ko, .inr (1, [.ref kc, .ref kd, .int (nI kn)])), (kc, .inl (cI, 2, .inl (zN kf))), (kd, .inl (cZ, 2, .inl (zZ kg)))] H := hP
  have hD : va_D A [(wo, .inr (2, [.ref ko, .int (nI wf), .int (nI wa), .int (nI wn), .int (nI pj), .int wr, .int (zb wd), .int (zb wg), .int wl, .int wh])), (ko, .inr (1, [.ref kc, .ref kd, .int (nI kn)])), (kc, .inl (cI, 2, .inl (zN kf))), (kd, .inl (cZ, 2, .inl (zZ kg)))] := hD
  refine lv_aload_n hx hb d_Window_setKeys_5 rfl (lv_at hl 0 rfl) ?_
  refine lv_iload_n hx hb d_Window_setKeys_6 rfl (lv_at hl 2 rfl) ?_
  refine va_put (D := D) (v := .int (-1)) (ty := .int) (C := R_Window) (T := F_Window) (N := 10) hx hb hts (fun w h => List.mem_cons_of_mem _ (hin_Window w h)) t_Window t_Window_ok n_Window hown hK hP hD hS 0 rfl rfl 5 (by decide) (hts _ (List.mem_cons_of_mem _ fl_Window_25)) (fun _ h => h) rfl (by decide +kernel) rfl rfl (Nat.le_of_ble_eq_true rfl) d_Window_setKeys_7 (fun H locs hP hD hS => ?_)
  have hP : va_P D vwCl [(wo, .inr (2, [.ref ko, .int (nI wf), .int (nI wa), .int (nI wn), .int (nI pj), .int (-1), .int (zb wd), .int (zb wg), .int wl, .int wh])), (ko, .inr (1, [.ref kc, .ref kd, .int (nI kn)])), (kc, .inl (cI, 2, .inl (zN kf))), (kd, .inl (cZ, 2, .inl (zZ kg)))] H := hP
  have hD : va_D A [(wo, .inr (2, [.ref ko, .int (nI wf), .int (nI wa), .int (nI wn), .int (nI pj), .int (-1), .int (zb wd), .int (zb wg), .int wl, .int wh])), (ko, .inr (1, [.ref kc, .ref kd, .int (nI kn)])), (kc, .inl (cI, 2, .inl (zN kf))), (kd, .inl (cZ, 2, .inl (zZ kg)))] := hD
  refine lv_aload_n hx hb d_Window_setKeys_10 rfl (lv_at hl 0 rfl) ?_
  refine lv_iload_n hx hb d_Window_setKeys_11 rfl (lv_at hl 3 rfl) ?_
  refine va_put (D := D) (v := .int (zb d0)) (ty := .boolean) (C := R_Window) (T := F_Window) (N := 10) hx hb hts (fun w h => List.mem_cons_of_mem _ (hin_Window w h)) t_Window t_Window_ok n_Window hown hK hP hD hS 0 rfl rfl 6 (by decide) (hts _ (List.mem_cons_of_mem _ fl_Window_48)) (fun _ h => h) rfl (by decide +kernel) (zb_nar d0) (zb_fit d0) (Nat.le_of_ble_eq_true rfl) d_Window_setKeys_12 (fun H locs hP hD hS => ?_)
  have hP : va_P D vwCl [(wo, .inr (2, [.ref ko, .int (nI wf), .int (nI wa), .int (nI wn), .int (nI pj), .int (-1), .int (zb d0), .int (zb wg), .int wl, .int wh])), (ko, .inr (1, [.ref kc, .ref kd, .int (nI kn)])), (kc, .inl (cI, 2, .inl (zN kf))), (kd, .inl (cZ, 2, .inl (zZ kg)))] H := hP
  have hD : va_D A [(wo, .inr (2, [.ref ko, .int (nI wf), .int (nI wa), .int (nI wn), .int (nI pj), .int (-1), .int (zb d0), .int (zb wg), .int wl, .int wh])), (ko, .inr (1, [.ref kc, .ref kd, .int (nI kn)])), (kc, .inl (cI, 2, .inl (zN kf))), (kd, .inl (cZ, 2, .inl (zZ kg)))] := hD
  refine lv_aload_n hx hb d_Window_setKeys_15 rfl (lv_at hl 0 rfl) ?_
  refine va_get (C := R_Window) (T := F_Window) (N := 10) hx hb hts (fun w h => List.mem_cons_of_mem _ (hin_Window w h)) hown hK hP 0 rfl rfl 0 (by decide) (hts _ (List.mem_cons_of_mem _ fl_Window_12)) (fun _ h => h) rfl d_Window_setKeys_16 ?_
  have hPc := hP.sub (ws' := [(ko, .inr (1, [.ref kc, .ref kd, .int (nI kn)])), (kc, .inl (cI, 2, .inl (zN kf))), (kd, .inl (cZ, 2, .inl (zZ kg)))]) [1, 2, 3] rfl
  have hDc := hD.sub (ws' := [(ko, .inr (1, [.ref kc, .ref kd, .int (nI kn)])), (kc, .inl (cI, 2, .inl (zN kf))), (kd, .inl (cZ, 2, .inl (zZ kg)))]) [1, 2, 3] (by decide) rfl
  refine zk_wv (wr := [(wo, .inr (2, [.ref ko, .int (nI wf), .int (nI wa), .int (nI wn), .int (nI pj), .int (-1), .int (zb d0), .int (zb wg), .int wl, .int wh]))]) (w2 := (fun _ => [(wo, .inr (2, [.ref ko, .int (nI wf), .int (nI wa), .int (nI wn), .int (nI pj), .int (-1), .int (zb d0), .int (zb wg), .int wl, .int wh])), (ko, .inr (1, [.ref kc, .ref kd, .int (nI 0)])), (kc, .inl (cI, 2, .inl (zN kf))), (kd, .inl (cZ, 2, .inl (zZ kg)))])) hP hD hS hA [1, 2, 3] [0] [0, 1, 2, 3] rfl rfl (by decide) (by decide) (fun _ => rfl) (by decide) (va_runV (As := []) (rest := []) ⟨hx, hb, hml, hown, hts⟩ (c_Keys_removeAll l D cI cL cZ cW cR _ ko kc kd kn kf kg) (cwV 0 hts (zk_gV (fun _ h => List.mem_cons_of_mem _ h) ml_Window_51 im_Keys_removeAll se_Keys_removeAll in_Keys co_Keys_removeAll) rfl rfl rfl ⟨rfl, hd_Keys_removeAll⟩ ⟨Nat.le_of_ble_eq_true rfl, Nat.le_of_ble_eq_true rfl⟩) (zk_vw (q0 := 0) hN hK hPc hDc rfl rfl) rfl rfl hl.1 rfl (lv_room (Nat.le_of_ble_eq_true rfl)) d_Window_setKeys_19 ⟨Nat.zero_le _, Nat.zero_le _⟩) (fun u H locs hpost hP hD hS => ?_)
  have hP : va_P D vwCl [(wo, .inr (2, [.ref ko, .int (nI wf), .int (nI wa), .int (nI wn), .int (nI pj), .int (-1), .int (zb d0), .int (zb wg), .int wl, .int wh])), (ko, .inr (1, [.ref kc, .ref kd, .int (nI 0)])), (kc, .inl (cI, 2, .inl (zN kf))), (kd, .inl (cZ, 2, .inl (zZ kg)))] H := hP
  have hD : va_D A [(wo, .inr (2, [.ref ko, .int (nI wf), .int (nI wa), .int (nI wn), .int (nI pj), .int (-1), .int (zb d0), .int (zb wg), .int wl, .int wh])), (ko, .inr (1, [.ref kc, .ref kd, .int (nI 0)])), (kc, .inl (cI, 2, .inl (zN kf))), (kd, .inl (cZ, 2, .inl (zZ kg)))] := hD
  refine lv_aload_n hx hb d_Window_setKeys_22 rfl (lv_at hl 0 rfl) ?_
  refine va_get (C := R_Window) (T := F_Window) (N := 10) hx hb hts (fun w h => List.mem_cons_of_mem _ (hin_Window w h)) hown hK hP 0 rfl rfl 4 (by decide) (hts _ (List.mem_cons_of_mem _ fl_Window_22)) (fun _ h => h) rfl d_Window_setKeys_23 ?_
  refine lv_iconst (v := (-1)) hx hb d_Window_setKeys_26 (by decide) ?_
  refine lv_icmp_eq (tgt := 42) hx hb d_Window_setKeys_27 rfl (fun hq => absurd hq (zk_nm1 (by omega))) (fun _ => ?_)
  refine lv_aload_n hx hb d_Window_setKeys_30 rfl (lv_at hl 0 rfl) ?_
  refine va_get (C := R_Window) (T := F_Window) (N := 10) hx hb hts (fun w h => List.mem_cons_of_mem _ (hin_Window w h)) hown hK hP 0 rfl rfl 0 (by decide) (hts _ (List.mem_cons_of_mem _ fl_Window_12)) (fun _ h => h) rfl d_Window_setKeys_31 ?_
  refine lv_aload_n hx hb d_Window_setKeys_34 rfl (lv_at hl 0 rfl) ?_
  refine va_get (C := R_Window) (T := F_Window) (N := 10) hx hb hts (fun w h => List.mem_cons_of_mem _ (hin_Window w h)) hown hK hP 0 rfl rfl 4 (by decide) (hts _ (List.mem_cons_of_mem _ fl_Window_22)) (fun _ h => h) rfl d_Window_setKeys_35 ?_
  refine lv_iconst (v := zb false) hx hb d_Window_setKeys_38 (by decide) ?_
  have hPc := hP.sub (ws' := [(ko, .inr (1, [.ref kc, .ref kd, .int (nI 0)])), (kc, .inl (cI, 2, .inl (zN kf))), (kd, .inl (cZ, 2, .inl (zZ kg)))]) [1, 2, 3] rfl
  have hDc := hD.sub (ws' := [(ko, .inr (1, [.ref kc, .ref kd, .int (nI 0)])), (kc, .inl (cI, 2, .inl (zN kf))), (kd, .inl (cZ, 2, .inl (zZ kg)))]) [1, 2, 3] (by decide) rfl
  refine zk_wv (wr := [(wo, .inr (2, [.ref ko, .int (nI wf), .int (nI wa), .int (nI wn), .int (nI pj), .int (-1), .int (zb d0), .int (zb wg), .int wl, .int wh]))]) (w2 := (fun _ => [(wo, .inr (2, [.ref ko, .int (nI wf), .int (nI wa), .int (nI wn), .int (nI pj), .int (-1), .int (zb d0), .int (zb wg), .int wl, .int wh])), (ko, .inr (1, [.ref kc, .ref kd, .int (nI 1)])), (kc, .inl (cI, 2, .inl (zN (va_up kf 0 pj)))), (kd, .inl (cZ, 2, .inl (zZ (va_up kg 0 false))))])) hP hD hS hA [1, 2, 3] [0] [0, 1, 2, 3] rfl rfl (by decide) (by decide) (fun _ => rfl) (by decide) (va_runV (As := [.int (nI pj), .int (zb false)]) (rest := []) ⟨hx, hb, hml, hown, hts⟩ (c_Keys_add l D cI cL cZ cW cR _ ko kc kd 0 kf kg pj false (by omega)) (cwV 2 hts (zk_gV (fun _ h => List.mem_cons_of_mem _ h) ml_Window_54 im_Keys_add se_Keys_add in_Keys co_Keys_add) rfl rfl rfl ⟨rfl, hd_Keys_add⟩ ⟨Nat.le_of_ble_eq_true rfl, Nat.le_of_ble_eq_true rfl⟩) (zk_vw (q0 := 0) hN hK hPc hDc rfl rfl) rfl rfl hl.1 rfl (lv_room (Nat.le_of_ble_eq_true rfl)) d_Window_setKeys_39 ⟨Nat.zero_le _, Nat.zero_le _⟩) (fun u H locs hpost hP hD hS => ?_)
  have hP : va_P D vwCl [(wo, .inr (2, [.ref ko, .int (nI wf), .int (nI wa), .int (nI wn), .int (nI pj), .int (-1), .int (zb d0), .int (zb wg), .int wl, .int wh])), (ko, .inr (1, [.ref kc, .ref kd, .int (nI 1)])), (kc, .inl (cI, 2, .inl (zN (va_up kf 0 pj)))), (kd, .inl (cZ, 2, .inl (zZ (va_up kg 0 false))))] H := hP
  have hD : va_D A [(wo, .inr (2, [.ref ko, .int (nI wf), .int (nI wa), .int (nI wn), .int (nI pj), .int (-1), .int (zb d0), .int (zb wg), .int wl, .int wh])), (ko, .inr (1, [.ref kc, .ref kd, .int (nI 1)])), (kc, .inl (cI, 2, .inl (zN (va_up kf 0 pj)))), (kd, .inl (cZ, 2, .inl (zZ (va_up kg 0 false))))] := hD
  refine lv_aload_n hx hb d_Window_setKeys_42 rfl (lv_at hl 0 rfl) ?_
  refine va_get (C := R_Window) (T := F_Window) (N := 10) hx hb hts (fun w h => List.mem_cons_of_mem _ (hin_Window w h)) hown hK hP 0 rfl rfl 5 (by decide) (hts _ (List.mem_cons_of_mem _ fl_Window_25)) (fun _ h => h) rfl d_Window_setKeys_43 ?_
  refine lv_iconst (v := (-1)) hx hb d_Window_setKeys_46 (by decide) ?_
  refine lv_icmp_eq (tgt := 65) hx hb d_Window_setKeys_47 rfl (fun _ => ?_) (fun hq => absurd hq (fun q => q rfl))
  exact zk_vretW hx hb hr hlk hAe hQ hK (()) (trivial) hP hD hS d_Window_setKeys_65
set_option maxHeartbeats 4000000 in
set_option maxRecDepth 100000 in
theorem c_Window_setKeys_no (l : Launch) (D : va_G) (cI cL cZ cW cR : ClassId) (sz : Nat) (wo wf wa wn : Nat) (wp wr : Int32) (wd wg : Bool) (wl wh : Int32) (ko kc kd kn : Nat) (kf : Nat → Nat) (kg : Nat → Bool) (oj : Nat) (hoj : oj < 1000) (d0 : Bool) : Met l y_Window_setKeys ws_Window_setKeys rm1_30 (zPw D vwCl (zT cI cL cZ cW cR) [(wo, .inr (2, [.ref ko, .int (nI wf), .int (nI wa), .int (nI wn), .int wp, .int wr, .int (zb wd), .int (zb wg), .int wl, .int wh])), (ko, .inr (1, [.ref kc, .ref kd, .int (nI kn)])), (kc, .inl (cI, 2, .inl (zN kf))), (kd, .inl (cZ, 2, .inl (zZ kg)))] sz [.ref wo, .int (-1), .int (nI oj), .int (zb d0)]) (zQv D vwCl (zT cI cL cZ cW cR) [(wo, .inr (2, [.ref ko, .int (nI wf), .int (nI wa), .int (nI wn), .int wp, .int wr, .int (zb wd), .int (zb wg), .int wl, .int wh])), (ko, .inr (1, [.ref kc, .ref kd, .int (nI kn)])), (kc, .inl (cI, 2, .inl (zN kf))), (kd, .inl (cZ, 2, .inl (zZ kg)))] sz (fun _ : Unit => True) (fun _ => [(wo, .inr (2, [.ref ko, .int (nI wf), .int (nI wa), .int (nI wn), .int (-1), .int (nI oj), .int (zb d0), .int (zb wg), .int wl, .int wh])), (ko, .inr (1, [.ref kc, .ref kd, .int (nI 1)])), (kc, .inl (cI, 2, .inl (zN (va_up kf 0 oj)))), (kd, .inl (cZ, 2, .inl (zZ (va_up kg 0 d0))))])) 0 0 (va_A [(wo, .inr (2, [.ref ko, .int (nI wf), .int (nI wa), .int (nI wn), .int wp, .int wr, .int (zb wd), .int (zb wg), .int wl, .int wh])), (ko, .inr (1, [.ref kc, .ref kd, .int (nI kn)])), (kc, .inl (cI, 2, .inl (zN kf))), (kd, .inl (cZ, 2, .inl (zZ kg)))] sz) := by
  refine zk_enterW (cc := b_Window_setKeys) (maxL := 4) (ret := none) (by decide) rfl (Nat.le_of_ble_eq_true rfl) ?_
  intro p e s m args below meth c ls Q hx hb hml hr hlk hown hts hP hK hN hl hin hsz A hAe hA hD hS hQ
  subst hsz
  have hl : lv_has ls 4 [(0, .ref wo), (1, .int (-1)), (2, .int (nI oj)), (3, .int (zb d0))] := hl
  refine lv_aload_n hx hb d_Window_setKeys_0 rfl (lv_at hl 0 rfl) ?_
  refine lv_iload_n hx hb d_Window_setKeys_1 rfl (lv_at hl 1 rfl) ?_
  refine va_put (D := D) (v := .int (-1)) (ty := .int) (C := R_Window) (T := F_Window) (N := 10) hx hb hts (fun w h => List.mem_cons_of_mem _ (hin_Window w h)) t_Window t_Window_ok n_Window hown hK hP hD hS 0 rfl rfl 4 (by decide) (hts _ (List.mem_cons_of_mem _ fl_Window_22)) (fun _ h => h) rfl (by decide +kernel) rfl rfl (Nat.le_of_ble_eq_true rfl) d_Window_setKeys_2 (fun H locs hP hD hS => ?_)
  have hP : va_P D vwCl [(wo, .inr (2, [.ref ko, .int (nI wf), .int (nI wa), .int (nI wn), .int (-1), .int wr, .int (zb wd), .int (zb wg), .int wl, .int wh])), (ko, .inr (1, [.ref kc, .ref kd, .int (nI kn)])), (kc, .inl (cI, 2, .inl (zN kf))), (kd, .inl (cZ, 2, .inl (zZ kg)))] H := hP
  have hD : va_D A [(wo, .inr (2, [.ref ko, .int (nI wf), .int (nI wa), .int (nI wn), .int (-1), .int wr, .int (zb wd), .int (zb wg), .int wl, .int wh])), (ko, .inr (1, [.ref kc, .ref kd, .int (nI kn)])), (kc, .inl (cI, 2, .inl (zN kf))), (kd, .inl (cZ, 2, .inl (zZ kg)))] := hD
  refine lv_aload_n hx hb d_Window_setKeys_5 rfl (lv_at hl 0 rfl) ?_
  refine lv_iload_n hx hb d_Window_setKeys_6 rfl (lv_at hl 2 rfl) ?_
  refine va_put (D := D) (v := .int (nI oj)) (ty := .int) (C := R_Window) (T := F_Window) (N := 10) hx hb hts (fun w h => List.mem_cons_of_mem _ (hin_Window w h)) t_Window t_Window_ok n_Window hown hK hP hD hS 0 rfl rfl 5 (by decide) (hts _ (List.mem_cons_of_mem _ fl_Window_25)) (fun _ h => h) rfl (by decide +kernel) rfl rfl (Nat.le_of_ble_eq_true rfl) d_Window_setKeys_7 (fun H locs hP hD hS => ?_)
  have hP : va_P D vwCl [(wo, .inr (2, [.ref ko, .int (nI wf), .int (nI wa), .int (nI wn), .int (-1), .int (nI oj), .int (zb wd), .int (zb wg), .int wl, .int wh])), (ko, .inr (1, [.ref kc, .ref kd, .int (nI kn)])), (kc, .inl (cI, 2, .inl (zN kf))), (kd, .inl (cZ, 2, .inl (zZ kg)))] H := hP
  have hD : va_D A [(wo, .inr (2, [.ref ko, .int (nI wf), .int (nI wa), .int (nI wn), .int (-1), .int (nI oj), .int (zb wd), .int (zb wg), .int wl, .int wh])), (ko, .inr (1, [.ref kc, .ref kd, .int (nI kn)])), (kc, .inl (cI, 2, .inl (zN kf))), (kd, .inl (cZ, 2, .inl (zZ kg)))] := hD
  refine lv_aload_n hx hb d_Window_setKeys_10 rfl (lv_at hl 0 rfl) ?_
  refine lv_iload_n hx hb d_Window_setKeys_11 rfl (lv_at hl 3 rfl) ?_
  refine va_put (D := D) (v := .int (zb d0)) (ty := .boolean) (C := R_Window) (T := F_Window) (N := 10) hx hb hts (fun w h => List.mem_cons_of_mem _ (hin_Window w h)) t_Window t_Window_ok n_Window hown hK hP hD hS 0 rfl rfl 6 (by decide) (hts _ (List.mem_cons_of_mem _ fl_Window_48)) (fun _ h => h) rfl (by decide +kernel) (zb_nar d0) (zb_fit d0) (Nat.le_of_ble_eq_true rfl) d_Window_setKeys_12 (fun H locs hP hD hS => ?_)
  have hP : va_P D vwCl [(wo, .inr (2, [.ref ko, .int (nI wf), .int (nI wa), .int (nI wn), .int (-1), .int (nI oj), .int (zb d0), .int (zb wg), .int wl, .int wh])), (ko, .inr (1, [.ref kc, .ref kd, .int (nI kn)])), (kc, .inl (cI, 2, .inl (zN kf))), (kd, .inl (cZ, 2, .inl (zZ kg)))] H := hP
  have hD : va_D A [(wo, .inr (2, [.ref ko, .int (nI wf), .int (nI wa), .int (nI wn), .int (-1), .int (nI oj), .int (zb d0), .int (zb wg), .int wl, .int wh])), (ko, .inr (1, [.ref kc, .ref kd, .int (nI kn)])), (kc, .inl (cI, 2, .inl (zN kf))), (kd, .inl (cZ, 2, .inl (zZ kg)))] := hD
  refine lv_aload_n hx hb d_Window_setKeys_15 rfl (lv_at hl 0 rfl) ?_
  refine va_get (C := R_Window) (T := F_Window) (N := 10) hx hb hts (fun w h => List.mem_cons_of_mem _ (hin_Window w h)) hown hK hP 0 rfl rfl 0 (by decide) (hts _ (List.mem_cons_of_mem _ fl_Window_12)) (fun _ h => h) rfl d_Window_setKeys_16 ?_
  have hPc := hP.sub (ws' := [(ko, .inr (1, [.ref kc, .ref kd, .int (nI kn)])), (kc, .inl (cI, 2, .inl (zN kf))), (kd, .inl (cZ, 2, .inl (zZ kg)))]) [1, 2, 3] rfl
  have hDc := hD.sub (ws' := [(ko, .inr (1, [.ref kc, .ref kd, .int (nI kn)])), (kc, .inl (cI, 2, .inl (zN kf))), (kd, .inl (cZ, 2, .inl (zZ kg)))]) [1, 2, 3] (by decide) rfl
  refine zk_wv (wr := [(wo, .inr (2, [.ref ko, .int (nI wf), .int (nI wa), .int (nI wn), .int (-1), .int (nI oj), .int (zb d0), .int (zb wg), .int wl, .int wh]))]) (w2 := (fun _ => [(wo, .inr (2, [.ref ko, .int (nI wf), .int (nI wa), .int (nI wn), .int (-1), .int (nI oj), .int (zb d0), .int (zb wg), .int wl, .int wh])), (ko, .inr (1, [.ref kc, .ref kd, .int (nI 0)])), (kc, .inl (cI, 2, .inl (zN kf))), (kd, .inl (cZ, 2, .inl (zZ kg)))])) hP hD hS hA [1, 2, 3] [0] [0, 1, 2, 3] rfl rfl (by decide) (by decide) (fun _ => rfl) (by decide) (va_runV (As := []) (rest := []) ⟨hx, hb, hml, hown, hts⟩ (c_Keys_removeAll l D cI cL cZ cW cR _ ko kc kd kn kf kg) (cwV 0 hts (zk_gV (fun _ h => List.mem_cons_of_mem _ h) ml_Window_51 im_Keys_removeAll se_Keys_removeAll in_Keys co_Keys_removeAll) rfl rfl rfl ⟨rfl, hd_Keys_removeAll⟩ ⟨Nat.le_of_ble_eq_true rfl, Nat.le_of_ble_eq_true rfl⟩) (zk_vw (q0 := 0) hN hK hPc hDc rfl rfl) rfl rfl hl.1 rfl (lv_room (Nat.le_of_ble_eq_true rfl)) d_Window_setKeys_19 ⟨Nat.zero_le _, Nat.zero_le _⟩) (fun u H locs hpost hP hD hS => ?_)
  have hP : va_P D vwCl [(wo, .inr (2, [.ref ko, .int (nI wf), .int (nI wa), .int (nI wn), .int (-1), .int (nI oj), .int (zb d0), .int (zb wg), .int wl, .int wh])), (ko, .inr (1, [.ref kc, .ref kd, .int (nI 0)])), (kc, .inl (cI, 2, .inl (zN kf))), (kd, .inl (cZ, 2, .inl (zZ kg)))] H := hP
  have hD : va_D A [(wo, .inr (2, [.ref ko, .int (nI wf), .int (nI wa), .int (nI wn), .int (-1), .int (nI oj), .int (zb d0), .int (zb wg), .int wl, .int wh])), (ko, .inr (1, [.ref kc, .ref kd, .int (nI 0)])), (kc, .inl (cI, 2, .inl (zN kf))), (kd, .inl (cZ, 2, .inl (zZ kg)))] := hD
  refine lv_aload_n hx hb d_Window_setKeys_22 rfl (lv_at hl 0 rfl) ?_
  refine va_get (C := R_Window) (T := F_Window) (N := 10) hx hb hts (fun w h => List.mem_cons_of_mem _ (hin_Window w h)) hown hK hP 0 rfl rfl 4 (by decide) (hts _ (List.mem_cons_of_mem _ fl_Window_22)) (fun _ h => h) rfl d_Window_setKeys_23 ?_
  refine lv_iconst (v := (-1)) hx hb d_Window_setKeys_26 (by decide) ?_
  refine lv_icmp_eq (tgt := 42) hx hb d_Window_setKeys_27 rfl (fun _ => ?_) (fun hq => absurd hq (fun q => q rfl))
  refine lv_aload_n hx hb d_Window_setKeys_42 rfl (lv_at hl 0 rfl) ?_
  refine va_get (C := R_Window) (T := F_Window) (N := 10) hx hb hts (fun w h => List.mem_cons_of_mem _ (hin_Window w h)) hown hK hP 0 rfl rfl 5 (by decide) (hts _ (List.mem_cons_of_mem _ fl_Window_25)) (fun _ h => h) rfl d_Window_setKeys_43 ?_
  refine lv_iconst (v := (-1)) hx hb d_Window_setKeys_46 (by decide) ?_
  refine lv_icmp_eq (tgt := 65) hx hb d_Window_setKeys_47 rfl (fun hq => absurd hq (zk_nm1 (by omega))) (fun _ => ?_)
  refine lv_aload_n hx hb d_Window_setKeys_50 rfl (lv_at hl 0 rfl) ?_
  refine va_get (C := R_Window) (T := F_Window) (N := 10) hx hb hts (fun w h => List.mem_cons_of_mem _ (hin_Window w h)) hown hK hP 0 rfl rfl 0 (by decide) (hts _ (List.mem_cons_of_mem _ fl_Window_12)) (fun _ h => h) rfl d_Window_setKeys_51 ?_
  refine lv_aload_n hx hb d_Window_setKeys_54 rfl (lv_at hl 0 rfl) ?_
  refine va_get (C := R_Window) (T := F_Window) (N := 10) hx hb hts (fun w h => List.mem_cons_of_mem _ (hin_Window w h)) hown hK hP 0 rfl rfl 5 (by decide) (hts _ (List.mem_cons_of_mem _ fl_Window_25)) (fun _ h => h) rfl d_Window_setKeys_55 ?_
  refine lv_aload_n hx hb d_Window_setKeys_58 rfl (lv_at hl 0 rfl) ?_
  refine va_get (C := R_Window) (T := F_Window) (N := 10) hx hb hts (fun w h => List.mem_cons_of_mem _ (hin_Window w h)) hown hK hP 0 rfl rfl 6 (by decide) (hts _ (List.mem_cons_of_mem _ fl_Window_48)) (fun _ h => h) rfl d_Window_setKeys_59 ?_
  have hPc := hP.sub (ws' := [(ko, .inr (1, [.ref kc, .ref kd, .int (nI 0)])), (kc, .inl (cI, 2, .inl (zN kf))), (kd, .inl (cZ, 2, .inl (zZ kg)))]) [1, 2, 3] rfl
  have hDc := hD.sub (ws' := [(ko, .inr (1, [.ref kc, .ref kd, .int (nI 0)])), (kc, .inl (cI, 2, .inl (zN kf))), (kd, .inl (cZ, 2, .inl (zZ kg)))]) [1, 2, 3] (by decide) rfl
  refine zk_wv (wr := [(wo, .inr (2, [.ref ko, .int (nI wf), .int (nI wa), .int (nI wn), .int (-1), .int (nI oj), .int (zb d0), .int (zb wg), .int wl, .int wh]))]) (w2 := (fun _ => [(wo, .inr (2, [.ref ko, .int (nI wf), .int (nI wa), .int (nI wn), .int (-1), .int (nI oj), .int (zb d0), .int (zb wg), .int wl, .int wh])), (ko, .inr (1, [.ref kc, .ref kd, .int (nI 1)])), (kc, .inl (cI, 2, .inl (zN (va_up kf 0 oj)))), (kd, .inl (cZ, 2, .inl (zZ (va_up kg 0 d0))))])) hP hD hS hA [1, 2, 3] [0] [0, 1, 2, 3] rfl rfl (by decide) (by decide) (fun _ => rfl) (by decide) (va_runV (As := [.int (nI oj), .int (zb d0)]) (rest := []) ⟨hx, hb, hml, hown, hts⟩ (c_Keys_add l D cI cL cZ cW cR _ ko kc kd 0 kf kg oj d0 (by omega)) (cwV 2 hts (zk_gV (fun _ h => List.mem_cons_of_mem _ h) ml_Window_54 im_Keys_add se_Keys_add in_Keys co_Keys_add) rfl rfl rfl ⟨rfl, hd_Keys_add⟩ ⟨Nat.le_of_ble_eq_true rfl, Nat.le_of_ble_eq_true rfl⟩) (zk_vw (q0 := 0) hN hK hPc hDc rfl rfl) rfl rfl hl.1 rfl (lv_room (Nat.le_of_ble_eq_true rfl)) d_Window_setKeys_62 ⟨Nat.zero_le _, Nat.zero_le _⟩) (fun u H locs hpost hP hD hS => ?_)
  have hP : va_P D vwCl [(wo, .inr (2, [.ref ko, .int (nI wf), .int (nI wa), .int (nI wn), .int (-1), .int (nI oj), .int (zb d0), .int (zb wg), .int wl, .int wh])), (ko, .inr (1, [.ref kc, .ref kd, .int (nI 1)])), (kc, .inl (cI, 2, .inl (zN (va_up kf 0 oj)))), (kd, .inl (cZ, 2, .inl (zZ (va_up kg 0 d0))))] H := hP
  have hD : va_D A [(wo, .inr (2, [.ref ko, .int (nI wf), .int (nI wa), .int (nI wn), .int (-1), .int (nI oj), .int (zb d0), .int (zb wg), .int wl, .int wh])), (ko, .inr (1, [.ref kc, .ref kd, .int (nI 1)])), (kc, .inl (cI, 2, .inl (zN (va_up kf 0 oj)))), (kd, .inl (cZ, 2, .inl (zZ (va_up kg 0 d0))))] := hD
  exact zk_vretW hx hb hr hlk hAe hQ hK (()) (trivial) hP hD hS d_Window_setKeys_65
set_option maxHeartbeats 4000000 in
set_option maxRecDepth 100000 in
theorem c_Window_setKeys_po (l : Launch) (D : va_G) (cI cL cZ cW cR : ClassId) (sz : Nat) (wo wf wa wn : Nat) (wp wr : Int32) (wd wg : Bool) (wl wh : Int32) (ko kc kd kn : Nat) (kf : Nat → Nat) (kg : Nat → Bool) (pj : Nat) (hpj : pj < 1000) (oj : Nat) (hoj : oj < 1000) (d0 : Bool) : Met l y_Window_setKeys ws_Window_setKeys rm1_30 (zPw D vwCl (zT cI cL cZ cW cR) [(wo, .inr (2, [.ref ko, .int (nI wf), .int (nI wa), .int (nI wn), .int wp, .int wr, .int (zb wd), .int (zb wg), .int wl, .int wh])), (ko, .inr (1, [.ref kc, .ref kd, .int (nI kn)])), (kc, .inl (cI, 2, .inl (zN kf))), (kd, .inl (cZ, 2, .inl (zZ kg)))] sz [.ref wo, .int (nI pj), .int (nI oj), .int (zb d0)]) (zQv D vwCl (zT cI cL cZ cW cR) [(wo, .inr (2, [.ref ko, .int (nI wf), .int (nI wa), .int (nI wn), .int wp, .int wr, .int (zb wd), .int (zb wg), .int wl, .int wh])), (ko, .inr (1, [.ref kc, .ref kd, .int (nI kn)])), (kc, .inl (cI, 2, .inl (zN kf))), (kd, .inl (cZ, 2, .inl (zZ kg)))] sz (fun _ : Unit => True) (fun _ => [(wo, .inr (2, [.ref ko, .int (nI wf), .int (nI wa), .int (nI wn), .int (nI pj), .int (nI oj), .int (zb d0), .int (zb wg), .int wl, .int wh])), (ko, .inr (1, [.ref kc, .ref kd, .int (nI 2)])), (kc, .inl (cI, 2, .inl (zN (va_up (va_up kf 0 pj) 1 oj)))), (kd, .inl (cZ, 2, .inl (zZ (va_up (va_up kg 0 false) 1 d0))))])) 0 0 (va_A [(wo, .inr (2, [.ref ko, .int (nI wf), .int (nI wa), .int (nI wn), .int wp, .int wr, .int (zb wd), .int (zb wg), .int wl, .int wh])), (ko, .inr (1, [.ref kc, .ref kd, .int (nI kn)])), (kc, .inl (cI, 2, .inl (zN kf))), (kd, .inl (cZ, 2, .inl (zZ kg)))] sz) := by
  refine zk_enterW (cc := b_Window_setKeys) (maxL := 4) (ret := none) (by decide) rfl (Nat.le_of_ble_eq_true rfl) ?_
  intro p e s m args below meth c ls Q hx hb hml hr hlk hown hts hP hK hN hl hin hsz A hAe hA hD hS hQ
  subst hsz
  have hl : lv_has ls 4 [(0, .ref wo), (1, .int (nI pj)), (2, .int (nI oj)), (3, .int (zb d0))] := hl
  refine lv_aload_n hx hb d_Window_setKeys_0 rfl (lv_at hl 0 rfl) ?_
  refine lv_iload_n hx hb d_Window_setKeys_1 rfl (lv_at hl 1 rfl) ?_
  refine va_put (D := D) (v := .int (nI pj)) (ty := .int) (C := R_Window) (T := F_Window) (N := 10) hx hb hts (fun w h => List.mem_cons_of_mem _ (hin_Window w h)) t_Window t_Window_ok n_Window hown hK hP hD hS 0 rfl rfl 4 (by decide) (hts _ (List.mem_cons_of_mem _ fl_Window_22)) (fun _ h => h) rfl (by decide +kernel) rfl rfl (Nat.le_of_ble_eq_true rfl) d_Window_setKeys_2 (fun H locs hP hD hS => ?_)
  have hP : va_P D vwCl [(wo, .inr (2, [.ref ko, .int (nI wf), .int (nI wa), .int (nI wn), .int (nI pj), .int wr, .int (zb wd), .int (zb wg), .int wl, .int wh])), (ko, .inr (1, [.ref kc, .ref kd, .int (nI kn)])), (kc, .inl (cI, 2, .inl (zN kf))), (kd, .inl (cZ, 2, .inl (zZ kg)))] H := hP
  have hD : va_D A [(wo, .inr (2, [.ref ko, .int (nI wf), .int (nI wa), .int (nI wn), .int (nI pj), .int wr, .int (zb wd), .int (zb wg), .int wl, .int wh])), (ko, .inr (1, [.ref kc, .ref kd, .int (nI kn)])), (kc, .inl (cI, 2, .inl (zN kf))), (kd, .inl (cZ, 2, .inl (zZ kg)))] := hD
  refine lv_aload_n hx hb d_Window_setKeys_5 rfl (lv_at hl 0 rfl) ?_
  refine lv_iload_n hx hb d_Window_setKeys_6 rfl (lv_at hl 2 rfl) ?_
  refine va_put (D := D) (v := .int (nI oj)) (ty := .int) (C := R_Window) (T := F_Window) (N := 10) hx hb hts (fun w h => List.mem_cons_of_mem _ (hin_Window w h)) t_Window t_Window_ok n_Window hown hK hP hD hS 0 rfl rfl 5 (by decide) (hts _ (List.mem_cons_of_mem _ fl_Window_25)) (fun _ h => h) rfl (by decide +kernel) rfl rfl (Nat.le_of_ble_eq_true rfl) d_Window_setKeys_7 (fun H locs hP hD hS => ?_)
  have hP : va_P D vwCl [(wo, .inr (2, [.ref ko, .int (nI wf), .int (nI wa), .int (nI wn), .int (nI pj), .int (nI oj), .int (zb wd), .int (zb wg), .int wl, .int wh])), (ko, .inr (1, [.ref kc, .ref kd, .int (nI kn)])), (kc, .inl (cI, 2, .inl (zN kf))), (kd, .inl (cZ, 2, .inl (zZ kg)))] H := hP
  have hD : va_D A [(wo, .inr (2, [.ref ko, .int (nI wf), .int (nI wa), .int (nI wn), .int (nI pj), .int (nI oj), .int (zb wd), .int (zb wg), .int wl, .int wh])), (ko, .inr (1, [.ref kc, .ref kd, .int (nI kn)])), (kc, .inl (cI, 2, .inl (zN kf))), (kd, .inl (cZ, 2, .inl (zZ kg)))] := hD
  refine lv_aload_n hx hb d_Window_setKeys_10 rfl (lv_at hl 0 rfl) ?_
  refine lv_iload_n hx hb d_Window_setKeys_11 rfl (lv_at hl 3 rfl) ?_
  refine va_put (D := D) (v := .int (zb d0)) (ty := .boolean) (C := R_Window) (T := F_Window) (N := 10) hx hb hts (fun w h => List.mem_cons_of_mem _ (hin_Window w h)) t_Window t_Window_ok n_Window hown hK hP hD hS 0 rfl rfl 6 (by decide) (hts _ (List.mem_cons_of_mem _ fl_Window_48)) (fun _ h => h) rfl (by decide +kernel) (zb_nar d0) (zb_fit d0) (Nat.le_of_ble_eq_true rfl) d_Window_setKeys_12 (fun H locs hP hD hS => ?_)
  have hP : va_P D vwCl [(wo, .inr (2, [.ref ko, .int (nI wf), .int (nI wa), .int (nI wn), .int (nI pj), .int (nI oj), .int (zb d0), .int (zb wg), .int wl, .int wh])), (ko, .inr (1, [.ref kc, .ref kd, .int (nI kn)])), (kc, .inl (cI, 2, .inl (zN kf))), (kd, .inl (cZ, 2, .inl (zZ kg)))] H := hP
  have hD : va_D A [(wo, .inr (2, [.ref ko, .int (nI wf), .int (nI wa), .int (nI wn), .int (nI pj), .int (nI oj), .int (zb d0), .int (zb wg), .int wl, .int wh])), (ko, .inr (1, [.ref kc, .ref kd, .int (nI kn)])), (kc, .inl (cI, 2, .inl (zN kf))), (kd, .inl (cZ, 2, .inl (zZ kg)))] := hD
  refine lv_aload_n hx hb d_Window_setKeys_15 rfl (lv_at hl 0 rfl) ?_
  refine va_get (C := R_Window) (T := F_Window) (N := 10) hx hb hts (fun w h => List.mem_cons_of_mem _ (hin_Window w h)) hown hK hP 0 rfl rfl 0 (by decide) (hts _ (List.mem_cons_of_mem _ fl_Window_12)) (fun _ h => h) rfl d_Window_setKeys_16 ?_
  have hPc := hP.sub (ws' := [(ko, .inr (1, [.ref kc, .ref kd, .int (nI kn)])), (kc, .inl (cI, 2, .inl (zN kf))), (kd, .inl (cZ, 2, .inl (zZ kg)))]) [1, 2, 3] rfl
  have hDc := hD.sub (ws' := [(ko, .inr (1, [.ref kc, .ref kd, .int (nI kn)])), (kc, .inl (cI, 2, .inl (zN kf))), (kd, .inl (cZ, 2, .inl (zZ kg)))]) [1, 2, 3] (by decide) rfl
  refine zk_wv (wr := [(wo, .inr (2, [.ref ko, .int (nI wf), .int (nI wa), .int (nI wn), .int (nI pj), .int (nI oj), .int (zb d0), .int (zb wg), .int wl, .int wh]))]) (w2 := (fun _ => [(wo, .inr (2, [.ref ko, .int (nI wf), .int (nI wa), .int (nI wn), .int (nI pj), .int (nI oj), .int (zb d0), .int (zb wg), .int wl, .int wh])), (ko, .inr (1, [.ref kc, .ref kd, .int (nI 0)])), (kc, .inl (cI, 2, .inl (zN kf))), (kd, .inl (cZ, 2, .inl (zZ kg)))])) hP hD hS hA [1, 2, 3] [0] [0, 1, 2, 3] rfl rfl (by decide) (by decide) (fun _ => rfl) (by decide) (va_runV (As := []) (rest := []) ⟨hx, hb, hml, hown, hts⟩ (c_Keys_removeAll l D cI cL cZ cW cR _ ko kc kd kn kf kg) (cwV 0 hts (zk_gV (fun _ h => List.mem_cons_of_mem _ h) ml_Window_51 im_Keys_removeAll se_Keys_removeAll in_Keys co_Keys_removeAll) rfl rfl rfl ⟨rfl, hd_Keys_removeAll⟩ ⟨Nat.le_of_ble_eq_true rfl, Nat.le_of_ble_eq_true rfl⟩) (zk_vw (q0 := 0) hN hK hPc hDc rfl rfl) rfl rfl hl.1 rfl (lv_room (Nat.le_of_ble_eq_true rfl)) d_Window_setKeys_19 ⟨Nat.zero_le _, Nat.zero_le _⟩) (fun u H locs hpost hP hD hS => ?_)
  have hP : va_P D vwCl [(wo, .inr (2, [.ref ko, .int (nI wf), .int (nI wa), .int (nI wn), .int (nI pj), .int (nI oj), .int (zb d0), .int (zb wg), .int wl, .int wh])), (ko, .inr (1, [.ref kc, .ref kd, .int (nI 0)])), (kc, .inl (cI, 2, .inl (zN kf))), (kd, .inl (cZ, 2, .inl (zZ kg)))] H := hP
  have hD : va_D A [(wo, .inr (2, [.ref ko, .int (nI wf), .int (nI wa), .int (nI wn), .int (nI pj), .int (nI oj), .int (zb d0), .int (zb wg), .int wl, .int wh])), (ko, .inr (1, [.ref kc, .ref kd, .int (nI 0)])), (kc, .inl (cI, 2, .inl (zN kf))), (kd, .inl (cZ, 2, .inl (zZ kg)))] := hD
  refine lv_aload_n hx hb d_Window_setKeys_22 rfl (lv_at hl 0 rfl) ?_
  refine va_get (C := R_Window) (T := F_Window) (N := 10) hx hb hts (fun w h => List.mem_cons_of_mem _ (hin_Window w h)) hown hK hP 0 rfl rfl 4 (by decide) (hts _ (List.mem_cons_of_mem _ fl_Window_22)) (fun _ h => h) rfl d_Window_setKeys_23 ?_
  refine lv_iconst (v := (-1)) hx hb d_Window_setKeys_26 (by decide) ?_
  refine lv_icmp_eq (tgt := 42) hx hb d_Window_setKeys_27 rfl (fun hq => absurd hq (zk_nm1 (by omega))) (fun _ => ?_)
  refine lv_aload_n hx hb d_Window_setKeys_30 rfl (lv_at hl 0 rfl) ?_
  refine va_get (C := R_Window) (T := F_Window) (N := 10) hx hb hts (fun w h => List.mem_cons_of_mem _ (hin_Window w h)) hown hK hP 0 rfl rfl 0 (by decide) (hts _ (List.mem_cons_of_mem _ fl_Window_12)) (fun _ h => h) rfl d_Window_setKeys_31 ?_
  refine lv_aload_n hx hb d_Window_setKeys_34 rfl (lv_at hl 0 rfl) ?_
  refine va_get (C := R_Window) (T := F_Window) (N := 10) hx hb hts (fun w h => List.mem_cons_of_mem _ (hin_Window w h)) hown hK hP 0 rfl rfl 4 (by decide) (hts _ (List.mem_cons_of_mem _ fl_Window_22)) (fun _ h => h) rfl d_Window_setKeys_35 ?_
  refine lv_iconst (v := zb false) hx hb d_Window_setKeys_38 (by decide) ?_
  have hPc := hP.sub (ws' := [(ko, .inr (1, [.ref kc, .ref kd, .int (nI 0)])), (kc, .inl (cI, 2, .inl (zN kf))), (kd, .inl (cZ, 2, .inl (zZ kg)))]) [1, 2, 3] rfl
  have hDc := hD.sub (ws' := [(ko, .inr (1, [.ref kc, .ref kd, .int (nI 0)])), (kc, .inl (cI, 2, .inl (zN kf))), (kd, .inl (cZ, 2, .inl (zZ kg)))]) [1, 2, 3] (by decide) rfl
  refine zk_wv (wr := [(wo, .inr (2, [.ref ko, .int (nI wf), .int (nI wa), .int (nI wn), .int (nI pj), .int (nI oj), .int (zb d0), .int (zb wg), .int wl, .int wh]))]) (w2 := (fun _ => [(wo, .inr (2, [.ref ko, .int (nI wf), .int (nI wa), .int (nI wn), .int (nI pj), .int (nI oj), .int (zb d0), .int (zb wg), .int wl, .int wh])), (ko, .inr (1, [.ref kc, .ref kd, .int (nI 1)])), (kc, .inl (cI, 2, .inl (zN (va_up kf 0 pj)))), (kd, .inl (cZ, 2, .inl (zZ (va_up kg 0 false))))])) hP hD hS hA [1, 2, 3] [0] [0, 1, 2, 3] rfl rfl (by decide) (by decide) (fun _ => rfl) (by decide) (va_runV (As := [.int (nI pj), .int (zb false)]) (rest := []) ⟨hx, hb, hml, hown, hts⟩ (c_Keys_add l D cI cL cZ cW cR _ ko kc kd 0 kf kg pj false (by omega)) (cwV 2 hts (zk_gV (fun _ h => List.mem_cons_of_mem _ h) ml_Window_54 im_Keys_add se_Keys_add in_Keys co_Keys_add) rfl rfl rfl ⟨rfl, hd_Keys_add⟩ ⟨Nat.le_of_ble_eq_true rfl, Nat.le_of_ble_eq_true rfl⟩) (zk_vw (q0 := 0) hN hK hPc hDc rfl rfl) rfl rfl hl.1 rfl (lv_room (Nat.le_of_ble_eq_true rfl)) d_Window_setKeys_39 ⟨Nat.zero_le _, Nat.zero_le _⟩) (fun u H locs hpost hP hD hS => ?_)
  have hP : va_P D vwCl [(wo, .inr (2, [.ref ko, .int (nI wf), .int (nI wa), .int (nI wn), .int (nI pj), .int (nI oj), .int (zb d0), .int (zb wg), .int wl, .int wh])), (ko, .inr (1, [.ref kc, .ref kd, .int (nI 1)])), (kc, .inl (cI, 2, .inl (zN (va_up kf 0 pj)))), (kd, .inl (cZ, 2, .inl (zZ (va_up kg 0 false))))] H := hP
  have hD : va_D A [(wo, .inr (2, [.ref ko, .int (nI wf), .int (nI wa), .int (nI wn), .int (nI pj), .int (nI oj), .int (zb d0), .int (zb wg), .int wl, .int wh])), (ko, .inr (1, [.ref kc, .ref kd, .int (nI 1)])), (kc, .inl (cI, 2, .inl (zN (va_up kf 0 pj)))), (kd, .inl (cZ, 2, .inl (zZ (va_up kg 0 false))))] := hD
  refine lv_aload_n hx hb d_Window_setKeys_42 rfl (lv_at hl 0 rfl) ?_
  refine va_get (C := R_Window) (T := F_Window) (N := 10) hx hb hts (fun w h => List.mem_cons_of_mem _ (hin_Window w h)) hown hK hP 0 rfl rfl 5 (by decide) (hts _ (List.mem_cons_of_mem _ fl_Window_25)) (fun _ h => h) rfl d_Window_setKeys_43 ?_
  refine lv_iconst (v := (-1)) hx hb d_Window_setKeys_46 (by decide) ?_
  refine lv_icmp_eq (tgt := 65) hx hb d_Window_setKeys_47 rfl (fun hq => absurd hq (zk_nm1 (by omega))) (fun _ => ?_)
  refine lv_aload_n hx hb d_Window_setKeys_50 rfl (lv_at hl 0 rfl) ?_
  refine va_get (C := R_Window) (T := F_Window) (N := 10) hx hb hts (fun w h => List.mem_cons_of_mem _ (hin_Window w h)) hown hK hP 0 rfl rfl 0 (by decide) (hts _ (List.mem_cons_of_mem _ fl_Window_12)) (fun _ h => h) rfl d_Window_setKeys_51 ?_
  refine lv_aload_n hx hb d_Window_setKeys_54 rfl (lv_at hl 0 rfl) ?_
  refine va_get (C := R_Window) (T := F_Window) (N := 10) hx hb hts (fun w h => List.mem_cons_of_mem _ (hin_Window w h)) hown hK hP 0 rfl rfl 5 (by decide) (hts _ (List.mem_cons_of_mem _ fl_Window_25)) (fun _ h => h) rfl d_Window_setKeys_55 ?_
  refine lv_aload_n hx hb d_Window_setKeys_58 rfl (lv_at hl 0 rfl) ?_
  refine va_get (C := R_Window) (T := F_Window) (N := 10) hx hb hts (fun w h => List.mem_cons_of_mem _ (hin_Window w h)) hown hK hP 0 rfl rfl 6 (by decide) (hts _ (List.mem_cons_of_mem _ fl_Window_48)) (fun _ h => h) rfl d_Window_setKeys_59 ?_
  have hPc := hP.sub (ws' := [(ko, .inr (1, [.ref kc, .ref kd, .int (nI 1)])), (kc, .inl (cI, 2, .inl (zN (va_up kf 0 pj)))), (kd, .inl (cZ, 2, .inl (zZ (va_up kg 0 false))))]) [1, 2, 3] rfl
  have hDc := hD.sub (ws' := [(ko, .inr (1, [.ref kc, .ref kd, .int (nI 1)])), (kc, .inl (cI, 2, .inl (zN (va_up kf 0 pj)))), (kd, .inl (cZ, 2, .inl (zZ (va_up kg 0 false))))]) [1, 2, 3] (by decide) rfl
  refine zk_wv (wr := [(wo, .inr (2, [.ref ko, .int (nI wf), .int (nI wa), .int (nI wn), .int (nI pj), .int (nI oj), .int (zb d0), .int (zb wg), .int wl, .int wh]))]) (w2 := (fun _ => [(wo, .inr (2, [.ref ko, .int (nI wf), .int (nI wa), .int (nI wn), .int (nI pj), .int (nI oj), .int (zb d0), .int (zb wg), .int wl, .int wh])), (ko, .inr (1, [.ref kc, .ref kd, .int (nI 2)])), (kc, .inl (cI, 2, .inl (zN (va_up (va_up kf 0 pj) 1 oj)))), (kd, .inl (cZ, 2, .inl (zZ (va_up (va_up kg 0 false) 1 d0))))])) hP hD hS hA [1, 2, 3] [0] [0, 1, 2, 3] rfl rfl (by decide) (by decide) (fun _ => rfl) (by decide) (va_runV (As := [.int (nI oj), .int (zb d0)]) (rest := []) ⟨hx, hb, hml, hown, hts⟩ (c_Keys_add l D cI cL cZ cW cR _ ko kc kd 1 (va_up kf 0 pj) (va_up kg 0 false) oj d0 (by omega)) (cwV 2 hts (zk_gV (fun _ h => List.mem_cons_of_mem _ h) ml_Window_54 im_Keys_add se_Keys_add in_Keys co_Keys_add) rfl rfl rfl ⟨rfl, hd_Keys_add⟩ ⟨Nat.le_of_ble_eq_true rfl, Nat.le_of_ble_eq_true rfl⟩) (zk_vw (q0 := 0) hN hK hPc hDc rfl rfl) rfl rfl hl.1 rfl (lv_room (Nat.le_of_ble_eq_true rfl)) d_Window_setKeys_62 ⟨Nat.zero_le _, Nat.zero_le _⟩) (fun u H locs hpost hP hD hS => ?_)
  have hP : va_P D vwCl [(wo, .inr (2, [.ref ko, .int (nI wf), .int (nI wa), .int (nI wn), .int (nI pj), .int (nI oj), .int (zb d0), .int (zb wg), .int wl, .int wh])), (ko, .inr (1, [.ref kc, .ref kd, .int (nI 2)])), (kc, .inl (cI, 2, .inl (zN (va_up (va_up kf 0 pj) 1 oj)))), (kd, .inl (cZ, 2, .inl (zZ (va_up (va_up kg 0 false) 1 d0))))] H := hP
  have hD : va_D A [(wo, .inr (2, [.ref ko, .int (nI wf), .int (nI wa), .int (nI wn), .int (nI pj), .int (nI oj), .int (zb d0), .int (zb wg), .int wl, .int wh])), (ko, .inr (1, [.ref kc, .ref kd, .int (nI 2)])), (kc, .inl (cI, 2, .inl (zN (va_up (va_up kf 0 pj) 1 oj)))), (kd, .inl (cZ, 2, .inl (zZ (va_up (va_up kg 0 false) 1 d0))))] := hD
  exact zk_vretW hx hb hr hlk hAe hQ hK (()) (trivial) hP hD hS d_Window_setKeys_65
theorem c_Window_setKeys (l : Launch) (D : va_G) (cI cL cZ cW cR : ClassId) (sz : Nat) (wo wf wa wn : Nat) (wp wr : Int32) (wd wg : Bool) (wl wh : Int32) (ko kc kd kn : Nat) (kf : Nat → Nat) (kg : Nat → Bool) (po oo : Option Nat) (d0 : Bool) (hpo : ∀ j, po = some j → j < 1000) (hoo : ∀ j, oo = some j → j < 1000) : Met l y_Window_setKeys ws_Window_setKeys rm1_30 (zPw D vwCl (zT cI cL cZ cW cR) [(wo, .inr (2, [.ref ko, .int (nI wf), .int (nI wa), .int (nI wn), .int wp, .int wr, .int (zb wd), .int (zb wg), .int wl, .int wh])), (ko, .inr (1, [.ref kc, .ref kd, .int (nI kn)])), (kc, .inl (cI, 2, .inl (zN kf))), (kd, .inl (cZ, 2, .inl (zZ kg)))] sz [.ref wo, .int (oI po), .int (oI oo), .int (zb d0)]) (zQv D vwCl (zT cI cL cZ cW cR) [(wo, .inr (2, [.ref ko, .int (nI wf), .int (nI wa), .int (nI wn), .int wp, .int wr, .int (zb wd), .int (zb wg), .int wl, .int wh])), (ko, .inr (1, [.ref kc, .ref kd, .int (nI kn)])), (kc, .inl (cI, 2, .inl (zN kf))), (kd, .inl (cZ, 2, .inl (zZ kg)))] sz (fun _ : Unit => True) (fun _ => [(wo, .inr (2, [.ref ko, .int (nI wf), .int (nI wa), .int (nI wn), .int (oI po), .int (oI oo), .int (zb d0), .int (zb wg), .int wl, .int wh])), (ko, .inr (1, [.ref kc, .ref kd, .int (nI (kN po oo))])), (kc, .inl (cI, 2, .inl (zN (kF kf po oo)))), (kd, .inl (cZ, 2, .inl (zZ (kG kg d0 po oo))))])) 0 0 (va_A [(wo, .inr (2, [.ref ko, .int (nI wf), .int (nI wa), .int (nI wn), .int wp, .int wr, .int (zb wd), .int (zb wg), .int wl, .int wh])), (ko, .inr (1, [.ref kc, .ref kd, .int (nI kn)])), (kc, .inl (cI, 2, .inl (zN kf))), (kd, .inl (cZ, 2, .inl (zZ kg)))] sz) :=
  match po, oo, hpo, hoo with
  | none, none, _, _ => c_Window_setKeys_nn l D cI cL cZ cW cR sz wo wf wa wn wp wr wd wg wl wh ko kc kd kn kf kg d0
  | some pj, none, h1, _ => c_Window_setKeys_pn l D cI cL cZ cW cR sz wo wf wa wn wp wr wd wg wl wh ko kc kd kn kf kg pj (h1 pj rfl) d0
  | none, some oj, _, h2 => c_Window_setKeys_no l D cI cL cZ cW cR sz wo wf wa wn wp wr wd wg wl wh ko kc kd kn kf kg oj (h2 oj rfl) d0
  | some pj, some oj, h1, h2 => c_Window_setKeys_po l D cI cL cZ cW cR sz wo wf wa wn wp wr wd wg wl wh ko kc kd kn kf kg pj (h1 pj rfl) oj (h2 oj rfl) d0
set_option maxHeartbeats 4000000 in
set_option maxRecDepth 100000 in
theorem c_Window_begin (l : Launch) (D : va_G) (cI cL cZ cW cR : ClassId) (sz : Nat) (wo wf wa wn : Nat) (wp wr : Int32) (wd wg : Bool) (wl wh : Int32) (ko kc kd kn : Nat) (kf : Nat → Nat) (kg : Nat → Bool) (f0 a0 n0 : Nat) : Met l y_Window_begin ws_Window_begin rm2_60 (zPw D vwCl (zT cI cL cZ cW cR) [(wo, .inr (2, [.ref ko, .int (nI wf), .int (nI wa), .int (nI wn), .int wp, .int wr, .int (zb wd), .int (zb wg), .int wl, .int wh])), (ko, .inr (1, [.ref kc, .ref kd, .int (nI kn)])), (kc, .inl (cI, 2, .inl (zN kf))), (kd, .inl (cZ, 2, .inl (zZ kg)))] sz [.ref wo, .int (nI f0), .int (nI a0), .int (nI n0)]) (zQv D vwCl (zT cI cL cZ cW cR) [(wo, .inr (2, [.ref ko, .int (nI wf), .int (nI wa), .int (nI wn), .int wp, .int wr, .int (zb wd), .int (zb wg), .int wl, .int wh])), (ko, .inr (1, [.ref kc, .ref kd, .int (nI kn)])), (kc, .inl (cI, 2, .inl (zN kf))), (kd, .inl (cZ, 2, .inl (zZ kg)))] sz (fun _ : Unit => True) (fun _ => [(wo, .inr (2, [.ref ko, .int (nI f0), .int (nI a0), .int (nI n0), .int (-1), .int (-1), .int (zb false), .int (zb false), .int (-10), .int (nI 10)])), (ko, .inr (1, [.ref kc, .ref kd, .int (nI 0)])), (kc, .inl (cI, 2, .inl (zN kf))), (kd, .inl (cZ, 2, .inl (zZ kg)))])) 0 0 (va_A [(wo, .inr (2, [.ref ko, .int (nI wf), .int (nI wa), .int (nI wn), .int wp, .int wr, .int (zb wd), .int (zb wg), .int wl, .int wh])), (ko, .inr (1, [.ref kc, .ref kd, .int (nI kn)])), (kc, .inl (cI, 2, .inl (zN kf))), (kd, .inl (cZ, 2, .inl (zZ kg)))] sz) := by
  refine zk_enterW (cc := b_Window_begin) (maxL := 4) (ret := none) (by decide) rfl (Nat.le_of_ble_eq_true rfl) ?_
  intro p e s m args below meth c ls Q hx hb hml hr hlk hown hts hP hK hN hl hin hsz A hAe hA hD hS hQ
  subst hsz
  have hl : lv_has ls 4 [(0, .ref wo), (1, .int (nI f0)), (2, .int (nI a0)), (3, .int (nI n0))] := hl
  refine lv_aload_n hx hb d_Window_begin_0 rfl (lv_at hl 0 rfl) ?_
  refine lv_iload_n hx hb d_Window_begin_1 rfl (lv_at hl 1 rfl) ?_
  refine va_put (D := D) (v := .int (nI f0)) (ty := .int) (C := R_Window) (T := F_Window) (N := 10) hx hb hts (fun w h => List.mem_cons_of_mem _ (hin_Window w h)) t_Window t_Window_ok n_Window hown hK hP hD hS 0 rfl rfl 1 (by decide) (hts _ (List.mem_cons_of_mem _ fl_Window_34)) (fun _ h => h) rfl (by decide +kernel) rfl rfl (Nat.le_of_ble_eq_true rfl) d_Window_begin_2 (fun H locs hP hD hS => ?_)
  have hP : va_P D vwCl [(wo, .inr (2, [.ref ko, .int (nI f0), .int (nI wa), .int (nI wn), .int wp, .int wr, .int (zb wd), .int (zb wg), .int wl, .int wh])), (ko, .inr (1, [.ref kc, .ref kd, .int (nI kn)])), (kc, .inl (cI, 2, .inl (zN kf))), (kd, .inl (cZ, 2, .inl (zZ kg)))] H := hP
  have hD : va_D A [(wo, .inr (2, [.ref ko, .int (nI f0), .int (nI wa), .int (nI wn), .int wp, .int wr, .int (zb wd), .int (zb wg), .int wl, .int wh])), (ko, .inr (1, [.ref kc, .ref kd, .int (nI kn)])), (kc, .inl (cI, 2, .inl (zN kf))), (kd, .inl (cZ, 2, .inl (zZ kg)))] := hD
  refine lv_aload_n hx hb d_Window_begin_5 rfl (lv_at hl 0 rfl) ?_
  refine lv_iload_n hx hb d_Window_begin_6 rfl (lv_at hl 2 rfl) ?_
  refine va_put (D := D) (v := .int (nI a0)) (ty := .int) (C := R_Window) (T := F_Window) (N := 10) hx hb hts (fun w h => List.mem_cons_of_mem _ (hin_Window w h)) t_Window t_Window_ok n_Window hown hK hP hD hS 0 rfl rfl 2 (by decide) (hts _ (List.mem_cons_of_mem _ fl_Window_37)) (fun _ h => h) rfl (by decide +kernel) rfl rfl (Nat.le_of_ble_eq_true rfl) d_Window_begin_7 (fun H locs hP hD hS => ?_)
  have hP : va_P D vwCl [(wo, .inr (2, [.ref ko, .int (nI f0), .int (nI a0), .int (nI wn), .int wp, .int wr, .int (zb wd), .int (zb wg), .int wl, .int wh])), (ko, .inr (1, [.ref kc, .ref kd, .int (nI kn)])), (kc, .inl (cI, 2, .inl (zN kf))), (kd, .inl (cZ, 2, .inl (zZ kg)))] H := hP
  have hD : va_D A [(wo, .inr (2, [.ref ko, .int (nI f0), .int (nI a0), .int (nI wn), .int wp, .int wr, .int (zb wd), .int (zb wg), .int wl, .int wh])), (ko, .inr (1, [.ref kc, .ref kd, .int (nI kn)])), (kc, .inl (cI, 2, .inl (zN kf))), (kd, .inl (cZ, 2, .inl (zZ kg)))] := hD
  refine lv_aload_n hx hb d_Window_begin_10 rfl (lv_at hl 0 rfl) ?_
  refine lv_iload_n hx hb d_Window_begin_11 rfl (lv_at hl 3 rfl) ?_
  refine va_put (D := D) (v := .int (nI n0)) (ty := .int) (C := R_Window) (T := F_Window) (N := 10) hx hb hts (fun w h => List.mem_cons_of_mem _ (hin_Window w h)) t_Window t_Window_ok n_Window hown hK hP hD hS 0 rfl rfl 3 (by decide) (hts _ (List.mem_cons_of_mem _ fl_Window_18)) (fun _ h => h) rfl (by decide +kernel) rfl rfl (Nat.le_of_ble_eq_true rfl) d_Window_begin_12 (fun H locs hP hD hS => ?_)
  have hP : va_P D vwCl [(wo, .inr (2, [.ref ko, .int (nI f0), .int (nI a0), .int (nI n0), .int wp, .int wr, .int (zb wd), .int (zb wg), .int wl, .int wh])), (ko, .inr (1, [.ref kc, .ref kd, .int (nI kn)])), (kc, .inl (cI, 2, .inl (zN kf))), (kd, .inl (cZ, 2, .inl (zZ kg)))] H := hP
  have hD : va_D A [(wo, .inr (2, [.ref ko, .int (nI f0), .int (nI a0), .int (nI n0), .int wp, .int wr, .int (zb wd), .int (zb wg), .int wl, .int wh])), (ko, .inr (1, [.ref kc, .ref kd, .int (nI kn)])), (kc, .inl (cI, 2, .inl (zN kf))), (kd, .inl (cZ, 2, .inl (zZ kg)))] := hD
  refine lv_aload_n hx hb d_Window_begin_15 rfl (lv_at hl 0 rfl) ?_
  refine lv_iconst (v := zb false) hx hb d_Window_begin_16 (by decide) ?_
  refine va_put (D := D) (v := .int (zb false)) (ty := .boolean) (C := R_Window) (T := F_Window) (N := 10) hx hb hts (fun w h => List.mem_cons_of_mem _ (hin_Window w h)) t_Window t_Window_ok n_Window hown hK hP hD hS 0 rfl rfl 7 (by decide) (hts _ (List.mem_cons_of_mem _ fl_Window_40)) (fun _ h => h) rfl (by decide +kernel) (zb_nar false) (zb_fit false) (Nat.le_of_ble_eq_true rfl) d_Window_begin_17 (fun H locs hP hD hS => ?_)
  have hP : va_P D vwCl [(wo, .inr (2, [.ref ko, .int (nI f0), .int (nI a0), .int (nI n0), .int wp, .int wr, .int (zb wd), .int (zb false), .int wl, .int wh])), (ko, .inr (1, [.ref kc, .ref kd, .int (nI kn)])), (kc, .inl (cI, 2, .inl (zN kf))), (kd, .inl (cZ, 2, .inl (zZ kg)))] H := hP
  have hD : va_D A [(wo, .inr (2, [.ref ko, .int (nI f0), .int (nI a0), .int (nI n0), .int wp, .int wr, .int (zb wd), .int (zb false), .int wl, .int wh])), (ko, .inr (1, [.ref kc, .ref kd, .int (nI kn)])), (kc, .inl (cI, 2, .inl (zN kf))), (kd, .inl (cZ, 2, .inl (zZ kg)))] := hD
  refine lv_aload_n hx hb d_Window_begin_20 rfl (lv_at hl 0 rfl) ?_
  refine lv_bipush (v := (-10)) hx hb d_Window_begin_21 (by decide) ?_
  refine va_put (D := D) (v := .int (-10)) (ty := .int) (C := R_Window) (T := F_Window) (N := 10) hx hb hts (fun w h => List.mem_cons_of_mem _ (hin_Window w h)) t_Window t_Window_ok n_Window hown hK hP hD hS 0 rfl rfl 8 (by decide) (hts _ (List.mem_cons_of_mem _ fl_Window_28)) (fun _ h => h) rfl (by decide +kernel) rfl rfl (Nat.le_of_ble_eq_true rfl) d_Window_begin_23 (fun H locs hP hD hS => ?_)
  have hP : va_P D vwCl [(wo, .inr (2, [.ref ko, .int (nI f0), .int (nI a0), .int (nI n0), .int wp, .int wr, .int (zb wd), .int (zb false), .int (-10), .int wh])), (ko, .inr (1, [.ref kc, .ref kd, .int (nI kn)])), (kc, .inl (cI, 2, .inl (zN kf))), (kd, .inl (cZ, 2, .inl (zZ kg)))] H := hP
  have hD : va_D A [(wo, .inr (2, [.ref ko, .int (nI f0), .int (nI a0), .int (nI n0), .int wp, .int wr, .int (zb wd), .int (zb false), .int (-10), .int wh])), (ko, .inr (1, [.ref kc, .ref kd, .int (nI kn)])), (kc, .inl (cI, 2, .inl (zN kf))), (kd, .inl (cZ, 2, .inl (zZ kg)))] := hD
  refine lv_aload_n hx hb d_Window_begin_26 rfl (lv_at hl 0 rfl) ?_
  refine lv_bipush (v := nI 10) hx hb d_Window_begin_27 (by decide) ?_
  refine va_put (D := D) (v := .int (nI 10)) (ty := .int) (C := R_Window) (T := F_Window) (N := 10) hx hb hts (fun w h => List.mem_cons_of_mem _ (hin_Window w h)) t_Window t_Window_ok n_Window hown hK hP hD hS 0 rfl rfl 9 (by decide) (hts _ (List.mem_cons_of_mem _ fl_Window_31)) (fun _ h => h) rfl (by decide +kernel) rfl rfl (Nat.le_of_ble_eq_true rfl) d_Window_begin_29 (fun H locs hP hD hS => ?_)
  have hP : va_P D vwCl [(wo, .inr (2, [.ref ko, .int (nI f0), .int (nI a0), .int (nI n0), .int wp, .int wr, .int (zb wd), .int (zb false), .int (-10), .int (nI 10)])), (ko, .inr (1, [.ref kc, .ref kd, .int (nI kn)])), (kc, .inl (cI, 2, .inl (zN kf))), (kd, .inl (cZ, 2, .inl (zZ kg)))] H := hP
  have hD : va_D A [(wo, .inr (2, [.ref ko, .int (nI f0), .int (nI a0), .int (nI n0), .int wp, .int wr, .int (zb wd), .int (zb false), .int (-10), .int (nI 10)])), (ko, .inr (1, [.ref kc, .ref kd, .int (nI kn)])), (kc, .inl (cI, 2, .inl (zN kf))), (kd, .inl (cZ, 2, .inl (zZ kg)))] := hD
  refine lv_aload_n hx hb d_Window_begin_32 rfl (lv_at hl 0 rfl) ?_
  refine lv_iconst (v := (-1)) hx hb d_Window_begin_33 (by decide) ?_
  refine lv_iconst (v := (-1)) hx hb d_Window_begin_34 (by decide) ?_
  refine lv_iconst (v := zb false) hx hb d_Window_begin_35 (by decide) ?_
  have hPc := hP.sub (ws' := [(wo, .inr (2, [.ref ko, .int (nI f0), .int (nI a0), .int (nI n0), .int wp, .int wr, .int (zb wd), .int (zb false), .int (-10), .int (nI 10)])), (ko, .inr (1, [.ref kc, .ref kd, .int (nI kn)])), (kc, .inl (cI, 2, .inl (zN kf))), (kd, .inl (cZ, 2, .inl (zZ kg)))]) [0, 1, 2, 3] rfl
  have hDc := hD.sub (ws' := [(wo, .inr (2, [.ref ko, .int (nI f0), .int (nI a0), .int (nI n0), .int wp, .int wr, .int (zb wd), .int (zb false), .int (-10), .int (nI 10)])), (ko, .inr (1, [.ref kc, .ref kd, .int (nI kn)])), (kc, .inl (cI, 2, .inl (zN kf))), (kd, .inl (cZ, 2, .inl (zZ kg)))]) [0, 1, 2, 3] (by decide) rfl
  refine zk_wv (wr := []) (w2 := (fun _ => [(wo, .inr (2, [.ref ko, .int (nI f0), .int (nI a0), .int (nI n0), .int (-1), .int (-1), .int (zb false), .int (zb false), .int (-10), .int (nI 10)])), (ko, .inr (1, [.ref kc, .ref kd, .int (nI 0)])), (kc, .inl (cI, 2, .inl (zN kf))), (kd, .inl (cZ, 2, .inl (zZ kg)))])) hP hD hS hA [0, 1, 2, 3] [] [0, 1, 2, 3] rfl rfl (by decide) (by decide) (fun _ => rfl) (by decide) (va_runV (As := [.int (-1), .int (-1), .int (zb false)]) (rest := []) ⟨hx, hb, hml, hown, hts⟩ (c_Window_setKeys_nn l D cI cL cZ cW cR _ wo f0 a0 n0 wp wr wd false (-10) 10 ko kc kd kn kf kg false) (cwV 3 hts (zk_gV (fun _ h => List.mem_cons_of_mem _ h) ml_Window_44 im_Window_setKeys se_Window_setKeys in_Window co_Window_setKeys) rfl rfl rfl ⟨rfl, hd_Window_setKeys⟩ ⟨Nat.le_of_ble_eq_true rfl, Nat.le_of_ble_eq_true rfl⟩) (zk_vw (q0 := 0) hN hK hPc hDc rfl rfl) rfl rfl hl.1 rfl (lv_room (Nat.le_of_ble_eq_true rfl)) d_Window_begin_36 ⟨Nat.zero_le _, Nat.zero_le _⟩) (fun u H locs hpost hP hD hS => ?_)
  have hP : va_P D vwCl [(wo, .inr (2, [.ref ko, .int (nI f0), .int (nI a0), .int (nI n0), .int (-1), .int (-1), .int (zb false), .int (zb false), .int (-10), .int (nI 10)])), (ko, .inr (1, [.ref kc, .ref kd, .int (nI 0)])), (kc, .inl (cI, 2, .inl (zN kf))), (kd, .inl (cZ, 2, .inl (zZ kg)))] H := hP
  have hD : va_D A [(wo, .inr (2, [.ref ko, .int (nI f0), .int (nI a0), .int (nI n0), .int (-1), .int (-1), .int (zb false), .int (zb false), .int (-10), .int (nI 10)])), (ko, .inr (1, [.ref kc, .ref kd, .int (nI 0)])), (kc, .inl (cI, 2, .inl (zN kf))), (kd, .inl (cZ, 2, .inl (zZ kg)))] := hD
  exact zk_vretW hx hb hr hlk hAe hQ hK (()) (trivial) hP hD hS d_Window_begin_39
set_option maxHeartbeats 4000000 in
set_option maxRecDepth 100000 in
theorem c_Window_reaches (l : Launch) (D : va_G) (cI cL cZ cW cR : ClassId) (wo ko wf wa wn : Nat) (wp wr : Int32) (wd wg : Bool) (wl wh : Int32) (x : Int64) (b0 : Bool) (hb0 : b0 = true ↔ wRe wl wh x) : Met l y_Window_reaches ws_Window_reaches rm0_0 (zPr D vwCl (zT cI cL cZ cW cR) [(wo, .inr (2, [.ref ko, .int (nI wf), .int (nI wa), .int (nI wn), .int wp, .int wr, .int (zb wd), .int (zb wg), .int wl, .int wh]))] [.ref wo, .long x]) (zSi (zb b0)) 0 0 (fun _ => False) := by
  refine zk_enterR (cc := b_Window_reaches) (maxL := 3) (ret := some .boolean) (by decide) rfl (Nat.le_of_ble_eq_true rfl) ?_
  intro p e s m args below meth c ls Q hx hb hml hr hlk hown hts hP hK hN hl hQ
  have hl : lv_has ls 3 [(0, .ref wo), (1, .long x)] := hl
  refine lv_aload_n hx hb d_Window_reaches_0 rfl (lv_at hl 0 rfl) ?_
  refine va_get (C := R_Window) (T := F_Window) (N := 10) hx hb hts (fun w h => List.mem_cons_of_mem _ (hin_Window w h)) hown hK hP 0 rfl rfl 8 (by decide) (hts _ (List.mem_cons_of_mem _ fl_Window_28)) (fun _ h => h) rfl d_Window_reaches_1 ?_
  refine lv_bipush (v := (-10)) hx hb d_Window_reaches_4 (by decide) ?_
  refine lv_icmp_eq (tgt := 19) hx hb d_Window_reaches_6 rfl (fun h6 => ?_) (fun h6 => ?_)
  · skip
    have q1 : wl = -10 ∨ wl.toInt64 ≤ x := Or.inl h6
    refine lv_aload_n hx hb d_Window_reaches_19 rfl (lv_at hl 0 rfl) ?_
    refine va_get (C := R_Window) (T := F_Window) (N := 10) hx hb hts (fun w h => List.mem_cons_of_mem _ (hin_Window w h)) hown hK hP 0 rfl rfl 9 (by decide) (hts _ (List.mem_cons_of_mem _ fl_Window_31)) (fun _ h => h) rfl d_Window_reaches_20 ?_
    refine lv_bipush (v := nI 10) hx hb d_Window_reaches_23 (by decide) ?_
    refine lv_icmp_eq (tgt := 38) hx hb d_Window_reaches_25 rfl (fun h25 => ?_) (fun h25 => ?_)
    · skip
      have q8 : wRe wl wh x := ⟨q1, Or.inl h25⟩
      refine lv_iconst (v := nI 1) hx hb d_Window_reaches_38 (by decide) ?_
      refine lv_goto (tgt := 43) hx hb d_Window_reaches_39 rfl ?_
      exact zk_zretR hx hb hr hlk hQ (by first | exact zk_bt (hb0.mpr q8) | exact zk_bf (fun z => q9 (hb0.mp z))) d_Window_reaches_43
    · skip
      refine lv_lload_n hx hb d_Window_reaches_28 rfl (lv_at hl 1 rfl) ?_
      refine lv_aload_n hx hb d_Window_reaches_29 rfl (lv_at hl 0 rfl) ?_
      refine va_get (C := R_Window) (T := F_Window) (N := 10) hx hb hts (fun w h => List.mem_cons_of_mem _ (hin_Window w h)) hown hK hP 0 rfl rfl 9 (by decide) (hts _ (List.mem_cons_of_mem _ fl_Window_31)) (fun _ h => h) rfl d_Window_reaches_30 ?_
      refine lv_i2l (v := wh.toInt64) hx hb d_Window_reaches_33 (rfl) ?_
      refine W.lcmp hx hb d_Window_reaches_34 ?_
      refine lv_if_gt (tgt := 42) hx hb d_Window_reaches_35 rfl (fun h35 => ?_) (fun h35 => ?_)
      · skip
        have q9 : ¬ wRe wl wh x := fun z => z.2.elim h25 (fun y => absurd ((lg_cmp_gt _ _).mp h35) (Int64.not_lt.mpr y))
        refine lv_iconst (v := nI 0) hx hb d_Window_reaches_42 (by decide) ?_
        exact zk_zretR hx hb hr hlk hQ (by first | exact zk_bt (hb0.mpr q8) | exact zk_bf (fun z => q9 (hb0.mp z))) d_Window_reaches_43
      · skip
        have q8 : wRe wl wh x := ⟨q1, Or.inr (Int64.not_lt.mp (fun z => h35 ((lg_cmp_gt _ _).mpr z)))⟩
        refine lv_iconst (v := nI 1) hx hb d_Window_reaches_38 (by decide) ?_
        refine lv_goto (tgt := 43) hx hb d_Window_reaches_39 rfl ?_
        exact zk_zretR hx hb hr hlk hQ (by first | exact zk_bt (hb0.mpr q8) | exact zk_bf (fun z => q9 (hb0.mp z))) d_Window_reaches_43
  · skip
    refine lv_lload_n hx hb d_Window_reaches_9 rfl (lv_at hl 1 rfl) ?_
    refine lv_aload_n hx hb d_Window_reaches_10 rfl (lv_at hl 0 rfl) ?_
    refine va_get (C := R_Window) (T := F_Window) (N := 10) hx hb hts (fun w h => List.mem_cons_of_mem _ (hin_Window w h)) hown hK hP 0 rfl rfl 8 (by decide) (hts _ (List.mem_cons_of_mem _ fl_Window_28)) (fun _ h => h) rfl d_Window_reaches_11 ?_
    refine lv_i2l (v := wl.toInt64) hx hb d_Window_reaches_14 (rfl) ?_
    refine W.lcmp hx hb d_Window_reaches_15 ?_
    refine lv_if_lt (tgt := 42) hx hb d_Window_reaches_16 rfl (fun h16 => ?_) (fun h16 => ?_)
    · skip
      have q9 : ¬ wRe wl wh x := fun z => z.1.elim h6 (fun y => absurd ((lg_cmp_lt _ _).mp h16) (Int64.not_lt.mpr y))
      refine lv_iconst (v := nI 0) hx hb d_Window_reaches_42 (by decide) ?_
      exact zk_zretR hx hb hr hlk hQ (by first | exact zk_bt (hb0.mpr q8) | exact zk_bf (fun z => q9 (hb0.mp z))) d_Window_reaches_43
    · skip
      have q1 : wl = -10 ∨ wl.toInt64 ≤ x := Or.inr (Int64.not_lt.mp (fun z => h16 ((lg_cmp_lt _ _).mpr z)))
      refine lv_aload_n hx hb d_Window_reaches_19 rfl (lv_at hl 0 rfl) ?_
      refine va_get (C := R_Window) (T := F_Window) (N := 10) hx hb hts (fun w h => List.mem_cons_of_mem _ (hin_Window w h)) hown hK hP 0 rfl rfl 9 (by decide) (hts _ (List.mem_cons_of_mem _ fl_Window_31)) (fun _ h => h) rfl d_Window_reaches_20 ?_
      refine lv_bipush (v := nI 10) hx hb d_Window_reaches_23 (by decide) ?_
      refine lv_icmp_eq (tgt := 38) hx hb d_Window_reaches_25 rfl (fun h25 => ?_) (fun h25 => ?_)
      · skip
        have q8 : wRe wl wh x := ⟨q1, Or.inl h25⟩
        refine lv_iconst (v := nI 1) hx hb d_Window_reaches_38 (by decide) ?_
        refine lv_goto (tgt := 43) hx hb d_Window_reaches_39 rfl ?_
        exact zk_zretR hx hb hr hlk hQ (by first | exact zk_bt (hb0.mpr q8) | exact zk_bf (fun z => q9 (hb0.mp z))) d_Window_reaches_43
      · skip
        refine lv_lload_n hx hb d_Window_reaches_28 rfl (lv_at hl 1 rfl) ?_
        refine lv_aload_n hx hb d_Window_reaches_29 rfl (lv_at hl 0 rfl) ?_
        refine va_get (C := R_Window) (T := F_Window) (N := 10) hx hb hts (fun w h => List.mem_cons_of_mem _ (hin_Window w h)) hown hK hP 0 rfl rfl 9 (by decide) (hts _ (List.mem_cons_of_mem _ fl_Window_31)) (fun _ h => h) rfl d_Window_reaches_30 ?_
        refine lv_i2l (v := wh.toInt64) hx hb d_Window_reaches_33 (rfl) ?_
        refine W.lcmp hx hb d_Window_reaches_34 ?_
        refine lv_if_gt (tgt := 42) hx hb d_Window_reaches_35 rfl (fun h35 => ?_) (fun h35 => ?_)
        · skip
          have q9 : ¬ wRe wl wh x := fun z => z.2.elim h25 (fun y => absurd ((lg_cmp_gt _ _).mp h35) (Int64.not_lt.mpr y))
          refine lv_iconst (v := nI 0) hx hb d_Window_reaches_42 (by decide) ?_
          exact zk_zretR hx hb hr hlk hQ (by first | exact zk_bt (hb0.mpr q8) | exact zk_bf (fun z => q9 (hb0.mp z))) d_Window_reaches_43
        · skip
          have q8 : wRe wl wh x := ⟨q1, Or.inr (Int64.not_lt.mp (fun z => h35 ((lg_cmp_gt _ _).mpr z)))⟩
          refine lv_iconst (v := nI 1) hx hb d_Window_reaches_38 (by decide) ?_
          refine lv_goto (tgt := 43) hx hb d_Window_reaches_39 rfl ?_
          exact zk_zretR hx hb hr hlk hQ (by first | exact zk_bt (hb0.mpr q8) | exact zk_bf (fun z => q9 (hb0.mp z))) d_Window_reaches_43
set_option maxHeartbeats 4000000 in
set_option maxRecDepth 100000 in
theorem c_Query_reset (l : Launch) (D : va_G) (cI cL cZ cW cR : ClassId) (sz : Nat) (qo qw wc fc : Nat) (fo fn jl jr : Int32) (ko kc kd kn : Nat) (kf : Nat → Nat) (kg : Nat → Bool) : Met l y_Query_reset ws_Query_reset rm1_30 (zPw D vwCl (zT cI cL cZ cW cR) [(qo, .inr (3, [.ref qw, .ref ko, .int (nI wc), .int (nI fc), .int fo, .int fn, .int jl, .int jr])), (ko, .inr (1, [.ref kc, .ref kd, .int (nI kn)])), (kc, .inl (cI, 2, .inl (zN kf))), (kd, .inl (cZ, 2, .inl (zZ kg)))] sz [.ref qo]) (zQv D vwCl (zT cI cL cZ cW cR) [(qo, .inr (3, [.ref qw, .ref ko, .int (nI wc), .int (nI fc), .int fo, .int fn, .int jl, .int jr])), (ko, .inr (1, [.ref kc, .ref kd, .int (nI kn)])), (kc, .inl (cI, 2, .inl (zN kf))), (kd, .inl (cZ, 2, .inl (zZ kg)))] sz (fun _ : Unit => True) (fun _ => [(qo, .inr (3, [.ref qw, .ref ko, .int (nI 0), .int (nI fc), .int (-1), .int fn, .int (-1), .int (-1)])), (ko, .inr (1, [.ref kc, .ref kd, .int (nI 0)])), (kc, .inl (cI, 2, .inl (zN kf))), (kd, .inl (cZ, 2, .inl (zZ kg)))])) 0 0 (va_A [(qo, .inr (3, [.ref qw, .ref ko, .int (nI wc), .int (nI fc), .int fo, .int fn, .int jl, .int jr])), (ko, .inr (1, [.ref kc, .ref kd, .int (nI kn)])), (kc, .inl (cI, 2, .inl (zN kf))), (kd, .inl (cZ, 2, .inl (zZ kg)))] sz) := by
  refine zk_enterW (cc := b_Query_reset) (maxL := 1) (ret := none) (by decide) rfl (Nat.le_of_ble_eq_true rfl) ?_
  intro p e s m args below meth c ls Q hx hb hml hr hlk hown hts hP hK hN hl hin hsz A hAe hA hD hS hQ
  subst hsz
  have hl : lv_has ls 1 [(0, .ref qo)] := hl
  refine lv_aload_n hx hb d_Query_reset_0 rfl (lv_at hl 0 rfl) ?_
  refine lv_iconst (v := nI 0) hx hb d_Query_reset_1 (by decide) ?_
  refine va_put (D := D) (v := .int (nI 0)) (ty := .int) (C := R_Query) (T := F_Query) (N := 8) hx hb hts (fun w h => List.mem_cons_of_mem _ (hin_Query w h)) t_Query t_Query_ok n_Query hown hK hP hD hS 0 rfl rfl 2 (by decide) (hts _ (List.mem_cons_of_mem _ fl_Query_35)) (fun _ h => h) rfl (by decide +kernel) rfl rfl (Nat.le_of_ble_eq_true rfl) d_Query_reset_2 (fun H locs hP hD hS => ?_)
  have hP : va_P D vwCl [(qo, .inr (3, [.ref qw, .ref ko, .int (nI 0), .int (nI fc), .int fo, .int fn, .int jl, .int jr])), (ko, .inr (1, [.ref kc, .ref kd, .int (nI kn)])), (kc, .inl (cI, 2, .inl (zN kf))), (kd, .inl (cZ, 2, .inl (zZ kg)))] H := hP
  have hD : va_D A [(qo, .inr (3, [.ref qw, .ref ko, .int (nI 0), .int (nI fc), .int fo, .int fn, .int jl, .int jr])), (ko, .inr (1, [.ref kc, .ref kd, .int (nI kn)])), (kc, .inl (cI, 2, .inl (zN kf))), (kd, .inl (cZ, 2, .inl (zZ kg)))] := hD
  refine lv_aload_n hx hb d_Query_reset_5 rfl (lv_at hl 0 rfl) ?_
  refine lv_iconst (v := (-1)) hx hb d_Query_reset_6 (by decide) ?_
  refine va_put (D := D) (v := .int (-1)) (ty := .int) (C := R_Query) (T := F_Query) (N := 8) hx hb hts (fun w h => List.mem_cons_of_mem _ (hin_Query w h)) t_Query t_Query_ok n_Query hown hK hP hD hS 0 rfl rfl 4 (by decide) (hts _ (List.mem_cons_of_mem _ fl_Query_25)) (fun _ h => h) rfl (by decide +kernel) rfl rfl (Nat.le_of_ble_eq_true rfl) d_Query_reset_7 (fun H locs hP hD hS => ?_)
  have hP : va_P D vwCl [(qo, .inr (3, [.ref qw, .ref ko, .int (nI 0), .int (nI fc), .int (-1), .int fn, .int jl, .int jr])), (ko, .inr (1, [.ref kc, .ref kd, .int (nI kn)])), (kc, .inl (cI, 2, .inl (zN kf))), (kd, .inl (cZ, 2, .inl (zZ kg)))] H := hP
  have hD : va_D A [(qo, .inr (3, [.ref qw, .ref ko, .int (nI 0), .int (nI fc), .int (-1), .int fn, .int jl, .int jr])), (ko, .inr (1, [.ref kc, .ref kd, .int (nI kn)])), (kc, .inl (cI, 2, .inl (zN kf))), (kd, .inl (cZ, 2, .inl (zZ kg)))] := hD
  refine lv_aload_n hx hb d_Query_reset_10 rfl (lv_at hl 0 rfl) ?_
  refine lv_iconst (v := (-1)) hx hb d_Query_reset_11 (by decide) ?_
  refine va_put (D := D) (v := .int (-1)) (ty := .int) (C := R_Query) (T := F_Query) (N := 8) hx hb hts (fun w h => List.mem_cons_of_mem _ (hin_Query w h)) t_Query t_Query_ok n_Query hown hK hP hD hS 0 rfl rfl 6 (by decide) (hts _ (List.mem_cons_of_mem _ fl_Query_29)) (fun _ h => h) rfl (by decide +kernel) rfl rfl (Nat.le_of_ble_eq_true rfl) d_Query_reset_12 (fun H locs hP hD hS => ?_)
  have hP : va_P D vwCl [(qo, .inr (3, [.ref qw, .ref ko, .int (nI 0), .int (nI fc), .int (-1), .int fn, .int (-1), .int jr])), (ko, .inr (1, [.ref kc, .ref kd, .int (nI kn)])), (kc, .inl (cI, 2, .inl (zN kf))), (kd, .inl (cZ, 2, .inl (zZ kg)))] H := hP
  have hD : va_D A [(qo, .inr (3, [.ref qw, .ref ko, .int (nI 0), .int (nI fc), .int (-1), .int fn, .int (-1), .int jr])), (ko, .inr (1, [.ref kc, .ref kd, .int (nI kn)])), (kc, .inl (cI, 2, .inl (zN kf))), (kd, .inl (cZ, 2, .inl (zZ kg)))] := hD
  refine lv_aload_n hx hb d_Query_reset_15 rfl (lv_at hl 0 rfl) ?_
  refine lv_iconst (v := (-1)) hx hb d_Query_reset_16 (by decide) ?_
  refine va_put (D := D) (v := .int (-1)) (ty := .int) (C := R_Query) (T := F_Query) (N := 8) hx hb hts (fun w h => List.mem_cons_of_mem _ (hin_Query w h)) t_Query t_Query_ok n_Query hown hK hP hD hS 0 rfl rfl 7 (by decide) (hts _ (List.mem_cons_of_mem _ fl_Query_32)) (fun _ h => h) rfl (by decide +kernel) rfl rfl (Nat.le_of_ble_eq_true rfl) d_Query_reset_17 (fun H locs hP hD hS => ?_)
  have hP : va_P D vwCl [(qo, .inr (3, [.ref qw, .ref ko, .int (nI 0), .int (nI fc), .int (-1), .int fn, .int (-1), .int (-1)])), (ko, .inr (1, [.ref kc, .ref kd, .int (nI kn)])), (kc, .inl (cI, 2, .inl (zN kf))), (kd, .inl (cZ, 2, .inl (zZ kg)))] H := hP
  have hD : va_D A [(qo, .inr (3, [.ref qw, .ref ko, .int (nI 0), .int (nI fc), .int (-1), .int fn, .int (-1), .int (-1)])), (ko, .inr (1, [.ref kc, .ref kd, .int (nI kn)])), (kc, .inl (cI, 2, .inl (zN kf))), (kd, .inl (cZ, 2, .inl (zZ kg)))] := hD
  refine lv_aload_n hx hb d_Query_reset_20 rfl (lv_at hl 0 rfl) ?_
  refine va_get (C := R_Query) (T := F_Query) (N := 8) hx hb hts (fun w h => List.mem_cons_of_mem _ (hin_Query w h)) hown hK hP 0 rfl rfl 1 (by decide) (hts _ (List.mem_cons_of_mem _ fl_Query_21)) (fun _ h => h) rfl d_Query_reset_21 ?_
  have hPc := hP.sub (ws' := [(ko, .inr (1, [.ref kc, .ref kd, .int (nI kn)])), (kc, .inl (cI, 2, .inl (zN kf))), (kd, .inl (cZ, 2, .inl (zZ kg)))]) [1, 2, 3] rfl
  have hDc := hD.sub (ws' := [(ko, .inr (1, [.ref kc, .ref kd, .int (nI kn)])), (kc, .inl (cI, 2, .inl (zN kf))), (kd, .inl (cZ, 2, .inl (zZ kg)))]) [1, 2, 3] (by decide) rfl
  refine zk_wv (wr := [(qo, .inr (3, [.ref qw, .ref ko, .int (nI 0), .int (nI fc), .int (-1), .int fn, .int (-1), .int (-1)]))]) (w2 := (fun _ => [(qo, .inr (3, [.ref qw, .ref ko, .int (nI 0), .int (nI fc), .int (-1), .int fn, .int (-1), .int (-1)])), (ko, .inr (1, [.ref kc, .ref kd, .int (nI 0)])), (kc, .inl (cI, 2, .inl (zN kf))), (kd, .inl (cZ, 2, .inl (zZ kg)))])) hP hD hS hA [1, 2, 3] [0] [0, 1, 2, 3] rfl rfl (by decide) (by decide) (fun _ => rfl) (by decide) (va_runV (As := []) (rest := []) ⟨hx, hb, hml, hown, hts⟩ (c_Keys_removeAll l D cI cL cZ cW cR _ ko kc kd kn kf kg) (cwV 0 hts (zk_gV (fun _ h => List.mem_cons_of_mem _ h) ml_Query_38 im_Keys_removeAll se_Keys_removeAll in_Keys co_Keys_removeAll) rfl rfl rfl ⟨rfl, hd_Keys_removeAll⟩ ⟨Nat.le_of_ble_eq_true rfl, Nat.le_of_ble_eq_true rfl⟩) (zk_vw (q0 := 0) hN hK hPc hDc rfl rfl) rfl rfl hl.1 rfl (lv_room (Nat.le_of_ble_eq_true rfl)) d_Query_reset_24 ⟨Nat.zero_le _, Nat.zero_le _⟩) (fun u H locs hpost hP hD hS => ?_)
  have hP : va_P D vwCl [(qo, .inr (3, [.ref qw, .ref ko, .int (nI 0), .int (nI fc), .int (-1), .int fn, .int (-1), .int (-1)])), (ko, .inr (1, [.ref kc, .ref kd, .int (nI 0)])), (kc, .inl (cI, 2, .inl (zN kf))), (kd, .inl (cZ, 2, .inl (zZ kg)))] H := hP
  have hD : va_D A [(qo, .inr (3, [.ref qw, .ref ko, .int (nI 0), .int (nI fc), .int (-1), .int fn, .int (-1), .int (-1)])), (ko, .inr (1, [.ref kc, .ref kd, .int (nI 0)])), (kc, .inl (cI, 2, .inl (zN kf))), (kd, .inl (cZ, 2, .inl (zZ kg)))] := hD
  exact zk_vretW hx hb hr hlk hAe hQ hK (()) (trivial) hP hD hS d_Query_reset_27
set_option maxHeartbeats 4000000 in
set_option maxRecDepth 100000 in
theorem c_Query_hasWindow (l : Launch) (D : va_G) (cI cL cZ cW cR : ClassId) (qo qw wc fc : Nat) (fo fn jl jr : Int32) (ko : Nat) (x : Int32) (b0 : Bool) (hwc : wc ≤ 3) (hb0 : b0 = true ↔ ∃ j, j < wc ∧ x = nI j) : Met l y_Query_hasWindow ws_Query_hasWindow rm1_30 (zPr D vwCl (zT cI cL cZ cW cR) [(qo, .inr (3, [.ref qw, .ref ko, .int (nI wc), .int (nI fc), .int fo, .int fn, .int jl, .int jr]))] [.ref qo, .int x]) (zSi (zb b0)) 0 0 (fun _ => False) := by
  refine zk_enterR (cc := b_Query_hasWindow) (maxL := 2) (ret := some .boolean) (by decide) rfl (Nat.le_of_ble_eq_true rfl) ?_
  intro p e s m args below meth c ls Q hx hb hml hr hlk hown hts hP hK hN hl hQ
  have hl : lv_has ls 2 [(0, .ref qo), (1, .int x)] := hl
  refine lv_iload_n hx hb d_Query_hasWindow_0 rfl (lv_at hl 1 rfl) ?_
  refine lv_iconst (v := nI 0) hx hb d_Query_hasWindow_1 (by decide) ?_
  refine lv_aload_n hx hb d_Query_hasWindow_2 rfl (lv_at hl 0 rfl) ?_
  refine va_get (C := R_Query) (T := F_Query) (N := 8) hx hb hts (fun w h => List.mem_cons_of_mem _ (hin_Query w h)) hown hK hP 0 rfl rfl 2 (by decide) (hts _ (List.mem_cons_of_mem _ fl_Query_35)) (fun _ h => h) rfl d_Query_hasWindow_3 ?_
  refine lv_iconst (v := nI 1) hx hb d_Query_hasWindow_6 (by decide) ?_
  refine lv_isub hx hb d_Query_hasWindow_7 ?_
  have hPc := hP.sub (ws' := []) [] rfl
  refine zk_ri (va_runSN (As := [.int x, .int (nI 0), .int ((nI wc) - (nI 1))]) (rest := []) ⟨hx, hb, hml, hown, hts⟩ (c_FQ_isWithin l D cI cL cZ cW cR x (nI 0) ((nI wc) - (nI 1))) ⟨(va_cnB 3 hts (zk_gC (fun _ h => List.mem_cons_of_mem _ h) co_FQ_isWithin) rfl rfl rfl (hN.1 _ nl_Query_41) (hts _ (List.mem_cons_of_mem _ in_FQ)) hd_FQ_isWithin ⟨Nat.le_of_ble_eq_true rfl, Nat.le_of_ble_eq_true rfl⟩), (hts _ (List.mem_cons_of_mem _ sm_FQ_isWithin)), trivial⟩ (zk_sr hN hK hPc) rfl rfl hl.1 rfl (lv_room (Nat.le_of_ble_eq_true rfl)) d_Query_hasWindow_8 ⟨Nat.zero_le _, Nat.zero_le _⟩) ?_
  exact zk_zretR hx hb hr hlk hQ (congrArg zb (zk_win hwc hb0)) d_Query_hasWindow_11
set_option maxHeartbeats 4000000 in
set_option maxRecDepth 100000 in
theorem c_Query_hasAllWindows (l : Launch) (D : va_G) (cI cL cZ cW cR : ClassId) (qo qw wc fc : Nat) (fo fn jl jr : Int32) (ko : Nat) (wq : Nat → Option Nat) (hwc : wc ≤ 3) : Met l y_Query_hasAllWindows ws_Query_hasAllWindows rm0_0 (zPr D vwCl (zT cI cL cZ cW cR) [(qo, .inr (3, [.ref qw, .ref ko, .int (nI wc), .int (nI fc), .int fo, .int fn, .int jl, .int jr])), (qw, .inl (cW, 3, .inr (.inr (.inr (.inr wq)))))] [.ref qo]) (zSi (zb (decide (3 ≤ wc)))) 0 0 (fun _ => False) := by
  refine zk_enterR (cc := b_Query_hasAllWindows) (maxL := 1) (ret := some .boolean) (by decide) rfl (Nat.le_of_ble_eq_true rfl) ?_
  intro p e s m args below meth c ls Q hx hb hml hr hlk hown hts hP hK hN hl hQ
  have hl : lv_has ls 1 [(0, .ref qo)] := hl
  refine lv_aload_n hx hb d_Query_hasAllWindows_0 rfl (lv_at hl 0 rfl) ?_
  refine va_get (C := R_Query) (T := F_Query) (N := 8) hx hb hts (fun w h => List.mem_cons_of_mem _ (hin_Query w h)) hown hK hP 0 rfl rfl 2 (by decide) (hts _ (List.mem_cons_of_mem _ fl_Query_35)) (fun _ h => h) rfl d_Query_hasAllWindows_1 ?_
  refine lv_aload_n hx hb d_Query_hasAllWindows_4 rfl (lv_at hl 0 rfl) ?_
  refine va_get (C := R_Query) (T := F_Query) (N := 8) hx hb hts (fun w h => List.mem_cons_of_mem _ (hin_Query w h)) hown hK hP 0 rfl rfl 0 (by decide) (hts _ (List.mem_cons_of_mem _ fl_Query_12)) (fun _ h => h) rfl d_Query_hasAllWindows_5 ?_
  refine va_alen (v := nI 3) hx hb hK hP 1 3 rfl rfl rfl d_Query_hasAllWindows_8 ?_
  refine zk_icmp_lt (tgt := 16) hx hb d_Query_hasAllWindows_9 rfl (by omega) (by omega) (fun h9 => ?_) (fun h9 => ?_)
  · skip
    refine lv_iconst (v := nI 0) hx hb d_Query_hasAllWindows_16 (by decide) ?_
    exact zk_zretR hx hb hr hlk hQ (by first | exact zk_t (by omega) | exact zk_f (by omega)) d_Query_hasAllWindows_17
  · skip
    refine lv_iconst (v := nI 1) hx hb d_Query_hasAllWindows_12 (by decide) ?_
    refine lv_goto (tgt := 17) hx hb d_Query_hasAllWindows_13 rfl ?_
    exact zk_zretR hx hb hr hlk hQ (by first | exact zk_t (by omega) | exact zk_f (by omega)) d_Query_hasAllWindows_17
set_option maxHeartbeats 4000000 in
set_option maxRecDepth 100000 in
theorem c_Query_hasJoin (l : Launch) (D : va_G) (cI cL cZ cW cR : ClassId) (qo qw wc fc : Nat) (fo fn jl jr : Int32) (ko : Nat) : Met l y_Query_hasJoin ws_Query_hasJoin rm0_0 (zPr D vwCl (zT cI cL cZ cW cR) [(qo, .inr (3, [.ref qw, .ref ko, .int (nI wc), .int (nI fc), .int fo, .int fn, .int jl, .int jr]))] [.ref qo]) (zSi (zb (decide (jl ≠ -1 ∧ jr ≠ -1)))) 0 0 (fun _ => False) := by
  refine zk_enterR (cc := b_Query_hasJoin) (maxL := 1) (ret := some .boolean) (by decide) rfl (Nat.le_of_ble_eq_true rfl) ?_
  intro p e s m args below meth c ls Q hx hb hml hr hlk hown hts hP hK hN hl hQ
  have hl : lv_has ls 1 [(0, .ref qo)] := hl
  refine lv_aload_n hx hb d_Query_hasJoin_0 rfl (lv_at hl 0 rfl) ?_
  refine va_get (C := R_Query) (T := F_Query) (N := 8) hx hb hts (fun w h => List.mem_cons_of_mem _ (hin_Query w h)) hown hK hP 0 rfl rfl 6 (by decide) (hts _ (List.mem_cons_of_mem _ fl_Query_29)) (fun _ h => h) rfl d_Query_hasJoin_1 ?_
  refine lv_iconst (v := (-1)) hx hb d_Query_hasJoin_4 (by decide) ?_
  refine lv_icmp_eq (tgt := 20) hx hb d_Query_hasJoin_5 rfl (fun h5 => ?_) (fun h5 => ?_)
  · skip
    refine lv_iconst (v := nI 0) hx hb d_Query_hasJoin_20 (by decide) ?_
    exact zk_zretR hx hb hr hlk hQ (by first | exact zk_t ⟨h5, h13⟩ | exact zk_f (fun q => q.2 h13) | exact zk_f (fun q => q.1 h5)) d_Query_hasJoin_21
  · skip
    refine lv_aload_n hx hb d_Query_hasJoin_8 rfl (lv_at hl 0 rfl) ?_
    refine va_get (C := R_Query) (T := F_Query) (N := 8) hx hb hts (fun w h => List.mem_cons_of_mem _ (hin_Query w h)) hown hK hP 0 rfl rfl 7 (by decide) (hts _ (List.mem_cons_of_mem _ fl_Query_32)) (fun _ h => h) rfl d_Query_hasJoin_9 ?_
    refine lv_iconst (v := (-1)) hx hb d_Query_hasJoin_12 (by decide) ?_
    refine lv_icmp_eq (tgt := 20) hx hb d_Query_hasJoin_13 rfl (fun h13 => ?_) (fun h13 => ?_)
    · skip
      refine lv_iconst (v := nI 0) hx hb d_Query_hasJoin_20 (by decide) ?_
      exact zk_zretR hx hb hr hlk hQ (by first | exact zk_t ⟨h5, h13⟩ | exact zk_f (fun q => q.2 h13) | exact zk_f (fun q => q.1 h5)) d_Query_hasJoin_21
    · skip
      refine lv_iconst (v := nI 1) hx hb d_Query_hasJoin_16 (by decide) ?_
      refine lv_goto (tgt := 21) hx hb d_Query_hasJoin_17 rfl ?_
      exact zk_zretR hx hb hr hlk hQ (by first | exact zk_t ⟨h5, h13⟩ | exact zk_f (fun q => q.2 h13) | exact zk_f (fun q => q.1 h5)) d_Query_hasJoin_21
set_option maxHeartbeats 4000000 in
set_option maxRecDepth 100000 in
theorem c_Query_keeps_n (l : Launch) (D : va_G) (cI cL cZ cW cR : ClassId) (qo qw wc fc : Nat) (fn jl jr : Int32) (ko : Nat) (r v a b k n nv ns : Nat) (f : Nat → Int64) (g h : Nat → Nat) (i : Nat) (hi : i < ns) (hns : ns < 1000) (hj : g i * k + fc < nv) (hnv : nv < 100000) : Met l y_Query_keeps ws_Query_keeps rm1_30 (zPr D vwCl (zT cI cL cZ cW cR) [(qo, .inr (3, [.ref qw, .ref ko, .int (nI wc), .int (nI fc), .int (-1), .int fn, .int jl, .int jr])), (r, .inr (0, [.int (nI k), .ref v, .ref a, .ref b, .int (nI n)])), (v, .inl (cL, nv, .inr (.inl f))), (a, .inl (cI, ns, .inl (zN g))), (b, .inl (cI, ns, .inl (zN h)))] [.ref qo, .ref r, .int (nI i)]) (zSi (zb (fKeep ((-1)) fn (f (g i * k + fc))))) 0 0 (fun _ => False) := by
  refine zk_enterR (cc := b_Query_keeps) (maxL := 5) (ret := some .boolean) (by decide) rfl (Nat.le_of_ble_eq_true rfl) ?_
  intro p e s m args below meth c ls Q hx hb hml hr hlk hown hts hP hK hN hl hQ
  have hl : lv_has ls 5 [(0, .ref qo), (1, .ref r), (2, .int (nI i))] := hl
  have hz : fKeep ((-1)) fn (f (g i * k + fc)) = true := rfl
  refine lv_aload_n hx hb d_Query_keeps_0 rfl (lv_at hl 1 rfl) ?_
  refine lv_iload_n hx hb d_Query_keeps_1 rfl (lv_at hl 2 rfl) ?_
  refine lv_aload_n hx hb d_Query_keeps_2 rfl (lv_at hl 0 rfl) ?_
  refine va_get (C := R_Query) (T := F_Query) (N := 8) hx hb hts (fun w h => List.mem_cons_of_mem _ (hin_Query w h)) hown hK hP 0 rfl rfl 3 (by decide) (hts _ (List.mem_cons_of_mem _ fl_Query_45)) (fun _ h => h) rfl d_Query_keeps_3 ?_
  have hPc := hP.sub (ws' := [(r, .inr (0, [.int (nI k), .ref v, .ref a, .ref b, .int (nI n)])), (v, .inl (cL, nv, .inr (.inl f))), (a, .inl (cI, ns, .inl (zN g))), (b, .inl (cI, ns, .inl (zN h)))]) [1, 2, 3, 4] rfl
  refine zk_rl (va_runV (As := [.int (nI i), .int (nI fc)]) (rest := []) ⟨hx, hb, hml, hown, hts⟩ (c_Rows_at l D cI cL cZ cW cR r v a b k n nv ns f g h i fc (hi) (hns) (hj) (hnv)) (cwV 2 hts (zk_gV (fun _ h => List.mem_cons_of_mem _ h) ml_Query_48 im_Rows_at se_Rows_at in_Rows co_Rows_at) rfl rfl rfl ⟨rfl, hd_Rows_at⟩ ⟨Nat.le_of_ble_eq_true rfl, Nat.le_of_ble_eq_true rfl⟩) (zk_vr (q0 := 0) hN hK hPc rfl rfl) rfl rfl hl.1 rfl (lv_room (Nat.le_of_ble_eq_true rfl)) d_Query_keeps_6 ⟨Nat.zero_le _, Nat.zero_le _⟩) ?_
  refine lv_lstore_n (lv' := [(3, .long (f (g i * k + fc))), (0, .ref qo), (1, .ref r), (2, .int (nI i))]) hx hb d_Query_keeps_9 rfl hl (by decide) rfl (fun ls hl => ?_)
  refine lv_aload_n hx hb d_Query_keeps_10 rfl (lv_at hl 1 rfl) ?_
  refine va_get (C := R_Query) (T := F_Query) (N := 8) hx hb hts (fun w h => List.mem_cons_of_mem _ (hin_Query w h)) hown hK hP 0 rfl rfl 4 (by decide) (hts _ (List.mem_cons_of_mem _ fl_Query_25)) (fun _ h => h) rfl d_Query_keeps_11 ?_
  refine lv_tableOut (tgt := 148) hx hb d_Query_keeps_14 (by decide) rfl ?_
  refine lv_iconst (v := nI 1) hx hb d_Query_keeps_148 (by decide) ?_
  exact zk_zretR hx hb hr hlk hQ (by rw [hz]; rfl) d_Query_keeps_149
set_option maxHeartbeats 4000000 in
set_option maxRecDepth 100000 in
theorem c_Query_keeps_0 (l : Launch) (D : va_G) (cI cL cZ cW cR : ClassId) (qo qw wc fc : Nat) (fn jl jr : Int32) (ko : Nat) (r v a b k n nv ns : Nat) (f : Nat → Int64) (g h : Nat → Nat) (i : Nat) (hi : i < ns) (hns : ns < 1000) (hj : g i * k + fc < nv) (hnv : nv < 100000) : Met l y_Query_keeps ws_Query_keeps rm1_30 (zPr D vwCl (zT cI cL cZ cW cR) [(qo, .inr (3, [.ref qw, .ref ko, .int (nI wc), .int (nI fc), .int (nI 0), .int fn, .int jl, .int jr])), (r, .inr (0, [.int (nI k), .ref v, .ref a, .ref b, .int (nI n)])), (v, .inl (cL, nv, .inr (.inl f))), (a, .inl (cI, ns, .inl (zN g))), (b, .inl (cI, ns, .inl (zN h)))] [.ref qo, .ref r, .int (nI i)]) (zSi (zb (fKeep (nI 0) fn (f (g i * k + fc))))) 0 0 (fun _ => False) := by
  refine zk_enterR (cc := b_Query_keeps) (maxL := 5) (ret := some .boolean) (by decide) rfl (Nat.le_of_ble_eq_true rfl) ?_
  intro p e s m args below meth c ls Q hx hb hml hr hlk hown hts hP hK hN hl hQ
  have hl : lv_has ls 5 [(0, .ref qo), (1, .ref r), (2, .int (nI i))] := hl
  have hz : fKeep (nI 0) fn (f (g i * k + fc)) = decide (f (g i * k + fc) ≠ -1099511627776 ∧ f (g i * k + fc) < fn.toInt64) := rfl
  refine lv_aload_n hx hb d_Query_keeps_0 rfl (lv_at hl 1 rfl) ?_
  refine lv_iload_n hx hb d_Query_keeps_1 rfl (lv_at hl 2 rfl) ?_
  refine lv_aload_n hx hb d_Query_keeps_2 rfl (lv_at hl 0 rfl) ?_
  refine va_get (C := R_Query) (T := F_Query) (N := 8) hx hb hts (fun w h => List.mem_cons_of_mem _ (hin_Query w h)) hown hK hP 0 rfl rfl 3 (by decide) (hts _ (List.mem_cons_of_mem _ fl_Query_45)) (fun _ h => h) rfl d_Query_keeps_3 ?_
  have hPc := hP.sub (ws' := [(r, .inr (0, [.int (nI k), .ref v, .ref a, .ref b, .int (nI n)])), (v, .inl (cL, nv, .inr (.inl f))), (a, .inl (cI, ns, .inl (zN g))), (b, .inl (cI, ns, .inl (zN h)))]) [1, 2, 3, 4] rfl
  refine zk_rl (va_runV (As := [.int (nI i), .int (nI fc)]) (rest := []) ⟨hx, hb, hml, hown, hts⟩ (c_Rows_at l D cI cL cZ cW cR r v a b k n nv ns f g h i fc (hi) (hns) (hj) (hnv)) (cwV 2 hts (zk_gV (fun _ h => List.mem_cons_of_mem _ h) ml_Query_48 im_Rows_at se_Rows_at in_Rows co_Rows_at) rfl rfl rfl ⟨rfl, hd_Rows_at⟩ ⟨Nat.le_of_ble_eq_true rfl, Nat.le_of_ble_eq_true rfl⟩) (zk_vr (q0 := 0) hN hK hPc rfl rfl) rfl rfl hl.1 rfl (lv_room (Nat.le_of_ble_eq_true rfl)) d_Query_keeps_6 ⟨Nat.zero_le _, Nat.zero_le _⟩) ?_
  refine lv_lstore_n (lv' := [(3, .long (f (g i * k + fc))), (0, .ref qo), (1, .ref r), (2, .int (nI i))]) hx hb d_Query_keeps_9 rfl hl (by decide) rfl (fun ls hl => ?_)
  refine lv_aload_n hx hb d_Query_keeps_10 rfl (lv_at hl 1 rfl) ?_
  refine va_get (C := R_Query) (T := F_Query) (N := 8) hx hb hts (fun w h => List.mem_cons_of_mem _ (hin_Query w h)) hown hK hP 0 rfl rfl 4 (by decide) (hts _ (List.mem_cons_of_mem _ fl_Query_25)) (fun _ h => h) rfl d_Query_keeps_11 ?_
  refine lv_tableIn (tgt := 48) (off := 34) hx hb d_Query_keeps_14 (by decide) (by decide) (by decide) rfl ?_
  refine lv_lload_n hx hb d_Query_keeps_48 rfl (lv_at hl 0 rfl) ?_
  refine lv_ldc2 (v := (-1099511627776 : Int64)) hx hb hown (hts _ (List.mem_cons_of_mem _ cst_Query_54)) d_Query_keeps_49 ?_
  refine W.lcmp hx hb d_Query_keeps_52 ?_
  refine lv_if_eq (tgt := 70) hx hb d_Query_keeps_53 rfl (fun h53 => ?_) (fun h53 => ?_)
  · skip
    refine lv_iconst (v := nI 0) hx hb d_Query_keeps_70 (by decide) ?_
    exact zk_zretR hx hb hr hlk hQ (by rw [hz]; first | exact zk_t ⟨fun z => h53 ((lg_cmp_eq _ _).mpr z), Int64.not_le.mp (fun z => h63 ((lg_cmp_ge _ _).mpr z))⟩ | exact zk_f (fun q => absurd q.2 (Int64.not_lt.mpr ((lg_cmp_ge _ _).mp h63))) | exact zk_f (fun q => q.1 ((lg_cmp_eq _ _).mp h53))) d_Query_keeps_71
  · skip
    refine lv_lload_n hx hb d_Query_keeps_56 rfl (lv_at hl 0 rfl) ?_
    refine lv_aload_n hx hb d_Query_keeps_57 rfl (lv_at hl 1 rfl) ?_
    refine va_get (C := R_Query) (T := F_Query) (N := 8) hx hb hts (fun w h => List.mem_cons_of_mem _ (hin_Query w h)) hown hK hP 0 rfl rfl 5 (by decide) (hts _ (List.mem_cons_of_mem _ fl_Query_56)) (fun _ h => h) rfl d_Query_keeps_58 ?_
    refine lv_i2l (v := fn.toInt64) hx hb d_Query_keeps_61 (rfl) ?_
    refine W.lcmp hx hb d_Query_keeps_62 ?_
    refine lv_if_ge (tgt := 70) hx hb d_Query_keeps_63 rfl (fun h63 => ?_) (fun h63 => ?_)
    · skip
      refine lv_iconst (v := nI 0) hx hb d_Query_keeps_70 (by decide) ?_
      exact zk_zretR hx hb hr hlk hQ (by rw [hz]; first | exact zk_t ⟨fun z => h53 ((lg_cmp_eq _ _).mpr z), Int64.not_le.mp (fun z => h63 ((lg_cmp_ge _ _).mpr z))⟩ | exact zk_f (fun q => absurd q.2 (Int64.not_lt.mpr ((lg_cmp_ge _ _).mp h63))) | exact zk_f (fun q => q.1 ((lg_cmp_eq _ _).mp h53))) d_Query_keeps_71
    · skip
      refine lv_iconst (v := nI 1) hx hb d_Query_keeps_66 (by decide) ?_
      refine lv_goto (tgt := 71) hx hb d_Query_keeps_67 rfl ?_
      exact zk_zretR hx hb hr hlk hQ (by rw [hz]; first | exact zk_t ⟨fun z => h53 ((lg_cmp_eq _ _).mpr z), Int64.not_le.mp (fun z => h63 ((lg_cmp_ge _ _).mpr z))⟩ | exact zk_f (fun q => absurd q.2 (Int64.not_lt.mpr ((lg_cmp_ge _ _).mp h63))) | exact zk_f (fun q => q.1 ((lg_cmp_eq _ _).mp h53))) d_Query_keeps_71
set_option maxHeartbeats 4000000 in
set_option maxRecDepth 100000 in
theorem c_Query_keeps_1 (l : Launch) (D : va_G) (cI cL cZ cW cR : ClassId) (qo qw wc fc : Nat) (fn jl jr : Int32) (ko : Nat) (r v a b k n nv ns : Nat) (f : Nat → Int64) (g h : Nat → Nat) (i : Nat) (hi : i < ns) (hns : ns < 1000) (hj : g i * k + fc < nv) (hnv : nv < 100000) : Met l y_Query_keeps ws_Query_keeps rm1_30 (zPr D vwCl (zT cI cL cZ cW cR) [(qo, .inr (3, [.ref qw, .ref ko, .int (nI wc), .int (nI fc), .int (nI 1), .int fn, .int jl, .int jr])), (r, .inr (0, [.int (nI k), .ref v, .ref a, .ref b, .int (nI n)])), (v, .inl (cL, nv, .inr (.inl f))), (a, .inl (cI, ns, .inl (zN g))), (b, .inl (cI, ns, .inl (zN h)))] [.ref qo, .ref r, .int (nI i)]) (zSi (zb (fKeep (nI 1) fn (f (g i * k + fc))))) 0 0 (fun _ => False) := by
  refine zk_enterR (cc := b_Query_keeps) (maxL := 5) (ret := some .boolean) (by decide) rfl (Nat.le_of_ble_eq_true rfl) ?_
  intro p e s m args below meth c ls Q hx hb hml hr hlk hown hts hP hK hN hl hQ
  have hl : lv_has ls 5 [(0, .ref qo), (1, .ref r), (2, .int (nI i))] := hl
  have hz : fKeep (nI 1) fn (f (g i * k + fc)) = decide (f (g i * k + fc) ≠ -1099511627776 ∧ f (g i * k + fc) = fn.toInt64) := rfl
  refine lv_aload_n hx hb d_Query_keeps_0 rfl (lv_at hl 1 rfl) ?_
  refine lv_iload_n hx hb d_Query_keeps_1 rfl (lv_at hl 2 rfl) ?_
  refine lv_aload_n hx hb d_Query_keeps_2 rfl (lv_at hl 0 rfl) ?_
  refine va_get (C := R_Query) (T := F_Query) (N := 8) hx hb hts (fun w h => List.mem_cons_of_mem _ (hin_Query w h)) hown hK hP 0 rfl rfl 3 (by decide) (hts _ (List.mem_cons_of_mem _ fl_Query_45)) (fun _ h => h) rfl d_Query_keeps_3 ?_
  have hPc := hP.sub (ws' := [(r, .inr (0, [.int (nI k), .ref v, .ref a, .ref b, .int (nI n)])), (v, .inl (cL, nv, .inr (.inl f))), (a, .inl (cI, ns, .inl (zN g))), (b, .inl (cI, ns, .inl (zN h)))]) [1, 2, 3, 4] rfl
  refine zk_rl (va_runV (As := [.int (nI i), .int (nI fc)]) (rest := []) ⟨hx, hb, hml, hown, hts⟩ (c_Rows_at l D cI cL cZ cW cR r v a b k n nv ns f g h i fc (hi) (hns) (hj) (hnv)) (cwV 2 hts (zk_gV (fun _ h => List.mem_cons_of_mem _ h) ml_Query_48 im_Rows_at se_Rows_at in_Rows co_Rows_at) rfl rfl rfl ⟨rfl, hd_Rows_at⟩ ⟨Nat.le_of_ble_eq_true rfl, Nat.le_of_ble_eq_true rfl⟩) (zk_vr (q0 := 0) hN hK hPc rfl rfl) rfl rfl hl.1 rfl (lv_room (Nat.le_of_ble_eq_true rfl)) d_Query_keeps_6 ⟨Nat.zero_le _, Nat.zero_le _⟩) ?_
  refine lv_lstore_n (lv' := [(3, .long (f (g i * k + fc))), (0, .ref qo), (1, .ref r), (2, .int (nI i))]) hx hb d_Query_keeps_9 rfl hl (by decide) rfl (fun ls hl => ?_)
  refine lv_aload_n hx hb d_Query_keeps_10 rfl (lv_at hl 1 rfl) ?_
  refine va_get (C := R_Query) (T := F_Query) (N := 8) hx hb hts (fun w h => List.mem_cons_of_mem _ (hin_Query w h)) hown hK hP 0 rfl rfl 4 (by decide) (hts _ (List.mem_cons_of_mem _ fl_Query_25)) (fun _ h => h) rfl d_Query_keeps_11 ?_
  refine lv_tableIn (tgt := 72) (off := 58) hx hb d_Query_keeps_14 (by decide) (by decide) (by decide) rfl ?_
  refine lv_lload_n hx hb d_Query_keeps_72 rfl (lv_at hl 0 rfl) ?_
  refine lv_ldc2 (v := (-1099511627776 : Int64)) hx hb hown (hts _ (List.mem_cons_of_mem _ cst_Query_54)) d_Query_keeps_73 ?_
  refine W.lcmp hx hb d_Query_keeps_76 ?_
  refine lv_if_eq (tgt := 94) hx hb d_Query_keeps_77 rfl (fun h77 => ?_) (fun h77 => ?_)
  · skip
    refine lv_iconst (v := nI 0) hx hb d_Query_keeps_94 (by decide) ?_
    exact zk_zretR hx hb hr hlk hQ (by rw [hz]; first | exact zk_t ⟨fun z => h77 ((lg_cmp_eq _ _).mpr z), (lg_cmp_eq _ _).mp h87⟩ | exact zk_f (fun q => h87 ((lg_cmp_eq _ _).mpr q.2)) | exact zk_f (fun q => q.1 ((lg_cmp_eq _ _).mp h77))) d_Query_keeps_95
  · skip
    refine lv_lload_n hx hb d_Query_keeps_80 rfl (lv_at hl 0 rfl) ?_
    refine lv_aload_n hx hb d_Query_keeps_81 rfl (lv_at hl 1 rfl) ?_
    refine va_get (C := R_Query) (T := F_Query) (N := 8) hx hb hts (fun w h => List.mem_cons_of_mem _ (hin_Query w h)) hown hK hP 0 rfl rfl 5 (by decide) (hts _ (List.mem_cons_of_mem _ fl_Query_56)) (fun _ h => h) rfl d_Query_keeps_82 ?_
    refine lv_i2l (v := fn.toInt64) hx hb d_Query_keeps_85 (rfl) ?_
    refine W.lcmp hx hb d_Query_keeps_86 ?_
    refine lv_if_ne (tgt := 94) hx hb d_Query_keeps_87 rfl (fun h87 => ?_) (fun h87 => ?_)
    · skip
      refine lv_iconst (v := nI 0) hx hb d_Query_keeps_94 (by decide) ?_
      exact zk_zretR hx hb hr hlk hQ (by rw [hz]; first | exact zk_t ⟨fun z => h77 ((lg_cmp_eq _ _).mpr z), (lg_cmp_eq _ _).mp h87⟩ | exact zk_f (fun q => h87 ((lg_cmp_eq _ _).mpr q.2)) | exact zk_f (fun q => q.1 ((lg_cmp_eq _ _).mp h77))) d_Query_keeps_95
    · skip
      refine lv_iconst (v := nI 1) hx hb d_Query_keeps_90 (by decide) ?_
      refine lv_goto (tgt := 95) hx hb d_Query_keeps_91 rfl ?_
      exact zk_zretR hx hb hr hlk hQ (by rw [hz]; first | exact zk_t ⟨fun z => h77 ((lg_cmp_eq _ _).mpr z), (lg_cmp_eq _ _).mp h87⟩ | exact zk_f (fun q => h87 ((lg_cmp_eq _ _).mpr q.2)) | exact zk_f (fun q => q.1 ((lg_cmp_eq _ _).mp h77))) d_Query_keeps_95
set_option maxHeartbeats 4000000 in
set_option maxRecDepth 100000 in
theorem c_Query_keeps_2 (l : Launch) (D : va_G) (cI cL cZ cW cR : ClassId) (qo qw wc fc : Nat) (fn jl jr : Int32) (ko : Nat) (r v a b k n nv ns : Nat) (f : Nat → Int64) (g h : Nat → Nat) (i : Nat) (hi : i < ns) (hns : ns < 1000) (hj : g i * k + fc < nv) (hnv : nv < 100000) : Met l y_Query_keeps ws_Query_keeps rm1_30 (zPr D vwCl (zT cI cL cZ cW cR) [(qo, .inr (3, [.ref qw, .ref ko, .int (nI wc), .int (nI fc), .int (nI 2), .int fn, .int jl, .int jr])), (r, .inr (0, [.int (nI k), .ref v, .ref a, .ref b, .int (nI n)])), (v, .inl (cL, nv, .inr (.inl f))), (a, .inl (cI, ns, .inl (zN g))), (b, .inl (cI, ns, .inl (zN h)))] [.ref qo, .ref r, .int (nI i)]) (zSi (zb (fKeep (nI 2) fn (f (g i * k + fc))))) 0 0 (fun _ => False) := by
  refine zk_enterR (cc := b_Query_keeps) (maxL := 5) (ret := some .boolean) (by decide) rfl (Nat.le_of_ble_eq_true rfl) ?_
  intro p e s m args below meth c ls Q hx hb hml hr hlk hown hts hP hK hN hl hQ
  have hl : lv_has ls 5 [(0, .ref qo), (1, .ref r), (2, .int (nI i))] := hl
  have hz : fKeep (nI 2) fn (f (g i * k + fc)) = decide (f (g i * k + fc) ≠ -1099511627776 ∧ fn.toInt64 < f (g i * k + fc)) := rfl
  refine lv_aload_n hx hb d_Query_keeps_0 rfl (lv_at hl 1 rfl) ?_
  refine lv_iload_n hx hb d_Query_keeps_1 rfl (lv_at hl 2 rfl) ?_
  refine lv_aload_n hx hb d_Query_keeps_2 rfl (lv_at hl 0 rfl) ?_
  refine va_get (C := R_Query) (T := F_Query) (N := 8) hx hb hts (fun w h => List.mem_cons_of_mem _ (hin_Query w h)) hown hK hP 0 rfl rfl 3 (by decide) (hts _ (List.mem_cons_of_mem _ fl_Query_45)) (fun _ h => h) rfl d_Query_keeps_3 ?_
  have hPc := hP.sub (ws' := [(r, .inr (0, [.int (nI k), .ref v, .ref a, .ref b, .int (nI n)])), (v, .inl (cL, nv, .inr (.inl f))), (a, .inl (cI, ns, .inl (zN g))), (b, .inl (cI, ns, .inl (zN h)))]) [1, 2, 3, 4] rfl
  refine zk_rl (va_runV (As := [.int (nI i), .int (nI fc)]) (rest := []) ⟨hx, hb, hml, hown, hts⟩ (c_Rows_at l D cI cL cZ cW cR r v a b k n nv ns f g h i fc (hi) (hns) (hj) (hnv)) (cwV 2 hts (zk_gV (fun _ h => List.mem_cons_of_mem _ h) ml_Query_48 im_Rows_at se_Rows_at in_Rows co_Rows_at) rfl rfl rfl ⟨rfl, hd_Rows_at⟩ ⟨Nat.le_of_ble_eq_true rfl, Nat.le_of_ble_eq_true rfl⟩) (zk_vr (q0 := 0) hN hK hPc rfl rfl) rfl rfl hl.1 rfl (lv_room (Nat.le_of_ble_eq_true rfl)) d_Query_keeps_6 ⟨Nat.zero_le _, Nat.zero_le _⟩) ?_
  refine lv_lstore_n (lv' := [(3, .long (f (g i * k + fc))), (0, .ref qo), (1, .ref r), (2, .int (nI i))]) hx hb d_Query_keeps_9 rfl hl (by decide) rfl (fun ls hl => ?_)
  refine lv_aload_n hx hb d_Query_keeps_10 rfl (lv_at hl 1 rfl) ?_
  refine va_get (C := R_Query) (T := F_Query) (N := 8) hx hb hts (fun w h => List.mem_cons_of_mem _ (hin_Query w h)) hown hK hP 0 rfl rfl 4 (by decide) (hts _ (List.mem_cons_of_mem _ fl_Query_25)) (fun _ h => h) rfl d_Query_keeps_11 ?_
  refine lv_tableIn (tgt := 96) (off := 82) hx hb d_Query_keeps_14 (by decide) (by decide) (by decide) rfl ?_
  refine lv_lload_n hx hb d_Query_keeps_96 rfl (lv_at hl 0 rfl) ?_
  refine lv_ldc2 (v := (-1099511627776 : Int64)) hx hb hown (hts _ (List.mem_cons_of_mem _ cst_Query_54)) d_Query_keeps_97 ?_
  refine W.lcmp hx hb d_Query_keeps_100 ?_
  refine lv_if_eq (tgt := 118) hx hb d_Query_keeps_101 rfl (fun h101 => ?_) (fun h101 => ?_)
  · skip
    refine lv_iconst (v := nI 0) hx hb d_Query_keeps_118 (by decide) ?_
    exact zk_zretR hx hb hr hlk hQ (by rw [hz]; first | exact zk_t ⟨fun z => h101 ((lg_cmp_eq _ _).mpr z), Int64.not_le.mp (fun z => h111 ((lg_cmp_le _ _).mpr z))⟩ | exact zk_f (fun q => absurd q.2 (Int64.not_lt.mpr ((lg_cmp_le _ _).mp h111))) | exact zk_f (fun q => q.1 ((lg_cmp_eq _ _).mp h101))) d_Query_keeps_119
  · skip
    refine lv_lload_n hx hb d_Query_keeps_104 rfl (lv_at hl 0 rfl) ?_
    refine lv_aload_n hx hb d_Query_keeps_105 rfl (lv_at hl 1 rfl) ?_
    refine va_get (C := R_Query) (T := F_Query) (N := 8) hx hb hts (fun w h => List.mem_cons_of_mem _ (hin_Query w h)) hown hK hP 0 rfl rfl 5 (by decide) (hts _ (List.mem_cons_of_mem _ fl_Query_56)) (fun _ h => h) rfl d_Query_keeps_106 ?_
    refine lv_i2l (v := fn.toInt64) hx hb d_Query_keeps_109 (rfl) ?_
    refine W.lcmp hx hb d_Query_keeps_110 ?_
    refine lv_if_le (tgt := 118) hx hb d_Query_keeps_111 rfl (fun h111 => ?_) (fun h111 => ?_)
    · skip
      refine lv_iconst (v := nI 0) hx hb d_Query_keeps_118 (by decide) ?_
      exact zk_zretR hx hb hr hlk hQ (by rw [hz]; first | exact zk_t ⟨fun z => h101 ((lg_cmp_eq _ _).mpr z), Int64.not_le.mp (fun z => h111 ((lg_cmp_le _ _).mpr z))⟩ | exact zk_f (fun q => absurd q.2 (Int64.not_lt.mpr ((lg_cmp_le _ _).mp h111))) | exact zk_f (fun q => q.1 ((lg_cmp_eq _ _).mp h101))) d_Query_keeps_119
    · skip
      refine lv_iconst (v := nI 1) hx hb d_Query_keeps_114 (by decide) ?_
      refine lv_goto (tgt := 119) hx hb d_Query_keeps_115 rfl ?_
      exact zk_zretR hx hb hr hlk hQ (by rw [hz]; first | exact zk_t ⟨fun z => h101 ((lg_cmp_eq _ _).mpr z), Int64.not_le.mp (fun z => h111 ((lg_cmp_le _ _).mpr z))⟩ | exact zk_f (fun q => absurd q.2 (Int64.not_lt.mpr ((lg_cmp_le _ _).mp h111))) | exact zk_f (fun q => q.1 ((lg_cmp_eq _ _).mp h101))) d_Query_keeps_119
set_option maxHeartbeats 4000000 in
set_option maxRecDepth 100000 in
theorem c_Query_keeps_3 (l : Launch) (D : va_G) (cI cL cZ cW cR : ClassId) (qo qw wc fc : Nat) (fn jl jr : Int32) (ko : Nat) (r v a b k n nv ns : Nat) (f : Nat → Int64) (g h : Nat → Nat) (i : Nat) (hi : i < ns) (hns : ns < 1000) (hj : g i * k + fc < nv) (hnv : nv < 100000) : Met l y_Query_keeps ws_Query_keeps rm1_30 (zPr D vwCl (zT cI cL cZ cW cR) [(qo, .inr (3, [.ref qw, .ref ko, .int (nI wc), .int (nI fc), .int (nI 3), .int fn, .int jl, .int jr])), (r, .inr (0, [.int (nI k), .ref v, .ref a, .ref b, .int (nI n)])), (v, .inl (cL, nv, .inr (.inl f))), (a, .inl (cI, ns, .inl (zN g))), (b, .inl (cI, ns, .inl (zN h)))] [.ref qo, .ref r, .int (nI i)]) (zSi (zb (fKeep (nI 3) fn (f (g i * k + fc))))) 0 0 (fun _ => False) := by
  refine zk_enterR (cc := b_Query_keeps) (maxL := 5) (ret := some .boolean) (by decide) rfl (Nat.le_of_ble_eq_true rfl) ?_
  intro p e s m args below meth c ls Q hx hb hml hr hlk hown hts hP hK hN hl hQ
  have hl : lv_has ls 5 [(0, .ref qo), (1, .ref r), (2, .int (nI i))] := hl
  have hz : fKeep (nI 3) fn (f (g i * k + fc)) = decide (f (g i * k + fc) = -1099511627776) := rfl
  refine lv_aload_n hx hb d_Query_keeps_0 rfl (lv_at hl 1 rfl) ?_
  refine lv_iload_n hx hb d_Query_keeps_1 rfl (lv_at hl 2 rfl) ?_
  refine lv_aload_n hx hb d_Query_keeps_2 rfl (lv_at hl 0 rfl) ?_
  refine va_get (C := R_Query) (T := F_Query) (N := 8) hx hb hts (fun w h => List.mem_cons_of_mem _ (hin_Query w h)) hown hK hP 0 rfl rfl 3 (by decide) (hts _ (List.mem_cons_of_mem _ fl_Query_45)) (fun _ h => h) rfl d_Query_keeps_3 ?_
  have hPc := hP.sub (ws' := [(r, .inr (0, [.int (nI k), .ref v, .ref a, .ref b, .int (nI n)])), (v, .inl (cL, nv, .inr (.inl f))), (a, .inl (cI, ns, .inl (zN g))), (b, .inl (cI, ns, .inl (zN h)))]) [1, 2, 3, 4] rfl
  refine zk_rl (va_runV (As := [.int (nI i), .int (nI fc)]) (rest := []) ⟨hx, hb, hml, hown, hts⟩ (c_Rows_at l D cI cL cZ cW cR r v a b k n nv ns f g h i fc (hi) (hns) (hj) (hnv)) (cwV 2 hts (zk_gV (fun _ h => List.mem_cons_of_mem _ h) ml_Query_48 im_Rows_at se_Rows_at in_Rows co_Rows_at) rfl rfl rfl ⟨rfl, hd_Rows_at⟩ ⟨Nat.le_of_ble_eq_true rfl, Nat.le_of_ble_eq_true rfl⟩) (zk_vr (q0 := 0) hN hK hPc rfl rfl) rfl rfl hl.1 rfl (lv_room (Nat.le_of_ble_eq_true rfl)) d_Query_keeps_6 ⟨Nat.zero_le _, Nat.zero_le _⟩) ?_
  refine lv_lstore_n (lv' := [(3, .long (f (g i * k + fc))), (0, .ref qo), (1, .ref r), (2, .int (nI i))]) hx hb d_Query_keeps_9 rfl hl (by decide) rfl (fun ls hl => ?_)
  refine lv_aload_n hx hb d_Query_keeps_10 rfl (lv_at hl 1 rfl) ?_
  refine va_get (C := R_Query) (T := F_Query) (N := 8) hx hb hts (fun w h => List.mem_cons_of_mem _ (hin_Query w h)) hown hK hP 0 rfl rfl 4 (by decide) (hts _ (List.mem_cons_of_mem _ fl_Query_25)) (fun _ h => h) rfl d_Query_keeps_11 ?_
  refine lv_tableIn (tgt := 120) (off := 106) hx hb d_Query_keeps_14 (by decide) (by decide) (by decide) rfl ?_
  refine lv_lload_n hx hb d_Query_keeps_120 rfl (lv_at hl 0 rfl) ?_
  refine lv_ldc2 (v := (-1099511627776 : Int64)) hx hb hown (hts _ (List.mem_cons_of_mem _ cst_Query_54)) d_Query_keeps_121 ?_
  refine W.lcmp hx hb d_Query_keeps_124 ?_
  refine lv_if_ne (tgt := 132) hx hb d_Query_keeps_125 rfl (fun h125 => ?_) (fun h125 => ?_)
  · skip
    refine lv_iconst (v := nI 0) hx hb d_Query_keeps_132 (by decide) ?_
    exact zk_zretR hx hb hr hlk hQ (by rw [hz]; first | exact zk_t ((lg_cmp_eq _ _).mp h125) | exact zk_f (fun q => h125 ((lg_cmp_eq _ _).mpr q))) d_Query_keeps_133
  · skip
    refine lv_iconst (v := nI 1) hx hb d_Query_keeps_128 (by decide) ?_
    refine lv_goto (tgt := 133) hx hb d_Query_keeps_129 rfl ?_
    exact zk_zretR hx hb hr hlk hQ (by rw [hz]; first | exact zk_t ((lg_cmp_eq _ _).mp h125) | exact zk_f (fun q => h125 ((lg_cmp_eq _ _).mpr q))) d_Query_keeps_133
set_option maxHeartbeats 4000000 in
set_option maxRecDepth 100000 in
theorem c_Query_keeps_4 (l : Launch) (D : va_G) (cI cL cZ cW cR : ClassId) (qo qw wc fc : Nat) (fn jl jr : Int32) (ko : Nat) (r v a b k n nv ns : Nat) (f : Nat → Int64) (g h : Nat → Nat) (i : Nat) (hi : i < ns) (hns : ns < 1000) (hj : g i * k + fc < nv) (hnv : nv < 100000) : Met l y_Query_keeps ws_Query_keeps rm1_30 (zPr D vwCl (zT cI cL cZ cW cR) [(qo, .inr (3, [.ref qw, .ref ko, .int (nI wc), .int (nI fc), .int (nI 4), .int fn, .int jl, .int jr])), (r, .inr (0, [.int (nI k), .ref v, .ref a, .ref b, .int (nI n)])), (v, .inl (cL, nv, .inr (.inl f))), (a, .inl (cI, ns, .inl (zN g))), (b, .inl (cI, ns, .inl (zN h)))] [.ref qo, .ref r, .int (nI i)]) (zSi (zb (fKeep (nI 4) fn (f (g i * k + fc))))) 0 0 (fun _ => False) := by
  refine zk_enterR (cc := b_Query_keeps) (maxL := 5) (ret := some .boolean) (by decide) rfl (Nat.le_of_ble_eq_true rfl) ?_
  intro p e s m args below meth c ls Q hx hb hml hr hlk hown hts hP hK hN hl hQ
  have hl : lv_has ls 5 [(0, .ref qo), (1, .ref r), (2, .int (nI i))] := hl
  have hz : fKeep (nI 4) fn (f (g i * k + fc)) = decide (f (g i * k + fc) ≠ -1099511627776) := rfl
  refine lv_aload_n hx hb d_Query_keeps_0 rfl (lv_at hl 1 rfl) ?_
  refine lv_iload_n hx hb d_Query_keeps_1 rfl (lv_at hl 2 rfl) ?_
  refine lv_aload_n hx hb d_Query_keeps_2 rfl (lv_at hl 0 rfl) ?_
  refine va_get (C := R_Query) (T := F_Query) (N := 8) hx hb hts (fun w h => List.mem_cons_of_mem _ (hin_Query w h)) hown hK hP 0 rfl rfl 3 (by decide) (hts _ (List.mem_cons_of_mem _ fl_Query_45)) (fun _ h => h) rfl d_Query_keeps_3 ?_
  have hPc := hP.sub (ws' := [(r, .inr (0, [.int (nI k), .ref v, .ref a, .ref b, .int (nI n)])), (v, .inl (cL, nv, .inr (.inl f))), (a, .inl (cI, ns, .inl (zN g))), (b, .inl (cI, ns, .inl (zN h)))]) [1, 2, 3, 4] rfl
  refine zk_rl (va_runV (As := [.int (nI i), .int (nI fc)]) (rest := []) ⟨hx, hb, hml, hown, hts⟩ (c_Rows_at l D cI cL cZ cW cR r v a b k n nv ns f g h i fc (hi) (hns) (hj) (hnv)) (cwV 2 hts (zk_gV (fun _ h => List.mem_cons_of_mem _ h) ml_Query_48 im_Rows_at se_Rows_at in_Rows co_Rows_at) rfl rfl rfl ⟨rfl, hd_Rows_at⟩ ⟨Nat.le_of_ble_eq_true rfl, Nat.le_of_ble_eq_true rfl⟩) (zk_vr (q0 := 0) hN hK hPc rfl rfl) rfl rfl hl.1 rfl (lv_room (Nat.le_of_ble_eq_true rfl)) d_Query_keeps_6 ⟨Nat.zero_le _, Nat.zero_le _⟩) ?_
  refine lv_lstore_n (lv' := [(3, .long (f (g i * k + fc))), (0, .ref qo), (1, .ref r), (2, .int (nI i))]) hx hb d_Query_keeps_9 rfl hl (by decide) rfl (fun ls hl => ?_)
  refine lv_aload_n hx hb d_Query_keeps_10 rfl (lv_at hl 1 rfl) ?_
  refine va_get (C := R_Query) (T := F_Query) (N := 8) hx hb hts (fun w h => List.mem_cons_of_mem _ (hin_Query w h)) hown hK hP 0 rfl rfl 4 (by decide) (hts _ (List.mem_cons_of_mem _ fl_Query_25)) (fun _ h => h) rfl d_Query_keeps_11 ?_
  refine lv_tableIn (tgt := 134) (off := 120) hx hb d_Query_keeps_14 (by decide) (by decide) (by decide) rfl ?_
  refine lv_lload_n hx hb d_Query_keeps_134 rfl (lv_at hl 0 rfl) ?_
  refine lv_ldc2 (v := (-1099511627776 : Int64)) hx hb hown (hts _ (List.mem_cons_of_mem _ cst_Query_54)) d_Query_keeps_135 ?_
  refine W.lcmp hx hb d_Query_keeps_138 ?_
  refine lv_if_eq (tgt := 146) hx hb d_Query_keeps_139 rfl (fun h139 => ?_) (fun h139 => ?_)
  · skip
    refine lv_iconst (v := nI 0) hx hb d_Query_keeps_146 (by decide) ?_
    exact zk_zretR hx hb hr hlk hQ (by rw [hz]; first | exact zk_t (fun q => h139 ((lg_cmp_eq _ _).mpr q)) | exact zk_f (fun q => q ((lg_cmp_eq _ _).mp h139))) d_Query_keeps_147
  · skip
    refine lv_iconst (v := nI 1) hx hb d_Query_keeps_142 (by decide) ?_
    refine lv_goto (tgt := 147) hx hb d_Query_keeps_143 rfl ?_
    exact zk_zretR hx hb hr hlk hQ (by rw [hz]; first | exact zk_t (fun q => h139 ((lg_cmp_eq _ _).mpr q)) | exact zk_f (fun q => q ((lg_cmp_eq _ _).mp h139))) d_Query_keeps_147
theorem c_Query_keeps (l : Launch) (D : va_G) (cI cL cZ cW cR : ClassId) (qo qw wc fc : Nat) (fo fn jl jr : Int32) (ko : Nat) (r v a b k n nv ns : Nat) (f : Nat → Int64) (g h : Nat → Nat) (i : Nat) (hi : i < ns) (hns : ns < 1000) (hj : g i * k + fc < nv) (hnv : nv < 100000) (hfo : fo = -1 ∨ fo = nI 0 ∨ fo = nI 1 ∨ fo = nI 2 ∨ fo = nI 3 ∨ fo = nI 4) : Met l y_Query_keeps ws_Query_keeps rm1_30 (zPr D vwCl (zT cI cL cZ cW cR) [(qo, .inr (3, [.ref qw, .ref ko, .int (nI wc), .int (nI fc), .int fo, .int fn, .int jl, .int jr])), (r, .inr (0, [.int (nI k), .ref v, .ref a, .ref b, .int (nI n)])), (v, .inl (cL, nv, .inr (.inl f))), (a, .inl (cI, ns, .inl (zN g))), (b, .inl (cI, ns, .inl (zN h)))] [.ref qo, .ref r, .int (nI i)]) (zSi (zb (fKeep fo fn (f (g i * k + fc))))) 0 0 (fun _ => False) := by
  rcases hfo with rfl | rfl | rfl | rfl | rfl | rfl
  · exact c_Query_keeps_n l D cI cL cZ cW cR qo qw wc fc fn jl jr ko r v a b k n nv ns f g h i hi hns hj hnv
  · exact c_Query_keeps_0 l D cI cL cZ cW cR qo qw wc fc fn jl jr ko r v a b k n nv ns f g h i hi hns hj hnv
  · exact c_Query_keeps_1 l D cI cL cZ cW cR qo qw wc fc fn jl jr ko r v a b k n nv ns f g h i hi hns hj hnv
  · exact c_Query_keeps_2 l D cI cL cZ cW cR qo qw wc fc fn jl jr ko r v a b k n nv ns f g h i hi hns hj hnv
  · exact c_Query_keeps_3 l D cI cL cZ cW cR qo qw wc fc fn jl jr ko r v a b k n nv ns f g h i hi hns hj hnv
  · exact c_Query_keeps_4 l D cI cL cZ cW cR qo qw wc fc fn jl jr ko r v a b k n nv ns f g h i hi hns hj hnv
set_option maxHeartbeats 4000000 in
set_option maxRecDepth 100000 in
theorem c_Meter_reset (l : Launch) (D : va_G) (cI cL cZ cW cR : ClassId) (sz : Nat) (mo fr tr mh sm : Nat) : Met l y_Meter_reset ws_Meter_reset rm0_0 (zPw D vwCl (zT cI cL cZ cW cR) [(mo, .inr (4, [.int (nI fr), .int (nI tr), .int (nI mh), .int (nI sm)]))] sz [.ref mo]) (zQv D vwCl (zT cI cL cZ cW cR) [(mo, .inr (4, [.int (nI fr), .int (nI tr), .int (nI mh), .int (nI sm)]))] sz (fun _ : Unit => True) (fun _ => [(mo, .inr (4, [.int (nI fr), .int (nI 0), .int (nI 0), .int (nI 0)]))])) 0 0 (va_A [(mo, .inr (4, [.int (nI fr), .int (nI tr), .int (nI mh), .int (nI sm)]))] sz) := by
  refine zk_enterW (cc := b_Meter_reset) (maxL := 1) (ret := none) (by decide) rfl (Nat.le_of_ble_eq_true rfl) ?_
  intro p e s m args below meth c ls Q hx hb hml hr hlk hown hts hP hK hN hl hin hsz A hAe hA hD hS hQ
  subst hsz
  have hl : lv_has ls 1 [(0, .ref mo)] := hl
  refine lv_aload_n hx hb d_Meter_reset_0 rfl (lv_at hl 0 rfl) ?_
  refine lv_iconst (v := nI 0) hx hb d_Meter_reset_1 (by decide) ?_
  refine va_put (D := D) (v := .int (nI 0)) (ty := .int) (C := R_Meter) (T := F_Meter) (N := 4) hx hb hts (fun w h => List.mem_cons_of_mem _ (hin_Meter w h)) t_Meter t_Meter_ok n_Meter hown hK hP hD hS 0 rfl rfl 1 (by decide) (hts _ (List.mem_cons_of_mem _ fl_Meter_13)) (fun _ h => h) rfl (by decide +kernel) rfl rfl (Nat.le_of_ble_eq_true rfl) d_Meter_reset_2 (fun H locs hP hD hS => ?_)
  have hP : va_P D vwCl [(mo, .inr (4, [.int (nI fr), .int (nI 0), .int (nI mh), .int (nI sm)]))] H := hP
  have hD : va_D A [(mo, .inr (4, [.int (nI fr), .int (nI 0), .int (nI mh), .int (nI sm)]))] := hD
  refine lv_aload_n hx hb d_Meter_reset_5 rfl (lv_at hl 0 rfl) ?_
  refine lv_iconst (v := nI 0) hx hb d_Meter_reset_6 (by decide) ?_
  refine va_put (D := D) (v := .int (nI 0)) (ty := .int) (C := R_Meter) (T := F_Meter) (N := 4) hx hb hts (fun w h => List.mem_cons_of_mem _ (hin_Meter w h)) t_Meter t_Meter_ok n_Meter hown hK hP hD hS 0 rfl rfl 2 (by decide) (hts _ (List.mem_cons_of_mem _ fl_Meter_16)) (fun _ h => h) rfl (by decide +kernel) rfl rfl (Nat.le_of_ble_eq_true rfl) d_Meter_reset_7 (fun H locs hP hD hS => ?_)
  have hP : va_P D vwCl [(mo, .inr (4, [.int (nI fr), .int (nI 0), .int (nI 0), .int (nI sm)]))] H := hP
  have hD : va_D A [(mo, .inr (4, [.int (nI fr), .int (nI 0), .int (nI 0), .int (nI sm)]))] := hD
  refine lv_aload_n hx hb d_Meter_reset_10 rfl (lv_at hl 0 rfl) ?_
  refine lv_iconst (v := nI 0) hx hb d_Meter_reset_11 (by decide) ?_
  refine va_put (D := D) (v := .int (nI 0)) (ty := .int) (C := R_Meter) (T := F_Meter) (N := 4) hx hb hts (fun w h => List.mem_cons_of_mem _ (hin_Meter w h)) t_Meter t_Meter_ok n_Meter hown hK hP hD hS 0 rfl rfl 3 (by decide) (hts _ (List.mem_cons_of_mem _ fl_Meter_19)) (fun _ h => h) rfl (by decide +kernel) rfl rfl (Nat.le_of_ble_eq_true rfl) d_Meter_reset_12 (fun H locs hP hD hS => ?_)
  have hP : va_P D vwCl [(mo, .inr (4, [.int (nI fr), .int (nI 0), .int (nI 0), .int (nI 0)]))] H := hP
  have hD : va_D A [(mo, .inr (4, [.int (nI fr), .int (nI 0), .int (nI 0), .int (nI 0)]))] := hD
  exact zk_vretW hx hb hr hlk hAe hQ hK (()) (trivial) hP hD hS d_Meter_reset_15
set_option maxHeartbeats 4000000 in
set_option maxRecDepth 100000 in
theorem c_Meter_addStep (l : Launch) (D : va_G) (cI cL cZ cW cR : ClassId) (sz : Nat) (mo fr tr mh sm : Nat) (b0 h0 : Nat) (hmh : mh < 1000) (hh0 : h0 < 1000) : Met l y_Meter_addStep ws_Meter_addStep rm1_30 (zPw D vwCl (zT cI cL cZ cW cR) [(mo, .inr (4, [.int (nI fr), .int (nI tr), .int (nI mh), .int (nI sm)]))] sz [.ref mo, .int (nI b0), .int (nI h0)]) (zQv D vwCl (zT cI cL cZ cW cR) [(mo, .inr (4, [.int (nI fr), .int (nI tr), .int (nI mh), .int (nI sm)]))] sz (fun _ : Unit => True) (fun _ => [(mo, .inr (4, [.int (nI fr), .int (nI (tr + b0)), .int (nI (max mh h0)), .int (nI sm)]))])) 0 0 (va_A [(mo, .inr (4, [.int (nI fr), .int (nI tr), .int (nI mh), .int (nI sm)]))] sz) := by
  refine zk_enterW (cc := b_Meter_addStep) (maxL := 3) (ret := none) (by decide) rfl (Nat.le_of_ble_eq_true rfl) ?_
  intro p e s m args below meth c ls Q hx hb hml hr hlk hown hts hP hK hN hl hin hsz A hAe hA hD hS hQ
  subst hsz
  have hl : lv_has ls 3 [(0, .ref mo), (1, .int (nI b0)), (2, .int (nI h0))] := hl
  refine lv_aload_n hx hb d_Meter_addStep_0 rfl (lv_at hl 0 rfl) ?_
  refine lv_dup hx hb d_Meter_addStep_1 rfl ?_
  refine va_get (C := R_Meter) (T := F_Meter) (N := 4) hx hb hts (fun w h => List.mem_cons_of_mem _ (hin_Meter w h)) hown hK hP 0 rfl rfl 1 (by decide) (hts _ (List.mem_cons_of_mem _ fl_Meter_13)) (fun _ h => h) rfl d_Meter_addStep_2 ?_
  refine lv_iload_n hx hb d_Meter_addStep_5 rfl (lv_at hl 1 rfl) ?_
  refine lv_iadd hx hb d_Meter_addStep_6 ?_
  refine zk_topi (show ((nI tr) + (nI b0)) = nI (tr + b0) from nI_add tr b0) ?_
  refine va_put (D := D) (v := .int (nI (tr + b0))) (ty := .int) (C := R_Meter) (T := F_Meter) (N := 4) hx hb hts (fun w h => List.mem_cons_of_mem _ (hin_Meter w h)) t_Meter t_Meter_ok n_Meter hown hK hP hD hS 0 rfl rfl 1 (by decide) (hts _ (List.mem_cons_of_mem _ fl_Meter_13)) (fun _ h => h) rfl (by decide +kernel) rfl rfl (Nat.le_of_ble_eq_true rfl) d_Meter_addStep_7 (fun H locs hP hD hS => ?_)
  have hP : va_P D vwCl [(mo, .inr (4, [.int (nI fr), .int (nI (tr + b0)), .int (nI mh), .int (nI sm)]))] H := hP
  have hD : va_D A [(mo, .inr (4, [.int (nI fr), .int (nI (tr + b0)), .int (nI mh), .int (nI sm)]))] := hD
  refine lv_aload_n hx hb d_Meter_addStep_10 rfl (lv_at hl 0 rfl) ?_
  refine lv_aload_n hx hb d_Meter_addStep_11 rfl (lv_at hl 0 rfl) ?_
  refine va_get (C := R_Meter) (T := F_Meter) (N := 4) hx hb hts (fun w h => List.mem_cons_of_mem _ (hin_Meter w h)) hown hK hP 0 rfl rfl 2 (by decide) (hts _ (List.mem_cons_of_mem _ fl_Meter_16)) (fun _ h => h) rfl d_Meter_addStep_12 ?_
  refine lv_iload_n hx hb d_Meter_addStep_15 rfl (lv_at hl 2 rfl) ?_
  refine va_mmax hx hb (hml.trans hl.1.symm) hown (hts _ (List.mem_cons_of_mem _ ml_Meter_22)) (hts _ (List.mem_cons_of_mem _ sm_Math_max)) (hts _ (List.mem_cons_of_mem _ in_Math)) (hts _ (List.mem_cons_of_mem _ co_Math_max)) (Nat.le_of_ble_eq_true rfl) (Nat.le_of_ble_eq_true rfl) (Nat.le_of_ble_eq_true rfl) (Nat.le_of_ble_eq_true rfl) d_Meter_addStep_16 ?_
  refine zk_topi (show (if nI mh < nI h0 then nI h0 else nI mh) = nI (max mh h0) from zk_nmax (by omega) (by omega)) ?_
  refine va_put (D := D) (v := .int (nI (max mh h0))) (ty := .int) (C := R_Meter) (T := F_Meter) (N := 4) hx hb hts (fun w h => List.mem_cons_of_mem _ (hin_Meter w h)) t_Meter t_Meter_ok n_Meter hown hK hP hD hS 0 rfl rfl 2 (by decide) (hts _ (List.mem_cons_of_mem _ fl_Meter_16)) (fun _ h => h) rfl (by decide +kernel) rfl rfl (Nat.le_of_ble_eq_true rfl) d_Meter_addStep_19 (fun H locs hP hD hS => ?_)
  have hP : va_P D vwCl [(mo, .inr (4, [.int (nI fr), .int (nI (tr + b0)), .int (nI (max mh h0)), .int (nI sm)]))] H := hP
  have hD : va_D A [(mo, .inr (4, [.int (nI fr), .int (nI (tr + b0)), .int (nI (max mh h0)), .int (nI sm)]))] := hD
  exact zk_vretW hx hb hr hlk hAe hQ hK (()) (trivial) hP hD hS d_Meter_addStep_22
set_option maxHeartbeats 4000000 in
set_option maxRecDepth 100000 in
theorem c_Meter_addSort (l : Launch) (D : va_G) (cI cL cZ cW cR : ClassId) (sz : Nat) (mo fr tr mh sm : Nat) (n0 : Nat) (hn0 : n0 < 1000) (hfr : 3 ≤ fr) (hfr2 : fr ≤ 8) (hmh : mh < 500) : Met l y_Meter_addSort ws_Meter_addSort rm3_90 (zPw D vwCl (zT cI cL cZ cW cR) [(mo, .inr (4, [.int (nI fr), .int (nI tr), .int (nI mh), .int (nI sm)]))] sz [.ref mo, .int (nI n0)]) (zQv D vwCl (zT cI cL cZ cW cR) [(mo, .inr (4, [.int (nI fr), .int (nI tr), .int (nI mh), .int (nI sm)]))] sz (fun _ : Unit => True) (fun _ => [(mo, .inr (4, [.int (nI fr), .int (nI ((sLoop (fr - 1) ((n0 + 3) / 4) ((n0 + 3) / 4 - 1) (((n0 + 3) / 4 + fr - 1) / fr) (tr + 2 * ((n0 + 3) / 4)) (max mh (min fr ((n0 + 3) / 4)))).1)), .int (nI ((sLoop (fr - 1) ((n0 + 3) / 4) ((n0 + 3) / 4 - 1) (((n0 + 3) / 4 + fr - 1) / fr) (tr + 2 * ((n0 + 3) / 4)) (max mh (min fr ((n0 + 3) / 4)))).2)), .int (nI (sm + 1))]))])) 0 0 (va_A [(mo, .inr (4, [.int (nI fr), .int (nI tr), .int (nI mh), .int (nI sm)]))] sz) := by
  refine zk_enterW (cc := b_Meter_addSort) (maxL := 6) (ret := none) (by decide) rfl (Nat.le_of_ble_eq_true rfl) ?_
  intro p e s m args below meth c ls Q hx hb hml hr hlk hown hts hP hK hN hl hin hsz A hAe hA hD hS hQ
  subst hsz
  have hl : lv_has ls 6 [(0, .ref mo), (1, .int (nI n0))] := hl
  refine lv_aload_n hx hb d_Meter_addSort_0 rfl (lv_at hl 0 rfl) ?_
  refine lv_dup hx hb d_Meter_addSort_1 rfl ?_
  refine va_get (C := R_Meter) (T := F_Meter) (N := 4) hx hb hts (fun w h => List.mem_cons_of_mem _ (hin_Meter w h)) hown hK hP 0 rfl rfl 3 (by decide) (hts _ (List.mem_cons_of_mem _ fl_Meter_19)) (fun _ h => h) rfl d_Meter_addSort_2 ?_
  refine lv_iconst (v := nI 1) hx hb d_Meter_addSort_5 (by decide) ?_
  refine lv_iadd hx hb d_Meter_addSort_6 ?_
  refine zk_topi (show ((nI sm) + (nI 1)) = nI (sm + 1) from nI_add sm 1) ?_
  refine va_put (D := D) (v := .int (nI (sm + 1))) (ty := .int) (C := R_Meter) (T := F_Meter) (N := 4) hx hb hts (fun w h => List.mem_cons_of_mem _ (hin_Meter w h)) t_Meter t_Meter_ok n_Meter hown hK hP hD hS 0 rfl rfl 3 (by decide) (hts _ (List.mem_cons_of_mem _ fl_Meter_19)) (fun _ h => h) rfl (by decide +kernel) rfl rfl (Nat.le_of_ble_eq_true rfl) d_Meter_addSort_7 (fun H locs hP hD hS => ?_)
  have hP : va_P D vwCl [(mo, .inr (4, [.int (nI fr), .int (nI tr), .int (nI mh), .int (nI (sm + 1))]))] H := hP
  have hD : va_D A [(mo, .inr (4, [.int (nI fr), .int (nI tr), .int (nI mh), .int (nI (sm + 1))]))] := hD
  refine lv_iload_n hx hb d_Meter_addSort_10 rfl (lv_at hl 1 rfl) ?_
  have hPc := hP.sub (ws' := []) [] rfl
  refine zk_ri (va_runSN (As := [.int (nI n0)]) (rest := []) ⟨hx, hb, hml, hown, hts⟩ (c_FQ_blocksOf l D cI cL cZ cW cR n0 (by omega)) ⟨(va_cnB 1 hts (zk_gC (fun _ h => List.mem_cons_of_mem _ h) co_FQ_blocksOf) rfl rfl rfl (hN.1 _ nl_Meter_28) (hts _ (List.mem_cons_of_mem _ in_FQ)) hd_FQ_blocksOf ⟨Nat.le_of_ble_eq_true rfl, Nat.le_of_ble_eq_true rfl⟩), (hts _ (List.mem_cons_of_mem _ sm_FQ_blocksOf)), trivial⟩ (zk_sr hN hK hPc) rfl rfl hl.1 rfl (lv_room (Nat.le_of_ble_eq_true rfl)) d_Meter_addSort_11 ⟨Nat.zero_le _, Nat.zero_le _⟩) ?_
  refine lv_istore_n (lv' := [(2, .int (nI ((n0 + 3) / 4))), (0, .ref mo), (1, .int (nI n0))]) hx hb d_Meter_addSort_14 rfl hl (by decide) rfl (fun ls hl => ?_)
  refine lv_aload_n hx hb d_Meter_addSort_15 rfl (lv_at hl 1 rfl) ?_
  refine va_get (C := R_Meter) (T := F_Meter) (N := 4) hx hb hts (fun w h => List.mem_cons_of_mem _ (hin_Meter w h)) hown hK hP 0 rfl rfl 0 (by decide) (hts _ (List.mem_cons_of_mem _ fl_Meter_7)) (fun _ h => h) rfl d_Meter_addSort_16 ?_
  refine lv_iconst (v := nI 1) hx hb d_Meter_addSort_19 (by decide) ?_
  refine lv_isub hx hb d_Meter_addSort_20 ?_
  refine zk_topi (show ((nI fr) - (nI 1)) = nI (fr - 1) from pk_sub (by omega)) ?_
  refine lv_istore_n (lv' := [(3, .int (nI (fr - 1))), (2, .int (nI ((n0 + 3) / 4))), (0, .ref mo), (1, .int (nI n0))]) hx hb d_Meter_addSort_21 rfl hl (by decide) rfl (fun ls hl => ?_)
  refine lv_aload_n hx hb d_Meter_addSort_22 rfl (lv_at hl 2 rfl) ?_
  refine lv_iconst (v := nI 2) hx hb d_Meter_addSort_23 (by decide) ?_
  refine lv_iload_n hx hb d_Meter_addSort_24 rfl (lv_at hl 1 rfl) ?_
  refine lv_imul hx hb d_Meter_addSort_25 ?_
  refine zk_topi (show ((nI 2) * (nI ((n0 + 3) / 4))) = nI (2 * ((n0 + 3) / 4)) from pk_mul 2 ((n0 + 3) / 4)) ?_
  refine lv_aload_n hx hb d_Meter_addSort_26 rfl (lv_at hl 2 rfl) ?_
  refine va_get (C := R_Meter) (T := F_Meter) (N := 4) hx hb hts (fun w h => List.mem_cons_of_mem _ (hin_Meter w h)) hown hK hP 0 rfl rfl 0 (by decide) (hts _ (List.mem_cons_of_mem _ fl_Meter_7)) (fun _ h => h) rfl d_Meter_addSort_27 ?_
  refine lv_iload_n hx hb d_Meter_addSort_30 rfl (lv_at hl 1 rfl) ?_
  refine va_mmin hx hb (hml.trans hl.1.symm) hown (hts _ (List.mem_cons_of_mem _ ml_Meter_34)) (hts _ (List.mem_cons_of_mem _ sm_Math_min)) (hts _ (List.mem_cons_of_mem _ in_Math)) (hts _ (List.mem_cons_of_mem _ co_Math_min)) (Nat.le_of_ble_eq_true rfl) (Nat.le_of_ble_eq_true rfl) (Nat.le_of_ble_eq_true rfl) (Nat.le_of_ble_eq_true rfl) d_Meter_addSort_31 ?_
  refine zk_topi (show (if nI ((n0 + 3) / 4) < nI fr then nI ((n0 + 3) / 4) else nI fr) = nI (min fr ((n0 + 3) / 4)) from zk_nmin (by omega) (by omega)) ?_
  have hPc := hP.sub (ws' := [(mo, .inr (4, [.int (nI fr), .int (nI tr), .int (nI mh), .int (nI (sm + 1))]))]) [0] rfl
  have hDc := hD.sub (ws' := [(mo, .inr (4, [.int (nI fr), .int (nI tr), .int (nI mh), .int (nI (sm + 1))]))]) [0] (by decide) rfl
  refine zk_wv (wr := []) (w2 := (fun _ => [(mo, .inr (4, [.int (nI fr), .int (nI (tr + (2 * ((n0 + 3) / 4)))), .int (nI (max mh (min fr ((n0 + 3) / 4)))), .int (nI (sm + 1))]))])) hP hD hS hA [0] [] [0] rfl rfl (by decide) (by decide) (fun _ => rfl) (by decide) (va_runV (As := [.int (nI (2 * ((n0 + 3) / 4))), .int (nI (min fr ((n0 + 3) / 4)))]) (rest := []) ⟨hx, hb, hml, hown, hts⟩ (c_Meter_addStep l D cI cL cZ cW cR _ mo fr tr mh (sm + 1) (2 * ((n0 + 3) / 4)) (min fr ((n0 + 3) / 4)) (by omega) (by omega)) (cwV 2 hts (zk_gV (fun _ h => List.mem_cons_of_mem _ h) ml_Meter_37 im_Meter_addStep se_Meter_addStep in_Meter co_Meter_addStep) rfl rfl rfl ⟨rfl, hd_Meter_addStep⟩ ⟨Nat.le_of_ble_eq_true rfl, Nat.le_of_ble_eq_true rfl⟩) (zk_vw (q0 := 0) hN hK hPc hDc rfl rfl) rfl rfl hl.1 rfl (lv_room (Nat.le_of_ble_eq_true rfl)) d_Meter_addSort_34 ⟨Nat.zero_le _, Nat.zero_le _⟩) (fun u H locs hpost hP hD hS => ?_)
  have hP : va_P D vwCl [(mo, .inr (4, [.int (nI fr), .int (nI (tr + (2 * ((n0 + 3) / 4)))), .int (nI (max mh (min fr ((n0 + 3) / 4)))), .int (nI (sm + 1))]))] H := hP
  have hD : va_D A [(mo, .inr (4, [.int (nI fr), .int (nI (tr + (2 * ((n0 + 3) / 4)))), .int (nI (max mh (min fr ((n0 + 3) / 4)))), .int (nI (sm + 1))]))] := hD
  refine lv_iload_n hx hb d_Meter_addSort_37 rfl (lv_at hl 1 rfl) ?_
  refine lv_aload_n hx hb d_Meter_addSort_38 rfl (lv_at hl 2 rfl) ?_
  refine va_get (C := R_Meter) (T := F_Meter) (N := 4) hx hb hts (fun w h => List.mem_cons_of_mem _ (hin_Meter w h)) hown hK hP 0 rfl rfl 0 (by decide) (hts _ (List.mem_cons_of_mem _ fl_Meter_7)) (fun _ h => h) rfl d_Meter_addSort_39 ?_
  have hPc := hP.sub (ws' := []) [] rfl
  refine zk_ri (va_runSN (As := [.int (nI ((n0 + 3) / 4)), .int (nI fr)]) (rest := []) ⟨hx, hb, hml, hown, hts⟩ (c_FQ_quotientUp l D cI cL cZ cW cR ((n0 + 3) / 4) fr (by omega) (by omega)) ⟨(va_cnB 2 hts (zk_gC (fun _ h => List.mem_cons_of_mem _ h) co_FQ_quotientUp) rfl rfl rfl (hN.1 _ nl_Meter_41) (hts _ (List.mem_cons_of_mem _ in_FQ)) hd_FQ_quotientUp ⟨Nat.le_of_ble_eq_true rfl, Nat.le_of_ble_eq_true rfl⟩), (hts _ (List.mem_cons_of_mem _ sm_FQ_quotientUp)), trivial⟩ (zk_sr hN hK hPc) rfl rfl hl.1 rfl (lv_room (Nat.le_of_ble_eq_true rfl)) d_Meter_addSort_42 ⟨Nat.zero_le _, Nat.zero_le _⟩) ?_
  refine lv_istore (lv' := [(4, .int (nI (((n0 + 3) / 4 + fr - 1) / fr))), (3, .int (nI (fr - 1))), (2, .int (nI ((n0 + 3) / 4))), (0, .ref mo), (1, .int (nI n0))]) hx hb d_Meter_addSort_45 hl (by decide) rfl (fun ls hl => ?_)
  refine lv_iconst (v := nI 1) hx hb d_Meter_addSort_47 (by decide) ?_
  refine lv_istore (lv' := [(5, .int (nI 1)), (4, .int (nI (((n0 + 3) / 4 + fr - 1) / fr))), (3, .int (nI (fr - 1))), (2, .int (nI ((n0 + 3) / 4))), (0, .ref mo), (1, .int (nI n0))]) hx hb d_Meter_addSort_48 hl (by decide) rfl (fun ls hl => ?_)
  have lb50 : ∀ (fuel : Nat) (t : Nat) (ru : Nat) (tr1 : Nat) (mh1 : Nat), (1 ≤ t) → (t < 2000) → (ru < 500) → (mh1 < 500) → (sLoop (fr - 1) ((n0 + 3) / 4) ((n0 + 3) / 4 - t) ru tr1 mh1 = sLoop (fr - 1) ((n0 + 3) / 4) ((n0 + 3) / 4 - 1) (((n0 + 3) / 4 + fr - 1) / fr) (tr + 2 * ((n0 + 3) / 4)) (max mh (min fr ((n0 + 3) / 4)))) → (n0 + 3) / 4 - t < fuel → ∀ (ls : Array Slot) (H : Heap) (locs : List Loc), lv_has ls 6 [(0, .ref mo), (1, .int (nI n0)), (2, .int (nI ((n0 + 3) / 4))), (3, .int (nI (fr - 1))), (4, .int (nI ru)), (5, .int (nI t))] → va_P D vwCl [(mo, .inr (4, [.int (nI fr), .int (nI tr1), .int (nI mh1), .int (nI (sm + 1))]))] H → va_D A [(mo, .inr (4, [.int (nI fr), .int (nI tr1), .int (nI mh1), .int (nI (sm + 1))]))] → va_S A s.heap H locs → W p l e rm3_90 s m args below meth c H locs 0 0 Q (F0 m 50 ls []) := by
    intro fuel
    induction fuel with
    | zero => intro t ru tr1 mh1 ht ht2 hru hmh1 he hfu; exact absurd hfu (Nat.not_lt_zero _)
    | succ fuel ih =>
      intro t ru tr1 mh1 ht ht2 hru hmh1 he hfu ls H locs hl hP hD hS
      refine lv_iload hx hb d_Meter_addSort_50 (lv_at hl 5 rfl) ?_
      refine lv_iload_n hx hb d_Meter_addSort_52 rfl (lv_at hl 2 rfl) ?_
      refine zk_icmp_ge (tgt := 91) hx hb d_Meter_addSort_53 rfl (by omega) (by omega) (fun h53 => ?_) (fun h53 => ?_)
      · skip
        have he2 : (tr1, mh1) = sLoop (fr - 1) ((n0 + 3) / 4) ((n0 + 3) / 4 - 1) (((n0 + 3) / 4 + fr - 1) / fr) (tr + 2 * ((n0 + 3) / 4)) (max mh (min fr ((n0 + 3) / 4))) := by rw [← he, show (n0 + 3) / 4 - t = 0 by omega]; rfl
        rw [← he2] at hQ
        exact zk_vretW hx hb hr hlk hAe hQ hK (()) (trivial) hP hD hS d_Meter_addSort_91
      · skip
        refine lv_iload hx hb d_Meter_addSort_56 (lv_at hl 4 rfl) ?_
        refine lv_iconst (v := nI 1) hx hb d_Meter_addSort_58 (by decide) ?_
        refine zk_icmp_le (tgt := 91) hx hb d_Meter_addSort_59 rfl (by omega) (by omega) (fun h59 => ?_) (fun h59 => ?_)
        · skip
          have he2 : (tr1, mh1) = sLoop (fr - 1) ((n0 + 3) / 4) ((n0 + 3) / 4 - 1) (((n0 + 3) / 4 + fr - 1) / fr) (tr + 2 * ((n0 + 3) / 4)) (max mh (min fr ((n0 + 3) / 4))) := by rw [← he, show (n0 + 3) / 4 - t = ((n0 + 3) / 4 - (t + 1)) + 1 by omega]; simp only [sLoop]; rw [if_pos h59]
          rw [← he2] at hQ
          exact zk_vretW hx hb hr hlk hAe hQ hK (()) (trivial) hP hD hS d_Meter_addSort_91
        · skip
          refine lv_aload_n hx hb d_Meter_addSort_62 rfl (lv_at hl 0 rfl) ?_
          refine lv_iconst (v := nI 2) hx hb d_Meter_addSort_63 (by decide) ?_
          refine lv_iload_n hx hb d_Meter_addSort_64 rfl (lv_at hl 2 rfl) ?_
          refine lv_imul hx hb d_Meter_addSort_65 ?_
          refine zk_topi (show ((nI 2) * (nI ((n0 + 3) / 4))) = nI (2 * ((n0 + 3) / 4)) from pk_mul 2 ((n0 + 3) / 4)) ?_
          refine lv_iconst (v := nI 1) hx hb d_Meter_addSort_66 (by decide) ?_
          refine lv_iload hx hb d_Meter_addSort_67 (lv_at hl 4 rfl) ?_
          refine lv_iload_n hx hb d_Meter_addSort_69 rfl (lv_at hl 3 rfl) ?_
          refine va_mmin hx hb (hml.trans hl.1.symm) hown (hts _ (List.mem_cons_of_mem _ ml_Meter_34)) (hts _ (List.mem_cons_of_mem _ sm_Math_min)) (hts _ (List.mem_cons_of_mem _ in_Math)) (hts _ (List.mem_cons_of_mem _ co_Math_min)) (Nat.le_of_ble_eq_true rfl) (Nat.le_of_ble_eq_true rfl) (Nat.le_of_ble_eq_true rfl) (Nat.le_of_ble_eq_true rfl) d_Meter_addSort_70 ?_
          refine zk_topi (show (if nI (fr - 1) < nI ru then nI (fr - 1) else nI ru) = nI (min ru (fr - 1)) from zk_nmin (by omega) (by omega)) ?_
          refine lv_iadd hx hb d_Meter_addSort_73 ?_
          refine zk_topi (show ((nI 1) + (nI (min ru (fr - 1)))) = nI (1 + (min ru (fr - 1))) from nI_add 1 (min ru (fr - 1))) ?_
          have hPc := hP.sub (ws' := [(mo, .inr (4, [.int (nI fr), .int (nI tr1), .int (nI mh1), .int (nI (sm + 1))]))]) [0] rfl
          have hDc := hD.sub (ws' := [(mo, .inr (4, [.int (nI fr), .int (nI tr1), .int (nI mh1), .int (nI (sm + 1))]))]) [0] (by decide) rfl
          refine zk_wv (wr := []) (w2 := (fun _ => [(mo, .inr (4, [.int (nI fr), .int (nI (tr1 + (2 * ((n0 + 3) / 4)))), .int (nI (max mh1 (1 + (min ru (fr - 1))))), .int (nI (sm + 1))]))])) hP hD hS hA [0] [] [0] rfl rfl (by decide) (by decide) (fun _ => rfl) (by decide) (va_runV (As := [.int (nI (2 * ((n0 + 3) / 4))), .int (nI (1 + (min ru (fr - 1))))]) (rest := []) ⟨hx, hb, hml, hown, hts⟩ (c_Meter_addStep l D cI cL cZ cW cR _ mo fr tr1 mh1 (sm + 1) (2 * ((n0 + 3) / 4)) (1 + (min ru (fr - 1))) (by omega) (by omega)) (cwV 2 hts (zk_gV (fun _ h => List.mem_cons_of_mem _ h) ml_Meter_37 im_Meter_addStep se_Meter_addStep in_Meter co_Meter_addStep) rfl rfl rfl ⟨rfl, hd_Meter_addStep⟩ ⟨Nat.le_of_ble_eq_true rfl, Nat.le_of_ble_eq_true rfl⟩) (zk_vw (q0 := 0) hN hK hPc hDc rfl rfl) rfl rfl hl.1 rfl (lv_room (Nat.le_of_ble_eq_true rfl)) d_Meter_addSort_74 ⟨Nat.zero_le _, Nat.zero_le _⟩) (fun u H locs hpost hP hD hS => ?_)
          have hP : va_P D vwCl [(mo, .inr (4, [.int (nI fr), .int (nI (tr1 + (2 * ((n0 + 3) / 4)))), .int (nI (max mh1 (1 + (min ru (fr - 1))))), .int (nI (sm + 1))]))] H := hP
          have hD : va_D A [(mo, .inr (4, [.int (nI fr), .int (nI (tr1 + (2 * ((n0 + 3) / 4)))), .int (nI (max mh1 (1 + (min ru (fr - 1))))), .int (nI (sm + 1))]))] := hD
          refine lv_iload hx hb d_Meter_addSort_77 (lv_at hl 4 rfl) ?_
          refine lv_iload_n hx hb d_Meter_addSort_79 rfl (lv_at hl 3 rfl) ?_
          have hPc := hP.sub (ws' := []) [] rfl
          refine zk_ri (va_runSN (As := [.int (nI ru), .int (nI (fr - 1))]) (rest := []) ⟨hx, hb, hml, hown, hts⟩ (c_FQ_quotientUp l D cI cL cZ cW cR ru (fr - 1) (by omega) (by omega)) ⟨(va_cnB 2 hts (zk_gC (fun _ h => List.mem_cons_of_mem _ h) co_FQ_quotientUp) rfl rfl rfl (hN.1 _ nl_Meter_41) (hts _ (List.mem_cons_of_mem _ in_FQ)) hd_FQ_quotientUp ⟨Nat.le_of_ble_eq_true rfl, Nat.le_of_ble_eq_true rfl⟩), (hts _ (List.mem_cons_of_mem _ sm_FQ_quotientUp)), trivial⟩ (zk_sr hN hK hPc) rfl rfl hl.1 rfl (lv_room (Nat.le_of_ble_eq_true rfl)) d_Meter_addSort_80 ⟨Nat.zero_le _, Nat.zero_le _⟩) ?_
          refine lv_istore (lv' := [(4, .int (nI ((ru + (fr - 1) - 1) / (fr - 1)))), (0, .ref mo), (1, .int (nI n0)), (2, .int (nI ((n0 + 3) / 4))), (3, .int (nI (fr - 1))), (5, .int (nI t))]) hx hb d_Meter_addSort_83 hl (by decide) rfl (fun ls hl => ?_)
          refine lv_iinc (k := 5) (v := nI (t + 1)) (lv' := [(5, .int (nI (t + 1))), (4, .int (nI ((ru + (fr - 1) - 1) / (fr - 1)))), (0, .ref mo), (1, .int (nI n0)), (2, .int (nI ((n0 + 3) / 4))), (3, .int (nI (fr - 1)))]) hx hb d_Meter_addSort_85 hl rfl (nI_add t 1) (by decide) rfl (fun ls hl => ?_)
          refine lv_goto (tgt := 50) hx hb d_Meter_addSort_88 rfl ?_
          exact ih (t + 1) ((ru + (fr - 1) - 1) / (fr - 1)) (tr1 + 2 * ((n0 + 3) / 4)) (max mh1 (1 + min ru (fr - 1))) (by omega) (by omega) (zk_dlt2 (by omega) (by omega) hru) (by omega) (by rw [← he, show (n0 + 3) / 4 - t = ((n0 + 3) / 4 - (t + 1)) + 1 by omega]; simp only [sLoop]; rw [if_neg (by omega)]) (by omega) ls _ _ (lv_sub hl [2, 3, 4, 5, 1, 0] rfl) hP hD hS
  exact lb50 _ 1 (((n0 + 3) / 4 + fr - 1) / fr) (tr + 2 * ((n0 + 3) / 4)) (max mh (min fr ((n0 + 3) / 4))) (Nat.le_refl _) (by omega) (zk_dlt (by omega) (by omega)) (by omega) (rfl) (Nat.lt_succ_self _) ls _ _ (lv_sub hl [4, 5, 3, 2, 1, 0] rfl) hP hD hS
