/-! a selection sort -/
def swp (l : Nat → Nat) (a k : Nat) : Nat → Nat := va_up (va_up l a (l k)) k (l a)
theorem swp_k {l : Nat → Nat} {a k : Nat} : swp l a k k = l a := va_up_self _ _ _
theorem swp_a {l : Nat → Nat} {a k : Nat} (h : a ≠ k) : swp l a k a = l k := by
  unfold swp
  rw [va_up_ne _ _ h, va_up_self]
theorem swp_o {l : Nat → Nat} {a k z : Nat} (h1 : z ≠ a) (h2 : z ≠ k) : swp l a k z = l z := by
  unfold swp
  rw [va_up_ne _ _ h2, va_up_ne _ _ h1]
theorem swp_perm {l : Nat → Nat} {a k n : Nat} (hk : k ≤ a) (ha : a < n) : (sg (swp l a k) 0 n).Perm (sg l 0 n) := by
  by_cases e : a = k
  · subst e
    rw [sg_congr (h := l) (fun i _ _ => by
      by_cases q : i = a
      · rw [q, swp_k]
      · exact swp_o q q)]
  · have cut : ∀ f : Nat → Nat, sg f 0 n = sg f 0 k ++ (f k :: (sg f (k + 1) a ++ (f a :: sg f (a + 1) n))) := fun f => by
      rw [← sg_app (b := k) (by omega) (by omega), sg_cons (a := k) (by omega), ← sg_app (a := k + 1) (b := a) (by omega) (by omega), sg_cons (a := a) (by omega)]
    rw [cut (swp l a k), cut l, swp_k, swp_a e, sg_congr (h := l) (a := 0) (fun i _ hi => swp_o (by omega) (by omega)), sg_congr (h := l) (a := k + 1) (fun i hi hi2 => swp_o (by omega) (by omega)), sg_congr (h := l) (a := a + 1) (fun i hi _ => swp_o (by omega) (by omega))]
    refine List.Perm.append_left _ ?_
    refine (List.Perm.cons _ List.perm_middle).trans ?_
    refine (List.Perm.swap _ _ _).trans ?_
    exact List.Perm.cons _ List.perm_middle.symm
/-- the first k places are in order, and before all behind them -/
def SelI (lt : Nat → Nat → Bool) (n k : Nat) (l0 l1 : Nat → Nat) : Prop := (sg l1 0 n).Perm (sg l0 0 n) ∧ (sg l1 0 k).Pairwise (leOf lt) ∧ (∀ i j, i < k → k ≤ j → j < n → lt (l1 j) (l1 i) = false) ∧ ∀ z, n ≤ z → l1 z = l0 z
theorem sel_0 {lt : Nat → Nat → Bool} {n : Nat} {l : Nat → Nat} : SelI lt n 0 l l := ⟨List.Perm.refl _, by rw [sg_nil (Nat.le_refl 0)]; exact List.Pairwise.nil, fun i j h => absurd h (Nat.not_lt_zero i), fun _ _ => rfl⟩
theorem sel_s {lt : Nat → Nat → Bool} {n k a : Nat} {l0 l1 : Nat → Nat} (h : SelI lt n k l0 l1) (hk : k ≤ a) (ha : a < n) (hm : ∀ j, k ≤ j → j < n → lt (l1 j) (l1 a) = false) : SelI lt n (k + 1) l0 (swp l1 a k) := by
  obtain ⟨h1, h2, h3, h4⟩ := h
  have hj : ∀ j, k < j → j < n → ∃ j', k ≤ j' ∧ j' < n ∧ swp l1 a k j = l1 j' := fun j q1 q2 => by
    by_cases e : j = a
    · subst e; exact ⟨k, Nat.le_refl _, by omega, swp_a (by omega)⟩
    · exact ⟨j, by omega, q2, swp_o e (by omega)⟩
  have hp : sg (swp l1 a k) 0 k = sg l1 0 k := sg_congr (fun i _ hi => swp_o (by omega) (by omega))
  refine ⟨(swp_perm hk ha).trans h1, ?_, fun i j q1 q2 q3 => ?_, fun z hz => by rw [swp_o (by omega) (by omega)]; exact h4 z hz⟩
  · rw [sg_snoc (Nat.zero_le k), hp, swp_k]
    refine List.pairwise_append.mpr ⟨h2, List.pairwise_singleton _ _, fun x hx y hy => ?_⟩
    obtain ⟨i, _, hi, rfl⟩ := sg_mem.mp hx
    rw [List.mem_singleton.mp hy]
    exact h3 i a hi hk ha
  · obtain ⟨j', r1, r2, r3⟩ := hj j (by omega) q3
    rw [r3]
    by_cases e : i = k
    · subst e; rw [swp_k]; exact hm j' r1 r2
    · rw [swp_o (by omega) (by omega)]; exact h3 i j' (by omega) r1 r2
theorem sel_n {lt : Nat → Nat → Bool} {k q a : Nat} {l : Nat → Nat} (as : ∀ a b, lt a b = true → lt b a = false) (tr : ∀ a b c, lt b a = false → lt c b = false → lt c a = false) (hm : ∀ j, k ≤ j → j < q → lt (l j) (l a) = false) (h : lt (l q) (l a) = true) : ∀ j, k ≤ j → j < q + 1 → lt (l j) (l q) = false := fun j h1 h2 => by
  by_cases e : j = q
  · subst e
    cases hq : lt (l j) (l j)
    · rfl
    · exact hq.symm.trans (as _ _ hq)
  · exact tr _ _ _ (as _ _ h) (hm j h1 (by omega))
theorem sel_m {lt : Nat → Nat → Bool} {k q a : Nat} {l : Nat → Nat} (hm : ∀ j, k ≤ j → j < q → lt (l j) (l a) = false) (h : lt (l q) (l a) = false) : ∀ j, k ≤ j → j < q + 1 → lt (l j) (l a) = false := fun j h1 h2 => by
  by_cases e : j = q
  · subst e; exact h
  · exact hm j h1 (by omega)
/-- a cell of the reference as the class holds it -/
def enc (h : Bool) (v : Int32) : Int64 := if h = true then -1099511627776 else v.toInt64
theorem enc_t {v : Int32} : enc true v = -1099511627776 := if_pos rfl
theorem enc_f {v : Int32} : enc false v = v.toInt64 := if_neg (by decide)
theorem nul_i : (-1099511627776 : Int64).toInt = -1099511627776 := by decide
theorem i64_i {v : Int32} : v.toInt64.toInt = v.toInt := Int32.toInt_toInt64 v
theorem i32_lo {v : Int32} : -2147483648 ≤ v.toInt := Int32.le_toInt v
theorem sgn_0 {h1 h2 : Bool} {v1 v2 : Int32} : sgn0 h1 h2 v1 v2 = 0 ↔ enc h1 v1 = enc h2 v2 := by
  have l1 := i32_lo (v := v1)
  have l2 := i32_lo (v := v2)
  cases h1 <;> cases h2
  · rw [enc_f, enc_f]
    show (if v1 < v2 then (-1 : Int32) else if v2 < v1 then 1 else 0) = 0 ↔ v1.toInt64 = v2.toInt64
    rw [← Int64.toInt_inj, i64_i, i64_i]
    by_cases a : v1 < v2
    · rw [if_pos a]
      rw [Int32.lt_iff_toInt_lt] at a
      exact ⟨fun q => absurd q (by decide), fun q => by omega⟩
    · rw [if_neg a]
      by_cases b : v2 < v1
      · rw [if_pos b]
        rw [Int32.lt_iff_toInt_lt] at b
        exact ⟨fun q => absurd q (by decide), fun q => by omega⟩
      · rw [if_neg b]
        rw [Int32.lt_iff_toInt_lt] at a b
        exact ⟨fun _ => by omega, fun _ => Eq.refl _⟩
  · rw [enc_f, enc_t, ← Int64.toInt_inj, i64_i, nul_i]
    show (1 : Int32) = 0 ↔ _
    exact ⟨fun q => absurd q (by decide), fun q => by omega⟩
  · rw [enc_f, enc_t, ← Int64.toInt_inj, i64_i, nul_i]
    show (-1 : Int32) = 0 ↔ _
    exact ⟨fun q => absurd q (by decide), fun q => by omega⟩
  · rw [enc_t, enc_t]
    show (0 : Int32) = 0 ↔ _
    exact ⟨fun _ => Eq.refl _, fun _ => Eq.refl _⟩
theorem sgn_lt {h1 h2 : Bool} {v1 v2 : Int32} : sgn0 h1 h2 v1 v2 < 0 ↔ enc h1 v1 < enc h2 v2 := by
  have l1 := i32_lo (v := v1)
  have l2 := i32_lo (v := v2)
  cases h1 <;> cases h2
  · rw [enc_f, enc_f]
    show (if v1 < v2 then (-1 : Int32) else if v2 < v1 then 1 else 0) < 0 ↔ v1.toInt64 < v2.toInt64
    rw [Int64.lt_iff_toInt_lt, i64_i, i64_i, ← Int32.lt_iff_toInt_lt]
    by_cases a : v1 < v2
    · rw [if_pos a]; exact ⟨fun _ => a, fun _ => by decide⟩
    · rw [if_neg a]
      by_cases b : v2 < v1
      · rw [if_pos b]; exact ⟨fun q => absurd q (by decide), fun q => absurd q a⟩
      · rw [if_neg b]; exact ⟨fun q => absurd q (by decide), fun q => absurd q a⟩
  · rw [enc_f, enc_t, Int64.lt_iff_toInt_lt, i64_i, nul_i]
    show (1 : Int32) < 0 ↔ _
    exact ⟨fun q => absurd q (by decide), fun q => by omega⟩
  · rw [enc_f, enc_t, Int64.lt_iff_toInt_lt, i64_i, nul_i]
    show (-1 : Int32) < 0 ↔ _
    exact ⟨fun _ => by omega, fun _ => by decide⟩
  · rw [enc_t, enc_t]
    show (0 : Int32) < 0 ↔ _
    exact ⟨fun q => absurd q (by decide), fun q => absurd q Int64.lt_irrefl⟩
theorem sgn_gt {h1 h2 : Bool} {v1 v2 : Int32} : -(sgn0 h1 h2 v1 v2) < 0 ↔ enc h2 v2 < enc h1 v1 := by
  rw [← sgn_lt]
  cases h1 <;> cases h2
  · show -(if v1 < v2 then (-1 : Int32) else if v2 < v1 then 1 else 0) < 0 ↔ (if v2 < v1 then (-1 : Int32) else if v1 < v2 then 1 else 0) < 0
    by_cases a : v1 < v2
    · rw [if_pos a, if_neg (fun q => absurd (Int32.lt_trans a q) Int32.lt_irrefl), if_pos a]; decide
    · rw [if_neg a]
      by_cases b : v2 < v1
      · rw [if_pos b, if_pos b]; first | done | decide
      · rw [if_neg b, if_neg b, if_neg a]; decide
  · show -(1 : Int32) < 0 ↔ (-1 : Int32) < 0
    decide
  · show -(-1 : Int32) < 0 ↔ (1 : Int32) < 0
    decide
  · show -(0 : Int32) < 0 ↔ (0 : Int32) < 0
    decide
theorem lx_sgn {h1 h2 d r : Bool} {v1 v2 : Int32} : (if sgnC h1 h2 v1 v2 d = 0 then r else decide (sgnC h1 h2 v1 v2 d < 0)) = lx d (enc h1 v1) (enc h2 v2) r := by
  have e0 : ∀ x : Int32, -x = 0 ↔ x = 0 := fun x => ⟨fun h => by have h2 := congrArg (fun y : Int32 => -y) h; simpa using h2, fun h => by rw [h]; decide⟩
  unfold lx
  cases d
  · by_cases h : enc h1 v1 = enc h2 v2
    · rw [if_pos h, if_pos (show sgnC h1 h2 v1 v2 false = 0 from sgn_0.mpr h)]
    · rw [if_neg h, if_neg (show ¬ sgnC h1 h2 v1 v2 false = 0 from fun q => h (sgn_0.mp q)), if_neg (by decide)]
      exact decide_eq_decide.mpr sgn_lt
  · by_cases h : enc h1 v1 = enc h2 v2
    · rw [if_pos h, if_pos (show sgnC h1 h2 v1 v2 true = 0 from (e0 _).mpr (sgn_0.mpr h))]
    · rw [if_neg h, if_neg (show ¬ sgnC h1 h2 v1 v2 true = 0 from fun q => h (sgn_0.mp ((e0 _).mp q))), if_pos rfl]
      exact decide_eq_decide.mpr sgn_gt
/-- the reference's order, key by key, is the class's -/
theorem mLt_s {hl_ : Nat → Bool} {vl : Nat → Int32} {fi : Nat → Nat} {se : Nat → Int32} {kf : Nat → Nat} {kg : Nat → Bool} {d t i j : Nat} : mLt hl_ vl fi se kf kg (d + 1) t i j = lx (kg t) (enc (hl_ (9 * i + kf t)) (vl (9 * i + kf t))) (enc (hl_ (9 * j + kf t)) (vl (9 * j + kf t))) (mLt hl_ vl fi se kf kg d (t + 1) i j) := lx_sgn
theorem mLt_as {hl_ : Nat → Bool} {vl : Nat → Int32} {fi : Nat → Nat} {se : Nat → Int32} {kf : Nat → Nat} {kg : Nat → Bool} : ∀ (d t a b : Nat), mLt hl_ vl fi se kf kg d t a b = true → mLt hl_ vl fi se kf kg d t b a = false := by
  intro d
  induction d with
  | zero =>
    intro t a b h
    have h1 := of_decide_eq_true h
    simp only [Int32.lt_iff_toInt_lt] at h1
    refine decide_eq_false (fun q => ?_)
    simp only [Int32.lt_iff_toInt_lt] at q
    omega
  | succ d ih => intro t a b h; rw [mLt_s] at h ⊢; exact lx_as (ih (t + 1) a b) h
theorem mLt_tr {hl_ : Nat → Bool} {vl : Nat → Int32} {fi : Nat → Nat} {se : Nat → Int32} {kf : Nat → Nat} {kg : Nat → Bool} : ∀ (d t a b c : Nat), mLt hl_ vl fi se kf kg d t b a = false → mLt hl_ vl fi se kf kg d t c b = false → mLt hl_ vl fi se kf kg d t c a = false := by
  intro d
  induction d with
  | zero =>
    intro t a b c h1 h2
    have h1 := of_decide_eq_false h1
    have h2 := of_decide_eq_false h2
    simp only [Int32.lt_iff_toInt_lt] at h1 h2
    refine decide_eq_false (fun q => ?_)
    simp only [Int32.lt_iff_toInt_lt] at q
    omega
  | succ d ih => intro t a b c h1 h2; rw [mLt_s] at h1 h2 ⊢; exact lx_tr (ih (t + 1) a b c) h1 h2
theorem sel_i {lt : Nat → Nat → Bool} {a : Nat} (as : ∀ a b, lt a b = true → lt b a = false) : lt a a = false := by
  cases h : lt a a
  · rfl
  · exact h.symm.trans (as _ _ h)
theorem se_g {l l1 : Nat → Nat} {n z : Nat} (hl : ∀ z, z < n → l z < 60) (hp : (sg l1 0 n).Perm (sg l 0 n)) (_ : 0 ≤ z) (hz : z < n) : l1 z < 60 := by
  obtain ⟨i, _, h3, h4⟩ := sg_mem.mp (hp.mem_iff.mp (sg_mem.mpr ⟨z, Nat.zero_le _, hz, rfl⟩))
  rw [← h4]
  exact hl i h3
theorem d_Mo_sort_0 : decode b_Mo_sort 0 = .ok (.iconst 0, 1) := by decide +kernel
theorem d_Mo_sort_1 : decode b_Mo_sort 1 = .ok (.istore_n 1, 1) := by decide +kernel
theorem d_Mo_sort_2 : decode b_Mo_sort 2 = .ok (.iload_n 1, 1) := by decide +kernel
theorem d_Mo_sort_3 : decode b_Mo_sort 3 = .ok (.aload_n 0, 1) := by decide +kernel
theorem d_Mo_sort_4 : decode b_Mo_sort 4 = .ok (.getfield 152, 3) := by decide +kernel
theorem d_Mo_sort_7 : decode b_Mo_sort 7 = .ok (.if_icmp .ge 80, 3) := by decide +kernel
theorem d_Mo_sort_10 : decode b_Mo_sort 10 = .ok (.iload_n 1, 1) := by decide +kernel
theorem d_Mo_sort_11 : decode b_Mo_sort 11 = .ok (.istore_n 2, 1) := by decide +kernel
theorem d_Mo_sort_12 : decode b_Mo_sort 12 = .ok (.iload_n 1, 1) := by decide +kernel
theorem d_Mo_sort_13 : decode b_Mo_sort 13 = .ok (.iconst 1, 1) := by decide +kernel
theorem d_Mo_sort_14 : decode b_Mo_sort 14 = .ok (.iadd, 1) := by decide +kernel
theorem d_Mo_sort_15 : decode b_Mo_sort 15 = .ok (.istore_n 3, 1) := by decide +kernel
theorem d_Mo_sort_16 : decode b_Mo_sort 16 = .ok (.iload_n 3, 1) := by decide +kernel
theorem d_Mo_sort_17 : decode b_Mo_sort 17 = .ok (.aload_n 0, 1) := by decide +kernel
theorem d_Mo_sort_18 : decode b_Mo_sort 18 = .ok (.getfield 152, 3) := by decide +kernel
theorem d_Mo_sort_21 : decode b_Mo_sort 21 = .ok (.if_icmp .ge 34, 3) := by decide +kernel
theorem d_Mo_sort_24 : decode b_Mo_sort 24 = .ok (.aload_n 0, 1) := by decide +kernel
theorem d_Mo_sort_25 : decode b_Mo_sort 25 = .ok (.aload_n 0, 1) := by decide +kernel
theorem d_Mo_sort_26 : decode b_Mo_sort 26 = .ok (.getfield 65, 3) := by decide +kernel
theorem d_Mo_sort_29 : decode b_Mo_sort 29 = .ok (.iload_n 3, 1) := by decide +kernel
theorem d_Mo_sort_30 : decode b_Mo_sort 30 = .ok (.iaload, 1) := by decide +kernel
theorem d_Mo_sort_31 : decode b_Mo_sort 31 = .ok (.aload_n 0, 1) := by decide +kernel
theorem d_Mo_sort_32 : decode b_Mo_sort 32 = .ok (.getfield 65, 3) := by decide +kernel
theorem d_Mo_sort_35 : decode b_Mo_sort 35 = .ok (.iload_n 2, 1) := by decide +kernel
theorem d_Mo_sort_36 : decode b_Mo_sort 36 = .ok (.iaload, 1) := by decide +kernel
theorem d_Mo_sort_37 : decode b_Mo_sort 37 = .ok (.invokevirtual 172, 3) := by decide +kernel
theorem d_Mo_sort_40 : decode b_Mo_sort 40 = .ok (.ifCond .eq 7, 3) := by decide +kernel
theorem d_Mo_sort_43 : decode b_Mo_sort 43 = .ok (.iload_n 3, 1) := by decide +kernel
theorem d_Mo_sort_44 : decode b_Mo_sort 44 = .ok (.goto 4, 3) := by decide +kernel
theorem d_Mo_sort_47 : decode b_Mo_sort 47 = .ok (.iload_n 2, 1) := by decide +kernel
theorem d_Mo_sort_48 : decode b_Mo_sort 48 = .ok (.istore_n 2, 1) := by decide +kernel
theorem d_Mo_sort_49 : decode b_Mo_sort 49 = .ok (.iinc 3 1, 3) := by decide +kernel
theorem d_Mo_sort_52 : decode b_Mo_sort 52 = .ok (.goto (-36), 3) := by decide +kernel
theorem d_Mo_sort_55 : decode b_Mo_sort 55 = .ok (.aload_n 0, 1) := by decide +kernel
theorem d_Mo_sort_56 : decode b_Mo_sort 56 = .ok (.getfield 65, 3) := by decide +kernel
theorem d_Mo_sort_59 : decode b_Mo_sort 59 = .ok (.iload_n 2, 1) := by decide +kernel
theorem d_Mo_sort_60 : decode b_Mo_sort 60 = .ok (.iaload, 1) := by decide +kernel
theorem d_Mo_sort_61 : decode b_Mo_sort 61 = .ok (.istore_n 3, 1) := by decide +kernel
theorem d_Mo_sort_62 : decode b_Mo_sort 62 = .ok (.aload_n 0, 1) := by decide +kernel
theorem d_Mo_sort_63 : decode b_Mo_sort 63 = .ok (.getfield 65, 3) := by decide +kernel
theorem d_Mo_sort_66 : decode b_Mo_sort 66 = .ok (.iload_n 2, 1) := by decide +kernel
theorem d_Mo_sort_67 : decode b_Mo_sort 67 = .ok (.aload_n 0, 1) := by decide +kernel
theorem d_Mo_sort_68 : decode b_Mo_sort 68 = .ok (.getfield 65, 3) := by decide +kernel
theorem d_Mo_sort_71 : decode b_Mo_sort 71 = .ok (.iload_n 1, 1) := by decide +kernel
theorem d_Mo_sort_72 : decode b_Mo_sort 72 = .ok (.iaload, 1) := by decide +kernel
theorem d_Mo_sort_73 : decode b_Mo_sort 73 = .ok (.iastore, 1) := by decide +kernel
theorem d_Mo_sort_74 : decode b_Mo_sort 74 = .ok (.aload_n 0, 1) := by decide +kernel
theorem d_Mo_sort_75 : decode b_Mo_sort 75 = .ok (.getfield 65, 3) := by decide +kernel
theorem d_Mo_sort_78 : decode b_Mo_sort 78 = .ok (.iload_n 1, 1) := by decide +kernel
theorem d_Mo_sort_79 : decode b_Mo_sort 79 = .ok (.iload_n 3, 1) := by decide +kernel
theorem d_Mo_sort_80 : decode b_Mo_sort 80 = .ok (.iastore, 1) := by decide +kernel
theorem d_Mo_sort_81 : decode b_Mo_sort 81 = .ok (.iinc 1 1, 3) := by decide +kernel
theorem d_Mo_sort_84 : decode b_Mo_sort 84 = .ok (.goto (-82), 3) := by decide +kernel
theorem d_Mo_sort_87 : decode b_Mo_sort 87 = .ok (.aload_n 0, 1) := by decide +kernel
theorem d_Mo_sort_88 : decode b_Mo_sort 88 = .ok (.dup, 1) := by decide +kernel
theorem d_Mo_sort_89 : decode b_Mo_sort 89 = .ok (.getfield 175, 3) := by decide +kernel
theorem d_Mo_sort_92 : decode b_Mo_sort 92 = .ok (.iconst 1, 1) := by decide +kernel
theorem d_Mo_sort_93 : decode b_Mo_sort 93 = .ok (.iadd, 1) := by decide +kernel
theorem d_Mo_sort_94 : decode b_Mo_sort 94 = .ok (.putfield 175, 3) := by decide +kernel
theorem d_Mo_sort_97 : decode b_Mo_sort 97 = .ok (.aload_n 0, 1) := by decide +kernel
theorem d_Mo_sort_98 : decode b_Mo_sort 98 = .ok (.getfield 152, 3) := by decide +kernel
theorem d_Mo_sort_101 : decode b_Mo_sort 101 = .ok (.invokestatic 129, 3) := by decide +kernel
theorem d_Mo_sort_104 : decode b_Mo_sort 104 = .ok (.istore_n 1, 1) := by decide +kernel
theorem d_Mo_sort_105 : decode b_Mo_sort 105 = .ok (.aload_n 0, 1) := by decide +kernel
theorem d_Mo_sort_106 : decode b_Mo_sort 106 = .ok (.getfield 152, 3) := by decide +kernel
theorem d_Mo_sort_109 : decode b_Mo_sort 109 = .ok (.ifCond .ne 4, 3) := by decide +kernel
theorem d_Mo_sort_112 : decode b_Mo_sort 112 = .ok (.return_, 1) := by decide +kernel
theorem d_Mo_sort_113 : decode b_Mo_sort 113 = .ok (.iload_n 1, 1) := by decide +kernel
theorem d_Mo_sort_114 : decode b_Mo_sort 114 = .ok (.aload_n 0, 1) := by decide +kernel
theorem d_Mo_sort_115 : decode b_Mo_sort 115 = .ok (.getfield 74, 3) := by decide +kernel
theorem d_Mo_sort_118 : decode b_Mo_sort 118 = .ok (.iadd, 1) := by decide +kernel
theorem d_Mo_sort_119 : decode b_Mo_sort 119 = .ok (.iconst 1, 1) := by decide +kernel
theorem d_Mo_sort_120 : decode b_Mo_sort 120 = .ok (.isub, 1) := by decide +kernel
theorem d_Mo_sort_121 : decode b_Mo_sort 121 = .ok (.aload_n 0, 1) := by decide +kernel
theorem d_Mo_sort_122 : decode b_Mo_sort 122 = .ok (.getfield 74, 3) := by decide +kernel
theorem d_Mo_sort_125 : decode b_Mo_sort 125 = .ok (.idiv, 1) := by decide +kernel
theorem d_Mo_sort_126 : decode b_Mo_sort 126 = .ok (.istore_n 2, 1) := by decide +kernel
theorem d_Mo_sort_127 : decode b_Mo_sort 127 = .ok (.aload_n 0, 1) := by decide +kernel
theorem d_Mo_sort_128 : decode b_Mo_sort 128 = .ok (.dup, 1) := by decide +kernel
theorem d_Mo_sort_129 : decode b_Mo_sort 129 = .ok (.getfield 126, 3) := by decide +kernel
theorem d_Mo_sort_132 : decode b_Mo_sort 132 = .ok (.iconst 2, 1) := by decide +kernel
theorem d_Mo_sort_133 : decode b_Mo_sort 133 = .ok (.iload_n 1, 1) := by decide +kernel
theorem d_Mo_sort_134 : decode b_Mo_sort 134 = .ok (.imul, 1) := by decide +kernel
theorem d_Mo_sort_135 : decode b_Mo_sort 135 = .ok (.iadd, 1) := by decide +kernel
theorem d_Mo_sort_136 : decode b_Mo_sort 136 = .ok (.putfield 126, 3) := by decide +kernel
theorem d_Mo_sort_139 : decode b_Mo_sort 139 = .ok (.aload_n 0, 1) := by decide +kernel
theorem d_Mo_sort_140 : decode b_Mo_sort 140 = .ok (.iload_n 1, 1) := by decide +kernel
theorem d_Mo_sort_141 : decode b_Mo_sort 141 = .ok (.aload_n 0, 1) := by decide +kernel
theorem d_Mo_sort_142 : decode b_Mo_sort 142 = .ok (.getfield 74, 3) := by decide +kernel
theorem d_Mo_sort_145 : decode b_Mo_sort 145 = .ok (.if_icmp .ge 7, 3) := by decide +kernel
theorem d_Mo_sort_148 : decode b_Mo_sort 148 = .ok (.iload_n 1, 1) := by decide +kernel
theorem d_Mo_sort_149 : decode b_Mo_sort 149 = .ok (.goto 7, 3) := by decide +kernel
theorem d_Mo_sort_152 : decode b_Mo_sort 152 = .ok (.aload_n 0, 1) := by decide +kernel
theorem d_Mo_sort_153 : decode b_Mo_sort 153 = .ok (.getfield 74, 3) := by decide +kernel
theorem d_Mo_sort_156 : decode b_Mo_sort 156 = .ok (.invokevirtual 133, 3) := by decide +kernel
theorem d_Mo_sort_159 : decode b_Mo_sort 159 = .ok (.iconst 0, 1) := by decide +kernel
theorem d_Mo_sort_160 : decode b_Mo_sort 160 = .ok (.istore_n 3, 1) := by decide +kernel
theorem d_Mo_sort_161 : decode b_Mo_sort 161 = .ok (.iload_n 3, 1) := by decide +kernel
theorem d_Mo_sort_162 : decode b_Mo_sort 162 = .ok (.bipush 20, 2) := by decide +kernel
theorem d_Mo_sort_164 : decode b_Mo_sort 164 = .ok (.if_icmp .ge 68, 3) := by decide +kernel
theorem d_Mo_sort_167 : decode b_Mo_sort 167 = .ok (.iload_n 2, 1) := by decide +kernel
theorem d_Mo_sort_168 : decode b_Mo_sort 168 = .ok (.iconst 1, 1) := by decide +kernel
theorem d_Mo_sort_169 : decode b_Mo_sort 169 = .ok (.if_icmp .le 63, 3) := by decide +kernel
theorem d_Mo_sort_172 : decode b_Mo_sort 172 = .ok (.aload_n 0, 1) := by decide +kernel
theorem d_Mo_sort_173 : decode b_Mo_sort 173 = .ok (.dup, 1) := by decide +kernel
theorem d_Mo_sort_174 : decode b_Mo_sort 174 = .ok (.getfield 126, 3) := by decide +kernel
theorem d_Mo_sort_177 : decode b_Mo_sort 177 = .ok (.iconst 2, 1) := by decide +kernel
theorem d_Mo_sort_178 : decode b_Mo_sort 178 = .ok (.iload_n 1, 1) := by decide +kernel
theorem d_Mo_sort_179 : decode b_Mo_sort 179 = .ok (.imul, 1) := by decide +kernel
theorem d_Mo_sort_180 : decode b_Mo_sort 180 = .ok (.iadd, 1) := by decide +kernel
theorem d_Mo_sort_181 : decode b_Mo_sort 181 = .ok (.putfield 126, 3) := by decide +kernel
theorem d_Mo_sort_184 : decode b_Mo_sort 184 = .ok (.aload_n 0, 1) := by decide +kernel
theorem d_Mo_sort_185 : decode b_Mo_sort 185 = .ok (.iconst 1, 1) := by decide +kernel
theorem d_Mo_sort_186 : decode b_Mo_sort 186 = .ok (.iload_n 2, 1) := by decide +kernel
theorem d_Mo_sort_187 : decode b_Mo_sort 187 = .ok (.aload_n 0, 1) := by decide +kernel
theorem d_Mo_sort_188 : decode b_Mo_sort 188 = .ok (.getfield 74, 3) := by decide +kernel
theorem d_Mo_sort_191 : decode b_Mo_sort 191 = .ok (.iconst 1, 1) := by decide +kernel
theorem d_Mo_sort_192 : decode b_Mo_sort 192 = .ok (.isub, 1) := by decide +kernel
theorem d_Mo_sort_193 : decode b_Mo_sort 193 = .ok (.if_icmp .ge 7, 3) := by decide +kernel
theorem d_Mo_sort_196 : decode b_Mo_sort 196 = .ok (.iload_n 2, 1) := by decide +kernel
theorem d_Mo_sort_197 : decode b_Mo_sort 197 = .ok (.goto 9, 3) := by decide +kernel
theorem d_Mo_sort_200 : decode b_Mo_sort 200 = .ok (.aload_n 0, 1) := by decide +kernel
theorem d_Mo_sort_201 : decode b_Mo_sort 201 = .ok (.getfield 74, 3) := by decide +kernel
theorem d_Mo_sort_204 : decode b_Mo_sort 204 = .ok (.iconst 1, 1) := by decide +kernel
theorem d_Mo_sort_205 : decode b_Mo_sort 205 = .ok (.isub, 1) := by decide +kernel
theorem d_Mo_sort_206 : decode b_Mo_sort 206 = .ok (.iadd, 1) := by decide +kernel
theorem d_Mo_sort_207 : decode b_Mo_sort 207 = .ok (.invokevirtual 133, 3) := by decide +kernel
theorem d_Mo_sort_210 : decode b_Mo_sort 210 = .ok (.iload_n 2, 1) := by decide +kernel
theorem d_Mo_sort_211 : decode b_Mo_sort 211 = .ok (.aload_n 0, 1) := by decide +kernel
theorem d_Mo_sort_212 : decode b_Mo_sort 212 = .ok (.getfield 74, 3) := by decide +kernel
theorem d_Mo_sort_215 : decode b_Mo_sort 215 = .ok (.iadd, 1) := by decide +kernel
theorem d_Mo_sort_216 : decode b_Mo_sort 216 = .ok (.iconst 2, 1) := by decide +kernel
theorem d_Mo_sort_217 : decode b_Mo_sort 217 = .ok (.isub, 1) := by decide +kernel
theorem d_Mo_sort_218 : decode b_Mo_sort 218 = .ok (.aload_n 0, 1) := by decide +kernel
theorem d_Mo_sort_219 : decode b_Mo_sort 219 = .ok (.getfield 74, 3) := by decide +kernel
theorem d_Mo_sort_222 : decode b_Mo_sort 222 = .ok (.iconst 1, 1) := by decide +kernel
theorem d_Mo_sort_223 : decode b_Mo_sort 223 = .ok (.isub, 1) := by decide +kernel
theorem d_Mo_sort_224 : decode b_Mo_sort 224 = .ok (.idiv, 1) := by decide +kernel
theorem d_Mo_sort_225 : decode b_Mo_sort 225 = .ok (.istore_n 2, 1) := by decide +kernel
theorem d_Mo_sort_226 : decode b_Mo_sort 226 = .ok (.iinc 3 1, 3) := by decide +kernel
theorem d_Mo_sort_229 : decode b_Mo_sort 229 = .ok (.goto (-68), 3) := by decide +kernel
theorem d_Mo_sort_232 : decode b_Mo_sort 232 = .ok (.return_, 1) := by decide +kernel
