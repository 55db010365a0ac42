/-! the class's windows and the reference's, step by step -/
def cBr (fr n : Nat) (cur : Option (Nat × (Nat → Nat) × (Nat → Bool))) (kn : Nat) (kf : Nat → Nat) (kg : Nat → Bool) (f : Nat → Int64) (g : Nat → Nat) (tr mh sm : Nat) (cur1 : Option (Nat × (Nat → Nat) × (Nat → Bool))) (g1 : Nat → Nat) (t1 m1 s1 : Nat) : Prop :=
  (∃ c, cur = some c ∧ kPre c.1 c.2.1 c.2.2 kn kf kg ∧ cur1 = cur ∧ g1 = g ∧ t1 = tr ∧ m1 = mh ∧ s1 = sm) ∨
  ((∀ c, cur = some c → ¬ kPre c.1 c.2.1 c.2.2 kn kf kg) ∧ cur1 = some (kn, kf, kg) ∧ (sg g1 0 n).Perm (sg g 0 n) ∧ (sg g1 0 n).Pairwise (leOf (kLt f 10 kf kg kn 0)) ∧ (t1, m1) = sLoop (fr - 1) ((n + 3) / 4) ((n + 3) / 4 - 1) (((n + 3) / 4 + fr - 1) / fr) (tr + 2 * ((n + 3) / 4)) (max mh (min fr ((n + 3) / 4))) ∧ s1 = sm + 1)
abbrev cSt := Option (Nat × (Nat → Nat) × (Nat → Bool)) × (Nat → Nat) × (Nat → Int64) × Nat × Nat × Nat
def cWin (fr n : Nat) (po oo : Option Nat) (wd wg : Bool) (wl wh : Int32) (wf wa wn col kn : Nat) (kf : Nat → Nat) (kg : Nat → Bool) : cSt → cSt → Int32 → Prop
  | (cur, g, f, tr, mh, sm), (cur1, g1, f1, t2, m2, s1), x => ∃ t1 m1, cBr fr n cur kn kf kg f g tr mh sm cur1 g1 t1 m1 s1 ∧ ∃ RUN : Nat × Nat, wRun n (4 * (fr - 2)) (pEnd (po.map (fun q z => f (g1 z * 10 + q))) n) (pOk (po.map (fun q z => f (g1 z * 10 + q))) (oo.map (fun q z => f (g1 z * 10 + q))) (fun z => f (g1 z * 10 + wa)) wf wn wd wg wl wh n) (n + 1) 0 0 = RUN ∧
    ((x = nI 0 ∧ RUN.1 = 0 ∧ WoI f f1 g1 col (pVal (po.map (fun q z => f (g1 z * 10 + q))) (oo.map (fun q z => f (g1 z * 10 + q))) (fun z => f (g1 z * 10 + wa)) wf wn wd wg wl wh n) n ∧ t2 = t1 + 2 * bk n ∧ m2 = max m1 (if RUN.2 = 0 then 0 else 2 + bk RUN.2)) ∨ (x = -2 ∧ RUN.1 = 1) ∨ (x = -3 ∧ RUN.1 = 2))
def cWs (fr n : Nat) (po oo : Nat → Option Nat) (wd wg : Nat → Bool) (wl wh : Nat → Int32) (wf wa wn : Nat → Nat) (kn : Nat → Nat) (kf : Nat → Nat → Nat) (kg : Nat → Nat → Bool) : List Nat → cSt → Int32 → cSt → Prop
  | [], s0, x, s1 => x = nI 0 ∧ s1 = s0
  | w :: ws, s0, x, s1 => ∃ s2 x1, cWin fr n (po w) (oo w) (wd w) (wg w) (wl w) (wh w) (wf w) (wa w) (wn w) (6 + w) (kn w) (kf w) (kg w) s0 s2 x1 ∧ ((x1 = nI 0 ∧ cWs fr n po oo wd wg wl wh wf wa wn kn kf kg ws s2 x s1) ∨ (x1 ≠ nI 0 ∧ x = x1))
/-- the keys that stand, on both sides -/
def kRel (cur : Option (Nat × (Nat → Nat) × (Nat → Bool))) (kq : Option Nat) (kf : Nat → Nat) (kg : Nat → Bool) : Prop := (cur = none ∧ kq = none) ∨ ∃ kn kfc kgc, cur = some (kn, kfc, kgc) ∧ kq = some kn ∧ ∀ t, t < kn → kfc t = kf t ∧ kgc t = kg t ∧ kf t < 6
/-- the cells agree -/
def fRel (n : Nat) (f : Nat → Int64) (hl_ : Nat → Bool) (vl : Nat → Int32) (fi : Nat → Nat) (se : Nat → Int32) : Prop := ∀ p, p < n → (∀ c, c < 9 → f (p * 10 + c) = mCol hl_ vl c p) ∧ f (p * 10 + 9) = (nI (fi p)).toInt64 * 32 + (se p).toInt64
/-- the rows' origins: small, and no two the same -/
def oRel (n : Nat) (fi : Nat → Nat) (se : Nat → Int32) : Prop := (∀ p, p < n → fi p < 1000 ∧ -1 ≤ (se p).toInt ∧ (se p).toInt < 31) ∧ ∀ p q, p < n → q < n → fi p = fi q → se p = se q → p = q
def sRel (n : Nat) (fi : Nat → Nat) (se : Nat → Int32) : cSt → mSt → Prop
  | (cur, g, f, tr, mh, sm), (kq, kf, kg, li, t2, m2, s2, hl_, vl) => (∀ z, z < n → g z = li z) ∧ (sg g 0 n).Perm (List.range n) ∧ fRel n f hl_ vl fi se ∧ tr = t2 ∧ mh = m2 ∧ sm = s2 ∧ kRel cur kq kf kg ∧ ∀ kn kfc kgc, cur = some (kn, kfc, kgc) → (sg g 0 n).Pairwise (leOf (kLt f 10 kfc kgc kn 0))
theorem org_lt {a b : Nat} {x y : Int32} (ha : a < 1000) (hb : b < 1000) (hx : -1 ≤ x.toInt ∧ x.toInt < 31) (hy : -1 ≤ y.toInt ∧ y.toInt < 31) : (nI a).toInt64 * 32 + x.toInt64 < (nI b).toInt64 * 32 + y.toInt64 ↔ (a < b ∨ (a = b ∧ x < y)) := by
  have e : ∀ (a : Nat) (x : Int32), a < 1000 → -1 ≤ x.toInt ∧ x.toInt < 31 → ((nI a).toInt64 * 32 + x.toInt64).toInt = (a : Int) * 32 + x.toInt := fun a x ha hx => by
    rw [Int64.toInt_add, Int64.toInt_mul, i64_i, i64_i, nI_toInt (by omega), show (32 : Int64).toInt = 32 by decide, bm64 (x := (a : Int) * 32) (by omega) (by omega)]
    exact bm64 (by omega) (by omega)
  rw [Int64.lt_iff_toInt_lt, e a x ha hx, e b y hb hy, Int32.lt_iff_toInt_lt]
  omega
theorem kLt_m {n : Nat} {f : Nat → Int64} {hl_ : Nat → Bool} {vl : Nat → Int32} {fi : Nat → Nat} {se : Nat → Int32} {kf kfc : Nat → Nat} {kg kgc : Nat → Bool} (hf : fRel n f hl_ vl fi se) (ho : oRel n fi se) {p q : Nat} (hp : p < n) (hq : q < n) : ∀ d t, (∀ z, t ≤ z → z < t + d → kfc z = kf z ∧ kgc z = kg z ∧ kf z < 9) → kLt f 10 kfc kgc d t p q = mLt hl_ vl fi se kf kg d t p q := by
  intro d
  induction d with
  | zero =>
    intro t _
    show decide (f (p * 10 + 9) < f (q * 10 + 9)) = decide (fi p < fi q ∨ (fi p = fi q ∧ se p < se q))
    rw [(hf p hp).2, (hf q hq).2]
    exact decide_eq_decide.mpr (org_lt (ho.1 p hp).1 (ho.1 q hq).1 (ho.1 p hp).2 (ho.1 q hq).2)
  | succ d ih =>
    intro t hk
    obtain ⟨h1, h2, h3⟩ := hk t (Nat.le_refl _) (by omega)
    rw [kLt_s, mLt_s, ih (t + 1) (fun z y1 y2 => hk z (by omega) (by omega)), h1, h2, (hf p hp).1 _ h3, (hf q hq).1 _ h3]
    rfl
theorem mLt_0 {hl_ : Nat → Bool} {vl : Nat → Int32} {fi : Nat → Nat} {se : Nat → Int32} {kf : Nat → Nat} {kg : Nat → Bool} {p q : Nat} : ∀ d t, mLt hl_ vl fi se kf kg d t p q = false → mLt hl_ vl fi se kf kg d t q p = false → fi p = fi q ∧ se p = se q := by
  intro d
  induction d with
  | zero =>
    intro t h1 h2
    have h1 := of_decide_eq_false h1
    have h2 := of_decide_eq_false h2
    simp only [Int32.lt_iff_toInt_lt] at h1 h2
    have e : fi p = fi q := by omega
    refine ⟨e, Int32.toInt_inj.mp ?_⟩
    omega
  | succ d ih =>
    intro t h1 h2
    rw [mLt_s] at h1 h2
    unfold lx at h1 h2
    generalize enc (hl_ (9 * p + kf t)) (vl (9 * p + kf t)) = X at h1 h2
    generalize enc (hl_ (9 * q + kf t)) (vl (9 * q + kf t)) = Y at h1 h2
    by_cases e : X = Y
    · rw [if_pos e] at h1
      rw [if_pos e.symm] at h2
      exact ih (t + 1) h1 h2
    · rw [if_neg e] at h1
      rw [if_neg (fun y => e y.symm)] at h2
      exfalso
      refine e (Int64.toInt_inj.mp ?_)
      cases hg : kg t
      · rw [hg, if_neg Bool.false_ne_true] at h1 h2
        have h1 := of_decide_eq_false h1
        have h2 := of_decide_eq_false h2
        rw [Int64.lt_iff_toInt_lt] at h1 h2
        omega
      · rw [hg, if_pos rfl] at h1 h2
        have h1 := of_decide_eq_false h1
        have h2 := of_decide_eq_false h2
        rw [Int64.lt_iff_toInt_lt] at h1 h2
        omega
theorem sg_ext {g h : Nat → Nat} {n : Nat} (e : sg g 0 n = sg h 0 n) : ∀ z, z < n → g z = h z := by
  intro z hz
  have h1 := congrArg (fun l => l[z]?) e
  unfold sg at h1
  simp only [List.getElem?_map, List.getElem?_range (show z < n - 0 by omega), Option.map_some, Nat.zero_add, Option.some.injEq] at h1
  exact h1
/-- two sorted lists of the same rows are the same -/
theorem srt_u {lt lt2 : Nat → Nat → Bool} {g l g1 l1 : Nat → Nat} {n : Nat} (he : ∀ z, z < n → g z = l z) (hr : (sg g 0 n).Perm (List.range n)) (hlt : ∀ p q, p < n → q < n → lt p q = lt2 p q) (han : ∀ p q, p < n → q < n → lt2 p q = false → lt2 q p = false → p = q) (h1 : (sg g1 0 n).Perm (sg g 0 n)) (h2 : (sg l1 0 n).Perm (sg l 0 n)) (h3 : (sg g1 0 n).Pairwise (leOf lt)) (h4 : (sg l1 0 n).Pairwise (leOf lt2)) : ∀ z, z < n → g1 z = l1 z := by
  have hgl : sg g 0 n = sg l 0 n := sg_congr (fun i _ hi => he i hi)
  have hp : (sg g1 0 n).Perm (sg l1 0 n) := h1.trans ((List.Perm.of_eq hgl).trans h2.symm)
  have hm : ∀ a, a ∈ sg g1 0 n → a < n := fun a ha => List.mem_range.mp (hr.mem_iff.mp (h1.mem_iff.mp ha))
  have h3' : (sg g1 0 n).Pairwise (leOf lt2) := h3.imp_of_mem (fun {a b} ha hb h => by
    show lt2 b a = false
    rw [← hlt b a (hm b hb) (hm a ha)]
    exact h)
  exact sg_ext (List.Perm.eq_of_pairwise (fun a b ha hb h5 h6 => han a b (hm a ha) (hm b (hp.mem_iff.mpr hb)) h6 h5) h3' h4 hp)
/-- a window's keys, as the class holds them -/
def kWin (po oo : Option Nat) (wd : Bool) (kn : Nat) (kf : Nat → Nat) (kg : Nat → Bool) : Prop := kn = kN po oo ∧ ∀ t, t < kn → kf t = kF (fun _ => 0) po oo t ∧ kg t = kG (fun _ => false) wd po oo t
theorem kF_b {po oo : Option Nat} {k1 k2 : Nat → Nat} {t : Nat} (h : t < kN po oo) : kF k1 po oo t = kF k2 po oo t := by
  cases po <;> cases oo
  · exact absurd h (Nat.not_lt_zero t)
  · obtain rfl : t = 0 := by
      have : t < 1 := h
      omega
    rfl
  · obtain rfl : t = 0 := by
      have : t < 1 := h
      omega
    rfl
  · have h2 : t < 2 := h
    rcases (show t = 0 ∨ t = 1 by omega) with rfl | rfl <;> rfl
theorem kG_b {po oo : Option Nat} {k1 k2 : Nat → Bool} {d : Bool} {t : Nat} (h : t < kN po oo) : kG k1 d po oo t = kG k2 d po oo t := by
  cases po <;> cases oo
  · exact absurd h (Nat.not_lt_zero t)
  · obtain rfl : t = 0 := by
      have : t < 1 := h
      omega
    rfl
  · obtain rfl : t = 0 := by
      have : t < 1 := h
      omega
    rfl
  · have h2 : t < 2 := h
    rcases (show t = 0 ∨ t = 1 by omega) with rfl | rfl <;> rfl
theorem nI_inj {a b : Nat} (ha : a < 1000) (hb : b < 1000) : nI a = nI b ↔ a = b := ⟨fun h => by
  have := congrArg Int32.toInt h
  rw [nI_toInt (by omega), nI_toInt (by omega)] at this
  omega, fun h => by rw [h]⟩
theorem kF_lt6 {kf : Nat → Nat} {po oo : Option Nat} {t m : Nat} (hp : ∀ q, po = some q → q < m) (ho : ∀ q, oo = some q → q < m) (h : t < kN po oo) : kF kf po oo t < m := by
  cases po with
  | none =>
    cases oo with
    | none => exact absurd h (Nat.not_lt_zero t)
    | some b =>
      obtain rfl : t = 0 := by
        have : t < 1 := h
        omega
      exact ho b rfl
  | some a =>
    cases oo with
    | none =>
      obtain rfl : t = 0 := by
        have : t < 1 := h
        omega
      exact hp a rfl
    | some b =>
      have h2 : t < 2 := h
      rcases (show t = 0 ∨ t = 1 by omega) with rfl | rfl
      · exact hp a rfl
      · exact ho b rfl
/-- does the order that stands serve: the class and the reference ask the same -/
theorem ord_kp {po oo : Option Nat} {wd : Bool} {kn knw : Nat} {kf kfc kfw : Nat → Nat} {kg kgc kgw : Nat → Bool} (hc : ∀ t, t < kn → kfc t = kf t ∧ kgc t = kg t ∧ kf t < 1000) (hw : kWin po oo wd knw kfw kgw) (hp : ∀ q, po = some q → q < 1000) (ho : ∀ q, oo = some q → q < 1000) : kPre kn kfc kgc knw kfw kgw ↔ mOrdB kn kf kg po oo wd = true := by
  obtain ⟨rfl, hw⟩ := hw
  unfold kPre
  cases po with
  | none =>
    cases oo with
    | none => exact ⟨fun _ => rfl, fun _ => ⟨Nat.zero_le _, fun t h => absurd h (Nat.not_lt_zero t)⟩⟩
    | some b =>
      have hb := ho b rfl
      have h0 := hw 0 (show 0 < 1 from Nat.one_pos)
      show (1 ≤ kn ∧ _) ↔ decide (0 < kn ∧ nI (kf 0) = oI (some b) ∧ kg 0 = wd) = true
      rw [decide_eq_true_iff]
      constructor
      · intro h
        have h1 := h.2 0 Nat.one_pos
        have h2 := hc 0 (by omega)
        exact ⟨by omega, (nI_inj h2.2.2 hb).mpr (h2.1.symm.trans (h1.1.trans h0.1)), h2.2.1.symm.trans (h1.2.trans h0.2)⟩
      · intro h
        have h2 := hc 0 h.1
        refine ⟨by omega, fun t ht => ?_⟩
        obtain rfl : t = 0 := by
          have : t < 1 := ht
          omega
        exact ⟨h2.1.trans (((nI_inj h2.2.2 hb).mp h.2.1).trans h0.1.symm), h2.2.1.trans (h.2.2.trans h0.2.symm)⟩
  | some a =>
    have ha := hp a rfl
    cases oo with
    | none =>
      have h0 := hw 0 (show 0 < 1 from Nat.one_pos)
      show (1 ≤ kn ∧ _) ↔ decide (0 < kn ∧ nI (kf 0) = oI (some a) ∧ kg 0 = false) = true
      rw [decide_eq_true_iff]
      constructor
      · intro h
        have h1 := h.2 0 Nat.one_pos
        have h2 := hc 0 (by omega)
        exact ⟨by omega, (nI_inj h2.2.2 ha).mpr (h2.1.symm.trans (h1.1.trans h0.1)), h2.2.1.symm.trans (h1.2.trans h0.2)⟩
      · intro h
        have h2 := hc 0 h.1
        refine ⟨by omega, fun t ht => ?_⟩
        obtain rfl : t = 0 := by
          have : t < 1 := ht
          omega
        exact ⟨h2.1.trans (((nI_inj h2.2.2 ha).mp h.2.1).trans h0.1.symm), h2.2.1.trans (h.2.2.trans h0.2.symm)⟩
    | some b =>
      have hb := ho b rfl
      have h0 := hw 0 (show 0 < 2 by decide)
      have h9 := hw 1 (show 1 < 2 by decide)
      show (2 ≤ kn ∧ _) ↔ (decide (0 < kn ∧ nI (kf 0) = oI (some a) ∧ kg 0 = false) && decide (1 < kn ∧ nI (kf 1) = oI (some b) ∧ kg 1 = wd)) = true
      rw [Bool.and_eq_true, decide_eq_true_iff, decide_eq_true_iff]
      constructor
      · intro h
        have h1 := h.2 0 (show 0 < 2 by decide)
        have h2 := hc 0 (by omega)
        have h3 := h.2 1 (show 1 < 2 by decide)
        have h4 := hc 1 (by omega)
        exact ⟨⟨by omega, (nI_inj h2.2.2 ha).mpr (h2.1.symm.trans (h1.1.trans h0.1)), h2.2.1.symm.trans (h1.2.trans h0.2)⟩, ⟨by omega, (nI_inj h4.2.2 hb).mpr (h4.1.symm.trans (h3.1.trans h9.1)), h4.2.1.symm.trans (h3.2.trans h9.2)⟩⟩
      · intro h
        have h2 := hc 0 h.1.1
        have h4 := hc 1 h.2.1
        refine ⟨by omega, fun t ht => ?_⟩
        rcases (show t = 0 ∨ t = 1 by
          have : t < 2 := ht
          omega) with rfl | rfl
        · exact ⟨h2.1.trans (((nI_inj h2.2.2 ha).mp h.1.2.1).trans h0.1.symm), h2.2.1.trans (h.1.2.2.trans h0.2.symm)⟩
        · exact ⟨h4.1.trans (((nI_inj h4.2.2 hb).mp h.2.2.1).trans h9.1.symm), h4.2.1.trans (h.2.2.2.trans h9.2.symm)⟩
/-- a pass more is no pass where all is one run -/
theorem sLoop_f {ways bl : Nat} (hw : 2 ≤ ways) : ∀ (d e runs tr mh : Nat), runs ≤ d + 1 → d ≤ e → sLoop ways bl e runs tr mh = sLoop ways bl d runs tr mh := by
  intro d
  induction d with
  | zero =>
    intro e runs tr mh h _
    cases e with
    | zero => rfl
    | succ e => exact if_pos h
  | succ d ih =>
    intro e runs tr mh h h2
    obtain ⟨e, rfl⟩ : ∃ e', e = e' + 1 := ⟨e - 1, by omega⟩
    simp only [sLoop]
    by_cases q : runs ≤ 1
    · rw [if_pos q, if_pos q]
    · rw [if_neg q, if_neg q]
      refine ih e _ _ _ ?_ (by omega)
      have h5 : (runs + ways - 1) / ways ≤ runs - 1 := by
        rw [Nat.div_le_iff_le_mul_add_pred (by omega)]
        have h6 : ways * (runs - 1) ≥ 2 * (runs - 1) := Nat.mul_le_mul_right _ hw
        have h7 : ways * (runs - 1) = ways * (runs - 2) + ways := by
          obtain ⟨r, hr⟩ : ∃ r, runs = r + 2 := ⟨runs - 2, by omega⟩
          subst hr
          show ways * (r + 1) = ways * r + ways
          exact Nat.mul_succ ways r
        have h8 : 2 * (runs - 2) ≤ ways * (runs - 2) := Nat.mul_le_mul_right _ hw
        omega
      omega
theorem fin_eq {fr n tr ms : Nat} (hfr : 3 ≤ fr) (hn : n ≤ 60) (_hms : 0 ≤ ms) : mFin fr n 20 tr ms = sLoop (fr - 1) ((n + 3) / 4) ((n + 3) / 4 - 1) (((n + 3) / 4 + fr - 1) / fr) (tr + 2 * ((n + 3) / 4)) (max ms (min fr ((n + 3) / 4))) := by
  unfold mFin
  by_cases h : n = 0
  · subst h
    rw [if_pos rfl]
    show (tr, ms) = (tr + 2 * ((0 + 3) / 4), max ms (min fr ((0 + 3) / 4)))
    rw [show (0 + 3) / 4 = 0 by decide, Nat.mul_zero, Nat.add_zero, Nat.min_eq_right (Nat.zero_le _), Nat.max_eq_left (Nat.zero_le _)]
  · rw [if_neg h]
    unfold bk
    generalize hb : (n + 3) / 4 = b
    have hb1 : 1 ≤ b := by omega
    have hb2 : b ≤ 15 := by omega
    refine sLoop_f (by omega) (b - 1) 20 _ _ _ ?_ (by omega)
    rw [show b - 1 + 1 = b by omega]
    rw [Nat.div_le_iff_le_mul_add_pred (by omega)]
    have : 3 * b ≤ fr * b := Nat.mul_le_mul_right _ hfr
    omega
section TIE
variable {fr n : Nat} {fi : Nat → Nat} {se : Nat → Int32} {po oo : Option Nat} {wd wg : Bool} {wl wh : Int32} {wf wa wn col knw : Nat} {kfw : Nat → Nat} {kgw : Nat → Bool} {cur cur1 : Option (Nat × (Nat → Nat) × (Nat → Bool))} {g g1 : Nat → Nat} {f f1 : Nat → Int64} {tr mh sm t1 m1 s1 : Nat} {kq : Option Nat} {kf : Nat → Nat} {kg : Nat → Bool} {li l1 : Nat → Nat} {t2 m2 s2 : Nat} {hl_ hl1 : Nat → Bool} {vl vl1 : Nat → Int32} {kn1 : Nat} {kf1 : Nat → Nat} {kg1 : Nat → Bool} {t3 m3 s3 : Nat}
theorem kRel_1 (h : kRel cur kq kf kg) : ∀ kn, kq = some kn → ∃ kfc kgc, cur = some (kn, kfc, kgc) ∧ ∀ t, t < kn → kfc t = kf t ∧ kgc t = kg t ∧ kf t < 6 := by
  intro kn hk
  rcases h with h | ⟨k, kfc, kgc, h1, h2, h3⟩
  · rw [h.2] at hk; cases hk
  · rw [h2] at hk; cases hk
    exact ⟨kfc, kgc, h1, h3⟩
/-- bringing in order, on both sides -/
theorem brr_c (hs : sRel n fi se (cur, g, f, tr, mh, sm) (kq, kf, kg, li, t2, m2, s2, hl_, vl)) (ho : oRel n fi se) (hfr : 3 ≤ fr) (hn : n ≤ 60) (hw : kWin po oo wd knw kfw kgw) (hp : ∀ q, po = some q → q < 9) (hq : ∀ q, oo = some q → q < 9) (hc : cBr fr n cur knw kfw kgw f g tr mh sm cur1 g1 t1 m1 s1) (hm : mBr (fun kf kg kn => mLt hl_ vl fi se kf kg kn 0) fr n 20 kq kf kg po oo wd li t2 m2 s2 l1 kn1 kf1 kg1 t3 m3 s3) : (∀ z, z < n → g1 z = l1 z) ∧ (sg g1 0 n).Perm (List.range n) ∧ t1 = t3 ∧ m1 = m3 ∧ s1 = s3 ∧ (∃ c, cur1 = some c ∧ kPre c.1 c.2.1 c.2.2 knw kfw kgw ∧ (sg g1 0 n).Pairwise (leOf (kLt f 10 c.2.1 c.2.2 c.1 0))) ∧ ((∀ q, po = some q → q < 6) → (∀ q, oo = some q → q < 6) → kRel cur1 (some kn1) kf1 kg1) := by
  obtain ⟨r1, r2, r3, rfl, rfl, rfl, r7, r8⟩ := hs
  have hp' : ∀ q, po = some q → q < 1000 := fun q y => Nat.lt_trans (hp q y) (by decide)
  have hq' : ∀ q, oo = some q → q < 1000 := fun q y => Nat.lt_trans (hq q y) (by decide)
  have key : ∀ kn kfc kgc, cur = some (kn, kfc, kgc) → kq = some kn → (∀ t, t < kn → kfc t = kf t ∧ kgc t = kg t ∧ kf t < 6) → (kPre kn kfc kgc knw kfw kgw ↔ mOrdB kn kf kg po oo wd = true) := fun kn kfc kgc _ _ h3 => ord_kp (fun t ht => ⟨(h3 t ht).1, (h3 t ht).2.1, Nat.lt_trans (h3 t ht).2.2 (by decide)⟩) hw hp' hq'
  rcases hc with ⟨c, c1, c2, rfl, rfl, rfl, rfl, rfl⟩ | ⟨c1, rfl, c3, c4, c5, rfl⟩
  · obtain ⟨kn, kfc, kgc⟩ := c
    have hk : kq = some kn ∧ ∀ t, t < kn → kfc t = kf t ∧ kgc t = kg t ∧ kf t < 6 := by
      rcases r7 with r7 | ⟨k, kc, gc, y1, y2, y3⟩
      · rw [r7.1] at c1; cases c1
      · rw [y1] at c1; cases c1; exact ⟨y2, y3⟩
    rcases hm with ⟨kn', d1, d2, e1, rfl, rfl, rfl, rfl, rfl, rfl⟩ | ⟨d1, _⟩
    · have e : kn' = kn := by
        rw [hk.1] at d1
        exact (Option.some.inj d1).symm
      rw [e] at e1
      subst e1
      exact ⟨r1, r2, rfl, rfl, rfl, ⟨_, c1, c2, r8 _ kfc kgc c1⟩, fun _ _ => Or.inr ⟨_, kfc, kgc, c1, rfl, hk.2⟩⟩
    · have := (key kn kfc kgc c1 hk.1 hk.2).mp c2
      rw [d1 kn hk.1] at this
      exact absurd this Bool.false_ne_true
  · rcases hm with ⟨kn', d1, d2, _⟩ | ⟨d1, rfl, rfl, rfl, d5, d6, d7, d8, rfl⟩
    · obtain ⟨kfc, kgc, y1, y2⟩ := kRel_1 r7 kn' d1
      exact absurd ((key kn' kfc kgc y1 d1 y2).mpr d2) (c1 (kn', kfc, kgc) y1)
    · obtain ⟨rfl, hw2⟩ := hw
      have hkk : ∀ t, t < kN po oo → kfw t = kF kf po oo t ∧ kgw t = kG kg wd po oo t ∧ kF kf po oo t < 9 := fun t ht => ⟨(hw2 t ht).1.trans (kF_b ht), (hw2 t ht).2.trans (kG_b ht), kF_lt6 hp hq ht⟩
      have hlt : ∀ p q, p < n → q < n → kLt f 10 kfw kgw (kN po oo) 0 p q = mLt hl_ vl fi se (kF kf po oo) (kG kg wd po oo) (kN po oo) 0 p q := fun p q y1 y2 => kLt_m r3 ho y1 y2 _ 0 (fun z _ y4 => hkk z (by omega))
      have hu := srt_u r1 r2 hlt (fun p q y1 y2 y3 y4 => by
        have := mLt_0 _ 0 y3 y4
        exact ho.2 p q y1 y2 this.1 this.2) c3 d5 c4 d6
      have h8 : (t1, m1) = (t3, m3) := by rw [c5, d8, fin_eq hfr hn (Nat.zero_le _)]
      cases h8
      exact ⟨hu, c3.trans r2, rfl, rfl, rfl, ⟨_, rfl, ⟨Nat.le_refl _, fun t _ => ⟨rfl, rfl⟩⟩, c4⟩, fun h1 h2 => Or.inr ⟨_, kfw, kgw, rfl, rfl, fun t ht => ⟨(hkk t ht).1, (hkk t ht).2.1, kF_lt6 h1 h2 ht⟩⟩⟩
/-- the list is in order within each partition -/
theorem lx_le {d : Bool} {X Y : Int64} {r : Bool} (h : lx d Y X r = false) : if d = true then Y.toInt ≤ X.toInt else X.toInt ≤ Y.toInt := by
  unfold lx at h
  by_cases e : Y = X
  · rw [e]; cases d
    · rw [if_neg Bool.false_ne_true]; exact Int.le_refl _
    · rw [if_pos rfl]; exact Int.le_refl _
  · rw [if_neg e] at h
    cases d
    · rw [if_neg Bool.false_ne_true] at h ⊢
      have h := of_decide_eq_false h
      rw [Int64.lt_iff_toInt_lt] at h
      omega
    · rw [if_pos rfl] at h ⊢
      have h := of_decide_eq_false h
      rw [Int64.lt_iff_toInt_lt] at h
      omega
theorem lx_eq {d : Bool} {X Y : Int64} {r : Bool} (e : Y = X) (h : lx d Y X r = false) : r = false := by
  unfold lx at h
  rw [if_pos e] at h
  exact h
theorem mono_s {c : Nat × (Nat → Nat) × (Nat → Bool)} {st en : Nat} (hw : kWin po oo wd knw kfw kgw) (hk : kPre c.1 c.2.1 c.2.2 knw kfw kgw) (hs : (sg g 0 n).Pairwise (leOf (kLt f 10 c.2.1 c.2.2 c.1 0))) (hen : en ≤ n) (hpt : ∀ j, st < j → j < en → pEq (po.map (fun q z => f (g z * 10 + q))) st j = true) : mono (oo.map (fun q z => f (g z * 10 + q))) wd st en := by
  intro u hu a b h1 h2 h3
  by_cases e : a = b
  · subst e
    cases wd
    · rw [if_neg Bool.false_ne_true]; exact Int.le_refl _
    · rw [if_pos rfl]; exact Int.le_refl _
  · have hab := sg_pw.mp hs a b (by omega) (by omega)
    have hab : kLt f 10 c.2.1 c.2.2 c.1 0 (g b) (g a) = false := hab
    obtain ⟨k, kfc, kgc⟩ := c
    obtain ⟨hk1, hk2⟩ := hk
    obtain ⟨rfl, hw⟩ := hw
    cases oo with
    | none => cases hu
    | some q =>
      have hu : (fun z => f (g z * 10 + q)) = u := Option.some.inj hu
      subst hu
      have hpa : ∀ p, po = some p → f (g b * 10 + p) = f (g a * 10 + p) := fun p hp => by
        subst hp
        have hx : ∀ j, st ≤ j → j < en → f (g st * 10 + p) = f (g j * 10 + p) := fun j y1 y2 => by
          by_cases y : j = st
          · rw [y]
          · exact of_decide_eq_true (hpt j (by omega) y2)
        rw [← hx a h1 (by omega), ← hx b (by omega) h3]
      cases po with
      | none =>
        obtain ⟨d, rfl⟩ : ∃ d, k = d + 1 := ⟨k - 1, by have : 1 ≤ k := hk1; omega⟩
        have e1 := hk2 0 (show 0 < 1 from Nat.one_pos)
        have e2 := hw 0 (show 0 < 1 from Nat.one_pos)
        have hab : kLt f 10 kfc kgc (d + 1) 0 (g b) (g a) = false := hab
        rw [kLt_s] at hab
        have h5 := lx_le hab
        rw [show kfc 0 = q from e1.1.trans e2.1, show kgc 0 = wd from e1.2.trans e2.2] at h5
        exact h5
      | some p =>
        obtain ⟨d, rfl⟩ : ∃ d, k = d + 2 := ⟨k - 2, by have : 2 ≤ k := hk1; omega⟩
        have e1 := hk2 0 (show 0 < 2 by decide)
        have e2 := hw 0 (show 0 < 2 by decide)
        have e3 := hk2 1 (show 1 < 2 by decide)
        have e4 := hw 1 (show 1 < 2 by decide)
        have hab : kLt f 10 kfc kgc (d + 1 + 1) 0 (g b) (g a) = false := hab
        rw [kLt_s] at hab
        have h5 := lx_eq (by rw [show kfc 0 = p from e1.1.trans e2.1]; exact hpa p rfl) hab
        rw [kLt_s] at h5
        have h6 := lx_le h5
        rw [show kfc (0 + 1) = q from e3.1.trans e4.1, show kgc (0 + 1) = wd from e3.2.trans e4.2] at h6
        exact h6
end TIE
/-! what is read only below n -/
theorem scn_c {P Q : Nat → Bool} : ∀ d a, (∀ z, a ≤ z → z < a + d → P z = Q z) → scn P d a = scn Q d a := by
  intro d
  induction d with
  | zero => intro a _; rfl
  | succ d ih =>
    intro a h
    simp only [scn]
    rw [h a (Nat.le_refl _) (by omega), ih (a + 1) (fun z y1 y2 => h z (by omega) (by omega))]
def oAg (o o2 : Option (Nat → Int64)) (n : Nat) : Prop := (o = none ∧ o2 = none) ∨ ∃ u v, o = some u ∧ o2 = some v ∧ ∀ z, z < n → u z = v z
theorem pEq_c {o o2 : Option (Nat → Int64)} {n i j : Nat} (h : oAg o o2 n) (hi : i < n) (hj : j < n) : pEq o i j = pEq o2 i j := by
  rcases h with ⟨rfl, rfl⟩ | ⟨u, v, rfl, rfl, h⟩
  · rfl
  · show decide (u i = u j) = decide (v i = v j)
    rw [h i hi, h j hj]
theorem pEnd_c {o o2 : Option (Nat → Int64)} {n st : Nat} (h : oAg o o2 n) (hs : st < n) : pEnd o n st = pEnd o2 n st := scn_c _ _ (fun z y1 y2 => by rw [pEq_c h hs (by omega)])
theorem pSt_c {o o2 : Option (Nat → Int64)} {n : Nat} (h : oAg o o2 n) : ∀ i, i < n → pSt o i = pSt o2 i ∧ pSt o i ≤ i := by
  intro i
  induction i with
  | zero => intro _; exact ⟨rfl, Nat.le_refl _⟩
  | succ i ih =>
    intro hi
    obtain ⟨h1, h2⟩ := ih (by omega)
    simp only [pSt]
    rw [← h1, ← pEq_c h (by omega) hi]
    refine ⟨rfl, ?_⟩
    by_cases q : pEq o (pSt o i) (i + 1) = true
    · rw [if_pos q]; omega
    · rw [if_neg q]; exact Nat.le_refl _
theorem inF_c {o o2 : Option (Nat → Int64)} {n i j : Nat} {wd wg : Bool} {wl wh : Int32} (h : oAg o o2 n) (hi : i < n) (hj : j < n) : inF o wd wg wl wh i j = inF o2 wd wg wl wh i j := by
  rcases h with ⟨rfl, rfl⟩ | ⟨u, v, rfl, rfl, h⟩
  · rfl
  · cases wg
    · rw [inF_r, inF_r]
    · show (if u i = -1099511627776 ∨ u j = -1099511627776 then decide (u i = u j) else wRb wl wh (if wd = true then u i - u j else u j - u i)) = (if v i = -1099511627776 ∨ v j = -1099511627776 then decide (v i = v j) else wRb wl wh (if wd = true then v i - v j else v j - v i))
      rw [h i hi, h j hj]
section CG
variable {P Q : Nat → Bool} {u v : Nat → Int64} {n st : Nat}
theorem gFst_c : ∀ d, (∀ z, st ≤ z → z < st + d → P z = Q z) → gFst P st d = gFst Q st d := by
  intro d
  induction d with
  | zero => intro _; rfl
  | succ d ih =>
    intro h
    simp only [gFst]
    rw [ih (fun z y1 y2 => h z y1 (by omega)), h (st + d) (by omega) (by omega)]
theorem gLas_c : ∀ d, (∀ z, st ≤ z → z < st + d → P z = Q z) → gLas P st d = gLas Q st d := by
  intro d
  induction d with
  | zero => intro _; rfl
  | succ d ih =>
    intro h
    simp only [gLas]
    rw [ih (fun z y1 y2 => h z y1 (by omega)), h (st + d) (by omega) (by omega)]
theorem gCnt_c : ∀ d, (∀ z, st ≤ z → z < st + d → P z = Q z ∧ u z = v z) → gCnt P u st d = gCnt Q v st d := by
  intro d
  induction d with
  | zero => intro _; rfl
  | succ d ih =>
    intro h
    simp only [gCnt]
    rw [ih (fun z y1 y2 => h z y1 (by omega)), (h (st + d) (by omega) (by omega)).1, (h (st + d) (by omega) (by omega)).2]
theorem gSum_c : ∀ d, (∀ z, st ≤ z → z < st + d → P z = Q z ∧ u z = v z) → gSum P u st d = gSum Q v st d := by
  intro d
  induction d with
  | zero => intro _; rfl
  | succ d ih =>
    intro h
    simp only [gSum]
    rw [ih (fun z y1 y2 => h z y1 (by omega)), (h (st + d) (by omega) (by omega)).1, (h (st + d) (by omega) (by omega)).2]
theorem gMin_c : ∀ d, (∀ z, st ≤ z → z < st + d → P z = Q z ∧ u z = v z) → gMin P u st d = gMin Q v st d := by
  intro d
  induction d with
  | zero => intro _; rfl
  | succ d ih =>
    intro h
    simp only [gMin]
    rw [ih (fun z y1 y2 => h z y1 (by omega)), (h (st + d) (by omega) (by omega)).1, (h (st + d) (by omega) (by omega)).2]
theorem gMax_c : ∀ d, (∀ z, st ≤ z → z < st + d → P z = Q z ∧ u z = v z) → gMax P u st d = gMax Q v st d := by
  intro d
  induction d with
  | zero => intro _; rfl
  | succ d ih =>
    intro h
    simp only [gMax]
    rw [ih (fun z y1 y2 => h z y1 (by omega)), (h (st + d) (by omega) (by omega)).1, (h (st + d) (by omega) (by omega)).2]
theorem rkC_c {e e2 : Nat → Nat → Bool} {rw : Bool} {i : Nat} : ∀ d, (∀ a, st ≤ a → a < st + d → e a i = e2 a i ∧ e (a - 1) a = e2 (a - 1) a) → rkC e rw st i d = rkC e2 rw st i d := by
  intro d
  induction d with
  | zero => intro _; rfl
  | succ d ih =>
    intro h
    simp only [rkC]
    rw [ih (fun z y1 y2 => h z y1 (by omega)), (h (st + d) (by omega) (by omega)).1, (h (st + d) (by omega) (by omega)).2]
theorem argN_c {j en : Nat} (hn : en ≤ n) (h : ∀ z, z < n → u z = v z) : argN u j st en = argN v j st en := by
  unfold argN
  by_cases q : st ≤ j ∧ j < en
  · rw [if_pos q, if_pos q, h j (by omega)]
  · rw [if_neg q, if_neg q]
theorem argO_c {o : Option Nat} {en : Nat} (hn : en ≤ n) (h : ∀ z, z < n → u z = v z) : argO u o st en = argO v o st en := by
  cases o with
  | none => rw [argO_n, argO_n]
  | some j => rw [argO_s, argO_s]; exact argN_c hn h
end CG
theorem mVal_c {o o2 : Option (Nat → Int64)} {u v : Nat → Int64} {n wf wn : Nat} {wd wg : Bool} {wl wh : Int32} {st en i : Nat} (h : oAg o o2 n) (hu : ∀ z, z < n → u z = v z) (h1 : st ≤ i) (h2 : i < en) (h3 : en ≤ n) (hwf : wf < 12) : mVal o u wf wn wd wg wl wh st en i = mVal o2 v wf wn wd wg wl wh st en i := by
  have hP : ∀ z, st ≤ z → z < st + (en - st) → inF o wd wg wl wh i z = inF o2 wd wg wl wh i z := fun z _ y2 => inF_c h (by omega) (by omega)
  have hPu : ∀ z, st ≤ z → z < st + (en - st) → inF o wd wg wl wh i z = inF o2 wd wg wl wh i z ∧ u z = v z := fun z y1 y2 => ⟨hP z y1 y2, hu z (by omega)⟩
  have hR : ∀ b, rkC (pEq o) b st i (i - st) = rkC (pEq o2) b st i (i - st) := fun b => rkC_c _ (fun a y1 y2 => ⟨pEq_c h (by omega) (by omega), pEq_c h (by omega) (by omega)⟩)
  rcases (show wf = 0 ∨ wf = 1 ∨ wf = 2 ∨ wf = 3 ∨ wf = 4 ∨ wf = 5 ∨ wf = 6 ∨ wf = 7 ∨ wf = 8 ∨ wf = 9 ∨ wf = 10 ∨ wf = 11 by omega) with rfl | rfl | rfl | rfl | rfl | rfl | rfl | rfl | rfl | rfl | rfl | rfl
  · show (nI (i - st + 1)).toInt64 = (nI (i - st + 1)).toInt64
    rfl
  · show (nI (rkC (pEq o) true st i (i - st) + 1)).toInt64 = (nI (rkC (pEq o2) true st i (i - st) + 1)).toInt64
    rw [hR]
  · show (nI (rkC (pEq o) false st i (i - st) + 1)).toInt64 = (nI (rkC (pEq o2) false st i (i - st) + 1)).toInt64
    rw [hR]
  · show (nI (tileN (i - st) (en - st) wn)).toInt64 = (nI (tileN (i - st) (en - st) wn)).toInt64
    rfl
  · show (if wn ≤ i then argN u (i - wn) st en else -1099511627776) = (if wn ≤ i then argN v (i - wn) st en else -1099511627776)
    rw [argN_c h3 hu]
  · show argN u (i + wn) st en = argN v (i + wn) st en
    exact argN_c h3 hu
  · show argO u (gFst (inF o wd wg wl wh i) st (en - st)) st en = argO v (gFst (inF o2 wd wg wl wh i) st (en - st)) st en
    rw [gFst_c _ hP, argO_c h3 hu]
  · show argO u (gLas (inF o wd wg wl wh i) st (en - st)) st en = argO v (gLas (inF o2 wd wg wl wh i) st (en - st)) st en
    rw [gLas_c _ hP, argO_c h3 hu]
  · show (if 0 < gCnt (inF o wd wg wl wh i) u st (en - st) then gSum (inF o wd wg wl wh i) u st (en - st) else -1099511627776) = (if 0 < gCnt (inF o2 wd wg wl wh i) v st (en - st) then gSum (inF o2 wd wg wl wh i) v st (en - st) else -1099511627776)
    rw [gCnt_c _ hPu, gSum_c _ hPu]
  · show (nI (gCnt (inF o wd wg wl wh i) u st (en - st))).toInt64 = (nI (gCnt (inF o2 wd wg wl wh i) v st (en - st))).toInt64
    rw [gCnt_c _ hPu]
  · show gMin (inF o wd wg wl wh i) u st (en - st) = gMin (inF o2 wd wg wl wh i) v st (en - st)
    exact gMin_c _ hPu
  · show gMax (inF o wd wg wl wh i) u st (en - st) = gMax (inF o2 wd wg wl wh i) v st (en - st)
    exact gMax_c _ hPu
theorem all_c {P Q : Nat → Bool} : ∀ l : List Nat, (∀ x, x ∈ l → P x = Q x) → l.all P = l.all Q := by
  intro l
  induction l with
  | nil => intro _; rfl
  | cons a l ih =>
    intro h
    rw [List.all_cons, List.all_cons, h a List.mem_cons_self, ih (fun x hx => h x (List.mem_cons_of_mem _ hx))]
theorem wRun_c {n cap : Nat} {pe pe2 : Nat → Nat} {ok ok2 : Nat → Bool} (h : ∀ st, st < n → pe st = pe2 st ∧ ok st = ok2 st) : ∀ d st lg, wRun n cap pe ok d st lg = wRun n cap pe2 ok2 d st lg := by
  intro d
  induction d with
  | zero => intro st lg; rfl
  | succ d ih =>
    intro st lg
    simp only [wRun]
    by_cases q : n ≤ st
    · rw [if_pos q, if_pos q]
    · rw [if_neg q, if_neg q, (h st (by omega)).1, (h st (by omega)).2, ih]
theorem pEnd_sp {o : Option (Nat → Int64)} {n st : Nat} (h : st < n) : st < pEnd o n st ∧ pEnd o n st ≤ n ∧ ∀ j, st < j → j < pEnd o n st → pEq o st j = true := by
  unfold pEnd
  have h1 := scn_le (fun j => !pEq o st j) (n - (st + 1)) (st + 1)
  have h2 := scn_sp (P := fun j => !pEq o st j) (n - (st + 1)) (st + 1)
  refine ⟨by omega, by omega, fun j y1 y2 => ?_⟩
  have := h2.1 j (by omega) y2
  simpa using this
theorem pSt_sp {o : Option (Nat → Int64)} : ∀ i j, pSt o i < j → j ≤ i → pEq o (pSt o i) j = true := by
  intro i
  induction i with
  | zero => intro j h1 h2; exact absurd h1 (by omega)
  | succ i ih =>
    intro j
    show (if pEq o (pSt o i) (i + 1) = true then pSt o i else i + 1) < j → j ≤ i + 1 → pEq o (if pEq o (pSt o i) (i + 1) = true then pSt o i else i + 1) j = true
    by_cases q : pEq o (pSt o i) (i + 1) = true
    · rw [if_pos q]
      intro h1 h2
      by_cases e : j = i + 1
      · rw [e]; exact q
      · exact ih j h1 (by omega)
    · rw [if_neg q]
      intro h1 h2
      omega
theorem pEnd_gt {o : Option (Nat → Int64)} {n i : Nat} (h : i < n) (hl : pSt o i ≤ i) : i < pEnd o n (pSt o i) := by
  have h2 := scn_sp (P := fun j => !pEq o (pSt o i) j) (n - (pSt o i + 1)) (pSt o i + 1)
  have h1 := scn_le (fun j => !pEq o (pSt o i) j) (n - (pSt o i + 1)) (pSt o i + 1)
  show i < scn (fun j => !pEq o (pSt o i) j) (n - (pSt o i + 1)) (pSt o i + 1)
  generalize scn (fun j => !pEq o (pSt o i) j) (n - (pSt o i + 1)) (pSt o i + 1) = e at *
  by_cases q : i < e
  · exact q
  · have h3 := h2.2 (by omega)
    have h4 := pSt_sp (o := o) i e (by omega) (by omega)
    simp [h4] at h3
section TIE2
variable {fr n : Nat} {fi : Nat → Nat} {se : Nat → Int32} {po oo : Option Nat} {wd wg : Bool} {wl wh : Int32} {wf wa wn col knw : Nat} {kfw : Nat → Nat} {kgw : Nat → Bool} {g1 : Nat → Nat} {f : Nat → Int64} {l1 : Nat → Nat} {hl_ : Nat → Bool} {vl : Nat → Int32}
theorem col_ag (hf : fRel n f hl_ vl fi se) (hg : ∀ z, z < n → g1 z = l1 z) (hr : (sg g1 0 n).Perm (List.range n)) {q : Nat} (hq : q < 9) : ∀ z, z < n → f (g1 z * 10 + q) = mCol hl_ vl q (l1 z) := fun z hz => by
  rw [hg z hz]
  have hp : l1 z < n := by
    rw [← hg z hz]
    exact List.mem_range.mp (hr.mem_iff.mp (sg_mem.mpr ⟨z, Nat.zero_le _, hz, rfl⟩))
  exact (hf (l1 z) hp).1 q hq
theorem o_ag (hf : fRel n f hl_ vl fi se) (hg : ∀ z, z < n → g1 z = l1 z) (hr : (sg g1 0 n).Perm (List.range n)) (ho : ∀ q, oo = some q → q < 9) : oAg (oo.map (fun q z => f (g1 z * 10 + q))) (mOl hl_ vl l1 oo) n := by
  cases oo with
  | none => exact Or.inl ⟨rfl, rfl⟩
  | some q => exact Or.inr ⟨fun z => f (g1 z * 10 + q), fun z => mCol hl_ vl q (l1 z), rfl, rfl, col_ag hf hg hr (ho q rfl)⟩
/-- one row of one partition -/
theorem row_eq {c : Nat × (Nat → Nat) × (Nat → Bool)} {st en i : Nat} (hf : fRel n f hl_ vl fi se) (hg : ∀ z, z < n → g1 z = l1 z) (hr : (sg g1 0 n).Perm (List.range n)) (hn : n ≤ 60) (_hp : ∀ q, po = some q → q < 6) (ho : ∀ q, oo = some q → q < 6) (hwa : wa < 6) (hwf : wf < 12) (hw : kWin po oo wd knw kfw kgw) (hk : kPre c.1 c.2.1 c.2.2 knw kfw kgw) (hs : (sg g1 0 n).Pairwise (leOf (kLt f 10 c.2.1 c.2.2 c.1 0))) (h1 : st ≤ i) (h2 : i < en) (h3 : en ≤ n) (hpt : ∀ j, st < j → j < en → pEq (po.map (fun q z => f (g1 z * 10 + q))) st j = true) : wVal (oo.map (fun q z => f (g1 z * 10 + q))) (fun z => f (g1 z * 10 + wa)) wf wn wd wg wl wh st en i = mVal (mOl hl_ vl l1 oo) (fun z => mCol hl_ vl wa (l1 z)) wf wn wd wg wl wh st en i := by
  have hcell : ∀ q, q < 9 → ∀ z, z < n → cellI (f (g1 z * 10 + q)) := fun q hq z hz => by
    rw [col_ag hf hg hr hq z hz]
    exact cellI_enc
  rw [val_eq (mono_s hw hk hs h3 hpt) (fun u hu z _ y2 => by
    cases oo with
    | none => cases hu
    | some q =>
      cases hu
      exact hcell q (by have := ho q rfl; omega) z (by omega)) (fun z _ y2 => hcell wa (by omega) z (by omega)) h1 h2 (by omega) hwf]
  exact mVal_c (o_ag hf hg hr (fun q y => by have := ho q y; omega)) (col_ag hf hg hr (by omega)) h1 h2 h3 hwf
theorem run_eq {c : Nat × (Nat → Nat) × (Nat → Bool)} {cap d st lg : Nat} (hf : fRel n f hl_ vl fi se) (hg : ∀ z, z < n → g1 z = l1 z) (hr : (sg g1 0 n).Perm (List.range n)) (hn : n ≤ 60) (hp : ∀ q, po = some q → q < 6) (ho : ∀ q, oo = some q → q < 6) (hwa : wa < 6) (hwf : wf < 12) (hw : kWin po oo wd knw kfw kgw) (hk : kPre c.1 c.2.1 c.2.2 knw kfw kgw) (hs : (sg g1 0 n).Pairwise (leOf (kLt f 10 c.2.1 c.2.2 c.1 0))) : wRun n cap (pEnd (po.map (fun q z => f (g1 z * 10 + q))) n) (pOk (po.map (fun q z => f (g1 z * 10 + q))) (oo.map (fun q z => f (g1 z * 10 + q))) (fun z => f (g1 z * 10 + wa)) wf wn wd wg wl wh n) d st lg = wRun n cap (pEnd (mOl hl_ vl l1 po) n) (pOkM (mOl hl_ vl l1 po) (mOl hl_ vl l1 oo) (fun z => mCol hl_ vl wa (l1 z)) wf wn wd wg wl wh n) d st lg := by
  refine wRun_c (fun s0 hs0 => ?_) d st lg
  have ag := o_ag (oo := po) hf hg hr (fun q y => by have := hp q y; omega)
  have e := pEnd_c ag hs0
  refine ⟨e, ?_⟩
  unfold pOk pOkM
  rw [← e]
  obtain ⟨a1, a2, a3⟩ := pEnd_sp (o := po.map (fun q z => f (g1 z * 10 + q))) hs0
  refine all_c _ (fun x hx => ?_)
  rw [row_eq hf hg hr hn hp ho hwa hwf hw hk hs (by omega) (by have := List.mem_range.mp hx; omega) a2 a3]
theorem pv_eq {c : Nat × (Nat → Nat) × (Nat → Bool)} {i : Nat} (hf : fRel n f hl_ vl fi se) (hg : ∀ z, z < n → g1 z = l1 z) (hr : (sg g1 0 n).Perm (List.range n)) (hn : n ≤ 60) (hp : ∀ q, po = some q → q < 6) (ho : ∀ q, oo = some q → q < 6) (hwa : wa < 6) (hwf : wf < 12) (hw : kWin po oo wd knw kfw kgw) (hk : kPre c.1 c.2.1 c.2.2 knw kfw kgw) (hs : (sg g1 0 n).Pairwise (leOf (kLt f 10 c.2.1 c.2.2 c.1 0))) (hi : i < n) : pVal (po.map (fun q z => f (g1 z * 10 + q))) (oo.map (fun q z => f (g1 z * 10 + q))) (fun z => f (g1 z * 10 + wa)) wf wn wd wg wl wh n i = pVaM (mOl hl_ vl l1 po) (mOl hl_ vl l1 oo) (fun z => mCol hl_ vl wa (l1 z)) wf wn wd wg wl wh n i := by
  have ag := o_ag (oo := po) hf hg hr (fun q y => by have := hp q y; omega)
  obtain ⟨e1, e2⟩ := pSt_c ag i hi
  unfold pVal pVaM
  rw [← e1, ← pEnd_c ag (by omega)]
  obtain ⟨a1, a2, a3⟩ := pEnd_sp (o := po.map (fun q z => f (g1 z * 10 + q))) (n := n) (st := pSt (po.map (fun q z => f (g1 z * 10 + q))) i) (by omega)
  exact row_eq hf hg hr hn hp ho hwa hwf hw hk hs e2 (pEnd_gt hi e2) a2 a3
end TIE2
theorem kLt_f {f f1 : Nat → Int64} {kf : Nat → Nat} {kg : Nat → Bool} {p q : Nat} (h9 : ∀ p, f1 (p * 10 + 9) = f (p * 10 + 9)) : ∀ d t, (∀ z, t ≤ z → z < t + d → ∀ p, f1 (p * 10 + kf z) = f (p * 10 + kf z)) → kLt f1 10 kf kg d t p q = kLt f 10 kf kg d t p q := by
  intro d
  induction d with
  | zero =>
    intro t _
    show decide (f1 (p * 10 + 9) < f1 (q * 10 + 9)) = decide (f (p * 10 + 9) < f (q * 10 + 9))
    rw [h9, h9]
  | succ d ih =>
    intro t h
    rw [kLt_s, kLt_s, ih (t + 1) (fun z y1 y2 => h z (by omega) (by omega)), h t (Nat.le_refl _) (by omega), h t (Nat.le_refl _) (by omega)]
/-- one window, on both sides -/
theorem win_eq {fr n : Nat} {fi : Nat → Nat} {se : Nat → Int32} {po oo : Option Nat} {wd wg : Bool} {wl wh : Int32} {wf wa wn w knw : Nat} {kfw : Nat → Nat} {kgw : Nat → Bool} {s0 s2 : cSt} {x : Int32} {kq : Option Nat} {kf : Nat → Nat} {kg : Nat → Bool} {li : Nat → Nat} {tr ms sm : Nat} {hl_ : Nat → Bool} {vl : Nat → Int32} {l1 : Nat → Nat} {kn1 : Nat} {kf1 : Nat → Nat} {kg1 : Nat → Bool} {t2 m2 s1 : Nat} {er : Int32} {hl1 : Nat → Bool} {vl1 : Nat → Int32}
    (hs : sRel n fi se s0 (kq, kf, kg, li, tr, ms, sm, hl_, vl)) (ho : oRel n fi se) (hfr : 3 ≤ fr) (hn : n ≤ 60) (hw : kWin po oo wd knw kfw kgw) (hp : ∀ q, po = some q → q < 6) (hq : ∀ q, oo = some q → q < 6) (hwa : wa < 6) (hwf : wf < 12) (hw3 : w < 3) (hc : cWin fr n po oo wd wg wl wh wf wa wn (6 + w) knw kfw kgw s0 s2 x) (hm : mWin fr n 20 fi se po oo wd wg wl wh wf wa wn (6 + w) hl_ vl kq kf kg li tr ms sm l1 kn1 kf1 kg1 t2 m2 s1 er hl1 vl1) : x = er ∧ (x = nI 0 → sRel n fi se s2 (some kn1, kf1, kg1, l1, t2, m2, s1, hl1, vl1)) := by
  obtain ⟨cur, g, f, tr0, mh0, sm0⟩ := s0
  obtain ⟨cur1, g1, f1, tr1, mh1, sm1⟩ := s2
  obtain ⟨ta, ma, cb, RUN, cr, cd⟩ := hc
  obtain ⟨tb, mb, mb1, RUN2, mr, md⟩ := hm
  obtain ⟨b1, b2, rfl, rfl, rfl, ⟨c, b6, b7, b8⟩, b9⟩ := brr_c hs ho hfr hn hw (fun q y => by have := hp q y; omega) (fun q y => by have := hq q y; omega) cb mb1
  have b9 := b9 hp hq
  obtain ⟨r1, r2, r3, _, _, _, _, _⟩ := hs
  have hRR : RUN = RUN2 := by
    rw [← cr, ← mr]
    exact run_eq r3 b1 b2 hn hp hq hwa hwf hw b7 b8
  subst hRR
  have n23 : (-2 : Int32) ≠ nI 0 ∧ (-3 : Int32) ≠ nI 0 := by decide
  rcases cd with ⟨rfl, cd1, cd2, cd3, cd4⟩ | ⟨rfl, cd1⟩ | ⟨rfl, cd1⟩
  · rcases md with ⟨rfl, md1, md2, md3, md4⟩ | ⟨rfl, md1⟩ | ⟨rfl, md1⟩
    · refine ⟨rfl, fun _ => ⟨b1, b2, fun p hp9 => ⟨fun c9 hc9 => ?_, ?_⟩, ?_, ?_, rfl, b9, fun kn kfc kgc hk9 => ?_⟩⟩
      · by_cases e : c9 = 6 + w
        · subst e
          obtain ⟨i, _, hi, he⟩ := sg_mem.mp (b2.mem_iff.mpr (List.mem_range.mpr hp9))
          rw [← he, cd2.1 i hi, b1 i hi, md2.1 i hi]
          exact pv_eq r3 b1 b2 hn hp hq hwa hwf hw b7 b8 hi
        · rw [cd2.2 p c9 (by omega) e, wm_u1 md2 p c9 hc9 e]
          exact (r3 p hp9).1 c9 hc9
      · rw [cd2.2 p 9 (by decide) (by omega)]
        exact (r3 p hp9).2
      · rw [cd3, md3]
      · rw [cd4, md4]
      · have hk9 : cur1 = some (kn, kfc, kgc) := hk9
        rw [b6] at hk9
        cases hk9
        have hlt : ∀ p q, kLt f1 10 kfc kgc kn 0 p q = kLt f 10 kfc kgc kn 0 p q := fun p q => kLt_f (fun p => cd2.2 p 9 (by decide) (by omega)) kn 0 (fun z _ y2 p => by
          rcases b9 with b9 | ⟨k, kc, gc, y3, y4, y5⟩
          · rw [b6] at b9; cases b9.1
          · rw [b6] at y3; cases y3
            have := y5 z (by omega)
            exact cd2.2 p (kfc z) (by omega) (by omega))
        refine List.Pairwise.imp (fun {a b} h => ?_) b8
        show kLt f1 10 kfc kgc kn 0 b a = false
        rw [hlt]
        exact h
    · rw [cd1] at md1; cases md1
    · rw [cd1] at md1; cases md1
  · rcases md with ⟨rfl, md1, _⟩ | ⟨rfl, md1⟩ | ⟨rfl, md1⟩
    · rw [cd1] at md1; cases md1
    · exact ⟨rfl, fun q => absurd q n23.1⟩
    · rw [cd1] at md1; cases md1
  · rcases md with ⟨rfl, md1, _⟩ | ⟨rfl, md1⟩ | ⟨rfl, md1⟩
    · rw [cd1] at md1; cases md1
    · rw [cd1] at md1; cases md1
    · exact ⟨rfl, fun q => absurd q n23.2⟩
/-- all windows, on both sides -/
theorem ws_eq {fr n : Nat} {fi : Nat → Nat} {se : Nat → Int32} {po oo : Nat → Option Nat} {wd wg : Nat → Bool} {wl wh : Nat → Int32} {wf wa wn kn : Nat → Nat} {kf : Nat → Nat → Nat} {kg : Nat → Nat → Bool} (ho : oRel n fi se) (hfr : 3 ≤ fr) (hn : n ≤ 60) : ∀ (ws : List Nat), (∀ w, w ∈ ws → w < 3 ∧ kWin (po w) (oo w) (wd w) (kn w) (kf w) (kg w) ∧ (∀ q, po w = some q → q < 6) ∧ (∀ q, oo w = some q → q < 6) ∧ wa w < 6 ∧ wf w < 12) → ∀ (s0 s1 : cSt) (r0 r1 : mSt) (x er : Int32), sRel n fi se s0 r0 → cWs fr n po oo wd wg wl wh wf wa wn kn kf kg ws s0 x s1 → mWs fr n 20 fi se po oo wd wg wl wh wf wa wn ws r0 er r1 → x = er ∧ (x = nI 0 → sRel n fi se s1 r1) := by
  intro ws
  induction ws with
  | nil =>
    intro _ s0 s1 r0 r1 x er hs hc hm
    obtain ⟨rfl, rfl⟩ := hc
    obtain ⟨rfl, rfl⟩ := hm
    exact ⟨rfl, fun _ => hs⟩
  | cons w ws ih =>
    intro hw s0 s1 r0 r1 x er hs hc hm
    obtain ⟨kq, kf0, kg0, li, tr, ms, sm, hl_, vl⟩ := r0
    obtain ⟨s2, x1, c1, c2⟩ := hc
    obtain ⟨l1, kn1, kf1, kg1, t2, m2, s2', er1, hl1, vl1, d1, d2⟩ := hm
    obtain ⟨w1, w2, w3, w4, w5, w6⟩ := hw w (List.mem_cons_self)
    obtain ⟨rfl, e2⟩ := win_eq hs ho hfr hn w2 w3 w4 w5 w6 w1 c1 d1
    rcases c2 with ⟨c2, c3⟩ | ⟨c2, rfl⟩
    · rcases d2 with ⟨_, d3⟩ | ⟨d2, _⟩
      · exact ih (fun w hw9 => hw w (List.mem_cons_of_mem _ hw9)) s2 s1 _ r1 x er (e2 c2) c3 d3
      · exact absurd c2 d2
    · rcases d2 with ⟨d2, _⟩ | ⟨_, rfl⟩
      · exact absurd d2 c2
      · exact ⟨rfl, fun q => absurd q c2⟩
/-! the class's rows and the reference's: tables, filter, join -/
/-- a table on both sides -/
def tRel (t n : Nat) (f : Nat → Int64) (ho gv : Nat → Int32) : Prop := ∀ i, i < n → ∀ c, c < 3 → f (i * 3 + c) = enc (!hBit (ho (24 * t + i)) c) (gv (72 * t + 3 * i + c))
theorem nI_s (k : Nat) (h : k < 1000) (j : Nat) (hj : j < 1000) : (nI k = nI j) ↔ k = j := nI_inj h hj
theorem keep_p {op : Nat} {b : Bool} {v num : Int32} (hop : op ≤ 4) : fKeep (nI op) num (enc (!b) v) = pass9 op b v num := by
  have e : enc (!b) v ≠ -1099511627776 ↔ b = true := by
    rw [ne_eq, enc_nul]
    cases b <;> decide
  have z0 : nI 0 = (0 : Int32) := by decide
  have z1 : nI 1 = (1 : Int32) := by decide
  have z2 : nI 2 = (2 : Int32) := by decide
  have z3 : nI 3 = (3 : Int32) := by decide
  have z4 : nI 4 = (4 : Int32) := by decide
  rcases (show op = 0 ∨ op = 1 ∨ op = 2 ∨ op = 3 ∨ op = 4 by omega) with rfl | rfl | rfl | rfl | rfl
  · unfold fKeep
    rw [if_pos z0]
    show _ = (b && decide (v < num))
    cases b
    · exact decide_eq_false (fun q => absurd (e.mp q.1) Bool.false_ne_true)
    · rw [Bool.true_and]
      refine decide_eq_decide.mpr ⟨fun q => ?_, fun q => ⟨e.mpr rfl, ?_⟩⟩
      · exact v64_lt.mp (by rw [← enc_f (v := v)]; exact q.2)
      · exact (enc_f (v := v)).symm ▸ v64_lt.mpr q
  · unfold fKeep
    rw [z1, if_neg (by decide), if_pos rfl]
    show _ = (b && decide (v = num))
    cases b
    · exact decide_eq_false (fun q => absurd (e.mp q.1) Bool.false_ne_true)
    · rw [Bool.true_and]
      refine decide_eq_decide.mpr ⟨fun q => ?_, fun q => ⟨e.mpr rfl, ?_⟩⟩
      · have h : v.toInt64 = num.toInt64 := by rw [← enc_f (v := v)]; exact q.2
        have h := congrArg Int64.toInt h
        rw [i64_i, i64_i] at h
        exact Int32.toInt_inj.mp h
      · rw [q]; exact enc_f
  · unfold fKeep
    rw [z2, if_neg (by decide), if_neg (by decide), if_pos rfl]
    show _ = (b && decide (num < v))
    cases b
    · exact decide_eq_false (fun q => absurd (e.mp q.1) Bool.false_ne_true)
    · rw [Bool.true_and]
      refine decide_eq_decide.mpr ⟨fun q => ?_, fun q => ⟨e.mpr rfl, ?_⟩⟩
      · exact v64_lt.mp (by rw [← enc_f (v := v)]; exact q.2)
      · exact (enc_f (v := v)).symm ▸ v64_lt.mpr q
  · unfold fKeep
    rw [z3, if_neg (by decide), if_neg (by decide), if_neg (by decide), if_pos rfl]
    show _ = (!b)
    cases b
    · exact decide_eq_true enc_t
    · exact decide_eq_false (e.mpr rfl)
  · unfold fKeep
    rw [z4, if_neg (by decide), if_neg (by decide), if_neg (by decide), if_neg (by decide), if_pos rfl]
    show _ = b
    cases b
    · exact decide_eq_false (fun q => absurd (e.mp q) Bool.false_ne_true)
    · exact decide_eq_true (e.mpr rfl)
theorem keep_n {num : Int32} {x : Int64} : fKeep (-1) num x = true := by
  unfold fKeep
  rw [if_neg (by decide), if_neg (by decide), if_neg (by decide), if_neg (by decide), if_neg (by decide)]
theorem kLs_c {P Q : Nat → Bool} {n : Nat} (h : ∀ i, i < n → P i = Q i) : kLs P n = kLs Q n := List.filter_congr (fun i hi => h i (List.mem_range.mp hi))
theorem kLs_nd {P : Nat → Bool} {n : Nat} : (kLs P n).Nodup := List.Pairwise.filter P List.nodup_range
theorem jLs_c {Q Q2 : Nat → Nat → Bool} {n1 : Nat} : ∀ t, (∀ a j, a < t → j < n1 → Q a j = Q2 a j) → jLs Q n1 t = jLs Q2 n1 t := by
  intro t
  induction t with
  | zero => intro _; rfl
  | succ t ih =>
    intro h
    show jLs Q n1 t ++ ((List.range n1).filter (Q t)).map (fun j => (t, some j)) = jLs Q2 n1 t ++ ((List.range n1).filter (Q2 t)).map (fun j => (t, some j))
    rw [ih (fun a j y1 y2 => h a j (by omega) y2), List.filter_congr (fun j hj => h t j (Nat.lt_succ_self t) (List.mem_range.mp hj))]
theorem jLs_m {Q : Nat → Nat → Bool} {n1 : Nat} : ∀ t x, x ∈ jLs Q n1 t → x.1 < t ∧ ∃ j, x.2 = some j ∧ j < n1 := by
  intro t
  induction t with
  | zero => intro x hx; cases hx
  | succ t ih =>
    intro x hx
    have hx : x ∈ jLs Q n1 t ++ ((List.range n1).filter (Q t)).map (fun j => (t, some j)) := hx
    rcases List.mem_append.mp hx with h | h
    · have := ih x h
      exact ⟨by omega, this.2⟩
    · obtain ⟨j, hj, rfl⟩ := List.mem_map.mp h
      exact ⟨Nat.lt_succ_self t, j, rfl, List.mem_range.mp (List.mem_filter.mp hj).1⟩
theorem jLs_nd {Q : Nat → Nat → Bool} {n1 : Nat} : ∀ t, (jLs Q n1 t).Nodup := by
  intro t
  induction t with
  | zero => exact List.nodup_nil
  | succ t ih =>
    show (jLs Q n1 t ++ ((List.range n1).filter (Q t)).map (fun j => (t, some j))).Nodup
    refine List.nodup_append.mpr ⟨ih, ?_, fun a ha b hb e => ?_⟩
    · exact List.Pairwise.map _ (fun a b h e => h (by cases e; rfl)) (List.Pairwise.filter (Q t) List.nodup_range)
    · have h1 := (jLs_m t a ha).1
      obtain ⟨j, _, rfl⟩ := List.mem_map.mp hb
      rw [e] at h1
      exact absurd h1 (Nat.lt_irrefl t)
theorem rgn_nd {n : Nat} : ((List.range n).map (fun z => (z, (none : Option Nat)))).Nodup := List.Pairwise.map _ (fun a b h e => h (by cases e; rfl)) List.nodup_range
theorem getD_m {α : Type} {l : List α} {z : Nat} {d : α} (h : z < l.length) : l.getD z d ∈ l := by
  rw [List.getD_eq_getElem?_getD, List.getElem?_eq_getElem h]
  exact List.getElem_mem h
theorem getD_inj {α : Type} {l : List α} {d : α} (hn : l.Nodup) {p q : Nat} (hp : p < l.length) (hq : q < l.length) (e : l.getD p d = l.getD q d) : p = q := by
  rw [List.getD_eq_getElem?_getD, List.getD_eq_getElem?_getD, List.getElem?_eq_getElem hp, List.getElem?_eq_getElem hq] at e
  have e : l[p] = l[q] := e
  have hn := List.pairwise_iff_getElem.mp hn
  rcases Nat.lt_trichotomy p q with y | y | y
  · exact absurd e (hn p q hp hq y)
  · exact y
  · exact absurd e.symm (hn q p hq hp y)
/-- the kept rows, on both sides -/
theorem kept_eq {P Q : Nat → Bool} {f0 fk : Nat → Int64} {n nk nk2 : Nat} {gk kp : Nat → Nat} (h : ∀ i, i < n → P i = Q i) (hc : KpI P f0 n nk fk gk) (hm : KmI Q n nk2 kp) : nk = nk2 ∧ (∀ t, t < nk → gk t = t ∧ (∀ c, c < 3 → fk (t * 4 + c) = f0 (kp t * 3 + c)) ∧ fk (t * 4 + 3) = (nI (kp t)).toInt64 ∧ kp t < n) ∧ ∀ a b, a < nk → b < nk → kp a = kp b → a = b := by
  have e := kLs_c h
  have h1 : nk = nk2 := by rw [hc.1, hm.1, e]
  refine ⟨h1, fun t ht => ?_, fun a b ha hb hab => ?_⟩
  · obtain ⟨a1, a2, a3⟩ := hc.2 t ht
    rw [e, ← hm.2 t (by omega)] at a2 a3
    exact ⟨a1, a2, a3, km_lt hm (by omega)⟩
  · rw [hm.2 a (by omega), hm.2 b (by omega)] at hab
    exact getD_inj kLs_nd (by rw [← hm.1]; omega) (by rw [← hm.1]; omega) hab
/-- the rows that are made, on both sides -/
theorem made_f {n0 n1 nk n : Nat} {f0 f1 fK fl : Nat → Int64} {ho gv : Nat → Int32} {kp gl li : Nat → Nat} {l : List (Nat × Option Nat)} {hl_ : Nat → Bool} {vl : Nat → Int32} {fi : Nat → Nat} {se : Nat → Int32} (h0 : tRel 0 n0 f0 ho gv) (h1 : tRel 1 n1 f1 ho gv) (hk : ∀ t, t < nk → (∀ c, c < 3 → fK (t * 4 + c) = f0 (kp t * 3 + c)) ∧ fK (t * 4 + 3) = (nI (kp t)).toInt64 ∧ kp t < n0) (hl : ∀ x, x ∈ l → x.1 < nk ∧ ∀ j, x.2 = some j → j < n1) (hc : LsI fK f1 l n fl gl) (hm : LmI ho gv kp l n hl_ vl fi se li) : fRel n fl hl_ vl fi se := by
  intro p hp
  obtain ⟨a1, a2⟩ := hc.2 p hp
  obtain ⟨b1, b2, b3, b4⟩ := hm.2 p hp
  have hx := hl _ (getD_m (d := (0, none)) (show p < l.length by rw [← hc.1]; exact hp))
  generalize l.getD p (0, none) = x at *
  obtain ⟨t, j⟩ := x
  obtain ⟨k1, k2, k3⟩ := hk t hx.1
  refine ⟨fun c hc9 => ?_, ?_⟩
  · rw [a2 c (by omega)]
    unfold mCol
    rw [(b4 c hc9).1, (b4 c hc9).2]
    show lRow fK f1 t j c = enc (!mIs ho (kp t) j c) (mVl ho gv (kp t) j c)
    by_cases q3 : c < 3
    · have e1 : lRow fK f1 t j c = fK (t * 4 + c) := if_pos q3
      have e2 : mIs ho (kp t) j c = hBit (ho (24 * 0 + kp t)) c := if_pos q3
      rw [e1, k1 c q3, h0 (kp t) k3 c q3, e2]
      cases hb : hBit (ho (24 * 0 + kp t)) c
      · rw [Bool.not_false, enc_t, enc_t]
      · rw [show mVl ho gv (kp t) j c = gv (72 * 0 + 3 * kp t + c) from (if_pos (e2.trans hb)).trans (if_pos q3)]
    · by_cases q6 : c < 6
      · cases j with
        | none =>
          have e1 : lRow fK f1 t none c = -1099511627776 := (if_neg q3).trans (if_pos q6)
          have e2 : mIs ho (kp t) none c = false := (if_neg q3).trans (if_pos q6)
          rw [e1, e2]
          exact enc_t.symm
        | some j =>
          have e1 : lRow fK f1 t (some j) c = f1 (j * 3 + (c - 3)) := (if_neg q3).trans (if_pos q6)
          have e2 : mIs ho (kp t) (some j) c = hBit (ho (24 * 1 + j)) (c - 3) := (if_neg q3).trans (if_pos q6)
          rw [e1, h1 j (hx.2 j rfl) (c - 3) (by omega), e2]
          cases hb : hBit (ho (24 * 1 + j)) (c - 3)
          · rw [Bool.not_false, enc_t, enc_t]
          · rw [show mVl ho gv (kp t) (some j) c = gv (72 * 1 + 3 * j + (c - 3)) from (if_pos (e2.trans hb)).trans (if_neg q3)]
      · have e1 : lRow fK f1 t j c = -1099511627776 := (if_neg q3).trans ((if_neg q6).trans (if_pos hc9))
        have e2 : mIs ho (kp t) j c = false := (if_neg q3).trans (if_neg q6)
        rw [e1, e2]
        exact enc_t.symm
  · rw [a2 9 (by decide), b2, b3]
    show lRow fK f1 t j 9 = (nI (kp t)).toInt64 * 32 + (oI j).toInt64
    rw [← k2]
    cases j with
    | none => exact (if_neg (by decide)).trans ((if_neg (by decide)).trans (if_neg (by decide)))
    | some j => exact (if_neg (by decide)).trans ((if_neg (by decide)).trans (if_neg (by decide)))
theorem made_o {n0 n1 nk n : Nat} {ho gv : Nat → Int32} {kp li : Nat → Nat} {l : List (Nat × Option Nat)} {hl_ : Nat → Bool} {vl : Nat → Int32} {fi : Nat → Nat} {se : Nat → Int32} (hk : ∀ t, t < nk → kp t < n0) (hk2 : ∀ a b, a < nk → b < nk → kp a = kp b → a = b) (hn0 : n0 ≤ 24) (hn1 : n1 ≤ 24) (hl : ∀ x, x ∈ l → x.1 < nk ∧ ∀ j, x.2 = some j → j < n1) (hnd : l.Nodup) (hm : LmI ho gv kp l n hl_ vl fi se li) : oRel n fi se := by
  have hx : ∀ p, p < n → (l.getD p (0, none)).1 < nk ∧ ∀ j, (l.getD p (0, none)).2 = some j → j < n1 := fun p hp => hl _ (getD_m (d := (0, none)) (show p < l.length by rw [← hm.1]; exact hp))
  refine ⟨fun p hp => ?_, fun p q hp hq e1 e2 => ?_⟩
  · obtain ⟨b1, b2, b3, b4⟩ := hm.2 p hp
    obtain ⟨x1, x2⟩ := hx p hp
    have := hk _ x1
    refine ⟨by omega, ?_⟩
    rw [b3]
    cases hj : (l.getD p (0, none)).2 with
    | none => decide
    | some j =>
      have := x2 j hj
      show -1 ≤ (nI j).toInt ∧ (nI j).toInt < 31
      rw [nI_toInt (by omega)]
      omega
  · obtain ⟨b1, b2, b3, b4⟩ := hm.2 p hp
    obtain ⟨c1, c2, c3, c4⟩ := hm.2 q hq
    obtain ⟨x1, x2⟩ := hx p hp
    obtain ⟨y1, y2⟩ := hx q hq
    rw [b2, c2] at e1
    rw [b3, c3] at e2
    refine getD_inj (d := (0, none)) hnd (by rw [← hm.1]; exact hp) (by rw [← hm.1]; exact hq) (Prod.ext (hk2 _ _ x1 y1 e1) ?_)
    cases hj : (l.getD p (0, none)).2 with
    | none =>
      cases hj2 : (l.getD q (0, none)).2 with
      | none => rfl
      | some j =>
        rw [hj, hj2] at e2
        have := congrArg Int32.toInt e2
        have h3 := y2 j hj2
        rw [show (oI (some j)).toInt = j from nI_toInt (by omega), show (oI none).toInt = -1 by decide] at this
        omega
    | some i =>
      have h3 := x2 i hj
      cases hj2 : (l.getD q (0, none)).2 with
      | none =>
        rw [hj, hj2] at e2
        have := congrArg Int32.toInt e2
        rw [show (oI (some i)).toInt = i from nI_toInt (by omega), show (oI none).toInt = -1 by decide] at this
        omega
      | some j =>
        have h4 := y2 j hj2
        rw [hj, hj2] at e2
        exact congrArg some ((nI_inj (by omega) (by omega)).mp e2)
/-- which rows pair, on both sides -/
theorem qj_eq {n0 n1 nk jx jy : Nat} {f0 f1 fK : Nat → Int64} {ho gv : Nat → Int32} {kp : Nat → Nat} (h0 : tRel 0 n0 f0 ho gv) (h1 : tRel 1 n1 f1 ho gv) (hk : ∀ t, t < nk → (∀ c, c < 3 → fK (t * 4 + c) = f0 (kp t * 3 + c)) ∧ kp t < n0) (hjx : jx < 3) (hjy : jy < 3) {t j : Nat} (ht : t < nk) (hj : j < n1) : decide (fK (t * 4 + jx) ≠ -1099511627776 ∧ fK (t * 4 + jx) = f1 (j * 3 + jy)) = mQj ho gv kp jx jy t j := by
  rw [(hk t ht).1 jx hjx, h0 (kp t) (hk t ht).2 jx hjx, h1 j hj jy hjy]
  unfold mQj
  cases hBit (ho (24 * 0 + kp t)) jx
  · exact decide_eq_false (fun q => q.1 enc_t)
  · cases hBit (ho (24 * 1 + j)) jy
    · refine decide_eq_false (fun q => ?_)
      have h := q.2
      rw [show enc (!true) (gv (72 * 0 + 3 * kp t + jx)) = (gv (72 * 0 + 3 * kp t + jx)).toInt64 from enc_f, show enc (!false) (gv (72 * 1 + 3 * j + jy)) = -1099511627776 from enc_t] at h
      exact v64_nn h
    · rw [show enc (!true) (gv (72 * 0 + 3 * kp t + jx)) = (gv (72 * 0 + 3 * kp t + jx)).toInt64 from enc_f, show enc (!true) (gv (72 * 1 + 3 * j + jy)) = (gv (72 * 1 + 3 * j + jy)).toInt64 from enc_f]
      show _ = decide (gv (72 * 0 + 3 * kp t + jx) = gv (72 * 1 + 3 * j + jy))
      refine decide_eq_decide.mpr ⟨fun q => ?_, fun q => ⟨v64_nn, by rw [q]⟩⟩
      have h := congrArg Int64.toInt q.2
      rw [i64_i, i64_i] at h
      exact Int32.toInt_inj.mp h
/-! what a join transfers and holds: both sides add, and take the largest -/
def mxN (b : Nat → Nat) : Nat → Nat
  | 0 => 0
  | n + 1 => max (mxN b n) (b n)
theorem stp_0 {x : Nat × Nat} : stp x 0 0 = x := Prod.ext rfl (Nat.max_eq_left (Nat.zero_le _))
theorem stp_s {x : Nat × Nat} {a b c d : Nat} : stp (stp x a b) c d = stp x (a + c) (max b d) := Prod.ext (Nat.add_assoc _ _ _) (Nat.max_assoc _ _ _)
theorem itr_s {F : Nat → Nat × Nat → Nat × Nat} {a b : Nat → Nat} : ∀ n, (∀ i, i < n → ∀ x, F i x = stp x (a i) (b i)) → ∀ x, itr F n x = stp x (sumN a n) (mxN b n) := by
  intro n
  induction n with
  | zero => intro _ x; exact stp_0.symm
  | succ n ih =>
    intro h x
    show F n (itr F n x) = stp x (sumN a n + a n) (max (mxN b n) (b n))
    rw [ih (fun i hi => h i (by omega)) x, h n (Nat.lt_succ_self n), stp_s]
theorem sumN_a {a b : Nat → Nat} : ∀ n, sumN (fun i => a i + b i) n = sumN a n + sumN b n := by
  intro n
  induction n with
  | zero => rfl
  | succ n ih =>
    show sumN (fun i => a i + b i) n + (a n + b n) = (sumN a n + a n) + (sumN b n + b n)
    rw [ih]; omega
theorem sumN_c {a b : Nat → Nat} : ∀ n, (∀ i, i < n → a i = b i) → sumN a n = sumN b n := by
  intro n
  induction n with
  | zero => intro _; rfl
  | succ n ih =>
    intro h
    show sumN a n + a n = sumN b n + b n
    rw [ih (fun i hi => h i (by omega)), h n (Nat.lt_succ_self n)]
theorem mxN_c {a b : Nat → Nat} : ∀ n, (∀ i, i < n → a i = b i) → mxN a n = mxN b n := by
  intro n
  induction n with
  | zero => intro _; rfl
  | succ n ih =>
    intro h
    show max (mxN a n) (a n) = max (mxN b n) (b n)
    rw [ih (fun i hi => h i (by omega)), h n (Nat.lt_succ_self n)]
theorem mxN_m {f : Nat} {b : Nat → Nat} : ∀ n, max f (mxN (fun i => max f (b i)) n) = max f (mxN b n) := by
  intro n
  induction n with
  | zero => rfl
  | succ n ih =>
    show max f (max (mxN (fun i => max f (b i)) n) (max f (b n))) = max f (max (mxN b n) (b n))
    omega
theorem cntB_c {P Q : Nat → Bool} : ∀ n, (∀ i, i < n → P i = Q i) → cntB P n = cntB Q n := by
  intro n
  induction n with
  | zero => intro _; rfl
  | succ n ih =>
    intro h
    show cntB P n + (if P n = true then 1 else 0) = cntB Q n + (if Q n = true then 1 else 0)
    rw [ih (fun i hi => h i (by omega)), h n (Nat.lt_succ_self n)]
theorem cntB_t : ∀ n, cntB (fun _ => true) n = n := by
  intro n
  induction n with
  | zero => rfl
  | succ n ih => show cntB (fun _ => true) n + 1 = n + 1; rw [ih]
/-- what a group costs: of the last level, of the one above, of all -/
def g2A (fr p q : Nat) : Nat := if bk q ≤ fr - 2 then bk q + bk p else bk q + bk p * ((bk q + fr - 3) / (fr - 2))
def gB (fr q : Nat) : Nat := if bk q ≤ fr - 2 then bk q + 2 else fr
def h2A (fr p q : Nat) : Nat := if p = 0 ∨ q = 0 then 0 else g2A fr p q
def h2B (fr p q : Nat) : Nat := if p = 0 ∨ q = 0 then 0 else gB fr q
theorem mG2_s {fr p q : Nat} (hf : 3 ≤ fr) (x : Nat × Nat) : mG2 fr p q x = stp x (h2A fr p q) (h2B fr p q) := by
  unfold mG2 h2A h2B g2A gB
  by_cases h : p = 0 ∨ q = 0
  · rw [if_pos h, if_pos h, if_pos h]; exact stp_0.symm
  · rw [if_neg h, if_neg h, if_neg h]
    by_cases h2 : bk q ≤ fr - 2
    · rw [if_pos h2, if_pos h2, if_pos h2]
    · rw [if_neg h2, if_neg h2, if_neg h2, show bk q + (fr - 2) - 1 = bk q + fr - 3 by omega]
def h1A (fr p q : Nat) (s A : Nat → Nat) : Nat := if p = 0 ∨ q = 0 then 0 else if bk q ≤ fr - 2 then bk q + bk p else bk p + bk q + (sumN s (fr - 1) + sumN A (fr - 1))
def h1B (fr p q : Nat) (B : Nat → Nat) : Nat := if p = 0 ∨ q = 0 then 0 else if bk q ≤ fr - 2 then bk q + 2 else max fr (mxN B (fr - 1))
theorem mGs_s {fr gr p q : Nat} {sub : Nat → Nat × Nat → Nat × Nat} {s A B : Nat → Nat} (h : ∀ i, i < fr - 1 → ∀ x, sub (gr * (fr - 1) + i) x = stp x (s i + A i) (max fr (B i))) (x : Nat × Nat) : mGs fr sub gr p q x = stp x (h1A fr p q s A) (h1B fr p q B) := by
  unfold mGs h1A h1B
  by_cases h1 : p = 0 ∨ q = 0
  · rw [if_pos h1, if_pos h1, if_pos h1]; exact stp_0.symm
  · rw [if_neg h1, if_neg h1, if_neg h1]
    by_cases h2 : bk q ≤ fr - 2
    · rw [if_pos h2, if_pos h2, if_pos h2]
    · rw [if_neg h2, if_neg h2, if_neg h2, itr_s (a := fun i => s i + A i) (b := fun i => max fr (B i)) (fr - 1) h, stp_s, sumN_a, mxN_m]
/-- the reference's steps in the same words -/
theorem pAB_s {fr p q : Nat} (x : Nat × Nat) : pAB fr (bk p) (bk q) x = stp x (g2A fr p q) (gB fr q) := by
  unfold pAB g2A gB
  by_cases h2 : bk q ≤ fr - 2
  · rw [if_pos h2, if_pos h2, if_pos h2]; rfl
  · rw [if_neg h2, if_neg h2, if_neg h2]; rfl
theorem pAN_s {fr p q S : Nat} (x : Nat × Nat) : pAN fr (bk p) (bk q) S x = stp x (if bk q ≤ fr - 2 then bk q + bk p else bk p + bk q + S) (gB fr q) := by
  unfold pAN gB
  by_cases h2 : bk q ≤ fr - 2
  · rw [if_pos h2, if_pos h2, if_pos h2]; rfl
  · rw [if_neg h2, if_neg h2, if_neg h2]
    exact Prod.ext (Nat.add_assoc _ _ _) rfl
theorem th_if {p q : Nat} {α : Type} {a b : α} : (if decide (0 < p ∧ 0 < q) = true then a else b) = if p = 0 ∨ q = 0 then b else a := by
  by_cases h : p = 0 ∨ q = 0
  · rw [if_pos h, if_neg (fun y => by have := of_decide_eq_true y; omega)]
  · rw [if_neg h, if_pos (decide_eq_true (by omega))]
theorem b2_s {fr p q : Nat} (x : Nat × Nat) : (if decide (0 < p ∧ 0 < q) = true then pAB fr (bk p) (bk q) x else x) = stp x (h2A fr p q) (h2B fr p q) := by
  rw [th_if]
  unfold h2A h2B
  by_cases h : p = 0 ∨ q = 0
  · rw [if_pos h, if_pos h, if_pos h]; exact stp_0.symm
  · rw [if_neg h, if_neg h, if_neg h]; exact pAB_s x
theorem mBT_s {fr p q : Nat} {s A B : Nat → Nat} {F : Nat → Nat × Nat → Nat × Nat} (h : ∀ i, i < fr - 1 → ∀ x, F i x = stp x (A i) (B i)) (x : Nat × Nat) : mBT fr (bk p) (bk q) (sumN s (fr - 1)) (decide (0 < p ∧ 0 < q)) (fun x => itr F (fr - 1) x) x = stp x (h1A fr p q s A) (h1B fr p q B) := by
  unfold mBT
  rw [th_if]
  unfold h1A h1B
  by_cases h1 : p = 0 ∨ q = 0
  · rw [if_pos h1, if_pos h1, if_pos h1]; exact stp_0.symm
  · rw [if_neg h1, if_neg h1, if_neg h1, pAN_s]
    unfold gB
    by_cases h2 : bk q ≤ fr - 2
    · rw [if_pos h2, if_pos h2, if_pos h2, if_pos h2, if_neg (by omega)]
    · rw [if_neg h2, if_neg h2, if_neg h2, if_neg h2, if_pos (by omega)]
      show itr F (fr - 1) (stp x (bk p + bk q + sumN s (fr - 1)) fr) = _
      rw [itr_s (fr - 1) h, stp_s, Nat.add_assoc (bk p + bk q)]
/-- in which group a value is -/
theorem inG_1 {pt gr : Nat} {b : Bool} {v : Int32} : inG pt 1 gr (enc (!b) v) = (b && decide (prt pt v 0 = gr)) := by
  unfold inG
  cases b
  · rw [Bool.false_and, Bool.not_false]
    exact decide_eq_false (fun q => q.1 enc_t)
  · rw [Bool.true_and, Bool.not_true, enc_f]
    have e : gOf pt v.toInt64.toInt32 1 = prt pt v 0 := by
      rw [Int32.toInt32_toInt64]
      show 0 * pt + prt pt v 0 = prt pt v 0
      omega
    rw [e]
    exact decide_eq_decide.mpr ⟨fun q => q.2, fun q => ⟨v64_nn, q⟩⟩
theorem dig_eq {pt a b x y : Nat} (hy : y < pt) (hb : b < pt) : x * pt + y = a * pt + b ↔ x = a ∧ y = b := by
  constructor
  · intro h
    have h1 : (x * pt + y) / pt = x := by
      rw [Nat.mul_comm, Nat.mul_add_div (by omega), Nat.div_eq_of_lt hy]; omega
    have h2 : (a * pt + b) / pt = a := by
      rw [Nat.mul_comm, Nat.mul_add_div (by omega), Nat.div_eq_of_lt hb]; omega
    have h3 : x = a := by rw [← h1, h, h2]
    subst h3
    exact ⟨rfl, by omega⟩
  · rintro ⟨rfl, rfl⟩; rfl
theorem inG_2 {pt a c : Nat} {b : Bool} {v : Int32} (hc : c < pt) : inG pt 2 (a * pt + c) (enc (!b) v) = (b && (decide (prt pt v 0 = a) && decide (prt pt v 1 = c))) := by
  unfold inG
  cases b
  · rw [Bool.false_and, Bool.not_false]
    exact decide_eq_false (fun q => q.1 enc_t)
  · rw [Bool.true_and, Bool.not_true, enc_f]
    have e : gOf pt v.toInt64.toInt32 2 = prt pt v 0 * pt + prt pt v 1 := by
      rw [Int32.toInt32_toInt64]
      show (0 * pt + prt pt v 0) * pt + prt pt v 1 = prt pt v 0 * pt + prt pt v 1
      rw [Nat.zero_mul, Nat.zero_add]
    rw [e, ← Bool.decide_and]
    refine decide_eq_decide.mpr ⟨fun q => (dig_eq (prt_lt (by omega)) hc).mp q.2, fun q => ⟨v64_nn, (dig_eq (prt_lt (by omega)) hc).mpr q⟩⟩
theorem cj_gen {fr nk n1 : Nat} {CL1 CR1 CL2 CR2 P1 Q1 : Nat → Nat} {P2 Q2 : Nat → Nat → Nat} (hfr : 3 ≤ fr) (cl1 : ∀ a, CL1 a = P1 a) (cr1 : ∀ a, CR1 a = Q1 a) (cl2 : ∀ a b, b < fr - 1 → CL2 (a * (fr - 1) + b) = P2 a b) (cr2 : ∀ a b, b < fr - 1 → CR2 (a * (fr - 1) + b) = Q2 a b) (x : Nat × Nat) : mGs fr (mP fr CL1 CR1 (mGs fr (mP fr CL2 CR2 (fun _ => mG2 fr)))) 0 nk n1 x = if nk = 0 ∨ n1 = 0 then x else (if fr - 2 < bk n1 then itr (fun a1 x => mBT fr (bk (P1 a1)) (bk (Q1 a1)) (sumN (fun c1 => bk (P2 a1 c1) + bk (Q2 a1 c1)) (fr - 1)) (decide (0 < P1 a1 ∧ 0 < Q1 a1)) (fun x => itr (fun b1 x => if decide (0 < P2 a1 b1 ∧ 0 < Q2 a1 b1) = true then pAB fr (bk (P2 a1 b1)) (bk (Q2 a1 b1)) x else x) (fr - 1) x) x) (fr - 1) (pAN fr (bk nk) (bk n1) (sumN (fun c1 => bk (P1 c1) + bk (Q1 c1)) (fr - 1)) x) else pAN fr (bk nk) (bk n1) (sumN (fun c1 => bk (P1 c1) + bk (Q1 c1)) (fr - 1)) x) := by
  have hc2 : ∀ a b, b < fr - 1 → ∀ x, mP fr CL2 CR2 (fun _ => mG2 fr) (a * (fr - 1) + b) x = stp x ((bk (P2 a b) + bk (Q2 a b)) + h2A fr (P2 a b) (Q2 a b)) (max fr (h2B fr (P2 a b) (Q2 a b))) := fun a b hb x => by
    unfold mP
    rw [cl2 a b hb, cr2 a b hb]
    show mG2 fr (P2 a b) (Q2 a b) (stp x (bk (P2 a b) + bk (Q2 a b)) fr) = _
    rw [mG2_s hfr, stp_s]
  have hc1 : ∀ a, ∀ x, mP fr CL1 CR1 (mGs fr (mP fr CL2 CR2 (fun _ => mG2 fr))) a x = stp x ((bk (P1 a) + bk (Q1 a)) + h1A fr (P1 a) (Q1 a) (fun c1 => bk (P2 a c1) + bk (Q2 a c1)) (fun b => h2A fr (P2 a b) (Q2 a b))) (max fr (h1B fr (P1 a) (Q1 a) (fun b => h2B fr (P2 a b) (Q2 a b)))) := fun a x => by
    unfold mP
    rw [cl1 a, cr1 a]
    have e := mGs_s (p := P1 a) (q := Q1 a) (s := fun c1 => bk (P2 a c1) + bk (Q2 a c1)) (A := fun b => h2A fr (P2 a b) (Q2 a b)) (B := fun b => h2B fr (P2 a b) (Q2 a b)) (fun b hb x => hc2 a b hb x) (stp x (bk (P1 a) + bk (Q1 a)) fr)
    unfold mP at e
    rw [e, stp_s]
  rw [mGs_s (s := fun a => bk (P1 a) + bk (Q1 a)) (A := fun a => h1A fr (P1 a) (Q1 a) (fun c1 => bk (P2 a c1) + bk (Q2 a c1)) (fun b => h2A fr (P2 a b) (Q2 a b))) (B := fun a => h1B fr (P1 a) (Q1 a) (fun b => h2B fr (P2 a b) (Q2 a b))) (fun b hb x => by rw [Nat.zero_mul, Nat.zero_add]; exact hc1 b x)]
  by_cases hz : nk = 0 ∨ n1 = 0
  · rw [if_pos hz, show h1A fr nk n1 (fun a => bk (P1 a) + bk (Q1 a)) (fun a => h1A fr (P1 a) (Q1 a) (fun c1 => bk (P2 a c1) + bk (Q2 a c1)) (fun b => h2A fr (P2 a b) (Q2 a b))) = 0 from if_pos hz, show h1B fr nk n1 (fun a => h1B fr (P1 a) (Q1 a) (fun b => h2B fr (P2 a b) (Q2 a b))) = 0 from if_pos hz]
    exact stp_0
  · rw [if_neg hz]
    by_cases h2 : bk n1 ≤ fr - 2
    · rw [show h1A fr nk n1 (fun a => bk (P1 a) + bk (Q1 a)) (fun a => h1A fr (P1 a) (Q1 a) (fun c1 => bk (P2 a c1) + bk (Q2 a c1)) (fun b => h2A fr (P2 a b) (Q2 a b))) = bk n1 + bk nk from (if_neg hz).trans (if_pos h2), show h1B fr nk n1 (fun a => h1B fr (P1 a) (Q1 a) (fun b => h2B fr (P2 a b) (Q2 a b))) = bk n1 + 2 from (if_neg hz).trans (if_pos h2), if_neg (show ¬ fr - 2 < bk n1 by omega), pAN_s, if_pos h2, show gB fr n1 = bk n1 + 2 from if_pos h2]
    · rw [show h1A fr nk n1 (fun a => bk (P1 a) + bk (Q1 a)) (fun a => h1A fr (P1 a) (Q1 a) (fun c1 => bk (P2 a c1) + bk (Q2 a c1)) (fun b => h2A fr (P2 a b) (Q2 a b))) = bk nk + bk n1 + (sumN (fun a => bk (P1 a) + bk (Q1 a)) (fr - 1) + sumN (fun a => h1A fr (P1 a) (Q1 a) (fun c1 => bk (P2 a c1) + bk (Q2 a c1)) (fun b => h2A fr (P2 a b) (Q2 a b))) (fr - 1)) from (if_neg hz).trans (if_neg h2), show h1B fr nk n1 (fun a => h1B fr (P1 a) (Q1 a) (fun b => h2B fr (P2 a b) (Q2 a b))) = max fr (mxN (fun a => h1B fr (P1 a) (Q1 a) (fun b => h2B fr (P2 a b) (Q2 a b))) (fr - 1)) from (if_neg hz).trans (if_neg h2), if_pos (show fr - 2 < bk n1 by omega), pAN_s, if_neg h2, show gB fr n1 = fr from if_neg h2,
        itr_s (a := fun a => h1A fr (P1 a) (Q1 a) (fun c1 => bk (P2 a c1) + bk (Q2 a c1)) (fun b => h2A fr (P2 a b) (Q2 a b))) (b := fun a => h1B fr (P1 a) (Q1 a) (fun b => h2B fr (P2 a b) (Q2 a b))) (fr - 1) (fun a _ x => mBT_s (s := fun c1 => bk (P2 a c1) + bk (Q2 a c1)) (A := fun b => h2A fr (P2 a b) (Q2 a b)) (B := fun b => h2B fr (P2 a b) (Q2 a b)) (fun b _ x => b2_s x) x), stp_s, Nat.add_assoc (bk nk + bk n1)]
/-- the counts of a join, on both sides -/
theorem cj_eq {fr n0 nk n1 jx jy tr ms : Nat} {f0 f1 fK : Nat → Int64} {gK g1 : Nat → Nat} {ho gv : Nat → Int32} {kp : Nat → Nat} {sz_ : Nat → Nat} (h0 : tRel 0 n0 f0 ho gv) (h1 : tRel 1 n1 f1 ho gv) (hs1 : sz_ 1 = n1) (hk : ∀ t, t < nk → gK t = t ∧ (∀ c, c < 3 → fK (t * 4 + c) = f0 (kp t * 3 + c)) ∧ kp t < n0) (hg1 : ∀ z, z < n1 → g1 z = z) (hfr : 3 ≤ fr) (hjx : jx < 3) (hjy : jy < 3) : mGs fr (mP fr (cG fK gK 4 jx (fr - 1) nk 1) (cG f1 g1 3 jy (fr - 1) n1 1) (mGs fr (mP fr (cG fK gK 4 jx (fr - 1) nk 2) (cG f1 g1 3 jy (fr - 1) n1 2) (fun _ => mG2 fr)))) 0 nk n1 (tr, ms) = if nk = 0 ∨ n1 = 0 then (tr, ms) else mCJ fr nk jx jy kp ho gv sz_ tr ms := by
  have v0 : ∀ t, t < nk → fK (gK t * 4 + jx) = enc (!hBit (ho (24 * 0 + kp t)) jx) (gv (72 * 0 + 3 * kp t + jx)) := fun t ht => by
    obtain ⟨a1, a2, a3⟩ := hk t ht
    rw [a1, a2 jx hjx, h0 (kp t) a3 jx hjx]
  have v1 : ∀ t, t < n1 → f1 (g1 t * 3 + jy) = enc (!hBit (ho (24 * 1 + t)) jy) (gv (72 * 1 + 3 * t + jy)) := fun t ht => by rw [hg1 t ht, h1 t ht jy hjy]
  have cl1 : ∀ a, cG fK gK 4 jx (fr - 1) nk 1 a = cntB (fun z => hBit (ho (24 * 0 + (kp z))) jx && decide (prt (fr - 1) (gv (72 * 0 + 3 * (kp z) + jx)) 0 = a)) nk := fun a => cntB_c _ (fun i hi => by rw [v0 i hi]; exact inG_1)
  have cr1 : ∀ a, cG f1 g1 3 jy (fr - 1) n1 1 a = cntB (fun z => hBit (ho (24 * 1 + z)) jy && decide (prt (fr - 1) (gv (72 * 1 + 3 * z + jy)) 0 = a)) n1 := fun a => cntB_c _ (fun i hi => by rw [v1 i hi]; exact inG_1)
  have cl2 : ∀ a b, b < fr - 1 → cG fK gK 4 jx (fr - 1) nk 2 (a * (fr - 1) + b) = cntB (fun z => hBit (ho (24 * 0 + (kp z))) jx && (decide (prt (fr - 1) (gv (72 * 0 + 3 * (kp z) + jx)) 0 = a) && decide (prt (fr - 1) (gv (72 * 0 + 3 * (kp z) + jx)) 1 = b))) nk := fun a b hb => cntB_c _ (fun i hi => by rw [v0 i hi]; exact inG_2 hb)
  have cr2 : ∀ a b, b < fr - 1 → cG f1 g1 3 jy (fr - 1) n1 2 (a * (fr - 1) + b) = cntB (fun z => hBit (ho (24 * 1 + z)) jy && (decide (prt (fr - 1) (gv (72 * 1 + 3 * z + jy)) 0 = a) && decide (prt (fr - 1) (gv (72 * 1 + 3 * z + jy)) 1 = b))) n1 := fun a b hb => cntB_c _ (fun i hi => by rw [v1 i hi]; exact inG_2 hb)
  have e := cj_gen (fr := fr) (nk := nk) (n1 := n1) hfr cl1 cr1 cl2 cr2 (tr, ms)
  rw [e]
  by_cases hz : nk = 0 ∨ n1 = 0
  · rw [if_pos hz, if_pos hz]
  · rw [if_neg hz, if_neg hz]
    unfold mCJ
    rw [hs1, cntB_t, cntB_t]
/-! the class's windows, so far -/
def cSf (R : List Nat → cSt → Int32 → cSt → Prop) (all : List Nat) (s0 : cSt) (left : List Nat) (s : cSt) : Prop := ∀ x s', R left s x s' → R all s0 x s'
theorem sfc_0 {R : List Nat → cSt → Int32 → cSt → Prop} {all : List Nat} {s0 : cSt} : cSf R all s0 all s0 := fun _ _ h => h
section SFC
variable {fr n : Nat} {po oo : Nat → Option Nat} {wd wg : Nat → Bool} {wl wh : Nat → Int32} {wf wa wn kn : Nat → Nat} {kf : Nat → Nat → Nat} {kg : Nat → Nat → Bool} {all ws : List Nat} {s0 s s2 : cSt} {w : Nat} {x : Int32}
theorem sfc_w (h : cSf (cWs fr n po oo wd wg wl wh wf wa wn kn kf kg) all s0 (w :: ws) s) (hw : cWin fr n (po w) (oo w) (wd w) (wg w) (wl w) (wh w) (wf w) (wa w) (wn w) (6 + w) (kn w) (kf w) (kg w) s s2 x) (hx : x = nI 0) : cSf (cWs fr n po oo wd wg wl wh wf wa wn kn kf kg) all s0 ws s2 := fun x' s' hr => h x' s' ⟨s2, x, hw, Or.inl ⟨hx, hr⟩⟩
theorem sfc_e (h : cSf (cWs fr n po oo wd wg wl wh wf wa wn kn kf kg) all s0 (w :: ws) s) (hw : cWin fr n (po w) (oo w) (wd w) (wg w) (wl w) (wh w) (wf w) (wa w) (wn w) (6 + w) (kn w) (kf w) (kg w) s s2 x) (hx : x ≠ nI 0) (s' : cSt) : cWs fr n po oo wd wg wl wh wf wa wn kn kf kg all s0 x s' := h x s' ⟨s2, x, hw, Or.inr ⟨hx, rfl⟩⟩
end SFC
/-- which window's keys stand: none's, or another's -/
theorem cur_c {cur : Option Nat} {w : Nat} (h3 : ∀ i, cur = some i → i < 3) (hn : ∀ i, cur = some i → i ≠ w) : cur = none ∨ ∃ i, cur = some i ∧ i < 3 ∧ i ≠ w := by
  cases cur with
  | none => exact Or.inl rfl
  | some i => exact Or.inr ⟨i, rfl, h3 i rfl, hn i rfl⟩
theorem cur_0 {cur : Option Nat} (h3 : ∀ i, cur = some i → i < 3) (hn : ∀ i, cur = some i → i ≠ 0) : cur = none ∨ cur = some 1 ∨ cur = some 2 := by
  rcases cur_c h3 hn with h | ⟨i, rfl, h1, h2⟩
  · exact Or.inl h
  · rcases (show i = 1 ∨ i = 2 by omega) with rfl | rfl
    · exact Or.inr (Or.inl rfl)
    · exact Or.inr (Or.inr rfl)
theorem cur_1 {cur : Option Nat} (h3 : ∀ i, cur = some i → i < 3) (hn : ∀ i, cur = some i → i ≠ 1) : cur = none ∨ cur = some 0 ∨ cur = some 2 := by
  rcases cur_c h3 hn with h | ⟨i, rfl, h1, h2⟩
  · exact Or.inl h
  · rcases (show i = 0 ∨ i = 2 by omega) with rfl | rfl
    · exact Or.inr (Or.inl rfl)
    · exact Or.inr (Or.inr rfl)
theorem cur_2 {cur : Option Nat} (h3 : ∀ i, cur = some i → i < 3) (hn : ∀ i, cur = some i → i ≠ 2) : cur = none ∨ cur = some 0 ∨ cur = some 1 := by
  rcases cur_c h3 hn with h | ⟨i, rfl, h1, h2⟩
  · exact Or.inl h
  · rcases (show i = 0 ∨ i = 1 by omega) with rfl | rfl
    · exact Or.inr (Or.inl rfl)
    · exact Or.inr (Or.inr rfl)
def kPb (kn : Nat) (kf : Nat → Nat) (kg : Nat → Bool) (kn2 : Nat) (kf2 : Nat → Nat) (kg2 : Nat → Bool) : Bool := decide (kn2 ≤ kn) && (List.range kn2).all (fun t => decide (kf t = kf2 t ∧ kg t = kg2 t))
theorem kPb_iff {kn : Nat} {kf : Nat → Nat} {kg : Nat → Bool} {kn2 : Nat} {kf2 : Nat → Nat} {kg2 : Nat → Bool} : kPb kn kf kg kn2 kf2 kg2 = true ↔ kPre kn kf kg kn2 kf2 kg2 := by
  unfold kPb kPre
  rw [Bool.and_eq_true, decide_eq_true_iff, List.all_eq_true]
  constructor
  · rintro ⟨h1, h2⟩
    exact ⟨h1, fun t ht => of_decide_eq_true (h2 t (List.mem_range.mpr ht))⟩
  · rintro ⟨h1, h2⟩
    exact ⟨h1, fun t ht => decide_eq_true (h2 t (List.mem_range.mp ht))⟩
section CB
variable {fr n kn : Nat} {kf : Nat → Nat} {kg : Nat → Bool} {f : Nat → Int64} {g g1 : Nat → Nat} {tr mh sm t1 m1 s1 : Nat} {c : Nat × (Nat → Nat) × (Nat → Bool)}
theorem cb_n (h : (sg g1 0 n).Perm (sg g 0 n) ∧ (sg g1 0 n).Pairwise (leOf (kLt f 10 kf kg kn 0)) ∧ (∀ z, n ≤ z → g1 z = g z) ∧ t1 = (sLoop (fr - 1) ((n + 3) / 4) ((n + 3) / 4 - 1) (((n + 3) / 4 + fr - 1) / fr) (tr + 2 * ((n + 3) / 4)) (max mh (min fr ((n + 3) / 4)))).1 ∧ m1 = (sLoop (fr - 1) ((n + 3) / 4) ((n + 3) / 4 - 1) (((n + 3) / 4 + fr - 1) / fr) (tr + 2 * ((n + 3) / 4)) (max mh (min fr ((n + 3) / 4)))).2 ∧ s1 = sm + 1) : cBr fr n none kn kf kg f g tr mh sm (some (kn, kf, kg)) g1 t1 m1 s1 := Or.inr ⟨fun c h => (by cases h), rfl, h.1, h.2.1, Prod.ext h.2.2.2.1 h.2.2.2.2.1, h.2.2.2.2.2⟩
theorem cb_s (hb : kPb c.1 c.2.1 c.2.2 kn kf kg = false) (h : (sg g1 0 n).Perm (sg g 0 n) ∧ (sg g1 0 n).Pairwise (leOf (kLt f 10 kf kg kn 0)) ∧ (∀ z, n ≤ z → g1 z = g z) ∧ t1 = (sLoop (fr - 1) ((n + 3) / 4) ((n + 3) / 4 - 1) (((n + 3) / 4 + fr - 1) / fr) (tr + 2 * ((n + 3) / 4)) (max mh (min fr ((n + 3) / 4)))).1 ∧ m1 = (sLoop (fr - 1) ((n + 3) / 4) ((n + 3) / 4 - 1) (((n + 3) / 4 + fr - 1) / fr) (tr + 2 * ((n + 3) / 4)) (max mh (min fr ((n + 3) / 4)))).2 ∧ s1 = sm + 1) : cBr fr n (some c) kn kf kg f g tr mh sm (some (kn, kf, kg)) g1 t1 m1 s1 := Or.inr ⟨fun c9 h9 q => (by
  cases h9
  rw [kPb_iff.mpr q] at hb
  exact Bool.false_ne_true hb.symm), rfl, h.1, h.2.1, Prod.ext h.2.2.2.1 h.2.2.2.2.1, h.2.2.2.2.2⟩
theorem cb_k (hb : kPb c.1 c.2.1 c.2.2 kn kf kg = true) (h : g1 = g ∧ t1 = tr ∧ m1 = mh ∧ s1 = sm) : cBr fr n (some c) kn kf kg f g tr mh sm (some c) g1 t1 m1 s1 := Or.inl ⟨c, rfl, kPb_iff.mp hb, rfl, h.1, h.2.1, h.2.2.1, h.2.2.2⟩
theorem sl_lt {ways bl : Nat} (hw : ways < 100) : ∀ (d runs tr mh : Nat), mh < 500 → (sLoop ways bl d runs tr mh).2 < 500 := by
  intro d
  induction d with
  | zero => intro runs tr mh h; exact h
  | succ d ih =>
    intro runs tr mh h
    simp only [sLoop]
    by_cases q : runs ≤ 1
    · rw [if_pos q]; exact h
    · rw [if_neg q]; exact ih _ _ _ (by omega)
theorem bs_ok (hB : (∀ z, z < 60 → g z < 60) ∧ (∀ a b, a < n → b < n → g a = g b → a = b) ∧ mh < 500) (hn : n ≤ 60) (hfr2 : fr ≤ 8) (h : (sg g1 0 n).Perm (sg g 0 n) ∧ (sg g1 0 n).Pairwise (leOf (kLt f 10 kf kg kn 0)) ∧ (∀ z, n ≤ z → g1 z = g z) ∧ t1 = (sLoop (fr - 1) ((n + 3) / 4) ((n + 3) / 4 - 1) (((n + 3) / 4 + fr - 1) / fr) (tr + 2 * ((n + 3) / 4)) (max mh (min fr ((n + 3) / 4)))).1 ∧ m1 = (sLoop (fr - 1) ((n + 3) / 4) ((n + 3) / 4 - 1) (((n + 3) / 4 + fr - 1) / fr) (tr + 2 * ((n + 3) / 4)) (max mh (min fr ((n + 3) / 4)))).2 ∧ s1 = sm + 1) : (∀ z, z < 60 → g1 z < 60) ∧ (∀ a b, a < n → b < n → g1 a = g1 b → a = b) ∧ m1 < 500 := by
  refine ⟨fun z hz => ?_, sg_inj h.1 hB.2.1, ?_⟩
  · by_cases q : z < n
    · exact se_g (fun z hz => hB.1 z (by omega)) h.1 (Nat.zero_le _) q
    · rw [h.2.2.1 z (by omega)]; exact hB.1 z hz
  · rw [h.2.2.2.2.1]
    exact sl_lt (by omega) _ _ _ _ (by have := hB.2.2; omega)
end CB
theorem cur_4 {cur : Option Nat} (h3 : ∀ i, cur = some i → i < 3) : cur = none ∨ cur = some 0 ∨ cur = some 1 ∨ cur = some 2 := by
  cases cur with
  | none => exact Or.inl rfl
  | some i =>
    have := h3 i rfl
    rcases (show i = 0 ∨ i = 1 ∨ i = 2 by omega) with rfl | rfl | rfl
    · exact Or.inr (Or.inl rfl)
    · exact Or.inr (Or.inr (Or.inl rfl))
    · exact Or.inr (Or.inr (Or.inr rfl))
/-! a run, on both sides -/
def cEnd (fr n : Nat) (R : List Nat → cSt → Int32 → cSt → Prop) (all : List Nat) (s0 : cSt) (kno : Nat) (kfo : Nat → Nat) (kgo : Nat → Bool) (x : Int32) (g1 : Nat → Nat) (f1 : Nat → Int64) (t1 m1 s1 n1 : Nat) : Prop := ∃ x1 cur g f t m s, R all s0 x1 (cur, g, f, t, m, s) ∧ ((x1 ≠ nI 0 ∧ x = x1 ∧ t1 = 0 ∧ m1 = 0 ∧ s1 = 0 ∧ n1 = 0) ∨ (x1 = nI 0 ∧ x = nI n ∧ n1 = n ∧ f1 = f ∧ ∃ cur1, cBr fr n cur kno kfo kgo f g t m s cur1 g1 t1 m1 s1))
/-- what both sides show after a run -/
def resRel (sh : Nat) (f : Nat → Int64) (g : Nat → Nat) (hl_ : Nat → Bool) (vl : Nat → Int32) (li : Nat → Nat) : Prop := ∀ r, r < sh → ∀ c, c < 9 → f (g r * 10 + c) = mCol hl_ vl c (li r)
theorem end_tie {fr n : Nat} {fi : Nat → Nat} {se : Nat → Int32} {po oo : Nat → Option Nat} {wd wg : Nat → Bool} {wl wh : Nat → Int32} {wf wa wn kn : Nat → Nat} {kf : Nat → Nat → Nat} {kg : Nat → Nat → Bool} {all : List Nat} {s0 : cSt} {r0 : mSt} {kno : Nat} {kfo : Nat → Nat} {kgo : Nat → Bool} {x x2 : Int32} {g1 : Nat → Nat} {f1 : Nat → Int64} {t1 m1 s1 n1 oc tr ms sm sh : Nat} {ors od : Bool} {li : Nat → Nat} {hl_ : Nat → Bool} {vl : Nat → Int32}
    (ho : oRel n fi se) (hfr : 3 ≤ fr) (hn : n ≤ 60) (hw : ∀ w, w ∈ all → w < 3 ∧ kWin (po w) (oo w) (wd w) (kn w) (kf w) (kg w) ∧ (∀ q, po w = some q → q < 6) ∧ (∀ q, oo w = some q → q < 6) ∧ wa w < 6 ∧ wf w < 12) (hs : sRel n fi se s0 r0) (hko : kWin none (mOq ors oc) od kno kfo kgo) (hoc : oc ≤ 8) (hc : cEnd fr n (cWs fr n po oo wd wg wl wh wf wa wn kn kf kg) all s0 kno kfo kgo x g1 f1 t1 m1 s1 n1) (hm : mEnd fr n 20 fi se (nI 0) (mWs fr n 20 fi se po oo wd wg wl wh wf wa wn) all r0 ors oc od x2 li tr ms sm sh hl_ vl) : x = x2 ∧ t1 = tr ∧ m1 = ms ∧ s1 = sm ∧ n1 = sh ∧ resRel sh f1 g1 hl_ vl li := by
  obtain ⟨x1, cur, g, f, t, m, s, c1, c2⟩ := hc
  obtain ⟨er3, kq, kf3, kg3, l3, t3, m3, s3, hl3, vl3, d1, d2⟩ := hm
  have d1 := (d1.resolve_right (fun q => q.1 rfl)).2
  obtain ⟨rfl, e2⟩ := ws_eq ho hfr hn all hw _ _ _ _ _ _ hs c1 d1
  rcases c2 with ⟨c2, rfl, rfl, rfl, rfl, rfl⟩ | ⟨c2, rfl, rfl, rfl, cur1, c7⟩
  · rcases d2 with ⟨_, rfl, rfl, rfl, rfl, rfl⟩ | ⟨d2, _⟩
    · exact ⟨rfl, rfl, rfl, rfl, rfl, fun r hr => absurd hr (Nat.not_lt_zero r)⟩
    · exact absurd d2 c2
  · rcases d2 with ⟨d2, _⟩ | ⟨_, rfl, rfl, rfl, rfl, kn', kf', kg', d7⟩
    · exact absurd c2 d2
    · have hs3 := e2 c2
      obtain ⟨b1, b2, rfl, rfl, rfl, _, _⟩ := brr_c hs3 ho hfr hn hko (fun q y => by cases y) (fun q y => by
        unfold mOq at y
        cases ors
        · cases y
        · have y2 : some oc = some q := y
          cases y2
          omega) c7 d7
      obtain ⟨r1, r2, r3, _⟩ := hs3
      exact ⟨rfl, rfl, rfl, rfl, rfl, fun r hr c hc9 => col_ag r3 b1 b2 hc9 r hr⟩
theorem wOr_m {kn : Nat → Nat} {wc : Nat} : ∀ k w, w ∈ wOr kn wc k → w < wc := by
  intro k
  induction k with
  | zero => intro w h; cases h
  | succ k ih =>
    intro w h
    rcases List.mem_append.mp h with h | h
    · exact List.mem_range.mp (List.mem_filter.mp h).1
    · exact ih w h
theorem wOr_c {kn kn2 : Nat → Nat} {wc : Nat} (h : ∀ z, z < wc → kn z = kn2 z) : ∀ k, wOr kn wc k = wOr kn2 wc k := by
  intro k
  induction k with
  | zero => rfl
  | succ k ih =>
    show (List.range wc).filter (fun z => decide (kn z = k)) ++ wOr kn wc k = (List.range wc).filter (fun z => decide (kn2 z = k)) ++ wOr kn2 wc k
    rw [ih, List.filter_congr (fun z hz => by rw [h z (List.mem_range.mp hz)])]
/-- the rows that both sides begin with -/
theorem begin_s {n : Nat} {fi : Nat → Nat} {se : Nat → Int32} {fK f1 fl : Nat → Int64} {gl li : Nat → Nat} {l : List (Nat × Option Nat)} {ho gv : Nat → Int32} {kp : Nat → Nat} {hl_ : Nat → Bool} {vl : Nat → Int32} {kf : Nat → Nat} {kg : Nat → Bool} {t m : Nat} (hf : fRel n fl hl_ vl fi se) (hc : LsI fK f1 l n fl gl) (hm : LmI ho gv kp l n hl_ vl fi se li) : sRel n fi se (none, gl, fl, t, m, 0) (none, kf, kg, li, t, m, 0, hl_, vl) := by
  refine ⟨fun z hz => by rw [(hc.2 z hz).1, (hm.2 z hz).1], ?_, hf, rfl, rfl, rfl, Or.inl ⟨rfl, rfl⟩, fun kn kfc kgc h => by cases h⟩
  have e : sg gl 0 n = List.range n := by
    rw [sg_congr (h := fun z => z) (fun i _ hi => (hc.2 i hi).1)]
    unfold sg
    simp
  rw [e]
/-! the two sides between calls -/
def tabR (t n : Nat) (f : Nat → Int64) (g : Nat → Nat) (sz_ : Nat → Nat) (ho gv : Nat → Int32) : Prop := sz_ t = n ∧ n ≤ 24 ∧ (∀ z, z < n → g z = z) ∧ tRel t n f ho gv
def fltR (fc : Nat) (fo fn : Int32) (flt : Bool) (te : Nat → Int32) : Prop := fc < 3 ∧ ∃ tc op, tc < 3 ∧ te 0 = nI tc ∧ op ≤ 4 ∧ ((flt = false ∧ fo = -1) ∨ (flt = true ∧ fn = te 2 ∧ fc = tc ∧ fo = nI op ∧ te 1 = nI op))
theorem jLs_0 {Q : Nat → Nat → Bool} {n1 : Nat} : ∀ t, t = 0 ∨ n1 = 0 → jLs Q n1 t = [] := by
  intro t
  induction t with
  | zero => intro _; rfl
  | succ t ih =>
    intro h
    have h : n1 = 0 := h.resolve_left (by omega)
    subst h
    show jLs Q 0 t ++ ((List.range 0).filter (Q t)).map (fun j => (t, some j)) = []
    rw [ih (Or.inr rfl)]
    rfl
theorem ps_eq {n0 fc op tc : Nat} {f0 : Nat → Int64} {ho gv te : Nat → Int32} {fo fn : Int32} {flt : Bool} (h0 : tRel 0 n0 f0 ho gv) (htc : tc < 3) (hop : op ≤ 4) (h : (flt = false ∧ fo = -1) ∨ (flt = true ∧ fn = te 2 ∧ fc = tc ∧ fo = nI op ∧ te 1 = nI op)) {i : Nat} (hi : i < n0) : fKeep fo fn (f0 (i * 3 + fc)) = mPs flt op tc ho gv te i := by
  unfold mPs
  rcases h with ⟨rfl, rfl⟩ | ⟨rfl, rfl, rfl, rfl, _⟩
  · rw [if_neg Bool.false_ne_true]; exact keep_n
  · rw [if_pos rfl, h0 i hi fc htc]
    exact keep_p hop
theorem cWin_c {fr n : Nat} {po oo po2 oo2 : Option Nat} {wd wg wd2 wg2 : Bool} {wl wh wl2 wh2 : Int32} {wf wa wn wf2 wa2 wn2 col kn : Nat} {kf : Nat → Nat} {kg : Nat → Bool} {s0 s1 : cSt} {x : Int32} (h : po = po2 ∧ oo = oo2 ∧ wd = wd2 ∧ wg = wg2 ∧ wl = wl2 ∧ wh = wh2 ∧ wf = wf2 ∧ wa = wa2 ∧ wn = wn2) (hc : cWin fr n po oo wd wg wl wh wf wa wn col kn kf kg s0 s1 x) : cWin fr n po2 oo2 wd2 wg2 wl2 wh2 wf2 wa2 wn2 col kn kf kg s0 s1 x := by
  obtain ⟨rfl, rfl, rfl, rfl, rfl, rfl, rfl, rfl, rfl⟩ := h
  exact hc
theorem cWs_c {fr n : Nat} {po oo po2 oo2 : Nat → Option Nat} {wd wg wd2 wg2 : Nat → Bool} {wl wh wl2 wh2 : Nat → Int32} {wf wa wn wf2 wa2 wn2 kn : Nat → Nat} {kf : Nat → Nat → Nat} {kg : Nat → Nat → Bool} : ∀ ws, (∀ w, w ∈ ws → po w = po2 w ∧ oo w = oo2 w ∧ wd w = wd2 w ∧ wg w = wg2 w ∧ wl w = wl2 w ∧ wh w = wh2 w ∧ wf w = wf2 w ∧ wa w = wa2 w ∧ wn w = wn2 w) → ∀ s0 x s1, cWs fr n po oo wd wg wl wh wf wa wn kn kf kg ws s0 x s1 → cWs fr n po2 oo2 wd2 wg2 wl2 wh2 wf2 wa2 wn2 kn kf kg ws s0 x s1 := by
  intro ws
  induction ws with
  | nil => intro _ s0 x s1 h; exact h
  | cons w ws ih =>
    intro hw s0 x s1 h
    obtain ⟨s2, x1, h1, h2⟩ := h
    exact ⟨s2, x1, cWin_c (hw w List.mem_cons_self) h1, h2.imp (fun q => ⟨q.1, ih (fun v hv => hw v (List.mem_cons_of_mem _ hv)) _ _ _ q.2⟩) id⟩
/-- the windows agree -/
def winR (wc : Nat) (poc ooc : Nat → Option Nat) (wdc wgc : Nat → Bool) (wlc whc : Nat → Int32) (wfc wac wnc kn : Nat → Nat) (kf : Nat → Nat → Nat) (kg : Nat → Nat → Bool) (po oo : Nat → Option Nat) (wd wg : Nat → Bool) (wl wh : Nat → Int32) (wf wa wn : Nat → Nat) : Prop := wc ≤ 3 ∧ ∀ z, z < wc → (poc z = po z ∧ ooc z = oo z ∧ wdc z = wd z ∧ wgc z = wg z ∧ wlc z = wl z ∧ whc z = wh z ∧ wfc z = wf z ∧ wac z = wa z ∧ wnc z = wn z) ∧ kWin (po z) (oo z) (wd z) (kn z) (kf z) (kg z) ∧ (∀ q, po z = some q → q < 6) ∧ (∀ q, oo z = some q → q < 6) ∧ wa z < 6 ∧ wf z < 12
section RT
variable {fr n0 n1 fc wc : Nat} {f0 f1 : Nat → Int64} {g1 : Nat → Nat} {fo fn : Int32} {sz_ : Nat → Nat} {ho gv te : Nat → Int32} {flt jns ors od : Bool} {jx jy oc op tc : Nat} {poc ooc : Nat → Option Nat} {wdc wgc : Nat → Bool} {wlc whc : Nat → Int32} {wfc wac wnc kn : Nat → Nat} {kf : Nat → Nat → Nat} {kg : Nat → Nat → Bool} {po oo : Nat → Option Nat} {wd wg : Nat → Bool} {wl wh : Nat → Int32} {wf wa wn : Nat → Nat} {kno : Nat} {kfo : Nat → Nat} {kgo : Nat → Bool} {x x2 : Int32} {gL : Nat → Nat} {fL : Nat → Int64} {tr mh sm nL : Nat} {nk2 nn t9 m9 s9 sh : Nat} {kp fi li kf9 : Nat → Nat} {kg9 : Nat → Bool} {se : Nat → Int32} {hl_ : Nat → Bool} {vl : Nat → Int32}
/-- the end of a run, when both sides made the same rows -/
theorem rt_end {n nk : Nat} {fk fl : Nat → Int64} {gl l1 : Nat → Nat} {l : List (Nat × Option Nat)} {hl1 : Nat → Bool} {vl1 : Nat → Int32} {t2 m2 : Nat} (h0 : tRel 0 n0 f0 ho gv) (h1 : tRel 1 n1 f1 ho gv) (hn0 : n0 ≤ 24) (hn1 : n1 ≤ 24) (hfr : 3 ≤ fr) (hw : winR wc poc ooc wdc wgc wlc whc wfc wac wnc kn kf kg po oo wd wg wl wh wf wa wn) (hko : kWin none (mOq ors oc) od kno kfo kgo) (hoc : oc ≤ 8) (hn : n ≤ 60) (hk : ∀ t, t < nk → (∀ c, c < 3 → fk (t * 4 + c) = f0 (kp t * 3 + c)) ∧ fk (t * 4 + 3) = (nI (kp t)).toInt64 ∧ kp t < n0) (hki : ∀ a b, a < nk → b < nk → kp a = kp b → a = b) (hl : ∀ x, x ∈ l → x.1 < nk ∧ ∀ j, x.2 = some j → j < n1) (hnd : l.Nodup) (hc : LsI fk f1 l n fl gl) (hm : LmI ho gv kp l n hl1 vl1 fi se l1)
    (hce : cEnd fr n (cWs fr n poc ooc wdc wgc wlc whc wfc wac wnc kn kf kg) (wOr kn wc 3) (none, gl, fl, t2, m2, 0) kno kfo kgo x gL fL tr mh sm nL) (hme : mEnd fr n 20 fi se (nI 0) (mWs fr n 20 fi se po oo wd wg wl wh wf wa wn) (wOr (fun z => kN (po z) (oo z)) wc 3) (none, kf9, kg9, l1, t2, m2, 0, hl1, vl1) ors oc od x2 li t9 m9 s9 sh hl_ vl) : x = x2 ∧ tr = t9 ∧ mh = m9 ∧ sm = s9 ∧ nL = sh ∧ resRel sh fL gL hl_ vl li := by
  have hf := made_f h0 h1 hk hl hc hm
  have ho9 := made_o (fun t ht => (hk t ht).2.2) hki hn0 hn1 hl hnd hm
  have hall : wOr (fun z => kN (po z) (oo z)) wc 3 = wOr kn wc 3 := wOr_c (fun z hz => ((hw.2 z hz).2.1).1.symm) 3
  rw [hall] at hme
  have hmem : ∀ w, w ∈ wOr kn wc 3 → w < wc := wOr_m 3
  have hce2 : cEnd fr n (cWs fr n po oo wd wg wl wh wf wa wn kn kf kg) (wOr kn wc 3) (none, gl, fl, t2, m2, 0) kno kfo kgo x gL fL tr mh sm nL := by
    obtain ⟨x1, cur, g, f, t, m, s, c1, c2⟩ := hce
    exact ⟨x1, cur, g, f, t, m, s, cWs_c _ (fun w hw9 => (hw.2 w (hmem w hw9)).1) _ _ _ c1, c2⟩
  exact end_tie ho9 hfr hn (fun w hw9 => ⟨by have := hmem w hw9; have := hw.1; omega, (hw.2 w (hmem w hw9)).2⟩) (begin_s hf hc hm) hko hoc hce2 hme
/-- a run without a join -/
theorem rt_n {nk : Nat} {fk : Nat → Int64} {gk : Nat → Nat} (ht0 : tRel 0 n0 f0 ho gv) (ht1 : tRel 1 n1 f1 ho gv) (hs0 : sz_ 0 = n0) (hn0 : n0 ≤ 24) (hn1 : n1 ≤ 24) (hfr : 3 ≤ fr) (htc : tc < 3) (hop : op ≤ 4) (hfl : (flt = false ∧ fo = -1) ∨ (flt = true ∧ fn = te 2 ∧ fc = tc ∧ fo = nI op ∧ te 1 = nI op)) (hw : winR wc poc ooc wdc wgc wlc whc wfc wac wnc kn kf kg po oo wd wg wl wh wf wa wn) (hko : kWin none (mOq ors oc) od kno kfo kgo) (hoc : oc ≤ 8) (hj : jns = false)
    (hKp : KpI (fun i => fKeep fo fn (f0 (i * 3 + fc))) f0 n0 nk fk gk) (hce : ∃ n fl gl t2 m2, n ≤ 60 ∧ LsI fk f1 ((List.range nk).map (fun z => (z, none))) n fl gl ∧ t2 = (0 + (bk n0 + bk nk)) ∧ m2 = (max 0 (if n0 = 0 then 0 else 2)) ∧ cEnd fr n (cWs fr n poc ooc wdc wgc wlc whc wfc wac wnc kn kf kg) (wOr kn wc 3) (none, gl, fl, t2, m2, 0) kno kfo kgo x gL fL tr mh sm nL)
    (hKm : KmI (mPs flt op tc ho gv te) (sz_ 0) nk2 kp) (hme : ∃ er1 hl1 vl1 l1 t2 m2, mMd fr jns ho gv kp jx jy sz_ nk2 (0 + (bk (sz_ 0) + bk nk2)) (max 0 (if sz_ 0 = 0 then 0 else 2)) nn er1 hl1 vl1 fi se l1 t2 m2 ∧ mEnd fr nn 20 fi se er1 (mWs fr nn 20 fi se po oo wd wg wl wh wf wa wn) (wOr (fun z => kN (po z) (oo z)) wc 3) (none, kf9, kg9, l1, t2, m2, 0, hl1, vl1) ors oc od x2 li t9 m9 s9 sh hl_ vl) : x = x2 ∧ tr = t9 ∧ mh = m9 ∧ sm = s9 ∧ nL = sh ∧ resRel sh fL gL hl_ vl li := by
  rw [hs0] at hKm hme
  obtain ⟨rfl, hk, hki⟩ := kept_eq (fun i hi => ps_eq ht0 htc hop hfl hi) hKp hKm
  have hnk : nk ≤ 24 := by rw [hKp.1]; exact Nat.le_trans kLs_len hn0
  obtain ⟨n, fl, gl, t2, m2, hn, hLs, rfl, rfl, hce⟩ := hce
  obtain ⟨er1, hl1, vl1, l1, t3, m3, ⟨hJ, hT, _⟩, hme⟩ := hme
  have hl : mLst jns ho gv kp jx jy (sz_ 1) nk = (List.range nk).map (fun z => (z, none)) := if_neg (by rw [hj]; exact Bool.false_ne_true)
  rw [hl] at hJ
  rcases hJ with ⟨rfl, hnn, hLm⟩ | ⟨_, _, hbad⟩
  · have hT := hT rfl
    rw [if_neg (by rw [hj]; exact fun y => Bool.false_ne_true y.1)] at hT
    cases hT
    have e : n = nn := by rw [hLs.1, hLm.1]
    subst e
    exact rt_end ht0 ht1 hn0 hn1 hfr hw hko hoc hn (fun t ht => (hk t ht).2) hki (fun x hx => by
      obtain ⟨z, hz, rfl⟩ := List.mem_map.mp hx
      exact ⟨List.mem_range.mp hz, fun j h => by cases h⟩) rgn_nd hLs hLm hce hme
  · rw [List.length_map, List.length_range] at hbad
    omega
/-- a run with a join -/
theorem rt_j {nk jl jr : Nat} {fk : Nat → Int64} {gk : Nat → Nat} (ht0 : tRel 0 n0 f0 ho gv) (ht1 : tRel 1 n1 f1 ho gv) (hs0 : sz_ 0 = n0) (hs1 : sz_ 1 = n1) (hg1 : ∀ z, z < n1 → g1 z = z) (hn0 : n0 ≤ 24) (hn1 : n1 ≤ 24) (hfr : 3 ≤ fr) (htc : tc < 3) (hop : op ≤ 4) (hfl : (flt = false ∧ fo = -1) ∨ (flt = true ∧ fn = te 2 ∧ fc = tc ∧ fo = nI op ∧ te 1 = nI op)) (hw : winR wc poc ooc wdc wgc wlc whc wfc wac wnc kn kf kg po oo wd wg wl wh wf wa wn) (hko : kWin none (mOq ors oc) od kno kfo kgo) (hoc : oc ≤ 8) (hj : jns = true) (hjl : jl = jx) (hjr : jr = jy) (hjx : jx < 3) (hjy : jy < 3)
    (hKp : KpI (fun i => fKeep fo fn (f0 (i * 3 + fc))) f0 n0 nk fk gk) (hce : (60 < (jLs (fun t j => decide (fk (t * 4 + jl) ≠ -1099511627776 ∧ fk (t * 4 + jl) = f1 (j * 3 + jr))) n1 nk).length ∧ x = -2 ∧ tr = 0 ∧ mh = 0 ∧ sm = 0 ∧ nL = 0) ∨ ∃ n fl gl t2 m2, n ≤ 60 ∧ LsI fk f1 (jLs (fun t j => decide (fk (t * 4 + jl) ≠ -1099511627776 ∧ fk (t * 4 + jl) = f1 (j * 3 + jr))) n1 nk) n fl gl ∧ (t2 = (mGs fr (mP fr (cG fk gk 4 jl (fr - 1) nk 1) (cG f1 g1 3 jr (fr - 1) n1 1) (mGs fr (mP fr (cG fk gk 4 jl (fr - 1) nk 2) (cG f1 g1 3 jr (fr - 1) n1 2) (fun _ => mG2 fr)))) 0 nk n1 ((0 + (bk n0 + bk nk)), (max 0 (if n0 = 0 then 0 else 2)))).1 + bk n ∧ m2 = max (mGs fr (mP fr (cG fk gk 4 jl (fr - 1) nk 1) (cG f1 g1 3 jr (fr - 1) n1 1) (mGs fr (mP fr (cG fk gk 4 jl (fr - 1) nk 2) (cG f1 g1 3 jr (fr - 1) n1 2) (fun _ => mG2 fr)))) 0 nk n1 ((0 + (bk n0 + bk nk)), (max 0 (if n0 = 0 then 0 else 2)))).2 0) ∧ cEnd fr n (cWs fr n poc ooc wdc wgc wlc whc wfc wac wnc kn kf kg) (wOr kn wc 3) (none, gl, fl, t2, m2, 0) kno kfo kgo x gL fL tr mh sm nL)
    (hKm : KmI (mPs flt op tc ho gv te) (sz_ 0) nk2 kp) (hme : ∃ er1 hl1 vl1 l1 t2 m2, mMd fr jns ho gv kp jx jy sz_ nk2 (0 + (bk (sz_ 0) + bk nk2)) (max 0 (if sz_ 0 = 0 then 0 else 2)) nn er1 hl1 vl1 fi se l1 t2 m2 ∧ mEnd fr nn 20 fi se er1 (mWs fr nn 20 fi se po oo wd wg wl wh wf wa wn) (wOr (fun z => kN (po z) (oo z)) wc 3) (none, kf9, kg9, l1, t2, m2, 0, hl1, vl1) ors oc od x2 li t9 m9 s9 sh hl_ vl) : x = x2 ∧ tr = t9 ∧ mh = m9 ∧ sm = s9 ∧ nL = sh ∧ resRel sh fL gL hl_ vl li := by
  subst hjl
  subst hjr
  rw [hs0] at hKm hme
  obtain ⟨rfl, hk, hki⟩ := kept_eq (fun i hi => ps_eq ht0 htc hop hfl hi) hKp hKm
  have hk2 : ∀ t, t < nk → (∀ c, c < 3 → fk (t * 4 + c) = f0 (kp t * 3 + c)) ∧ kp t < n0 := fun t ht => ⟨(hk t ht).2.1, (hk t ht).2.2.2⟩
  have hL : jLs (fun t j => decide (fk (t * 4 + jl) ≠ -1099511627776 ∧ fk (t * 4 + jl) = f1 (j * 3 + jr))) n1 nk = jLs (mQj ho gv kp jl jr) n1 nk := jLs_c nk (fun t j y1 y2 => qj_eq ht0 ht1 hk2 hjx hjy y1 y2)
  rw [hL] at hce
  rw [cj_eq (tr := (0 + (bk n0 + bk nk))) (ms := (max 0 (if n0 = 0 then 0 else 2))) ht0 ht1 hs1 (fun t ht => ⟨(hk t ht).1, (hk2 t ht).1, (hk2 t ht).2⟩) hg1 hfr hjx hjy] at hce
  obtain ⟨er1, hl1, vl1, l1, t3, m3, ⟨hJ, hT, _⟩, hme⟩ := hme
  have hl : mLst jns ho gv kp jl jr (sz_ 1) nk = jLs (mQj ho gv kp jl jr) n1 nk := by rw [← hs1]; exact if_pos hj
  rw [hl] at hJ
  rcases hce with ⟨hbig, rfl, rfl, rfl, rfl, rfl⟩ | ⟨n, fl, gl, t2, m2, hn, hLs, hcnt, hce⟩
  · rcases hJ with ⟨_, hnn, hLm⟩ | ⟨rfl, _, _⟩
    · have := hLm.1; omega
    · obtain ⟨er3, kq, kf3, kg3, l3, t5, m5, s5, hl3, vl3, d1, d2⟩ := hme
      have d1 := (d1.resolve_left (fun q => absurd q.1 (by decide))).2
      subst d1
      rcases d2 with ⟨_, rfl, rfl, rfl, rfl, rfl⟩ | ⟨d2, _⟩
      · exact ⟨rfl, rfl, rfl, rfl, rfl, fun r hr => absurd hr (Nat.not_lt_zero r)⟩
      · exact absurd d2 (by decide)
  · rcases hJ with ⟨rfl, hnn, hLm⟩ | ⟨_, _, hbad⟩
    · have hT := hT rfl
      have e : n = nn := by rw [hLs.1, hLm.1]
      subst e
      have h9 : (t2, m2) = (t3, m3) := by
        rw [hT, hcnt.1, hcnt.2, hs1]
        generalize max 0 (if n0 = 0 then 0 else 2) = M
        by_cases q : nk = 0 ∨ n1 = 0
        · rw [if_pos q, if_neg (fun y => y.2 q)]
          have hz : n = 0 := by rw [hLs.1, jLs_0 nk q]; rfl
          rw [hz]
          exact Prod.ext (Nat.add_zero _) (Nat.max_eq_left (Nat.zero_le _))
        · rw [if_neg q, if_pos ⟨hj, q⟩]
          exact Prod.ext rfl (Nat.max_eq_left (Nat.zero_le _))
      cases h9
      exact rt_end ht0 ht1 hn0 hn1 hfr hw hko hoc hn (fun t ht => (hk t ht).2) hki (fun x hx => by
        obtain ⟨h1, j, h2, h3⟩ := jLs_m nk x hx
        exact ⟨h1, fun j9 h9 => by rw [h2] at h9; cases h9; exact h3⟩) (jLs_nd nk) hLs hLm hce hme
    · have := hLs.1; omega
end RT
/-! the calls that change tables and the query -/
theorem y_k {y : Int32} (hy : nI 0 ≤ y ∧ y ≤ nI 7) : ∃ k, k < 8 ∧ y = nI k := by
  obtain ⟨h1, h2⟩ := hy
  rw [Int32.le_iff_toInt_le] at h1 h2
  rw [nI_toInt (by omega)] at h1 h2
  exact ⟨y.toInt.toNat, by omega, Int32.toInt_inj.mp (by rw [nI_toInt (by omega)]; omega)⟩
theorem bit_t : ∀ k, k < 8 → (decide ((nI k) &&& 1 = 0) = hBit (nI k) 0) ∧ (decide ((nI k) &&& 2 = 0) = hBit (nI k) 1) ∧ (decide ((nI k) &&& 4 = 0) = hBit (nI k) 2) := by decide +kernel
theorem nvl_e {y bit x : Int32} {c : Nat} (h : decide (y &&& bit = 0) = hBit y c) : nvl y bit x = enc (!hBit y c) x := by
  unfold nvl
  rw [← h]
  by_cases q : y &&& bit = 0
  · rw [if_pos q, decide_eq_true q]; exact enc_f.symm
  · rw [if_neg q, decide_eq_false q]; exact enc_t.symm
theorem upd_s {f : Nat → Int32} {i : Nat} {x : Int32} : upd f i x i = x := if_pos rfl
theorem upd_n {f : Nat → Int32} {i z : Nat} {x : Int32} (h : z ≠ i) : upd f i x z = f z := if_neg h
section INS
variable {t n : Nat} {f : Nat → Int64} {g sz_ : Nat → Nat} {ho gv : Nat → Int32} {xa xb xc y : Int32}
theorem tab_ins (h : tabR t n f g sz_ ho gv) (hn : n < 24) (hy : nI 0 ≤ y ∧ y ≤ nI 7) : tabR t (n + 1) (vp_updL (vp_updL (vp_updL f ((va_up g n n) n * 3 + 0) (nvl y 1 xa)) ((va_up g n n) n * 3 + 1) (nvl y 2 xb)) ((va_up g n n) n * 3 + 2) (nvl y 4 xc)) (va_up g n n) (va_up sz_ t (sz_ t + 1)) (upd ho (24 * t + (sz_ t)) y) (upd (upd (upd gv (72 * t + 3 * (sz_ t)) xa) (72 * t + 3 * (sz_ t) + 1) xb) (72 * t + 3 * (sz_ t) + 2) xc) := by
  obtain ⟨rfl, h1, h2, h3⟩ := h
  obtain ⟨k, hk, rfl⟩ := y_k hy
  obtain ⟨b0, b1, b2⟩ := bit_t k hk
  rw [va_up_self]
  refine ⟨va_up_self _ _ _, by omega, fun z hz => ?_, fun i hi c hc => ?_⟩
  · by_cases q : z = sz_ t
    · rw [q, va_up_self]
    · rw [va_up_ne _ _ q]; exact h2 z (by omega)
  · by_cases q : i = sz_ t
    · subst q
      rw [upd_s]
      rcases (show c = 0 ∨ c = 1 ∨ c = 2 by omega) with rfl | rfl | rfl
      · rw [pk_uLn (by omega), pk_uLn (by omega), pk_uLs, upd_n (by omega), upd_n (by omega), Nat.add_zero, upd_s]
        exact nvl_e b0
      · rw [pk_uLn (by omega), pk_uLs, upd_n (by omega), upd_s]
        exact nvl_e b1
      · rw [pk_uLs, upd_s]
        exact nvl_e b2
    · rw [pk_uLn (by omega), pk_uLn (by omega), pk_uLn (by omega), upd_n (by omega), upd_n (by omega), upd_n (by omega), upd_n (by omega)]
      exact h3 i (by omega) c hc
theorem tab_oth {t2 m : Nat} (h : tabR t n f g sz_ ho gv) (_ht : t < 2) (_ht2 : t2 < 2) (hne : t ≠ t2) (hm : sz_ t2 < 24) : tabR t n f g (va_up sz_ t2 m) (upd ho (24 * t2 + (sz_ t2)) y) (upd (upd (upd gv (72 * t2 + 3 * (sz_ t2)) xa) (72 * t2 + 3 * (sz_ t2) + 1) xb) (72 * t2 + 3 * (sz_ t2) + 2) xc) := by
  obtain ⟨rfl, h1, h2, h3⟩ := h
  refine ⟨by rw [va_up_ne _ _ hne], h1, h2, fun i hi c hc => ?_⟩
  rw [upd_n (by omega), upd_n (by omega), upd_n (by omega), upd_n (by omega)]
  exact h3 i hi c hc
theorem tab_clr (_h : tabR t n f g sz_ ho gv) : tabR t 0 f g (va_up sz_ t 0) ho gv := ⟨va_up_self _ _ _, Nat.zero_le _, fun z hz => absurd hz (Nat.not_lt_zero z), fun i hi => absurd hi (Nat.not_lt_zero i)⟩
theorem tab_co {t2 m : Nat} (h : tabR t n f g sz_ ho gv) (hne : t ≠ t2) : tabR t n f g (va_up sz_ t2 m) ho gv := by
  obtain ⟨h0, h1, h2, h3⟩ := h
  exact ⟨by rw [va_up_ne _ _ hne]; exact h0, h1, h2, h3⟩
end INS
def jnR (jl jr : Int32) (jns : Bool) (jx jy : Nat) : Prop := jx < 3 ∧ jy < 3 ∧ ((jns = false ∧ jl = -1 ∧ jr = -1) ∨ (jns = true ∧ jl = nI jx ∧ jr = nI jy))
def ordR (kno : Nat) (kfo : Nat → Nat) (kgo : Nat → Bool) (ors : Bool) (oc : Nat) (od : Bool) : Prop := oc ≤ 8 ∧ kno ≤ 2 ∧ (∀ t, t < 2 → kfo t < 1000) ∧ kWin none (mOq ors oc) od kno kfo kgo
theorem ord_0 {kno oc : Nat} {kfo : Nat → Nat} {kgo : Nat → Bool} {ors od : Bool} (h : ordR kno kfo kgo ors oc od) : ordR 0 kfo kgo false oc od := ⟨h.1, Nat.zero_le _, h.2.2.1, rfl, fun t ht => absurd ht (Nat.not_lt_zero t)⟩
theorem ord_1 {kno oc c0 : Nat} {kfo : Nat → Nat} {kgo : Nat → Bool} {ors od d0 : Bool} (h : ordR kno kfo kgo ors oc od) (hc : c0 ≤ 8) : ordR 1 (va_up kfo 0 c0) (va_up kgo 0 d0) true c0 d0 := by
  refine ⟨hc, by decide, fun t ht => ?_, rfl, fun t ht => ?_⟩
  · by_cases q : t = 0
    · rw [q, va_up_self]; omega
    · rw [va_up_ne _ _ q]; exact h.2.2.1 t ht
  · obtain rfl : t = 0 := by omega
    exact ⟨va_up_self _ _ _, va_up_self _ _ _⟩
theorem flt_0 {fc : Nat} {fo fn : Int32} {flt : Bool} {te : Nat → Int32} (h : fltR fc fo fn flt te) : fltR fc (-1) fn false te := by
  obtain ⟨h1, tc, op, h2, h3, h4, _⟩ := h
  exact ⟨h1, tc, op, h2, h3, h4, Or.inl ⟨rfl, rfl⟩⟩
theorem op_k {y : Int32} (hy : nI 0 ≤ y ∧ y ≤ nI 4) : ∃ k, k ≤ 4 ∧ y = nI k := by
  obtain ⟨h1, h2⟩ := hy
  rw [Int32.le_iff_toInt_le] at h1 h2
  rw [nI_toInt (by omega)] at h1 h2
  exact ⟨y.toInt.toNat, by omega, Int32.toInt_inj.mp (by rw [nI_toInt (by omega)]; omega)⟩
theorem flt_1 {c0 : Nat} {y z : Int32} {te : Nat → Int32} (hc : c0 < 3) (hy : nI 0 ≤ y ∧ y ≤ nI 4) : fltR c0 y z true (upd (upd (upd te 0 (nI c0)) 1 y) 2 z) := by
  obtain ⟨k, hk, rfl⟩ := op_k hy
  refine ⟨hc, c0, k, hc, by rw [upd_n (by decide), upd_n (by decide), upd_s], hk, Or.inr ⟨rfl, by rw [upd_s], rfl, rfl, by rw [upd_n (by decide), upd_s]⟩⟩
