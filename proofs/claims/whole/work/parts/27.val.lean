/-! the reference: a window over one partition -/
def mCol (hl_ : Nat → Bool) (vl : Nat → Int32) (c z : Nat) : Int64 := enc (hl_ (9 * z + c)) (vl (9 * z + c))
def mO (hl_ : Nat → Bool) (vl : Nat → Int32) (oo : Option Nat) : Option (Nat → Int64) := oo.map (mCol hl_ vl)
def mOl (hl_ : Nat → Bool) (vl : Nat → Int32) (li : Nat → Nat) (oo : Option Nat) : Option (Nat → Int64) := oo.map (fun c q => mCol hl_ vl c (li q))
theorem mO_l {hl_ : Nat → Bool} {vl : Nat → Int32} {li : Nat → Nat} {oo : Option Nat} {i j : Nat} : pEq (mO hl_ vl oo) (li i) (li j) = pEq (mOl hl_ vl li oo) i j := by cases oo <;> rfl
/-- does the order that stands serve a window -/
def mOrdB (kn : Nat) (kf : Nat → Nat) (kg : Nat → Bool) (po oo : Option Nat) (wd : Bool) : Bool := match po, oo with
  | none, none => true
  | some a, none => decide (0 < kn ∧ nI (kf 0) = oI (some a) ∧ kg 0 = false)
  | none, some b => decide (0 < kn ∧ nI (kf 0) = oI (some b) ∧ kg 0 = wd)
  | some a, some b => decide (0 < kn ∧ nI (kf 0) = oI (some a) ∧ kg 0 = false) && decide (1 < kn ∧ nI (kf 1) = oI (some b) ∧ kg 1 = wd)
section ORD
variable {kn : Nat} {kf : Nat → Nat} {kg : Nat → Bool} {po oo : Option Nat} {wd b : Bool} {x y : Nat}
theorem ord_f (h1 : po = some x) (h2 : decide (0 < kn ∧ nI (kf 0) = oI po ∧ kg 0 = false) = false) : false = mOrdB kn kf kg po oo wd := by
  subst h1
  cases oo with
  | none => exact h2.symm
  | some b => show false = (decide (0 < kn ∧ nI (kf 0) = oI (some x) ∧ kg 0 = false) && _); rw [h2]; rfl
theorem ord_nn (h1 : po = none) (h2 : oo = none) : true = mOrdB kn kf kg po oo wd := by subst h1; subst h2; rfl
theorem ord_sn (h1 : po = some x) (h2 : decide (0 < kn ∧ nI (kf 0) = oI po ∧ kg 0 = false) = true) (h3 : oo = none) : true = mOrdB kn kf kg po oo wd := by subst h1; subst h3; exact h2.symm
theorem ord_ns (h1 : po = none) (h3 : oo = some x) (h2 : decide (0 < kn ∧ nI (kf 0) = oI oo ∧ kg 0 = wd) = b) : b = mOrdB kn kf kg po oo wd := by subst h1; subst h3; exact h2.symm
theorem ord_ss (h1 : po = some x) (h2 : decide (0 < kn ∧ nI (kf 0) = oI po ∧ kg 0 = false) = true) (h3 : oo = some y) (h4 : decide (1 < kn ∧ nI (kf 1) = oI oo ∧ kg 1 = wd) = b) : b = mOrdB kn kf kg po oo wd := by
  subst h1; subst h3
  show b = (decide (0 < kn ∧ nI (kf 0) = oI (some x) ∧ kg 0 = false) && decide (1 < kn ∧ nI (kf 1) = oI (some y) ∧ kg 1 = wd))
  rw [h2, h4]; rfl
end ORD
theorem enc_r {b : Bool} {x : Int32} : enc (!b) (if b = true then x else nI 0) = if b = true then x.toInt64 else -1099511627776 := by cases b <;> rfl
def argO (u : Nat → Int64) (o : Option Nat) (st en : Nat) : Int64 := match o with
  | none => -1099511627776
  | some j => argN u j st en
/-- rows before q that are no peers of it: all, or the first of each group -/
def rkC (e : Nat → Nat → Bool) (rw : Bool) (st q : Nat) : Nat → Nat
  | 0 => 0
  | d + 1 => if (!(e (st + d) q) && (rw || (decide (d = 0) || !(e (st + d - 1) (st + d))))) = true then rkC e rw st q d + 1 else rkC e rw st q d
theorem rkC_le {e : Nat → Nat → Bool} {rw : Bool} {st q : Nat} : ∀ d, rkC e rw st q d ≤ d := by
  intro d
  induction d with
  | zero => exact Nat.le_refl _
  | succ d ih =>
    simp only [rkC]
    by_cases h : (!(e (st + d) q) && (rw || (decide (d = 0) || !(e (st + d - 1) (st + d))))) = true
    · rw [if_pos h]; omega
    · rw [if_neg h]; omega
theorem rk_y {e : Nat → Nat → Bool} {rw : Bool} {st q d y : Nat} (hy : y = rkC e rw st q d) (h1 : e (st + d) q = false) (h2 : rw = true ∨ d = 0 ∨ e (st + d - 1) (st + d) = false) : y + 1 = rkC e rw st q (d + 1) := by
  rw [hy]
  refine (if_pos ?_).symm
  rcases h2 with h2 | h2 | h2
  · rw [h1, h2]; rfl
  · rw [h1, decide_eq_true h2]; cases rw <;> rfl
  · rw [h1, h2]; cases rw <;> cases (decide (d = 0)) <;> rfl
theorem rk_n1 {e : Nat → Nat → Bool} {rw : Bool} {st q d y : Nat} (hy : y = rkC e rw st q d) (h1 : e (st + d) q = true) : y = rkC e rw st q (d + 1) := by
  rw [hy]
  exact (if_neg (by rw [h1]; exact Bool.false_ne_true)).symm
theorem rk_n2 {e : Nat → Nat → Bool} {rw : Bool} {st q d y : Nat} (hy : y = rkC e rw st q d) (h1 : rw = false) (h2 : ¬ d = 0) (h3 : e (st + d - 1) (st + d) = true) : y = rkC e rw st q (d + 1) := by
  rw [hy]
  refine (if_neg ?_).symm
  rw [h1, decide_eq_false h2, h3]
  cases e (st + d) q <;> exact Bool.false_ne_true
/-- the rows in the first t tiles -/
def tB (s r t : Nat) : Nat := t * s + min t r
theorem tB_s {s r t : Nat} : tB s r t + (s + (if t < r then 1 else 0)) = tB s r (t + 1) := by
  unfold tB
  rw [Nat.succ_mul]
  by_cases h : t < r
  · rw [if_pos h]; omega
  · rw [if_neg h]; omega
theorem tl_p {s r i v : Nat} (h2 : i < (v + 1) * s + min (v + 1) r) (h4 : v * s + min v r ≤ i) : v + 1 = if s = 0 ∨ i < r * (s + 1) then 1 + i / (s + 1) else 1 + r + (i - r * (s + 1)) / s := by
  rw [Nat.succ_mul] at h2
  have e1 : v * (s + 1) = v * s + v := Nat.mul_succ v s
  have e2 : r * (s + 1) = r * s + r := Nat.mul_succ r s
  by_cases h5 : v < r
  · have h6 : (v + 1) * (s + 1) ≤ r * (s + 1) := Nat.mul_le_mul_right _ h5
    have e3 : (v + 1) * (s + 1) = v * s + v + (s + 1) := by rw [Nat.succ_mul, e1]
    rw [Nat.min_eq_left (by omega)] at h2 h4
    have h7 : i / (s + 1) = v := by
      refine Nat.div_eq_of_lt_le ?_ ?_
      · rw [e1]; omega
      · rw [e3]; omega
    rw [if_pos (Or.inr (by omega)), h7]
    omega
  · rw [Nat.min_eq_right (by omega)] at h2 h4
    obtain ⟨w, rfl⟩ : ∃ w, v = r + w := ⟨v - r, by omega⟩
    have e4 : (r + w) * s = r * s + w * s := Nat.add_mul r w s
    have hs : s ≠ 0 := fun q => by
      subst q
      simp only [Nat.mul_zero] at h2 h4
      omega
    rw [e4] at h2 h4
    have h8 : (i - r * (s + 1)) / s = w := by
      refine Nat.div_eq_of_lt_le ?_ ?_
      · rw [e2]; omega
      · rw [e2, Nat.succ_mul]; omega
    rw [if_neg (fun q => q.elim hs (by omega)), h8]
    omega
theorem tl_end {t i m n : Nat} (hn : 0 < n) (hi : i < m) (h0 : t = 0 ∨ tB (m / n) (m % n) (t - 1) ≤ i) (h1 : t = n ∨ i < tB (m / n) (m % n) t) : t = tileN i m n := by
  have hr : m % n < n := Nat.mod_lt _ hn
  have hm : n * (m / n) + m % n = m := Nat.div_add_mod m n
  have h2 : i < tB (m / n) (m % n) t := by
    rcases h1 with h1 | h1
    · subst h1
      unfold tB
      rw [Nat.min_eq_right (by omega)]
      omega
    · exact h1
  have h3 : t ≠ 0 := fun q => by
    subst q
    unfold tB at h2
    rw [Nat.zero_mul] at h2
    omega
  obtain ⟨v, rfl⟩ : ∃ v, t = v + 1 := ⟨t - 1, by omega⟩
  exact tl_p h2 (h0.resolve_left h3)
/-- the frame: what the reference gathers of the rows where P holds -/
def gFst (P : Nat → Bool) (st : Nat) : Nat → Option Nat
  | 0 => none
  | d + 1 => match gFst P st d with
    | some x => some x
    | none => if P (st + d) = true then some (st + d) else none
def gLas (P : Nat → Bool) (st : Nat) : Nat → Option Nat
  | 0 => none
  | d + 1 => if P (st + d) = true then some (st + d) else gLas P st d
def gCnt (P : Nat → Bool) (u : Nat → Int64) (st : Nat) : Nat → Nat
  | 0 => 0
  | d + 1 => if P (st + d) = true ∧ u (st + d) ≠ -1099511627776 then gCnt P u st d + 1 else gCnt P u st d
def gSum (P : Nat → Bool) (u : Nat → Int64) (st : Nat) : Nat → Int64
  | 0 => 0
  | d + 1 => if P (st + d) = true ∧ u (st + d) ≠ -1099511627776 then gSum P u st d + u (st + d) else gSum P u st d
def gMin (P : Nat → Bool) (u : Nat → Int64) (st : Nat) : Nat → Int64
  | 0 => -1099511627776
  | d + 1 => if P (st + d) = true ∧ u (st + d) ≠ -1099511627776 ∧ (gMin P u st d = -1099511627776 ∨ u (st + d) < gMin P u st d) then u (st + d) else gMin P u st d
def gMax (P : Nat → Bool) (u : Nat → Int64) (st : Nat) : Nat → Int64
  | 0 => -1099511627776
  | d + 1 => if P (st + d) = true ∧ u (st + d) ≠ -1099511627776 ∧ (gMax P u st d = -1099511627776 ∨ gMax P u st d < u (st + d)) then u (st + d) else gMax P u st d
def GI (P : Nat → Bool) (u : Nat → Int64) (st d : Nat) (f1 l1 : Option Nat) (c1 : Nat) (e1 g1 : Int32) (s1 : Int64) : Prop := f1 = gFst P st d ∧ l1 = gLas P st d ∧ c1 = gCnt P u st d ∧ gMin P u st d = enc (decide (c1 = 0)) e1 ∧ gMax P u st d = enc (decide (c1 = 0)) g1 ∧ s1 = gSum P u st d
theorem gi_0 {P : Nat → Bool} {u : Nat → Int64} {st : Nat} {e1 g1 : Int32} : GI P u st 0 none none 0 e1 g1 0 := ⟨rfl, rfl, rfl, rfl, rfl, rfl⟩
theorem gi_no {P : Nat → Bool} {u : Nat → Int64} {st d : Nat} {f1 l1 : Option Nat} {c1 : Nat} {e1 g1 : Int32} {s1 : Int64} (h : GI P u st d f1 l1 c1 e1 g1 s1) (hp : P (st + d) = false) : GI P u st (d + 1) f1 l1 c1 e1 g1 s1 := by
  obtain ⟨h1, h2, h3, h4, h5, h6⟩ := h
  have hn : ¬ P (st + d) = true := by rw [hp]; exact Bool.false_ne_true
  refine ⟨?_, ?_, ?_, ?_, ?_, ?_⟩
  · rw [h1]; simp only [gFst]; cases gFst P st d with
    | none => rw [if_neg hn]
    | some x => rfl
  · rw [h2]; exact (if_neg hn).symm
  · rw [h3]; exact (if_neg (fun q => hn q.1)).symm
  · rw [← h4]; exact if_neg (fun q => hn q.1)
  · rw [← h5]; exact if_neg (fun q => hn q.1)
  · rw [h6]; exact (if_neg (fun q => hn q.1)).symm
theorem gi_f {P : Nat → Bool} {st d : Nat} {f1 f2 : Option Nat} (h : f1 = gFst P st d) (hp : P (st + d) = true) (h2 : (f1 = none ∧ f2 = some (st + d)) ∨ (∃ x, f1 = some x ∧ f2 = f1)) : f2 = gFst P st (d + 1) := by
  simp only [gFst]
  rw [← h]
  rcases h2 with ⟨q1, q2⟩ | ⟨x, q1, q2⟩
  · rw [q1, q2]; exact (if_pos hp).symm
  · rw [q2, q1]
theorem gi_hole {P : Nat → Bool} {u : Nat → Int64} {st d : Nat} {f1 f2 l1 : Option Nat} {c1 : Nat} {e1 g1 : Int32} {s1 : Int64} (h : GI P u st d f1 l1 c1 e1 g1 s1) (hp : P (st + d) = true) (hu : u (st + d) = -1099511627776) (h2 : f2 = gFst P st (d + 1)) : GI P u st (d + 1) f2 (some (st + d)) c1 e1 g1 s1 := by
  obtain ⟨_, _, h3, h4, h5, h6⟩ := h
  refine ⟨h2, (if_pos hp).symm, ?_, ?_, ?_, ?_⟩
  · rw [h3]; exact (if_neg (fun q => q.2 hu)).symm
  · rw [← h4]; exact if_neg (fun q => q.2.1 hu)
  · rw [← h5]; exact if_neg (fun q => q.2.1 hu)
  · rw [h6]; exact (if_neg (fun q => q.2 hu)).symm
theorem v64_nn {v : Int32} : v.toInt64 ≠ -1099511627776 := fun q => by
  have h := congrArg Int64.toInt q
  rw [i64_i, nul_i] at h
  have := i32_lo (v := v)
  omega
theorem v64_lt {v w : Int32} : v.toInt64 < w.toInt64 ↔ v < w := by rw [Int64.lt_iff_toInt_lt, i64_i, i64_i, ← Int32.lt_iff_toInt_lt]
theorem gi_val {P : Nat → Bool} {u : Nat → Int64} {st d : Nat} {f1 f2 l1 : Option Nat} {c1 : Nat} {e1 g1 e2 g2 v : Int32} {s1 : Int64} (h : GI P u st d f1 l1 c1 e1 g1 s1) (hp : P (st + d) = true) (hu : u (st + d) = v.toInt64) (h2 : f2 = gFst P st (d + 1)) (h7 : e2 = if c1 = 0 ∨ v < e1 then v else e1) (h8 : g2 = if c1 = 0 ∨ g1 < v then v else g1) : GI P u st (d + 1) f2 (some (st + d)) (c1 + 1) e2 g2 (s1 + v.toInt64) := by
  obtain ⟨_, _, h3, h4, h5, h6⟩ := h
  have hn : u (st + d) ≠ -1099511627776 := by rw [hu]; exact v64_nn
  have hc : enc (decide (c1 + 1 = 0)) e2 = e2.toInt64 := by rw [decide_eq_false (by omega)]; exact enc_f
  have hc2 : enc (decide (c1 + 1 = 0)) g2 = g2.toInt64 := by rw [decide_eq_false (by omega)]; exact enc_f
  refine ⟨h2, (if_pos hp).symm, ?_, ?_, ?_, ?_⟩
  · rw [h3]; exact (if_pos ⟨hp, hn⟩).symm
  · rw [hc, h7]
    by_cases q : c1 = 0 ∨ v < e1
    · rw [if_pos q]
      refine (if_pos ⟨hp, hn, ?_⟩).trans hu
      rcases q with q | q
      · left; rw [h4, decide_eq_true q]; exact enc_t
      · by_cases q0 : c1 = 0
        · left; rw [h4, decide_eq_true q0]; exact enc_t
        · right; rw [h4, decide_eq_false q0, enc_f, hu]; exact v64_lt.mpr q
    · rw [if_neg q]
      have q0 : ¬ c1 = 0 := fun y => q (Or.inl y)
      have h9 : gMin P u st d = e1.toInt64 := by rw [h4, decide_eq_false q0]; exact enc_f
      refine (if_neg ?_).trans h9
      rw [h9, hu]
      exact fun y => y.2.2.elim v64_nn (fun z => q (Or.inr (v64_lt.mp z)))
  · rw [hc2, h8]
    by_cases q : c1 = 0 ∨ g1 < v
    · rw [if_pos q]
      refine (if_pos ⟨hp, hn, ?_⟩).trans hu
      rcases q with q | q
      · left; rw [h5, decide_eq_true q]; exact enc_t
      · by_cases q0 : c1 = 0
        · left; rw [h5, decide_eq_true q0]; exact enc_t
        · right; rw [h5, decide_eq_false q0, enc_f, hu]; exact v64_lt.mpr q
    · rw [if_neg q]
      have q0 : ¬ c1 = 0 := fun y => q (Or.inl y)
      have h9 : gMax P u st d = g1.toInt64 := by rw [h5, decide_eq_false q0]; exact enc_f
      refine (if_neg ?_).trans h9
      rw [h9, hu]
      exact fun y => y.2.2.elim v64_nn (fun z => q (Or.inr (v64_lt.mp z)))
  · rw [h6, ← hu]; exact (if_pos ⟨hp, hn⟩).symm
theorem gCnt_le {P : Nat → Bool} {u : Nat → Int64} {st : Nat} : ∀ d, gCnt P u st d ≤ d := by
  intro d
  induction d with
  | zero => exact Nat.le_refl _
  | succ d ih =>
    simp only [gCnt]
    by_cases h : P (st + d) = true ∧ u (st + d) ≠ -1099511627776
    · rw [if_pos h]; omega
    · rw [if_neg h]; omega
theorem gFst_lt {P : Nat → Bool} {st x : Nat} : ∀ d, gFst P st d = some x → st ≤ x ∧ x < st + d := by
  intro d
  induction d with
  | zero => intro h; cases h
  | succ d ih =>
    have e : gFst P st (d + 1) = match gFst P st d with
      | some x => some x
      | none => if P (st + d) = true then some (st + d) else none := rfl
    rw [e]
    cases hq : gFst P st d with
    | some y =>
      intro h
      have := ih (hq.trans h)
      omega
    | none =>
      intro h
      by_cases q : P (st + d) = true
      · have h2 : some (st + d) = some x := (if_pos q).symm.trans h
        cases h2
        omega
      · have h2 : none = some x := (if_neg q).symm.trans h
        cases h2
theorem gLas_lt {P : Nat → Bool} {st x : Nat} : ∀ d, gLas P st d = some x → st ≤ x ∧ x < st + d := by
  intro d
  induction d with
  | zero => intro h; cases h
  | succ d ih =>
    intro h
    by_cases q : P (st + d) = true
    · have h2 : some (st + d) = some x := (if_pos q).symm.trans h
      cases h2
      omega
    · have := ih ((if_neg q).symm.trans h)
      omega
theorem oI_no {o : Option Nat} (ho : ∀ q, o = some q → q < 1000) (h : ¬ 0 ≤ oI o) : o = none := oI_lt0 ho (Int32.not_le.mp h)
theorem inF_r {o : Option (Nat → Int64)} {wd : Bool} {wl wh : Int32} {i j : Nat} : inF o wd false wl wh i j = wRb wl wh (nI j - nI i).toInt64 := by cases o <;> rfl
theorem enc_nul {h : Bool} {v : Int32} : enc h v = -1099511627776 ↔ h = true := by
  cases h
  · rw [enc_f]; exact ⟨fun q => absurd q v64_nn, fun q => absurd q Bool.false_ne_true⟩
  · rw [enc_t]; exact ⟨fun _ => rfl, fun _ => rfl⟩
theorem inF_h {u : Nat → Int64} {ha hb wd : Bool} {va vb wl wh : Int32} {i j : Nat} (hi : u i = enc ha va) (hj : u j = enc hb vb) (h : ha = true ∨ hb = true) : inF (some u) wd true wl wh i j = (ha && hb) := by
  show (if u i = -1099511627776 ∨ u j = -1099511627776 then decide (u i = u j) else wRb wl wh (if wd = true then u i - u j else u j - u i)) = _
  rw [hi, hj, if_pos (h.imp enc_nul.mpr enc_nul.mpr)]
  cases ha <;> cases hb
  · exact absurd h (by decide)
  · rw [enc_f, enc_t]; exact decide_eq_false v64_nn
  · rw [enc_f, enc_t]; exact decide_eq_false (fun q => v64_nn q.symm)
  · rw [enc_t, enc_t]; exact decide_eq_true rfl
theorem inF_v {u : Nat → Int64} {wd : Bool} {va vb wl wh : Int32} {i j : Nat} (hi : u i = enc false va) (hj : u j = enc false vb) : inF (some u) wd true wl wh i j = wRb wl wh (if wd = true then va.toInt64 - vb.toInt64 else vb.toInt64 - va.toInt64) := by
  show (if u i = -1099511627776 ∨ u j = -1099511627776 then decide (u i = u j) else wRb wl wh (if wd = true then u i - u j else u j - u i)) = _
  rw [hi, hj, if_neg (fun q => q.elim (fun y => absurd (enc_nul.mp y) Bool.false_ne_true) (fun y => absurd (enc_nul.mp y) Bool.false_ne_true)), enc_f, enc_f]
theorem bm32 {x : Int} (h1 : -2147483648 ≤ x) (h2 : x < 2147483648) : x.bmod (2 ^ 32) = x := Int.bmod_eq_of_le (by omega) (by omega)
theorem bm64 {x : Int} (h1 : -9223372036854775808 ≤ x) (h2 : x < 9223372036854775808) : x.bmod (2 ^ 64) = x := Int.bmod_eq_of_le (by omega) (by omega)
theorem nI_df {i j : Nat} (hi : i < 1000) (hj : j < 1000) : (nI j - nI i).toInt64.toInt = (j : Int) - i := by
  rw [i64_i, Int32.toInt_sub, nI_toInt (by omega), nI_toInt (by omega)]
  exact bm32 (by omega) (by omega)
theorem i32_b10 {x : Int32} (h : (-10 : Int32) ≤ x ∧ x ≤ nI 10) : -10 ≤ x.toInt ∧ x.toInt ≤ 10 := by
  obtain ⟨h1, h2⟩ := h
  rw [Int32.le_iff_toInt_le] at h1 h2
  rw [nI_toInt (by omega)] at h2
  have h3 : (-10 : Int32).toInt = -10 := by decide
  omega
theorem fr_lo {i j : Nat} {low : Int32} (hi : i < 1000) (hj : j < 1000) (h : (-10 : Int32) ≤ low ∧ low ≤ nI 10) : nI j < nI i + low ↔ ¬ low.toInt64 ≤ (nI j - nI i).toInt64 := by
  have hb := i32_b10 h
  rw [Int64.le_iff_toInt_le, nI_df hi hj, i64_i, Int32.lt_iff_toInt_lt, Int32.toInt_add, nI_toInt (by omega), nI_toInt (by omega), bm32 (by omega) (by omega)]
  omega
theorem fr_hi {i j : Nat} {high : Int32} (hi : i < 1000) (hj : j < 1000) (h : (-10 : Int32) ≤ high ∧ high ≤ nI 10) : nI i + high < nI j ↔ ¬ (nI j - nI i).toInt64 ≤ high.toInt64 := by
  have hb := i32_b10 h
  rw [Int64.le_iff_toInt_le, nI_df hi hj, i64_i, Int32.lt_iff_toInt_lt, Int32.toInt_add, nI_toInt (by omega), nI_toInt (by omega), bm32 (by omega) (by omega)]
  omega
theorem neg_sub64 {a b : Int64} : -(b - a) = a - b := Int64.neg_sub
/-- the value that the reference gives a row -/
def mVal (o : Option (Nat → Int64)) (u : Nat → Int64) (wf wn : Nat) (wd wg : Bool) (wl wh : Int32) (st en i : Nat) : Int64 := match wf with
  | 0 => (nI (i - st + 1)).toInt64
  | 1 => (nI (rkC (pEq o) true st i (i - st) + 1)).toInt64
  | 2 => (nI (rkC (pEq o) false st i (i - st) + 1)).toInt64
  | 3 => (nI (tileN (i - st) (en - st) wn)).toInt64
  | 4 => if wn ≤ i then argN u (i - wn) st en else -1099511627776
  | 5 => argN u (i + wn) st en
  | 6 => argO u (gFst (inF o wd wg wl wh i) st (en - st)) st en
  | 7 => argO u (gLas (inF o wd wg wl wh i) st (en - st)) st en
  | 8 => if 0 < gCnt (inF o wd wg wl wh i) u st (en - st) then gSum (inF o wd wg wl wh i) u st (en - st) else -1099511627776
  | 9 => (nI (gCnt (inF o wd wg wl wh i) u st (en - st))).toInt64
  | 10 => gMin (inF o wd wg wl wh i) u st (en - st)
  | _ => gMax (inF o wd wg wl wh i) u st (en - st)
theorem okB_enc {h : Bool} {v : Int32} : okB (enc h v) = true := by
  cases h
  · rw [enc_f]; exact decide_eq_true (Or.inr (by rw [Int32.toInt32_toInt64]))
  · exact decide_eq_true (Or.inl enc_t)
theorem gSum_0 {P : Nat → Bool} {u : Nat → Int64} {st : Nat} : ∀ d, gCnt P u st d = 0 → gSum P u st d = 0 := by
  intro d
  induction d with
  | zero => intro _; rfl
  | succ d ih =>
    intro h
    simp only [gCnt] at h
    by_cases q : P (st + d) = true ∧ u (st + d) ≠ -1099511627776
    · rw [if_pos q] at h; omega
    · rw [if_neg q] at h
      exact (if_neg q).trans (ih h)
/-- every cell is a null or an int -/
def cellI (x : Int64) : Prop := x = -1099511627776 ∨ (-2147483648 ≤ x.toInt ∧ x.toInt < 2147483648)
theorem cellI_enc {h : Bool} {v : Int32} : cellI (enc h v) := by
  cases h
  · rw [enc_f]; right; rw [i64_i]; exact ⟨i32_lo, Int32.toInt_lt v⟩
  · left; exact enc_t
theorem gSum_b {P : Nat → Bool} {u : Nat → Int64} {st en : Nat} (hu : ∀ z, st ≤ z → z < en → cellI (u z)) : ∀ d, st + d ≤ en → d ≤ 1000 → -2147483648 * (d : Int) ≤ (gSum P u st d).toInt ∧ (gSum P u st d).toInt ≤ 2147483648 * (d : Int) := by
  intro d
  induction d with
  | zero => intro _ _; show -2147483648 * ((0 : Nat) : Int) ≤ (0 : Int64).toInt ∧ (0 : Int64).toInt ≤ _; decide
  | succ d ih =>
    intro h1 h2
    obtain ⟨h3, h4⟩ := ih (by omega) (by omega)
    by_cases q : P (st + d) = true ∧ u (st + d) ≠ -1099511627776
    · rw [show gSum P u st (d + 1) = gSum P u st d + u (st + d) from if_pos q, Int64.toInt_add]
      obtain ⟨h5, h6⟩ := (hu (st + d) (by omega) (by omega)).resolve_left q.2
      rw [bm64 (by omega) (by omega)]
      omega
    · rw [show gSum P u st (d + 1) = gSum P u st d from if_neg q]
      omega
theorem ov_no {x : Int64} (h1 : ¬ x < -2147483648) (h2 : x ≤ 2147483647) : x.toInt32.toInt64 = x := by
  rw [← Int64.toInt_inj, i64_i, Int64.toInt_toInt32]
  have h3 : ¬ x.toInt < -2147483648 := fun q => h1 (Int64.lt_iff_toInt_lt.mpr (by rw [show (-2147483648 : Int64).toInt = -2147483648 by decide]; exact q))
  have h4 : x.toInt ≤ 2147483647 := by have := Int64.le_iff_toInt_le.mp h2; rw [show (2147483647 : Int64).toInt = 2147483647 by decide] at this; exact this
  exact bm32 (by omega) (by omega)
theorem ov_yes {x : Int64} (h : x < -2147483648 ∨ ¬ x ≤ 2147483647) : ¬ x = x.toInt32.toInt64 := fun q => by
  have h1 := i32_lo (v := x.toInt32)
  have h2 := Int32.toInt_lt x.toInt32
  have h3 : x.toInt = x.toInt32.toInt := by rw [← i64_i]; exact congrArg Int64.toInt q
  rcases h with h | h
  · have h4 := Int64.lt_iff_toInt_lt.mp h
    rw [show (-2147483648 : Int64).toInt = -2147483648 by decide] at h4
    omega
  · refine h (Int64.le_iff_toInt_le.mpr ?_)
    rw [show (2147483647 : Int64).toInt = 2147483647 by decide]
    omega
theorem fin_ok {X : Int64} {a : Bool} {v : Int32} (h : enc a v = X) : nI 0 = (if okB X = true then nI 0 else -3) ∧ (okB X = true → enc a v = X) := ⟨(if_pos (by rw [← h]; exact okB_enc)).symm, fun _ => h⟩
theorem fs_ok {X s1 : Int64} {c1 : Nat} {b : Bool} (hX : X = if 0 < c1 then s1 else -1099511627776) (hb : b = decide (0 < c1)) (h1 : ¬ s1 < -2147483648) (h2 : s1 ≤ 2147483647) : nI 0 = (if okB X = true then nI 0 else -3) ∧ (okB X = true → enc (!b) (if b = true then s1.toInt32 else nI 0) = X) := by
  refine fin_ok ?_
  rw [enc_r, hX, hb]
  by_cases q : 0 < c1
  · rw [if_pos q, if_pos (decide_eq_true q)]; exact ov_no h1 h2
  · rw [if_neg q, if_neg (fun y => q (of_decide_eq_true y))]
theorem fs_ov {X s1 : Int64} {c1 : Nat} {a : Bool} {v : Int32} (hX : X = if 0 < c1 then s1 else -1099511627776) (h0 : c1 = 0 → s1 = 0) (hlo : -1099511627776 < s1.toInt) (h : s1 < -2147483648 ∨ ¬ s1 ≤ 2147483647) : (-3 : Int32) = (if okB X = true then nI 0 else -3) ∧ (okB X = true → enc a v = X) := by
  have hc : 0 < c1 := Nat.pos_of_ne_zero (fun q => by
    have := h0 q
    subst this
    rcases h with h | h
    · exact absurd h (by decide)
    · exact h (by decide))
  have hX2 : X = s1 := hX.trans (if_pos hc)
  have hn : okB X = false := by
    rw [hX2]
    refine decide_eq_false (fun q => q.elim (fun y => ?_) (ov_yes h))
    have := congrArg Int64.toInt y
    rw [nul_i] at this
    omega
  rw [hn]
  exact ⟨rfl, fun q => absurd q Bool.false_ne_true⟩
/-! a window over a partition that is in order: the class's values are the reference's -/
def mono (o : Option (Nat → Int64)) (wd : Bool) (st en : Nat) : Prop := ∀ u, o = some u → ∀ a b, st ≤ a → a ≤ b → b < en → (if wd = true then (u b).toInt ≤ (u a).toInt else (u a).toInt ≤ (u b).toInt)
theorem pEq_s {u : Nat → Int64} {i j : Nat} : pEq (some u) i j = true ↔ (u i).toInt = (u j).toInt := by rw [Int64.toInt_inj]; exact decide_eq_true_iff
/-- the first peer -/
theorem fp_spec {o : Option (Nat → Int64)} {wd : Bool} {st en : Nat} (hm : mono o wd st en) : ∀ d, st + d < en → (∀ z, fpF o st d ≤ z → z ≤ st + d → pEq o z (st + d) = true) ∧ (∀ z, st ≤ z → z < fpF o st d → pEq o z (st + d) = false) := by
  cases o with
  | none =>
    have hf : ∀ d, fpF none st d = st := by
      intro d
      induction d with
      | zero => rfl
      | succ d ih => exact (if_pos rfl).trans ih
    intro d _
    refine ⟨fun z _ _ => rfl, fun z h1 h2 => ?_⟩
    rw [hf] at h2
    omega
  | some u =>
    have hm := hm u rfl
    intro d
    induction d with
    | zero =>
      intro _
      refine ⟨fun z h1 h2 => ?_, fun z h1 h2 => ?_⟩
      · obtain rfl : z = st := by
          have : st ≤ z := h1
          omega
        exact pEq_s.mpr rfl
      · have : z < st := h2
        omega
    | succ d ih =>
      intro hd
      obtain ⟨i1, i2⟩ := ih (by omega)
      have hl := fpF_le (o := some u) (st := st) d
      simp only [fpF]
      by_cases h : pEq (some u) (st + d) (st + (d + 1)) = true
      · rw [if_pos h]
        have h' := pEq_s.mp h
        refine ⟨fun z h1 h2 => ?_, fun z h1 h2 => ?_⟩
        · by_cases e : z = st + (d + 1)
          · rw [e]; exact pEq_s.mpr rfl
          · have := pEq_s.mp (i1 z h1 (by omega))
            exact pEq_s.mpr (this.trans h')
        · have h3 := i2 z h1 h2
          cases q : pEq (some u) z (st + (d + 1))
          · rfl
          · have h4 := pEq_s.mp q
            have h5 : pEq (some u) z (st + d) = true := pEq_s.mpr (h4.trans h'.symm)
            rw [h3] at h5
            exact absurd h5 Bool.false_ne_true
      · rw [if_neg h]
        refine ⟨fun z h1 h2 => ?_, fun z h1 h2 => ?_⟩
        · obtain rfl : z = st + (d + 1) := by omega
          exact pEq_s.mpr rfl
        · cases q : pEq (some u) z (st + (d + 1))
          · rfl
          · have h4 := pEq_s.mp q
            have h5 := hm z (st + d) h1 (by omega) (by omega)
            have h6 := hm (st + d) (st + (d + 1)) (by omega) (by omega) hd
            refine absurd (pEq_s.mpr ?_) h
            cases wd
            · rw [if_neg (by decide)] at h5 h6; omega
            · rw [if_pos rfl] at h5 h6; omega
theorem rk_all {o : Option (Nat → Int64)} {wd : Bool} {st en i : Nat} (hm : mono o wd st en) (h1 : st ≤ i) (h2 : i < en) : rkC (pEq o) true st i (i - st) = fpF o st (i - st) - st := by
  have hs := fp_spec hm (i - st) (by omega)
  rw [show st + (i - st) = i by omega] at hs
  have hl := fpF_le (o := o) (st := st) (i - st)
  generalize fpF o st (i - st) = fp at *
  have : ∀ d, st + d ≤ i → rkC (pEq o) true st i d = min d (fp - st) := by
    intro d
    induction d with
    | zero => intro _; show 0 = _; omega
    | succ d ih =>
      intro hd
      by_cases q : st + d < fp
      · rw [← rk_y (rw := true) rfl (hs.2 (st + d) (by omega) q) (Or.inl rfl), ih (by omega)]; omega
      · rw [← rk_n1 (rw := true) rfl (hs.1 (st + d) (by omega) (by omega)), ih (by omega)]; omega
  rw [this (i - st) (by omega)]
  omega
theorem pg_c {o : Option (Nat → Int64)} {st fp i : Nat} (h1 : st ≤ fp) (hp : ∀ z, fp ≤ z → z < i → pEq o z (z + 1) = true) : ∀ e, fp + e ≤ i → pgF o st (fp + e - st) = pgF o st (fp - st) := by
  intro e
  induction e with
  | zero => intro _; rfl
  | succ e ih =>
    intro h
    rw [← ih (by omega), show fp + (e + 1) - st = (fp + e - st) + 1 by omega]
    refine if_pos ?_
    have := hp (fp + e) (by omega) (by omega)
    rw [show st + (fp + e - st) = fp + e by omega, show st + ((fp + e - st) + 1) = fp + e + 1 by omega]
    exact this
theorem rk_fre {o : Option (Nat → Int64)} {wd : Bool} {st en i : Nat} (hm : mono o wd st en) (h1 : st ≤ i) (h2 : i < en) : rkC (pEq o) false st i (i - st) + 1 = pgF o st (i - st) := by
  have hs := fp_spec hm (i - st) (by omega)
  rw [show st + (i - st) = i by omega] at hs
  have hl := fpF_le (o := o) (st := st) (i - st)
  have htr : ∀ a b, pEq o a i = true → pEq o b i = true → pEq o a b = true := by
    cases o with
    | none => intro _ _ _ _; rfl
    | some u => intro a b x y; exact pEq_s.mpr ((pEq_s.mp x).trans (pEq_s.mp y).symm)
  have htf : ∀ a b, pEq o a i = false → pEq o b i = true → pEq o a b = false := by
    cases o with
    | none => intro _ _ x _; exact absurd (show true = false from x) (by decide)
    | some u =>
      intro a b x y
      cases q : pEq (some u) a b
      · rfl
      · have := pEq_s.mpr ((pEq_s.mp q).trans (pEq_s.mp y))
        rw [x] at this
        exact absurd this Bool.false_ne_true
  generalize fpF o st (i - st) = fp at *
  have hA : ∀ d, st + d ≤ fp → rkC (pEq o) false st i d = if d = 0 then 0 else pgF o st (d - 1) := by
    intro d
    induction d with
    | zero => intro _; rfl
    | succ d ih =>
      intro hd
      have e1 := hs.2 (st + d) (by omega) (by omega)
      rw [if_neg (by omega), Nat.add_sub_cancel]
      by_cases q : d = 0
      · subst q
        rw [← rk_y (rw := false) rfl e1 (Or.inr (Or.inl rfl))]
        rfl
      · obtain ⟨d', rfl⟩ : ∃ d', d = d' + 1 := ⟨d - 1, by omega⟩
        have hi := ih (by omega)
        rw [if_neg (by omega), Nat.add_sub_cancel] at hi
        by_cases y : pEq o (st + d') (st + (d' + 1)) = true
        · rw [show pgF o st (d' + 1) = pgF o st d' from if_pos y, ← hi]
          exact (rk_n2 rfl rfl q (by rw [show st + (d' + 1) - 1 = st + d' by omega]; exact y)).symm
        · rw [show pgF o st (d' + 1) = pgF o st d' + 1 from if_neg y, ← hi]
          refine (rk_y (rw := false) rfl e1 (Or.inr (Or.inr ?_))).symm
          rw [show st + (d' + 1) - 1 = st + d' by omega]
          exact Bool.eq_false_iff.mpr y
  have hB : ∀ e, fp + e ≤ i → rkC (pEq o) false st i (fp - st + e) = rkC (pEq o) false st i (fp - st) := by
    intro e
    induction e with
    | zero => intro _; rfl
    | succ e ih =>
      intro h
      rw [← ih (by omega)]
      exact (rk_n1 (e := pEq o) (rw := false) (st := st) (q := i) (d := fp - st + e) rfl (hs.1 (st + (fp - st + e)) (by omega) (by omega))).symm
  have h3 := hB (i - fp) (by omega)
  rw [show fp - st + (i - fp) = i - st by omega, hA (fp - st) (by omega)] at h3
  have h4 := pg_c (o := o) (st := st) (fp := fp) (i := i) (by omega) (fun z y1 y2 => htr _ _ (hs.1 z y1 (by omega)) (hs.1 (z + 1) (by omega) (by omega))) (i - fp) (by omega)
  rw [show fp + (i - fp) - st = i - st by omega] at h4
  rw [h3, h4]
  by_cases q : fp - st = 0
  · rw [if_pos q, q]; rfl
  · rw [if_neg q]
    obtain ⟨d', hd⟩ : ∃ d', fp - st = d' + 1 := ⟨fp - st - 1, by omega⟩
    rw [hd, Nat.add_sub_cancel]
    refine (if_neg ?_).symm
    rw [show st + (d' + 1) = fp by omega]
    have := htf (st + d') fp (hs.2 _ (by omega) (by omega)) (hs.1 fp (Nat.le_refl _) (by omega))
    rw [this]
    exact Bool.false_ne_true
/-- a frame stands together -/
def cvx (P : Nat → Bool) (st en : Nat) : Prop := ∀ a b c, st ≤ a → a < b → b < c → c < en → P a = true → P c = true → P b = true
theorem wRb_cv {wl wh : Int32} {x y z : Int64} (h1 : x.toInt ≤ y.toInt) (h2 : y.toInt ≤ z.toInt) (hx : wRb wl wh x = true) (hz : wRb wl wh z = true) : wRb wl wh y = true := by
  obtain ⟨a1, a2⟩ := of_decide_eq_true hx
  obtain ⟨b1, b2⟩ := of_decide_eq_true hz
  refine decide_eq_true ⟨a1.imp id (fun q => ?_), b2.imp id (fun q => ?_)⟩
  · rw [Int64.le_iff_toInt_le] at *; omega
  · rw [Int64.le_iff_toInt_le] at *; omega
theorem inF_cv {o : Option (Nat → Int64)} {wd wg : Bool} {wl wh : Int32} {st en i : Nat} (hm : mono o wd st en) (hc : ∀ u, o = some u → ∀ z, st ≤ z → z < en → cellI (u z)) (h1 : st ≤ i) (h2 : i < en) (h3 : en < 1000) : cvx (inF o wd wg wl wh i) st en := by
  intro a b c ha hab hbc hce hpa hpc
  have hrow : (∀ j, inF o wd wg wl wh i j = wRb wl wh (nI j - nI i).toInt64) → inF o wd wg wl wh i b = true := fun e => by
    rw [e] at hpa hpc ⊢
    refine wRb_cv (x := (nI a - nI i).toInt64) (z := (nI c - nI i).toInt64) ?_ ?_ hpa hpc
    · rw [nI_df (by omega) (by omega), nI_df (by omega) (by omega)]; omega
    · rw [nI_df (by omega) (by omega), nI_df (by omega) (by omega)]; omega
  cases wg with
  | false => exact hrow (fun j => inF_r)
  | true =>
    cases o with
    | none => exact hrow (fun j => rfl)
    | some u =>
      have e : ∀ j, inF (some u) wd true wl wh i j = if u i = -1099511627776 ∨ u j = -1099511627776 then decide (u i = u j) else wRb wl wh (if wd = true then u i - u j else u j - u i) := fun j => rfl
      have hm := hm u rfl
      have hc := hc u rfl
      have m1 := hm a b ha (by omega) (by omega)
      have m2 := hm b c (by omega) (by omega) hce
      have ca := hc a ha (by omega)
      have cb := hc b (by omega) (by omega)
      have cc := hc c (by omega) hce
      have ci := hc i h1 h2
      have nI_ : (-1099511627776 : Int64).toInt = -1099511627776 := nul_i
      rw [e] at hpa hpc ⊢
      by_cases q : u i = -1099511627776
      · rw [if_pos (Or.inl q)] at hpa hpc ⊢
        have e1 := congrArg Int64.toInt (of_decide_eq_true hpa)
        have e2 := congrArg Int64.toInt (of_decide_eq_true hpc)
        refine decide_eq_true (Int64.toInt_inj.mp ?_)
        cases wd
        · rw [if_neg (by decide)] at m1 m2; omega
        · rw [if_pos rfl] at m1 m2; omega
      · have ci := ci.resolve_left q
        have key : ∀ j, (if u i = -1099511627776 ∨ u j = -1099511627776 then decide (u i = u j) else wRb wl wh (if wd = true then u i - u j else u j - u i)) = true → u j ≠ -1099511627776 ∧ wRb wl wh (if wd = true then u i - u j else u j - u i) = true := fun j hj => by
          by_cases y : u j = -1099511627776
          · rw [if_pos (Or.inr y)] at hj
            exact absurd ((of_decide_eq_true hj).trans y) q
          · rw [if_neg (fun z => z.elim q y)] at hj
            exact ⟨y, hj⟩
        obtain ⟨ya, pa⟩ := key a hpa
        obtain ⟨yc, pc⟩ := key c hpc
        have ca := ca.resolve_left ya
        have cc := cc.resolve_left yc
        have yb : u b ≠ -1099511627776 := fun y => by
          have y' := congrArg Int64.toInt y
          rw [nI_] at y'
          cases wd
          · rw [if_neg (by decide)] at m1 m2; omega
          · rw [if_pos rfl] at m1 m2; omega
        have cb := cb.resolve_left yb
        rw [if_neg (fun z => z.elim q yb)]
        have sb : ∀ x y : Int64, -2147483648 ≤ x.toInt ∧ x.toInt < 2147483648 → -2147483648 ≤ y.toInt ∧ y.toInt < 2147483648 → (x - y).toInt = x.toInt - y.toInt := fun x y hx hy => by
          rw [Int64.toInt_sub]; exact bm64 (by omega) (by omega)
        cases wd
        · rw [if_neg (by decide)] at m1 m2 pa pc ⊢
          refine wRb_cv ?_ ?_ pa pc
          · rw [sb _ _ ca ci, sb _ _ cb ci]; omega
          · rw [sb _ _ cc ci, sb _ _ cb ci]; omega
        · rw [if_pos rfl] at m1 m2 pa pc ⊢
          refine wRb_cv ?_ ?_ pa pc
          · rw [sb _ _ ci ca, sb _ _ ci cb]; omega
          · rw [sb _ _ ci cc, sb _ _ ci cb]; omega
theorem scn_sp {P : Nat → Bool} : ∀ d a, (∀ z, a ≤ z → z < scn P d a → P z = false) ∧ (scn P d a < a + d → P (scn P d a) = true) := by
  intro d
  induction d with
  | zero => intro a; refine ⟨fun z h1 h2 => ?_, fun h => ?_⟩
            · have : z < a := h2
              omega
            · have : a < a + 0 := h
              omega
  | succ d ih =>
    intro a
    simp only [scn]
    by_cases h : P a = true
    · rw [if_pos h]; exact ⟨fun z h1 h2 => by omega, fun _ => h⟩
    · rw [if_neg h]
      obtain ⟨i1, i2⟩ := ih (a + 1)
      refine ⟨fun z h1 h2 => ?_, fun h2 => i2 (by omega)⟩
      by_cases e : z = a
      · rw [e]; exact Bool.eq_false_iff.mpr h
      · exact i1 z (by omega) h2
/-- where the frame begins and ends -/
theorem fr_sp {P : Nat → Bool} {st en fs fe : Nat} (hse : st ≤ en) (hcv : cvx P st en) (h1 : fs = scn P (en - st) st) (h2 : fe = scn (fun j => !P j) (en - fs) fs) : st ≤ fs ∧ fs ≤ fe ∧ fe ≤ en ∧ (fe = fs → fs = en) ∧ (∀ z, st ≤ z → z < fs → P z = false) ∧ (∀ z, fs ≤ z → z < fe → P z = true) ∧ (∀ z, fe ≤ z → z < en → P z = false) := by
  have a1 := scn_le P (en - st) st
  have a2 := scn_le (fun j => !P j) (en - fs) fs
  obtain ⟨b1, b2⟩ := scn_sp (P := P) (en - st) st
  obtain ⟨b3, b4⟩ := scn_sp (P := fun j => !P j) (en - fs) fs
  rw [← h1] at a1 b1 b2
  rw [← h2] at a2 b3 b4
  have c1 : ∀ z, fs ≤ z → z < fe → P z = true := fun z x y => by
    have := b3 z x y
    simpa using this
  have c2 : fe = fs → fs = en := fun q => by
    by_cases y : fs = en
    · exact y
    · have y1 := b2 (by omega)
      have y2 := b4 (by omega)
      rw [q] at y2
      simp [y1] at y2
  refine ⟨by omega, by omega, by omega, c2, b1, c1, fun z x y => ?_⟩
  by_cases q : fe = fs
  · have := c2 q
    omega
  · have p1 := c1 fs (Nat.le_refl _) (by omega)
    have p2 : P fe = false := by
      have := b4 (by omega)
      simpa using this
    by_cases e : z = fe
    · rw [e]; exact p2
    · cases w : P z
      · rfl
      · have := hcv fs fe z (by omega) (by omega) (by omega) y p1 w
        rw [p2] at this
        exact absurd this Bool.false_ne_true
section FRM
variable {P : Nat → Bool} {u : Nat → Int64} {st en fs fe : Nat}
theorem g_cnt (h1 : st ≤ fs) (h2 : fs ≤ fe) (hA : ∀ z, st ≤ z → z < fs → P z = false) (hB : ∀ z, fs ≤ z → z < fe → P z = true) (hC : ∀ z, fe ≤ z → z < en → P z = false) : ∀ d, st + d ≤ en → gCnt P u st d = cntF u fs (min (st + d) fe - fs) := by
  intro d
  induction d with
  | zero => intro _; rw [show min (st + 0) fe - fs = 0 by omega]; rfl
  | succ d ih =>
    intro hd
    have ih := ih (by omega)
    simp only [gCnt]
    by_cases q1 : st + d < fs
    · rw [if_neg (by rw [hA _ (by omega) q1]; exact fun y => Bool.false_ne_true y.1), ih]
      rw [show min (st + (d + 1)) fe - fs = min (st + d) fe - fs by omega]
    · by_cases q2 : st + d < fe
      · rw [show min (st + (d + 1)) fe - fs = (st + d - fs) + 1 by omega]
        rw [show min (st + d) fe - fs = st + d - fs by omega] at ih
        simp only [cntF]
        rw [show fs + (st + d - fs) = st + d by omega, ← ih]
        by_cases y : u (st + d) = -1099511627776
        · rw [if_neg (fun z => z.2 y), if_pos y]
        · rw [if_pos ⟨hB _ (by omega) q2, y⟩, if_neg y]
      · rw [if_neg (by rw [hC _ (by omega) (by omega)]; exact fun y => Bool.false_ne_true y.1), ih]
        rw [show min (st + (d + 1)) fe - fs = min (st + d) fe - fs by omega]
theorem g_sum (h1 : st ≤ fs) (h2 : fs ≤ fe) (hA : ∀ z, st ≤ z → z < fs → P z = false) (hB : ∀ z, fs ≤ z → z < fe → P z = true) (hC : ∀ z, fe ≤ z → z < en → P z = false) : ∀ d, st + d ≤ en → gSum P u st d = (sumF u fs (min (st + d) fe - fs)).1 := by
  intro d
  induction d with
  | zero => intro _; rw [show min (st + 0) fe - fs = 0 by omega]; rfl
  | succ d ih =>
    intro hd
    have ih := ih (by omega)
    simp only [gSum]
    by_cases q1 : st + d < fs
    · rw [if_neg (by rw [hA _ (by omega) q1]; exact fun y => Bool.false_ne_true y.1), ih]
      rw [show min (st + (d + 1)) fe - fs = min (st + d) fe - fs by omega]
    · by_cases q2 : st + d < fe
      · rw [show min (st + (d + 1)) fe - fs = (st + d - fs) + 1 by omega]
        rw [show min (st + d) fe - fs = st + d - fs by omega] at ih
        simp only [sumF]
        rw [show fs + (st + d - fs) = st + d by omega]
        by_cases y : u (st + d) = -1099511627776
        · rw [if_neg (fun z => z.2 y), if_pos y, ih]
        · rw [if_pos ⟨hB _ (by omega) q2, y⟩, if_neg y, ih]
      · rw [if_neg (by rw [hC _ (by omega) (by omega)]; exact fun y => Bool.false_ne_true y.1), ih]
        rw [show min (st + (d + 1)) fe - fs = min (st + d) fe - fs by omega]
theorem sum_cnt {a : Nat} : ∀ d, (sumF u a d).2 = decide (0 < cntF u a d) := by
  intro d
  induction d with
  | zero => rfl
  | succ d ih =>
    by_cases y : u (a + d) = -1099511627776
    · rw [show sumF u a (d + 1) = sumF u a d from if_pos y, show cntF u a (d + 1) = cntF u a d from if_pos y, ih]
    · rw [show sumF u a (d + 1) = ((sumF u a d).1 + u (a + d), true) from if_neg y, show cntF u a (d + 1) = cntF u a d + 1 from if_neg y]
      exact (decide_eq_true (by omega)).symm
theorem g_min (h1 : st ≤ fs) (h2 : fs ≤ fe) (hA : ∀ z, st ≤ z → z < fs → P z = false) (hB : ∀ z, fs ≤ z → z < fe → P z = true) (hC : ∀ z, fe ≤ z → z < en → P z = false) : ∀ d, st + d ≤ en → gMin P u st d = lstF u fs (min (st + d) fe - fs) := by
  intro d
  induction d with
  | zero => intro _; rw [show min (st + 0) fe - fs = 0 by omega]; rfl
  | succ d ih =>
    intro hd
    have ih := ih (by omega)
    simp only [gMin]
    by_cases q1 : st + d < fs
    · rw [if_neg (by rw [hA _ (by omega) q1]; exact fun y => Bool.false_ne_true y.1), ih]
      rw [show min (st + (d + 1)) fe - fs = min (st + d) fe - fs by omega]
    · by_cases q2 : st + d < fe
      · rw [show min (st + (d + 1)) fe - fs = (st + d - fs) + 1 by omega]
        rw [show min (st + d) fe - fs = st + d - fs by omega] at ih
        simp only [lstF]
        rw [show fs + (st + d - fs) = st + d by omega, ← ih]
        have hb := hB (st + d) (by omega) q2
        by_cases y : u (st + d) ≠ -1099511627776 ∧ (gMin P u st d = -1099511627776 ∨ u (st + d) < gMin P u st d)
        · rw [if_pos ⟨hb, y⟩, if_pos y]
        · rw [if_neg (fun z => y z.2), if_neg y]
      · rw [if_neg (by rw [hC _ (by omega) (by omega)]; exact fun y => Bool.false_ne_true y.1), ih]
        rw [show min (st + (d + 1)) fe - fs = min (st + d) fe - fs by omega]
theorem grt_ge {a : Nat} : ∀ d, (∀ z, a ≤ z → z < a + d → cellI (u z)) → -1099511627776 ≤ (grtF u a d).toInt := by
  intro d
  induction d with
  | zero => intro _; show -1099511627776 ≤ (-1099511627776 : Int64).toInt; rw [nul_i]; omega
  | succ d ih =>
    intro h
    simp only [grtF]
    by_cases q : u (a + d) < grtF u a d
    · rw [if_pos q]; exact ih (fun z x y => h z x (by omega))
    · rw [if_neg q]
      rcases h (a + d) (by omega) (by omega) with y | y
      · rw [y, nul_i]; omega
      · omega
theorem g_max (hu : ∀ z, st ≤ z → z < en → cellI (u z)) (h1 : st ≤ fs) (h2 : fs ≤ fe) (hA : ∀ z, st ≤ z → z < fs → P z = false) (hB : ∀ z, fs ≤ z → z < fe → P z = true) (hC : ∀ z, fe ≤ z → z < en → P z = false) : ∀ d, st + d ≤ en → gMax P u st d = grtF u fs (min (st + d) fe - fs) := by
  intro d
  induction d with
  | zero => intro _; rw [show min (st + 0) fe - fs = 0 by omega]; rfl
  | succ d ih =>
    intro hd
    have ih := ih (by omega)
    simp only [gMax]
    by_cases q1 : st + d < fs
    · rw [if_neg (by rw [hA _ (by omega) q1]; exact fun y => Bool.false_ne_true y.1), ih]
      rw [show min (st + (d + 1)) fe - fs = min (st + d) fe - fs by omega]
    · by_cases q2 : st + d < fe
      · rw [show min (st + (d + 1)) fe - fs = (st + d - fs) + 1 by omega]
        rw [show min (st + d) fe - fs = st + d - fs by omega] at ih
        simp only [grtF]
        rw [show fs + (st + d - fs) = st + d by omega, ← ih]
        have hb := hB (st + d) (by omega) q2
        have hg := grt_ge (u := u) (a := fs) (st + d - fs) (fun z x y => hu z (by omega) (by omega))
        rw [← ih] at hg
        rcases hu (st + d) (by omega) (by omega) with y | y
        · rw [if_neg (fun z => z.2.1 y)]
          by_cases w : u (st + d) < gMax P u st d
          · rw [if_pos w]
          · rw [if_neg w]
            rw [Int64.lt_iff_toInt_lt] at w
            have y' := congrArg Int64.toInt y
            rw [nul_i] at y'
            refine Int64.toInt_inj.mp ?_
            omega
        · have yn : u (st + d) ≠ -1099511627776 := fun z => by
            have z' := congrArg Int64.toInt z
            rw [nul_i] at z'
            omega
          by_cases w : u (st + d) < gMax P u st d
          · rw [if_pos w, if_neg]
            intro z
            rw [Int64.lt_iff_toInt_lt] at w
            rcases z.2.2 with z | z
            · have z' := congrArg Int64.toInt z
              rw [nul_i] at z'
              omega
            · rw [Int64.lt_iff_toInt_lt] at z
              omega
          · rw [if_neg w]
            by_cases v : gMax P u st d = -1099511627776 ∨ gMax P u st d < u (st + d)
            · rw [if_pos ⟨hb, yn, v⟩]
            · rw [if_neg (fun z => v z.2.2)]
              have v2 : ¬ gMax P u st d < u (st + d) := fun z => v (Or.inr z)
              rw [Int64.lt_iff_toInt_lt] at w v2
              exact Int64.toInt_inj.mp (by omega)
      · rw [if_neg (by rw [hC _ (by omega) (by omega)]; exact fun y => Bool.false_ne_true y.1), ih]
        rw [show min (st + (d + 1)) fe - fs = min (st + d) fe - fs by omega]
theorem g_fst (h1 : st ≤ fs) (h2 : fs ≤ fe) (hA : ∀ z, st ≤ z → z < fs → P z = false) (hB : ∀ z, fs ≤ z → z < fe → P z = true) (hC : ∀ z, fe ≤ z → z < en → P z = false) : ∀ d, st + d ≤ en → gFst P st d = if fs < min (st + d) fe then some fs else none := by
  intro d
  induction d with
  | zero => intro _; rw [if_neg (by omega)]; rfl
  | succ d ih =>
    intro hd
    have ih := ih (by omega)
    have st1 : ∀ o, gFst P st d = o → gFst P st (d + 1) = match (motive := Option Nat → Option Nat) o with
      | some x => some x
      | none => if P (st + d) = true then some (st + d) else none := fun o h => by rw [← h]; rfl
    by_cases q1 : st + d < fs
    · rw [st1 none (ih.trans (if_neg (by omega)))]
      show (if P (st + d) = true then some (st + d) else none) = _
      rw [if_neg (by rw [hA _ (by omega) q1]; exact Bool.false_ne_true)]
      exact (if_neg (by omega)).symm
    · by_cases q2 : st + d < fe
      · by_cases q3 : st + d = fs
        · rw [st1 none (ih.trans (if_neg (by omega)))]
          show (if P (st + d) = true then some (st + d) else none) = _
          rw [if_pos (hB _ (by omega) q2), q3]
          exact (if_pos (by omega)).symm
        · rw [st1 (some fs) (ih.trans (if_pos (by omega)))]
          exact (if_pos (by omega)).symm
      · by_cases q3 : fs < fe
        · rw [st1 (some fs) (ih.trans (if_pos (by omega)))]
          exact (if_pos (by omega)).symm
        · rw [st1 none (ih.trans (if_neg (by omega)))]
          show (if P (st + d) = true then some (st + d) else none) = _
          rw [if_neg (by rw [hC _ (by omega) (by omega)]; exact Bool.false_ne_true)]
          exact (if_neg (by omega)).symm
theorem g_las (h1 : st ≤ fs) (_h2 : fs ≤ fe) (hA : ∀ z, st ≤ z → z < fs → P z = false) (hB : ∀ z, fs ≤ z → z < fe → P z = true) (hC : ∀ z, fe ≤ z → z < en → P z = false) : ∀ d, st + d ≤ en → gLas P st d = if fs < min (st + d) fe then some (min (st + d) fe - 1) else none := by
  intro d
  induction d with
  | zero => intro _; rw [if_neg (by omega)]; rfl
  | succ d ih =>
    intro hd
    have ih := ih (by omega)
    simp only [gLas]
    by_cases q1 : st + d < fs
    · rw [if_neg (by rw [hA _ (by omega) q1]; exact Bool.false_ne_true), ih, if_neg (by omega), if_neg (by omega)]
    · by_cases q2 : st + d < fe
      · rw [if_pos (hB _ (by omega) q2), if_pos (by omega), show min (st + (d + 1)) fe - 1 = st + d by omega]
      · rw [if_neg (by rw [hC _ (by omega) (by omega)]; exact Bool.false_ne_true), ih, show min (st + (d + 1)) fe = min (st + d) fe by omega]
end FRM
theorem argO_n {u : Nat → Int64} {st en : Nat} : argO u none st en = -1099511627776 := rfl
theorem argO_s {u : Nat → Int64} {j st en : Nat} : argO u (some j) st en = argN u j st en := rfl
theorem argN_in {u : Nat → Int64} {j st en : Nat} (h : st ≤ j ∧ j < en) : argN u j st en = u j := if_pos h
theorem argN_out {u : Nat → Int64} {j st en : Nat} (h : ¬ (st ≤ j ∧ j < en)) : argN u j st en = -1099511627776 := if_neg h
/-- in order, the class's value of a row is the reference's -/
theorem val_eq {o : Option (Nat → Int64)} {u : Nat → Int64} {wf wn : Nat} {wd wg : Bool} {wl wh : Int32} {st en i : Nat} (hm : mono o wd st en) (hc : ∀ u, o = some u → ∀ z, st ≤ z → z < en → cellI (u z)) (hu : ∀ z, st ≤ z → z < en → cellI (u z)) (h1 : st ≤ i) (h2 : i < en) (h3 : en < 1000) (hwf : wf < 12) : wVal o u wf wn wd wg wl wh st en i = mVal o u wf wn wd wg wl wh st en i := by
  have hcv := inF_cv (wg := wg) (wl := wl) (wh := wh) hm hc h1 h2 h3
  unfold wVal
  generalize hfs : scn (inF o wd wg wl wh i) (en - st) st = fs
  generalize hfe : scn (fun j => !inF o wd wg wl wh i j) (en - fs) fs = fe
  obtain ⟨b1, b2, b3, b4, b5, b6, b7⟩ := fr_sp (by omega) hcv hfs.symm hfe.symm
  have hmin : min (st + (en - st)) fe = fe := by omega
  have e1 := g_cnt (u := u) b1 b2 b5 b6 b7 (en - st) (by omega)
  have e2 := g_sum (u := u) b1 b2 b5 b6 b7 (en - st) (by omega)
  have e3 := g_min (u := u) b1 b2 b5 b6 b7 (en - st) (by omega)
  have e4 := g_max (u := u) hu b1 b2 b5 b6 b7 (en - st) (by omega)
  have e5 := g_fst b1 b2 b5 b6 b7 (en - st) (by omega)
  have e6 := g_las b1 b2 b5 b6 b7 (en - st) (by omega)
  rw [hmin] at e1 e2 e3 e4 e5 e6
  rcases (show wf = 0 ∨ wf = 1 ∨ wf = 2 ∨ wf = 3 ∨ wf = 4 ∨ wf = 5 ∨ wf = 6 ∨ wf = 7 ∨ wf = 8 ∨ wf = 9 ∨ wf = 10 ∨ wf = 11 by omega) with rfl | rfl | rfl | rfl | rfl | rfl | rfl | rfl | rfl | rfl | rfl | rfl
  · rfl
  · show (nI (fpF o st (i - st) - st + 1)).toInt64 = (nI (rkC (pEq o) true st i (i - st) + 1)).toInt64
    rw [rk_all hm h1 h2]
  · show (nI (pgF o st (i - st))).toInt64 = (nI (rkC (pEq o) false st i (i - st) + 1)).toInt64
    rw [rk_fre hm h1 h2]
  · show (nI (tileN (i - st) (en - st) wn)).toInt64 = (nI (tileN (i - st) (en - st) wn)).toInt64
    rfl
  · show (if wn ≤ i then argN u (i - wn) st en else -1099511627776) = (if wn ≤ i then argN u (i - wn) st en else -1099511627776)
    rfl
  · show argN u (i + wn) st en = argN u (i + wn) st en
    rfl
  · show argN u fs fs fe = argO u (gFst (inF o wd wg wl wh i) st (en - st)) st en
    by_cases q : fs < fe
    · rw [e5.trans (if_pos q), argO_s, argN_in ⟨Nat.le_refl _, q⟩, argN_in ⟨b1, by omega⟩]
    · rw [e5.trans (if_neg q), argO_n, argN_out (fun y => q y.2)]
  · show (if 1 ≤ fe then argN u (fe - 1) fs fe else -1099511627776) = argO u (gLas (inF o wd wg wl wh i) st (en - st)) st en
    by_cases q : fs < fe
    · rw [e6.trans (if_pos q), if_pos (by omega), argO_s, argN_in ⟨by omega, by omega⟩, argN_in ⟨by omega, by omega⟩]
    · rw [e6.trans (if_neg q), argO_n]
      by_cases y : 1 ≤ fe
      · rw [if_pos y, argN_out (fun z => by omega)]
      · rw [if_neg y]
  · show (if (sumF u fs (fe - fs)).2 = true then (sumF u fs (fe - fs)).1 else -1099511627776) = if 0 < gCnt (inF o wd wg wl wh i) u st (en - st) then gSum (inF o wd wg wl wh i) u st (en - st) else -1099511627776
    rw [sum_cnt, e1, e2]
    by_cases q : 0 < cntF u fs (fe - fs)
    · rw [if_pos q, if_pos (decide_eq_true q)]
    · rw [if_neg q, if_neg (fun y => q (of_decide_eq_true y))]
  · show (nI (cntF u fs (fe - fs))).toInt64 = (nI (gCnt (inF o wd wg wl wh i) u st (en - st))).toInt64
    rw [e1]
  · exact e3.symm
  · exact e4.symm
/-! the reference: one window over the whole list -/
theorem mCol_up {hl_ : Nat → Bool} {vl : Nat → Int32} {p0 c0 p c : Nat} {b : Bool} {v : Int32} (hc0 : c0 < 9) (hc : c < 9) : mCol (va_up hl_ (9 * p0 + c0) b) (upd vl (9 * p0 + c0) v) c p = if p = p0 ∧ c = c0 then enc b v else mCol hl_ vl c p := by
  unfold mCol va_up upd
  by_cases h : p = p0 ∧ c = c0
  · rw [if_pos h, if_pos (by omega), if_pos (by omega)]
  · rw [if_neg h, if_neg (by omega), if_neg (by omega)]
/-- the column col is worked out for the places below st, the rest is as it was -/
def WmI (hl_ : Nat → Bool) (vl : Nat → Int32) (hl1 : Nat → Bool) (vl1 : Nat → Int32) (l : Nat → Nat) (col : Nat) (V : Nat → Int64) (st : Nat) : Prop := (∀ i, i < st → mCol hl1 vl1 col (l i) = V i) ∧ ∀ p c, c < 9 → c ≠ col → mCol hl1 vl1 c p = mCol hl_ vl c p
theorem wm_0 {hl_ : Nat → Bool} {vl : Nat → Int32} {l : Nat → Nat} {col : Nat} {V : Nat → Int64} : WmI hl_ vl hl_ vl l col V 0 := by
  unfold WmI
  exact ⟨fun i h => absurd h (Nat.not_lt_zero i), fun p c _ _ => Eq.refl (mCol hl_ vl c p)⟩
theorem wm_u1 {hl_ hl1 : Nat → Bool} {vl vl1 : Nat → Int32} {l : Nat → Nat} {col st : Nat} {V : Nat → Int64} (h : WmI hl_ vl hl1 vl1 l col V st) : ∀ p c, c < 9 → c ≠ col → mCol hl1 vl1 c p = mCol hl_ vl c p := h.2
theorem wm_u2 {hl_ hl1 : Nat → Bool} {vl vl1 : Nat → Int32} {l : Nat → Nat} {col st c : Nat} {V : Nat → Int64} (h : WmI hl_ vl hl1 vl1 l col V st) (z : Nat) (h1 : c < 9) (h2 : c ≠ col) :  mCol hl1 vl1 c (l z) = mCol hl_ vl c (l z) := wm_u1 h (l z) c h1 h2
theorem wm_u {hl_ hl1 : Nat → Bool} {vl vl1 : Nat → Int32} {l : Nat → Nat} {col st c : Nat} {V : Nat → Int64} (h : WmI hl_ vl hl1 vl1 l col V st) (h1 : c < 9) (h2 : c ≠ col) : (fun z => mCol hl1 vl1 c (l z)) = fun z => mCol hl_ vl c (l z) := funext fun z => wm_u2 h z h1 h2
theorem mOl_s {hl_ : Nat → Bool} {vl : Nat → Int32} {l : Nat → Nat} {q : Nat} : mOl hl_ vl l (some q) = some (fun z => mCol hl_ vl q (l z)) := rfl
theorem mOl_n {hl_ : Nat → Bool} {vl : Nat → Int32} {l : Nat → Nat} : mOl hl_ vl l none = none := rfl
theorem wm_o {hl_ hl1 : Nat → Bool} {vl vl1 : Nat → Int32} {l : Nat → Nat} {col st : Nat} {V : Nat → Int64} {oo : Option Nat} (h : WmI hl_ vl hl1 vl1 l col V st) (ho : ∀ q, oo = some q → q < 6) (hc : 6 ≤ col) : mOl hl1 vl1 l oo = mOl hl_ vl l oo := by
  cases oo with
  | none => rw [mOl_n, mOl_n]
  | some q =>
    have := ho q rfl
    rw [mOl_s, mOl_s, wm_u h (by omega) (by omega)]
theorem wm_put {hl_ hl1 : Nat → Bool} {vl vl1 : Nat → Int32} {l : Nat → Nat} {col st n : Nat} {V : Nat → Int64} {b : Bool} {v : Int32} (h : WmI hl_ vl hl1 vl1 l col V st) (hc : col < 9) (hs : st < n) (hi : ∀ a b, a < n → b < n → l a = l b → a = b) (he : enc b v = V st) : WmI hl_ vl (va_up hl1 (9 * l st + col) b) (upd vl1 (9 * l st + col) v) l col V (st + 1) := by
  refine ⟨fun i hi2 => ?_, fun p c h1 h2 => ?_⟩
  · rw [mCol_up hc hc]
    by_cases q : i = st
    · rw [q, if_pos ⟨rfl, rfl⟩]; exact he
    · rw [if_neg (fun y => q (hi i st (by omega) hs y.1))]
      exact h.1 i (by omega)
  · rw [mCol_up hc h1, if_neg (fun y => h2 y.2)]
    exact wm_u1 h p c h1 h2
/-- a row's value by its own partition; is a partition's result in range -/
def pVaM (p o : Option (Nat → Int64)) (u : Nat → Int64) (wf wn : Nat) (wd wg : Bool) (wl wh : Int32) (n i : Nat) : Int64 := mVal o u wf wn wd wg wl wh (pSt p i) (pEnd p n (pSt p i)) i
def pOkM (p o : Option (Nat → Int64)) (u : Nat → Int64) (wf wn : Nat) (wd wg : Bool) (wl wh : Int32) (n st : Nat) : Bool := (List.range (pEnd p n st - st)).all (fun d => okB (mVal o u wf wn wd wg wl wh st (pEnd p n st) (st + d)))
section WIN
variable {n cap a1 b1 d0 lg : Nat} {p o : Option (Nat → Int64)} {u : Nat → Int64} {wf wn : Nat} {wd wg : Bool} {wl wh : Int32} {RUN : Nat × Nat}
theorem ws_room (h1 : a1 < b1) (h2 : b1 ≤ n) (hpt : ∀ j, a1 < j → j < b1 → pEq p a1 j = true) (hend : b1 < n → pEq p a1 b1 = false) (hd : n < d0 + a1 ∨ n = 0) (hr : wRun n cap (pEnd p n) (pOkM p o u wf wn wd wg wl wh n) d0 a1 lg = RUN) (hq : cap < b1 - a1) : RUN.1 = 1 := by
  obtain ⟨d1, rfl⟩ : ∃ d1, d0 = d1 + 1 := ⟨d0 - 1, by omega⟩
  rw [← hr]
  simp only [wRun]
  rw [if_neg (by omega), pEnd_eq h1 h2 hpt hend, if_pos hq]
theorem ws_ov (h1 : a1 < b1) (h2 : b1 ≤ n) (hpt : ∀ j, a1 < j → j < b1 → pEq p a1 j = true) (hend : b1 < n → pEq p a1 b1 = false) (hd : n < d0 + a1 ∨ n = 0) (hr : wRun n cap (pEnd p n) (pOkM p o u wf wn wd wg wl wh n) d0 a1 lg = RUN) (hq : b1 - a1 ≤ cap) {q1 : Nat} (hq1 : a1 ≤ q1) (hq2 : q1 < b1) (hx : okB (mVal o u wf wn wd wg wl wh a1 b1 q1) = false) : RUN.1 = 2 := by
  obtain ⟨d1, rfl⟩ : ∃ d1, d0 = d1 + 1 := ⟨d0 - 1, by omega⟩
  have he := pEnd_eq h1 h2 hpt hend
  have hok : pOkM p o u wf wn wd wg wl wh n a1 = false := by
    unfold pOkM
    rw [he]
    refine pk_false (q1 - a1) (by omega) ?_
    rw [show a1 + (q1 - a1) = q1 by omega]
    exact hx
  rw [← hr]
  simp only [wRun]
  rw [if_neg (by omega), he, if_neg (by omega), if_pos hok]
theorem ws_on (h1 : a1 < b1) (h2 : b1 ≤ n) (hpt : ∀ j, a1 < j → j < b1 → pEq p a1 j = true) (hend : b1 < n → pEq p a1 b1 = false) (hd : n < d0 + a1 ∨ n = 0) (hr : wRun n cap (pEnd p n) (pOkM p o u wf wn wd wg wl wh n) d0 a1 lg = RUN) (hq : b1 - a1 ≤ cap) (hx : ∀ q1, a1 ≤ q1 → q1 < b1 → okB (mVal o u wf wn wd wg wl wh a1 b1 q1) = true) : ∃ d1, wRun n cap (pEnd p n) (pOkM p o u wf wn wd wg wl wh n) d1 b1 (max lg (b1 - a1)) = RUN ∧ (n < d1 + b1 ∨ n = 0) := by
  obtain ⟨d1, rfl⟩ : ∃ d1, d0 = d1 + 1 := ⟨d0 - 1, by omega⟩
  have he := pEnd_eq h1 h2 hpt hend
  have hok : pOkM p o u wf wn wd wg wl wh n a1 = true := by
    unfold pOkM
    rw [he]
    exact pk_true (fun d hd => hx (a1 + d) (by omega) (by omega))
  refine ⟨d1, ?_, by omega⟩
  rw [← hr]
  simp only [wRun]
  rw [if_neg (by omega), he, if_neg (by omega), if_neg (by rw [hok]; exact fun q => Bool.false_ne_true q.symm)]
theorem ws_val (h0 : pSt p a1 = a1) (h1 : a1 < b1) (h2 : b1 ≤ n) (hpt : ∀ j, a1 < j → j < b1 → pEq p a1 j = true) (hend : b1 < n → pEq p a1 b1 = false) {q1 : Nat} (hq1 : a1 ≤ q1) (hq2 : q1 < b1) : pVaM p o u wf wn wd wg wl wh n q1 = mVal o u wf wn wd wg wl wh a1 b1 q1 := by
  unfold pVaM
  rw [pSt_s h0 hpt q1 hq1 hq2, pEnd_eq h1 h2 hpt hend]
end WIN
def mFin (fr nn F20 tr ms : Nat) : Nat × Nat := if nn = 0 then (tr, ms) else sLoop (fr - 1) (bk nn) F20 ((bk nn + fr - 1) / fr) (tr + 2 * (bk nn)) (max ms (min fr (bk nn)))
/-- the list is brought in order for a window, or for the end -/
def mBr (lt : (Nat → Nat) → (Nat → Bool) → Nat → Nat → Nat → Bool) (fr nn F20 : Nat) (kq : Option Nat) (kf : Nat → Nat) (kg : Nat → Bool) (po oo : Option Nat) (wd : Bool) (li : Nat → Nat) (tr ms sm : Nat) (l1 : Nat → Nat) (kn1 : Nat) (kf1 : Nat → Nat) (kg1 : Nat → Bool) (t1 m1 s1 : Nat) : Prop :=
  (∃ kn, kq = some kn ∧ mOrdB kn kf kg po oo wd = true ∧ kn1 = kn ∧ kf1 = kf ∧ kg1 = kg ∧ l1 = li ∧ t1 = tr ∧ m1 = ms ∧ s1 = sm) ∨
  ((∀ kn, kq = some kn → mOrdB kn kf kg po oo wd = false) ∧ kn1 = kN po oo ∧ kf1 = kF kf po oo ∧ kg1 = kG kg wd po oo ∧ (sg l1 0 nn).Perm (sg li 0 nn) ∧ (sg l1 0 nn).Pairwise (leOf (lt kf1 kg1 kn1)) ∧ (∀ z, nn ≤ z → l1 z = li z) ∧ (t1, m1) = mFin fr nn F20 tr ms ∧ s1 = sm + 1)
/-- what a window does -/
def mWin (fr nn F20 : Nat) (fi : Nat → Nat) (se : Nat → Int32) (po oo : Option Nat) (wd wg : Bool) (wl wh : Int32) (wf wa wn col : Nat) (hl_ : Nat → Bool) (vl : Nat → Int32) (kq : Option Nat) (kf : Nat → Nat) (kg : Nat → Bool) (li : Nat → Nat) (tr ms sm : Nat) (l1 : Nat → Nat) (kn1 : Nat) (kf1 : Nat → Nat) (kg1 : Nat → Bool) (t2 m2 s1 : Nat) (er : Int32) (hl1 : Nat → Bool) (vl1 : Nat → Int32) : Prop :=
  ∃ t1 m1, mBr (fun kf kg kn => mLt hl_ vl fi se kf kg kn 0) fr nn F20 kq kf kg po oo wd li tr ms sm l1 kn1 kf1 kg1 t1 m1 s1 ∧
  ∃ RUN : Nat × Nat, wRun nn (4 * (fr - 2)) (pEnd (mOl hl_ vl l1 po) nn) (pOkM (mOl hl_ vl l1 po) (mOl hl_ vl l1 oo) (fun z => mCol hl_ vl wa (l1 z)) wf wn wd wg wl wh nn) (nn + 1) 0 0 = RUN ∧
  ((er = nI 0 ∧ RUN.1 = 0 ∧ WmI hl_ vl hl1 vl1 l1 col (pVaM (mOl hl_ vl l1 po) (mOl hl_ vl l1 oo) (fun z => mCol hl_ vl wa (l1 z)) wf wn wd wg wl wh nn) nn ∧ t2 = t1 + 2 * bk nn ∧ m2 = max m1 (if RUN.2 = 0 then 0 else 2 + bk RUN.2)) ∨ (er = -2 ∧ RUN.1 = 1) ∨ (er = -3 ∧ RUN.1 = 2))
theorem kF_lt {kf : Nat → Nat} {po oo : Option Nat} {t : Nat} (hp : ∀ q, po = some q → q < 9) (ho : ∀ q, oo = some q → q < 9) (h : t < kN po oo) : kF kf po oo t < 9 := by
  cases po with
  | none =>
    cases oo with
    | none => exact absurd h (Nat.not_lt_zero t)
    | some b =>
      obtain rfl : t = 0 := by
        have : t < 1 := h
        omega
      show va_up kf 0 b 0 < 9
      rw [va_up_self]; exact ho b rfl
  | some a =>
    cases oo with
    | none =>
      obtain rfl : t = 0 := by
        have : t < 1 := h
        omega
      show va_up kf 0 a 0 < 9
      rw [va_up_self]; exact hp a rfl
    | some b =>
      have h2 : t < 2 := h
      show va_up (va_up kf 0 a) 1 b t < 9
      by_cases e : t = 1
      · rw [e, va_up_self]; exact ho b rfl
      · obtain rfl : t = 0 := by omega
        rw [va_up_ne _ _ (by omega), va_up_self]; exact hp a rfl
theorem kN_le {po oo : Option Nat} : kN po oo ≤ 2 := by cases po <;> cases oo <;> simp [kN]
theorem sg_pw {R : Nat → Nat → Prop} {l : Nat → Nat} {n : Nat} : (sg l 0 n).Pairwise R ↔ ∀ a b, a < b → b < n → R (l a) (l b) := by
  unfold sg
  rw [List.pairwise_map, List.pairwise_iff_getElem]
  constructor
  · intro h a b hab hb
    have := h a b (by simp; omega) (by simp; omega) hab
    simpa using this
  · intro h a b ha hb hab
    have := h a b hab (by simp at hb; omega)
    simpa using this
theorem sg_inj {l l1 : Nat → Nat} {n : Nat} (hp : (sg l1 0 n).Perm (sg l 0 n)) (hi : ∀ a b, a < n → b < n → l a = l b → a = b) : ∀ a b, a < n → b < n → l1 a = l1 b → a = b := by
  have hn : (sg l 0 n).Nodup := sg_pw.mpr (fun a b hab hb e => by have := hi a b (by omega) hb e; omega)
  have hn1 := sg_pw.mp (hp.nodup_iff.mpr hn)
  intro a b ha hb e
  rcases Nat.lt_trichotomy a b with y | y | y
  · exact absurd e (hn1 a b y hb)
  · exact y
  · exact absurd e.symm (hn1 b a y ha)
section INN
variable (n cap : Nat) (p o : Option (Nat → Int64)) (u : Nat → Int64) (wf wn : Nat) (wd wg : Bool) (wl wh : Int32) (RUN : Nat × Nat) (hl_ : Nat → Bool) (vl : Nat → Int32) (l : Nat → Nat) (col : Nat)
/-- between two partitions; within one -/
def mOut (a1 lg : Nat) (er : Int32) (hl1 : Nat → Bool) (vl1 : Nat → Int32) : Prop := (er = nI 0 ∧ (∃ d0, wRun n cap (pEnd p n) (pOkM p o u wf wn wd wg wl wh n) d0 a1 lg = RUN ∧ (n < d0 + a1 ∨ n = 0)) ∧ (a1 < n → pSt p a1 = a1) ∧ WmI hl_ vl hl1 vl1 l col (pVaM p o u wf wn wd wg wl wh n) a1) ∨ (er = -2 ∧ RUN.1 = 1) ∨ (er = -3 ∧ RUN.1 = 2)
def mInn (a1 b1 q1 : Nat) (er : Int32) (hl1 : Nat → Bool) (vl1 : Nat → Int32) : Prop := (er = nI 0 ∧ b1 - a1 ≤ cap ∧ WmI hl_ vl hl1 vl1 l col (pVaM p o u wf wn wd wg wl wh n) q1 ∧ ∀ e, a1 ≤ e → e < q1 → okB (mVal o u wf wn wd wg wl wh a1 b1 e) = true) ∨ (er = -2 ∧ RUN.1 = 1) ∨ (er = -3 ∧ RUN.1 = 2)
end INN
section INN2
variable {n cap : Nat} {p o : Option (Nat → Int64)} {u : Nat → Int64} {wf wn : Nat} {wd wg : Bool} {wl wh : Int32} {RUN : Nat × Nat} {hl_ hl1 : Nat → Bool} {vl vl1 : Nat → Int32} {l : Nat → Nat} {col a1 b1 lg q1 : Nat} {er : Int32}
theorem m23 : ¬ ((nI 0 : Int32) = -2) ∧ ¬ ((nI 0 : Int32) = -3) := by decide
theorem mo_0 (h : RUN = wRun n cap (pEnd p n) (pOkM p o u wf wn wd wg wl wh n) (n + 1) 0 0) : mOut n cap p o u wf wn wd wg wl wh RUN hl_ vl l col 0 0 (nI 0) hl_ vl := Or.inl ⟨rfl, ⟨n + 1, h.symm, Or.inl (Nat.lt_succ_self n)⟩, fun _ => rfl, wm_0⟩
theorem mo_e (h : mOut n cap p o u wf wn wd wg wl wh RUN hl_ vl l col a1 lg (nI 0) hl1 vl1) : (∃ d0, wRun n cap (pEnd p n) (pOkM p o u wf wn wd wg wl wh n) d0 a1 lg = RUN ∧ (n < d0 + a1 ∨ n = 0)) ∧ (a1 < n → pSt p a1 = a1) ∧ WmI hl_ vl hl1 vl1 l col (pVaM p o u wf wn wd wg wl wh n) a1 := by
  rcases h with h | h | h
  · exact h.2
  · exact absurd h.1 m23.1
  · exact absurd h.1 m23.2
theorem mi_e (h : mInn n cap p o u wf wn wd wg wl wh RUN hl_ vl l col a1 b1 q1 (nI 0) hl1 vl1) : b1 - a1 ≤ cap ∧ WmI hl_ vl hl1 vl1 l col (pVaM p o u wf wn wd wg wl wh n) q1 ∧ ∀ e, a1 ≤ e → e < q1 → okB (mVal o u wf wn wd wg wl wh a1 b1 e) = true := by
  rcases h with h | h | h
  · exact h.2
  · exact absurd h.1 m23.1
  · exact absurd h.1 m23.2
theorem mi_0 (h : mOut n cap p o u wf wn wd wg wl wh RUN hl_ vl l col a1 lg (nI 0) hl1 vl1) (hq : b1 - a1 ≤ cap) : mInn n cap p o u wf wn wd wg wl wh RUN hl_ vl l col a1 b1 a1 (nI 0) hl1 vl1 := Or.inl ⟨rfl, hq, (mo_e h).2.2, fun e h1 h2 => absurd h2 (by omega)⟩
theorem mi_r (h : mOut n cap p o u wf wn wd wg wl wh RUN hl_ vl l col a1 lg (nI 0) hl1 vl1) (h1 : a1 < b1) (h2 : b1 ≤ n) (hpt : ∀ j, a1 < j → j < b1 → pEq p a1 j = true) (hend : b1 < n → pEq p a1 b1 = false) (hq : cap < b1 - a1) : mInn n cap p o u wf wn wd wg wl wh RUN hl_ vl l col a1 b1 a1 (-2) hl1 vl1 := by
  obtain ⟨⟨d0, e1, e2⟩, _, _⟩ := mo_e h
  exact Or.inr (Or.inl ⟨rfl, ws_room h1 h2 hpt hend e2 e1 hq⟩)
theorem mi_s {X : Int64} {b : Bool} {v er2 : Int32} {hl_' : Nat → Bool} {vl_' : Nat → Int32} (ho : mOut n cap p o u wf wn wd wg wl wh RUN hl_ vl l col a1 lg (nI 0) hl_' vl_') (h : mInn n cap p o u wf wn wd wg wl wh RUN hl_ vl l col a1 b1 q1 (nI 0) hl1 vl1) (h1 : a1 < b1) (h2 : b1 ≤ n) (hpt : ∀ j, a1 < j → j < b1 → pEq p a1 j = true) (hend : b1 < n → pEq p a1 b1 = false) (hq1 : a1 ≤ q1) (hq2 : q1 < b1) (hc : col < 9) (hi : ∀ a b, a < n → b < n → l a = l b → a = b) (hX : X = mVal o u wf wn wd wg wl wh a1 b1 q1) (hp : er2 = (if okB X = true then nI 0 else -3) ∧ (okB X = true → enc b v = X)) : mInn n cap p o u wf wn wd wg wl wh RUN hl_ vl l col a1 b1 (q1 + 1) er2 (va_up hl1 (9 * l q1 + col) b) (upd vl1 (9 * l q1 + col) v) := by
  obtain ⟨⟨d0, e1, e2⟩, e3, _⟩ := mo_e ho
  obtain ⟨f1, f2, f3⟩ := mi_e h
  cases hx : okB X with
  | true =>
    refine Or.inl ⟨hp.1.trans (if_pos hx), f1, wm_put f2 hc (by omega) hi ?_, fun e h3 h4 => ?_⟩
    · rw [hp.2 hx, hX]; exact (ws_val (e3 (by omega)) h1 h2 hpt hend hq1 hq2).symm
    · by_cases y : e = q1
      · rw [y, ← hX]; exact hx
      · exact f3 e h3 (by omega)
  | false => exact Or.inr (Or.inr ⟨hp.1.trans (if_neg (by rw [hx]; exact Bool.false_ne_true)), ws_ov h1 h2 hpt hend e2 e1 f1 hq1 hq2 (by rw [← hX]; exact hx)⟩)
theorem mi_o {hl0 : Nat → Bool} {vl0 : Nat → Int32} (ho : mOut n cap p o u wf wn wd wg wl wh RUN hl_ vl l col a1 lg (nI 0) hl0 vl0) (h : mInn n cap p o u wf wn wd wg wl wh RUN hl_ vl l col a1 b1 q1 er hl1 vl1) (h1 : a1 < b1) (h2 : b1 ≤ n) (hpt : ∀ j, a1 < j → j < b1 → pEq p a1 j = true) (hend : b1 < n → pEq p a1 b1 = false) (hq : q1 = b1 ∨ er ≠ 0) : mOut n cap p o u wf wn wd wg wl wh RUN hl_ vl l col b1 (max lg (b1 - a1)) er hl1 vl1 := by
  obtain ⟨⟨d0, e1, e2⟩, e3, _⟩ := mo_e ho
  rcases h with h | h | h
  · obtain ⟨f0, f1, f2, f3⟩ := h
    have hq : q1 = b1 := hq.resolve_right (fun y => y (f0.trans rfl))
    subst hq
    exact Or.inl ⟨f0, ws_on h1 h2 hpt hend e2 e1 f1 f3, fun y => pSt_n (e3 (by omega)) h1 hpt (hend y), f2⟩
  · exact Or.inr (Or.inl h)
  · exact Or.inr (Or.inr h)
theorem mo_z (h : mOut n cap p o u wf wn wd wg wl wh RUN hl_ vl l col a1 lg er hl1 vl1) (hq : n ≤ a1 ∨ er ≠ 0) (ha : a1 ≤ n) : (er = nI 0 ∧ RUN = (0, lg) ∧ WmI hl_ vl hl1 vl1 l col (pVaM p o u wf wn wd wg wl wh n) n) ∨ (er = -2 ∧ RUN.1 = 1) ∨ (er = -3 ∧ RUN.1 = 2) := by
  rcases h with h | h | h
  · obtain ⟨f0, ⟨d0, e1, e2⟩, _, f2⟩ := h
    have hq : n ≤ a1 := hq.resolve_right (fun y => y (f0.trans rfl))
    obtain rfl : a1 = n := by omega
    exact Or.inl ⟨f0, by rw [← e1]; exact wr_end hq, f2⟩
  · exact Or.inr (Or.inl h)
  · exact Or.inr (Or.inr h)
end INN2
