/-! the reference's join -/
def mCJ (fr nk jx jy : Nat) (kp : Nat → Nat) (ho gv : Nat → Int32) (sz_ : Nat → Nat) (tr ms : Nat) : Nat × Nat := (if fr - 2 < bk (cntB (fun _ => true) (sz_ 1)) then itr (fun a1 x => mBT fr (bk (cntB (fun z => hBit (ho (24 * 0 + (kp z))) jx && decide (prt (fr - 1) (gv (72 * 0 + 3 * (kp z) + jx)) 0 = a1)) nk)) (bk (cntB (fun z => hBit (ho (24 * 1 + z)) jy && decide (prt (fr - 1) (gv (72 * 1 + 3 * z + jy)) 0 = a1)) (sz_ 1))) (sumN (fun c1 => bk (cntB (fun z => hBit (ho (24 * 0 + (kp z))) jx && (decide (prt (fr - 1) (gv (72 * 0 + 3 * (kp z) + jx)) 0 = a1) && decide (prt (fr - 1) (gv (72 * 0 + 3 * (kp z) + jx)) 1 = c1))) nk) + bk (cntB (fun z => hBit (ho (24 * 1 + z)) jy && (decide (prt (fr - 1) (gv (72 * 1 + 3 * z + jy)) 0 = a1) && decide (prt (fr - 1) (gv (72 * 1 + 3 * z + jy)) 1 = c1))) (sz_ 1))) (fr - 1)) (decide (0 < (cntB (fun z => hBit (ho (24 * 0 + (kp z))) jx && decide (prt (fr - 1) (gv (72 * 0 + 3 * (kp z) + jx)) 0 = a1)) nk) ∧ 0 < (cntB (fun z => hBit (ho (24 * 1 + z)) jy && decide (prt (fr - 1) (gv (72 * 1 + 3 * z + jy)) 0 = a1)) (sz_ 1)))) (fun x => itr (fun b1 x => if decide (0 < (cntB (fun z => hBit (ho (24 * 0 + (kp z))) jx && (decide (prt (fr - 1) (gv (72 * 0 + 3 * (kp z) + jx)) 0 = a1) && decide (prt (fr - 1) (gv (72 * 0 + 3 * (kp z) + jx)) 1 = b1))) nk) ∧ 0 < (cntB (fun z => hBit (ho (24 * 1 + z)) jy && (decide (prt (fr - 1) (gv (72 * 1 + 3 * z + jy)) 0 = a1) && decide (prt (fr - 1) (gv (72 * 1 + 3 * z + jy)) 1 = b1))) (sz_ 1))) = true then pAB fr (bk (cntB (fun z => hBit (ho (24 * 0 + (kp z))) jx && (decide (prt (fr - 1) (gv (72 * 0 + 3 * (kp z) + jx)) 0 = a1) && decide (prt (fr - 1) (gv (72 * 0 + 3 * (kp z) + jx)) 1 = b1))) nk)) (bk (cntB (fun z => hBit (ho (24 * 1 + z)) jy && (decide (prt (fr - 1) (gv (72 * 1 + 3 * z + jy)) 0 = a1) && decide (prt (fr - 1) (gv (72 * 1 + 3 * z + jy)) 1 = b1))) (sz_ 1))) x else x) (fr - 1) x) x) (fr - 1) (pAN fr (bk (cntB (fun _ => true) nk)) (bk (cntB (fun _ => true) (sz_ 1))) (sumN (fun c1 => bk (cntB (fun z => hBit (ho (24 * 0 + (kp z))) jx && decide (prt (fr - 1) (gv (72 * 0 + 3 * (kp z) + jx)) 0 = c1)) nk) + bk (cntB (fun z => hBit (ho (24 * 1 + z)) jy && decide (prt (fr - 1) (gv (72 * 1 + 3 * z + jy)) 0 = c1)) (sz_ 1))) (fr - 1)) (tr, ms)) else pAN fr (bk (cntB (fun _ => true) nk)) (bk (cntB (fun _ => true) (sz_ 1))) (sumN (fun c1 => bk (cntB (fun z => hBit (ho (24 * 0 + (kp z))) jx && decide (prt (fr - 1) (gv (72 * 0 + 3 * (kp z) + jx)) 0 = c1)) nk) + bk (cntB (fun z => hBit (ho (24 * 1 + z)) jy && decide (prt (fr - 1) (gv (72 * 1 + 3 * z + jy)) 0 = c1)) (sz_ 1))) (fr - 1)) (tr, ms))
theorem mBT_lt {fr a b S : Nat} {th : Bool} {sub : Nat × Nat → Nat × Nat} {x : Nat × Nat} (hf : fr ≤ 8) (hs : ∀ x : Nat × Nat, x.2 < 500 → (sub x).2 < 500) (h : x.2 < 500) : (mBT fr a b S th sub x).2 < 500 := by
  unfold mBT
  by_cases q : th = true
  · rw [if_pos q]
    by_cases y : fr - 2 < b
    · rw [if_pos y]; exact hs _ (pAN_lt hf h)
    · rw [if_neg y]; exact pAN_lt hf h
  · rw [if_neg q]; exact h
theorem mCJ_lt {fr nk jx jy : Nat} {kp : Nat → Nat} {ho gv : Nat → Int32} {sz_ : Nat → Nat} {tr ms : Nat} (hf : fr ≤ 8) (h : ms < 500) : (mCJ fr nk jx jy kp ho gv sz_ tr ms).2 < 500 := by
  unfold mCJ
  split
  · refine itr_lt (fun a y hy => mBT_lt hf (fun x hx => itr_lt (fun b z hz => ?_) _ _ hx) hy) _ _ (pAN_lt hf h)
    split
    · exact pAB_lt hf hz
    · exact hz
  · exact pAN_lt hf h
/-- the reference's rows: l gives the kept row and the row of table 1 -/
def LmI (ho gv : Nat → Int32) (kp : Nat → Nat) (l : List (Nat × Option Nat)) (n : Nat) (hl_ : Nat → Bool) (vl : Nat → Int32) (fi : Nat → Nat) (se : Nat → Int32) (li : Nat → Nat) : Prop := n = l.length ∧ ∀ z, z < n → li z = z ∧ fi z = kp (l.getD z (0, none)).1 ∧ se z = oI (l.getD z (0, none)).2 ∧ ∀ c, c < 9 → hl_ (9 * z + c) = !mIs ho (kp (l.getD z (0, none)).1) (l.getD z (0, none)).2 c ∧ vl (9 * z + c) = mVl ho gv (kp (l.getD z (0, none)).1) (l.getD z (0, none)).2 c
theorem lm_0 {ho gv : Nat → Int32} {kp : Nat → Nat} {hl_ : Nat → Bool} {vl : Nat → Int32} {fi : Nat → Nat} {se : Nat → Int32} {li : Nat → Nat} : LmI ho gv kp [] 0 hl_ vl fi se li := ⟨rfl, fun t h => absurd h (Nat.not_lt_zero t)⟩
theorem mPut_in {α : Type} {f : Nat → α} {base d z : Nat} {r : Nat → α} (h1 : base ≤ z) (h2 : z < base + d) : mPut f base r d z = r (z - base) := if_pos ⟨h1, h2⟩
theorem mPut_out {α : Type} {f : Nat → α} {base d z : Nat} {r : Nat → α} (h : ¬ (base ≤ z ∧ z < base + d)) : mPut f base r d z = f z := if_neg h
theorem lm_add {ho gv : Nat → Int32} {kp : Nat → Nat} {l : List (Nat × Option Nat)} {n : Nat} {hl_ : Nat → Bool} {vl : Nat → Int32} {fi : Nat → Nat} {se : Nat → Int32} {li : Nat → Nat} (h : LmI ho gv kp l n hl_ vl fi se li) (t : Nat) (j : Option Nat) : LmI ho gv kp (l ++ [(t, j)]) (n + 1) (mPut hl_ (9 * n) (fun c => !mIs ho (kp t) j c) 9) (mPut vl (9 * n) (fun c => mVl ho gv (kp t) j c) 9) (va_up fi n (kp t)) (upd se n (oI j)) (va_up li n n) := by
  obtain ⟨hn, hI⟩ := h
  refine ⟨by rw [List.length_append, ← hn]; rfl, fun z hz => ?_⟩
  by_cases hq : z < n
  · obtain ⟨h1, h2, h3, h4⟩ := hI z hq
    have e : (l ++ [(t, j)]).getD z (0, none) = l.getD z (0, none) := by
      rw [List.getD_eq_getElem?_getD, List.getD_eq_getElem?_getD, List.getElem?_append_left (by omega)]
    rw [e]
    refine ⟨by rw [va_up_ne _ _ (by omega)]; exact h1, by rw [va_up_ne _ _ (by omega)]; exact h2, ?_, fun c hc => ?_⟩
    · show (if z = n then oI j else se z) = _
      rw [if_neg (by omega)]; exact h3
    · rw [mPut_out (by omega), mPut_out (by omega)]; exact h4 c hc
  · obtain rfl : z = n := by omega
    have e : (l ++ [(t, j)]).getD z (0, none) = (t, j) := by
      rw [List.getD_eq_getElem?_getD, List.getElem?_append_right (by omega), hn, Nat.sub_self]
      rfl
    rw [e]
    refine ⟨va_up_self _ _ _, va_up_self _ _ _, ?_, fun c hc => ?_⟩
    · show (if z = z then oI j else se z) = _
      rw [if_pos rfl]
    · rw [mPut_in (by omega) (by omega), mPut_in (by omega) (by omega), show 9 * z + c - 9 * z = c by omega]
      exact ⟨rfl, rfl⟩
/-- within the join -/
def mJn (ho gv : Nat → Int32) (kp : Nat → Nat) (l : List (Nat × Option Nat)) (L n : Nat) (er : Int32) (hl_ : Nat → Bool) (vl : Nat → Int32) (fi : Nat → Nat) (se : Nat → Int32) (li : Nat → Nat) : Prop := (er = nI 0 ∧ n ≤ 60 ∧ LmI ho gv kp l n hl_ vl fi se li) ∨ (er = -2 ∧ n ≤ 60 ∧ 60 < L)
theorem jn_e {ho gv : Nat → Int32} {kp : Nat → Nat} {l : List (Nat × Option Nat)} {L n : Nat} {hl_ : Nat → Bool} {vl : Nat → Int32} {fi : Nat → Nat} {se : Nat → Int32} {li : Nat → Nat} (h : mJn ho gv kp l L n (nI 0) hl_ vl fi se li) : n ≤ 60 ∧ LmI ho gv kp l n hl_ vl fi se li := by
  rcases h with h | h
  · exact h.2
  · exact absurd h.1 m23.1
theorem jn_n {ho gv : Nat → Int32} {kp : Nat → Nat} {l : List (Nat × Option Nat)} {L n : Nat} {er : Int32} {hl_ : Nat → Bool} {vl : Nat → Int32} {fi : Nat → Nat} {se : Nat → Int32} {li : Nat → Nat} (h : mJn ho gv kp l L n er hl_ vl fi se li) : n ≤ 60 := by
  rcases h with h | h
  · exact h.2.1
  · exact h.2.1
theorem jn_t {ho gv : Nat → Int32} {kp : Nat → Nat} {l l2 : List (Nat × Option Nat)} {L n : Nat} {er : Int32} {hl_ : Nat → Bool} {vl : Nat → Int32} {fi : Nat → Nat} {se : Nat → Int32} {li : Nat → Nat} (h : mJn ho gv kp l L n er hl_ vl fi se li) (hl : er = nI 0 → l = l2) : mJn ho gv kp l2 L n er hl_ vl fi se li := by
  rcases h with h | h
  · exact Or.inl ⟨h.1, h.2.1, hl h.1 ▸ h.2.2⟩
  · exact Or.inr h
theorem up_lt {f : Nat → Nat} {k x b : Nat} (h : ∀ z, z < 60 → f z < b) (hx : x < b) : ∀ z, z < 60 → va_up f k x z < b := fun z hz => by
  by_cases q : z = k
  · rw [q, va_up_self]; exact hx
  · rw [va_up_ne _ _ q]; exact h z hz
/-! windows one after another -/
def wOr (kn : Nat → Nat) (wc : Nat) : Nat → List Nat
  | 0 => []
  | k + 1 => (List.range wc).filter (fun z => decide (kn z = k)) ++ wOr kn wc k
/-- what is left of the windows: those of k keys from w on, then those of fewer -/
def wRm (kn : Nat → Nat) (wc k w : Nat) : List Nat := ((List.range wc).drop w).filter (fun z => decide (kn z = k)) ++ wOr kn wc k
theorem wRm_0 {kn : Nat → Nat} {wc k : Nat} : wOr kn wc (k + 1) = wRm kn wc k 0 := rfl
theorem wRm_e {kn : Nat → Nat} {wc k w : Nat} (h : wc ≤ w) : wRm kn wc k w = wOr kn wc k := by
  unfold wRm
  rw [List.drop_of_length_le (by rw [List.length_range]; exact h)]
  rfl
theorem rng_dr {wc w : Nat} (h : w < wc) : (List.range wc).drop w = w :: (List.range wc).drop (w + 1) := by
  rw [List.drop_eq_getElem_cons (by rw [List.length_range]; exact h), List.getElem_range]
theorem wRm_y {kn : Nat → Nat} {wc k w : Nat} (h : w < wc) (hk : kn w = k) : wRm kn wc k w = w :: wRm kn wc k (w + 1) := by
  unfold wRm
  rw [rng_dr h, List.filter_cons_of_pos (p := fun z => decide (kn z = k)) (decide_eq_true hk)]
  rfl
theorem wRm_n {kn : Nat → Nat} {wc k w : Nat} (h : w < wc) (hk : ¬ kn w = k) : wRm kn wc k w = wRm kn wc k (w + 1) := by
  unfold wRm
  rw [rng_dr h, List.filter_cons_of_neg (p := fun z => decide (kn z = k)) (fun q => hk (of_decide_eq_true q))]
theorem i32_dec {a : Int32} : a + (-1) = a - nI 1 := by rw [Int32.sub_eq_add_neg]; rfl
theorem dec_ge {k : Nat} (h : k < 1000) : ¬ (nI k - nI 1 < 0) → ∃ j, k = j + 1 := fun q => by
  rcases Nat.eq_zero_or_pos k with e | e
  · subst e; exact absurd (by decide) q
  · exact ⟨k - 1, by omega⟩
theorem dec_lt {k : Nat} (h : k < 1000) (q : nI k - nI 1 < 0) : k = 0 := by
  rcases Nat.eq_zero_or_pos k with e | e
  · exact e
  · rw [Int32.lt_iff_toInt_lt, Int32.toInt_sub, nI_toInt (by omega), nI_toInt (by omega)] at q
    have h0 : (0 : Int32).toInt = 0 := by decide
    rw [bm32 (by omega) (by omega)] at q
    omega
theorem dec_eq {j : Nat} (h : j < 1000) : nI (j + 1) - nI 1 = nI j := by
  apply Int32.toInt_inj.mp
  rw [Int32.toInt_sub, nI_toInt (by omega), nI_toInt (by omega), nI_toInt (by omega), bm32 (by omega) (by omega)]
  omega
/-- the reference's windows in their order; the state: keys, list, counters, cells -/
abbrev mSt := Option Nat × (Nat → Nat) × (Nat → Bool) × (Nat → Nat) × Nat × Nat × Nat × (Nat → Bool) × (Nat → Int32)
def mWs (fr nn F20 : Nat) (fi : Nat → Nat) (se : Nat → Int32) (po oo : Nat → Option Nat) (wd wg : Nat → Bool) (wl wh : Nat → Int32) (wf wa wn : Nat → Nat) : List Nat → mSt → Int32 → mSt → Prop
  | [], s0, er, s1 => er = nI 0 ∧ s1 = s0
  | w :: ws, (kq, kf, kg, li, tr, ms, sm, hl_, vl), er, s1 => ∃ l1 kn1 kf1 kg1 t2 m2 s2 er1 hl1 vl1, mWin fr nn F20 fi se (po w) (oo w) (wd w) (wg w) (wl w) (wh w) (wf w) (wa w) (wn w) (6 + w) hl_ vl kq kf kg li tr ms sm l1 kn1 kf1 kg1 t2 m2 s2 er1 hl1 vl1 ∧ ((er1 = nI 0 ∧ mWs fr nn F20 fi se po oo wd wg wl wh wf wa wn ws (some kn1, kf1, kg1, l1, t2, m2, s2, hl1, vl1) er s1) ∨ (er1 ≠ nI 0 ∧ er = er1))
/-- so far: if no error, what is left decides; else the error stands -/
def mSf (R : List Nat → mSt → Int32 → mSt → Prop) (all : List Nat) (s0 : mSt) (left : List Nat) (er : Int32) (s : mSt) : Prop := (er = nI 0 ∧ ∀ er' s', R left s er' s' → R all s0 er' s') ∨ (er ≠ nI 0 ∧ ∀ s', R all s0 er s')
theorem sf_0 {R : List Nat → mSt → Int32 → mSt → Prop} {all : List Nat} {s0 : mSt} : mSf R all s0 all (nI 0) s0 := Or.inl ⟨rfl, fun _ _ h => h⟩
theorem sf_t {R : List Nat → mSt → Int32 → mSt → Prop} {all l l2 : List Nat} {s0 s : mSt} {er : Int32} (h : mSf R all s0 l er s) (e : er = nI 0 → l = l2) : mSf R all s0 l2 er s := by
  rcases h with h | h
  · exact Or.inl ⟨h.1, e h.1 ▸ h.2⟩
  · exact Or.inr h
theorem sf_w {fr nn F20 : Nat} {fi : Nat → Nat} {se : Nat → Int32} {po oo : Nat → Option Nat} {wd wg : Nat → Bool} {wl wh : Nat → Int32} {wf wa wn : Nat → Nat} {all ws : List Nat} {s0 : mSt} {w : Nat} {kq : Option Nat} {kf : Nat → Nat} {kg : Nat → Bool} {li : Nat → Nat} {tr ms sm : Nat} {hl_ : Nat → Bool} {vl : Nat → Int32} {l1 : Nat → Nat} {kn1 : Nat} {kf1 : Nat → Nat} {kg1 : Nat → Bool} {t2 m2 s2 : Nat} {er1 : Int32} {hl1 : Nat → Bool} {vl1 : Nat → Int32}
    (h : mSf (mWs fr nn F20 fi se po oo wd wg wl wh wf wa wn) all s0 (w :: ws) (nI 0) (kq, kf, kg, li, tr, ms, sm, hl_, vl)) (hw : mWin fr nn F20 fi se (po w) (oo w) (wd w) (wg w) (wl w) (wh w) (wf w) (wa w) (wn w) (6 + w) hl_ vl kq kf kg li tr ms sm l1 kn1 kf1 kg1 t2 m2 s2 er1 hl1 vl1) : mSf (mWs fr nn F20 fi se po oo wd wg wl wh wf wa wn) all s0 ws er1 (some kn1, kf1, kg1, l1, t2, m2, s2, hl1, vl1) := by
  have h2 : ∀ er' s', mWs fr nn F20 fi se po oo wd wg wl wh wf wa wn (w :: ws) (kq, kf, kg, li, tr, ms, sm, hl_, vl) er' s' → mWs fr nn F20 fi se po oo wd wg wl wh wf wa wn all s0 er' s' := by
    rcases h with h | h
    · exact h.2
    · exact absurd rfl h.1
  by_cases q : er1 = nI 0
  · exact Or.inl ⟨q, fun er' s' hr => h2 er' s' ⟨l1, kn1, kf1, kg1, t2, m2, s2, er1, hl1, vl1, hw, Or.inl ⟨q, hr⟩⟩⟩
  · exact Or.inr ⟨q, fun s' => h2 er1 s' ⟨l1, kn1, kf1, kg1, t2, m2, s2, er1, hl1, vl1, hw, Or.inr ⟨q, rfl⟩⟩⟩
theorem sf_z {fr nn F20 : Nat} {fi : Nat → Nat} {se : Nat → Int32} {po oo : Nat → Option Nat} {wd wg : Nat → Bool} {wl wh : Nat → Int32} {wf wa wn : Nat → Nat} {all : List Nat} {s0 s : mSt} {er : Int32} (h : mSf (mWs fr nn F20 fi se po oo wd wg wl wh wf wa wn) all s0 [] er s) : mWs fr nn F20 fi se po oo wd wg wl wh wf wa wn all s0 er s := by
  rcases h with h | h
  · rw [h.1]; exact h.2 (nI 0) s ⟨rfl, rfl⟩
  · exact h.2 s
/-! a run of the reference -/
def mPs (flt : Bool) (op tc : Nat) (ho gv te : Nat → Int32) (r : Nat) : Bool := if flt = true then pass9 op (hBit (ho (24 * 0 + r)) tc) (gv (72 * 0 + 3 * r + tc)) (te 2) else true
def mQj (ho gv : Nat → Int32) (kp : Nat → Nat) (jx jy t j : Nat) : Bool := hBit (ho (24 * 0 + (kp t))) jx && (hBit (ho (24 * 1 + j)) jy && decide (gv (72 * 0 + 3 * (kp t) + jx) = gv (72 * 1 + 3 * j + jy)))
def mLst (jns : Bool) (ho gv : Nat → Int32) (kp : Nat → Nat) (jx jy n1 nk : Nat) : List (Nat × Option Nat) := if jns = true then jLs (mQj ho gv kp jx jy) n1 nk else (List.range nk).map (fun z => (z, none))
/-- the rows are made -/
def mMd (fr : Nat) (jns : Bool) (ho gv : Nat → Int32) (kp : Nat → Nat) (jx jy : Nat) (sz_ : Nat → Nat) (nk t1 m1 n : Nat) (er : Int32) (hl_ : Nat → Bool) (vl : Nat → Int32) (fi : Nat → Nat) (se : Nat → Int32) (li : Nat → Nat) (t2 m2 : Nat) : Prop := mJn ho gv kp (mLst jns ho gv kp jx jy (sz_ 1) nk) (mLst jns ho gv kp jx jy (sz_ 1) nk).length n er hl_ vl fi se li ∧ (er = nI 0 → (t2, m2) = if jns = true ∧ ¬ (nk = 0 ∨ sz_ 1 = 0) then ((mCJ fr nk jx jy kp ho gv sz_ t1 m1).1 + bk n, (mCJ fr nk jx jy kp ho gv sz_ t1 m1).2) else (t1, m1)) ∧ m2 < 500
/-- the rows are being made: all by the join, or k of them -/
def mMk (fr : Nat) (jns : Bool) (ho gv : Nat → Int32) (kp : Nat → Nat) (jx jy : Nat) (sz_ : Nat → Nat) (nk t1 m1 k n : Nat) (er : Int32) (hl_ : Nat → Bool) (vl : Nat → Int32) (fi : Nat → Nat) (se : Nat → Int32) (li : Nat → Nat) (t2 m2 : Nat) : Prop := (jns = true ∧ mMd fr jns ho gv kp jx jy sz_ nk t1 m1 n er hl_ vl fi se li t2 m2) ∨ (jns = false ∧ er = nI 0 ∧ n = k ∧ LmI ho gv kp ((List.range k).map (fun z => (z, none))) n hl_ vl fi se li ∧ t2 = t1 ∧ m2 = m1 ∧ m2 < 500)
section MK
variable {fr : Nat} {jns : Bool} {ho gv : Nat → Int32} {kp : Nat → Nat} {jx jy : Nat} {sz_ : Nat → Nat} {nk t1 m1 n : Nat} {er : Int32} {hl_ : Nat → Bool} {vl : Nat → Int32} {fi : Nat → Nat} {se : Nat → Int32} {li : Nat → Nat} {t2 m2 : Nat}
theorem mk_j (hj : jns = true) (h : mJn ho gv kp (jLs (mQj ho gv kp jx jy) (sz_ 1) nk) (jLs (mQj ho gv kp jx jy) (sz_ 1) nk).length n er hl_ vl fi se li) (hc : er = nI 0 → (t2, m2) = if nk = 0 ∨ sz_ 1 = 0 then (t1, m1) else ((mCJ fr nk jx jy kp ho gv sz_ t1 m1).1 + bk n, (mCJ fr nk jx jy kp ho gv sz_ t1 m1).2)) (hm : m2 < 500) : mMk fr jns ho gv kp jx jy sz_ nk t1 m1 0 n er hl_ vl fi se li t2 m2 := by
  have e : mLst jns ho gv kp jx jy (sz_ 1) nk = jLs (mQj ho gv kp jx jy) (sz_ 1) nk := if_pos hj
  refine Or.inl ⟨hj, ?_, fun h0 => ?_, hm⟩
  · rw [e]; exact h
  · rw [hc h0]
    by_cases q : nk = 0 ∨ sz_ 1 = 0
    · rw [if_pos q, if_neg (fun y => y.2 q)]
    · rw [if_neg q, if_pos ⟨hj, q⟩]
theorem mk_0 (hj : jns = false) (hm : m1 < 500) : mMk fr jns ho gv kp jx jy sz_ nk t1 m1 0 0 (nI 0) hl_ vl fi se li t1 m1 := Or.inr ⟨hj, rfl, rfl, lm_0, rfl, rfl, hm⟩
theorem mk_s {k : Nat} (hj : jns = false) (h : mMk fr jns ho gv kp jx jy sz_ nk t1 m1 k n er hl_ vl fi se li t2 m2) : mMk fr jns ho gv kp jx jy sz_ nk t1 m1 (k + 1) (n + 1) er (mPut hl_ (9 * n) (fun c => !mIs ho (kp k) none c) 9) (mPut vl (9 * n) (fun c => mVl ho gv (kp k) none c) 9) (va_up fi n (kp k)) (upd se n (oI none)) (va_up li n n) t2 m2 := by
  rcases h with h | h
  · rw [hj] at h; exact absurd h.1 Bool.false_ne_true
  · obtain ⟨_, h1, h2, h3, h4, h5, h6⟩ := h
    refine Or.inr ⟨hj, h1, by rw [h2], ?_, h4, h5, h6⟩
    rw [List.range_succ, List.map_append]
    exact lm_add h3 k none
theorem mk_n {k : Nat} (hj : jns = false) (h : mMk fr jns ho gv kp jx jy sz_ nk t1 m1 k n er hl_ vl fi se li t2 m2) : n = k := by
  rcases h with h | h
  · rw [hj] at h; exact absurd h.1 Bool.false_ne_true
  · exact h.2.2.1
theorem mk_z {k : Nat} (h : mMk fr jns ho gv kp jx jy sz_ nk t1 m1 k n er hl_ vl fi se li t2 m2) (hk : jns = true ∨ k = nk) (hn : nk ≤ 24) : mMd fr jns ho gv kp jx jy sz_ nk t1 m1 n er hl_ vl fi se li t2 m2 := by
  rcases h with h | h
  · exact h.2
  · obtain ⟨hj, h1, h2, h3, h4, h5, h6⟩ := h
    have hk : k = nk := hk.resolve_left (by rw [hj]; exact Bool.false_ne_true)
    subst hk
    have e : mLst jns ho gv kp jx jy (sz_ 1) k = (List.range k).map (fun z => (z, none)) := if_neg (by rw [hj]; exact Bool.false_ne_true)
    refine ⟨?_, fun _ => ?_, h6⟩
    · rw [e]; exact Or.inl ⟨h1, by omega, h3⟩
    · rw [if_neg (by rw [hj]; exact fun y => Bool.false_ne_true y.1), h4, h5]
end MK
theorem opt_c (kq : Option Nat) : kq = none ∨ ∃ kn, kq = some kn := by
  cases kq with
  | none => exact Or.inl rfl
  | some k => exact Or.inr ⟨k, rfl⟩
/-- the windows, unless the join was too long -/
def mWx (er1 : Int32) (R : List Nat → mSt → Int32 → mSt → Prop) (all : List Nat) (s0 : mSt) (left : List Nat) (er : Int32) (s : mSt) : Prop := (er1 = nI 0 ∧ mSf R all s0 left er s) ∨ (er1 ≠ nI 0 ∧ er = er1)
theorem wx_0 {er1 : Int32} {R : List Nat → mSt → Int32 → mSt → Prop} {all : List Nat} {s0 : mSt} : mWx er1 R all s0 all er1 s0 := by
  by_cases h : er1 = nI 0
  · rw [h]; exact Or.inl ⟨rfl, sf_0⟩
  · exact Or.inr ⟨h, rfl⟩
theorem wx_t {er1 : Int32} {R : List Nat → mSt → Int32 → mSt → Prop} {all l l2 : List Nat} {s0 s : mSt} {er : Int32} (h : mWx er1 R all s0 l er s) (e : er = nI 0 → l = l2) : mWx er1 R all s0 l2 er s := h.imp (fun q => ⟨q.1, sf_t q.2 e⟩) id
theorem wx_e {er1 : Int32} {R : List Nat → mSt → Int32 → mSt → Prop} {all l : List Nat} {s0 s : mSt} (h : mWx er1 R all s0 l (nI 0) s) : er1 = nI 0 ∧ mSf R all s0 l (nI 0) s := by
  rcases h with h | h
  · exact h
  · exact absurd h.2.symm h.1
/-- the order at the end -/
def mOq (ors : Bool) (oc : Nat) : Option Nat := if ors = true then some oc else none
/-- what a run answers and leaves -/
def mEnd (fr nn F20 : Nat) (fi : Nat → Nat) (se : Nat → Int32) (er1 : Int32) (R : List Nat → mSt → Int32 → mSt → Prop) (all : List Nat) (s0 : mSt) (ors : Bool) (oc : Nat) (od : Bool) (x : Int32) (li : Nat → Nat) (tr ms sm sh : Nat) (hl_ : Nat → Bool) (vl : Nat → Int32) : Prop := ∃ er3 : Int32, ∃ kq kf kg l3 t3 m3 s3 hl3 vl3, ((er1 = nI 0 ∧ R all s0 er3 (kq, kf, kg, l3, t3, m3, s3, hl3, vl3)) ∨ (er1 ≠ nI 0 ∧ er3 = er1)) ∧ ((er3 ≠ nI 0 ∧ x = er3 ∧ tr = 0 ∧ ms = 0 ∧ sm = 0 ∧ sh = 0) ∨ (er3 = nI 0 ∧ x = nI nn ∧ sh = nn ∧ hl_ = hl3 ∧ vl = vl3 ∧ ∃ kn' kf' kg', mBr (fun kf kg kn => mLt hl3 vl3 fi se kf kg kn 0) fr nn F20 kq kf kg none (mOq ors oc) od l3 t3 m3 s3 li kn' kf' kg' tr ms sm))
def mDn (kq : Option Nat) (kf : Nat → Nat) (kg : Nat → Bool) (ors : Bool) (oc : Nat) (od : Bool) : Bool := match kq with
  | none => false
  | some kn => mOrdB kn kf kg none (mOq ors oc) od
theorem md_in {fr : Nat} {jns : Bool} {ho gv : Nat → Int32} {kp : Nat → Nat} {jx jy : Nat} {sz_ : Nat → Nat} {nk t1 m1 n : Nat} {er : Int32} {hl_ : Nat → Bool} {vl : Nat → Int32} {fi : Nat → Nat} {se : Nat → Int32} {li : Nat → Nat} {t2 m2 : Nat} (h : mMd fr jns ho gv kp jx jy sz_ nk t1 m1 n er hl_ vl fi se li t2 m2) (he : er = nI 0) : ∀ a b, a < n → b < n → li a = li b → a = b := by
  rw [he] at h
  have h2 := (jn_e h.1).2.2
  intro a b ha hb e
  rw [(h2 a ha).1, (h2 b hb).1] at e
  exact e
