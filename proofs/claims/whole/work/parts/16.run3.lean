/-! a window over the whole list, partition by partition -/
def pEnd (o : Option (Nat → Int64)) (n st : Nat) : Nat := scn (fun j => !pEq o st j) (n - (st + 1)) (st + 1)
def pSt (o : Option (Nat → Int64)) : Nat → Nat
  | 0 => 0
  | i + 1 => if pEq o (pSt o i) (i + 1) = true then pSt o i else i + 1
theorem scn_eq {P : Nat → Bool} : ∀ (d a e : Nat), a ≤ e → e ≤ a + d → (∀ j, a ≤ j → j < e → P j = false) → (e < a + d → P e = true) → scn P d a = e := by
  intro d
  induction d with
  | zero => intro a e h1 h2 _ _; show a = e; omega
  | succ d ih =>
    intro a e h1 h2 h3 h4
    simp only [scn]
    by_cases h : a = e
    · subst h
      rw [if_pos (h4 (by omega))]
    · rw [if_neg (by rw [h3 a (Nat.le_refl _) (by omega)]; exact Bool.false_ne_true)]
      exact ih (a + 1) e (by omega) (by omega) (fun j hj hj2 => h3 j (by omega) hj2) (fun q => h4 (by omega))
theorem pEnd_eq {o : Option (Nat → Int64)} {n st nx : Nat} (h1 : st < nx) (h2 : nx ≤ n) (h3 : ∀ j, st < j → j < nx → pEq o st j = true) (h4 : nx < n → pEq o st nx = false) : pEnd o n st = nx :=
  scn_eq _ _ _ h1 (by omega) (fun j hj hj2 => by rw [h3 j hj hj2]; rfl) (fun q => by rw [h4 (by omega)]; rfl)
theorem pSt_s {o : Option (Nat → Int64)} {st nx : Nat} (h0 : pSt o st = st) (h3 : ∀ j, st < j → j < nx → pEq o st j = true) : ∀ i, st ≤ i → i < nx → pSt o i = st := by
  intro i
  induction i with
  | zero => intro h1 _; obtain rfl : st = 0 := by omega
            exact h0
  | succ i ih =>
    intro h1 h2
    by_cases h : st = i + 1
    · rw [← h]; exact h0
    · have e := ih (by omega) (by omega)
      show (if pEq o (pSt o i) (i + 1) = true then pSt o i else i + 1) = st
      rw [e, if_pos (h3 (i + 1) (by omega) h2)]
theorem pSt_n {o : Option (Nat → Int64)} {st nx : Nat} (h0 : pSt o st = st) (h1 : st < nx) (h3 : ∀ j, st < j → j < nx → pEq o st j = true) (h4 : pEq o st nx = false) : pSt o nx = nx := by
  obtain ⟨i, rfl⟩ : ∃ i, nx = i + 1 := ⟨nx - 1, by omega⟩
  show (if pEq o (pSt o i) (i + 1) = true then pSt o i else i + 1) = i + 1
  rw [pSt_s h0 h3 i (by omega) (by omega), if_neg (by rw [h4]; exact Bool.false_ne_true)]
/-- the value of a row, by its own partition -/
def pVal (p o : Option (Nat → Int64)) (u : Nat → Int64) (wf wn : Nat) (wd wg : Bool) (wl wh : Int32) (n i : Nat) : Int64 := wVal o u wf wn wd wg wl wh (pSt p i) (pEnd p n (pSt p i)) i
def pOk (p o : Option (Nat → Int64)) (u : Nat → Int64) (wf wn : Nat) (wd wg : Bool) (wl wh : Int32) (n st : Nat) : Bool := (List.range (pEnd p n st - st)).all (fun d => okB (wVal o u wf wn wd wg wl wh st (pEnd p n st) (st + d)))
/-- what becomes of a window: 0 done, 1 no room, 2 overflow; and the largest partition -/
def wRun (n cap : Nat) (pe : Nat → Nat) (ok : Nat → Bool) : Nat → Nat → Nat → Nat × Nat
  | 0, _, lg => (0, lg)
  | d + 1, st, lg => if n ≤ st then (0, lg) else if cap < pe st - st then (1, lg) else if ok st = false then (2, lg) else wRun n cap pe ok d (pe st) (max lg (pe st - st))
/-- the list's column col is worked out for the rows below st, the rest is as it was -/
def WoI (f f1 : Nat → Int64) (g : Nat → Nat) (col : Nat) (V : Nat → Int64) (st : Nat) : Prop := (∀ i, i < st → f1 (g i * 10 + col) = V i) ∧ ∀ p c, c < 10 → c ≠ col → f1 (p * 10 + c) = f (p * 10 + c)
theorem wo_col {f f1 : Nat → Int64} {g : Nat → Nat} {col q st : Nat} {V : Nat → Int64} (h : WoI f f1 g col V st) (hq : q < 10) (hc : q ≠ col) : (fun z => f1 (g z * 10 + q)) = fun z => f (g z * 10 + q) := funext fun z => h.2 (g z) q hq hc
theorem wo_oo {f f1 : Nat → Int64} {g : Nat → Nat} {col st : Nat} {V : Nat → Int64} (h : WoI f f1 g col V st) (oo : Option Nat) (ho : ∀ q, oo = some q → q < 10) (ho2 : ∀ q, oo = some q → q ≠ col) : (oo.map (fun q z => f1 (g z * 10 + q))) = oo.map (fun q z => f (g z * 10 + q)) := by
  cases oo with
  | none => rfl
  | some q => exact congrArg some (wo_col h (ho q rfl) (ho2 q rfl))
theorem putC_at {f : Nat → Int64} {p : Nat → Nat} {y : Nat → Int64} : ∀ (m d : Nat), d < m → (∀ a b, a < m → b < m → p a = p b → a = b) → putC f p y m (p d) = y d := by
  intro m
  induction m with
  | zero => intro d h; exact absurd h (Nat.not_lt_zero d)
  | succ m ih =>
    intro d h hi
    show vp_updL (putC f p y m) (p m) (y m) (p d) = y d
    by_cases e : d = m
    · subst e; exact pk_uLs
    · rw [pk_uLn (fun q => e (hi d m h (Nat.lt_succ_self m) q))]
      exact ih d (by omega) (fun a b ha hb => hi a b (by omega) (by omega))
theorem wo_put {f f1 : Nat → Int64} {g : Nat → Nat} {col st en n : Nat} {V y : Nat → Int64} (h : WoI f f1 g col V st) (hc : col < 10) (hse : st ≤ en) (hen : en ≤ n) (hg : ∀ a b, a < n → b < n → g a = g b → a = b) (hy : ∀ d, d < en - st → y d = V (st + d)) : WoI f (putC f1 (fun e => g (st + e) * 10 + col) y (en - st)) g col V en := by
  obtain ⟨h1, h2⟩ := h
  refine ⟨fun i hi => ?_, fun p c hcc hne => ?_⟩
  · by_cases hq : i < st
    · rw [putC_ne _ (fun e he q => by have := hg i (st + e) (by omega) (by omega) (by omega); omega)]
      exact h1 i hq
    · obtain ⟨d, rfl⟩ : ∃ d, i = st + d := ⟨i - st, by omega⟩
      rw [putC_at (p := fun e => g (st + e) * 10 + col) (en - st) d (by omega) (fun a b ha hb q => by have := hg (st + a) (st + b) (by omega) (by omega) (by omega); omega)]
      exact hy d (by omega)
  · rw [putC_ne _ (fun e _ => mul_ne hcc hc hne)]
    exact h2 p c hcc hne

theorem wr_end {n cap d st lg : Nat} {pe : Nat → Nat} {ok : Nat → Bool} (h : n ≤ st) : wRun n cap pe ok d st lg = (0, lg) := by
  cases d with
  | zero => rfl
  | succ d => exact if_pos h
theorem pk_true {m : Nat} {P : Nat → Bool} (h : ∀ d, d < m → P d = true) : (List.range m).all P = true := List.all_eq_true.mpr (fun d hd => h d (List.mem_range.mp hd))
theorem pk_false {m : Nat} {P : Nat → Bool} (d : Nat) (hd : d < m) (h : P d = false) : (List.range m).all P = false := by
  rw [List.all_eq_false]
  exact ⟨d, List.mem_range.mpr hd, by rw [h]; exact Bool.false_ne_true⟩
abbrev rm5_160 : Room := { frames := 5, cells := 0, slots := 0, locals := 160 }
set_option maxHeartbeats 4000000 in
set_option maxRecDepth 100000 in
theorem c_Runner_workOut (l : Launch) (D : va_G) (cI cL cZ cW cR : ClassId) (sz : Nat) (uo r0 r1 rK ma : Nat) (od : Option Nat) (mo fr tr mh sm : Nat) (wo ko wf wa wn : Nat) (wd wg : Bool) (wl wh : Int32) (ro st0 en0 fp pg fs fe : Nat) (rw : Option Nat) (rL vL aL bL nL : Nat) (fL : Nat → Int64) (gL sL : Nat → Nat) (po oo : Option Nat) (hpo : ∀ q, po = some q → q < 10) (hoo : ∀ q, oo = some q → q < 10) (col : Nat) (hpo2 : ∀ q, po = some q → q ≠ col) (hoo2 : ∀ q, oo = some q → q ≠ col) (hcol : col < 10) (hwa2 : wa < col) (hwn : 1 ≤ wn) (hwn2 : wn < 1000) (hwf : wf < 12) (hfr : 3 ≤ fr) (hfr2 : fr ≤ 8) (hmh : mh < 500) (hnL : nL ≤ 60) (hgL : ∀ z, z < 60 → gL z < 60) (hgi : ∀ a b, a < nL → b < nL → gL a = gL b → a = b) : Met l y_Runner_workOut ws_Runner_workOut rm5_160 (zPw D vwCl (zT cI cL cZ cW cR) [(uo, .inr (7, [.ref mo, .ref rL, .ref r0, .ref r1, .ref rK, .ref ma, .ref ro, va_rf od])), (mo, .inr (4, [.int (nI fr), .int (nI tr), .int (nI mh), .int (nI sm)])), (wo, .inr (2, [.ref ko, .int (nI wf), .int (nI wa), .int (nI wn), .int (oI po), .int (oI oo), .int (zb wd), .int (zb wg), .int wl, .int wh])), (ro, .inr (6, [.ref rL, va_rf rw, .int (nI st0), .int (nI en0), .int (nI fp), .int (nI pg), .int (nI fs), .int (nI fe)])), (rL, .inr (0, [.int (nI 10), .ref vL, .ref aL, .ref bL, .int (nI nL)])), (vL, .inl (cL, 600, .inr (.inl fL))), (aL, .inl (cI, 60, .inl (zN gL))), (bL, .inl (cI, 60, .inl (zN sL)))] sz [.ref uo, .ref wo, .int (nI col)]) (zQi D vwCl (zT cI cL cZ cW cR) [(uo, .inr (7, [.ref mo, .ref rL, .ref r0, .ref r1, .ref rK, .ref ma, .ref ro, va_rf od])), (mo, .inr (4, [.int (nI fr), .int (nI tr), .int (nI mh), .int (nI sm)])), (wo, .inr (2, [.ref ko, .int (nI wf), .int (nI wa), .int (nI wn), .int (oI po), .int (oI oo), .int (zb wd), .int (zb wg), .int wl, .int wh])), (ro, .inr (6, [.ref rL, va_rf rw, .int (nI st0), .int (nI en0), .int (nI fp), .int (nI pg), .int (nI fs), .int (nI fe)])), (rL, .inr (0, [.int (nI 10), .ref vL, .ref aL, .ref bL, .int (nI nL)])), (vL, .inl (cL, 600, .inr (.inl fL))), (aL, .inl (cI, 60, .inl (zN gL))), (bL, .inl (cI, 60, .inl (zN sL)))] sz (fun x (u : (Nat → Int64) × Nat × Nat × Option Nat × Nat × Nat × Nat × Nat × Nat × Nat) => u.2.2.1 < 500 ∧ ((x = nI 0 ∧ (wRun nL (4 * (fr - 2)) (pEnd (po.map (fun q z => fL (gL z * 10 + q))) nL) (pOk (po.map (fun q z => fL (gL z * 10 + q))) (oo.map (fun q z => fL (gL z * 10 + q))) (fun z => fL (gL z * 10 + wa)) wf wn wd wg wl wh nL) (nL + 1) 0 0).1 = 0 ∧ WoI fL u.1 gL col (pVal (po.map (fun q z => fL (gL z * 10 + q))) (oo.map (fun q z => fL (gL z * 10 + q))) (fun z => fL (gL z * 10 + wa)) wf wn wd wg wl wh nL) nL ∧ u.2.1 = tr + 2 * bk nL ∧ u.2.2.1 = max mh (if (wRun nL (4 * (fr - 2)) (pEnd (po.map (fun q z => fL (gL z * 10 + q))) nL) (pOk (po.map (fun q z => fL (gL z * 10 + q))) (oo.map (fun q z => fL (gL z * 10 + q))) (fun z => fL (gL z * 10 + wa)) wf wn wd wg wl wh nL) (nL + 1) 0 0).2 = 0 then 0 else 2 + bk (wRun nL (4 * (fr - 2)) (pEnd (po.map (fun q z => fL (gL z * 10 + q))) nL) (pOk (po.map (fun q z => fL (gL z * 10 + q))) (oo.map (fun q z => fL (gL z * 10 + q))) (fun z => fL (gL z * 10 + wa)) wf wn wd wg wl wh nL) (nL + 1) 0 0).2)) ∨ (x = -2 ∧ (wRun nL (4 * (fr - 2)) (pEnd (po.map (fun q z => fL (gL z * 10 + q))) nL) (pOk (po.map (fun q z => fL (gL z * 10 + q))) (oo.map (fun q z => fL (gL z * 10 + q))) (fun z => fL (gL z * 10 + wa)) wf wn wd wg wl wh nL) (nL + 1) 0 0).1 = 1) ∨ (x = -3 ∧ (wRun nL (4 * (fr - 2)) (pEnd (po.map (fun q z => fL (gL z * 10 + q))) nL) (pOk (po.map (fun q z => fL (gL z * 10 + q))) (oo.map (fun q z => fL (gL z * 10 + q))) (fun z => fL (gL z * 10 + wa)) wf wn wd wg wl wh nL) (nL + 1) 0 0).1 = 2))) (fun u => [(uo, .inr (7, [.ref mo, .ref rL, .ref r0, .ref r1, .ref rK, .ref ma, .ref ro, va_rf od])), (mo, .inr (4, [.int (nI fr), .int (nI u.2.1), .int (nI u.2.2.1), .int (nI sm)])), (wo, .inr (2, [.ref ko, .int (nI wf), .int (nI wa), .int (nI wn), .int (oI po), .int (oI oo), .int (zb wd), .int (zb wg), .int wl, .int wh])), (ro, .inr (6, [.ref rL, va_rf u.2.2.2.1, .int (nI u.2.2.2.2.1), .int (nI u.2.2.2.2.2.1), .int (nI u.2.2.2.2.2.2.1), .int (nI u.2.2.2.2.2.2.2.1), .int (nI u.2.2.2.2.2.2.2.2.1), .int (nI u.2.2.2.2.2.2.2.2.2)])), (rL, .inr (0, [.int (nI 10), .ref vL, .ref aL, .ref bL, .int (nI nL)])), (vL, .inl (cL, 600, .inr (.inl u.1))), (aL, .inl (cI, 60, .inl (zN gL))), (bL, .inl (cI, 60, .inl (zN sL)))])) 0 0 (va_A [(uo, .inr (7, [.ref mo, .ref rL, .ref r0, .ref r1, .ref rK, .ref ma, .ref ro, va_rf od])), (mo, .inr (4, [.int (nI fr), .int (nI tr), .int (nI mh), .int (nI sm)])), (wo, .inr (2, [.ref ko, .int (nI wf), .int (nI wa), .int (nI wn), .int (oI po), .int (oI oo), .int (zb wd), .int (zb wg), .int wl, .int wh])), (ro, .inr (6, [.ref rL, va_rf rw, .int (nI st0), .int (nI en0), .int (nI fp), .int (nI pg), .int (nI fs), .int (nI fe)])), (rL, .inr (0, [.int (nI 10), .ref vL, .ref aL, .ref bL, .int (nI nL)])), (vL, .inl (cL, 600, .inr (.inl fL))), (aL, .inl (cI, 60, .inl (zN gL))), (bL, .inl (cI, 60, .inl (zN sL)))] sz) := by
  refine zk_enterW (cc := b_Runner_workOut) (maxL := 8) (ret := some .int) (by decide) rfl (Nat.le_of_ble_eq_true rfl) ?_
  intro p e s m args below meth c ls Q hx hb hml hr hlk hown hts hP hK hN hl hin hsz A hAe hA hD hS hQ
  subst hsz
  have hl : lv_has ls 8 [(0, .ref uo), (1, .ref wo), (2, .int (nI col))] := hl
  refine lv_iconst (v := nI 0) hx hb d_Runner_workOut_0 (by decide) ?_
  refine lv_istore_n (lv' := [(3, .int (nI 0)), (0, .ref uo), (1, .ref wo), (2, .int (nI col))]) hx hb d_Runner_workOut_1 rfl hl (by decide) rfl (fun ls hl => ?_)
  refine lv_iconst (v := nI 0) hx hb d_Runner_workOut_2 (by decide) ?_
  refine lv_istore (lv' := [(4, .int (nI 0)), (3, .int (nI 0)), (0, .ref uo), (1, .ref wo), (2, .int (nI col))]) hx hb d_Runner_workOut_3 hl (by decide) rfl (fun ls hl => ?_)
  refine lv_iconst (v := nI 1) hx hb d_Runner_workOut_5 (by decide) ?_
  refine lv_istore (lv' := [(5, .int (nI 1)), (4, .int (nI 0)), (3, .int (nI 0)), (0, .ref uo), (1, .ref wo), (2, .int (nI col))]) hx hb d_Runner_workOut_6 hl (by decide) rfl (fun ls hl => ?_)
  have lb8 : ∀ (fuel8 : Nat) (nx : Nat) (st : Nat) (lg : Nat) (d0 : Nat) (f1 : Nat → Int64) (rw1 : Option Nat) (st1 : Nat) (en1 : Nat) (fp1 : Nat) (pg1 : Nat) (fs1 : Nat) (fe1 : Nat), (st < nx) → (nx ≤ nL + 1) → (nL < d0 + st ∨ nL = 0) → (lg ≤ nL) → (wRun nL (4 * (fr - 2)) (pEnd (po.map (fun q z => fL (gL z * 10 + q))) nL) (pOk (po.map (fun q z => fL (gL z * 10 + q))) (oo.map (fun q z => fL (gL z * 10 + q))) (fun z => fL (gL z * 10 + wa)) wf wn wd wg wl wh nL) d0 st lg = wRun nL (4 * (fr - 2)) (pEnd (po.map (fun q z => fL (gL z * 10 + q))) nL) (pOk (po.map (fun q z => fL (gL z * 10 + q))) (oo.map (fun q z => fL (gL z * 10 + q))) (fun z => fL (gL z * 10 + wa)) wf wn wd wg wl wh nL) (nL + 1) 0 0) → (st < nL → pSt (po.map (fun q z => fL (gL z * 10 + q))) st = st) → (∀ j, st < j → j < nx → pEq (po.map (fun q z => fL (gL z * 10 + q))) st j = true) → (WoI fL f1 gL col (pVal (po.map (fun q z => fL (gL z * 10 + q))) (oo.map (fun q z => fL (gL z * 10 + q))) (fun z => fL (gL z * 10 + wa)) wf wn wd wg wl wh nL) st) → (nx = nL + 1 → nL ≤ st) → nL + 1 - nx < fuel8 → ∀ (ls : Array Slot) (H : Heap) (locs : List Loc), lv_has ls 8 [(0, .ref uo), (1, .ref wo), (2, .int (nI col)), (3, .int (nI lg)), (4, .int (nI st)), (5, .int (nI nx))] → va_P D vwCl [(uo, .inr (7, [.ref mo, .ref rL, .ref r0, .ref r1, .ref rK, .ref ma, .ref ro, va_rf od])), (mo, .inr (4, [.int (nI fr), .int (nI tr), .int (nI mh), .int (nI sm)])), (wo, .inr (2, [.ref ko, .int (nI wf), .int (nI wa), .int (nI wn), .int (oI po), .int (oI oo), .int (zb wd), .int (zb wg), .int wl, .int wh])), (ro, .inr (6, [.ref rL, va_rf rw1, .int (nI st1), .int (nI en1), .int (nI fp1), .int (nI pg1), .int (nI fs1), .int (nI fe1)])), (rL, .inr (0, [.int (nI 10), .ref vL, .ref aL, .ref bL, .int (nI nL)])), (vL, .inl (cL, 600, .inr (.inl f1))), (aL, .inl (cI, 60, .inl (zN gL))), (bL, .inl (cI, 60, .inl (zN sL)))] H → va_D A [(uo, .inr (7, [.ref mo, .ref rL, .ref r0, .ref r1, .ref rK, .ref ma, .ref ro, va_rf od])), (mo, .inr (4, [.int (nI fr), .int (nI tr), .int (nI mh), .int (nI sm)])), (wo, .inr (2, [.ref ko, .int (nI wf), .int (nI wa), .int (nI wn), .int (oI po), .int (oI oo), .int (zb wd), .int (zb wg), .int wl, .int wh])), (ro, .inr (6, [.ref rL, va_rf rw1, .int (nI st1), .int (nI en1), .int (nI fp1), .int (nI pg1), .int (nI fs1), .int (nI fe1)])), (rL, .inr (0, [.int (nI 10), .ref vL, .ref aL, .ref bL, .int (nI nL)])), (vL, .inl (cL, 600, .inr (.inl f1))), (aL, .inl (cI, 60, .inl (zN gL))), (bL, .inl (cI, 60, .inl (zN sL)))] → va_S A s.heap H locs → W p l e rm5_160 s m args below meth c H locs 0 0 Q (F0 m 8 ls []) := by
    intro fuel8
    induction fuel8 with
    | zero => intro nx st lg d0 f1 rw1 st1 en1 fp1 pg1 fs1 fe1 hnx hnx2 hd0 hlg hrun hst hpt hI hlast hfu8; exact absurd hfu8 (Nat.not_lt_zero _)
    | succ fuel8 ih8 =>
      intro nx st lg d0 f1 rw1 st1 en1 fp1 pg1 fs1 fe1 hnx hnx2 hd0 hlg hrun hst hpt hI hlast hfu8 ls H locs hl hP hD hS
      refine lv_iload hx hb d_Runner_workOut_8 (lv_at hl 5 rfl) ?_
      refine lv_aload_n hx hb d_Runner_workOut_10 rfl (lv_at hl 0 rfl) ?_
      refine va_get (C := R_Runner) (T := F_Runner) (N := 8) hx hb hts (fun w h => List.mem_cons_of_mem _ (hin_Runner w h)) hown hK hP 0 rfl rfl 1 (by decide) (hts _ (List.mem_cons_of_mem _ fl_Runner_14)) (fun _ h => h) rfl d_Runner_workOut_11 ?_
      refine va_get (C := R_Rows) (T := F_Rows) (N := 5) hx hb hts (fun w h => List.mem_cons_of_mem _ (hin_Rows w h)) hown hK hP 4 rfl rfl 4 (by decide) (hts _ (List.mem_cons_of_mem _ fl_Runner_88)) (fun _ h => h) rfl d_Runner_workOut_14 ?_
      refine zk_icmp_gt (tgt := 110) hx hb d_Runner_workOut_17 rfl (by omega) (by omega) (fun h17 => ?_) (fun h17 => ?_)
      · skip
        have hq0 : nL ≤ st := by omega
        have hres : (wRun nL (4 * (fr - 2)) (pEnd (po.map (fun q z => fL (gL z * 10 + q))) nL) (pOk (po.map (fun q z => fL (gL z * 10 + q))) (oo.map (fun q z => fL (gL z * 10 + q))) (fun z => fL (gL z * 10 + wa)) wf wn wd wg wl wh nL) (nL + 1) 0 0) = (0, lg) := by rw [← hrun]; exact wr_end hq0
        have hI9 : WoI fL f1 gL col (pVal (po.map (fun q z => fL (gL z * 10 + q))) (oo.map (fun q z => fL (gL z * 10 + q))) (fun z => fL (gL z * 10 + wa)) wf wn wd wg wl wh nL) nL := ⟨fun i hi => hI.1 i (by omega), hI.2⟩
        have hb9 : bk lg < 400 := by unfold bk; omega
        refine lv_aload_n hx hb d_Runner_workOut_110 rfl (lv_at hl 0 rfl) ?_
        refine va_get (C := R_Runner) (T := F_Runner) (N := 8) hx hb hts (fun w h => List.mem_cons_of_mem _ (hin_Runner w h)) hown hK hP 0 rfl rfl 0 (by decide) (hts _ (List.mem_cons_of_mem _ fl_Runner_34)) (fun _ h => h) rfl d_Runner_workOut_111 ?_
        refine lv_iconst (v := nI 2) hx hb d_Runner_workOut_114 (by decide) ?_
        refine lv_aload_n hx hb d_Runner_workOut_115 rfl (lv_at hl 0 rfl) ?_
        refine va_get (C := R_Runner) (T := F_Runner) (N := 8) hx hb hts (fun w h => List.mem_cons_of_mem _ (hin_Runner w h)) hown hK hP 0 rfl rfl 1 (by decide) (hts _ (List.mem_cons_of_mem _ fl_Runner_14)) (fun _ h => h) rfl d_Runner_workOut_116 ?_
        refine va_get (C := R_Rows) (T := F_Rows) (N := 5) hx hb hts (fun w h => List.mem_cons_of_mem _ (hin_Rows w h)) hown hK hP 4 rfl rfl 4 (by decide) (hts _ (List.mem_cons_of_mem _ fl_Runner_88)) (fun _ h => h) rfl d_Runner_workOut_119 ?_
        have hPc := hP.sub (ws' := []) [] rfl
        refine zk_ri (va_runSN (As := [.int (nI nL)]) (rest := [.int (nI 2), .ref mo]) ⟨hx, hb, hml, hown, hts⟩ (c_FQ_blocksOf l D cI cL cZ cW cR nL (by omega)) ⟨(va_cnB 1 hts (zk_gC (fun _ h => List.mem_cons_of_mem _ h) co_FQ_blocksOf) rfl rfl rfl (hN.1 _ nl_Runner_114) (hts _ (List.mem_cons_of_mem _ in_FQ)) hd_FQ_blocksOf ⟨Nat.le_of_ble_eq_true rfl, Nat.le_of_ble_eq_true rfl⟩), (hts _ (List.mem_cons_of_mem _ sm_FQ_blocksOf)), trivial⟩ (zk_sr hN hK hPc) rfl rfl hl.1 rfl (lv_room (Nat.le_of_ble_eq_true rfl)) d_Runner_workOut_122 ⟨Nat.zero_le _, Nat.zero_le _⟩) ?_
        refine lv_imul hx hb d_Runner_workOut_125 ?_
        refine zk_topi (show ((nI 2) * (nI (bk nL))) = nI (2 * (bk nL)) from pk_mul 2 (bk nL)) ?_
        refine lv_iload_n hx hb d_Runner_workOut_126 rfl (lv_at hl 3 rfl) ?_
        refine zk_if_ne (tgt := 134) hx hb d_Runner_workOut_127 rfl (by omega) (fun h127 => ?_) (fun h127 => ?_)
        · skip
          have hm9 : max mh (2 + bk lg) = max mh (if (wRun nL (4 * (fr - 2)) (pEnd (po.map (fun q z => fL (gL z * 10 + q))) nL) (pOk (po.map (fun q z => fL (gL z * 10 + q))) (oo.map (fun q z => fL (gL z * 10 + q))) (fun z => fL (gL z * 10 + wa)) wf wn wd wg wl wh nL) (nL + 1) 0 0).2 = 0 then 0 else 2 + bk (wRun nL (4 * (fr - 2)) (pEnd (po.map (fun q z => fL (gL z * 10 + q))) nL) (pOk (po.map (fun q z => fL (gL z * 10 + q))) (oo.map (fun q z => fL (gL z * 10 + q))) (fun z => fL (gL z * 10 + wa)) wf wn wd wg wl wh nL) (nL + 1) 0 0).2) := by rw [hres]; show _ = max mh (if lg = 0 then 0 else 2 + bk lg); rw [if_neg h127]
          refine lv_iconst (v := nI 2) hx hb d_Runner_workOut_134 (by decide) ?_
          refine lv_iload_n hx hb d_Runner_workOut_135 rfl (lv_at hl 3 rfl) ?_
          have hPc := hP.sub (ws' := []) [] rfl
          refine zk_ri (va_runSN (As := [.int (nI lg)]) (rest := [.int (nI 2), .int (nI (2 * (bk nL))), .ref mo]) ⟨hx, hb, hml, hown, hts⟩ (c_FQ_blocksOf l D cI cL cZ cW cR lg (by omega)) ⟨(va_cnB 1 hts (zk_gC (fun _ h => List.mem_cons_of_mem _ h) co_FQ_blocksOf) rfl rfl rfl (hN.1 _ nl_Runner_114) (hts _ (List.mem_cons_of_mem _ in_FQ)) hd_FQ_blocksOf ⟨Nat.le_of_ble_eq_true rfl, Nat.le_of_ble_eq_true rfl⟩), (hts _ (List.mem_cons_of_mem _ sm_FQ_blocksOf)), trivial⟩ (zk_sr hN hK hPc) rfl rfl hl.1 rfl (lv_room (Nat.le_of_ble_eq_true rfl)) d_Runner_workOut_136 ⟨Nat.zero_le _, Nat.zero_le _⟩) ?_
          refine lv_iadd hx hb d_Runner_workOut_139 ?_
          refine zk_topi (show ((nI 2) + (nI (bk lg))) = nI (2 + (bk lg)) from nI_add 2 (bk lg)) ?_
          have hPc := hP.sub (ws' := [(mo, .inr (4, [.int (nI fr), .int (nI tr), .int (nI mh), .int (nI sm)]))]) [1] rfl
          have hDc := hD.sub (ws' := [(mo, .inr (4, [.int (nI fr), .int (nI tr), .int (nI mh), .int (nI sm)]))]) [1] (by decide) rfl
          refine zk_wv (wr := [(uo, .inr (7, [.ref mo, .ref rL, .ref r0, .ref r1, .ref rK, .ref ma, .ref ro, va_rf od])), (wo, .inr (2, [.ref ko, .int (nI wf), .int (nI wa), .int (nI wn), .int (oI po), .int (oI oo), .int (zb wd), .int (zb wg), .int wl, .int wh])), (ro, .inr (6, [.ref rL, va_rf rw1, .int (nI st1), .int (nI en1), .int (nI fp1), .int (nI pg1), .int (nI fs1), .int (nI fe1)])), (rL, .inr (0, [.int (nI 10), .ref vL, .ref aL, .ref bL, .int (nI nL)])), (vL, .inl (cL, 600, .inr (.inl f1))), (aL, .inl (cI, 60, .inl (zN gL))), (bL, .inl (cI, 60, .inl (zN sL)))]) (w2 := (fun _ => [(uo, .inr (7, [.ref mo, .ref rL, .ref r0, .ref r1, .ref rK, .ref ma, .ref ro, va_rf od])), (mo, .inr (4, [.int (nI fr), .int (nI (tr + (2 * (bk nL)))), .int (nI (max mh (2 + (bk lg)))), .int (nI sm)])), (wo, .inr (2, [.ref ko, .int (nI wf), .int (nI wa), .int (nI wn), .int (oI po), .int (oI oo), .int (zb wd), .int (zb wg), .int wl, .int wh])), (ro, .inr (6, [.ref rL, va_rf rw1, .int (nI st1), .int (nI en1), .int (nI fp1), .int (nI pg1), .int (nI fs1), .int (nI fe1)])), (rL, .inr (0, [.int (nI 10), .ref vL, .ref aL, .ref bL, .int (nI nL)])), (vL, .inl (cL, 600, .inr (.inl f1))), (aL, .inl (cI, 60, .inl (zN gL))), (bL, .inl (cI, 60, .inl (zN sL)))])) hP hD hS hA [1] [0, 2, 3, 4, 5, 6, 7] [0, 7, 1, 2, 3, 4, 5, 6] rfl rfl (by decide) (by decide) (fun _ => rfl) (by decide) (va_runV (As := [.int (nI (2 * (bk nL))), .int (nI (2 + (bk lg)))]) (rest := []) ⟨hx, hb, hml, hown, hts⟩ (c_Meter_addStep l D cI cL cZ cW cR _ mo fr tr mh sm (2 * (bk nL)) (2 + (bk lg)) (by omega) (by omega)) (cwV 2 hts (zk_gV (fun _ h => List.mem_cons_of_mem _ h) ml_Runner_118 im_Meter_addStep se_Meter_addStep in_Meter co_Meter_addStep) rfl rfl rfl ⟨rfl, hd_Meter_addStep⟩ ⟨Nat.le_of_ble_eq_true rfl, Nat.le_of_ble_eq_true rfl⟩) (zk_vw (q0 := 0) hN hK hPc hDc rfl rfl) rfl rfl hl.1 rfl (lv_room (Nat.le_of_ble_eq_true rfl)) d_Runner_workOut_140 ⟨Nat.zero_le _, Nat.zero_le _⟩) (fun u H locs hpost hP hD hS => ?_)
          have hP : va_P D vwCl [(uo, .inr (7, [.ref mo, .ref rL, .ref r0, .ref r1, .ref rK, .ref ma, .ref ro, va_rf od])), (mo, .inr (4, [.int (nI fr), .int (nI (tr + (2 * (bk nL)))), .int (nI (max mh (2 + (bk lg)))), .int (nI sm)])), (wo, .inr (2, [.ref ko, .int (nI wf), .int (nI wa), .int (nI wn), .int (oI po), .int (oI oo), .int (zb wd), .int (zb wg), .int wl, .int wh])), (ro, .inr (6, [.ref rL, va_rf rw1, .int (nI st1), .int (nI en1), .int (nI fp1), .int (nI pg1), .int (nI fs1), .int (nI fe1)])), (rL, .inr (0, [.int (nI 10), .ref vL, .ref aL, .ref bL, .int (nI nL)])), (vL, .inl (cL, 600, .inr (.inl f1))), (aL, .inl (cI, 60, .inl (zN gL))), (bL, .inl (cI, 60, .inl (zN sL)))] H := hP
          have hD : va_D A [(uo, .inr (7, [.ref mo, .ref rL, .ref r0, .ref r1, .ref rK, .ref ma, .ref ro, va_rf od])), (mo, .inr (4, [.int (nI fr), .int (nI (tr + (2 * (bk nL)))), .int (nI (max mh (2 + (bk lg)))), .int (nI sm)])), (wo, .inr (2, [.ref ko, .int (nI wf), .int (nI wa), .int (nI wn), .int (oI po), .int (oI oo), .int (zb wd), .int (zb wg), .int wl, .int wh])), (ro, .inr (6, [.ref rL, va_rf rw1, .int (nI st1), .int (nI en1), .int (nI fp1), .int (nI pg1), .int (nI fs1), .int (nI fe1)])), (rL, .inr (0, [.int (nI 10), .ref vL, .ref aL, .ref bL, .int (nI nL)])), (vL, .inl (cL, 600, .inr (.inl f1))), (aL, .inl (cI, 60, .inl (zN gL))), (bL, .inl (cI, 60, .inl (zN sL)))] := hD
          refine lv_iconst (v := nI 0) hx hb d_Runner_workOut_143 (by decide) ?_
          exact zk_iretW hx hb hr hlk hAe hQ hK ((f1, tr + (2 * (bk nL)), max mh (2 + (bk lg)), rw1, st1, en1, fp1, pg1, fs1, fe1)) (⟨Nat.max_lt.mpr ⟨hmh, by omega⟩, Or.inl ⟨rfl, by rw [hres], hI9, rfl, hm9⟩⟩) hP hD hS d_Runner_workOut_144
        · skip
          have hm9 : max mh 0 = max mh (if (wRun nL (4 * (fr - 2)) (pEnd (po.map (fun q z => fL (gL z * 10 + q))) nL) (pOk (po.map (fun q z => fL (gL z * 10 + q))) (oo.map (fun q z => fL (gL z * 10 + q))) (fun z => fL (gL z * 10 + wa)) wf wn wd wg wl wh nL) (nL + 1) 0 0).2 = 0 then 0 else 2 + bk (wRun nL (4 * (fr - 2)) (pEnd (po.map (fun q z => fL (gL z * 10 + q))) nL) (pOk (po.map (fun q z => fL (gL z * 10 + q))) (oo.map (fun q z => fL (gL z * 10 + q))) (fun z => fL (gL z * 10 + wa)) wf wn wd wg wl wh nL) (nL + 1) 0 0).2) := by rw [hres]; show _ = max mh (if lg = 0 then 0 else 2 + bk lg); rw [if_pos h127]
          refine lv_iconst (v := nI 0) hx hb d_Runner_workOut_130 (by decide) ?_
          refine lv_goto (tgt := 140) hx hb d_Runner_workOut_131 rfl ?_
          have hPc := hP.sub (ws' := [(mo, .inr (4, [.int (nI fr), .int (nI tr), .int (nI mh), .int (nI sm)]))]) [1] rfl
          have hDc := hD.sub (ws' := [(mo, .inr (4, [.int (nI fr), .int (nI tr), .int (nI mh), .int (nI sm)]))]) [1] (by decide) rfl
          refine zk_wv (wr := [(uo, .inr (7, [.ref mo, .ref rL, .ref r0, .ref r1, .ref rK, .ref ma, .ref ro, va_rf od])), (wo, .inr (2, [.ref ko, .int (nI wf), .int (nI wa), .int (nI wn), .int (oI po), .int (oI oo), .int (zb wd), .int (zb wg), .int wl, .int wh])), (ro, .inr (6, [.ref rL, va_rf rw1, .int (nI st1), .int (nI en1), .int (nI fp1), .int (nI pg1), .int (nI fs1), .int (nI fe1)])), (rL, .inr (0, [.int (nI 10), .ref vL, .ref aL, .ref bL, .int (nI nL)])), (vL, .inl (cL, 600, .inr (.inl f1))), (aL, .inl (cI, 60, .inl (zN gL))), (bL, .inl (cI, 60, .inl (zN sL)))]) (w2 := (fun _ => [(uo, .inr (7, [.ref mo, .ref rL, .ref r0, .ref r1, .ref rK, .ref ma, .ref ro, va_rf od])), (mo, .inr (4, [.int (nI fr), .int (nI (tr + (2 * (bk nL)))), .int (nI (max mh 0)), .int (nI sm)])), (wo, .inr (2, [.ref ko, .int (nI wf), .int (nI wa), .int (nI wn), .int (oI po), .int (oI oo), .int (zb wd), .int (zb wg), .int wl, .int wh])), (ro, .inr (6, [.ref rL, va_rf rw1, .int (nI st1), .int (nI en1), .int (nI fp1), .int (nI pg1), .int (nI fs1), .int (nI fe1)])), (rL, .inr (0, [.int (nI 10), .ref vL, .ref aL, .ref bL, .int (nI nL)])), (vL, .inl (cL, 600, .inr (.inl f1))), (aL, .inl (cI, 60, .inl (zN gL))), (bL, .inl (cI, 60, .inl (zN sL)))])) hP hD hS hA [1] [0, 2, 3, 4, 5, 6, 7] [0, 7, 1, 2, 3, 4, 5, 6] rfl rfl (by decide) (by decide) (fun _ => rfl) (by decide) (va_runV (As := [.int (nI (2 * (bk nL))), .int (nI 0)]) (rest := []) ⟨hx, hb, hml, hown, hts⟩ (c_Meter_addStep l D cI cL cZ cW cR _ mo fr tr mh sm (2 * (bk nL)) 0 (by omega) (by omega)) (cwV 2 hts (zk_gV (fun _ h => List.mem_cons_of_mem _ h) ml_Runner_118 im_Meter_addStep se_Meter_addStep in_Meter co_Meter_addStep) rfl rfl rfl ⟨rfl, hd_Meter_addStep⟩ ⟨Nat.le_of_ble_eq_true rfl, Nat.le_of_ble_eq_true rfl⟩) (zk_vw (q0 := 0) hN hK hPc hDc rfl rfl) rfl rfl hl.1 rfl (lv_room (Nat.le_of_ble_eq_true rfl)) d_Runner_workOut_140 ⟨Nat.zero_le _, Nat.zero_le _⟩) (fun u H locs hpost hP hD hS => ?_)
          have hP : va_P D vwCl [(uo, .inr (7, [.ref mo, .ref rL, .ref r0, .ref r1, .ref rK, .ref ma, .ref ro, va_rf od])), (mo, .inr (4, [.int (nI fr), .int (nI (tr + (2 * (bk nL)))), .int (nI (max mh 0)), .int (nI sm)])), (wo, .inr (2, [.ref ko, .int (nI wf), .int (nI wa), .int (nI wn), .int (oI po), .int (oI oo), .int (zb wd), .int (zb wg), .int wl, .int wh])), (ro, .inr (6, [.ref rL, va_rf rw1, .int (nI st1), .int (nI en1), .int (nI fp1), .int (nI pg1), .int (nI fs1), .int (nI fe1)])), (rL, .inr (0, [.int (nI 10), .ref vL, .ref aL, .ref bL, .int (nI nL)])), (vL, .inl (cL, 600, .inr (.inl f1))), (aL, .inl (cI, 60, .inl (zN gL))), (bL, .inl (cI, 60, .inl (zN sL)))] H := hP
          have hD : va_D A [(uo, .inr (7, [.ref mo, .ref rL, .ref r0, .ref r1, .ref rK, .ref ma, .ref ro, va_rf od])), (mo, .inr (4, [.int (nI fr), .int (nI (tr + (2 * (bk nL)))), .int (nI (max mh 0)), .int (nI sm)])), (wo, .inr (2, [.ref ko, .int (nI wf), .int (nI wa), .int (nI wn), .int (oI po), .int (oI oo), .int (zb wd), .int (zb wg), .int wl, .int wh])), (ro, .inr (6, [.ref rL, va_rf rw1, .int (nI st1), .int (nI en1), .int (nI fp1), .int (nI pg1), .int (nI fs1), .int (nI fe1)])), (rL, .inr (0, [.int (nI 10), .ref vL, .ref aL, .ref bL, .int (nI nL)])), (vL, .inl (cL, 600, .inr (.inl f1))), (aL, .inl (cI, 60, .inl (zN gL))), (bL, .inl (cI, 60, .inl (zN sL)))] := hD
          refine lv_iconst (v := nI 0) hx hb d_Runner_workOut_143 (by decide) ?_
          exact zk_iretW hx hb hr hlk hAe hQ hK ((f1, tr + (2 * (bk nL)), max mh 0, rw1, st1, en1, fp1, pg1, fs1, fe1)) (⟨Nat.max_lt.mpr ⟨hmh, by omega⟩, Or.inl ⟨rfl, by rw [hres], hI9, rfl, hm9⟩⟩) hP hD hS d_Runner_workOut_144
      · skip
        refine lv_iload hx hb d_Runner_workOut_20 (lv_at hl 5 rfl) ?_
        refine lv_aload_n hx hb d_Runner_workOut_22 rfl (lv_at hl 0 rfl) ?_
        refine va_get (C := R_Runner) (T := F_Runner) (N := 8) hx hb hts (fun w h => List.mem_cons_of_mem _ (hin_Runner w h)) hown hK hP 0 rfl rfl 1 (by decide) (hts _ (List.mem_cons_of_mem _ fl_Runner_14)) (fun _ h => h) rfl d_Runner_workOut_23 ?_
        refine va_get (C := R_Rows) (T := F_Rows) (N := 5) hx hb hts (fun w h => List.mem_cons_of_mem _ (hin_Rows w h)) hown hK hP 4 rfl rfl 4 (by decide) (hts _ (List.mem_cons_of_mem _ fl_Runner_88)) (fun _ h => h) rfl d_Runner_workOut_26 ?_
        refine zk_icmp_eq (tgt := 44) hx hb d_Runner_workOut_29 rfl (by omega) (by omega) (fun h29 => ?_) (fun h29 => ?_)
        · skip
          have hpe : pEnd (po.map (fun q z => fL (gL z * 10 + q))) nL st = nx := pEnd_eq hnx (by omega) hpt (fun q => absurd h29 (by omega))
          have hnn : nx < nL → pSt (po.map (fun q z => fL (gL z * 10 + q))) nx = nx := fun q => absurd q (by omega)
          refine lv_iload hx hb d_Runner_workOut_44 (lv_at hl 5 rfl) ?_
          refine lv_iload hx hb d_Runner_workOut_46 (lv_at hl 4 rfl) ?_
          refine lv_isub hx hb d_Runner_workOut_48 ?_
          refine zk_topi (show ((nI nx) - (nI st)) = nI (nx - st) from pk_sub (by omega)) ?_
          refine lv_istore (lv' := [(6, .int (nI (nx - st))), (0, .ref uo), (1, .ref wo), (2, .int (nI col)), (3, .int (nI lg)), (4, .int (nI st)), (5, .int (nI nx))]) hx hb d_Runner_workOut_49 hl (by decide) rfl (fun ls hl => ?_)
          refine lv_iload hx hb d_Runner_workOut_51 (lv_at hl 0 rfl) ?_
          refine lv_iconst (v := nI 4) hx hb d_Runner_workOut_53 (by decide) ?_
          refine lv_aload_n hx hb d_Runner_workOut_54 rfl (lv_at hl 1 rfl) ?_
          refine va_get (C := R_Runner) (T := F_Runner) (N := 8) hx hb hts (fun w h => List.mem_cons_of_mem _ (hin_Runner w h)) hown hK hP 0 rfl rfl 0 (by decide) (hts _ (List.mem_cons_of_mem _ fl_Runner_34)) (fun _ h => h) rfl d_Runner_workOut_55 ?_
          refine va_get (C := R_Meter) (T := F_Meter) (N := 4) hx hb hts (fun w h => List.mem_cons_of_mem _ (hin_Meter w h)) hown hK hP 1 rfl rfl 0 (by decide) (hts _ (List.mem_cons_of_mem _ fl_Runner_181)) (fun _ h => h) rfl d_Runner_workOut_58 ?_
          refine lv_iconst (v := nI 2) hx hb d_Runner_workOut_61 (by decide) ?_
          refine lv_isub hx hb d_Runner_workOut_62 ?_
          refine zk_topi (show ((nI fr) - (nI 2)) = nI (fr - 2) from pk_sub (by omega)) ?_
          refine lv_imul hx hb d_Runner_workOut_63 ?_
          refine zk_topi (show ((nI 4) * (nI (fr - 2))) = nI (4 * (fr - 2)) from pk_mul 4 (fr - 2)) ?_
          refine zk_icmp_le (tgt := 70) hx hb d_Runner_workOut_64 rfl (by omega) (by omega) (fun h64 => ?_) (fun h64 => ?_)
          · skip
            obtain ⟨d1, rfl⟩ : ∃ d1, d0 = d1 + 1 := ⟨d0 - 1, by omega⟩
            refine lv_aload_n hx hb d_Runner_workOut_70 rfl (lv_at hl 1 rfl) ?_
            refine va_get (C := R_Runner) (T := F_Runner) (N := 8) hx hb hts (fun w h => List.mem_cons_of_mem _ (hin_Runner w h)) hown hK hP 0 rfl rfl 6 (by decide) (hts _ (List.mem_cons_of_mem _ fl_Runner_52)) (fun _ h => h) rfl d_Runner_workOut_71 ?_
            refine lv_aload_n hx hb d_Runner_workOut_74 rfl (lv_at hl 2 rfl) ?_
            refine lv_iload hx hb d_Runner_workOut_75 (lv_at hl 5 rfl) ?_
            refine lv_iload hx hb d_Runner_workOut_77 (lv_at hl 6 rfl) ?_
            refine lv_iload_n hx hb d_Runner_workOut_79 rfl (lv_at hl 3 rfl) ?_
            have hPc := hP.sub (ws' := [(ro, .inr (6, [.ref rL, va_rf rw1, .int (nI st1), .int (nI en1), .int (nI fp1), .int (nI pg1), .int (nI fs1), .int (nI fe1)])), (wo, .inr (2, [.ref ko, .int (nI wf), .int (nI wa), .int (nI wn), .int (oI po), .int (oI oo), .int (zb wd), .int (zb wg), .int wl, .int wh])), (rL, .inr (0, [.int (nI 10), .ref vL, .ref aL, .ref bL, .int (nI nL)])), (vL, .inl (cL, 600, .inr (.inl f1))), (aL, .inl (cI, 60, .inl (zN gL))), (bL, .inl (cI, 60, .inl (zN sL)))]) [3, 2, 4, 5, 6, 7] rfl
            have hDc := hD.sub (ws' := [(ro, .inr (6, [.ref rL, va_rf rw1, .int (nI st1), .int (nI en1), .int (nI fp1), .int (nI pg1), .int (nI fs1), .int (nI fe1)])), (wo, .inr (2, [.ref ko, .int (nI wf), .int (nI wa), .int (nI wn), .int (oI po), .int (oI oo), .int (zb wd), .int (zb wg), .int wl, .int wh])), (rL, .inr (0, [.int (nI 10), .ref vL, .ref aL, .ref bL, .int (nI nL)])), (vL, .inl (cL, 600, .inr (.inl f1))), (aL, .inl (cI, 60, .inl (zN gL))), (bL, .inl (cI, 60, .inl (zN sL)))]) [3, 2, 4, 5, 6, 7] (by decide) rfl
            refine zk_wi (wr := [(uo, .inr (7, [.ref mo, .ref rL, .ref r0, .ref r1, .ref rK, .ref ma, .ref ro, va_rf od])), (mo, .inr (4, [.int (nI fr), .int (nI tr), .int (nI mh), .int (nI sm)]))]) (w2 := (fun u => [(uo, .inr (7, [.ref mo, .ref rL, .ref r0, .ref r1, .ref rK, .ref ma, .ref ro, va_rf od])), (mo, .inr (4, [.int (nI fr), .int (nI tr), .int (nI mh), .int (nI sm)])), (wo, .inr (2, [.ref ko, .int (nI wf), .int (nI wa), .int (nI wn), .int (oI po), .int (oI oo), .int (zb wd), .int (zb wg), .int wl, .int wh])), (ro, .inr (6, [.ref rL, .ref wo, .int (nI st), .int (nI nx), .int (nI u.1), .int (nI u.2.1), .int (nI u.2.2.1), .int (nI u.2.2.2.1)])), (rL, .inr (0, [.int (nI 10), .ref vL, .ref aL, .ref bL, .int (nI nL)])), (vL, .inl (cL, 600, .inr (.inl u.2.2.2.2))), (aL, .inl (cI, 60, .inl (zN gL))), (bL, .inl (cI, 60, .inl (zN sL)))])) hP hD hS hA [3, 2, 4, 5, 6, 7] [0, 1] [0, 1, 3, 2, 4, 5, 6, 7] rfl rfl (by decide) (by decide) (fun _ => rfl) (by decide) (va_runV (As := [.ref wo, .int (nI st), .int (nI nx), .int (nI col)]) (rest := []) ⟨hx, hb, hml, hown, hts⟩ (c_Reckoner_reckon l D cI cL cZ cW cR _ ro st1 en1 fp1 pg1 fs1 fe1 wo ko wf wa wn rw1 (oI po) wd wg wl wh rL vL aL bL 10 nL 600 60 f1 gL sL oo hoo st nx col hoo2 (by omega) (by omega) (by omega) (by omega) (by omega) hwn hwn2 hwf (by decide) (by decide) (fun z hz => by have := hgL z hz; omega)) (cwV 4 hts (zk_gV (fun _ h => List.mem_cons_of_mem _ h) ml_Runner_184 im_Reckoner_reckon se_Reckoner_reckon in_Reckoner co_Reckoner_reckon) rfl rfl rfl ⟨rfl, hd_Reckoner_reckon⟩ ⟨Nat.le_of_ble_eq_true rfl, Nat.le_of_ble_eq_true rfl⟩) (zk_vw (q0 := 0) hN hK hPc hDc rfl rfl) rfl rfl hl.1 rfl (lv_room (Nat.le_of_ble_eq_true rfl)) d_Runner_workOut_80 ⟨Nat.zero_le _, Nat.zero_le _⟩) (fun xr u H locs hpost hP hD hS => ?_)
            have hP : va_P D vwCl [(uo, .inr (7, [.ref mo, .ref rL, .ref r0, .ref r1, .ref rK, .ref ma, .ref ro, va_rf od])), (mo, .inr (4, [.int (nI fr), .int (nI tr), .int (nI mh), .int (nI sm)])), (wo, .inr (2, [.ref ko, .int (nI wf), .int (nI wa), .int (nI wn), .int (oI po), .int (oI oo), .int (zb wd), .int (zb wg), .int wl, .int wh])), (ro, .inr (6, [.ref rL, .ref wo, .int (nI st), .int (nI nx), .int (nI u.1), .int (nI u.2.1), .int (nI u.2.2.1), .int (nI u.2.2.2.1)])), (rL, .inr (0, [.int (nI 10), .ref vL, .ref aL, .ref bL, .int (nI nL)])), (vL, .inl (cL, 600, .inr (.inl u.2.2.2.2))), (aL, .inl (cI, 60, .inl (zN gL))), (bL, .inl (cI, 60, .inl (zN sL)))] H := hP
            have hD : va_D A [(uo, .inr (7, [.ref mo, .ref rL, .ref r0, .ref r1, .ref rK, .ref ma, .ref ro, va_rf od])), (mo, .inr (4, [.int (nI fr), .int (nI tr), .int (nI mh), .int (nI sm)])), (wo, .inr (2, [.ref ko, .int (nI wf), .int (nI wa), .int (nI wn), .int (oI po), .int (oI oo), .int (zb wd), .int (zb wg), .int wl, .int wh])), (ro, .inr (6, [.ref rL, .ref wo, .int (nI st), .int (nI nx), .int (nI u.1), .int (nI u.2.1), .int (nI u.2.2.1), .int (nI u.2.2.2.1)])), (rL, .inr (0, [.int (nI 10), .ref vL, .ref aL, .ref bL, .int (nI nL)])), (vL, .inl (cL, 600, .inr (.inl u.2.2.2.2))), (aL, .inl (cI, 60, .inl (zN gL))), (bL, .inl (cI, 60, .inl (zN sL)))] := hD
            rw [wo_oo hI oo hoo hoo2, wo_col hI (by omega) (by omega)] at hpost
            refine lv_istore (lv' := [(7, .int xr), (6, .int (nI (nx - st))), (0, .ref uo), (1, .ref wo), (2, .int (nI col)), (3, .int (nI lg)), (4, .int (nI st)), (5, .int (nI nx))]) hx hb d_Runner_workOut_83 hl (by decide) rfl (fun ls hl => ?_)
            refine lv_iload hx hb d_Runner_workOut_85 (lv_at hl 0 rfl) ?_
            refine lv_if_eq (tgt := 93) hx hb d_Runner_workOut_87 rfl (fun h87 => ?_) (fun h87 => ?_)
            · skip
              obtain ⟨hx9, hf9, hok9⟩ := hpost.resolve_right (fun q => absurd (h87.symm.trans q.1) (by decide))
              have hok : (pOk (po.map (fun q z => fL (gL z * 10 + q))) (oo.map (fun q z => fL (gL z * 10 + q))) (fun z => fL (gL z * 10 + wa)) wf wn wd wg wl wh nL) st = true := by unfold pOk; rw [hpe]; exact pk_true hok9
              have hz1 : nL < d1 + nx ∨ nL = 0 := by omega
              have hz2 : wRun nL (4 * (fr - 2)) (pEnd (po.map (fun q z => fL (gL z * 10 + q))) nL) (pOk (po.map (fun q z => fL (gL z * 10 + q))) (oo.map (fun q z => fL (gL z * 10 + q))) (fun z => fL (gL z * 10 + wa)) wf wn wd wg wl wh nL) d1 nx (max lg (nx - st)) = wRun nL (4 * (fr - 2)) (pEnd (po.map (fun q z => fL (gL z * 10 + q))) nL) (pOk (po.map (fun q z => fL (gL z * 10 + q))) (oo.map (fun q z => fL (gL z * 10 + q))) (fun z => fL (gL z * 10 + wa)) wf wn wd wg wl wh nL) (nL + 1) 0 0 := by rw [← hrun]; simp only [wRun]; rw [if_neg (by omega), hpe, if_neg (by omega), if_neg (by rw [hok]; exact fun q => Bool.false_ne_true q.symm)]
              have hz3 := hnn
              have hz4 : ∀ j, nx < j → j < nx + 1 → pEq (po.map (fun q z => fL (gL z * 10 + q))) nx j = true := fun j h1 h2 => absurd h2 (by omega)
              have hz5 : WoI fL u.2.2.2.2 gL col (pVal (po.map (fun q z => fL (gL z * 10 + q))) (oo.map (fun q z => fL (gL z * 10 + q))) (fun z => fL (gL z * 10 + wa)) wf wn wd wg wl wh nL) nx := by rw [hf9]; exact wo_put hI hcol (by omega) (by omega) hgi (fun d hd => by unfold pVal; rw [pSt_s (hst (by omega)) hpt (st + d) (by omega) (by omega), hpe])
              have hz6 : nx + 1 = nL + 1 → nL ≤ nx := by omega
              refine lv_iload_n hx hb d_Runner_workOut_93 rfl (lv_at hl 5 rfl) ?_
              refine lv_iload hx hb d_Runner_workOut_94 (lv_at hl 1 rfl) ?_
              refine va_mmax hx hb (hml.trans hl.1.symm) hown (hts _ (List.mem_cons_of_mem _ ml_Runner_188)) (hts _ (List.mem_cons_of_mem _ sm_Math_max)) (hts _ (List.mem_cons_of_mem _ in_Math)) (hts _ (List.mem_cons_of_mem _ co_Math_max)) (Nat.le_of_ble_eq_true rfl) (Nat.le_of_ble_eq_true rfl) (Nat.le_of_ble_eq_true rfl) (Nat.le_of_ble_eq_true rfl) d_Runner_workOut_96 ?_
              refine zk_topi (show (if nI lg < nI (nx - st) then nI (nx - st) else nI lg) = nI (max lg (nx - st)) from zk_nmax (by omega) (by omega)) ?_
              refine lv_istore_n (lv' := [(3, .int (nI (max lg (nx - st)))), (7, .int xr), (6, .int (nI (nx - st))), (0, .ref uo), (1, .ref wo), (2, .int (nI col)), (4, .int (nI st)), (5, .int (nI nx))]) hx hb d_Runner_workOut_99 rfl hl (by decide) rfl (fun ls hl => ?_)
              refine lv_iload hx hb d_Runner_workOut_100 (lv_at hl 7 rfl) ?_
              refine lv_istore (lv' := [(4, .int (nI nx)), (3, .int (nI (max lg (nx - st)))), (7, .int xr), (6, .int (nI (nx - st))), (0, .ref uo), (1, .ref wo), (2, .int (nI col)), (5, .int (nI nx))]) hx hb d_Runner_workOut_102 hl (by decide) rfl (fun ls hl => ?_)
              refine lv_iinc (k := 7) (v := nI (nx + 1)) (lv' := [(5, .int (nI (nx + 1))), (4, .int (nI nx)), (3, .int (nI (max lg (nx - st)))), (7, .int xr), (6, .int (nI (nx - st))), (0, .ref uo), (1, .ref wo), (2, .int (nI col))]) hx hb d_Runner_workOut_104 hl rfl (nI_add nx 1) (by decide) rfl (fun ls hl => ?_)
              refine lv_goto (tgt := 8) hx hb d_Runner_workOut_107 rfl ?_
              exact ih8 (nx + 1) nx (max lg (nx - st)) d1 u.2.2.2.2 (some wo) st nx u.1 u.2.1 u.2.2.1 u.2.2.2.1 (by omega) (by omega) hz1 (by omega) hz2 hz3 hz4 hz5 hz6 (by omega) ls _ _ (lv_sub hl [5, 6, 7, 2, 1, 0] rfl) hP hD hS
            · skip
              obtain ⟨hx9, dB, hdB, hbad⟩ := hpost.resolve_left (fun q => h87 (q.1.trans nI_0))
              have hok : (pOk (po.map (fun q z => fL (gL z * 10 + q))) (oo.map (fun q z => fL (gL z * 10 + q))) (fun z => fL (gL z * 10 + wa)) wf wn wd wg wl wh nL) st = false := by unfold pOk; rw [hpe]; exact pk_false dB hdB hbad
              have hres : (wRun nL (4 * (fr - 2)) (pEnd (po.map (fun q z => fL (gL z * 10 + q))) nL) (pOk (po.map (fun q z => fL (gL z * 10 + q))) (oo.map (fun q z => fL (gL z * 10 + q))) (fun z => fL (gL z * 10 + wa)) wf wn wd wg wl wh nL) (nL + 1) 0 0).1 = 2 := by rw [← hrun]; simp only [wRun]; rw [if_neg (by omega), hpe, if_neg (by omega), if_pos hok]
              refine lv_iload hx hb d_Runner_workOut_90 (lv_at hl 0 rfl) ?_
              exact zk_iretW hx hb hr hlk hAe hQ hK ((u.2.2.2.2, tr, mh, some wo, st, nx, u.1, u.2.1, u.2.2.1, u.2.2.2.1)) (⟨hmh, Or.inr (Or.inr ⟨hx9, hres⟩)⟩) hP hD hS d_Runner_workOut_92
          · skip
            obtain ⟨d1, rfl⟩ : ∃ d1, d0 = d1 + 1 := ⟨d0 - 1, by omega⟩
            have hres : (wRun nL (4 * (fr - 2)) (pEnd (po.map (fun q z => fL (gL z * 10 + q))) nL) (pOk (po.map (fun q z => fL (gL z * 10 + q))) (oo.map (fun q z => fL (gL z * 10 + q))) (fun z => fL (gL z * 10 + wa)) wf wn wd wg wl wh nL) (nL + 1) 0 0).1 = 1 := by rw [← hrun]; simp only [wRun]; rw [if_neg (by omega), hpe, if_pos (by omega)]
            refine lv_bipush (v := (-2)) hx hb d_Runner_workOut_67 (by decide) ?_
            exact zk_iretW hx hb hr hlk hAe hQ hK ((f1, tr, mh, rw1, st1, en1, fp1, pg1, fs1, fe1)) (⟨hmh, Or.inr (Or.inl ⟨rfl, hres⟩)⟩) hP hD hS d_Runner_workOut_69
        · skip
          refine lv_aload_n hx hb d_Runner_workOut_32 rfl (lv_at hl 0 rfl) ?_
          refine lv_aload_n hx hb d_Runner_workOut_33 rfl (lv_at hl 1 rfl) ?_
          refine lv_iload hx hb d_Runner_workOut_34 (lv_at hl 4 rfl) ?_
          refine lv_iload hx hb d_Runner_workOut_36 (lv_at hl 5 rfl) ?_
          have hPc := hP.sub (ws' := [(uo, .inr (7, [.ref mo, .ref rL, .ref r0, .ref r1, .ref rK, .ref ma, .ref ro, va_rf od])), (wo, .inr (2, [.ref ko, .int (nI wf), .int (nI wa), .int (nI wn), .int (oI po), .int (oI oo), .int (zb wd), .int (zb wg), .int wl, .int wh])), (rL, .inr (0, [.int (nI 10), .ref vL, .ref aL, .ref bL, .int (nI nL)])), (vL, .inl (cL, 600, .inr (.inl f1))), (aL, .inl (cI, 60, .inl (zN gL))), (bL, .inl (cI, 60, .inl (zN sL)))]) [0, 2, 4, 5, 6, 7] rfl
          refine zk_ri (va_runV (As := [.ref wo, .int (nI st), .int (nI nx)]) (rest := []) ⟨hx, hb, hml, hown, hts⟩ (c_Runner_arePartners l D cI cL cZ cW cR uo r0 r1 rK ma ro od mo wo ko wf wa wn (oI oo) wd wg wl wh rL vL aL bL nL f1 gL sL po hpo st nx (by omega) (by omega) hgL) (cwV 3 hts (zk_gV (fun _ h => List.mem_cons_of_mem _ h) ml_Runner_177 im_Runner_arePartners se_Runner_arePartners in_Runner co_Runner_arePartners) rfl rfl rfl ⟨rfl, hd_Runner_arePartners⟩ ⟨Nat.le_of_ble_eq_true rfl, Nat.le_of_ble_eq_true rfl⟩) (zk_vr (q0 := 0) hN hK hPc rfl rfl) rfl rfl hl.1 rfl (lv_room (Nat.le_of_ble_eq_true rfl)) d_Runner_workOut_38 ⟨Nat.zero_le _, Nat.zero_le _⟩) ?_
          refine zk_topi (show (zb (pEq (po.map (fun q z => f1 (gL z * 10 + q))) st nx)) = zb (pEq (po.map (fun q z => fL (gL z * 10 + q))) st nx) from congrArg (fun o => zb (pEq o st nx)) (wo_oo hI po hpo hpo2)) ?_
          refine zk_ifb_ne (tgt := 104) hx hb d_Runner_workOut_41 rfl (fun h41 => ?_) (fun h41 => ?_)
          · skip
            have hz1 : nL < d0 + st ∨ nL = 0 := hd0
            have hz2 := hrun
            have hz3 := hst
            have hz4 : ∀ j, st < j → j < nx + 1 → pEq (po.map (fun q z => fL (gL z * 10 + q))) st j = true := fun j h1 h2 => by by_cases q : j < nx; exact hpt j h1 q; obtain rfl : j = nx := (by omega); exact h41
            have hz5 := hI
            have hz6 : nx + 1 = nL + 1 → nL ≤ st := fun q => absurd q (by omega)
            refine lv_iinc (k := 5) (v := nI (nx + 1)) (lv' := [(5, .int (nI (nx + 1))), (0, .ref uo), (1, .ref wo), (2, .int (nI col)), (3, .int (nI lg)), (4, .int (nI st))]) hx hb d_Runner_workOut_104 hl rfl (nI_add nx 1) (by decide) rfl (fun ls hl => ?_)
            refine lv_goto (tgt := 8) hx hb d_Runner_workOut_107 rfl ?_
            exact ih8 (nx + 1) st lg d0 f1 rw1 st1 en1 fp1 pg1 fs1 fe1 (by omega) (by omega) hz1 (by omega) hz2 hz3 hz4 hz5 hz6 (by omega) ls _ _ (lv_sub hl [1, 2, 3, 4, 5, 0] rfl) hP hD hS
          · skip
            have hpe : pEnd (po.map (fun q z => fL (gL z * 10 + q))) nL st = nx := pEnd_eq hnx (by omega) hpt (fun _ => h41)
            have hnn : nx < nL → pSt (po.map (fun q z => fL (gL z * 10 + q))) nx = nx := fun q => pSt_n (hst (by omega)) hnx hpt h41
            refine lv_iload hx hb d_Runner_workOut_44 (lv_at hl 5 rfl) ?_
            refine lv_iload hx hb d_Runner_workOut_46 (lv_at hl 4 rfl) ?_
            refine lv_isub hx hb d_Runner_workOut_48 ?_
            refine zk_topi (show ((nI nx) - (nI st)) = nI (nx - st) from pk_sub (by omega)) ?_
            refine lv_istore (lv' := [(6, .int (nI (nx - st))), (0, .ref uo), (1, .ref wo), (2, .int (nI col)), (3, .int (nI lg)), (4, .int (nI st)), (5, .int (nI nx))]) hx hb d_Runner_workOut_49 hl (by decide) rfl (fun ls hl => ?_)
            refine lv_iload hx hb d_Runner_workOut_51 (lv_at hl 0 rfl) ?_
            refine lv_iconst (v := nI 4) hx hb d_Runner_workOut_53 (by decide) ?_
            refine lv_aload_n hx hb d_Runner_workOut_54 rfl (lv_at hl 1 rfl) ?_
            refine va_get (C := R_Runner) (T := F_Runner) (N := 8) hx hb hts (fun w h => List.mem_cons_of_mem _ (hin_Runner w h)) hown hK hP 0 rfl rfl 0 (by decide) (hts _ (List.mem_cons_of_mem _ fl_Runner_34)) (fun _ h => h) rfl d_Runner_workOut_55 ?_
            refine va_get (C := R_Meter) (T := F_Meter) (N := 4) hx hb hts (fun w h => List.mem_cons_of_mem _ (hin_Meter w h)) hown hK hP 1 rfl rfl 0 (by decide) (hts _ (List.mem_cons_of_mem _ fl_Runner_181)) (fun _ h => h) rfl d_Runner_workOut_58 ?_
            refine lv_iconst (v := nI 2) hx hb d_Runner_workOut_61 (by decide) ?_
            refine lv_isub hx hb d_Runner_workOut_62 ?_
            refine zk_topi (show ((nI fr) - (nI 2)) = nI (fr - 2) from pk_sub (by omega)) ?_
            refine lv_imul hx hb d_Runner_workOut_63 ?_
            refine zk_topi (show ((nI 4) * (nI (fr - 2))) = nI (4 * (fr - 2)) from pk_mul 4 (fr - 2)) ?_
            refine zk_icmp_le (tgt := 70) hx hb d_Runner_workOut_64 rfl (by omega) (by omega) (fun h64 => ?_) (fun h64 => ?_)
            · skip
              obtain ⟨d1, rfl⟩ : ∃ d1, d0 = d1 + 1 := ⟨d0 - 1, by omega⟩
              refine lv_aload_n hx hb d_Runner_workOut_70 rfl (lv_at hl 1 rfl) ?_
              refine va_get (C := R_Runner) (T := F_Runner) (N := 8) hx hb hts (fun w h => List.mem_cons_of_mem _ (hin_Runner w h)) hown hK hP 0 rfl rfl 6 (by decide) (hts _ (List.mem_cons_of_mem _ fl_Runner_52)) (fun _ h => h) rfl d_Runner_workOut_71 ?_
              refine lv_aload_n hx hb d_Runner_workOut_74 rfl (lv_at hl 2 rfl) ?_
              refine lv_iload hx hb d_Runner_workOut_75 (lv_at hl 5 rfl) ?_
              refine lv_iload hx hb d_Runner_workOut_77 (lv_at hl 6 rfl) ?_
              refine lv_iload_n hx hb d_Runner_workOut_79 rfl (lv_at hl 3 rfl) ?_
              have hPc := hP.sub (ws' := [(ro, .inr (6, [.ref rL, va_rf rw1, .int (nI st1), .int (nI en1), .int (nI fp1), .int (nI pg1), .int (nI fs1), .int (nI fe1)])), (wo, .inr (2, [.ref ko, .int (nI wf), .int (nI wa), .int (nI wn), .int (oI po), .int (oI oo), .int (zb wd), .int (zb wg), .int wl, .int wh])), (rL, .inr (0, [.int (nI 10), .ref vL, .ref aL, .ref bL, .int (nI nL)])), (vL, .inl (cL, 600, .inr (.inl f1))), (aL, .inl (cI, 60, .inl (zN gL))), (bL, .inl (cI, 60, .inl (zN sL)))]) [3, 2, 4, 5, 6, 7] rfl
              have hDc := hD.sub (ws' := [(ro, .inr (6, [.ref rL, va_rf rw1, .int (nI st1), .int (nI en1), .int (nI fp1), .int (nI pg1), .int (nI fs1), .int (nI fe1)])), (wo, .inr (2, [.ref ko, .int (nI wf), .int (nI wa), .int (nI wn), .int (oI po), .int (oI oo), .int (zb wd), .int (zb wg), .int wl, .int wh])), (rL, .inr (0, [.int (nI 10), .ref vL, .ref aL, .ref bL, .int (nI nL)])), (vL, .inl (cL, 600, .inr (.inl f1))), (aL, .inl (cI, 60, .inl (zN gL))), (bL, .inl (cI, 60, .inl (zN sL)))]) [3, 2, 4, 5, 6, 7] (by decide) rfl
              refine zk_wi (wr := [(uo, .inr (7, [.ref mo, .ref rL, .ref r0, .ref r1, .ref rK, .ref ma, .ref ro, va_rf od])), (mo, .inr (4, [.int (nI fr), .int (nI tr), .int (nI mh), .int (nI sm)]))]) (w2 := (fun u => [(uo, .inr (7, [.ref mo, .ref rL, .ref r0, .ref r1, .ref rK, .ref ma, .ref ro, va_rf od])), (mo, .inr (4, [.int (nI fr), .int (nI tr), .int (nI mh), .int (nI sm)])), (wo, .inr (2, [.ref ko, .int (nI wf), .int (nI wa), .int (nI wn), .int (oI po), .int (oI oo), .int (zb wd), .int (zb wg), .int wl, .int wh])), (ro, .inr (6, [.ref rL, .ref wo, .int (nI st), .int (nI nx), .int (nI u.1), .int (nI u.2.1), .int (nI u.2.2.1), .int (nI u.2.2.2.1)])), (rL, .inr (0, [.int (nI 10), .ref vL, .ref aL, .ref bL, .int (nI nL)])), (vL, .inl (cL, 600, .inr (.inl u.2.2.2.2))), (aL, .inl (cI, 60, .inl (zN gL))), (bL, .inl (cI, 60, .inl (zN sL)))])) hP hD hS hA [3, 2, 4, 5, 6, 7] [0, 1] [0, 1, 3, 2, 4, 5, 6, 7] rfl rfl (by decide) (by decide) (fun _ => rfl) (by decide) (va_runV (As := [.ref wo, .int (nI st), .int (nI nx), .int (nI col)]) (rest := []) ⟨hx, hb, hml, hown, hts⟩ (c_Reckoner_reckon l D cI cL cZ cW cR _ ro st1 en1 fp1 pg1 fs1 fe1 wo ko wf wa wn rw1 (oI po) wd wg wl wh rL vL aL bL 10 nL 600 60 f1 gL sL oo hoo st nx col hoo2 (by omega) (by omega) (by omega) (by omega) (by omega) hwn hwn2 hwf (by decide) (by decide) (fun z hz => by have := hgL z hz; omega)) (cwV 4 hts (zk_gV (fun _ h => List.mem_cons_of_mem _ h) ml_Runner_184 im_Reckoner_reckon se_Reckoner_reckon in_Reckoner co_Reckoner_reckon) rfl rfl rfl ⟨rfl, hd_Reckoner_reckon⟩ ⟨Nat.le_of_ble_eq_true rfl, Nat.le_of_ble_eq_true rfl⟩) (zk_vw (q0 := 0) hN hK hPc hDc rfl rfl) rfl rfl hl.1 rfl (lv_room (Nat.le_of_ble_eq_true rfl)) d_Runner_workOut_80 ⟨Nat.zero_le _, Nat.zero_le _⟩) (fun xr u H locs hpost hP hD hS => ?_)
              have hP : va_P D vwCl [(uo, .inr (7, [.ref mo, .ref rL, .ref r0, .ref r1, .ref rK, .ref ma, .ref ro, va_rf od])), (mo, .inr (4, [.int (nI fr), .int (nI tr), .int (nI mh), .int (nI sm)])), (wo, .inr (2, [.ref ko, .int (nI wf), .int (nI wa), .int (nI wn), .int (oI po), .int (oI oo), .int (zb wd), .int (zb wg), .int wl, .int wh])), (ro, .inr (6, [.ref rL, .ref wo, .int (nI st), .int (nI nx), .int (nI u.1), .int (nI u.2.1), .int (nI u.2.2.1), .int (nI u.2.2.2.1)])), (rL, .inr (0, [.int (nI 10), .ref vL, .ref aL, .ref bL, .int (nI nL)])), (vL, .inl (cL, 600, .inr (.inl u.2.2.2.2))), (aL, .inl (cI, 60, .inl (zN gL))), (bL, .inl (cI, 60, .inl (zN sL)))] H := hP
              have hD : va_D A [(uo, .inr (7, [.ref mo, .ref rL, .ref r0, .ref r1, .ref rK, .ref ma, .ref ro, va_rf od])), (mo, .inr (4, [.int (nI fr), .int (nI tr), .int (nI mh), .int (nI sm)])), (wo, .inr (2, [.ref ko, .int (nI wf), .int (nI wa), .int (nI wn), .int (oI po), .int (oI oo), .int (zb wd), .int (zb wg), .int wl, .int wh])), (ro, .inr (6, [.ref rL, .ref wo, .int (nI st), .int (nI nx), .int (nI u.1), .int (nI u.2.1), .int (nI u.2.2.1), .int (nI u.2.2.2.1)])), (rL, .inr (0, [.int (nI 10), .ref vL, .ref aL, .ref bL, .int (nI nL)])), (vL, .inl (cL, 600, .inr (.inl u.2.2.2.2))), (aL, .inl (cI, 60, .inl (zN gL))), (bL, .inl (cI, 60, .inl (zN sL)))] := hD
              rw [wo_oo hI oo hoo hoo2, wo_col hI (by omega) (by omega)] at hpost
              refine lv_istore (lv' := [(7, .int xr), (6, .int (nI (nx - st))), (0, .ref uo), (1, .ref wo), (2, .int (nI col)), (3, .int (nI lg)), (4, .int (nI st)), (5, .int (nI nx))]) hx hb d_Runner_workOut_83 hl (by decide) rfl (fun ls hl => ?_)
              refine lv_iload hx hb d_Runner_workOut_85 (lv_at hl 0 rfl) ?_
              refine lv_if_eq (tgt := 93) hx hb d_Runner_workOut_87 rfl (fun h87 => ?_) (fun h87 => ?_)
              · skip
                obtain ⟨hx9, hf9, hok9⟩ := hpost.resolve_right (fun q => absurd (h87.symm.trans q.1) (by decide))
                have hok : (pOk (po.map (fun q z => fL (gL z * 10 + q))) (oo.map (fun q z => fL (gL z * 10 + q))) (fun z => fL (gL z * 10 + wa)) wf wn wd wg wl wh nL) st = true := by unfold pOk; rw [hpe]; exact pk_true hok9
                have hz1 : nL < d1 + nx ∨ nL = 0 := by omega
                have hz2 : wRun nL (4 * (fr - 2)) (pEnd (po.map (fun q z => fL (gL z * 10 + q))) nL) (pOk (po.map (fun q z => fL (gL z * 10 + q))) (oo.map (fun q z => fL (gL z * 10 + q))) (fun z => fL (gL z * 10 + wa)) wf wn wd wg wl wh nL) d1 nx (max lg (nx - st)) = wRun nL (4 * (fr - 2)) (pEnd (po.map (fun q z => fL (gL z * 10 + q))) nL) (pOk (po.map (fun q z => fL (gL z * 10 + q))) (oo.map (fun q z => fL (gL z * 10 + q))) (fun z => fL (gL z * 10 + wa)) wf wn wd wg wl wh nL) (nL + 1) 0 0 := by rw [← hrun]; simp only [wRun]; rw [if_neg (by omega), hpe, if_neg (by omega), if_neg (by rw [hok]; exact fun q => Bool.false_ne_true q.symm)]
                have hz3 := hnn
                have hz4 : ∀ j, nx < j → j < nx + 1 → pEq (po.map (fun q z => fL (gL z * 10 + q))) nx j = true := fun j h1 h2 => absurd h2 (by omega)
                have hz5 : WoI fL u.2.2.2.2 gL col (pVal (po.map (fun q z => fL (gL z * 10 + q))) (oo.map (fun q z => fL (gL z * 10 + q))) (fun z => fL (gL z * 10 + wa)) wf wn wd wg wl wh nL) nx := by rw [hf9]; exact wo_put hI hcol (by omega) (by omega) hgi (fun d hd => by unfold pVal; rw [pSt_s (hst (by omega)) hpt (st + d) (by omega) (by omega), hpe])
                have hz6 : nx + 1 = nL + 1 → nL ≤ nx := by omega
                refine lv_iload_n hx hb d_Runner_workOut_93 rfl (lv_at hl 5 rfl) ?_
                refine lv_iload hx hb d_Runner_workOut_94 (lv_at hl 1 rfl) ?_
                refine va_mmax hx hb (hml.trans hl.1.symm) hown (hts _ (List.mem_cons_of_mem _ ml_Runner_188)) (hts _ (List.mem_cons_of_mem _ sm_Math_max)) (hts _ (List.mem_cons_of_mem _ in_Math)) (hts _ (List.mem_cons_of_mem _ co_Math_max)) (Nat.le_of_ble_eq_true rfl) (Nat.le_of_ble_eq_true rfl) (Nat.le_of_ble_eq_true rfl) (Nat.le_of_ble_eq_true rfl) d_Runner_workOut_96 ?_
                refine zk_topi (show (if nI lg < nI (nx - st) then nI (nx - st) else nI lg) = nI (max lg (nx - st)) from zk_nmax (by omega) (by omega)) ?_
                refine lv_istore_n (lv' := [(3, .int (nI (max lg (nx - st)))), (7, .int xr), (6, .int (nI (nx - st))), (0, .ref uo), (1, .ref wo), (2, .int (nI col)), (4, .int (nI st)), (5, .int (nI nx))]) hx hb d_Runner_workOut_99 rfl hl (by decide) rfl (fun ls hl => ?_)
                refine lv_iload hx hb d_Runner_workOut_100 (lv_at hl 7 rfl) ?_
                refine lv_istore (lv' := [(4, .int (nI nx)), (3, .int (nI (max lg (nx - st)))), (7, .int xr), (6, .int (nI (nx - st))), (0, .ref uo), (1, .ref wo), (2, .int (nI col)), (5, .int (nI nx))]) hx hb d_Runner_workOut_102 hl (by decide) rfl (fun ls hl => ?_)
                refine lv_iinc (k := 7) (v := nI (nx + 1)) (lv' := [(5, .int (nI (nx + 1))), (4, .int (nI nx)), (3, .int (nI (max lg (nx - st)))), (7, .int xr), (6, .int (nI (nx - st))), (0, .ref uo), (1, .ref wo), (2, .int (nI col))]) hx hb d_Runner_workOut_104 hl rfl (nI_add nx 1) (by decide) rfl (fun ls hl => ?_)
                refine lv_goto (tgt := 8) hx hb d_Runner_workOut_107 rfl ?_
                exact ih8 (nx + 1) nx (max lg (nx - st)) d1 u.2.2.2.2 (some wo) st nx u.1 u.2.1 u.2.2.1 u.2.2.2.1 (by omega) (by omega) hz1 (by omega) hz2 hz3 hz4 hz5 hz6 (by omega) ls _ _ (lv_sub hl [5, 6, 7, 2, 1, 0] rfl) hP hD hS
              · skip
                obtain ⟨hx9, dB, hdB, hbad⟩ := hpost.resolve_left (fun q => h87 (q.1.trans nI_0))
                have hok : (pOk (po.map (fun q z => fL (gL z * 10 + q))) (oo.map (fun q z => fL (gL z * 10 + q))) (fun z => fL (gL z * 10 + wa)) wf wn wd wg wl wh nL) st = false := by unfold pOk; rw [hpe]; exact pk_false dB hdB hbad
                have hres : (wRun nL (4 * (fr - 2)) (pEnd (po.map (fun q z => fL (gL z * 10 + q))) nL) (pOk (po.map (fun q z => fL (gL z * 10 + q))) (oo.map (fun q z => fL (gL z * 10 + q))) (fun z => fL (gL z * 10 + wa)) wf wn wd wg wl wh nL) (nL + 1) 0 0).1 = 2 := by rw [← hrun]; simp only [wRun]; rw [if_neg (by omega), hpe, if_neg (by omega), if_pos hok]
                refine lv_iload hx hb d_Runner_workOut_90 (lv_at hl 0 rfl) ?_
                exact zk_iretW hx hb hr hlk hAe hQ hK ((u.2.2.2.2, tr, mh, some wo, st, nx, u.1, u.2.1, u.2.2.1, u.2.2.2.1)) (⟨hmh, Or.inr (Or.inr ⟨hx9, hres⟩)⟩) hP hD hS d_Runner_workOut_92
            · skip
              obtain ⟨d1, rfl⟩ : ∃ d1, d0 = d1 + 1 := ⟨d0 - 1, by omega⟩
              have hres : (wRun nL (4 * (fr - 2)) (pEnd (po.map (fun q z => fL (gL z * 10 + q))) nL) (pOk (po.map (fun q z => fL (gL z * 10 + q))) (oo.map (fun q z => fL (gL z * 10 + q))) (fun z => fL (gL z * 10 + wa)) wf wn wd wg wl wh nL) (nL + 1) 0 0).1 = 1 := by rw [← hrun]; simp only [wRun]; rw [if_neg (by omega), hpe, if_pos (by omega)]
              refine lv_bipush (v := (-2)) hx hb d_Runner_workOut_67 (by decide) ?_
              exact zk_iretW hx hb hr hlk hAe hQ hK ((f1, tr, mh, rw1, st1, en1, fp1, pg1, fs1, fe1)) (⟨hmh, Or.inr (Or.inl ⟨rfl, hres⟩)⟩) hP hD hS d_Runner_workOut_69
  exact lb8 _ 1 0 0 (nL + 1) fL rw st0 en0 fp pg fs fe (by decide) (by omega) (by omega) (Nat.zero_le _) rfl (fun _ => rfl) (fun j h1 h2 => absurd h2 (by omega)) (⟨fun i h => absurd h (Nat.not_lt_zero i), fun _ _ _ _ => rfl⟩) (by omega) (Nat.lt_succ_self _) ls _ _ (lv_sub hl [3, 4, 5, 2, 1, 0] rfl) hP hD hS
