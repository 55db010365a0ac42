/-! the state of the class and that of the reference, between two calls -/
abbrev cSta : Type := Nat × (Nat → Int64) × (Nat → Nat) × Nat × (Nat → Int64) × (Nat → Nat) × Nat × Nat × Int32 × Int32 × Int32 × Int32 × Nat × (Nat → Nat) × (Nat → Bool) × (Nat → Option Nat) × (Nat → Option Nat) × (Nat → Bool) × (Nat → Bool) × (Nat → Int32) × (Nat → Int32) × (Nat → Nat) × (Nat → Nat) × (Nat → Nat) × (Nat → Nat) × (Nat → Nat → Nat) × (Nat → Nat → Bool) × Option Nat × Nat × Nat × Nat × Nat × (Nat → Int64) × (Nat → Nat) × (Nat → Nat) × Nat × (Nat → Int64) × (Nat → Nat) × Nat × Nat × Option Nat × Nat × Nat × Nat × Nat × Nat × Nat
abbrev cSta.n0 (σ : cSta) : Nat := σ.1
abbrev cSta.f0 (σ : cSta) : Nat → Int64 := σ.2.1
abbrev cSta.g0 (σ : cSta) : Nat → Nat := σ.2.2.1
abbrev cSta.n1 (σ : cSta) : Nat := σ.2.2.2.1
abbrev cSta.f1 (σ : cSta) : Nat → Int64 := σ.2.2.2.2.1
abbrev cSta.g1 (σ : cSta) : Nat → Nat := σ.2.2.2.2.2.1
abbrev cSta.wc (σ : cSta) : Nat := σ.2.2.2.2.2.2.1
abbrev cSta.fc (σ : cSta) : Nat := σ.2.2.2.2.2.2.2.1
abbrev cSta.fo (σ : cSta) : Int32 := σ.2.2.2.2.2.2.2.2.1
abbrev cSta.fn (σ : cSta) : Int32 := σ.2.2.2.2.2.2.2.2.2.1
abbrev cSta.jl (σ : cSta) : Int32 := σ.2.2.2.2.2.2.2.2.2.2.1
abbrev cSta.jr (σ : cSta) : Int32 := σ.2.2.2.2.2.2.2.2.2.2.2.1
abbrev cSta.kno (σ : cSta) : Nat := σ.2.2.2.2.2.2.2.2.2.2.2.2.1
abbrev cSta.kfo (σ : cSta) : Nat → Nat := σ.2.2.2.2.2.2.2.2.2.2.2.2.2.1
abbrev cSta.kgo (σ : cSta) : Nat → Bool := σ.2.2.2.2.2.2.2.2.2.2.2.2.2.2.1
abbrev cSta.po (σ : cSta) : Nat → Option Nat := σ.2.2.2.2.2.2.2.2.2.2.2.2.2.2.2.1
abbrev cSta.oo (σ : cSta) : Nat → Option Nat := σ.2.2.2.2.2.2.2.2.2.2.2.2.2.2.2.2.1
abbrev cSta.wd (σ : cSta) : Nat → Bool := σ.2.2.2.2.2.2.2.2.2.2.2.2.2.2.2.2.2.1
abbrev cSta.wg (σ : cSta) : Nat → Bool := σ.2.2.2.2.2.2.2.2.2.2.2.2.2.2.2.2.2.2.1
abbrev cSta.wl (σ : cSta) : Nat → Int32 := σ.2.2.2.2.2.2.2.2.2.2.2.2.2.2.2.2.2.2.2.1
abbrev cSta.wh (σ : cSta) : Nat → Int32 := σ.2.2.2.2.2.2.2.2.2.2.2.2.2.2.2.2.2.2.2.2.1
abbrev cSta.wf (σ : cSta) : Nat → Nat := σ.2.2.2.2.2.2.2.2.2.2.2.2.2.2.2.2.2.2.2.2.2.1
abbrev cSta.wa (σ : cSta) : Nat → Nat := σ.2.2.2.2.2.2.2.2.2.2.2.2.2.2.2.2.2.2.2.2.2.2.1
abbrev cSta.wn (σ : cSta) : Nat → Nat := σ.2.2.2.2.2.2.2.2.2.2.2.2.2.2.2.2.2.2.2.2.2.2.2.1
abbrev cSta.kn (σ : cSta) : Nat → Nat := σ.2.2.2.2.2.2.2.2.2.2.2.2.2.2.2.2.2.2.2.2.2.2.2.2.1
abbrev cSta.kf (σ : cSta) : Nat → Nat → Nat := σ.2.2.2.2.2.2.2.2.2.2.2.2.2.2.2.2.2.2.2.2.2.2.2.2.2.1
abbrev cSta.kg (σ : cSta) : Nat → Nat → Bool := σ.2.2.2.2.2.2.2.2.2.2.2.2.2.2.2.2.2.2.2.2.2.2.2.2.2.2.1
abbrev cSta.od (σ : cSta) : Option Nat := σ.2.2.2.2.2.2.2.2.2.2.2.2.2.2.2.2.2.2.2.2.2.2.2.2.2.2.2.1
abbrev cSta.tr (σ : cSta) : Nat := σ.2.2.2.2.2.2.2.2.2.2.2.2.2.2.2.2.2.2.2.2.2.2.2.2.2.2.2.2.1
abbrev cSta.mh (σ : cSta) : Nat := σ.2.2.2.2.2.2.2.2.2.2.2.2.2.2.2.2.2.2.2.2.2.2.2.2.2.2.2.2.2.1
abbrev cSta.sm (σ : cSta) : Nat := σ.2.2.2.2.2.2.2.2.2.2.2.2.2.2.2.2.2.2.2.2.2.2.2.2.2.2.2.2.2.2.1
abbrev cSta.nL (σ : cSta) : Nat := σ.2.2.2.2.2.2.2.2.2.2.2.2.2.2.2.2.2.2.2.2.2.2.2.2.2.2.2.2.2.2.2.1
abbrev cSta.fL (σ : cSta) : Nat → Int64 := σ.2.2.2.2.2.2.2.2.2.2.2.2.2.2.2.2.2.2.2.2.2.2.2.2.2.2.2.2.2.2.2.2.1
abbrev cSta.gL (σ : cSta) : Nat → Nat := σ.2.2.2.2.2.2.2.2.2.2.2.2.2.2.2.2.2.2.2.2.2.2.2.2.2.2.2.2.2.2.2.2.2.1
abbrev cSta.sL (σ : cSta) : Nat → Nat := σ.2.2.2.2.2.2.2.2.2.2.2.2.2.2.2.2.2.2.2.2.2.2.2.2.2.2.2.2.2.2.2.2.2.2.1
abbrev cSta.nK (σ : cSta) : Nat := σ.2.2.2.2.2.2.2.2.2.2.2.2.2.2.2.2.2.2.2.2.2.2.2.2.2.2.2.2.2.2.2.2.2.2.2.1
abbrev cSta.fK (σ : cSta) : Nat → Int64 := σ.2.2.2.2.2.2.2.2.2.2.2.2.2.2.2.2.2.2.2.2.2.2.2.2.2.2.2.2.2.2.2.2.2.2.2.2.1
abbrev cSta.gK (σ : cSta) : Nat → Nat := σ.2.2.2.2.2.2.2.2.2.2.2.2.2.2.2.2.2.2.2.2.2.2.2.2.2.2.2.2.2.2.2.2.2.2.2.2.2.1
abbrev cSta.lc (σ : cSta) : Nat := σ.2.2.2.2.2.2.2.2.2.2.2.2.2.2.2.2.2.2.2.2.2.2.2.2.2.2.2.2.2.2.2.2.2.2.2.2.2.2.1
abbrev cSta.rc (σ : cSta) : Nat := σ.2.2.2.2.2.2.2.2.2.2.2.2.2.2.2.2.2.2.2.2.2.2.2.2.2.2.2.2.2.2.2.2.2.2.2.2.2.2.2.1
abbrev cSta.rw (σ : cSta) : Option Nat := σ.2.2.2.2.2.2.2.2.2.2.2.2.2.2.2.2.2.2.2.2.2.2.2.2.2.2.2.2.2.2.2.2.2.2.2.2.2.2.2.2.1
abbrev cSta.st (σ : cSta) : Nat := σ.2.2.2.2.2.2.2.2.2.2.2.2.2.2.2.2.2.2.2.2.2.2.2.2.2.2.2.2.2.2.2.2.2.2.2.2.2.2.2.2.2.1
abbrev cSta.en (σ : cSta) : Nat := σ.2.2.2.2.2.2.2.2.2.2.2.2.2.2.2.2.2.2.2.2.2.2.2.2.2.2.2.2.2.2.2.2.2.2.2.2.2.2.2.2.2.2.1
abbrev cSta.fp (σ : cSta) : Nat := σ.2.2.2.2.2.2.2.2.2.2.2.2.2.2.2.2.2.2.2.2.2.2.2.2.2.2.2.2.2.2.2.2.2.2.2.2.2.2.2.2.2.2.2.1
abbrev cSta.pg (σ : cSta) : Nat := σ.2.2.2.2.2.2.2.2.2.2.2.2.2.2.2.2.2.2.2.2.2.2.2.2.2.2.2.2.2.2.2.2.2.2.2.2.2.2.2.2.2.2.2.2.1
abbrev cSta.fs (σ : cSta) : Nat := σ.2.2.2.2.2.2.2.2.2.2.2.2.2.2.2.2.2.2.2.2.2.2.2.2.2.2.2.2.2.2.2.2.2.2.2.2.2.2.2.2.2.2.2.2.2.1
abbrev cSta.fe (σ : cSta) : Nat := σ.2.2.2.2.2.2.2.2.2.2.2.2.2.2.2.2.2.2.2.2.2.2.2.2.2.2.2.2.2.2.2.2.2.2.2.2.2.2.2.2.2.2.2.2.2.2
abbrev mSta : Type := Bool × Bool × Nat × Nat × Nat × Bool × Nat × Bool × Nat × Nat × Int32 × Nat × Nat × Nat × Int32 × Nat × Int32 × Int32 × Nat × Int32 × Int32 × Int64 × (Nat → Nat) × (Nat → Int32) × (Nat → Int32) × (Nat → Int32) × (Nat → Nat) × (Nat → Nat) × (Nat → Nat) × (Nat → Option Nat) × (Nat → Option Nat) × (Nat → Bool) × (Nat → Bool) × (Nat → Int32) × (Nat → Int32) × (Nat → Nat) × (Nat → Int32) × (Nat → Bool) × (Nat → Nat) × (Nat → Int32) × (Nat → Nat) × (Nat → Nat) × (Nat → Bool)
abbrev mSta.flt (σ : mSta) : Bool := σ.1
abbrev mSta.jns (σ : mSta) : Bool := σ.2.1
abbrev mSta.jx (σ : mSta) : Nat := σ.2.2.1
abbrev mSta.jy (σ : mSta) : Nat := σ.2.2.2.1
abbrev mSta.wc (σ : mSta) : Nat := σ.2.2.2.2.1
abbrev mSta.ors (σ : mSta) : Bool := σ.2.2.2.2.2.1
abbrev mSta.oc (σ : mSta) : Nat := σ.2.2.2.2.2.2.1
abbrev mSta.od (σ : mSta) : Bool := σ.2.2.2.2.2.2.2.1
abbrev mSta.nk (σ : mSta) : Nat := σ.2.2.2.2.2.2.2.2.1
abbrev mSta.nn (σ : mSta) : Nat := σ.2.2.2.2.2.2.2.2.2.1
abbrev mSta.ky (σ : mSta) : Int32 := σ.2.2.2.2.2.2.2.2.2.2.1
abbrev mSta.tr (σ : mSta) : Nat := σ.2.2.2.2.2.2.2.2.2.2.2.1
abbrev mSta.ms (σ : mSta) : Nat := σ.2.2.2.2.2.2.2.2.2.2.2.2.1
abbrev mSta.sm (σ : mSta) : Nat := σ.2.2.2.2.2.2.2.2.2.2.2.2.2.1
abbrev mSta.er (σ : mSta) : Int32 := σ.2.2.2.2.2.2.2.2.2.2.2.2.2.2.1
abbrev mSta.sh (σ : mSta) : Nat := σ.2.2.2.2.2.2.2.2.2.2.2.2.2.2.2.1
abbrev mSta.ff (σ : mSta) : Int32 := σ.2.2.2.2.2.2.2.2.2.2.2.2.2.2.2.2.1
abbrev mSta.fl (σ : mSta) : Int32 := σ.2.2.2.2.2.2.2.2.2.2.2.2.2.2.2.2.2.1
abbrev mSta.fc (σ : mSta) : Nat := σ.2.2.2.2.2.2.2.2.2.2.2.2.2.2.2.2.2.2.1
abbrev mSta.fe (σ : mSta) : Int32 := σ.2.2.2.2.2.2.2.2.2.2.2.2.2.2.2.2.2.2.2.1
abbrev mSta.fg (σ : mSta) : Int32 := σ.2.2.2.2.2.2.2.2.2.2.2.2.2.2.2.2.2.2.2.2.1
abbrev mSta.fs (σ : mSta) : Int64 := σ.2.2.2.2.2.2.2.2.2.2.2.2.2.2.2.2.2.2.2.2.2.1
abbrev mSta.sz_ (σ : mSta) : Nat → Nat := σ.2.2.2.2.2.2.2.2.2.2.2.2.2.2.2.2.2.2.2.2.2.2.1
abbrev mSta.gv (σ : mSta) : Nat → Int32 := σ.2.2.2.2.2.2.2.2.2.2.2.2.2.2.2.2.2.2.2.2.2.2.2.1
abbrev mSta.ho (σ : mSta) : Nat → Int32 := σ.2.2.2.2.2.2.2.2.2.2.2.2.2.2.2.2.2.2.2.2.2.2.2.2.1
abbrev mSta.te (σ : mSta) : Nat → Int32 := σ.2.2.2.2.2.2.2.2.2.2.2.2.2.2.2.2.2.2.2.2.2.2.2.2.2.1
abbrev mSta.wf (σ : mSta) : Nat → Nat := σ.2.2.2.2.2.2.2.2.2.2.2.2.2.2.2.2.2.2.2.2.2.2.2.2.2.2.1
abbrev mSta.wa (σ : mSta) : Nat → Nat := σ.2.2.2.2.2.2.2.2.2.2.2.2.2.2.2.2.2.2.2.2.2.2.2.2.2.2.2.1
abbrev mSta.wn (σ : mSta) : Nat → Nat := σ.2.2.2.2.2.2.2.2.2.2.2.2.2.2.2.2.2.2.2.2.2.2.2.2.2.2.2.2.1
abbrev mSta.po (σ : mSta) : Nat → Option Nat := σ.2.2.2.2.2.2.2.2.2.2.2.2.2.2.2.2.2.2.2.2.2.2.2.2.2.2.2.2.2.1
abbrev mSta.oo (σ : mSta) : Nat → Option Nat := σ.2.2.2.2.2.2.2.2.2.2.2.2.2.2.2.2.2.2.2.2.2.2.2.2.2.2.2.2.2.2.1
abbrev mSta.wd (σ : mSta) : Nat → Bool := σ.2.2.2.2.2.2.2.2.2.2.2.2.2.2.2.2.2.2.2.2.2.2.2.2.2.2.2.2.2.2.2.1
abbrev mSta.wg (σ : mSta) : Nat → Bool := σ.2.2.2.2.2.2.2.2.2.2.2.2.2.2.2.2.2.2.2.2.2.2.2.2.2.2.2.2.2.2.2.2.1
abbrev mSta.wl (σ : mSta) : Nat → Int32 := σ.2.2.2.2.2.2.2.2.2.2.2.2.2.2.2.2.2.2.2.2.2.2.2.2.2.2.2.2.2.2.2.2.2.1
abbrev mSta.wh (σ : mSta) : Nat → Int32 := σ.2.2.2.2.2.2.2.2.2.2.2.2.2.2.2.2.2.2.2.2.2.2.2.2.2.2.2.2.2.2.2.2.2.2.1
abbrev mSta.kp (σ : mSta) : Nat → Nat := σ.2.2.2.2.2.2.2.2.2.2.2.2.2.2.2.2.2.2.2.2.2.2.2.2.2.2.2.2.2.2.2.2.2.2.2.1
abbrev mSta.vl (σ : mSta) : Nat → Int32 := σ.2.2.2.2.2.2.2.2.2.2.2.2.2.2.2.2.2.2.2.2.2.2.2.2.2.2.2.2.2.2.2.2.2.2.2.2.1
abbrev mSta.hl_ (σ : mSta) : Nat → Bool := σ.2.2.2.2.2.2.2.2.2.2.2.2.2.2.2.2.2.2.2.2.2.2.2.2.2.2.2.2.2.2.2.2.2.2.2.2.2.1
abbrev mSta.fi (σ : mSta) : Nat → Nat := σ.2.2.2.2.2.2.2.2.2.2.2.2.2.2.2.2.2.2.2.2.2.2.2.2.2.2.2.2.2.2.2.2.2.2.2.2.2.2.1
abbrev mSta.se (σ : mSta) : Nat → Int32 := σ.2.2.2.2.2.2.2.2.2.2.2.2.2.2.2.2.2.2.2.2.2.2.2.2.2.2.2.2.2.2.2.2.2.2.2.2.2.2.2.1
abbrev mSta.li (σ : mSta) : Nat → Nat := σ.2.2.2.2.2.2.2.2.2.2.2.2.2.2.2.2.2.2.2.2.2.2.2.2.2.2.2.2.2.2.2.2.2.2.2.2.2.2.2.2.1
abbrev mSta.kf (σ : mSta) : Nat → Nat := σ.2.2.2.2.2.2.2.2.2.2.2.2.2.2.2.2.2.2.2.2.2.2.2.2.2.2.2.2.2.2.2.2.2.2.2.2.2.2.2.2.2.1
abbrev mSta.kg (σ : mSta) : Nat → Bool := σ.2.2.2.2.2.2.2.2.2.2.2.2.2.2.2.2.2.2.2.2.2.2.2.2.2.2.2.2.2.2.2.2.2.2.2.2.2.2.2.2.2.2
/-- bounds of the class's windows, and of the reference's -/
def cBd (po oo : Nat → Option Nat) (wf wa kn : Nat → Nat) (kf : Nat → Nat → Nat) : Prop := (∀ z q, po z = some q → q < 6) ∧ (∀ z q, oo z = some q → q < 6) ∧ (∀ z, z < 3 → wa z < 6) ∧ (∀ z, z < 3 → wf z < 12) ∧ (∀ z, z < 3 → kn z ≤ 2) ∧ (∀ z t, z < 3 → t < 2 → kf z t < 1000) ∧ ∀ z t, z < 3 → t < kn z → kf z t < 6
def mBd (po oo : Nat → Option Nat) (wg : Nat → Bool) (wl wh : Nat → Int32) (wf wa : Nat → Nat) : Prop := (∀ z q, po z = some q → q < 6) ∧ (∀ z q, oo z = some q → q < 6) ∧ (∀ z, z < 3 → wa z < 6) ∧ (∀ z, z < 3 → wf z < 12) ∧ (∀ z, z < 3 → (-10 : Int32) ≤ wl z ∧ wl z ≤ nI 10) ∧ (∀ z, z < 3 → (-10 : Int32) ≤ wh z ∧ wh z ≤ nI 10) ∧ ∀ z, wg z = true → ∃ oj, oo z = some oj ∧ oj < 6
def LRel (fr : Nat) (σ : cSta) (τ : mSta) : Prop := (3 ≤ fr) ∧ (fr ≤ 8) ∧ (tabR 0 σ.n0 σ.f0 σ.g0 τ.sz_ τ.ho τ.gv) ∧ (tabR 1 σ.n1 σ.f1 σ.g1 τ.sz_ τ.ho τ.gv) ∧ (fltR σ.fc σ.fo σ.fn τ.flt τ.te) ∧ (jnR σ.jl σ.jr τ.jns τ.jx τ.jy) ∧ (ordR σ.kno σ.kfo σ.kgo τ.ors τ.oc τ.od) ∧ (σ.wc = τ.wc) ∧ (winR τ.wc σ.po σ.oo σ.wd σ.wg σ.wl σ.wh σ.wf σ.wa σ.wn σ.kn σ.kf σ.kg τ.po τ.oo τ.wd τ.wg τ.wl τ.wh τ.wf τ.wa τ.wn) ∧ (∀ z, z < τ.wc → 1 ≤ τ.wn z ∧ τ.wn z ≤ 9) ∧ (cBd σ.po σ.oo σ.wf σ.wa σ.kn σ.kf) ∧ (mBd τ.po τ.oo τ.wg τ.wl τ.wh τ.wf τ.wa) ∧ (σ.tr = τ.tr) ∧ (σ.mh = τ.ms) ∧ (σ.sm = τ.sm) ∧ (σ.nL = τ.sh) ∧ (τ.sh ≤ 60) ∧ (resRel τ.sh σ.fL σ.gL τ.hl_ τ.vl τ.li) ∧ (∀ z, z < 60 → σ.gL z < 60) ∧ (∀ z, z < 60 → τ.li z < 60) ∧ (∀ z, z < 60 → τ.fi z < 1000)
theorem LRel.fr3 {fr : Nat} {σ : cSta} {τ : mSta} (h : LRel fr σ τ) : 3 ≤ fr := h.1
theorem LRel.fr8 {fr : Nat} {σ : cSta} {τ : mSta} (h : LRel fr σ τ) : fr ≤ 8 := h.2.1
theorem LRel.t0 {fr : Nat} {σ : cSta} {τ : mSta} (h : LRel fr σ τ) : tabR 0 σ.n0 σ.f0 σ.g0 τ.sz_ τ.ho τ.gv := h.2.2.1
theorem LRel.t1 {fr : Nat} {σ : cSta} {τ : mSta} (h : LRel fr σ τ) : tabR 1 σ.n1 σ.f1 σ.g1 τ.sz_ τ.ho τ.gv := h.2.2.2.1
theorem LRel.flt {fr : Nat} {σ : cSta} {τ : mSta} (h : LRel fr σ τ) : fltR σ.fc σ.fo σ.fn τ.flt τ.te := h.2.2.2.2.1
theorem LRel.jn {fr : Nat} {σ : cSta} {τ : mSta} (h : LRel fr σ τ) : jnR σ.jl σ.jr τ.jns τ.jx τ.jy := h.2.2.2.2.2.1
theorem LRel.ord {fr : Nat} {σ : cSta} {τ : mSta} (h : LRel fr σ τ) : ordR σ.kno σ.kfo σ.kgo τ.ors τ.oc τ.od := h.2.2.2.2.2.2.1
theorem LRel.wc {fr : Nat} {σ : cSta} {τ : mSta} (h : LRel fr σ τ) : σ.wc = τ.wc := h.2.2.2.2.2.2.2.1
theorem LRel.win {fr : Nat} {σ : cSta} {τ : mSta} (h : LRel fr σ τ) : winR τ.wc σ.po σ.oo σ.wd σ.wg σ.wl σ.wh σ.wf σ.wa σ.wn σ.kn σ.kf σ.kg τ.po τ.oo τ.wd τ.wg τ.wl τ.wh τ.wf τ.wa τ.wn := h.2.2.2.2.2.2.2.2.1
theorem LRel.wn {fr : Nat} {σ : cSta} {τ : mSta} (h : LRel fr σ τ) : ∀ z, z < τ.wc → 1 ≤ τ.wn z ∧ τ.wn z ≤ 9 := h.2.2.2.2.2.2.2.2.2.1
theorem LRel.cb {fr : Nat} {σ : cSta} {τ : mSta} (h : LRel fr σ τ) : cBd σ.po σ.oo σ.wf σ.wa σ.kn σ.kf := h.2.2.2.2.2.2.2.2.2.2.1
theorem LRel.mb {fr : Nat} {σ : cSta} {τ : mSta} (h : LRel fr σ τ) : mBd τ.po τ.oo τ.wg τ.wl τ.wh τ.wf τ.wa := h.2.2.2.2.2.2.2.2.2.2.2.1
theorem LRel.tr {fr : Nat} {σ : cSta} {τ : mSta} (h : LRel fr σ τ) : σ.tr = τ.tr := h.2.2.2.2.2.2.2.2.2.2.2.2.1
theorem LRel.mh {fr : Nat} {σ : cSta} {τ : mSta} (h : LRel fr σ τ) : σ.mh = τ.ms := h.2.2.2.2.2.2.2.2.2.2.2.2.2.1
theorem LRel.sm {fr : Nat} {σ : cSta} {τ : mSta} (h : LRel fr σ τ) : σ.sm = τ.sm := h.2.2.2.2.2.2.2.2.2.2.2.2.2.2.1
theorem LRel.nL {fr : Nat} {σ : cSta} {τ : mSta} (h : LRel fr σ τ) : σ.nL = τ.sh := h.2.2.2.2.2.2.2.2.2.2.2.2.2.2.2.1
theorem LRel.sh {fr : Nat} {σ : cSta} {τ : mSta} (h : LRel fr σ τ) : τ.sh ≤ 60 := h.2.2.2.2.2.2.2.2.2.2.2.2.2.2.2.2.1
theorem LRel.res {fr : Nat} {σ : cSta} {τ : mSta} (h : LRel fr σ τ) : resRel τ.sh σ.fL σ.gL τ.hl_ τ.vl τ.li := h.2.2.2.2.2.2.2.2.2.2.2.2.2.2.2.2.2.1
theorem LRel.gL {fr : Nat} {σ : cSta} {τ : mSta} (h : LRel fr σ τ) : ∀ z, z < 60 → σ.gL z < 60 := h.2.2.2.2.2.2.2.2.2.2.2.2.2.2.2.2.2.2.1
theorem LRel.li {fr : Nat} {σ : cSta} {τ : mSta} (h : LRel fr σ τ) : ∀ z, z < 60 → τ.li z < 60 := h.2.2.2.2.2.2.2.2.2.2.2.2.2.2.2.2.2.2.2.1
theorem LRel.fi {fr : Nat} {σ : cSta} {τ : mSta} (h : LRel fr σ τ) : ∀ z, z < 60 → τ.fi z < 1000 := h.2.2.2.2.2.2.2.2.2.2.2.2.2.2.2.2.2.2.2.2
/-! a call's numbers: taken, or refused by both sides -/
theorem i_rng {x : Int32} {a b : Nat} (ha : a ≤ b) (hb : b < 1000) : (∃ k, a ≤ k ∧ k ≤ b ∧ x = nI k) ∨ (¬ (nI a ≤ x ∧ x ≤ nI b) ∧ (x < nI a ∨ nI b < x)) := by
  by_cases q : nI a ≤ x ∧ x ≤ nI b
  · left
    have q1 := Int32.le_iff_toInt_le.mp q.1
    have q2 := Int32.le_iff_toInt_le.mp q.2
    rw [nI_toInt (by omega)] at q1 q2
    exact ⟨x.toInt.toNat, by omega, by omega, Int32.toInt_inj.mp (by rw [nI_toInt (by omega)]; omega)⟩
  · right
    refine ⟨q, ?_⟩
    by_cases y : x < nI a
    · exact Or.inl y
    · exact Or.inr (Int32.not_le.mp (fun z => q ⟨Int32.not_lt.mp y, z⟩))
theorem tb_c (x : Int32) : x = nI 0 ∨ x = nI 1 ∨ (¬ (x = 0 ∨ x = 1) ∧ (x < nI 0 ∨ nI 1 < x)) := by
  rcases i_rng (x := x) (a := 0) (b := 1) (by decide) (by decide) with ⟨k, _, h, rfl⟩ | ⟨h1, h2⟩
  · rcases (show k = 0 ∨ k = 1 by omega) with rfl | rfl
    · exact Or.inl rfl
    · exact Or.inr (Or.inl rfl)
  · refine Or.inr (Or.inr ⟨fun q => h1 ?_, h2⟩)
    rcases q with rfl | rfl
    · decide
    · decide
theorem fl_c (x y : Int32) : (∃ c0, c0 < 3 ∧ x = nI c0 ∧ nI 0 ≤ y ∧ y ≤ nI 4) ∨ (¬ ((0 ≤ x ∧ x ≤ 2) ∧ (nI 0 ≤ y ∧ y ≤ nI 4)) ∧ ((x < nI 0 ∨ nI 2 < x) ∨ (y < nI 0 ∨ nI 4 < y))) := by
  rcases i_rng (x := x) (a := 0) (b := 2) (by decide) (by decide) with ⟨k, _, h, rfl⟩ | ⟨h1, h2⟩
  · rcases i_rng (x := y) (a := 0) (b := 4) (by decide) (by decide) with ⟨j, _, h3, rfl⟩ | ⟨h3, h4⟩
    · exact Or.inl ⟨k, by omega, rfl, nI_le (by omega) (by omega), nI_le (by omega) (by omega)⟩
    · exact Or.inr ⟨fun q => h3 q.2, Or.inr h4⟩
  · exact Or.inr ⟨fun q => h1 q.1, Or.inl h2⟩
theorem jn_c (x y : Int32) : (∃ x0 y0, x0 < 3 ∧ y0 < 3 ∧ x = nI x0 ∧ y = nI y0) ∨ (¬ ((0 ≤ x ∧ x ≤ 2) ∧ (0 ≤ y ∧ y ≤ 2)) ∧ ((x < nI 0 ∨ nI 2 < x) ∨ (y < nI 0 ∨ nI 2 < y))) := by
  rcases i_rng (x := x) (a := 0) (b := 2) (by decide) (by decide) with ⟨k, _, h, rfl⟩ | ⟨h1, h2⟩
  · rcases i_rng (x := y) (a := 0) (b := 2) (by decide) (by decide) with ⟨j, _, h3, rfl⟩ | ⟨h3, h4⟩
    · exact Or.inl ⟨k, j, by omega, by omega, rfl, rfl⟩
    · exact Or.inr ⟨fun q => h3 q.2, Or.inr h4⟩
  · exact Or.inr ⟨fun q => h1 q.1, Or.inl h2⟩
theorem or_c (x : Int32) : (∃ c0, c0 ≤ 8 ∧ x = nI c0) ∨ (¬ (nI 0 ≤ x ∧ x ≤ nI 8) ∧ (x < nI 0 ∨ nI 8 < x)) := by
  rcases i_rng (x := x) (a := 0) (b := 8) (by decide) (by decide) with ⟨k, _, h, rfl⟩ | h
  · exact Or.inl ⟨k, h, rfl⟩
  · exact Or.inr h
theorem wi_c (x y z : Int32) : (∃ f0 a0 n0, f0 < 12 ∧ a0 < 6 ∧ 1 ≤ n0 ∧ n0 ≤ 9 ∧ x = nI f0 ∧ y = nI a0 ∧ z = nI n0) ∨ (¬ ((nI 0 ≤ x ∧ x ≤ nI 11) ∧ (0 ≤ y ∧ y ≤ 5) ∧ (nI 1 ≤ z ∧ z ≤ nI 9)) ∧ ((x < nI 0 ∨ nI 11 < x) ∨ (y < nI 0 ∨ nI 5 < y) ∨ (z < nI 1 ∨ nI 9 < z))) := by
  rcases i_rng (x := x) (a := 0) (b := 11) (by decide) (by decide) with ⟨k, _, h, rfl⟩ | ⟨h1, h2⟩
  · rcases i_rng (x := y) (a := 0) (b := 5) (by decide) (by decide) with ⟨j, _, h3, rfl⟩ | ⟨h3, h4⟩
    · rcases i_rng (x := z) (a := 1) (b := 9) (by decide) (by decide) with ⟨n, h5, h6, rfl⟩ | ⟨h5, h6⟩
      · exact Or.inl ⟨k, j, n, by omega, by omega, h5, h6, rfl, rfl, rfl⟩
      · exact Or.inr ⟨fun q => h5 q.2.2, Or.inr (Or.inr h6)⟩
    · exact Or.inr ⟨fun q => h3 q.2.1, Or.inr (Or.inl h4)⟩
  · exact Or.inr ⟨fun q => h1 q.1, Or.inl h2⟩
theorem w_rng {x : Int32} {wc : Nat} (h : wc ≤ 3) : (∃ j, j < wc ∧ x = nI j) ∨ (¬ (∃ j, j < wc ∧ x = nI j) ∧ (x < nI 0 ∨ nI wc - nI 1 < x)) := by
  by_cases q : ∃ j, j < wc ∧ x = nI j
  · exact Or.inl q
  · refine Or.inr ⟨q, ?_⟩
    have e : (nI wc - nI 1).toInt = (wc : Int) - 1 := by
      rw [Int32.toInt_sub, nI_toInt (by omega), nI_toInt (by omega)]
      exact bm32 (by omega) (by omega)
    by_cases y : x < nI 0
    · exact Or.inl y
    · right
      rw [Int32.lt_iff_toInt_lt, nI_toInt (by omega)] at y
      rw [Int32.lt_iff_toInt_lt, e]
      by_cases z : x.toInt ≤ (wc : Int) - 1
      · exact absurd ⟨x.toInt.toNat, by omega, Int32.toInt_inj.mp (by rw [nI_toInt (by omega)]; omega)⟩ q
      · omega
theorem c_rng (y : Int32) : (∃ pq : Option Nat, (∀ q, pq = some q → q < 6) ∧ y = oI pq) ∨ (¬ (y = -1 ∨ (0 ≤ y ∧ y ≤ 5)) ∧ (y < (-1 : Int32) ∨ nI 5 < y)) := by
  rcases i_rng (x := y) (a := 0) (b := 5) (by decide) (by decide) with ⟨k, _, h, rfl⟩ | ⟨h1, h2⟩
  · exact Or.inl ⟨some k, fun q hq => by cases hq; omega, rfl⟩
  · by_cases q : y = -1
    · exact Or.inl ⟨none, fun q hq => (by cases hq), q⟩
    · refine Or.inr ⟨fun z => z.elim q h1, ?_⟩
      rcases h2 with h2 | h2
      · left
        rw [Int32.lt_iff_toInt_lt] at h2 ⊢
        rw [nI_toInt (by omega)] at h2
        have e : (-1 : Int32).toInt = -1 := by decide
        have q2 : y.toInt ≠ -1 := fun z => q (Int32.toInt_inj.mp (by rw [z, e]))
        omega
      · exact Or.inr h2
theorem ov_c {x y z : Int32} {wc : Nat} (hwc : wc ≤ 3) : (∃ w pq oq, w < wc ∧ x = nI w ∧ (∀ q, pq = some q → q < 6) ∧ y = oI pq ∧ (∀ q, oq = some q → q < 6) ∧ z = oI oq) ∨ (¬ ((∃ j, j < wc ∧ x = nI j) ∧ (y = -1 ∨ (0 ≤ y ∧ y ≤ 5)) ∧ (z = -1 ∨ (0 ≤ z ∧ z ≤ 5))) ∧ ((x < nI 0 ∨ nI wc - nI 1 < x) ∨ (y < (-1 : Int32) ∨ nI 5 < y) ∨ (z < (-1 : Int32) ∨ nI 5 < z))) := by
  rcases w_rng (x := x) hwc with ⟨w, h1, h2⟩ | ⟨h1, h2⟩
  · rcases c_rng y with ⟨pq, h3, h4⟩ | ⟨h3, h4⟩
    · rcases c_rng z with ⟨oq, h5, h6⟩ | ⟨h5, h6⟩
      · exact Or.inl ⟨w, pq, oq, h1, h2, h3, h4, h5, h6⟩
      · exact Or.inr ⟨fun q => h5 q.2.2, Or.inr (Or.inr h6)⟩
    · exact Or.inr ⟨fun q => h3 q.2.1, Or.inr (Or.inl h4)⟩
  · exact Or.inr ⟨fun q => h1 q.1, Or.inl h2⟩
theorem b_rng {x a b : Int32} : (a ≤ x ∧ x ≤ b) ∨ (¬ (a ≤ x ∧ x ≤ b) ∧ (x < a ∨ b < x)) := by
  by_cases q : a ≤ x ∧ x ≤ b
  · exact Or.inl q
  · refine Or.inr ⟨q, ?_⟩
    by_cases y : x < a
    · exact Or.inl y
    · exact Or.inr (Int32.not_le.mp (fun z => q ⟨Int32.not_lt.mp y, z⟩))
theorem fr_c {x lo hi : Int32} {wc : Nat} (hwc : wc ≤ 3) : (∃ w, w < wc ∧ x = nI w ∧ ((-10 : Int32) ≤ lo ∧ lo ≤ nI 9) ∧ ((-9 : Int32) ≤ hi ∧ hi ≤ nI 10)) ∨ (¬ ((∃ j, j < wc ∧ x = nI j) ∧ ((-10 : Int32) ≤ lo ∧ lo ≤ nI 9) ∧ ((-9 : Int32) ≤ hi ∧ hi ≤ nI 10)) ∧ ((x < nI 0 ∨ nI wc - nI 1 < x) ∨ (lo < (-10 : Int32) ∨ nI 9 < lo) ∨ (hi < (-9 : Int32) ∨ nI 10 < hi))) := by
  rcases w_rng (x := x) hwc with ⟨w, h1, h2⟩ | ⟨h1, h2⟩
  · rcases b_rng (x := lo) (a := -10) (b := nI 9) with h3 | ⟨h3, h4⟩
    · rcases b_rng (x := hi) (a := -9) (b := nI 10) with h5 | ⟨h5, h6⟩
      · exact Or.inl ⟨w, h1, h2, h3, h5⟩
      · exact Or.inr ⟨fun q => h5 q.2.2, Or.inr (Or.inr h6)⟩
    · exact Or.inr ⟨fun q => h3 q.2.1, Or.inr (Or.inl h4)⟩
  · exact Or.inr ⟨fun q => h1 q.1, Or.inl h2⟩
/-! the windows of the two states after a call -/
section WN
variable {wc w : Nat} {poc ooc : Nat → Option Nat} {wdc wgc : Nat → Bool} {wlc whc : Nat → Int32} {wfc wac wnc kn : Nat → Nat} {kf : Nat → Nat → Nat} {kg : Nat → Nat → Bool} {po oo : Nat → Option Nat} {wd wg : Nat → Bool} {wl wh : Nat → Int32} {wf wa wn : Nat → Nat}
theorem win_q (_h : winR wc poc ooc wdc wgc wlc whc wfc wac wnc kn kf kg po oo wd wg wl wh wf wa wn) : winR 0 poc ooc wdc wgc wlc whc wfc wac wnc kn kf kg po oo wd wg wl wh wf wa wn := ⟨Nat.zero_le _, fun z hz => absurd hz (Nat.not_lt_zero z)⟩
/-- a new window -/
theorem win_n {f0 a0 n0 : Nat} (h : winR wc poc ooc wdc wgc wlc whc wfc wac wnc kn kf kg po oo wd wg wl wh wf wa wn) (hw : wc < 3) (hf : f0 < 12) (ha : a0 < 6) : winR (wc + 1) (va_up poc wc none) (va_up ooc wc none) (va_up wdc wc false) (va_up wgc wc false) (va_up wlc wc (-10)) (va_up whc wc (nI 10)) (va_up wfc wc f0) (va_up wac wc a0) (va_up wnc wc n0) (va_up kn wc 0) kf kg (va_up po wc none) (va_up oo wc none) (va_up wd wc false) (va_up wg wc false) (upd wl wc (-10)) (upd wh wc (nI 10)) (va_up wf wc f0) (va_up wa wc a0) (va_up wn wc n0) := by
  refine ⟨hw, fun z hz => ?_⟩
  by_cases q : z = wc
  · subst q
    refine ⟨⟨by rw [va_up_self, va_up_self], by rw [va_up_self, va_up_self], by rw [va_up_self, va_up_self], by rw [va_up_self, va_up_self], by rw [va_up_self, upd_s], by rw [va_up_self, upd_s], by rw [va_up_self, va_up_self], by rw [va_up_self, va_up_self], by rw [va_up_self, va_up_self]⟩, ?_, fun q hq => ?_, fun q hq => ?_, ?_, ?_⟩
    · rw [va_up_self, va_up_self, va_up_self, va_up_self]
      exact ⟨rfl, fun t ht => absurd ht (Nat.not_lt_zero t)⟩
    · rw [va_up_self] at hq; cases hq
    · rw [va_up_self] at hq; cases hq
    · rw [va_up_self]; exact ha
    · rw [va_up_self]; exact hf
  · simp only [va_up_ne _ _ q, upd_n q]
    exact h.2 z (by omega)
/-- other keys for a window -/
theorem win_o {pq oq : Option Nat} {d0 : Bool} (h : winR wc poc ooc wdc wgc wlc whc wfc wac wnc kn kf kg po oo wd wg wl wh wf wa wn) (hw : w < wc) (hp : ∀ q, pq = some q → q < 6) (ho : ∀ q, oq = some q → q < 6) : winR wc (va_up poc w pq) (va_up ooc w oq) (va_up wdc w d0) wgc wlc whc wfc wac wnc (va_up kn w (kN pq oq)) (va_up kf w (kF (kf w) pq oq)) (va_up kg w (kG (kg w) d0 pq oq)) (va_up po w pq) (va_up oo w oq) (va_up wd w d0) wg wl wh wf wa wn := by
  refine ⟨h.1, fun z hz => ?_⟩
  obtain ⟨a, b, c, d, e, f⟩ := h.2 z hz
  by_cases q : z = w
  · subst q
    refine ⟨⟨by rw [va_up_self, va_up_self], by rw [va_up_self, va_up_self], by rw [va_up_self, va_up_self], a.2.2.2.1, a.2.2.2.2.1, a.2.2.2.2.2.1, a.2.2.2.2.2.2.1, a.2.2.2.2.2.2.2.1, a.2.2.2.2.2.2.2.2⟩, ?_, fun q hq => ?_, fun q hq => ?_, e, f⟩
    · rw [va_up_self, va_up_self, va_up_self, va_up_self, va_up_self, va_up_self]
      exact ⟨rfl, fun t ht => ⟨kF_b ht, kG_b ht⟩⟩
    · rw [va_up_self] at hq; exact hp q hq
    · rw [va_up_self] at hq; exact ho q hq
  · simp only [va_up_ne _ _ q]
    exact ⟨a, b, c, d, e, f⟩
/-- another frame for a window -/
theorem win_f {rg : Bool} {lo hi : Int32} (h : winR wc poc ooc wdc wgc wlc whc wfc wac wnc kn kf kg po oo wd wg wl wh wf wa wn) : winR wc poc ooc wdc (va_up wgc w rg) (va_up wlc w lo) (va_up whc w hi) wfc wac wnc kn kf kg po oo wd (va_up wg w rg) (upd wl w lo) (upd wh w hi) wf wa wn := by
  refine ⟨h.1, fun z hz => ?_⟩
  obtain ⟨a, b⟩ := h.2 z hz
  by_cases q : z = w
  · subst q
    exact ⟨⟨a.1, a.2.1, a.2.2.1, by rw [va_up_self, va_up_self], by rw [va_up_self, upd_s], by rw [va_up_self, upd_s], a.2.2.2.2.2.2.1, a.2.2.2.2.2.2.2.1, a.2.2.2.2.2.2.2.2⟩, b⟩
  · simp only [va_up_ne _ _ q, upd_n q]
    exact ⟨a, b⟩
theorem cbd_o {pq oq : Option Nat} (h : cBd poc ooc wfc wac kn kf) (hw : w < 3) (hp : ∀ q, pq = some q → q < 6) (ho : ∀ q, oq = some q → q < 6) : cBd (va_up poc w pq) (va_up ooc w oq) wfc wac (va_up kn w (kN pq oq)) (va_up kf w (kF (kf w) pq oq)) := by
  obtain ⟨a, b, c, d, e, f, g⟩ := h
  refine ⟨fun z q hq => ?_, fun z q hq => ?_, c, d, fun z hz => ?_, fun z t hz ht => ?_, fun z t hz ht => ?_⟩
  · by_cases y : z = w
    · rw [y, va_up_self] at hq; exact hp q hq
    · rw [va_up_ne _ _ y] at hq; exact a z q hq
  · by_cases y : z = w
    · rw [y, va_up_self] at hq; exact ho q hq
    · rw [va_up_ne _ _ y] at hq; exact b z q hq
  · by_cases y : z = w
    · rw [y, va_up_self]; exact kN_le
    · rw [va_up_ne _ _ y]; exact e z hz
  · by_cases y : z = w
    · rw [y, va_up_self]
      by_cases k : t < kN pq oq
      · exact kF_lt6 (fun q hq => by have := hp q hq; omega) (fun q hq => by have := ho q hq; omega) k
      · have e1 := f w t hw ht
        cases pq <;> cases oq
        · exact e1
        · show va_up (kf w) 0 _ t < 1000
          rw [va_up_ne _ _ (by
            intro q
            rw [q] at k
            exact k (show 0 < 1 from Nat.one_pos))]
          exact e1
        · show va_up (kf w) 0 _ t < 1000
          rw [va_up_ne _ _ (by
            intro q
            rw [q] at k
            exact k (show 0 < 1 from Nat.one_pos))]
          exact e1
        · exact absurd ht k
    · rw [va_up_ne _ _ y]; exact f z t hz ht
  · by_cases y : z = w
    · rw [y, va_up_self] at ht ⊢
      exact kF_lt6 hp ho ht
    · rw [va_up_ne _ _ y] at ht ⊢
      exact g z t hz ht
theorem cbd_n {f0 a0 : Nat} (h : cBd poc ooc wfc wac kn kf) (_hw : w < 3) (hf : f0 < 12) (ha : a0 < 6) : cBd (va_up poc w none) (va_up ooc w none) (va_up wfc w f0) (va_up wac w a0) (va_up kn w 0) kf := by
  obtain ⟨a, b, c, d, e, f, g⟩ := h
  refine ⟨fun z q hq => ?_, fun z q hq => ?_, fun z hz => ?_, fun z hz => ?_, fun z hz => ?_, fun z t hz ht => ?_, fun z t hz ht => ?_⟩
  · by_cases y : z = w
    · rw [y, va_up_self] at hq; cases hq
    · rw [va_up_ne _ _ y] at hq; exact a z q hq
  · by_cases y : z = w
    · rw [y, va_up_self] at hq; cases hq
    · rw [va_up_ne _ _ y] at hq; exact b z q hq
  · by_cases y : z = w
    · rw [y, va_up_self]; exact ha
    · rw [va_up_ne _ _ y]; exact c z hz
  · by_cases y : z = w
    · rw [y, va_up_self]; exact hf
    · rw [va_up_ne _ _ y]; exact d z hz
  · by_cases y : z = w
    · rw [y, va_up_self]; exact Nat.zero_le _
    · rw [va_up_ne _ _ y]; exact e z hz
  · exact f z t hz ht
  · by_cases y : z = w
    · rw [y, va_up_self] at ht; exact absurd ht (Nat.not_lt_zero t)
    · rw [va_up_ne _ _ y] at ht; exact g z t hz ht
theorem mbd_n {f0 a0 : Nat} (h : mBd po oo wg wl wh wf wa) (hf : f0 < 12) (ha : a0 < 6) : mBd (va_up po w none) (va_up oo w none) (va_up wg w false) (upd wl w (-10)) (upd wh w (nI 10)) (va_up wf w f0) (va_up wa w a0) := by
  obtain ⟨a, b, c, d, e, f, g⟩ := h
  refine ⟨fun z q hq => ?_, fun z q hq => ?_, fun z hz => ?_, fun z hz => ?_, fun z hz => ?_, fun z hz => ?_, fun z hz => ?_⟩
  · by_cases y : z = w
    · rw [y, va_up_self] at hq; cases hq
    · rw [va_up_ne _ _ y] at hq; exact a z q hq
  · by_cases y : z = w
    · rw [y, va_up_self] at hq; cases hq
    · rw [va_up_ne _ _ y] at hq; exact b z q hq
  · by_cases y : z = w
    · rw [y, va_up_self]; exact ha
    · rw [va_up_ne _ _ y]; exact c z hz
  · by_cases y : z = w
    · rw [y, va_up_self]; exact hf
    · rw [va_up_ne _ _ y]; exact d z hz
  · by_cases y : z = w
    · rw [y, upd_s]; decide
    · rw [upd_n y]; exact e z hz
  · by_cases y : z = w
    · rw [y, upd_s]; decide
    · rw [upd_n y]; exact f z hz
  · by_cases y : z = w
    · rw [y, va_up_self] at hz; exact absurd hz Bool.false_ne_true
    · rw [va_up_ne _ _ y] at hz ⊢; exact g z hz
theorem mbd_o {pq oq : Option Nat} (h : mBd po oo wg wl wh wf wa) (hp : ∀ q, pq = some q → q < 6) (ho : ∀ q, oq = some q → q < 6) (hg : wg w = true → ∃ oj, oq = some oj) : mBd (va_up po w pq) (va_up oo w oq) wg wl wh wf wa := by
  obtain ⟨a, b, c, d, e, f, g⟩ := h
  refine ⟨fun z q hq => ?_, fun z q hq => ?_, c, d, e, f, fun z hz => ?_⟩
  · by_cases y : z = w
    · rw [y, va_up_self] at hq; exact hp q hq
    · rw [va_up_ne _ _ y] at hq; exact a z q hq
  · by_cases y : z = w
    · rw [y, va_up_self] at hq; exact ho q hq
    · rw [va_up_ne _ _ y] at hq; exact b z q hq
  · by_cases y : z = w
    · rw [y] at hz
      obtain ⟨oj, hoj⟩ := hg hz
      exact ⟨oj, by rw [y, va_up_self]; exact hoj, ho oj hoj⟩
    · rw [va_up_ne _ _ y]; exact g z hz
theorem mbd_f {rg : Bool} {lo hi : Int32} (h : mBd po oo wg wl wh wf wa) (hlo : (-10 : Int32) ≤ lo ∧ lo ≤ nI 9) (hhi : (-9 : Int32) ≤ hi ∧ hi ≤ nI 10) (hg : rg = true → ∃ oj, oo w = some oj) : mBd po oo (va_up wg w rg) (upd wl w lo) (upd wh w hi) wf wa := by
  obtain ⟨a, b, c, d, e, f, g⟩ := h
  refine ⟨a, b, c, d, fun z hz => ?_, fun z hz => ?_, fun z hz => ?_⟩
  · by_cases y : z = w
    · rw [y, upd_s]; exact ⟨hlo.1, Int32.le_trans hlo.2 (by decide)⟩
    · rw [upd_n y]; exact e z hz
  · by_cases y : z = w
    · rw [y, upd_s]; exact ⟨Int32.le_trans (by decide) hhi.1, hhi.2⟩
    · rw [upd_n y]; exact f z hz
  · by_cases y : z = w
    · rw [y, va_up_self] at hz
      obtain ⟨oj, hoj⟩ := hg hz
      exact ⟨oj, by rw [y]; exact hoj, b w oj hoj⟩
    · rw [va_up_ne _ _ y] at hz; exact g z hz
theorem wn_n {n0 : Nat} (h : ∀ z, z < wc → 1 ≤ wn z ∧ wn z ≤ 9) (h1 : 1 ≤ n0) (h2 : n0 ≤ 9) : ∀ z, z < wc + 1 → 1 ≤ va_up wn wc n0 z ∧ va_up wn wc n0 z ≤ 9 := fun z hz => by
  by_cases y : z = wc
  · rw [y, va_up_self]; exact ⟨h1, h2⟩
  · rw [va_up_ne _ _ y]; exact h z (by omega)
end WN
theorem va_up_id {α : Type} {f : Nat → α} {k : Nat} {x : α} (h : f k = x) : va_up f k x = f := funext fun z => by
  by_cases y : z = k
  · rw [y, va_up_self]; exact h.symm
  · rw [va_up_ne _ _ y]
theorem ex_b (P : Prop) : ∃ b : Bool, b = true ↔ P := by
  by_cases h : P
  · exact ⟨true, fun _ => h, fun _ => rfl⟩
  · exact ⟨false, fun q => absurd q Bool.false_ne_true, fun q => absurd q h⟩
theorem fo_c {fc : Nat} {fo fn : Int32} {flt : Bool} {te : Nat → Int32} (h : fltR fc fo fn flt te) : fo = -1 ∨ fo = nI 0 ∨ fo = nI 1 ∨ fo = nI 2 ∨ fo = nI 3 ∨ fo = nI 4 := by
  obtain ⟨_, tc, op, _, _, h4, h5⟩ := h
  rcases h5 with h5 | h5
  · exact Or.inl h5.2
  · right
    rcases (show op = 0 ∨ op = 1 ∨ op = 2 ∨ op = 3 ∨ op = 4 by omega) with rfl | rfl | rfl | rfl | rfl
    · exact Or.inl h5.2.2.2.1
    · exact Or.inr (Or.inl h5.2.2.2.1)
    · exact Or.inr (Or.inr (Or.inl h5.2.2.2.1))
    · exact Or.inr (Or.inr (Or.inr (Or.inl h5.2.2.2.1)))
    · exact Or.inr (Or.inr (Or.inr (Or.inr h5.2.2.2.1)))
theorem ord_9 {kno oc : Nat} {kfo : Nat → Nat} {kgo : Nat → Bool} {ors od : Bool} (h : ordR kno kfo kgo ors oc od) : ∀ t, t < kno → kfo t < 9 := fun t ht => by
  obtain ⟨h1, _, _, h2, h3⟩ := h
  rw [(h3 t ht).1]
  refine kF_lt6 (fun q hq => by cases hq) (fun q hq => ?_) (by rw [← h2]; exact ht)
  unfold mOq at hq
  cases ors
  · cases hq
  · have hq2 : some oc = some q := hq
    cases hq2
    omega
theorem cell_eq {X : Int64} {hb : Bool} {v : Int32} (h : X = enc hb v) : (if X = -1099511627776 then nI 0 else X.toInt32) = if hb = true then nI 0 else v := by
  rw [h]
  cases hb
  · rw [enc_f, if_neg v64_nn, if_neg Bool.false_ne_true, Int32.toInt32_toInt64]
  · rw [enc_t, if_pos rfl, if_pos rfl]
theorem null_eq {X : Int64} {hb : Bool} {v : Int32} (h : X = enc hb v) : decide (X = -1099511627776) = hb := by
  rw [h]
  cases hb
  · rw [enc_f]; exact decide_eq_false v64_nn
  · rw [enc_t]; exact decide_eq_true rfl
theorem rc_c (x y : Int32) (n : Nat) : (∃ r j, r < n ∧ x = nI r ∧ j < 9 ∧ y = nI j) ∨ ¬ ((∃ i, i < n ∧ x = nI i) ∧ ∃ j, j < 9 ∧ y = nI j) := by
  by_cases h : (∃ i, i < n ∧ x = nI i) ∧ ∃ j, j < 9 ∧ y = nI j
  · obtain ⟨⟨r, h1, h2⟩, j, h3, h4⟩ := h
    exact Or.inl ⟨r, j, h1, h2, h3, h4⟩
  · exact Or.inr h
theorem wn_c (x y z : Int32) {wc : Nat} (hwc : wc ≤ 3) : (wc = 0 ∧ ∃ f0 a0 n0, f0 < 12 ∧ a0 < 6 ∧ 1 ≤ n0 ∧ n0 ≤ 9 ∧ x = nI f0 ∧ y = nI a0 ∧ z = nI n0) ∨ (wc = 1 ∧ ∃ f0 a0 n0, f0 < 12 ∧ a0 < 6 ∧ 1 ≤ n0 ∧ n0 ≤ 9 ∧ x = nI f0 ∧ y = nI a0 ∧ z = nI n0) ∨ (wc = 2 ∧ ∃ f0 a0 n0, f0 < 12 ∧ a0 < 6 ∧ 1 ≤ n0 ∧ n0 ≤ 9 ∧ x = nI f0 ∧ y = nI a0 ∧ z = nI n0) ∨ (wc = 3 ∧ ∃ f0 a0 n0, f0 < 12 ∧ a0 < 6 ∧ 1 ≤ n0 ∧ n0 ≤ 9 ∧ x = nI f0 ∧ y = nI a0 ∧ z = nI n0) ∨ (¬ ((nI 0 ≤ x ∧ x ≤ nI 11) ∧ (0 ≤ y ∧ y ≤ 5) ∧ (nI 1 ≤ z ∧ z ≤ nI 9)) ∧ ((x < nI 0 ∨ nI 11 < x) ∨ (y < nI 0 ∨ nI 5 < y) ∨ (z < nI 1 ∨ nI 9 < z))) := by
  rcases wi_c x y z with h | h
  · rcases (show wc = 0 ∨ wc = 1 ∨ wc = 2 ∨ wc = 3 by omega) with q | q | q | q
    · exact Or.inl ⟨q, h⟩
    · exact Or.inr (Or.inl ⟨q, h⟩)
    · exact Or.inr (Or.inr (Or.inl ⟨q, h⟩))
    · exact Or.inr (Or.inr (Or.inr (Or.inl ⟨q, h⟩)))
  · exact Or.inr (Or.inr (Or.inr (Or.inr h)))
theorem ov_w (y z : Int32) (g : Bool) (pq oq : Option Nat) (h3 : ∀ q, pq = some q → q < 6) (h4 : y = oI pq) (h5 : ∀ q, oq = some q → q < 6) (h6 : z = oI oq) : (∃ pq : Option Nat, (∀ q, pq = some q → q < 6) ∧ y = oI pq ∧ z = -1 ∧ g = true) ∨ (∃ pq : Option Nat, (∀ q, pq = some q → q < 6) ∧ y = oI pq ∧ z = -1 ∧ g = false) ∨ (∃ pq : Option Nat, (∀ q, pq = some q → q < 6) ∧ y = oI pq ∧ ∃ oj, oj < 6 ∧ z = nI oj) := by
  cases oq with
  | none =>
    cases g
    · exact Or.inr (Or.inl ⟨pq, h3, h4, h6, rfl⟩)
    · exact Or.inl ⟨pq, h3, h4, h6, rfl⟩
  | some oj => exact Or.inr (Or.inr ⟨pq, h3, h4, oj, h5 oj rfl, h6⟩)
theorem ov_d (x y z : Int32) (wg : Nat → Bool) {wc : Nat} (hwc : wc ≤ 3) : (0 < wc ∧ x = nI 0 ∧ ∃ pq : Option Nat, (∀ q, pq = some q → q < 6) ∧ y = oI pq ∧ z = -1 ∧ wg 0 = true) ∨ (0 < wc ∧ x = nI 0 ∧ ∃ pq : Option Nat, (∀ q, pq = some q → q < 6) ∧ y = oI pq ∧ z = -1 ∧ wg 0 = false) ∨ (0 < wc ∧ x = nI 0 ∧ ∃ pq : Option Nat, (∀ q, pq = some q → q < 6) ∧ y = oI pq ∧ ∃ oj, oj < 6 ∧ z = nI oj) ∨ (1 < wc ∧ x = nI 1 ∧ ∃ pq : Option Nat, (∀ q, pq = some q → q < 6) ∧ y = oI pq ∧ z = -1 ∧ wg 1 = true) ∨ (1 < wc ∧ x = nI 1 ∧ ∃ pq : Option Nat, (∀ q, pq = some q → q < 6) ∧ y = oI pq ∧ z = -1 ∧ wg 1 = false) ∨ (1 < wc ∧ x = nI 1 ∧ ∃ pq : Option Nat, (∀ q, pq = some q → q < 6) ∧ y = oI pq ∧ ∃ oj, oj < 6 ∧ z = nI oj) ∨ (2 < wc ∧ x = nI 2 ∧ ∃ pq : Option Nat, (∀ q, pq = some q → q < 6) ∧ y = oI pq ∧ z = -1 ∧ wg 2 = true) ∨ (2 < wc ∧ x = nI 2 ∧ ∃ pq : Option Nat, (∀ q, pq = some q → q < 6) ∧ y = oI pq ∧ z = -1 ∧ wg 2 = false) ∨ (2 < wc ∧ x = nI 2 ∧ ∃ pq : Option Nat, (∀ q, pq = some q → q < 6) ∧ y = oI pq ∧ ∃ oj, oj < 6 ∧ z = nI oj) ∨ (¬ ((∃ j, j < wc ∧ x = nI j) ∧ (y = -1 ∨ (0 ≤ y ∧ y ≤ 5)) ∧ (z = -1 ∨ (0 ≤ z ∧ z ≤ 5))) ∧ ((x < nI 0 ∨ nI wc - nI 1 < x) ∨ (y < (-1 : Int32) ∨ nI 5 < y) ∨ (z < (-1 : Int32) ∨ nI 5 < z))) := by
  rcases ov_c (x := x) (y := y) (z := z) hwc with ⟨w, pq, oq, h1, h2, h3, h4, h5, h6⟩ | h
  · rcases (show w = 0 ∨ w = 1 ∨ w = 2 by omega) with rfl | rfl | rfl
    · rcases ov_w y z (wg 0) pq oq h3 h4 h5 h6 with q | q | q
      · exact Or.inl ⟨h1, h2, q⟩
      · exact Or.inr (Or.inl ⟨h1, h2, q⟩)
      · exact Or.inr (Or.inr (Or.inl ⟨h1, h2, q⟩))
    · rcases ov_w y z (wg 1) pq oq h3 h4 h5 h6 with q | q | q
      · exact Or.inr (Or.inr (Or.inr (Or.inl ⟨h1, h2, q⟩)))
      · exact Or.inr (Or.inr (Or.inr (Or.inr (Or.inl ⟨h1, h2, q⟩))))
      · exact Or.inr (Or.inr (Or.inr (Or.inr (Or.inr (Or.inl ⟨h1, h2, q⟩)))))
    · rcases ov_w y z (wg 2) pq oq h3 h4 h5 h6 with q | q | q
      · exact Or.inr (Or.inr (Or.inr (Or.inr (Or.inr (Or.inr (Or.inl ⟨h1, h2, q⟩))))))
      · exact Or.inr (Or.inr (Or.inr (Or.inr (Or.inr (Or.inr (Or.inr (Or.inl ⟨h1, h2, q⟩)))))))
      · exact Or.inr (Or.inr (Or.inr (Or.inr (Or.inr (Or.inr (Or.inr (Or.inr (Or.inl ⟨h1, h2, q⟩))))))))
  · exact Or.inr (Or.inr (Or.inr (Or.inr (Or.inr (Or.inr (Or.inr (Or.inr (Or.inr h))))))))
theorem fr_f (x lo hi : Int32) {wc : Nat} (hwc : wc ≤ 3) : (0 < wc ∧ x = nI 0 ∧ ((-10 : Int32) ≤ lo ∧ lo ≤ nI 9) ∧ ((-9 : Int32) ≤ hi ∧ hi ≤ nI 10)) ∨ (1 < wc ∧ x = nI 1 ∧ ((-10 : Int32) ≤ lo ∧ lo ≤ nI 9) ∧ ((-9 : Int32) ≤ hi ∧ hi ≤ nI 10)) ∨ (2 < wc ∧ x = nI 2 ∧ ((-10 : Int32) ≤ lo ∧ lo ≤ nI 9) ∧ ((-9 : Int32) ≤ hi ∧ hi ≤ nI 10)) ∨ (¬ ((∃ j, j < wc ∧ x = nI j) ∧ ((-10 : Int32) ≤ lo ∧ lo ≤ nI 9) ∧ ((-9 : Int32) ≤ hi ∧ hi ≤ nI 10)) ∧ ((x < nI 0 ∨ nI wc - nI 1 < x) ∨ (lo < (-10 : Int32) ∨ nI 9 < lo) ∨ (hi < (-9 : Int32) ∨ nI 10 < hi))) := by
  rcases fr_c (x := x) (lo := lo) (hi := hi) hwc with ⟨w, h1, h2, h3, h4⟩ | h
  · rcases (show w = 0 ∨ w = 1 ∨ w = 2 by omega) with rfl | rfl | rfl
    · exact Or.inl ⟨h1, h2, h3, h4⟩
    · exact Or.inr (Or.inl ⟨h1, h2, h3, h4⟩)
    · exact Or.inr (Or.inr (Or.inl ⟨h1, h2, h3, h4⟩))
  · exact Or.inr (Or.inr (Or.inr h))
theorem fr_t (x lo hi : Int32) (oo : Nat → Option Nat) {wc : Nat} (hwc : wc ≤ 3) : (0 < wc ∧ x = nI 0 ∧ ((-10 : Int32) ≤ lo ∧ lo ≤ nI 9) ∧ ((-9 : Int32) ≤ hi ∧ hi ≤ nI 10) ∧ ∃ oj, oo 0 = some oj) ∨ (0 < wc ∧ x = nI 0 ∧ ((-10 : Int32) ≤ lo ∧ lo ≤ nI 9) ∧ ((-9 : Int32) ≤ hi ∧ hi ≤ nI 10) ∧ oo 0 = none) ∨ (1 < wc ∧ x = nI 1 ∧ ((-10 : Int32) ≤ lo ∧ lo ≤ nI 9) ∧ ((-9 : Int32) ≤ hi ∧ hi ≤ nI 10) ∧ ∃ oj, oo 1 = some oj) ∨ (1 < wc ∧ x = nI 1 ∧ ((-10 : Int32) ≤ lo ∧ lo ≤ nI 9) ∧ ((-9 : Int32) ≤ hi ∧ hi ≤ nI 10) ∧ oo 1 = none) ∨ (2 < wc ∧ x = nI 2 ∧ ((-10 : Int32) ≤ lo ∧ lo ≤ nI 9) ∧ ((-9 : Int32) ≤ hi ∧ hi ≤ nI 10) ∧ ∃ oj, oo 2 = some oj) ∨ (2 < wc ∧ x = nI 2 ∧ ((-10 : Int32) ≤ lo ∧ lo ≤ nI 9) ∧ ((-9 : Int32) ≤ hi ∧ hi ≤ nI 10) ∧ oo 2 = none) ∨ (¬ ((∃ j, j < wc ∧ x = nI j) ∧ ((-10 : Int32) ≤ lo ∧ lo ≤ nI 9) ∧ ((-9 : Int32) ≤ hi ∧ hi ≤ nI 10)) ∧ ((x < nI 0 ∨ nI wc - nI 1 < x) ∨ (lo < (-10 : Int32) ∨ nI 9 < lo) ∨ (hi < (-9 : Int32) ∨ nI 10 < hi))) := by
  have oc : ∀ z, (∃ oj, oo z = some oj) ∨ oo z = none := fun z => by
    cases oo z with
    | none => exact Or.inr rfl
    | some k => exact Or.inl ⟨k, rfl⟩
  rcases fr_f x lo hi hwc with ⟨h1, h2, h3, h4⟩ | ⟨h1, h2, h3, h4⟩ | ⟨h1, h2, h3, h4⟩ | h
  · rcases oc 0 with q | q
    · exact Or.inl ⟨h1, h2, h3, h4, q⟩
    · exact Or.inr (Or.inl ⟨h1, h2, h3, h4, q⟩)
  · rcases oc 1 with q | q
    · exact Or.inr (Or.inr (Or.inl ⟨h1, h2, h3, h4, q⟩))
    · exact Or.inr (Or.inr (Or.inr (Or.inl ⟨h1, h2, h3, h4, q⟩)))
  · rcases oc 2 with q | q
    · exact Or.inr (Or.inr (Or.inr (Or.inr (Or.inl ⟨h1, h2, h3, h4, q⟩))))
    · exact Or.inr (Or.inr (Or.inr (Or.inr (Or.inr (Or.inl ⟨h1, h2, h3, h4, q⟩)))))
  · exact Or.inr (Or.inr (Or.inr (Or.inr (Or.inr (Or.inr h)))))
theorem in_c (x y : Int32) {n0 n1 : Nat} (h0 : n0 ≤ 24) (h1 : n1 ≤ 24) : (x = nI 0 ∧ ¬ (nI 0 ≤ y ∧ y ≤ nI 7) ∧ (y < nI 0 ∨ nI 7 < y)) ∨ (x = nI 0 ∧ (nI 0 ≤ y ∧ y ≤ nI 7) ∧ n0 = 24) ∨ (x = nI 0 ∧ (nI 0 ≤ y ∧ y ≤ nI 7) ∧ n0 < 24) ∨ (x = nI 1 ∧ ¬ (nI 0 ≤ y ∧ y ≤ nI 7) ∧ (y < nI 0 ∨ nI 7 < y)) ∨ (x = nI 1 ∧ (nI 0 ≤ y ∧ y ≤ nI 7) ∧ n1 = 24) ∨ (x = nI 1 ∧ (nI 0 ≤ y ∧ y ≤ nI 7) ∧ n1 < 24) ∨ (¬ (x = 0 ∨ x = 1) ∧ (x < nI 0 ∨ nI 1 < x)) := by
  rcases tb_c x with h | h | h
  · rcases b_rng (x := y) (a := nI 0) (b := nI 7) with q | q
    · rcases (show n0 = 24 ∨ n0 < 24 by omega) with z | z
      · exact Or.inr (Or.inl ⟨h, q, z⟩)
      · exact Or.inr (Or.inr (Or.inl ⟨h, q, z⟩))
    · exact Or.inl ⟨h, q⟩
  · rcases b_rng (x := y) (a := nI 0) (b := nI 7) with q | q
    · rcases (show n1 = 24 ∨ n1 < 24 by omega) with z | z
      · exact Or.inr (Or.inr (Or.inr (Or.inr (Or.inl ⟨h, q, z⟩))))
      · exact Or.inr (Or.inr (Or.inr (Or.inr (Or.inr (Or.inl ⟨h, q, z⟩)))))
    · exact Or.inr (Or.inr (Or.inr (Or.inl ⟨h, q⟩)))
  · exact Or.inr (Or.inr (Or.inr (Or.inr (Or.inr (Or.inr h)))))
theorem d_Law_cell_0 : decode b_Law_cell 0 = .ok (.iload_n 1, 1) := by decide +kernel
theorem d_Law_cell_1 : decode b_Law_cell 1 = .ok (.aload_n 0, 1) := by decide +kernel
theorem d_Law_cell_2 : decode b_Law_cell 2 = .ok (.arraylength, 1) := by decide +kernel
theorem d_Law_cell_3 : decode b_Law_cell 3 = .ok (.if_icmp .ge 9, 3) := by decide +kernel
theorem d_Law_cell_6 : decode b_Law_cell 6 = .ok (.aload_n 0, 1) := by decide +kernel
theorem d_Law_cell_7 : decode b_Law_cell 7 = .ok (.iload_n 1, 1) := by decide +kernel
theorem d_Law_cell_8 : decode b_Law_cell 8 = .ok (.iaload, 1) := by decide +kernel
theorem d_Law_cell_9 : decode b_Law_cell 9 = .ok (.goto 4, 3) := by decide +kernel
theorem d_Law_cell_12 : decode b_Law_cell 12 = .ok (.iconst 0, 1) := by decide +kernel
theorem d_Law_cell_13 : decode b_Law_cell 13 = .ok (.ireturn, 1) := by decide +kernel
/-! the law: its script, its helper, what the tables give at its entry -/
section LAW0
variable {p : Program} {l : Launch} {e : Env} {R : Room} {s : State} {m : MethodId} {args : Array Value} {below : List Frame} {meth : Method} {c : Code} {H : Heap} {locs : List Loc} {cells slots : Nat} {Q : State → Prop}
variable {cc : ByteArray} {pc : Nat} {ls : Array Slot} {rest : List Value} {A : Nat → Prop} {H0 : Heap}
theorem zk_sld (hx : p.tables.exec = Jvm.exec) (hb : c.code = cc) {b L : Nat} {xs : Nat → Int32} (hX : va_X b L xs s H0) (hbl : b < H0.size) (hbA : ¬ A b) (hS : va_S A H0 H locs) {i : Nat} (hi : i < L) (hL : L < 2 ^ 31) (hdg : decode cc pc = .ok (.iaload, 1)) (kk : W p l e R s m args below meth c H locs cells slots Q (F0 m (pc + 1) ls (.int (xs i) :: rest))) : W p l e R s m args below meth c H locs cells slots Q (F0 m pc ls (.int (nI i) :: .ref b :: rest)) := va_sld hx hb hX hbl hbA hS (nI_in hi hL) hdg (by rw [nI_clamp (Nat.lt_trans hi hL)]; exact kk)
end LAW0
theorem zk_enterX {l : Launch} {y : MethodName} {ws ws' : List Cond} {rm : Room} {av : List Value} {cc : ByteArray} {maxL : Nat} {ret : Option FieldType} {Bp : State → Prop} {Qc : Array Value → State → Outcome → State → Prop} (hy : plainName y.cls = true) (hw : ws = Cond.code y cc maxL ret :: ws') (hlen : (lg_sl av).length ≤ maxL)
    (body : ∀ (p : Program) (e : Env) (s : State) (m : MethodId) (args : Array Value) (below : List Frame) (meth : Method) (c : Code) (ls : Array Slot) (Q : State → Prop), p.tables.exec = Jvm.exec → c.code = cc → c.maxLocals = maxL → meth.sig.returnType = ret → meth.locks = false → Bp s → lv_has ls maxL (lv_args 0 av) → Q = MQ below Qc args s 0 0 (fun _ => False) → W p l e rm s m args below meth c s.heap [] 0 0 Q (F0 m 0 ls [])) : Met l y ws rm (va_Pc av Bp) Qc 0 0 (fun _ => False) := by
  refine Met.ofW (cc := cc) (maxL := maxL) (ret := ret) hy hw ?_
  intro p e s m args below meth c s₁ B hml hv
  obtain ⟨rfl, hP⟩ := hv
  have hl := lv_entry av (n := maxL) hlen
  rw [lg_entry_eq]
  exact body p e s m _ below meth c _ _ B.exec B.bytes hml B.returns B.notSynchronized hP hl rfl
theorem c_Law_cell (l : Launch) (b L : Nat) (xs : Nat → Int32) (hL : L < 2 ^ 31) : Met l y_Law_cell ws_Law_cell rm0_0 (va_Pc [.ref b, .int (nI 0)] (fun U => va_X b L xs U U.heap)) (zSi (if 0 < L then xs 0 else nI 0)) 0 0 (fun _ => False) := by
  refine zk_enterX (cc := b_Law_cell) (maxL := 2) (ret := some .int) (by decide) rfl (Nat.le_of_ble_eq_true rfl) ?_
  intro p e s m args below meth c ls Q hx hb hml hr hlk hX hl hQ
  have hl : lv_has ls 2 [(0, .ref b), (1, .int (nI 0))] := hl
  have hbl : b < s.heap.size := by
    obtain ⟨scr, h1, _⟩ := hX
    exact (Array.getElem?_eq_some_iff.mp h1).1
  have hS : va_S (fun _ => False) s.heap s.heap [] := va_S.rf
  refine lv_iload_n hx hb d_Law_cell_0 rfl (lv_at hl 1 rfl) ?_
  refine lv_aload_n hx hb d_Law_cell_1 rfl (lv_at hl 0 rfl) ?_
  refine va_slen hx hb hX hbl (fun q => q) hS d_Law_cell_2 ?_
  refine zk_icmp_ge (a := 0) (b := L) (tgt := 12) hx hb d_Law_cell_3 rfl (by decide) hL (fun h3 => ?_) (fun h3 => ?_)
  · refine lv_iconst (v := nI 0) hx hb d_Law_cell_12 (by decide) ?_
    exact zk_iretR hx hb hr hlk hQ (if_neg (by omega)).symm d_Law_cell_13
  · refine lv_aload_n hx hb d_Law_cell_6 rfl (lv_at hl 0 rfl) ?_
    refine lv_iload_n hx hb d_Law_cell_7 rfl (lv_at hl 1 rfl) ?_
    refine zk_sld hx hb hX hbl (fun q => q) hS h3 hL d_Law_cell_8 ?_
    refine lv_goto (tgt := 13) hx hb d_Law_cell_9 rfl ?_
    exact zk_iretR hx hb hr hlk hQ (if_pos h3).symm d_Law_cell_13
theorem pre_X {s : State} {H : Heap} {b L : Nat} {xs : Nat → Int32} (hX : va_X b L xs s H) : PreS s H (va_Pc [.ref b, .int (nI 0)] (fun U => va_X b L xs U U.heap)) [.ref b, .int (nI 0)] :=
  ⟨fun a U g mk q => ⟨q.1, va_X.moved (u := U) (U := U.calling g mk a) (Vm.Alike.refl U.vm) q.2⟩, fun U hU hW => ⟨rfl, by show va_X b L xs U U.heap; rw [hU]; exact va_X.moved hW.alike hX⟩⟩
theorem arr_int {s : State} {args : Array Value} (h : (Cond.arrayClass .int).before args s = true) : ∃ c, ArrOfT s c .int ∧ va_RA s c .int := by
  obtain ⟨c, k, comp, h1, h2, h3⟩ := Cond.arrayClass_spec h
  exact ⟨c, fun n z => ⟨fun k h => (by cases h), k, h2, comp, h3⟩, h1⟩
theorem arr_long {s : State} {args : Array Value} (h : (Cond.arrayClass .long).before args s = true) : ∃ c, ArrOfT s c .long ∧ va_RA s c .long := by
  obtain ⟨c, k, comp, h1, h2, h3⟩ := Cond.arrayClass_spec h
  exact ⟨c, fun n z => ⟨fun k h => (by cases h), k, h2, comp, h3⟩, h1⟩
theorem arr_bool {s : State} {args : Array Value} (h : (Cond.arrayClass .boolean).before args s = true) : ∃ c, ArrOfT s c .boolean ∧ va_RA s c .boolean := by
  obtain ⟨c, k, comp, h1, h2, h3⟩ := Cond.arrayClass_spec h
  exact ⟨c, fun n z => ⟨fun k h => (by cases h), k, h2, comp, h3⟩, h1⟩
theorem arr_obj {s : State} {args : Array Value} {C : String} (h : (Cond.arrayOver (.object C)).before args s = true) : ∃ c, ArrOfT s c (.object C) ∧ va_RA s c (.object C) := by
  obtain ⟨comp, c, k, h0, _, h1, h2, h3⟩ := Cond.arrayOver_spec h
  exact ⟨c, fun n z => ⟨fun k h => (by cases h), k, h1, comp, h2⟩, k, comp, h1, h2, h0, h3⟩
/-- the classes and array classes, as the tables have them -/
theorem law_K {s : State} {args : Array Value} (hts : ∀ w ∈ lw_tbl, w.before args s = true) : ∃ (D : va_G) (cI cL cZ cW cR : ClassId), va_K D vwCl (zT cI cL cZ cW cR) s := by
  have hz : ∀ w ∈ zt, w.before args s = true := fun w h => hts w (zt_sub h)
  obtain ⟨c0, i0, h0⟩ := u_known (C := R_Rows) (T := F_Rows) (N := 5) hz hin_Rows (hz _ it_Rows)
  obtain ⟨c1, i1, h1⟩ := u_known (C := R_Keys) (T := F_Keys) (N := 3) hz hin_Keys (hz _ it_Keys)
  obtain ⟨c2, i2, h2⟩ := u_known (C := R_Window) (T := F_Window) (N := 10) hz hin_Window (hz _ it_Window)
  obtain ⟨c3, i3, h3⟩ := u_known (C := R_Query) (T := F_Query) (N := 8) hz hin_Query (hz _ it_Query)
  obtain ⟨c4, i4, h4⟩ := u_known (C := R_Meter) (T := F_Meter) (N := 4) hz hin_Meter (hz _ it_Meter)
  obtain ⟨c5, i5, h5⟩ := u_known (C := R_Matcher) (T := F_Matcher) (N := 6) hz hin_Matcher (hz _ it_Matcher)
  obtain ⟨c6, i6, h6⟩ := u_known (C := R_Reckoner) (T := F_Reckoner) (N := 8) hz hin_Reckoner (hz _ it_Reckoner)
  obtain ⟨c7, i7, h7⟩ := u_known (C := R_Runner) (T := F_Runner) (N := 8) hz hin_Runner (hz _ it_Runner)
  obtain ⟨c8, i8, h8⟩ := u_known (C := R_FQ) (T := F_FQ) (N := 3) hz hin_FQ (hz _ it_FQ)
  obtain ⟨c9, i9, h9⟩ := u_known (C := R_Mo) (T := F_Mo) (N := 44) hz hin_Mo (hz _ it_Mo)
  obtain ⟨cI, hI⟩ := arr_int (hz _ ac_int)
  obtain ⟨cL, hL⟩ := arr_long (hz _ ac_long)
  obtain ⟨cZ, hZ⟩ := arr_bool (hz _ ac_boolean)
  obtain ⟨cW, hW⟩ := arr_obj (hts _ ao_Window)
  obtain ⟨cR, hR⟩ := arr_obj (hts _ ao_Rows)
  refine ⟨(fun k => match k with | 0 => c0 | 1 => c1 | 2 => c2 | 3 => c3 | 4 => c4 | 5 => c5 | 6 => c6 | 7 => c7 | 8 => c8 | _ => c9, fun k => match k with | 0 => i0 | 1 => i1 | 2 => i2 | 3 => i3 | 4 => i4 | 5 => i5 | 6 => i6 | 7 => i7 | 8 => i8 | _ => i9), cI, cL, cZ, cW, cR, fun c q hq => ?_, fun k q hq => ?_⟩
  · match c, hq with
    | 0, hq => cases hq; exact h0
    | 1, hq => cases hq; exact h1
    | 2, hq => cases hq; exact h2
    | 3, hq => cases hq; exact h3
    | 4, hq => cases hq; exact h4
    | 5, hq => cases hq; exact h5
    | 6, hq => cases hq; exact h6
    | 7, hq => cases hq; exact h7
    | 8, hq => cases hq; exact h8
    | 9, hq => cases hq; exact h9
    | _ + 10, hq => cases hq
  · match k, hq with
    | 0, hq => cases hq; exact hI
    | 1, hq => cases hq; exact hL
    | 2, hq => cases hq; exact hZ
    | 3, hq => cases hq; exact hW
    | 4, hq => cases hq; exact hR
    | _ + 5, hq => cases hq
theorem law_N {s : State} {args : Array Value} (hts : ∀ w ∈ lw_tbl, w.before args s = true) : zNs s := by
  refine ⟨fun q hq => ?_, va_AO.of (hts _ ao_Rows), va_AO.of (hts _ ao_Window)⟩
  simp only [zNl, List.mem_cons, List.not_mem_nil, or_false] at hq
  rcases hq with rfl | rfl | rfl | rfl | rfl | rfl | rfl | rfl | rfl | rfl
  · exact va_Nw.of rfl (hts _ nl_FQ_24_t)
  · exact va_Nw.of rfl (hts _ nl_Query_11_t)
  · exact va_Nw.of rfl (hts _ nl_Window_11_t)
  · exact va_Nw.of rfl (hts _ nl_Query_20_t)
  · exact va_Nw.of rfl (hts _ nl_Query_41_t)
  · exact va_Nw.of rfl (hts _ nl_Runner_114_t)
  · exact va_Nw.of rfl (hts _ nl_Matcher_46_t)
  · exact va_Nw.of rfl (hts _ nl_Matcher_54_t)
  · exact va_Nw.of rfl (hts _ nl_Meter_28_t)
  · exact va_Nw.of rfl (hts _ nl_Meter_41_t)
