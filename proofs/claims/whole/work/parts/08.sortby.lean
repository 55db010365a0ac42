/-! sorting by runs that double, merged from one array into another -/
def leOf (lt : Nat → Nat → Bool) (p q : Nat) : Prop := lt q p = false
theorem mg_srt {lt : Nat → Nat → Bool} (as : ∀ a b, lt a b = true → lt b a = false) (tr : ∀ a b c, lt b a = false → lt c b = false → lt c a = false) : ∀ (xs ys : List Nat), xs.Pairwise (leOf lt) → ys.Pairwise (leOf lt) → (List.merge xs ys lt).Pairwise (leOf lt) := by
  intro xs
  induction xs with
  | nil => intro ys _ h; rw [List.nil_merge]; exact h
  | cons x xs ihx =>
    intro ys
    induction ys with
    | nil => intro h _; rw [show List.merge (x :: xs) [] lt = x :: xs by simp]; exact h
    | cons y ys ihy =>
      intro h1 h2
      have hx := (List.pairwise_cons.mp h1)
      have hy := (List.pairwise_cons.mp h2)
      by_cases h : lt x y = true
      · rw [mg_left (Or.inr ⟨y, ys, rfl, h⟩)]
        refine List.pairwise_cons.mpr ⟨fun z hz => ?_, ihx (y :: ys) hx.2 h2⟩
        rcases List.mem_merge.mp hz with q | q
        · exact hx.1 z q
        · rcases List.mem_cons.mp q with rfl | q
          · exact as _ _ h
          · exact tr _ _ _ (as _ _ h) (hy.1 z q)
      · have h : lt x y = false := by cases hq : lt x y; rfl; exact absurd hq h
        rw [mg_right (Or.inr ⟨x, xs, rfl, h⟩)]
        refine List.pairwise_cons.mpr ⟨fun z hz => ?_, ihy h1 hy.2⟩
        rcases List.mem_merge.mp hz with q | q
        · rcases List.mem_cons.mp q with rfl | q
          · exact h
          · exact tr _ _ _ h (hx.1 z q)
        · exact hy.1 z q
def Srt (lt : Nat → Nat → Bool) (n run : Nat) (g : Nat → Nat) : Prop := ∀ c, (sg g (c * run) (min (c * run + run) n)).Pairwise (leOf lt)
theorem srt_1 {lt : Nat → Nat → Bool} {n : Nat} {g : Nat → Nat} : Srt lt n 1 g := fun c => by
  have hl : (sg g (c * 1) (min (c * 1 + 1) n)).length ≤ 1 := by rw [sg_len]; omega
  match hq : sg g (c * 1) (min (c * 1 + 1) n), hl with
  | [], _ => exact List.Pairwise.nil
  | [x], _ => exact List.pairwise_singleton _ _
/-- what holds of the spare array when the runs below st have been merged -/
def SoIn (lt : Nat → Nat → Bool) (n run c0 st : Nat) (g1 h2 : Nat → Nat) : Prop := st = c0 * (2 * run) ∧ (∀ d, d < c0 → (sg h2 (d * (2 * run)) (min (d * (2 * run) + 2 * run) n)).Pairwise (leOf lt)) ∧ (sg h2 0 (min st n)).Perm (sg g1 0 (min st n))
theorem so_0 {lt : Nat → Nat → Bool} {n run : Nat} {g1 h2 : Nat → Nat} : SoIn lt n run 0 0 g1 h2 := ⟨by omega, fun d h => absurd h (Nat.not_lt_zero d), by rw [sg_nil (by omega), sg_nil (by omega)]⟩
theorem so_in {lt : Nat → Nat → Bool} (as : ∀ a b, lt a b = true → lt b a = false) (tr : ∀ a b c, lt b a = false → lt c b = false → lt c a = false) {n run c0 st : Nat} {g1 h2 h3 : Nat → Nat} (hr : 1 ≤ run) (hst : st < n) (hS : Srt lt n run g1) (hI : SoIn lt n run c0 st g1 h2)
    (h1 : ∀ z, z < st ∨ min (min (st + run) n + run) n ≤ z → h3 z = h2 z) (hm : sg h3 st (min (min (st + run) n + run) n) = List.merge (sg g1 st (min (st + run) n)) (sg g1 (min (st + run) n) (min (min (st + run) n + run) n)) lt) : SoIn lt n run (c0 + 1) (st + 2 * run) g1 h3 := by
  obtain ⟨e, hA, hB⟩ := hI
  have ee : min (min (st + run) n + run) n = min (st + 2 * run) n := by omega
  rw [ee] at h1 hm
  have e2 : (c0 + 1) * (2 * run) = c0 * (2 * run) + 2 * run := Nat.succ_mul _ _
  refine ⟨by omega, fun d hd => ?_, ?_⟩
  · by_cases hq : d < c0
    · have hle : d * (2 * run) + 2 * run ≤ c0 * (2 * run) := by
        have := Nat.mul_le_mul_right (2 * run) (show d + 1 ≤ c0 from hq)
        rw [Nat.succ_mul] at this
        exact this
      rw [sg_congr (h := h2) (fun i _ hi => h1 i (Or.inl (by omega)))]
      exact hA d hq
    · obtain rfl : d = c0 := by omega
      rw [← e, hm]
      refine mg_srt as tr _ _ ?_ ?_
      · have := hS (2 * d)
        rw [show 2 * d * run = st by rw [e, Nat.mul_comm 2 d, Nat.mul_assoc]] at this
        exact this
      · by_cases hq : st + run ≤ n
        · have := hS (2 * d + 1)
          rw [show (2 * d + 1) * run = st + run by rw [Nat.succ_mul, e, Nat.mul_comm 2 d, Nat.mul_assoc]] at this
          rw [show min (st + run) n = st + run by omega]
          rw [show min (st + run + run) n = min (st + 2 * run) n by omega] at this
          exact this
        · rw [sg_nil (by omega)]
          exact List.Pairwise.nil
  · rw [← sg_app (g := h3) (b := st) (by omega) (by omega), ← sg_app (g := g1) (b := st) (by omega) (by omega)]
    refine List.Perm.append ?_ ?_
    · rw [sg_congr (h := h2) (fun i _ hi => h1 i (Or.inl hi))]
      rw [show min st n = st by omega] at hB
      exact hB
    · rw [hm]
      refine (List.merge_perm_append lt).trans ?_
      rw [sg_app (by omega) (by omega)]
theorem so_out {lt : Nat → Nat → Bool} {n run c0 st : Nat} {g1 h2 : Nat → Nat} (hst : n ≤ st) (hI : SoIn lt n run c0 st g1 h2) : Srt lt n (run * 2) (va_cpy h2 g1 0 0 n) ∧ (sg (va_cpy h2 g1 0 0 n) 0 n).Perm (sg g1 0 n) := by
  obtain ⟨e, hA, hB⟩ := hI
  have hc : ∀ i, i < n → va_cpy h2 g1 0 0 n i = h2 i := fun i hi => by rw [pk_cpy_in (by omega) (by omega)]; rw [show 0 + (i - 0) = i by omega]
  refine ⟨fun d => ?_, ?_⟩
  · rw [show run * 2 = 2 * run by omega]
    by_cases hq : d < c0
    · rw [sg_congr (h := h2) (fun i _ hi => hc i (by omega))]
      exact hA d hq
    · have hle : c0 * (2 * run) ≤ d * (2 * run) := Nat.mul_le_mul_right _ (by omega)
      rw [sg_nil (by omega)]
      exact List.Pairwise.nil
  · rw [sg_congr (h := h2) (fun i _ hi => hc i hi)]
    rw [show min st n = n by omega] at hB
    exact hB
/-- one key of an order -/
def lx (d : Bool) (X Y : Int64) (r : Bool) : Bool := if X = Y then r else if d = true then decide (Y < X) else decide (X < Y)
theorem lx_as {d : Bool} {X Y : Int64} {r1 r2 : Bool} (hr : r1 = true → r2 = false) (h : lx d X Y r1 = true) : lx d Y X r2 = false := by
  unfold lx at *
  by_cases e : X = Y
  · subst e
    rw [if_pos rfl] at h ⊢
    exact hr h
  · rw [if_neg e] at h
    rw [if_neg (fun q => e q.symm)]
    cases d
    · simp only [Bool.false_eq_true, if_false, decide_eq_true_eq, decide_eq_false_iff_not] at h ⊢
      exact fun q => absurd (Int64.lt_trans h q) (Int64.lt_irrefl)
    · simp only [if_true, decide_eq_true_eq, decide_eq_false_iff_not] at h ⊢
      exact fun q => absurd (Int64.lt_trans h q) (Int64.lt_irrefl)
theorem lx_tr {d : Bool} {X Y Z : Int64} {r1 r2 r3 : Bool} (hr : r1 = false → r2 = false → r3 = false) (h1 : lx d Y X r1 = false) (h2 : lx d Z Y r2 = false) : lx d Z X r3 = false := by
  unfold lx at *
  by_cases e1 : Y = X
  · subst e1
    rw [if_pos rfl] at h1
    by_cases e2 : Z = Y
    · subst e2
      rw [if_pos rfl] at h2 ⊢
      exact hr h1 h2
    · rw [if_neg e2] at h2 ⊢
      exact h2
  · rw [if_neg e1] at h1
    by_cases e2 : Z = Y
    · subst e2
      rw [if_neg e1]
      exact h1
    · rw [if_neg e2] at h2
      cases d
      · simp only [Bool.false_eq_true, if_false, decide_eq_false_iff_not, Int64.not_lt] at h1 h2 ⊢
        have h3 : X ≤ Z := Int64.le_trans h1 h2
        by_cases e3 : Z = X
        · exact absurd (Int64.le_antisymm (e3 ▸ h2) h1) e1
        · rw [if_neg e3, decide_eq_false_iff_not, Int64.not_lt]; exact h3
      · simp only [if_true, decide_eq_false_iff_not, Int64.not_lt] at h1 h2 ⊢
        have h3 : Z ≤ X := Int64.le_trans h2 h1
        by_cases e3 : Z = X
        · exact absurd (Int64.le_antisymm h1 (e3 ▸ h2)) e1
        · rw [if_neg e3, decide_eq_false_iff_not, Int64.not_lt]; exact h3
theorem kLt_s {f : Nat → Int64} {k : Nat} {kf : Nat → Nat} {kg : Nat → Bool} {d t p q : Nat} : kLt f k kf kg (d + 1) t p q = lx (kg t) (f (p * k + kf t)) (f (q * k + kf t)) (kLt f k kf kg d (t + 1) p q) := rfl
theorem kLt_as {f : Nat → Int64} {k : Nat} {kf : Nat → Nat} {kg : Nat → Bool} : ∀ (d t a b : Nat), kLt f k kf kg d t a b = true → kLt f k kf kg d t b a = false := by
  intro d
  induction d with
  | zero => intro t a b h; exact decide_eq_false (fun q => absurd (Int64.lt_trans (of_decide_eq_true h) q) Int64.lt_irrefl)
  | succ d ih => intro t a b h; rw [kLt_s] at h ⊢; exact lx_as (ih (t + 1) a b) h
theorem kLt_tr {f : Nat → Int64} {k : Nat} {kf : Nat → Nat} {kg : Nat → Bool} : ∀ (d t a b c : Nat), kLt f k kf kg d t b a = false → kLt f k kf kg d t c b = false → kLt f k kf kg d t c a = false := by
  intro d
  induction d with
  | zero => intro t a b c h1 h2; exact decide_eq_false (Int64.not_lt.mpr (Int64.le_trans (Int64.not_lt.mp (of_decide_eq_false h1)) (Int64.not_lt.mp (of_decide_eq_false h2))))
  | succ d ih => intro t a b c h1 h2; rw [kLt_s] at h1 h2 ⊢; exact lx_tr (ih (t + 1) a b c) h1 h2

theorem so_g {g g1 : Nat → Nat} {n k nv z : Nat} (hg : ∀ z, z < n → g z * k + k ≤ nv) (hp : (sg g1 0 n).Perm (sg g 0 n)) (hz : z < n) : g1 z * k + k ≤ nv := by
  have h1 : g1 z ∈ sg g1 0 n := sg_mem.mpr ⟨z, by omega, hz, rfl⟩
  obtain ⟨i, _, h3, h4⟩ := sg_mem.mp (hp.mem_iff.mp h1)
  rw [← h4]
  exact hg i h3
abbrev rm3_120 : Room := { frames := 3, cells := 0, slots := 0, locals := 120 }
set_option maxHeartbeats 4000000 in
set_option maxRecDepth 100000 in
theorem c_Rows_sortBy (l : Launch) (D : va_G) (cI cL cZ cW cR : ClassId) (sz : Nat) (r v a b k n nv ns : Nat) (f : Nat → Int64) (g h : Nat → Nat) (ko kc kd kn : Nat) (kf : Nat → Nat) (kg : Nat → Bool) (hn : n ≤ ns) (hg : ∀ z, z < n → g z * k + k ≤ nv) (hns : ns < 1000) (hnv : nv < 100000) (hk : 10 ≤ k) (hkn : kn ≤ 2) (hkf : ∀ t, t < kn → kf t < k) : Met l y_Rows_sortBy ws_Rows_sortBy rm3_120 (zPw D vwCl (zT cI cL cZ cW cR) [(r, .inr (0, [.int (nI k), .ref v, .ref a, .ref b, .int (nI n)])), (v, .inl (cL, nv, .inr (.inl f))), (a, .inl (cI, ns, .inl (zN g))), (b, .inl (cI, ns, .inl (zN h))), (ko, .inr (1, [.ref kc, .ref kd, .int (nI kn)])), (kc, .inl (cI, 2, .inl (zN kf))), (kd, .inl (cZ, 2, .inl (zZ kg)))] sz [.ref r, .ref ko]) (zQv D vwCl (zT cI cL cZ cW cR) [(r, .inr (0, [.int (nI k), .ref v, .ref a, .ref b, .int (nI n)])), (v, .inl (cL, nv, .inr (.inl f))), (a, .inl (cI, ns, .inl (zN g))), (b, .inl (cI, ns, .inl (zN h))), (ko, .inr (1, [.ref kc, .ref kd, .int (nI kn)])), (kc, .inl (cI, 2, .inl (zN kf))), (kd, .inl (cZ, 2, .inl (zZ kg)))] sz (fun u : (Nat → Nat) × (Nat → Nat) => (sg u.1 0 n).Perm (sg g 0 n) ∧ (sg u.1 0 n).Pairwise (leOf (kLt f k kf kg kn 0)) ∧ ∀ z, n ≤ z → u.1 z = g z) (fun u => [(r, .inr (0, [.int (nI k), .ref v, .ref a, .ref b, .int (nI n)])), (v, .inl (cL, nv, .inr (.inl f))), (a, .inl (cI, ns, .inl (zN u.1))), (b, .inl (cI, ns, .inl (zN u.2))), (ko, .inr (1, [.ref kc, .ref kd, .int (nI kn)])), (kc, .inl (cI, 2, .inl (zN kf))), (kd, .inl (cZ, 2, .inl (zZ kg)))])) 0 0 (va_A [(r, .inr (0, [.int (nI k), .ref v, .ref a, .ref b, .int (nI n)])), (v, .inl (cL, nv, .inr (.inl f))), (a, .inl (cI, ns, .inl (zN g))), (b, .inl (cI, ns, .inl (zN h))), (ko, .inr (1, [.ref kc, .ref kd, .int (nI kn)])), (kc, .inl (cI, 2, .inl (zN kf))), (kd, .inl (cZ, 2, .inl (zZ kg)))] sz) := by
  refine zk_enterW (cc := b_Rows_sortBy) (maxL := 5) (ret := none) (by decide) rfl (Nat.le_of_ble_eq_true rfl) ?_
  intro p e s m args below meth c ls Q hx hb hml hr hlk hown hts hP hK hN hl hin hsz A hAe hA hD hS hQ
  subst hsz
  have hl : lv_has ls 5 [(0, .ref r), (1, .ref ko)] := hl
  refine lv_iconst (v := nI 1) hx hb d_Rows_sortBy_0 (by decide) ?_
  refine lv_istore_n (lv' := [(2, .int (nI 1)), (0, .ref r), (1, .ref ko)]) hx hb d_Rows_sortBy_1 rfl hl (by decide) rfl (fun ls hl => ?_)
  have lb2 : ∀ (fuel2 : Nat) (run : Nat) (g1 : Nat → Nat) (h1 : Nat → Nat), (1 ≤ run) → (run ≤ 2 * n + 1) → ((sg g1 0 n).Perm (sg g 0 n)) → (Srt (kLt f k kf kg kn 0) n run g1) → (∀ z, n ≤ z → g1 z = g z) → n - run < fuel2 → ∀ (ls : Array Slot) (H : Heap) (locs : List Loc), lv_has ls 5 [(0, .ref r), (1, .ref ko), (2, .int (nI run))] → va_P D vwCl [(r, .inr (0, [.int (nI k), .ref v, .ref a, .ref b, .int (nI n)])), (v, .inl (cL, nv, .inr (.inl f))), (a, .inl (cI, ns, .inl (zN g1))), (b, .inl (cI, ns, .inl (zN h1))), (ko, .inr (1, [.ref kc, .ref kd, .int (nI kn)])), (kc, .inl (cI, 2, .inl (zN kf))), (kd, .inl (cZ, 2, .inl (zZ kg)))] H → va_D A [(r, .inr (0, [.int (nI k), .ref v, .ref a, .ref b, .int (nI n)])), (v, .inl (cL, nv, .inr (.inl f))), (a, .inl (cI, ns, .inl (zN g1))), (b, .inl (cI, ns, .inl (zN h1))), (ko, .inr (1, [.ref kc, .ref kd, .int (nI kn)])), (kc, .inl (cI, 2, .inl (zN kf))), (kd, .inl (cZ, 2, .inl (zZ kg)))] → va_S A s.heap H locs → W p l e rm3_120 s m args below meth c H locs 0 0 Q (F0 m 2 ls []) := by
    intro fuel2
    induction fuel2 with
    | zero => intro run g1 h1 hru hr2 hp1 hsr hz1 hfu2; exact absurd hfu2 (Nat.not_lt_zero _)
    | succ fuel2 ih2 =>
      intro run g1 h1 hru hr2 hp1 hsr hz1 hfu2 ls H locs hl hP hD hS
      refine lv_iload_n hx hb d_Rows_sortBy_2 rfl (lv_at hl 2 rfl) ?_
      refine lv_aload_n hx hb d_Rows_sortBy_3 rfl (lv_at hl 0 rfl) ?_
      refine va_get (C := R_Rows) (T := F_Rows) (N := 5) hx hb hts (fun w h => List.mem_cons_of_mem _ (hin_Rows w h)) hown hK hP 0 rfl rfl 4 (by decide) (hts _ (List.mem_cons_of_mem _ fl_Rows_26)) (fun _ h => h) rfl d_Rows_sortBy_4 ?_
      refine zk_icmp_ge (tgt := 84) hx hb d_Rows_sortBy_7 rfl (by omega) (by omega) (fun h7 => ?_) (fun h7 => ?_)
      · skip
        have hsr0 := hsr 0
        rw [Nat.zero_mul, Nat.zero_add, show min run n = n by omega] at hsr0
        exact zk_vretW hx hb hr hlk hAe hQ hK ((g1, h1)) (⟨hp1, hsr0, hz1⟩) hP hD hS d_Rows_sortBy_84
      · skip
        refine lv_iconst (v := nI 0) hx hb d_Rows_sortBy_10 (by decide) ?_
        refine lv_istore_n (lv' := [(3, .int (nI 0)), (0, .ref r), (1, .ref ko), (2, .int (nI run))]) hx hb d_Rows_sortBy_11 rfl hl (by decide) rfl (fun ls hl => ?_)
        have lb12 : ∀ (fuel12 : Nat) (c0 : Nat) (st : Nat) (h2 : Nat → Nat), (SoIn (kLt f k kf kg kn 0) n run c0 st g1 h2) → (st ≤ 4 * n + 4) → n - st < fuel12 → ∀ (ls : Array Slot) (H : Heap) (locs : List Loc), lv_has ls 5 [(0, .ref r), (1, .ref ko), (2, .int (nI run)), (3, .int (nI st))] → va_P D vwCl [(r, .inr (0, [.int (nI k), .ref v, .ref a, .ref b, .int (nI n)])), (v, .inl (cL, nv, .inr (.inl f))), (a, .inl (cI, ns, .inl (zN g1))), (b, .inl (cI, ns, .inl (zN h2))), (ko, .inr (1, [.ref kc, .ref kd, .int (nI kn)])), (kc, .inl (cI, 2, .inl (zN kf))), (kd, .inl (cZ, 2, .inl (zZ kg)))] H → va_D A [(r, .inr (0, [.int (nI k), .ref v, .ref a, .ref b, .int (nI n)])), (v, .inl (cL, nv, .inr (.inl f))), (a, .inl (cI, ns, .inl (zN g1))), (b, .inl (cI, ns, .inl (zN h2))), (ko, .inr (1, [.ref kc, .ref kd, .int (nI kn)])), (kc, .inl (cI, 2, .inl (zN kf))), (kd, .inl (cZ, 2, .inl (zZ kg)))] → va_S A s.heap H locs → W p l e rm3_120 s m args below meth c H locs 0 0 Q (F0 m 12 ls []) := by
          intro fuel12
          induction fuel12 with
          | zero => intro c0 st h2 hI hst2 hfu12; exact absurd hfu12 (Nat.not_lt_zero _)
          | succ fuel12 ih12 =>
            intro c0 st h2 hI hst2 hfu12 ls H locs hl hP hD hS
            refine lv_iload_n hx hb d_Rows_sortBy_12 rfl (lv_at hl 3 rfl) ?_
            refine lv_aload_n hx hb d_Rows_sortBy_13 rfl (lv_at hl 0 rfl) ?_
            refine va_get (C := R_Rows) (T := F_Rows) (N := 5) hx hb hts (fun w h => List.mem_cons_of_mem _ (hin_Rows w h)) hown hK hP 0 rfl rfl 4 (by decide) (hts _ (List.mem_cons_of_mem _ fl_Rows_26)) (fun _ h => h) rfl d_Rows_sortBy_14 ?_
            refine zk_icmp_ge (tgt := 60) hx hb d_Rows_sortBy_17 rfl (by omega) (by omega) (fun h17 => ?_) (fun h17 => ?_)
            · skip
              refine lv_aload_n hx hb d_Rows_sortBy_60 rfl (lv_at hl 0 rfl) ?_
              refine va_get (C := R_Rows) (T := F_Rows) (N := 5) hx hb hts (fun w h => List.mem_cons_of_mem _ (hin_Rows w h)) hown hK hP 0 rfl rfl 3 (by decide) (hts _ (List.mem_cons_of_mem _ fl_Rows_23)) (fun _ h => h) rfl d_Rows_sortBy_61 ?_
              refine lv_iconst (v := nI 0) hx hb d_Rows_sortBy_64 (by decide) ?_
              refine lv_aload_n hx hb d_Rows_sortBy_65 rfl (lv_at hl 0 rfl) ?_
              refine va_get (C := R_Rows) (T := F_Rows) (N := 5) hx hb hts (fun w h => List.mem_cons_of_mem _ (hin_Rows w h)) hown hK hP 0 rfl rfl 2 (by decide) (hts _ (List.mem_cons_of_mem _ fl_Rows_19)) (fun _ h => h) rfl d_Rows_sortBy_66 ?_
              refine lv_iconst (v := nI 0) hx hb d_Rows_sortBy_69 (by decide) ?_
              refine lv_aload_n hx hb d_Rows_sortBy_70 rfl (lv_at hl 0 rfl) ?_
              refine va_get (C := R_Rows) (T := F_Rows) (N := 5) hx hb hts (fun w h => List.mem_cons_of_mem _ (hin_Rows w h)) hown hK hP 0 rfl rfl 4 (by decide) (hts _ (List.mem_cons_of_mem _ fl_Rows_26)) (fun _ h => h) rfl d_Rows_sortBy_71 ?_
              refine zk_copyn hx hb (hml.trans hl.1.symm) hown (hts _ (List.mem_cons_of_mem _ ml_Rows_47)) (hts _ (List.mem_cons_of_mem _ na_arraycopy)) (hts _ (List.mem_cons_of_mem _ st_arraycopy)) (hts _ (List.mem_cons_of_mem _ in_System)) hK hP hD hS 3 2 0 rfl rfl rfl (by omega) (by omega) (by omega) (by omega) (by omega) (Nat.le_of_ble_eq_true rfl) (Nat.le_of_ble_eq_true rfl) d_Rows_sortBy_74 (fun H locs hP hD hS => ?_)
              have hP : va_P D vwCl [(r, .inr (0, [.int (nI k), .ref v, .ref a, .ref b, .int (nI n)])), (v, .inl (cL, nv, .inr (.inl f))), (a, .inl (cI, ns, .inl (zN (va_cpy h2 g1 0 0 n)))), (b, .inl (cI, ns, .inl (zN h2))), (ko, .inr (1, [.ref kc, .ref kd, .int (nI kn)])), (kc, .inl (cI, 2, .inl (zN kf))), (kd, .inl (cZ, 2, .inl (zZ kg)))] H := hP
              have hD : va_D A [(r, .inr (0, [.int (nI k), .ref v, .ref a, .ref b, .int (nI n)])), (v, .inl (cL, nv, .inr (.inl f))), (a, .inl (cI, ns, .inl (zN (va_cpy h2 g1 0 0 n)))), (b, .inl (cI, ns, .inl (zN h2))), (ko, .inr (1, [.ref kc, .ref kd, .int (nI kn)])), (kc, .inl (cI, 2, .inl (zN kf))), (kd, .inl (cZ, 2, .inl (zZ kg)))] := hD
              refine lv_iload_n hx hb d_Rows_sortBy_77 rfl (lv_at hl 2 rfl) ?_
              refine lv_iconst (v := nI 2) hx hb d_Rows_sortBy_78 (by decide) ?_
              refine lv_imul hx hb d_Rows_sortBy_79 ?_
              refine zk_topi (show ((nI run) * (nI 2)) = nI (run * 2) from pk_mul run 2) ?_
              refine lv_istore_n (lv' := [(2, .int (nI (run * 2))), (0, .ref r), (1, .ref ko), (3, .int (nI st))]) hx hb d_Rows_sortBy_80 rfl hl (by decide) rfl (fun ls hl => ?_)
              refine lv_goto (tgt := 2) hx hb d_Rows_sortBy_81 rfl ?_
              exact ih2 (run * 2) (va_cpy h2 g1 0 0 n) h2 (by omega) (by omega) ((so_out h17 hI).2.trans hp1) ((so_out h17 hI).1) (fun z hz => by rw [pk_cpy_out (by omega)]; exact hz1 z hz) (by omega) ls _ _ (lv_sub hl [1, 2, 0] rfl) hP hD hS
            · skip
              refine lv_iload_n hx hb d_Rows_sortBy_20 rfl (lv_at hl 3 rfl) ?_
              refine lv_iload_n hx hb d_Rows_sortBy_21 rfl (lv_at hl 2 rfl) ?_
              refine lv_iadd hx hb d_Rows_sortBy_22 ?_
              refine zk_topi (show ((nI st) + (nI run)) = nI (st + run) from nI_add st run) ?_
              refine lv_aload_n hx hb d_Rows_sortBy_23 rfl (lv_at hl 0 rfl) ?_
              refine va_get (C := R_Rows) (T := F_Rows) (N := 5) hx hb hts (fun w h => List.mem_cons_of_mem _ (hin_Rows w h)) hown hK hP 0 rfl rfl 4 (by decide) (hts _ (List.mem_cons_of_mem _ fl_Rows_26)) (fun _ h => h) rfl d_Rows_sortBy_24 ?_
              refine va_mmin hx hb (hml.trans hl.1.symm) hown (hts _ (List.mem_cons_of_mem _ ml_Rows_37)) (hts _ (List.mem_cons_of_mem _ sm_Math_min)) (hts _ (List.mem_cons_of_mem _ in_Math)) (hts _ (List.mem_cons_of_mem _ co_Math_min)) (Nat.le_of_ble_eq_true rfl) (Nat.le_of_ble_eq_true rfl) (Nat.le_of_ble_eq_true rfl) (Nat.le_of_ble_eq_true rfl) d_Rows_sortBy_27 ?_
              refine zk_topi (show (if nI n < nI (st + run) then nI n else nI (st + run)) = nI (min (st + run) n) from zk_nmin (by omega) (by omega)) ?_
              refine lv_istore (lv' := [(4, .int (nI (min (st + run) n))), (0, .ref r), (1, .ref ko), (2, .int (nI run)), (3, .int (nI st))]) hx hb d_Rows_sortBy_30 hl (by decide) rfl (fun ls hl => ?_)
              refine lv_aload_n hx hb d_Rows_sortBy_32 rfl (lv_at hl 1 rfl) ?_
              refine lv_iload_n hx hb d_Rows_sortBy_33 rfl (lv_at hl 4 rfl) ?_
              refine lv_iload hx hb d_Rows_sortBy_34 (lv_at hl 0 rfl) ?_
              refine lv_iload hx hb d_Rows_sortBy_36 (lv_at hl 0 rfl) ?_
              refine lv_iload_n hx hb d_Rows_sortBy_38 rfl (lv_at hl 3 rfl) ?_
              refine lv_iadd hx hb d_Rows_sortBy_39 ?_
              refine zk_topi (show ((nI (min (st + run) n)) + (nI run)) = nI (min (st + run) n + run) from nI_add (min (st + run) n) run) ?_
              refine lv_aload_n hx hb d_Rows_sortBy_40 rfl (lv_at hl 1 rfl) ?_
              refine va_get (C := R_Rows) (T := F_Rows) (N := 5) hx hb hts (fun w h => List.mem_cons_of_mem _ (hin_Rows w h)) hown hK hP 0 rfl rfl 4 (by decide) (hts _ (List.mem_cons_of_mem _ fl_Rows_26)) (fun _ h => h) rfl d_Rows_sortBy_41 ?_
              refine va_mmin hx hb (hml.trans hl.1.symm) hown (hts _ (List.mem_cons_of_mem _ ml_Rows_37)) (hts _ (List.mem_cons_of_mem _ sm_Math_min)) (hts _ (List.mem_cons_of_mem _ in_Math)) (hts _ (List.mem_cons_of_mem _ co_Math_min)) (Nat.le_of_ble_eq_true rfl) (Nat.le_of_ble_eq_true rfl) (Nat.le_of_ble_eq_true rfl) (Nat.le_of_ble_eq_true rfl) d_Rows_sortBy_44 ?_
              refine zk_topi (show (if nI n < nI (min (st + run) n + run) then nI n else nI (min (st + run) n + run)) = nI (min (min (st + run) n + run) n) from zk_nmin (by omega) (by omega)) ?_
              refine lv_aload_n hx hb d_Rows_sortBy_47 rfl (lv_at hl 2 rfl) ?_
              have hPc := hP.sub (ws' := [(r, .inr (0, [.int (nI k), .ref v, .ref a, .ref b, .int (nI n)])), (v, .inl (cL, nv, .inr (.inl f))), (a, .inl (cI, ns, .inl (zN g1))), (b, .inl (cI, ns, .inl (zN h2))), (ko, .inr (1, [.ref kc, .ref kd, .int (nI kn)])), (kc, .inl (cI, 2, .inl (zN kf))), (kd, .inl (cZ, 2, .inl (zZ kg)))]) [0, 1, 2, 3, 4, 5, 6] rfl
              have hDc := hD.sub (ws' := [(r, .inr (0, [.int (nI k), .ref v, .ref a, .ref b, .int (nI n)])), (v, .inl (cL, nv, .inr (.inl f))), (a, .inl (cI, ns, .inl (zN g1))), (b, .inl (cI, ns, .inl (zN h2))), (ko, .inr (1, [.ref kc, .ref kd, .int (nI kn)])), (kc, .inl (cI, 2, .inl (zN kf))), (kd, .inl (cZ, 2, .inl (zZ kg)))]) [0, 1, 2, 3, 4, 5, 6] (by decide) rfl
              refine zk_wv (wr := []) (w2 := (fun h3 => [(r, .inr (0, [.int (nI k), .ref v, .ref a, .ref b, .int (nI n)])), (v, .inl (cL, nv, .inr (.inl f))), (a, .inl (cI, ns, .inl (zN g1))), (b, .inl (cI, ns, .inl (zN h3))), (ko, .inr (1, [.ref kc, .ref kd, .int (nI kn)])), (kc, .inl (cI, 2, .inl (zN kf))), (kd, .inl (cZ, 2, .inl (zZ kg)))])) hP hD hS hA [0, 1, 2, 3, 4, 5, 6] [] [0, 1, 2, 3, 4, 5, 6] rfl rfl (by decide) (by decide) (fun _ => rfl) (by decide) (va_runV (As := [.int (nI st), .int (nI (min (st + run) n)), .int (nI (min (min (st + run) n + run) n)), .ref ko]) (rest := []) ⟨hx, hb, hml, hown, hts⟩ (c_Rows_mergeRuns l D cI cL cZ cW cR _ r v a b k n nv ns f g1 h2 ko kc kd kn kf kg st (min (st + run) n) (min (min (st + run) n + run) n) (by omega) (by omega) (by omega) (fun z hz => so_g hg hp1 (by omega)) hns hnv hk hkn hkf) (cwV 4 hts (zk_gV (fun _ h => List.mem_cons_of_mem _ h) ml_Rows_43 im_Rows_mergeRuns se_Rows_mergeRuns in_Rows co_Rows_mergeRuns) rfl rfl rfl ⟨rfl, hd_Rows_mergeRuns⟩ ⟨Nat.le_of_ble_eq_true rfl, Nat.le_of_ble_eq_true rfl⟩) (zk_vw (q0 := 0) hN hK hPc hDc rfl rfl) rfl rfl hl.1 rfl (lv_room (Nat.le_of_ble_eq_true rfl)) d_Rows_sortBy_48 ⟨Nat.zero_le _, Nat.zero_le _⟩) (fun h3 H locs hpost hP hD hS => ?_)
              obtain ⟨hp3, hp4⟩ := hpost
              have hP : va_P D vwCl [(r, .inr (0, [.int (nI k), .ref v, .ref a, .ref b, .int (nI n)])), (v, .inl (cL, nv, .inr (.inl f))), (a, .inl (cI, ns, .inl (zN g1))), (b, .inl (cI, ns, .inl (zN h3))), (ko, .inr (1, [.ref kc, .ref kd, .int (nI kn)])), (kc, .inl (cI, 2, .inl (zN kf))), (kd, .inl (cZ, 2, .inl (zZ kg)))] H := hP
              have hD : va_D A [(r, .inr (0, [.int (nI k), .ref v, .ref a, .ref b, .int (nI n)])), (v, .inl (cL, nv, .inr (.inl f))), (a, .inl (cI, ns, .inl (zN g1))), (b, .inl (cI, ns, .inl (zN h3))), (ko, .inr (1, [.ref kc, .ref kd, .int (nI kn)])), (kc, .inl (cI, 2, .inl (zN kf))), (kd, .inl (cZ, 2, .inl (zZ kg)))] := hD
              refine lv_iload_n hx hb d_Rows_sortBy_51 rfl (lv_at hl 4 rfl) ?_
              refine lv_iconst (v := nI 2) hx hb d_Rows_sortBy_52 (by decide) ?_
              refine lv_iload_n hx hb d_Rows_sortBy_53 rfl (lv_at hl 3 rfl) ?_
              refine lv_imul hx hb d_Rows_sortBy_54 ?_
              refine zk_topi (show ((nI 2) * (nI run)) = nI (2 * run) from pk_mul 2 run) ?_
              refine lv_iadd hx hb d_Rows_sortBy_55 ?_
              refine zk_topi (show ((nI st) + (nI (2 * run))) = nI (st + (2 * run)) from nI_add st (2 * run)) ?_
              refine lv_istore_n (lv' := [(3, .int (nI (st + (2 * run)))), (4, .int (nI (min (st + run) n))), (0, .ref r), (1, .ref ko), (2, .int (nI run))]) hx hb d_Rows_sortBy_56 rfl hl (by decide) rfl (fun ls hl => ?_)
              refine lv_goto (tgt := 12) hx hb d_Rows_sortBy_57 rfl ?_
              exact ih12 (c0 + 1) (st + 2 * run) h3 (so_in (kLt_as kn 0) (kLt_tr kn 0) hru h17 hsr hI hp3 hp4) (by omega) (by omega) ls _ _ (lv_sub hl [2, 3, 4, 0] rfl) hP hD hS
        exact lb12 _ 0 0 h1 so_0 (by omega) (Nat.lt_succ_self _) ls _ _ (lv_sub hl [1, 2, 3, 0] rfl) hP hD hS
  exact lb2 _ 1 g h (Nat.le_refl _) (by omega) (List.Perm.refl _) srt_1 (fun _ _ => rfl) (Nat.lt_succ_self _) ls _ _ (lv_sub hl [1, 2, 0] rfl) hP hD hS
