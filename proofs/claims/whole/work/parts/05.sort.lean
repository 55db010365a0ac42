/-! stretches of a function as lists, merging, sorting -/
def sg (g : Nat → Nat) (a b : Nat) : List Nat := (List.range (b - a)).map (fun i => g (a + i))
theorem sg_nil {g : Nat → Nat} {a b : Nat} (h : b ≤ a) : sg g a b = [] := by
  simp [sg, Nat.sub_eq_zero_of_le h]
theorem sg_cons {g : Nat → Nat} {a b : Nat} (h : a < b) : sg g a b = g a :: sg g (a + 1) b := by
  unfold sg
  rw [show b - a = (b - (a + 1)) + 1 by omega, List.range_succ_eq_map, List.map_cons, List.map_map]
  refine congr (congrArg _ rfl) (List.map_congr_left (fun i _ => ?_))
  show g (a + (i + 1)) = g (a + 1 + i)
  rw [show a + (i + 1) = a + 1 + i by omega]
theorem sg_snoc {g : Nat → Nat} {a b : Nat} (h : a ≤ b) : sg g a (b + 1) = sg g a b ++ [g b] := by
  unfold sg
  rw [show b + 1 - a = (b - a) + 1 by omega, List.range_succ, List.map_append]
  simp only [List.map_cons, List.map_nil]
  rw [show a + (b - a) = b by omega]
theorem sg_congr {g h : Nat → Nat} {a b : Nat} (hh : ∀ i, a ≤ i → i < b → g i = h i) : sg g a b = sg h a b := by
  unfold sg
  refine List.map_congr_left (fun i hi => hh _ (by omega) ?_)
  have := List.mem_range.mp hi
  omega
theorem sg_len {g : Nat → Nat} {a b : Nat} : (sg g a b).length = b - a := by simp [sg]
theorem sg_app {g : Nat → Nat} {a b c : Nat} (h1 : a ≤ b) (h2 : b ≤ c) : sg g a b ++ sg g b c = sg g a c := by
  obtain ⟨k, rfl⟩ : ∃ k, c = b + k := ⟨c - b, by omega⟩
  induction k with
  | zero => rw [Nat.add_zero, sg_nil (Nat.le_refl b), List.append_nil]
  | succ k ih =>
    rw [← Nat.add_assoc, sg_snoc (by omega), ← List.append_assoc, ih (by omega), sg_snoc (by omega)]
theorem sg_mem {g : Nat → Nat} {a b x : Nat} : x ∈ sg g a b ↔ ∃ i, a ≤ i ∧ i < b ∧ g i = x := by
  unfold sg
  rw [List.mem_map]
  constructor
  · rintro ⟨i, hi, rfl⟩
    have := List.mem_range.mp hi
    exact ⟨a + i, by omega, by omega, rfl⟩
  · rintro ⟨i, h1, h2, rfl⟩
    exact ⟨i - a, List.mem_range.mpr (by omega), by rw [show a + (i - a) = i by omega]⟩
/-- one step of a merge, from the left -/
theorem mg_left {lt : Nat → Nat → Bool} {x : Nat} {xs ys : List Nat} (h : ys = [] ∨ ∃ y zs, ys = y :: zs ∧ lt x y = true) : List.merge (x :: xs) ys lt = x :: List.merge xs ys lt := by
  rcases h with rfl | ⟨y, zs, rfl, h⟩
  · simp
  · rw [List.merge]
    simp [h]
theorem mg_right {lt : Nat → Nat → Bool} {y : Nat} {xs ys : List Nat} (h : xs = [] ∨ ∃ x zs, xs = x :: zs ∧ lt x y = false) : List.merge xs (y :: ys) lt = y :: List.merge xs ys lt := by
  rcases h with rfl | ⟨x, zs, rfl, h⟩
  · simp
  · rw [List.merge]
    simp [h]

/-- the order of two stored rows: by the keys from t on, d of them, then by the last column -/
def kLt (f : Nat → Int64) (k : Nat) (kf : Nat → Nat) (kg : Nat → Bool) : Nat → Nat → Nat → Nat → Bool
  | 0, _, p, q => decide (f (p * k + 9) < f (q * k + 9))
  | d + 1, t, p, q => if f (p * k + kf t) = f (q * k + kf t) then kLt f k kf kg d (t + 1) p q else if kg t = true then decide (f (q * k + kf t) < f (p * k + kf t)) else decide (f (p * k + kf t) < f (q * k + kf t))
theorem mg_step {h1 : Nat → Nat} {t s0 x : Nat} {M M' tot : List Nat} (hs : s0 ≤ t) (he : sg h1 s0 t ++ M = tot) (hm : M = x :: M') : sg (va_up h1 t x) s0 (t + 1) ++ M' = tot := by
  rw [sg_snoc hs, sg_congr (h := h1) (fun i _ hi => va_up_ne _ _ (by omega)), va_up_self, List.append_assoc, ← he, hm]
  rfl

set_option maxHeartbeats 4000000 in
set_option maxRecDepth 100000 in
theorem c_Rows_isBefore (l : Launch) (D : va_G) (cI cL cZ cW cR : ClassId) (r v a b k n nv ns : Nat) (f : Nat → Int64) (g h : Nat → Nat) (ko kc kd kn : Nat) (kf : Nat → Nat) (kg : Nat → Bool) (i j : Nat) (hi : i < ns) (hj : j < ns) (hgi : g i * k + k ≤ nv) (hgj : g j * k + k ≤ nv) (hns : ns < 1000) (hnv : nv < 100000) (hk : 10 ≤ k) (hkn : kn ≤ 2) (hkf : ∀ t, t < kn → kf t < k) : Met l y_Rows_isBefore ws_Rows_isBefore rm1_30 (zPr D vwCl (zT cI cL cZ cW cR) [(r, .inr (0, [.int (nI k), .ref v, .ref a, .ref b, .int (nI n)])), (v, .inl (cL, nv, .inr (.inl f))), (a, .inl (cI, ns, .inl (zN g))), (b, .inl (cI, ns, .inl (zN h))), (ko, .inr (1, [.ref kc, .ref kd, .int (nI kn)])), (kc, .inl (cI, 2, .inl (zN kf))), (kd, .inl (cZ, 2, .inl (zZ kg)))] [.ref r, .int (nI i), .int (nI j), .ref ko]) (zSi (zb (kLt f k kf kg kn 0 (g i) (g j)))) 0 0 (fun _ => False) := by
  refine zk_enterR (cc := b_Rows_isBefore) (maxL := 9) (ret := some .boolean) (by decide) rfl (Nat.le_of_ble_eq_true rfl) ?_
  intro p e s m args below meth c ls Q hx hb hml hr hlk hown hts hP hK hN hl hQ
  have hl : lv_has ls 9 [(0, .ref r), (1, .int (nI i)), (2, .int (nI j)), (3, .ref ko)] := hl
  refine lv_iconst (v := nI 0) hx hb d_Rows_isBefore_0 (by decide) ?_
  refine lv_istore (lv' := [(4, .int (nI 0)), (0, .ref r), (1, .int (nI i)), (2, .int (nI j)), (3, .ref ko)]) hx hb d_Rows_isBefore_1 hl (by decide) rfl (fun ls hl => ?_)
  have lb3 : ∀ (fuel : Nat) (t : Nat), (t ≤ kn) → (kLt f k kf kg (kn - t) t (g i) (g j) = kLt f k kf kg kn 0 (g i) (g j)) → kn - t < fuel → ∀ (ls : Array Slot), lv_has ls 9 [(0, .ref r), (1, .int (nI i)), (2, .int (nI j)), (3, .ref ko), (4, .int (nI t))] → W p l e rm1_30 s m args below meth c s.heap [] 0 0 Q (F0 m 3 ls []) := by
    intro fuel
    induction fuel with
    | zero => intro t ht he hfu; exact absurd hfu (Nat.not_lt_zero _)
    | succ fuel ih =>
      intro t ht he hfu ls hl
      refine lv_iload hx hb d_Rows_isBefore_3 (lv_at hl 4 rfl) ?_
      refine lv_aload_n hx hb d_Rows_isBefore_5 rfl (lv_at hl 3 rfl) ?_
      refine va_get (C := R_Keys) (T := F_Keys) (N := 3) hx hb hts (fun w h => List.mem_cons_of_mem _ (hin_Keys w h)) hown hK hP 4 rfl rfl 2 (by decide) (hts _ (List.mem_cons_of_mem _ fl_Rows_57)) (fun _ h => h) rfl d_Rows_isBefore_6 ?_
      refine zk_icmp_ge (tgt := 94) hx hb d_Rows_isBefore_9 rfl (by omega) (by omega) (fun h9 => ?_) (fun h9 => ?_)
      · skip
        refine lv_aload_n hx hb d_Rows_isBefore_94 rfl (lv_at hl 0 rfl) ?_
        refine lv_iload_n hx hb d_Rows_isBefore_95 rfl (lv_at hl 1 rfl) ?_
        refine lv_bipush (v := nI 9) hx hb d_Rows_isBefore_96 (by decide) ?_
        have hPc := hP.sub (ws' := [(r, .inr (0, [.int (nI k), .ref v, .ref a, .ref b, .int (nI n)])), (v, .inl (cL, nv, .inr (.inl f))), (a, .inl (cI, ns, .inl (zN g))), (b, .inl (cI, ns, .inl (zN h)))]) [0, 1, 2, 3] rfl
        refine zk_rl (va_runV (As := [.int (nI i), .int (nI 9)]) (rest := []) ⟨hx, hb, hml, hown, hts⟩ (c_Rows_at l D cI cL cZ cW cR r v a b k n nv ns f g h i 9 (hi) (hns) (by omega) (hnv)) (cwV 2 hts (zk_gV (fun _ h => List.mem_cons_of_mem _ h) ml_Rows_29 im_Rows_at se_Rows_at in_Rows co_Rows_at) rfl rfl rfl ⟨rfl, hd_Rows_at⟩ ⟨Nat.le_of_ble_eq_true rfl, Nat.le_of_ble_eq_true rfl⟩) (zk_vr (q0 := 0) hN hK hPc rfl rfl) rfl rfl hl.1 rfl (lv_room (Nat.le_of_ble_eq_true rfl)) d_Rows_isBefore_98 ⟨Nat.zero_le _, Nat.zero_le _⟩) ?_
        refine lv_aload_n hx hb d_Rows_isBefore_101 rfl (lv_at hl 0 rfl) ?_
        refine lv_iload_n hx hb d_Rows_isBefore_102 rfl (lv_at hl 2 rfl) ?_
        refine lv_bipush (v := nI 9) hx hb d_Rows_isBefore_103 (by decide) ?_
        have hPc := hP.sub (ws' := [(r, .inr (0, [.int (nI k), .ref v, .ref a, .ref b, .int (nI n)])), (v, .inl (cL, nv, .inr (.inl f))), (a, .inl (cI, ns, .inl (zN g))), (b, .inl (cI, ns, .inl (zN h)))]) [0, 1, 2, 3] rfl
        refine zk_rl (va_runV (As := [.int (nI j), .int (nI 9)]) (rest := [.long (f (g i * k + 9))]) ⟨hx, hb, hml, hown, hts⟩ (c_Rows_at l D cI cL cZ cW cR r v a b k n nv ns f g h j 9 (hj) (hns) (by omega) (hnv)) (cwV 2 hts (zk_gV (fun _ h => List.mem_cons_of_mem _ h) ml_Rows_29 im_Rows_at se_Rows_at in_Rows co_Rows_at) rfl rfl rfl ⟨rfl, hd_Rows_at⟩ ⟨Nat.le_of_ble_eq_true rfl, Nat.le_of_ble_eq_true rfl⟩) (zk_vr (q0 := 0) hN hK hPc rfl rfl) rfl rfl hl.1 rfl (lv_room (Nat.le_of_ble_eq_true rfl)) d_Rows_isBefore_105 ⟨Nat.zero_le _, Nat.zero_le _⟩) ?_
        refine W.lcmp hx hb d_Rows_isBefore_108 ?_
        refine lv_if_ge (tgt := 116) hx hb d_Rows_isBefore_109 rfl (fun h109 => ?_) (fun h109 => ?_)
        · skip
          refine lv_iconst (v := nI 0) hx hb d_Rows_isBefore_116 (by decide) ?_
          have hz : kLt f k kf kg kn 0 (g i) (g j) = decide (f (g i * k + 9) < f (g j * k + 9)) := by rw [← he, show kn - t = 0 by omega]; rfl
          exact zk_zretR hx hb hr hlk hQ (by rw [hz]; first | exact zk_f (Int64.not_lt.mpr ((lg_cmp_ge _ _).mp h109)) | exact zk_t (Int64.not_le.mp (fun z => h109 ((lg_cmp_ge _ _).mpr z)))) d_Rows_isBefore_117
        · skip
          refine lv_iconst (v := nI 1) hx hb d_Rows_isBefore_112 (by decide) ?_
          refine lv_goto (tgt := 117) hx hb d_Rows_isBefore_113 rfl ?_
          have hz : kLt f k kf kg kn 0 (g i) (g j) = decide (f (g i * k + 9) < f (g j * k + 9)) := by rw [← he, show kn - t = 0 by omega]; rfl
          exact zk_zretR hx hb hr hlk hQ (by rw [hz]; first | exact zk_f (Int64.not_lt.mpr ((lg_cmp_ge _ _).mp h109)) | exact zk_t (Int64.not_le.mp (fun z => h109 ((lg_cmp_ge _ _).mpr z)))) d_Rows_isBefore_117
      · skip
        refine lv_aload_n hx hb d_Rows_isBefore_12 rfl (lv_at hl 0 rfl) ?_
        refine lv_iload_n hx hb d_Rows_isBefore_13 rfl (lv_at hl 1 rfl) ?_
        refine lv_aload_n hx hb d_Rows_isBefore_14 rfl (lv_at hl 3 rfl) ?_
        refine va_get (C := R_Keys) (T := F_Keys) (N := 3) hx hb hts (fun w h => List.mem_cons_of_mem _ (hin_Keys w h)) hown hK hP 4 rfl rfl 0 (by decide) (hts _ (List.mem_cons_of_mem _ fl_Rows_60)) (fun _ h => h) rfl d_Rows_isBefore_15 ?_
        refine lv_iload hx hb d_Rows_isBefore_18 (lv_at hl 4 rfl) ?_
        refine zk_nald hx hb hK hP 5 0 rfl rfl (by omega) (by omega) d_Rows_isBefore_20 ?_
        have hPc := hP.sub (ws' := [(r, .inr (0, [.int (nI k), .ref v, .ref a, .ref b, .int (nI n)])), (v, .inl (cL, nv, .inr (.inl f))), (a, .inl (cI, ns, .inl (zN g))), (b, .inl (cI, ns, .inl (zN h)))]) [0, 1, 2, 3] rfl
        refine zk_rl (va_runV (As := [.int (nI i), .int (nI (kf t))]) (rest := []) ⟨hx, hb, hml, hown, hts⟩ (c_Rows_at l D cI cL cZ cW cR r v a b k n nv ns f g h i (kf t) (hi) (hns) (by have := hkf t (by omega); omega) (hnv)) (cwV 2 hts (zk_gV (fun _ h => List.mem_cons_of_mem _ h) ml_Rows_29 im_Rows_at se_Rows_at in_Rows co_Rows_at) rfl rfl rfl ⟨rfl, hd_Rows_at⟩ ⟨Nat.le_of_ble_eq_true rfl, Nat.le_of_ble_eq_true rfl⟩) (zk_vr (q0 := 0) hN hK hPc rfl rfl) rfl rfl hl.1 rfl (lv_room (Nat.le_of_ble_eq_true rfl)) d_Rows_isBefore_21 ⟨Nat.zero_le _, Nat.zero_le _⟩) ?_
        refine lv_lstore (lv' := [(5, .long (f (g i * k + (kf t)))), (0, .ref r), (1, .int (nI i)), (2, .int (nI j)), (3, .ref ko), (4, .int (nI t))]) hx hb d_Rows_isBefore_24 hl (by decide) rfl (fun ls hl => ?_)
        refine lv_aload_n hx hb d_Rows_isBefore_26 rfl (lv_at hl 1 rfl) ?_
        refine lv_iload_n hx hb d_Rows_isBefore_27 rfl (lv_at hl 3 rfl) ?_
        refine lv_aload_n hx hb d_Rows_isBefore_28 rfl (lv_at hl 4 rfl) ?_
        refine va_get (C := R_Keys) (T := F_Keys) (N := 3) hx hb hts (fun w h => List.mem_cons_of_mem _ (hin_Keys w h)) hown hK hP 4 rfl rfl 0 (by decide) (hts _ (List.mem_cons_of_mem _ fl_Rows_60)) (fun _ h => h) rfl d_Rows_isBefore_29 ?_
        refine lv_iload hx hb d_Rows_isBefore_32 (lv_at hl 5 rfl) ?_
        refine zk_nald hx hb hK hP 5 0 rfl rfl (by omega) (by omega) d_Rows_isBefore_34 ?_
        have hPc := hP.sub (ws' := [(r, .inr (0, [.int (nI k), .ref v, .ref a, .ref b, .int (nI n)])), (v, .inl (cL, nv, .inr (.inl f))), (a, .inl (cI, ns, .inl (zN g))), (b, .inl (cI, ns, .inl (zN h)))]) [0, 1, 2, 3] rfl
        refine zk_rl (va_runV (As := [.int (nI j), .int (nI (kf t))]) (rest := []) ⟨hx, hb, hml, hown, hts⟩ (c_Rows_at l D cI cL cZ cW cR r v a b k n nv ns f g h j (kf t) (hj) (hns) (by have := hkf t (by omega); omega) (hnv)) (cwV 2 hts (zk_gV (fun _ h => List.mem_cons_of_mem _ h) ml_Rows_29 im_Rows_at se_Rows_at in_Rows co_Rows_at) rfl rfl rfl ⟨rfl, hd_Rows_at⟩ ⟨Nat.le_of_ble_eq_true rfl, Nat.le_of_ble_eq_true rfl⟩) (zk_vr (q0 := 0) hN hK hPc rfl rfl) rfl rfl hl.1 rfl (lv_room (Nat.le_of_ble_eq_true rfl)) d_Rows_isBefore_35 ⟨Nat.zero_le _, Nat.zero_le _⟩) ?_
        refine lv_lstore (lv' := [(7, .long (f (g j * k + (kf t)))), (5, .long (f (g i * k + (kf t)))), (0, .ref r), (1, .int (nI i)), (2, .int (nI j)), (3, .ref ko), (4, .int (nI t))]) hx hb d_Rows_isBefore_38 hl (by decide) rfl (fun ls hl => ?_)
        refine lv_lload hx hb d_Rows_isBefore_40 (lv_at hl 1 rfl) ?_
        refine lv_lload hx hb d_Rows_isBefore_42 (lv_at hl 0 rfl) ?_
        refine W.lcmp hx hb d_Rows_isBefore_44 ?_
        refine lv_if_eq (tgt := 88) hx hb d_Rows_isBefore_45 rfl (fun h45 => ?_) (fun h45 => ?_)
        · skip
          have hq := (lg_cmp_eq _ _).mp h45
          refine lv_iinc (k := 6) (v := nI (t + 1)) (lv' := [(4, .int (nI (t + 1))), (7, .long (f (g j * k + (kf t)))), (5, .long (f (g i * k + (kf t)))), (0, .ref r), (1, .int (nI i)), (2, .int (nI j)), (3, .ref ko)]) hx hb d_Rows_isBefore_88 hl rfl (nI_add t 1) (by decide) rfl (fun ls hl => ?_)
          refine lv_goto (tgt := 3) hx hb d_Rows_isBefore_91 rfl ?_
          exact ih (t + 1) (by omega) (by rw [← he, show kn - t = (kn - (t + 1)) + 1 by omega]; simp only [kLt]; rw [if_pos hq]) (by omega) ls (lv_sub hl [3, 4, 5, 6, 0] rfl)
        · skip
          have hq := fun z => h45 ((lg_cmp_eq _ _).mpr z)
          refine lv_aload_n hx hb d_Rows_isBefore_48 rfl (lv_at hl 5 rfl) ?_
          refine va_get (C := R_Keys) (T := F_Keys) (N := 3) hx hb hts (fun w h => List.mem_cons_of_mem _ (hin_Keys w h)) hown hK hP 4 rfl rfl 1 (by decide) (hts _ (List.mem_cons_of_mem _ fl_Rows_62)) (fun _ h => h) rfl d_Rows_isBefore_49 ?_
          refine lv_iload hx hb d_Rows_isBefore_52 (lv_at hl 6 rfl) ?_
          refine zk_bald hx hb hK hP 6 2 rfl rfl (by omega) (by omega) d_Rows_isBefore_54 ?_
          refine zk_ifb_eq (tgt := 74) hx hb d_Rows_isBefore_55 rfl (fun h55 => ?_) (fun h55 => ?_)
          · skip
            have hz : kLt f k kf kg kn 0 (g i) (g j) = (if kg t = true then decide (f (g j * k + kf t) < f (g i * k + kf t)) else decide (f (g i * k + kf t) < f (g j * k + kf t))) := by rw [← he, show kn - t = (kn - (t + 1)) + 1 by omega]; simp only [kLt]; rw [if_neg hq]
            refine lv_lload hx hb d_Rows_isBefore_74 (lv_at hl 1 rfl) ?_
            refine lv_lload hx hb d_Rows_isBefore_76 (lv_at hl 0 rfl) ?_
            refine W.lcmp hx hb d_Rows_isBefore_78 ?_
            refine lv_if_ge (tgt := 86) hx hb d_Rows_isBefore_79 rfl (fun h79 => ?_) (fun h79 => ?_)
            · skip
              refine lv_iconst (v := nI 0) hx hb d_Rows_isBefore_86 (by decide) ?_
              exact zk_zretR hx hb hr hlk hQ (by rw [hz, h55]; first | exact zk_f (Int64.not_lt.mpr ((lg_cmp_le _ _).mp h63)) | exact zk_t (Int64.not_le.mp (fun z => h63 ((lg_cmp_le _ _).mpr z))) | exact zk_f (Int64.not_lt.mpr ((lg_cmp_ge _ _).mp h79)) | exact zk_t (Int64.not_le.mp (fun z => h79 ((lg_cmp_ge _ _).mpr z)))) d_Rows_isBefore_87
            · skip
              refine lv_iconst (v := nI 1) hx hb d_Rows_isBefore_82 (by decide) ?_
              refine lv_goto (tgt := 87) hx hb d_Rows_isBefore_83 rfl ?_
              exact zk_zretR hx hb hr hlk hQ (by rw [hz, h55]; first | exact zk_f (Int64.not_lt.mpr ((lg_cmp_le _ _).mp h63)) | exact zk_t (Int64.not_le.mp (fun z => h63 ((lg_cmp_le _ _).mpr z))) | exact zk_f (Int64.not_lt.mpr ((lg_cmp_ge _ _).mp h79)) | exact zk_t (Int64.not_le.mp (fun z => h79 ((lg_cmp_ge _ _).mpr z)))) d_Rows_isBefore_87
          · skip
            have hz : kLt f k kf kg kn 0 (g i) (g j) = (if kg t = true then decide (f (g j * k + kf t) < f (g i * k + kf t)) else decide (f (g i * k + kf t) < f (g j * k + kf t))) := by rw [← he, show kn - t = (kn - (t + 1)) + 1 by omega]; simp only [kLt]; rw [if_neg hq]
            refine lv_lload hx hb d_Rows_isBefore_58 (lv_at hl 1 rfl) ?_
            refine lv_lload hx hb d_Rows_isBefore_60 (lv_at hl 0 rfl) ?_
            refine W.lcmp hx hb d_Rows_isBefore_62 ?_
            refine lv_if_le (tgt := 70) hx hb d_Rows_isBefore_63 rfl (fun h63 => ?_) (fun h63 => ?_)
            · skip
              refine lv_iconst (v := nI 0) hx hb d_Rows_isBefore_70 (by decide) ?_
              refine lv_goto (tgt := 87) hx hb d_Rows_isBefore_71 rfl ?_
              exact zk_zretR hx hb hr hlk hQ (by rw [hz, h55]; first | exact zk_f (Int64.not_lt.mpr ((lg_cmp_le _ _).mp h63)) | exact zk_t (Int64.not_le.mp (fun z => h63 ((lg_cmp_le _ _).mpr z))) | exact zk_f (Int64.not_lt.mpr ((lg_cmp_ge _ _).mp h79)) | exact zk_t (Int64.not_le.mp (fun z => h79 ((lg_cmp_ge _ _).mpr z)))) d_Rows_isBefore_87
            · skip
              refine lv_iconst (v := nI 1) hx hb d_Rows_isBefore_66 (by decide) ?_
              refine lv_goto (tgt := 87) hx hb d_Rows_isBefore_67 rfl ?_
              exact zk_zretR hx hb hr hlk hQ (by rw [hz, h55]; first | exact zk_f (Int64.not_lt.mpr ((lg_cmp_le _ _).mp h63)) | exact zk_t (Int64.not_le.mp (fun z => h63 ((lg_cmp_le _ _).mpr z))) | exact zk_f (Int64.not_lt.mpr ((lg_cmp_ge _ _).mp h79)) | exact zk_t (Int64.not_le.mp (fun z => h79 ((lg_cmp_ge _ _).mpr z)))) d_Rows_isBefore_87
  exact lb3 _ 0 (Nat.zero_le _) (rfl) (Nat.lt_succ_self _) ls (lv_sub hl [1, 2, 3, 4, 0] rfl)
set_option maxHeartbeats 4000000 in
set_option maxRecDepth 100000 in
theorem c_Rows_mergeRuns (l : Launch) (D : va_G) (cI cL cZ cW cR : ClassId) (sz : Nat) (r v a b k n nv ns : Nat) (f : Nat → Int64) (g h : Nat → Nat) (ko kc kd kn : Nat) (kf : Nat → Nat) (kg : Nat → Bool) (s0 m0 e0 : Nat) (hs0 : s0 ≤ m0) (hm0 : m0 ≤ e0) (he0 : e0 ≤ ns) (hg : ∀ z, z < e0 → g z * k + k ≤ nv) (hns : ns < 1000) (hnv : nv < 100000) (hk : 10 ≤ k) (hkn : kn ≤ 2) (hkf : ∀ t, t < kn → kf t < k) : Met l y_Rows_mergeRuns ws_Rows_mergeRuns rm2_60 (zPw D vwCl (zT cI cL cZ cW cR) [(r, .inr (0, [.int (nI k), .ref v, .ref a, .ref b, .int (nI n)])), (v, .inl (cL, nv, .inr (.inl f))), (a, .inl (cI, ns, .inl (zN g))), (b, .inl (cI, ns, .inl (zN h))), (ko, .inr (1, [.ref kc, .ref kd, .int (nI kn)])), (kc, .inl (cI, 2, .inl (zN kf))), (kd, .inl (cZ, 2, .inl (zZ kg)))] sz [.ref r, .int (nI s0), .int (nI m0), .int (nI e0), .ref ko]) (zQv D vwCl (zT cI cL cZ cW cR) [(r, .inr (0, [.int (nI k), .ref v, .ref a, .ref b, .int (nI n)])), (v, .inl (cL, nv, .inr (.inl f))), (a, .inl (cI, ns, .inl (zN g))), (b, .inl (cI, ns, .inl (zN h))), (ko, .inr (1, [.ref kc, .ref kd, .int (nI kn)])), (kc, .inl (cI, 2, .inl (zN kf))), (kd, .inl (cZ, 2, .inl (zZ kg)))] sz (fun h1 : Nat → Nat => (∀ z, z < s0 ∨ e0 ≤ z → h1 z = h z) ∧ sg h1 s0 e0 = List.merge (sg g s0 m0) (sg g m0 e0) (kLt f k kf kg kn 0)) (fun h1 => [(r, .inr (0, [.int (nI k), .ref v, .ref a, .ref b, .int (nI n)])), (v, .inl (cL, nv, .inr (.inl f))), (a, .inl (cI, ns, .inl (zN g))), (b, .inl (cI, ns, .inl (zN h1))), (ko, .inr (1, [.ref kc, .ref kd, .int (nI kn)])), (kc, .inl (cI, 2, .inl (zN kf))), (kd, .inl (cZ, 2, .inl (zZ kg)))])) 0 0 (va_A [(r, .inr (0, [.int (nI k), .ref v, .ref a, .ref b, .int (nI n)])), (v, .inl (cL, nv, .inr (.inl f))), (a, .inl (cI, ns, .inl (zN g))), (b, .inl (cI, ns, .inl (zN h))), (ko, .inr (1, [.ref kc, .ref kd, .int (nI kn)])), (kc, .inl (cI, 2, .inl (zN kf))), (kd, .inl (cZ, 2, .inl (zZ kg)))] sz) := by
  refine zk_enterW (cc := b_Rows_mergeRuns) (maxL := 8) (ret := none) (by decide) rfl (Nat.le_of_ble_eq_true rfl) ?_
  intro p e s m args below meth c ls Q hx hb hml hr hlk hown hts hP hK hN hl hin hsz A hAe hA hD hS hQ
  subst hsz
  have hl : lv_has ls 8 [(0, .ref r), (1, .int (nI s0)), (2, .int (nI m0)), (3, .int (nI e0)), (4, .ref ko)] := hl
  refine lv_iload_n hx hb d_Rows_mergeRuns_0 rfl (lv_at hl 1 rfl) ?_
  refine lv_istore (lv' := [(5, .int (nI s0)), (0, .ref r), (1, .int (nI s0)), (2, .int (nI m0)), (3, .int (nI e0)), (4, .ref ko)]) hx hb d_Rows_mergeRuns_1 hl (by decide) rfl (fun ls hl => ?_)
  refine lv_iload_n hx hb d_Rows_mergeRuns_3 rfl (lv_at hl 3 rfl) ?_
  refine lv_istore (lv' := [(6, .int (nI m0)), (5, .int (nI s0)), (0, .ref r), (1, .int (nI s0)), (2, .int (nI m0)), (3, .int (nI e0)), (4, .ref ko)]) hx hb d_Rows_mergeRuns_4 hl (by decide) rfl (fun ls hl => ?_)
  refine lv_iload_n hx hb d_Rows_mergeRuns_6 rfl (lv_at hl 3 rfl) ?_
  refine lv_istore (lv' := [(7, .int (nI s0)), (6, .int (nI m0)), (5, .int (nI s0)), (0, .ref r), (1, .int (nI s0)), (2, .int (nI m0)), (3, .int (nI e0)), (4, .ref ko)]) hx hb d_Rows_mergeRuns_7 hl (by decide) rfl (fun ls hl => ?_)
  have lb9 : ∀ (fuel : Nat) (i : Nat) (j : Nat) (t : Nat) (h1 : Nat → Nat), (s0 ≤ i) → (i ≤ m0) → (m0 ≤ j) → (j ≤ e0) → (t + m0 = i + j) → (∀ z, z < s0 ∨ t ≤ z → h1 z = h z) → (sg h1 s0 t ++ List.merge (sg g i m0) (sg g j e0) (kLt f k kf kg kn 0) = List.merge (sg g s0 m0) (sg g m0 e0) (kLt f k kf kg kn 0)) → e0 - t < fuel → ∀ (ls : Array Slot) (H : Heap) (locs : List Loc), lv_has ls 8 [(0, .ref r), (1, .int (nI s0)), (2, .int (nI m0)), (3, .int (nI e0)), (4, .ref ko), (5, .int (nI i)), (6, .int (nI j)), (7, .int (nI t))] → va_P D vwCl [(r, .inr (0, [.int (nI k), .ref v, .ref a, .ref b, .int (nI n)])), (v, .inl (cL, nv, .inr (.inl f))), (a, .inl (cI, ns, .inl (zN g))), (b, .inl (cI, ns, .inl (zN h1))), (ko, .inr (1, [.ref kc, .ref kd, .int (nI kn)])), (kc, .inl (cI, 2, .inl (zN kf))), (kd, .inl (cZ, 2, .inl (zZ kg)))] H → va_D A [(r, .inr (0, [.int (nI k), .ref v, .ref a, .ref b, .int (nI n)])), (v, .inl (cL, nv, .inr (.inl f))), (a, .inl (cI, ns, .inl (zN g))), (b, .inl (cI, ns, .inl (zN h1))), (ko, .inr (1, [.ref kc, .ref kd, .int (nI kn)])), (kc, .inl (cI, 2, .inl (zN kf))), (kd, .inl (cZ, 2, .inl (zZ kg)))] → va_S A s.heap H locs → W p l e rm2_60 s m args below meth c H locs 0 0 Q (F0 m 9 ls []) := by
    intro fuel
    induction fuel with
    | zero => intro i j t h1 hi1 hi2 hj1 hj2 ht hh he hfu; exact absurd hfu (Nat.not_lt_zero _)
    | succ fuel ih =>
      intro i j t h1 hi1 hi2 hj1 hj2 ht hh he hfu ls H locs hl hP hD hS
      refine lv_iload hx hb d_Rows_mergeRuns_9 (lv_at hl 7 rfl) ?_
      refine lv_iload_n hx hb d_Rows_mergeRuns_11 rfl (lv_at hl 3 rfl) ?_
      refine zk_icmp_ge (tgt := 83) hx hb d_Rows_mergeRuns_12 rfl (by omega) (by omega) (fun h12 => ?_) (fun h12 => ?_)
      · skip
        obtain rfl : i = m0 := by omega
        obtain rfl : j = e0 := by omega
        obtain rfl : t = j := by omega
        rw [sg_nil (Nat.le_refl _), sg_nil (Nat.le_refl _), List.nil_merge, List.append_nil] at he
        exact zk_vretW hx hb hr hlk hAe hQ hK (h1) (⟨fun z hz => hh z (by omega), he⟩) hP hD hS d_Rows_mergeRuns_83
      · skip
        refine lv_iload hx hb d_Rows_mergeRuns_15 (lv_at hl 5 rfl) ?_
        refine lv_iload_n hx hb d_Rows_mergeRuns_17 rfl (lv_at hl 2 rfl) ?_
        refine zk_icmp_ge (tgt := 60) hx hb d_Rows_mergeRuns_18 rfl (by omega) (by omega) (fun h18 => ?_) (fun h18 => ?_)
        · skip
          have hm : List.merge (sg g i m0) (sg g j e0) (kLt f k kf kg kn 0) = g j :: List.merge (sg g i m0) (sg g (j + 1) e0) (kLt f k kf kg kn 0) := by rw [sg_cons (show j < e0 by omega)]; exact mg_right (Or.inl (sg_nil (by omega)))
          refine lv_aload_n hx hb d_Rows_mergeRuns_60 rfl (lv_at hl 0 rfl) ?_
          refine va_get (C := R_Rows) (T := F_Rows) (N := 5) hx hb hts (fun w h => List.mem_cons_of_mem _ (hin_Rows w h)) hown hK hP 0 rfl rfl 3 (by decide) (hts _ (List.mem_cons_of_mem _ fl_Rows_23)) (fun _ h => h) rfl d_Rows_mergeRuns_61 ?_
          refine lv_iload hx hb d_Rows_mergeRuns_64 (lv_at hl 7 rfl) ?_
          refine lv_aload_n hx hb d_Rows_mergeRuns_66 rfl (lv_at hl 0 rfl) ?_
          refine va_get (C := R_Rows) (T := F_Rows) (N := 5) hx hb hts (fun w h => List.mem_cons_of_mem _ (hin_Rows w h)) hown hK hP 0 rfl rfl 2 (by decide) (hts _ (List.mem_cons_of_mem _ fl_Rows_19)) (fun _ h => h) rfl d_Rows_mergeRuns_67 ?_
          refine lv_iload hx hb d_Rows_mergeRuns_70 (lv_at hl 6 rfl) ?_
          refine zk_nald hx hb hK hP 2 0 rfl rfl (by omega) (by omega) d_Rows_mergeRuns_72 ?_
          refine zk_nast hx hb hK hP hD hS 3 0 rfl rfl (by omega) (by omega) d_Rows_mergeRuns_73 (fun H locs hP hD hS => ?_)
          have hP : va_P D vwCl [(r, .inr (0, [.int (nI k), .ref v, .ref a, .ref b, .int (nI n)])), (v, .inl (cL, nv, .inr (.inl f))), (a, .inl (cI, ns, .inl (zN g))), (b, .inl (cI, ns, .inl (zN (va_up h1 t (g j))))), (ko, .inr (1, [.ref kc, .ref kd, .int (nI kn)])), (kc, .inl (cI, 2, .inl (zN kf))), (kd, .inl (cZ, 2, .inl (zZ kg)))] H := hP
          have hD : va_D A [(r, .inr (0, [.int (nI k), .ref v, .ref a, .ref b, .int (nI n)])), (v, .inl (cL, nv, .inr (.inl f))), (a, .inl (cI, ns, .inl (zN g))), (b, .inl (cI, ns, .inl (zN (va_up h1 t (g j))))), (ko, .inr (1, [.ref kc, .ref kd, .int (nI kn)])), (kc, .inl (cI, 2, .inl (zN kf))), (kd, .inl (cZ, 2, .inl (zZ kg)))] := hD
          refine lv_iinc (k := 6) (v := nI (j + 1)) (lv' := [(6, .int (nI (j + 1))), (0, .ref r), (1, .int (nI s0)), (2, .int (nI m0)), (3, .int (nI e0)), (4, .ref ko), (5, .int (nI i)), (7, .int (nI t))]) hx hb d_Rows_mergeRuns_74 hl rfl (nI_add j 1) (by decide) rfl (fun ls hl => ?_)
          refine lv_iinc (k := 7) (v := nI (t + 1)) (lv' := [(7, .int (nI (t + 1))), (6, .int (nI (j + 1))), (0, .ref r), (1, .int (nI s0)), (2, .int (nI m0)), (3, .int (nI e0)), (4, .ref ko), (5, .int (nI i))]) hx hb d_Rows_mergeRuns_77 hl rfl (nI_add t 1) (by decide) rfl (fun ls hl => ?_)
          refine lv_goto (tgt := 9) hx hb d_Rows_mergeRuns_80 rfl ?_
          exact ih i (j + 1) (t + 1) (va_up h1 t (g j)) (by omega) (by omega) (by omega) (by omega) (by omega) (fun z hz => by rw [va_up_ne _ _ (by omega)]; exact hh z (by omega)) (mg_step (by omega) he hm) (by omega) ls _ _ (lv_sub hl [2, 3, 4, 5, 6, 7, 1, 0] rfl) hP hD hS
        · skip
          refine lv_iload hx hb d_Rows_mergeRuns_21 (lv_at hl 6 rfl) ?_
          refine lv_iload_n hx hb d_Rows_mergeRuns_23 rfl (lv_at hl 3 rfl) ?_
          refine zk_icmp_ge (tgt := 40) hx hb d_Rows_mergeRuns_24 rfl (by omega) (by omega) (fun h24 => ?_) (fun h24 => ?_)
          · skip
            have hm : List.merge (sg g i m0) (sg g j e0) (kLt f k kf kg kn 0) = g i :: List.merge (sg g (i + 1) m0) (sg g j e0) (kLt f k kf kg kn 0) := by rw [sg_cons (show i < m0 by omega)]; exact mg_left (Or.inl (sg_nil (by omega)))
            refine lv_aload_n hx hb d_Rows_mergeRuns_40 rfl (lv_at hl 0 rfl) ?_
            refine va_get (C := R_Rows) (T := F_Rows) (N := 5) hx hb hts (fun w h => List.mem_cons_of_mem _ (hin_Rows w h)) hown hK hP 0 rfl rfl 3 (by decide) (hts _ (List.mem_cons_of_mem _ fl_Rows_23)) (fun _ h => h) rfl d_Rows_mergeRuns_41 ?_
            refine lv_iload hx hb d_Rows_mergeRuns_44 (lv_at hl 7 rfl) ?_
            refine lv_aload_n hx hb d_Rows_mergeRuns_46 rfl (lv_at hl 0 rfl) ?_
            refine va_get (C := R_Rows) (T := F_Rows) (N := 5) hx hb hts (fun w h => List.mem_cons_of_mem _ (hin_Rows w h)) hown hK hP 0 rfl rfl 2 (by decide) (hts _ (List.mem_cons_of_mem _ fl_Rows_19)) (fun _ h => h) rfl d_Rows_mergeRuns_47 ?_
            refine lv_iload hx hb d_Rows_mergeRuns_50 (lv_at hl 5 rfl) ?_
            refine zk_nald hx hb hK hP 2 0 rfl rfl (by omega) (by omega) d_Rows_mergeRuns_52 ?_
            refine zk_nast hx hb hK hP hD hS 3 0 rfl rfl (by omega) (by omega) d_Rows_mergeRuns_53 (fun H locs hP hD hS => ?_)
            have hP : va_P D vwCl [(r, .inr (0, [.int (nI k), .ref v, .ref a, .ref b, .int (nI n)])), (v, .inl (cL, nv, .inr (.inl f))), (a, .inl (cI, ns, .inl (zN g))), (b, .inl (cI, ns, .inl (zN (va_up h1 t (g i))))), (ko, .inr (1, [.ref kc, .ref kd, .int (nI kn)])), (kc, .inl (cI, 2, .inl (zN kf))), (kd, .inl (cZ, 2, .inl (zZ kg)))] H := hP
            have hD : va_D A [(r, .inr (0, [.int (nI k), .ref v, .ref a, .ref b, .int (nI n)])), (v, .inl (cL, nv, .inr (.inl f))), (a, .inl (cI, ns, .inl (zN g))), (b, .inl (cI, ns, .inl (zN (va_up h1 t (g i))))), (ko, .inr (1, [.ref kc, .ref kd, .int (nI kn)])), (kc, .inl (cI, 2, .inl (zN kf))), (kd, .inl (cZ, 2, .inl (zZ kg)))] := hD
            refine lv_iinc (k := 5) (v := nI (i + 1)) (lv' := [(5, .int (nI (i + 1))), (0, .ref r), (1, .int (nI s0)), (2, .int (nI m0)), (3, .int (nI e0)), (4, .ref ko), (6, .int (nI j)), (7, .int (nI t))]) hx hb d_Rows_mergeRuns_54 hl rfl (nI_add i 1) (by decide) rfl (fun ls hl => ?_)
            refine lv_goto (tgt := 77) hx hb d_Rows_mergeRuns_57 rfl ?_
            refine lv_iinc (k := 7) (v := nI (t + 1)) (lv' := [(7, .int (nI (t + 1))), (5, .int (nI (i + 1))), (0, .ref r), (1, .int (nI s0)), (2, .int (nI m0)), (3, .int (nI e0)), (4, .ref ko), (6, .int (nI j))]) hx hb d_Rows_mergeRuns_77 hl rfl (nI_add t 1) (by decide) rfl (fun ls hl => ?_)
            refine lv_goto (tgt := 9) hx hb d_Rows_mergeRuns_80 rfl ?_
            exact ih (i + 1) j (t + 1) (va_up h1 t (g i)) (by omega) (by omega) (by omega) (by omega) (by omega) (fun z hz => by rw [va_up_ne _ _ (by omega)]; exact hh z (by omega)) (mg_step (by omega) he hm) (by omega) ls _ _ (lv_sub hl [2, 3, 4, 5, 6, 1, 7, 0] rfl) hP hD hS
          · skip
            refine lv_aload_n hx hb d_Rows_mergeRuns_27 rfl (lv_at hl 0 rfl) ?_
            refine lv_iload hx hb d_Rows_mergeRuns_28 (lv_at hl 5 rfl) ?_
            refine lv_iload hx hb d_Rows_mergeRuns_30 (lv_at hl 6 rfl) ?_
            refine lv_aload hx hb d_Rows_mergeRuns_32 (lv_at hl 4 rfl) ?_
            have hPc := hP.sub (ws' := [(r, .inr (0, [.int (nI k), .ref v, .ref a, .ref b, .int (nI n)])), (v, .inl (cL, nv, .inr (.inl f))), (a, .inl (cI, ns, .inl (zN g))), (b, .inl (cI, ns, .inl (zN h1))), (ko, .inr (1, [.ref kc, .ref kd, .int (nI kn)])), (kc, .inl (cI, 2, .inl (zN kf))), (kd, .inl (cZ, 2, .inl (zZ kg)))]) [0, 1, 2, 3, 4, 5, 6] rfl
            refine zk_ri (va_runV (As := [.int (nI i), .int (nI j), .ref ko]) (rest := []) ⟨hx, hb, hml, hown, hts⟩ (c_Rows_isBefore l D cI cL cZ cW cR r v a b k n nv ns f g h1 ko kc kd kn kf kg i j (by omega) (by omega) (hg _ (by omega)) (hg _ (by omega)) hns hnv hk hkn hkf) (cwV 3 hts (zk_gV (fun _ h => List.mem_cons_of_mem _ h) ml_Rows_53 im_Rows_isBefore se_Rows_isBefore in_Rows co_Rows_isBefore) rfl rfl rfl ⟨rfl, hd_Rows_isBefore⟩ ⟨Nat.le_of_ble_eq_true rfl, Nat.le_of_ble_eq_true rfl⟩) (zk_vr (q0 := 0) hN hK hPc rfl rfl) rfl rfl hl.1 rfl (lv_room (Nat.le_of_ble_eq_true rfl)) d_Rows_mergeRuns_34 ⟨Nat.zero_le _, Nat.zero_le _⟩) ?_
            refine zk_ifb_eq (tgt := 60) hx hb d_Rows_mergeRuns_37 rfl (fun h37 => ?_) (fun h37 => ?_)
            · skip
              have hm : List.merge (sg g i m0) (sg g j e0) (kLt f k kf kg kn 0) = g j :: List.merge (sg g i m0) (sg g (j + 1) e0) (kLt f k kf kg kn 0) := by rw [sg_cons (show j < e0 by omega)]; exact mg_right (Or.inr ⟨g i, sg g (i + 1) m0, sg_cons (by omega), h37⟩)
              refine lv_aload_n hx hb d_Rows_mergeRuns_60 rfl (lv_at hl 0 rfl) ?_
              refine va_get (C := R_Rows) (T := F_Rows) (N := 5) hx hb hts (fun w h => List.mem_cons_of_mem _ (hin_Rows w h)) hown hK hP 0 rfl rfl 3 (by decide) (hts _ (List.mem_cons_of_mem _ fl_Rows_23)) (fun _ h => h) rfl d_Rows_mergeRuns_61 ?_
              refine lv_iload hx hb d_Rows_mergeRuns_64 (lv_at hl 7 rfl) ?_
              refine lv_aload_n hx hb d_Rows_mergeRuns_66 rfl (lv_at hl 0 rfl) ?_
              refine va_get (C := R_Rows) (T := F_Rows) (N := 5) hx hb hts (fun w h => List.mem_cons_of_mem _ (hin_Rows w h)) hown hK hP 0 rfl rfl 2 (by decide) (hts _ (List.mem_cons_of_mem _ fl_Rows_19)) (fun _ h => h) rfl d_Rows_mergeRuns_67 ?_
              refine lv_iload hx hb d_Rows_mergeRuns_70 (lv_at hl 6 rfl) ?_
              refine zk_nald hx hb hK hP 2 0 rfl rfl (by omega) (by omega) d_Rows_mergeRuns_72 ?_
              refine zk_nast hx hb hK hP hD hS 3 0 rfl rfl (by omega) (by omega) d_Rows_mergeRuns_73 (fun H locs hP hD hS => ?_)
              have hP : va_P D vwCl [(r, .inr (0, [.int (nI k), .ref v, .ref a, .ref b, .int (nI n)])), (v, .inl (cL, nv, .inr (.inl f))), (a, .inl (cI, ns, .inl (zN g))), (b, .inl (cI, ns, .inl (zN (va_up h1 t (g j))))), (ko, .inr (1, [.ref kc, .ref kd, .int (nI kn)])), (kc, .inl (cI, 2, .inl (zN kf))), (kd, .inl (cZ, 2, .inl (zZ kg)))] H := hP
              have hD : va_D A [(r, .inr (0, [.int (nI k), .ref v, .ref a, .ref b, .int (nI n)])), (v, .inl (cL, nv, .inr (.inl f))), (a, .inl (cI, ns, .inl (zN g))), (b, .inl (cI, ns, .inl (zN (va_up h1 t (g j))))), (ko, .inr (1, [.ref kc, .ref kd, .int (nI kn)])), (kc, .inl (cI, 2, .inl (zN kf))), (kd, .inl (cZ, 2, .inl (zZ kg)))] := hD
              refine lv_iinc (k := 6) (v := nI (j + 1)) (lv' := [(6, .int (nI (j + 1))), (0, .ref r), (1, .int (nI s0)), (2, .int (nI m0)), (3, .int (nI e0)), (4, .ref ko), (5, .int (nI i)), (7, .int (nI t))]) hx hb d_Rows_mergeRuns_74 hl rfl (nI_add j 1) (by decide) rfl (fun ls hl => ?_)
              refine lv_iinc (k := 7) (v := nI (t + 1)) (lv' := [(7, .int (nI (t + 1))), (6, .int (nI (j + 1))), (0, .ref r), (1, .int (nI s0)), (2, .int (nI m0)), (3, .int (nI e0)), (4, .ref ko), (5, .int (nI i))]) hx hb d_Rows_mergeRuns_77 hl rfl (nI_add t 1) (by decide) rfl (fun ls hl => ?_)
              refine lv_goto (tgt := 9) hx hb d_Rows_mergeRuns_80 rfl ?_
              exact ih i (j + 1) (t + 1) (va_up h1 t (g j)) (by omega) (by omega) (by omega) (by omega) (by omega) (fun z hz => by rw [va_up_ne _ _ (by omega)]; exact hh z (by omega)) (mg_step (by omega) he hm) (by omega) ls _ _ (lv_sub hl [2, 3, 4, 5, 6, 7, 1, 0] rfl) hP hD hS
            · skip
              have hm : List.merge (sg g i m0) (sg g j e0) (kLt f k kf kg kn 0) = g i :: List.merge (sg g (i + 1) m0) (sg g j e0) (kLt f k kf kg kn 0) := by rw [sg_cons (show i < m0 by omega)]; exact mg_left (Or.inr ⟨g j, sg g (j + 1) e0, sg_cons (by omega), h37⟩)
              refine lv_aload_n hx hb d_Rows_mergeRuns_40 rfl (lv_at hl 0 rfl) ?_
              refine va_get (C := R_Rows) (T := F_Rows) (N := 5) hx hb hts (fun w h => List.mem_cons_of_mem _ (hin_Rows w h)) hown hK hP 0 rfl rfl 3 (by decide) (hts _ (List.mem_cons_of_mem _ fl_Rows_23)) (fun _ h => h) rfl d_Rows_mergeRuns_41 ?_
              refine lv_iload hx hb d_Rows_mergeRuns_44 (lv_at hl 7 rfl) ?_
              refine lv_aload_n hx hb d_Rows_mergeRuns_46 rfl (lv_at hl 0 rfl) ?_
              refine va_get (C := R_Rows) (T := F_Rows) (N := 5) hx hb hts (fun w h => List.mem_cons_of_mem _ (hin_Rows w h)) hown hK hP 0 rfl rfl 2 (by decide) (hts _ (List.mem_cons_of_mem _ fl_Rows_19)) (fun _ h => h) rfl d_Rows_mergeRuns_47 ?_
              refine lv_iload hx hb d_Rows_mergeRuns_50 (lv_at hl 5 rfl) ?_
              refine zk_nald hx hb hK hP 2 0 rfl rfl (by omega) (by omega) d_Rows_mergeRuns_52 ?_
              refine zk_nast hx hb hK hP hD hS 3 0 rfl rfl (by omega) (by omega) d_Rows_mergeRuns_53 (fun H locs hP hD hS => ?_)
              have hP : va_P D vwCl [(r, .inr (0, [.int (nI k), .ref v, .ref a, .ref b, .int (nI n)])), (v, .inl (cL, nv, .inr (.inl f))), (a, .inl (cI, ns, .inl (zN g))), (b, .inl (cI, ns, .inl (zN (va_up h1 t (g i))))), (ko, .inr (1, [.ref kc, .ref kd, .int (nI kn)])), (kc, .inl (cI, 2, .inl (zN kf))), (kd, .inl (cZ, 2, .inl (zZ kg)))] H := hP
              have hD : va_D A [(r, .inr (0, [.int (nI k), .ref v, .ref a, .ref b, .int (nI n)])), (v, .inl (cL, nv, .inr (.inl f))), (a, .inl (cI, ns, .inl (zN g))), (b, .inl (cI, ns, .inl (zN (va_up h1 t (g i))))), (ko, .inr (1, [.ref kc, .ref kd, .int (nI kn)])), (kc, .inl (cI, 2, .inl (zN kf))), (kd, .inl (cZ, 2, .inl (zZ kg)))] := hD
              refine lv_iinc (k := 5) (v := nI (i + 1)) (lv' := [(5, .int (nI (i + 1))), (0, .ref r), (1, .int (nI s0)), (2, .int (nI m0)), (3, .int (nI e0)), (4, .ref ko), (6, .int (nI j)), (7, .int (nI t))]) hx hb d_Rows_mergeRuns_54 hl rfl (nI_add i 1) (by decide) rfl (fun ls hl => ?_)
              refine lv_goto (tgt := 77) hx hb d_Rows_mergeRuns_57 rfl ?_
              refine lv_iinc (k := 7) (v := nI (t + 1)) (lv' := [(7, .int (nI (t + 1))), (5, .int (nI (i + 1))), (0, .ref r), (1, .int (nI s0)), (2, .int (nI m0)), (3, .int (nI e0)), (4, .ref ko), (6, .int (nI j))]) hx hb d_Rows_mergeRuns_77 hl rfl (nI_add t 1) (by decide) rfl (fun ls hl => ?_)
              refine lv_goto (tgt := 9) hx hb d_Rows_mergeRuns_80 rfl ?_
              exact ih (i + 1) j (t + 1) (va_up h1 t (g i)) (by omega) (by omega) (by omega) (by omega) (by omega) (fun z hz => by rw [va_up_ne _ _ (by omega)]; exact hh z (by omega)) (mg_step (by omega) he hm) (by omega) ls _ _ (lv_sub hl [2, 3, 4, 5, 6, 1, 7, 0] rfl) hP hD hS
  exact lb9 _ s0 m0 s0 h (Nat.le_refl _) (hs0) (Nat.le_refl _) (hm0) (rfl) (fun _ _ => rfl) (by rw [sg_nil (Nat.le_refl _)]; rfl) (Nat.lt_succ_self _) ls _ _ (lv_sub hl [3, 4, 5, 6, 7, 2, 1, 0] rfl) hP hD hS
