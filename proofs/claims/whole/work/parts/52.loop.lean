/-! the law's beginning and its loop -/
abbrev cS0 : cSta := (0, fun _ => 0, fun _ => 0, 0, fun _ => 0, fun _ => 0, 0, 0, -1, nI 0, -1, -1, 0, fun _ => 0, fun _ => false, fun _ => none, fun _ => none, fun _ => false, fun _ => false, fun _ => -10, fun _ => nI 10, fun _ => 0, fun _ => 0, fun _ => 1, fun _ => 0, fun _ _ => 0, fun _ _ => false, none, 0, 0, 0, 0, fun _ => 0, fun _ => 0, fun _ => 0, 0, fun _ => 0, fun _ => 0, 0, 0, none, 0, 0, 0, 0, 0, 0)
abbrev mS0 : mSta := (false, false, 0, 0, 0, false, 0, false, 0, 0, nI 0, 0, 0, 0, nI 0, 0, nI 0, nI 0, 0, nI 0, nI 0, 0, fun _ => 0, fun _ => nI 0, fun _ => nI 0, fun _ => nI 0, fun _ => 0, fun _ => 0, fun _ => 0, fun _ => some 0, fun _ => some 0, fun _ => false, fun _ => false, fun _ => nI 0, fun _ => nI 0, fun _ => 0, fun _ => nI 0, fun _ => false, fun _ => 0, fun _ => nI 0, fun _ => 0, fun _ => 0, fun _ => false)
theorem lrel_0 {fr : Nat} (h3 : 3 ≤ fr) (h8 : fr ≤ 8) : LRel fr cS0 mS0 := by
  refine ⟨h3, h8, ?_, ?_, ?_, ?_, ?_, rfl, ?_, ?_, ?_, ?_, rfl, rfl, rfl, rfl, Nat.zero_le _, ?_, ?_, ?_, ?_⟩
  · exact ⟨rfl, Nat.zero_le _, fun z hz => absurd hz (Nat.not_lt_zero z), fun i hi => absurd hi (Nat.not_lt_zero i)⟩
  · exact ⟨rfl, Nat.zero_le _, fun z hz => absurd hz (Nat.not_lt_zero z), fun i hi => absurd hi (Nat.not_lt_zero i)⟩
  · exact ⟨Nat.zero_lt_succ _, 0, 0, Nat.zero_lt_succ _, rfl, Nat.zero_le _, Or.inl ⟨rfl, rfl⟩⟩
  · exact ⟨Nat.zero_lt_succ _, Nat.zero_lt_succ _, Or.inl ⟨rfl, rfl, rfl⟩⟩
  · exact ⟨Nat.zero_le _, Nat.zero_le _, fun t _ => Nat.zero_lt_succ _, rfl, fun t ht => absurd ht (Nat.not_lt_zero t)⟩
  · exact ⟨Nat.zero_le _, fun z hz => absurd hz (Nat.not_lt_zero z)⟩
  · exact fun z hz => absurd hz (Nat.not_lt_zero z)
  · exact ⟨fun z q hq => (by cases hq), fun z q hq => (by cases hq), fun z _ => Nat.zero_lt_succ _, fun z _ => Nat.zero_lt_succ _, fun z _ => Nat.zero_le _, fun z t _ _ => Nat.zero_lt_succ _, fun z t _ ht => absurd ht (Nat.not_lt_zero t)⟩
  · exact ⟨fun z q hq => (by cases hq; exact Nat.zero_lt_succ _), fun z q hq => (by cases hq; exact Nat.zero_lt_succ _), fun z _ => Nat.zero_lt_succ _, fun z _ => Nat.zero_lt_succ _, fun z _ => (show (-10 : Int32) ≤ nI 0 ∧ nI 0 ≤ nI 10 by decide), fun z _ => (show (-10 : Int32) ≤ nI 0 ∧ nI 0 ≤ nI 10 by decide), fun z hz => absurd hz Bool.false_ne_true⟩
  · exact fun r hr => absurd hr (Nat.not_lt_zero r)
  · exact fun z _ => Nat.zero_lt_succ _
  · exact fun z _ => Nat.zero_lt_succ _
  · exact fun z _ => Nat.zero_lt_succ _
theorem lw_cmp {i L : Nat} (hL : L ≤ 3073) (hi : i ≤ 4000) : nI L - nI 6 < nI i ↔ L < i + 6 := by
  rw [Int32.lt_iff_toInt_lt, Int32.toInt_sub, nI_toInt (by omega), nI_toInt (by omega), nI_toInt (by omega), bm32 (by omega) (by omega)]
  omega
theorem and15 (x : Int32) : ∃ k, k < 16 ∧ x &&& nI 15 = nI k := by
  have h : (x &&& nI 15).toBitVec.toNat < 16 := by
    have e : (x &&& nI 15).toBitVec = x.toBitVec &&& (nI 15).toBitVec := rfl
    rw [e, BitVec.toNat_and]
    have e2 : (nI 15).toBitVec.toNat = 15 := by decide
    rw [e2]
    have := Nat.and_le_right (n := x.toBitVec.toNat) (m := 15)
    omega
  refine ⟨(x &&& nI 15).toBitVec.toNat, h, ?_⟩
  apply Int32.toBitVec_inj.mp
  apply BitVec.eq_of_toNat_eq
  show _ = (BitVec.ofNat 32 (x &&& nI 15).toBitVec.toNat).toNat
  rw [BitVec.toNat_ofNat, Nat.mod_eq_of_lt (by omega)]
theorem fr_c0 (x : Int32) : (∃ fr, 3 ≤ fr ∧ fr ≤ 8 ∧ x = nI fr) ∨ ¬ (nI 3 ≤ x ∧ x ≤ nI 8) := by
  rcases i_rng (x := x) (a := 3) (b := 8) (by decide) (by decide) with ⟨k, h1, h2, h3⟩ | h
  · exact Or.inl ⟨k, h1, h2, h3⟩
  · exact Or.inr h.1
theorem k16 {k : Nat} (h : k < 16) : k = 0 ∨ k = 1 ∨ k = 2 ∨ k = 3 ∨ k = 4 ∨ k = 5 ∨ k = 6 ∨ k = 7 ∨ k = 8 ∨ k = 9 ∨ k = 10 ∨ k = 11 ∨ k = 12 ∨ k = 13 ∨ k = 14 ∨ k = 15 := by omega
theorem lw_head {p : Program} {e : Env} {s : State} {m : MethodId} {below : List Frame} {meth : Method} {c : Code} (l : Launch) (D : va_G) (cI cL cZ cW cR : ClassId) {b L : Nat} {xs : Nat → Int32} (fr : Nat) (oF ta qo uo mo ma ro qw oko okc okd r0 v0 a0 b0 r1 v1 a1 b1 rL vL aL bL rK vK aK bK : Nat) (wo ko kc kd : Nat → Nat) (o a_size a_given a_holes a_test a_wFunction a_wArgument a_wNumber a_wPart a_wOrder a_wDown a_wRange a_wLow a_wHigh a_keeps a_value a_hole a_first a_second a_list a_keyColumn a_keyDown : Nat) (hx : p.tables.exec = Jvm.exec) (hb : c.code = code) (hml : c.maxLocals = 4) (hown : s.vm.findClass R_Law = some m.cls) (hts : ∀ w ∈ zt, w.before #[Value.ref b] s = true) (hK : va_K D vwCl (zT cI cL cZ cW cR) s) (hN : zNs s) (A : Nat → Prop) (hA : ∀ q, s.heap.size ≤ q → A q) (hX : va_X b L xs s s.heap) (hbl : b < s.heap.size) (hbA : ¬ A b) (hL : L ≤ 3073) (hr : meth.sig.returnType = ret) (hlk : meth.locks = false) (hAe : ∀ q, A q → s.heap.size ≤ q) (i : Nat) (hi : i ≤ 4000) (ls : Array Slot) (H : Heap) (locs : List Loc) (hl : lv_has ls 4 [(0, .ref b), (1, .ref oF), (2, .ref o), (3, .int (nI i))]) (hS : va_S A s.heap H locs) (kF : i + 6 ≤ L → W p l e room_1 s m #[Value.ref b] below meth c H locs 61 2780 (lw_Z below #[Value.ref b] s) (F0 m 37 ls [])) : W p l e room_1 s m #[Value.ref b] below meth c H locs 61 2780 (lw_Z below #[Value.ref b] s) (F0 m 28 ls []) := by
  refine lv_iload_n hx hb d_Law_law_28 rfl (lv_at hl 3 rfl) ?_
  refine lv_aload_n hx hb d_Law_law_29 rfl (lv_at hl 0 rfl) ?_
  refine va_slen hx hb hX hbl hbA hS d_Law_law_30 ?_
  refine lv_bipush (v := nI 6) hx hb d_Law_law_31 (by decide) ?_
  refine lv_isub hx hb d_Law_law_33 ?_
  refine lv_icmp_gt (tgt := 670) hx hb d_Law_law_34 rfl (fun h => ?_) (fun h => ?_)
  · refine lv_iconst (v := 1) hx hb d_Law_law_670 (by decide) ?_
    refine va_forget (fun q hq => hAe _ (hS.2.2 q hq)) ?_
    refine W.widen (k := 600000) (n := 7302250) (by decide) (by decide) ?_
    exact lw_ret hx hb hr hlk d_Law_law_671
  · exact kF (Nat.le_of_not_lt (fun q => h ((lw_cmp hL hi).mpr q)))
set_option maxHeartbeats 4000000 in
theorem lw_body {p : Program} {e : Env} {s : State} {m : MethodId} {below : List Frame} {meth : Method} {c : Code} (l : Launch) (D : va_G) (cI cL cZ cW cR : ClassId) {b L : Nat} {xs : Nat → Int32} (fr : Nat) (oF ta qo uo mo ma ro qw oko okc okd r0 v0 a0 b0 r1 v1 a1 b1 rL vL aL bL rK vK aK bK : Nat) (wo ko kc kd : Nat → Nat) (o a_size a_given a_holes a_test a_wFunction a_wArgument a_wNumber a_wPart a_wOrder a_wDown a_wRange a_wLow a_wHigh a_keeps a_value a_hole a_first a_second a_list a_keyColumn a_keyDown : Nat) (hx : p.tables.exec = Jvm.exec) (hb : c.code = code) (hml : c.maxLocals = 4) (hown : s.vm.findClass R_Law = some m.cls) (hts : ∀ w ∈ zt, w.before #[Value.ref b] s = true) (hK : va_K D vwCl (zT cI cL cZ cW cR) s) (hN : zNs s) (A : Nat → Prop) (hA : ∀ q, s.heap.size ≤ q → A q) (hX : va_X b L xs s s.heap) (hbl : b < s.heap.size) (hbA : ¬ A b) (hL : L ≤ 3073) (i : Nat) (hi : i + 6 ≤ L) (lb664 : ∀ (σ : cSta) (τ : mSta), (LRel fr σ τ) → ∀ (ls : Array Slot) (H : Heap) (locs : List Loc), lv_has ls 4 [(0, .ref b), (1, .ref oF), (2, .ref o), (3, .int (nI i))] → va_P D vwCl (LWd cI cL cZ cW cR fr oF ta qo uo mo ma ro qw oko okc okd r0 v0 a0 b0 r1 v1 a1 b1 rL vL aL bL rK vK aK bK wo ko kc kd o a_size a_given a_holes a_test a_wFunction a_wArgument a_wNumber a_wPart a_wOrder a_wDown a_wRange a_wLow a_wHigh a_keeps a_value a_hole a_first a_second a_list a_keyColumn a_keyDown σ τ) H → va_D A (LWd cI cL cZ cW cR fr oF ta qo uo mo ma ro qw oko okc okd r0 v0 a0 b0 r1 v1 a1 b1 rL vL aL bL rK vK aK bK wo ko kc kd o a_size a_given a_holes a_test a_wFunction a_wArgument a_wNumber a_wPart a_wOrder a_wDown a_wRange a_wLow a_wHigh a_keeps a_value a_hole a_first a_second a_list a_keyColumn a_keyDown σ τ) → va_S A s.heap H locs → W p l e room_1 s m #[Value.ref b] below meth c H locs 61 2780 (lw_Z below #[Value.ref b] s) (F0 m 664 ls [])) (σ : cSta) (τ : mSta) (hR : LRel fr σ τ) (ls : Array Slot) (H : Heap) (locs : List Loc) (hl : lv_has ls 4 [(0, .ref b), (1, .ref oF), (2, .ref o), (3, .int (nI i))]) (hP : va_P D vwCl (LWd cI cL cZ cW cR fr oF ta qo uo mo ma ro qw oko okc okd r0 v0 a0 b0 r1 v1 a1 b1 rL vL aL bL rK vK aK bK wo ko kc kd o a_size a_given a_holes a_test a_wFunction a_wArgument a_wNumber a_wPart a_wOrder a_wDown a_wRange a_wLow a_wHigh a_keeps a_value a_hole a_first a_second a_list a_keyColumn a_keyDown σ τ) H) (hD : va_D A (LWd cI cL cZ cW cR fr oF ta qo uo mo ma ro qw oko okc okd r0 v0 a0 b0 r1 v1 a1 b1 rL vL aL bL rK vK aK bK wo ko kc kd o a_size a_given a_holes a_test a_wFunction a_wArgument a_wNumber a_wPart a_wOrder a_wDown a_wRange a_wLow a_wHigh a_keeps a_value a_hole a_first a_second a_list a_keyColumn a_keyDown σ τ)) (hS : va_S A s.heap H locs) : W p l e room_1 s m #[Value.ref b] below meth c H locs 61 2780 (lw_Z below #[Value.ref b] s) (F0 m 37 ls []) := by
  refine lv_aload_n hx hb d_Law_law_37 rfl (lv_at hl 0 rfl) ?_
  refine lv_iload_n hx hb d_Law_law_38 rfl (lv_at hl 3 rfl) ?_
  refine zk_sld hx hb hX hbl hbA hS (by omega) (by omega) d_Law_law_39 ?_
  refine lv_bipush (v := nI 15) hx hb d_Law_law_40 (by decide) ?_
  refine lv_iand hx hb d_Law_law_42 ?_
  obtain ⟨k, hk, hk2⟩ := and15 (xs i)
  refine zk_topi hk2 ?_
  rcases k16 hk with rfl | rfl | rfl | rfl | rfl | rfl | rfl | rfl | rfl | rfl | rfl | rfl | rfl | rfl | rfl | rfl
  · skip
    refine lv_tableIn (tgt := 120) (off := 77) hx hb d_Law_law_43 (by decide) (by decide) (by decide) rfl ?_
    exact lw_c0 l D cI cL cZ cW cR fr oF ta qo uo mo ma ro qw oko okc okd r0 v0 a0 b0 r1 v1 a1 b1 rL vL aL bL rK vK aK bK wo ko kc kd o a_size a_given a_holes a_test a_wFunction a_wArgument a_wNumber a_wPart a_wOrder a_wDown a_wRange a_wLow a_wHigh a_keeps a_value a_hole a_first a_second a_list a_keyColumn a_keyDown hx hb hml hown hts hK hN A hA hX hbl hbA hL i hi lb664 σ τ hR ls H locs hl hP hD hS
  · skip
    refine lv_tableIn (tgt := 183) (off := 140) hx hb d_Law_law_43 (by decide) (by decide) (by decide) rfl ?_
    exact lw_c1 l D cI cL cZ cW cR fr oF ta qo uo mo ma ro qw oko okc okd r0 v0 a0 b0 r1 v1 a1 b1 rL vL aL bL rK vK aK bK wo ko kc kd o a_size a_given a_holes a_test a_wFunction a_wArgument a_wNumber a_wPart a_wOrder a_wDown a_wRange a_wLow a_wHigh a_keeps a_value a_hole a_first a_second a_list a_keyColumn a_keyDown hx hb hml hown hts hK hN A hA hX hbl hbA hL i hi lb664 σ τ hR ls H locs hl hP hD hS
  · skip
    refine lv_tableIn (tgt := 206) (off := 163) hx hb d_Law_law_43 (by decide) (by decide) (by decide) rfl ?_
    exact lw_c2 l D cI cL cZ cW cR fr oF ta qo uo mo ma ro qw oko okc okd r0 v0 a0 b0 r1 v1 a1 b1 rL vL aL bL rK vK aK bK wo ko kc kd o a_size a_given a_holes a_test a_wFunction a_wArgument a_wNumber a_wPart a_wOrder a_wDown a_wRange a_wLow a_wHigh a_keeps a_value a_hole a_first a_second a_list a_keyColumn a_keyDown hx hb hml hown hts hK hN A hA hX hbl hbA hL i hi lb664 σ τ hR ls H locs hl hP hD hS
  · skip
    refine lv_tableIn (tgt := 217) (off := 174) hx hb d_Law_law_43 (by decide) (by decide) (by decide) rfl ?_
    exact lw_c3 l D cI cL cZ cW cR fr oF ta qo uo mo ma ro qw oko okc okd r0 v0 a0 b0 r1 v1 a1 b1 rL vL aL bL rK vK aK bK wo ko kc kd o a_size a_given a_holes a_test a_wFunction a_wArgument a_wNumber a_wPart a_wOrder a_wDown a_wRange a_wLow a_wHigh a_keeps a_value a_hole a_first a_second a_list a_keyColumn a_keyDown hx hb hml hown hts hK hN A hA hX hbl hbA hL i hi lb664 σ τ hR ls H locs hl hP hD hS
  · skip
    refine lv_tableIn (tgt := 260) (off := 217) hx hb d_Law_law_43 (by decide) (by decide) (by decide) rfl ?_
    exact lw_c4 l D cI cL cZ cW cR fr oF ta qo uo mo ma ro qw oko okc okd r0 v0 a0 b0 r1 v1 a1 b1 rL vL aL bL rK vK aK bK wo ko kc kd o a_size a_given a_holes a_test a_wFunction a_wArgument a_wNumber a_wPart a_wOrder a_wDown a_wRange a_wLow a_wHigh a_keeps a_value a_hole a_first a_second a_list a_keyColumn a_keyDown hx hb hml hown hts hK hN A hA hX hbl hbA hL i hi lb664 σ τ hR ls H locs hl hP hD hS
  · skip
    refine lv_tableIn (tgt := 293) (off := 250) hx hb d_Law_law_43 (by decide) (by decide) (by decide) rfl ?_
    exact lw_c5 l D cI cL cZ cW cR fr oF ta qo uo mo ma ro qw oko okc okd r0 v0 a0 b0 r1 v1 a1 b1 rL vL aL bL rK vK aK bK wo ko kc kd o a_size a_given a_holes a_test a_wFunction a_wArgument a_wNumber a_wPart a_wOrder a_wDown a_wRange a_wLow a_wHigh a_keeps a_value a_hole a_first a_second a_list a_keyColumn a_keyDown hx hb hml hown hts hK hN A hA hX hbl hbA hL i hi lb664 σ τ hR ls H locs hl hP hD hS
  · skip
    refine lv_tableIn (tgt := 336) (off := 293) hx hb d_Law_law_43 (by decide) (by decide) (by decide) rfl ?_
    rcases Decidable.em ((xs (i + 4)) = 0) with h0 | h0
    · exact lw_c6z l D cI cL cZ cW cR fr oF ta qo uo mo ma ro qw oko okc okd r0 v0 a0 b0 r1 v1 a1 b1 rL vL aL bL rK vK aK bK wo ko kc kd o a_size a_given a_holes a_test a_wFunction a_wArgument a_wNumber a_wPart a_wOrder a_wDown a_wRange a_wLow a_wHigh a_keeps a_value a_hole a_first a_second a_list a_keyColumn a_keyDown hx hb hml hown hts hK hN A hA hX hbl hbA hL i hi lb664 h0 σ τ hR ls H locs hl hP hD hS
    · exact lw_c6n l D cI cL cZ cW cR fr oF ta qo uo mo ma ro qw oko okc okd r0 v0 a0 b0 r1 v1 a1 b1 rL vL aL bL rK vK aK bK wo ko kc kd o a_size a_given a_holes a_test a_wFunction a_wArgument a_wNumber a_wPart a_wOrder a_wDown a_wRange a_wLow a_wHigh a_keeps a_value a_hole a_first a_second a_list a_keyColumn a_keyDown hx hb hml hown hts hK hN A hA hX hbl hbA hL i hi lb664 h0 σ τ hR ls H locs hl hP hD hS
  · skip
    refine lv_tableIn (tgt := 405) (off := 362) hx hb d_Law_law_43 (by decide) (by decide) (by decide) rfl ?_
    rcases Decidable.em ((xs (i + 2)) = 0) with h0 | h0
    · exact lw_c7z l D cI cL cZ cW cR fr oF ta qo uo mo ma ro qw oko okc okd r0 v0 a0 b0 r1 v1 a1 b1 rL vL aL bL rK vK aK bK wo ko kc kd o a_size a_given a_holes a_test a_wFunction a_wArgument a_wNumber a_wPart a_wOrder a_wDown a_wRange a_wLow a_wHigh a_keeps a_value a_hole a_first a_second a_list a_keyColumn a_keyDown hx hb hml hown hts hK hN A hA hX hbl hbA hL i hi lb664 h0 σ τ hR ls H locs hl hP hD hS
    · exact lw_c7n l D cI cL cZ cW cR fr oF ta qo uo mo ma ro qw oko okc okd r0 v0 a0 b0 r1 v1 a1 b1 rL vL aL bL rK vK aK bK wo ko kc kd o a_size a_given a_holes a_test a_wFunction a_wArgument a_wNumber a_wPart a_wOrder a_wDown a_wRange a_wLow a_wHigh a_keeps a_value a_hole a_first a_second a_list a_keyColumn a_keyDown hx hb hml hown hts hK hN A hA hX hbl hbA hL i hi lb664 h0 σ τ hR ls H locs hl hP hD hS
  · skip
    refine lv_tableIn (tgt := 474) (off := 431) hx hb d_Law_law_43 (by decide) (by decide) (by decide) rfl ?_
    exact lw_c8 l D cI cL cZ cW cR fr oF ta qo uo mo ma ro qw oko okc okd r0 v0 a0 b0 r1 v1 a1 b1 rL vL aL bL rK vK aK bK wo ko kc kd o a_size a_given a_holes a_test a_wFunction a_wArgument a_wNumber a_wPart a_wOrder a_wDown a_wRange a_wLow a_wHigh a_keeps a_value a_hole a_first a_second a_list a_keyColumn a_keyDown hx hb hml hown hts hK hN A hA hX hbl hbA hL i hi lb664 σ τ hR ls H locs hl hP hD hS
  · skip
    refine lv_tableIn (tgt := 523) (off := 480) hx hb d_Law_law_43 (by decide) (by decide) (by decide) rfl ?_
    exact lw_c9 l D cI cL cZ cW cR fr oF ta qo uo mo ma ro qw oko okc okd r0 v0 a0 b0 r1 v1 a1 b1 rL vL aL bL rK vK aK bK wo ko kc kd o a_size a_given a_holes a_test a_wFunction a_wArgument a_wNumber a_wPart a_wOrder a_wDown a_wRange a_wLow a_wHigh a_keeps a_value a_hole a_first a_second a_list a_keyColumn a_keyDown hx hb hml hown hts hK hN A hA hX hbl hbA hL i hi lb664 σ τ hR ls H locs hl hP hD hS
  · skip
    refine lv_tableIn (tgt := 536) (off := 493) hx hb d_Law_law_43 (by decide) (by decide) (by decide) rfl ?_
    exact lw_c10 l D cI cL cZ cW cR fr oF ta qo uo mo ma ro qw oko okc okd r0 v0 a0 b0 r1 v1 a1 b1 rL vL aL bL rK vK aK bK wo ko kc kd o a_size a_given a_holes a_test a_wFunction a_wArgument a_wNumber a_wPart a_wOrder a_wDown a_wRange a_wLow a_wHigh a_keeps a_value a_hole a_first a_second a_list a_keyColumn a_keyDown hx hb hml hown hts hK hN A hA hX hbl hbA hL i hi lb664 σ τ hR ls H locs hl hP hD hS
  · skip
    refine lv_tableIn (tgt := 569) (off := 526) hx hb d_Law_law_43 (by decide) (by decide) (by decide) rfl ?_
    exact lw_c11 l D cI cL cZ cW cR fr oF ta qo uo mo ma ro qw oko okc okd r0 v0 a0 b0 r1 v1 a1 b1 rL vL aL bL rK vK aK bK wo ko kc kd o a_size a_given a_holes a_test a_wFunction a_wArgument a_wNumber a_wPart a_wOrder a_wDown a_wRange a_wLow a_wHigh a_keeps a_value a_hole a_first a_second a_list a_keyColumn a_keyDown hx hb hml hown hts hK hN A hA hX hbl hbA hL i hi lb664 σ τ hR ls H locs hl hP hD hS
  · skip
    refine lv_tableIn (tgt := 602) (off := 559) hx hb d_Law_law_43 (by decide) (by decide) (by decide) rfl ?_
    exact lw_c12 l D cI cL cZ cW cR fr oF ta qo uo mo ma ro qw oko okc okd r0 v0 a0 b0 r1 v1 a1 b1 rL vL aL bL rK vK aK bK wo ko kc kd o a_size a_given a_holes a_test a_wFunction a_wArgument a_wNumber a_wPart a_wOrder a_wDown a_wRange a_wLow a_wHigh a_keeps a_value a_hole a_first a_second a_list a_keyColumn a_keyDown hx hb hml hown hts hK hN A hA hX hbl hbA hL i hi lb664 σ τ hR ls H locs hl hP hD hS
  · skip
    refine lv_tableIn (tgt := 615) (off := 572) hx hb d_Law_law_43 (by decide) (by decide) (by decide) rfl ?_
    exact lw_c13 l D cI cL cZ cW cR fr oF ta qo uo mo ma ro qw oko okc okd r0 v0 a0 b0 r1 v1 a1 b1 rL vL aL bL rK vK aK bK wo ko kc kd o a_size a_given a_holes a_test a_wFunction a_wArgument a_wNumber a_wPart a_wOrder a_wDown a_wRange a_wLow a_wHigh a_keeps a_value a_hole a_first a_second a_list a_keyColumn a_keyDown hx hb hml hown hts hK hN A hA hX hbl hbA hL i hi lb664 σ τ hR ls H locs hl hP hD hS
  · skip
    refine lv_tableIn (tgt := 628) (off := 585) hx hb d_Law_law_43 (by decide) (by decide) (by decide) rfl ?_
    exact lw_c14 l D cI cL cZ cW cR fr oF ta qo uo mo ma ro qw oko okc okd r0 v0 a0 b0 r1 v1 a1 b1 rL vL aL bL rK vK aK bK wo ko kc kd o a_size a_given a_holes a_test a_wFunction a_wArgument a_wNumber a_wPart a_wOrder a_wDown a_wRange a_wLow a_wHigh a_keeps a_value a_hole a_first a_second a_list a_keyColumn a_keyDown hx hb hml hown hts hK hN A hA hX hbl hbA hL i hi lb664 σ τ hR ls H locs hl hP hD hS
  · skip
    refine lv_tableIn (tgt := 641) (off := 598) hx hb d_Law_law_43 (by decide) (by decide) (by decide) rfl ?_
    exact lw_c15 l D cI cL cZ cW cR fr oF ta qo uo mo ma ro qw oko okc okd r0 v0 a0 b0 r1 v1 a1 b1 rL vL aL bL rK vK aK bK wo ko kc kd o a_size a_given a_holes a_test a_wFunction a_wArgument a_wNumber a_wPart a_wOrder a_wDown a_wRange a_wLow a_wHigh a_keeps a_value a_hole a_first a_second a_list a_keyColumn a_keyDown hx hb hml hown hts hK hN A hA hX hbl hbA hL i hi lb664 σ τ hR ls H locs hl hP hD hS
theorem lw_loop {p : Program} {e : Env} {s : State} {m : MethodId} {below : List Frame} {meth : Method} {c : Code} (l : Launch) (D : va_G) (cI cL cZ cW cR : ClassId) {b L : Nat} {xs : Nat → Int32} (fr : Nat) (oF ta qo uo mo ma ro qw oko okc okd r0 v0 a0 b0 r1 v1 a1 b1 rL vL aL bL rK vK aK bK : Nat) (wo ko kc kd : Nat → Nat) (o a_size a_given a_holes a_test a_wFunction a_wArgument a_wNumber a_wPart a_wOrder a_wDown a_wRange a_wLow a_wHigh a_keeps a_value a_hole a_first a_second a_list a_keyColumn a_keyDown : Nat) (hx : p.tables.exec = Jvm.exec) (hb : c.code = code) (hml : c.maxLocals = 4) (hown : s.vm.findClass R_Law = some m.cls) (hts : ∀ w ∈ zt, w.before #[Value.ref b] s = true) (hK : va_K D vwCl (zT cI cL cZ cW cR) s) (hN : zNs s) (A : Nat → Prop) (hA : ∀ q, s.heap.size ≤ q → A q) (hX : va_X b L xs s s.heap) (hbl : b < s.heap.size) (hbA : ¬ A b) (hL : L ≤ 3073) (hr : meth.sig.returnType = ret) (hlk : meth.locks = false) (hAe : ∀ q, A q → s.heap.size ≤ q) : ∀ (d i : Nat) (σ : cSta) (τ : mSta), i ≤ 3080 → L < i + d → LRel fr σ τ → ∀ (ls : Array Slot) (H : Heap) (locs : List Loc), lv_has ls 4 [(0, .ref b), (1, .ref oF), (2, .ref o), (3, .int (nI i))] → va_P D vwCl (LWd cI cL cZ cW cR fr oF ta qo uo mo ma ro qw oko okc okd r0 v0 a0 b0 r1 v1 a1 b1 rL vL aL bL rK vK aK bK wo ko kc kd o a_size a_given a_holes a_test a_wFunction a_wArgument a_wNumber a_wPart a_wOrder a_wDown a_wRange a_wLow a_wHigh a_keeps a_value a_hole a_first a_second a_list a_keyColumn a_keyDown σ τ) H → va_D A (LWd cI cL cZ cW cR fr oF ta qo uo mo ma ro qw oko okc okd r0 v0 a0 b0 r1 v1 a1 b1 rL vL aL bL rK vK aK bK wo ko kc kd o a_size a_given a_holes a_test a_wFunction a_wArgument a_wNumber a_wPart a_wOrder a_wDown a_wRange a_wLow a_wHigh a_keeps a_value a_hole a_first a_second a_list a_keyColumn a_keyDown σ τ) → va_S A s.heap H locs → W p l e room_1 s m #[Value.ref b] below meth c H locs 61 2780 (lw_Z below #[Value.ref b] s) (F0 m 28 ls []) := by
  intro d
  induction d with
  | zero =>
    intro i σ τ hi hd hR ls H locs hl hP hD hS
    exact lw_head l D cI cL cZ cW cR fr oF ta qo uo mo ma ro qw oko okc okd r0 v0 a0 b0 r1 v1 a1 b1 rL vL aL bL rK vK aK bK wo ko kc kd o a_size a_given a_holes a_test a_wFunction a_wArgument a_wNumber a_wPart a_wOrder a_wDown a_wRange a_wLow a_wHigh a_keeps a_value a_hole a_first a_second a_list a_keyColumn a_keyDown hx hb hml hown hts hK hN A hA hX hbl hbA hL hr hlk hAe i (by omega) ls H locs hl hS (fun q => absurd q (by omega))
  | succ d ih =>
    intro i σ τ hi hd hR ls H locs hl hP hD hS
    refine lw_head l D cI cL cZ cW cR fr oF ta qo uo mo ma ro qw oko okc okd r0 v0 a0 b0 r1 v1 a1 b1 rL vL aL bL rK vK aK bK wo ko kc kd o a_size a_given a_holes a_test a_wFunction a_wArgument a_wNumber a_wPart a_wOrder a_wDown a_wRange a_wLow a_wHigh a_keeps a_value a_hole a_first a_second a_list a_keyColumn a_keyDown hx hb hml hown hts hK hN A hA hX hbl hbA hL hr hlk hAe i (by omega) ls H locs hl hS (fun q => ?_)
    refine lw_body l D cI cL cZ cW cR fr oF ta qo uo mo ma ro qw oko okc okd r0 v0 a0 b0 r1 v1 a1 b1 rL vL aL bL rK vK aK bK wo ko kc kd o a_size a_given a_holes a_test a_wFunction a_wArgument a_wNumber a_wPart a_wOrder a_wDown a_wRange a_wLow a_wHigh a_keeps a_value a_hole a_first a_second a_list a_keyColumn a_keyDown hx hb hml hown hts hK hN A hA hX hbl hbA hL i q (fun σ τ hR ls H locs hl hP hD hS => ?_) σ τ hR ls H locs hl hP hD hS
    refine lv_iinc (k := 3) (v := nI (i + 6)) (lv' := [(3, .int (nI (i + 6))), (0, .ref b), (1, .ref oF), (2, .ref o)]) hx hb d_Law_law_664 hl rfl (nI_add i 6) (by decide) rfl (fun ls hl => ?_)
    refine lv_goto (tgt := 28) hx hb d_Law_law_667 rfl ?_
    exact ih (i + 6) σ τ (by omega) (by omega) hR ls H locs (lv_sub hl [1, 2, 3, 0] rfl) hP hD hS
