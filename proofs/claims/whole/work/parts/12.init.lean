theorem zk_a0i (n : Nat) (cA : ClassId) : vp_cell cA (n, .inl (zN (fun _ => 0))) = arrV cA n (fun _ => defaultValue .int) := congrArg (arrV cA n) (funext fun _ => congrArg Value.int nI_0)
theorem zk_a0l (n : Nat) (cA : ClassId) : vp_cell cA (n, .inr (.inl (fun _ => 0))) = arrV cA n (fun _ => defaultValue .long) := by
  show arrV cA n (fun _ => Value.long 0) = arrV cA n (fun _ => defaultValue .long)
  exact congrArg (arrV cA n) (funext fun _ => (show Value.long 0 = defaultValue .long from rfl))
theorem zk_a0z (n : Nat) (cA : ClassId) : vp_cell cA (n, .inl (zZ (fun _ => false))) = arrV cA n (fun _ => defaultValue .boolean) := congrArg (arrV cA n) (funext fun _ => congrArg Value.int zb_f)
abbrev rm1_20 : Room := { frames := 1, cells := 0, slots := 0, locals := 20 }
set_option maxHeartbeats 4000000 in
set_option maxRecDepth 100000 in
theorem c_Rows_init_24_3 (l : Launch) (D : va_G) (cI cL cZ cW cR : ClassId) (sz : Nat) (r : Nat) : Met l y_Rows_init ws_Rows_init ({ frames := 1, cells := 3, slots := 120, locals := 20 } : Room) (zPw D vwCl (zT cI cL cZ cW cR) [(r, .inr (0, [.int (nI 0), .null, .null, .null, .int (nI 0)]))] sz [.ref r, .int (nI 24), .int (nI 3)]) (zQv D vwCl (zT cI cL cZ cW cR) [(r, .inr (0, [.int (nI 0), .null, .null, .null, .int (nI 0)]))] sz (fun _ : Nat × Nat × Nat => True) (fun u => [(r, .inr (0, [.int (nI 3), .ref u.1, .ref u.2.1, .ref u.2.2, .int (nI 0)])), (u.1, .inl (cL, 72, .inr (.inl (fun _ => 0)))), (u.2.1, .inl (cI, 24, .inl (zN (fun _ => 0)))), (u.2.2, .inl (cI, 24, .inl (zN (fun _ => 0))))])) 3 120 (va_A [(r, .inr (0, [.int (nI 0), .null, .null, .null, .int (nI 0)]))] sz) := by
  refine zk_enterW (cc := b_Rows_init) (maxL := 3) (ret := none) (by decide) rfl (Nat.le_of_ble_eq_true rfl) ?_
  intro p e s m args below meth c ls Q hx hb hml hr hlk hown hts hP hK hN hl hin hsz A hAe hA hD hS hQ
  subst hsz
  have hl : lv_has ls 3 [(0, .ref r), (1, .int (nI 24)), (2, .int (nI 3))] := hl
  refine lv_aload_n hx hb d_Rows_init_0 rfl (lv_at hl 0 rfl) ?_
  refine W.objInit hx hb hown (hts _ (List.mem_cons_of_mem _ ml_Rows_3)) (hts _ (List.mem_cons_of_mem _ im_objinit)) (hts _ (List.mem_cons_of_mem _ co_objinit)) rfl (by rw [hml]; exact hl.1) rfl d_Rows_init_1 (Nat.le_of_ble_eq_true rfl) (Nat.le_of_ble_eq_true rfl) ?_
  refine W.eq (g2 := F0 m 4 ls []) rfl ?_
  refine lv_aload_n hx hb d_Rows_init_4 rfl (lv_at hl 0 rfl) ?_
  refine lv_iload_n hx hb d_Rows_init_5 rfl (lv_at hl 2 rfl) ?_
  refine va_putF (D := D) (v := .int (nI 3)) (ty := .int) (C := R_Rows) (T := F_Rows) (N := 5) hx hb hts (fun w h => List.mem_cons_of_mem _ (hin_Rows w h)) t_Rows t_Rows_ok n_Rows hown hK hP hD hS 0 rfl rfl 0 (by decide) (hts _ (List.mem_cons_of_mem _ fl_Rows_9)) (fun _ h => h) rfl hin rfl (by decide +kernel) rfl rfl (Nat.le_of_ble_eq_true rfl) d_Rows_init_6 (fun H locs hP hD hS => ?_)
  have hP : va_P D vwCl [(r, .inr (0, [.int (nI 3), .null, .null, .null, .int (nI 0)]))] H := hP
  have hD : va_D A [(r, .inr (0, [.int (nI 3), .null, .null, .null, .int (nI 0)]))] := hD
  refine lv_aload_n hx hb d_Rows_init_9 rfl (lv_at hl 0 rfl) ?_
  refine lv_iload_n hx hb d_Rows_init_10 rfl (lv_at hl 1 rfl) ?_
  refine lv_iload_n hx hb d_Rows_init_11 rfl (lv_at hl 2 rfl) ?_
  refine lv_imul hx hb d_Rows_init_12 ?_
  refine zk_topi (show ((nI 24) * (nI 3)) = nI 72 from rfl) ?_
  refine va_newa (atype := .long) (ty := .long) (N' := 72) (a0 := (72, .inr (.inl (fun _ => 0)))) hx hb (hts _ (List.mem_cons_of_mem _ ac_long)) rfl hK hP hD hS hA (zk_a0l _) (nI_pos (by omega)) (nI_clamp (by omega)) (Nat.le_of_ble_eq_true rfl) (Nat.le_of_ble_eq_true rfl) (Nat.le_of_ble_eq_true rfl) d_Rows_init_13 (fun q13 cA H hK2 hP hD hS => ?_)
  have hcA := zk_cA1 hK2
  subst hcA
  have hP : va_P D vwCl [(r, .inr (0, [.int (nI 3), .null, .null, .null, .int (nI 0)])), (q13, .inl (cL, 72, .inr (.inl (fun _ => 0))))] H := hP
  have hD : va_D A [(r, .inr (0, [.int (nI 3), .null, .null, .null, .int (nI 0)])), (q13, .inl (cL, 72, .inr (.inl (fun _ => 0))))] := hD
  refine va_putF (D := D) (v := .ref q13) (ty := .array .long) (C := R_Rows) (T := F_Rows) (N := 5) hx hb hts (fun w h => List.mem_cons_of_mem _ (hin_Rows w h)) t_Rows t_Rows_ok n_Rows hown hK hP hD hS 0 rfl rfl 1 (by decide) (hts _ (List.mem_cons_of_mem _ fl_Rows_15)) (fun _ h => h) rfl hin rfl (by decide +kernel) rfl rfl (Nat.le_of_ble_eq_true rfl) d_Rows_init_15 (fun H locs hP hD hS => ?_)
  have hP : va_P D vwCl [(r, .inr (0, [.int (nI 3), .ref q13, .null, .null, .int (nI 0)])), (q13, .inl (cL, 72, .inr (.inl (fun _ => 0))))] H := hP
  have hD : va_D A [(r, .inr (0, [.int (nI 3), .ref q13, .null, .null, .int (nI 0)])), (q13, .inl (cL, 72, .inr (.inl (fun _ => 0))))] := hD
  refine lv_aload_n hx hb d_Rows_init_18 rfl (lv_at hl 0 rfl) ?_
  refine lv_iload_n hx hb d_Rows_init_19 rfl (lv_at hl 1 rfl) ?_
  refine va_newa (atype := .int) (ty := .int) (N' := 24) (a0 := (24, .inl (zN (fun _ => 0)))) hx hb (hts _ (List.mem_cons_of_mem _ ac_int)) rfl hK hP hD hS hA (zk_a0i _) (nI_pos (by omega)) (nI_clamp (by omega)) (Nat.le_of_ble_eq_true rfl) (Nat.le_of_ble_eq_true rfl) (Nat.le_of_ble_eq_true rfl) d_Rows_init_20 (fun q20 cA H hK2 hP hD hS => ?_)
  have hcA := zk_cA0 hK2
  subst hcA
  have hP : va_P D vwCl [(r, .inr (0, [.int (nI 3), .ref q13, .null, .null, .int (nI 0)])), (q13, .inl (cL, 72, .inr (.inl (fun _ => 0)))), (q20, .inl (cI, 24, .inl (zN (fun _ => 0))))] H := hP
  have hD : va_D A [(r, .inr (0, [.int (nI 3), .ref q13, .null, .null, .int (nI 0)])), (q13, .inl (cL, 72, .inr (.inl (fun _ => 0)))), (q20, .inl (cI, 24, .inl (zN (fun _ => 0))))] := hD
  refine va_putF (D := D) (v := .ref q20) (ty := .array .int) (C := R_Rows) (T := F_Rows) (N := 5) hx hb hts (fun w h => List.mem_cons_of_mem _ (hin_Rows w h)) t_Rows t_Rows_ok n_Rows hown hK hP hD hS 0 rfl rfl 2 (by decide) (hts _ (List.mem_cons_of_mem _ fl_Rows_19)) (fun _ h => h) rfl hin rfl (by decide +kernel) rfl rfl (Nat.le_of_ble_eq_true rfl) d_Rows_init_22 (fun H locs hP hD hS => ?_)
  have hP : va_P D vwCl [(r, .inr (0, [.int (nI 3), .ref q13, .ref q20, .null, .int (nI 0)])), (q13, .inl (cL, 72, .inr (.inl (fun _ => 0)))), (q20, .inl (cI, 24, .inl (zN (fun _ => 0))))] H := hP
  have hD : va_D A [(r, .inr (0, [.int (nI 3), .ref q13, .ref q20, .null, .int (nI 0)])), (q13, .inl (cL, 72, .inr (.inl (fun _ => 0)))), (q20, .inl (cI, 24, .inl (zN (fun _ => 0))))] := hD
  refine lv_aload_n hx hb d_Rows_init_25 rfl (lv_at hl 0 rfl) ?_
  refine lv_iload_n hx hb d_Rows_init_26 rfl (lv_at hl 1 rfl) ?_
  refine va_newa (atype := .int) (ty := .int) (N' := 24) (a0 := (24, .inl (zN (fun _ => 0)))) hx hb (hts _ (List.mem_cons_of_mem _ ac_int)) rfl hK hP hD hS hA (zk_a0i _) (nI_pos (by omega)) (nI_clamp (by omega)) (Nat.le_of_ble_eq_true rfl) (Nat.le_of_ble_eq_true rfl) (Nat.le_of_ble_eq_true rfl) d_Rows_init_27 (fun q27 cA H hK2 hP hD hS => ?_)
  have hcA := zk_cA0 hK2
  subst hcA
  have hP : va_P D vwCl [(r, .inr (0, [.int (nI 3), .ref q13, .ref q20, .null, .int (nI 0)])), (q13, .inl (cL, 72, .inr (.inl (fun _ => 0)))), (q20, .inl (cI, 24, .inl (zN (fun _ => 0)))), (q27, .inl (cI, 24, .inl (zN (fun _ => 0))))] H := hP
  have hD : va_D A [(r, .inr (0, [.int (nI 3), .ref q13, .ref q20, .null, .int (nI 0)])), (q13, .inl (cL, 72, .inr (.inl (fun _ => 0)))), (q20, .inl (cI, 24, .inl (zN (fun _ => 0)))), (q27, .inl (cI, 24, .inl (zN (fun _ => 0))))] := hD
  refine va_putF (D := D) (v := .ref q27) (ty := .array .int) (C := R_Rows) (T := F_Rows) (N := 5) hx hb hts (fun w h => List.mem_cons_of_mem _ (hin_Rows w h)) t_Rows t_Rows_ok n_Rows hown hK hP hD hS 0 rfl rfl 3 (by decide) (hts _ (List.mem_cons_of_mem _ fl_Rows_23)) (fun _ h => h) rfl hin rfl (by decide +kernel) rfl rfl (Nat.le_of_ble_eq_true rfl) d_Rows_init_29 (fun H locs hP hD hS => ?_)
  have hP : va_P D vwCl [(r, .inr (0, [.int (nI 3), .ref q13, .ref q20, .ref q27, .int (nI 0)])), (q13, .inl (cL, 72, .inr (.inl (fun _ => 0)))), (q20, .inl (cI, 24, .inl (zN (fun _ => 0)))), (q27, .inl (cI, 24, .inl (zN (fun _ => 0))))] H := hP
  have hD : va_D A [(r, .inr (0, [.int (nI 3), .ref q13, .ref q20, .ref q27, .int (nI 0)])), (q13, .inl (cL, 72, .inr (.inl (fun _ => 0)))), (q20, .inl (cI, 24, .inl (zN (fun _ => 0)))), (q27, .inl (cI, 24, .inl (zN (fun _ => 0))))] := hD
  exact zk_vretW hx hb hr hlk hAe hQ hK ((q13, q20, q27)) (trivial) hP hD hS d_Rows_init_32
set_option maxHeartbeats 4000000 in
set_option maxRecDepth 100000 in
theorem c_Rows_init_60_10 (l : Launch) (D : va_G) (cI cL cZ cW cR : ClassId) (sz : Nat) (r : Nat) : Met l y_Rows_init ws_Rows_init ({ frames := 1, cells := 3, slots := 720, locals := 20 } : Room) (zPw D vwCl (zT cI cL cZ cW cR) [(r, .inr (0, [.int (nI 0), .null, .null, .null, .int (nI 0)]))] sz [.ref r, .int (nI 60), .int (nI 10)]) (zQv D vwCl (zT cI cL cZ cW cR) [(r, .inr (0, [.int (nI 0), .null, .null, .null, .int (nI 0)]))] sz (fun _ : Nat × Nat × Nat => True) (fun u => [(r, .inr (0, [.int (nI 10), .ref u.1, .ref u.2.1, .ref u.2.2, .int (nI 0)])), (u.1, .inl (cL, 600, .inr (.inl (fun _ => 0)))), (u.2.1, .inl (cI, 60, .inl (zN (fun _ => 0)))), (u.2.2, .inl (cI, 60, .inl (zN (fun _ => 0))))])) 3 720 (va_A [(r, .inr (0, [.int (nI 0), .null, .null, .null, .int (nI 0)]))] sz) := by
  refine zk_enterW (cc := b_Rows_init) (maxL := 3) (ret := none) (by decide) rfl (Nat.le_of_ble_eq_true rfl) ?_
  intro p e s m args below meth c ls Q hx hb hml hr hlk hown hts hP hK hN hl hin hsz A hAe hA hD hS hQ
  subst hsz
  have hl : lv_has ls 3 [(0, .ref r), (1, .int (nI 60)), (2, .int (nI 10))] := hl
  refine lv_aload_n hx hb d_Rows_init_0 rfl (lv_at hl 0 rfl) ?_
  refine W.objInit hx hb hown (hts _ (List.mem_cons_of_mem _ ml_Rows_3)) (hts _ (List.mem_cons_of_mem _ im_objinit)) (hts _ (List.mem_cons_of_mem _ co_objinit)) rfl (by rw [hml]; exact hl.1) rfl d_Rows_init_1 (Nat.le_of_ble_eq_true rfl) (Nat.le_of_ble_eq_true rfl) ?_
  refine W.eq (g2 := F0 m 4 ls []) rfl ?_
  refine lv_aload_n hx hb d_Rows_init_4 rfl (lv_at hl 0 rfl) ?_
  refine lv_iload_n hx hb d_Rows_init_5 rfl (lv_at hl 2 rfl) ?_
  refine va_putF (D := D) (v := .int (nI 10)) (ty := .int) (C := R_Rows) (T := F_Rows) (N := 5) hx hb hts (fun w h => List.mem_cons_of_mem _ (hin_Rows w h)) t_Rows t_Rows_ok n_Rows hown hK hP hD hS 0 rfl rfl 0 (by decide) (hts _ (List.mem_cons_of_mem _ fl_Rows_9)) (fun _ h => h) rfl hin rfl (by decide +kernel) rfl rfl (Nat.le_of_ble_eq_true rfl) d_Rows_init_6 (fun H locs hP hD hS => ?_)
  have hP : va_P D vwCl [(r, .inr (0, [.int (nI 10), .null, .null, .null, .int (nI 0)]))] H := hP
  have hD : va_D A [(r, .inr (0, [.int (nI 10), .null, .null, .null, .int (nI 0)]))] := hD
  refine lv_aload_n hx hb d_Rows_init_9 rfl (lv_at hl 0 rfl) ?_
  refine lv_iload_n hx hb d_Rows_init_10 rfl (lv_at hl 1 rfl) ?_
  refine lv_iload_n hx hb d_Rows_init_11 rfl (lv_at hl 2 rfl) ?_
  refine lv_imul hx hb d_Rows_init_12 ?_
  refine zk_topi (show ((nI 60) * (nI 10)) = nI 600 from rfl) ?_
  refine va_newa (atype := .long) (ty := .long) (N' := 600) (a0 := (600, .inr (.inl (fun _ => 0)))) hx hb (hts _ (List.mem_cons_of_mem _ ac_long)) rfl hK hP hD hS hA (zk_a0l _) (nI_pos (by omega)) (nI_clamp (by omega)) (Nat.le_of_ble_eq_true rfl) (Nat.le_of_ble_eq_true rfl) (Nat.le_of_ble_eq_true rfl) d_Rows_init_13 (fun q13 cA H hK2 hP hD hS => ?_)
  have hcA := zk_cA1 hK2
  subst hcA
  have hP : va_P D vwCl [(r, .inr (0, [.int (nI 10), .null, .null, .null, .int (nI 0)])), (q13, .inl (cL, 600, .inr (.inl (fun _ => 0))))] H := hP
  have hD : va_D A [(r, .inr (0, [.int (nI 10), .null, .null, .null, .int (nI 0)])), (q13, .inl (cL, 600, .inr (.inl (fun _ => 0))))] := hD
  refine va_putF (D := D) (v := .ref q13) (ty := .array .long) (C := R_Rows) (T := F_Rows) (N := 5) hx hb hts (fun w h => List.mem_cons_of_mem _ (hin_Rows w h)) t_Rows t_Rows_ok n_Rows hown hK hP hD hS 0 rfl rfl 1 (by decide) (hts _ (List.mem_cons_of_mem _ fl_Rows_15)) (fun _ h => h) rfl hin rfl (by decide +kernel) rfl rfl (Nat.le_of_ble_eq_true rfl) d_Rows_init_15 (fun H locs hP hD hS => ?_)
  have hP : va_P D vwCl [(r, .inr (0, [.int (nI 10), .ref q13, .null, .null, .int (nI 0)])), (q13, .inl (cL, 600, .inr (.inl (fun _ => 0))))] H := hP
  have hD : va_D A [(r, .inr (0, [.int (nI 10), .ref q13, .null, .null, .int (nI 0)])), (q13, .inl (cL, 600, .inr (.inl (fun _ => 0))))] := hD
  refine lv_aload_n hx hb d_Rows_init_18 rfl (lv_at hl 0 rfl) ?_
  refine lv_iload_n hx hb d_Rows_init_19 rfl (lv_at hl 1 rfl) ?_
  refine va_newa (atype := .int) (ty := .int) (N' := 60) (a0 := (60, .inl (zN (fun _ => 0)))) hx hb (hts _ (List.mem_cons_of_mem _ ac_int)) rfl hK hP hD hS hA (zk_a0i _) (nI_pos (by omega)) (nI_clamp (by omega)) (Nat.le_of_ble_eq_true rfl) (Nat.le_of_ble_eq_true rfl) (Nat.le_of_ble_eq_true rfl) d_Rows_init_20 (fun q20 cA H hK2 hP hD hS => ?_)
  have hcA := zk_cA0 hK2
  subst hcA
  have hP : va_P D vwCl [(r, .inr (0, [.int (nI 10), .ref q13, .null, .null, .int (nI 0)])), (q13, .inl (cL, 600, .inr (.inl (fun _ => 0)))), (q20, .inl (cI, 60, .inl (zN (fun _ => 0))))] H := hP
  have hD : va_D A [(r, .inr (0, [.int (nI 10), .ref q13, .null, .null, .int (nI 0)])), (q13, .inl (cL, 600, .inr (.inl (fun _ => 0)))), (q20, .inl (cI, 60, .inl (zN (fun _ => 0))))] := hD
  refine va_putF (D := D) (v := .ref q20) (ty := .array .int) (C := R_Rows) (T := F_Rows) (N := 5) hx hb hts (fun w h => List.mem_cons_of_mem _ (hin_Rows w h)) t_Rows t_Rows_ok n_Rows hown hK hP hD hS 0 rfl rfl 2 (by decide) (hts _ (List.mem_cons_of_mem _ fl_Rows_19)) (fun _ h => h) rfl hin rfl (by decide +kernel) rfl rfl (Nat.le_of_ble_eq_true rfl) d_Rows_init_22 (fun H locs hP hD hS => ?_)
  have hP : va_P D vwCl [(r, .inr (0, [.int (nI 10), .ref q13, .ref q20, .null, .int (nI 0)])), (q13, .inl (cL, 600, .inr (.inl (fun _ => 0)))), (q20, .inl (cI, 60, .inl (zN (fun _ => 0))))] H := hP
  have hD : va_D A [(r, .inr (0, [.int (nI 10), .ref q13, .ref q20, .null, .int (nI 0)])), (q13, .inl (cL, 600, .inr (.inl (fun _ => 0)))), (q20, .inl (cI, 60, .inl (zN (fun _ => 0))))] := hD
  refine lv_aload_n hx hb d_Rows_init_25 rfl (lv_at hl 0 rfl) ?_
  refine lv_iload_n hx hb d_Rows_init_26 rfl (lv_at hl 1 rfl) ?_
  refine va_newa (atype := .int) (ty := .int) (N' := 60) (a0 := (60, .inl (zN (fun _ => 0)))) hx hb (hts _ (List.mem_cons_of_mem _ ac_int)) rfl hK hP hD hS hA (zk_a0i _) (nI_pos (by omega)) (nI_clamp (by omega)) (Nat.le_of_ble_eq_true rfl) (Nat.le_of_ble_eq_true rfl) (Nat.le_of_ble_eq_true rfl) d_Rows_init_27 (fun q27 cA H hK2 hP hD hS => ?_)
  have hcA := zk_cA0 hK2
  subst hcA
  have hP : va_P D vwCl [(r, .inr (0, [.int (nI 10), .ref q13, .ref q20, .null, .int (nI 0)])), (q13, .inl (cL, 600, .inr (.inl (fun _ => 0)))), (q20, .inl (cI, 60, .inl (zN (fun _ => 0)))), (q27, .inl (cI, 60, .inl (zN (fun _ => 0))))] H := hP
  have hD : va_D A [(r, .inr (0, [.int (nI 10), .ref q13, .ref q20, .null, .int (nI 0)])), (q13, .inl (cL, 600, .inr (.inl (fun _ => 0)))), (q20, .inl (cI, 60, .inl (zN (fun _ => 0)))), (q27, .inl (cI, 60, .inl (zN (fun _ => 0))))] := hD
  refine va_putF (D := D) (v := .ref q27) (ty := .array .int) (C := R_Rows) (T := F_Rows) (N := 5) hx hb hts (fun w h => List.mem_cons_of_mem _ (hin_Rows w h)) t_Rows t_Rows_ok n_Rows hown hK hP hD hS 0 rfl rfl 3 (by decide) (hts _ (List.mem_cons_of_mem _ fl_Rows_23)) (fun _ h => h) rfl hin rfl (by decide +kernel) rfl rfl (Nat.le_of_ble_eq_true rfl) d_Rows_init_29 (fun H locs hP hD hS => ?_)
  have hP : va_P D vwCl [(r, .inr (0, [.int (nI 10), .ref q13, .ref q20, .ref q27, .int (nI 0)])), (q13, .inl (cL, 600, .inr (.inl (fun _ => 0)))), (q20, .inl (cI, 60, .inl (zN (fun _ => 0)))), (q27, .inl (cI, 60, .inl (zN (fun _ => 0))))] H := hP
  have hD : va_D A [(r, .inr (0, [.int (nI 10), .ref q13, .ref q20, .ref q27, .int (nI 0)])), (q13, .inl (cL, 600, .inr (.inl (fun _ => 0)))), (q20, .inl (cI, 60, .inl (zN (fun _ => 0)))), (q27, .inl (cI, 60, .inl (zN (fun _ => 0))))] := hD
  exact zk_vretW hx hb hr hlk hAe hQ hK ((q13, q20, q27)) (trivial) hP hD hS d_Rows_init_32
set_option maxHeartbeats 4000000 in
set_option maxRecDepth 100000 in
theorem c_Rows_init_24_4 (l : Launch) (D : va_G) (cI cL cZ cW cR : ClassId) (sz : Nat) (r : Nat) : Met l y_Rows_init ws_Rows_init ({ frames := 1, cells := 3, slots := 144, locals := 20 } : Room) (zPw D vwCl (zT cI cL cZ cW cR) [(r, .inr (0, [.int (nI 0), .null, .null, .null, .int (nI 0)]))] sz [.ref r, .int (nI 24), .int (nI 4)]) (zQv D vwCl (zT cI cL cZ cW cR) [(r, .inr (0, [.int (nI 0), .null, .null, .null, .int (nI 0)]))] sz (fun _ : Nat × Nat × Nat => True) (fun u => [(r, .inr (0, [.int (nI 4), .ref u.1, .ref u.2.1, .ref u.2.2, .int (nI 0)])), (u.1, .inl (cL, 96, .inr (.inl (fun _ => 0)))), (u.2.1, .inl (cI, 24, .inl (zN (fun _ => 0)))), (u.2.2, .inl (cI, 24, .inl (zN (fun _ => 0))))])) 3 144 (va_A [(r, .inr (0, [.int (nI 0), .null, .null, .null, .int (nI 0)]))] sz) := by
  refine zk_enterW (cc := b_Rows_init) (maxL := 3) (ret := none) (by decide) rfl (Nat.le_of_ble_eq_true rfl) ?_
  intro p e s m args below meth c ls Q hx hb hml hr hlk hown hts hP hK hN hl hin hsz A hAe hA hD hS hQ
  subst hsz
  have hl : lv_has ls 3 [(0, .ref r), (1, .int (nI 24)), (2, .int (nI 4))] := hl
  refine lv_aload_n hx hb d_Rows_init_0 rfl (lv_at hl 0 rfl) ?_
  refine W.objInit hx hb hown (hts _ (List.mem_cons_of_mem _ ml_Rows_3)) (hts _ (List.mem_cons_of_mem _ im_objinit)) (hts _ (List.mem_cons_of_mem _ co_objinit)) rfl (by rw [hml]; exact hl.1) rfl d_Rows_init_1 (Nat.le_of_ble_eq_true rfl) (Nat.le_of_ble_eq_true rfl) ?_
  refine W.eq (g2 := F0 m 4 ls []) rfl ?_
  refine lv_aload_n hx hb d_Rows_init_4 rfl (lv_at hl 0 rfl) ?_
  refine lv_iload_n hx hb d_Rows_init_5 rfl (lv_at hl 2 rfl) ?_
  refine va_putF (D := D) (v := .int (nI 4)) (ty := .int) (C := R_Rows) (T := F_Rows) (N := 5) hx hb hts (fun w h => List.mem_cons_of_mem _ (hin_Rows w h)) t_Rows t_Rows_ok n_Rows hown hK hP hD hS 0 rfl rfl 0 (by decide) (hts _ (List.mem_cons_of_mem _ fl_Rows_9)) (fun _ h => h) rfl hin rfl (by decide +kernel) rfl rfl (Nat.le_of_ble_eq_true rfl) d_Rows_init_6 (fun H locs hP hD hS => ?_)
  have hP : va_P D vwCl [(r, .inr (0, [.int (nI 4), .null, .null, .null, .int (nI 0)]))] H := hP
  have hD : va_D A [(r, .inr (0, [.int (nI 4), .null, .null, .null, .int (nI 0)]))] := hD
  refine lv_aload_n hx hb d_Rows_init_9 rfl (lv_at hl 0 rfl) ?_
  refine lv_iload_n hx hb d_Rows_init_10 rfl (lv_at hl 1 rfl) ?_
  refine lv_iload_n hx hb d_Rows_init_11 rfl (lv_at hl 2 rfl) ?_
  refine lv_imul hx hb d_Rows_init_12 ?_
  refine zk_topi (show ((nI 24) * (nI 4)) = nI 96 from rfl) ?_
  refine va_newa (atype := .long) (ty := .long) (N' := 96) (a0 := (96, .inr (.inl (fun _ => 0)))) hx hb (hts _ (List.mem_cons_of_mem _ ac_long)) rfl hK hP hD hS hA (zk_a0l _) (nI_pos (by omega)) (nI_clamp (by omega)) (Nat.le_of_ble_eq_true rfl) (Nat.le_of_ble_eq_true rfl) (Nat.le_of_ble_eq_true rfl) d_Rows_init_13 (fun q13 cA H hK2 hP hD hS => ?_)
  have hcA := zk_cA1 hK2
  subst hcA
  have hP : va_P D vwCl [(r, .inr (0, [.int (nI 4), .null, .null, .null, .int (nI 0)])), (q13, .inl (cL, 96, .inr (.inl (fun _ => 0))))] H := hP
  have hD : va_D A [(r, .inr (0, [.int (nI 4), .null, .null, .null, .int (nI 0)])), (q13, .inl (cL, 96, .inr (.inl (fun _ => 0))))] := hD
  refine va_putF (D := D) (v := .ref q13) (ty := .array .long) (C := R_Rows) (T := F_Rows) (N := 5) hx hb hts (fun w h => List.mem_cons_of_mem _ (hin_Rows w h)) t_Rows t_Rows_ok n_Rows hown hK hP hD hS 0 rfl rfl 1 (by decide) (hts _ (List.mem_cons_of_mem _ fl_Rows_15)) (fun _ h => h) rfl hin rfl (by decide +kernel) rfl rfl (Nat.le_of_ble_eq_true rfl) d_Rows_init_15 (fun H locs hP hD hS => ?_)
  have hP : va_P D vwCl [(r, .inr (0, [.int (nI 4), .ref q13, .null, .null, .int (nI 0)])), (q13, .inl (cL, 96, .inr (.inl (fun _ => 0))))] H := hP
  have hD : va_D A [(r, .inr (0, [.int (nI 4), .ref q13, .null, .null, .int (nI 0)])), (q13, .inl (cL, 96, .inr (.inl (fun _ => 0))))] := hD
  refine lv_aload_n hx hb d_Rows_init_18 rfl (lv_at hl 0 rfl) ?_
  refine lv_iload_n hx hb d_Rows_init_19 rfl (lv_at hl 1 rfl) ?_
  refine va_newa (atype := .int) (ty := .int) (N' := 24) (a0 := (24, .inl (zN (fun _ => 0)))) hx hb (hts _ (List.mem_cons_of_mem _ ac_int)) rfl hK hP hD hS hA (zk_a0i _) (nI_pos (by omega)) (nI_clamp (by omega)) (Nat.le_of_ble_eq_true rfl) (Nat.le_of_ble_eq_true rfl) (Nat.le_of_ble_eq_true rfl) d_Rows_init_20 (fun q20 cA H hK2 hP hD hS => ?_)
  have hcA := zk_cA0 hK2
  subst hcA
  have hP : va_P D vwCl [(r, .inr (0, [.int (nI 4), .ref q13, .null, .null, .int (nI 0)])), (q13, .inl (cL, 96, .inr (.inl (fun _ => 0)))), (q20, .inl (cI, 24, .inl (zN (fun _ => 0))))] H := hP
  have hD : va_D A [(r, .inr (0, [.int (nI 4), .ref q13, .null, .null, .int (nI 0)])), (q13, .inl (cL, 96, .inr (.inl (fun _ => 0)))), (q20, .inl (cI, 24, .inl (zN (fun _ => 0))))] := hD
  refine va_putF (D := D) (v := .ref q20) (ty := .array .int) (C := R_Rows) (T := F_Rows) (N := 5) hx hb hts (fun w h => List.mem_cons_of_mem _ (hin_Rows w h)) t_Rows t_Rows_ok n_Rows hown hK hP hD hS 0 rfl rfl 2 (by decide) (hts _ (List.mem_cons_of_mem _ fl_Rows_19)) (fun _ h => h) rfl hin rfl (by decide +kernel) rfl rfl (Nat.le_of_ble_eq_true rfl) d_Rows_init_22 (fun H locs hP hD hS => ?_)
  have hP : va_P D vwCl [(r, .inr (0, [.int (nI 4), .ref q13, .ref q20, .null, .int (nI 0)])), (q13, .inl (cL, 96, .inr (.inl (fun _ => 0)))), (q20, .inl (cI, 24, .inl (zN (fun _ => 0))))] H := hP
  have hD : va_D A [(r, .inr (0, [.int (nI 4), .ref q13, .ref q20, .null, .int (nI 0)])), (q13, .inl (cL, 96, .inr (.inl (fun _ => 0)))), (q20, .inl (cI, 24, .inl (zN (fun _ => 0))))] := hD
  refine lv_aload_n hx hb d_Rows_init_25 rfl (lv_at hl 0 rfl) ?_
  refine lv_iload_n hx hb d_Rows_init_26 rfl (lv_at hl 1 rfl) ?_
  refine va_newa (atype := .int) (ty := .int) (N' := 24) (a0 := (24, .inl (zN (fun _ => 0)))) hx hb (hts _ (List.mem_cons_of_mem _ ac_int)) rfl hK hP hD hS hA (zk_a0i _) (nI_pos (by omega)) (nI_clamp (by omega)) (Nat.le_of_ble_eq_true rfl) (Nat.le_of_ble_eq_true rfl) (Nat.le_of_ble_eq_true rfl) d_Rows_init_27 (fun q27 cA H hK2 hP hD hS => ?_)
  have hcA := zk_cA0 hK2
  subst hcA
  have hP : va_P D vwCl [(r, .inr (0, [.int (nI 4), .ref q13, .ref q20, .null, .int (nI 0)])), (q13, .inl (cL, 96, .inr (.inl (fun _ => 0)))), (q20, .inl (cI, 24, .inl (zN (fun _ => 0)))), (q27, .inl (cI, 24, .inl (zN (fun _ => 0))))] H := hP
  have hD : va_D A [(r, .inr (0, [.int (nI 4), .ref q13, .ref q20, .null, .int (nI 0)])), (q13, .inl (cL, 96, .inr (.inl (fun _ => 0)))), (q20, .inl (cI, 24, .inl (zN (fun _ => 0)))), (q27, .inl (cI, 24, .inl (zN (fun _ => 0))))] := hD
  refine va_putF (D := D) (v := .ref q27) (ty := .array .int) (C := R_Rows) (T := F_Rows) (N := 5) hx hb hts (fun w h => List.mem_cons_of_mem _ (hin_Rows w h)) t_Rows t_Rows_ok n_Rows hown hK hP hD hS 0 rfl rfl 3 (by decide) (hts _ (List.mem_cons_of_mem _ fl_Rows_23)) (fun _ h => h) rfl hin rfl (by decide +kernel) rfl rfl (Nat.le_of_ble_eq_true rfl) d_Rows_init_29 (fun H locs hP hD hS => ?_)
  have hP : va_P D vwCl [(r, .inr (0, [.int (nI 4), .ref q13, .ref q20, .ref q27, .int (nI 0)])), (q13, .inl (cL, 96, .inr (.inl (fun _ => 0)))), (q20, .inl (cI, 24, .inl (zN (fun _ => 0)))), (q27, .inl (cI, 24, .inl (zN (fun _ => 0))))] H := hP
  have hD : va_D A [(r, .inr (0, [.int (nI 4), .ref q13, .ref q20, .ref q27, .int (nI 0)])), (q13, .inl (cL, 96, .inr (.inl (fun _ => 0)))), (q20, .inl (cI, 24, .inl (zN (fun _ => 0)))), (q27, .inl (cI, 24, .inl (zN (fun _ => 0))))] := hD
  exact zk_vretW hx hb hr hlk hAe hQ hK ((q13, q20, q27)) (trivial) hP hD hS d_Rows_init_32
set_option maxHeartbeats 4000000 in
set_option maxRecDepth 100000 in
theorem c_Keys_init (l : Launch) (D : va_G) (cI cL cZ cW cR : ClassId) (sz : Nat) (ko : Nat) : Met l y_Keys_init ws_Keys_init ({ frames := 1, cells := 2, slots := 4, locals := 20 } : Room) (zPw D vwCl (zT cI cL cZ cW cR) [(ko, .inr (1, [.null, .null, .int (nI 0)]))] sz [.ref ko]) (zQv D vwCl (zT cI cL cZ cW cR) [(ko, .inr (1, [.null, .null, .int (nI 0)]))] sz (fun _ : Nat × Nat => True) (fun u => [(ko, .inr (1, [.ref u.1, .ref u.2, .int (nI 0)])), (u.1, .inl (cI, 2, .inl (zN (fun _ => 0)))), (u.2, .inl (cZ, 2, .inl (zZ (fun _ => false))))])) 2 4 (va_A [(ko, .inr (1, [.null, .null, .int (nI 0)]))] sz) := by
  refine zk_enterW (cc := b_Keys_init) (maxL := 1) (ret := none) (by decide) rfl (Nat.le_of_ble_eq_true rfl) ?_
  intro p e s m args below meth c ls Q hx hb hml hr hlk hown hts hP hK hN hl hin hsz A hAe hA hD hS hQ
  subst hsz
  have hl : lv_has ls 1 [(0, .ref ko)] := hl
  refine lv_aload_n hx hb d_Keys_init_0 rfl (lv_at hl 0 rfl) ?_
  refine W.objInit hx hb hown (hts _ (List.mem_cons_of_mem _ ml_Keys_1)) (hts _ (List.mem_cons_of_mem _ im_objinit)) (hts _ (List.mem_cons_of_mem _ co_objinit)) rfl (by rw [hml]; exact hl.1) rfl d_Keys_init_1 (Nat.le_of_ble_eq_true rfl) (Nat.le_of_ble_eq_true rfl) ?_
  refine W.eq (g2 := F0 m 4 ls []) rfl ?_
  refine lv_aload_n hx hb d_Keys_init_4 rfl (lv_at hl 0 rfl) ?_
  refine lv_iconst (v := nI 2) hx hb d_Keys_init_5 (by decide) ?_
  refine va_newa (atype := .int) (ty := .int) (N' := 2) (a0 := (2, .inl (zN (fun _ => 0)))) hx hb (hts _ (List.mem_cons_of_mem _ ac_int)) rfl hK hP hD hS hA (zk_a0i _) (nI_pos (by omega)) (nI_clamp (by omega)) (Nat.le_of_ble_eq_true rfl) (Nat.le_of_ble_eq_true rfl) (Nat.le_of_ble_eq_true rfl) d_Keys_init_6 (fun q6 cA H hK2 hP hD hS => ?_)
  have hcA := zk_cA0 hK2
  subst hcA
  have hP : va_P D vwCl [(ko, .inr (1, [.null, .null, .int (nI 0)])), (q6, .inl (cI, 2, .inl (zN (fun _ => 0))))] H := hP
  have hD : va_D A [(ko, .inr (1, [.null, .null, .int (nI 0)])), (q6, .inl (cI, 2, .inl (zN (fun _ => 0))))] := hD
  refine va_putF (D := D) (v := .ref q6) (ty := .array .int) (C := R_Keys) (T := F_Keys) (N := 3) hx hb hts (fun w h => List.mem_cons_of_mem _ (hin_Keys w h)) t_Keys t_Keys_ok n_Keys hown hK hP hD hS 0 rfl rfl 0 (by decide) (hts _ (List.mem_cons_of_mem _ fl_Keys_9)) (fun _ h => h) rfl hin rfl (by decide +kernel) rfl rfl (Nat.le_of_ble_eq_true rfl) d_Keys_init_8 (fun H locs hP hD hS => ?_)
  have hP : va_P D vwCl [(ko, .inr (1, [.ref q6, .null, .int (nI 0)])), (q6, .inl (cI, 2, .inl (zN (fun _ => 0))))] H := hP
  have hD : va_D A [(ko, .inr (1, [.ref q6, .null, .int (nI 0)])), (q6, .inl (cI, 2, .inl (zN (fun _ => 0))))] := hD
  refine lv_aload_n hx hb d_Keys_init_11 rfl (lv_at hl 0 rfl) ?_
  refine lv_iconst (v := nI 2) hx hb d_Keys_init_12 (by decide) ?_
  refine va_newa (atype := .boolean) (ty := .boolean) (N' := 2) (a0 := (2, .inl (zZ (fun _ => false)))) hx hb (hts _ (List.mem_cons_of_mem _ ac_boolean)) rfl hK hP hD hS hA (zk_a0z _) (nI_pos (by omega)) (nI_clamp (by omega)) (Nat.le_of_ble_eq_true rfl) (Nat.le_of_ble_eq_true rfl) (Nat.le_of_ble_eq_true rfl) d_Keys_init_13 (fun q13 cA H hK2 hP hD hS => ?_)
  have hcA := zk_cA2 hK2
  subst hcA
  have hP : va_P D vwCl [(ko, .inr (1, [.ref q6, .null, .int (nI 0)])), (q6, .inl (cI, 2, .inl (zN (fun _ => 0)))), (q13, .inl (cZ, 2, .inl (zZ (fun _ => false))))] H := hP
  have hD : va_D A [(ko, .inr (1, [.ref q6, .null, .int (nI 0)])), (q6, .inl (cI, 2, .inl (zN (fun _ => 0)))), (q13, .inl (cZ, 2, .inl (zZ (fun _ => false))))] := hD
  refine va_putF (D := D) (v := .ref q13) (ty := .array .boolean) (C := R_Keys) (T := F_Keys) (N := 3) hx hb hts (fun w h => List.mem_cons_of_mem _ (hin_Keys w h)) t_Keys t_Keys_ok n_Keys hown hK hP hD hS 0 rfl rfl 1 (by decide) (hts _ (List.mem_cons_of_mem _ fl_Keys_13)) (fun _ h => h) rfl hin rfl (by decide +kernel) rfl rfl (Nat.le_of_ble_eq_true rfl) d_Keys_init_15 (fun H locs hP hD hS => ?_)
  have hP : va_P D vwCl [(ko, .inr (1, [.ref q6, .ref q13, .int (nI 0)])), (q6, .inl (cI, 2, .inl (zN (fun _ => 0)))), (q13, .inl (cZ, 2, .inl (zZ (fun _ => false))))] H := hP
  have hD : va_D A [(ko, .inr (1, [.ref q6, .ref q13, .int (nI 0)])), (q6, .inl (cI, 2, .inl (zN (fun _ => 0)))), (q13, .inl (cZ, 2, .inl (zZ (fun _ => false))))] := hD
  exact zk_vretW hx hb hr hlk hAe hQ hK ((q6, q13)) (trivial) hP hD hS d_Keys_init_18
set_option maxHeartbeats 4000000 in
set_option maxRecDepth 100000 in
theorem c_Window_init (l : Launch) (D : va_G) (cI cL cZ cW cR : ClassId) (sz : Nat) (wo : Nat) : Met l y_Window_init ws_Window_init ({ frames := 2, cells := 3, slots := 7, locals := 50 } : Room) (zPw D vwCl (zT cI cL cZ cW cR) [(wo, .inr (2, [.null, .int (nI 0), .int (nI 0), .int (nI 0), .int (nI 0), .int (nI 0), .int (zb false), .int (zb false), .int (nI 0), .int (nI 0)]))] sz [.ref wo]) (zQv D vwCl (zT cI cL cZ cW cR) [(wo, .inr (2, [.null, .int (nI 0), .int (nI 0), .int (nI 0), .int (nI 0), .int (nI 0), .int (zb false), .int (zb false), .int (nI 0), .int (nI 0)]))] sz (fun _ : Nat × Nat × Nat => True) (fun u => [(wo, .inr (2, [.ref u.1, .int (nI 0), .int (nI 0), .int (nI 1), .int (-1), .int (-1), .int (zb false), .int (zb false), .int (-10), .int (nI 10)])), (u.1, .inr (1, [.ref u.2.1, .ref u.2.2, .int (nI 0)])), (u.2.1, .inl (cI, 2, .inl (zN (fun _ => 0)))), (u.2.2, .inl (cZ, 2, .inl (zZ (fun _ => false))))])) 3 7 (va_A [(wo, .inr (2, [.null, .int (nI 0), .int (nI 0), .int (nI 0), .int (nI 0), .int (nI 0), .int (zb false), .int (zb false), .int (nI 0), .int (nI 0)]))] sz) := by
  refine zk_enterW (cc := b_Window_init) (maxL := 1) (ret := none) (by decide) rfl (Nat.le_of_ble_eq_true rfl) ?_
  intro p e s m args below meth c ls Q hx hb hml hr hlk hown hts hP hK hN hl hin hsz A hAe hA hD hS hQ
  subst hsz
  have hl : lv_has ls 1 [(0, .ref wo)] := hl
  refine lv_aload_n hx hb d_Window_init_0 rfl (lv_at hl 0 rfl) ?_
  refine W.objInit hx hb hown (hts _ (List.mem_cons_of_mem _ ml_Window_3)) (hts _ (List.mem_cons_of_mem _ im_objinit)) (hts _ (List.mem_cons_of_mem _ co_objinit)) rfl (by rw [hml]; exact hl.1) rfl d_Window_init_1 (Nat.le_of_ble_eq_true rfl) (Nat.le_of_ble_eq_true rfl) ?_
  refine W.eq (g2 := F0 m 4 ls []) rfl ?_
  refine lv_aload_n hx hb d_Window_init_4 rfl (lv_at hl 0 rfl) ?_
  refine va_new (ci := 1) (fs := [.null, .null, .int (nI 0)]) (C := R_Keys) (T := F_Keys) (N := 3) hx hb hts (fun w h => List.mem_cons_of_mem _ (hin_Keys w h)) t_Keys t_Keys_ok hown (hts _ (List.mem_cons_of_mem _ cl_Window_9)) (hts _ (List.mem_cons_of_mem _ it_Keys)) (hts _ (List.mem_cons_of_mem _ in_Keys)) hK hP hD hS hA rfl (fun j hj => match j, hj with | 0, _ => rfl | 1, _ => rfl | 2, _ => rfl | _ + 3, h => absurd h (by omega)) (Nat.le_of_ble_eq_true rfl) (Nat.le_of_ble_eq_true rfl) d_Window_init_5 (fun q5 H hP hD hS => ?_)
  have hP : va_P D vwCl [(wo, .inr (2, [.null, .int (nI 0), .int (nI 0), .int (nI 0), .int (nI 0), .int (nI 0), .int (zb false), .int (zb false), .int (nI 0), .int (nI 0)])), (q5, .inr (1, [.null, .null, .int (nI 0)]))] H := hP
  have hD : va_D A [(wo, .inr (2, [.null, .int (nI 0), .int (nI 0), .int (nI 0), .int (nI 0), .int (nI 0), .int (zb false), .int (zb false), .int (nI 0), .int (nI 0)])), (q5, .inr (1, [.null, .null, .int (nI 0)]))] := hD
  refine lv_dup hx hb d_Window_init_8 rfl ?_
  have hPc := hP.sub (ws' := [(q5, .inr (1, [.null, .null, .int (nI 0)]))]) [1] rfl
  have hDc := hD.sub (ws' := [(q5, .inr (1, [.null, .null, .int (nI 0)]))]) [1] (by decide) rfl
  refine zk_wv (wr := [(wo, .inr (2, [.null, .int (nI 0), .int (nI 0), .int (nI 0), .int (nI 0), .int (nI 0), .int (zb false), .int (zb false), .int (nI 0), .int (nI 0)]))]) (w2 := (fun u => [(wo, .inr (2, [.null, .int (nI 0), .int (nI 0), .int (nI 0), .int (nI 0), .int (nI 0), .int (zb false), .int (zb false), .int (nI 0), .int (nI 0)])), (q5, .inr (1, [.ref u.1, .ref u.2, .int (nI 0)])), (u.1, .inl (cI, 2, .inl (zN (fun _ => 0)))), (u.2, .inl (cZ, 2, .inl (zZ (fun _ => false))))])) hP hD hS hA [1] [0] [0, 1, 2, 3] rfl rfl (by decide) (by decide) (fun _ => rfl) (by decide) (va_runIN (As := []) (rest := [.ref q5, .ref wo]) ⟨hx, hb, hml, hown, hts⟩ (c_Keys_init l D cI cL cZ cW cR _ q5) ⟨(va_cnB 0 hts (zk_gC (fun _ h => List.mem_cons_of_mem _ h) co_Keys_init) rfl rfl rfl (hN.1 _ nl_Window_11) (hts _ (List.mem_cons_of_mem _ in_Keys)) hd_Keys_init ⟨Nat.le_of_ble_eq_true rfl, Nat.le_of_ble_eq_true rfl⟩), rfl, (hts _ (List.mem_cons_of_mem _ im_Keys_init))⟩ (zk_sw hN hK hPc hDc) rfl rfl hl.1 rfl (lv_room (Nat.le_of_ble_eq_true rfl)) d_Window_init_9 ⟨Nat.le_of_ble_eq_true rfl, Nat.le_of_ble_eq_true rfl⟩) (fun u H locs hpost hP hD hS => ?_)
  obtain ⟨qk0_0, qk0_1⟩ := u
  have hP : va_P D vwCl [(wo, .inr (2, [.null, .int (nI 0), .int (nI 0), .int (nI 0), .int (nI 0), .int (nI 0), .int (zb false), .int (zb false), .int (nI 0), .int (nI 0)])), (q5, .inr (1, [.ref qk0_0, .ref qk0_1, .int (nI 0)])), (qk0_0, .inl (cI, 2, .inl (zN (fun _ => 0)))), (qk0_1, .inl (cZ, 2, .inl (zZ (fun _ => false))))] H := hP
  have hD : va_D A [(wo, .inr (2, [.null, .int (nI 0), .int (nI 0), .int (nI 0), .int (nI 0), .int (nI 0), .int (zb false), .int (zb false), .int (nI 0), .int (nI 0)])), (q5, .inr (1, [.ref qk0_0, .ref qk0_1, .int (nI 0)])), (qk0_0, .inl (cI, 2, .inl (zN (fun _ => 0)))), (qk0_1, .inl (cZ, 2, .inl (zZ (fun _ => false))))] := hD
  refine va_putF (D := D) (v := .ref q5) (ty := .object "FrameQueries$Keys") (C := R_Window) (T := F_Window) (N := 10) hx hb hts (fun w h => List.mem_cons_of_mem _ (hin_Window w h)) t_Window t_Window_ok n_Window hown hK hP hD hS 0 rfl rfl 0 (by decide) (hts _ (List.mem_cons_of_mem _ fl_Window_12)) (fun _ h => h) rfl hin rfl (by decide +kernel) rfl rfl (Nat.le_of_ble_eq_true rfl) d_Window_init_12 (fun H locs hP hD hS => ?_)
  have hP : va_P D vwCl [(wo, .inr (2, [.ref q5, .int (nI 0), .int (nI 0), .int (nI 0), .int (nI 0), .int (nI 0), .int (zb false), .int (zb false), .int (nI 0), .int (nI 0)])), (q5, .inr (1, [.ref qk0_0, .ref qk0_1, .int (nI 0)])), (qk0_0, .inl (cI, 2, .inl (zN (fun _ => 0)))), (qk0_1, .inl (cZ, 2, .inl (zZ (fun _ => false))))] H := hP
  have hD : va_D A [(wo, .inr (2, [.ref q5, .int (nI 0), .int (nI 0), .int (nI 0), .int (nI 0), .int (nI 0), .int (zb false), .int (zb false), .int (nI 0), .int (nI 0)])), (q5, .inr (1, [.ref qk0_0, .ref qk0_1, .int (nI 0)])), (qk0_0, .inl (cI, 2, .inl (zN (fun _ => 0)))), (qk0_1, .inl (cZ, 2, .inl (zZ (fun _ => false))))] := hD
  refine lv_aload_n hx hb d_Window_init_15 rfl (lv_at hl 0 rfl) ?_
  refine lv_iconst (v := nI 1) hx hb d_Window_init_16 (by decide) ?_
  refine va_put (D := D) (v := .int (nI 1)) (ty := .int) (C := R_Window) (T := F_Window) (N := 10) hx hb hts (fun w h => List.mem_cons_of_mem _ (hin_Window w h)) t_Window t_Window_ok n_Window hown hK hP hD hS 0 rfl rfl 3 (by decide) (hts _ (List.mem_cons_of_mem _ fl_Window_18)) (fun _ h => h) rfl (by decide +kernel) rfl rfl (Nat.le_of_ble_eq_true rfl) d_Window_init_17 (fun H locs hP hD hS => ?_)
  have hP : va_P D vwCl [(wo, .inr (2, [.ref q5, .int (nI 0), .int (nI 0), .int (nI 1), .int (nI 0), .int (nI 0), .int (zb false), .int (zb false), .int (nI 0), .int (nI 0)])), (q5, .inr (1, [.ref qk0_0, .ref qk0_1, .int (nI 0)])), (qk0_0, .inl (cI, 2, .inl (zN (fun _ => 0)))), (qk0_1, .inl (cZ, 2, .inl (zZ (fun _ => false))))] H := hP
  have hD : va_D A [(wo, .inr (2, [.ref q5, .int (nI 0), .int (nI 0), .int (nI 1), .int (nI 0), .int (nI 0), .int (zb false), .int (zb false), .int (nI 0), .int (nI 0)])), (q5, .inr (1, [.ref qk0_0, .ref qk0_1, .int (nI 0)])), (qk0_0, .inl (cI, 2, .inl (zN (fun _ => 0)))), (qk0_1, .inl (cZ, 2, .inl (zZ (fun _ => false))))] := hD
  refine lv_aload_n hx hb d_Window_init_20 rfl (lv_at hl 0 rfl) ?_
  refine lv_iconst (v := (-1)) hx hb d_Window_init_21 (by decide) ?_
  refine va_put (D := D) (v := .int (-1)) (ty := .int) (C := R_Window) (T := F_Window) (N := 10) hx hb hts (fun w h => List.mem_cons_of_mem _ (hin_Window w h)) t_Window t_Window_ok n_Window hown hK hP hD hS 0 rfl rfl 4 (by decide) (hts _ (List.mem_cons_of_mem _ fl_Window_22)) (fun _ h => h) rfl (by decide +kernel) rfl rfl (Nat.le_of_ble_eq_true rfl) d_Window_init_22 (fun H locs hP hD hS => ?_)
  have hP : va_P D vwCl [(wo, .inr (2, [.ref q5, .int (nI 0), .int (nI 0), .int (nI 1), .int (-1), .int (nI 0), .int (zb false), .int (zb false), .int (nI 0), .int (nI 0)])), (q5, .inr (1, [.ref qk0_0, .ref qk0_1, .int (nI 0)])), (qk0_0, .inl (cI, 2, .inl (zN (fun _ => 0)))), (qk0_1, .inl (cZ, 2, .inl (zZ (fun _ => false))))] H := hP
  have hD : va_D A [(wo, .inr (2, [.ref q5, .int (nI 0), .int (nI 0), .int (nI 1), .int (-1), .int (nI 0), .int (zb false), .int (zb false), .int (nI 0), .int (nI 0)])), (q5, .inr (1, [.ref qk0_0, .ref qk0_1, .int (nI 0)])), (qk0_0, .inl (cI, 2, .inl (zN (fun _ => 0)))), (qk0_1, .inl (cZ, 2, .inl (zZ (fun _ => false))))] := hD
  refine lv_aload_n hx hb d_Window_init_25 rfl (lv_at hl 0 rfl) ?_
  refine lv_iconst (v := (-1)) hx hb d_Window_init_26 (by decide) ?_
  refine va_put (D := D) (v := .int (-1)) (ty := .int) (C := R_Window) (T := F_Window) (N := 10) hx hb hts (fun w h => List.mem_cons_of_mem _ (hin_Window w h)) t_Window t_Window_ok n_Window hown hK hP hD hS 0 rfl rfl 5 (by decide) (hts _ (List.mem_cons_of_mem _ fl_Window_25)) (fun _ h => h) rfl (by decide +kernel) rfl rfl (Nat.le_of_ble_eq_true rfl) d_Window_init_27 (fun H locs hP hD hS => ?_)
  have hP : va_P D vwCl [(wo, .inr (2, [.ref q5, .int (nI 0), .int (nI 0), .int (nI 1), .int (-1), .int (-1), .int (zb false), .int (zb false), .int (nI 0), .int (nI 0)])), (q5, .inr (1, [.ref qk0_0, .ref qk0_1, .int (nI 0)])), (qk0_0, .inl (cI, 2, .inl (zN (fun _ => 0)))), (qk0_1, .inl (cZ, 2, .inl (zZ (fun _ => false))))] H := hP
  have hD : va_D A [(wo, .inr (2, [.ref q5, .int (nI 0), .int (nI 0), .int (nI 1), .int (-1), .int (-1), .int (zb false), .int (zb false), .int (nI 0), .int (nI 0)])), (q5, .inr (1, [.ref qk0_0, .ref qk0_1, .int (nI 0)])), (qk0_0, .inl (cI, 2, .inl (zN (fun _ => 0)))), (qk0_1, .inl (cZ, 2, .inl (zZ (fun _ => false))))] := hD
  refine lv_aload_n hx hb d_Window_init_30 rfl (lv_at hl 0 rfl) ?_
  refine lv_bipush (v := (-10)) hx hb d_Window_init_31 (by decide) ?_
  refine va_put (D := D) (v := .int (-10)) (ty := .int) (C := R_Window) (T := F_Window) (N := 10) hx hb hts (fun w h => List.mem_cons_of_mem _ (hin_Window w h)) t_Window t_Window_ok n_Window hown hK hP hD hS 0 rfl rfl 8 (by decide) (hts _ (List.mem_cons_of_mem _ fl_Window_28)) (fun _ h => h) rfl (by decide +kernel) rfl rfl (Nat.le_of_ble_eq_true rfl) d_Window_init_33 (fun H locs hP hD hS => ?_)
  have hP : va_P D vwCl [(wo, .inr (2, [.ref q5, .int (nI 0), .int (nI 0), .int (nI 1), .int (-1), .int (-1), .int (zb false), .int (zb false), .int (-10), .int (nI 0)])), (q5, .inr (1, [.ref qk0_0, .ref qk0_1, .int (nI 0)])), (qk0_0, .inl (cI, 2, .inl (zN (fun _ => 0)))), (qk0_1, .inl (cZ, 2, .inl (zZ (fun _ => false))))] H := hP
  have hD : va_D A [(wo, .inr (2, [.ref q5, .int (nI 0), .int (nI 0), .int (nI 1), .int (-1), .int (-1), .int (zb false), .int (zb false), .int (-10), .int (nI 0)])), (q5, .inr (1, [.ref qk0_0, .ref qk0_1, .int (nI 0)])), (qk0_0, .inl (cI, 2, .inl (zN (fun _ => 0)))), (qk0_1, .inl (cZ, 2, .inl (zZ (fun _ => false))))] := hD
  refine lv_aload_n hx hb d_Window_init_36 rfl (lv_at hl 0 rfl) ?_
  refine lv_bipush (v := nI 10) hx hb d_Window_init_37 (by decide) ?_
  refine va_put (D := D) (v := .int (nI 10)) (ty := .int) (C := R_Window) (T := F_Window) (N := 10) hx hb hts (fun w h => List.mem_cons_of_mem _ (hin_Window w h)) t_Window t_Window_ok n_Window hown hK hP hD hS 0 rfl rfl 9 (by decide) (hts _ (List.mem_cons_of_mem _ fl_Window_31)) (fun _ h => h) rfl (by decide +kernel) rfl rfl (Nat.le_of_ble_eq_true rfl) d_Window_init_39 (fun H locs hP hD hS => ?_)
  have hP : va_P D vwCl [(wo, .inr (2, [.ref q5, .int (nI 0), .int (nI 0), .int (nI 1), .int (-1), .int (-1), .int (zb false), .int (zb false), .int (-10), .int (nI 10)])), (q5, .inr (1, [.ref qk0_0, .ref qk0_1, .int (nI 0)])), (qk0_0, .inl (cI, 2, .inl (zN (fun _ => 0)))), (qk0_1, .inl (cZ, 2, .inl (zZ (fun _ => false))))] H := hP
  have hD : va_D A [(wo, .inr (2, [.ref q5, .int (nI 0), .int (nI 0), .int (nI 1), .int (-1), .int (-1), .int (zb false), .int (zb false), .int (-10), .int (nI 10)])), (q5, .inr (1, [.ref qk0_0, .ref qk0_1, .int (nI 0)])), (qk0_0, .inl (cI, 2, .inl (zN (fun _ => 0)))), (qk0_1, .inl (cZ, 2, .inl (zZ (fun _ => false))))] := hD
  exact zk_vretW hx hb hr hlk hAe hQ hK ((q5, qk0_0, qk0_1)) (trivial) hP hD hS d_Window_init_42
set_option maxHeartbeats 4000000 in
set_option maxRecDepth 100000 in
theorem c_Meter_init (l : Launch) (D : va_G) (cI cL cZ cW cR : ClassId) (sz : Nat) (mo fr : Nat) : Met l y_Meter_init ws_Meter_init rm1_20 (zPw D vwCl (zT cI cL cZ cW cR) [(mo, .inr (4, [.int (nI 0), .int (nI 0), .int (nI 0), .int (nI 0)]))] sz [.ref mo, .int (nI fr)]) (zQv D vwCl (zT cI cL cZ cW cR) [(mo, .inr (4, [.int (nI 0), .int (nI 0), .int (nI 0), .int (nI 0)]))] sz (fun _ : Unit => True) (fun _ => [(mo, .inr (4, [.int (nI fr), .int (nI 0), .int (nI 0), .int (nI 0)]))])) 0 0 (va_A [(mo, .inr (4, [.int (nI 0), .int (nI 0), .int (nI 0), .int (nI 0)]))] sz) := by
  refine zk_enterW (cc := b_Meter_init) (maxL := 2) (ret := none) (by decide) rfl (Nat.le_of_ble_eq_true rfl) ?_
  intro p e s m args below meth c ls Q hx hb hml hr hlk hown hts hP hK hN hl hin hsz A hAe hA hD hS hQ
  subst hsz
  have hl : lv_has ls 2 [(0, .ref mo), (1, .int (nI fr))] := hl
  refine lv_aload_n hx hb d_Meter_init_0 rfl (lv_at hl 0 rfl) ?_
  refine W.objInit hx hb hown (hts _ (List.mem_cons_of_mem _ ml_Meter_1)) (hts _ (List.mem_cons_of_mem _ im_objinit)) (hts _ (List.mem_cons_of_mem _ co_objinit)) rfl (by rw [hml]; exact hl.1) rfl d_Meter_init_1 (Nat.le_of_ble_eq_true rfl) (Nat.le_of_ble_eq_true rfl) ?_
  refine W.eq (g2 := F0 m 4 ls []) rfl ?_
  refine lv_aload_n hx hb d_Meter_init_4 rfl (lv_at hl 0 rfl) ?_
  refine lv_iload_n hx hb d_Meter_init_5 rfl (lv_at hl 1 rfl) ?_
  refine va_putF (D := D) (v := .int (nI fr)) (ty := .int) (C := R_Meter) (T := F_Meter) (N := 4) hx hb hts (fun w h => List.mem_cons_of_mem _ (hin_Meter w h)) t_Meter t_Meter_ok n_Meter hown hK hP hD hS 0 rfl rfl 0 (by decide) (hts _ (List.mem_cons_of_mem _ fl_Meter_7)) (fun _ h => h) rfl hin rfl (by decide +kernel) rfl rfl (Nat.le_of_ble_eq_true rfl) d_Meter_init_6 (fun H locs hP hD hS => ?_)
  have hP : va_P D vwCl [(mo, .inr (4, [.int (nI fr), .int (nI 0), .int (nI 0), .int (nI 0)]))] H := hP
  have hD : va_D A [(mo, .inr (4, [.int (nI fr), .int (nI 0), .int (nI 0), .int (nI 0)]))] := hD
  exact zk_vretW hx hb hr hlk hAe hQ hK (()) (trivial) hP hD hS d_Meter_init_9
set_option maxHeartbeats 4000000 in
set_option maxRecDepth 100000 in
theorem c_Reckoner_init (l : Launch) (D : va_G) (cI cL cZ cW cR : ClassId) (sz : Nat) (ro r : Nat) : Met l y_Reckoner_init ws_Reckoner_init rm1_20 (zPw D vwCl (zT cI cL cZ cW cR) [(ro, .inr (6, [.null, .null, .int (nI 0), .int (nI 0), .int (nI 0), .int (nI 0), .int (nI 0), .int (nI 0)]))] sz [.ref ro, .ref r]) (zQv D vwCl (zT cI cL cZ cW cR) [(ro, .inr (6, [.null, .null, .int (nI 0), .int (nI 0), .int (nI 0), .int (nI 0), .int (nI 0), .int (nI 0)]))] sz (fun _ : Unit => True) (fun _ => [(ro, .inr (6, [.ref r, .null, .int (nI 0), .int (nI 0), .int (nI 0), .int (nI 0), .int (nI 0), .int (nI 0)]))])) 0 0 (va_A [(ro, .inr (6, [.null, .null, .int (nI 0), .int (nI 0), .int (nI 0), .int (nI 0), .int (nI 0), .int (nI 0)]))] sz) := by
  refine zk_enterW (cc := b_Reckoner_init) (maxL := 2) (ret := none) (by decide) rfl (Nat.le_of_ble_eq_true rfl) ?_
  intro p e s m args below meth c ls Q hx hb hml hr hlk hown hts hP hK hN hl hin hsz A hAe hA hD hS hQ
  subst hsz
  have hl : lv_has ls 2 [(0, .ref ro), (1, .ref r)] := hl
  refine lv_aload_n hx hb d_Reckoner_init_0 rfl (lv_at hl 0 rfl) ?_
  refine W.objInit hx hb hown (hts _ (List.mem_cons_of_mem _ ml_Reckoner_3)) (hts _ (List.mem_cons_of_mem _ im_objinit)) (hts _ (List.mem_cons_of_mem _ co_objinit)) rfl (by rw [hml]; exact hl.1) rfl d_Reckoner_init_1 (Nat.le_of_ble_eq_true rfl) (Nat.le_of_ble_eq_true rfl) ?_
  refine W.eq (g2 := F0 m 4 ls []) rfl ?_
  refine lv_aload_n hx hb d_Reckoner_init_4 rfl (lv_at hl 0 rfl) ?_
  refine lv_aload_n hx hb d_Reckoner_init_5 rfl (lv_at hl 1 rfl) ?_
  refine va_putF (D := D) (v := .ref r) (ty := .object "FrameQueries$Rows") (C := R_Reckoner) (T := F_Reckoner) (N := 8) hx hb hts (fun w h => List.mem_cons_of_mem _ (hin_Reckoner w h)) t_Reckoner t_Reckoner_ok n_Reckoner hown hK hP hD hS 0 rfl rfl 0 (by decide) (hts _ (List.mem_cons_of_mem _ fl_Reckoner_9)) (fun _ h => h) rfl hin rfl (by decide +kernel) rfl rfl (Nat.le_of_ble_eq_true rfl) d_Reckoner_init_6 (fun H locs hP hD hS => ?_)
  have hP : va_P D vwCl [(ro, .inr (6, [.ref r, .null, .int (nI 0), .int (nI 0), .int (nI 0), .int (nI 0), .int (nI 0), .int (nI 0)]))] H := hP
  have hD : va_D A [(ro, .inr (6, [.ref r, .null, .int (nI 0), .int (nI 0), .int (nI 0), .int (nI 0), .int (nI 0), .int (nI 0)]))] := hD
  exact zk_vretW hx hb hr hlk hAe hQ hK (()) (trivial) hP hD hS d_Reckoner_init_9
set_option maxHeartbeats 4000000 in
set_option maxRecDepth 100000 in
theorem c_Matcher_init (l : Launch) (D : va_G) (cI cL cZ cW cR : ClassId) (sz : Nat) (ma r r2 mo fr tr mh sm : Nat) (hfr : 1 ≤ fr) : Met l y_Matcher_init ws_Matcher_init rm1_20 (zPw D vwCl (zT cI cL cZ cW cR) [(ma, .inr (5, [.null, .null, .null, .int (nI 0), .int (nI 0), .int (nI 0)])), (mo, .inr (4, [.int (nI fr), .int (nI tr), .int (nI mh), .int (nI sm)]))] sz [.ref ma, .ref mo, .ref r, .ref r2]) (zQv D vwCl (zT cI cL cZ cW cR) [(ma, .inr (5, [.null, .null, .null, .int (nI 0), .int (nI 0), .int (nI 0)])), (mo, .inr (4, [.int (nI fr), .int (nI tr), .int (nI mh), .int (nI sm)]))] sz (fun _ : Unit => True) (fun _ => [(ma, .inr (5, [.ref mo, .ref r, .ref r2, .int (nI (fr - 1)), .int (nI 0), .int (nI 0)])), (mo, .inr (4, [.int (nI fr), .int (nI tr), .int (nI mh), .int (nI sm)]))])) 0 0 (va_A [(ma, .inr (5, [.null, .null, .null, .int (nI 0), .int (nI 0), .int (nI 0)])), (mo, .inr (4, [.int (nI fr), .int (nI tr), .int (nI mh), .int (nI sm)]))] sz) := by
  refine zk_enterW (cc := b_Matcher_init) (maxL := 4) (ret := none) (by decide) rfl (Nat.le_of_ble_eq_true rfl) ?_
  intro p e s m args below meth c ls Q hx hb hml hr hlk hown hts hP hK hN hl hin hsz A hAe hA hD hS hQ
  subst hsz
  have hl : lv_has ls 4 [(0, .ref ma), (1, .ref mo), (2, .ref r), (3, .ref r2)] := hl
  refine lv_aload_n hx hb d_Matcher_init_0 rfl (lv_at hl 0 rfl) ?_
  refine W.objInit hx hb hown (hts _ (List.mem_cons_of_mem _ ml_Matcher_3)) (hts _ (List.mem_cons_of_mem _ im_objinit)) (hts _ (List.mem_cons_of_mem _ co_objinit)) rfl (by rw [hml]; exact hl.1) rfl d_Matcher_init_1 (Nat.le_of_ble_eq_true rfl) (Nat.le_of_ble_eq_true rfl) ?_
  refine W.eq (g2 := F0 m 4 ls []) rfl ?_
  refine lv_aload_n hx hb d_Matcher_init_4 rfl (lv_at hl 0 rfl) ?_
  refine lv_aload_n hx hb d_Matcher_init_5 rfl (lv_at hl 1 rfl) ?_
  refine va_putF (D := D) (v := .ref mo) (ty := .object "FrameQueries$Meter") (C := R_Matcher) (T := F_Matcher) (N := 6) hx hb hts (fun w h => List.mem_cons_of_mem _ (hin_Matcher w h)) t_Matcher t_Matcher_ok n_Matcher hown hK hP hD hS 0 rfl rfl 0 (by decide) (hts _ (List.mem_cons_of_mem _ fl_Matcher_9)) (fun _ h => h) rfl hin rfl (by decide +kernel) rfl rfl (Nat.le_of_ble_eq_true rfl) d_Matcher_init_6 (fun H locs hP hD hS => ?_)
  have hP : va_P D vwCl [(ma, .inr (5, [.ref mo, .null, .null, .int (nI 0), .int (nI 0), .int (nI 0)])), (mo, .inr (4, [.int (nI fr), .int (nI tr), .int (nI mh), .int (nI sm)]))] H := hP
  have hD : va_D A [(ma, .inr (5, [.ref mo, .null, .null, .int (nI 0), .int (nI 0), .int (nI 0)])), (mo, .inr (4, [.int (nI fr), .int (nI tr), .int (nI mh), .int (nI sm)]))] := hD
  refine lv_aload_n hx hb d_Matcher_init_9 rfl (lv_at hl 0 rfl) ?_
  refine lv_aload_n hx hb d_Matcher_init_10 rfl (lv_at hl 2 rfl) ?_
  refine va_putF (D := D) (v := .ref r) (ty := .object "FrameQueries$Rows") (C := R_Matcher) (T := F_Matcher) (N := 6) hx hb hts (fun w h => List.mem_cons_of_mem _ (hin_Matcher w h)) t_Matcher t_Matcher_ok n_Matcher hown hK hP hD hS 0 rfl rfl 1 (by decide) (hts _ (List.mem_cons_of_mem _ fl_Matcher_15)) (fun _ h => h) rfl hin rfl (by decide +kernel) rfl rfl (Nat.le_of_ble_eq_true rfl) d_Matcher_init_11 (fun H locs hP hD hS => ?_)
  have hP : va_P D vwCl [(ma, .inr (5, [.ref mo, .ref r, .null, .int (nI 0), .int (nI 0), .int (nI 0)])), (mo, .inr (4, [.int (nI fr), .int (nI tr), .int (nI mh), .int (nI sm)]))] H := hP
  have hD : va_D A [(ma, .inr (5, [.ref mo, .ref r, .null, .int (nI 0), .int (nI 0), .int (nI 0)])), (mo, .inr (4, [.int (nI fr), .int (nI tr), .int (nI mh), .int (nI sm)]))] := hD
  refine lv_aload_n hx hb d_Matcher_init_14 rfl (lv_at hl 0 rfl) ?_
  refine lv_aload_n hx hb d_Matcher_init_15 rfl (lv_at hl 3 rfl) ?_
  refine va_putF (D := D) (v := .ref r2) (ty := .object "FrameQueries$Rows") (C := R_Matcher) (T := F_Matcher) (N := 6) hx hb hts (fun w h => List.mem_cons_of_mem _ (hin_Matcher w h)) t_Matcher t_Matcher_ok n_Matcher hown hK hP hD hS 0 rfl rfl 2 (by decide) (hts _ (List.mem_cons_of_mem _ fl_Matcher_19)) (fun _ h => h) rfl hin rfl (by decide +kernel) rfl rfl (Nat.le_of_ble_eq_true rfl) d_Matcher_init_16 (fun H locs hP hD hS => ?_)
  have hP : va_P D vwCl [(ma, .inr (5, [.ref mo, .ref r, .ref r2, .int (nI 0), .int (nI 0), .int (nI 0)])), (mo, .inr (4, [.int (nI fr), .int (nI tr), .int (nI mh), .int (nI sm)]))] H := hP
  have hD : va_D A [(ma, .inr (5, [.ref mo, .ref r, .ref r2, .int (nI 0), .int (nI 0), .int (nI 0)])), (mo, .inr (4, [.int (nI fr), .int (nI tr), .int (nI mh), .int (nI sm)]))] := hD
  refine lv_aload_n hx hb d_Matcher_init_19 rfl (lv_at hl 0 rfl) ?_
  refine lv_aload_n hx hb d_Matcher_init_20 rfl (lv_at hl 1 rfl) ?_
  refine va_get (C := R_Meter) (T := F_Meter) (N := 4) hx hb hts (fun w h => List.mem_cons_of_mem _ (hin_Meter w h)) hown hK hP 1 rfl rfl 0 (by decide) (hts _ (List.mem_cons_of_mem _ fl_Matcher_22)) (fun _ h => h) rfl d_Matcher_init_21 ?_
  refine lv_iconst (v := nI 1) hx hb d_Matcher_init_24 (by decide) ?_
  refine lv_isub hx hb d_Matcher_init_25 ?_
  refine zk_topi (show ((nI fr) - (nI 1)) = nI (fr - 1) from pk_sub (by omega)) ?_
  refine va_putF (D := D) (v := .int (nI (fr - 1))) (ty := .int) (C := R_Matcher) (T := F_Matcher) (N := 6) hx hb hts (fun w h => List.mem_cons_of_mem _ (hin_Matcher w h)) t_Matcher t_Matcher_ok n_Matcher hown hK hP hD hS 0 rfl rfl 3 (by decide) (hts _ (List.mem_cons_of_mem _ fl_Matcher_28)) (fun _ h => h) rfl hin rfl (by decide +kernel) rfl rfl (Nat.le_of_ble_eq_true rfl) d_Matcher_init_26 (fun H locs hP hD hS => ?_)
  have hP : va_P D vwCl [(ma, .inr (5, [.ref mo, .ref r, .ref r2, .int (nI (fr - 1)), .int (nI 0), .int (nI 0)])), (mo, .inr (4, [.int (nI fr), .int (nI tr), .int (nI mh), .int (nI sm)]))] H := hP
  have hD : va_D A [(ma, .inr (5, [.ref mo, .ref r, .ref r2, .int (nI (fr - 1)), .int (nI 0), .int (nI 0)])), (mo, .inr (4, [.int (nI fr), .int (nI tr), .int (nI mh), .int (nI sm)]))] := hD
  exact zk_vretW hx hb hr hlk hAe hQ hK (()) (trivial) hP hD hS d_Matcher_init_29
